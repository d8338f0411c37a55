section S57
variable {σ : pS} {h : pH} {K Q : Option Value → pH → Prop} {x : Nat → Int32} {u v : Int64} {g : Nat → Nat → Int32} {j : Nat → Nat → Int64}
def mp_m (σ : pS) : Nat := (σ 0 6).toNatClampNeg
def mp_f (σ : pS) : Nat := (σ 0 7).toNatClampNeg
def mp_l (σ : pS) (i : Nat) : Nat := (σ 10 i).toNatClampNeg
def mp_L (σ : pS) : Nat := (σ 2 (mp_m σ)).toNatClampNeg
theorem rg_c {y : Int32} {lo hi : Nat} (h : rg y lo hi) (hh : hi < 1000) : y = nI y.toNatClampNeg ∧ y.toNatClampNeg ≤ hi ∧ lo ≤ y.toNatClampNeg := by
  obtain ⟨m, rfl, h1, h2⟩ := h
  rw [nI_c (a := m) (by omega)]
  exact ⟨rfl, h2, h1⟩
theorem mp_in (hp : MP σ x g) (hI : IV σ) (h6 : 0 < σ 0 6) : (x 6 = nI (nt σ) ∧ nt σ ≤ 5 ∧ x 13 = nI (mp_m σ) ∧ mp_m σ < 4 ∧ x 14 = nI (mp_f σ) ∧ mp_f σ ≤ 5 ∧ x 15 = nI (nl σ) ∧ nl σ ≤ 7) ∧ (∀ b, b < nt σ → kcr (g 38 b) (g 40 b) = nI (cN σ b) ∧ cN σ b ≤ 6) ∧ (g 35 (mp_m σ) = nI (hN σ (mp_m σ)) ∧ hN σ (mp_m σ) ≤ 5) ∧ (g 36 (mp_m σ) = nI (mp_L σ) ∧ mp_L σ ≤ 5) ∧ (∀ i, i < nl σ → g 43 i = nI (mp_l σ i) ∧ mp_l σ i ≤ 5) ∧ (∀ b, b < nt σ → ck (g 38 b) = mp_k σ b) ∧ σ 1 (mp_m σ) = nI (hN σ (mp_m σ)) ∧ σ 2 (mp_m σ) = nI (mp_L σ) ∧ σ 0 7 = nI (mp_f σ) ∧ (∀ i, i < nl σ → σ 10 i = nI (mp_l σ i)) := by
  obtain ⟨⟨z1, z2, z3, z4, z5, z6, z7, z8, z9, z10, z11⟩, ⟨t1, t2, t3, t4⟩, hk⟩ := hp
  obtain ⟨n, ps, bt, sr, hI2⟩ := id hI
  obtain ⟨e1, e2, e5⟩ := IN_n hI2
  obtain ⟨⟨a1, a2, a3, a4, a5, a6, a7, -⟩, gH, -, gE, -, -, ⟨mb, l, m1, m2, m3, m4, m5, m6, mf, m8⟩, -⟩ := hI2
  have hmm : mp_m σ = mb := by unfold mp_m; rw [m1]; exact nI_c (by omega)
  have hnl : nl σ = l := by unfold nl; rw [m4]; exact nI_c (by omega)
  have hb0 : mb ≠ 0 := by
    rintro rfl
    rw [m1] at h6
    exact absurd h6 (by decide)
  have hbn : mb < n := by omega
  obtain ⟨b1, b2, -⟩ := rg_c (gH mb hbn).1 (by omega)
  obtain ⟨c1, c2, -⟩ := rg_c (gH mb hbn).2 (by omega)
  obtain ⟨d1, d2, -⟩ := rg_c mf (by omega)
  have hL : mp_L σ = (σ 2 mb).toNatClampNeg := by unfold mp_L; rw [hmm]
  have hnz : ¬ σ 0 6 = 0 := fun q => by rw [q] at h6; exact absurd h6 (by decide)
  have q13 : x 13 = nI mb := by
    rw [z6]
    unfold mbm
    rw [if_neg hnz, m1]
  obtain ⟨s1, s2, s3⟩ := t1 mb (by rw [e1]; exact hbn)
  rw [hmm, hL, hnl]
  refine ⟨⟨by rw [z4, a6, e5], by omega, q13, m2, by rw [z7 h6]; exact d1, d2, by rw [z8, m4], m5⟩, fun b hb => ?_, ⟨by rw [s1]; exact b1, b2⟩, ⟨by rw [s2]; exact c1, c2⟩, fun i hi => ?_, fun b hb => ?_, b1, c1, d1, fun i hi => (rg_c (m8 i hi) (by omega)).1⟩
  · obtain ⟨-, -, -, -, -, -, -, s8⟩ := s_in hI hb hb
    obtain ⟨-, -, w1, w2, -⟩ := s8 b hb
    obtain ⟨y1, -, y3, -⟩ := t2 b hb
    rw [y1, y3, kcr_e (gE b (by omega)).1]
    exact ⟨w1, w2⟩
  · obtain ⟨w1, w2, -⟩ := rg_c (m8 i hi) (by omega)
    rw [t3 i (by omega)]
    exact ⟨w1, w2⟩
  · obtain ⟨y1, -⟩ := t2 b hb
    unfold mp_k
    rw [y1, decide_eq_true hb, Bool.true_and]
theorem mp_av_c {C C5 A : Nat → Nat} {d v bt : Nat} : ∀ b, (∀ q, q < b → A q = d → C q = C5 q) → mp_av C A d v b = mp_av C5 A d v b
  | 0, _ => rfl
  | b + 1, h => by
    show mp_av C A d v b + (if A b = d then C b else 0) = mp_av C5 A d v b + (if A b = d then C5 b else 0)
    rw [mp_av_c (bt := bt) b (fun q hq => h q (by omega))]
    by_cases hq : A b = d
    · rw [if_pos hq, if_pos hq, h b (by omega) hq]
    · rw [if_neg hq, if_neg hq]
theorem mp_av_z {C A : Nat → Nat} {d v bt : Nat} (hz : ∀ b, bt ≤ b → A b ≠ d) : ∀ e, mp_av C A d v (bt + e) = mp_av C A d v bt
  | 0 => rfl
  | e + 1 => by
    show mp_av C A d v (bt + e) + (if A (bt + e) = d then C (bt + e) else 0) = _
    rw [if_neg (hz (bt + e) (by omega))]
    exact mp_av_z hz e
theorem mp_link (hp : MP σ x g) (hI : IV σ) (hc : IC σ) (h6 : 0 < σ 0 6) {A : Nat → Nat} (hA : ∀ b, mp_k σ b = false → A b = 0) : ∀ i, i < nl σ → mp_ok (cN σ) A (nt σ) (hN σ (mp_m σ)) (mp_L σ) (mp_f σ) (mp_l σ) i = mp_P σ i (ct_cw (i + 1) [A 0, A 1, A 2, A 3, A 4]) := by
  obtain ⟨⟨-, hbt, -⟩, -, -, -, -, -, s1, s2, s7, s10⟩ := mp_in hp hI h6
  intro i hi
  have hk : ∀ b, A b = i + 1 → mp_k σ b = true := fun b q => by
    cases hb : mp_k σ b with
    | true => rfl
    | false => rw [hA b hb] at q; omega
  have hz : ∀ b, nt σ ≤ b → A b ≠ i + 1 := fun b hb q => by
    have := hk b q
    unfold mp_k at this
    rw [decide_eq_false (by omega), Bool.false_and] at this
    cases this
  have e1 : mp_av (cN σ) A (i + 1) (mp_hd (mp_f σ) (mp_l σ) i) (nt σ) = mp_av (fun b => if mp_k σ b = true then cN σ b else 0) A (i + 1) (mp_hd (mp_f σ) (mp_l σ) i) 5 := by
    rw [mp_av_c (bt := 0) (C5 := fun b => if mp_k σ b = true then cN σ b else 0) (nt σ) (fun q _ hq => by
      show cN σ q = if mp_k σ q = true then cN σ q else 0
      rw [if_pos (hk q hq)])]
    have := mp_av_z (C := fun b => if mp_k σ b = true then cN σ b else 0) (v := mp_hd (mp_f σ) (mp_l σ) i) hz (5 - nt σ)
    rw [show nt σ + (5 - nt σ) = 5 by omega] at this
    exact this.symm
  have e2 : nI (mp_hd (mp_f σ) (mp_l σ) i) = hd (σ 0 7) (σ 10) i := by
    cases i with
    | zero => exact s7.symm
    | succ i => exact (s10 i (by omega)).symm
  have e3 : ∀ b, nI (if A b = i + 1 then (if mp_k σ b = true then cN σ b else 0) else 0) = if A b = i + 1 then cr σ b else 0 := fun b => by
    by_cases hq : A b = i + 1
    · rw [if_pos hq, if_pos hq, (mp_cr hI hc b).1]
    · rw [if_neg hq, if_neg hq]
      rfl
  have e4 : nI (mp_av (fun b => if mp_k σ b = true then cN σ b else 0) A (i + 1) (mp_hd (mp_f σ) (mp_l σ) i) 5) = hd (σ 0 7) (σ 10) i + tf (cr σ) (fun _ => 0) 5 (ct_cw (i + 1) [A 0, A 1, A 2, A 3, A 4]) := by
    show nI (mp_hd (mp_f σ) (mp_l σ) i + (if A 0 = i + 1 then (if mp_k σ 0 = true then cN σ 0 else 0) else 0) + (if A 1 = i + 1 then (if mp_k σ 1 = true then cN σ 1 else 0) else 0) + (if A 2 = i + 1 then (if mp_k σ 2 = true then cN σ 2 else 0) else 0) + (if A 3 = i + 1 then (if mp_k σ 3 = true then cN σ 3 else 0) else 0) + (if A 4 = i + 1 then (if mp_k σ 4 = true then cN σ 4 else 0) else 0)) = _
    rw [mp_tf5, ← nI_add, ← nI_add, ← nI_add, ← nI_add, ← nI_add, e2, e3, e3, e3, e3, e3]
    simp only [Int32.add_assoc]
  unfold mp_ok mp_P ftp
  rw [e1, e4, show (σ 0 6).toNatClampNeg = mp_m σ from rfl, s1, s2, s10 i hi]
theorem mp_hv {P : Nat → Nat → Bool} {C A ln : Nat → Nat} {bt Hn Ln f0 l : Nat} {a : List Nat} (h : ∀ i, i < l → mp_ok C A bt Hn Ln f0 ln i = P i (ct_cw (i + 1) a)) : ∀ r i, i + r ≤ l → ct_vl P (i + r) a = (ct_vl P i a && mp_h C A bt Hn Ln f0 ln r i)
  | 0, i, _ => by
    show ct_vl P i a = (ct_vl P i a && true)
    rw [Bool.and_true]
  | r + 1, i, hi => by
    have := mp_hv (P := P) h r (i + 1) (by omega)
    rw [show i + 1 + r = i + (r + 1) by omega] at this
    rw [this]
    show ((ct_vl P i a && P i (ct_cw (i + 1) a)) && mp_h C A bt Hn Ln f0 ln r (i + 1)) = (ct_vl P i a && (mp_ok C A bt Hn Ln f0 ln i && mp_h C A bt Hn Ln f0 ln r (i + 1)))
    rw [h i (by omega), Bool.and_assoc]
theorem mp_vld (hp : MP σ x g) (hI : IV σ) (hc : IC σ) (h6 : 0 < σ 0 6) (c : Nat) : mp_h (cN σ) (mp_dg (nl σ) (mp_k σ) c) (nt σ) (hN σ (mp_m σ)) (mp_L σ) (mp_f σ) (mp_l σ) (nl σ) 0 = ct_vl (mp_P σ) (nl σ) (ct_as (nl σ) (mp_K σ) c) := by
  have a := mp_hv (P := mp_P σ) (mp_link hp hI hc h6 (A := mp_dg (nl σ) (mp_k σ) c) (fun b hb => by unfold mp_dg; rw [hb, if_neg (by decide)])) (nl σ) 0 (by omega)
  rw [Nat.zero_add] at a
  have b := mp_as5 (nl σ) c (mp_k σ)
  rw [show mp_K σ = [mp_k σ 0, mp_k σ 1, mp_k σ 2, mp_k σ 3, mp_k σ 4] from rfl, b, a]
  show _ = (true && _)
  rw [Bool.true_and]
theorem mp_N (hp : MP σ x g) (hI : IV σ) (h6 : 0 < σ 0 6) : mp_pr (nl σ) (mp_k σ) (nt σ) = ct_cs (nl σ) (mp_K σ) ∧ ct_cs (nl σ) (mp_K σ) ≤ 32768 := by
  obtain ⟨⟨-, hbt, -, -, -, -, -, hl⟩, -⟩ := mp_in hp hI h6
  have a := mp_prz (l := nl σ) (κ := mp_k σ) (bt := nt σ) (fun b hb => by unfold mp_k; rw [decide_eq_false (by omega), Bool.false_and]) (5 - nt σ)
  rw [show nt σ + (5 - nt σ) = 5 by omega, mp_pr5] at a
  have b := (ct_cs_b (nl σ) hl (mp_K σ)).2
  rw [show (mp_K σ).length = 5 from rfl] at b
  have c : (8 : Nat) ^ 5 = 32768 := by decide
  exact ⟨a.symm, by omega⟩
theorem ct_Fv (P : Nat → Nat → Bool) (l : Nat) (a : List Nat) : (ct_vl P l a = true → ct_F P l a = 1) ∧ (ct_vl P l a = false → ct_F P l a = 0) := by
  unfold ct_F
  exact ⟨fun q => by rw [q, if_pos rfl], fun q => by rw [q, if_neg (by decide)]⟩
theorem y_poured0 (hm : MH x u v g j h) (hp : MP σ x g) (hI : IV σ) (hc : IC σ) (h6 : 0 < σ 0 6) (hK : ∀ z f, Q (some (.int (su (mw σ 0).1 32))) (p_set (p_set h 34 (oX (upd x 30 z) u v)) 51 (aI 5 f))) : Vm 156 [.ref 34, .int 0] h Q := by
  obtain ⟨⟨q1, q2, q3, q4, q5, q6, q7, q8⟩, q9, ⟨q10, q11⟩, ⟨q12, q13⟩, q14, q15, -⟩ := mp_in hp hI h6
  obtain ⟨n1, n2⟩ := mp_N hp hI h6
  obtain ⟨k1, k2⟩ := mp_bl hI hc
  have hsu : su (mw σ 0).1 32 = nI (ct_N (nl σ) (mp_K σ) (ct_F (mp_P σ) (nl σ))) := by
    have := (ct_all (H := σ 1 (mp_m σ)) (L := σ 2 (mp_m σ)) (fr := σ 0 7) (mk := 0) (ln := σ 10) (t := tf (cr σ) (fun _ => 0) 5) (k := 5) (kk := km (cr σ) 5) (l := nl σ) k2 q8 (fun p _ => ⟨fun _ => rfl, fun _ => Int32.and_zero⟩)).1
    rw [k1] at this
    exact this
  have := c156 (Q := Q) (bo := 0) (R := fun c all _ _ => all = ct_sm c (fun c => ct_F (mp_P σ) (nl σ) (ct_as (nl σ) (mp_K σ) c))) (vld := fun c => ct_vl (mp_P σ) (nl σ) (ct_as (nl σ) (mp_K σ) c)) hm q1 q2 q3 q4 q5 q6 q7 q8 q9 q10 q11 q12 q13 q14 q15 n2 n1 (by omega) (mp_vld hp hI hc h6) (fun c all is sd day _ hv hR _ => by
      show all + 1 = ct_sm c _ + ct_F _ _ _
      rw [(ct_Fv _ _ _).1 hv, ← hR]) (fun c all is sd _ hv hR => by
      show all = ct_sm c _ + ct_F _ _ _
      rw [(ct_Fv _ _ _).2 hv, ← hR]
      rfl) rfl (fun all is sd f hR => by
      have := hK (if is = true then sd else -1) f
      rw [hsu, ← ct_N_e, ← hR] at this
      exact this)
  exact this
theorem y_poured (hR : MR σ h) (hI : IV σ) (hc : IC σ) (hK : ∀ h2, MR (f_poured σ).2 h2 → CF h h2 → K (some (.int (f_poured σ).1)) h2) : Vm 157 [.ref 34] h K := by
  obtain ⟨x, u, v, g, j, hm, hp⟩ := id hR
  have h34 := hm.1
  unfold f_poured at hK
  rcases md_in hI with ⟨m1, m2, m3⟩ | ⟨m, m1, m2, m3, m4, m5, m6, m7⟩
  · simp only [m2, if_false] at hK
    have x13 : x 13 = -1 := by rw [hp.1.2.2.2.2.2.1, m1]; rfl
    simp (decide := true) only [e157_0, e157_1, e157_4, e157_5, e157_8, e157_10, e157_13, e157_14, e157_15, e157_18, m157, ok_12_13_12, fv45_13, Kt_some, Kt_none, V_ite, g_if, g_ss, g_1, g_2, g_cn, g_iok, g_sok, g_bok, g_jok, g_qok, g_ivl, g_jvl, g_qvl, g_ist, g_bst, g_jst, g_qst, g_aln, g_isa, g_dl1, g_dl2, g_dl3, g_dl4, g_dl5, g_dd, g_rfs, g_rfn, p_sm0, p_sm1, p_sm2, p_sm3, p_sm4, true_and, and_true, if_true, if_false, ↓reduceIte, Nat.reduceEqDiff, reduceCtorEq, or_true, true_or, and_self, Int32.reduceLT, Int32.reduceAdd, Int32.reduceSub, Int32.reduceToNatClampNeg, not_false_eq_true, not_true_eq_false, xcn, xok_0, xfv_0, xfs_0, xok_1, xfv_1, xok_2, xfv_2, xok_3, xfv_3, xok_4, xfv_4, xfs_4, xok_5, xfv_5, xfs_5, xok_6, xfv_6, xfs_6, xok_7, xfv_7, xok_8, xfv_8, xok_9, xfv_9, xok_10, xfv_10, xok_11, xfv_11, xok_12, xfv_12, xfs_12, xok_13, xfv_13, xfs_13, xok_14, xfv_14, xfs_14, xok_15, xfv_15, xfs_15, xok_16, xfv_16, xok_17, xfv_17, xfs_17, xok_18, xfv_18, xok_19, xfv_19, xfs_19, xok_20, xfv_20, xfs_20, xok_21, xfv_21, xfs_21, xok_22, xfv_22, xok_23, xfv_23, xok_24, xfv_24, xok_25, xfv_25, xok_26, xfv_26, xfs_26, xok_27, xfv_27, xok_28, xfv_28, xok_29, xfv_29, xok_30, xfv_30, xfs_30, xok_31, xfv_31, xfs_31, xok_32, xfv_32, xok_33, xfv_33, xfs_33, xok_34, xfv_34, xfs_34, xok_35, xfv_35, xfs_35, xok_36, xfv_36, xfs_36, xok_37, xfv_37, xfs_37, xok_38, xfv_38, xfs_38, xok_39, xfv_39, xfs_39, xok_40, xfv_40, xok_41, xfv_41, xok_42, xfv_42, xok_43, xfv_43, xok_44, xfv_44, xfs_44, h34, x13]
    exact hK h hR (CF_rf h)
  · have x13 : x 13 = nI m := by rw [hp.1.2.2.2.2.2.1, m6]
    have h6 : 0 < σ 0 6 := by rw [m5]; trivial
    simp only [m5, if_true] at hK
    simp (decide := true) only [e157_0, e157_1, e157_4, e157_5, e157_8, e157_10, e157_13, e157_14, e157_15, e157_18, m157, ok_12_13_12, fv45_13, Kt_some, Kt_none, V_ite, g_if, g_ss, g_1, g_2, g_cn, g_iok, g_sok, g_bok, g_jok, g_qok, g_ivl, g_jvl, g_qvl, g_ist, g_bst, g_jst, g_qst, g_aln, g_isa, g_dl1, g_dl2, g_dl3, g_dl4, g_dl5, g_dd, g_rfs, g_rfn, p_sm0, p_sm1, p_sm2, p_sm3, p_sm4, true_and, and_true, if_true, if_false, ↓reduceIte, Nat.reduceEqDiff, reduceCtorEq, or_true, true_or, and_self, Int32.reduceLT, Int32.reduceAdd, Int32.reduceSub, Int32.reduceToNatClampNeg, not_false_eq_true, not_true_eq_false, xcn, xok_0, xfv_0, xfs_0, xok_1, xfv_1, xok_2, xfv_2, xok_3, xfv_3, xok_4, xfv_4, xfs_4, xok_5, xfv_5, xfs_5, xok_6, xfv_6, xfs_6, xok_7, xfv_7, xok_8, xfv_8, xok_9, xfv_9, xok_10, xfv_10, xok_11, xfv_11, xok_12, xfv_12, xfs_12, xok_13, xfv_13, xfs_13, xok_14, xfv_14, xfs_14, xok_15, xfv_15, xfs_15, xok_16, xfv_16, xok_17, xfv_17, xfs_17, xok_18, xfv_18, xok_19, xfv_19, xfs_19, xok_20, xfv_20, xfs_20, xok_21, xfv_21, xfs_21, xok_22, xfv_22, xok_23, xfv_23, xok_24, xfv_24, xok_25, xfv_25, xok_26, xfv_26, xfs_26, xok_27, xfv_27, xok_28, xfv_28, xok_29, xfv_29, xok_30, xfv_30, xfs_30, xok_31, xfv_31, xfs_31, xok_32, xfv_32, xok_33, xfv_33, xfs_33, xok_34, xfv_34, xfs_34, xok_35, xfv_35, xfs_35, xok_36, xfv_36, xfs_36, xok_37, xfv_37, xfs_37, xok_38, xfv_38, xfs_38, xok_39, xfv_39, xfs_39, xok_40, xfv_40, xok_41, xfv_41, xok_42, xfv_42, xok_43, xfv_43, xok_44, xfv_44, xfs_44, h34, x13, m7]
    refine y_poured0 hm hp hI hc h6 (fun z f => ?_)
    simp (decide := true) only [e157_0, e157_1, e157_4, e157_5, e157_8, e157_10, e157_13, e157_14, e157_15, e157_18, m157, ok_12_13_12, fv45_13, Kt_some, Kt_none, V_ite, g_if, g_ss, g_1, g_2, g_cn, g_iok, g_sok, g_bok, g_jok, g_qok, g_ivl, g_jvl, g_qvl, g_ist, g_bst, g_jst, g_qst, g_aln, g_isa, g_dl1, g_dl2, g_dl3, g_dl4, g_dl5, g_dd, g_rfs, g_rfn, p_sm0, p_sm1, p_sm2, p_sm3, p_sm4, true_and, and_true, if_true, if_false, ↓reduceIte, Nat.reduceEqDiff, reduceCtorEq, or_true, true_or, and_self, Int32.reduceLT, Int32.reduceAdd, Int32.reduceSub, Int32.reduceToNatClampNeg, not_false_eq_true, not_true_eq_false]
    exact hK _ ⟨_, _, _, _, _, MH_i (f := f) (MH_x (y := upd x 30 z) (u2 := u) (v2 := v) hm) (a := 51) (by decide) (by decide) (by decide) (by decide) (by decide) (by decide), hp⟩ (CF_st (CF_st (CF_rf h) (by decide) (by decide)) (by decide) (by decide))
/-- what is known of a boat's days behind so many codes -/
def mp_R (P : Nat → Nat → Bool) (l k : Nat) (x : List Bool) (c all : Nat) (is : Bool) (sd : Int32) : Prop :=
  all = ct_sm c (fun c => ct_F P l (ct_as l x c)) ∧ (all = 0 → is = true ∧ sd = -1) ∧ (0 < all → ∃ d, d < 8 ∧ sd = nI d ∧ 0 < ct_sm c (fun c => ct_G P k d l (ct_as l x c)) ∧ (is = true → ∀ e, 0 < ct_sm c (fun c => ct_G P k e l (ct_as l x c)) → e = d) ∧ (is = false → ∃ a b, a ≠ b ∧ 0 < ct_sm c (fun c => ct_G P k a l (ct_as l x c)) ∧ 0 < ct_sm c (fun c => ct_G P k b l (ct_as l x c))))
theorem ct_Gv (P : Nat → Nat → Bool) (k e l : Nat) (a : List Nat) : (ct_vl P l a = true → ct_G P k e l a = if a.getD k 0 = e then 1 else 0) ∧ (ct_vl P l a = false → ct_G P k e l a = 0) := by
  unfold ct_G
  exact ⟨fun q => by rw [q, if_pos rfl], fun q => by rw [q, if_neg (by decide)]⟩
theorem mp_R0 {P : Nat → Nat → Bool} {l k : Nat} {x : List Bool} {c all : Nat} {is : Bool} {sd : Int32} (hv : ct_vl P l (ct_as l x c) = false) (h : mp_R P l k x c all is sd) : mp_R P l k x (c + 1) all is sd := by
  have e : ∀ e, ct_sm (c + 1) (fun c => ct_G P k e l (ct_as l x c)) = ct_sm c (fun c => ct_G P k e l (ct_as l x c)) := fun e => by
    show ct_sm c _ + ct_G P k e l (ct_as l x c) = _
    rw [(ct_Gv P k e l _).2 hv]
    rfl
  unfold mp_R at h ⊢
  simp only [e]
  refine ⟨?_, h.2⟩
  show all = ct_sm c _ + ct_F P l (ct_as l x c)
  rw [(ct_Fv _ _ _).2 hv]
  exact h.1
theorem mp_R1 {P : Nat → Nat → Bool} {l k : Nat} {x : List Bool} {c all : Nat} {is : Bool} {sd day : Int32} {dn : Nat} (hv : ct_vl P l (ct_as l x c) = true) (hd : day = nI dn) (hdn : dn < 8) (hg : (ct_as l x c).getD k 0 = dn) (h : mp_R P l k x c all is sd) : mp_R P l k x (c + 1) (all + 1) (is && (decide (all = 0) || decide (sd = day))) day := by
  have e : ∀ e, ct_sm (c + 1) (fun c => ct_G P k e l (ct_as l x c)) = ct_sm c (fun c => ct_G P k e l (ct_as l x c)) + (if dn = e then 1 else 0) := fun e => by
    show ct_sm c _ + ct_G P k e l (ct_as l x c) = _
    rw [(ct_Gv P k e l _).1 hv, hg]
  obtain ⟨h1, h2, h3⟩ := h
  unfold mp_R
  simp only [e]
  refine ⟨?_, fun q => by omega, fun _ => ⟨dn, hdn, hd, ?_, fun hi => ?_, fun hi => ?_⟩⟩
  · show all + 1 = ct_sm c _ + ct_F P l (ct_as l x c)
    rw [(ct_Fv _ _ _).1 hv, ← h1]
  · rw [if_pos rfl]
    omega
  · intro q hq
    by_cases ha : all = 0
    · have hle := ct_sm_le (f := fun c => ct_G P k q l (ct_as l x c)) (g := fun c => ct_F P l (ct_as l x c)) (fun c => ct_GF P k q l _) c
      rw [← h1, ha] at hle
      by_cases hq2 : dn = q
      · exact hq2.symm
      · rw [if_neg hq2] at hq
        omega
    · obtain ⟨d, d1, d2, d3, d4, d5⟩ := h3 (by omega)
      rw [decide_eq_false ha, Bool.false_or, Bool.and_eq_true, decide_eq_true_eq] at hi
      have hdd : d = dn := (nI_eq (by omega) (by omega)).mp (by rw [← d2, ← hd]; exact hi.2)
      by_cases hq2 : dn = q
      · exact hq2.symm
      · rw [if_neg hq2] at hq
        rw [← hdd]
        exact d4 hi.1 q (by omega)
  · by_cases ha : all = 0
    · rw [(h2 ha).1, decide_eq_true ha, Bool.true_or] at hi
      cases hi
    · obtain ⟨d, d1, d2, d3, d4, d5⟩ := h3 (by omega)
      cases is with
      | false =>
        obtain ⟨a, b, ab, a1, b1⟩ := d5 rfl
        exact ⟨a, b, ab, by omega, by omega⟩
      | true =>
        rw [decide_eq_false ha, Bool.false_or, Bool.true_and] at hi
        have hne : d ≠ dn := by
          rintro rfl
          rw [d2, hd, decide_eq_true rfl] at hi
          cases hi
        refine ⟨d, dn, hne, by omega, ?_⟩
        rw [if_pos rfl]
        omega
theorem mp_mk : ∀ b : Nat, b < 5 → ∀ p : Nat, p < 32 → (nI p &&& nI (2 ^ b) = 0 ↔ (ct_bl p).getD b false = false) := by decide +kernel
theorem mp_g5 (f : Nat → Nat) : ∀ k, k < 5 → [f 0, f 1, f 2, f 3, f 4].getD k 0 = f k := by
  intro k hk
  match k, hk with
  | 0, _ => rfl
  | 1, _ => rfl
  | 2, _ => rfl
  | 3, _ => rfl
  | 4, _ => rfl
theorem y_sure {b : Int32} (hR : MR σ h) (hI : IV σ) (hc : IC σ) (hK : ∀ h2, MR (f_sure σ b).2 h2 → CF h h2 → K (some (.int (f_sure σ b).1)) h2) : Vm 158 [.ref 34, .int b] h K := by
  obtain ⟨x, u, v, g, j, hm, hp⟩ := id hR
  have h34 := hm.1
  unfold f_sure at hK
  by_cases b0 : b < 0
  · simp only [b0, if_true] at hK
    simp (decide := true) only [e158_0, e158_1, e158_2, e158_5, e158_8, e158_10, e158_11, e158_12, e158_15, e158_16, e158_19, e158_20, e158_23, e158_24, e158_25, e158_28, e158_31, e158_33, e158_34, e158_35, e158_36, e158_39, e158_40, e158_41, e158_44, m158, ok_12_13_12, fv45_13, ok_12_7_12, fv45_7, ok_12_30_12, fv45_30, Kt_some, Kt_none, V_ite, g_if, g_ss, g_1, g_2, g_cn, g_iok, g_sok, g_bok, g_jok, g_qok, g_ivl, g_jvl, g_qvl, g_ist, g_bst, g_jst, g_qst, g_aln, g_isa, g_dl1, g_dl2, g_dl3, g_dl4, g_dl5, g_dd, g_rfs, g_rfn, p_sm0, p_sm1, p_sm2, p_sm3, p_sm4, true_and, and_true, if_true, if_false, ↓reduceIte, Nat.reduceEqDiff, reduceCtorEq, or_true, true_or, and_self, Int32.reduceLT, Int32.reduceAdd, Int32.reduceSub, Int32.reduceToNatClampNeg, not_false_eq_true, not_true_eq_false, xcn, xok_0, xfv_0, xfs_0, xok_1, xfv_1, xok_2, xfv_2, xok_3, xfv_3, xok_4, xfv_4, xfs_4, xok_5, xfv_5, xfs_5, xok_6, xfv_6, xfs_6, xok_7, xfv_7, xok_8, xfv_8, xok_9, xfv_9, xok_10, xfv_10, xok_11, xfv_11, xok_12, xfv_12, xfs_12, xok_13, xfv_13, xfs_13, xok_14, xfv_14, xfs_14, xok_15, xfv_15, xfs_15, xok_16, xfv_16, xok_17, xfv_17, xfs_17, xok_18, xfv_18, xok_19, xfv_19, xfs_19, xok_20, xfv_20, xfs_20, xok_21, xfv_21, xfs_21, xok_22, xfv_22, xok_23, xfv_23, xok_24, xfv_24, xok_25, xfv_25, xok_26, xfv_26, xfs_26, xok_27, xfv_27, xok_28, xfv_28, xok_29, xfv_29, xok_30, xfv_30, xfs_30, xok_31, xfv_31, xfs_31, xok_32, xfv_32, xok_33, xfv_33, xfs_33, xok_34, xfv_34, xfs_34, xok_35, xfv_35, xfs_35, xok_36, xfv_36, xfs_36, xok_37, xfv_37, xfs_37, xok_38, xfv_38, xfs_38, xok_39, xfv_39, xfs_39, xok_40, xfv_40, xok_41, xfv_41, xok_42, xfv_42, xok_43, xfv_43, xok_44, xfv_44, xfs_44, h34, c115 h34, b0]
    exact hK h hR (CF_rf h)
  have e2 := isb hp hI b0
  by_cases b1 : b < σ 0 2
  · obtain ⟨i, p, n, q1, q2, q3, q4, q5, t1, t2, t3, t4, t5, t6, t7, t8, r1, -⟩ := b_in hp hI b0 b1
    subst q1
    have c3 := nI_c (a := i) (by omega)
    simp only [b0, b1, if_true, if_false, c3] at hK
    rcases md_in hI with ⟨m1, m2, m3⟩ | ⟨m, m1, m2, m3, m4, m5, m6, m7⟩
    · simp only [m2, if_false] at hK
      have x13 : x 13 = -1 := by rw [hp.1.2.2.2.2.2.1, m1]; rfl
      simp (decide := true) only [e158_0, e158_1, e158_2, e158_5, e158_8, e158_10, e158_11, e158_12, e158_15, e158_16, e158_19, e158_20, e158_23, e158_24, e158_25, e158_28, e158_31, e158_33, e158_34, e158_35, e158_36, e158_39, e158_40, e158_41, e158_44, m158, ok_12_13_12, fv45_13, ok_12_7_12, fv45_7, ok_12_30_12, fv45_30, Kt_some, Kt_none, V_ite, g_if, g_ss, g_1, g_2, g_cn, g_iok, g_sok, g_bok, g_jok, g_qok, g_ivl, g_jvl, g_qvl, g_ist, g_bst, g_jst, g_qst, g_aln, g_isa, g_dl1, g_dl2, g_dl3, g_dl4, g_dl5, g_dd, g_rfs, g_rfn, p_sm0, p_sm1, p_sm2, p_sm3, p_sm4, true_and, and_true, if_true, if_false, ↓reduceIte, Nat.reduceEqDiff, reduceCtorEq, or_true, true_or, and_self, Int32.reduceLT, Int32.reduceAdd, Int32.reduceSub, Int32.reduceToNatClampNeg, not_false_eq_true, not_true_eq_false, xcn, xok_0, xfv_0, xfs_0, xok_1, xfv_1, xok_2, xfv_2, xok_3, xfv_3, xok_4, xfv_4, xfs_4, xok_5, xfv_5, xfs_5, xok_6, xfv_6, xfs_6, xok_7, xfv_7, xok_8, xfv_8, xok_9, xfv_9, xok_10, xfv_10, xok_11, xfv_11, xok_12, xfv_12, xfs_12, xok_13, xfv_13, xfs_13, xok_14, xfv_14, xfs_14, xok_15, xfv_15, xfs_15, xok_16, xfv_16, xok_17, xfv_17, xfs_17, xok_18, xfv_18, xok_19, xfv_19, xfs_19, xok_20, xfv_20, xfs_20, xok_21, xfv_21, xfs_21, xok_22, xfv_22, xok_23, xfv_23, xok_24, xfv_24, xok_25, xfv_25, xok_26, xfv_26, xfs_26, xok_27, xfv_27, xok_28, xfv_28, xok_29, xfv_29, xok_30, xfv_30, xfs_30, xok_31, xfv_31, xfs_31, xok_32, xfv_32, xok_33, xfv_33, xfs_33, xok_34, xfv_34, xfs_34, xok_35, xfv_35, xfs_35, xok_36, xfv_36, xfs_36, xok_37, xfv_37, xfs_37, xok_38, xfv_38, xfs_38, xok_39, xfv_39, xfs_39, xok_40, xfv_40, xok_41, xfv_41, xok_42, xfv_42, xok_43, xfv_43, xok_44, xfv_44, xfs_44, h34, c115 h34, b0, e2, b1, x13]
      exact hK h hR (CF_rf h)
    · have x13 : x 13 = nI m := by rw [hp.1.2.2.2.2.2.1, m6]
      have h6 : 0 < σ 0 6 := by rw [m5]; trivial
      simp only [m5, if_true] at hK
      have hck := ck_is t8
      by_cases hpi : p_is (kc (σ 5 i)) 2 = true
      · simp only [hpi, if_true] at hK
        rw [hpi] at hck
        simp (decide := true) only [e158_0, e158_1, e158_2, e158_5, e158_8, e158_10, e158_11, e158_12, e158_15, e158_16, e158_19, e158_20, e158_23, e158_24, e158_25, e158_28, e158_31, e158_33, e158_34, e158_35, e158_36, e158_39, e158_40, e158_41, e158_44, m158, ok_12_13_12, fv45_13, ok_12_7_12, fv45_7, ok_12_30_12, fv45_30, Kt_some, Kt_none, V_ite, g_if, g_ss, g_1, g_2, g_cn, g_iok, g_sok, g_bok, g_jok, g_qok, g_ivl, g_jvl, g_qvl, g_ist, g_bst, g_jst, g_qst, g_aln, g_isa, g_dl1, g_dl2, g_dl3, g_dl4, g_dl5, g_dd, g_rfs, g_rfn, p_sm0, p_sm1, p_sm2, p_sm3, p_sm4, true_and, and_true, if_true, if_false, ↓reduceIte, Nat.reduceEqDiff, reduceCtorEq, or_true, true_or, and_self, Int32.reduceLT, Int32.reduceAdd, Int32.reduceSub, Int32.reduceToNatClampNeg, not_false_eq_true, not_true_eq_false, xcn, xok_0, xfv_0, xfs_0, xok_1, xfv_1, xok_2, xfv_2, xok_3, xfv_3, xok_4, xfv_4, xfs_4, xok_5, xfv_5, xfs_5, xok_6, xfv_6, xfs_6, xok_7, xfv_7, xok_8, xfv_8, xok_9, xfv_9, xok_10, xfv_10, xok_11, xfv_11, xok_12, xfv_12, xfs_12, xok_13, xfv_13, xfs_13, xok_14, xfv_14, xfs_14, xok_15, xfv_15, xfs_15, xok_16, xfv_16, xok_17, xfv_17, xfs_17, xok_18, xfv_18, xok_19, xfv_19, xfs_19, xok_20, xfv_20, xfs_20, xok_21, xfv_21, xfs_21, xok_22, xfv_22, xok_23, xfv_23, xok_24, xfv_24, xok_25, xfv_25, xok_26, xfv_26, xfs_26, xok_27, xfv_27, xok_28, xfv_28, xok_29, xfv_29, xok_30, xfv_30, xfs_30, xok_31, xfv_31, xfs_31, xok_32, xfv_32, xok_33, xfv_33, xfs_33, xok_34, xfv_34, xfs_34, xok_35, xfv_35, xfs_35, xok_36, xfv_36, xfs_36, xok_37, xfv_37, xfs_37, xok_38, xfv_38, xfs_38, xok_39, xfv_39, xfs_39, xok_40, xfv_40, xok_41, xfv_41, xok_42, xfv_42, xok_43, xfv_43, xok_44, xfv_44, xfs_44, h34, c115 h34, b0, e2, b1, x13, m7, h38 hm, q5, c3, t1, c116, hck]
        obtain ⟨⟨w1, w2, w3, w4, w5, w6, w7, w8⟩, w9, ⟨w10, w11⟩, ⟨w12, w13⟩, w14, w15, -⟩ := mp_in hp hI h6
        obtain ⟨n1, n2⟩ := mp_N hp hI h6
        obtain ⟨k1, k2⟩ := mp_bl hI hc
        have hMB : ct_MB (ou (mw σ (nI (2 ^ i))).2 32) (fun e => ct_N (nl σ) (mp_K σ) (ct_G (mp_P σ) i e (nl σ))) := by
          have := (ct_all (H := σ 1 (mp_m σ)) (L := σ 2 (mp_m σ)) (fr := σ 0 7) (mk := nI (2 ^ i)) (ln := σ 10) (t := tf (cr σ) (fun _ => 0) 5) (k := i) (kk := km (cr σ) 5) (l := nl σ) k2 w8 (mp_mk i q4)).2
          rw [k1] at this
          exact this
        have hget : ∀ c, (ct_as (nl σ) (mp_K σ) c).getD i 0 = mp_dg (nl σ) (mp_k σ) c i := fun c => by
          rw [show mp_K σ = [mp_k σ 0, mp_k σ 1, mp_k σ 2, mp_k σ 3, mp_k σ 4] from rfl, mp_as5]
          exact mp_g5 (mp_dg (nl σ) (mp_k σ) c) i q4
        refine c156 (bo := i) (R := mp_R (mp_P σ) (nl σ) i (mp_K σ)) (vld := fun c => ct_vl (mp_P σ) (nl σ) (ct_as (nl σ) (mp_K σ) c)) hm w1 w2 w3 w4 w5 w6 w7 w8 w9 w10 w11 w12 w13 w14 w15 n2 n1 q4 (mp_vld hp hI hc h6) (fun c all is sd day _ hv hR hd => mp_R1 hv (hd q3) (Nat.lt_of_le_of_lt (Nat.le_trans mp_dgb w8) (by decide)) (hget c) hR) (fun c all is sd _ hv hR => mp_R0 hv hR) ⟨rfl, fun _ => ⟨rfl, rfl⟩, fun q => absurd q (Nat.lt_irrefl 0)⟩ (fun all is sd f hR => ?_)
        have hres : (if is = true then sd else -1) = od 8 0 (ou (mw σ (nI (2 ^ i))).2 32) := by
          obtain ⟨r1, r2, r3⟩ := hR
          have eT : ∀ e, ct_N (nl σ) (mp_K σ) (ct_G (mp_P σ) i e (nl σ)) = ct_sm (ct_cs (nl σ) (mp_K σ)) (fun c => ct_G (mp_P σ) i e (nl σ) (ct_as (nl σ) (mp_K σ) c)) := fun e => (ct_N_e _ _ _).symm
          have hMB := ct_MBe hMB eT
          by_cases ha : all = 0
          · obtain ⟨i1, i2⟩ := r2 ha
            rw [i1, if_pos rfl, i2]
            refine (ct_od0 hMB (fun e => ?_)).symm
            have hle := ct_sm_le (f := fun c => ct_G (mp_P σ) i e (nl σ) (ct_as (nl σ) (mp_K σ) c)) (g := fun c => ct_F (mp_P σ) (nl σ) (ct_as (nl σ) (mp_K σ) c)) (fun c => ct_GF _ _ _ _ _) (ct_cs (nl σ) (mp_K σ))
            rw [← r1, ha] at hle
            exact Nat.le_zero.mp hle
          · obtain ⟨d, d1, d2, d3, d4, d5⟩ := r3 (by omega)
            cases is with
            | true =>
              rw [if_pos rfl, d2]
              refine (ct_od1 hMB d1 (fun e => ⟨d4 rfl e, fun q => ?_⟩)).symm
              rw [q]
              exact d3
            | false =>
              rw [if_neg (by decide)]
              obtain ⟨a, b, ab, a1, b1⟩ := d5 rfl
              exact (ct_od2 hMB ab a1 b1).symm
        rw [hres]
        simp (decide := true) only [e158_0, e158_1, e158_2, e158_5, e158_8, e158_10, e158_11, e158_12, e158_15, e158_16, e158_19, e158_20, e158_23, e158_24, e158_25, e158_28, e158_31, e158_33, e158_34, e158_35, e158_36, e158_39, e158_40, e158_41, e158_44, m158, ok_12_13_12, fv45_13, ok_12_7_12, fv45_7, ok_12_30_12, fv45_30, Kt_some, Kt_none, V_ite, g_if, g_ss, g_1, g_2, g_cn, g_iok, g_sok, g_bok, g_jok, g_qok, g_ivl, g_jvl, g_qvl, g_ist, g_bst, g_jst, g_qst, g_aln, g_isa, g_dl1, g_dl2, g_dl3, g_dl4, g_dl5, g_dd, g_rfs, g_rfn, p_sm0, p_sm1, p_sm2, p_sm3, p_sm4, true_and, and_true, if_true, if_false, ↓reduceIte, Nat.reduceEqDiff, reduceCtorEq, or_true, true_or, and_self, Int32.reduceLT, Int32.reduceAdd, Int32.reduceSub, Int32.reduceToNatClampNeg, not_false_eq_true, not_true_eq_false, xcn, xok_0, xfv_0, xfs_0, xok_1, xfv_1, xok_2, xfv_2, xok_3, xfv_3, xok_4, xfv_4, xfs_4, xok_5, xfv_5, xfs_5, xok_6, xfv_6, xfs_6, xok_7, xfv_7, xok_8, xfv_8, xok_9, xfv_9, xok_10, xfv_10, xok_11, xfv_11, xok_12, xfv_12, xfs_12, xok_13, xfv_13, xfs_13, xok_14, xfv_14, xfs_14, xok_15, xfv_15, xfs_15, xok_16, xfv_16, xok_17, xfv_17, xfs_17, xok_18, xfv_18, xok_19, xfv_19, xfs_19, xok_20, xfv_20, xfs_20, xok_21, xfv_21, xfs_21, xok_22, xfv_22, xok_23, xfv_23, xok_24, xfv_24, xok_25, xfv_25, xok_26, xfv_26, xfs_26, xok_27, xfv_27, xok_28, xfv_28, xok_29, xfv_29, xok_30, xfv_30, xfs_30, xok_31, xfv_31, xfs_31, xok_32, xfv_32, xok_33, xfv_33, xfs_33, xok_34, xfv_34, xfs_34, xok_35, xfv_35, xfs_35, xok_36, xfv_36, xfs_36, xok_37, xfv_37, xfs_37, xok_38, xfv_38, xfs_38, xok_39, xfv_39, xfs_39, xok_40, xfv_40, xok_41, xfv_41, xok_42, xfv_42, xok_43, xfv_43, xok_44, xfv_44, xfs_44, pk_us]
        exact hK _ ⟨_, _, _, _, _, MH_i (f := f) (MH_x (y := upd x 30 (od 8 0 (ou (mw σ (nI (2 ^ i))).2 32))) (u2 := u) (v2 := v) hm) (a := 51) (by decide) (by decide) (by decide) (by decide) (by decide) (by decide), hp⟩ (CF_st (CF_st (CF_rf h) (by decide) (by decide)) (by decide) (by decide))
      · simp only [hpi, if_false] at hK
        rw [Bool.not_eq_true] at hpi
        rw [hpi] at hck
        simp (decide := true) only [e158_0, e158_1, e158_2, e158_5, e158_8, e158_10, e158_11, e158_12, e158_15, e158_16, e158_19, e158_20, e158_23, e158_24, e158_25, e158_28, e158_31, e158_33, e158_34, e158_35, e158_36, e158_39, e158_40, e158_41, e158_44, m158, ok_12_13_12, fv45_13, ok_12_7_12, fv45_7, ok_12_30_12, fv45_30, Kt_some, Kt_none, V_ite, g_if, g_ss, g_1, g_2, g_cn, g_iok, g_sok, g_bok, g_jok, g_qok, g_ivl, g_jvl, g_qvl, g_ist, g_bst, g_jst, g_qst, g_aln, g_isa, g_dl1, g_dl2, g_dl3, g_dl4, g_dl5, g_dd, g_rfs, g_rfn, p_sm0, p_sm1, p_sm2, p_sm3, p_sm4, true_and, and_true, if_true, if_false, ↓reduceIte, Nat.reduceEqDiff, reduceCtorEq, or_true, true_or, and_self, Int32.reduceLT, Int32.reduceAdd, Int32.reduceSub, Int32.reduceToNatClampNeg, not_false_eq_true, not_true_eq_false, xcn, xok_0, xfv_0, xfs_0, xok_1, xfv_1, xok_2, xfv_2, xok_3, xfv_3, xok_4, xfv_4, xfs_4, xok_5, xfv_5, xfs_5, xok_6, xfv_6, xfs_6, xok_7, xfv_7, xok_8, xfv_8, xok_9, xfv_9, xok_10, xfv_10, xok_11, xfv_11, xok_12, xfv_12, xfs_12, xok_13, xfv_13, xfs_13, xok_14, xfv_14, xfs_14, xok_15, xfv_15, xfs_15, xok_16, xfv_16, xok_17, xfv_17, xfs_17, xok_18, xfv_18, xok_19, xfv_19, xfs_19, xok_20, xfv_20, xfs_20, xok_21, xfv_21, xfs_21, xok_22, xfv_22, xok_23, xfv_23, xok_24, xfv_24, xok_25, xfv_25, xok_26, xfv_26, xfs_26, xok_27, xfv_27, xok_28, xfv_28, xok_29, xfv_29, xok_30, xfv_30, xfs_30, xok_31, xfv_31, xfs_31, xok_32, xfv_32, xok_33, xfv_33, xfs_33, xok_34, xfv_34, xfs_34, xok_35, xfv_35, xfs_35, xok_36, xfv_36, xfs_36, xok_37, xfv_37, xfs_37, xok_38, xfv_38, xfs_38, xok_39, xfv_39, xfs_39, xok_40, xfv_40, xok_41, xfv_41, xok_42, xfv_42, xok_43, xfv_43, xok_44, xfv_44, xfs_44, h34, c115 h34, b0, e2, b1, x13, m7, h38 hm, q5, c3, t1, c116, hck, Bool.false_eq_true]
        exact hK h hR (CF_rf h)
  · simp only [b0, b1, if_true, if_false] at hK
    simp (decide := true) only [e158_0, e158_1, e158_2, e158_5, e158_8, e158_10, e158_11, e158_12, e158_15, e158_16, e158_19, e158_20, e158_23, e158_24, e158_25, e158_28, e158_31, e158_33, e158_34, e158_35, e158_36, e158_39, e158_40, e158_41, e158_44, m158, ok_12_13_12, fv45_13, ok_12_7_12, fv45_7, ok_12_30_12, fv45_30, Kt_some, Kt_none, V_ite, g_if, g_ss, g_1, g_2, g_cn, g_iok, g_sok, g_bok, g_jok, g_qok, g_ivl, g_jvl, g_qvl, g_ist, g_bst, g_jst, g_qst, g_aln, g_isa, g_dl1, g_dl2, g_dl3, g_dl4, g_dl5, g_dd, g_rfs, g_rfn, p_sm0, p_sm1, p_sm2, p_sm3, p_sm4, true_and, and_true, if_true, if_false, ↓reduceIte, Nat.reduceEqDiff, reduceCtorEq, or_true, true_or, and_self, Int32.reduceLT, Int32.reduceAdd, Int32.reduceSub, Int32.reduceToNatClampNeg, not_false_eq_true, not_true_eq_false, xcn, xok_0, xfv_0, xfs_0, xok_1, xfv_1, xok_2, xfv_2, xok_3, xfv_3, xok_4, xfv_4, xfs_4, xok_5, xfv_5, xfs_5, xok_6, xfv_6, xfs_6, xok_7, xfv_7, xok_8, xfv_8, xok_9, xfv_9, xok_10, xfv_10, xok_11, xfv_11, xok_12, xfv_12, xfs_12, xok_13, xfv_13, xfs_13, xok_14, xfv_14, xfs_14, xok_15, xfv_15, xfs_15, xok_16, xfv_16, xok_17, xfv_17, xfs_17, xok_18, xfv_18, xok_19, xfv_19, xfs_19, xok_20, xfv_20, xfs_20, xok_21, xfv_21, xfs_21, xok_22, xfv_22, xok_23, xfv_23, xok_24, xfv_24, xok_25, xfv_25, xok_26, xfv_26, xfs_26, xok_27, xfv_27, xok_28, xfv_28, xok_29, xfv_29, xok_30, xfv_30, xfs_30, xok_31, xfv_31, xfs_31, xok_32, xfv_32, xok_33, xfv_33, xfs_33, xok_34, xfv_34, xfs_34, xok_35, xfv_35, xfs_35, xok_36, xfv_36, xfs_36, xok_37, xfv_37, xfs_37, xok_38, xfv_38, xfs_38, xok_39, xfv_39, xfs_39, xok_40, xfv_40, xok_41, xfv_41, xok_42, xfv_42, xok_43, xfv_43, xok_44, xfv_44, xfs_44, h34, c115 h34, b0, e2, b1]
    exact hK h hR (CF_rf h)
end S57
