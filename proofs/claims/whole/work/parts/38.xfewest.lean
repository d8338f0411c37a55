section S38
variable {σ : pS} {h : pH} {K Q : Option Value → pH → Prop} {ad : Nat → Nat} {bt : Nat}
def hN (σ : pS) (i : Nat) : Nat := (σ 1 i).toNatClampNeg
def wN (σ : pS) (i : Nat) : Nat := (σ 3 i).toNatClampNeg
def nN (σ : pS) (i : Nat) : Nat := (ne σ i).toNatClampNeg
def cN (σ : pS) (i : Nat) : Nat := (ca σ i).toNatClampNeg
/-- the state from which a search begins -/
def c0 (σ : pS) (i j : Nat) : Nat := mkc (wN σ) (σ 9 j).toNatClampNeg (σ 8 j).toNatClampNeg (σ 8 i).toNatClampNeg
/-- acts and first act -/
def rs (σ : pS) (i j : Nat) : Int32 × Int32 := if (σ 8 i).toNatClampNeg + 1 = nn σ then (0, -1) else so (se (nn σ) (hN σ) (nN σ i) (nN σ j) (cN σ j) 18145 [c0 σ i j + 65536 * 31] 0 1 0)
theorem ne_n {k d : Int32} (hk : rg k 0 4) (hd : rg d 0 5) : ∃ m : Nat, m ≤ 6 ∧ bn (kc k) d = nI m := by
  obtain ⟨a, rfl, -, ha⟩ := hk
  obtain ⟨b, rfl, -, hb⟩ := hd
  have : ∀ a : Nat, a ≤ 4 → ∀ b : Nat, b ≤ 5 → ∃ m : Nat, m ≤ 6 ∧ bn (kc (nI a)) (nI b) = nI m := by decide +kernel
  exact this a ha b hb
/-- what the search needs to know of a stair and two boats -/
theorem s_in (hI : IV σ) {i j : Nat} (hi : i < nt σ) (hj : j < nt σ) : 2 ≤ nn σ ∧ nn σ ≤ 4 ∧ σ 0 0 = nI (nn σ) ∧ (∀ k, k < nn σ → hN σ k ≤ 5 ∧ σ 1 k = nI (hN σ k) ∧ wN σ k ≤ hN σ k) ∧ (∀ k, k < 4 → σ 3 k = nI (wN σ k)) ∧ (∀ k, nn σ ≤ k → k < 4 → wN σ k = 0) ∧ wN σ 0 = hN σ 0 ∧ (∀ k, k < nt σ → ne σ k = nI (nN σ k) ∧ nN σ k ≤ 6 ∧ ca σ k = nI (cN σ k) ∧ cN σ k ≤ 6 ∧ (∃ m, σ 8 k = nI m ∧ m < nn σ) ∧ (∃ l, σ 9 k = nI l ∧ l ≤ cN σ k) ∧ p_bt (kc (σ 5 k)) = true) := by
  obtain ⟨n, ps, bt, sr, hI⟩ := hI
  obtain ⟨e1, e2, e3⟩ := IN_n hI
  rw [e1, e3]
  rw [e3] at hi hj
  obtain ⟨⟨g1, g2, g3, g4, g5, g6, g7, g8, -⟩, gH, -, gE, ⟨gw, gw0, gwz⟩, gb, -⟩ := hI
  have hn : 2 ≤ n := by
    rcases g2 with rfl | q
    · have := g8 rfl; omega
    · exact q
  have hc : ∀ m : Nat, m ≤ 1000 → (nI m).toNatClampNeg = m := fun m hm => nI_c (by omega)
  refine ⟨hn, g3, g1, fun k hk => ?_, fun k hk => ?_, fun k h1 h2 => ?_, ?_, fun k hk => ?_⟩
  · obtain ⟨⟨H, q1, q2, q3⟩, -⟩ := gH k hk
    obtain ⟨m, H', q4, q5, q6, q7⟩ := gw k hk
    unfold hN wN
    rw [q1] at q5
    have := (nI_eq (by omega) (by omega)).mp q5
    rw [q1, q4, hc H (by omega), hc m (by omega)]
    exact ⟨q3, rfl, by omega⟩
  · unfold wN
    by_cases hkn : k < n
    · obtain ⟨m, H', q4, q5, q6, q7⟩ := gw k hkn
      rw [q4, hc m (by omega)]
    · rw [gwz k (by omega) hk]; rfl
  · unfold wN
    rw [gwz k h1 h2]; rfl
  · unfold wN hN
    rw [gw0 (by omega)]
  · obtain ⟨q1, q2, q3⟩ := gE k hk
    obtain ⟨m, q4, q5⟩ := ne_n q1 q2
    obtain ⟨⟨pl, q6, q7⟩, l, cc, q8, q9, q10, q11⟩ := gb k hk
    have q5' : ne σ k = nI m := q5
    have q9' : ca σ k = nI cc := q9
    unfold nN cN
    rw [q5', q9', hc m (by omega), hc cc (by omega)]
    exact ⟨rfl, q4, rfl, q11, ⟨pl, q6, q7⟩, ⟨l, q8, q10⟩, (kc_bt q1).1⟩
theorem has_nil (c : Nat) : has [] c = false := rfl
theorem VC_c0 (hI : IV σ) {i j : Nat} (hi : i < nt σ) (hj : j < nt σ) (ht : ¬ (σ 8 i).toNatClampNeg + 1 = nn σ) : VC (nn σ) (hN σ) (cN σ j) (c0 σ i j) ∧ sB (c0 σ i j) = (σ 8 i).toNatClampNeg := by
  obtain ⟨n2, n4, n0, hH, hw, hz, hw0, hb⟩ := s_in hI hi hj
  obtain ⟨-, -, -, -, ⟨m, i1, i2⟩, -, -⟩ := hb i hi
  obtain ⟨-, -, -, j0, ⟨q, j1, j2⟩, ⟨l, j3, j4⟩, -⟩ := hb j hj
  unfold c0
  rw [i1] at ht ⊢
  rw [j1, j3, nI_c (a := q) (by omega), nI_c (a := l) (by omega), nI_c (a := m) (by omega)]
  rw [nI_c (a := m) (by omega)] at ht
  refine ⟨VC_mk n4 (fun k hk => (hH k hk).1) (fun k _ hk => (hH k hk).2.2) hz j4 j0 j2 (by omega), ?_⟩
  have w8 : ∀ k, k < 4 → wN σ k < 8 := fun k hk => by
    by_cases hkn : k < nn σ
    · have := hH k hkn; omega
    · rw [hz k (by omega) hk]; omega
  exact (mk_d (w8 1 (by omega)) (w8 2 (by omega)) (w8 3 (by omega)) (by omega) (by omega) (by omega)).2.2.2.2
/-- begin -/
theorem c41 {qa sa i j : Nat} {x : Nat → Int32} (hh : 57 ≤ h.1) (hc : CC σ ad (nt σ) h) (hI : IV σ) (hi : i < nt σ) (hj : j < nt σ) (ht : ¬ (σ 8 i).toNatClampNeg + 1 = nn σ) (h29 : p_get h 29 = some (oF qa sa x)) (x0 : x 0 = -1) (x1 : x 1 = -1) (hS : (qa = 32 ∧ sa = 33 ∧ IA h 32 0 ∧ JA h 33 0) ∨ (57 ≤ qa ∧ qa < h.1 ∧ 57 ≤ sa ∧ sa < h.1 ∧ IA h qa 18144 ∧ JA h sa 1024))
    (hK : ∀ (h2 : pH) (qa sa : Nat), CC σ ad (nt σ) h2 → LV (nn σ) (hN σ) (nN σ i) (nN σ j) (cN σ j) qa sa [c0 σ i j + 65536 * 31] h2 → SF (nn σ) (hN σ) (nN σ i) (nN σ j) (cN σ j) qa sa → qa < h2.1 → sa < h2.1 → MF h h2 → K none h2) : Vm 41 [.ref 29, .ref 4, .ref 7, .ref (ad i), .ref (ad j)] h K := by
  obtain ⟨n2, n4, n0, hH, hw, hz, hw0, hb⟩ := s_in hI hi hj
  obtain ⟨i1, i2, i3, i4, ⟨pi, i5, i6⟩, -, i9⟩ := hb i hi
  obtain ⟨j1, j2, j3, j4, ⟨pj, j5, j6⟩, ⟨lj, j7, j8⟩, j9⟩ := hb j hj
  obtain ⟨hv0, -⟩ := VC_c0 hI hi hj ht
  have w8 : ∀ k, k < 4 → wN σ k < 8 := fun k hk => by
    by_cases hkn : k < nn σ
    · have := hH k hkn; omega
    · rw [hz k (by omega) hk]; omega
  obtain ⟨⟨a1, a2, a3, a4, a5, a6, a7⟩, hB, -⟩ := id hc
  simp (decide := true) only [e41_0, e41_1, e41_4, e41_5, e41_5n, e41_6, e41_9, e41_12, e41_13, e41_13n, e41_15, e41_18, e41_21, e41_22, e41_22n, e41_24, e41_27, e41_30, e41_31, e41_32, e41_35, e41_36, e41_38, e41_41, e41_42, e41_42n, e41_43, e41_43n, e41_45, e41_48, e41_48n, e41_50, e41_53, e41_53n, e41_54, e41_57, e41_59, e41_62, m41, ok_8_11_8, fs14_11, ok_8_12_8, fs14_12, ok_8_13_8, fs14_13, ok_8_6_8, fs14_6, ok_8_7_8, fs14_7, ok_0x1x2x7x10_3_0, fv4_3, ok_0x1x2x7x10_3_1, ok_0x1x2x7x10_3_2, ok_0x1x2x7x10_3_7, ok_0x1x2x7x10_3_10, ok_0x1x2x7x10_2_0, fv4_2, ok_0x1x2x7x10_2_1, ok_0x1x2x7x10_2_2, ok_0x1x2x7x10_2_7, ok_0x1x2x7x10_2_10, Kt_some, Kt_none, V_ite, g_if, g_ss, g_1, g_2, g_cn, g_iok, g_sok, g_bok, g_jok, g_qok, g_ivl, g_jvl, g_qvl, g_ist, g_bst, g_jst, g_qst, g_aln, g_isa, g_dl1, g_dl2, g_dl3, g_dl4, g_dl5, g_dd, g_rfs, g_rfn, p_sm0, p_sm1, p_sm2, p_sm3, p_sm4, true_and, and_true, if_true, if_false, ↓reduceIte, Nat.reduceEqDiff, reduceCtorEq, or_true, true_or, and_self, Int32.reduceLT, Int32.reduceAdd, Int32.reduceSub, Int32.reduceToNatClampNeg, not_false_eq_true, not_true_eq_false, h29]
  refine c42 hh hc h29 hS (fun h2 qa sa fs hc2 g29 q1 q2 q3 q4 q5 ⟨fq, q6⟩ q7 q8 hMF => ?_)
  obtain ⟨⟨b1, b2, b3, b4, b5, b6, b7⟩, hB2, -, -, ⟨-, -, -, -, -, -, -, -, k9, k10⟩⟩ := id hc2
  obtain ⟨bi57, bih, hbi⟩ := hB2.2.1 i hi
  obtain ⟨bj57, bjh, hbj⟩ := hB2.2.1 j hj
  have mi : (ad i = 29) = False := eq_false (by omega)
  have mj : (ad j = 29) = False := eq_false (by omega)
  have ei : bn (kc (σ 5 i)) (σ 6 i) = nI (nN σ i) := i1
  have ej : bn (kc (σ 5 j)) (σ 6 j) = nI (nN σ j) := j1
  have ek : bc (kc (σ 5 j)) (σ 7 j) = nI (cN σ j) := j3
  have cni := fun (Q : Option Value → pH → Prop) (H2 : pH) (hg : p_get H2 (ad i) = some (oB (kc (σ 5 i)) (σ 6 i) (σ 7 i) (σ 8 i) (σ 9 i))) => c_needs (Q := Q) hg i9
  have cnj := fun (Q : Option Value → pH → Prop) (H2 : pH) (hg : p_get H2 (ad j) = some (oB (kc (σ 5 j)) (σ 6 j) (σ 7 j) (σ 8 j) (σ 9 j))) => c_needs (Q := Q) hg j9
  have ccj := fun (Q : Option Value → pH → Prop) (H2 : pH) (hg : p_get H2 (ad j) = some (oB (kc (σ 5 j)) (σ 6 j) (σ 7 j) (σ 8 j) (σ 9 j))) => c_carries (Q := Q) hg j9
  simp (decide := true) only [e41_0, e41_1, e41_4, e41_5, e41_5n, e41_6, e41_9, e41_12, e41_13, e41_13n, e41_15, e41_18, e41_21, e41_22, e41_22n, e41_24, e41_27, e41_30, e41_31, e41_32, e41_35, e41_36, e41_38, e41_41, e41_42, e41_42n, e41_43, e41_43n, e41_45, e41_48, e41_48n, e41_50, e41_53, e41_53n, e41_54, e41_57, e41_59, e41_62, m41, ok_8_11_8, fs14_11, ok_8_12_8, fs14_12, ok_8_13_8, fs14_13, ok_8_6_8, fs14_6, ok_8_7_8, fs14_7, ok_0x1x2x7x10_3_0, fv4_3, ok_0x1x2x7x10_3_1, ok_0x1x2x7x10_3_2, ok_0x1x2x7x10_3_7, ok_0x1x2x7x10_3_10, ok_0x1x2x7x10_2_0, fv4_2, ok_0x1x2x7x10_2_1, ok_0x1x2x7x10_2_2, ok_0x1x2x7x10_2_7, ok_0x1x2x7x10_2_10, Kt_some, Kt_none, V_ite, g_if, g_ss, g_1, g_2, g_cn, g_iok, g_sok, g_bok, g_jok, g_qok, g_ivl, g_jvl, g_qvl, g_ist, g_bst, g_jst, g_qst, g_aln, g_isa, g_dl1, g_dl2, g_dl3, g_dl4, g_dl5, g_dd, g_rfs, g_rfn, p_sm0, p_sm1, p_sm2, p_sm3, p_sm4, true_and, and_true, if_true, if_false, ↓reduceIte, Nat.reduceEqDiff, reduceCtorEq, or_true, true_or, and_self, Int32.reduceLT, Int32.reduceAdd, Int32.reduceSub, Int32.reduceToNatClampNeg, not_false_eq_true, not_true_eq_false, g29, hbi, hbj, i9, j9, mi, mj, cni, cnj, ccj, ei, ej, ek, ok_b 2 i9 (by decide), ok_b 2 j9 (by decide), ok_b 3 j9 (by decide), i5, j5, j7]
  have hS3 : SR qa sa (upd (upd (upd (upd (upd x 7 (nI (nN σ i))) 8 (nI (nN σ j))) 9 (nI (cN σ j))) 2 0) 3 31) [] (p_set h2 29 (oF qa sa (upd (upd (upd (upd (upd x 7 (nI (nN σ i))) 8 (nI (nN σ j))) 9 (nI (cN σ j))) 2 0) 3 31))) := by
    refine ⟨g_eq, rfl, ⟨fq, by rw [g_ne (by omega)]; exact q6, fun i hi => absurd hi (Nat.not_lt_zero i)⟩, fs, by rw [g_ne (by omega)]; exact q7, fun c hc => ?_⟩
    rw [q8 (c / 64) (by omega), has_nil]
    exact BitVec.getLsbD_zero
  have hF : SF (nn σ) (hN σ) (nN σ i) (nN σ j) (cN σ j) qa sa := ⟨n2, n4, fun k hk => (hH k hk).1, i2, j2, j4, q1, q3, q5⟩
  have e3 : upd (upd (upd (upd (upd x 7 (nI (nN σ i))) 8 (nI (nN σ j))) 9 (nI (cN σ j))) 2 0) 3 31 3 = nI 31 := pk_us
  refine c44 (w := wN σ) (ld := lj) (cp := pj) (bp := pi) (f := 31) (a := 31) (r := 7) (g := σ 3) hS3 q5 q1 q3 (by simp (decide := true) only [Kt_some, Kt_none, V_ite, g_if, g_ss, g_1, g_2, g_cn, g_iok, g_sok, g_bok, g_jok, g_qok, g_ivl, g_jvl, g_qvl, g_ist, g_bst, g_jst, g_qst, g_aln, g_isa, g_dl1, g_dl2, g_dl3, g_dl4, g_dl5, g_dd, g_rfs, g_rfn, p_sm0, p_sm1, p_sm2, p_sm3, p_sm4, true_and, and_true, if_true, if_false, ↓reduceIte, Nat.reduceEqDiff, reduceCtorEq, or_true, true_or, and_self, Int32.reduceLT, Int32.reduceAdd, Int32.reduceSub, Int32.reduceToNatClampNeg, not_false_eq_true, not_true_eq_false, b7]) (by omega) (by omega) (hw 1 (by omega)) (hw 2 (by omega)) (hw 3 (by omega)) (w8 1 (by omega)) (w8 2 (by omega)) (w8 3 (by omega)) (by omega) (by omega) (by omega) e3 (by omega) (by omega) (fun _ => by simp) (by simp) (fun h3 r1 r2 r3 => ?_)
  have ec : mkc (wN σ) lj pj pi = c0 σ i j := by
    unfold c0
    rw [i5, j5, j7, nI_c (a := lj) (by omega), nI_c (a := pj) (by omega), nI_c (a := pi) (by omega)]
  rw [ec] at r1
  have ei : ins [] (c0 σ i j) (fa 31 31) = [c0 σ i j + 65536 * 31] := rfl
  rw [ei] at r1
  simp (decide := true) only [e41_0, e41_1, e41_4, e41_5, e41_5n, e41_6, e41_9, e41_12, e41_13, e41_13n, e41_15, e41_18, e41_21, e41_22, e41_22n, e41_24, e41_27, e41_30, e41_31, e41_32, e41_35, e41_36, e41_38, e41_41, e41_42, e41_42n, e41_43, e41_43n, e41_45, e41_48, e41_48n, e41_50, e41_53, e41_53n, e41_54, e41_57, e41_59, e41_62, m41, ok_8_11_8, fs14_11, ok_8_12_8, fs14_12, ok_8_13_8, fs14_13, ok_8_6_8, fs14_6, ok_8_7_8, fs14_7, ok_0x1x2x7x10_3_0, fv4_3, ok_0x1x2x7x10_3_1, ok_0x1x2x7x10_3_2, ok_0x1x2x7x10_3_7, ok_0x1x2x7x10_3_10, ok_0x1x2x7x10_2_0, fv4_2, ok_0x1x2x7x10_2_1, ok_0x1x2x7x10_2_2, ok_0x1x2x7x10_2_7, ok_0x1x2x7x10_2_10, Kt_some, Kt_none, V_ite, g_if, g_ss, g_1, g_2, g_cn, g_iok, g_sok, g_bok, g_jok, g_qok, g_ivl, g_jvl, g_qvl, g_ist, g_bst, g_jst, g_qst, g_aln, g_isa, g_dl1, g_dl2, g_dl3, g_dl4, g_dl5, g_dd, g_rfs, g_rfn, p_sm0, p_sm1, p_sm2, p_sm3, p_sm4, true_and, and_true, if_true, if_false, ↓reduceIte, Nat.reduceEqDiff, reduceCtorEq, or_true, true_or, and_self, Int32.reduceLT, Int32.reduceAdd, Int32.reduceSub, Int32.reduceToNatClampNeg, not_false_eq_true, not_true_eq_false]
  obtain ⟨fq3, r4, r5⟩ := id r1.2.2.1
  obtain ⟨fs3, r6, r7⟩ := id r1.2.2.2
  have hc3 : CC σ ad (nt σ) h3 := by
    have hq6 : p_get (p_set h2 29 (oF qa sa (upd (upd (upd (upd (upd x 7 (nI (nN σ i))) 8 (nI (nN σ j))) 9 (nI (cN σ j))) 2 0) 3 31))) qa = some (aI 18144 fq) := by rw [g_ne (by omega)]; exact q6
    have hq7 : p_get (p_set h2 29 (oF qa sa (upd (upd (upd (upd (upd x 7 (nI (nN σ i))) 8 (nI (nN σ j))) 9 (nI (cN σ j))) 2 0) 3 31))) sa = some (aJ 1024 fs) := by rw [g_ne (by omega)]; exact q7
    refine CC_GR (CC_29 hc2) r2 hq6 hq7 q1 q3 ?_ ?_
    · unfold IA
      rw [r3 30 (by omega) (by omega) (by omega), g_ne (by omega)]
      exact k9
    · unfold IA
      rw [r3 31 (by omega) (by omega) (by omega), g_ne (by omega)]
      exact k10
  obtain ⟨⟨d1, d2, d3, d4, d5, d6, d7⟩, -, -, -, ⟨-, -, -, -, -, -, -, -, l9, l10⟩⟩ := id hc3
  refine hK h3 qa sa hc3 ⟨_, r1, ?_, ?_, ⟨σ 1, d5, fun k hk => (hH k hk).2.1⟩, l9, l10⟩ hF ?_ ?_ ?_
  · simp (decide := true) only [u_if, if_true, if_false, x0, x1, and_self]
  · rw [← n0]; exact d4
  · rw [r2.2.1, s_1]; exact q2
  · rw [r2.2.1, s_1]; exact q4
  · refine MF_tr hMF (fun k hk => ?_) (by rw [r2.2.1, s_1]) (by rw [r2.2.2, s_2])
    rw [r3 k (by omega) (by omega) (by omega), g_ne (by omega)]
theorem cf_f {fh : Nat → Int32} {H : Nat → Nat} {k : Nat} : ∀ (d i : Nat), (∀ q, i ≤ q → q < i + d → fh q = nI (H q) ∧ H q ≤ 5) → k ≤ 6 → cf fh (nI k) d i = false → ∃ q, i ≤ q ∧ q < i + d ∧ H q < k
  | 0, i, _, _, hc => by cases hc
  | d + 1, i, hh, hk, hc => by
    unfold cf at hc
    obtain ⟨h1, h2⟩ := hh i (by omega) (by omega)
    by_cases hq : H i < k
    · exact ⟨i, by omega, by omega, hq⟩
    · rw [h1, if_neg (nI_nlt (by omega) (by omega))] at hc
      obtain ⟨q, q1, q2, q3⟩ := cf_f d (i + 1) (fun q h1 h2 => hh q (by omega) (by omega)) hk hc
      exact ⟨q, by omega, by omega, q3⟩
theorem QV_1 {n : Nat} {H : Nat → Nat} {cc c : Nat} (hv : VC n H cc c) : QV n H cc [c + 65536 * 31] := by
  have := QV_ins (f := 31) (L := []) ⟨fun e he => absurd he (List.not_mem_nil), List.Pairwise.nil⟩ hv (by omega)
  exact this
/-- find -/
theorem c40 {i j : Nat} (hh : 57 ≤ h.1) (hc : CC σ ad (nt σ) h) (hS : CS h) (hI : IV σ) (hi : i < nt σ) (hj : j < nt σ)
    (hK : ∀ (h2 : pH) (qa sa : Nat) (x : Nat → Int32), CC σ ad (nt σ) h2 → CS h2 → MF h h2 → p_get h2 29 = some (oF qa sa x) → x 0 = (rs σ i j).1 → x 1 = (rs σ i j).2 → K none h2) : Vm 40 [.ref 29, .ref 4, .ref 7, .ref (ad i), .ref (ad j)] h K := by
  obtain ⟨n2, n4, n0, hH, hw, hz, hw0, hb⟩ := s_in hI hi hj
  obtain ⟨i1, i2, i3, i4, ⟨pi, i5, i6⟩, -, i9⟩ := hb i hi
  obtain ⟨j1, j2, j3, j4, ⟨pj, j5, j6⟩, ⟨lj, j7, j8⟩, j9⟩ := hb j hj
  have ep : (σ 8 i).toNatClampNeg = pi := by rw [i5]; exact nI_c (by omega)
  obtain ⟨⟨a1, a2, a3, a4, a5, a6, a7⟩, hB, -⟩ := id hc
  obtain ⟨bi57, bih, hbi⟩ := hB.2.1 i hi
  obtain ⟨qa, sa, x, g29, hS2⟩ := hS
  have a4' := a4
  rw [n0] at a4'
  have e1 : nI (nn σ) - 1 = nI (nn σ - 1) := pk_sub (a := nn σ) (b := 1) (by omega)
  have mi : (ad i = 29) = False := eq_false (by omega)
  have hS3 : ∀ (e : pE), (qa = 32 ∧ sa = 33 ∧ IA (p_set h 29 e) 32 0 ∧ JA (p_set h 29 e) 33 0) ∨ (57 ≤ qa ∧ qa < (p_set h 29 e).1 ∧ 57 ≤ sa ∧ sa < (p_set h 29 e).1 ∧ IA (p_set h 29 e) qa 18144 ∧ JA (p_set h 29 e) sa 1024) := by
    intro e
    rcases hS2 with ⟨q1, q2, q3, q4⟩ | ⟨q1, q2, q3, q4, q5, q6⟩
    · exact Or.inl ⟨q1, q2, IA_st q3 (by decide), JA_st q4 (by decide)⟩
    · exact Or.inr ⟨q1, q2, q3, q4, IA_st q5 (by omega), JA_st q6 (by omega)⟩
  have c54' := fun (Q : Option Value → pH → Prop) => c54 (Q := Q) a4'
  by_cases ht : pi + 1 = nn σ
  · have e2 : (nI pi = nI (nn σ - 1)) = True := eq_true (by congr 1; omega)
    have er : rs σ i j = (0, -1) := by unfold rs; rw [ep, if_pos ht]
    rw [er] at hK
    simp (decide := true) only [e40_0, e40_1, e40_1n, e40_2, e40_5, e40_5n, e40_6, e40_9, e40_12, e40_13, e40_16, e40_17, e40_20, e40_21, e40_22, e40_25, e40_26, e40_29, e40_32, e40_32n, e40_33, e40_33n, e40_34, e40_37, e40_37n, e40_38, e40_41, e40_44, e40_47, e40_48, e40_49, e40_49n, e40_50, e40_50n, e40_51, e40_51n, e40_52, e40_52n, e40_54, e40_57, e40_58, e40_60, e40_61, e40_64, e40_66, e40_67, e40_69, e40_71, e40_72, e40_75, e40_78, e40_80, e40_83, e40_86, e40_88, e40_90, e40_93, e40_96, e40_97, e40_100, e40_102, e40_103, e40_103n, e40_104, e40_105, e40_108, e40_110, e40_111, e40_114, e40_115, e40_115n, e40_116, e40_119, e40_122, e40_123, e40_125, e40_126, e40_127, e40_130, e40_131, e40_132, e40_132n, e40_133, e40_136, e40_137, e40_137n, e40_138, e40_141, e40_142, e40_142n, e40_143, e40_146, e40_149, e40_152, m40, ok_0x1x2x7x10_2_0, fv4_2, ok_0x1x2x7x10_2_1, ok_0x1x2x7x10_2_2, ok_0x1x2x7x10_2_7, ok_0x1x2x7x10_2_10, ok_8_0_8, fs14_0, ok_8_1_8, fs14_1, fv14_0, ok_8_6_8, fv14_6, ok_8_4_8, fv14_4, Kt_some, Kt_none, V_ite, g_if, g_ss, g_1, g_2, g_cn, g_iok, g_sok, g_bok, g_jok, g_qok, g_ivl, g_jvl, g_qvl, g_ist, g_bst, g_jst, g_qst, g_aln, g_isa, g_dl1, g_dl2, g_dl3, g_dl4, g_dl5, g_dd, g_rfs, g_rfn, p_sm0, p_sm1, p_sm2, p_sm3, p_sm4, true_and, and_true, if_true, if_false, ↓reduceIte, Nat.reduceEqDiff, reduceCtorEq, or_true, true_or, and_self, Int32.reduceLT, Int32.reduceAdd, Int32.reduceSub, Int32.reduceToNatClampNeg, not_false_eq_true, not_true_eq_false, g29, a4', hbi, ok_b 2 i9 (by decide), i5, c54', e1, e2, mi]
    refine hK _ qa sa (upd (upd x 0 0) 1 (-1)) (CC_29 hc) ⟨qa, sa, upd (upd x 0 0) 1 (-1), ?_, hS3 _⟩ (MF_st (MF_rf h) (by omega)) ?_ rfl rfl
    · simp (decide := true) only [Kt_some, Kt_none, V_ite, g_if, g_ss, g_1, g_2, g_cn, g_iok, g_sok, g_bok, g_jok, g_qok, g_ivl, g_jvl, g_qvl, g_ist, g_bst, g_jst, g_qst, g_aln, g_isa, g_dl1, g_dl2, g_dl3, g_dl4, g_dl5, g_dd, g_rfs, g_rfn, p_sm0, p_sm1, p_sm2, p_sm3, p_sm4, true_and, and_true, if_true, if_false, ↓reduceIte, Nat.reduceEqDiff, reduceCtorEq, or_true, true_or, and_self, Int32.reduceLT, Int32.reduceAdd, Int32.reduceSub, Int32.reduceToNatClampNeg, not_false_eq_true, not_true_eq_false]
      rfl
    · simp (decide := true) only [Kt_some, Kt_none, V_ite, g_if, g_ss, g_1, g_2, g_cn, g_iok, g_sok, g_bok, g_jok, g_qok, g_ivl, g_jvl, g_qvl, g_ist, g_bst, g_jst, g_qst, g_aln, g_isa, g_dl1, g_dl2, g_dl3, g_dl4, g_dl5, g_dd, g_rfs, g_rfn, p_sm0, p_sm1, p_sm2, p_sm3, p_sm4, true_and, and_true, if_true, if_false, ↓reduceIte, Nat.reduceEqDiff, reduceCtorEq, or_true, true_or, and_self, Int32.reduceLT, Int32.reduceAdd, Int32.reduceSub, Int32.reduceToNatClampNeg, not_false_eq_true, not_true_eq_false]
      rfl
  · have e2 : (nI pi = nI (nn σ - 1)) = False := eq_false (fun q => ht (by have := (nI_eq (by omega) (by omega)).mp q; omega))
    have ht' : ¬ (σ 8 i).toNatClampNeg + 1 = nn σ := by rw [ep]; exact ht
    obtain ⟨hv0, hs0⟩ := VC_c0 hI hi hj ht'
    have er : rs σ i j = so (se (nn σ) (hN σ) (nN σ i) (nN σ j) (cN σ j) 18145 [c0 σ i j + 65536 * 31] 0 1 0) := by unfold rs; rw [if_neg ht']
    rw [er] at hK
    have ei : bn (kc (σ 5 i)) (σ 6 i) = nI (nN σ i) := i1
    have hcf := fun (Q : Option Value → pH → Prop) (e : pE) => c57 (Q := Q) (h := p_set h 29 e) (s := 4) (p := 5) (q := 6) (fh := σ 1) (n := nn σ) (i := pi) (k := nI (nN σ i)) (by simp (decide := true) only [Kt_some, Kt_none, V_ite, g_if, g_ss, g_1, g_2, g_cn, g_iok, g_sok, g_bok, g_jok, g_qok, g_ivl, g_jvl, g_qvl, g_ist, g_bst, g_jst, g_qst, g_aln, g_isa, g_dl1, g_dl2, g_dl3, g_dl4, g_dl5, g_dd, g_rfs, g_rfn, p_sm0, p_sm1, p_sm2, p_sm3, p_sm4, true_and, and_true, if_true, if_false, ↓reduceIte, Nat.reduceEqDiff, reduceCtorEq, or_true, true_or, and_self, Int32.reduceLT, Int32.reduceAdd, Int32.reduceSub, Int32.reduceToNatClampNeg, not_false_eq_true, not_true_eq_false, a4']) (by simp (decide := true) only [Kt_some, Kt_none, V_ite, g_if, g_ss, g_1, g_2, g_cn, g_iok, g_sok, g_bok, g_jok, g_qok, g_ivl, g_jvl, g_qvl, g_ist, g_bst, g_jst, g_qst, g_aln, g_isa, g_dl1, g_dl2, g_dl3, g_dl4, g_dl5, g_dd, g_rfs, g_rfn, p_sm0, p_sm1, p_sm2, p_sm3, p_sm4, true_and, and_true, if_true, if_false, ↓reduceIte, Nat.reduceEqDiff, reduceCtorEq, or_true, true_or, and_self, Int32.reduceLT, Int32.reduceAdd, Int32.reduceSub, Int32.reduceToNatClampNeg, not_false_eq_true, not_true_eq_false, a5]) n4 i6
    have cni := fun (Q : Option Value → pH → Prop) (H2 : pH) (hg : p_get H2 (ad i) = some (oB (kc (σ 5 i)) (σ 6 i) (σ 7 i) (σ 8 i) (σ 9 i))) => c_needs (Q := Q) hg i9
    have z1 : ((-1 : Int32) = 0) = False := eq_false (by decide)
    by_cases hcc : cf (σ 1) (nI (nN σ i)) (nn σ - pi) pi = true
    · simp (decide := true) only [e40_0, e40_1, e40_1n, e40_2, e40_5, e40_5n, e40_6, e40_9, e40_12, e40_13, e40_16, e40_17, e40_20, e40_21, e40_22, e40_25, e40_26, e40_29, e40_32, e40_32n, e40_33, e40_33n, e40_34, e40_37, e40_37n, e40_38, e40_41, e40_44, e40_47, e40_48, e40_49, e40_49n, e40_50, e40_50n, e40_51, e40_51n, e40_52, e40_52n, e40_54, e40_57, e40_58, e40_60, e40_61, e40_64, e40_66, e40_67, e40_71, e40_72, e40_75, e40_78, e40_80, e40_83, e40_86, e40_88, e40_90, e40_93, e40_96, e40_97, e40_100, e40_102, e40_103, e40_103n, e40_104, e40_105, e40_108, e40_110, e40_111, e40_114, e40_115, e40_115n, e40_116, e40_119, e40_122, e40_123, e40_125, e40_126, e40_127, e40_130, e40_131, e40_132, e40_132n, e40_133, e40_136, e40_137, e40_137n, e40_138, e40_141, e40_142, e40_142n, e40_143, e40_146, e40_149, e40_152, m40, ok_0x1x2x7x10_2_0, fv4_2, ok_0x1x2x7x10_2_1, ok_0x1x2x7x10_2_2, ok_0x1x2x7x10_2_7, ok_0x1x2x7x10_2_10, ok_8_0_8, fs14_0, ok_8_1_8, fs14_1, fv14_0, ok_8_6_8, fv14_6, ok_8_4_8, fv14_4, Kt_some, Kt_none, V_ite, g_if, g_ss, g_1, g_2, g_cn, g_iok, g_sok, g_bok, g_jok, g_qok, g_ivl, g_jvl, g_qvl, g_ist, g_bst, g_jst, g_qst, g_aln, g_isa, g_dl1, g_dl2, g_dl3, g_dl4, g_dl5, g_dd, g_rfs, g_rfn, p_sm0, p_sm1, p_sm2, p_sm3, p_sm4, true_and, and_true, if_true, if_false, ↓reduceIte, Nat.reduceEqDiff, reduceCtorEq, or_true, true_or, and_self, Int32.reduceLT, Int32.reduceAdd, Int32.reduceSub, Int32.reduceToNatClampNeg, not_false_eq_true, not_true_eq_false, g29, a4', hbi, ok_b 2 i9 (by decide), i5, c54', e1, e2, mi, z1, i9, cni, ei, hcf, hcc]
      refine c41 (x := upd (upd x 0 (-1)) 1 (-1)) (by rw [s_1]; exact hh) (CC_29 hc) hI hi hj ht' ?_ rfl rfl (hS3 _) (fun h2 qa sa hc2 hL hF hq hs hM => ?_)
      · simp (decide := true) only [Kt_some, Kt_none, V_ite, g_if, g_ss, g_1, g_2, g_cn, g_iok, g_sok, g_bok, g_jok, g_qok, g_ivl, g_jvl, g_qvl, g_ist, g_bst, g_jst, g_qst, g_aln, g_isa, g_dl1, g_dl2, g_dl3, g_dl4, g_dl5, g_dd, g_rfs, g_rfn, p_sm0, p_sm1, p_sm2, p_sm3, p_sm4, true_and, and_true, if_true, if_false, ↓reduceIte, Nat.reduceEqDiff, reduceCtorEq, or_true, true_or, and_self, Int32.reduceLT, Int32.reduceAdd, Int32.reduceSub, Int32.reduceToNatClampNeg, not_false_eq_true, not_true_eq_false]
        rfl
      · obtain ⟨y, ⟨s1, s2, ⟨fq, s3, s3'⟩, fs, s4, s4'⟩, -⟩ := id hL
        have s2' : y 2 = 1 := s2
        simp (decide := true) only [e40_0, e40_1, e40_1n, e40_2, e40_5, e40_5n, e40_6, e40_9, e40_12, e40_13, e40_16, e40_17, e40_20, e40_21, e40_22, e40_25, e40_26, e40_29, e40_32, e40_32n, e40_33, e40_33n, e40_34, e40_37, e40_37n, e40_38, e40_41, e40_44, e40_47, e40_48, e40_49, e40_49n, e40_50, e40_50n, e40_51, e40_51n, e40_52, e40_52n, e40_54, e40_57, e40_58, e40_60, e40_61, e40_64, e40_66, e40_67, e40_71, e40_72, e40_75, e40_78, e40_80, e40_83, e40_86, e40_88, e40_90, e40_93, e40_96, e40_97, e40_100, e40_102, e40_103, e40_103n, e40_104, e40_105, e40_108, e40_110, e40_111, e40_114, e40_115, e40_115n, e40_116, e40_119, e40_122, e40_123, e40_125, e40_126, e40_127, e40_130, e40_131, e40_132, e40_132n, e40_133, e40_136, e40_137, e40_137n, e40_138, e40_141, e40_142, e40_142n, e40_143, e40_146, e40_149, e40_152, m40, ok_0x1x2x7x10_2_0, fv4_2, ok_0x1x2x7x10_2_1, ok_0x1x2x7x10_2_2, ok_0x1x2x7x10_2_7, ok_0x1x2x7x10_2_10, ok_8_0_8, fs14_0, ok_8_1_8, fs14_1, fv14_0, ok_8_6_8, fv14_6, ok_8_4_8, fv14_4, Kt_some, Kt_none, V_ite, g_if, g_ss, g_1, g_2, g_cn, g_iok, g_sok, g_bok, g_jok, g_qok, g_ivl, g_jvl, g_qvl, g_ist, g_bst, g_jst, g_qst, g_aln, g_isa, g_dl1, g_dl2, g_dl3, g_dl4, g_dl5, g_dd, g_rfs, g_rfn, p_sm0, p_sm1, p_sm2, p_sm3, p_sm4, true_and, and_true, if_true, if_false, ↓reduceIte, Nat.reduceEqDiff, reduceCtorEq, or_true, true_or, and_self, Int32.reduceLT, Int32.reduceAdd, Int32.reduceSub, Int32.reduceToNatClampNeg, not_false_eq_true, not_true_eq_false, s1, s2']
        refine l40 (l4 := some (.ref (ad j))) hF 18145 0 1 0 _ h2 (by omega) (by simp) (by omega) (by omega) hL (QV_1 hv0) (fun h3 hFP hG => ?_)
        obtain ⟨z, z1, z2, z3, z4, z5, z6, z7⟩ := hFP
        obtain ⟨f1, f2, f3, f4, f5, f6, f7, f8, f9⟩ := id hF
        refine hK h3 qa sa z (CC_GR hc2 hG s3 s4 f7 f8 z6 z7) ⟨qa, sa, z, z1, Or.inr ⟨f7, by rw [hG.2.1]; exact hq, f8, by rw [hG.2.1]; exact hs, z4, z5⟩⟩ ?_ z1 z2 z3
        have hM2 : MF h h2 := by
          obtain ⟨m1, m2, m3, m4⟩ := hM
          refine ⟨fun k hk => ?_, m2, m3, m4⟩
          rw [m1 k hk, g_ne (by omega)]
        exact MF_tr hM2 (fun k hk => hG.1 k (by omega) (by omega) (by omega) (by omega) (by omega)) hG.2.1 hG.2.2
    · have hno : se (nn σ) (hN σ) (nN σ i) (nN σ j) (cN σ j) 18145 [c0 σ i j + 65536 * 31] 0 1 0 = none := by
        rw [Bool.not_eq_true] at hcc
        obtain ⟨q, q1, q2, q3⟩ := cf_f (H := hN σ) (nn σ - pi) pi (fun q h1 h2 => ⟨(hH q (by omega)).2.1, (hH q (by omega)).1⟩) i2 hcc
        refine se_no (b0 := pi) (i0 := q) n4 (fun k hk => (hH k hk).1) j4 q1 (by omega) q3 _ _ _ _ _ (QV_1 hv0) (fun e he => ?_)
        rw [List.mem_singleton.mp he]
        have : (c0 σ i j + 65536 * 31) % 65536 = c0 σ i j := by have := hv0.1; omega
        rw [this, hs0, ep]
        omega
      rw [hno] at hK
      simp (decide := true) only [e40_0, e40_1, e40_1n, e40_2, e40_5, e40_5n, e40_6, e40_9, e40_12, e40_13, e40_16, e40_17, e40_20, e40_21, e40_22, e40_25, e40_26, e40_29, e40_32, e40_32n, e40_33, e40_33n, e40_34, e40_37, e40_37n, e40_38, e40_41, e40_44, e40_47, e40_48, e40_49, e40_49n, e40_50, e40_50n, e40_51, e40_51n, e40_52, e40_52n, e40_54, e40_57, e40_58, e40_60, e40_61, e40_64, e40_66, e40_67, e40_71, e40_72, e40_75, e40_78, e40_80, e40_83, e40_86, e40_88, e40_90, e40_93, e40_96, e40_97, e40_100, e40_102, e40_103, e40_103n, e40_104, e40_105, e40_108, e40_110, e40_111, e40_114, e40_115, e40_115n, e40_116, e40_119, e40_122, e40_123, e40_125, e40_126, e40_127, e40_130, e40_131, e40_132, e40_132n, e40_133, e40_136, e40_137, e40_137n, e40_138, e40_141, e40_142, e40_142n, e40_143, e40_146, e40_149, e40_152, m40, ok_0x1x2x7x10_2_0, fv4_2, ok_0x1x2x7x10_2_1, ok_0x1x2x7x10_2_2, ok_0x1x2x7x10_2_7, ok_0x1x2x7x10_2_10, ok_8_0_8, fs14_0, ok_8_1_8, fs14_1, fv14_0, ok_8_6_8, fv14_6, ok_8_4_8, fv14_4, Kt_some, Kt_none, V_ite, g_if, g_ss, g_1, g_2, g_cn, g_iok, g_sok, g_bok, g_jok, g_qok, g_ivl, g_jvl, g_qvl, g_ist, g_bst, g_jst, g_qst, g_aln, g_isa, g_dl1, g_dl2, g_dl3, g_dl4, g_dl5, g_dd, g_rfs, g_rfn, p_sm0, p_sm1, p_sm2, p_sm3, p_sm4, true_and, and_true, if_true, if_false, ↓reduceIte, Nat.reduceEqDiff, reduceCtorEq, or_true, true_or, and_self, Int32.reduceLT, Int32.reduceAdd, Int32.reduceSub, Int32.reduceToNatClampNeg, not_false_eq_true, not_true_eq_false, g29, a4', hbi, ok_b 2 i9 (by decide), i5, c54', e1, e2, mi, z1, i9, cni, ei, hcf, hcc]
      refine hK _ qa sa (upd (upd x 0 (-1)) 1 (-1)) (CC_29 hc) ⟨qa, sa, upd (upd x 0 (-1)) 1 (-1), ?_, hS3 _⟩ (MF_st (MF_rf h) (by omega)) ?_ rfl rfl
      · simp (decide := true) only [Kt_some, Kt_none, V_ite, g_if, g_ss, g_1, g_2, g_cn, g_iok, g_sok, g_bok, g_jok, g_qok, g_ivl, g_jvl, g_qvl, g_ist, g_bst, g_jst, g_qst, g_aln, g_isa, g_dl1, g_dl2, g_dl3, g_dl4, g_dl5, g_dd, g_rfs, g_rfn, p_sm0, p_sm1, p_sm2, p_sm3, p_sm4, true_and, and_true, if_true, if_false, ↓reduceIte, Nat.reduceEqDiff, reduceCtorEq, or_true, true_or, and_self, Int32.reduceLT, Int32.reduceAdd, Int32.reduceSub, Int32.reduceToNatClampNeg, not_false_eq_true, not_true_eq_false]
        rfl
      · simp (decide := true) only [Kt_some, Kt_none, V_ite, g_if, g_ss, g_1, g_2, g_cn, g_iok, g_sok, g_bok, g_jok, g_qok, g_ivl, g_jvl, g_qvl, g_ist, g_bst, g_jst, g_qst, g_aln, g_isa, g_dl1, g_dl2, g_dl3, g_dl4, g_dl5, g_dd, g_rfs, g_rfn, p_sm0, p_sm1, p_sm2, p_sm3, p_sm4, true_and, and_true, if_true, if_false, ↓reduceIte, Nat.reduceEqDiff, reduceCtorEq, or_true, true_or, and_self, Int32.reduceLT, Int32.reduceAdd, Int32.reduceSub, Int32.reduceToNatClampNeg, not_false_eq_true, not_true_eq_false]
        rfl
def f_fewest (σ : pS) (b c k : Int32) : Int32 × pS := if b < 0 then (-101, σ) else if b < σ 0 2 then (if c < 0 then (-101, σ) else if c < σ 0 2 then (if b = c then (-101, σ) else if k < 0 then (-102, σ) else if 1 < k then (-102, σ) else if p_is (kc (σ 5 c.toNatClampNeg)) 2 = true then (if σ 0 5 < 40 then
    ((if k = 0 then (rs σ b.toNatClampNeg c.toNatClampNeg).1 else (rs σ b.toNatClampNeg c.toNatClampNeg).2), s0 σ 5 (σ 0 5 + 1)) else (-103, σ)) else (-103, σ)) else (-101, σ)) else (-101, σ)
theorem IV_5 {y : Int32} (hI : IV σ) (hy : rg y 0 40) : IV (s0 σ 5 y) := by
  obtain ⟨n, ps, bt, sr, h1, h2, h3, h4, h5, h6, h7, h8, h9⟩ := hI
  exact ⟨n, ps, bt, sr, h1, h2, h3, h4, h5, h6, h7, hy, h9⟩
theorem x_fewest {b c k : Int32} (hh : 57 ≤ h.1) (hC : CR σ h) (hI : IV σ) (hK : ∀ h2, CR (f_fewest σ b c k).2 h2 → MF h h2 → K (some (.int (f_fewest σ b c k).1)) h2) : Vm 82 [.ref 1, .int b, .int c, .int k] h K := by
  obtain ⟨ad, hA, hB, hM, hKp, hJ, hS⟩ := id hC
  obtain ⟨a1, a2, a3, a4, a5, a6, a7⟩ := id hA
  unfold f_fewest at hK
  by_cases b0 : b < 0
  · simp only [b0, if_true] at hK
    by_cases c0 : c < 0
    · simp (decide := true) only [e82_0, e82_1, e82_2, e82_5, e82_5n, e82_7, e82_8, e82_9, e82_12, e82_12n, e82_14, e82_14n, e82_16, e82_16r, e82_19, e82_19n, e82_21, e82_21r, e82_24, e82_25, e82_26, e82_29, e82_31, e82_32, e82_33, e82_36, e82_37, e82_38, e82_41, e82_43, e82_44, e82_44n, e82_46n, e82_46, e82_49, e82_52, e82_53, e82_56, e82_58, e82_61, e82_63, e82_64, e82_65, e82_65i, e82_66, e82_69, e82_70, e82_71, e82_74, e82_75, e82_78, e82_79, e82_82, e82_83, e82_86, e82_86n, e82_88, e82_88n, e82_90, e82_93, e82_94, e82_97, e82_98, e82_101, e82_104, e82_107, e82_108, e82_111, e82_114, m82, ok_11_12_11, fv13_12, fs13_12, ok_11_8_11, fv13_8, ok_11_1_11, fv13_1, ok_11_2_11, fv13_2, ok_8_0_8, fv14_0, ok_8_1_8, fv14_1, Kt_some, Kt_none, V_ite, g_if, g_ss, g_1, g_2, g_cn, g_iok, g_sok, g_bok, g_jok, g_qok, g_ivl, g_jvl, g_qvl, g_ist, g_bst, g_jst, g_qst, g_aln, g_isa, g_dl1, g_dl2, g_dl3, g_dl4, g_dl5, g_dd, g_rfs, g_rfn, p_sm0, p_sm1, p_sm2, p_sm3, p_sm4, true_and, and_true, if_true, if_false, ↓reduceIte, Nat.reduceEqDiff, reduceCtorEq, or_true, true_or, and_self, Int32.reduceLT, Int32.reduceAdd, Int32.reduceSub, Int32.reduceToNatClampNeg, not_false_eq_true, not_true_eq_false, a1, c100 hI hA hB, b0, c0]
      exact hK h hC (MF_rf h)
    · by_cases c1 : c < σ 0 2
      · simp (decide := true) only [e82_0, e82_1, e82_2, e82_5, e82_5n, e82_7, e82_8, e82_9, e82_12, e82_12n, e82_14, e82_14n, e82_16, e82_16r, e82_19, e82_19n, e82_21, e82_21r, e82_24, e82_25, e82_26, e82_29, e82_31, e82_32, e82_33, e82_36, e82_37, e82_38, e82_41, e82_43, e82_44, e82_44n, e82_46n, e82_46, e82_49, e82_52, e82_53, e82_56, e82_58, e82_61, e82_63, e82_64, e82_65, e82_65i, e82_66, e82_69, e82_70, e82_71, e82_74, e82_75, e82_78, e82_79, e82_82, e82_83, e82_86, e82_86n, e82_88, e82_88n, e82_90, e82_93, e82_94, e82_97, e82_98, e82_101, e82_104, e82_107, e82_108, e82_111, e82_114, m82, ok_11_12_11, fv13_12, fs13_12, ok_11_8_11, fv13_8, ok_11_1_11, fv13_1, ok_11_2_11, fv13_2, ok_8_0_8, fv14_0, ok_8_1_8, fv14_1, Kt_some, Kt_none, V_ite, g_if, g_ss, g_1, g_2, g_cn, g_iok, g_sok, g_bok, g_jok, g_qok, g_ivl, g_jvl, g_qvl, g_ist, g_bst, g_jst, g_qst, g_aln, g_isa, g_dl1, g_dl2, g_dl3, g_dl4, g_dl5, g_dd, g_rfs, g_rfn, p_sm0, p_sm1, p_sm2, p_sm3, p_sm4, true_and, and_true, if_true, if_false, ↓reduceIte, Nat.reduceEqDiff, reduceCtorEq, or_true, true_or, and_self, Int32.reduceLT, Int32.reduceAdd, Int32.reduceSub, Int32.reduceToNatClampNeg, not_false_eq_true, not_true_eq_false, a1, c100 hI hA hB, b0, c0, c1]
        exact hK h hC (MF_rf h)
      · simp (decide := true) only [e82_0, e82_1, e82_2, e82_5, e82_5n, e82_7, e82_8, e82_9, e82_12, e82_12n, e82_14, e82_14n, e82_16, e82_16r, e82_19, e82_19n, e82_21, e82_21r, e82_24, e82_25, e82_26, e82_29, e82_31, e82_32, e82_33, e82_36, e82_37, e82_38, e82_41, e82_43, e82_44, e82_44n, e82_46n, e82_46, e82_49, e82_52, e82_53, e82_56, e82_58, e82_61, e82_63, e82_64, e82_65, e82_65i, e82_66, e82_69, e82_70, e82_71, e82_74, e82_75, e82_78, e82_79, e82_82, e82_83, e82_86, e82_86n, e82_88, e82_88n, e82_90, e82_93, e82_94, e82_97, e82_98, e82_101, e82_104, e82_107, e82_108, e82_111, e82_114, m82, ok_11_12_11, fv13_12, fs13_12, ok_11_8_11, fv13_8, ok_11_1_11, fv13_1, ok_11_2_11, fv13_2, ok_8_0_8, fv14_0, ok_8_1_8, fv14_1, Kt_some, Kt_none, V_ite, g_if, g_ss, g_1, g_2, g_cn, g_iok, g_sok, g_bok, g_jok, g_qok, g_ivl, g_jvl, g_qvl, g_ist, g_bst, g_jst, g_qst, g_aln, g_isa, g_dl1, g_dl2, g_dl3, g_dl4, g_dl5, g_dd, g_rfs, g_rfn, p_sm0, p_sm1, p_sm2, p_sm3, p_sm4, true_and, and_true, if_true, if_false, ↓reduceIte, Nat.reduceEqDiff, reduceCtorEq, or_true, true_or, and_self, Int32.reduceLT, Int32.reduceAdd, Int32.reduceSub, Int32.reduceToNatClampNeg, not_false_eq_true, not_true_eq_false, a1, c100 hI hA hB, b0, c0, c1]
        exact hK h hC (MF_rf h)
  by_cases b1 : b < σ 0 2
  · by_cases c0 : c < 0
    · simp only [b0, b1, c0, if_true, if_false] at hK
      simp (decide := true) only [e82_0, e82_1, e82_2, e82_5, e82_5n, e82_7, e82_8, e82_9, e82_12, e82_12n, e82_14, e82_14n, e82_16, e82_16r, e82_19, e82_19n, e82_21, e82_21r, e82_24, e82_25, e82_26, e82_29, e82_31, e82_32, e82_33, e82_36, e82_37, e82_38, e82_41, e82_43, e82_44, e82_44n, e82_46n, e82_46, e82_49, e82_52, e82_53, e82_56, e82_58, e82_61, e82_63, e82_64, e82_65, e82_65i, e82_66, e82_69, e82_70, e82_71, e82_74, e82_75, e82_78, e82_79, e82_82, e82_83, e82_86, e82_86n, e82_88, e82_88n, e82_90, e82_93, e82_94, e82_97, e82_98, e82_101, e82_104, e82_107, e82_108, e82_111, e82_114, m82, ok_11_12_11, fv13_12, fs13_12, ok_11_8_11, fv13_8, ok_11_1_11, fv13_1, ok_11_2_11, fv13_2, ok_8_0_8, fv14_0, ok_8_1_8, fv14_1, Kt_some, Kt_none, V_ite, g_if, g_ss, g_1, g_2, g_cn, g_iok, g_sok, g_bok, g_jok, g_qok, g_ivl, g_jvl, g_qvl, g_ist, g_bst, g_jst, g_qst, g_aln, g_isa, g_dl1, g_dl2, g_dl3, g_dl4, g_dl5, g_dd, g_rfs, g_rfn, p_sm0, p_sm1, p_sm2, p_sm3, p_sm4, true_and, and_true, if_true, if_false, ↓reduceIte, Nat.reduceEqDiff, reduceCtorEq, or_true, true_or, and_self, Int32.reduceLT, Int32.reduceAdd, Int32.reduceSub, Int32.reduceToNatClampNeg, not_false_eq_true, not_true_eq_false, a1, c100 hI hA hB, b0, b1, c0]
      exact hK h hC (MF_rf h)
    by_cases c1 : c < σ 0 2
    · by_cases bc : b = c
      · simp only [b0, b1, c0, c1, bc, if_true, if_false] at hK
        simp (decide := true) only [e82_0, e82_1, e82_2, e82_5, e82_5n, e82_7, e82_8, e82_9, e82_12, e82_12n, e82_14, e82_14n, e82_16, e82_16r, e82_19, e82_19n, e82_21, e82_21r, e82_24, e82_25, e82_26, e82_29, e82_31, e82_32, e82_33, e82_36, e82_37, e82_38, e82_41, e82_43, e82_44, e82_44n, e82_46n, e82_46, e82_49, e82_52, e82_53, e82_56, e82_58, e82_61, e82_63, e82_64, e82_65, e82_65i, e82_66, e82_69, e82_70, e82_71, e82_74, e82_75, e82_78, e82_79, e82_82, e82_83, e82_86, e82_86n, e82_88, e82_88n, e82_90, e82_93, e82_94, e82_97, e82_98, e82_101, e82_104, e82_107, e82_108, e82_111, e82_114, m82, ok_11_12_11, fv13_12, fs13_12, ok_11_8_11, fv13_8, ok_11_1_11, fv13_1, ok_11_2_11, fv13_2, ok_8_0_8, fv14_0, ok_8_1_8, fv14_1, Kt_some, Kt_none, V_ite, g_if, g_ss, g_1, g_2, g_cn, g_iok, g_sok, g_bok, g_jok, g_qok, g_ivl, g_jvl, g_qvl, g_ist, g_bst, g_jst, g_qst, g_aln, g_isa, g_dl1, g_dl2, g_dl3, g_dl4, g_dl5, g_dd, g_rfs, g_rfn, p_sm0, p_sm1, p_sm2, p_sm3, p_sm4, true_and, and_true, if_true, if_false, ↓reduceIte, Nat.reduceEqDiff, reduceCtorEq, or_true, true_or, and_self, Int32.reduceLT, Int32.reduceAdd, Int32.reduceSub, Int32.reduceToNatClampNeg, not_false_eq_true, not_true_eq_false, a1, c100 hI hA hB, b0, b1, c0, c1, bc]
        exact hK h hC (MF_rf h)
      by_cases k0 : k < 0
      · simp only [b0, b1, c0, c1, bc, k0, if_true, if_false] at hK
        simp (decide := true) only [e82_0, e82_1, e82_2, e82_5, e82_5n, e82_7, e82_8, e82_9, e82_12, e82_12n, e82_14, e82_14n, e82_16, e82_16r, e82_19, e82_19n, e82_21, e82_21r, e82_24, e82_25, e82_26, e82_29, e82_31, e82_32, e82_33, e82_36, e82_37, e82_38, e82_41, e82_43, e82_44, e82_44n, e82_46n, e82_46, e82_49, e82_52, e82_53, e82_56, e82_58, e82_61, e82_63, e82_64, e82_65, e82_65i, e82_66, e82_69, e82_70, e82_71, e82_74, e82_75, e82_78, e82_79, e82_82, e82_83, e82_86, e82_86n, e82_88, e82_88n, e82_90, e82_93, e82_94, e82_97, e82_98, e82_101, e82_104, e82_107, e82_108, e82_111, e82_114, m82, ok_11_12_11, fv13_12, fs13_12, ok_11_8_11, fv13_8, ok_11_1_11, fv13_1, ok_11_2_11, fv13_2, ok_8_0_8, fv14_0, ok_8_1_8, fv14_1, Kt_some, Kt_none, V_ite, g_if, g_ss, g_1, g_2, g_cn, g_iok, g_sok, g_bok, g_jok, g_qok, g_ivl, g_jvl, g_qvl, g_ist, g_bst, g_jst, g_qst, g_aln, g_isa, g_dl1, g_dl2, g_dl3, g_dl4, g_dl5, g_dd, g_rfs, g_rfn, p_sm0, p_sm1, p_sm2, p_sm3, p_sm4, true_and, and_true, if_true, if_false, ↓reduceIte, Nat.reduceEqDiff, reduceCtorEq, or_true, true_or, and_self, Int32.reduceLT, Int32.reduceAdd, Int32.reduceSub, Int32.reduceToNatClampNeg, not_false_eq_true, not_true_eq_false, a1, c100 hI hA hB, b0, b1, c0, c1, bc, k0]
        exact hK h hC (MF_rf h)
      by_cases k1 : 1 < k
      · simp only [b0, b1, c0, c1, bc, k0, k1, if_true, if_false] at hK
        simp (decide := true) only [e82_0, e82_1, e82_2, e82_5, e82_5n, e82_7, e82_8, e82_9, e82_12, e82_12n, e82_14, e82_14n, e82_16, e82_16r, e82_19, e82_19n, e82_21, e82_21r, e82_24, e82_25, e82_26, e82_29, e82_31, e82_32, e82_33, e82_36, e82_37, e82_38, e82_41, e82_43, e82_44, e82_44n, e82_46n, e82_46, e82_49, e82_52, e82_53, e82_56, e82_58, e82_61, e82_63, e82_64, e82_65, e82_65i, e82_66, e82_69, e82_70, e82_71, e82_74, e82_75, e82_78, e82_79, e82_82, e82_83, e82_86, e82_86n, e82_88, e82_88n, e82_90, e82_93, e82_94, e82_97, e82_98, e82_101, e82_104, e82_107, e82_108, e82_111, e82_114, m82, ok_11_12_11, fv13_12, fs13_12, ok_11_8_11, fv13_8, ok_11_1_11, fv13_1, ok_11_2_11, fv13_2, ok_8_0_8, fv14_0, ok_8_1_8, fv14_1, Kt_some, Kt_none, V_ite, g_if, g_ss, g_1, g_2, g_cn, g_iok, g_sok, g_bok, g_jok, g_qok, g_ivl, g_jvl, g_qvl, g_ist, g_bst, g_jst, g_qst, g_aln, g_isa, g_dl1, g_dl2, g_dl3, g_dl4, g_dl5, g_dd, g_rfs, g_rfn, p_sm0, p_sm1, p_sm2, p_sm3, p_sm4, true_and, and_true, if_true, if_false, ↓reduceIte, Nat.reduceEqDiff, reduceCtorEq, or_true, true_or, and_self, Int32.reduceLT, Int32.reduceAdd, Int32.reduceSub, Int32.reduceToNatClampNeg, not_false_eq_true, not_true_eq_false, a1, c100 hI hA hB, b0, b1, c0, c1, bc, k0, k1]
        exact hK h hC (MF_rf h)
      obtain ⟨i, hi1, hi2, hi3, hi4, hi5, hi6, hi7⟩ := bt_in hI b0 b1
      obtain ⟨j, hj1, hj2, hj3, hj4, hj5, hj6, hj7⟩ := bt_in hI c0 c1
      obtain ⟨b57, bh, hbj⟩ := hB.2.1 j hj3
      simp only [b0, b1, c0, c1, bc, k0, k1, if_true, if_false, hi2, hj2] at hK
      by_cases hp : p_is (kc (σ 5 j)) 2 = true
      · by_cases h40 : σ 0 5 < 40
        · simp only [hp, h40, if_true] at hK
          have hrg : rg (σ 0 5 + 1) 0 40 := by
            obtain ⟨n, ps, bt, sr, -, -, -, -, -, -, -, ⟨m, q1, -, q2⟩, -⟩ := hI
            rw [q1] at h40 ⊢
            have := (nI_ltI (a := m) (b := 40) (by omega) (by omega)).mp h40
            exact ⟨m + 1, nI_1 m, by omega, by omega⟩
          have hI2 := IV_5 hI hrg
          have hc2 : CC (s0 σ 5 (σ 0 5 + 1)) ad (nt (s0 σ 5 (σ 0 5 + 1))) (p_set h 1 (oW (σ 0 2) (σ 0 3) (σ 0 4) (σ 0 5 + 1))) := by
            refine ⟨⟨?_, ?_, ?_, ?_, ?_, ?_, ?_⟩, (CB_st hB (by decide) (by decide) : CB σ ad (nt σ) _), (CM_st hM (by decide) (by decide) : CM σ _), (CK_st hKp (by decide) : CK σ _), CJ_st hJ (by decide)⟩
            · simp (decide := true) only [Kt_some, Kt_none, V_ite, g_if, g_ss, g_1, g_2, g_cn, g_iok, g_sok, g_bok, g_jok, g_qok, g_ivl, g_jvl, g_qvl, g_ist, g_bst, g_jst, g_qst, g_aln, g_isa, g_dl1, g_dl2, g_dl3, g_dl4, g_dl5, g_dd, g_rfs, g_rfn, p_sm0, p_sm1, p_sm2, p_sm3, p_sm4, true_and, and_true, if_true, if_false, ↓reduceIte, Nat.reduceEqDiff, reduceCtorEq, or_true, true_or, and_self, Int32.reduceLT, Int32.reduceAdd, Int32.reduceSub, Int32.reduceToNatClampNeg, not_false_eq_true, not_true_eq_false, s0_if, s1_if, u_if]
            · simp (decide := true) only [Kt_some, Kt_none, V_ite, g_if, g_ss, g_1, g_2, g_cn, g_iok, g_sok, g_bok, g_jok, g_qok, g_ivl, g_jvl, g_qvl, g_ist, g_bst, g_jst, g_qst, g_aln, g_isa, g_dl1, g_dl2, g_dl3, g_dl4, g_dl5, g_dd, g_rfs, g_rfn, p_sm0, p_sm1, p_sm2, p_sm3, p_sm4, true_and, and_true, if_true, if_false, ↓reduceIte, Nat.reduceEqDiff, reduceCtorEq, or_true, true_or, and_self, Int32.reduceLT, Int32.reduceAdd, Int32.reduceSub, Int32.reduceToNatClampNeg, not_false_eq_true, not_true_eq_false, s0_if, s1_if, u_if, a2]
            · simp (decide := true) only [Kt_some, Kt_none, V_ite, g_if, g_ss, g_1, g_2, g_cn, g_iok, g_sok, g_bok, g_jok, g_qok, g_ivl, g_jvl, g_qvl, g_ist, g_bst, g_jst, g_qst, g_aln, g_isa, g_dl1, g_dl2, g_dl3, g_dl4, g_dl5, g_dd, g_rfs, g_rfn, p_sm0, p_sm1, p_sm2, p_sm3, p_sm4, true_and, and_true, if_true, if_false, ↓reduceIte, Nat.reduceEqDiff, reduceCtorEq, or_true, true_or, and_self, Int32.reduceLT, Int32.reduceAdd, Int32.reduceSub, Int32.reduceToNatClampNeg, not_false_eq_true, not_true_eq_false, s0_if, s1_if, u_if, a3]
            · simp (decide := true) only [Kt_some, Kt_none, V_ite, g_if, g_ss, g_1, g_2, g_cn, g_iok, g_sok, g_bok, g_jok, g_qok, g_ivl, g_jvl, g_qvl, g_ist, g_bst, g_jst, g_qst, g_aln, g_isa, g_dl1, g_dl2, g_dl3, g_dl4, g_dl5, g_dd, g_rfs, g_rfn, p_sm0, p_sm1, p_sm2, p_sm3, p_sm4, true_and, and_true, if_true, if_false, ↓reduceIte, Nat.reduceEqDiff, reduceCtorEq, or_true, true_or, and_self, Int32.reduceLT, Int32.reduceAdd, Int32.reduceSub, Int32.reduceToNatClampNeg, not_false_eq_true, not_true_eq_false, s0_if, s1_if, u_if, a4]
            · simp (decide := true) only [Kt_some, Kt_none, V_ite, g_if, g_ss, g_1, g_2, g_cn, g_iok, g_sok, g_bok, g_jok, g_qok, g_ivl, g_jvl, g_qvl, g_ist, g_bst, g_jst, g_qst, g_aln, g_isa, g_dl1, g_dl2, g_dl3, g_dl4, g_dl5, g_dd, g_rfs, g_rfn, p_sm0, p_sm1, p_sm2, p_sm3, p_sm4, true_and, and_true, if_true, if_false, ↓reduceIte, Nat.reduceEqDiff, reduceCtorEq, or_true, true_or, and_self, Int32.reduceLT, Int32.reduceAdd, Int32.reduceSub, Int32.reduceToNatClampNeg, not_false_eq_true, not_true_eq_false, s0_if, s1_if, u_if, a5]
            · simp (decide := true) only [Kt_some, Kt_none, V_ite, g_if, g_ss, g_1, g_2, g_cn, g_iok, g_sok, g_bok, g_jok, g_qok, g_ivl, g_jvl, g_qvl, g_ist, g_bst, g_jst, g_qst, g_aln, g_isa, g_dl1, g_dl2, g_dl3, g_dl4, g_dl5, g_dd, g_rfs, g_rfn, p_sm0, p_sm1, p_sm2, p_sm3, p_sm4, true_and, and_true, if_true, if_false, ↓reduceIte, Nat.reduceEqDiff, reduceCtorEq, or_true, true_or, and_self, Int32.reduceLT, Int32.reduceAdd, Int32.reduceSub, Int32.reduceToNatClampNeg, not_false_eq_true, not_true_eq_false, s0_if, s1_if, u_if, a6]
            · simp (decide := true) only [Kt_some, Kt_none, V_ite, g_if, g_ss, g_1, g_2, g_cn, g_iok, g_sok, g_bok, g_jok, g_qok, g_ivl, g_jvl, g_qvl, g_ist, g_bst, g_jst, g_qst, g_aln, g_isa, g_dl1, g_dl2, g_dl3, g_dl4, g_dl5, g_dd, g_rfs, g_rfn, p_sm0, p_sm1, p_sm2, p_sm3, p_sm4, true_and, and_true, if_true, if_false, ↓reduceIte, Nat.reduceEqDiff, reduceCtorEq, or_true, true_or, and_self, Int32.reduceLT, Int32.reduceAdd, Int32.reduceSub, Int32.reduceToNatClampNeg, not_false_eq_true, not_true_eq_false, s0_if, s1_if, u_if, a7]
          have hS2 : CS (p_set h 1 (oW (σ 0 2) (σ 0 3) (σ 0 4) (σ 0 5 + 1))) := CS_st hS (by decide) (by decide) (by decide) (by decide)
          have n0 : p_cn1 (p_get h 29) = 8 := by
            obtain ⟨qa, sa, x, q1, -⟩ := hS
            rw [q1]; rfl
          simp (decide := true) only [e82_0, e82_1, e82_2, e82_5, e82_5n, e82_7, e82_8, e82_9, e82_12, e82_12n, e82_14, e82_14n, e82_16, e82_16r, e82_19, e82_19n, e82_21, e82_21r, e82_24, e82_25, e82_26, e82_29, e82_31, e82_32, e82_33, e82_36, e82_37, e82_38, e82_41, e82_43, e82_44, e82_44n, e82_46n, e82_46, e82_49, e82_52, e82_53, e82_56, e82_58, e82_61, e82_63, e82_64, e82_65, e82_65i, e82_66, e82_69, e82_70, e82_71, e82_74, e82_75, e82_78, e82_79, e82_82, e82_83, e82_86, e82_86n, e82_88, e82_88n, e82_90, e82_93, e82_94, e82_97, e82_98, e82_101, e82_104, e82_107, e82_108, e82_111, e82_114, m82, ok_11_12_11, fv13_12, fs13_12, ok_11_8_11, fv13_8, ok_11_1_11, fv13_1, ok_11_2_11, fv13_2, ok_8_0_8, fv14_0, ok_8_1_8, fv14_1, Kt_some, Kt_none, V_ite, g_if, g_ss, g_1, g_2, g_cn, g_iok, g_sok, g_bok, g_jok, g_qok, g_ivl, g_jvl, g_qvl, g_ist, g_bst, g_jst, g_qst, g_aln, g_isa, g_dl1, g_dl2, g_dl3, g_dl4, g_dl5, g_dd, g_rfs, g_rfn, p_sm0, p_sm1, p_sm2, p_sm3, p_sm4, true_and, and_true, if_true, if_false, ↓reduceIte, Nat.reduceEqDiff, reduceCtorEq, or_true, true_or, and_self, Int32.reduceLT, Int32.reduceAdd, Int32.reduceSub, Int32.reduceToNatClampNeg, not_false_eq_true, not_true_eq_false, a1, c100 hI hA hB, b0, b1, c0, c1, bc, k0, k1, hi2, hj2, hbj, hj6, i_ite, hp, h40, n0]
          refine c40 (σ := s0 σ 5 (σ 0 5 + 1)) (i := i) (j := j) (by rw [s_1]; exact hh) hc2 hS2 hI2 hi3 hj3 (fun h3 qa sa x q1 q2 q3 q4 q5 q6 => ?_)
          have hMF : MF h h3 := by
            obtain ⟨r1, r2, r3, r4⟩ := q3
            refine ⟨fun k hk => ?_, r2, r3, r4⟩
            rw [r1 k hk, g_ne (by omega)]
          have e5 : x 0 = (rs σ i j).1 := q5
          have e6 : x 1 = (rs σ i j).2 := q6
          obtain ⟨r1, r2, r3, r4, r5⟩ := id q1
          obtain ⟨t1, -⟩ := id r1
          replace hK := hK h3 ⟨ad, r1, r2, r3, r4, r5, q2⟩ hMF
          by_cases kk : k = 0
          · simp only [kk, if_true] at hK
            simp (decide := true) only [e82_0, e82_1, e82_2, e82_5, e82_5n, e82_7, e82_8, e82_9, e82_12, e82_12n, e82_14, e82_14n, e82_16, e82_16r, e82_19, e82_19n, e82_21, e82_21r, e82_24, e82_25, e82_26, e82_29, e82_31, e82_32, e82_33, e82_36, e82_37, e82_38, e82_41, e82_43, e82_44, e82_44n, e82_46n, e82_46, e82_49, e82_52, e82_53, e82_56, e82_58, e82_61, e82_63, e82_64, e82_65, e82_65i, e82_66, e82_69, e82_70, e82_71, e82_74, e82_75, e82_78, e82_79, e82_82, e82_83, e82_86, e82_86n, e82_88, e82_88n, e82_90, e82_93, e82_94, e82_97, e82_98, e82_101, e82_104, e82_107, e82_108, e82_111, e82_114, m82, ok_11_12_11, fv13_12, fs13_12, ok_11_8_11, fv13_8, ok_11_1_11, fv13_1, ok_11_2_11, fv13_2, ok_8_0_8, fv14_0, ok_8_1_8, fv14_1, Kt_some, Kt_none, V_ite, g_if, g_ss, g_1, g_2, g_cn, g_iok, g_sok, g_bok, g_jok, g_qok, g_ivl, g_jvl, g_qvl, g_ist, g_bst, g_jst, g_qst, g_aln, g_isa, g_dl1, g_dl2, g_dl3, g_dl4, g_dl5, g_dd, g_rfs, g_rfn, p_sm0, p_sm1, p_sm2, p_sm3, p_sm4, true_and, and_true, if_true, if_false, ↓reduceIte, Nat.reduceEqDiff, reduceCtorEq, or_true, true_or, and_self, Int32.reduceLT, Int32.reduceAdd, Int32.reduceSub, Int32.reduceToNatClampNeg, not_false_eq_true, not_true_eq_false, kk, t1, q4, e5]
            exact hK
          · simp only [kk, if_false] at hK
            simp (decide := true) only [e82_0, e82_1, e82_2, e82_5, e82_5n, e82_7, e82_8, e82_9, e82_12, e82_12n, e82_14, e82_14n, e82_16, e82_16r, e82_19, e82_19n, e82_21, e82_21r, e82_24, e82_25, e82_26, e82_29, e82_31, e82_32, e82_33, e82_36, e82_37, e82_38, e82_41, e82_43, e82_44, e82_44n, e82_46n, e82_46, e82_49, e82_52, e82_53, e82_56, e82_58, e82_61, e82_63, e82_64, e82_65, e82_65i, e82_66, e82_69, e82_70, e82_71, e82_74, e82_75, e82_78, e82_79, e82_82, e82_83, e82_86, e82_86n, e82_88, e82_88n, e82_90, e82_93, e82_94, e82_97, e82_98, e82_101, e82_104, e82_107, e82_108, e82_111, e82_114, m82, ok_11_12_11, fv13_12, fs13_12, ok_11_8_11, fv13_8, ok_11_1_11, fv13_1, ok_11_2_11, fv13_2, ok_8_0_8, fv14_0, ok_8_1_8, fv14_1, Kt_some, Kt_none, V_ite, g_if, g_ss, g_1, g_2, g_cn, g_iok, g_sok, g_bok, g_jok, g_qok, g_ivl, g_jvl, g_qvl, g_ist, g_bst, g_jst, g_qst, g_aln, g_isa, g_dl1, g_dl2, g_dl3, g_dl4, g_dl5, g_dd, g_rfs, g_rfn, p_sm0, p_sm1, p_sm2, p_sm3, p_sm4, true_and, and_true, if_true, if_false, ↓reduceIte, Nat.reduceEqDiff, reduceCtorEq, or_true, true_or, and_self, Int32.reduceLT, Int32.reduceAdd, Int32.reduceSub, Int32.reduceToNatClampNeg, not_false_eq_true, not_true_eq_false, kk, t1, q4, e6]
            exact hK
        · simp only [hp, h40, if_true, if_false] at hK
          simp (decide := true) only [e82_0, e82_1, e82_2, e82_5, e82_5n, e82_7, e82_8, e82_9, e82_12, e82_12n, e82_14, e82_14n, e82_16, e82_16r, e82_19, e82_19n, e82_21, e82_21r, e82_24, e82_25, e82_26, e82_29, e82_31, e82_32, e82_33, e82_36, e82_37, e82_38, e82_41, e82_43, e82_44, e82_44n, e82_46n, e82_46, e82_49, e82_52, e82_53, e82_56, e82_58, e82_61, e82_63, e82_64, e82_65, e82_65i, e82_66, e82_69, e82_70, e82_71, e82_74, e82_75, e82_78, e82_79, e82_82, e82_83, e82_86, e82_86n, e82_88, e82_88n, e82_90, e82_93, e82_94, e82_97, e82_98, e82_101, e82_104, e82_107, e82_108, e82_111, e82_114, m82, ok_11_12_11, fv13_12, fs13_12, ok_11_8_11, fv13_8, ok_11_1_11, fv13_1, ok_11_2_11, fv13_2, ok_8_0_8, fv14_0, ok_8_1_8, fv14_1, Kt_some, Kt_none, V_ite, g_if, g_ss, g_1, g_2, g_cn, g_iok, g_sok, g_bok, g_jok, g_qok, g_ivl, g_jvl, g_qvl, g_ist, g_bst, g_jst, g_qst, g_aln, g_isa, g_dl1, g_dl2, g_dl3, g_dl4, g_dl5, g_dd, g_rfs, g_rfn, p_sm0, p_sm1, p_sm2, p_sm3, p_sm4, true_and, and_true, if_true, if_false, ↓reduceIte, Nat.reduceEqDiff, reduceCtorEq, or_true, true_or, and_self, Int32.reduceLT, Int32.reduceAdd, Int32.reduceSub, Int32.reduceToNatClampNeg, not_false_eq_true, not_true_eq_false, a1, c100 hI hA hB, b0, b1, c0, c1, bc, k0, k1, hi2, hj2, hbj, hj6, i_ite, hp, h40]
          exact hK h hC (MF_rf h)
      · simp only [hp, if_false] at hK
        simp (decide := true) only [e82_0, e82_1, e82_2, e82_5, e82_5n, e82_7, e82_8, e82_9, e82_12, e82_12n, e82_14, e82_14n, e82_16, e82_16r, e82_19, e82_19n, e82_21, e82_21r, e82_24, e82_25, e82_26, e82_29, e82_31, e82_32, e82_33, e82_36, e82_37, e82_38, e82_41, e82_43, e82_44, e82_44n, e82_46n, e82_46, e82_49, e82_52, e82_53, e82_56, e82_58, e82_61, e82_63, e82_64, e82_65, e82_65i, e82_66, e82_69, e82_70, e82_71, e82_74, e82_75, e82_78, e82_79, e82_82, e82_83, e82_86, e82_86n, e82_88, e82_88n, e82_90, e82_93, e82_94, e82_97, e82_98, e82_101, e82_104, e82_107, e82_108, e82_111, e82_114, m82, ok_11_12_11, fv13_12, fs13_12, ok_11_8_11, fv13_8, ok_11_1_11, fv13_1, ok_11_2_11, fv13_2, ok_8_0_8, fv14_0, ok_8_1_8, fv14_1, Kt_some, Kt_none, V_ite, g_if, g_ss, g_1, g_2, g_cn, g_iok, g_sok, g_bok, g_jok, g_qok, g_ivl, g_jvl, g_qvl, g_ist, g_bst, g_jst, g_qst, g_aln, g_isa, g_dl1, g_dl2, g_dl3, g_dl4, g_dl5, g_dd, g_rfs, g_rfn, p_sm0, p_sm1, p_sm2, p_sm3, p_sm4, true_and, and_true, if_true, if_false, ↓reduceIte, Nat.reduceEqDiff, reduceCtorEq, or_true, true_or, and_self, Int32.reduceLT, Int32.reduceAdd, Int32.reduceSub, Int32.reduceToNatClampNeg, not_false_eq_true, not_true_eq_false, a1, c100 hI hA hB, b0, b1, c0, c1, bc, k0, k1, hi2, hj2, hbj, hj6, i_ite, hp]
        exact hK h hC (MF_rf h)
    · simp only [b0, b1, c0, c1, if_true, if_false] at hK
      simp (decide := true) only [e82_0, e82_1, e82_2, e82_5, e82_5n, e82_7, e82_8, e82_9, e82_12, e82_12n, e82_14, e82_14n, e82_16, e82_16r, e82_19, e82_19n, e82_21, e82_21r, e82_24, e82_25, e82_26, e82_29, e82_31, e82_32, e82_33, e82_36, e82_37, e82_38, e82_41, e82_43, e82_44, e82_44n, e82_46n, e82_46, e82_49, e82_52, e82_53, e82_56, e82_58, e82_61, e82_63, e82_64, e82_65, e82_65i, e82_66, e82_69, e82_70, e82_71, e82_74, e82_75, e82_78, e82_79, e82_82, e82_83, e82_86, e82_86n, e82_88, e82_88n, e82_90, e82_93, e82_94, e82_97, e82_98, e82_101, e82_104, e82_107, e82_108, e82_111, e82_114, m82, ok_11_12_11, fv13_12, fs13_12, ok_11_8_11, fv13_8, ok_11_1_11, fv13_1, ok_11_2_11, fv13_2, ok_8_0_8, fv14_0, ok_8_1_8, fv14_1, Kt_some, Kt_none, V_ite, g_if, g_ss, g_1, g_2, g_cn, g_iok, g_sok, g_bok, g_jok, g_qok, g_ivl, g_jvl, g_qvl, g_ist, g_bst, g_jst, g_qst, g_aln, g_isa, g_dl1, g_dl2, g_dl3, g_dl4, g_dl5, g_dd, g_rfs, g_rfn, p_sm0, p_sm1, p_sm2, p_sm3, p_sm4, true_and, and_true, if_true, if_false, ↓reduceIte, Nat.reduceEqDiff, reduceCtorEq, or_true, true_or, and_self, Int32.reduceLT, Int32.reduceAdd, Int32.reduceSub, Int32.reduceToNatClampNeg, not_false_eq_true, not_true_eq_false, a1, c100 hI hA hB, b0, b1, c0, c1]
      exact hK h hC (MF_rf h)
  · simp only [b0, b1, if_true, if_false] at hK
    by_cases c0 : c < 0
    · simp (decide := true) only [e82_0, e82_1, e82_2, e82_5, e82_5n, e82_7, e82_8, e82_9, e82_12, e82_12n, e82_14, e82_14n, e82_16, e82_16r, e82_19, e82_19n, e82_21, e82_21r, e82_24, e82_25, e82_26, e82_29, e82_31, e82_32, e82_33, e82_36, e82_37, e82_38, e82_41, e82_43, e82_44, e82_44n, e82_46n, e82_46, e82_49, e82_52, e82_53, e82_56, e82_58, e82_61, e82_63, e82_64, e82_65, e82_65i, e82_66, e82_69, e82_70, e82_71, e82_74, e82_75, e82_78, e82_79, e82_82, e82_83, e82_86, e82_86n, e82_88, e82_88n, e82_90, e82_93, e82_94, e82_97, e82_98, e82_101, e82_104, e82_107, e82_108, e82_111, e82_114, m82, ok_11_12_11, fv13_12, fs13_12, ok_11_8_11, fv13_8, ok_11_1_11, fv13_1, ok_11_2_11, fv13_2, ok_8_0_8, fv14_0, ok_8_1_8, fv14_1, Kt_some, Kt_none, V_ite, g_if, g_ss, g_1, g_2, g_cn, g_iok, g_sok, g_bok, g_jok, g_qok, g_ivl, g_jvl, g_qvl, g_ist, g_bst, g_jst, g_qst, g_aln, g_isa, g_dl1, g_dl2, g_dl3, g_dl4, g_dl5, g_dd, g_rfs, g_rfn, p_sm0, p_sm1, p_sm2, p_sm3, p_sm4, true_and, and_true, if_true, if_false, ↓reduceIte, Nat.reduceEqDiff, reduceCtorEq, or_true, true_or, and_self, Int32.reduceLT, Int32.reduceAdd, Int32.reduceSub, Int32.reduceToNatClampNeg, not_false_eq_true, not_true_eq_false, a1, c100 hI hA hB, b0, b1, c0]
      exact hK h hC (MF_rf h)
    · by_cases c1 : c < σ 0 2
      · simp (decide := true) only [e82_0, e82_1, e82_2, e82_5, e82_5n, e82_7, e82_8, e82_9, e82_12, e82_12n, e82_14, e82_14n, e82_16, e82_16r, e82_19, e82_19n, e82_21, e82_21r, e82_24, e82_25, e82_26, e82_29, e82_31, e82_32, e82_33, e82_36, e82_37, e82_38, e82_41, e82_43, e82_44, e82_44n, e82_46n, e82_46, e82_49, e82_52, e82_53, e82_56, e82_58, e82_61, e82_63, e82_64, e82_65, e82_65i, e82_66, e82_69, e82_70, e82_71, e82_74, e82_75, e82_78, e82_79, e82_82, e82_83, e82_86, e82_86n, e82_88, e82_88n, e82_90, e82_93, e82_94, e82_97, e82_98, e82_101, e82_104, e82_107, e82_108, e82_111, e82_114, m82, ok_11_12_11, fv13_12, fs13_12, ok_11_8_11, fv13_8, ok_11_1_11, fv13_1, ok_11_2_11, fv13_2, ok_8_0_8, fv14_0, ok_8_1_8, fv14_1, Kt_some, Kt_none, V_ite, g_if, g_ss, g_1, g_2, g_cn, g_iok, g_sok, g_bok, g_jok, g_qok, g_ivl, g_jvl, g_qvl, g_ist, g_bst, g_jst, g_qst, g_aln, g_isa, g_dl1, g_dl2, g_dl3, g_dl4, g_dl5, g_dd, g_rfs, g_rfn, p_sm0, p_sm1, p_sm2, p_sm3, p_sm4, true_and, and_true, if_true, if_false, ↓reduceIte, Nat.reduceEqDiff, reduceCtorEq, or_true, true_or, and_self, Int32.reduceLT, Int32.reduceAdd, Int32.reduceSub, Int32.reduceToNatClampNeg, not_false_eq_true, not_true_eq_false, a1, c100 hI hA hB, b0, b1, c0, c1]
        exact hK h hC (MF_rf h)
      · simp (decide := true) only [e82_0, e82_1, e82_2, e82_5, e82_5n, e82_7, e82_8, e82_9, e82_12, e82_12n, e82_14, e82_14n, e82_16, e82_16r, e82_19, e82_19n, e82_21, e82_21r, e82_24, e82_25, e82_26, e82_29, e82_31, e82_32, e82_33, e82_36, e82_37, e82_38, e82_41, e82_43, e82_44, e82_44n, e82_46n, e82_46, e82_49, e82_52, e82_53, e82_56, e82_58, e82_61, e82_63, e82_64, e82_65, e82_65i, e82_66, e82_69, e82_70, e82_71, e82_74, e82_75, e82_78, e82_79, e82_82, e82_83, e82_86, e82_86n, e82_88, e82_88n, e82_90, e82_93, e82_94, e82_97, e82_98, e82_101, e82_104, e82_107, e82_108, e82_111, e82_114, m82, ok_11_12_11, fv13_12, fs13_12, ok_11_8_11, fv13_8, ok_11_1_11, fv13_1, ok_11_2_11, fv13_2, ok_8_0_8, fv14_0, ok_8_1_8, fv14_1, Kt_some, Kt_none, V_ite, g_if, g_ss, g_1, g_2, g_cn, g_iok, g_sok, g_bok, g_jok, g_qok, g_ivl, g_jvl, g_qvl, g_ist, g_bst, g_jst, g_qst, g_aln, g_isa, g_dl1, g_dl2, g_dl3, g_dl4, g_dl5, g_dd, g_rfs, g_rfn, p_sm0, p_sm1, p_sm2, p_sm3, p_sm4, true_and, and_true, if_true, if_false, ↓reduceIte, Nat.reduceEqDiff, reduceCtorEq, or_true, true_or, and_self, Int32.reduceLT, Int32.reduceAdd, Int32.reduceSub, Int32.reduceToNatClampNeg, not_false_eq_true, not_true_eq_false, a1, c100 hI hA hB, b0, b1, c0, c1]
        exact hK h hC (MF_rf h)
end S38
