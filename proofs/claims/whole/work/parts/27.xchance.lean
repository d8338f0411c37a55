section S27
variable {σ : pS} {h : pH} {K Q : Option Value → pH → Prop} {ad : Nat → Nat} {e e2 : pE} {N a : Nat}
/-- six weights over what lies behind them -/
def ov (b g : Nat → Int64) : Nat → Int64 := fun j => if j < 6 then g j else b j
theorem ov_u (b g : Nat → Int64) {i : Nat} (hi : i < 6) (x : Int64) : vp_updL (ov b g) i x = ov b (vp_updL g i x) := by
  funext j
  unfold ov
  by_cases hj : j = i
  · subst hj
    rw [pk_uLs, if_pos hi, pk_uLs]
  · rw [pk_uLn hj, pk_uLn hj]
theorem ov_v (b g : Nat → Int64) {i : Nat} (hi : i < 6) : ov b g i = g i := by unfold ov; rw [if_pos hi]
theorem ov_o (b g k : Nat → Int64) : ov (ov b g) k = ov b k := by
  funext j
  unfold ov
  by_cases hj : j < 6
  · rw [if_pos hj, if_pos hj]
  · rw [if_neg hj, if_neg hj, if_neg hj]
theorem ov_c (b g w : Nat → Int64) : va_cpy (ov b g) w 0 0 6 = ov w g := by
  funext j
  unfold va_cpy ov
  by_cases hj : j < 6 <;> simp [hj]
theorem ov_f (b : Nat → Int64) : fi b 0 6 = ov b (fun _ => 0) := rfl
/-- a day's weights, those of the first v amounts told -/
def dw (H L : Nat) (t : Int32) (w : Nat → Int64) : Nat → (Nat → Int64)
  | 0 => fun _ => 0
  | v + 1 => vp_updL (vp_updL (dw H L t w v) (min (v + 1) H - L) (dw H L t w v (min (v + 1) H - L) + w v * t.toInt64)) (min v H - L) (vp_updL (dw H L t w v) (min (v + 1) H - L) (dw H L t w v (min (v + 1) H - L) + w v * t.toInt64) (min v H - L) + w v * (10 - t).toInt64)
theorem dw_c (H L : Nat) (t : Int32) (b w : Nat → Int64) : ∀ v, v ≤ 6 → dw H L t (ov b w) v = dw H L t w v
  | 0, _ => rfl
  | v + 1, hv => by
    unfold dw
    rw [dw_c H L t b w v (by omega), ov_v b w (show v < 6 by omega)]
theorem mm_n {v H L : Nat} (hv : v < 100) (hH : H < 100) (hL : L < 100) : mx 0 (mn (nI v) (nI H) - nI L) = nI (min v H - L) := by
  have e1 : mn (nI v) (nI H) = nI (min v H) := by
    unfold mn
    by_cases hq : H < v
    · rw [if_pos (nI_lt hq (by omega))]
      congr 1
      omega
    · rw [if_neg (nI_nlt (by omega) (by omega))]
      congr 1
      omega
  rw [e1]
  unfold mx
  by_cases hq : L ≤ min v H
  · rw [pk_sub hq]
    by_cases h0 : min v H - L = 0
    · rw [h0]
      exact if_neg (by decide)
    · exact if_pos (nI_lt (a := 0) (by omega) (by omega))
  · rw [show min v H - L = 0 by omega]
    refine if_neg (fun q => ?_)
    have := pk_sneg (a := min v H) (b := L) (by omega) (by omega)
    exact absurd (Int32.lt_trans q this) (by decide)
abbrev oO : pE := .inr (5, [.ref 27, .ref 28])
theorem l26 {b H L n : Nat} {t : Int32} {fh fl : Nat → Int32} (a4 : p_get h 4 = some (oS 5 6 (nI n))) (a5 : p_get h 5 = some (aI 4 fh)) (a6 : p_get h 6 = some (aI 4 fl)) (h26 : p_get h 26 = some oO) (hn : n ≤ 4) (hb : b < n) (hH : fh b = nI H) (hL : fl b = nI L) (hH5 : H ≤ 5) (hL5 : L ≤ 5) (w0 w u : Nat → Int64) : ∀ (d v : Nat) (l5 l6 : Option Value), v + d = 6 → V 26 11 [some (.ref 26), some (.ref 4), some (.int (nI b)), some (.int t), some (.int (nI v)), l5, l6] [] (p_set (p_set h 27 (aJ 6 (ov w0 w))) 28 (aJ 6 (ov u (dw H L t w v)))) K = K none (p_set (p_set h 27 (aJ 6 (ov w0 (dw H L t w 6)))) 28 (aJ 6 (ov u (dw H L t w 6)))) := by
  intro d
  induction d with
  | zero =>
    intro v l5 l6 hv
    have e1 : (5 < nI v) = True := nI_T (a := 5) (b := v) (by omega) (by omega)
    have e2 : v = 6 := by omega
    subst e2
    rw [e26_11]
    simp (decide := true) only [e26_0, e26_1, e26_4, e26_5, e26_8, e26_9, e26_13, e26_14, e26_17, e26_17n, e26_18, e26_19, e26_19n, e26_20, e26_21, e26_23, e26_24, e26_25, e26_28, e26_31, e26_33, e26_33n, e26_34, e26_35, e26_35n, e26_36, e26_37, e26_39, e26_42, e26_45, e26_47, e26_48, e26_51, e26_53, e26_54, e26_55, e26_56, e26_59, e26_61, e26_62, e26_63, e26_64, e26_65, e26_66, e26_67, e26_68, e26_71, e26_73, e26_74, e26_75, e26_76, e26_79, e26_81, e26_82, e26_84, e26_85, e26_86, e26_87, e26_88, e26_89, e26_90, e26_93, e26_96, e26_97, e26_100, e26_101, e26_102, e26_105, e26_106, e26_108, e26_111, m26, ok_5_1_5, fv2_1, ok_5_0_5, fv2_0, Kt_some, Kt_none, V_ite, g_if, g_ss, g_1, g_2, g_cn, g_iok, g_sok, g_bok, g_jok, g_qok, g_ivl, g_jvl, g_qvl, g_ist, g_bst, g_jst, g_qst, g_aln, g_isa, g_dl1, g_dl2, g_dl3, g_dl4, g_dl5, g_dd, g_rfs, g_rfn, p_sm0, p_sm1, p_sm2, p_sm3, p_sm4, true_and, and_true, if_true, if_false, ↓reduceIte, Nat.reduceEqDiff, reduceCtorEq, or_true, true_or, and_self, Int32.reduceLT, Int32.reduceAdd, Int32.reduceSub, Int32.reduceToNatClampNeg, not_false_eq_true, not_true_eq_false, e1, h26, p_aci, p_acv, show (6 : Int32).toNatClampNeg = 6 from rfl, show (0 : Int32).toNatClampNeg = 0 from rfl, Nat.zero_add, Nat.le_refl, ov_c, ov_o, g_comm (show (28 : Nat) ≠ 27 by decide)]
  | succ d ih =>
    intro v l5 l6 hv
    have e1 : (5 < nI v) = False := nI_F (a := 5) (b := v) (by omega) (by omega)
    have r1 := nI_0F (a := b) (by omega)
    have r2 := nI_T hb (by omega)
    have r3 := vp_T (show b < 4 by omega) (by omega)
    have r4 := nI_c (a := b) (by omega)
    have b4 : ∀ x y, p_get (p_set (p_set h 27 x) 28 y) 4 = some (oS 5 6 (nI n)) := fun x y => by simp (decide := true) only [Kt_some, Kt_none, V_ite, g_if, g_ss, g_1, g_2, g_cn, g_iok, g_sok, g_bok, g_jok, g_qok, g_ivl, g_jvl, g_qvl, g_ist, g_bst, g_jst, g_qst, g_aln, g_isa, g_dl1, g_dl2, g_dl3, g_dl4, g_dl5, g_dd, g_rfs, g_rfn, p_sm0, p_sm1, p_sm2, p_sm3, p_sm4, true_and, and_true, if_true, if_false, ↓reduceIte, Nat.reduceEqDiff, reduceCtorEq, or_true, true_or, and_self, Int32.reduceLT, Int32.reduceAdd, Int32.reduceSub, Int32.reduceToNatClampNeg, not_false_eq_true, not_true_eq_false, a4]
    have b5 : ∀ x y, p_get (p_set (p_set h 27 x) 28 y) 5 = some (aI 4 fh) := fun x y => by simp (decide := true) only [Kt_some, Kt_none, V_ite, g_if, g_ss, g_1, g_2, g_cn, g_iok, g_sok, g_bok, g_jok, g_qok, g_ivl, g_jvl, g_qvl, g_ist, g_bst, g_jst, g_qst, g_aln, g_isa, g_dl1, g_dl2, g_dl3, g_dl4, g_dl5, g_dd, g_rfs, g_rfn, p_sm0, p_sm1, p_sm2, p_sm3, p_sm4, true_and, and_true, if_true, if_false, ↓reduceIte, Nat.reduceEqDiff, reduceCtorEq, or_true, true_or, and_self, Int32.reduceLT, Int32.reduceAdd, Int32.reduceSub, Int32.reduceToNatClampNeg, not_false_eq_true, not_true_eq_false, a5]
    have b6 : ∀ x y, p_get (p_set (p_set h 27 x) 28 y) 6 = some (aI 4 fl) := fun x y => by simp (decide := true) only [Kt_some, Kt_none, V_ite, g_if, g_ss, g_1, g_2, g_cn, g_iok, g_sok, g_bok, g_jok, g_qok, g_ivl, g_jvl, g_qvl, g_ist, g_bst, g_jst, g_qst, g_aln, g_isa, g_dl1, g_dl2, g_dl3, g_dl4, g_dl5, g_dd, g_rfs, g_rfn, p_sm0, p_sm1, p_sm2, p_sm3, p_sm4, true_and, and_true, if_true, if_false, ↓reduceIte, Nat.reduceEqDiff, reduceCtorEq, or_true, true_or, and_self, Int32.reduceLT, Int32.reduceAdd, Int32.reduceSub, Int32.reduceToNatClampNeg, not_false_eq_true, not_true_eq_false, a6]
    have m1 := mm_n (v := v + 1) (H := H) (L := L) (by omega) (by omega) (by omega)
    have m2 := mm_n (v := v) (H := H) (L := L) (by omega) (by omega) (by omega)
    have v1 := vp_T (show min (v + 1) H - L < 6 by omega) (by omega)
    have v2 := vp_T (show min v H - L < 6 by omega) (by omega)
    have v3 := vp_T (show v < 6 by omega) (by omega)
    have c1 := nI_c (a := min (v + 1) H - L) (by omega)
    have c2 := nI_c (a := min v H - L) (by omega)
    have c3 := nI_c (a := v) (by omega)
    have o1 := fun g => ov_v u g (show min (v + 1) H - L < 6 by omega)
    have o2 := fun g => ov_v u g (show min v H - L < 6 by omega)
    have o3 := ov_v w0 w (show v < 6 by omega)
    have u1 := fun g => ov_u u g (show min (v + 1) H - L < 6 by omega)
    have u2 := fun g => ov_u u g (show min v H - L < 6 by omega)
    have := ih (v + 1) (some (.int (nI (min (v + 1) H - L)))) (some (.int (nI (min v H - L)))) (by omega)
    rw [e26_11]
    simp (decide := true) only [e26_0, e26_1, e26_4, e26_5, e26_8, e26_9, e26_13, e26_14, e26_17, e26_17n, e26_18, e26_19, e26_19n, e26_20, e26_21, e26_23, e26_24, e26_25, e26_28, e26_31, e26_33, e26_33n, e26_34, e26_35, e26_35n, e26_36, e26_37, e26_39, e26_42, e26_45, e26_47, e26_48, e26_51, e26_53, e26_54, e26_55, e26_56, e26_59, e26_61, e26_62, e26_63, e26_64, e26_65, e26_66, e26_67, e26_68, e26_71, e26_73, e26_74, e26_75, e26_76, e26_79, e26_81, e26_82, e26_84, e26_85, e26_86, e26_87, e26_88, e26_89, e26_90, e26_93, e26_96, e26_97, e26_100, e26_101, e26_102, e26_105, e26_106, e26_108, e26_111, m26, ok_5_1_5, fv2_1, ok_5_0_5, fv2_0, Kt_some, Kt_none, V_ite, g_if, g_ss, g_1, g_2, g_cn, g_iok, g_sok, g_bok, g_jok, g_qok, g_ivl, g_jvl, g_qvl, g_ist, g_bst, g_jst, g_qst, g_aln, g_isa, g_dl1, g_dl2, g_dl3, g_dl4, g_dl5, g_dd, g_rfs, g_rfn, p_sm0, p_sm1, p_sm2, p_sm3, p_sm4, true_and, and_true, if_true, if_false, ↓reduceIte, Nat.reduceEqDiff, reduceCtorEq, or_true, true_or, and_self, Int32.reduceLT, Int32.reduceAdd, Int32.reduceSub, Int32.reduceToNatClampNeg, not_false_eq_true, not_true_eq_false, e1, c63 (b4 _ _) (b5 _ _), c62 (b4 _ _) (b6 _ _), a4, r1, r2, r3, r4, hH, hL, nI_1, m1, m2, h26, v1, v2, v3, c1, c2, c3, o1, o2, o3, u1, u2]
    exact this
/-- Odds.passDay -/
theorem c26 {b H L n : Nat} {t : Int32} {fh fl : Nat → Int32} {w0 w u : Nat → Int64} (a4 : p_get h 4 = some (oS 5 6 (nI n))) (a5 : p_get h 5 = some (aI 4 fh)) (a6 : p_get h 6 = some (aI 4 fl)) (h26 : p_get h 26 = some oO) (hn : n ≤ 4) (hb : b < n) (hH : fh b = nI H) (hL : fl b = nI L) (hH5 : H ≤ 5) (hL5 : L ≤ 5) (h27 : p_get h 27 = some (aJ 6 (ov w0 w))) (h28 : p_get h 28 = some (aJ 6 u)) : Vm 26 [.ref 26, .ref 4, .int (nI b), .int t] h K = K none (p_set (p_set h 27 (aJ 6 (ov w0 (dw H L t w 6)))) 28 (aJ 6 (ov u (dw H L t w 6)))) := by
  have := l26 (K := K) (t := t) a4 a5 a6 h26 hn hb hH hL hH5 hL5 w0 w u 6 0 none none (by omega)
  rw [g_same h27, show dw H L t w 0 = (fun _ => 0) from rfl, ← ov_f] at this
  simp (decide := true) only [e26_0, e26_1, e26_4, e26_5, e26_8, e26_9, e26_13, e26_14, e26_17, e26_17n, e26_18, e26_19, e26_19n, e26_20, e26_21, e26_23, e26_24, e26_25, e26_28, e26_31, e26_33, e26_33n, e26_34, e26_35, e26_35n, e26_36, e26_37, e26_39, e26_42, e26_45, e26_47, e26_48, e26_51, e26_53, e26_54, e26_55, e26_56, e26_59, e26_61, e26_62, e26_63, e26_64, e26_65, e26_66, e26_67, e26_68, e26_71, e26_73, e26_74, e26_75, e26_76, e26_79, e26_81, e26_82, e26_84, e26_85, e26_86, e26_87, e26_88, e26_89, e26_90, e26_93, e26_96, e26_97, e26_100, e26_101, e26_102, e26_105, e26_106, e26_108, e26_111, m26, ok_5_1_5, fv2_1, ok_5_0_5, fv2_0, Kt_some, Kt_none, V_ite, g_if, g_ss, g_1, g_2, g_cn, g_iok, g_sok, g_bok, g_jok, g_qok, g_ivl, g_jvl, g_qvl, g_ist, g_bst, g_jst, g_qst, g_aln, g_isa, g_dl1, g_dl2, g_dl3, g_dl4, g_dl5, g_dd, g_rfs, g_rfn, p_sm0, p_sm1, p_sm2, p_sm3, p_sm4, true_and, and_true, if_true, if_false, ↓reduceIte, Nat.reduceEqDiff, reduceCtorEq, or_true, true_or, and_self, Int32.reduceLT, Int32.reduceAdd, Int32.reduceSub, Int32.reduceToNatClampNeg, not_false_eq_true, not_true_eq_false, h26, c168 (show 6 < 100000 by omega) h28]
  exact this
/-- the weights after days -/
def dd (H L : Nat) (t : Int32) (w : Nat → Int64) : Nat → (Nat → Int64)
  | 0 => w
  | d + 1 => dw H L t (dd H L t w d) 6
theorem l86 {b H L n D : Nat} {t : Int32} {l4 l5 l7 l8 l9 l10 l11 : Option Value} {fh fl : Nat → Int32} {b2 b3 b4 b5 : Int32} (hD : D ≤ 9) (a1 : p_get h 1 = some (oW b2 b3 b4 b5)) (a4 : p_get h 4 = some (oS 5 6 (nI n))) (a5 : p_get h 5 = some (aI 4 fh)) (a6 : p_get h 6 = some (aI 4 fl)) (h26 : p_get h 26 = some oO) (hn : n ≤ 4) (hb : b < n) (hH : fh b = nI H) (hL : fl b = nI L) (hH5 : H ≤ 5) (hL5 : L ≤ 5) (w0 w : Nat → Int64) : ∀ (d i : Nat) (u : Nat → Int64), i + d = D → ∃ u2 : Nat → Int64, V 86 86 [some (.ref 1), some (.int (nI b)), some (.int (nI D)), some (.int t), l4, p_dl l5, some (.int (nI i)), l7, l8, l9, l10, l11] [] (p_set (p_set h 27 (aJ 6 (ov w0 (dd H L t w i)))) 28 (aJ 6 u)) K = V 86 111 [some (.ref 1), some (.int (nI b)), some (.int (nI D)), some (.int t), l4, p_dl l5, some (.int (nI D)), l7, l8, l9, l10, l11] [] (p_set (p_set h 27 (aJ 6 (ov w0 (dd H L t w D)))) 28 (aJ 6 u2)) K := by
  intro d
  induction d with
  | zero =>
    intro i u hi
    have e1 := nI_F (a := i) (b := D) (by omega) (by omega)
    have e2 : i = D := by omega
    subst e2
    refine ⟨u, ?_⟩
    rw [e86_86]
    simp (decide := true) only [e86_0, e86_1, e86_4, e86_5, e86_8, e86_9, e86_12, e86_15, e86_18, e86_19, e86_20, e86_21, e86_24, e86_25, e86_27, e86_30, e86_31, e86_34, e86_35, e86_37, e86_40, e86_43, e86_44, e86_46, e86_49, e86_51, e86_52, e86_55, e86_57, e86_60, e86_62, e86_63, e86_66, e86_69, e86_70, e86_71, e86_74, e86_75, e86_78, e86_79, e86_80, e86_83, e86_84, e86_88, e86_89, e86_92, e86_93, e86_96, e86_97, e86_100, e86_101, e86_102, e86_105, e86_108, e86_112, e86_115, e86_117, e86_120, e86_122, e86_123, e86_126, e86_127, e86_130, e86_132, e86_133, e86_135, e86_137, e86_140, e86_143, e86_145, e86_147, e86_150, e86_152, e86_155, e86_157, e86_159, e86_160, m86, ok_11_1_11, fv13_1, ok_11_7_11, fv13_7, ok_11_2_11, fv13_2, Kt_some, Kt_none, V_ite, g_if, g_ss, g_1, g_2, g_cn, g_iok, g_sok, g_bok, g_jok, g_qok, g_ivl, g_jvl, g_qvl, g_ist, g_bst, g_jst, g_qst, g_aln, g_isa, g_dl1, g_dl2, g_dl3, g_dl4, g_dl5, g_dd, g_rfs, g_rfn, p_sm0, p_sm1, p_sm2, p_sm3, p_sm4, true_and, and_true, if_true, if_false, ↓reduceIte, Nat.reduceEqDiff, reduceCtorEq, or_true, true_or, and_self, Int32.reduceLT, Int32.reduceAdd, Int32.reduceSub, Int32.reduceToNatClampNeg, not_false_eq_true, not_true_eq_false, e1]
  | succ d ih =>
    intro i u hi
    have e1 := nI_T (a := i) (b := D) (by omega) (by omega)
    have hp := fun Q => c26 (K := Q) (h := p_set (p_set h 27 (aJ 6 (ov w0 (dd H L t w i)))) 28 (aJ 6 u)) (t := t) (w0 := w0) (w := dd H L t w i) (u := u) (fh := fh) (fl := fl) (b := b) (H := H) (L := L) (n := n) (by simp (decide := true) only [Kt_some, Kt_none, V_ite, g_if, g_ss, g_1, g_2, g_cn, g_iok, g_sok, g_bok, g_jok, g_qok, g_ivl, g_jvl, g_qvl, g_ist, g_bst, g_jst, g_qst, g_aln, g_isa, g_dl1, g_dl2, g_dl3, g_dl4, g_dl5, g_dd, g_rfs, g_rfn, p_sm0, p_sm1, p_sm2, p_sm3, p_sm4, true_and, and_true, if_true, if_false, ↓reduceIte, Nat.reduceEqDiff, reduceCtorEq, or_true, true_or, and_self, Int32.reduceLT, Int32.reduceAdd, Int32.reduceSub, Int32.reduceToNatClampNeg, not_false_eq_true, not_true_eq_false, a4]) (by simp (decide := true) only [Kt_some, Kt_none, V_ite, g_if, g_ss, g_1, g_2, g_cn, g_iok, g_sok, g_bok, g_jok, g_qok, g_ivl, g_jvl, g_qvl, g_ist, g_bst, g_jst, g_qst, g_aln, g_isa, g_dl1, g_dl2, g_dl3, g_dl4, g_dl5, g_dd, g_rfs, g_rfn, p_sm0, p_sm1, p_sm2, p_sm3, p_sm4, true_and, and_true, if_true, if_false, ↓reduceIte, Nat.reduceEqDiff, reduceCtorEq, or_true, true_or, and_self, Int32.reduceLT, Int32.reduceAdd, Int32.reduceSub, Int32.reduceToNatClampNeg, not_false_eq_true, not_true_eq_false, a5]) (by simp (decide := true) only [Kt_some, Kt_none, V_ite, g_if, g_ss, g_1, g_2, g_cn, g_iok, g_sok, g_bok, g_jok, g_qok, g_ivl, g_jvl, g_qvl, g_ist, g_bst, g_jst, g_qst, g_aln, g_isa, g_dl1, g_dl2, g_dl3, g_dl4, g_dl5, g_dd, g_rfs, g_rfn, p_sm0, p_sm1, p_sm2, p_sm3, p_sm4, true_and, and_true, if_true, if_false, ↓reduceIte, Nat.reduceEqDiff, reduceCtorEq, or_true, true_or, and_self, Int32.reduceLT, Int32.reduceAdd, Int32.reduceSub, Int32.reduceToNatClampNeg, not_false_eq_true, not_true_eq_false, a6]) (by simp (decide := true) only [Kt_some, Kt_none, V_ite, g_if, g_ss, g_1, g_2, g_cn, g_iok, g_sok, g_bok, g_jok, g_qok, g_ivl, g_jvl, g_qvl, g_ist, g_bst, g_jst, g_qst, g_aln, g_isa, g_dl1, g_dl2, g_dl3, g_dl4, g_dl5, g_dd, g_rfs, g_rfn, p_sm0, p_sm1, p_sm2, p_sm3, p_sm4, true_and, and_true, if_true, if_false, ↓reduceIte, Nat.reduceEqDiff, reduceCtorEq, or_true, true_or, and_self, Int32.reduceLT, Int32.reduceAdd, Int32.reduceSub, Int32.reduceToNatClampNeg, not_false_eq_true, not_true_eq_false, h26]) hn hb hH hL hH5 hL5 (by simp (decide := true) only [Kt_some, Kt_none, V_ite, g_if, g_ss, g_1, g_2, g_cn, g_iok, g_sok, g_bok, g_jok, g_qok, g_ivl, g_jvl, g_qvl, g_ist, g_bst, g_jst, g_qst, g_aln, g_isa, g_dl1, g_dl2, g_dl3, g_dl4, g_dl5, g_dd, g_rfs, g_rfn, p_sm0, p_sm1, p_sm2, p_sm3, p_sm4, true_and, and_true, if_true, if_false, ↓reduceIte, Nat.reduceEqDiff, reduceCtorEq, or_true, true_or, and_self, Int32.reduceLT, Int32.reduceAdd, Int32.reduceSub, Int32.reduceToNatClampNeg, not_false_eq_true, not_true_eq_false]) (by simp (decide := true) only [Kt_some, Kt_none, V_ite, g_if, g_ss, g_1, g_2, g_cn, g_iok, g_sok, g_bok, g_jok, g_qok, g_ivl, g_jvl, g_qvl, g_ist, g_bst, g_jst, g_qst, g_aln, g_isa, g_dl1, g_dl2, g_dl3, g_dl4, g_dl5, g_dd, g_rfs, g_rfn, p_sm0, p_sm1, p_sm2, p_sm3, p_sm4, true_and, and_true, if_true, if_false, ↓reduceIte, Nat.reduceEqDiff, reduceCtorEq, or_true, true_or, and_self, Int32.reduceLT, Int32.reduceAdd, Int32.reduceSub, Int32.reduceToNatClampNeg, not_false_eq_true, not_true_eq_false])
    obtain ⟨u2, hu⟩ := ih (i + 1) (ov u (dw H L t (dd H L t w i) 6)) (by omega)
    refine ⟨u2, ?_⟩
    rw [e86_86]
    simp (decide := true) only [e86_0, e86_1, e86_4, e86_5, e86_8, e86_9, e86_12, e86_15, e86_18, e86_19, e86_20, e86_21, e86_24, e86_25, e86_27, e86_30, e86_31, e86_34, e86_35, e86_37, e86_40, e86_43, e86_44, e86_46, e86_49, e86_51, e86_52, e86_55, e86_57, e86_60, e86_62, e86_63, e86_66, e86_69, e86_70, e86_71, e86_74, e86_75, e86_78, e86_79, e86_80, e86_83, e86_84, e86_88, e86_89, e86_92, e86_93, e86_96, e86_97, e86_100, e86_101, e86_102, e86_105, e86_108, e86_112, e86_115, e86_117, e86_120, e86_122, e86_123, e86_126, e86_127, e86_130, e86_132, e86_133, e86_135, e86_137, e86_140, e86_143, e86_145, e86_147, e86_150, e86_152, e86_155, e86_157, e86_159, e86_160, m86, ok_11_1_11, fv13_1, ok_11_7_11, fv13_7, ok_11_2_11, fv13_2, Kt_some, Kt_none, V_ite, g_if, g_ss, g_1, g_2, g_cn, g_iok, g_sok, g_bok, g_jok, g_qok, g_ivl, g_jvl, g_qvl, g_ist, g_bst, g_jst, g_qst, g_aln, g_isa, g_dl1, g_dl2, g_dl3, g_dl4, g_dl5, g_dd, g_rfs, g_rfn, p_sm0, p_sm1, p_sm2, p_sm3, p_sm4, true_and, and_true, if_true, if_false, ↓reduceIte, Nat.reduceEqDiff, reduceCtorEq, or_true, true_or, and_self, Int32.reduceLT, Int32.reduceAdd, Int32.reduceSub, Int32.reduceToNatClampNeg, not_false_eq_true, not_true_eq_false, e1, a1, a4, h26, hp, nI_1, g_comm (show (28 : Nat) ≠ 27 by decide)]
    exact hu
/-- a sum of weights -/
def al (w : Nat → Int64) : Nat → Nat → Int64 → Int64
  | 0, _, s => s
  | d + 1, i, s => al w d (i + 1) (s + w i)
theorem l27 {f : Nat → Int64} {l1 : Option Value} (h26 : p_get h 26 = some oO) (h27 : p_get h 27 = some (aJ 6 f)) : ∀ (d i : Nat) (s : Int64), i + d = 6 → V 27 9 [some (.ref 26), p_dl l1, some (.long s), none, some (.int (nI i))] [] h K = K (some (.long (al f d i s))) h := by
  intro d
  induction d with
  | zero =>
    intro i s hi
    have e1 : (5 < nI i) = True := nI_T (a := 5) (b := i) (by omega) (by omega)
    rw [e27_9]
    simp (decide := true) only [e27_0, e27_1, e27_2, e27_3, e27_4, e27_7, e27_11, e27_12, e27_15, e27_16, e27_17, e27_20, e27_22, e27_23, e27_24, e27_25, e27_28, e27_31, e27_32, m27, ok_5_0_5, fv2_0, Kt_some, Kt_none, V_ite, g_if, g_ss, g_1, g_2, g_cn, g_iok, g_sok, g_bok, g_jok, g_qok, g_ivl, g_jvl, g_qvl, g_ist, g_bst, g_jst, g_qst, g_aln, g_isa, g_dl1, g_dl2, g_dl3, g_dl4, g_dl5, g_dd, g_rfs, g_rfn, p_sm0, p_sm1, p_sm2, p_sm3, p_sm4, true_and, and_true, if_true, if_false, ↓reduceIte, Nat.reduceEqDiff, reduceCtorEq, or_true, true_or, and_self, Int32.reduceLT, Int32.reduceAdd, Int32.reduceSub, Int32.reduceToNatClampNeg, not_false_eq_true, not_true_eq_false, e1, al]
  | succ d ih =>
    intro i s hi
    have e1 : (5 < nI i) = False := nI_F (a := 5) (b := i) (by omega) (by omega)
    have v3 := vp_T (show i < 6 by omega) (by omega)
    have c3 := nI_c (a := i) (by omega)
    rw [e27_9]
    simp (decide := true) only [e27_0, e27_1, e27_2, e27_3, e27_4, e27_7, e27_11, e27_12, e27_15, e27_16, e27_17, e27_20, e27_22, e27_23, e27_24, e27_25, e27_28, e27_31, e27_32, m27, ok_5_0_5, fv2_0, Kt_some, Kt_none, V_ite, g_if, g_ss, g_1, g_2, g_cn, g_iok, g_sok, g_bok, g_jok, g_qok, g_ivl, g_jvl, g_qvl, g_ist, g_bst, g_jst, g_qst, g_aln, g_isa, g_dl1, g_dl2, g_dl3, g_dl4, g_dl5, g_dd, g_rfs, g_rfn, p_sm0, p_sm1, p_sm2, p_sm3, p_sm4, true_and, and_true, if_true, if_false, ↓reduceIte, Nat.reduceEqDiff, reduceCtorEq, or_true, true_or, and_self, Int32.reduceLT, Int32.reduceAdd, Int32.reduceSub, Int32.reduceToNatClampNeg, not_false_eq_true, not_true_eq_false, e1, h26, h27, v3, c3, nI_1]
    rw [ih (i + 1) _ (by omega), al]
theorem c27 {f : Nat → Int64} {m : Nat} (h26 : p_get h 26 = some oO) (h27 : p_get h 27 = some (aJ 6 f)) (hm : m ≤ 6) : Vm 27 [.ref 26, .int (nI m)] h K = K (some (.long (al f (6 - m) m 0))) h := by
  have e1 : mx 0 (nI m) = nI m := by
    unfold mx
    by_cases h0 : m = 0
    · subst h0; exact if_neg (by decide)
    · exact if_pos (nI_lt (a := 0) (by omega) (by omega))
  have := l27 (K := K) (l1 := some (.int (nI m))) h26 h27 (6 - m) m 0 (by omega)
  simp (decide := true) only [e27_0, e27_1, e27_2, e27_3, e27_4, e27_7, e27_11, e27_12, e27_15, e27_16, e27_17, e27_20, e27_22, e27_23, e27_24, e27_25, e27_28, e27_31, e27_32, m27, ok_5_0_5, fv2_0, Kt_some, Kt_none, V_ite, g_if, g_ss, g_1, g_2, g_cn, g_iok, g_sok, g_bok, g_jok, g_qok, g_ivl, g_jvl, g_qvl, g_ist, g_bst, g_jst, g_qst, g_aln, g_isa, g_dl1, g_dl2, g_dl3, g_dl4, g_dl5, g_dd, g_rfs, g_rfn, p_sm0, p_sm1, p_sm2, p_sm3, p_sm4, true_and, and_true, if_true, if_false, ↓reduceIte, Nat.reduceEqDiff, reduceCtorEq, or_true, true_or, and_self, Int32.reduceLT, Int32.reduceAdd, Int32.reduceSub, Int32.reduceToNatClampNeg, not_false_eq_true, not_true_eq_false, mx_e, e1]
  exact this
theorem al_ov (b w : Nat → Int64) : ∀ (d i : Nat) (s : Int64), i + d ≤ 6 → al (ov b w) d i s = al w d i s
  | 0, _, _, _ => rfl
  | d + 1, i, s, h => by
    unfold al
    rw [ov_v b w (show i < 6 by omega), al_ov b w d (i + 1) _ (by omega)]
/-- the common part, in so many steps -/
def cg : Nat → Int64 → Int64 → Int64
  | 0, a, _ => a
  | n + 1, a, b => if b = 0 then a else cg n b (a - a / b * b)
theorem l28 {l0 l2 l1 l3 : Option Value} : ∀ (d i : Nat) (a b : Int64) (l9 l10 : Option Value), i + d = 100 → V 28 9 [l0, l1, l2, p_dl l3, some (.long a), none, some (.long b), none, some (.int (nI i)), l9, l10] [] h K = K (some (.long (cg d a b))) h := by
  intro d
  induction d with
  | zero =>
    intro i a b l9 l10 hi
    have e1 : (nI i < 100) = False := nI_F (a := i) (b := 100) (by omega) (by omega)
    rw [e28_9]
    simp (decide := true) only [e28_0, e28_1, e28_3, e28_4, e28_6, e28_7, e28_11, e28_13, e28_16, e28_18, e28_19, e28_20, e28_23, e28_25, e28_27, e28_28, e28_30, e28_32, e28_34, e28_36, e28_38, e28_41, e28_44, e28_46, m28, Kt_some, Kt_none, V_ite, g_if, g_ss, g_1, g_2, g_cn, g_iok, g_sok, g_bok, g_jok, g_qok, g_ivl, g_jvl, g_qvl, g_ist, g_bst, g_jst, g_qst, g_aln, g_isa, g_dl1, g_dl2, g_dl3, g_dl4, g_dl5, g_dd, g_rfs, g_rfn, p_sm0, p_sm1, p_sm2, p_sm3, p_sm4, true_and, and_true, if_true, if_false, ↓reduceIte, Nat.reduceEqDiff, reduceCtorEq, or_true, true_or, and_self, Int32.reduceLT, Int32.reduceAdd, Int32.reduceSub, Int32.reduceToNatClampNeg, not_false_eq_true, not_true_eq_false, e1, cg]
  | succ d ih =>
    intro i a b l9 l10 hi
    have e1 : (nI i < 100) = True := nI_T (a := i) (b := 100) (by omega) (by omega)
    rw [e28_9]
    by_cases hb : b = 0
    · have e2 : (lg_cmp b 0 = 0) = True := eq_true ((lg_cmp_eq b 0).mpr hb)
      simp (decide := true) only [e28_0, e28_1, e28_3, e28_4, e28_6, e28_7, e28_11, e28_13, e28_16, e28_18, e28_19, e28_20, e28_23, e28_25, e28_27, e28_28, e28_30, e28_32, e28_34, e28_36, e28_38, e28_41, e28_44, e28_46, m28, Kt_some, Kt_none, V_ite, g_if, g_ss, g_1, g_2, g_cn, g_iok, g_sok, g_bok, g_jok, g_qok, g_ivl, g_jvl, g_qvl, g_ist, g_bst, g_jst, g_qst, g_aln, g_isa, g_dl1, g_dl2, g_dl3, g_dl4, g_dl5, g_dd, g_rfs, g_rfn, p_sm0, p_sm1, p_sm2, p_sm3, p_sm4, true_and, and_true, if_true, if_false, ↓reduceIte, Nat.reduceEqDiff, reduceCtorEq, or_true, true_or, and_self, Int32.reduceLT, Int32.reduceAdd, Int32.reduceSub, Int32.reduceToNatClampNeg, not_false_eq_true, not_true_eq_false, e1, e2]
      rw [cg, if_pos hb]
    · have e2 : (lg_cmp b 0 = 0) = False := eq_false (fun q => hb ((lg_cmp_eq b 0).mp q))
      simp (decide := true) only [e28_0, e28_1, e28_3, e28_4, e28_6, e28_7, e28_11, e28_13, e28_16, e28_18, e28_19, e28_20, e28_23, e28_25, e28_27, e28_28, e28_30, e28_32, e28_34, e28_36, e28_38, e28_41, e28_44, e28_46, m28, Kt_some, Kt_none, V_ite, g_if, g_ss, g_1, g_2, g_cn, g_iok, g_sok, g_bok, g_jok, g_qok, g_ivl, g_jvl, g_qvl, g_ist, g_bst, g_jst, g_qst, g_aln, g_isa, g_dl1, g_dl2, g_dl3, g_dl4, g_dl5, g_dd, g_rfs, g_rfn, p_sm0, p_sm1, p_sm2, p_sm3, p_sm4, true_and, and_true, if_true, if_false, ↓reduceIte, Nat.reduceEqDiff, reduceCtorEq, or_true, true_or, and_self, Int32.reduceLT, Int32.reduceAdd, Int32.reduceSub, Int32.reduceToNatClampNeg, not_false_eq_true, not_true_eq_false, e1, e2, hb, nI_1]
      rw [cg, if_neg hb]
      exact ih (i + 1) b (a - a / b * b) _ _ (by omega)
theorem c28 {a b : Int64} : Vm 28 [.long a, .long b] h K = K (some (.long (cg 100 a b))) h := by
  have := l28 (K := K) (h := h) (l0 := some (.long a)) (l1 := none) (l2 := some (.long b)) (l3 := none) 100 0 a b none none (by omega)
  simp (decide := true) only [e28_0, e28_1, e28_3, e28_4, e28_6, e28_7, e28_11, e28_13, e28_16, e28_18, e28_19, e28_20, e28_23, e28_25, e28_27, e28_28, e28_30, e28_32, e28_34, e28_36, e28_38, e28_41, e28_44, e28_46, m28, Kt_some, Kt_none, V_ite, g_if, g_ss, g_1, g_2, g_cn, g_iok, g_sok, g_bok, g_jok, g_qok, g_ivl, g_jvl, g_qvl, g_ist, g_bst, g_jst, g_qst, g_aln, g_isa, g_dl1, g_dl2, g_dl3, g_dl4, g_dl5, g_dd, g_rfs, g_rfn, p_sm0, p_sm1, p_sm2, p_sm3, p_sm4, true_and, and_true, if_true, if_false, ↓reduceIte, Nat.reduceEqDiff, reduceCtorEq, or_true, true_or, and_self, Int32.reduceLT, Int32.reduceAdd, Int32.reduceSub, Int32.reduceToNatClampNeg, not_false_eq_true, not_true_eq_false]
  exact this
end S27
