section S25
variable {σ : pS} {h : pH} {K Q : Option Value → pH → Prop} {ad : Nat → Nat} {e e2 : pE} {N a : Nat}
/-- the first i from one row, the others from another -/
def jn (f g : Nat → Int32) (i : Nat) : Nat → Int32 := fun j => if j < i then f j else g j
theorem jn_e (f g : Nat → Int32) (i : Nat) : (fun j => if j < i then f j else g j) = jn f g i := rfl
theorem jn_0 (f g : Nat → Int32) : jn f g 0 = g := by funext j; unfold jn; rw [if_neg (by omega)]
theorem jn_s (f g : Nat → Int32) (i : Nat) : upd (jn f g i) i (f i) = jn f g (i + 1) := by
  funext j
  by_cases hj : j = i
  · subst hj; rw [pk_us]; unfold jn; rw [if_pos (by omega)]
  · rw [pk_un hj]; unfold jn
    by_cases hc : j < i
    · rw [if_pos hc, if_pos (by omega)]
    · rw [if_neg hc, if_neg (by omega)]
theorem c10 {x y z : Int32} {i ci : Nat} {d c pl ld : Int32} {f g : Nat → Int32} (h16 : p_get h 16 = some (oK x y z)) (h24 : p_get h 24 = some (aI 5 f)) (h25 : p_get h 25 = some (aI 5 g)) (hb : p_get h a = some (oB ci d c pl ld)) (hc : p_bt ci = true) (ha : 57 ≤ a) (hi : i < 5) : Vm 10 [.ref 16, .int (nI i), .ref a] h Q = Q none (p_set (p_set h 24 (aI 5 (upd f i pl))) 25 (aI 5 (upd g i ld))) := by
  have e0 := nI_0F (a := i) (by omega)
  have e1 : (nI i < 5) = True := nI_T (a := i) (b := 5) hi (by omega)
  have e2 := vp_T hi (by omega)
  have e3 := nI_c (a := i) (by omega)
  have e4 : (a = 24) = False := eq_false (by omega)
  simp (decide := true) only [e10_0, e10_0n, e10_1, e10_1r, e10_4, e10_5, e10_8, e10_9, e10_10, e10_13, e10_14, e10_17, e10_18, e10_18n, e10_19, e10_22, e10_23, e10_24, e10_27, e10_28, e10_28n, e10_29, e10_32, e10_33, m10, ok_3_5_3, fv7_5, ok_0x1x2x7x10_2_0, fv4_2, ok_0x1x2x7x10_2_1, ok_0x1x2x7x10_2_2, ok_0x1x2x7x10_2_7, ok_0x1x2x7x10_2_10, ok_3_6_3, fv7_6, ok_0x1x2x7x10_3_0, fv4_3, ok_0x1x2x7x10_3_1, ok_0x1x2x7x10_3_2, ok_0x1x2x7x10_3_7, ok_0x1x2x7x10_3_10, Kt_some, Kt_none, V_ite, g_if, g_ss, g_1, g_2, g_cn, g_iok, g_sok, g_bok, g_jok, g_qok, g_ivl, g_jvl, g_qvl, g_ist, g_bst, g_jst, g_qst, g_aln, g_isa, g_dl1, g_dl2, g_dl3, g_dl4, g_dl5, g_dd, g_rfs, g_rfn, p_sm0, p_sm1, p_sm2, p_sm3, p_sm4, true_and, and_true, if_true, if_false, ↓reduceIte, Nat.reduceEqDiff, reduceCtorEq, or_true, true_or, and_self, Int32.reduceLT, Int32.reduceAdd, Int32.reduceSub, Int32.reduceToNatClampNeg, not_false_eq_true, not_true_eq_false, h16, h24, h25, hb, ok_b 2 hc (by decide), ok_b 3 hc (by decide), e0, e1, e2, e3, e4]
theorem l92 {H : pH} {b3 b4 b5 x y z : Int32} {bt : Nat} {f : Nat → Option Nat} (hb : bt ≤ 5) (h1 : p_get H 1 = some (oW (nI bt) b3 b4 b5)) (h16 : p_get H 16 = some (oK x y z)) (h9 : p_get H 9 = some (aQ 5 f)) (hf : ∀ i, i < bt → f i = some (ad i) ∧ 57 ≤ ad i ∧ p_bt (kc (σ 5 i)) = true ∧ p_get H (ad i) = some (oB (kc (σ 5 i)) (σ 6 i) (σ 7 i) (σ 8 i) (σ 9 i))) (g1 g2 : Nat → Int32) : ∀ (d i : Nat), i + d = bt → V 92 79 [some (.ref 1), some (.int (nI i))] [] (p_set (p_set H 24 (aI 5 (jn (σ 8) g1 i))) 25 (aI 5 (jn (σ 9) g2 i))) K = K (some (.int (nI bt))) (p_set (p_set H 24 (aI 5 (jn (σ 8) g1 bt))) 25 (aI 5 (jn (σ 9) g2 bt))) := by
  intro d
  induction d with
  | zero =>
    intro i hi
    have e1 := nI_F (a := i) (b := bt) (by omega) (by omega)
    have e2 : i = bt := by omega
    subst e2
    simp (decide := true) only [e92_0, e92_1, e92_4, e92_7, e92_10, e92_12, e92_13, e92_14, e92_17, e92_18, e92_21, e92_24, e92_25, e92_28, e92_29, e92_32, e92_35, e92_36, e92_39, e92_40, e92_43, e92_46, e92_47, e92_50, e92_51, e92_52, e92_55, e92_58, e92_59, e92_60, e92_63, e92_64, e92_67, e92_70, e92_71, e92_74, e92_77, e92_78, e92_79, e92_80, e92_81, e92_84, e92_87, e92_88, e92_91, e92_92, e92_93, e92_96, e92_97, e92_98, e92_101, e92_104, e92_107, e92_108, e92_111, m92, ok_11_1_11, fv13_1, ok_9_2_9, fv3_2, ok_11_6_11, fv13_6, ok_11_11_11, fv13_11, ok_3_2_3, fs7_2, ok_11_9_11, fv13_9, ok_3_3_3, fs7_3, ok_11_10_11, fv13_10, ok_3_4_3, fs7_4, ok_11_2_11, fv13_2, ok_3_0_3, fv7_0, ok_3_1_3, fv7_1, ok_11_5_11, fv13_5, ok_11_4_11, fv13_4, Kt_some, Kt_none, V_ite, g_if, g_ss, g_1, g_2, g_cn, g_iok, g_sok, g_bok, g_jok, g_qok, g_ivl, g_jvl, g_qvl, g_ist, g_bst, g_jst, g_qst, g_aln, g_isa, g_dl1, g_dl2, g_dl3, g_dl4, g_dl5, g_dd, g_rfs, g_rfn, p_sm0, p_sm1, p_sm2, p_sm3, p_sm4, true_and, and_true, if_true, if_false, ↓reduceIte, Nat.reduceEqDiff, reduceCtorEq, or_true, true_or, and_self, Int32.reduceLT, Int32.reduceAdd, Int32.reduceSub, Int32.reduceToNatClampNeg, not_false_eq_true, not_true_eq_false, h1, e1]
  | succ d ih =>
    intro i hi
    have e1 := nI_T (a := i) (b := bt) (by omega) (by omega)
    have e2 := vp_T (show i < 5 by omega) (by omega)
    have e3 := nI_c (a := i) (by omega)
    obtain ⟨f1, f2, f3, f4⟩ := hf i (by omega)
    have n24 : ad i ≠ 24 := by omega
    have n25 : ad i ≠ 25 := by omega
    have hk := fun Q => c10 (Q := Q) (h := p_set (p_set H 24 (aI 5 (jn (σ 8) g1 i))) 25 (aI 5 (jn (σ 9) g2 i))) (x := x) (y := y) (z := z) (f := jn (σ 8) g1 i) (g := jn (σ 9) g2 i) (a := ad i) (i := i) (ci := kc (σ 5 i)) (d := σ 6 i) (c := σ 7 i) (pl := σ 8 i) (ld := σ 9 i) (by simp (decide := true) only [Kt_some, Kt_none, V_ite, g_if, g_ss, g_1, g_2, g_cn, g_iok, g_sok, g_bok, g_jok, g_qok, g_ivl, g_jvl, g_qvl, g_ist, g_bst, g_jst, g_qst, g_aln, g_isa, g_dl1, g_dl2, g_dl3, g_dl4, g_dl5, g_dd, g_rfs, g_rfn, p_sm0, p_sm1, p_sm2, p_sm3, p_sm4, true_and, and_true, if_true, if_false, ↓reduceIte, Nat.reduceEqDiff, reduceCtorEq, or_true, true_or, and_self, Int32.reduceLT, Int32.reduceAdd, Int32.reduceSub, Int32.reduceToNatClampNeg, not_false_eq_true, not_true_eq_false, h16]) (by simp (decide := true) only [Kt_some, Kt_none, V_ite, g_if, g_ss, g_1, g_2, g_cn, g_iok, g_sok, g_bok, g_jok, g_qok, g_ivl, g_jvl, g_qvl, g_ist, g_bst, g_jst, g_qst, g_aln, g_isa, g_dl1, g_dl2, g_dl3, g_dl4, g_dl5, g_dd, g_rfs, g_rfn, p_sm0, p_sm1, p_sm2, p_sm3, p_sm4, true_and, and_true, if_true, if_false, ↓reduceIte, Nat.reduceEqDiff, reduceCtorEq, or_true, true_or, and_self, Int32.reduceLT, Int32.reduceAdd, Int32.reduceSub, Int32.reduceToNatClampNeg, not_false_eq_true, not_true_eq_false]) (by simp (decide := true) only [Kt_some, Kt_none, V_ite, g_if, g_ss, g_1, g_2, g_cn, g_iok, g_sok, g_bok, g_jok, g_qok, g_ivl, g_jvl, g_qvl, g_ist, g_bst, g_jst, g_qst, g_aln, g_isa, g_dl1, g_dl2, g_dl3, g_dl4, g_dl5, g_dd, g_rfs, g_rfn, p_sm0, p_sm1, p_sm2, p_sm3, p_sm4, true_and, and_true, if_true, if_false, ↓reduceIte, Nat.reduceEqDiff, reduceCtorEq, or_true, true_or, and_self, Int32.reduceLT, Int32.reduceAdd, Int32.reduceSub, Int32.reduceToNatClampNeg, not_false_eq_true, not_true_eq_false]) (by rw [g_ne n25, g_ne n24]; exact f4) f3 f2 (by omega)
    have := ih (i + 1) (by omega)
    rw [e92_79]
    simp (decide := true) only [e92_0, e92_1, e92_4, e92_7, e92_10, e92_12, e92_13, e92_14, e92_17, e92_18, e92_21, e92_24, e92_25, e92_28, e92_29, e92_32, e92_35, e92_36, e92_39, e92_40, e92_43, e92_46, e92_47, e92_50, e92_51, e92_52, e92_55, e92_58, e92_59, e92_60, e92_63, e92_64, e92_67, e92_70, e92_71, e92_74, e92_77, e92_78, e92_80, e92_81, e92_84, e92_87, e92_88, e92_91, e92_92, e92_93, e92_96, e92_97, e92_98, e92_101, e92_104, e92_107, e92_108, e92_111, m92, ok_11_1_11, fv13_1, ok_9_2_9, fv3_2, ok_11_6_11, fv13_6, ok_11_11_11, fv13_11, ok_3_2_3, fs7_2, ok_11_9_11, fv13_9, ok_3_3_3, fs7_3, ok_11_10_11, fv13_10, ok_3_4_3, fs7_4, ok_11_2_11, fv13_2, ok_3_0_3, fv7_0, ok_3_1_3, fv7_1, ok_11_5_11, fv13_5, ok_11_4_11, fv13_4, Kt_some, Kt_none, V_ite, g_if, g_ss, g_1, g_2, g_cn, g_iok, g_sok, g_bok, g_jok, g_qok, g_ivl, g_jvl, g_qvl, g_ist, g_bst, g_jst, g_qst, g_aln, g_isa, g_dl1, g_dl2, g_dl3, g_dl4, g_dl5, g_dd, g_rfs, g_rfn, p_sm0, p_sm1, p_sm2, p_sm3, p_sm4, true_and, and_true, if_true, if_false, ↓reduceIte, Nat.reduceEqDiff, reduceCtorEq, or_true, true_or, and_self, Int32.reduceLT, Int32.reduceAdd, Int32.reduceSub, Int32.reduceToNatClampNeg, not_false_eq_true, not_true_eq_false, h1, h9, h16, e1, e2, e3, f1, hk, nI_1, g_comm (show (25 : Nat) ≠ 24 by decide), jn_s]
    exact this
def f_image (σ : pS) : Int32 × pS := if σ 0 0 = 0 then (-103, σ) else (σ 0 2, s0 (s0 (s0 (s0 (s0 (s0 (s1 (s1 (s1 (s1 σ 11 (jn (σ 3) (σ 11) 4)) 14 (jn (σ 10) (σ 14) 7)) 12 (jn (σ 8) (σ 12) (nt σ))) 13 (jn (σ 9) (σ 13) (nt σ))) 9 (σ 0 4)) 10 (σ 0 2)) 11 (σ 0 3)) 12 (σ 0 6)) 13 (σ 0 7)) 14 (σ 0 8))
theorem x_image (hC : CR σ h) (hI : IV σ) (hK : ∀ h2, CR (f_image σ).2 h2 → MF h h2 → K (some (.int (f_image σ).1)) h2) : Vm 92 [.ref 1] h K := by
  obtain ⟨ad, hA, hB, hM, hKp, hJ, hS⟩ := id hC
  obtain ⟨a1, a2, a3, a4, a5, a6, a7⟩ := id hA
  obtain ⟨⟨cs, m1⟩, m2⟩ := id hM
  obtain ⟨k1, k2, ⟨cs2, k3⟩, k4, k5, k6⟩ := id hKp
  unfold f_image at hK
  by_cases h2 : σ 0 0 = 0
  · simp only [h2, if_true] at hK
    simp (decide := true) only [e92_0, e92_1, e92_4, e92_7, e92_10, e92_12, e92_13, e92_14, e92_17, e92_18, e92_21, e92_24, e92_25, e92_28, e92_29, e92_32, e92_35, e92_36, e92_39, e92_40, e92_43, e92_46, e92_47, e92_50, e92_51, e92_52, e92_55, e92_58, e92_59, e92_60, e92_63, e92_64, e92_67, e92_70, e92_71, e92_74, e92_77, e92_78, e92_79, e92_80, e92_81, e92_84, e92_87, e92_88, e92_91, e92_92, e92_93, e92_96, e92_97, e92_98, e92_101, e92_104, e92_107, e92_108, e92_111, m92, ok_11_1_11, fv13_1, ok_9_2_9, fv3_2, ok_11_6_11, fv13_6, ok_11_11_11, fv13_11, ok_3_2_3, fs7_2, ok_11_9_11, fv13_9, ok_3_3_3, fs7_3, ok_11_10_11, fv13_10, ok_3_4_3, fs7_4, ok_11_2_11, fv13_2, ok_3_0_3, fv7_0, ok_3_1_3, fv7_1, ok_11_5_11, fv13_5, ok_11_4_11, fv13_4, Kt_some, Kt_none, V_ite, g_if, g_ss, g_1, g_2, g_cn, g_iok, g_sok, g_bok, g_jok, g_qok, g_ivl, g_jvl, g_qvl, g_ist, g_bst, g_jst, g_qst, g_aln, g_isa, g_dl1, g_dl2, g_dl3, g_dl4, g_dl5, g_dd, g_rfs, g_rfn, p_sm0, p_sm1, p_sm2, p_sm3, p_sm4, true_and, and_true, if_true, if_false, ↓reduceIte, Nat.reduceEqDiff, reduceCtorEq, or_true, true_or, and_self, Int32.reduceLT, Int32.reduceAdd, Int32.reduceSub, Int32.reduceToNatClampNeg, not_false_eq_true, not_true_eq_false, a1, a4, h2]
    exact hK h hC (MF_rf h)
  · obtain ⟨n, ps, bt, sr, hI⟩ := hI
    obtain ⟨-, -, e5⟩ := IN_n hI
    obtain ⟨⟨-, -, -, -, -, e4, e6, -⟩, -, -, hE, -⟩ := hI
    obtain ⟨⟨f, b1, b2⟩, b3, b4⟩ := id hB
    simp only [h2, if_false, e5] at hK
    rw [e4] at hK
    rw [e5] at b2 b3 b4
    have a1' := a1
    rw [e4] at a1'
    have hcp := fun (Q : Option Value → pH → Prop) (h : pH) (m1 : p_get h 10 = some (oM 11 12 13 14 15 (σ 0 8) (σ 0 6) (σ 0 7) cs)) (k3 : p_get h 18 = some (oM 19 20 21 22 23 (σ 0 14) (σ 0 12) (σ 0 13) cs2)) (m2 : p_get h 11 = some (aI 7 (σ 10))) (k4 : p_get h 19 = some (aI 7 (σ 14))) => c16 (h := h) (Q := Q) k3 m1 k4 m2 (by decide) (by decide) (by decide)
    simp (decide := true) only [e92_0, e92_1, e92_4, e92_7, e92_10, e92_12, e92_13, e92_14, e92_17, e92_18, e92_21, e92_24, e92_25, e92_28, e92_29, e92_32, e92_35, e92_36, e92_39, e92_40, e92_43, e92_46, e92_47, e92_50, e92_51, e92_52, e92_55, e92_58, e92_59, e92_60, e92_63, e92_64, e92_67, e92_70, e92_71, e92_74, e92_77, e92_78, e92_80, e92_81, e92_84, e92_87, e92_88, e92_91, e92_92, e92_93, e92_96, e92_97, e92_98, e92_101, e92_104, e92_107, e92_108, e92_111, m92, ok_11_1_11, fv13_1, ok_9_2_9, fv3_2, ok_11_6_11, fv13_6, ok_11_11_11, fv13_11, ok_3_2_3, fs7_2, ok_11_9_11, fv13_9, ok_3_3_3, fs7_3, ok_11_10_11, fv13_10, ok_3_4_3, fs7_4, ok_11_2_11, fv13_2, ok_3_0_3, fv7_0, ok_3_1_3, fv7_1, ok_11_5_11, fv13_5, ok_11_4_11, fv13_4, Kt_some, Kt_none, V_ite, g_if, g_ss, g_1, g_2, g_cn, g_iok, g_sok, g_bok, g_jok, g_qok, g_ivl, g_jvl, g_qvl, g_ist, g_bst, g_jst, g_qst, g_aln, g_isa, g_dl1, g_dl2, g_dl3, g_dl4, g_dl5, g_dd, g_rfs, g_rfn, p_sm0, p_sm1, p_sm2, p_sm3, p_sm4, true_and, and_true, if_true, if_false, ↓reduceIte, Nat.reduceEqDiff, reduceCtorEq, or_true, true_or, and_self, Int32.reduceLT, Int32.reduceAdd, Int32.reduceSub, Int32.reduceToNatClampNeg, not_false_eq_true, not_true_eq_false, a1', a4, a7, k1, k2, k3, m1, h2, p_aci, p_acv, cpy_0, show (4 : Int32).toNatClampNeg = 4 from rfl, Nat.zero_add, Nat.le_refl, hcp, m2, k4, jn_e]
    have := fun H h1 h16 h9 hf => l92 (K := K) (σ := σ) (ad := ad) (H := H) (b3 := σ 0 3) (b4 := σ 0 4) (b5 := σ 0 5) (x := σ 0 4) (y := nI bt) (z := σ 0 3) (f := f) e6 h1 h16 h9 hf (σ 12) (σ 13) bt 0 (by omega)
    simp only [jn_0] at this
    have g24 : ∀ H, p_get H 24 = some (aI 5 (σ 12)) → p_get H 25 = some (aI 5 (σ 13)) → p_set (p_set H 24 (aI 5 (σ 12))) 25 (aI 5 (σ 13)) = H := by
      intro H q1 q2
      rw [g_same (a := 24) q1, g_same q2]
    have t := this (p_set (p_set (p_set (p_set h 16 (oK (σ 0 4) (nI bt) (σ 0 3))) 17 (aI 4 (jn (σ 3) (σ 11) 4))) 18 (oM 19 20 21 22 23 (σ 0 8) (σ 0 6) (σ 0 7) cs2)) 19 (aI 7 (jn (σ 10) (σ 14) 7))) (by simp (decide := true) only [Kt_some, Kt_none, V_ite, g_if, g_ss, g_1, g_2, g_cn, g_iok, g_sok, g_bok, g_jok, g_qok, g_ivl, g_jvl, g_qvl, g_ist, g_bst, g_jst, g_qst, g_aln, g_isa, g_dl1, g_dl2, g_dl3, g_dl4, g_dl5, g_dd, g_rfs, g_rfn, p_sm0, p_sm1, p_sm2, p_sm3, p_sm4, true_and, and_true, if_true, if_false, ↓reduceIte, Nat.reduceEqDiff, reduceCtorEq, or_true, true_or, and_self, Int32.reduceLT, Int32.reduceAdd, Int32.reduceSub, Int32.reduceToNatClampNeg, not_false_eq_true, not_true_eq_false, a1', nI_1]) (by simp (decide := true) only [Kt_some, Kt_none, V_ite, g_if, g_ss, g_1, g_2, g_cn, g_iok, g_sok, g_bok, g_jok, g_qok, g_ivl, g_jvl, g_qvl, g_ist, g_bst, g_jst, g_qst, g_aln, g_isa, g_dl1, g_dl2, g_dl3, g_dl4, g_dl5, g_dd, g_rfs, g_rfn, p_sm0, p_sm1, p_sm2, p_sm3, p_sm4, true_and, and_true, if_true, if_false, ↓reduceIte, Nat.reduceEqDiff, reduceCtorEq, or_true, true_or, and_self, Int32.reduceLT, Int32.reduceAdd, Int32.reduceSub, Int32.reduceToNatClampNeg, not_false_eq_true, not_true_eq_false]) (by simp (decide := true) only [Kt_some, Kt_none, V_ite, g_if, g_ss, g_1, g_2, g_cn, g_iok, g_sok, g_bok, g_jok, g_qok, g_ivl, g_jvl, g_qvl, g_ist, g_bst, g_jst, g_qst, g_aln, g_isa, g_dl1, g_dl2, g_dl3, g_dl4, g_dl5, g_dd, g_rfs, g_rfn, p_sm0, p_sm1, p_sm2, p_sm3, p_sm4, true_and, and_true, if_true, if_false, ↓reduceIte, Nat.reduceEqDiff, reduceCtorEq, or_true, true_or, and_self, Int32.reduceLT, Int32.reduceAdd, Int32.reduceSub, Int32.reduceToNatClampNeg, not_false_eq_true, not_true_eq_false, b1]) (by
      intro i hi
      obtain ⟨q1, q2, q3⟩ := b3 i hi
      refine ⟨b2 i hi, q1, (kc_bt (hE i hi).1).1, ?_⟩
      rw [g_ne (by omega), g_ne (by omega), g_ne (by omega), g_ne (by omega)]
      exact q3)
    rw [g24 _ (by simp (decide := true) only [Kt_some, Kt_none, V_ite, g_if, g_ss, g_1, g_2, g_cn, g_iok, g_sok, g_bok, g_jok, g_qok, g_ivl, g_jvl, g_qvl, g_ist, g_bst, g_jst, g_qst, g_aln, g_isa, g_dl1, g_dl2, g_dl3, g_dl4, g_dl5, g_dd, g_rfs, g_rfn, p_sm0, p_sm1, p_sm2, p_sm3, p_sm4, true_and, and_true, if_true, if_false, ↓reduceIte, Nat.reduceEqDiff, reduceCtorEq, or_true, true_or, and_self, Int32.reduceLT, Int32.reduceAdd, Int32.reduceSub, Int32.reduceToNatClampNeg, not_false_eq_true, not_true_eq_false, k5]) (by simp (decide := true) only [Kt_some, Kt_none, V_ite, g_if, g_ss, g_1, g_2, g_cn, g_iok, g_sok, g_bok, g_jok, g_qok, g_ivl, g_jvl, g_qvl, g_ist, g_bst, g_jst, g_qst, g_aln, g_isa, g_dl1, g_dl2, g_dl3, g_dl4, g_dl5, g_dd, g_rfs, g_rfn, p_sm0, p_sm1, p_sm2, p_sm3, p_sm4, true_and, and_true, if_true, if_false, ↓reduceIte, Nat.reduceEqDiff, reduceCtorEq, or_true, true_or, and_self, Int32.reduceLT, Int32.reduceAdd, Int32.reduceSub, Int32.reduceToNatClampNeg, not_false_eq_true, not_true_eq_false, k6])] at t
    refine (iff_of_eq t).mpr ?_
    refine hK _ ⟨ad, ⟨?_, ?_, ?_, ?_, ?_, ?_, ?_⟩, ?_, ?_, ⟨?_, ?_, ⟨cs2, ?_⟩, ?_, ?_, ?_⟩, ?_, ?_⟩ ?_
    · simp (decide := true) only [Kt_some, Kt_none, V_ite, g_if, g_ss, g_1, g_2, g_cn, g_iok, g_sok, g_bok, g_jok, g_qok, g_ivl, g_jvl, g_qvl, g_ist, g_bst, g_jst, g_qst, g_aln, g_isa, g_dl1, g_dl2, g_dl3, g_dl4, g_dl5, g_dd, g_rfs, g_rfn, p_sm0, p_sm1, p_sm2, p_sm3, p_sm4, true_and, and_true, if_true, if_false, ↓reduceIte, Nat.reduceEqDiff, reduceCtorEq, or_true, true_or, and_self, Int32.reduceLT, Int32.reduceAdd, Int32.reduceSub, Int32.reduceToNatClampNeg, not_false_eq_true, not_true_eq_false, s0_if, s1_if, u_if, a1]
    · simp (decide := true) only [Kt_some, Kt_none, V_ite, g_if, g_ss, g_1, g_2, g_cn, g_iok, g_sok, g_bok, g_jok, g_qok, g_ivl, g_jvl, g_qvl, g_ist, g_bst, g_jst, g_qst, g_aln, g_isa, g_dl1, g_dl2, g_dl3, g_dl4, g_dl5, g_dd, g_rfs, g_rfn, p_sm0, p_sm1, p_sm2, p_sm3, p_sm4, true_and, and_true, if_true, if_false, ↓reduceIte, Nat.reduceEqDiff, reduceCtorEq, or_true, true_or, and_self, Int32.reduceLT, Int32.reduceAdd, Int32.reduceSub, Int32.reduceToNatClampNeg, not_false_eq_true, not_true_eq_false, s0_if, s1_if, u_if, a2]
    · simp (decide := true) only [Kt_some, Kt_none, V_ite, g_if, g_ss, g_1, g_2, g_cn, g_iok, g_sok, g_bok, g_jok, g_qok, g_ivl, g_jvl, g_qvl, g_ist, g_bst, g_jst, g_qst, g_aln, g_isa, g_dl1, g_dl2, g_dl3, g_dl4, g_dl5, g_dd, g_rfs, g_rfn, p_sm0, p_sm1, p_sm2, p_sm3, p_sm4, true_and, and_true, if_true, if_false, ↓reduceIte, Nat.reduceEqDiff, reduceCtorEq, or_true, true_or, and_self, Int32.reduceLT, Int32.reduceAdd, Int32.reduceSub, Int32.reduceToNatClampNeg, not_false_eq_true, not_true_eq_false, s0_if, s1_if, u_if, a3]
    · simp (decide := true) only [Kt_some, Kt_none, V_ite, g_if, g_ss, g_1, g_2, g_cn, g_iok, g_sok, g_bok, g_jok, g_qok, g_ivl, g_jvl, g_qvl, g_ist, g_bst, g_jst, g_qst, g_aln, g_isa, g_dl1, g_dl2, g_dl3, g_dl4, g_dl5, g_dd, g_rfs, g_rfn, p_sm0, p_sm1, p_sm2, p_sm3, p_sm4, true_and, and_true, if_true, if_false, ↓reduceIte, Nat.reduceEqDiff, reduceCtorEq, or_true, true_or, and_self, Int32.reduceLT, Int32.reduceAdd, Int32.reduceSub, Int32.reduceToNatClampNeg, not_false_eq_true, not_true_eq_false, s0_if, s1_if, u_if, a4]
    · simp (decide := true) only [Kt_some, Kt_none, V_ite, g_if, g_ss, g_1, g_2, g_cn, g_iok, g_sok, g_bok, g_jok, g_qok, g_ivl, g_jvl, g_qvl, g_ist, g_bst, g_jst, g_qst, g_aln, g_isa, g_dl1, g_dl2, g_dl3, g_dl4, g_dl5, g_dd, g_rfs, g_rfn, p_sm0, p_sm1, p_sm2, p_sm3, p_sm4, true_and, and_true, if_true, if_false, ↓reduceIte, Nat.reduceEqDiff, reduceCtorEq, or_true, true_or, and_self, Int32.reduceLT, Int32.reduceAdd, Int32.reduceSub, Int32.reduceToNatClampNeg, not_false_eq_true, not_true_eq_false, s0_if, s1_if, u_if, a5]
    · simp (decide := true) only [Kt_some, Kt_none, V_ite, g_if, g_ss, g_1, g_2, g_cn, g_iok, g_sok, g_bok, g_jok, g_qok, g_ivl, g_jvl, g_qvl, g_ist, g_bst, g_jst, g_qst, g_aln, g_isa, g_dl1, g_dl2, g_dl3, g_dl4, g_dl5, g_dd, g_rfs, g_rfn, p_sm0, p_sm1, p_sm2, p_sm3, p_sm4, true_and, and_true, if_true, if_false, ↓reduceIte, Nat.reduceEqDiff, reduceCtorEq, or_true, true_or, and_self, Int32.reduceLT, Int32.reduceAdd, Int32.reduceSub, Int32.reduceToNatClampNeg, not_false_eq_true, not_true_eq_false, s0_if, s1_if, u_if, a6]
    · simp (decide := true) only [Kt_some, Kt_none, V_ite, g_if, g_ss, g_1, g_2, g_cn, g_iok, g_sok, g_bok, g_jok, g_qok, g_ivl, g_jvl, g_qvl, g_ist, g_bst, g_jst, g_qst, g_aln, g_isa, g_dl1, g_dl2, g_dl3, g_dl4, g_dl5, g_dd, g_rfs, g_rfn, p_sm0, p_sm1, p_sm2, p_sm3, p_sm4, true_and, and_true, if_true, if_false, ↓reduceIte, Nat.reduceEqDiff, reduceCtorEq, or_true, true_or, and_self, Int32.reduceLT, Int32.reduceAdd, Int32.reduceSub, Int32.reduceToNatClampNeg, not_false_eq_true, not_true_eq_false, s0_if, s1_if, u_if, a7]
    · (repeat' (first | exact hB | exact hM | exact hKp | exact hJ | exact hS | exact MF_rf _ | refine CB_st ?_ (by decide) (by decide) | refine CM_st ?_ (by decide) (by decide) | refine CK_st ?_ (by decide) | refine CJ_st ?_ (by decide) | refine CS_st ?_ (by decide) (by decide) (by decide) (by decide) | refine MF_st ?_ (by decide)))
    · (repeat' (first | exact hB | exact hM | exact hKp | exact hJ | exact hS | exact MF_rf _ | refine CB_st ?_ (by decide) (by decide) | refine CM_st ?_ (by decide) (by decide) | refine CK_st ?_ (by decide) | refine CJ_st ?_ (by decide) | refine CS_st ?_ (by decide) (by decide) (by decide) (by decide) | refine MF_st ?_ (by decide)))
    · simp (decide := true) only [Kt_some, Kt_none, V_ite, g_if, g_ss, g_1, g_2, g_cn, g_iok, g_sok, g_bok, g_jok, g_qok, g_ivl, g_jvl, g_qvl, g_ist, g_bst, g_jst, g_qst, g_aln, g_isa, g_dl1, g_dl2, g_dl3, g_dl4, g_dl5, g_dd, g_rfs, g_rfn, p_sm0, p_sm1, p_sm2, p_sm3, p_sm4, true_and, and_true, if_true, if_false, ↓reduceIte, Nat.reduceEqDiff, reduceCtorEq, or_true, true_or, and_self, Int32.reduceLT, Int32.reduceAdd, Int32.reduceSub, Int32.reduceToNatClampNeg, not_false_eq_true, not_true_eq_false, s0_if, s1_if, u_if]
    · simp (decide := true) only [Kt_some, Kt_none, V_ite, g_if, g_ss, g_1, g_2, g_cn, g_iok, g_sok, g_bok, g_jok, g_qok, g_ivl, g_jvl, g_qvl, g_ist, g_bst, g_jst, g_qst, g_aln, g_isa, g_dl1, g_dl2, g_dl3, g_dl4, g_dl5, g_dd, g_rfs, g_rfn, p_sm0, p_sm1, p_sm2, p_sm3, p_sm4, true_and, and_true, if_true, if_false, ↓reduceIte, Nat.reduceEqDiff, reduceCtorEq, or_true, true_or, and_self, Int32.reduceLT, Int32.reduceAdd, Int32.reduceSub, Int32.reduceToNatClampNeg, not_false_eq_true, not_true_eq_false, s0_if, s1_if, u_if]
    · simp (decide := true) only [Kt_some, Kt_none, V_ite, g_if, g_ss, g_1, g_2, g_cn, g_iok, g_sok, g_bok, g_jok, g_qok, g_ivl, g_jvl, g_qvl, g_ist, g_bst, g_jst, g_qst, g_aln, g_isa, g_dl1, g_dl2, g_dl3, g_dl4, g_dl5, g_dd, g_rfs, g_rfn, p_sm0, p_sm1, p_sm2, p_sm3, p_sm4, true_and, and_true, if_true, if_false, ↓reduceIte, Nat.reduceEqDiff, reduceCtorEq, or_true, true_or, and_self, Int32.reduceLT, Int32.reduceAdd, Int32.reduceSub, Int32.reduceToNatClampNeg, not_false_eq_true, not_true_eq_false, s0_if, s1_if, u_if]
    · simp (decide := true) only [Kt_some, Kt_none, V_ite, g_if, g_ss, g_1, g_2, g_cn, g_iok, g_sok, g_bok, g_jok, g_qok, g_ivl, g_jvl, g_qvl, g_ist, g_bst, g_jst, g_qst, g_aln, g_isa, g_dl1, g_dl2, g_dl3, g_dl4, g_dl5, g_dd, g_rfs, g_rfn, p_sm0, p_sm1, p_sm2, p_sm3, p_sm4, true_and, and_true, if_true, if_false, ↓reduceIte, Nat.reduceEqDiff, reduceCtorEq, or_true, true_or, and_self, Int32.reduceLT, Int32.reduceAdd, Int32.reduceSub, Int32.reduceToNatClampNeg, not_false_eq_true, not_true_eq_false, s0_if, s1_if, u_if]
    · simp (decide := true) only [Kt_some, Kt_none, V_ite, g_if, g_ss, g_1, g_2, g_cn, g_iok, g_sok, g_bok, g_jok, g_qok, g_ivl, g_jvl, g_qvl, g_ist, g_bst, g_jst, g_qst, g_aln, g_isa, g_dl1, g_dl2, g_dl3, g_dl4, g_dl5, g_dd, g_rfs, g_rfn, p_sm0, p_sm1, p_sm2, p_sm3, p_sm4, true_and, and_true, if_true, if_false, ↓reduceIte, Nat.reduceEqDiff, reduceCtorEq, or_true, true_or, and_self, Int32.reduceLT, Int32.reduceAdd, Int32.reduceSub, Int32.reduceToNatClampNeg, not_false_eq_true, not_true_eq_false, s0_if, s1_if, u_if]
    · simp (decide := true) only [Kt_some, Kt_none, V_ite, g_if, g_ss, g_1, g_2, g_cn, g_iok, g_sok, g_bok, g_jok, g_qok, g_ivl, g_jvl, g_qvl, g_ist, g_bst, g_jst, g_qst, g_aln, g_isa, g_dl1, g_dl2, g_dl3, g_dl4, g_dl5, g_dd, g_rfs, g_rfn, p_sm0, p_sm1, p_sm2, p_sm3, p_sm4, true_and, and_true, if_true, if_false, ↓reduceIte, Nat.reduceEqDiff, reduceCtorEq, or_true, true_or, and_self, Int32.reduceLT, Int32.reduceAdd, Int32.reduceSub, Int32.reduceToNatClampNeg, not_false_eq_true, not_true_eq_false, s0_if, s1_if, u_if]
    · (repeat' (first | exact hB | exact hM | exact hKp | exact hJ | exact hS | exact MF_rf _ | refine CB_st ?_ (by decide) (by decide) | refine CM_st ?_ (by decide) (by decide) | refine CK_st ?_ (by decide) | refine CJ_st ?_ (by decide) | refine CS_st ?_ (by decide) (by decide) (by decide) (by decide) | refine MF_st ?_ (by decide)))
    · (repeat' (first | exact hB | exact hM | exact hKp | exact hJ | exact hS | exact MF_rf _ | refine CB_st ?_ (by decide) (by decide) | refine CM_st ?_ (by decide) (by decide) | refine CK_st ?_ (by decide) | refine CJ_st ?_ (by decide) | refine CS_st ?_ (by decide) (by decide) (by decide) (by decide) | refine MF_st ?_ (by decide)))
    · (repeat' (first | exact hB | exact hM | exact hKp | exact hJ | exact hS | exact MF_rf _ | refine CB_st ?_ (by decide) (by decide) | refine CM_st ?_ (by decide) (by decide) | refine CK_st ?_ (by decide) | refine CJ_st ?_ (by decide) | refine CS_st ?_ (by decide) (by decide) (by decide) (by decide) | refine MF_st ?_ (by decide)))
theorem c11 {x y z : Int32} {i ci : Nat} {d c pl ld : Int32} {f g : Nat → Int32} (h16 : p_get h 16 = some (oK x y z)) (h24 : p_get h 24 = some (aI 5 f)) (h25 : p_get h 25 = some (aI 5 g)) (hb : p_get h a = some (oB ci d c pl ld)) (hc : p_bt ci = true) (ha : 57 ≤ a) (hi : i < 5) : Vm 11 [.ref 16, .int (nI i), .ref a] h Q = Q none (p_set h a (oB ci d c (f i) (g i))) := by
  have e0 := nI_0F (a := i) (by omega)
  have e1 : (nI i < 5) = True := nI_T (a := i) (b := 5) hi (by omega)
  have e2 := vp_T hi (by omega)
  have e3 := nI_c (a := i) (by omega)
  have e4 : (16 = a) = False := eq_false (by omega)
  have e5 : (24 = a) = False := eq_false (by omega)
  have e6 : (25 = a) = False := eq_false (by omega)
  simp (decide := true) only [e11_0, e11_0n, e11_1, e11_1r, e11_4, e11_5, e11_8, e11_9, e11_10, e11_13, e11_13n, e11_14, e11_15, e11_18, e11_19, e11_20, e11_23, e11_23n, e11_24, e11_25, e11_28, e11_29, e11_30, e11_33, m11, ok_3_5_3, fv7_5, ok_0x1x2x7x10_2_0, fs4_2, ok_0x1x2x7x10_2_1, ok_0x1x2x7x10_2_2, ok_0x1x2x7x10_2_7, ok_0x1x2x7x10_2_10, ok_3_6_3, fv7_6, ok_0x1x2x7x10_3_0, fs4_3, ok_0x1x2x7x10_3_1, ok_0x1x2x7x10_3_2, ok_0x1x2x7x10_3_7, ok_0x1x2x7x10_3_10, Kt_some, Kt_none, V_ite, g_if, g_ss, g_1, g_2, g_cn, g_iok, g_sok, g_bok, g_jok, g_qok, g_ivl, g_jvl, g_qvl, g_ist, g_bst, g_jst, g_qst, g_aln, g_isa, g_dl1, g_dl2, g_dl3, g_dl4, g_dl5, g_dd, g_rfs, g_rfn, p_sm0, p_sm1, p_sm2, p_sm3, p_sm4, true_and, and_true, if_true, if_false, ↓reduceIte, Nat.reduceEqDiff, reduceCtorEq, or_true, true_or, and_self, Int32.reduceLT, Int32.reduceAdd, Int32.reduceSub, Int32.reduceToNatClampNeg, not_false_eq_true, not_true_eq_false, h16, h24, h25, hb, ok_b 2 hc (by decide), ok_b 3 hc (by decide), e0, e1, e2, e3, e4, e5, e6]
/-- the state of which the first i boats are put back -/
def pb (σ : pS) (i : Nat) : pS := s1 (s1 σ 8 (jn (σ 12) (σ 8) i)) 9 (jn (σ 13) (σ 9) i)
theorem pb_s (σ : pS) (i : Nat) : s1 (s1 (pb σ i) 8 (upd (pb σ i 8) i (σ 12 i))) 9 (upd (pb σ i 9) i (σ 13 i)) = pb σ (i + 1) := by
  funext k
  unfold pb
  simp (decide := true) only [Kt_some, Kt_none, V_ite, g_if, g_ss, g_1, g_2, g_cn, g_iok, g_sok, g_bok, g_jok, g_qok, g_ivl, g_jvl, g_qvl, g_ist, g_bst, g_jst, g_qst, g_aln, g_isa, g_dl1, g_dl2, g_dl3, g_dl4, g_dl5, g_dd, g_rfs, g_rfn, p_sm0, p_sm1, p_sm2, p_sm3, p_sm4, true_and, and_true, if_true, if_false, ↓reduceIte, Nat.reduceEqDiff, reduceCtorEq, or_true, true_or, and_self, Int32.reduceLT, Int32.reduceAdd, Int32.reduceSub, Int32.reduceToNatClampNeg, not_false_eq_true, not_true_eq_false, s1_if, jn_s]
  by_cases h9 : k = 9
  · simp only [h9, if_true]
  · by_cases h8 : k = 8
    · simp only [h8, if_true]
    · simp only [h8, h9, if_false]
theorem l93 {bt : Nat} (hb : bt ≤ 5) (h02 : σ 0 2 = nI bt) (hE : ∀ i, i < bt → p_bt (kc (σ 5 i)) = true) : ∀ (d i : Nat) (h : pH), i + d = bt → CA (pb σ i) h → CB (pb σ i) ad bt h → CM (pb σ i) h → CK (pb σ i) h → CJ h → CS h → (∀ h2, CA (pb σ bt) h2 → CB (pb σ bt) ad bt h2 → CM (pb σ bt) h2 → CK (pb σ bt) h2 → CJ h2 → CS h2 → MF h h2 → K (some (.int (nI bt))) h2) → V 93 82 [some (.ref 1), some (.int (nI i))] [] h K := by
  intro d
  induction d with
  | zero =>
    intro i h hi hA hB hM hKp hJ hS hK
    have e1 := nI_F (a := i) (b := bt) (by omega) (by omega)
    have e2 : i = bt := by omega
    subst e2
    obtain ⟨a1, -⟩ := id hA
    have e3 : pb σ i 0 2 = nI i := h02
    simp (decide := true) only [e93_0, e93_1, e93_4, e93_7, e93_10, e93_11, e93_14, e93_17, e93_18, e93_21, e93_24, e93_26, e93_27, e93_28, e93_29, e93_32, e93_35, e93_38, e93_39, e93_40, e93_43, e93_46, e93_49, e93_50, e93_53, e93_56, e93_57, e93_58, e93_61, e93_62, e93_63, e93_66, e93_67, e93_70, e93_71, e93_74, e93_77, e93_80, e93_81, e93_82, e93_83, e93_84, e93_87, e93_90, e93_91, e93_94, e93_95, e93_96, e93_99, e93_100, e93_101, e93_104, e93_107, e93_110, e93_111, e93_114, m93, ok_11_6_11, fv13_6, ok_3_2_3, fv7_2, ok_11_11_11, fv13_11, ok_3_3_3, fv7_3, ok_11_9_11, fs13_9, ok_3_4_3, fv7_4, ok_11_10_11, fs13_10, ok_3_0_3, fv7_0, ok_11_2_11, fv13_2, ok_11_5_11, fv13_5, ok_3_1_3, fv7_1, fv13_9, ok_11_4_11, fv13_4, Kt_some, Kt_none, V_ite, g_if, g_ss, g_1, g_2, g_cn, g_iok, g_sok, g_bok, g_jok, g_qok, g_ivl, g_jvl, g_qvl, g_ist, g_bst, g_jst, g_qst, g_aln, g_isa, g_dl1, g_dl2, g_dl3, g_dl4, g_dl5, g_dd, g_rfs, g_rfn, p_sm0, p_sm1, p_sm2, p_sm3, p_sm4, true_and, and_true, if_true, if_false, ↓reduceIte, Nat.reduceEqDiff, reduceCtorEq, or_true, true_or, and_self, Int32.reduceLT, Int32.reduceAdd, Int32.reduceSub, Int32.reduceToNatClampNeg, not_false_eq_true, not_true_eq_false, a1, e3, e1]
    exact hK h hA hB hM hKp hJ hS (MF_rf h)
  | succ d ih =>
    intro i h hi hA hB hM hKp hJ hS hK
    have e1 := nI_T (a := i) (b := bt) (by omega) (by omega)
    have e2 := vp_T (show i < 5 by omega) (by omega)
    have e3 := nI_c (a := i) (by omega)
    obtain ⟨a1, -⟩ := id hA
    obtain ⟨k1, k2, k3, k4, k5, k6⟩ := id hKp
    obtain ⟨⟨f, b1, b2⟩, b3, b4⟩ := id hB
    obtain ⟨b57, bh, hbj⟩ := b3 i (by omega)
    have e4 : pb σ i 0 2 = nI bt := h02
    have hc := hE i (by omega)
    have hk := fun Q => c11 (Q := Q) (i := i) k1 k5 k6 hbj hc b57 (by omega)
    rw [e93_82]
    simp (decide := true) only [e93_0, e93_1, e93_4, e93_7, e93_10, e93_11, e93_14, e93_17, e93_18, e93_21, e93_24, e93_26, e93_27, e93_28, e93_29, e93_32, e93_35, e93_38, e93_39, e93_40, e93_43, e93_46, e93_49, e93_50, e93_53, e93_56, e93_57, e93_58, e93_61, e93_62, e93_63, e93_66, e93_67, e93_70, e93_71, e93_74, e93_77, e93_80, e93_81, e93_83, e93_84, e93_87, e93_90, e93_91, e93_94, e93_95, e93_96, e93_99, e93_100, e93_101, e93_104, e93_107, e93_110, e93_111, e93_114, m93, ok_11_6_11, fv13_6, ok_3_2_3, fv7_2, ok_11_11_11, fv13_11, ok_3_3_3, fv7_3, ok_11_9_11, fs13_9, ok_3_4_3, fv7_4, ok_11_10_11, fs13_10, ok_3_0_3, fv7_0, ok_11_2_11, fv13_2, ok_11_5_11, fv13_5, ok_3_1_3, fv7_1, fv13_9, ok_11_4_11, fv13_4, Kt_some, Kt_none, V_ite, g_if, g_ss, g_1, g_2, g_cn, g_iok, g_sok, g_bok, g_jok, g_qok, g_ivl, g_jvl, g_qvl, g_ist, g_bst, g_jst, g_qst, g_aln, g_isa, g_dl1, g_dl2, g_dl3, g_dl4, g_dl5, g_dd, g_rfs, g_rfn, p_sm0, p_sm1, p_sm2, p_sm3, p_sm4, true_and, and_true, if_true, if_false, ↓reduceIte, Nat.reduceEqDiff, reduceCtorEq, or_true, true_or, and_self, Int32.reduceLT, Int32.reduceAdd, Int32.reduceSub, Int32.reduceToNatClampNeg, not_false_eq_true, not_true_eq_false, a1, e4, e1, e2, e3, k1, b1, b2 i (by omega), hk, nI_1]
    have hB2 := CB_bt (pl := σ 12 i) (ld := σ 13 i) hB (show i < bt by omega)
    rw [pb_s] at hB2
    refine ih (i + 1) _ (by omega) ?_ hB2 ?_ ?_ (CJ_bg hJ b57) (CS_bg hS b57 hbj) (fun h2 q1 q2 q3 q4 q5 q6 q7 => hK h2 q1 q2 q3 q4 q5 q6 ?_)
    · exact (CA_bg hA b57 : CA (pb σ i) _)
    · exact (CM_bg hM b57 : CM (pb σ i) _)
    · exact (CK_bg hKp b57 : CK (pb σ i) _)
    · obtain ⟨r1, r2, r3, r4⟩ := q7
      refine ⟨fun k hk => ?_, r2, r3, r4⟩
      rw [r1 k hk, g_ne (by omega)]
def f_restore (σ : pS) : Int32 × pS := if σ 0 9 = 0 then (-103, σ) else if σ 0 9 = σ 0 4 then
    (σ 0 10, pb (s0 (s0 (s0 (s0 (s0 (s1 (s1 σ 3 (jn (σ 11) (σ 3) 4)) 10 (jn (σ 14) (σ 10) 7)) 2 (σ 0 10)) 3 (σ 0 11)) 6 (σ 0 12)) 7 (σ 0 13)) 8 (σ 0 14)) (σ 0 10).toNatClampNeg) else (-103, σ)
theorem x_restore (hC : CR σ h) (hI : IV σ) (hK : ∀ h2, CR (f_restore σ).2 h2 → MF h h2 → K (some (.int (f_restore σ).1)) h2) : Vm 93 [.ref 1] h K := by
  obtain ⟨ad, hA, hB, hM, hKp, hJ, hS⟩ := id hC
  obtain ⟨a1, a2, a3, a4, a5, a6, a7⟩ := id hA
  obtain ⟨⟨cs, m1⟩, m2⟩ := id hM
  obtain ⟨k1, k2, ⟨cs2, k3⟩, k4, k5, k6⟩ := id hKp
  unfold f_restore at hK
  by_cases h9 : σ 0 9 = 0
  · simp only [h9, if_true] at hK
    simp (decide := true) only [e93_0, e93_1, e93_4, e93_7, e93_10, e93_11, e93_14, e93_17, e93_18, e93_21, e93_24, e93_26, e93_27, e93_28, e93_29, e93_32, e93_35, e93_38, e93_39, e93_40, e93_43, e93_46, e93_49, e93_50, e93_53, e93_56, e93_57, e93_58, e93_61, e93_62, e93_63, e93_66, e93_67, e93_70, e93_71, e93_74, e93_77, e93_80, e93_81, e93_82, e93_83, e93_84, e93_87, e93_90, e93_91, e93_94, e93_95, e93_96, e93_99, e93_100, e93_101, e93_104, e93_107, e93_110, e93_111, e93_114, m93, ok_11_6_11, fv13_6, ok_3_2_3, fv7_2, ok_11_11_11, fv13_11, ok_3_3_3, fv7_3, ok_11_9_11, fs13_9, ok_3_4_3, fv7_4, ok_11_10_11, fs13_10, ok_3_0_3, fv7_0, ok_11_2_11, fv13_2, ok_11_5_11, fv13_5, ok_3_1_3, fv7_1, fv13_9, ok_11_4_11, fv13_4, Kt_some, Kt_none, V_ite, g_if, g_ss, g_1, g_2, g_cn, g_iok, g_sok, g_bok, g_jok, g_qok, g_ivl, g_jvl, g_qvl, g_ist, g_bst, g_jst, g_qst, g_aln, g_isa, g_dl1, g_dl2, g_dl3, g_dl4, g_dl5, g_dd, g_rfs, g_rfn, p_sm0, p_sm1, p_sm2, p_sm3, p_sm4, true_and, and_true, if_true, if_false, ↓reduceIte, Nat.reduceEqDiff, reduceCtorEq, or_true, true_or, and_self, Int32.reduceLT, Int32.reduceAdd, Int32.reduceSub, Int32.reduceToNatClampNeg, not_false_eq_true, not_true_eq_false, a1, k1, h9]
    exact hK h hC (MF_rf h)
  by_cases h4 : σ 0 9 = σ 0 4
  · obtain ⟨n, ps, bt, sr, hI⟩ := hI
    obtain ⟨-, -, e5⟩ := IN_n hI
    obtain ⟨⟨-, -, -, -, -, e4, e6, -, e7, e8, -⟩, -, -, hE, -, -, -, -, ks, kb, g1, g2, g3, g4, g5⟩ := hI
    have hks : ks = sr := by
      rw [g1, e7] at h4
      exact (nI_eq (by omega) (by omega)).mp h4
    have hk0 : 0 < ks := by
      rcases Nat.eq_zero_or_pos ks with q | q
      · subst q
        exact absurd g1 h9
      · exact q
    obtain ⟨g6, -⟩ := g5 hks hk0
    have h9' : ¬ σ 0 4 = 0 := by rw [← h4]; exact h9
    have ek : (nI kb).toNatClampNeg = kb := nI_c (by omega)
    have k1' := k1
    rw [g3] at k1'
    rw [if_neg h9, if_pos h4] at hK
    rw [g3, ek] at hK
    rw [e5] at hB
    have hcp := fun (Q : Option Value → pH → Prop) (h : pH) (m1 : p_get h 10 = some (oM 11 12 13 14 15 (σ 0 8) (σ 0 6) (σ 0 7) cs)) (k3 : p_get h 18 = some (oM 19 20 21 22 23 (σ 0 14) (σ 0 12) (σ 0 13) cs2)) (m2 : p_get h 11 = some (aI 7 (σ 10))) (k4 : p_get h 19 = some (aI 7 (σ 14))) => c16 (h := h) (Q := Q) m1 k3 m2 k4 (by decide) (by decide) (by decide)
    have hB2 : CB σ ad kb h := by
      obtain ⟨⟨f, b1, b2⟩, b3, b4⟩ := hB
      exact ⟨⟨f, b1, fun i hi => b2 i (by omega)⟩, fun i hi => b3 i (by omega), fun i j hi hj => b4 i j (by omega) (by omega)⟩
    simp (decide := true) only [e93_0, e93_1, e93_4, e93_7, e93_10, e93_11, e93_14, e93_17, e93_18, e93_21, e93_24, e93_26, e93_27, e93_28, e93_29, e93_32, e93_35, e93_38, e93_39, e93_40, e93_43, e93_46, e93_49, e93_50, e93_53, e93_56, e93_57, e93_58, e93_61, e93_62, e93_63, e93_66, e93_67, e93_70, e93_71, e93_74, e93_77, e93_80, e93_81, e93_83, e93_84, e93_87, e93_90, e93_91, e93_94, e93_95, e93_96, e93_99, e93_100, e93_101, e93_104, e93_107, e93_110, e93_111, e93_114, m93, ok_11_6_11, fv13_6, ok_3_2_3, fv7_2, ok_11_11_11, fv13_11, ok_3_3_3, fv7_3, ok_11_9_11, fs13_9, ok_3_4_3, fv7_4, ok_11_10_11, fs13_10, ok_3_0_3, fv7_0, ok_11_2_11, fv13_2, ok_11_5_11, fv13_5, ok_3_1_3, fv7_1, fv13_9, ok_11_4_11, fv13_4, Kt_some, Kt_none, V_ite, g_if, g_ss, g_1, g_2, g_cn, g_iok, g_sok, g_bok, g_jok, g_qok, g_ivl, g_jvl, g_qvl, g_ist, g_bst, g_jst, g_qst, g_aln, g_isa, g_dl1, g_dl2, g_dl3, g_dl4, g_dl5, g_dd, g_rfs, g_rfn, p_sm0, p_sm1, p_sm2, p_sm3, p_sm4, true_and, and_true, if_true, if_false, ↓reduceIte, Nat.reduceEqDiff, reduceCtorEq, or_true, true_or, and_self, Int32.reduceLT, Int32.reduceAdd, Int32.reduceSub, Int32.reduceToNatClampNeg, not_false_eq_true, not_true_eq_false, a1, a4, a7, k1', k2, k3, m1, h9, h4, h9', p_aci, p_acv, cpy_0, show (4 : Int32).toNatClampNeg = 4 from rfl, Nat.zero_add, Nat.le_refl, hcp, m2, k4, jn_e]
    have p0 : ∀ τ : pS, pb τ 0 = τ := by
      intro τ
      funext k
      unfold pb
      rw [jn_0, jn_0]
      simp only [s1_if]
      by_cases q9 : k = 9
      · simp only [q9, if_true]
      · by_cases q8 : k = 8
        · simp only [q8, if_true]
          rfl
        · simp only [q8, q9, if_false]
    refine l93 (K := K) (ad := ad) (bt := kb) (σ := s0 (s0 (s0 (s0 (s0 (s1 (s1 σ 3 (jn (σ 11) (σ 3) 4)) 10 (jn (σ 14) (σ 10) 7)) 2 (nI kb)) 3 (σ 0 11)) 6 (σ 0 12)) 7 (σ 0 13)) 8 (σ 0 14)) g4 rfl (fun i hi => (kc_bt (hE i (by omega)).1).1) kb 0 _ (by omega) ?_ ?_ ?_ ?_ ?_ ?_ ?_
    all_goals try rw [p0]
    · refine ⟨?_, ?_, ?_, ?_, ?_, ?_, ?_⟩
      · simp (decide := true) only [Kt_some, Kt_none, V_ite, g_if, g_ss, g_1, g_2, g_cn, g_iok, g_sok, g_bok, g_jok, g_qok, g_ivl, g_jvl, g_qvl, g_ist, g_bst, g_jst, g_qst, g_aln, g_isa, g_dl1, g_dl2, g_dl3, g_dl4, g_dl5, g_dd, g_rfs, g_rfn, p_sm0, p_sm1, p_sm2, p_sm3, p_sm4, true_and, and_true, if_true, if_false, ↓reduceIte, Nat.reduceEqDiff, reduceCtorEq, or_true, true_or, and_self, Int32.reduceLT, Int32.reduceAdd, Int32.reduceSub, Int32.reduceToNatClampNeg, not_false_eq_true, not_true_eq_false, s0_if, s1_if, u_if, a1]
      · simp (decide := true) only [Kt_some, Kt_none, V_ite, g_if, g_ss, g_1, g_2, g_cn, g_iok, g_sok, g_bok, g_jok, g_qok, g_ivl, g_jvl, g_qvl, g_ist, g_bst, g_jst, g_qst, g_aln, g_isa, g_dl1, g_dl2, g_dl3, g_dl4, g_dl5, g_dd, g_rfs, g_rfn, p_sm0, p_sm1, p_sm2, p_sm3, p_sm4, true_and, and_true, if_true, if_false, ↓reduceIte, Nat.reduceEqDiff, reduceCtorEq, or_true, true_or, and_self, Int32.reduceLT, Int32.reduceAdd, Int32.reduceSub, Int32.reduceToNatClampNeg, not_false_eq_true, not_true_eq_false, s0_if, s1_if, u_if, a2]
      · simp (decide := true) only [Kt_some, Kt_none, V_ite, g_if, g_ss, g_1, g_2, g_cn, g_iok, g_sok, g_bok, g_jok, g_qok, g_ivl, g_jvl, g_qvl, g_ist, g_bst, g_jst, g_qst, g_aln, g_isa, g_dl1, g_dl2, g_dl3, g_dl4, g_dl5, g_dd, g_rfs, g_rfn, p_sm0, p_sm1, p_sm2, p_sm3, p_sm4, true_and, and_true, if_true, if_false, ↓reduceIte, Nat.reduceEqDiff, reduceCtorEq, or_true, true_or, and_self, Int32.reduceLT, Int32.reduceAdd, Int32.reduceSub, Int32.reduceToNatClampNeg, not_false_eq_true, not_true_eq_false, s0_if, s1_if, u_if, a3]
      · simp (decide := true) only [Kt_some, Kt_none, V_ite, g_if, g_ss, g_1, g_2, g_cn, g_iok, g_sok, g_bok, g_jok, g_qok, g_ivl, g_jvl, g_qvl, g_ist, g_bst, g_jst, g_qst, g_aln, g_isa, g_dl1, g_dl2, g_dl3, g_dl4, g_dl5, g_dd, g_rfs, g_rfn, p_sm0, p_sm1, p_sm2, p_sm3, p_sm4, true_and, and_true, if_true, if_false, ↓reduceIte, Nat.reduceEqDiff, reduceCtorEq, or_true, true_or, and_self, Int32.reduceLT, Int32.reduceAdd, Int32.reduceSub, Int32.reduceToNatClampNeg, not_false_eq_true, not_true_eq_false, s0_if, s1_if, u_if, a4]
      · simp (decide := true) only [Kt_some, Kt_none, V_ite, g_if, g_ss, g_1, g_2, g_cn, g_iok, g_sok, g_bok, g_jok, g_qok, g_ivl, g_jvl, g_qvl, g_ist, g_bst, g_jst, g_qst, g_aln, g_isa, g_dl1, g_dl2, g_dl3, g_dl4, g_dl5, g_dd, g_rfs, g_rfn, p_sm0, p_sm1, p_sm2, p_sm3, p_sm4, true_and, and_true, if_true, if_false, ↓reduceIte, Nat.reduceEqDiff, reduceCtorEq, or_true, true_or, and_self, Int32.reduceLT, Int32.reduceAdd, Int32.reduceSub, Int32.reduceToNatClampNeg, not_false_eq_true, not_true_eq_false, s0_if, s1_if, u_if, a5]
      · simp (decide := true) only [Kt_some, Kt_none, V_ite, g_if, g_ss, g_1, g_2, g_cn, g_iok, g_sok, g_bok, g_jok, g_qok, g_ivl, g_jvl, g_qvl, g_ist, g_bst, g_jst, g_qst, g_aln, g_isa, g_dl1, g_dl2, g_dl3, g_dl4, g_dl5, g_dd, g_rfs, g_rfn, p_sm0, p_sm1, p_sm2, p_sm3, p_sm4, true_and, and_true, if_true, if_false, ↓reduceIte, Nat.reduceEqDiff, reduceCtorEq, or_true, true_or, and_self, Int32.reduceLT, Int32.reduceAdd, Int32.reduceSub, Int32.reduceToNatClampNeg, not_false_eq_true, not_true_eq_false, s0_if, s1_if, u_if, a6]
      · simp (decide := true) only [Kt_some, Kt_none, V_ite, g_if, g_ss, g_1, g_2, g_cn, g_iok, g_sok, g_bok, g_jok, g_qok, g_ivl, g_jvl, g_qvl, g_ist, g_bst, g_jst, g_qst, g_aln, g_isa, g_dl1, g_dl2, g_dl3, g_dl4, g_dl5, g_dd, g_rfs, g_rfn, p_sm0, p_sm1, p_sm2, p_sm3, p_sm4, true_and, and_true, if_true, if_false, ↓reduceIte, Nat.reduceEqDiff, reduceCtorEq, or_true, true_or, and_self, Int32.reduceLT, Int32.reduceAdd, Int32.reduceSub, Int32.reduceToNatClampNeg, not_false_eq_true, not_true_eq_false, s0_if, s1_if, u_if, a7]
    · have hB := hB2
      (repeat' (first | exact hB | exact hM | exact hKp | exact hJ | exact hS | exact MF_rf _ | refine CB_st ?_ (by decide) (by decide) | refine CM_st ?_ (by decide) (by decide) | refine CK_st ?_ (by decide) | refine CJ_st ?_ (by decide) | refine CS_st ?_ (by decide) (by decide) (by decide) (by decide) | refine MF_st ?_ (by decide)))
    · refine ⟨⟨cs, ?_⟩, ?_⟩
      · simp (decide := true) only [Kt_some, Kt_none, V_ite, g_if, g_ss, g_1, g_2, g_cn, g_iok, g_sok, g_bok, g_jok, g_qok, g_ivl, g_jvl, g_qvl, g_ist, g_bst, g_jst, g_qst, g_aln, g_isa, g_dl1, g_dl2, g_dl3, g_dl4, g_dl5, g_dd, g_rfs, g_rfn, p_sm0, p_sm1, p_sm2, p_sm3, p_sm4, true_and, and_true, if_true, if_false, ↓reduceIte, Nat.reduceEqDiff, reduceCtorEq, or_true, true_or, and_self, Int32.reduceLT, Int32.reduceAdd, Int32.reduceSub, Int32.reduceToNatClampNeg, not_false_eq_true, not_true_eq_false, s0_if, s1_if, u_if]
      · simp (decide := true) only [Kt_some, Kt_none, V_ite, g_if, g_ss, g_1, g_2, g_cn, g_iok, g_sok, g_bok, g_jok, g_qok, g_ivl, g_jvl, g_qvl, g_ist, g_bst, g_jst, g_qst, g_aln, g_isa, g_dl1, g_dl2, g_dl3, g_dl4, g_dl5, g_dd, g_rfs, g_rfn, p_sm0, p_sm1, p_sm2, p_sm3, p_sm4, true_and, and_true, if_true, if_false, ↓reduceIte, Nat.reduceEqDiff, reduceCtorEq, or_true, true_or, and_self, Int32.reduceLT, Int32.reduceAdd, Int32.reduceSub, Int32.reduceToNatClampNeg, not_false_eq_true, not_true_eq_false, s0_if, s1_if, u_if]
    · refine ⟨?_, ?_, ⟨cs2, ?_⟩, ?_, ?_, ?_⟩
      · simp (decide := true) only [Kt_some, Kt_none, V_ite, g_if, g_ss, g_1, g_2, g_cn, g_iok, g_sok, g_bok, g_jok, g_qok, g_ivl, g_jvl, g_qvl, g_ist, g_bst, g_jst, g_qst, g_aln, g_isa, g_dl1, g_dl2, g_dl3, g_dl4, g_dl5, g_dd, g_rfs, g_rfn, p_sm0, p_sm1, p_sm2, p_sm3, p_sm4, true_and, and_true, if_true, if_false, ↓reduceIte, Nat.reduceEqDiff, reduceCtorEq, or_true, true_or, and_self, Int32.reduceLT, Int32.reduceAdd, Int32.reduceSub, Int32.reduceToNatClampNeg, not_false_eq_true, not_true_eq_false, s0_if, s1_if, u_if, k1', h4, g3]
      · simp (decide := true) only [Kt_some, Kt_none, V_ite, g_if, g_ss, g_1, g_2, g_cn, g_iok, g_sok, g_bok, g_jok, g_qok, g_ivl, g_jvl, g_qvl, g_ist, g_bst, g_jst, g_qst, g_aln, g_isa, g_dl1, g_dl2, g_dl3, g_dl4, g_dl5, g_dd, g_rfs, g_rfn, p_sm0, p_sm1, p_sm2, p_sm3, p_sm4, true_and, and_true, if_true, if_false, ↓reduceIte, Nat.reduceEqDiff, reduceCtorEq, or_true, true_or, and_self, Int32.reduceLT, Int32.reduceAdd, Int32.reduceSub, Int32.reduceToNatClampNeg, not_false_eq_true, not_true_eq_false, s0_if, s1_if, u_if, k2]
      · simp (decide := true) only [Kt_some, Kt_none, V_ite, g_if, g_ss, g_1, g_2, g_cn, g_iok, g_sok, g_bok, g_jok, g_qok, g_ivl, g_jvl, g_qvl, g_ist, g_bst, g_jst, g_qst, g_aln, g_isa, g_dl1, g_dl2, g_dl3, g_dl4, g_dl5, g_dd, g_rfs, g_rfn, p_sm0, p_sm1, p_sm2, p_sm3, p_sm4, true_and, and_true, if_true, if_false, ↓reduceIte, Nat.reduceEqDiff, reduceCtorEq, or_true, true_or, and_self, Int32.reduceLT, Int32.reduceAdd, Int32.reduceSub, Int32.reduceToNatClampNeg, not_false_eq_true, not_true_eq_false, s0_if, s1_if, u_if, k3]
      · simp (decide := true) only [Kt_some, Kt_none, V_ite, g_if, g_ss, g_1, g_2, g_cn, g_iok, g_sok, g_bok, g_jok, g_qok, g_ivl, g_jvl, g_qvl, g_ist, g_bst, g_jst, g_qst, g_aln, g_isa, g_dl1, g_dl2, g_dl3, g_dl4, g_dl5, g_dd, g_rfs, g_rfn, p_sm0, p_sm1, p_sm2, p_sm3, p_sm4, true_and, and_true, if_true, if_false, ↓reduceIte, Nat.reduceEqDiff, reduceCtorEq, or_true, true_or, and_self, Int32.reduceLT, Int32.reduceAdd, Int32.reduceSub, Int32.reduceToNatClampNeg, not_false_eq_true, not_true_eq_false, s0_if, s1_if, u_if, k4]
      · simp (decide := true) only [Kt_some, Kt_none, V_ite, g_if, g_ss, g_1, g_2, g_cn, g_iok, g_sok, g_bok, g_jok, g_qok, g_ivl, g_jvl, g_qvl, g_ist, g_bst, g_jst, g_qst, g_aln, g_isa, g_dl1, g_dl2, g_dl3, g_dl4, g_dl5, g_dd, g_rfs, g_rfn, p_sm0, p_sm1, p_sm2, p_sm3, p_sm4, true_and, and_true, if_true, if_false, ↓reduceIte, Nat.reduceEqDiff, reduceCtorEq, or_true, true_or, and_self, Int32.reduceLT, Int32.reduceAdd, Int32.reduceSub, Int32.reduceToNatClampNeg, not_false_eq_true, not_true_eq_false, s0_if, s1_if, u_if, k5]
      · simp (decide := true) only [Kt_some, Kt_none, V_ite, g_if, g_ss, g_1, g_2, g_cn, g_iok, g_sok, g_bok, g_jok, g_qok, g_ivl, g_jvl, g_qvl, g_ist, g_bst, g_jst, g_qst, g_aln, g_isa, g_dl1, g_dl2, g_dl3, g_dl4, g_dl5, g_dd, g_rfs, g_rfn, p_sm0, p_sm1, p_sm2, p_sm3, p_sm4, true_and, and_true, if_true, if_false, ↓reduceIte, Nat.reduceEqDiff, reduceCtorEq, or_true, true_or, and_self, Int32.reduceLT, Int32.reduceAdd, Int32.reduceSub, Int32.reduceToNatClampNeg, not_false_eq_true, not_true_eq_false, s0_if, s1_if, u_if, k6]
    · (repeat' (first | exact hB | exact hM | exact hKp | exact hJ | exact hS | exact MF_rf _ | refine CB_st ?_ (by decide) (by decide) | refine CM_st ?_ (by decide) (by decide) | refine CK_st ?_ (by decide) | refine CJ_st ?_ (by decide) | refine CS_st ?_ (by decide) (by decide) (by decide) (by decide) | refine MF_st ?_ (by decide)))
    · (repeat' (first | exact hB | exact hM | exact hKp | exact hJ | exact hS | exact MF_rf _ | refine CB_st ?_ (by decide) (by decide) | refine CM_st ?_ (by decide) (by decide) | refine CK_st ?_ (by decide) | refine CJ_st ?_ (by decide) | refine CS_st ?_ (by decide) (by decide) (by decide) (by decide) | refine MF_st ?_ (by decide)))
    · intro h2 q1 q2 q3 q4 q5 q6 q7
      refine hK h2 ⟨ad, q1, ?_, q3, q4, q5, q6⟩ ?_
      · have : nt (pb (s0 (s0 (s0 (s0 (s0 (s1 (s1 σ 3 (jn (σ 11) (σ 3) 4)) 10 (jn (σ 14) (σ 10) 7)) 2 (nI kb)) 3 (σ 0 11)) 6 (σ 0 12)) 7 (σ 0 13)) 8 (σ 0 14)) kb) = kb := ek
        rw [this]
        exact q2
      · obtain ⟨r1, r2, r3, r4⟩ := q7
        refine ⟨fun k hk => ?_, r2, r3, r4⟩
        rw [r1 k hk, g_ne (by omega), g_ne (by omega), g_ne (by omega), g_ne (by omega)]
  · simp only [h9, h4, if_true, if_false] at hK
    simp (decide := true) only [e93_0, e93_1, e93_4, e93_7, e93_10, e93_11, e93_14, e93_17, e93_18, e93_21, e93_24, e93_26, e93_27, e93_28, e93_29, e93_32, e93_35, e93_38, e93_39, e93_40, e93_43, e93_46, e93_49, e93_50, e93_53, e93_56, e93_57, e93_58, e93_61, e93_62, e93_63, e93_66, e93_67, e93_70, e93_71, e93_74, e93_77, e93_80, e93_81, e93_82, e93_83, e93_84, e93_87, e93_90, e93_91, e93_94, e93_95, e93_96, e93_99, e93_100, e93_101, e93_104, e93_107, e93_110, e93_111, e93_114, m93, ok_11_6_11, fv13_6, ok_3_2_3, fv7_2, ok_11_11_11, fv13_11, ok_3_3_3, fv7_3, ok_11_9_11, fs13_9, ok_3_4_3, fv7_4, ok_11_10_11, fs13_10, ok_3_0_3, fv7_0, ok_11_2_11, fv13_2, ok_11_5_11, fv13_5, ok_3_1_3, fv7_1, fv13_9, ok_11_4_11, fv13_4, Kt_some, Kt_none, V_ite, g_if, g_ss, g_1, g_2, g_cn, g_iok, g_sok, g_bok, g_jok, g_qok, g_ivl, g_jvl, g_qvl, g_ist, g_bst, g_jst, g_qst, g_aln, g_isa, g_dl1, g_dl2, g_dl3, g_dl4, g_dl5, g_dd, g_rfs, g_rfn, p_sm0, p_sm1, p_sm2, p_sm3, p_sm4, true_and, and_true, if_true, if_false, ↓reduceIte, Nat.reduceEqDiff, reduceCtorEq, or_true, true_or, and_self, Int32.reduceLT, Int32.reduceAdd, Int32.reduceSub, Int32.reduceToNatClampNeg, not_false_eq_true, not_true_eq_false, a1, k1, h9, h4]
    exact hK h hC (MF_rf h)
end S25
