section S60
variable {h : pH} {K Q : Option Value → pH → Prop} {x : Nat → Int32} {u v : Int64} {g : Nat → Nat → Int32} {j : Nat → Nat → Int64} {n nb nc cc bi ci : Nat} {H : Nat → Nat} {w : Nat → Nat} {ld cp bp : Nat}
/-- a stair and two boats, as a search sees them -/
def fC (n : Nat) (H : Nat → Nat) (nb nc cc bi ci : Nat) : Prop := 2 ≤ n ∧ n ≤ 4 ∧ (∀ i, i < n → H i ≤ 5) ∧ nb ≤ 6 ∧ nc ≤ 6 ∧ cc ≤ 6 ∧ bi < 5 ∧ ci < 5 ∧ bi ≠ ci
def fB (n : Nat) (H : Nat → Nat) (nb nc cc bi ci : Nat) (x : Nat → Int32) (g : Nat → Nat → Int32) : Prop := x 0 = nI n ∧ g 37 0 = nI (H 0) ∧ (∀ i, i < n → g 35 i = nI (H i)) ∧ kn (g 38 bi) (g 39 bi) = nI nb ∧ kn (g 38 ci) (g 39 ci) = nI nc ∧ kcr (g 38 ci) (g 40 ci) = nI cc
def fD (n bi ci : Nat) (g : Nat → Nat → Int32) (w : Nat → Nat) (ld cp bp : Nat) : Prop := (∀ i, 1 ≤ i → i < n → g 37 i = nI (w i)) ∧ g 41 bi = nI bp ∧ g 41 ci = nI cp ∧ g 42 ci = nI ld
def fR (bi ci : Nat) (g g2 : Nat → Nat → Int32) : Prop := (∀ a, a ≠ 37 → a ≠ 41 → a ≠ 42 → g2 a = g a) ∧ g2 37 0 = g 37 0 ∧ (∀ q, q ≠ bi → q ≠ ci → g2 41 q = g 41 q) ∧ (∀ q, q ≠ ci → g2 42 q = g 42 q)
theorem fR_rf (bi ci : Nat) (g : Nat → Nat → Int32) : fR bi ci g g := ⟨fun _ _ _ _ => rfl, rfl, fun _ _ _ => rfl, fun _ _ => rfl⟩
theorem fR_tr {g2 g3 : Nat → Nat → Int32} (a : fR bi ci g g2) (b : fR bi ci g2 g3) : fR bi ci g g3 := ⟨fun q h1 h2 h3 => (b.1 q h1 h2 h3).trans (a.1 q h1 h2 h3), b.2.1.trans a.2.1, fun q h1 h2 => (b.2.2.1 q h1 h2).trans (a.2.2.1 q h1 h2), fun q h1 => (b.2.2.2 q h1).trans (a.2.2.2 q h1)⟩
theorem fB_R {g2 : Nat → Nat → Int32} (a : fB n H nb nc cc bi ci x g) (b : fR bi ci g g2) : fB n H nb nc cc bi ci x g2 := by
  obtain ⟨a1, a2, a3, a4, a5, a6⟩ := a
  obtain ⟨b1, b2, -⟩ := b
  unfold fB
  rw [b1 35 (by decide) (by decide) (by decide), b1 38 (by decide) (by decide) (by decide), b1 39 (by decide) (by decide) (by decide), b1 40 (by decide) (by decide) (by decide), b2]
  exact ⟨a1, a2, a3, a4, a5, a6⟩
theorem c138 (hm : MH x u v g j h) (hC : fC n H nb nc cc bi ci) (x0 : x 0 = nI n) (hD : fD n bi ci g w ld cp bp) (hT : TB n w ld cp bp) : Vm 138 [.ref 34, .int (nI bi), .int (nI ci)] h Q = Q (some (.int (nI (mcd w ld cp bp)))) h := by
  have h34 := hm.1
  obtain ⟨f1, f2, f3, f4, f5, f6, f7, f8, f9⟩ := hC
  obtain ⟨d1, d2, d3, d4⟩ := hD
  obtain ⟨t1, t2, t3, t4, t5⟩ := hT
  have vb := vp_T f7 (by omega)
  have cb := nI_c (a := bi) (by omega)
  have vc := vp_T f8 (by omega)
  have cc2 := nI_c (a := ci) (by omega)
  have m4 : (4 : Int32) * nI cp = nI (4 * cp) := pk_mul 4 cp
  have m16 : (16 : Int32) * nI ld = nI (16 * ld) := pk_mul 16 ld
  have m1 : (112 : Int32) * nI (w 1) = nI (112 * w 1) := pk_mul 112 (w 1)
  have m2 : (672 : Int32) * nI (w 2) = nI (672 * w 2) := pk_mul 672 (w 2)
  have m3 : (4032 : Int32) * nI (w 3) = nI (4032 * w 3) := pk_mul 4032 (w 3)
  have v1 : vp_in 1 4 = True := vp_T (a := 1) (by omega) (by omega)
  have v2 : vp_in 2 4 = True := vp_T (a := 2) (by omega) (by omega)
  have v3 : vp_in 3 4 = True := vp_T (a := 3) (by omega) (by omega)
  have w1 : g 37 1 = nI (w 1) := d1 1 (by omega) (by omega)
  rcases (show n = 2 ∨ n = 3 ∨ n = 4 by omega) with rfl | rfl | rfl
  · have l1 : ((1 : Int32) < nI 2) = True := eq_true (by decide)
    have l2 : ((2 : Int32) < nI 2) = False := eq_false (by decide)
    have l3 : ((3 : Int32) < nI 2) = False := eq_false (by decide)
    have z2 := t2 2 (by omega) (by omega)
    have z3 := t2 3 (by omega) (by omega)
    simp (decide := true) only [e138_0, e138_1, e138_4, e138_5, e138_6, e138_7, e138_8, e138_11, e138_12, e138_13, e138_14, e138_15, e138_17, e138_18, e138_21, e138_22, e138_23, e138_24, e138_25, e138_26, e138_28, e138_30, e138_31, e138_33, e138_35, e138_36, e138_39, e138_40, e138_42, e138_44, e138_45, e138_48, e138_51, e138_52, e138_55, e138_57, e138_58, e138_61, e138_62, e138_63, e138_64, e138_65, e138_67, e138_69, e138_70, e138_72, e138_75, e138_78, e138_79, m138, ok_12_10_12, fv45_10, ok_12_11_12, fv45_11, ok_12_0_12, fv45_0, ok_12_3_12, fv45_3, Kt_some, Kt_none, V_ite, g_if, g_ss, g_1, g_2, g_cn, g_iok, g_sok, g_bok, g_jok, g_qok, g_ivl, g_jvl, g_qvl, g_ist, g_bst, g_jst, g_qst, g_aln, g_isa, g_dl1, g_dl2, g_dl3, g_dl4, g_dl5, g_dd, g_rfs, g_rfn, p_sm0, p_sm1, p_sm2, p_sm3, p_sm4, true_and, and_true, if_true, if_false, ↓reduceIte, Nat.reduceEqDiff, reduceCtorEq, or_true, true_or, and_self, Int32.reduceLT, Int32.reduceAdd, Int32.reduceSub, Int32.reduceToNatClampNeg, not_false_eq_true, not_true_eq_false, xcn, xok_0, xfv_0, xfs_0, xok_1, xfv_1, xok_2, xfv_2, xok_3, xfv_3, xok_4, xfv_4, xfs_4, xok_5, xfv_5, xfs_5, xok_6, xfv_6, xfs_6, xok_7, xfv_7, xok_8, xfv_8, xok_9, xfv_9, xok_10, xfv_10, xok_11, xfv_11, xok_12, xfv_12, xfs_12, xok_13, xfv_13, xfs_13, xok_14, xfv_14, xfs_14, xok_15, xfv_15, xfs_15, xok_16, xfv_16, xok_17, xfv_17, xfs_17, xok_18, xfv_18, xok_19, xfv_19, xfs_19, xok_20, xfv_20, xfs_20, xok_21, xfv_21, xfs_21, xok_22, xfv_22, xok_23, xfv_23, xok_24, xfv_24, xok_25, xfv_25, xok_26, xfv_26, xfs_26, xok_27, xfv_27, xok_28, xfv_28, xok_29, xfv_29, xok_30, xfv_30, xfs_30, xok_31, xfv_31, xfs_31, xok_32, xfv_32, xok_33, xfv_33, xfs_33, xok_34, xfv_34, xfs_34, xok_35, xfv_35, xfs_35, xok_36, xfv_36, xfs_36, xok_37, xfv_37, xfs_37, xok_38, xfv_38, xfs_38, xok_39, xfv_39, xfs_39, xok_40, xfv_40, xok_41, xfv_41, xok_42, xfv_42, xok_43, xfv_43, xok_44, xfv_44, xfs_44, h34, h41 hm, h42 hm, h37 hm, vb, cb, vc, cc2, d2, d3, d4, x0, l1, l2, l3, v1, v2, v3, w1, Int32.reduceMul, m4, m16, m1, m2, m3, nI_add, i_add0]
    refine congrArg (fun y => Q (some (Value.int (nI y))) h) ?_
    unfold mcd
    omega
  · have l1 : ((1 : Int32) < nI 3) = True := eq_true (by decide)
    have l2 : ((2 : Int32) < nI 3) = True := eq_true (by decide)
    have l3 : ((3 : Int32) < nI 3) = False := eq_false (by decide)
    have w2 : g 37 2 = nI (w 2) := d1 2 (by omega) (by omega)
    have z3 := t2 3 (by omega) (by omega)
    simp (decide := true) only [e138_0, e138_1, e138_4, e138_5, e138_6, e138_7, e138_8, e138_11, e138_12, e138_13, e138_14, e138_15, e138_17, e138_18, e138_21, e138_22, e138_23, e138_24, e138_25, e138_26, e138_28, e138_30, e138_31, e138_33, e138_35, e138_36, e138_39, e138_40, e138_42, e138_44, e138_45, e138_48, e138_51, e138_52, e138_55, e138_57, e138_58, e138_61, e138_62, e138_63, e138_64, e138_65, e138_67, e138_69, e138_70, e138_72, e138_75, e138_78, e138_79, m138, ok_12_10_12, fv45_10, ok_12_11_12, fv45_11, ok_12_0_12, fv45_0, ok_12_3_12, fv45_3, Kt_some, Kt_none, V_ite, g_if, g_ss, g_1, g_2, g_cn, g_iok, g_sok, g_bok, g_jok, g_qok, g_ivl, g_jvl, g_qvl, g_ist, g_bst, g_jst, g_qst, g_aln, g_isa, g_dl1, g_dl2, g_dl3, g_dl4, g_dl5, g_dd, g_rfs, g_rfn, p_sm0, p_sm1, p_sm2, p_sm3, p_sm4, true_and, and_true, if_true, if_false, ↓reduceIte, Nat.reduceEqDiff, reduceCtorEq, or_true, true_or, and_self, Int32.reduceLT, Int32.reduceAdd, Int32.reduceSub, Int32.reduceToNatClampNeg, not_false_eq_true, not_true_eq_false, xcn, xok_0, xfv_0, xfs_0, xok_1, xfv_1, xok_2, xfv_2, xok_3, xfv_3, xok_4, xfv_4, xfs_4, xok_5, xfv_5, xfs_5, xok_6, xfv_6, xfs_6, xok_7, xfv_7, xok_8, xfv_8, xok_9, xfv_9, xok_10, xfv_10, xok_11, xfv_11, xok_12, xfv_12, xfs_12, xok_13, xfv_13, xfs_13, xok_14, xfv_14, xfs_14, xok_15, xfv_15, xfs_15, xok_16, xfv_16, xok_17, xfv_17, xfs_17, xok_18, xfv_18, xok_19, xfv_19, xfs_19, xok_20, xfv_20, xfs_20, xok_21, xfv_21, xfs_21, xok_22, xfv_22, xok_23, xfv_23, xok_24, xfv_24, xok_25, xfv_25, xok_26, xfv_26, xfs_26, xok_27, xfv_27, xok_28, xfv_28, xok_29, xfv_29, xok_30, xfv_30, xfs_30, xok_31, xfv_31, xfs_31, xok_32, xfv_32, xok_33, xfv_33, xfs_33, xok_34, xfv_34, xfs_34, xok_35, xfv_35, xfs_35, xok_36, xfv_36, xfs_36, xok_37, xfv_37, xfs_37, xok_38, xfv_38, xfs_38, xok_39, xfv_39, xfs_39, xok_40, xfv_40, xok_41, xfv_41, xok_42, xfv_42, xok_43, xfv_43, xok_44, xfv_44, xfs_44, h34, h41 hm, h42 hm, h37 hm, vb, cb, vc, cc2, d2, d3, d4, x0, l1, l2, l3, v1, v2, v3, w1, w2, Int32.reduceMul, m4, m16, m1, m2, m3, nI_add, i_add0]
    refine congrArg (fun y => Q (some (Value.int (nI y))) h) ?_
    unfold mcd
    omega
  · have l1 : ((1 : Int32) < nI 4) = True := eq_true (by decide)
    have l2 : ((2 : Int32) < nI 4) = True := eq_true (by decide)
    have l3 : ((3 : Int32) < nI 4) = True := eq_true (by decide)
    have w2 : g 37 2 = nI (w 2) := d1 2 (by omega) (by omega)
    have w3 : g 37 3 = nI (w 3) := d1 3 (by omega) (by omega)
    simp (decide := true) only [e138_0, e138_1, e138_4, e138_5, e138_6, e138_7, e138_8, e138_11, e138_12, e138_13, e138_14, e138_15, e138_17, e138_18, e138_21, e138_22, e138_23, e138_24, e138_25, e138_26, e138_28, e138_30, e138_31, e138_33, e138_35, e138_36, e138_39, e138_40, e138_42, e138_44, e138_45, e138_48, e138_51, e138_52, e138_55, e138_57, e138_58, e138_61, e138_62, e138_63, e138_64, e138_65, e138_67, e138_69, e138_70, e138_72, e138_75, e138_78, e138_79, m138, ok_12_10_12, fv45_10, ok_12_11_12, fv45_11, ok_12_0_12, fv45_0, ok_12_3_12, fv45_3, Kt_some, Kt_none, V_ite, g_if, g_ss, g_1, g_2, g_cn, g_iok, g_sok, g_bok, g_jok, g_qok, g_ivl, g_jvl, g_qvl, g_ist, g_bst, g_jst, g_qst, g_aln, g_isa, g_dl1, g_dl2, g_dl3, g_dl4, g_dl5, g_dd, g_rfs, g_rfn, p_sm0, p_sm1, p_sm2, p_sm3, p_sm4, true_and, and_true, if_true, if_false, ↓reduceIte, Nat.reduceEqDiff, reduceCtorEq, or_true, true_or, and_self, Int32.reduceLT, Int32.reduceAdd, Int32.reduceSub, Int32.reduceToNatClampNeg, not_false_eq_true, not_true_eq_false, xcn, xok_0, xfv_0, xfs_0, xok_1, xfv_1, xok_2, xfv_2, xok_3, xfv_3, xok_4, xfv_4, xfs_4, xok_5, xfv_5, xfs_5, xok_6, xfv_6, xfs_6, xok_7, xfv_7, xok_8, xfv_8, xok_9, xfv_9, xok_10, xfv_10, xok_11, xfv_11, xok_12, xfv_12, xfs_12, xok_13, xfv_13, xfs_13, xok_14, xfv_14, xfs_14, xok_15, xfv_15, xfs_15, xok_16, xfv_16, xok_17, xfv_17, xfs_17, xok_18, xfv_18, xok_19, xfv_19, xfs_19, xok_20, xfv_20, xfs_20, xok_21, xfv_21, xfs_21, xok_22, xfv_22, xok_23, xfv_23, xok_24, xfv_24, xok_25, xfv_25, xok_26, xfv_26, xfs_26, xok_27, xfv_27, xok_28, xfv_28, xok_29, xfv_29, xok_30, xfv_30, xfs_30, xok_31, xfv_31, xfs_31, xok_32, xfv_32, xok_33, xfv_33, xfs_33, xok_34, xfv_34, xfs_34, xok_35, xfv_35, xfs_35, xok_36, xfv_36, xfs_36, xok_37, xfv_37, xfs_37, xok_38, xfv_38, xfs_38, xok_39, xfv_39, xfs_39, xok_40, xfv_40, xok_41, xfv_41, xok_42, xfv_42, xok_43, xfv_43, xok_44, xfv_44, xfs_44, h34, h41 hm, h42 hm, h37 hm, vb, cb, vc, cc2, d2, d3, d4, x0, l1, l2, l3, v1, v2, v3, w1, w2, w3, Int32.reduceMul, m4, m16, m1, m2, m3, nI_add, i_add0]
    refine congrArg (fun y => Q (some (Value.int (nI y))) h) ?_
    unfold mcd
    omega
theorem c139 (hm : MH x u v g j h) (hC : fC n H nb nc cc bi ci) (x0 : x 0 = nI n) (hT : TB n w ld cp bp) (hN : ∀ h2 g2, MH x u v g2 j h2 → fR bi ci g g2 → fD n bi ci g2 w ld cp bp → CF h h2 → Q none h2) : Vm 139 [.ref 34, .int (nI (mcd w ld cp bp)), .int (nI bi), .int (nI ci)] h Q := by
  have h34 := hm.1
  obtain ⟨f1, f2, f3, f4, f5, f6, f7, f8, f9⟩ := hC
  have hlt := mcd_lt hT
  obtain ⟨e1, e2, e3, e4, e5, e6⟩ := mcd_d hT
  generalize mcd w ld cp bp = m at *
  have vb := vp_T f7 (by omega)
  have cb := nI_c (a := bi) (by omega)
  have vc := vp_T f8 (by omega)
  have cc2 := nI_c (a := ci) (by omega)
  have a4 : nI m / 4 = nI (m / 4) := pk_div (d := 4) (by omega) (by omega) (by omega)
  have b4 : nI m - nI m / 4 * 4 = nI (m % 4) := pk_rem (d := 4) (by omega) (by omega) (by omega)
  have a44 : nI (m / 4) / 4 = nI (m / 4 / 4) := pk_div (d := 4) (by omega) (by omega) (by omega)
  have b44 : nI (m / 4) - nI (m / 4) / 4 * 4 = nI (m / 4 % 4) := pk_rem (d := 4) (by omega) (by omega) (by omega)
  have a16 : nI m / 16 = nI (m / 16) := pk_div (d := 16) (by omega) (by omega) (by omega)
  have a7 : nI (m / 16) / 7 = nI (m / 16 / 7) := pk_div (d := 7) (by omega) (by omega) (by omega)
  have b7 : nI (m / 16) - nI (m / 16) / 7 * 7 = nI (m / 16 % 7) := pk_rem (d := 7) (by omega) (by omega) (by omega)
  have a112 : nI m / 112 = nI (m / 112) := pk_div (d := 112) (by omega) (by omega) (by omega)
  have a6 : nI (m / 112) / 6 = nI (m / 112 / 6) := pk_div (d := 6) (by omega) (by omega) (by omega)
  have b6 : nI (m / 112) - nI (m / 112) / 6 * 6 = nI (m / 112 % 6) := pk_rem (d := 6) (by omega) (by omega) (by omega)
  have a66 : nI (m / 112 / 6) / 6 = nI (m / 112 / 6 / 6) := pk_div (d := 6) (by omega) (by omega) (by omega)
  have b66 : nI (m / 112 / 6) - nI (m / 112 / 6) / 6 * 6 = nI (m / 112 / 6 % 6) := pk_rem (d := 6) (by omega) (by omega) (by omega)
  have a666 : nI (m / 112 / 6 / 6) / 6 = nI (m / 112 / 6 / 6 / 6) := pk_div (d := 6) (by omega) (by omega) (by omega)
  have b666 : nI (m / 112 / 6 / 6) - nI (m / 112 / 6 / 6) / 6 * 6 = nI (m / 112 / 6 / 6 % 6) := pk_rem (d := 6) (by omega) (by omega) (by omega)
  rw [a4, e1] at b4
  rw [a44, e2] at b44
  rw [a7, e3] at b7
  rw [a6, e4] at b6
  rw [a66, e5] at b66
  rw [a666, e6] at b666
  have v1 : vp_in 1 4 = True := vp_T (a := 1) (by omega) (by omega)
  have v2 : vp_in 2 4 = True := vp_T (a := 2) (by omega) (by omega)
  have v3 : vp_in 3 4 = True := vp_T (a := 3) (by omega) (by omega)
  have fin : ∀ f : Nat → Int32, f 0 = g 37 0 → (∀ i, 1 ≤ i → i < n → f i = nI (w i)) → Q none (p_set (p_set (p_set h 41 (aI 5 (upd (upd (g 41) bi (nI bp)) ci (nI cp)))) 42 (aI 5 (upd (g 42) ci (nI ld)))) 37 (aI 4 f)) := by
    intro f hf0 hf
    refine hN _ (va_up (va_up (va_up g 41 (upd (upd (g 41) bi (nI bp)) ci (nI cp))) 42 (upd (g 42) ci (nI ld))) 37 f) (MH_i (MH_i (MH_i hm (a := 41) (by decide) (by decide) (by decide) (by decide) (by decide) (by decide)) (a := 42) (by decide) (by decide) (by decide) (by decide) (by decide) (by decide)) (a := 37) (by decide) (by decide) (by decide) (by decide) (by decide) (by decide)) ⟨fun a q1 q2 q3 => by rw [va_n _ _ q1, va_n _ _ q3, va_n _ _ q2], by rw [va_s]; exact hf0, fun q q1 q2 => ?_, fun q q1 => ?_⟩ ⟨fun i q1 q2 => by rw [va_s]; exact hf i q1 q2, ?_, ?_, ?_⟩ (CF_st (CF_st (CF_st (CF_rf h) (by decide) (by decide)) (by decide) (by decide)) (by decide) (by decide))
    · rw [va_n _ _ (by decide), va_n _ _ (by decide), va_s, pk_un q2, pk_un q1]
    · rw [va_n _ _ (by decide), va_s, pk_un q1]
    · rw [va_n _ _ (by decide), va_n _ _ (by decide), va_s, pk_un f9, pk_us]
    · rw [va_n _ _ (by decide), va_n _ _ (by decide), va_s, pk_us]
    · rw [va_n _ _ (by decide), va_s, pk_us]
  rcases (show n = 2 ∨ n = 3 ∨ n = 4 by omega) with rfl | rfl | rfl
  · have l1 : ((1 : Int32) < nI 2) = True := eq_true (by decide)
    have l2 : ((2 : Int32) < nI 2) = False := eq_false (by decide)
    simp (decide := true) only [e139_0, e139_1, e139_4, e139_5, e139_6, e139_7, e139_8, e139_9, e139_10, e139_13, e139_14, e139_15, e139_16, e139_17, e139_18, e139_19, e139_20, e139_21, e139_24, e139_25, e139_26, e139_28, e139_29, e139_31, e139_32, e139_33, e139_34, e139_36, e139_37, e139_39, e139_40, e139_42, e139_44, e139_45, e139_48, e139_51, e139_52, e139_55, e139_57, e139_59, e139_61, e139_62, e139_63, e139_65, e139_67, e139_68, e139_70, e139_73, e139_76, m139, ok_12_10_12, fv45_10, ok_12_11_12, fv45_11, ok_12_0_12, fv45_0, ok_12_3_12, fv45_3, Kt_some, Kt_none, V_ite, g_if, g_ss, g_1, g_2, g_cn, g_iok, g_sok, g_bok, g_jok, g_qok, g_ivl, g_jvl, g_qvl, g_ist, g_bst, g_jst, g_qst, g_aln, g_isa, g_dl1, g_dl2, g_dl3, g_dl4, g_dl5, g_dd, g_rfs, g_rfn, p_sm0, p_sm1, p_sm2, p_sm3, p_sm4, true_and, and_true, if_true, if_false, ↓reduceIte, Nat.reduceEqDiff, reduceCtorEq, or_true, true_or, and_self, Int32.reduceLT, Int32.reduceAdd, Int32.reduceSub, Int32.reduceToNatClampNeg, not_false_eq_true, not_true_eq_false, xcn, xok_0, xfv_0, xfs_0, xok_1, xfv_1, xok_2, xfv_2, xok_3, xfv_3, xok_4, xfv_4, xfs_4, xok_5, xfv_5, xfs_5, xok_6, xfv_6, xfs_6, xok_7, xfv_7, xok_8, xfv_8, xok_9, xfv_9, xok_10, xfv_10, xok_11, xfv_11, xok_12, xfv_12, xfs_12, xok_13, xfv_13, xfs_13, xok_14, xfv_14, xfs_14, xok_15, xfv_15, xfs_15, xok_16, xfv_16, xok_17, xfv_17, xfs_17, xok_18, xfv_18, xok_19, xfv_19, xfs_19, xok_20, xfv_20, xfs_20, xok_21, xfv_21, xfs_21, xok_22, xfv_22, xok_23, xfv_23, xok_24, xfv_24, xok_25, xfv_25, xok_26, xfv_26, xfs_26, xok_27, xfv_27, xok_28, xfv_28, xok_29, xfv_29, xok_30, xfv_30, xfs_30, xok_31, xfv_31, xfs_31, xok_32, xfv_32, xok_33, xfv_33, xfs_33, xok_34, xfv_34, xfs_34, xok_35, xfv_35, xfs_35, xok_36, xfv_36, xfs_36, xok_37, xfv_37, xfs_37, xok_38, xfv_38, xfs_38, xok_39, xfv_39, xfs_39, xok_40, xfv_40, xok_41, xfv_41, xok_42, xfv_42, xok_43, xfv_43, xok_44, xfv_44, xfs_44, h34, h41 hm, h42 hm, h37 hm, vb, cb, vc, cc2, x0, l1, l2, v1, a4, b4, a44, b44, a16, a7, b7, a112, a6, b6]
    refine fin _ (pk_un (by decide)) (fun i q1 q2 => ?_)
    have : i = 1 := by omega
    subst this
    rfl
  · have l1 : ((1 : Int32) < nI 3) = True := eq_true (by decide)
    have l2 : ((2 : Int32) < nI 3) = True := eq_true (by decide)
    have l3 : ((3 : Int32) < nI 3) = False := eq_false (by decide)
    simp (decide := true) only [e139_0, e139_1, e139_4, e139_5, e139_6, e139_7, e139_8, e139_9, e139_10, e139_13, e139_14, e139_15, e139_16, e139_17, e139_18, e139_19, e139_20, e139_21, e139_24, e139_25, e139_26, e139_28, e139_29, e139_31, e139_32, e139_33, e139_34, e139_36, e139_37, e139_39, e139_40, e139_42, e139_44, e139_45, e139_48, e139_51, e139_52, e139_55, e139_57, e139_59, e139_61, e139_62, e139_63, e139_65, e139_67, e139_68, e139_70, e139_73, e139_76, m139, ok_12_10_12, fv45_10, ok_12_11_12, fv45_11, ok_12_0_12, fv45_0, ok_12_3_12, fv45_3, Kt_some, Kt_none, V_ite, g_if, g_ss, g_1, g_2, g_cn, g_iok, g_sok, g_bok, g_jok, g_qok, g_ivl, g_jvl, g_qvl, g_ist, g_bst, g_jst, g_qst, g_aln, g_isa, g_dl1, g_dl2, g_dl3, g_dl4, g_dl5, g_dd, g_rfs, g_rfn, p_sm0, p_sm1, p_sm2, p_sm3, p_sm4, true_and, and_true, if_true, if_false, ↓reduceIte, Nat.reduceEqDiff, reduceCtorEq, or_true, true_or, and_self, Int32.reduceLT, Int32.reduceAdd, Int32.reduceSub, Int32.reduceToNatClampNeg, not_false_eq_true, not_true_eq_false, xcn, xok_0, xfv_0, xfs_0, xok_1, xfv_1, xok_2, xfv_2, xok_3, xfv_3, xok_4, xfv_4, xfs_4, xok_5, xfv_5, xfs_5, xok_6, xfv_6, xfs_6, xok_7, xfv_7, xok_8, xfv_8, xok_9, xfv_9, xok_10, xfv_10, xok_11, xfv_11, xok_12, xfv_12, xfs_12, xok_13, xfv_13, xfs_13, xok_14, xfv_14, xfs_14, xok_15, xfv_15, xfs_15, xok_16, xfv_16, xok_17, xfv_17, xfs_17, xok_18, xfv_18, xok_19, xfv_19, xfs_19, xok_20, xfv_20, xfs_20, xok_21, xfv_21, xfs_21, xok_22, xfv_22, xok_23, xfv_23, xok_24, xfv_24, xok_25, xfv_25, xok_26, xfv_26, xfs_26, xok_27, xfv_27, xok_28, xfv_28, xok_29, xfv_29, xok_30, xfv_30, xfs_30, xok_31, xfv_31, xfs_31, xok_32, xfv_32, xok_33, xfv_33, xfs_33, xok_34, xfv_34, xfs_34, xok_35, xfv_35, xfs_35, xok_36, xfv_36, xfs_36, xok_37, xfv_37, xfs_37, xok_38, xfv_38, xfs_38, xok_39, xfv_39, xfs_39, xok_40, xfv_40, xok_41, xfv_41, xok_42, xfv_42, xok_43, xfv_43, xok_44, xfv_44, xfs_44, h34, h41 hm, h42 hm, h37 hm, vb, cb, vc, cc2, x0, l1, l2, l3, v1, v2, a4, b4, a44, b44, a16, a7, b7, a112, a6, b6, a66, b66]
    refine fin _ rfl (fun i q1 q2 => ?_)
    rcases (show i = 1 ∨ i = 2 by omega) with rfl | rfl <;> rfl
  · have l1 : ((1 : Int32) < nI 4) = True := eq_true (by decide)
    have l2 : ((2 : Int32) < nI 4) = True := eq_true (by decide)
    have l3 : ((3 : Int32) < nI 4) = True := eq_true (by decide)
    have l4 : ((4 : Int32) < nI 4) = False := eq_false (by decide)
    simp (decide := true) only [e139_0, e139_1, e139_4, e139_5, e139_6, e139_7, e139_8, e139_9, e139_10, e139_13, e139_14, e139_15, e139_16, e139_17, e139_18, e139_19, e139_20, e139_21, e139_24, e139_25, e139_26, e139_28, e139_29, e139_31, e139_32, e139_33, e139_34, e139_36, e139_37, e139_39, e139_40, e139_42, e139_44, e139_45, e139_48, e139_51, e139_52, e139_55, e139_57, e139_59, e139_61, e139_62, e139_63, e139_65, e139_67, e139_68, e139_70, e139_73, e139_76, m139, ok_12_10_12, fv45_10, ok_12_11_12, fv45_11, ok_12_0_12, fv45_0, ok_12_3_12, fv45_3, Kt_some, Kt_none, V_ite, g_if, g_ss, g_1, g_2, g_cn, g_iok, g_sok, g_bok, g_jok, g_qok, g_ivl, g_jvl, g_qvl, g_ist, g_bst, g_jst, g_qst, g_aln, g_isa, g_dl1, g_dl2, g_dl3, g_dl4, g_dl5, g_dd, g_rfs, g_rfn, p_sm0, p_sm1, p_sm2, p_sm3, p_sm4, true_and, and_true, if_true, if_false, ↓reduceIte, Nat.reduceEqDiff, reduceCtorEq, or_true, true_or, and_self, Int32.reduceLT, Int32.reduceAdd, Int32.reduceSub, Int32.reduceToNatClampNeg, not_false_eq_true, not_true_eq_false, xcn, xok_0, xfv_0, xfs_0, xok_1, xfv_1, xok_2, xfv_2, xok_3, xfv_3, xok_4, xfv_4, xfs_4, xok_5, xfv_5, xfs_5, xok_6, xfv_6, xfs_6, xok_7, xfv_7, xok_8, xfv_8, xok_9, xfv_9, xok_10, xfv_10, xok_11, xfv_11, xok_12, xfv_12, xfs_12, xok_13, xfv_13, xfs_13, xok_14, xfv_14, xfs_14, xok_15, xfv_15, xfs_15, xok_16, xfv_16, xok_17, xfv_17, xfs_17, xok_18, xfv_18, xok_19, xfv_19, xfs_19, xok_20, xfv_20, xfs_20, xok_21, xfv_21, xfs_21, xok_22, xfv_22, xok_23, xfv_23, xok_24, xfv_24, xok_25, xfv_25, xok_26, xfv_26, xfs_26, xok_27, xfv_27, xok_28, xfv_28, xok_29, xfv_29, xok_30, xfv_30, xfs_30, xok_31, xfv_31, xfs_31, xok_32, xfv_32, xok_33, xfv_33, xfs_33, xok_34, xfv_34, xfs_34, xok_35, xfv_35, xfs_35, xok_36, xfv_36, xfs_36, xok_37, xfv_37, xfs_37, xok_38, xfv_38, xfs_38, xok_39, xfv_39, xfs_39, xok_40, xfv_40, xok_41, xfv_41, xok_42, xfv_42, xok_43, xfv_43, xok_44, xfv_44, xfs_44, h34, h41 hm, h42 hm, h37 hm, vb, cb, vc, cc2, x0, l1, l2, l3, l4, v1, v2, v3, a4, b4, a44, b44, a16, a7, b7, a112, a6, b6, a66, b66, a666, b666]
    refine fin _ rfl (fun i q1 q2 => ?_)
    rcases (show i = 1 ∨ i = 2 ∨ i = 3 by omega) with rfl | rfl | rfl <;> rfl
end S60
