section S50
variable {σ : pS} {h h0 : pH} {K Q : Option Value → pH → Prop} {x : Nat → Int32} {u v : Int64} {g : Nat → Nat → Int32} {j : Nat → Nat → Int64}
/-- what would be left, if one is lined -/
def lA (W D : Nat → Nat) (k : Nat) : Nat → Nat
  | 0 => 0
  | m + 1 => lA W D k m + (if m = 0 then 0 else if m = k then W m else W m - D m)
theorem lA_e (W D : Nat → Nat) (k : Nat) (hk : 1 ≤ k) : ∀ m, lA W D k m = lA W D 0 m + (if k < m then min (W k) (D k) else 0)
  | 0 => rfl
  | m + 1 => by
    have ih := lA_e W D k hk m
    unfold lA
    rw [ih]
    by_cases h0 : m = 0
    · subst h0
      simp only [if_true, show ¬ k < 0 by omega, show ¬ k < 0 + 1 by omega, if_false]
    · simp only [h0, if_false]
      by_cases hm : m = k
      · subst hm
        simp only [if_true, show ¬ m < m by omega, show m < m + 1 by omega, if_false]
        omega
      · simp only [hm, if_false]
        by_cases hkm : k < m
        · simp only [hkm, show k < m + 1 by omega, if_true]; omega
        · simp only [hkm, show ¬ k < m + 1 by omega, if_false]; omega
theorem lA_b (W D : Nat → Nat) (k : Nat) : ∀ m, (∀ i, i < m → W i ≤ 5) → lA W D k m ≤ 5 * m
  | 0, _ => Nat.le_refl 0
  | m + 1, hW => by
    have ih := lA_b W D k m (fun i hi => hW i (by omega))
    have := hW m (by omega)
    unfold lA
    split
    · omega
    · split <;> omega
theorem l148b {k d n : Nat} {l2 l3 : Option Value} {W L : Nat → Nat} (hm : MH x u v g j h) (x0 : x 0 = nI n) (hn : n ≤ 4) (hd : d ≤ 9) (hk : k < 100) (hW : ∀ i, i < n → g 37 i = nI (W i) ∧ W i ≤ 5) (hL : ∀ i, i < n → g 36 i = nI (L i) ∧ L i ≤ 5) (hK : ∀ l7, V 148 83 [some (.ref 34), some (.int (nI d)), l2, l3, some (.int (nI k)), some (.int (nI (lA W (fun i => d * L i) k n))), some (.int (nI n)), l7] [] h K) : ∀ (e i : Nat) (l7 : Option Value), 1 ≤ i → i + e = n → V 148 22 [some (.ref 34), some (.int (nI d)), l2, l3, some (.int (nI k)), some (.int (nI (lA W (fun i => d * L i) k i))), some (.int (nI i)), l7] [] h K := by
  have h34 := hm.1
  intro e
  induction e with
  | zero =>
    intro i l7 h1 hi
    have e1 := nI_F (a := i) (b := n) (by omega) (by omega)
    have e2 : i = n := by omega
    subst e2
    rw [e148_22]
    simp (decide := true) only [e148_0, e148_1, e148_2, e148_3, e148_4, e148_5, e148_7, e148_9, e148_10, e148_13, e148_16, e148_17, e148_19, e148_20, e148_24, e148_25, e148_28, e148_31, e148_32, e148_35, e148_37, e148_38, e148_40, e148_42, e148_45, e148_46, e148_49, e148_50, e148_51, e148_54, e148_56, e148_57, e148_58, e148_59, e148_61, e148_63, e148_65, e148_68, e148_70, e148_73, e148_74, e148_75, e148_77, e148_80, e148_85, e148_86, e148_89, e148_91, e148_94, e148_95, e148_96, e148_98, e148_99, e148_102, e148_104, e148_107, e148_108, e148_109, e148_112, e148_115, e148_116, m148, ok_12_0_12, fv45_0, ok_12_3_12, fv45_3, ok_12_2_12, fv45_2, Kt_some, Kt_none, V_ite, g_if, g_ss, g_1, g_2, g_cn, g_iok, g_sok, g_bok, g_jok, g_qok, g_ivl, g_jvl, g_qvl, g_ist, g_bst, g_jst, g_qst, g_aln, g_isa, g_dl1, g_dl2, g_dl3, g_dl4, g_dl5, g_dd, g_rfs, g_rfn, p_sm0, p_sm1, p_sm2, p_sm3, p_sm4, true_and, and_true, if_true, if_false, ↓reduceIte, Nat.reduceEqDiff, reduceCtorEq, or_true, true_or, and_self, Int32.reduceLT, Int32.reduceAdd, Int32.reduceSub, Int32.reduceToNatClampNeg, not_false_eq_true, not_true_eq_false, xcn, xok_0, xfv_0, xfs_0, xok_1, xfv_1, xok_2, xfv_2, xok_3, xfv_3, xok_4, xfv_4, xfs_4, xok_5, xfv_5, xfs_5, xok_6, xfv_6, xfs_6, xok_7, xfv_7, xok_8, xfv_8, xok_9, xfv_9, xok_10, xfv_10, xok_11, xfv_11, xok_12, xfv_12, xfs_12, xok_13, xfv_13, xfs_13, xok_14, xfv_14, xfs_14, xok_15, xfv_15, xfs_15, xok_16, xfv_16, xok_17, xfv_17, xfs_17, xok_18, xfv_18, xok_19, xfv_19, xfs_19, xok_20, xfv_20, xfs_20, xok_21, xfv_21, xfs_21, xok_22, xfv_22, xok_23, xfv_23, xok_24, xfv_24, xok_25, xfv_25, xok_26, xfv_26, xfs_26, xok_27, xfv_27, xok_28, xfv_28, xok_29, xfv_29, xok_30, xfv_30, xfs_30, xok_31, xfv_31, xfs_31, xok_32, xfv_32, xok_33, xfv_33, xfs_33, xok_34, xfv_34, xfs_34, xok_35, xfv_35, xfs_35, xok_36, xfv_36, xfs_36, xok_37, xfv_37, xfs_37, xok_38, xfv_38, xfs_38, xok_39, xfv_39, xfs_39, xok_40, xfv_40, xok_41, xfv_41, xok_42, xfv_42, xok_43, xfv_43, xok_44, xfv_44, xfs_44, h34, x0, e1]
    exact hK l7
  | succ e ih =>
    intro i l7 h1 hi
    have e1 := nI_T (a := i) (b := n) (by omega) (by omega)
    have v3 := vp_T (show i < 4 by omega) (by omega)
    have c3 := nI_c (a := i) (by omega)
    obtain ⟨w1, w2⟩ := hW i (by omega)
    obtain ⟨k1, k2⟩ := hL i (by omega)
    have hml : nI d * nI (L i) = nI (d * L i) := pk_mul d (L i)
    have hdl : d * L i ≤ 45 := Nat.mul_le_mul hd k2
    have hs : lA W (fun i => d * L i) k (i + 1) = lA W (fun i => d * L i) k i + (if i = k then W i else W i - d * L i) := by
      show _ + _ = _
      rw [if_neg (show ¬ i = 0 by omega)]
    rw [e148_22]
    by_cases hik : i = k
    · subst hik
      rw [if_pos rfl] at hs
      have e5 : (nI i = nI i) = True := eq_true rfl
      by_cases hw0 : W i = 0
      · have e6 : (0 < nI (W i)) = False := by rw [hw0]; exact eq_false (by decide)
        have := ih (i + 1) (some (.int (nI (W i)))) (by omega) (by omega)
        rw [hs, hw0, Nat.add_zero] at this
        rw [hw0] at e6 w1
        simp (decide := true) only [e148_0, e148_1, e148_2, e148_3, e148_4, e148_5, e148_7, e148_9, e148_10, e148_13, e148_16, e148_17, e148_19, e148_20, e148_24, e148_25, e148_28, e148_31, e148_32, e148_35, e148_37, e148_38, e148_40, e148_42, e148_45, e148_46, e148_49, e148_50, e148_51, e148_54, e148_56, e148_57, e148_58, e148_59, e148_61, e148_63, e148_65, e148_68, e148_70, e148_73, e148_74, e148_75, e148_77, e148_80, e148_85, e148_86, e148_89, e148_91, e148_94, e148_95, e148_96, e148_98, e148_99, e148_102, e148_104, e148_107, e148_108, e148_109, e148_112, e148_115, e148_116, m148, ok_12_0_12, fv45_0, ok_12_3_12, fv45_3, ok_12_2_12, fv45_2, Kt_some, Kt_none, V_ite, g_if, g_ss, g_1, g_2, g_cn, g_iok, g_sok, g_bok, g_jok, g_qok, g_ivl, g_jvl, g_qvl, g_ist, g_bst, g_jst, g_qst, g_aln, g_isa, g_dl1, g_dl2, g_dl3, g_dl4, g_dl5, g_dd, g_rfs, g_rfn, p_sm0, p_sm1, p_sm2, p_sm3, p_sm4, true_and, and_true, if_true, if_false, ↓reduceIte, Nat.reduceEqDiff, reduceCtorEq, or_true, true_or, and_self, Int32.reduceLT, Int32.reduceAdd, Int32.reduceSub, Int32.reduceToNatClampNeg, not_false_eq_true, not_true_eq_false, xcn, xok_0, xfv_0, xfs_0, xok_1, xfv_1, xok_2, xfv_2, xok_3, xfv_3, xok_4, xfv_4, xfs_4, xok_5, xfv_5, xfs_5, xok_6, xfv_6, xfs_6, xok_7, xfv_7, xok_8, xfv_8, xok_9, xfv_9, xok_10, xfv_10, xok_11, xfv_11, xok_12, xfv_12, xfs_12, xok_13, xfv_13, xfs_13, xok_14, xfv_14, xfs_14, xok_15, xfv_15, xfs_15, xok_16, xfv_16, xok_17, xfv_17, xfs_17, xok_18, xfv_18, xok_19, xfv_19, xfs_19, xok_20, xfv_20, xfs_20, xok_21, xfv_21, xfs_21, xok_22, xfv_22, xok_23, xfv_23, xok_24, xfv_24, xok_25, xfv_25, xok_26, xfv_26, xfs_26, xok_27, xfv_27, xok_28, xfv_28, xok_29, xfv_29, xok_30, xfv_30, xfs_30, xok_31, xfv_31, xfs_31, xok_32, xfv_32, xok_33, xfv_33, xfs_33, xok_34, xfv_34, xfs_34, xok_35, xfv_35, xfs_35, xok_36, xfv_36, xfs_36, xok_37, xfv_37, xfs_37, xok_38, xfv_38, xfs_38, xok_39, xfv_39, xfs_39, xok_40, xfv_40, xok_41, xfv_41, xok_42, xfv_42, xok_43, xfv_43, xok_44, xfv_44, xfs_44, h34, x0, e1, h37 hm, v3, c3, w1, e5, i_sub0, e6, i_add0, nI_1]
        exact this
      · have e6 : (0 < nI (W i)) = True := nI_T (a := 0) (by omega) (by omega)
        have := ih (i + 1) (some (.int (nI (W i)))) (by omega) (by omega)
        rw [hs] at this
        simp (decide := true) only [e148_0, e148_1, e148_2, e148_3, e148_4, e148_5, e148_7, e148_9, e148_10, e148_13, e148_16, e148_17, e148_19, e148_20, e148_24, e148_25, e148_28, e148_31, e148_32, e148_35, e148_37, e148_38, e148_40, e148_42, e148_45, e148_46, e148_49, e148_50, e148_51, e148_54, e148_56, e148_57, e148_58, e148_59, e148_61, e148_63, e148_65, e148_68, e148_70, e148_73, e148_74, e148_75, e148_77, e148_80, e148_85, e148_86, e148_89, e148_91, e148_94, e148_95, e148_96, e148_98, e148_99, e148_102, e148_104, e148_107, e148_108, e148_109, e148_112, e148_115, e148_116, m148, ok_12_0_12, fv45_0, ok_12_3_12, fv45_3, ok_12_2_12, fv45_2, Kt_some, Kt_none, V_ite, g_if, g_ss, g_1, g_2, g_cn, g_iok, g_sok, g_bok, g_jok, g_qok, g_ivl, g_jvl, g_qvl, g_ist, g_bst, g_jst, g_qst, g_aln, g_isa, g_dl1, g_dl2, g_dl3, g_dl4, g_dl5, g_dd, g_rfs, g_rfn, p_sm0, p_sm1, p_sm2, p_sm3, p_sm4, true_and, and_true, if_true, if_false, ↓reduceIte, Nat.reduceEqDiff, reduceCtorEq, or_true, true_or, and_self, Int32.reduceLT, Int32.reduceAdd, Int32.reduceSub, Int32.reduceToNatClampNeg, not_false_eq_true, not_true_eq_false, xcn, xok_0, xfv_0, xfs_0, xok_1, xfv_1, xok_2, xfv_2, xok_3, xfv_3, xok_4, xfv_4, xfs_4, xok_5, xfv_5, xfs_5, xok_6, xfv_6, xfs_6, xok_7, xfv_7, xok_8, xfv_8, xok_9, xfv_9, xok_10, xfv_10, xok_11, xfv_11, xok_12, xfv_12, xfs_12, xok_13, xfv_13, xfs_13, xok_14, xfv_14, xfs_14, xok_15, xfv_15, xfs_15, xok_16, xfv_16, xok_17, xfv_17, xfs_17, xok_18, xfv_18, xok_19, xfv_19, xfs_19, xok_20, xfv_20, xfs_20, xok_21, xfv_21, xfs_21, xok_22, xfv_22, xok_23, xfv_23, xok_24, xfv_24, xok_25, xfv_25, xok_26, xfv_26, xfs_26, xok_27, xfv_27, xok_28, xfv_28, xok_29, xfv_29, xok_30, xfv_30, xfs_30, xok_31, xfv_31, xfs_31, xok_32, xfv_32, xok_33, xfv_33, xfs_33, xok_34, xfv_34, xfs_34, xok_35, xfv_35, xfs_35, xok_36, xfv_36, xfs_36, xok_37, xfv_37, xfs_37, xok_38, xfv_38, xfs_38, xok_39, xfv_39, xfs_39, xok_40, xfv_40, xok_41, xfv_41, xok_42, xfv_42, xok_43, xfv_43, xok_44, xfv_44, xfs_44, h34, x0, e1, h37 hm, v3, c3, w1, e5, i_sub0, e6, nI_add, nI_1]
        exact this
    · rw [if_neg hik] at hs
      have e5 : (nI i = nI k) = False := eq_false (fun q => hik ((nI_eq (by omega) (by omega)).mp q))
      by_cases hlt : d * L i < W i
      · have e7 : nI (W i) - nI (d * L i) = nI (W i - d * L i) := pk_sub (by omega)
        have e6 : (0 < nI (W i - d * L i)) = True := nI_T (a := 0) (by omega) (by omega)
        have := ih (i + 1) (some (.int (nI (W i - d * L i)))) (by omega) (by omega)
        rw [hs] at this
        simp (decide := true) only [e148_0, e148_1, e148_2, e148_3, e148_4, e148_5, e148_7, e148_9, e148_10, e148_13, e148_16, e148_17, e148_19, e148_20, e148_24, e148_25, e148_28, e148_31, e148_32, e148_35, e148_37, e148_38, e148_40, e148_42, e148_45, e148_46, e148_49, e148_50, e148_51, e148_54, e148_56, e148_57, e148_58, e148_59, e148_61, e148_63, e148_65, e148_68, e148_70, e148_73, e148_74, e148_75, e148_77, e148_80, e148_85, e148_86, e148_89, e148_91, e148_94, e148_95, e148_96, e148_98, e148_99, e148_102, e148_104, e148_107, e148_108, e148_109, e148_112, e148_115, e148_116, m148, ok_12_0_12, fv45_0, ok_12_3_12, fv45_3, ok_12_2_12, fv45_2, Kt_some, Kt_none, V_ite, g_if, g_ss, g_1, g_2, g_cn, g_iok, g_sok, g_bok, g_jok, g_qok, g_ivl, g_jvl, g_qvl, g_ist, g_bst, g_jst, g_qst, g_aln, g_isa, g_dl1, g_dl2, g_dl3, g_dl4, g_dl5, g_dd, g_rfs, g_rfn, p_sm0, p_sm1, p_sm2, p_sm3, p_sm4, true_and, and_true, if_true, if_false, ↓reduceIte, Nat.reduceEqDiff, reduceCtorEq, or_true, true_or, and_self, Int32.reduceLT, Int32.reduceAdd, Int32.reduceSub, Int32.reduceToNatClampNeg, not_false_eq_true, not_true_eq_false, xcn, xok_0, xfv_0, xfs_0, xok_1, xfv_1, xok_2, xfv_2, xok_3, xfv_3, xok_4, xfv_4, xfs_4, xok_5, xfv_5, xfs_5, xok_6, xfv_6, xfs_6, xok_7, xfv_7, xok_8, xfv_8, xok_9, xfv_9, xok_10, xfv_10, xok_11, xfv_11, xok_12, xfv_12, xfs_12, xok_13, xfv_13, xfs_13, xok_14, xfv_14, xfs_14, xok_15, xfv_15, xfs_15, xok_16, xfv_16, xok_17, xfv_17, xfs_17, xok_18, xfv_18, xok_19, xfv_19, xfs_19, xok_20, xfv_20, xfs_20, xok_21, xfv_21, xfs_21, xok_22, xfv_22, xok_23, xfv_23, xok_24, xfv_24, xok_25, xfv_25, xok_26, xfv_26, xfs_26, xok_27, xfv_27, xok_28, xfv_28, xok_29, xfv_29, xok_30, xfv_30, xfs_30, xok_31, xfv_31, xfs_31, xok_32, xfv_32, xok_33, xfv_33, xfs_33, xok_34, xfv_34, xfs_34, xok_35, xfv_35, xfs_35, xok_36, xfv_36, xfs_36, xok_37, xfv_37, xfs_37, xok_38, xfv_38, xfs_38, xok_39, xfv_39, xfs_39, xok_40, xfv_40, xok_41, xfv_41, xok_42, xfv_42, xok_43, xfv_43, xok_44, xfv_44, xfs_44, h34, x0, e1, h37 hm, h36 hm, v3, c3, w1, k1, e5, hml, e7, e6, nI_add, nI_1]
        exact this
      · have e6 : (0 < nI (W i) - nI (d * L i)) = False := by
          refine eq_false (fun r => ?_)
          by_cases he : W i = d * L i
          · rw [he, pk_sub (Nat.le_refl _), Nat.sub_self] at r
            exact absurd r (by decide)
          · have := pk_sneg (a := W i) (b := d * L i) (by omega) (by omega)
            exact absurd (Int32.lt_trans r this) (by decide)
        have := ih (i + 1) (some (.int (nI (W i) - nI (d * L i)))) (by omega) (by omega)
        rw [hs, show W i - d * L i = 0 by omega, Nat.add_zero] at this
        simp (decide := true) only [e148_0, e148_1, e148_2, e148_3, e148_4, e148_5, e148_7, e148_9, e148_10, e148_13, e148_16, e148_17, e148_19, e148_20, e148_24, e148_25, e148_28, e148_31, e148_32, e148_35, e148_37, e148_38, e148_40, e148_42, e148_45, e148_46, e148_49, e148_50, e148_51, e148_54, e148_56, e148_57, e148_58, e148_59, e148_61, e148_63, e148_65, e148_68, e148_70, e148_73, e148_74, e148_75, e148_77, e148_80, e148_85, e148_86, e148_89, e148_91, e148_94, e148_95, e148_96, e148_98, e148_99, e148_102, e148_104, e148_107, e148_108, e148_109, e148_112, e148_115, e148_116, m148, ok_12_0_12, fv45_0, ok_12_3_12, fv45_3, ok_12_2_12, fv45_2, Kt_some, Kt_none, V_ite, g_if, g_ss, g_1, g_2, g_cn, g_iok, g_sok, g_bok, g_jok, g_qok, g_ivl, g_jvl, g_qvl, g_ist, g_bst, g_jst, g_qst, g_aln, g_isa, g_dl1, g_dl2, g_dl3, g_dl4, g_dl5, g_dd, g_rfs, g_rfn, p_sm0, p_sm1, p_sm2, p_sm3, p_sm4, true_and, and_true, if_true, if_false, ↓reduceIte, Nat.reduceEqDiff, reduceCtorEq, or_true, true_or, and_self, Int32.reduceLT, Int32.reduceAdd, Int32.reduceSub, Int32.reduceToNatClampNeg, not_false_eq_true, not_true_eq_false, xcn, xok_0, xfv_0, xfs_0, xok_1, xfv_1, xok_2, xfv_2, xok_3, xfv_3, xok_4, xfv_4, xfs_4, xok_5, xfv_5, xfs_5, xok_6, xfv_6, xfs_6, xok_7, xfv_7, xok_8, xfv_8, xok_9, xfv_9, xok_10, xfv_10, xok_11, xfv_11, xok_12, xfv_12, xfs_12, xok_13, xfv_13, xfs_13, xok_14, xfv_14, xfs_14, xok_15, xfv_15, xfs_15, xok_16, xfv_16, xok_17, xfv_17, xfs_17, xok_18, xfv_18, xok_19, xfv_19, xfs_19, xok_20, xfv_20, xfs_20, xok_21, xfv_21, xfs_21, xok_22, xfv_22, xok_23, xfv_23, xok_24, xfv_24, xok_25, xfv_25, xok_26, xfv_26, xfs_26, xok_27, xfv_27, xok_28, xfv_28, xok_29, xfv_29, xok_30, xfv_30, xfs_30, xok_31, xfv_31, xfs_31, xok_32, xfv_32, xok_33, xfv_33, xfs_33, xok_34, xfv_34, xfs_34, xok_35, xfv_35, xfs_35, xok_36, xfv_36, xfs_36, xok_37, xfv_37, xfs_37, xok_38, xfv_38, xfs_38, xok_39, xfv_39, xfs_39, xok_40, xfv_40, xok_41, xfv_41, xok_42, xfv_42, xok_43, xfv_43, xok_44, xfv_44, xfs_44, h34, x0, e1, h37 hm, h36 hm, v3, c3, w1, k1, e5, hml, e6, i_add0, nI_1]
        exact this
theorem bl_c (f f2 : Nat → Int32) (n : Nat) : ∀ (e i b : Nat), i + e ≤ n → b < n → (∀ q r, q < n → r < n → 1 ≤ q → 1 ≤ r → (f q < f r ↔ f2 q < f2 r)) → 1 ≤ b → 1 ≤ i → bl f e i b = bl f2 e i b
  | 0, _, _, _, _, _, _, _ => rfl
  | e + 1, i, b, hi, hb, hf, h1, h2 => by
    unfold bl
    have := hf b i hb (by omega) h1 h2
    by_cases hq : f b < f i
    · rw [if_pos hq, if_pos (this.mp hq)]
      exact bl_c f f2 n e (i + 1) i (by omega) (by omega) hf h2 (by omega)
    · rw [if_neg hq, if_neg (fun r => hq (this.mpr r))]
      exact bl_c f f2 n e (i + 1) b (by omega) hb hf h1 (by omega)
theorem l148 {d n : Nat} {W L : Nat → Nat} (hm : MH x u v g j h) (x0 : x 0 = nI n) (hn : n ≤ 4) (hd : d ≤ 9) (hW : ∀ i, i < n → g 37 i = nI (W i) ∧ W i ≤ 5) (hL : ∀ i, i < n → g 36 i = nI (L i) ∧ L i ≤ 5) (hn2 : 2 ≤ n) : ∀ (e i b : Nat) (l5 l6 l7 : Option Value), 1 ≤ i → i + e = n → Q (some (.int (nI (bl (fun k => nI (lA W (fun i => d * L i) k n)) e i b)))) h → V 148 7 [some (.ref 34), some (.int (nI d)), some (.int (nI b)), some (.int (nI (lA W (fun i => d * L i) b n))), some (.int (nI i)), l5, l6, l7] [] h Q := by
  have h34 := hm.1
  have hb : ∀ k, lA W (fun i => d * L i) k n ≤ 20 := fun k => by
    have := lA_b W (fun i => d * L i) k n (fun i hi => (hW i hi).2)
    omega
  intro e
  induction e with
  | zero =>
    intro i b l5 l6 l7 h1 hi hK
    have e1 := nI_F (a := i) (b := n) (by omega) (by omega)
    rw [e148_7]
    simp (decide := true) only [e148_0, e148_1, e148_2, e148_3, e148_4, e148_5, e148_9, e148_10, e148_13, e148_16, e148_17, e148_19, e148_20, e148_24, e148_25, e148_28, e148_31, e148_32, e148_35, e148_37, e148_38, e148_40, e148_42, e148_45, e148_46, e148_49, e148_50, e148_51, e148_54, e148_56, e148_57, e148_58, e148_59, e148_61, e148_63, e148_65, e148_68, e148_70, e148_73, e148_74, e148_75, e148_77, e148_80, e148_83, e148_85, e148_86, e148_89, e148_91, e148_94, e148_95, e148_96, e148_98, e148_99, e148_102, e148_104, e148_107, e148_108, e148_109, e148_112, e148_115, e148_116, m148, ok_12_0_12, fv45_0, ok_12_3_12, fv45_3, ok_12_2_12, fv45_2, Kt_some, Kt_none, V_ite, g_if, g_ss, g_1, g_2, g_cn, g_iok, g_sok, g_bok, g_jok, g_qok, g_ivl, g_jvl, g_qvl, g_ist, g_bst, g_jst, g_qst, g_aln, g_isa, g_dl1, g_dl2, g_dl3, g_dl4, g_dl5, g_dd, g_rfs, g_rfn, p_sm0, p_sm1, p_sm2, p_sm3, p_sm4, true_and, and_true, if_true, if_false, ↓reduceIte, Nat.reduceEqDiff, reduceCtorEq, or_true, true_or, and_self, Int32.reduceLT, Int32.reduceAdd, Int32.reduceSub, Int32.reduceToNatClampNeg, not_false_eq_true, not_true_eq_false, xcn, xok_0, xfv_0, xfs_0, xok_1, xfv_1, xok_2, xfv_2, xok_3, xfv_3, xok_4, xfv_4, xfs_4, xok_5, xfv_5, xfs_5, xok_6, xfv_6, xfs_6, xok_7, xfv_7, xok_8, xfv_8, xok_9, xfv_9, xok_10, xfv_10, xok_11, xfv_11, xok_12, xfv_12, xfs_12, xok_13, xfv_13, xfs_13, xok_14, xfv_14, xfs_14, xok_15, xfv_15, xfs_15, xok_16, xfv_16, xok_17, xfv_17, xfs_17, xok_18, xfv_18, xok_19, xfv_19, xfs_19, xok_20, xfv_20, xfs_20, xok_21, xfv_21, xfs_21, xok_22, xfv_22, xok_23, xfv_23, xok_24, xfv_24, xok_25, xfv_25, xok_26, xfv_26, xfs_26, xok_27, xfv_27, xok_28, xfv_28, xok_29, xfv_29, xok_30, xfv_30, xfs_30, xok_31, xfv_31, xfs_31, xok_32, xfv_32, xok_33, xfv_33, xfs_33, xok_34, xfv_34, xfs_34, xok_35, xfv_35, xfs_35, xok_36, xfv_36, xfs_36, xok_37, xfv_37, xfs_37, xok_38, xfv_38, xfs_38, xok_39, xfv_39, xfs_39, xok_40, xfv_40, xok_41, xfv_41, xok_42, xfv_42, xok_43, xfv_43, xok_44, xfv_44, xfs_44, h34, x0, e1]
    exact hK
  | succ e ih =>
    intro i b l5 l6 l7 h1 hi hK
    have e1 := nI_T (a := i) (b := n) (by omega) (by omega)
    rw [e148_7]
    simp (decide := true) only [e148_0, e148_1, e148_2, e148_3, e148_4, e148_5, e148_9, e148_10, e148_13, e148_16, e148_17, e148_19, e148_20, e148_24, e148_25, e148_28, e148_31, e148_32, e148_35, e148_37, e148_38, e148_40, e148_42, e148_45, e148_46, e148_49, e148_50, e148_51, e148_54, e148_56, e148_57, e148_58, e148_59, e148_61, e148_63, e148_65, e148_68, e148_70, e148_73, e148_74, e148_75, e148_77, e148_80, e148_83, e148_85, e148_86, e148_89, e148_91, e148_94, e148_95, e148_96, e148_98, e148_99, e148_102, e148_104, e148_107, e148_108, e148_109, e148_112, e148_115, e148_116, m148, ok_12_0_12, fv45_0, ok_12_3_12, fv45_3, ok_12_2_12, fv45_2, Kt_some, Kt_none, V_ite, g_if, g_ss, g_1, g_2, g_cn, g_iok, g_sok, g_bok, g_jok, g_qok, g_ivl, g_jvl, g_qvl, g_ist, g_bst, g_jst, g_qst, g_aln, g_isa, g_dl1, g_dl2, g_dl3, g_dl4, g_dl5, g_dd, g_rfs, g_rfn, p_sm0, p_sm1, p_sm2, p_sm3, p_sm4, true_and, and_true, if_true, if_false, ↓reduceIte, Nat.reduceEqDiff, reduceCtorEq, or_true, true_or, and_self, Int32.reduceLT, Int32.reduceAdd, Int32.reduceSub, Int32.reduceToNatClampNeg, not_false_eq_true, not_true_eq_false, xcn, xok_0, xfv_0, xfs_0, xok_1, xfv_1, xok_2, xfv_2, xok_3, xfv_3, xok_4, xfv_4, xfs_4, xok_5, xfv_5, xfs_5, xok_6, xfv_6, xfs_6, xok_7, xfv_7, xok_8, xfv_8, xok_9, xfv_9, xok_10, xfv_10, xok_11, xfv_11, xok_12, xfv_12, xfs_12, xok_13, xfv_13, xfs_13, xok_14, xfv_14, xfs_14, xok_15, xfv_15, xfs_15, xok_16, xfv_16, xok_17, xfv_17, xfs_17, xok_18, xfv_18, xok_19, xfv_19, xfs_19, xok_20, xfv_20, xfs_20, xok_21, xfv_21, xfs_21, xok_22, xfv_22, xok_23, xfv_23, xok_24, xfv_24, xok_25, xfv_25, xok_26, xfv_26, xfs_26, xok_27, xfv_27, xok_28, xfv_28, xok_29, xfv_29, xok_30, xfv_30, xfs_30, xok_31, xfv_31, xfs_31, xok_32, xfv_32, xok_33, xfv_33, xfs_33, xok_34, xfv_34, xfs_34, xok_35, xfv_35, xfs_35, xok_36, xfv_36, xfs_36, xok_37, xfv_37, xfs_37, xok_38, xfv_38, xfs_38, xok_39, xfv_39, xfs_39, xok_40, xfv_40, xok_41, xfv_41, xok_42, xfv_42, xok_43, xfv_43, xok_44, xfv_44, xfs_44, h34, x0, e1]
    refine l148b (W := W) (L := L) hm x0 hn hd (by omega) hW hL (fun l7 => ?_) (n - 1) 1 l7 (by omega) (by omega)
    unfold bl at hK
    by_cases hq : nI (lA W (fun i => d * L i) b n) < nI (lA W (fun i => d * L i) i n)
    · rw [if_pos hq] at hK
      simp (decide := true) only [e148_0, e148_1, e148_2, e148_3, e148_4, e148_5, e148_9, e148_10, e148_13, e148_16, e148_17, e148_19, e148_20, e148_24, e148_25, e148_28, e148_31, e148_32, e148_35, e148_37, e148_38, e148_40, e148_42, e148_45, e148_46, e148_49, e148_50, e148_51, e148_54, e148_56, e148_57, e148_58, e148_59, e148_61, e148_63, e148_65, e148_68, e148_70, e148_73, e148_74, e148_75, e148_77, e148_80, e148_83, e148_85, e148_86, e148_89, e148_91, e148_94, e148_95, e148_96, e148_98, e148_99, e148_102, e148_104, e148_107, e148_108, e148_109, e148_112, e148_115, e148_116, m148, ok_12_0_12, fv45_0, ok_12_3_12, fv45_3, ok_12_2_12, fv45_2, Kt_some, Kt_none, V_ite, g_if, g_ss, g_1, g_2, g_cn, g_iok, g_sok, g_bok, g_jok, g_qok, g_ivl, g_jvl, g_qvl, g_ist, g_bst, g_jst, g_qst, g_aln, g_isa, g_dl1, g_dl2, g_dl3, g_dl4, g_dl5, g_dd, g_rfs, g_rfn, p_sm0, p_sm1, p_sm2, p_sm3, p_sm4, true_and, and_true, if_true, if_false, ↓reduceIte, Nat.reduceEqDiff, reduceCtorEq, or_true, true_or, and_self, Int32.reduceLT, Int32.reduceAdd, Int32.reduceSub, Int32.reduceToNatClampNeg, not_false_eq_true, not_true_eq_false, hq, nI_1]
      exact ih (i + 1) i _ _ _ (by omega) (by omega) hK
    · rw [if_neg hq] at hK
      simp (decide := true) only [e148_0, e148_1, e148_2, e148_3, e148_4, e148_5, e148_9, e148_10, e148_13, e148_16, e148_17, e148_19, e148_20, e148_24, e148_25, e148_28, e148_31, e148_32, e148_35, e148_37, e148_38, e148_40, e148_42, e148_45, e148_46, e148_49, e148_50, e148_51, e148_54, e148_56, e148_57, e148_58, e148_59, e148_61, e148_63, e148_65, e148_68, e148_70, e148_73, e148_74, e148_75, e148_77, e148_80, e148_83, e148_85, e148_86, e148_89, e148_91, e148_94, e148_95, e148_96, e148_98, e148_99, e148_102, e148_104, e148_107, e148_108, e148_109, e148_112, e148_115, e148_116, m148, ok_12_0_12, fv45_0, ok_12_3_12, fv45_3, ok_12_2_12, fv45_2, Kt_some, Kt_none, V_ite, g_if, g_ss, g_1, g_2, g_cn, g_iok, g_sok, g_bok, g_jok, g_qok, g_ivl, g_jvl, g_qvl, g_ist, g_bst, g_jst, g_qst, g_aln, g_isa, g_dl1, g_dl2, g_dl3, g_dl4, g_dl5, g_dd, g_rfs, g_rfn, p_sm0, p_sm1, p_sm2, p_sm3, p_sm4, true_and, and_true, if_true, if_false, ↓reduceIte, Nat.reduceEqDiff, reduceCtorEq, or_true, true_or, and_self, Int32.reduceLT, Int32.reduceAdd, Int32.reduceSub, Int32.reduceToNatClampNeg, not_false_eq_true, not_true_eq_false, hq, nI_1]
      exact ih (i + 1) b _ _ _ (by omega) (by omega) hK
theorem mr_lined {d : Nat} (hm : MH x u v g j h) (hp : MP σ x g) (hI : IV σ) (h2 : ¬ σ 0 0 = 0) (hd1 : 1 ≤ d) (hd : d ≤ 9) (hK : Q (some (.int (f_lined σ (nI d)).1)) h) : Vm 148 [.ref 34, .int (nI d)] h Q := by
  have h34 := hm.1
  have z1 := hp.1.1
  have hgs := hp.2.1.1
  obtain ⟨n, ps, bt, sr, hI⟩ := hI
  obtain ⟨e1, -, -⟩ := IN_n hI
  obtain ⟨⟨a1, a2, a3, -⟩, gH, -, -, ⟨gw, -⟩, -⟩ := hI
  have hn : 2 ≤ n := by
    rcases a2 with rfl | q
    · exact absurd a1 h2
    · exact q
  rw [e1] at hgs
  have x0 : x 0 = nI n := by rw [z1, a1]
  have hW : ∀ i, i < n → g 37 i = nI (wN σ i) ∧ wN σ i ≤ 5 := fun i hi => by
    obtain ⟨m, H, w1, -, w2, w3⟩ := gw i hi
    rw [(hgs i hi).2.2]
    unfold wN
    rw [w1, nI_c (by omega)]
    exact ⟨rfl, by omega⟩
  have hL : ∀ i, i < n → g 36 i = nI (σ 2 i).toNatClampNeg ∧ (σ 2 i).toNatClampNeg ≤ 5 := fun i hi => by
    obtain ⟨-, m, w1, -, w2⟩ := gH i hi
    rw [(hgs i hi).2.1, w1, nI_c (by omega)]
    exact ⟨rfl, w2⟩
  have hb : ∀ k, lA (wN σ) (fun i => d * (σ 2 i).toNatClampNeg) k n ≤ 20 := fun k => by
    have := lA_b (wN σ) (fun i => d * (σ 2 i).toNatClampNeg) k n (fun i hi => (hW i hi).2)
    omega
  have hsv : ∀ i, i < n → sv σ (nI d) i = nI (min (wN σ i) (d * (σ 2 i).toNatClampNeg)) := fun i hi => by
    have key : ∀ A B : Nat, A ≤ 5 → B ≤ 5 → σ 3 i = nI A → σ 2 i = nI B → sv σ (nI d) i = nI (min A (d * B)) := by
      intro A B hA hB q1 q2
      have q4 : d * B ≤ 45 := Nat.mul_le_mul hd hB
      unfold sv mn
      rw [q1, q2, pk_mul]
      by_cases hq : d * B < A
      · rw [if_pos (nI_lt hq (by omega))]; congr 1; omega
      · rw [if_neg (nI_nlt (by omega) (by omega))]; congr 1; omega
    exact key _ _ (hW i hi).2 (hL i hi).2 ((hgs i hi).2.2.symm.trans (hW i hi).1) ((hgs i hi).2.1.symm.trans (hL i hi).1)
  have hcmp : ∀ q r, q < n → r < n → 1 ≤ q → 1 ≤ r → (nI (lA (wN σ) (fun i => d * (σ 2 i).toNatClampNeg) q n) < nI (lA (wN σ) (fun i => d * (σ 2 i).toNatClampNeg) r n) ↔ sv σ (nI d) q < sv σ (nI d) r) := by
    intro q r hq hr h1 h1'
    have b1 := hb q
    have b2 := hb r
    have b3 := (hW q hq).2
    have b4 := (hW r hr).2
    rw [hsv q hq, hsv r hr, nI_ltI (by omega) (by omega), nI_ltI (by omega) (by omega), lA_e _ _ q h1, lA_e _ _ r h1', if_pos hq, if_pos hr]
    omega
  have hbl := bl_c (fun k => nI (lA (wN σ) (fun i => d * (σ 2 i).toNatClampNeg) k n)) (sv σ (nI d)) n (n - 2) 2 1 (by omega) (by omega) hcmp (by omega) (by omega)
  have hf : (f_lined σ (nI d)).1 = nI (bl (fun k => nI (lA (wN σ) (fun i => d * (σ 2 i).toNatClampNeg) k n)) (n - 2) 2 1) := by
    have d1 : ¬ nI d < 1 := nI_nlt (a := d) (b := 1) hd1 (by omega)
    have d9 : ¬ 9 < nI d := nI_nlt (a := 9) (b := d) hd (by omega)
    unfold f_lined
    simp only [d1, d9, h2, if_false, e1, hbl]
  rw [hf] at hK
  have e3 : (nI 1 < nI n) = True := nI_T (by omega) (by omega)
  have hb1 := hb 1
  have e4 : ((-1 : Int32) < nI (lA (wN σ) (fun i => d * (σ 2 i).toNatClampNeg) 1 n)) = True := by
    refine eq_true ?_
    rcases Nat.eq_zero_or_pos (lA (wN σ) (fun i => d * (σ 2 i).toNatClampNeg) 1 n) with q | q
    · rw [q]; decide
    · exact Int32.lt_trans (by decide) (nI_lt (a := 0) q (by omega))
  simp (decide := true) only [e148_0, e148_1, e148_2, e148_3, e148_4, e148_5, e148_7, e148_9, e148_10, e148_13, e148_16, e148_17, e148_19, e148_20, e148_24, e148_25, e148_28, e148_31, e148_32, e148_35, e148_37, e148_38, e148_40, e148_42, e148_45, e148_46, e148_49, e148_50, e148_51, e148_54, e148_56, e148_57, e148_58, e148_59, e148_61, e148_63, e148_65, e148_68, e148_70, e148_73, e148_74, e148_75, e148_77, e148_80, e148_83, e148_85, e148_86, e148_89, e148_91, e148_94, e148_95, e148_96, e148_98, e148_99, e148_102, e148_104, e148_107, e148_108, e148_109, e148_112, e148_115, e148_116, m148, ok_12_0_12, fv45_0, ok_12_3_12, fv45_3, ok_12_2_12, fv45_2, Kt_some, Kt_none, V_ite, g_if, g_ss, g_1, g_2, g_cn, g_iok, g_sok, g_bok, g_jok, g_qok, g_ivl, g_jvl, g_qvl, g_ist, g_bst, g_jst, g_qst, g_aln, g_isa, g_dl1, g_dl2, g_dl3, g_dl4, g_dl5, g_dd, g_rfs, g_rfn, p_sm0, p_sm1, p_sm2, p_sm3, p_sm4, true_and, and_true, if_true, if_false, ↓reduceIte, Nat.reduceEqDiff, reduceCtorEq, or_true, true_or, and_self, Int32.reduceLT, Int32.reduceAdd, Int32.reduceSub, Int32.reduceToNatClampNeg, not_false_eq_true, not_true_eq_false, xcn, xok_0, xfv_0, xfs_0, xok_1, xfv_1, xok_2, xfv_2, xok_3, xfv_3, xok_4, xfv_4, xfs_4, xok_5, xfv_5, xfs_5, xok_6, xfv_6, xfs_6, xok_7, xfv_7, xok_8, xfv_8, xok_9, xfv_9, xok_10, xfv_10, xok_11, xfv_11, xok_12, xfv_12, xfs_12, xok_13, xfv_13, xfs_13, xok_14, xfv_14, xfs_14, xok_15, xfv_15, xfs_15, xok_16, xfv_16, xok_17, xfv_17, xfs_17, xok_18, xfv_18, xok_19, xfv_19, xfs_19, xok_20, xfv_20, xfs_20, xok_21, xfv_21, xfs_21, xok_22, xfv_22, xok_23, xfv_23, xok_24, xfv_24, xok_25, xfv_25, xok_26, xfv_26, xfs_26, xok_27, xfv_27, xok_28, xfv_28, xok_29, xfv_29, xok_30, xfv_30, xfs_30, xok_31, xfv_31, xfs_31, xok_32, xfv_32, xok_33, xfv_33, xfs_33, xok_34, xfv_34, xfs_34, xok_35, xfv_35, xfs_35, xok_36, xfv_36, xfs_36, xok_37, xfv_37, xfs_37, xok_38, xfv_38, xfs_38, xok_39, xfv_39, xfs_39, xok_40, xfv_40, xok_41, xfv_41, xok_42, xfv_42, xok_43, xfv_43, xok_44, xfv_44, xfs_44, h34, x0, show ((1 : Int32) < nI n) = True from e3]
  refine l148b (k := 1) (W := wN σ) (L := fun i => (σ 2 i).toNatClampNeg) hm x0 a3 hd (by omega) hW hL (fun l7 => ?_) (n - 1) 1 none (by omega) (by omega)
  simp (decide := true) only [e148_0, e148_1, e148_2, e148_3, e148_4, e148_5, e148_9, e148_10, e148_13, e148_16, e148_17, e148_19, e148_20, e148_24, e148_25, e148_28, e148_31, e148_32, e148_35, e148_37, e148_38, e148_40, e148_42, e148_45, e148_46, e148_49, e148_50, e148_51, e148_54, e148_56, e148_57, e148_58, e148_59, e148_61, e148_63, e148_65, e148_68, e148_70, e148_73, e148_74, e148_75, e148_77, e148_80, e148_83, e148_85, e148_86, e148_89, e148_91, e148_94, e148_95, e148_96, e148_98, e148_99, e148_102, e148_104, e148_107, e148_108, e148_109, e148_112, e148_115, e148_116, m148, ok_12_0_12, fv45_0, ok_12_3_12, fv45_3, ok_12_2_12, fv45_2, Kt_some, Kt_none, V_ite, g_if, g_ss, g_1, g_2, g_cn, g_iok, g_sok, g_bok, g_jok, g_qok, g_ivl, g_jvl, g_qvl, g_ist, g_bst, g_jst, g_qst, g_aln, g_isa, g_dl1, g_dl2, g_dl3, g_dl4, g_dl5, g_dd, g_rfs, g_rfn, p_sm0, p_sm1, p_sm2, p_sm3, p_sm4, true_and, and_true, if_true, if_false, ↓reduceIte, Nat.reduceEqDiff, reduceCtorEq, or_true, true_or, and_self, Int32.reduceLT, Int32.reduceAdd, Int32.reduceSub, Int32.reduceToNatClampNeg, not_false_eq_true, not_true_eq_false, e4, nI_1]
  exact l148 (W := wN σ) (L := fun i => (σ 2 i).toNatClampNeg) hm x0 a3 hd hW hL hn (n - 2) 2 1 _ _ _ (by omega) (by omega) hK
theorem y_lined {d : Int32} (hR : MR σ h) (hI : IV σ) (hK : ∀ h2, MR (f_lined σ d).2 h2 → CF h h2 → K (some (.int (f_lined σ d).1)) h2) : Vm 149 [.ref 34, .int d] h K := by
  replace hK := hK h hR (CF_rf h)
  obtain ⟨x, u, v, g, j, hm, hp⟩ := id hR
  have h34 := hm.1
  have z1 := hp.1.1
  by_cases d0 : d < 1
  · unfold f_lined at hK
    simp only [d0, if_true] at hK
    simp (decide := true) only [e149_0, e149_1, e149_2, e149_4, e149_7, e149_10, e149_12, e149_13, e149_14, e149_17, e149_20, e149_22, e149_25, e149_26, e149_27, e149_30, m149, ok_12_0_12, fv45_0, Kt_some, Kt_none, V_ite, g_if, g_ss, g_1, g_2, g_cn, g_iok, g_sok, g_bok, g_jok, g_qok, g_ivl, g_jvl, g_qvl, g_ist, g_bst, g_jst, g_qst, g_aln, g_isa, g_dl1, g_dl2, g_dl3, g_dl4, g_dl5, g_dd, g_rfs, g_rfn, p_sm0, p_sm1, p_sm2, p_sm3, p_sm4, true_and, and_true, if_true, if_false, ↓reduceIte, Nat.reduceEqDiff, reduceCtorEq, or_true, true_or, and_self, Int32.reduceLT, Int32.reduceAdd, Int32.reduceSub, Int32.reduceToNatClampNeg, not_false_eq_true, not_true_eq_false, c106, d0]
    exact hK
  by_cases d9 : 9 < d
  · unfold f_lined at hK
    simp only [d0, d9, if_true, if_false] at hK
    simp (decide := true) only [e149_0, e149_1, e149_2, e149_4, e149_7, e149_10, e149_12, e149_13, e149_14, e149_17, e149_20, e149_22, e149_25, e149_26, e149_27, e149_30, m149, ok_12_0_12, fv45_0, Kt_some, Kt_none, V_ite, g_if, g_ss, g_1, g_2, g_cn, g_iok, g_sok, g_bok, g_jok, g_qok, g_ivl, g_jvl, g_qvl, g_ist, g_bst, g_jst, g_qst, g_aln, g_isa, g_dl1, g_dl2, g_dl3, g_dl4, g_dl5, g_dd, g_rfs, g_rfn, p_sm0, p_sm1, p_sm2, p_sm3, p_sm4, true_and, and_true, if_true, if_false, ↓reduceIte, Nat.reduceEqDiff, reduceCtorEq, or_true, true_or, and_self, Int32.reduceLT, Int32.reduceAdd, Int32.reduceSub, Int32.reduceToNatClampNeg, not_false_eq_true, not_true_eq_false, c106, d0, d9]
    exact hK
  by_cases hz : σ 0 0 = 0
  · unfold f_lined at hK
    simp only [d0, d9, hz, if_true, if_false] at hK
    simp (decide := true) only [e149_0, e149_1, e149_2, e149_4, e149_7, e149_10, e149_12, e149_13, e149_14, e149_17, e149_20, e149_22, e149_25, e149_26, e149_27, e149_30, m149, ok_12_0_12, fv45_0, Kt_some, Kt_none, V_ite, g_if, g_ss, g_1, g_2, g_cn, g_iok, g_sok, g_bok, g_jok, g_qok, g_ivl, g_jvl, g_qvl, g_ist, g_bst, g_jst, g_qst, g_aln, g_isa, g_dl1, g_dl2, g_dl3, g_dl4, g_dl5, g_dd, g_rfs, g_rfn, p_sm0, p_sm1, p_sm2, p_sm3, p_sm4, true_and, and_true, if_true, if_false, ↓reduceIte, Nat.reduceEqDiff, reduceCtorEq, or_true, true_or, and_self, Int32.reduceLT, Int32.reduceAdd, Int32.reduceSub, Int32.reduceToNatClampNeg, not_false_eq_true, not_true_eq_false, xcn, xok_0, xfv_0, xfs_0, xok_1, xfv_1, xok_2, xfv_2, xok_3, xfv_3, xok_4, xfv_4, xfs_4, xok_5, xfv_5, xfs_5, xok_6, xfv_6, xfs_6, xok_7, xfv_7, xok_8, xfv_8, xok_9, xfv_9, xok_10, xfv_10, xok_11, xfv_11, xok_12, xfv_12, xfs_12, xok_13, xfv_13, xfs_13, xok_14, xfv_14, xfs_14, xok_15, xfv_15, xfs_15, xok_16, xfv_16, xok_17, xfv_17, xfs_17, xok_18, xfv_18, xok_19, xfv_19, xfs_19, xok_20, xfv_20, xfs_20, xok_21, xfv_21, xfs_21, xok_22, xfv_22, xok_23, xfv_23, xok_24, xfv_24, xok_25, xfv_25, xok_26, xfv_26, xfs_26, xok_27, xfv_27, xok_28, xfv_28, xok_29, xfv_29, xok_30, xfv_30, xfs_30, xok_31, xfv_31, xfs_31, xok_32, xfv_32, xok_33, xfv_33, xfs_33, xok_34, xfv_34, xfs_34, xok_35, xfv_35, xfs_35, xok_36, xfv_36, xfs_36, xok_37, xfv_37, xfs_37, xok_38, xfv_38, xfs_38, xok_39, xfv_39, xfs_39, xok_40, xfv_40, xok_41, xfv_41, xok_42, xfv_42, xok_43, xfv_43, xok_44, xfv_44, xfs_44, c106, d0, d9, h34, z1, hz]
    exact hK
  · have d0' : ¬ d < 0 := fun q => d0 (Int32.lt_trans q (by decide))
    obtain ⟨dd, hdd, rfl⟩ := nI_of d0'
    have hd9 : dd ≤ 9 := Nat.not_lt.mp (fun q => d9 (nI_lt (a := 9) q (by omega)))
    have hd1 : 1 ≤ dd := Nat.not_lt.mp (fun q => d0 (nI_lt (b := 1) q (by omega)))
    simp (decide := true) only [e149_0, e149_1, e149_2, e149_4, e149_7, e149_10, e149_12, e149_13, e149_14, e149_17, e149_20, e149_22, e149_25, e149_26, e149_27, e149_30, m149, ok_12_0_12, fv45_0, Kt_some, Kt_none, V_ite, g_if, g_ss, g_1, g_2, g_cn, g_iok, g_sok, g_bok, g_jok, g_qok, g_ivl, g_jvl, g_qvl, g_ist, g_bst, g_jst, g_qst, g_aln, g_isa, g_dl1, g_dl2, g_dl3, g_dl4, g_dl5, g_dd, g_rfs, g_rfn, p_sm0, p_sm1, p_sm2, p_sm3, p_sm4, true_and, and_true, if_true, if_false, ↓reduceIte, Nat.reduceEqDiff, reduceCtorEq, or_true, true_or, and_self, Int32.reduceLT, Int32.reduceAdd, Int32.reduceSub, Int32.reduceToNatClampNeg, not_false_eq_true, not_true_eq_false, xcn, xok_0, xfv_0, xfs_0, xok_1, xfv_1, xok_2, xfv_2, xok_3, xfv_3, xok_4, xfv_4, xfs_4, xok_5, xfv_5, xfs_5, xok_6, xfv_6, xfs_6, xok_7, xfv_7, xok_8, xfv_8, xok_9, xfv_9, xok_10, xfv_10, xok_11, xfv_11, xok_12, xfv_12, xfs_12, xok_13, xfv_13, xfs_13, xok_14, xfv_14, xfs_14, xok_15, xfv_15, xfs_15, xok_16, xfv_16, xok_17, xfv_17, xfs_17, xok_18, xfv_18, xok_19, xfv_19, xfs_19, xok_20, xfv_20, xfs_20, xok_21, xfv_21, xfs_21, xok_22, xfv_22, xok_23, xfv_23, xok_24, xfv_24, xok_25, xfv_25, xok_26, xfv_26, xfs_26, xok_27, xfv_27, xok_28, xfv_28, xok_29, xfv_29, xok_30, xfv_30, xfs_30, xok_31, xfv_31, xfs_31, xok_32, xfv_32, xok_33, xfv_33, xfs_33, xok_34, xfv_34, xfs_34, xok_35, xfv_35, xfs_35, xok_36, xfv_36, xfs_36, xok_37, xfv_37, xfs_37, xok_38, xfv_38, xfs_38, xok_39, xfv_39, xfs_39, xok_40, xfv_40, xok_41, xfv_41, xok_42, xfv_42, xok_43, xfv_43, xok_44, xfv_44, xfs_44, c106, d0, d9, h34, z1, hz]
    refine mr_lined hm hp hI hz hd1 hd9 ?_
    simp (decide := true) only [e149_0, e149_1, e149_2, e149_4, e149_7, e149_10, e149_12, e149_13, e149_14, e149_17, e149_20, e149_22, e149_25, e149_26, e149_27, e149_30, m149, ok_12_0_12, fv45_0, Kt_some, Kt_none, V_ite, g_if, g_ss, g_1, g_2, g_cn, g_iok, g_sok, g_bok, g_jok, g_qok, g_ivl, g_jvl, g_qvl, g_ist, g_bst, g_jst, g_qst, g_aln, g_isa, g_dl1, g_dl2, g_dl3, g_dl4, g_dl5, g_dd, g_rfs, g_rfn, p_sm0, p_sm1, p_sm2, p_sm3, p_sm4, true_and, and_true, if_true, if_false, ↓reduceIte, Nat.reduceEqDiff, reduceCtorEq, or_true, true_or, and_self, Int32.reduceLT, Int32.reduceAdd, Int32.reduceSub, Int32.reduceToNatClampNeg, not_false_eq_true, not_true_eq_false]
    exact hK
end S50
