section S20
variable {σ : pS} {h : pH} {K : Option Value → pH → Prop}
theorem ff_11 (f : Nat → Int32) : ∀ d i, ff f d i = i + d → d = 0 ∨ i + d ≤ 11
  | 0, i, _ => Or.inl rfl
  | d + 1, i, e => by
    unfold ff at e
    split at e
    · rename_i hf
      have hi : i < 11 := by
        unfold ft at hf
        split at hf
        · cases hf
        · omega
      rcases ff_11 f d (i + 1) (by omega) with h0 | h1
      · omega
      · omega
    · omega
def f_stair (σ : pS) : Int32 × pS := if 5 ≤ np σ ∧ np σ % 3 = 2 ∧ ff (σ 4) (np σ) 0 = np σ then
    (nI ((np σ + 1) / 3), s0 (s0 (s0 (s0 (s0 (s0 (s0 (s0 (s1 (s1 (s1 σ 1 (rd (σ 1) (σ 4) 0 ((np σ + 1) / 3))) 2 (rd (σ 2) (σ 4) 1 ((np σ + 1) / 3))) 3 (upd (fi (σ 3) 0 4) 0 (rd (σ 1) (σ 4) 0 ((np σ + 1) / 3) 0))) 0 (nI ((np σ + 1) / 3))) 1 0) 2 0) 3 0) 6 0) 7 0) 8 0) 4 (σ 0 4 + 1))
  else (-103, σ)
theorem x_stair (hC : CR σ h) (hI : IV σ) (hK : ∀ h2, CR (f_stair σ).2 h2 → MF h h2 → K (some (.int (f_stair σ).1)) h2) : Vm 72 [.ref 1] h K := by
  obtain ⟨ad, ⟨a1, a2, a3, a4, a5, a6, a7⟩, hB, hM, hKp, hJ, hS⟩ := id hC
  obtain ⟨n, ps, bt, sr, hI⟩ := hI
  obtain ⟨-, e2, -⟩ := IN_n hI
  obtain ⟨⟨-, -, -, e3, e4, -⟩, -⟩ := hI
  rw [e3] at a2
  unfold f_stair at hK
  rw [e2] at hK
  by_cases hw : 5 ≤ ps ∧ ps % 3 = 2 ∧ ff (σ 4) ps 0 = ps
  · simp only [hw, and_self, if_true] at hK
    have h11 : ps ≤ 11 := by
      rcases ff_11 (σ 4) ps 0 (by omega) with q | q <;> omega
    obtain ⟨⟨cs, m1⟩, m2⟩ := id hM
    simp (decide := true) only [e72_0, e72_1, e72_4, e72_7, e72_10, e72_12, e72_13, e72_14, e72_17, e72_18, e72_21, e72_24, e72_25, e72_28, e72_29, e72_32, e72_35, e72_36, e72_39, e72_40, e72_43, e72_44, e72_45, e72_48, e72_49, e72_50, e72_53, e72_54, e72_57, e72_60, e72_61, e72_61i, e72_62, e72_65, e72_66, e72_67, e72_70, e72_71, e72_74, e72_77, m72, ok_11_0_11, fv13_0, ok_11_1_11, fv13_1, ok_11_2_11, fv13_2, ok_6_1_6, fs2_1, ok_11_9_11, fs13_9, ok_11_10_11, fs13_10, ok_11_5_11, fv13_5, ok_11_11_11, fv13_11, fs13_11, ok_9_2_9, fv3_2, Kt_some, Kt_none, V_ite, g_if, g_ss, g_1, g_2, g_cn, g_iok, g_sok, g_bok, g_jok, g_qok, g_ivl, g_jvl, g_qvl, g_ist, g_bst, g_jst, g_qst, g_aln, g_isa, g_dl1, g_dl2, g_dl3, g_dl4, g_dl5, g_dd, g_rfs, g_rfn, p_sm0, p_sm1, p_sm2, p_sm3, p_sm4, true_and, and_true, if_true, if_false, ↓reduceIte, Nat.reduceEqDiff, reduceCtorEq, or_true, true_or, and_self, Int32.reduceLT, Int32.reduceAdd, Int32.reduceSub, Int32.reduceToNatClampNeg, not_false_eq_true, not_true_eq_false, a1, a2, a4, a7, c35 a2 a3 e4, hw, c52 (s := 4) (p := 5) (q := 6) (u := 2) (c := 3) a4 a5 a6 a2 a3 (show (ps + 1) / 3 ≤ 4 by omega) e4 (by decide) (by decide) (by decide) (by decide) (by decide) (by decide) (by decide) (by decide) (by decide), c55 (s := 4) (r := 7) (p := 5) (q := 6) (nb := nI ((ps + 1) / 3)) (fh := rd (σ 1) (σ 4) 0 ((ps + 1) / 3)) (f := σ 3), ne_eq, c14 (s := 10) (l := 11) (c := 12) (t := 13) (w := 14) (d := 15) (sz := σ 0 8) (bs := σ 0 6) (fr := σ 0 7) (cs := cs), m1]
    refine hK _ ⟨ad, ⟨?_, ?_, ?_, ?_, ?_, ?_, ?_⟩, ⟨?_, ?_, ?_⟩, ⟨⟨cs, ?_⟩, ?_⟩, ?_, ?_, ?_⟩ ?_
    · simp (decide := true) only [Kt_some, Kt_none, V_ite, g_if, g_ss, g_1, g_2, g_cn, g_iok, g_sok, g_bok, g_jok, g_qok, g_ivl, g_jvl, g_qvl, g_ist, g_bst, g_jst, g_qst, g_aln, g_isa, g_dl1, g_dl2, g_dl3, g_dl4, g_dl5, g_dd, g_rfs, g_rfn, p_sm0, p_sm1, p_sm2, p_sm3, p_sm4, true_and, and_true, if_true, if_false, ↓reduceIte, Nat.reduceEqDiff, reduceCtorEq, or_true, true_or, and_self, Int32.reduceLT, Int32.reduceAdd, Int32.reduceSub, Int32.reduceToNatClampNeg, not_false_eq_true, not_true_eq_false, s0_if, s1_if, u_if, a1]
    · simp (decide := true) only [Kt_some, Kt_none, V_ite, g_if, g_ss, g_1, g_2, g_cn, g_iok, g_sok, g_bok, g_jok, g_qok, g_ivl, g_jvl, g_qvl, g_ist, g_bst, g_jst, g_qst, g_aln, g_isa, g_dl1, g_dl2, g_dl3, g_dl4, g_dl5, g_dd, g_rfs, g_rfn, p_sm0, p_sm1, p_sm2, p_sm3, p_sm4, true_and, and_true, if_true, if_false, ↓reduceIte, Nat.reduceEqDiff, reduceCtorEq, or_true, true_or, and_self, Int32.reduceLT, Int32.reduceAdd, Int32.reduceSub, Int32.reduceToNatClampNeg, not_false_eq_true, not_true_eq_false, s0_if, s1_if, u_if, a1]
    · simp (decide := true) only [Kt_some, Kt_none, V_ite, g_if, g_ss, g_1, g_2, g_cn, g_iok, g_sok, g_bok, g_jok, g_qok, g_ivl, g_jvl, g_qvl, g_ist, g_bst, g_jst, g_qst, g_aln, g_isa, g_dl1, g_dl2, g_dl3, g_dl4, g_dl5, g_dd, g_rfs, g_rfn, p_sm0, p_sm1, p_sm2, p_sm3, p_sm4, true_and, and_true, if_true, if_false, ↓reduceIte, Nat.reduceEqDiff, reduceCtorEq, or_true, true_or, and_self, Int32.reduceLT, Int32.reduceAdd, Int32.reduceSub, Int32.reduceToNatClampNeg, not_false_eq_true, not_true_eq_false, s0_if, s1_if, u_if, a3]
    · simp (decide := true) only [Kt_some, Kt_none, V_ite, g_if, g_ss, g_1, g_2, g_cn, g_iok, g_sok, g_bok, g_jok, g_qok, g_ivl, g_jvl, g_qvl, g_ist, g_bst, g_jst, g_qst, g_aln, g_isa, g_dl1, g_dl2, g_dl3, g_dl4, g_dl5, g_dd, g_rfs, g_rfn, p_sm0, p_sm1, p_sm2, p_sm3, p_sm4, true_and, and_true, if_true, if_false, ↓reduceIte, Nat.reduceEqDiff, reduceCtorEq, or_true, true_or, and_self, Int32.reduceLT, Int32.reduceAdd, Int32.reduceSub, Int32.reduceToNatClampNeg, not_false_eq_true, not_true_eq_false, s0_if, s1_if, u_if, a1]
    · simp (decide := true) only [Kt_some, Kt_none, V_ite, g_if, g_ss, g_1, g_2, g_cn, g_iok, g_sok, g_bok, g_jok, g_qok, g_ivl, g_jvl, g_qvl, g_ist, g_bst, g_jst, g_qst, g_aln, g_isa, g_dl1, g_dl2, g_dl3, g_dl4, g_dl5, g_dd, g_rfs, g_rfn, p_sm0, p_sm1, p_sm2, p_sm3, p_sm4, true_and, and_true, if_true, if_false, ↓reduceIte, Nat.reduceEqDiff, reduceCtorEq, or_true, true_or, and_self, Int32.reduceLT, Int32.reduceAdd, Int32.reduceSub, Int32.reduceToNatClampNeg, not_false_eq_true, not_true_eq_false, s0_if, s1_if, u_if, a1]
    · simp (decide := true) only [Kt_some, Kt_none, V_ite, g_if, g_ss, g_1, g_2, g_cn, g_iok, g_sok, g_bok, g_jok, g_qok, g_ivl, g_jvl, g_qvl, g_ist, g_bst, g_jst, g_qst, g_aln, g_isa, g_dl1, g_dl2, g_dl3, g_dl4, g_dl5, g_dd, g_rfs, g_rfn, p_sm0, p_sm1, p_sm2, p_sm3, p_sm4, true_and, and_true, if_true, if_false, ↓reduceIte, Nat.reduceEqDiff, reduceCtorEq, or_true, true_or, and_self, Int32.reduceLT, Int32.reduceAdd, Int32.reduceSub, Int32.reduceToNatClampNeg, not_false_eq_true, not_true_eq_false, s0_if, s1_if, u_if, a1]
    · simp (decide := true) only [Kt_some, Kt_none, V_ite, g_if, g_ss, g_1, g_2, g_cn, g_iok, g_sok, g_bok, g_jok, g_qok, g_ivl, g_jvl, g_qvl, g_ist, g_bst, g_jst, g_qst, g_aln, g_isa, g_dl1, g_dl2, g_dl3, g_dl4, g_dl5, g_dd, g_rfs, g_rfn, p_sm0, p_sm1, p_sm2, p_sm3, p_sm4, true_and, and_true, if_true, if_false, ↓reduceIte, Nat.reduceEqDiff, reduceCtorEq, or_true, true_or, and_self, Int32.reduceLT, Int32.reduceAdd, Int32.reduceSub, Int32.reduceToNatClampNeg, not_false_eq_true, not_true_eq_false, s0_if, s1_if, u_if, a1]
    · obtain ⟨⟨f, b1, -⟩, -⟩ := hB
      refine ⟨f, by simp (decide := true) only [Kt_some, Kt_none, V_ite, g_if, g_ss, g_1, g_2, g_cn, g_iok, g_sok, g_bok, g_jok, g_qok, g_ivl, g_jvl, g_qvl, g_ist, g_bst, g_jst, g_qst, g_aln, g_isa, g_dl1, g_dl2, g_dl3, g_dl4, g_dl5, g_dd, g_rfs, g_rfn, p_sm0, p_sm1, p_sm2, p_sm3, p_sm4, true_and, and_true, if_true, if_false, ↓reduceIte, Nat.reduceEqDiff, reduceCtorEq, or_true, true_or, and_self, Int32.reduceLT, Int32.reduceAdd, Int32.reduceSub, Int32.reduceToNatClampNeg, not_false_eq_true, not_true_eq_false, b1], fun i hi => ?_⟩
      exact absurd hi (Nat.not_lt_zero i)
    · intro i hi
      exact absurd hi (Nat.not_lt_zero i)
    · intro i j hi
      exact absurd hi (Nat.not_lt_zero i)
    · simp (decide := true) only [Kt_some, Kt_none, V_ite, g_if, g_ss, g_1, g_2, g_cn, g_iok, g_sok, g_bok, g_jok, g_qok, g_ivl, g_jvl, g_qvl, g_ist, g_bst, g_jst, g_qst, g_aln, g_isa, g_dl1, g_dl2, g_dl3, g_dl4, g_dl5, g_dd, g_rfs, g_rfn, p_sm0, p_sm1, p_sm2, p_sm3, p_sm4, true_and, and_true, if_true, if_false, ↓reduceIte, Nat.reduceEqDiff, reduceCtorEq, or_true, true_or, and_self, Int32.reduceLT, Int32.reduceAdd, Int32.reduceSub, Int32.reduceToNatClampNeg, not_false_eq_true, not_true_eq_false, s0_if, s1_if, u_if, a1]
    · simp (decide := true) only [Kt_some, Kt_none, V_ite, g_if, g_ss, g_1, g_2, g_cn, g_iok, g_sok, g_bok, g_jok, g_qok, g_ivl, g_jvl, g_qvl, g_ist, g_bst, g_jst, g_qst, g_aln, g_isa, g_dl1, g_dl2, g_dl3, g_dl4, g_dl5, g_dd, g_rfs, g_rfn, p_sm0, p_sm1, p_sm2, p_sm3, p_sm4, true_and, and_true, if_true, if_false, ↓reduceIte, Nat.reduceEqDiff, reduceCtorEq, or_true, true_or, and_self, Int32.reduceLT, Int32.reduceAdd, Int32.reduceSub, Int32.reduceToNatClampNeg, not_false_eq_true, not_true_eq_false, s0_if, s1_if, u_if, m2]
    · (repeat' (first | exact hB | exact hM | exact hKp | exact hJ | exact hS | exact MF_rf _ | refine CB_st ?_ (by decide) (by decide) | refine CM_st ?_ (by decide) (by decide) | refine CK_st ?_ (by decide) | refine CJ_st ?_ (by decide) | refine CS_st ?_ (by decide) (by decide) (by decide) (by decide) | refine MF_st ?_ (by decide)))
    · (repeat' (first | exact hB | exact hM | exact hKp | exact hJ | exact hS | exact MF_rf _ | refine CB_st ?_ (by decide) (by decide) | refine CM_st ?_ (by decide) (by decide) | refine CK_st ?_ (by decide) | refine CJ_st ?_ (by decide) | refine CS_st ?_ (by decide) (by decide) (by decide) (by decide) | refine MF_st ?_ (by decide)))
    · (repeat' (first | exact hB | exact hM | exact hKp | exact hJ | exact hS | exact MF_rf _ | refine CB_st ?_ (by decide) (by decide) | refine CM_st ?_ (by decide) (by decide) | refine CK_st ?_ (by decide) | refine CJ_st ?_ (by decide) | refine CS_st ?_ (by decide) (by decide) (by decide) (by decide) | refine MF_st ?_ (by decide)))
    · (repeat' (first | exact hB | exact hM | exact hKp | exact hJ | exact hS | exact MF_rf _ | refine CB_st ?_ (by decide) (by decide) | refine CM_st ?_ (by decide) (by decide) | refine CK_st ?_ (by decide) | refine CJ_st ?_ (by decide) | refine CS_st ?_ (by decide) (by decide) (by decide) (by decide) | refine MF_st ?_ (by decide)))
  · simp only [hw, if_false] at hK
    simp (decide := true) only [e72_0, e72_1, e72_4, e72_7, e72_10, e72_12, e72_13, e72_14, e72_17, e72_18, e72_21, e72_24, e72_25, e72_28, e72_29, e72_32, e72_35, e72_36, e72_39, e72_40, e72_43, e72_44, e72_45, e72_48, e72_49, e72_50, e72_53, e72_54, e72_57, e72_60, e72_61, e72_61i, e72_62, e72_65, e72_66, e72_67, e72_70, e72_71, e72_74, e72_77, m72, ok_11_0_11, fv13_0, ok_11_1_11, fv13_1, ok_11_2_11, fv13_2, ok_6_1_6, fs2_1, ok_11_9_11, fs13_9, ok_11_10_11, fs13_10, ok_11_5_11, fv13_5, ok_11_11_11, fv13_11, fs13_11, ok_9_2_9, fv3_2, Kt_some, Kt_none, V_ite, g_if, g_ss, g_1, g_2, g_cn, g_iok, g_sok, g_bok, g_jok, g_qok, g_ivl, g_jvl, g_qvl, g_ist, g_bst, g_jst, g_qst, g_aln, g_isa, g_dl1, g_dl2, g_dl3, g_dl4, g_dl5, g_dd, g_rfs, g_rfn, p_sm0, p_sm1, p_sm2, p_sm3, p_sm4, true_and, and_true, if_true, if_false, ↓reduceIte, Nat.reduceEqDiff, reduceCtorEq, or_true, true_or, and_self, Int32.reduceLT, Int32.reduceAdd, Int32.reduceSub, Int32.reduceToNatClampNeg, not_false_eq_true, not_true_eq_false, a1, a2, c35 a2 a3 e4, hw]
    exact hK h hC (MF_rf h)
def f_basin (σ : pS) (b k : Int32) : Int32 × pS := (if b < 0 then -101 else if b < σ 0 0 then (if k = 0 then σ 1 b.toNatClampNeg else if k = 1 then σ 2 b.toNatClampNeg else if k = 2 then σ 3 b.toNatClampNeg else -102) else -101, σ)
theorem vp_of {b : Int32} {n m : Nat} (h0 : ¬ b < 0) (h1 : b < nI n) (hn : n ≤ m) (hm : m < 2147483648) : vp_in b m = True := by
  obtain ⟨j, hj, rfl⟩ := nI_of h0
  have := (nI_ltI (by omega) (by omega)).mp h1
  exact vp_T (by omega) hm
theorem q_basin {b k : Int32} (hC : CR σ h) (hI : IV σ) (hK : K (some (.int (f_basin σ b k).1)) h) : Vm 73 [.ref 1, .int b, .int k] h K := by
  obtain ⟨ad, ⟨a1, a2, a3, a4, a5, a6, a7⟩, hB, hM, hKp, hJ, hS⟩ := id hC
  obtain ⟨n, ps, bt, sr, ⟨e1, e2, e3, -⟩, -⟩ := hI
  unfold f_basin at hK
  by_cases h0 : b < 0
  · simp (decide := true) only [e73_0, e73_1, e73_4, e73_5, e73_8, e73_11, e73_13, e73_14, e73_15, e73_40, e73_41, e73_44, e73_47, e73_48, e73_49, e73_50, e73_51, e73_54, e73_57, e73_58, e73_59, e73_60, e73_61, e73_64, e73_65, e73_66, e73_67, e73_69, m73, ok_11_1_11, fv13_1, ok_9_0_9, fv3_0, ok_9_1_9, fv3_1, ok_11_2_11, fv13_2, Kt_some, Kt_none, V_ite, g_if, g_ss, g_1, g_2, g_cn, g_iok, g_sok, g_bok, g_jok, g_qok, g_ivl, g_jvl, g_qvl, g_ist, g_bst, g_jst, g_qst, g_aln, g_isa, g_dl1, g_dl2, g_dl3, g_dl4, g_dl5, g_dd, g_rfs, g_rfn, p_sm0, p_sm1, p_sm2, p_sm3, p_sm4, true_and, and_true, if_true, if_false, ↓reduceIte, Nat.reduceEqDiff, reduceCtorEq, or_true, true_or, and_self, Int32.reduceLT, Int32.reduceAdd, Int32.reduceSub, Int32.reduceToNatClampNeg, not_false_eq_true, not_true_eq_false, a1, a4, c53 a4, h0]
    simpa only [h0, if_true] using hK
  · by_cases h1 : b < σ 0 0
    · have h2 : vp_in b 4 = True := vp_of h0 (by rw [← e1]; exact h1) e3 (by omega)
      simp only [h0, h1, if_true, if_false] at hK
      simp (decide := true) only [e73_0, e73_1, e73_4, e73_5, e73_8, e73_11, e73_13, e73_14, e73_15, e73_40, e73_41, e73_44, e73_47, e73_48, e73_49, e73_50, e73_51, e73_54, e73_57, e73_58, e73_59, e73_60, e73_61, e73_64, e73_65, e73_66, e73_67, e73_69, m73, ok_11_1_11, fv13_1, ok_9_0_9, fv3_0, ok_9_1_9, fv3_1, ok_11_2_11, fv13_2, Kt_some, Kt_none, V_ite, g_if, g_ss, g_1, g_2, g_cn, g_iok, g_sok, g_bok, g_jok, g_qok, g_ivl, g_jvl, g_qvl, g_ist, g_bst, g_jst, g_qst, g_aln, g_isa, g_dl1, g_dl2, g_dl3, g_dl4, g_dl5, g_dd, g_rfs, g_rfn, p_sm0, p_sm1, p_sm2, p_sm3, p_sm4, true_and, and_true, if_true, if_false, ↓reduceIte, Nat.reduceEqDiff, reduceCtorEq, or_true, true_or, and_self, Int32.reduceLT, Int32.reduceAdd, Int32.reduceSub, Int32.reduceToNatClampNeg, not_false_eq_true, not_true_eq_false, a1, a4, a5, a6, a7, c53 a4, h0, h1, h2]
      by_cases k0 : k = 0
      · simpa only [k0, if_true] using hK
      · by_cases k1 : k = 1
        · subst k1
          simpa (decide := true) only [if_true, if_false] using hK
        · by_cases k2 : k = 2
          · subst k2
            simpa (decide := true) only [if_true, if_false] using hK
          · simpa only [k0, k1, k2, if_false] using hK
    · simp (decide := true) only [e73_0, e73_1, e73_4, e73_5, e73_8, e73_11, e73_13, e73_14, e73_15, e73_40, e73_41, e73_44, e73_47, e73_48, e73_49, e73_50, e73_51, e73_54, e73_57, e73_58, e73_59, e73_60, e73_61, e73_64, e73_65, e73_66, e73_67, e73_69, m73, ok_11_1_11, fv13_1, ok_9_0_9, fv3_0, ok_9_1_9, fv3_1, ok_11_2_11, fv13_2, Kt_some, Kt_none, V_ite, g_if, g_ss, g_1, g_2, g_cn, g_iok, g_sok, g_bok, g_jok, g_qok, g_ivl, g_jvl, g_qvl, g_ist, g_bst, g_jst, g_qst, g_aln, g_isa, g_dl1, g_dl2, g_dl3, g_dl4, g_dl5, g_dd, g_rfs, g_rfn, p_sm0, p_sm1, p_sm2, p_sm3, p_sm4, true_and, and_true, if_true, if_false, ↓reduceIte, Nat.reduceEqDiff, reduceCtorEq, or_true, true_or, and_self, Int32.reduceLT, Int32.reduceAdd, Int32.reduceSub, Int32.reduceToNatClampNeg, not_false_eq_true, not_true_eq_false, a1, a4, c53 a4, h0, h1]
      simpa only [h0, h1, if_true, if_false] using hK
theorem x_basin {b k : Int32} (hC : CR σ h) (hI : IV σ) (hK : ∀ h2, CR (f_basin σ b k).2 h2 → MF h h2 → K (some (.int (f_basin σ b k).1)) h2) : Vm 73 [.ref 1, .int b, .int k] h K := q_basin hC hI (hK h hC (MF_rf h))
end S20
