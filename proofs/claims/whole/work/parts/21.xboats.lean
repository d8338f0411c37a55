section S21
variable {σ : pS} {h : pH} {K : Option Value → pH → Prop} {ad : Nat → Nat}
/-- writes of a boat's cell -/
theorem CA_bg {a : Nat} {e : pE} (hA : CA σ h) (ha : 57 ≤ a) : CA σ (p_set h a e) := by
  obtain ⟨a1, a2, a3, a4, a5, a6, a7⟩ := hA
  exact ⟨by rw [g_ne (by omega)]; exact a1, by rw [g_ne (by omega)]; exact a2, by rw [g_ne (by omega)]; exact a3, by rw [g_ne (by omega)]; exact a4, by rw [g_ne (by omega)]; exact a5, by rw [g_ne (by omega)]; exact a6, by rw [g_ne (by omega)]; exact a7⟩
theorem CM_bg {a : Nat} {e : pE} (hm : CM σ h) (ha : 57 ≤ a) : CM σ (p_set h a e) := CM_st hm (by omega) (by omega)
theorem CK_bg {a : Nat} {e : pE} (hm : CK σ h) (ha : 57 ≤ a) : CK σ (p_set h a e) := CK_st hm (fun q => by
  have : ∀ k ∈ CKs, k < 57 := by decide
  have := this a q
  omega)
theorem CJ_bg {a : Nat} {e : pE} (hm : CJ h) (ha : 57 ≤ a) : CJ (p_set h a e) := CJ_st hm (fun q => by
  have : ∀ k ∈ CJs, k < 57 := by decide
  have := this a q
  omega)
theorem CS_bg {a ci : Nat} {fs : List Value} {e : pE} (hs : CS h) (ha : 57 ≤ a) (hb : p_get h a = some (.inr (ci, fs))) : CS (p_set h a e) := by
  obtain ⟨qa, sa, x, g1, g2⟩ := hs
  refine ⟨qa, sa, x, by rw [g_ne (by omega)]; exact g1, ?_⟩
  rcases g2 with ⟨q1, q2, q3, q4⟩ | ⟨q1, q2, q3, q4, q5, q6⟩
  · exact Or.inl ⟨q1, q2, IA_st q3 (by omega), JA_st q4 (by omega)⟩
  · refine Or.inr ⟨q1, q2, q3, q4, IA_st q5 ?_, JA_st q6 ?_⟩
    · rintro rfl
      obtain ⟨f, hf⟩ := q5
      rw [hb] at hf
      cases hf
    · rintro rfl
      obtain ⟨f, hf⟩ := q6
      rw [hb] at hf
      cases hf
theorem MF_bg {h2 : pH} {a : Nat} {e : pE} (hf : MF h h2) (ha : 57 ≤ a) : MF h (p_set h2 a e) := MF_st hf (by omega)
theorem CB_bt {bt j : Nat} {pl ld : Int32} (hb : CB σ ad bt h) (hj : j < bt) : CB (s1 (s1 σ 8 (upd (σ 8) j pl)) 9 (upd (σ 9) j ld)) ad bt (p_set h (ad j) (oB (kc (σ 5 j)) (σ 6 j) (σ 7 j) pl ld)) := by
  obtain ⟨⟨f, h1, h2⟩, h3, h4⟩ := hb
  obtain ⟨hj1, hj2, hj3⟩ := h3 j hj
  refine ⟨⟨f, by rw [g_ne (by omega)]; exact h1, h2⟩, fun i hi => ?_, h4⟩
  obtain ⟨g1, g2, g3⟩ := h3 i hi
  refine ⟨g1, g2, ?_⟩
  by_cases hij : i = j
  · subst hij
    rw [g_eq]
    simp (decide := true) only [Kt_some, Kt_none, V_ite, g_if, g_ss, g_1, g_2, g_cn, g_iok, g_sok, g_bok, g_jok, g_qok, g_ivl, g_jvl, g_qvl, g_ist, g_bst, g_jst, g_qst, g_aln, g_isa, g_dl1, g_dl2, g_dl3, g_dl4, g_dl5, g_dd, g_rfs, g_rfn, p_sm0, p_sm1, p_sm2, p_sm3, p_sm4, true_and, and_true, if_true, if_false, ↓reduceIte, Nat.reduceEqDiff, reduceCtorEq, or_true, true_or, and_self, Int32.reduceLT, Int32.reduceAdd, Int32.reduceSub, Int32.reduceToNatClampNeg, not_false_eq_true, not_true_eq_false, s1_if, u_if]
  · rw [g_ne (fun q => hij (h4 i j hi hj q))]
    simp (decide := true) only [Kt_some, Kt_none, V_ite, g_if, g_ss, g_1, g_2, g_cn, g_iok, g_sok, g_bok, g_jok, g_qok, g_ivl, g_jvl, g_qvl, g_ist, g_bst, g_jst, g_qst, g_aln, g_isa, g_dl1, g_dl2, g_dl3, g_dl4, g_dl5, g_dd, g_rfs, g_rfn, p_sm0, p_sm1, p_sm2, p_sm3, p_sm4, true_and, and_true, if_true, if_false, ↓reduceIte, Nat.reduceEqDiff, reduceCtorEq, or_true, true_or, and_self, Int32.reduceLT, Int32.reduceAdd, Int32.reduceSub, Int32.reduceToNatClampNeg, not_false_eq_true, not_true_eq_false, s1_if, u_if, hij]
    exact g3
theorem kc_bt {k : Int32} (hk : rg k 0 4) : p_bt (kc k) = true ∧ bk (kc k) = k := by
  obtain ⟨m, rfl, -, hm⟩ := hk
  rcases (show m = 0 ∨ m = 1 ∨ m = 2 ∨ m = 3 ∨ m = 4 by omega) with rfl | rfl | rfl | rfl | rfl <;> decide
theorem ok_b {ci : Nat} {d c pl ld : Int32} (k : Nat) (hc : p_bt ci = true) (hk : k < 4) : p_ok1 [0, 1, 2, 7, 10] k (some (oB ci d c pl ld)) = True := by
  refine eq_true ?_
  show (([0, 1, 2, 7, 10] : List Nat).contains ci && decide (k < 4)) = true
  rw [decide_eq_true hk]
  rcases bt_cases hc with rfl | rfl | rfl | rfl | rfl <;> rfl
/-- what is known of a boat that there is -/
theorem bt_in {b : Int32} (hI : IV σ) (h0 : ¬ b < 0) (h1 : b < σ 0 2) : ∃ j : Nat, b = nI j ∧ b.toNatClampNeg = j ∧ j < nt σ ∧ j < 5 ∧ vp_in b 5 = True ∧ p_bt (kc (σ 5 j)) = true ∧ bk (kc (σ 5 j)) = σ 5 j := by
  obtain ⟨n, ps, bt, sr, hI⟩ := hI
  obtain ⟨-, -, e5⟩ := IN_n hI
  obtain ⟨⟨e1, e2, e3, -, -, e4, e6, -⟩, -, -, hE, -⟩ := hI
  rw [e4] at h1
  obtain ⟨j, hj, rfl⟩ := nI_of h0
  have hjb := (nI_ltI (by omega) (by omega)).mp h1
  obtain ⟨g1, g2⟩ := kc_bt (hE j hjb).1
  exact ⟨j, rfl, nI_c (by omega), by rw [e5]; exact hjb, by omega, vp_T (by omega) (by omega), g1, g2⟩
theorem c100 {Q : Option Value → pH → Prop} {b : Int32} (hI : IV σ) (hA : CA σ h) (hB : CB σ ad (nt σ) h) : Vm 100 [.ref 1, .int b] h Q = if b < 0 then Q (some .null) h else if b < σ 0 2 then Q (some (.ref (ad b.toNatClampNeg))) h else Q (some .null) h := by
  obtain ⟨a1, -⟩ := hA
  obtain ⟨⟨f, b1, b2⟩, -⟩ := hB
  by_cases h0 : b < 0
  · simp (decide := true) only [e100_0, e100_1, e100_4, e100_5, e100_6, e100_9, e100_12, e100_13, e100_16, e100_17, e100_18, e100_21, e100_22, e100_22n, m100, ok_11_9_11, fv13_9, ok_11_4_11, fv13_4, Kt_some, Kt_none, V_ite, g_if, g_ss, g_1, g_2, g_cn, g_iok, g_sok, g_bok, g_jok, g_qok, g_ivl, g_jvl, g_qvl, g_ist, g_bst, g_jst, g_qst, g_aln, g_isa, g_dl1, g_dl2, g_dl3, g_dl4, g_dl5, g_dd, g_rfs, g_rfn, p_sm0, p_sm1, p_sm2, p_sm3, p_sm4, true_and, and_true, if_true, if_false, ↓reduceIte, Nat.reduceEqDiff, reduceCtorEq, or_true, true_or, and_self, Int32.reduceLT, Int32.reduceAdd, Int32.reduceSub, Int32.reduceToNatClampNeg, not_false_eq_true, not_true_eq_false, a1, h0]
  · by_cases h1 : b < σ 0 2
    · obtain ⟨j, hj1, hj2, hj3, hj4, hj5, -⟩ := bt_in hI h0 h1
      simp (decide := true) only [e100_0, e100_1, e100_4, e100_5, e100_6, e100_9, e100_12, e100_13, e100_16, e100_17, e100_18, e100_21, e100_22, e100_22n, m100, ok_11_9_11, fv13_9, ok_11_4_11, fv13_4, Kt_some, Kt_none, V_ite, g_if, g_ss, g_1, g_2, g_cn, g_iok, g_sok, g_bok, g_jok, g_qok, g_ivl, g_jvl, g_qvl, g_ist, g_bst, g_jst, g_qst, g_aln, g_isa, g_dl1, g_dl2, g_dl3, g_dl4, g_dl5, g_dd, g_rfs, g_rfn, p_sm0, p_sm1, p_sm2, p_sm3, p_sm4, true_and, and_true, if_true, if_false, ↓reduceIte, Nat.reduceEqDiff, reduceCtorEq, or_true, true_or, and_self, Int32.reduceLT, Int32.reduceAdd, Int32.reduceSub, Int32.reduceToNatClampNeg, not_false_eq_true, not_true_eq_false, a1, b1, h0, h1, hj5, hj2, b2 j hj3]
    · simp (decide := true) only [e100_0, e100_1, e100_4, e100_5, e100_6, e100_9, e100_12, e100_13, e100_16, e100_17, e100_18, e100_21, e100_22, e100_22n, m100, ok_11_9_11, fv13_9, ok_11_4_11, fv13_4, Kt_some, Kt_none, V_ite, g_if, g_ss, g_1, g_2, g_cn, g_iok, g_sok, g_bok, g_jok, g_qok, g_ivl, g_jvl, g_qvl, g_ist, g_bst, g_jst, g_qst, g_aln, g_isa, g_dl1, g_dl2, g_dl3, g_dl4, g_dl5, g_dd, g_rfs, g_rfn, p_sm0, p_sm1, p_sm2, p_sm3, p_sm4, true_and, and_true, if_true, if_false, ↓reduceIte, Nat.reduceEqDiff, reduceCtorEq, or_true, true_or, and_self, Int32.reduceLT, Int32.reduceAdd, Int32.reduceSub, Int32.reduceToNatClampNeg, not_false_eq_true, not_true_eq_false, a1, h0, h1]
def ne (σ : pS) (j : Nat) : Int32 := bn (kc (σ 5 j)) (σ 6 j)
def ca (σ : pS) (j : Nat) : Int32 := bc (kc (σ 5 j)) (σ 7 j)
/-- place of a boat: within the basins -/
theorem pl_in (hI : IV σ) {j : Nat} (hj : j < nt σ) : ∃ n m : Nat, σ 0 0 = nI n ∧ 2 ≤ n ∧ n ≤ 4 ∧ σ 8 j = nI m ∧ m < n ∧ (σ 8 j).toNatClampNeg = m ∧ ∃ l c : Nat, σ 9 j = nI l ∧ ca σ j = nI c ∧ l ≤ c ∧ c ≤ 6 := by
  obtain ⟨n, ps, bt, sr, hI⟩ := hI
  obtain ⟨-, -, e5⟩ := IN_n hI
  obtain ⟨⟨e1, e2, e3, -, -, e4, e6, e7, -⟩, -, -, hE, -, hb, -⟩ := hI
  rw [e5] at hj
  obtain ⟨⟨m, g1, g2⟩, l, c, g3, g4, g5, g6⟩ := hb j hj
  exact ⟨n, m, e1, by omega, e3, g1, g2, by rw [g1]; exact nI_c (by omega), l, c, g3, g4, g5, g6⟩
def f_about (σ : pS) (b k : Int32) : Int32 × pS := (if b < 0 then -101 else if b < σ 0 2 then (if k = 0 then σ 5 b.toNatClampNeg else if k = 1 then σ 6 b.toNatClampNeg else if k = 2 then σ 7 b.toNatClampNeg else if k = 3 then ne σ b.toNatClampNeg else if k = 4 then ca σ b.toNatClampNeg else if k = 5 then σ 8 b.toNatClampNeg else if k = 6 then σ 9 b.toNatClampNeg else if k = 7 then (if σ 3 (σ 8 b.toNatClampNeg).toNatClampNeg < ne σ b.toNatClampNeg then 0 else 1) else -102) else -101, σ)
theorem q_about {b k : Int32} (hC : CR σ h) (hI : IV σ) (hK : K (some (.int (f_about σ b k).1)) h) : Vm 75 [.ref 1, .int b, .int k] h K := by
  obtain ⟨ad, hA, hB, hM, hKp, hJ, hS⟩ := id hC
  obtain ⟨a1, a2, a3, a4, a5, a6, a7⟩ := id hA
  unfold f_about at hK
  by_cases h0 : b < 0
  · simp (decide := true) only [e75_0, e75_1, e75_2, e75_5, e75_5n, e75_6, e75_6n, e75_7, e75_7r, e75_10, e75_12, e75_13, e75_14, e75_60, e75_60n, e75_61, e75_64, e75_65, e75_65n, e75_66, e75_69, e75_70, e75_70n, e75_71, e75_74, e75_75, e75_75n, e75_76, e75_79, e75_80, e75_80n, e75_81, e75_84, e75_85, e75_85n, e75_86, e75_89, e75_90, e75_90n, e75_91, e75_94, e75_95, e75_96, e75_99, e75_100, e75_103, e75_103n, e75_104, e75_107, e75_107n, e75_108, e75_111, e75_114, e75_117, e75_118, e75_121, e75_122, e75_123, e75_125, m75, ok_0x1x2x7x10_0_0, fv4_0, ok_0x1x2x7x10_0_1, ok_0x1x2x7x10_0_2, ok_0x1x2x7x10_0_7, ok_0x1x2x7x10_0_10, ok_0x1x2x7x10_1_0, fv4_1, ok_0x1x2x7x10_1_1, ok_0x1x2x7x10_1_2, ok_0x1x2x7x10_1_7, ok_0x1x2x7x10_1_10, ok_0x1x2x7x10_2_0, fv4_2, ok_0x1x2x7x10_2_1, ok_0x1x2x7x10_2_2, ok_0x1x2x7x10_2_7, ok_0x1x2x7x10_2_10, ok_0x1x2x7x10_3_0, fv4_3, ok_0x1x2x7x10_3_1, ok_0x1x2x7x10_3_2, ok_0x1x2x7x10_3_7, ok_0x1x2x7x10_3_10, ok_11_1_11, fv13_1, ok_11_2_11, fv13_2, Kt_some, Kt_none, V_ite, g_if, g_ss, g_1, g_2, g_cn, g_iok, g_sok, g_bok, g_jok, g_qok, g_ivl, g_jvl, g_qvl, g_ist, g_bst, g_jst, g_qst, g_aln, g_isa, g_dl1, g_dl2, g_dl3, g_dl4, g_dl5, g_dd, g_rfs, g_rfn, p_sm0, p_sm1, p_sm2, p_sm3, p_sm4, true_and, and_true, if_true, if_false, ↓reduceIte, Nat.reduceEqDiff, reduceCtorEq, or_true, true_or, and_self, Int32.reduceLT, Int32.reduceAdd, Int32.reduceSub, Int32.reduceToNatClampNeg, not_false_eq_true, not_true_eq_false, a1, c100 hI hA hB, h0]
    simpa only [h0, if_true] using hK
  · by_cases h1 : b < σ 0 2
    · obtain ⟨j, hj1, hj2, hj3, hj4, hj5, hj6, hj7⟩ := bt_in hI h0 h1
      obtain ⟨n, m, q1, q2, q3, q4, q5, q6, -⟩ := pl_in hI hj3
      have hbj := (hB.2.1 j hj3).2.2
      simp only [h0, h1, if_true, if_false, hj2] at hK
      have r1 := nI_0F (a := m) (by omega)
      have r2 : (nI m < σ 0 0) = True := by rw [q1]; exact nI_T q5 (by omega)
      have r3 := vp_T (show m < 4 by omega) (by omega)
      have r4 := nI_c (a := m) (by omega)
      rw [q6] at hK
      simp (decide := true) only [e75_0, e75_1, e75_2, e75_5, e75_5n, e75_6, e75_6n, e75_7, e75_7r, e75_10, e75_12, e75_13, e75_14, e75_60, e75_60n, e75_61, e75_64, e75_65, e75_65n, e75_66, e75_69, e75_70, e75_70n, e75_71, e75_74, e75_75, e75_75n, e75_76, e75_79, e75_80, e75_80n, e75_81, e75_84, e75_85, e75_85n, e75_86, e75_89, e75_90, e75_90n, e75_91, e75_94, e75_95, e75_96, e75_99, e75_100, e75_103, e75_103n, e75_104, e75_107, e75_107n, e75_108, e75_111, e75_114, e75_117, e75_118, e75_121, e75_122, e75_123, e75_125, m75, ok_0x1x2x7x10_0_0, fv4_0, ok_0x1x2x7x10_0_1, ok_0x1x2x7x10_0_2, ok_0x1x2x7x10_0_7, ok_0x1x2x7x10_0_10, ok_0x1x2x7x10_1_0, fv4_1, ok_0x1x2x7x10_1_1, ok_0x1x2x7x10_1_2, ok_0x1x2x7x10_1_7, ok_0x1x2x7x10_1_10, ok_0x1x2x7x10_2_0, fv4_2, ok_0x1x2x7x10_2_1, ok_0x1x2x7x10_2_2, ok_0x1x2x7x10_2_7, ok_0x1x2x7x10_2_10, ok_0x1x2x7x10_3_0, fv4_3, ok_0x1x2x7x10_3_1, ok_0x1x2x7x10_3_2, ok_0x1x2x7x10_3_7, ok_0x1x2x7x10_3_10, ok_11_1_11, fv13_1, ok_11_2_11, fv13_2, Kt_some, Kt_none, V_ite, g_if, g_ss, g_1, g_2, g_cn, g_iok, g_sok, g_bok, g_jok, g_qok, g_ivl, g_jvl, g_qvl, g_ist, g_bst, g_jst, g_qst, g_aln, g_isa, g_dl1, g_dl2, g_dl3, g_dl4, g_dl5, g_dd, g_rfs, g_rfn, p_sm0, p_sm1, p_sm2, p_sm3, p_sm4, true_and, and_true, if_true, if_false, ↓reduceIte, Nat.reduceEqDiff, reduceCtorEq, or_true, true_or, and_self, Int32.reduceLT, Int32.reduceAdd, Int32.reduceSub, Int32.reduceToNatClampNeg, not_false_eq_true, not_true_eq_false, a1, a4, a7, c100 hI hA hB, h0, h1, hj2, hbj, hj6, c_kind hbj hj6, c_needs hbj hj6, c_carries hbj hj6, hj7, q4, ok_b 0 hj6 (by decide), ok_b 1 hj6 (by decide), ok_b 2 hj6 (by decide), ok_b 3 hj6 (by decide), c56 a4 a7, r1, r2, r3, r4]
      rw [show bn (kc (σ 5 j)) (σ 6 j) = ne σ j from rfl, show bc (kc (σ 5 j)) (σ 7 j) = ca σ j from rfl]
      rw [q4] at hK
      by_cases k0 : k = 0
      · subst k0; simpa (decide := true) only [if_true, if_false] using hK
      by_cases k1 : k = 1
      · subst k1; simpa (decide := true) only [if_true, if_false] using hK
      by_cases k2 : k = 2
      · subst k2; simpa (decide := true) only [if_true, if_false] using hK
      by_cases k3 : k = 3
      · subst k3; simpa (decide := true) only [if_true, if_false] using hK
      by_cases k4 : k = 4
      · subst k4; simpa (decide := true) only [if_true, if_false] using hK
      by_cases k5 : k = 5
      · subst k5; simpa (decide := true) only [if_true, if_false] using hK
      by_cases k6 : k = 6
      · subst k6; simpa (decide := true) only [if_true, if_false] using hK
      by_cases k7 : k = 7
      · subst k7
        by_cases hw : σ 3 m < ne σ j
        · simpa (decide := true) only [if_true, if_false, hw] using hK
        · simpa (decide := true) only [if_true, if_false, hw] using hK
      simpa only [k0, k1, k2, k3, k4, k5, k6, k7, if_false] using hK
    · simp (decide := true) only [e75_0, e75_1, e75_2, e75_5, e75_5n, e75_6, e75_6n, e75_7, e75_7r, e75_10, e75_12, e75_13, e75_14, e75_60, e75_60n, e75_61, e75_64, e75_65, e75_65n, e75_66, e75_69, e75_70, e75_70n, e75_71, e75_74, e75_75, e75_75n, e75_76, e75_79, e75_80, e75_80n, e75_81, e75_84, e75_85, e75_85n, e75_86, e75_89, e75_90, e75_90n, e75_91, e75_94, e75_95, e75_96, e75_99, e75_100, e75_103, e75_103n, e75_104, e75_107, e75_107n, e75_108, e75_111, e75_114, e75_117, e75_118, e75_121, e75_122, e75_123, e75_125, m75, ok_0x1x2x7x10_0_0, fv4_0, ok_0x1x2x7x10_0_1, ok_0x1x2x7x10_0_2, ok_0x1x2x7x10_0_7, ok_0x1x2x7x10_0_10, ok_0x1x2x7x10_1_0, fv4_1, ok_0x1x2x7x10_1_1, ok_0x1x2x7x10_1_2, ok_0x1x2x7x10_1_7, ok_0x1x2x7x10_1_10, ok_0x1x2x7x10_2_0, fv4_2, ok_0x1x2x7x10_2_1, ok_0x1x2x7x10_2_2, ok_0x1x2x7x10_2_7, ok_0x1x2x7x10_2_10, ok_0x1x2x7x10_3_0, fv4_3, ok_0x1x2x7x10_3_1, ok_0x1x2x7x10_3_2, ok_0x1x2x7x10_3_7, ok_0x1x2x7x10_3_10, ok_11_1_11, fv13_1, ok_11_2_11, fv13_2, Kt_some, Kt_none, V_ite, g_if, g_ss, g_1, g_2, g_cn, g_iok, g_sok, g_bok, g_jok, g_qok, g_ivl, g_jvl, g_qvl, g_ist, g_bst, g_jst, g_qst, g_aln, g_isa, g_dl1, g_dl2, g_dl3, g_dl4, g_dl5, g_dd, g_rfs, g_rfn, p_sm0, p_sm1, p_sm2, p_sm3, p_sm4, true_and, and_true, if_true, if_false, ↓reduceIte, Nat.reduceEqDiff, reduceCtorEq, or_true, true_or, and_self, Int32.reduceLT, Int32.reduceAdd, Int32.reduceSub, Int32.reduceToNatClampNeg, not_false_eq_true, not_true_eq_false, a1, c100 hI hA hB, h0, h1]
      simpa only [h0, h1, if_true, if_false] using hK
theorem x_about {b k : Int32} (hC : CR σ h) (hI : IV σ) (hK : ∀ h2, CR (f_about σ b k).2 h2 → MF h h2 → K (some (.int (f_about σ b k).1)) h2) : Vm 75 [.ref 1, .int b, .int k] h K := q_about hC hI (hK h hC (MF_rf h))
def f_as (σ : pS) (b k : Int32) : Int32 × pS := (if b < 0 then -101 else if b < σ 0 2 then (if k = 0 then b else if k = 1 then (if p_is (kc (σ 5 b.toNatClampNeg)) 7 = true then b else -1) else if k = 2 then (if p_is (kc (σ 5 b.toNatClampNeg)) 0 = true then b else -1) else if k = 3 then (if p_is (kc (σ 5 b.toNatClampNeg)) 2 = true then b else -1) else if k = 4 then (if p_is (kc (σ 5 b.toNatClampNeg)) 10 = true then b else -1) else -102) else -101, σ)
theorem i_ite {c : Prop} [Decidable c] {A B : Prop} : (if (if c then (1 : Int32) else 0) = 0 then A else B) = if c then B else A := by
  by_cases hc : c
  · simp only [hc, if_true]
    exact if_neg (by decide)
  · simp only [hc, if_false, if_true]
theorem x_as {b k : Int32} (hC : CR σ h) (hI : IV σ) (hK : ∀ h2, CR (f_as σ b k).2 h2 → MF h h2 → K (some (.int (f_as σ b k).1)) h2) : Vm 76 [.ref 1, .int b, .int k] h K := by
  obtain ⟨ad, hA, hB, hM, hKp, hJ, hS⟩ := id hC
  obtain ⟨a1, a2, a3, a4, a5, a6, a7⟩ := id hA
  have hK := hK h hC (MF_rf h)
  unfold f_as at hK
  by_cases h0 : b < 0
  · simp (decide := true) only [e76_0, e76_1, e76_2, e76_5, e76_5n, e76_6, e76_6n, e76_7, e76_7r, e76_10, e76_12, e76_13, e76_14, e76_48, e76_49, e76_50, e76_50n, e76_51n, e76_51, e76_54, e76_57, e76_58, e76_61, e76_62, e76_63, e76_63n, e76_64n, e76_64, e76_67, e76_70, e76_71, e76_74, e76_75, e76_76, e76_76n, e76_77n, e76_77, e76_80, e76_83, e76_84, e76_87, e76_88, e76_89, e76_89n, e76_90n, e76_90, e76_93, e76_96, e76_97, e76_100, e76_101, e76_102, e76_104, m76, Kt_some, Kt_none, V_ite, g_if, g_ss, g_1, g_2, g_cn, g_iok, g_sok, g_bok, g_jok, g_qok, g_ivl, g_jvl, g_qvl, g_ist, g_bst, g_jst, g_qst, g_aln, g_isa, g_dl1, g_dl2, g_dl3, g_dl4, g_dl5, g_dd, g_rfs, g_rfn, p_sm0, p_sm1, p_sm2, p_sm3, p_sm4, true_and, and_true, if_true, if_false, ↓reduceIte, Nat.reduceEqDiff, reduceCtorEq, or_true, true_or, and_self, Int32.reduceLT, Int32.reduceAdd, Int32.reduceSub, Int32.reduceToNatClampNeg, not_false_eq_true, not_true_eq_false, a1, c100 hI hA hB, h0]
    simpa only [h0, if_true] using hK
  · by_cases h1 : b < σ 0 2
    · obtain ⟨j, hj1, hj2, hj3, hj4, hj5, hj6, hj7⟩ := bt_in hI h0 h1
      have hbj := (hB.2.1 j hj3).2.2
      simp only [h0, h1, if_true, if_false, hj2] at hK
      simp (decide := true) only [e76_0, e76_1, e76_2, e76_5, e76_5n, e76_6, e76_6n, e76_7, e76_7r, e76_10, e76_12, e76_13, e76_14, e76_48, e76_49, e76_50, e76_50n, e76_51n, e76_51, e76_54, e76_57, e76_58, e76_61, e76_62, e76_63, e76_63n, e76_64n, e76_64, e76_67, e76_70, e76_71, e76_74, e76_75, e76_76, e76_76n, e76_77n, e76_77, e76_80, e76_83, e76_84, e76_87, e76_88, e76_89, e76_89n, e76_90n, e76_90, e76_93, e76_96, e76_97, e76_100, e76_101, e76_102, e76_104, m76, Kt_some, Kt_none, V_ite, g_if, g_ss, g_1, g_2, g_cn, g_iok, g_sok, g_bok, g_jok, g_qok, g_ivl, g_jvl, g_qvl, g_ist, g_bst, g_jst, g_qst, g_aln, g_isa, g_dl1, g_dl2, g_dl3, g_dl4, g_dl5, g_dd, g_rfs, g_rfn, p_sm0, p_sm1, p_sm2, p_sm3, p_sm4, true_and, and_true, if_true, if_false, ↓reduceIte, Nat.reduceEqDiff, reduceCtorEq, or_true, true_or, and_self, Int32.reduceLT, Int32.reduceAdd, Int32.reduceSub, Int32.reduceToNatClampNeg, not_false_eq_true, not_true_eq_false, a1, c100 hI hA hB, h0, h1, hj2, hbj, hj6, i_ite]
      by_cases k0 : k = 0
      · subst k0; simpa (decide := true) only [if_true, if_false] using hK
      by_cases k1 : k = 1
      · subst k1
        by_cases hw : p_is (kc (σ 5 j)) 7 = true <;> simpa (decide := true) only [if_true, if_false, hw] using hK
      by_cases k2 : k = 2
      · subst k2
        by_cases hw : p_is (kc (σ 5 j)) 0 = true <;> simpa (decide := true) only [if_true, if_false, hw] using hK
      by_cases k3 : k = 3
      · subst k3
        by_cases hw : p_is (kc (σ 5 j)) 2 = true <;> simpa (decide := true) only [if_true, if_false, hw] using hK
      by_cases k4 : k = 4
      · subst k4
        by_cases hw : p_is (kc (σ 5 j)) 10 = true <;> simpa (decide := true) only [if_true, if_false, hw] using hK
      simpa only [k0, k1, k2, k3, k4, if_false] using hK
    · simp (decide := true) only [e76_0, e76_1, e76_2, e76_5, e76_5n, e76_6, e76_6n, e76_7, e76_7r, e76_10, e76_12, e76_13, e76_14, e76_48, e76_49, e76_50, e76_50n, e76_51n, e76_51, e76_54, e76_57, e76_58, e76_61, e76_62, e76_63, e76_63n, e76_64n, e76_64, e76_67, e76_70, e76_71, e76_74, e76_75, e76_76, e76_76n, e76_77n, e76_77, e76_80, e76_83, e76_84, e76_87, e76_88, e76_89, e76_89n, e76_90n, e76_90, e76_93, e76_96, e76_97, e76_100, e76_101, e76_102, e76_104, m76, Kt_some, Kt_none, V_ite, g_if, g_ss, g_1, g_2, g_cn, g_iok, g_sok, g_bok, g_jok, g_qok, g_ivl, g_jvl, g_qvl, g_ist, g_bst, g_jst, g_qst, g_aln, g_isa, g_dl1, g_dl2, g_dl3, g_dl4, g_dl5, g_dd, g_rfs, g_rfn, p_sm0, p_sm1, p_sm2, p_sm3, p_sm4, true_and, and_true, if_true, if_false, ↓reduceIte, Nat.reduceEqDiff, reduceCtorEq, or_true, true_or, and_self, Int32.reduceLT, Int32.reduceAdd, Int32.reduceSub, Int32.reduceToNatClampNeg, not_false_eq_true, not_true_eq_false, a1, c100 hI hA hB, h0, h1]
      simpa only [h0, h1, if_true, if_false] using hK
/-- the state with boat j at another place, with another load -/
def sb (σ : pS) (j : Nat) (pl ld : Int32) : pS := s1 (s1 σ 8 (upd (σ 8) j pl)) 9 (upd (σ 9) j ld)
def f_rise (σ : pS) (b : Int32) : Int32 × pS := if b < 0 then (-101, σ) else if b < σ 0 2 then
    (if σ 3 (σ 8 b.toNatClampNeg).toNatClampNeg < ne σ b.toNatClampNeg then (-103, σ) else if (σ 8 b.toNatClampNeg).toNatClampNeg + 1 < nn σ then
      (if σ 3 ((σ 8 b.toNatClampNeg).toNatClampNeg + 1) < ne σ b.toNatClampNeg then (-103, σ) else (σ 8 b.toNatClampNeg + 1, sb σ b.toNatClampNeg (σ 8 b.toNatClampNeg + 1) (σ 9 b.toNatClampNeg))) else (-103, σ)) else (-101, σ)
theorem x_rise {b : Int32} (hC : CR σ h) (hI : IV σ) (hK : ∀ h2, CR (f_rise σ b).2 h2 → MF h h2 → K (some (.int (f_rise σ b).1)) h2) : Vm 77 [.ref 1, .int b] h K := by
  obtain ⟨ad, hA, hB, hM, hKp, hJ, hS⟩ := id hC
  obtain ⟨a1, a2, a3, a4, a5, a6, a7⟩ := id hA
  unfold f_rise at hK
  by_cases h0 : b < 0
  · simp only [h0, if_true] at hK
    simp (decide := true) only [e77_0, e77_1, e77_2, e77_5, e77_5n, e77_6, e77_6n, e77_7, e77_7r, e77_10, e77_12, e77_13, e77_14, e77_17, e77_18, e77_21, e77_21n, e77_22, e77_25, e77_25n, e77_26, e77_29, e77_32, e77_35, e77_37, e77_38, e77_38n, e77_39, e77_39i, e77_40, e77_43, e77_44, e77_45, e77_48, e77_48n, e77_49, e77_52, m77, ok_11_1_11, fv13_1, ok_11_2_11, fv13_2, ok_0x1x2x7x10_2_0, fv4_2, ok_0x1x2x7x10_2_1, ok_0x1x2x7x10_2_2, ok_0x1x2x7x10_2_7, ok_0x1x2x7x10_2_10, fs4_2, Kt_some, Kt_none, V_ite, g_if, g_ss, g_1, g_2, g_cn, g_iok, g_sok, g_bok, g_jok, g_qok, g_ivl, g_jvl, g_qvl, g_ist, g_bst, g_jst, g_qst, g_aln, g_isa, g_dl1, g_dl2, g_dl3, g_dl4, g_dl5, g_dd, g_rfs, g_rfn, p_sm0, p_sm1, p_sm2, p_sm3, p_sm4, true_and, and_true, if_true, if_false, ↓reduceIte, Nat.reduceEqDiff, reduceCtorEq, or_true, true_or, and_self, Int32.reduceLT, Int32.reduceAdd, Int32.reduceSub, Int32.reduceToNatClampNeg, not_false_eq_true, not_true_eq_false, a1, c100 hI hA hB, h0]
    exact hK h hC (MF_rf h)
  · by_cases h1 : b < σ 0 2
    · obtain ⟨j, hj1, hj2, hj3, hj4, hj5, hj6, hj7⟩ := bt_in hI h0 h1
      obtain ⟨n, m, q1, q2, q3, q4, q5, q6, -⟩ := pl_in hI hj3
      obtain ⟨b57, bh, hbj⟩ := hB.2.1 j hj3
      have hnn : nn σ = n := by unfold nn; rw [q1]; exact nI_c (by omega)
      simp only [h0, h1, if_true, if_false, hj2, q6, hnn] at hK
      have hrise := fun Q => c58 (Q := Q) (k := ne σ j) a4 a7 q1 q5 q3
      have e1 : bn (kc (σ 5 j)) (σ 6 j) = ne σ j := rfl
      by_cases w1 : σ 3 m < ne σ j
      · simp only [w1, if_true] at hK
        simp (decide := true) only [e77_0, e77_1, e77_2, e77_5, e77_5n, e77_6, e77_6n, e77_7, e77_7r, e77_10, e77_12, e77_13, e77_14, e77_17, e77_18, e77_21, e77_21n, e77_22, e77_25, e77_25n, e77_26, e77_29, e77_32, e77_35, e77_37, e77_38, e77_38n, e77_39, e77_39i, e77_40, e77_43, e77_44, e77_45, e77_48, e77_48n, e77_49, e77_52, m77, ok_11_1_11, fv13_1, ok_11_2_11, fv13_2, ok_0x1x2x7x10_2_0, fv4_2, ok_0x1x2x7x10_2_1, ok_0x1x2x7x10_2_2, ok_0x1x2x7x10_2_7, ok_0x1x2x7x10_2_10, fs4_2, Kt_some, Kt_none, V_ite, g_if, g_ss, g_1, g_2, g_cn, g_iok, g_sok, g_bok, g_jok, g_qok, g_ivl, g_jvl, g_qvl, g_ist, g_bst, g_jst, g_qst, g_aln, g_isa, g_dl1, g_dl2, g_dl3, g_dl4, g_dl5, g_dd, g_rfs, g_rfn, p_sm0, p_sm1, p_sm2, p_sm3, p_sm4, true_and, and_true, if_true, if_false, ↓reduceIte, Nat.reduceEqDiff, reduceCtorEq, or_true, true_or, and_self, Int32.reduceLT, Int32.reduceAdd, Int32.reduceSub, Int32.reduceToNatClampNeg, not_false_eq_true, not_true_eq_false, a1, a4, a7, c100 hI hA hB, h0, h1, hj2, hbj, hj6, c_needs hbj hj6, ok_b 2 hj6 (by decide), q4, e1, hrise, w1]
        exact hK h hC (MF_rf h)
      · by_cases w2 : m + 1 < n
        · by_cases w3 : σ 3 (m + 1) < ne σ j
          · simp only [w1, w2, w3, if_true, if_false] at hK
            simp (decide := true) only [e77_0, e77_1, e77_2, e77_5, e77_5n, e77_6, e77_6n, e77_7, e77_7r, e77_10, e77_12, e77_13, e77_14, e77_17, e77_18, e77_21, e77_21n, e77_22, e77_25, e77_25n, e77_26, e77_29, e77_32, e77_35, e77_37, e77_38, e77_38n, e77_39, e77_39i, e77_40, e77_43, e77_44, e77_45, e77_48, e77_48n, e77_49, e77_52, m77, ok_11_1_11, fv13_1, ok_11_2_11, fv13_2, ok_0x1x2x7x10_2_0, fv4_2, ok_0x1x2x7x10_2_1, ok_0x1x2x7x10_2_2, ok_0x1x2x7x10_2_7, ok_0x1x2x7x10_2_10, fs4_2, Kt_some, Kt_none, V_ite, g_if, g_ss, g_1, g_2, g_cn, g_iok, g_sok, g_bok, g_jok, g_qok, g_ivl, g_jvl, g_qvl, g_ist, g_bst, g_jst, g_qst, g_aln, g_isa, g_dl1, g_dl2, g_dl3, g_dl4, g_dl5, g_dd, g_rfs, g_rfn, p_sm0, p_sm1, p_sm2, p_sm3, p_sm4, true_and, and_true, if_true, if_false, ↓reduceIte, Nat.reduceEqDiff, reduceCtorEq, or_true, true_or, and_self, Int32.reduceLT, Int32.reduceAdd, Int32.reduceSub, Int32.reduceToNatClampNeg, not_false_eq_true, not_true_eq_false, a1, a4, a7, c100 hI hA hB, h0, h1, hj2, hbj, hj6, c_needs hbj hj6, ok_b 2 hj6 (by decide), q4, e1, hrise, w1, w2, w3]
            exact hK h hC (MF_rf h)
          · simp only [w1, w2, w3, if_true, if_false] at hK
            simp (decide := true) only [e77_0, e77_1, e77_2, e77_5, e77_5n, e77_6, e77_6n, e77_7, e77_7r, e77_10, e77_12, e77_13, e77_14, e77_17, e77_18, e77_21, e77_21n, e77_22, e77_25, e77_25n, e77_26, e77_29, e77_32, e77_35, e77_37, e77_38, e77_38n, e77_39, e77_39i, e77_40, e77_43, e77_44, e77_45, e77_48, e77_48n, e77_49, e77_52, m77, ok_11_1_11, fv13_1, ok_11_2_11, fv13_2, ok_0x1x2x7x10_2_0, fv4_2, ok_0x1x2x7x10_2_1, ok_0x1x2x7x10_2_2, ok_0x1x2x7x10_2_7, ok_0x1x2x7x10_2_10, fs4_2, Kt_some, Kt_none, V_ite, g_if, g_ss, g_1, g_2, g_cn, g_iok, g_sok, g_bok, g_jok, g_qok, g_ivl, g_jvl, g_qvl, g_ist, g_bst, g_jst, g_qst, g_aln, g_isa, g_dl1, g_dl2, g_dl3, g_dl4, g_dl5, g_dd, g_rfs, g_rfn, p_sm0, p_sm1, p_sm2, p_sm3, p_sm4, true_and, and_true, if_true, if_false, ↓reduceIte, Nat.reduceEqDiff, reduceCtorEq, or_true, true_or, and_self, Int32.reduceLT, Int32.reduceAdd, Int32.reduceSub, Int32.reduceToNatClampNeg, not_false_eq_true, not_true_eq_false, a1, a4, a7, c100 hI hA hB, h0, h1, hj2, hbj, hj6, c_needs hbj hj6, ok_b 2 hj6 (by decide), q4, e1, hrise, w1, w2, w3]
            rw [q4] at hK
            exact hK _ ⟨ad, CA_bg hA b57, CB_bt hB hj3, CM_bg hM b57, CK_bg hKp b57, CJ_bg hJ b57, CS_bg hS b57 hbj⟩ (MF_bg (MF_rf h) b57)
        · simp only [w1, w2, if_true, if_false] at hK
          simp (decide := true) only [e77_0, e77_1, e77_2, e77_5, e77_5n, e77_6, e77_6n, e77_7, e77_7r, e77_10, e77_12, e77_13, e77_14, e77_17, e77_18, e77_21, e77_21n, e77_22, e77_25, e77_25n, e77_26, e77_29, e77_32, e77_35, e77_37, e77_38, e77_38n, e77_39, e77_39i, e77_40, e77_43, e77_44, e77_45, e77_48, e77_48n, e77_49, e77_52, m77, ok_11_1_11, fv13_1, ok_11_2_11, fv13_2, ok_0x1x2x7x10_2_0, fv4_2, ok_0x1x2x7x10_2_1, ok_0x1x2x7x10_2_2, ok_0x1x2x7x10_2_7, ok_0x1x2x7x10_2_10, fs4_2, Kt_some, Kt_none, V_ite, g_if, g_ss, g_1, g_2, g_cn, g_iok, g_sok, g_bok, g_jok, g_qok, g_ivl, g_jvl, g_qvl, g_ist, g_bst, g_jst, g_qst, g_aln, g_isa, g_dl1, g_dl2, g_dl3, g_dl4, g_dl5, g_dd, g_rfs, g_rfn, p_sm0, p_sm1, p_sm2, p_sm3, p_sm4, true_and, and_true, if_true, if_false, ↓reduceIte, Nat.reduceEqDiff, reduceCtorEq, or_true, true_or, and_self, Int32.reduceLT, Int32.reduceAdd, Int32.reduceSub, Int32.reduceToNatClampNeg, not_false_eq_true, not_true_eq_false, a1, a4, a7, c100 hI hA hB, h0, h1, hj2, hbj, hj6, c_needs hbj hj6, ok_b 2 hj6 (by decide), q4, e1, hrise, w1, w2]
          exact hK h hC (MF_rf h)
    · simp only [h0, h1, if_true, if_false] at hK
      simp (decide := true) only [e77_0, e77_1, e77_2, e77_5, e77_5n, e77_6, e77_6n, e77_7, e77_7r, e77_10, e77_12, e77_13, e77_14, e77_17, e77_18, e77_21, e77_21n, e77_22, e77_25, e77_25n, e77_26, e77_29, e77_32, e77_35, e77_37, e77_38, e77_38n, e77_39, e77_39i, e77_40, e77_43, e77_44, e77_45, e77_48, e77_48n, e77_49, e77_52, m77, ok_11_1_11, fv13_1, ok_11_2_11, fv13_2, ok_0x1x2x7x10_2_0, fv4_2, ok_0x1x2x7x10_2_1, ok_0x1x2x7x10_2_2, ok_0x1x2x7x10_2_7, ok_0x1x2x7x10_2_10, fs4_2, Kt_some, Kt_none, V_ite, g_if, g_ss, g_1, g_2, g_cn, g_iok, g_sok, g_bok, g_jok, g_qok, g_ivl, g_jvl, g_qvl, g_ist, g_bst, g_jst, g_qst, g_aln, g_isa, g_dl1, g_dl2, g_dl3, g_dl4, g_dl5, g_dd, g_rfs, g_rfn, p_sm0, p_sm1, p_sm2, p_sm3, p_sm4, true_and, and_true, if_true, if_false, ↓reduceIte, Nat.reduceEqDiff, reduceCtorEq, or_true, true_or, and_self, Int32.reduceLT, Int32.reduceAdd, Int32.reduceSub, Int32.reduceToNatClampNeg, not_false_eq_true, not_true_eq_false, a1, c100 hI hA hB, h0, h1]
      exact hK h hC (MF_rf h)
end S21
