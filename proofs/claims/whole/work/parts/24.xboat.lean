section S24
variable {σ : pS} {h : pH} {K Q : Option Value → pH → Prop} {ad : Nat → Nat} {e e2 : pE} {N a : Nat}
theorem g_nw {b : Nat} : p_get (p_new h e N) b = if b = h.1 then some e else p_get h b := rfl
theorem s_nw : p_set (p_new h e N) h.1 e2 = p_new h e2 N := by
  unfold p_set p_new
  simp only [Prod.mk.injEq, true_and]
  funext j
  unfold va_up
  by_cases hj : j = h.1 <;> simp [hj]
theorem n_1 : (p_new h e N).1 = h.1 + 1 := rfl
theorem n_2 : (p_new h e N).2.1 = h.2.1 + N := rfl
theorem s_1 : (p_set h a e).1 = h.1 := rfl
theorem s_2 : (p_set h a e).2.1 = h.2.1 := rfl
theorem g_nn {b : Nat} (hb : b ≠ h.1) : p_get (p_new h e N) b = p_get h b := by rw [g_nw, if_neg hb]
theorem IA_nw {n : Nat} (hi : IA h a n) (hab : a ≠ h.1) : IA (p_new h e N) a n := by
  obtain ⟨f, hf⟩ := hi
  exact ⟨f, by rw [g_nn hab]; exact hf⟩
theorem IZ_nw {n : Nat} (hi : IZ h a n) (hab : a ≠ h.1) : IZ (p_new h e N) a n := by
  obtain ⟨f, hf, h0⟩ := hi
  exact ⟨f, by rw [g_nn hab]; exact hf, h0⟩
theorem JA_nw {n : Nat} (hi : JA h a n) (hab : a ≠ h.1) : JA (p_new h e N) a n := by
  obtain ⟨f, hf⟩ := hi
  exact ⟨f, by rw [g_nn hab]; exact hf⟩
theorem CA_nw (hA : CA σ h) (hh : 57 ≤ h.1) : CA σ (p_new h e N) := by
  obtain ⟨a1, a2, a3, a4, a5, a6, a7⟩ := hA
  exact ⟨by rw [g_nn (by omega)]; exact a1, by rw [g_nn (by omega)]; exact a2, by rw [g_nn (by omega)]; exact a3, by rw [g_nn (by omega)]; exact a4, by rw [g_nn (by omega)]; exact a5, by rw [g_nn (by omega)]; exact a6, by rw [g_nn (by omega)]; exact a7⟩
theorem CB_nw {bt : Nat} (hb : CB σ ad bt h) (hh : 57 ≤ h.1) : CB σ ad bt (p_new h e N) := by
  obtain ⟨⟨f, h1, h2⟩, h3, h4⟩ := hb
  refine ⟨⟨f, by rw [g_nn (by omega)]; exact h1, h2⟩, fun i hi => ?_, h4⟩
  obtain ⟨g1, g2, g3⟩ := h3 i hi
  exact ⟨g1, by rw [n_1]; omega, by rw [g_nn (by omega)]; exact g3⟩
theorem CM_nw (hm : CM σ h) (hh : 57 ≤ h.1) : CM σ (p_new h e N) := by
  obtain ⟨⟨cs, m1⟩, m2⟩ := hm
  exact ⟨⟨cs, by rw [g_nn (by omega)]; exact m1⟩, by rw [g_nn (by omega)]; exact m2⟩
theorem CK_nw (hk : CK σ h) (hh : 57 ≤ h.1) : CK σ (p_new h e N) := by
  obtain ⟨k1, k2, ⟨cs, k3⟩, k4, k5, k6⟩ := hk
  exact ⟨by rw [g_nn (by omega)]; exact k1, by rw [g_nn (by omega)]; exact k2, ⟨cs, by rw [g_nn (by omega)]; exact k3⟩, by rw [g_nn (by omega)]; exact k4, by rw [g_nn (by omega)]; exact k5, by rw [g_nn (by omega)]; exact k6⟩
theorem CJ_nw (hj : CJ h) (hh : 57 ≤ h.1) : CJ (p_new h e N) := by
  obtain ⟨j1, j2, j3, j4, j5, j6, j7, j8, j9, j10⟩ := hj
  exact ⟨IA_nw j1 (by omega), IA_nw j2 (by omega), IZ_nw j3 (by omega), IA_nw j4 (by omega), IA_nw j5 (by omega), by rw [g_nn (by omega)]; exact j6, JA_nw j7 (by omega), JA_nw j8 (by omega), IA_nw j9 (by omega), IA_nw j10 (by omega)⟩
theorem CS_nw (hs : CS h) (hh : 57 ≤ h.1) : CS (p_new h e N) := by
  obtain ⟨qa, sa, x, g1, g2⟩ := hs
  refine ⟨qa, sa, x, by rw [g_nn (by omega)]; exact g1, ?_⟩
  rcases g2 with ⟨q1, q2, q3, q4⟩ | ⟨q1, q2, q3, q4, q5, q6⟩
  · exact Or.inl ⟨q1, q2, IA_nw q3 (by omega), JA_nw q4 (by omega)⟩
  · exact Or.inr ⟨q1, by rw [n_1]; omega, q3, by rw [n_1]; omega, IA_nw q5 (by omega), JA_nw q6 (by omega)⟩
theorem MF_nw (hh : 57 ≤ h.1) (hN : N ≤ 20000) : MF h (p_new h e N) := by
  refine ⟨fun k hk => g_nn (by omega), ?_, ?_, ?_⟩
  · rw [n_1]; omega
  · rw [n_1]; omega
  · rw [n_2]; omega
theorem c3 {ci : Nat} {x y pl ld d c : Int32} (hb : p_get h a = some (oB ci x y pl ld)) (hc : p_bt ci = true) : Vm 3 [.ref a, .int d, .int c] h Q = Q none (p_set h a (oB ci d c pl ld)) := by
  simp (decide := true) only [e3_0, e3_1, e3_4, e3_5, e3_6, e3_9, e3_10, e3_11, e3_14, m3, ok_0x1x2x7x10_0_0, fs4_0, ok_0x1x2x7x10_0_1, ok_0x1x2x7x10_0_2, ok_0x1x2x7x10_0_7, ok_0x1x2x7x10_0_10, ok_0x1x2x7x10_1_0, fs4_1, ok_0x1x2x7x10_1_1, ok_0x1x2x7x10_1_2, ok_0x1x2x7x10_1_7, ok_0x1x2x7x10_1_10, Kt_some, Kt_none, V_ite, g_if, g_ss, g_1, g_2, g_cn, g_iok, g_sok, g_bok, g_jok, g_qok, g_ivl, g_jvl, g_qvl, g_ist, g_bst, g_jst, g_qst, g_aln, g_isa, g_dl1, g_dl2, g_dl3, g_dl4, g_dl5, g_dd, g_rfs, g_rfn, p_sm0, p_sm1, p_sm2, p_sm3, p_sm4, true_and, and_true, if_true, if_false, ↓reduceIte, Nat.reduceEqDiff, reduceCtorEq, or_true, true_or, and_self, Int32.reduceLT, Int32.reduceAdd, Int32.reduceSub, Int32.reduceToNatClampNeg, not_false_eq_true, not_true_eq_false, hb, ok_b 0 hc (by decide), ok_b 1 hc (by decide)]
theorem cB {z ci : Nat} {x y pl ld d c : Int32} (hz : z = 0 ∨ z = 7 ∨ z = 36 ∨ z = 65 ∨ z = 3) (hb : p_get h a = some (oB ci x y pl ld)) (hc : p_bt ci = true) : Vm z [.ref a, .int d, .int c] h Q = Q none (p_set h a (oB ci d c pl ld)) := by
  rcases hz with rfl | rfl | rfl | rfl | rfl
  · simp (decide := true) only [e0_0, e0_1, e0_2, e0_3, e0_6, m0, Kt_some, Kt_none, V_ite, g_if, g_ss, g_1, g_2, g_cn, g_iok, g_sok, g_bok, g_jok, g_qok, g_ivl, g_jvl, g_qvl, g_ist, g_bst, g_jst, g_qst, g_aln, g_isa, g_dl1, g_dl2, g_dl3, g_dl4, g_dl5, g_dd, g_rfs, g_rfn, p_sm0, p_sm1, p_sm2, p_sm3, p_sm4, true_and, and_true, if_true, if_false, ↓reduceIte, Nat.reduceEqDiff, reduceCtorEq, or_true, true_or, and_self, Int32.reduceLT, Int32.reduceAdd, Int32.reduceSub, Int32.reduceToNatClampNeg, not_false_eq_true, not_true_eq_false, c3 hb hc]
  · simp (decide := true) only [e7_0, e7_1, e7_2, e7_3, e7_6, m7, Kt_some, Kt_none, V_ite, g_if, g_ss, g_1, g_2, g_cn, g_iok, g_sok, g_bok, g_jok, g_qok, g_ivl, g_jvl, g_qvl, g_ist, g_bst, g_jst, g_qst, g_aln, g_isa, g_dl1, g_dl2, g_dl3, g_dl4, g_dl5, g_dd, g_rfs, g_rfn, p_sm0, p_sm1, p_sm2, p_sm3, p_sm4, true_and, and_true, if_true, if_false, ↓reduceIte, Nat.reduceEqDiff, reduceCtorEq, or_true, true_or, and_self, Int32.reduceLT, Int32.reduceAdd, Int32.reduceSub, Int32.reduceToNatClampNeg, not_false_eq_true, not_true_eq_false, c3 hb hc]
  · simp (decide := true) only [e36_0, e36_1, e36_2, e36_3, e36_6, m36, Kt_some, Kt_none, V_ite, g_if, g_ss, g_1, g_2, g_cn, g_iok, g_sok, g_bok, g_jok, g_qok, g_ivl, g_jvl, g_qvl, g_ist, g_bst, g_jst, g_qst, g_aln, g_isa, g_dl1, g_dl2, g_dl3, g_dl4, g_dl5, g_dd, g_rfs, g_rfn, p_sm0, p_sm1, p_sm2, p_sm3, p_sm4, true_and, and_true, if_true, if_false, ↓reduceIte, Nat.reduceEqDiff, reduceCtorEq, or_true, true_or, and_self, Int32.reduceLT, Int32.reduceAdd, Int32.reduceSub, Int32.reduceToNatClampNeg, not_false_eq_true, not_true_eq_false, c3 hb hc]
  · simp (decide := true) only [e65_0, e65_1, e65_2, e65_3, e65_6, m65, e7_0, e7_1, e7_2, e7_3, e7_6, m7, Kt_some, Kt_none, V_ite, g_if, g_ss, g_1, g_2, g_cn, g_iok, g_sok, g_bok, g_jok, g_qok, g_ivl, g_jvl, g_qvl, g_ist, g_bst, g_jst, g_qst, g_aln, g_isa, g_dl1, g_dl2, g_dl3, g_dl4, g_dl5, g_dd, g_rfs, g_rfn, p_sm0, p_sm1, p_sm2, p_sm3, p_sm4, true_and, and_true, if_true, if_false, ↓reduceIte, Nat.reduceEqDiff, reduceCtorEq, or_true, true_or, and_self, Int32.reduceLT, Int32.reduceAdd, Int32.reduceSub, Int32.reduceToNatClampNeg, not_false_eq_true, not_true_eq_false, c3 hb hc]
  · exact c3 hb hc
theorem c99 {k d c : Int32} : Vm 99 [.int k, .int d, .int c] h Q = Q (some (.ref h.1)) (p_new h (oB (kc k) d c 0 0) 4) := by
  have key : ∀ (ci z : Nat) (R : Option Value → pH → Prop), (z = 0 ∨ z = 7 ∨ z = 36 ∨ z = 65 ∨ z = 3) → p_bt ci = true → Vm z [.ref h.1, .int d, .int c] (p_new h (oB ci 0 0 0 0) 4) R = R none (p_new h (oB ci d c 0 0) 4) := by
    intro ci z R hz hc
    rw [cB (ci := ci) (x := 0) (y := 0) (pl := 0) (ld := 0) hz (by rw [g_nw, if_pos rfl]) hc, s_nw]
  unfold kc
  by_cases k1 : k = 1
  · subst k1
    simp (decide := true) only [e99_0, e99_1, e99_32, e99_35, e99_35i, e99_36, e99_37, e99_38, e99_41, e99_41n, e99_42, e99_45, e99_45i, e99_46, e99_47, e99_48, e99_51, e99_51n, e99_52, e99_55, e99_55i, e99_56, e99_57, e99_58, e99_61, e99_61n, e99_62, e99_65, e99_65i, e99_66, e99_67, e99_68, e99_71, e99_71n, e99_72, e99_75, e99_75i, e99_76, e99_77, e99_78, e99_81, e99_81n, m99, Kt_some, Kt_none, V_ite, g_if, g_ss, g_1, g_2, g_cn, g_iok, g_sok, g_bok, g_jok, g_qok, g_ivl, g_jvl, g_qvl, g_ist, g_bst, g_jst, g_qst, g_aln, g_isa, g_dl1, g_dl2, g_dl3, g_dl4, g_dl5, g_dd, g_rfs, g_rfn, p_sm0, p_sm1, p_sm2, p_sm3, p_sm4, true_and, and_true, if_true, if_false, ↓reduceIte, Nat.reduceEqDiff, reduceCtorEq, or_true, true_or, and_self, Int32.reduceLT, Int32.reduceAdd, Int32.reduceSub, Int32.reduceToNatClampNeg, not_false_eq_true, not_true_eq_false, fun R => key 7 36 R (by omega) (by decide)]
  by_cases k2 : k = 2
  · subst k2
    simp (decide := true) only [e99_0, e99_1, e99_32, e99_35, e99_35i, e99_36, e99_37, e99_38, e99_41, e99_41n, e99_42, e99_45, e99_45i, e99_46, e99_47, e99_48, e99_51, e99_51n, e99_52, e99_55, e99_55i, e99_56, e99_57, e99_58, e99_61, e99_61n, e99_62, e99_65, e99_65i, e99_66, e99_67, e99_68, e99_71, e99_71n, e99_72, e99_75, e99_75i, e99_76, e99_77, e99_78, e99_81, e99_81n, m99, Kt_some, Kt_none, V_ite, g_if, g_ss, g_1, g_2, g_cn, g_iok, g_sok, g_bok, g_jok, g_qok, g_ivl, g_jvl, g_qvl, g_ist, g_bst, g_jst, g_qst, g_aln, g_isa, g_dl1, g_dl2, g_dl3, g_dl4, g_dl5, g_dd, g_rfs, g_rfn, p_sm0, p_sm1, p_sm2, p_sm3, p_sm4, true_and, and_true, if_true, if_false, ↓reduceIte, Nat.reduceEqDiff, reduceCtorEq, or_true, true_or, and_self, Int32.reduceLT, Int32.reduceAdd, Int32.reduceSub, Int32.reduceToNatClampNeg, not_false_eq_true, not_true_eq_false, fun R => key 0 0 R (by omega) (by decide)]
  by_cases k3 : k = 3
  · subst k3
    simp (decide := true) only [e99_0, e99_1, e99_32, e99_35, e99_35i, e99_36, e99_37, e99_38, e99_41, e99_41n, e99_42, e99_45, e99_45i, e99_46, e99_47, e99_48, e99_51, e99_51n, e99_52, e99_55, e99_55i, e99_56, e99_57, e99_58, e99_61, e99_61n, e99_62, e99_65, e99_65i, e99_66, e99_67, e99_68, e99_71, e99_71n, e99_72, e99_75, e99_75i, e99_76, e99_77, e99_78, e99_81, e99_81n, m99, Kt_some, Kt_none, V_ite, g_if, g_ss, g_1, g_2, g_cn, g_iok, g_sok, g_bok, g_jok, g_qok, g_ivl, g_jvl, g_qvl, g_ist, g_bst, g_jst, g_qst, g_aln, g_isa, g_dl1, g_dl2, g_dl3, g_dl4, g_dl5, g_dd, g_rfs, g_rfn, p_sm0, p_sm1, p_sm2, p_sm3, p_sm4, true_and, and_true, if_true, if_false, ↓reduceIte, Nat.reduceEqDiff, reduceCtorEq, or_true, true_or, and_self, Int32.reduceLT, Int32.reduceAdd, Int32.reduceSub, Int32.reduceToNatClampNeg, not_false_eq_true, not_true_eq_false, fun R => key 2 7 R (by omega) (by decide)]
  by_cases k4 : k = 4
  · subst k4
    simp (decide := true) only [e99_0, e99_1, e99_32, e99_35, e99_35i, e99_36, e99_37, e99_38, e99_41, e99_41n, e99_42, e99_45, e99_45i, e99_46, e99_47, e99_48, e99_51, e99_51n, e99_52, e99_55, e99_55i, e99_56, e99_57, e99_58, e99_61, e99_61n, e99_62, e99_65, e99_65i, e99_66, e99_67, e99_68, e99_71, e99_71n, e99_72, e99_75, e99_75i, e99_76, e99_77, e99_78, e99_81, e99_81n, m99, Kt_some, Kt_none, V_ite, g_if, g_ss, g_1, g_2, g_cn, g_iok, g_sok, g_bok, g_jok, g_qok, g_ivl, g_jvl, g_qvl, g_ist, g_bst, g_jst, g_qst, g_aln, g_isa, g_dl1, g_dl2, g_dl3, g_dl4, g_dl5, g_dd, g_rfs, g_rfn, p_sm0, p_sm1, p_sm2, p_sm3, p_sm4, true_and, and_true, if_true, if_false, ↓reduceIte, Nat.reduceEqDiff, reduceCtorEq, or_true, true_or, and_self, Int32.reduceLT, Int32.reduceAdd, Int32.reduceSub, Int32.reduceToNatClampNeg, not_false_eq_true, not_true_eq_false, fun R => key 10 65 R (by omega) (by decide)]
  · simp (decide := true) only [e99_0, e99_1, e99_32, e99_35, e99_35i, e99_36, e99_37, e99_38, e99_41, e99_41n, e99_42, e99_45, e99_45i, e99_46, e99_47, e99_48, e99_51, e99_51n, e99_52, e99_55, e99_55i, e99_56, e99_57, e99_58, e99_61, e99_61n, e99_62, e99_65, e99_65i, e99_66, e99_67, e99_68, e99_71, e99_71n, e99_72, e99_75, e99_75i, e99_76, e99_77, e99_78, e99_81, e99_81n, m99, Kt_some, Kt_none, V_ite, g_if, g_ss, g_1, g_2, g_cn, g_iok, g_sok, g_bok, g_jok, g_qok, g_ivl, g_jvl, g_qvl, g_ist, g_bst, g_jst, g_qst, g_aln, g_isa, g_dl1, g_dl2, g_dl3, g_dl4, g_dl5, g_dd, g_rfs, g_rfn, p_sm0, p_sm1, p_sm2, p_sm3, p_sm4, true_and, and_true, if_true, if_false, ↓reduceIte, Nat.reduceEqDiff, reduceCtorEq, or_true, true_or, and_self, Int32.reduceLT, Int32.reduceAdd, Int32.reduceSub, Int32.reduceToNatClampNeg, not_false_eq_true, not_true_eq_false, k1, k2, k3, k4, fun R => key 1 3 R (by omega) (by decide)]
/-- can is as told -/
def ic (k c : Int32) : Bool := if k < 3 then decide (c = 0) else if c < 1 then false else if 3 < c then false else true
theorem c98 {k c : Int32} : Vm 98 [.int k, .int c] h Q = if ic k c = true then Q (some (.int 1)) h else Q (some (.int 0)) h := by
  unfold ic
  by_cases k3 : k < 3
  · by_cases c0 : c = 0 <;> simp (decide := true) only [e98_0, e98_1, e98_2, e98_5, e98_6, e98_7, e98_10, e98_11, e98_12, e98_15, e98_16, e98_19, e98_20, e98_23, e98_24, e98_27, e98_28, e98_31, e98_32, m98, Kt_some, Kt_none, V_ite, g_if, g_ss, g_1, g_2, g_cn, g_iok, g_sok, g_bok, g_jok, g_qok, g_ivl, g_jvl, g_qvl, g_ist, g_bst, g_jst, g_qst, g_aln, g_isa, g_dl1, g_dl2, g_dl3, g_dl4, g_dl5, g_dd, g_rfs, g_rfn, p_sm0, p_sm1, p_sm2, p_sm3, p_sm4, true_and, and_true, if_true, if_false, ↓reduceIte, Nat.reduceEqDiff, reduceCtorEq, or_true, true_or, and_self, Int32.reduceLT, Int32.reduceAdd, Int32.reduceSub, Int32.reduceToNatClampNeg, not_false_eq_true, not_true_eq_false, k3, c0]
  · by_cases c1 : c < 1
    · simp (decide := true) only [e98_0, e98_1, e98_2, e98_5, e98_6, e98_7, e98_10, e98_11, e98_12, e98_15, e98_16, e98_19, e98_20, e98_23, e98_24, e98_27, e98_28, e98_31, e98_32, m98, Kt_some, Kt_none, V_ite, g_if, g_ss, g_1, g_2, g_cn, g_iok, g_sok, g_bok, g_jok, g_qok, g_ivl, g_jvl, g_qvl, g_ist, g_bst, g_jst, g_qst, g_aln, g_isa, g_dl1, g_dl2, g_dl3, g_dl4, g_dl5, g_dd, g_rfs, g_rfn, p_sm0, p_sm1, p_sm2, p_sm3, p_sm4, true_and, and_true, if_true, if_false, ↓reduceIte, Nat.reduceEqDiff, reduceCtorEq, or_true, true_or, and_self, Int32.reduceLT, Int32.reduceAdd, Int32.reduceSub, Int32.reduceToNatClampNeg, not_false_eq_true, not_true_eq_false, k3, c1]
    · by_cases c3 : 3 < c <;> simp (decide := true) only [e98_0, e98_1, e98_2, e98_5, e98_6, e98_7, e98_10, e98_11, e98_12, e98_15, e98_16, e98_19, e98_20, e98_23, e98_24, e98_27, e98_28, e98_31, e98_32, m98, Kt_some, Kt_none, V_ite, g_if, g_ss, g_1, g_2, g_cn, g_iok, g_sok, g_bok, g_jok, g_qok, g_ivl, g_jvl, g_qvl, g_ist, g_bst, g_jst, g_qst, g_aln, g_isa, g_dl1, g_dl2, g_dl3, g_dl4, g_dl5, g_dd, g_rfs, g_rfn, p_sm0, p_sm1, p_sm2, p_sm3, p_sm4, true_and, and_true, if_true, if_false, ↓reduceIte, Nat.reduceEqDiff, reduceCtorEq, or_true, true_or, and_self, Int32.reduceLT, Int32.reduceAdd, Int32.reduceSub, Int32.reduceToNatClampNeg, not_false_eq_true, not_true_eq_false, k3, c1, c3]
def f_boat (σ : pS) (k d c : Int32) : Int32 × pS := if k < 0 then (-102, σ) else if 4 < k then (-102, σ) else if d < 0 then (-102, σ) else if 5 < d then (-102, σ) else if ic k c = true then
    (if σ 0 0 = 0 then (-103, σ) else if σ 0 2 < 5 then (σ 0 2, s0 (s1 (s1 (s1 (s1 (s1 σ 5 (upd (σ 5) (nt σ) k)) 6 (upd (σ 6) (nt σ) d)) 7 (upd (σ 7) (nt σ) c)) 8 (upd (σ 8) (nt σ) 0)) 9 (upd (σ 9) (nt σ) 0)) 2 (σ 0 2 + 1)) else (-104, σ)) else (-102, σ)
theorem x_boat {k d c : Int32} (hh : 57 ≤ h.1) (hC : CR σ h) (hI : IV σ) (hK : ∀ h2, CR (f_boat σ k d c).2 h2 → MF h h2 → K (some (.int (f_boat σ k d c).1)) h2) : Vm 74 [.ref 1, .int k, .int d, .int c] h K := by
  obtain ⟨ad, hA, hB, hM, hKp, hJ, hS⟩ := id hC
  obtain ⟨a1, a2, a3, a4, a5, a6, a7⟩ := id hA
  unfold f_boat at hK
  by_cases k0 : k < 0
  · simp only [k0, if_true] at hK
    simp (decide := true) only [e74_0, e74_1, e74_4, e74_5, e74_6, e74_9, e74_10, e74_13, e74_14, e74_15, e74_18, e74_19, e74_20, e74_23, e74_26, e74_28, e74_29, e74_30, e74_33, e74_36, e74_39, e74_41, e74_42, e74_43, e74_46, e74_47, e74_50, e74_52, e74_53, e74_54, e74_57, e74_58, e74_61, e74_62, e74_63, e74_64, e74_67, e74_68, e74_69, e74_69i, e74_70, e74_73, e74_74, e74_75, e74_78, e74_79, e74_82, e74_83, e74_84, m74, ok_11_1_11, fv13_1, ok_9_2_9, fv3_2, ok_11_9_11, fv13_9, ok_11_4_11, fv13_4, fs13_9, Kt_some, Kt_none, V_ite, g_if, g_ss, g_1, g_2, g_cn, g_iok, g_sok, g_bok, g_jok, g_qok, g_ivl, g_jvl, g_qvl, g_ist, g_bst, g_jst, g_qst, g_aln, g_isa, g_dl1, g_dl2, g_dl3, g_dl4, g_dl5, g_dd, g_rfs, g_rfn, p_sm0, p_sm1, p_sm2, p_sm3, p_sm4, true_and, and_true, if_true, if_false, ↓reduceIte, Nat.reduceEqDiff, reduceCtorEq, or_true, true_or, and_self, Int32.reduceLT, Int32.reduceAdd, Int32.reduceSub, Int32.reduceToNatClampNeg, not_false_eq_true, not_true_eq_false, k0]
    exact hK h hC (MF_rf h)
  by_cases k4 : 4 < k
  · simp only [k0, k4, if_true, if_false] at hK
    simp (decide := true) only [e74_0, e74_1, e74_4, e74_5, e74_6, e74_9, e74_10, e74_13, e74_14, e74_15, e74_18, e74_19, e74_20, e74_23, e74_26, e74_28, e74_29, e74_30, e74_33, e74_36, e74_39, e74_41, e74_42, e74_43, e74_46, e74_47, e74_50, e74_52, e74_53, e74_54, e74_57, e74_58, e74_61, e74_62, e74_63, e74_64, e74_67, e74_68, e74_69, e74_69i, e74_70, e74_73, e74_74, e74_75, e74_78, e74_79, e74_82, e74_83, e74_84, m74, ok_11_1_11, fv13_1, ok_9_2_9, fv3_2, ok_11_9_11, fv13_9, ok_11_4_11, fv13_4, fs13_9, Kt_some, Kt_none, V_ite, g_if, g_ss, g_1, g_2, g_cn, g_iok, g_sok, g_bok, g_jok, g_qok, g_ivl, g_jvl, g_qvl, g_ist, g_bst, g_jst, g_qst, g_aln, g_isa, g_dl1, g_dl2, g_dl3, g_dl4, g_dl5, g_dd, g_rfs, g_rfn, p_sm0, p_sm1, p_sm2, p_sm3, p_sm4, true_and, and_true, if_true, if_false, ↓reduceIte, Nat.reduceEqDiff, reduceCtorEq, or_true, true_or, and_self, Int32.reduceLT, Int32.reduceAdd, Int32.reduceSub, Int32.reduceToNatClampNeg, not_false_eq_true, not_true_eq_false, k0, k4]
    exact hK h hC (MF_rf h)
  by_cases d0 : d < 0
  · simp only [k0, k4, d0, if_true, if_false] at hK
    simp (decide := true) only [e74_0, e74_1, e74_4, e74_5, e74_6, e74_9, e74_10, e74_13, e74_14, e74_15, e74_18, e74_19, e74_20, e74_23, e74_26, e74_28, e74_29, e74_30, e74_33, e74_36, e74_39, e74_41, e74_42, e74_43, e74_46, e74_47, e74_50, e74_52, e74_53, e74_54, e74_57, e74_58, e74_61, e74_62, e74_63, e74_64, e74_67, e74_68, e74_69, e74_69i, e74_70, e74_73, e74_74, e74_75, e74_78, e74_79, e74_82, e74_83, e74_84, m74, ok_11_1_11, fv13_1, ok_9_2_9, fv3_2, ok_11_9_11, fv13_9, ok_11_4_11, fv13_4, fs13_9, Kt_some, Kt_none, V_ite, g_if, g_ss, g_1, g_2, g_cn, g_iok, g_sok, g_bok, g_jok, g_qok, g_ivl, g_jvl, g_qvl, g_ist, g_bst, g_jst, g_qst, g_aln, g_isa, g_dl1, g_dl2, g_dl3, g_dl4, g_dl5, g_dd, g_rfs, g_rfn, p_sm0, p_sm1, p_sm2, p_sm3, p_sm4, true_and, and_true, if_true, if_false, ↓reduceIte, Nat.reduceEqDiff, reduceCtorEq, or_true, true_or, and_self, Int32.reduceLT, Int32.reduceAdd, Int32.reduceSub, Int32.reduceToNatClampNeg, not_false_eq_true, not_true_eq_false, k0, k4, d0]
    exact hK h hC (MF_rf h)
  by_cases d5 : 5 < d
  · simp only [k0, k4, d0, d5, if_true, if_false] at hK
    simp (decide := true) only [e74_0, e74_1, e74_4, e74_5, e74_6, e74_9, e74_10, e74_13, e74_14, e74_15, e74_18, e74_19, e74_20, e74_23, e74_26, e74_28, e74_29, e74_30, e74_33, e74_36, e74_39, e74_41, e74_42, e74_43, e74_46, e74_47, e74_50, e74_52, e74_53, e74_54, e74_57, e74_58, e74_61, e74_62, e74_63, e74_64, e74_67, e74_68, e74_69, e74_69i, e74_70, e74_73, e74_74, e74_75, e74_78, e74_79, e74_82, e74_83, e74_84, m74, ok_11_1_11, fv13_1, ok_9_2_9, fv3_2, ok_11_9_11, fv13_9, ok_11_4_11, fv13_4, fs13_9, Kt_some, Kt_none, V_ite, g_if, g_ss, g_1, g_2, g_cn, g_iok, g_sok, g_bok, g_jok, g_qok, g_ivl, g_jvl, g_qvl, g_ist, g_bst, g_jst, g_qst, g_aln, g_isa, g_dl1, g_dl2, g_dl3, g_dl4, g_dl5, g_dd, g_rfs, g_rfn, p_sm0, p_sm1, p_sm2, p_sm3, p_sm4, true_and, and_true, if_true, if_false, ↓reduceIte, Nat.reduceEqDiff, reduceCtorEq, or_true, true_or, and_self, Int32.reduceLT, Int32.reduceAdd, Int32.reduceSub, Int32.reduceToNatClampNeg, not_false_eq_true, not_true_eq_false, k0, k4, d0, d5]
    exact hK h hC (MF_rf h)
  by_cases hc : ic k c = true
  · by_cases h2 : σ 0 0 = 0
    · simp only [k0, k4, d0, d5, hc, h2, if_true, if_false] at hK
      simp (decide := true) only [e74_0, e74_1, e74_4, e74_5, e74_6, e74_9, e74_10, e74_13, e74_14, e74_15, e74_18, e74_19, e74_20, e74_23, e74_26, e74_28, e74_29, e74_30, e74_33, e74_36, e74_39, e74_41, e74_42, e74_43, e74_46, e74_47, e74_50, e74_52, e74_53, e74_54, e74_57, e74_58, e74_61, e74_62, e74_63, e74_64, e74_67, e74_68, e74_69, e74_69i, e74_70, e74_73, e74_74, e74_75, e74_78, e74_79, e74_82, e74_83, e74_84, m74, ok_11_1_11, fv13_1, ok_9_2_9, fv3_2, ok_11_9_11, fv13_9, ok_11_4_11, fv13_4, fs13_9, Kt_some, Kt_none, V_ite, g_if, g_ss, g_1, g_2, g_cn, g_iok, g_sok, g_bok, g_jok, g_qok, g_ivl, g_jvl, g_qvl, g_ist, g_bst, g_jst, g_qst, g_aln, g_isa, g_dl1, g_dl2, g_dl3, g_dl4, g_dl5, g_dd, g_rfs, g_rfn, p_sm0, p_sm1, p_sm2, p_sm3, p_sm4, true_and, and_true, if_true, if_false, ↓reduceIte, Nat.reduceEqDiff, reduceCtorEq, or_true, true_or, and_self, Int32.reduceLT, Int32.reduceAdd, Int32.reduceSub, Int32.reduceToNatClampNeg, not_false_eq_true, not_true_eq_false, k0, k4, d0, d5, c98, hc, a1, a4, h2]
      exact hK h hC (MF_rf h)
    by_cases h3 : σ 0 2 < 5
    · obtain ⟨n, ps, bt, sr, hI⟩ := hI
      obtain ⟨-, -, e5⟩ := IN_n hI
      obtain ⟨⟨-, -, -, -, -, e4, e6, -⟩, -⟩ := hI
      have hb5 : bt < 5 := by
        rw [e4] at h3
        exact (nI_ltI (a := bt) (b := 5) (by omega) (by omega)).mp h3
      simp only [k0, k4, d0, d5, hc, h2, h3, if_true, if_false, e5] at hK
      rw [e4] at h3
      obtain ⟨⟨f, b1, b2⟩, b3, b4⟩ := id hB
      rw [e5] at b2 b3 b4
      have kb : p_bt (kc k) = true := (kc_bt (by
        obtain ⟨m, hm, rfl⟩ := nI_of k0
        refine ⟨m, rfl, by omega, ?_⟩
        exact Nat.not_lt.mp (fun q => k4 (nI_lt (a := 4) (b := m) q (by omega))))).1
      have v5 : vp_in (nI bt) 5 = True := vp_T hb5 (by omega)
      have c5 : (nI bt).toNatClampNeg = bt := nI_c (by omega)
      have n1 : (1 = h.1) = False := eq_false (by omega)
      have n9 : (9 = h.1) = False := eq_false (by omega)
      have n9' : (h.1 = 9) = False := eq_false (by omega)
      have s1e : nI (bt + 1) - 1 = nI bt := pk_sub (a := bt + 1) (b := 1) (by omega)
      simp (decide := true) only [e74_0, e74_1, e74_4, e74_5, e74_6, e74_9, e74_10, e74_13, e74_14, e74_15, e74_18, e74_19, e74_20, e74_23, e74_26, e74_28, e74_29, e74_30, e74_33, e74_36, e74_39, e74_41, e74_42, e74_43, e74_46, e74_47, e74_50, e74_52, e74_53, e74_54, e74_57, e74_58, e74_61, e74_62, e74_63, e74_64, e74_67, e74_68, e74_69, e74_69i, e74_70, e74_73, e74_74, e74_75, e74_78, e74_79, e74_82, e74_83, e74_84, m74, ok_11_1_11, fv13_1, ok_9_2_9, fv3_2, ok_11_9_11, fv13_9, ok_11_4_11, fv13_4, fs13_9, Kt_some, Kt_none, V_ite, g_if, g_ss, g_1, g_2, g_cn, g_iok, g_sok, g_bok, g_jok, g_qok, g_ivl, g_jvl, g_qvl, g_ist, g_bst, g_jst, g_qst, g_aln, g_isa, g_dl1, g_dl2, g_dl3, g_dl4, g_dl5, g_dd, g_rfs, g_rfn, p_sm0, p_sm1, p_sm2, p_sm3, p_sm4, true_and, and_true, if_true, if_false, ↓reduceIte, Nat.reduceEqDiff, reduceCtorEq, or_true, true_or, and_self, Int32.reduceLT, Int32.reduceAdd, Int32.reduceSub, Int32.reduceToNatClampNeg, not_false_eq_true, not_true_eq_false, k0, k4, d0, d5, c98, hc, a1, a4, h2, e4, h3, c99, g_nw, n1, n9, n9', b1, kb, v5, c5, nI_1, s1e]
      rw [e4] at hK
      refine hK _ ⟨fun i => if i = bt then h.1 else ad i, ⟨?_, ?_, ?_, ?_, ?_, ?_, ?_⟩, ⟨?_, ?_, ?_⟩, ?_, ?_, ?_, ?_⟩ ?_
      · simp (decide := true) only [Kt_some, Kt_none, V_ite, g_if, g_ss, g_1, g_2, g_cn, g_iok, g_sok, g_bok, g_jok, g_qok, g_ivl, g_jvl, g_qvl, g_ist, g_bst, g_jst, g_qst, g_aln, g_isa, g_dl1, g_dl2, g_dl3, g_dl4, g_dl5, g_dd, g_rfs, g_rfn, p_sm0, p_sm1, p_sm2, p_sm3, p_sm4, true_and, and_true, if_true, if_false, ↓reduceIte, Nat.reduceEqDiff, reduceCtorEq, or_true, true_or, and_self, Int32.reduceLT, Int32.reduceAdd, Int32.reduceSub, Int32.reduceToNatClampNeg, not_false_eq_true, not_true_eq_false, g_nw, s0_if, s1_if, u_if, a1, n1, nI_1]
      · simp (decide := true) only [Kt_some, Kt_none, V_ite, g_if, g_ss, g_1, g_2, g_cn, g_iok, g_sok, g_bok, g_jok, g_qok, g_ivl, g_jvl, g_qvl, g_ist, g_bst, g_jst, g_qst, g_aln, g_isa, g_dl1, g_dl2, g_dl3, g_dl4, g_dl5, g_dd, g_rfs, g_rfn, p_sm0, p_sm1, p_sm2, p_sm3, p_sm4, true_and, and_true, if_true, if_false, ↓reduceIte, Nat.reduceEqDiff, reduceCtorEq, or_true, true_or, and_self, Int32.reduceLT, Int32.reduceAdd, Int32.reduceSub, Int32.reduceToNatClampNeg, not_false_eq_true, not_true_eq_false, g_nn (h := h) (b := 2) (by omega), s0_if, s1_if, u_if, a2]
      · simp (decide := true) only [Kt_some, Kt_none, V_ite, g_if, g_ss, g_1, g_2, g_cn, g_iok, g_sok, g_bok, g_jok, g_qok, g_ivl, g_jvl, g_qvl, g_ist, g_bst, g_jst, g_qst, g_aln, g_isa, g_dl1, g_dl2, g_dl3, g_dl4, g_dl5, g_dd, g_rfs, g_rfn, p_sm0, p_sm1, p_sm2, p_sm3, p_sm4, true_and, and_true, if_true, if_false, ↓reduceIte, Nat.reduceEqDiff, reduceCtorEq, or_true, true_or, and_self, Int32.reduceLT, Int32.reduceAdd, Int32.reduceSub, Int32.reduceToNatClampNeg, not_false_eq_true, not_true_eq_false, g_nn (h := h) (b := 3) (by omega), s0_if, s1_if, u_if, a3]
      · simp (decide := true) only [Kt_some, Kt_none, V_ite, g_if, g_ss, g_1, g_2, g_cn, g_iok, g_sok, g_bok, g_jok, g_qok, g_ivl, g_jvl, g_qvl, g_ist, g_bst, g_jst, g_qst, g_aln, g_isa, g_dl1, g_dl2, g_dl3, g_dl4, g_dl5, g_dd, g_rfs, g_rfn, p_sm0, p_sm1, p_sm2, p_sm3, p_sm4, true_and, and_true, if_true, if_false, ↓reduceIte, Nat.reduceEqDiff, reduceCtorEq, or_true, true_or, and_self, Int32.reduceLT, Int32.reduceAdd, Int32.reduceSub, Int32.reduceToNatClampNeg, not_false_eq_true, not_true_eq_false, g_nn (h := h) (b := 4) (by omega), s0_if, s1_if, u_if, a4]
      · simp (decide := true) only [Kt_some, Kt_none, V_ite, g_if, g_ss, g_1, g_2, g_cn, g_iok, g_sok, g_bok, g_jok, g_qok, g_ivl, g_jvl, g_qvl, g_ist, g_bst, g_jst, g_qst, g_aln, g_isa, g_dl1, g_dl2, g_dl3, g_dl4, g_dl5, g_dd, g_rfs, g_rfn, p_sm0, p_sm1, p_sm2, p_sm3, p_sm4, true_and, and_true, if_true, if_false, ↓reduceIte, Nat.reduceEqDiff, reduceCtorEq, or_true, true_or, and_self, Int32.reduceLT, Int32.reduceAdd, Int32.reduceSub, Int32.reduceToNatClampNeg, not_false_eq_true, not_true_eq_false, g_nn (h := h) (b := 5) (by omega), s0_if, s1_if, u_if, a5]
      · simp (decide := true) only [Kt_some, Kt_none, V_ite, g_if, g_ss, g_1, g_2, g_cn, g_iok, g_sok, g_bok, g_jok, g_qok, g_ivl, g_jvl, g_qvl, g_ist, g_bst, g_jst, g_qst, g_aln, g_isa, g_dl1, g_dl2, g_dl3, g_dl4, g_dl5, g_dd, g_rfs, g_rfn, p_sm0, p_sm1, p_sm2, p_sm3, p_sm4, true_and, and_true, if_true, if_false, ↓reduceIte, Nat.reduceEqDiff, reduceCtorEq, or_true, true_or, and_self, Int32.reduceLT, Int32.reduceAdd, Int32.reduceSub, Int32.reduceToNatClampNeg, not_false_eq_true, not_true_eq_false, g_nn (h := h) (b := 6) (by omega), s0_if, s1_if, u_if, a6]
      · simp (decide := true) only [Kt_some, Kt_none, V_ite, g_if, g_ss, g_1, g_2, g_cn, g_iok, g_sok, g_bok, g_jok, g_qok, g_ivl, g_jvl, g_qvl, g_ist, g_bst, g_jst, g_qst, g_aln, g_isa, g_dl1, g_dl2, g_dl3, g_dl4, g_dl5, g_dd, g_rfs, g_rfn, p_sm0, p_sm1, p_sm2, p_sm3, p_sm4, true_and, and_true, if_true, if_false, ↓reduceIte, Nat.reduceEqDiff, reduceCtorEq, or_true, true_or, and_self, Int32.reduceLT, Int32.reduceAdd, Int32.reduceSub, Int32.reduceToNatClampNeg, not_false_eq_true, not_true_eq_false, g_nn (h := h) (b := 7) (by omega), s0_if, s1_if, u_if, a7]
      · refine ⟨va_up f bt (some h.1), by simp (decide := true) only [Kt_some, Kt_none, V_ite, g_if, g_ss, g_1, g_2, g_cn, g_iok, g_sok, g_bok, g_jok, g_qok, g_ivl, g_jvl, g_qvl, g_ist, g_bst, g_jst, g_qst, g_aln, g_isa, g_dl1, g_dl2, g_dl3, g_dl4, g_dl5, g_dd, g_rfs, g_rfn, p_sm0, p_sm1, p_sm2, p_sm3, p_sm4, true_and, and_true, if_true, if_false, ↓reduceIte, Nat.reduceEqDiff, reduceCtorEq, or_true, true_or, and_self, Int32.reduceLT, Int32.reduceAdd, Int32.reduceSub, Int32.reduceToNatClampNeg, not_false_eq_true, not_true_eq_false], fun i hi => ?_⟩
        have hi2 : i < bt + 1 := by
          unfold nt at hi
          simp (decide := true) only [Kt_some, Kt_none, V_ite, g_if, g_ss, g_1, g_2, g_cn, g_iok, g_sok, g_bok, g_jok, g_qok, g_ivl, g_jvl, g_qvl, g_ist, g_bst, g_jst, g_qst, g_aln, g_isa, g_dl1, g_dl2, g_dl3, g_dl4, g_dl5, g_dd, g_rfs, g_rfn, p_sm0, p_sm1, p_sm2, p_sm3, p_sm4, true_and, and_true, if_true, if_false, ↓reduceIte, Nat.reduceEqDiff, reduceCtorEq, or_true, true_or, and_self, Int32.reduceLT, Int32.reduceAdd, Int32.reduceSub, Int32.reduceToNatClampNeg, not_false_eq_true, not_true_eq_false, s0_if, s1_if, u_if, nI_1] at hi
          rwa [nI_c (by omega)] at hi
        unfold va_up
        by_cases hib : i = bt
        · simp only [hib, if_true]
        · simp only [hib, if_false]
          exact b2 i (by omega)
      · intro i hi
        have hi2 : i < bt + 1 := by
          unfold nt at hi
          simp (decide := true) only [Kt_some, Kt_none, V_ite, g_if, g_ss, g_1, g_2, g_cn, g_iok, g_sok, g_bok, g_jok, g_qok, g_ivl, g_jvl, g_qvl, g_ist, g_bst, g_jst, g_qst, g_aln, g_isa, g_dl1, g_dl2, g_dl3, g_dl4, g_dl5, g_dd, g_rfs, g_rfn, p_sm0, p_sm1, p_sm2, p_sm3, p_sm4, true_and, and_true, if_true, if_false, ↓reduceIte, Nat.reduceEqDiff, reduceCtorEq, or_true, true_or, and_self, Int32.reduceLT, Int32.reduceAdd, Int32.reduceSub, Int32.reduceToNatClampNeg, not_false_eq_true, not_true_eq_false, s0_if, s1_if, u_if, nI_1] at hi
          rwa [nI_c (by omega)] at hi
        by_cases hib : i = bt
        · subst hib
          refine ⟨by simp only [if_true]; exact hh, by simp only [if_true, s_1, n_1]; omega, ?_⟩
          simp (decide := true) only [Kt_some, Kt_none, V_ite, g_if, g_ss, g_1, g_2, g_cn, g_iok, g_sok, g_bok, g_jok, g_qok, g_ivl, g_jvl, g_qvl, g_ist, g_bst, g_jst, g_qst, g_aln, g_isa, g_dl1, g_dl2, g_dl3, g_dl4, g_dl5, g_dd, g_rfs, g_rfn, p_sm0, p_sm1, p_sm2, p_sm3, p_sm4, true_and, and_true, if_true, if_false, ↓reduceIte, Nat.reduceEqDiff, reduceCtorEq, or_true, true_or, and_self, Int32.reduceLT, Int32.reduceAdd, Int32.reduceSub, Int32.reduceToNatClampNeg, not_false_eq_true, not_true_eq_false, g_nw, n9', s0_if, s1_if, u_if, show (h.1 = 1) = False from eq_false (by omega)]
        · obtain ⟨g1, g2, g3⟩ := b3 i (by omega)
          refine ⟨by simp only [hib, if_false]; exact g1, by simp only [hib, if_false, s_1, n_1]; omega, ?_⟩
          simp (decide := true) only [Kt_some, Kt_none, V_ite, g_if, g_ss, g_1, g_2, g_cn, g_iok, g_sok, g_bok, g_jok, g_qok, g_ivl, g_jvl, g_qvl, g_ist, g_bst, g_jst, g_qst, g_aln, g_isa, g_dl1, g_dl2, g_dl3, g_dl4, g_dl5, g_dd, g_rfs, g_rfn, p_sm0, p_sm1, p_sm2, p_sm3, p_sm4, true_and, and_true, if_true, if_false, ↓reduceIte, Nat.reduceEqDiff, reduceCtorEq, or_true, true_or, and_self, Int32.reduceLT, Int32.reduceAdd, Int32.reduceSub, Int32.reduceToNatClampNeg, not_false_eq_true, not_true_eq_false, g_nw, s0_if, s1_if, u_if, hib, show (ad i = 1) = False from eq_false (by omega), show (ad i = 9) = False from eq_false (by omega), show (ad i = h.1) = False from eq_false (by omega)]
          exact g3
      · intro i j hi hj
        have hi2 : i < bt + 1 := by
          unfold nt at hi
          simp (decide := true) only [Kt_some, Kt_none, V_ite, g_if, g_ss, g_1, g_2, g_cn, g_iok, g_sok, g_bok, g_jok, g_qok, g_ivl, g_jvl, g_qvl, g_ist, g_bst, g_jst, g_qst, g_aln, g_isa, g_dl1, g_dl2, g_dl3, g_dl4, g_dl5, g_dd, g_rfs, g_rfn, p_sm0, p_sm1, p_sm2, p_sm3, p_sm4, true_and, and_true, if_true, if_false, ↓reduceIte, Nat.reduceEqDiff, reduceCtorEq, or_true, true_or, and_self, Int32.reduceLT, Int32.reduceAdd, Int32.reduceSub, Int32.reduceToNatClampNeg, not_false_eq_true, not_true_eq_false, s0_if, s1_if, u_if, nI_1] at hi
          rwa [nI_c (by omega)] at hi
        have hj2 : j < bt + 1 := by
          unfold nt at hj
          simp (decide := true) only [Kt_some, Kt_none, V_ite, g_if, g_ss, g_1, g_2, g_cn, g_iok, g_sok, g_bok, g_jok, g_qok, g_ivl, g_jvl, g_qvl, g_ist, g_bst, g_jst, g_qst, g_aln, g_isa, g_dl1, g_dl2, g_dl3, g_dl4, g_dl5, g_dd, g_rfs, g_rfn, p_sm0, p_sm1, p_sm2, p_sm3, p_sm4, true_and, and_true, if_true, if_false, ↓reduceIte, Nat.reduceEqDiff, reduceCtorEq, or_true, true_or, and_self, Int32.reduceLT, Int32.reduceAdd, Int32.reduceSub, Int32.reduceToNatClampNeg, not_false_eq_true, not_true_eq_false, s0_if, s1_if, u_if, nI_1] at hj
          rwa [nI_c (by omega)] at hj
        by_cases hib : i = bt
        · by_cases hjb : j = bt
          · intro _; omega
          · simp only [hib, hjb, if_true, if_false]
            have := (b3 j (by omega)).2.1
            intro q; omega
        · by_cases hjb : j = bt
          · simp only [hib, hjb, if_true, if_false]
            have := (b3 i (by omega)).2.1
            intro q; omega
          · simp only [hib, hjb, if_false]
            exact b4 i j (by omega) (by omega)
      · refine CM_st (CM_st ?_ (by decide) (by decide)) (by decide) (by decide)
        exact CM_nw hM hh
      · refine CK_st (CK_st ?_ (by decide)) (by decide)
        exact CK_nw hKp hh
      · exact CJ_st (CJ_st (CJ_nw hJ hh) (by decide)) (by decide)
      · exact CS_st (CS_st (CS_nw hS hh) (by decide) (by decide) (by decide) (by decide)) (by decide) (by decide) (by decide) (by decide)
      · exact MF_st (MF_st (MF_nw hh (by omega)) (by decide)) (by decide)
    · simp only [k0, k4, d0, d5, hc, h2, h3, if_true, if_false] at hK
      simp (decide := true) only [e74_0, e74_1, e74_4, e74_5, e74_6, e74_9, e74_10, e74_13, e74_14, e74_15, e74_18, e74_19, e74_20, e74_23, e74_26, e74_28, e74_29, e74_30, e74_33, e74_36, e74_39, e74_41, e74_42, e74_43, e74_46, e74_47, e74_50, e74_52, e74_53, e74_54, e74_57, e74_58, e74_61, e74_62, e74_63, e74_64, e74_67, e74_68, e74_69, e74_69i, e74_70, e74_73, e74_74, e74_75, e74_78, e74_79, e74_82, e74_83, e74_84, m74, ok_11_1_11, fv13_1, ok_9_2_9, fv3_2, ok_11_9_11, fv13_9, ok_11_4_11, fv13_4, fs13_9, Kt_some, Kt_none, V_ite, g_if, g_ss, g_1, g_2, g_cn, g_iok, g_sok, g_bok, g_jok, g_qok, g_ivl, g_jvl, g_qvl, g_ist, g_bst, g_jst, g_qst, g_aln, g_isa, g_dl1, g_dl2, g_dl3, g_dl4, g_dl5, g_dd, g_rfs, g_rfn, p_sm0, p_sm1, p_sm2, p_sm3, p_sm4, true_and, and_true, if_true, if_false, ↓reduceIte, Nat.reduceEqDiff, reduceCtorEq, or_true, true_or, and_self, Int32.reduceLT, Int32.reduceAdd, Int32.reduceSub, Int32.reduceToNatClampNeg, not_false_eq_true, not_true_eq_false, k0, k4, d0, d5, c98, hc, a1, a4, h2, h3]
      exact hK h hC (MF_rf h)
  · simp only [k0, k4, d0, d5, hc, if_true, if_false] at hK
    simp (decide := true) only [e74_0, e74_1, e74_4, e74_5, e74_6, e74_9, e74_10, e74_13, e74_14, e74_15, e74_18, e74_19, e74_20, e74_23, e74_26, e74_28, e74_29, e74_30, e74_33, e74_36, e74_39, e74_41, e74_42, e74_43, e74_46, e74_47, e74_50, e74_52, e74_53, e74_54, e74_57, e74_58, e74_61, e74_62, e74_63, e74_64, e74_67, e74_68, e74_69, e74_69i, e74_70, e74_73, e74_74, e74_75, e74_78, e74_79, e74_82, e74_83, e74_84, m74, ok_11_1_11, fv13_1, ok_9_2_9, fv3_2, ok_11_9_11, fv13_9, ok_11_4_11, fv13_4, fs13_9, Kt_some, Kt_none, V_ite, g_if, g_ss, g_1, g_2, g_cn, g_iok, g_sok, g_bok, g_jok, g_qok, g_ivl, g_jvl, g_qvl, g_ist, g_bst, g_jst, g_qst, g_aln, g_isa, g_dl1, g_dl2, g_dl3, g_dl4, g_dl5, g_dd, g_rfs, g_rfn, p_sm0, p_sm1, p_sm2, p_sm3, p_sm4, true_and, and_true, if_true, if_false, ↓reduceIte, Nat.reduceEqDiff, reduceCtorEq, or_true, true_or, and_self, Int32.reduceLT, Int32.reduceAdd, Int32.reduceSub, Int32.reduceToNatClampNeg, not_false_eq_true, not_true_eq_false, k0, k4, d0, d5, c98, hc]
    exact hK h hC (MF_rf h)
end S24
