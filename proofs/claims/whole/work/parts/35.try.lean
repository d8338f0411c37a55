section S35
variable {h : pH} {K Q : Option Value → pH → Prop} {n : Nat} {H : Nat → Nat} {nb nc cc c f qa sa : Nat} {L : List Nat}
theorem mn_n {a b : Nat} (ha : a < 1000) (hb : b < 1000) : mn (nI a) (nI b) = nI (min a b) := by
  unfold mn
  by_cases hq : b < a
  · rw [if_pos (nI_lt hq (by omega))]
    congr 1
    omega
  · rw [if_neg (nI_nlt (by omega) (by omega))]
    congr 1
    omega
theorem pw_q (H : Nat → Nat) (fh : Nat → Int32) : ∀ (i : Nat) (g : Nat → Int32) (w : Nat → Nat) (k : Nat), i < 4 → k < 100 → (∀ j, 1 ≤ j → j ≤ i → fh j = nI (H j) ∧ w j ≤ H j ∧ H j ≤ 5) → (∀ j, j < 4 → g j = nI (w j)) → ∀ j, j < 4 → (pw fh g i (nI k)).1 j = nI (qN H w i k j)
  | 0, g, w, k, _, _, _, hg, j, hj => hg j hj
  | i + 1, g, w, k, hi, hk, hh, hg, j, hj => by
    obtain ⟨h1, h2, h3⟩ := hh (i + 1) (by omega) (by omega)
    have g1 := hg (i + 1) hi
    unfold pw qN
    by_cases h0 : 0 < k
    · have e0 : (0 : Int32) < nI k := nI_lt (a := 0) h0 (by omega)
      rw [if_pos e0, if_pos h0, h1, g1, pk_sub h2, mn_n (by omega) (by omega), nI_add, pk_sub (by omega)]
      refine pw_q H fh i _ _ _ (by omega) (by omega) (fun q q1 q2 => ?_) (fun q hq => ?_) j hj
      · obtain ⟨r1, r2, r3⟩ := hh q q1 (by omega)
        rw [va_n _ _ (by omega)]
        exact ⟨r1, r2, r3⟩
      · by_cases hqi : q = i + 1
        · subst hqi; rw [pk_us, va_s]
        · rw [pk_un hqi, va_n _ _ hqi]; exact hg q hq
    · have e0 : ¬ (0 : Int32) < nI k := nI_nlt (a := 0) (b := k) (by omega) (by omega) |> fun q => by
        have : k = 0 := by omega
        subst this
        decide
      rw [if_neg e0, if_neg h0]
      exact hg j hj
theorem c58z {s r p q i k : Nat} {g : Nat → Int32} {w : Nat → Nat} (hS : p_get h s = some (oS p q (nI n))) (hr : p_get h r = some (aI 4 g)) (hi : i < n) (hn : n ≤ 4) (hg : ∀ j, j < 4 → g j = nI (w j)) (hw : ∀ j, j < 4 → w j < 100) (hk : k < 100) : Vm 58 [.ref s, .ref r, .int (nI i), .int (nI k)] h Q = if rz n w i k = true then Q (some (.int 1)) h else Q (some (.int 0)) h := by
  rw [c58 hS hr rfl hi hn, hg i (by omega)]
  have w1 := hw i (by omega)
  unfold rz
  by_cases h1 : k ≤ w i
  · rw [if_neg (nI_nlt h1 (by omega))]
    by_cases h2 : i + 1 < n
    · rw [if_pos h2, hg (i + 1) (by omega)]
      have w2 := hw (i + 1) (by omega)
      by_cases h3 : k ≤ w (i + 1)
      · rw [if_neg (nI_nlt h3 (by omega))]
        simp [h1, h2, h3]
      · rw [if_pos (nI_lt (by omega) (by omega))]
        simp [h1, h2, h3]
    · rw [if_neg h2]
      simp [h1, h2]
  · rw [if_pos (nI_lt (by omega) (by omega))]
    simp [h1]
def SF (n : Nat) (H : Nat → Nat) (nb nc cc qa sa : Nat) : Prop := 2 ≤ n ∧ n ≤ 4 ∧ (∀ i, i < n → H i ≤ 5) ∧ nb ≤ 6 ∧ nc ≤ 6 ∧ cc ≤ 6 ∧ 57 ≤ qa ∧ 57 ≤ sa ∧ qa ≠ sa
/-- the search in the midst of a state -/
def EV (n : Nat) (H : Nat → Nat) (nb nc cc c f qa sa : Nat) (L : List Nat) (h : pH) : Prop := ∃ x : Nat → Int32, SR qa sa x L h ∧ (x 0 = -1 ∧ x 1 = -1 ∧ x 3 = nI f ∧ x 4 = nI (sC c) ∧ x 5 = nI (sB c) ∧ x 6 = nI (sL c) ∧ x 7 = nI nb ∧ x 8 = nI nc ∧ x 9 = nI cc) ∧ p_get h 4 = some (oS 5 6 (nI n)) ∧ (∃ fh, p_get h 5 = some (aI 4 fh) ∧ ∀ i, i < n → fh i = nI (H i)) ∧ (∃ g, p_get h 30 = some (aI 4 g) ∧ ∀ i, i < 4 → g i = nI (sW (H 0) c i)) ∧ IA h 31 4
theorem EV_fr {x : Nat → Int32} {v : Int32} {L2 : List Nat} {h2 : pH} (hx : x 0 = -1 ∧ x 1 = -1 ∧ x 3 = nI f ∧ x 4 = nI (sC c) ∧ x 5 = nI (sB c) ∧ x 6 = nI (sL c) ∧ x 7 = nI nb ∧ x 8 = nI nc ∧ x 9 = nI cc) (h4 : p_get h 4 = some (oS 5 6 (nI n))) (h5 : ∃ fh, p_get h 5 = some (aI 4 fh) ∧ ∀ i, i < n → fh i = nI (H i)) (h30 : ∃ g, p_get h 30 = some (aI 4 g) ∧ ∀ i, i < 4 → g i = nI (sW (H 0) c i)) (h31 : IA h 31 4) (hF : SF n H nb nc cc qa sa) (hS : SR qa sa (upd x 2 v) L2 h2) (hfr : ∀ k, k ≠ 29 → k ≠ qa → k ≠ sa → p_get h2 k = p_get h k) : EV n H nb nc cc c f qa sa L2 h2 := by
  obtain ⟨-, -, -, -, -, -, q1, q2, -⟩ := hF
  refine ⟨upd x 2 v, hS, ?_, ?_, ?_, ?_, ?_⟩
  · simpa (decide := true) only [u_if, if_false] using hx
  · rw [hfr 4 (by omega) (by omega) (by omega)]; exact h4
  · rw [hfr 5 (by omega) (by omega) (by omega)]; exact h5
  · rw [hfr 30 (by omega) (by omega) (by omega)]; exact h30
  · unfold IA
    rw [hfr 31 (by omega) (by omega) (by omega)]; exact h31
theorem sW_b (hF : SF n H nb nc cc qa sa) (hv : VC n H cc c) : ∀ j, j < 4 → sW (H 0) c j < 100 := by
  intro j hj
  by_cases h0 : j = 0
  · subst h0
    rw [sW_0]
    have := hF.2.2.1 0 (by have := hF.1; omega)
    omega
  · have := sW_lt (H 0) c (show 1 ≤ j by omega)
    omega
theorem sb4 (c : Nat) : sL c < 8 ∧ sC c < 4 ∧ sB c < 4 := by unfold sL sC sB; omega
/-- tryBoat -/
theorem c46 (hF : SF n H nb nc cc qa sa) (hE : EV n H nb nc cc c f qa sa L h) (hq : QV n H cc L) (hv : VC n H cc c) (hf : f ≤ 31)
    (hT : fd n H nb c = true → ∀ (h2 : pH) (x : Nat → Int32), p_get h2 29 = some (oF qa sa x) → x 1 = nI (fa f 0) → p_get h2 4 = p_get h 4 → (∃ fq, p_get h2 qa = some (aI 18144 fq)) → (∃ fs, p_get h2 sa = some (aJ 1024 fs)) → IA h2 30 4 → IA h2 31 4 → GR qa sa h h2 → K (some (.int 1)) h2)
    (hN : fd n H nb c = false → ∀ h2, EV n H nb nc cc c f qa sa (xs n H nb nc cc L c f 0) h2 → GR qa sa h h2 → K (some (.int 0)) h2) : Vm 46 [.ref 29, .ref 4] h K := by
  obtain ⟨x, hS, hx, h4, h5, ⟨g, h30, hg⟩, h31⟩ := hE
  obtain ⟨s1, s2, s3, s4⟩ := id hS
  obtain ⟨x0, x1, x3, x4, x5, x6, x7, x8, x9⟩ := id hx
  obtain ⟨f1, f2, f3, f4, f5, f6, f7, f8, f9⟩ := id hF
  obtain ⟨v1, v2, v3, v4, v5, v6⟩ := id hv
  have hw := sW_b hF hv
  have hr := fun Q => c58z (Q := Q) (k := nb) h4 h30 (show sB c < n by omega) f2 hg hw (by omega)
  have n29q : (qa = 29) = False := eq_false (by omega)
  by_cases hz : rz n (sW (H 0) c) (sB c) nb = true
  · have e1 : nI n - 1 = nI (n - 1) := pk_sub (a := n) (b := 1) (by omega)
    by_cases ht : sB c + 2 = n
    · have hfd : fd n H nb c = true := by unfold fd; rw [hz, ht]; simp
      have e2 : (nI (sB c + 1) = nI (n - 1)) = True := eq_true (by congr 1; omega)
      simp (decide := true) only [e46_0, e46_0n, e46_1, e46_2, e46_5, e46_6, e46_9, e46_10, e46_13, e46_16, e46_19, e46_20, e46_21, e46_22, e46_25, e46_26, e46_27, e46_27n, e46_28, e46_31, e46_34, e46_35, e46_36, e46_37, e46_40, e46_43, e46_44, e46_45, e46_46, e46_47, e46_50, e46_51, e46_54, e46_55, e46_58, e46_59, e46_62, e46_63, e46_64, e46_65, e46_68, e46_69, m46, ok_8_2_8, fv14_2, ok_8_9_8, fv14_9, ok_8_11_8, fv14_11, ok_8_1_8, fs14_1, ok_8_10_8, fv14_10, ok_8_8_8, fv14_8, Kt_some, Kt_none, V_ite, g_if, g_ss, g_1, g_2, g_cn, g_iok, g_sok, g_bok, g_jok, g_qok, g_ivl, g_jvl, g_qvl, g_ist, g_bst, g_jst, g_qst, g_aln, g_isa, g_dl1, g_dl2, g_dl3, g_dl4, g_dl5, g_dd, g_rfs, g_rfn, p_sm0, p_sm1, p_sm2, p_sm3, p_sm4, true_and, and_true, if_true, if_false, ↓reduceIte, Nat.reduceEqDiff, reduceCtorEq, or_true, true_or, and_self, Int32.reduceLT, Int32.reduceAdd, Int32.reduceSub, Int32.reduceToNatClampNeg, not_false_eq_true, not_true_eq_false, s1, x5, x7, h4, hr, hz, nI_1, c54 h4, e1, e2, fun Q => c45 (Q := Q) (a := 0) s1 x3 hf]
      have hc45 := fun Q => c45 (Q := Q) (a := 0) s1 x3 hf
      rw [show nI 0 = (0 : Int32) from rfl] at hc45
      simp (decide := true) only [e46_0, e46_0n, e46_1, e46_2, e46_5, e46_6, e46_9, e46_10, e46_13, e46_16, e46_19, e46_20, e46_21, e46_22, e46_25, e46_26, e46_27, e46_27n, e46_28, e46_31, e46_34, e46_35, e46_36, e46_37, e46_40, e46_43, e46_44, e46_45, e46_46, e46_47, e46_50, e46_51, e46_54, e46_55, e46_58, e46_59, e46_62, e46_63, e46_64, e46_65, e46_68, e46_69, m46, ok_8_2_8, fv14_2, ok_8_9_8, fv14_9, ok_8_11_8, fv14_11, ok_8_1_8, fs14_1, ok_8_10_8, fv14_10, ok_8_8_8, fv14_8, Kt_some, Kt_none, V_ite, g_if, g_ss, g_1, g_2, g_cn, g_iok, g_sok, g_bok, g_jok, g_qok, g_ivl, g_jvl, g_qvl, g_ist, g_bst, g_jst, g_qst, g_aln, g_isa, g_dl1, g_dl2, g_dl3, g_dl4, g_dl5, g_dd, g_rfs, g_rfn, p_sm0, p_sm1, p_sm2, p_sm3, p_sm4, true_and, and_true, if_true, if_false, ↓reduceIte, Nat.reduceEqDiff, reduceCtorEq, or_true, true_or, and_self, Int32.reduceLT, Int32.reduceAdd, Int32.reduceSub, Int32.reduceToNatClampNeg, not_false_eq_true, not_true_eq_false, s1, hc45]
      refine hT hfd _ (upd x 1 (nI (fa f 0))) ?_ pk_us ?_ ?_ ?_ ?_ ?_ ?_
      · simp (decide := true) only [Kt_some, Kt_none, V_ite, g_if, g_ss, g_1, g_2, g_cn, g_iok, g_sok, g_bok, g_jok, g_qok, g_ivl, g_jvl, g_qvl, g_ist, g_bst, g_jst, g_qst, g_aln, g_isa, g_dl1, g_dl2, g_dl3, g_dl4, g_dl5, g_dd, g_rfs, g_rfn, p_sm0, p_sm1, p_sm2, p_sm3, p_sm4, true_and, and_true, if_true, if_false, ↓reduceIte, Nat.reduceEqDiff, reduceCtorEq, or_true, true_or, and_self, Int32.reduceLT, Int32.reduceAdd, Int32.reduceSub, Int32.reduceToNatClampNeg, not_false_eq_true, not_true_eq_false]
        rfl
      · simp (decide := true) only [Kt_some, Kt_none, V_ite, g_if, g_ss, g_1, g_2, g_cn, g_iok, g_sok, g_bok, g_jok, g_qok, g_ivl, g_jvl, g_qvl, g_ist, g_bst, g_jst, g_qst, g_aln, g_isa, g_dl1, g_dl2, g_dl3, g_dl4, g_dl5, g_dd, g_rfs, g_rfn, p_sm0, p_sm1, p_sm2, p_sm3, p_sm4, true_and, and_true, if_true, if_false, ↓reduceIte, Nat.reduceEqDiff, reduceCtorEq, or_true, true_or, and_self, Int32.reduceLT, Int32.reduceAdd, Int32.reduceSub, Int32.reduceToNatClampNeg, not_false_eq_true, not_true_eq_false]
      · obtain ⟨fq, q1, -⟩ := s3
        exact ⟨fq, by rw [g_ne (by omega)]; exact q1⟩
      · obtain ⟨fs, q1, -⟩ := s4
        exact ⟨fs, by rw [g_ne (by omega)]; exact q1⟩
      · exact ⟨g, by rw [g_ne (by omega)]; exact h30⟩
      · exact IA_st h31 (by omega)
      · exact GR_st (GR_rf qa sa h) (by omega)
    · have hfd : fd n H nb c = false := by unfold fd; rw [hz]; simp [ht]
      have e2 : (nI (sB c + 1) = nI (n - 1)) = False := eq_false (fun q => ht (by have := (nI_eq (by omega) (by omega)).mp q; omega))
      have hrz := hz
      unfold rz at hrz
      simp only [Bool.and_eq_true, decide_eq_true_eq] at hrz
      have hcan : can n H nb nc cc c 0 = true := by unfold can; rw [if_pos rfl]; exact hz
      have hvn := VC_nxt f2 f3 f6 hv hcan (fun q => ht q.2)
      obtain ⟨b1, b2, b3⟩ := sb4 c
      simp (decide := true) only [e46_0, e46_0n, e46_1, e46_2, e46_5, e46_6, e46_9, e46_10, e46_13, e46_16, e46_19, e46_20, e46_21, e46_22, e46_25, e46_26, e46_27, e46_27n, e46_28, e46_31, e46_34, e46_35, e46_36, e46_37, e46_40, e46_43, e46_44, e46_45, e46_46, e46_47, e46_50, e46_51, e46_54, e46_55, e46_58, e46_59, e46_62, e46_63, e46_64, e46_65, e46_68, e46_69, m46, ok_8_2_8, fv14_2, ok_8_9_8, fv14_9, ok_8_11_8, fv14_11, ok_8_1_8, fs14_1, ok_8_10_8, fv14_10, ok_8_8_8, fv14_8, Kt_some, Kt_none, V_ite, g_if, g_ss, g_1, g_2, g_cn, g_iok, g_sok, g_bok, g_jok, g_qok, g_ivl, g_jvl, g_qvl, g_ist, g_bst, g_jst, g_qst, g_aln, g_isa, g_dl1, g_dl2, g_dl3, g_dl4, g_dl5, g_dd, g_rfs, g_rfn, p_sm0, p_sm1, p_sm2, p_sm3, p_sm4, true_and, and_true, if_true, if_false, ↓reduceIte, Nat.reduceEqDiff, reduceCtorEq, or_true, true_or, and_self, Int32.reduceLT, Int32.reduceAdd, Int32.reduceSub, Int32.reduceToNatClampNeg, not_false_eq_true, not_true_eq_false, s1, x4, x5, x6, x7, h4, hr, hz, nI_1, c54 h4, e1, e2]
      refine c44 (a := 0) hS f9 f7 f8 h30 (by omega) (by omega) (hg 1 (by omega)) (hg 2 (by omega)) (hg 3 (by omega)) (sW_lt _ _ (by omega)) (sW_lt _ _ (by omega)) (sW_lt _ _ (by omega)) b1 b2 (by omega) x3 hf (by omega) (fun q => QV_cap f2 f3 f6 hq hvn q) (QV_len f2 f3 f6 hq) (fun h2 q1 q2 q3 => ?_)
      have q4 := EV_fr hx h4 h5 ⟨g, h30, hg⟩ h31 hF q1 q3
      simp (decide := true) only [e46_0, e46_0n, e46_1, e46_2, e46_5, e46_6, e46_9, e46_10, e46_13, e46_16, e46_19, e46_20, e46_21, e46_22, e46_25, e46_26, e46_27, e46_27n, e46_28, e46_31, e46_34, e46_35, e46_36, e46_37, e46_40, e46_43, e46_44, e46_45, e46_46, e46_47, e46_50, e46_51, e46_54, e46_55, e46_58, e46_59, e46_62, e46_63, e46_64, e46_65, e46_68, e46_69, m46, ok_8_2_8, fv14_2, ok_8_9_8, fv14_9, ok_8_11_8, fv14_11, ok_8_1_8, fs14_1, ok_8_10_8, fv14_10, ok_8_8_8, fv14_8, Kt_some, Kt_none, V_ite, g_if, g_ss, g_1, g_2, g_cn, g_iok, g_sok, g_bok, g_jok, g_qok, g_ivl, g_jvl, g_qvl, g_ist, g_bst, g_jst, g_qst, g_aln, g_isa, g_dl1, g_dl2, g_dl3, g_dl4, g_dl5, g_dd, g_rfs, g_rfn, p_sm0, p_sm1, p_sm2, p_sm3, p_sm4, true_and, and_true, if_true, if_false, ↓reduceIte, Nat.reduceEqDiff, reduceCtorEq, or_true, true_or, and_self, Int32.reduceLT, Int32.reduceAdd, Int32.reduceSub, Int32.reduceToNatClampNeg, not_false_eq_true, not_true_eq_false]
      refine hN hfd h2 ?_ q2
      unfold xs
      rw [if_pos hcan]
      exact q4
  · have hfd : fd n H nb c = false := by unfold fd; rw [Bool.not_eq_true] at hz; rw [hz]; rfl
    simp (decide := true) only [e46_0, e46_0n, e46_1, e46_2, e46_5, e46_6, e46_9, e46_10, e46_13, e46_16, e46_19, e46_20, e46_21, e46_22, e46_25, e46_26, e46_27, e46_27n, e46_28, e46_31, e46_34, e46_35, e46_36, e46_37, e46_40, e46_43, e46_44, e46_45, e46_46, e46_47, e46_50, e46_51, e46_54, e46_55, e46_58, e46_59, e46_62, e46_63, e46_64, e46_65, e46_68, e46_69, m46, ok_8_2_8, fv14_2, ok_8_9_8, fv14_9, ok_8_11_8, fv14_11, ok_8_1_8, fs14_1, ok_8_10_8, fv14_10, ok_8_8_8, fv14_8, Kt_some, Kt_none, V_ite, g_if, g_ss, g_1, g_2, g_cn, g_iok, g_sok, g_bok, g_jok, g_qok, g_ivl, g_jvl, g_qvl, g_ist, g_bst, g_jst, g_qst, g_aln, g_isa, g_dl1, g_dl2, g_dl3, g_dl4, g_dl5, g_dd, g_rfs, g_rfn, p_sm0, p_sm1, p_sm2, p_sm3, p_sm4, true_and, and_true, if_true, if_false, ↓reduceIte, Nat.reduceEqDiff, reduceCtorEq, or_true, true_or, and_self, Int32.reduceLT, Int32.reduceAdd, Int32.reduceSub, Int32.reduceToNatClampNeg, not_false_eq_true, not_true_eq_false, s1, x5, x7, h4, hr, hz]
    refine hN hfd h ?_ (GR_rf qa sa h)
    have : xs n H nb nc cc L c f 0 = L := by
      unfold xs can
      rw [if_pos rfl, if_neg hz]
    rw [this]
    exact ⟨x, hS, hx, h4, h5, ⟨g, h30, hg⟩, h31⟩
/-- one act whose row stands at r -/
theorem reachA {r a : Nat} {w : Nat → Nat} {ld cp bp : Nat} {g2 : Nat → Int32} (hF : SF n H nb nc cc qa sa) (hE : EV n H nb nc cc c f qa sa L h) (hq : QV n H cc L) (hv : VC n H cc c) (hf : f ≤ 31) (hr : p_get h r = some (aI 4 g2)) (hr57 : r < 57) (hr29 : r ≠ 29) (hg : ∀ i, 1 ≤ i → i < 4 → g2 i = nI (w i)) (ha : a ≤ 31) (hcan : can n H nb nc cc c a = true) (ha0 : a ≠ 0) (hnx : nxt H c a = mkc w ld cp bp) (hw : ∀ i, 1 ≤ i → i < 4 → w i < 8) (hl : ld < 8) (hc : cp < 4) (hb : bp < 4) (hN : ∀ h2, EV n H nb nc cc c f qa sa (xs n H nb nc cc L c f a) h2 → QV n H cc (xs n H nb nc cc L c f a) → GR qa sa h h2 → (∀ k, k ≠ 29 → k ≠ qa → k ≠ sa → p_get h2 k = p_get h k) → K none h2) : Vm 44 [.ref 29, .ref r, .int (nI ld), .int (nI cp), .int (nI bp), .int (nI a)] h K := by
  obtain ⟨x, hS, hx, h4, h5, h30, h31⟩ := hE
  obtain ⟨x0, x1, x3, x4, x5, x6, x7, x8, x9⟩ := id hx
  obtain ⟨f1, f2, f3, f4, f5, f6, f7, f8, f9⟩ := id hF
  have hvn := VC_nxt f2 f3 f6 hv hcan (fun q => ha0 q.1)
  rw [hnx] at hvn
  refine c44 hS f9 f7 f8 hr hr57 hr29 (hg 1 (by omega) (by omega)) (hg 2 (by omega) (by omega)) (hg 3 (by omega) (by omega)) (hw 1 (by omega) (by omega)) (hw 2 (by omega) (by omega)) (hw 3 (by omega) (by omega)) hl hc hb x3 hf ha (fun q => QV_cap f2 f3 f6 hq hvn q) (QV_len f2 f3 f6 hq) (fun h2 q1 q2 q3 => ?_)
  have e : xs n H nb nc cc L c f a = ins L (mkc w ld cp bp) (fa f a) := by
    unfold xs
    rw [if_pos hcan, hnx]
  refine hN h2 ?_ ?_ q2 q3
  · rw [e]
    exact EV_fr hx h4 h5 h30 h31 hF q1 q3
  · exact QV_xs f2 f3 f6 hq hv hf ha (fun q => ha0 q.1)
theorem xs_no {a : Nat} (hc : ¬ can n H nb nc cc c a = true) : xs n H nb nc cc L c f a = L := by unfold xs; rw [if_neg hc]
/-- tryCarrierMoves -/
theorem c47 (hF : SF n H nb nc cc qa sa) (hE : EV n H nb nc cc c f qa sa L h) (hq : QV n H cc L) (hv : VC n H cc c) (hf : f ≤ 31)
    (hN : ∀ h2, EV n H nb nc cc c f qa sa (xs n H nb nc cc (xs n H nb nc cc L c f 1) c f 2) h2 → QV n H cc (xs n H nb nc cc (xs n H nb nc cc L c f 1) c f 2) → GR qa sa h h2 → K none h2) : Vm 47 [.ref 29, .ref 4] h K := by
  obtain ⟨f1, f2, f3, f4, f5, f6, f7, f8, f9⟩ := id hF
  obtain ⟨v1, v2, v3, v4, v5, v6⟩ := id hv
  obtain ⟨b1, b2, b3⟩ := sb4 c
  have hw := sW_b hF hv
  have hw8 : ∀ i, 1 ≤ i → i < 4 → sW (H 0) c i < 8 := fun i h1 _ => sW_lt _ _ h1
  have k2 : ∀ (L2 : List Nat) (h2 : pH), EV n H nb nc cc c f qa sa L2 h2 → QV n H cc L2 → GR qa sa h h2 → L2 = xs n H nb nc cc L c f 1 → V 47 42 [some (.ref 29), some (.ref 4)] [] h2 K := by
    intro L2 h2 hE2 hq2 hG hL2
    subst hL2
    obtain ⟨x, hS, hx, h4, h5, ⟨g, h30, hg⟩, h31⟩ := id hE2
    obtain ⟨s1, -⟩ := id hS
    obtain ⟨x0, x1, x3, x4, x5, x6, x7, x8, x9⟩ := id hx
    by_cases hl : sL c = 0
    · have e1 : (nI (sL c) = 0) = True := eq_true (by rw [hl]; rfl)
      by_cases hc : 0 < sC c
      · have e2 : (0 < nI (sC c)) = True := nI_T (a := 0) hc (by omega)
        have hcan : can n H nb nc cc c 2 = true := by unfold can; simp [hl, hc]
        simp (decide := true) only [e47_0, e47_0n, e47_1, e47_2, e47_5, e47_6, e47_9, e47_10, e47_13, e47_16, e47_19, e47_20, e47_21, e47_24, e47_25, e47_28, e47_29, e47_32, e47_33, e47_34, e47_35, e47_38, e47_39, e47_42, e47_43, e47_46, e47_49, e47_50, e47_53, e47_56, e47_57, e47_58, e47_61, e47_62, e47_63, e47_64, e47_67, e47_68, e47_71, m47, ok_8_2_8, fv14_2, ok_8_8_8, fv14_8, ok_8_12_8, fv14_12, ok_8_10_8, fv14_10, ok_8_9_8, fv14_9, Kt_some, Kt_none, V_ite, g_if, g_ss, g_1, g_2, g_cn, g_iok, g_sok, g_bok, g_jok, g_qok, g_ivl, g_jvl, g_qvl, g_ist, g_bst, g_jst, g_qst, g_aln, g_isa, g_dl1, g_dl2, g_dl3, g_dl4, g_dl5, g_dd, g_rfs, g_rfn, p_sm0, p_sm1, p_sm2, p_sm3, p_sm4, true_and, and_true, if_true, if_false, ↓reduceIte, Nat.reduceEqDiff, reduceCtorEq, or_true, true_or, and_self, Int32.reduceLT, Int32.reduceAdd, Int32.reduceSub, Int32.reduceToNatClampNeg, not_false_eq_true, not_true_eq_false, s1, x4, x5, x6, e1, e2]
        refine reachA (r := 30) (a := 2) (w := sW (H 0) c) (ld := 0) (cp := 0) (bp := sB c) hF hE2 hq2 hv hf h30 (by omega) (by omega) (fun i _ hi => hg i hi) (by omega) hcan (by omega) rfl hw8 (by omega) (by omega) b3 (fun h3 q1 q2 q3 q4 => ?_)
        simp (decide := true) only [e47_0, e47_0n, e47_1, e47_2, e47_5, e47_6, e47_9, e47_10, e47_13, e47_16, e47_19, e47_20, e47_21, e47_24, e47_25, e47_28, e47_29, e47_32, e47_33, e47_34, e47_35, e47_38, e47_39, e47_42, e47_43, e47_46, e47_49, e47_50, e47_53, e47_56, e47_57, e47_58, e47_61, e47_62, e47_63, e47_64, e47_67, e47_68, e47_71, m47, ok_8_2_8, fv14_2, ok_8_8_8, fv14_8, ok_8_12_8, fv14_12, ok_8_10_8, fv14_10, ok_8_9_8, fv14_9, Kt_some, Kt_none, V_ite, g_if, g_ss, g_1, g_2, g_cn, g_iok, g_sok, g_bok, g_jok, g_qok, g_ivl, g_jvl, g_qvl, g_ist, g_bst, g_jst, g_qst, g_aln, g_isa, g_dl1, g_dl2, g_dl3, g_dl4, g_dl5, g_dd, g_rfs, g_rfn, p_sm0, p_sm1, p_sm2, p_sm3, p_sm4, true_and, and_true, if_true, if_false, ↓reduceIte, Nat.reduceEqDiff, reduceCtorEq, or_true, true_or, and_self, Int32.reduceLT, Int32.reduceAdd, Int32.reduceSub, Int32.reduceToNatClampNeg, not_false_eq_true, not_true_eq_false]
        exact hN h3 q1 q2 (GR_tr hG q3)
      · have e2 : (0 < nI (sC c)) = False := nI_F (a := 0) (b := sC c) (by omega) (by omega)
        have hcan : ¬ can n H nb nc cc c 2 = true := by unfold can; simp [hc]
        rw [xs_no hcan] at hN
        simp (decide := true) only [e47_0, e47_0n, e47_1, e47_2, e47_5, e47_6, e47_9, e47_10, e47_13, e47_16, e47_19, e47_20, e47_21, e47_24, e47_25, e47_28, e47_29, e47_32, e47_33, e47_34, e47_35, e47_38, e47_39, e47_42, e47_43, e47_46, e47_49, e47_50, e47_53, e47_56, e47_57, e47_58, e47_61, e47_62, e47_63, e47_64, e47_67, e47_68, e47_71, m47, ok_8_2_8, fv14_2, ok_8_8_8, fv14_8, ok_8_12_8, fv14_12, ok_8_10_8, fv14_10, ok_8_9_8, fv14_9, Kt_some, Kt_none, V_ite, g_if, g_ss, g_1, g_2, g_cn, g_iok, g_sok, g_bok, g_jok, g_qok, g_ivl, g_jvl, g_qvl, g_ist, g_bst, g_jst, g_qst, g_aln, g_isa, g_dl1, g_dl2, g_dl3, g_dl4, g_dl5, g_dd, g_rfs, g_rfn, p_sm0, p_sm1, p_sm2, p_sm3, p_sm4, true_and, and_true, if_true, if_false, ↓reduceIte, Nat.reduceEqDiff, reduceCtorEq, or_true, true_or, and_self, Int32.reduceLT, Int32.reduceAdd, Int32.reduceSub, Int32.reduceToNatClampNeg, not_false_eq_true, not_true_eq_false, s1, x4, x5, x6, e1, e2]
        exact hN h2 hE2 hq2 hG
    · have e1 : (nI (sL c) = 0) = False := eq_false (nI_ne0 (by omega) (by omega))
      have hcan : ¬ can n H nb nc cc c 2 = true := by unfold can; simp [hl]
      rw [xs_no hcan] at hN
      simp (decide := true) only [e47_0, e47_0n, e47_1, e47_2, e47_5, e47_6, e47_9, e47_10, e47_13, e47_16, e47_19, e47_20, e47_21, e47_24, e47_25, e47_28, e47_29, e47_32, e47_33, e47_34, e47_35, e47_38, e47_39, e47_42, e47_43, e47_46, e47_49, e47_50, e47_53, e47_56, e47_57, e47_58, e47_61, e47_62, e47_63, e47_64, e47_67, e47_68, e47_71, m47, ok_8_2_8, fv14_2, ok_8_8_8, fv14_8, ok_8_12_8, fv14_12, ok_8_10_8, fv14_10, ok_8_9_8, fv14_9, Kt_some, Kt_none, V_ite, g_if, g_ss, g_1, g_2, g_cn, g_iok, g_sok, g_bok, g_jok, g_qok, g_ivl, g_jvl, g_qvl, g_ist, g_bst, g_jst, g_qst, g_aln, g_isa, g_dl1, g_dl2, g_dl3, g_dl4, g_dl5, g_dd, g_rfs, g_rfn, p_sm0, p_sm1, p_sm2, p_sm3, p_sm4, true_and, and_true, if_true, if_false, ↓reduceIte, Nat.reduceEqDiff, reduceCtorEq, or_true, true_or, and_self, Int32.reduceLT, Int32.reduceAdd, Int32.reduceSub, Int32.reduceToNatClampNeg, not_false_eq_true, not_true_eq_false, s1, x4, x5, x6, e1]
      exact hN h2 hE2 hq2 hG
  obtain ⟨x, hS, hx, h4, h5, ⟨g, h30, hg⟩, h31⟩ := id hE
  obtain ⟨s1, -⟩ := id hS
  obtain ⟨x0, x1, x3, x4, x5, x6, x7, x8, x9⟩ := id hx
  have hr := fun Q => c58z (Q := Q) (k := nc) h4 h30 (show sC c < n by omega) f2 hg hw (by omega)
  by_cases hz : rz n (sW (H 0) c) (sC c) nc = true
  · have hcan : can n H nb nc cc c 1 = true := by unfold can; simp [hz]
    have hrz := hz
    unfold rz at hrz
    simp only [Bool.and_eq_true, decide_eq_true_eq] at hrz
    simp (decide := true) only [e47_0, e47_0n, e47_1, e47_2, e47_5, e47_6, e47_9, e47_10, e47_13, e47_16, e47_19, e47_20, e47_21, e47_24, e47_25, e47_28, e47_29, e47_32, e47_33, e47_34, e47_35, e47_38, e47_39, e47_43, e47_46, e47_49, e47_50, e47_53, e47_56, e47_57, e47_58, e47_61, e47_62, e47_63, e47_64, e47_67, e47_68, e47_71, m47, ok_8_2_8, fv14_2, ok_8_8_8, fv14_8, ok_8_12_8, fv14_12, ok_8_10_8, fv14_10, ok_8_9_8, fv14_9, Kt_some, Kt_none, V_ite, g_if, g_ss, g_1, g_2, g_cn, g_iok, g_sok, g_bok, g_jok, g_qok, g_ivl, g_jvl, g_qvl, g_ist, g_bst, g_jst, g_qst, g_aln, g_isa, g_dl1, g_dl2, g_dl3, g_dl4, g_dl5, g_dd, g_rfs, g_rfn, p_sm0, p_sm1, p_sm2, p_sm3, p_sm4, true_and, and_true, if_true, if_false, ↓reduceIte, Nat.reduceEqDiff, reduceCtorEq, or_true, true_or, and_self, Int32.reduceLT, Int32.reduceAdd, Int32.reduceSub, Int32.reduceToNatClampNeg, not_false_eq_true, not_true_eq_false, s1, x4, x5, x6, x8, h4, hr, hz, nI_1]
    refine reachA (r := 30) (a := 1) (w := sW (H 0) c) (ld := sL c) (cp := sC c + 1) (bp := sB c) hF hE hq hv hf h30 (by omega) (by omega) (fun i _ hi => hg i hi) (by omega) hcan (by omega) rfl hw8 b1 (by omega) b3 (fun h3 q1 q2 q3 q4 => ?_)
    simp (decide := true) only [e47_0, e47_0n, e47_1, e47_2, e47_5, e47_6, e47_9, e47_10, e47_13, e47_16, e47_19, e47_20, e47_21, e47_24, e47_25, e47_28, e47_29, e47_32, e47_33, e47_34, e47_35, e47_38, e47_39, e47_43, e47_46, e47_49, e47_50, e47_53, e47_56, e47_57, e47_58, e47_61, e47_62, e47_63, e47_64, e47_67, e47_68, e47_71, m47, ok_8_2_8, fv14_2, ok_8_8_8, fv14_8, ok_8_12_8, fv14_12, ok_8_10_8, fv14_10, ok_8_9_8, fv14_9, Kt_some, Kt_none, V_ite, g_if, g_ss, g_1, g_2, g_cn, g_iok, g_sok, g_bok, g_jok, g_qok, g_ivl, g_jvl, g_qvl, g_ist, g_bst, g_jst, g_qst, g_aln, g_isa, g_dl1, g_dl2, g_dl3, g_dl4, g_dl5, g_dd, g_rfs, g_rfn, p_sm0, p_sm1, p_sm2, p_sm3, p_sm4, true_and, and_true, if_true, if_false, ↓reduceIte, Nat.reduceEqDiff, reduceCtorEq, or_true, true_or, and_self, Int32.reduceLT, Int32.reduceAdd, Int32.reduceSub, Int32.reduceToNatClampNeg, not_false_eq_true, not_true_eq_false]
    exact k2 _ h3 q1 q2 q3 rfl
  · have hcan : ¬ can n H nb nc cc c 1 = true := by unfold can; simp [hz]
    simp (decide := true) only [e47_0, e47_0n, e47_1, e47_2, e47_5, e47_6, e47_9, e47_10, e47_13, e47_16, e47_19, e47_20, e47_21, e47_24, e47_25, e47_28, e47_29, e47_32, e47_33, e47_34, e47_35, e47_38, e47_39, e47_43, e47_46, e47_49, e47_50, e47_53, e47_56, e47_57, e47_58, e47_61, e47_62, e47_63, e47_64, e47_67, e47_68, e47_71, m47, ok_8_2_8, fv14_2, ok_8_8_8, fv14_8, ok_8_12_8, fv14_12, ok_8_10_8, fv14_10, ok_8_9_8, fv14_9, Kt_some, Kt_none, V_ite, g_if, g_ss, g_1, g_2, g_cn, g_iok, g_sok, g_bok, g_jok, g_qok, g_ivl, g_jvl, g_qvl, g_ist, g_bst, g_jst, g_qst, g_aln, g_isa, g_dl1, g_dl2, g_dl3, g_dl4, g_dl5, g_dd, g_rfs, g_rfn, p_sm0, p_sm1, p_sm2, p_sm3, p_sm4, true_and, and_true, if_true, if_false, ↓reduceIte, Nat.reduceEqDiff, reduceCtorEq, or_true, true_or, and_self, Int32.reduceLT, Int32.reduceAdd, Int32.reduceSub, Int32.reduceToNatClampNeg, not_false_eq_true, not_true_eq_false, s1, x4, x8, h4, hr, hz]
    exact k2 L h hE hq (GR_rf qa sa h) (xs_no hcan).symm
/-- pourInto -/
theorem c49 {a i : Nat} (hF : SF n H nb nc cc qa sa) (hE : EV n H nb nc cc c f qa sa L h) (hq : QV n H cc L) (hv : VC n H cc c) (hf : f ≤ 31) (hi : i < n) (ha : a ≤ 31) (ha0 : a ≠ 0) (hcan : can n H nb nc cc c a = true) (hnx : nxt H c a = mkc (qN H (sW (H 0) c) i (sL c)) 0 (sC c) (sB c))
    (hN : ∀ h2, EV n H nb nc cc c f qa sa (xs n H nb nc cc L c f a) h2 → QV n H cc (xs n H nb nc cc L c f a) → GR qa sa h h2 → K none h2) : Vm 49 [.ref 29, .ref 4, .int (nI i), .int (nI a)] h K := by
  obtain ⟨f1, f2, f3, f4, f5, f6, f7, f8, f9⟩ := id hF
  obtain ⟨v1, v2, v3, v4, v5, v6⟩ := id hv
  obtain ⟨b1, b2, b3⟩ := sb4 c
  obtain ⟨x, hS, hx, h4, ⟨fh, h5, hfh⟩, ⟨g, h30, hg⟩, ⟨g31, h31⟩⟩ := id hE
  obtain ⟨s1, s2, s3, s4⟩ := id hS
  obtain ⟨x0, x1, x3, x4, x5, x6, x7, x8, x9⟩ := id hx
  have hfill := fun Q => c60 (Q := Q) (h := p_set h 31 (aI 4 (jn g g31 4))) (s := 4) (p := 5) (q := 6) (r := 31) (k := nI (sL c)) (f := jn g g31 4) (fh := fh) (n := n) (i := i) (by simp (decide := true) only [Kt_some, Kt_none, V_ite, g_if, g_ss, g_1, g_2, g_cn, g_iok, g_sok, g_bok, g_jok, g_qok, g_ivl, g_jvl, g_qvl, g_ist, g_bst, g_jst, g_qst, g_aln, g_isa, g_dl1, g_dl2, g_dl3, g_dl4, g_dl5, g_dd, g_rfs, g_rfn, p_sm0, p_sm1, p_sm2, p_sm3, p_sm4, true_and, and_true, if_true, if_false, ↓reduceIte, Nat.reduceEqDiff, reduceCtorEq, or_true, true_or, and_self, Int32.reduceLT, Int32.reduceAdd, Int32.reduceSub, Int32.reduceToNatClampNeg, not_false_eq_true, not_true_eq_false, h4]) (by simp (decide := true) only [Kt_some, Kt_none, V_ite, g_if, g_ss, g_1, g_2, g_cn, g_iok, g_sok, g_bok, g_jok, g_qok, g_ivl, g_jvl, g_qvl, g_ist, g_bst, g_jst, g_qst, g_aln, g_isa, g_dl1, g_dl2, g_dl3, g_dl4, g_dl5, g_dd, g_rfs, g_rfn, p_sm0, p_sm1, p_sm2, p_sm3, p_sm4, true_and, and_true, if_true, if_false, ↓reduceIte, Nat.reduceEqDiff, reduceCtorEq, or_true, true_or, and_self, Int32.reduceLT, Int32.reduceAdd, Int32.reduceSub, Int32.reduceToNatClampNeg, not_false_eq_true, not_true_eq_false, h5]) (by simp (decide := true) only [Kt_some, Kt_none, V_ite, g_if, g_ss, g_1, g_2, g_cn, g_iok, g_sok, g_bok, g_jok, g_qok, g_ivl, g_jvl, g_qvl, g_ist, g_bst, g_jst, g_qst, g_aln, g_isa, g_dl1, g_dl2, g_dl3, g_dl4, g_dl5, g_dd, g_rfs, g_rfn, p_sm0, p_sm1, p_sm2, p_sm3, p_sm4, true_and, and_true, if_true, if_false, ↓reduceIte, Nat.reduceEqDiff, reduceCtorEq, or_true, true_or, and_self, Int32.reduceLT, Int32.reduceAdd, Int32.reduceSub, Int32.reduceToNatClampNeg, not_false_eq_true, not_true_eq_false]) (by decide) (by decide) f2 hi (by unfold jn; rw [if_pos (by omega), hg 0 (by omega), hfh 0 (by omega), sW_0])
  have hval := pw_q H fh i (jn g g31 4) (sW (H 0) c) (sL c) (by omega) (by omega) (fun j h1 h2 => ⟨hfh j (by omega), v2 j h1 (by omega), f3 j (by omega)⟩) (fun j hj => by unfold jn; rw [if_pos hj]; exact hg j hj)
  have hin := (qN_in H i (sW (H 0) c) (sL c) (fun j h1 h2 => v2 j h1 (by omega)))
  have hw8 : ∀ j, 1 ≤ j → j < 4 → qN H (sW (H 0) c) i (sL c) j < 8 := fun j h1 h2 => by
    by_cases hj : j ≤ i
    · have := hin.1 j h1 hj
      have := f3 j (by omega)
      omega
    · rw [hin.2 j (by omega)]; exact sW_lt _ _ h1
  simp (decide := true) only [e49_0, e49_1, e49_4, e49_5, e49_6, e49_9, e49_10, e49_11, e49_14, e49_14n, e49_15, e49_16, e49_19, e49_20, e49_21, e49_24, e49_27, e49_28, e49_29, e49_30, e49_33, e49_34, e49_35, e49_38, e49_39, e49_42, e49_43, e49_46, m49, ok_8_2_8, fv14_2, ok_8_3_8, fv14_3, ok_8_10_8, fv14_10, ok_8_8_8, fv14_8, ok_8_9_8, fv14_9, Kt_some, Kt_none, V_ite, g_if, g_ss, g_1, g_2, g_cn, g_iok, g_sok, g_bok, g_jok, g_qok, g_ivl, g_jvl, g_qvl, g_ist, g_bst, g_jst, g_qst, g_aln, g_isa, g_dl1, g_dl2, g_dl3, g_dl4, g_dl5, g_dd, g_rfs, g_rfn, p_sm0, p_sm1, p_sm2, p_sm3, p_sm4, true_and, and_true, if_true, if_false, ↓reduceIte, Nat.reduceEqDiff, reduceCtorEq, or_true, true_or, and_self, Int32.reduceLT, Int32.reduceAdd, Int32.reduceSub, Int32.reduceToNatClampNeg, not_false_eq_true, not_true_eq_false, s1, x4, x5, x6, h30, h31, p_aci, p_acv, cpy_0, show (4 : Int32).toNatClampNeg = 4 from rfl, show (0 : Int32).toNatClampNeg = 0 from rfl, Nat.zero_add, Nat.le_refl, jn_e, h4, hfill]
  have hE2 : EV n H nb nc cc c f qa sa L (p_set h 31 (aI 4 (pw fh (jn g g31 4) i (nI (sL c))).1)) := by
    refine ⟨x, ⟨?_, s2, ?_, ?_⟩, hx, ?_, ⟨fh, ?_, hfh⟩, ⟨g, ?_, hg⟩, ⟨_, g_eq⟩⟩
    · simp (decide := true) only [Kt_some, Kt_none, V_ite, g_if, g_ss, g_1, g_2, g_cn, g_iok, g_sok, g_bok, g_jok, g_qok, g_ivl, g_jvl, g_qvl, g_ist, g_bst, g_jst, g_qst, g_aln, g_isa, g_dl1, g_dl2, g_dl3, g_dl4, g_dl5, g_dd, g_rfs, g_rfn, p_sm0, p_sm1, p_sm2, p_sm3, p_sm4, true_and, and_true, if_true, if_false, ↓reduceIte, Nat.reduceEqDiff, reduceCtorEq, or_true, true_or, and_self, Int32.reduceLT, Int32.reduceAdd, Int32.reduceSub, Int32.reduceToNatClampNeg, not_false_eq_true, not_true_eq_false, s1]
    · obtain ⟨fq, q1, q2⟩ := s3
      exact ⟨fq, by rw [g_ne (by omega)]; exact q1, q2⟩
    · obtain ⟨fs, q1, q2⟩ := s4
      exact ⟨fs, by rw [g_ne (by omega)]; exact q1, q2⟩
    · simp (decide := true) only [Kt_some, Kt_none, V_ite, g_if, g_ss, g_1, g_2, g_cn, g_iok, g_sok, g_bok, g_jok, g_qok, g_ivl, g_jvl, g_qvl, g_ist, g_bst, g_jst, g_qst, g_aln, g_isa, g_dl1, g_dl2, g_dl3, g_dl4, g_dl5, g_dd, g_rfs, g_rfn, p_sm0, p_sm1, p_sm2, p_sm3, p_sm4, true_and, and_true, if_true, if_false, ↓reduceIte, Nat.reduceEqDiff, reduceCtorEq, or_true, true_or, and_self, Int32.reduceLT, Int32.reduceAdd, Int32.reduceSub, Int32.reduceToNatClampNeg, not_false_eq_true, not_true_eq_false, h4]
    · simp (decide := true) only [Kt_some, Kt_none, V_ite, g_if, g_ss, g_1, g_2, g_cn, g_iok, g_sok, g_bok, g_jok, g_qok, g_ivl, g_jvl, g_qvl, g_ist, g_bst, g_jst, g_qst, g_aln, g_isa, g_dl1, g_dl2, g_dl3, g_dl4, g_dl5, g_dd, g_rfs, g_rfn, p_sm0, p_sm1, p_sm2, p_sm3, p_sm4, true_and, and_true, if_true, if_false, ↓reduceIte, Nat.reduceEqDiff, reduceCtorEq, or_true, true_or, and_self, Int32.reduceLT, Int32.reduceAdd, Int32.reduceSub, Int32.reduceToNatClampNeg, not_false_eq_true, not_true_eq_false, h5]
    · simp (decide := true) only [Kt_some, Kt_none, V_ite, g_if, g_ss, g_1, g_2, g_cn, g_iok, g_sok, g_bok, g_jok, g_qok, g_ivl, g_jvl, g_qvl, g_ist, g_bst, g_jst, g_qst, g_aln, g_isa, g_dl1, g_dl2, g_dl3, g_dl4, g_dl5, g_dd, g_rfs, g_rfn, p_sm0, p_sm1, p_sm2, p_sm3, p_sm4, true_and, and_true, if_true, if_false, ↓reduceIte, Nat.reduceEqDiff, reduceCtorEq, or_true, true_or, and_self, Int32.reduceLT, Int32.reduceAdd, Int32.reduceSub, Int32.reduceToNatClampNeg, not_false_eq_true, not_true_eq_false, h30]
  refine reachA (r := 31) (a := a) (w := qN H (sW (H 0) c) i (sL c)) (ld := 0) (cp := sC c) (bp := sB c) hF hE2 hq hv hf g_eq (by omega) (by omega) (fun j _ hj => hval j hj) ha hcan ha0 hnx hw8 (by omega) b2 b3 (fun h3 q1 q2 q3 q4 => ?_)
  simp (decide := true) only [e49_0, e49_1, e49_4, e49_5, e49_6, e49_9, e49_10, e49_11, e49_14, e49_14n, e49_15, e49_16, e49_19, e49_20, e49_21, e49_24, e49_27, e49_28, e49_29, e49_30, e49_33, e49_34, e49_35, e49_38, e49_39, e49_42, e49_43, e49_46, m49, ok_8_2_8, fv14_2, ok_8_3_8, fv14_3, ok_8_10_8, fv14_10, ok_8_8_8, fv14_8, ok_8_9_8, fv14_9, Kt_some, Kt_none, V_ite, g_if, g_ss, g_1, g_2, g_cn, g_iok, g_sok, g_bok, g_jok, g_qok, g_ivl, g_jvl, g_qvl, g_ist, g_bst, g_jst, g_qst, g_aln, g_isa, g_dl1, g_dl2, g_dl3, g_dl4, g_dl5, g_dd, g_rfs, g_rfn, p_sm0, p_sm1, p_sm2, p_sm3, p_sm4, true_and, and_true, if_true, if_false, ↓reduceIte, Nat.reduceEqDiff, reduceCtorEq, or_true, true_or, and_self, Int32.reduceLT, Int32.reduceAdd, Int32.reduceSub, Int32.reduceToNatClampNeg, not_false_eq_true, not_true_eq_false]
  exact hN h3 q1 q2 (GR_tr (GR_st (GR_rf qa sa h) (by omega)) q3)
/-- tryPours -/
theorem c48 (hF : SF n H nb nc cc qa sa) (hE : EV n H nb nc cc c f qa sa L h) (hq : QV n H cc L) (hv : VC n H cc c) (hf : f ≤ 31)
    (hN : ∀ h2, EV n H nb nc cc c f qa sa (xs n H nb nc cc (xs n H nb nc cc L c f 3) c f 4) h2 → QV n H cc (xs n H nb nc cc (xs n H nb nc cc L c f 3) c f 4) → GR qa sa h h2 → K none h2) : Vm 48 [.ref 29, .ref 4] h K := by
  obtain ⟨f1, f2, f3, f4, f5, f6, f7, f8, f9⟩ := id hF
  obtain ⟨v1, v2, v3, v4, v5, v6⟩ := id hv
  obtain ⟨b1, b2, b3⟩ := sb4 c
  obtain ⟨x, hS, hx, h4, h5, h30, h31⟩ := id hE
  obtain ⟨s1, -⟩ := id hS
  obtain ⟨x0, x1, x3, x4, x5, x6, x7, x8, x9⟩ := id hx
  by_cases hl : 0 < sL c
  · have e1 : (0 < nI (sL c)) = True := nI_T (a := 0) hl (by omega)
    have hcan : can n H nb nc cc c 3 = true := by unfold can; simp [hl]
    simp (decide := true) only [e48_0, e48_1, e48_4, e48_7, e48_8, e48_8n, e48_9, e48_10, e48_13, e48_14, e48_17, e48_17n, e48_18, e48_19, e48_22, e48_23, e48_24, e48_27, e48_30, e48_31, e48_31n, e48_32, e48_33, e48_36, e48_37, e48_38, e48_39, e48_42, m48, ok_8_10_8, fv14_10, ok_8_8_8, fv14_8, Kt_some, Kt_none, V_ite, g_if, g_ss, g_1, g_2, g_cn, g_iok, g_sok, g_bok, g_jok, g_qok, g_ivl, g_jvl, g_qvl, g_ist, g_bst, g_jst, g_qst, g_aln, g_isa, g_dl1, g_dl2, g_dl3, g_dl4, g_dl5, g_dd, g_rfs, g_rfn, p_sm0, p_sm1, p_sm2, p_sm3, p_sm4, true_and, and_true, if_true, if_false, ↓reduceIte, Nat.reduceEqDiff, reduceCtorEq, or_true, true_or, and_self, Int32.reduceLT, Int32.reduceAdd, Int32.reduceSub, Int32.reduceToNatClampNeg, not_false_eq_true, not_true_eq_false, s1, x4, x6, e1]
    refine c49 (a := 3) hF hE hq hv hf v5 (by omega) (by omega) hcan rfl (fun h2 hE2 hq2 hG => ?_)
    obtain ⟨y, hS2, hy, k4, k5, k30, k31⟩ := id hE2
    obtain ⟨t1, -⟩ := id hS2
    obtain ⟨y0, y1, y3, y4, y5, y6, y7, y8, y9⟩ := id hy
    have r1 := nI_0F (a := sC c + 1) (by omega)
    by_cases hc : sC c + 1 < n
    · have r2 := nI_T (a := sC c + 1) (b := n) hc (by omega)
      have hcan4 : can n H nb nc cc c 4 = true := by unfold can; simp [hl, hc]
      simp (decide := true) only [e48_0, e48_1, e48_4, e48_7, e48_8, e48_8n, e48_9, e48_10, e48_13, e48_14, e48_17, e48_17n, e48_18, e48_19, e48_22, e48_23, e48_24, e48_27, e48_30, e48_31, e48_31n, e48_32, e48_33, e48_36, e48_37, e48_38, e48_39, e48_42, m48, ok_8_10_8, fv14_10, ok_8_8_8, fv14_8, Kt_some, Kt_none, V_ite, g_if, g_ss, g_1, g_2, g_cn, g_iok, g_sok, g_bok, g_jok, g_qok, g_ivl, g_jvl, g_qvl, g_ist, g_bst, g_jst, g_qst, g_aln, g_isa, g_dl1, g_dl2, g_dl3, g_dl4, g_dl5, g_dd, g_rfs, g_rfn, p_sm0, p_sm1, p_sm2, p_sm3, p_sm4, true_and, and_true, if_true, if_false, ↓reduceIte, Nat.reduceEqDiff, reduceCtorEq, or_true, true_or, and_self, Int32.reduceLT, Int32.reduceAdd, Int32.reduceSub, Int32.reduceToNatClampNeg, not_false_eq_true, not_true_eq_false, t1, y4, k4, nI_1, c53 k4, r1, r2]
      refine c49 (a := 4) hF hE2 hq2 hv hf hc (by omega) (by omega) hcan4 rfl (fun h3 hE3 hq3 hG3 => ?_)
      simp (decide := true) only [e48_0, e48_1, e48_4, e48_7, e48_8, e48_8n, e48_9, e48_10, e48_13, e48_14, e48_17, e48_17n, e48_18, e48_19, e48_22, e48_23, e48_24, e48_27, e48_30, e48_31, e48_31n, e48_32, e48_33, e48_36, e48_37, e48_38, e48_39, e48_42, m48, ok_8_10_8, fv14_10, ok_8_8_8, fv14_8, Kt_some, Kt_none, V_ite, g_if, g_ss, g_1, g_2, g_cn, g_iok, g_sok, g_bok, g_jok, g_qok, g_ivl, g_jvl, g_qvl, g_ist, g_bst, g_jst, g_qst, g_aln, g_isa, g_dl1, g_dl2, g_dl3, g_dl4, g_dl5, g_dd, g_rfs, g_rfn, p_sm0, p_sm1, p_sm2, p_sm3, p_sm4, true_and, and_true, if_true, if_false, ↓reduceIte, Nat.reduceEqDiff, reduceCtorEq, or_true, true_or, and_self, Int32.reduceLT, Int32.reduceAdd, Int32.reduceSub, Int32.reduceToNatClampNeg, not_false_eq_true, not_true_eq_false]
      exact hN h3 hE3 hq3 (GR_tr hG hG3)
    · have r2 := nI_F (a := sC c + 1) (b := n) (by omega) (by omega)
      have hcan4 : ¬ can n H nb nc cc c 4 = true := by unfold can; simp [hc]
      rw [xs_no hcan4] at hN
      simp (decide := true) only [e48_0, e48_1, e48_4, e48_7, e48_8, e48_8n, e48_9, e48_10, e48_13, e48_14, e48_17, e48_17n, e48_18, e48_19, e48_22, e48_23, e48_24, e48_27, e48_30, e48_31, e48_31n, e48_32, e48_33, e48_36, e48_37, e48_38, e48_39, e48_42, m48, ok_8_10_8, fv14_10, ok_8_8_8, fv14_8, Kt_some, Kt_none, V_ite, g_if, g_ss, g_1, g_2, g_cn, g_iok, g_sok, g_bok, g_jok, g_qok, g_ivl, g_jvl, g_qvl, g_ist, g_bst, g_jst, g_qst, g_aln, g_isa, g_dl1, g_dl2, g_dl3, g_dl4, g_dl5, g_dd, g_rfs, g_rfn, p_sm0, p_sm1, p_sm2, p_sm3, p_sm4, true_and, and_true, if_true, if_false, ↓reduceIte, Nat.reduceEqDiff, reduceCtorEq, or_true, true_or, and_self, Int32.reduceLT, Int32.reduceAdd, Int32.reduceSub, Int32.reduceToNatClampNeg, not_false_eq_true, not_true_eq_false, t1, y4, k4, nI_1, c53 k4, r1, r2]
      exact hN h2 hE2 hq2 hG
  · have e1 : (0 < nI (sL c)) = False := nI_F (a := 0) (b := sL c) (by omega) (by omega)
    have hcan3 : ¬ can n H nb nc cc c 3 = true := by unfold can; simp [hl]
    have hcan4 : ¬ can n H nb nc cc c 4 = true := by unfold can; simp [hl]
    rw [xs_no hcan4, xs_no hcan3] at hN
    simp (decide := true) only [e48_0, e48_1, e48_4, e48_7, e48_8, e48_8n, e48_9, e48_10, e48_13, e48_14, e48_17, e48_17n, e48_18, e48_19, e48_22, e48_23, e48_24, e48_27, e48_30, e48_31, e48_31n, e48_32, e48_33, e48_36, e48_37, e48_38, e48_39, e48_42, m48, ok_8_10_8, fv14_10, ok_8_8_8, fv14_8, Kt_some, Kt_none, V_ite, g_if, g_ss, g_1, g_2, g_cn, g_iok, g_sok, g_bok, g_jok, g_qok, g_ivl, g_jvl, g_qvl, g_ist, g_bst, g_jst, g_qst, g_aln, g_isa, g_dl1, g_dl2, g_dl3, g_dl4, g_dl5, g_dd, g_rfs, g_rfn, p_sm0, p_sm1, p_sm2, p_sm3, p_sm4, true_and, and_true, if_true, if_false, ↓reduceIte, Nat.reduceEqDiff, reduceCtorEq, or_true, true_or, and_self, Int32.reduceLT, Int32.reduceAdd, Int32.reduceSub, Int32.reduceToNatClampNeg, not_false_eq_true, not_true_eq_false, s1, x6, e1]
    exact hN h hE hq (GR_rf qa sa h)
/-- takes of 1 .. k buckets -/
def tk (n : Nat) (H : Nat → Nat) (nb nc cc : Nat) (L : List Nat) (c f : Nat) : Nat → List Nat
  | 0 => L
  | k + 1 => xs n H nb nc cc (tk n H nb nc cc L c f k) c f (k + 11)
theorem dN_0 (w : Nat → Nat) (p : Nat) : dN w p 0 = w := by
  unfold dN
  split
  · rfl
  · funext j
    by_cases hj : j = p
    · subst hj; rw [va_s]; omega
    · rw [va_n _ _ hj]
theorem l50 {l2v : Int32} {M : Nat} (hF : SF n H nb nc cc qa sa) (hv : VC n H cc c) (hf : f ≤ 31) (hM : M = min (sW (H 0) c (sC c)) (cc - sL c)) : ∀ (d k : Nat) (L2 : List Nat) (h : pH), k + d = M → EV n H nb nc cc c f qa sa L2 h → QV n H cc L2 → (∃ g, p_get h 31 = some (aI 4 g) ∧ ∀ i, i < 4 → g i = nI (dN (sW (H 0) c) (sC c) k i)) → L2 = tk n H nb nc cc L c f k → (∀ h2, EV n H nb nc cc c f qa sa (tk n H nb nc cc L c f M) h2 → QV n H cc (tk n H nb nc cc L c f M) → GR qa sa h h2 → K none h2) → V 50 38 [some (.ref 29), some (.ref 4), some (.int (nI M)), some (.int (nI (k + 1)))] [] h K := by
  obtain ⟨f1, f2, f3, f4, f5, f6, f7, f8, f9⟩ := id hF
  obtain ⟨v1, v2, v3, v4, v5, v6⟩ := id hv
  obtain ⟨b1, b2, b3⟩ := sb4 c
  have hwc := sW_b hF hv (sC c) b2
  intro d
  induction d with
  | zero =>
    intro k L2 h hk hE hq hg hL hN
    have e2 : k = M := by omega
    have e1 : (nI M < nI (k + 1)) = True := nI_T (by omega) (by omega)
    subst e2
    subst hL
    rw [e50_38]
    simp (decide := true) only [e50_0, e50_1, e50_4, e50_5, e50_8, e50_9, e50_10, e50_13, e50_14, e50_17, e50_18, e50_21, e50_22, e50_23, e50_26, e50_27, e50_28, e50_31, e50_32, e50_33, e50_36, e50_37, e50_39, e50_40, e50_43, e50_43n, e50_44, e50_45, e50_48, e50_49, e50_52, e50_53, e50_56, e50_57, e50_58, e50_61, e50_62, e50_65, e50_66, e50_67, e50_68, e50_71, e50_72, e50_75, e50_77, e50_78, e50_79, e50_82, e50_85, e50_88, m50, ok_8_2_8, fv14_2, ok_8_8_8, fv14_8, ok_8_13_8, fv14_13, ok_8_10_8, fv14_10, ok_8_3_8, fv14_3, ok_8_9_8, fv14_9, Kt_some, Kt_none, V_ite, g_if, g_ss, g_1, g_2, g_cn, g_iok, g_sok, g_bok, g_jok, g_qok, g_ivl, g_jvl, g_qvl, g_ist, g_bst, g_jst, g_qst, g_aln, g_isa, g_dl1, g_dl2, g_dl3, g_dl4, g_dl5, g_dd, g_rfs, g_rfn, p_sm0, p_sm1, p_sm2, p_sm3, p_sm4, true_and, and_true, if_true, if_false, ↓reduceIte, Nat.reduceEqDiff, reduceCtorEq, or_true, true_or, and_self, Int32.reduceLT, Int32.reduceAdd, Int32.reduceSub, Int32.reduceToNatClampNeg, not_false_eq_true, not_true_eq_false, e1]
    exact hN h hE hq (GR_rf qa sa h)
  | succ d ih =>
    intro k L2 h hk hE hq hg hL hN
    obtain ⟨g, h31, hg⟩ := hg
    have e1 : (nI M < nI (k + 1)) = False := nI_F (by omega) (by omega)
    obtain ⟨x, hS, hx, h4, h5, h30, -⟩ := id hE
    obtain ⟨s1, s2, s3, s4⟩ := id hS
    obtain ⟨x0, x1, x3, x4, x5, x6, x7, x8, x9⟩ := id hx
    have hdr := fun Q => c59 (Q := Q) (s := 4) (r := 31) (p := 5) (q := 6) (k := 1) (f := g) h4 h31 rfl v5 f2
    have hcan : can n H nb nc cc c (k + 11) = true := by
      unfold can
      simp only [show ¬ k + 11 = 0 by omega, show ¬ k + 11 = 1 by omega, show ¬ k + 11 = 2 by omega, show ¬ k + 11 = 3 by omega, show ¬ k + 11 = 4 by omega, if_false, Bool.and_eq_true, decide_eq_true_eq]
      refine ⟨⟨by omega, by omega⟩, by omega⟩
    have hnx : nxt H c (k + 11) = mkc (dN (sW (H 0) c) (sC c) (k + 1)) (sL c + (k + 1)) (sC c) (sB c) := by
      unfold nxt
      simp only [show ¬ k + 11 = 0 by omega, show ¬ k + 11 = 1 by omega, show ¬ k + 11 = 2 by omega, show ¬ k + 11 = 3 by omega, show ¬ k + 11 = 4 by omega, if_false, show k + 11 - 10 = k + 1 by omega]
    have hg2 : ∀ i, i < 4 → (if sC c = 0 then g else upd g (sC c) (g (sC c) - 1)) i = nI (dN (sW (H 0) c) (sC c) (k + 1) i) := by
      intro i hi
      have := hg i hi
      unfold dN at this ⊢
      by_cases h0 : sC c = 0
      · rw [if_pos h0] at this ⊢
        rw [if_pos h0]
        exact this
      · rw [if_neg h0] at this ⊢
        rw [if_neg h0]
        by_cases hj : i = sC c
        · subst hj
          rw [pk_us, va_s, this, va_s]
          rw [show (1 : Int32) = nI 1 from rfl, pk_sub (by omega)]
          congr 1
        · rw [pk_un hj, va_n _ _ hj]
          rw [va_n _ _ hj] at this
          exact this
    have hw8 : ∀ i, 1 ≤ i → i < 4 → dN (sW (H 0) c) (sC c) (k + 1) i < 8 := by
      intro i hi1 hi4
      have := sW_lt (H 0) c hi1
      unfold dN
      split
      · exact this
      · by_cases hj : i = sC c
        · subst hj; rw [va_s]; omega
        · rw [va_n _ _ hj]; exact this
    have r0 : nI (sL c) + nI (k + 1) = nI (sL c + (k + 1)) := nI_add _ _
    have r1 : 10 + nI (k + 1) = nI (k + 11) := by
      have := nI_add 10 (k + 1)
      rw [show 10 + (k + 1) = k + 11 by omega] at this
      exact this
    rw [e50_38]
    simp (decide := true) only [e50_0, e50_1, e50_4, e50_5, e50_8, e50_9, e50_10, e50_13, e50_14, e50_17, e50_18, e50_21, e50_22, e50_23, e50_26, e50_27, e50_28, e50_31, e50_32, e50_33, e50_36, e50_37, e50_39, e50_40, e50_43, e50_43n, e50_44, e50_45, e50_48, e50_49, e50_52, e50_53, e50_56, e50_57, e50_58, e50_61, e50_62, e50_65, e50_66, e50_67, e50_68, e50_71, e50_72, e50_75, e50_77, e50_78, e50_79, e50_82, e50_85, e50_88, m50, ok_8_2_8, fv14_2, ok_8_8_8, fv14_8, ok_8_13_8, fv14_13, ok_8_10_8, fv14_10, ok_8_3_8, fv14_3, ok_8_9_8, fv14_9, Kt_some, Kt_none, V_ite, g_if, g_ss, g_1, g_2, g_cn, g_iok, g_sok, g_bok, g_jok, g_qok, g_ivl, g_jvl, g_qvl, g_ist, g_bst, g_jst, g_qst, g_aln, g_isa, g_dl1, g_dl2, g_dl3, g_dl4, g_dl5, g_dd, g_rfs, g_rfn, p_sm0, p_sm1, p_sm2, p_sm3, p_sm4, true_and, and_true, if_true, if_false, ↓reduceIte, Nat.reduceEqDiff, reduceCtorEq, or_true, true_or, and_self, Int32.reduceLT, Int32.reduceAdd, Int32.reduceSub, Int32.reduceToNatClampNeg, not_false_eq_true, not_true_eq_false, e1, s1, x4, x5, x6, h4, hdr, r0, r1]
    have hE2 : EV n H nb nc cc c f qa sa L2 (p_set h 31 (aI 4 (if sC c = 0 then g else upd g (sC c) (g (sC c) - 1)))) := by
      refine ⟨x, ⟨?_, s2, ?_, ?_⟩, hx, ?_, ?_, ?_, ⟨_, g_eq⟩⟩
      · simp (decide := true) only [Kt_some, Kt_none, V_ite, g_if, g_ss, g_1, g_2, g_cn, g_iok, g_sok, g_bok, g_jok, g_qok, g_ivl, g_jvl, g_qvl, g_ist, g_bst, g_jst, g_qst, g_aln, g_isa, g_dl1, g_dl2, g_dl3, g_dl4, g_dl5, g_dd, g_rfs, g_rfn, p_sm0, p_sm1, p_sm2, p_sm3, p_sm4, true_and, and_true, if_true, if_false, ↓reduceIte, Nat.reduceEqDiff, reduceCtorEq, or_true, true_or, and_self, Int32.reduceLT, Int32.reduceAdd, Int32.reduceSub, Int32.reduceToNatClampNeg, not_false_eq_true, not_true_eq_false, s1]
      · obtain ⟨fq, q1, q2⟩ := s3
        exact ⟨fq, by rw [g_ne (by omega)]; exact q1, q2⟩
      · obtain ⟨fs, q1, q2⟩ := s4
        exact ⟨fs, by rw [g_ne (by omega)]; exact q1, q2⟩
      · simp (decide := true) only [Kt_some, Kt_none, V_ite, g_if, g_ss, g_1, g_2, g_cn, g_iok, g_sok, g_bok, g_jok, g_qok, g_ivl, g_jvl, g_qvl, g_ist, g_bst, g_jst, g_qst, g_aln, g_isa, g_dl1, g_dl2, g_dl3, g_dl4, g_dl5, g_dd, g_rfs, g_rfn, p_sm0, p_sm1, p_sm2, p_sm3, p_sm4, true_and, and_true, if_true, if_false, ↓reduceIte, Nat.reduceEqDiff, reduceCtorEq, or_true, true_or, and_self, Int32.reduceLT, Int32.reduceAdd, Int32.reduceSub, Int32.reduceToNatClampNeg, not_false_eq_true, not_true_eq_false, h4]
      · obtain ⟨fh, q1, q2⟩ := h5
        exact ⟨fh, by simp (decide := true) only [Kt_some, Kt_none, V_ite, g_if, g_ss, g_1, g_2, g_cn, g_iok, g_sok, g_bok, g_jok, g_qok, g_ivl, g_jvl, g_qvl, g_ist, g_bst, g_jst, g_qst, g_aln, g_isa, g_dl1, g_dl2, g_dl3, g_dl4, g_dl5, g_dd, g_rfs, g_rfn, p_sm0, p_sm1, p_sm2, p_sm3, p_sm4, true_and, and_true, if_true, if_false, ↓reduceIte, Nat.reduceEqDiff, reduceCtorEq, or_true, true_or, and_self, Int32.reduceLT, Int32.reduceAdd, Int32.reduceSub, Int32.reduceToNatClampNeg, not_false_eq_true, not_true_eq_false, q1], q2⟩
      · obtain ⟨g0, q1, q2⟩ := h30
        exact ⟨g0, by simp (decide := true) only [Kt_some, Kt_none, V_ite, g_if, g_ss, g_1, g_2, g_cn, g_iok, g_sok, g_bok, g_jok, g_qok, g_ivl, g_jvl, g_qvl, g_ist, g_bst, g_jst, g_qst, g_aln, g_isa, g_dl1, g_dl2, g_dl3, g_dl4, g_dl5, g_dd, g_rfs, g_rfn, p_sm0, p_sm1, p_sm2, p_sm3, p_sm4, true_and, and_true, if_true, if_false, ↓reduceIte, Nat.reduceEqDiff, reduceCtorEq, or_true, true_or, and_self, Int32.reduceLT, Int32.reduceAdd, Int32.reduceSub, Int32.reduceToNatClampNeg, not_false_eq_true, not_true_eq_false, q1], q2⟩
    refine reachA (r := 31) (a := k + 11) (w := dN (sW (H 0) c) (sC c) (k + 1)) (ld := sL c + (k + 1)) (cp := sC c) (bp := sB c) hF hE2 hq hv hf g_eq (by omega) (by omega) (fun j _ hj => hg2 j hj) (by omega) hcan (by omega) hnx hw8 (by omega) b2 b3 (fun h3 q1 q2 q3 q4 => ?_)
    simp (decide := true) only [e50_0, e50_1, e50_4, e50_5, e50_8, e50_9, e50_10, e50_13, e50_14, e50_17, e50_18, e50_21, e50_22, e50_23, e50_26, e50_27, e50_28, e50_31, e50_32, e50_33, e50_36, e50_37, e50_39, e50_40, e50_43, e50_43n, e50_44, e50_45, e50_48, e50_49, e50_52, e50_53, e50_56, e50_57, e50_58, e50_61, e50_62, e50_65, e50_66, e50_67, e50_68, e50_71, e50_72, e50_75, e50_77, e50_78, e50_79, e50_82, e50_85, e50_88, m50, ok_8_2_8, fv14_2, ok_8_8_8, fv14_8, ok_8_13_8, fv14_13, ok_8_10_8, fv14_10, ok_8_3_8, fv14_3, ok_8_9_8, fv14_9, Kt_some, Kt_none, V_ite, g_if, g_ss, g_1, g_2, g_cn, g_iok, g_sok, g_bok, g_jok, g_qok, g_ivl, g_jvl, g_qvl, g_ist, g_bst, g_jst, g_qst, g_aln, g_isa, g_dl1, g_dl2, g_dl3, g_dl4, g_dl5, g_dd, g_rfs, g_rfn, p_sm0, p_sm1, p_sm2, p_sm3, p_sm4, true_and, and_true, if_true, if_false, ↓reduceIte, Nat.reduceEqDiff, reduceCtorEq, or_true, true_or, and_self, Int32.reduceLT, Int32.reduceAdd, Int32.reduceSub, Int32.reduceToNatClampNeg, not_false_eq_true, not_true_eq_false, nI_1]
    refine ih (k + 1) _ h3 (by omega) q1 q2 ⟨_, ?_, hg2⟩ (by rw [hL]; rfl) (fun h5 r1 r2 r3 => hN h5 r1 r2 (GR_tr (GR_tr (GR_st (GR_rf qa sa h) (by omega)) q3) r3))
    rw [q4 31 (by omega) (by omega) (by omega)]
    exact g_eq
theorem tk_end (hv : VC n H cc c) (hcc : cc ≤ 6) : ∀ d, tk n H nb nc cc L c f (min (sW (H 0) c (sC c)) (cc - sL c) + d) = tk n H nb nc cc L c f (min (sW (H 0) c (sC c)) (cc - sL c))
  | 0 => rfl
  | d + 1 => by
    have hcan : ¬ can n H nb nc cc c (min (sW (H 0) c (sC c)) (cc - sL c) + d + 11) = true := by
      obtain ⟨-, -, -, v4, -⟩ := hv
      generalize hM : min (sW (H 0) c (sC c)) (cc - sL c) = M
      unfold can
      simp only [show ¬ M + d + 11 = 0 by omega, show ¬ M + d + 11 = 1 by omega, show ¬ M + d + 11 = 2 by omega, show ¬ M + d + 11 = 3 by omega, show ¬ M + d + 11 = 4 by omega, if_false, Bool.and_eq_true, decide_eq_true_eq]
      omega
    exact (xs_no hcan).trans (tk_end hv hcc d)
/-- tryTakes -/
theorem c50 (hF : SF n H nb nc cc qa sa) (hE : EV n H nb nc cc c f qa sa L h) (hq : QV n H cc L) (hv : VC n H cc c) (hf : f ≤ 31)
    (hN : ∀ h2, EV n H nb nc cc c f qa sa (tk n H nb nc cc L c f 6) h2 → QV n H cc (tk n H nb nc cc L c f 6) → GR qa sa h h2 → K none h2) : Vm 50 [.ref 29, .ref 4] h K := by
  obtain ⟨f1, f2, f3, f4, f5, f6, f7, f8, f9⟩ := id hF
  obtain ⟨v1, v2, v3, v4, v5, v6⟩ := id hv
  obtain ⟨b1, b2, b3⟩ := sb4 c
  have hwc := sW_b hF hv (sC c) b2
  obtain ⟨x, hS, hx, h4, h5, ⟨g, h30, hg⟩, ⟨g31, h31⟩⟩ := id hE
  obtain ⟨s1, s2, s3, s4⟩ := id hS
  obtain ⟨x0, x1, x3, x4, x5, x6, x7, x8, x9⟩ := id hx
  have vv := vp_T b2 (by omega)
  have cv := nI_c (a := sC c) (by omega)
  have e1 : nI cc - nI (sL c) = nI (cc - sL c) := pk_sub v4
  have e2 := mn_n (a := sW (H 0) c (sC c)) (b := cc - sL c) (by omega) (by omega)
  have hgc := hg (sC c) b2
  simp (decide := true) only [e50_0, e50_1, e50_4, e50_5, e50_8, e50_9, e50_10, e50_13, e50_14, e50_17, e50_18, e50_21, e50_22, e50_23, e50_26, e50_27, e50_28, e50_31, e50_32, e50_33, e50_36, e50_37, e50_39, e50_40, e50_43, e50_43n, e50_44, e50_45, e50_48, e50_49, e50_52, e50_53, e50_56, e50_57, e50_58, e50_61, e50_62, e50_65, e50_66, e50_67, e50_68, e50_71, e50_72, e50_75, e50_77, e50_78, e50_79, e50_82, e50_85, e50_88, m50, ok_8_2_8, fv14_2, ok_8_8_8, fv14_8, ok_8_13_8, fv14_13, ok_8_10_8, fv14_10, ok_8_3_8, fv14_3, ok_8_9_8, fv14_9, Kt_some, Kt_none, V_ite, g_if, g_ss, g_1, g_2, g_cn, g_iok, g_sok, g_bok, g_jok, g_qok, g_ivl, g_jvl, g_qvl, g_ist, g_bst, g_jst, g_qst, g_aln, g_isa, g_dl1, g_dl2, g_dl3, g_dl4, g_dl5, g_dd, g_rfs, g_rfn, p_sm0, p_sm1, p_sm2, p_sm3, p_sm4, true_and, and_true, if_true, if_false, ↓reduceIte, Nat.reduceEqDiff, reduceCtorEq, or_true, true_or, and_self, Int32.reduceLT, Int32.reduceAdd, Int32.reduceSub, Int32.reduceToNatClampNeg, not_false_eq_true, not_true_eq_false, s1, x4, x6, x9, h30, h31, vv, cv, hgc, e1, mn_e, e2, p_aci, p_acv, cpy_0, show (4 : Int32).toNatClampNeg = 4 from rfl, show (0 : Int32).toNatClampNeg = 0 from rfl, Nat.zero_add, Nat.le_refl, jn_e]
  have hE2 : EV n H nb nc cc c f qa sa L (p_set h 31 (aI 4 (jn g g31 4))) := by
    refine ⟨x, ⟨?_, s2, ?_, ?_⟩, hx, ?_, ?_, ⟨g, ?_, hg⟩, ⟨_, g_eq⟩⟩
    · simp (decide := true) only [Kt_some, Kt_none, V_ite, g_if, g_ss, g_1, g_2, g_cn, g_iok, g_sok, g_bok, g_jok, g_qok, g_ivl, g_jvl, g_qvl, g_ist, g_bst, g_jst, g_qst, g_aln, g_isa, g_dl1, g_dl2, g_dl3, g_dl4, g_dl5, g_dd, g_rfs, g_rfn, p_sm0, p_sm1, p_sm2, p_sm3, p_sm4, true_and, and_true, if_true, if_false, ↓reduceIte, Nat.reduceEqDiff, reduceCtorEq, or_true, true_or, and_self, Int32.reduceLT, Int32.reduceAdd, Int32.reduceSub, Int32.reduceToNatClampNeg, not_false_eq_true, not_true_eq_false, s1]
    · obtain ⟨fq, q1, q2⟩ := s3
      exact ⟨fq, by rw [g_ne (by omega)]; exact q1, q2⟩
    · obtain ⟨fs, q1, q2⟩ := s4
      exact ⟨fs, by rw [g_ne (by omega)]; exact q1, q2⟩
    · simp (decide := true) only [Kt_some, Kt_none, V_ite, g_if, g_ss, g_1, g_2, g_cn, g_iok, g_sok, g_bok, g_jok, g_qok, g_ivl, g_jvl, g_qvl, g_ist, g_bst, g_jst, g_qst, g_aln, g_isa, g_dl1, g_dl2, g_dl3, g_dl4, g_dl5, g_dd, g_rfs, g_rfn, p_sm0, p_sm1, p_sm2, p_sm3, p_sm4, true_and, and_true, if_true, if_false, ↓reduceIte, Nat.reduceEqDiff, reduceCtorEq, or_true, true_or, and_self, Int32.reduceLT, Int32.reduceAdd, Int32.reduceSub, Int32.reduceToNatClampNeg, not_false_eq_true, not_true_eq_false, h4]
    · obtain ⟨fh, q1, q2⟩ := h5
      exact ⟨fh, by simp (decide := true) only [Kt_some, Kt_none, V_ite, g_if, g_ss, g_1, g_2, g_cn, g_iok, g_sok, g_bok, g_jok, g_qok, g_ivl, g_jvl, g_qvl, g_ist, g_bst, g_jst, g_qst, g_aln, g_isa, g_dl1, g_dl2, g_dl3, g_dl4, g_dl5, g_dd, g_rfs, g_rfn, p_sm0, p_sm1, p_sm2, p_sm3, p_sm4, true_and, and_true, if_true, if_false, ↓reduceIte, Nat.reduceEqDiff, reduceCtorEq, or_true, true_or, and_self, Int32.reduceLT, Int32.reduceAdd, Int32.reduceSub, Int32.reduceToNatClampNeg, not_false_eq_true, not_true_eq_false, q1], q2⟩
    · simp (decide := true) only [Kt_some, Kt_none, V_ite, g_if, g_ss, g_1, g_2, g_cn, g_iok, g_sok, g_bok, g_jok, g_qok, g_ivl, g_jvl, g_qvl, g_ist, g_bst, g_jst, g_qst, g_aln, g_isa, g_dl1, g_dl2, g_dl3, g_dl4, g_dl5, g_dd, g_rfs, g_rfn, p_sm0, p_sm1, p_sm2, p_sm3, p_sm4, true_and, and_true, if_true, if_false, ↓reduceIte, Nat.reduceEqDiff, reduceCtorEq, or_true, true_or, and_self, Int32.reduceLT, Int32.reduceAdd, Int32.reduceSub, Int32.reduceToNatClampNeg, not_false_eq_true, not_true_eq_false, h30]
  have hle : min (sW (H 0) c (sC c)) (cc - sL c) ≤ 6 := by omega
  have ht := tk_end (n := n) (H := H) (nb := nb) (nc := nc) (L := L) (f := f) hv f6 (6 - min (sW (H 0) c (sC c)) (cc - sL c))
  rw [show min (sW (H 0) c (sC c)) (cc - sL c) + (6 - min (sW (H 0) c (sC c)) (cc - sL c)) = 6 by omega] at ht
  rw [ht] at hN
  refine l50 (L := L) (l2v := 0) hF hv hf rfl (min (sW (H 0) c (sC c)) (cc - sL c)) 0 L _ (by omega) hE2 hq ⟨_, g_eq, fun i hi => ?_⟩ rfl (fun h2 r1 r2 r3 => hN h2 r1 r2 (GR_tr (GR_st (GR_rf qa sa h) (by omega)) r3))
  rw [dN_0]
  unfold jn
  rw [if_pos hi]
  exact hg i hi
end S35
