section S37
variable {σ : pS} {h : pH} {K Q : Option Value → pH → Prop} {ad : Nat → Nat} {bt : Nat}
/-- all groups -/
def CC (σ : pS) (ad : Nat → Nat) (bt : Nat) (h : pH) : Prop := CA σ h ∧ CB σ ad bt h ∧ CM σ h ∧ CK σ h ∧ CJ h
theorem CC_29 {e : pE} (hc : CC σ ad bt h) : CC σ ad bt (p_set h 29 e) := by
  obtain ⟨⟨a1, a2, a3, a4, a5, a6, a7⟩, hB, hM, hKp, hJ⟩ := hc
  exact ⟨⟨by simp (decide := true) only [Kt_some, Kt_none, V_ite, g_if, g_ss, g_1, g_2, g_cn, g_iok, g_sok, g_bok, g_jok, g_qok, g_ivl, g_jvl, g_qvl, g_ist, g_bst, g_jst, g_qst, g_aln, g_isa, g_dl1, g_dl2, g_dl3, g_dl4, g_dl5, g_dd, g_rfs, g_rfn, p_sm0, p_sm1, p_sm2, p_sm3, p_sm4, true_and, and_true, if_true, if_false, ↓reduceIte, Nat.reduceEqDiff, reduceCtorEq, or_true, true_or, and_self, Int32.reduceLT, Int32.reduceAdd, Int32.reduceSub, Int32.reduceToNatClampNeg, not_false_eq_true, not_true_eq_false, a1], by simp (decide := true) only [Kt_some, Kt_none, V_ite, g_if, g_ss, g_1, g_2, g_cn, g_iok, g_sok, g_bok, g_jok, g_qok, g_ivl, g_jvl, g_qvl, g_ist, g_bst, g_jst, g_qst, g_aln, g_isa, g_dl1, g_dl2, g_dl3, g_dl4, g_dl5, g_dd, g_rfs, g_rfn, p_sm0, p_sm1, p_sm2, p_sm3, p_sm4, true_and, and_true, if_true, if_false, ↓reduceIte, Nat.reduceEqDiff, reduceCtorEq, or_true, true_or, and_self, Int32.reduceLT, Int32.reduceAdd, Int32.reduceSub, Int32.reduceToNatClampNeg, not_false_eq_true, not_true_eq_false, a2], by simp (decide := true) only [Kt_some, Kt_none, V_ite, g_if, g_ss, g_1, g_2, g_cn, g_iok, g_sok, g_bok, g_jok, g_qok, g_ivl, g_jvl, g_qvl, g_ist, g_bst, g_jst, g_qst, g_aln, g_isa, g_dl1, g_dl2, g_dl3, g_dl4, g_dl5, g_dd, g_rfs, g_rfn, p_sm0, p_sm1, p_sm2, p_sm3, p_sm4, true_and, and_true, if_true, if_false, ↓reduceIte, Nat.reduceEqDiff, reduceCtorEq, or_true, true_or, and_self, Int32.reduceLT, Int32.reduceAdd, Int32.reduceSub, Int32.reduceToNatClampNeg, not_false_eq_true, not_true_eq_false, a3], by simp (decide := true) only [Kt_some, Kt_none, V_ite, g_if, g_ss, g_1, g_2, g_cn, g_iok, g_sok, g_bok, g_jok, g_qok, g_ivl, g_jvl, g_qvl, g_ist, g_bst, g_jst, g_qst, g_aln, g_isa, g_dl1, g_dl2, g_dl3, g_dl4, g_dl5, g_dd, g_rfs, g_rfn, p_sm0, p_sm1, p_sm2, p_sm3, p_sm4, true_and, and_true, if_true, if_false, ↓reduceIte, Nat.reduceEqDiff, reduceCtorEq, or_true, true_or, and_self, Int32.reduceLT, Int32.reduceAdd, Int32.reduceSub, Int32.reduceToNatClampNeg, not_false_eq_true, not_true_eq_false, a4], by simp (decide := true) only [Kt_some, Kt_none, V_ite, g_if, g_ss, g_1, g_2, g_cn, g_iok, g_sok, g_bok, g_jok, g_qok, g_ivl, g_jvl, g_qvl, g_ist, g_bst, g_jst, g_qst, g_aln, g_isa, g_dl1, g_dl2, g_dl3, g_dl4, g_dl5, g_dd, g_rfs, g_rfn, p_sm0, p_sm1, p_sm2, p_sm3, p_sm4, true_and, and_true, if_true, if_false, ↓reduceIte, Nat.reduceEqDiff, reduceCtorEq, or_true, true_or, and_self, Int32.reduceLT, Int32.reduceAdd, Int32.reduceSub, Int32.reduceToNatClampNeg, not_false_eq_true, not_true_eq_false, a5], by simp (decide := true) only [Kt_some, Kt_none, V_ite, g_if, g_ss, g_1, g_2, g_cn, g_iok, g_sok, g_bok, g_jok, g_qok, g_ivl, g_jvl, g_qvl, g_ist, g_bst, g_jst, g_qst, g_aln, g_isa, g_dl1, g_dl2, g_dl3, g_dl4, g_dl5, g_dd, g_rfs, g_rfn, p_sm0, p_sm1, p_sm2, p_sm3, p_sm4, true_and, and_true, if_true, if_false, ↓reduceIte, Nat.reduceEqDiff, reduceCtorEq, or_true, true_or, and_self, Int32.reduceLT, Int32.reduceAdd, Int32.reduceSub, Int32.reduceToNatClampNeg, not_false_eq_true, not_true_eq_false, a6], by simp (decide := true) only [Kt_some, Kt_none, V_ite, g_if, g_ss, g_1, g_2, g_cn, g_iok, g_sok, g_bok, g_jok, g_qok, g_ivl, g_jvl, g_qvl, g_ist, g_bst, g_jst, g_qst, g_aln, g_isa, g_dl1, g_dl2, g_dl3, g_dl4, g_dl5, g_dd, g_rfs, g_rfn, p_sm0, p_sm1, p_sm2, p_sm3, p_sm4, true_and, and_true, if_true, if_false, ↓reduceIte, Nat.reduceEqDiff, reduceCtorEq, or_true, true_or, and_self, Int32.reduceLT, Int32.reduceAdd, Int32.reduceSub, Int32.reduceToNatClampNeg, not_false_eq_true, not_true_eq_false, a7]⟩, CB_st hB (by decide) (by decide), CM_st hM (by decide) (by decide), CK_st hKp (by decide), CJ_st hJ (by decide)⟩
theorem CC_nw {e : pE} {N : Nat} (hc : CC σ ad bt h) (hh : 57 ≤ h.1) : CC σ ad bt (p_new h e N) := ⟨CA_nw hc.1 hh, CB_nw hc.2.1 hh, CM_nw hc.2.2.1 hh, CK_nw hc.2.2.2.1 hh, CJ_nw hc.2.2.2.2 hh⟩
/-- groups over the search's own cells -/
theorem CC_GR {h2 : pH} {qa sa : Nat} {x y : Nat × Nat × ((Nat → Int32) ⊕ (Nat → Int64) ⊕ (Nat → Option Nat))} (hc : CC σ ad bt h) (hg : GR qa sa h h2) (hq : p_get h qa = some (.inl x)) (hs : p_get h sa = some (.inl y)) (h57q : 57 ≤ qa) (h57s : 57 ≤ sa) (h30 : IA h2 30 4) (h31 : IA h2 31 4) : CC σ ad bt h2 := by
  obtain ⟨⟨a1, a2, a3, a4, a5, a6, a7⟩, ⟨⟨f, b1, b2⟩, b3, b4⟩, ⟨⟨cs, m1⟩, m2⟩, ⟨k1, k2, ⟨cs2, k3⟩, k4, k5, k6⟩, ⟨j1, j2, j3, j4, j5, j6, j7, j8, j9, j10⟩⟩ := hc
  have fr : ∀ k, k < 57 → k ≠ 29 → k ≠ 30 → k ≠ 31 → p_get h2 k = p_get h k := fun k q1 q2 q3 q4 => hg.1 k q2 q3 q4 (by omega) (by omega)
  refine ⟨⟨?_, ?_, ?_, ?_, ?_, ?_, ?_⟩, ⟨⟨f, ?_, b2⟩, fun i hi => ?_, b4⟩, ⟨⟨cs, ?_⟩, ?_⟩, ⟨?_, ?_, ⟨cs2, ?_⟩, ?_, ?_, ?_⟩, ⟨?_, ?_, ?_, ?_, ?_, ?_, ?_, ?_, h30, h31⟩⟩
  · rw [fr 1 (by decide) (by decide) (by decide) (by decide)]; exact a1
  · rw [fr 2 (by decide) (by decide) (by decide) (by decide)]; exact a2
  · rw [fr 3 (by decide) (by decide) (by decide) (by decide)]; exact a3
  · rw [fr 4 (by decide) (by decide) (by decide) (by decide)]; exact a4
  · rw [fr 5 (by decide) (by decide) (by decide) (by decide)]; exact a5
  · rw [fr 6 (by decide) (by decide) (by decide) (by decide)]; exact a6
  · rw [fr 7 (by decide) (by decide) (by decide) (by decide)]; exact a7
  · rw [fr 9 (by decide) (by decide) (by decide) (by decide)]; exact b1
  · obtain ⟨q1, q2, q3⟩ := b3 i hi
    refine ⟨q1, by rw [hg.2.1]; exact q2, ?_⟩
    rw [hg.1 (ad i) (by omega) (by omega) (by omega) (fun r => ?_) (fun r => ?_)]
    · exact q3
    · rw [r, hq] at q3; cases q3
    · rw [r, hs] at q3; cases q3
  · rw [fr 10 (by decide) (by decide) (by decide) (by decide)]; exact m1
  · rw [fr 11 (by decide) (by decide) (by decide) (by decide)]; exact m2
  · rw [fr 16 (by decide) (by decide) (by decide) (by decide)]; exact k1
  · rw [fr 17 (by decide) (by decide) (by decide) (by decide)]; exact k2
  · rw [fr 18 (by decide) (by decide) (by decide) (by decide)]; exact k3
  · rw [fr 19 (by decide) (by decide) (by decide) (by decide)]; exact k4
  · rw [fr 24 (by decide) (by decide) (by decide) (by decide)]; exact k5
  · rw [fr 25 (by decide) (by decide) (by decide) (by decide)]; exact k6
  · unfold IA; rw [fr 8 (by decide) (by decide) (by decide) (by decide)]; exact j1
  · unfold IA; rw [fr 12 (by decide) (by decide) (by decide) (by decide)]; exact j2
  · unfold IZ; rw [fr 13 (by decide) (by decide) (by decide) (by decide)]; exact j3
  · unfold IA; rw [fr 14 (by decide) (by decide) (by decide) (by decide)]; exact j4
  · unfold IA; rw [fr 15 (by decide) (by decide) (by decide) (by decide)]; exact j5
  · rw [fr 26 (by decide) (by decide) (by decide) (by decide)]; exact j6
  · unfold JA; rw [fr 27 (by decide) (by decide) (by decide) (by decide)]; exact j7
  · unfold JA; rw [fr 28 (by decide) (by decide) (by decide) (by decide)]; exact j8
theorem MF_tr {h h2 h3 : pH} (a : MF h h2) (b : ∀ k, k = 0 ∨ (34 ≤ k ∧ k < 57) → p_get h3 k = p_get h2 k) (c : h3.1 = h2.1) (d : h3.2.1 = h2.2.1) : MF h h3 := ⟨fun k hk => (b k hk).trans (a.1 k hk), by rw [c]; exact a.2.1, by rw [c]; exact a.2.2.1, by rw [d]; exact a.2.2.2⟩
/-- makeRows -/
theorem c42 {qa sa : Nat} {x : Nat → Int32} (hh : 57 ≤ h.1) (hc : CC σ ad bt h) (h29 : p_get h 29 = some (oF qa sa x)) (hS : (qa = 32 ∧ sa = 33 ∧ IA h 32 0 ∧ JA h 33 0) ∨ (57 ≤ qa ∧ qa < h.1 ∧ 57 ≤ sa ∧ sa < h.1 ∧ IA h qa 18144 ∧ JA h sa 1024))
    (hK : ∀ (h2 : pH) (qa sa : Nat) (fs : Nat → Int64), CC σ ad bt h2 → p_get h2 29 = some (oF qa sa x) → 57 ≤ qa → qa < h2.1 → 57 ≤ sa → sa < h2.1 → qa ≠ sa → IA h2 qa 18144 → p_get h2 sa = some (aJ 1024 fs) → (∀ j, j < 1024 → fs j = 0) → MF h h2 → K none h2) : Vm 42 [.ref 29] h K := by
  rcases hS with ⟨rfl, rfl, ⟨f0, q1⟩, q2⟩ | ⟨q1, q2, q3, q4, ⟨fq, q5⟩, ⟨fs, q6⟩⟩
  · have n1 : (29 = h.1) = False := eq_false (by omega)
    have n2 : (29 = h.1 + 1) = False := eq_false (by omega)
    have n3 : (h.1 = 29) = False := eq_false (by omega)
    have n4 : (h.1 + 1 = 29) = False := eq_false (by omega)
    have n5 : (h.1 + 1 = h.1) = False := eq_false (by omega)
    have n6 : (h.1 = h.1 + 1) = False := eq_false (by omega)
    have hfill := fun (Q : Option Value → pH → Prop) (H2 : pH) (hr : p_get H2 (h.1 + 1) = some (aJ 1024 (fun _ => 0))) => c168 (Q := Q) (h := H2) (r := h.1 + 1) (n := 1024) (f := fun _ => 0) (x := 0) (by omega) hr
    simp (decide := true) only [e42_0, e42_1, e42_4, e42_5, e42_8, e42_9, e42_12, e42_14, e42_17, e42_18, e42_21, e42_23, e42_26, e42_27, e42_30, e42_31, e42_34, m42, ok_8_4_8, fv14_4, fs14_4, ok_8_5_8, fs14_5, fv14_5, Kt_some, Kt_none, V_ite, g_if, g_ss, g_1, g_2, g_cn, g_iok, g_sok, g_bok, g_jok, g_qok, g_ivl, g_jvl, g_qvl, g_ist, g_bst, g_jst, g_qst, g_aln, g_isa, g_dl1, g_dl2, g_dl3, g_dl4, g_dl5, g_dd, g_rfs, g_rfn, p_sm0, p_sm1, p_sm2, p_sm3, p_sm4, true_and, and_true, if_true, if_false, ↓reduceIte, Nat.reduceEqDiff, reduceCtorEq, or_true, true_or, and_self, Int32.reduceLT, Int32.reduceAdd, Int32.reduceSub, Int32.reduceToNatClampNeg, not_false_eq_true, not_true_eq_false, h29, q1, show (Int32.ofNat 0 = 0) = True from eq_true (by decide), g_nw, n_1, s_1, n1, n2, n3, n4, n5, n6, hfill]
    have hc2 : CC σ ad bt (p_set (p_new (p_set (p_new h (aI 18144 (fun _ => 0)) 18144) 29 (oF h.1 33 x)) (aJ 1024 (fun _ => 0)) 1024) 29 (oF h.1 (h.1 + 1) x)) := by
      refine CC_29 (CC_nw (CC_29 (CC_nw hc hh)) ?_)
      rw [s_1, n_1]
      omega
    have hfi : (fi (fun _ => (0 : Int64)) 0 1024) = (fun _ => 0) := by
      funext j
      unfold fi
      split <;> rfl
    rw [hfi]
    have hsm : p_set (p_set (p_new (p_set (p_new h (aI 18144 (fun _ => 0)) 18144) 29 (oF h.1 33 x)) (aJ 1024 (fun _ => 0)) 1024) 29 (oF h.1 (h.1 + 1) x)) (h.1 + 1) (aJ 1024 (fun _ => 0)) = p_set (p_new (p_set (p_new h (aI 18144 (fun _ => 0)) 18144) 29 (oF h.1 33 x)) (aJ 1024 (fun _ => 0)) 1024) 29 (oF h.1 (h.1 + 1) x) := by
      refine g_same ?_
      rw [g_ne (by omega), g_nw, if_pos (by rw [s_1, n_1])]
    have goal := hK _ h.1 (h.1 + 1) (fun _ => 0) hc2 (by simp (decide := true) only [Kt_some, Kt_none, V_ite, g_if, g_ss, g_1, g_2, g_cn, g_iok, g_sok, g_bok, g_jok, g_qok, g_ivl, g_jvl, g_qvl, g_ist, g_bst, g_jst, g_qst, g_aln, g_isa, g_dl1, g_dl2, g_dl3, g_dl4, g_dl5, g_dd, g_rfs, g_rfn, p_sm0, p_sm1, p_sm2, p_sm3, p_sm4, true_and, and_true, if_true, if_false, ↓reduceIte, Nat.reduceEqDiff, reduceCtorEq, or_true, true_or, and_self, Int32.reduceLT, Int32.reduceAdd, Int32.reduceSub, Int32.reduceToNatClampNeg, not_false_eq_true, not_true_eq_false]) hh (by simp only [s_1, n_1]; omega) (by omega) (by simp only [s_1, n_1]; omega) (by omega) ⟨fun _ => 0, by
      rw [g_ne (by omega), g_nn (by simp only [s_1, n_1]; omega), g_ne (by omega), g_nw, if_pos rfl]⟩ (by rw [g_ne (by omega), g_nw, if_pos (by rw [s_1, n_1])]) (fun _ _ => rfl) ⟨fun k hk => by
      rw [g_ne (by omega), g_nn (by simp only [s_1, n_1]; omega), g_ne (by omega), g_nn (by omega)], by simp only [s_1, n_1]; omega, by simp only [s_1, n_1]; omega, by simp only [s_2, n_2]; omega⟩
    rw [← hsm] at goal
    exact goal
  · have n1 : (29 = sa) = False := eq_false (by omega)
    have hqs : qa ≠ sa := by
      rintro rfl
      rw [q5] at q6
      cases q6
    simp (decide := true) only [e42_0, e42_1, e42_4, e42_5, e42_8, e42_9, e42_12, e42_14, e42_17, e42_18, e42_21, e42_23, e42_26, e42_27, e42_30, e42_31, e42_34, m42, ok_8_4_8, fv14_4, fs14_4, ok_8_5_8, fs14_5, fv14_5, Kt_some, Kt_none, V_ite, g_if, g_ss, g_1, g_2, g_cn, g_iok, g_sok, g_bok, g_jok, g_qok, g_ivl, g_jvl, g_qvl, g_ist, g_bst, g_jst, g_qst, g_aln, g_isa, g_dl1, g_dl2, g_dl3, g_dl4, g_dl5, g_dd, g_rfs, g_rfn, p_sm0, p_sm1, p_sm2, p_sm3, p_sm4, true_and, and_true, if_true, if_false, ↓reduceIte, Nat.reduceEqDiff, reduceCtorEq, or_true, true_or, and_self, Int32.reduceLT, Int32.reduceAdd, Int32.reduceSub, Int32.reduceToNatClampNeg, not_false_eq_true, not_true_eq_false, h29, q5, show (Int32.ofNat 18144 = 0) = False from eq_false (by decide), c168 (show 1024 < 100000 by omega) q6]
    have hg : GR qa sa h (p_set h sa (aJ 1024 (fi fs 0 1024))) := GR_st (GR_rf qa sa h) (by omega)
    obtain ⟨-, -, -, -, -, -, -, -, -, -, -, -, j9, j10⟩ := id hc
    refine hK _ qa sa (fi fs 0 1024) (CC_GR hc hg q5 q6 q1 q3 (IA_st j9 (by omega)) (IA_st j10 (by omega))) (by rw [g_ne (by omega)]; exact h29) q1 q2 q3 q4 hqs ⟨fq, by rw [g_ne hqs]; exact q5⟩ g_eq (fun j hj => by unfold fi; rw [if_pos hj]) (MF_st (MF_rf h) (by omega))
/-- nothing is found where the boat could not float -/
theorem se_no {n : Nat} {H : Nat → Nat} {nb nc cc b0 i0 : Nat} (hn : n ≤ 4) (hH : ∀ i, i < n → H i ≤ 5) (hcc : cc ≤ 6) (h0 : b0 ≤ i0) (hi : i0 < n) (hf : H i0 < nb) : ∀ (d hd le ly : Nat) (L : List Nat), QV n H cc L → (∀ e ∈ L, b0 ≤ sB (e % 65536) ∧ (sB (e % 65536) < i0 ∨ (sB (e % 65536) = i0 ∧ i0 = b0))) → se n H nb nc cc d L hd le ly = none := by
  have hle : ∀ c, VC n H cc c → ∀ i, i < n → sW (H 0) c i ≤ H i := by
    intro c hv i hi
    by_cases h0 : i = 0
    · subst h0; exact Nat.le_refl _
    · exact hv.2.1 i (by omega) hi
  intro d
  induction d with
  | zero => intro hd le ly L _ _; rfl
  | succ d ih =>
    intro hd le ly L hq hJ
    unfold se
    by_cases hlt : hd < L.length
    · rw [if_pos hlt]
      have hmem : L.getD hd 0 ∈ L := by
        rw [List.getD_eq_getElem?_getD, List.getElem?_eq_getElem hlt]
        exact List.getElem_mem hlt
      obtain ⟨hv, hf31⟩ := hq.1 _ hmem
      have hJe := hJ _ hmem
      generalize L.getD hd 0 = e at *
      have hvl := hle _ hv
      have hnf : ¬ fd n H nb (e % 65536) = true := by
        unfold fd rz
        simp only [Bool.and_eq_true, decide_eq_true_eq]
        rintro ⟨⟨⟨q1, q2⟩, q3⟩, q4⟩
        rcases hJe.2 with r | ⟨r, -⟩
        · have : i0 = sB (e % 65536) + 1 := by omega
          have := hvl (sB (e % 65536) + 1) (by omega)
          subst i0
          omega
        · have := hvl (sB (e % 65536)) (by omega)
          rw [r] at this q1
          omega
      rw [if_neg hnf]
      have hxs : ∀ (a : Nat) (M : List Nat), a ≤ 31 → QV n H cc M → (∀ e ∈ M, b0 ≤ sB (e % 65536) ∧ (sB (e % 65536) < i0 ∨ (sB (e % 65536) = i0 ∧ i0 = b0))) → QV n H cc (xs n H nb nc cc M (e % 65536) (e / 65536) a) ∧ (∀ e2 ∈ xs n H nb nc cc M (e % 65536) (e / 65536) a, b0 ≤ sB (e2 % 65536) ∧ (sB (e2 % 65536) < i0 ∨ (sB (e2 % 65536) = i0 ∧ i0 = b0))) := by
        intro a M ha hqM hJM
        refine ⟨QV_xs hn hH hcc hqM hv hf31 ha (fun q => hnf q.2), ?_⟩
        unfold xs
        by_cases hc : can n H nb nc cc (e % 65536) a = true
        · rw [if_pos hc]
          unfold ins
          split
          · exact hJM
          · intro e2 he2
            rcases List.mem_append.mp he2 with he2 | he2
            · exact hJM e2 he2
            · rw [List.mem_singleton.mp he2]
              have hvn := VC_nxt hn hH hcc hv hc (fun q => by
                obtain ⟨rfl, q2⟩ := q
                apply hnf
                unfold can at hc
                rw [if_pos rfl] at hc
                unfold fd
                rw [hc, q2]
                simp)
              have e1 : ∀ y, (nxt H (e % 65536) a + 65536 * y) % 65536 = nxt H (e % 65536) a := fun y => by have := hvn.1; omega
              rw [e1]
              obtain ⟨k1, k2, k3, k4, k5, k6, k7⟩ := VC_k hn hH hcc hv
              have hw8 : ∀ i, 1 ≤ i → sW (H 0) (e % 65536) i < 8 := fun i h1 => sW_lt _ _ h1
              by_cases a0 : a = 0
              · subst a0
                have hs : sB (nxt H (e % 65536) 0) = sB (e % 65536) + 1 := (mk_d (hw8 1 (by omega)) (hw8 2 (by omega)) (hw8 3 (by omega)) (by omega) (by omega) (by omega)).2.2.2.2
                rw [hs]
                unfold can rz at hc
                simp only [if_true, Bool.and_eq_true, decide_eq_true_eq] at hc
                rcases hJe.2 with r | ⟨r, -⟩
                · refine ⟨by omega, Or.inl ?_⟩
                  rcases Nat.lt_or_ge (sB (e % 65536) + 1) i0 with q | q
                  · exact q
                  · have hq : i0 = sB (e % 65536) + 1 := by omega
                    have := hvl (sB (e % 65536) + 1) (by omega)
                    rw [← hq] at this hc
                    omega
                · have := hvl (sB (e % 65536)) (by omega)
                  rw [r] at this hc
                  omega
              · have hs : sB (nxt H (e % 65536) a) = sB (e % 65536) := by
                  obtain ⟨u1, u2, u3, u4, u5, u6⟩ := hvn
                  unfold nxt at u1 ⊢
                  rw [if_neg a0] at u1 ⊢
                  have big : ∀ (w : Nat → Nat) (ld cp : Nat), mkc w ld cp (sB (e % 65536)) < 65536 → w 1 < 8 → w 2 < 8 → w 3 < 8 → ld < 8 → cp < 4 → sB (mkc w ld cp (sB (e % 65536))) = sB (e % 65536) := fun w ld cp _ w1 w2 w3 hl hc => (mk_d w1 w2 w3 hl hc (by omega)).2.2.2.2
                  have qn8 : ∀ i k, i ≤ 3 → i < n → ∀ j, 1 ≤ j → j < 4 → qN H (sW (H 0) (e % 65536)) i k j < 8 := by
                    intro i k hi3 hin j hj1 hj4
                    have hin2 := qN_in H i (sW (H 0) (e % 65536)) k (fun j h1 h2 => hv.2.1 j h1 (by omega))
                    by_cases hj : j ≤ i
                    · have := hin2.1 j hj1 hj
                      have := hH j (by omega)
                      omega
                    · rw [hin2.2 j (by omega)]; exact hw8 j hj1
                  unfold can at hc
                  rw [if_neg a0] at hc
                  by_cases a1 : a = 1
                  · rw [if_pos a1] at u1 ⊢
                    rw [if_pos a1] at hc
                    unfold rz at hc
                    simp only [Bool.and_eq_true, decide_eq_true_eq] at hc
                    exact big _ _ _ u1 (hw8 1 (by omega)) (hw8 2 (by omega)) (hw8 3 (by omega)) (by omega) (by omega)
                  rw [if_neg a1] at u1 ⊢
                  rw [if_neg a1] at hc
                  by_cases a2 : a = 2
                  · rw [if_pos a2] at u1 ⊢
                    exact big _ _ _ u1 (hw8 1 (by omega)) (hw8 2 (by omega)) (hw8 3 (by omega)) (by omega) (by omega)
                  rw [if_neg a2] at u1 ⊢
                  rw [if_neg a2] at hc
                  by_cases a3 : a = 3
                  · rw [if_pos a3] at u1 ⊢
                    have := hv.2.2.2.2.1
                    exact big _ _ _ u1 (qn8 _ _ (by omega) (by omega) 1 (by omega) (by omega)) (qn8 _ _ (by omega) (by omega) 2 (by omega) (by omega)) (qn8 _ _ (by omega) (by omega) 3 (by omega) (by omega)) (by omega) (by omega)
                  rw [if_neg a3] at u1 ⊢
                  rw [if_neg a3] at hc
                  by_cases a4 : a = 4
                  · rw [if_pos a4] at u1 ⊢
                    rw [if_pos a4] at hc
                    simp only [Bool.and_eq_true, decide_eq_true_eq] at hc
                    exact big _ _ _ u1 (qn8 _ _ (by omega) (by omega) 1 (by omega) (by omega)) (qn8 _ _ (by omega) (by omega) 2 (by omega) (by omega)) (qn8 _ _ (by omega) (by omega) 3 (by omega) (by omega)) (by omega) (by omega)
                  rw [if_neg a4] at u1 ⊢
                  rw [if_neg a4] at hc
                  simp only [Bool.and_eq_true, decide_eq_true_eq] at hc
                  have dn8 : ∀ j, 1 ≤ j → dN (sW (H 0) (e % 65536)) (sC (e % 65536)) (a - 10) j < 8 := by
                    intro j hj
                    have := hw8 j hj
                    unfold dN
                    split
                    · exact this
                    · by_cases hjc : j = sC (e % 65536)
                      · subst hjc; rw [va_s]; omega
                      · rw [va_n _ _ hjc]; exact this
                  exact big _ _ _ u1 (dn8 1 (by omega)) (dn8 2 (by omega)) (dn8 3 (by omega)) (by omega) (by omega)
                rw [hs]
                exact hJe
        · rw [if_neg hc]; exact hJM
      have hxr : ∀ k, k ≤ 17 → QV n H cc (xr n H nb nc cc L (e % 65536) (e / 65536) k) ∧ (∀ e2 ∈ xr n H nb nc cc L (e % 65536) (e / 65536) k, b0 ≤ sB (e2 % 65536) ∧ (sB (e2 % 65536) < i0 ∨ (sB (e2 % 65536) = i0 ∧ i0 = b0))) := by
        intro k
        induction k with
        | zero => intro _; exact ⟨hq, hJ⟩
        | succ k ihk =>
          intro hk
          obtain ⟨q1, q2⟩ := ihk (by omega)
          exact hxs k _ (by omega) q1 q2
      obtain ⟨q1, q2⟩ := hxr 17 (by omega)
      exact ih _ _ _ _ q1 q2
    · rw [if_neg hlt]
end S37
