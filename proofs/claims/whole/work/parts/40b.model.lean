abbrev aB (n : Nat) (f : Nat → Int32) : pE := .inl (1, n, .inl f)
/-- the model's rows: lengths, cells -/
def ml (a : Nat) : Nat := if a < 38 then 4 else if a < 43 then 5 else if a = 43 then 7 else if a = 44 then 14 else if a < 47 then 4 else if a < 49 then 24192 else if a < 51 then 6 else if a = 51 then 5 else if a < 54 then 4 else if a < 56 then 5 else 7
def mc (g : Nat → Nat → Int32) (j : Nat → Nat → Int64) (a : Nat) : pE := if a = 44 ∨ a = 47 then aB (ml a) (g a) else if a = 49 ∨ a = 50 then aJ 6 (j a) else aI (ml a) (g a)
def MH (x : Nat → Int32) (u v : Int64) (g : Nat → Nat → Int32) (j : Nat → Nat → Int64) (h : pH) : Prop := p_get h 34 = some (oX x u v) ∧ ∀ a, 35 ≤ a → a < 57 → p_get h a = some (mc g j a)
def CF (h h2 : pH) : Prop := (∀ k, k < 34 ∨ 57 ≤ k → p_get h2 k = p_get h k) ∧ h2.1 = h.1 ∧ h2.2.1 = h.2.1
section S40
variable {x y : Nat → Int32} {u v u2 v2 : Int64} {g : Nat → Nat → Int32} {j : Nat → Nat → Int64} {h h2 : pH} {a : Nat} {e : pE} {f : Nat → Int32} {fj : Nat → Int64}
theorem CF_rf (h : pH) : CF h h := ⟨fun _ _ => rfl, rfl, rfl⟩
theorem CF_st (hf : CF h h2) (h1 : 34 ≤ a) (h3 : a < 57) : CF h (p_set h2 a e) := by
  refine ⟨fun k hk => ?_, hf.2.1, hf.2.2⟩
  rw [g_ne (by omega)]
  exact hf.1 k hk
theorem CF_tr {h3 : pH} (a : CF h h2) (b : CF h2 h3) : CF h h3 := ⟨fun k hk => (b.1 k hk).trans (a.1 k hk), b.2.1.trans a.2.1, b.2.2.trans a.2.2⟩
theorem MH_x (hm : MH x u v g j h) : MH y u2 v2 g j (p_set h 34 (oX y u2 v2)) := by
  refine ⟨g_eq, fun a h1 h2 => ?_⟩
  rw [g_ne (by omega)]
  exact hm.2 a h1 h2
theorem MH_i (hm : MH x u v g j h) (h1 : 35 ≤ a) (h2 : a < 57) (h3 : a ≠ 44) (h4 : a ≠ 47) (h5 : a ≠ 49) (h6 : a ≠ 50) : MH x u v (va_up g a f) j (p_set h a (aI (ml a) f)) := by
  refine ⟨by rw [g_ne (by omega)]; exact hm.1, fun b q1 q2 => ?_⟩
  by_cases hb : b = a
  · subst hb
    rw [g_eq]
    unfold mc
    rw [if_neg (by omega), if_neg (by omega), va_s]
  · rw [g_ne hb, hm.2 b q1 q2]
    unfold mc
    rw [va_n _ _ hb]
theorem MH_b (hm : MH x u v g j h) (h3 : a = 44 ∨ a = 47) : MH x u v (va_up g a f) j (p_set h a (aB (ml a) f)) := by
  refine ⟨by rw [g_ne (by omega)]; exact hm.1, fun b q1 q2 => ?_⟩
  by_cases hb : b = a
  · subst hb
    rw [g_eq]
    unfold mc
    rw [if_pos h3, va_s]
  · rw [g_ne hb, hm.2 b q1 q2]
    unfold mc
    rw [va_n _ _ hb]
theorem MH_j (hm : MH x u v g j h) (h3 : a = 49 ∨ a = 50) : MH x u v g (va_up j a fj) (p_set h a (aJ 6 fj)) := by
  refine ⟨by rw [g_ne (by omega)]; exact hm.1, fun b q1 q2 => ?_⟩
  by_cases hb : b = a
  · subst hb
    rw [g_eq]
    unfold mc
    rw [if_neg (by omega), if_pos h3, va_s]
  · rw [g_ne hb, hm.2 b q1 q2]
    unfold mc
    rw [va_n _ _ hb]
/-- the cells -/
theorem h35 (hm : MH x u v g j h) : p_get h 35 = some (aI 4 (g 35)) := hm.2 35 (by decide) (by decide)
theorem h36 (hm : MH x u v g j h) : p_get h 36 = some (aI 4 (g 36)) := hm.2 36 (by decide) (by decide)
theorem h37 (hm : MH x u v g j h) : p_get h 37 = some (aI 4 (g 37)) := hm.2 37 (by decide) (by decide)
theorem h38 (hm : MH x u v g j h) : p_get h 38 = some (aI 5 (g 38)) := hm.2 38 (by decide) (by decide)
theorem h39 (hm : MH x u v g j h) : p_get h 39 = some (aI 5 (g 39)) := hm.2 39 (by decide) (by decide)
theorem h40 (hm : MH x u v g j h) : p_get h 40 = some (aI 5 (g 40)) := hm.2 40 (by decide) (by decide)
theorem h41 (hm : MH x u v g j h) : p_get h 41 = some (aI 5 (g 41)) := hm.2 41 (by decide) (by decide)
theorem h42 (hm : MH x u v g j h) : p_get h 42 = some (aI 5 (g 42)) := hm.2 42 (by decide) (by decide)
theorem h43 (hm : MH x u v g j h) : p_get h 43 = some (aI 7 (g 43)) := hm.2 43 (by decide) (by decide)
theorem h44 (hm : MH x u v g j h) : p_get h 44 = some (aB 14 (g 44)) := hm.2 44 (by decide) (by decide)
theorem h45 (hm : MH x u v g j h) : p_get h 45 = some (aI 4 (g 45)) := hm.2 45 (by decide) (by decide)
theorem h46 (hm : MH x u v g j h) : p_get h 46 = some (aI 4 (g 46)) := hm.2 46 (by decide) (by decide)
theorem h47 (hm : MH x u v g j h) : p_get h 47 = some (aB 24192 (g 47)) := hm.2 47 (by decide) (by decide)
theorem h48 (hm : MH x u v g j h) : p_get h 48 = some (aI 24192 (g 48)) := hm.2 48 (by decide) (by decide)
theorem h49 (hm : MH x u v g j h) : p_get h 49 = some (aJ 6 (j 49)) := hm.2 49 (by decide) (by decide)
theorem h50 (hm : MH x u v g j h) : p_get h 50 = some (aJ 6 (j 50)) := hm.2 50 (by decide) (by decide)
theorem h51 (hm : MH x u v g j h) : p_get h 51 = some (aI 5 (g 51)) := hm.2 51 (by decide) (by decide)
theorem h52 (hm : MH x u v g j h) : p_get h 52 = some (aI 4 (g 52)) := hm.2 52 (by decide) (by decide)
theorem h53 (hm : MH x u v g j h) : p_get h 53 = some (aI 4 (g 53)) := hm.2 53 (by decide) (by decide)
theorem h54 (hm : MH x u v g j h) : p_get h 54 = some (aI 5 (g 54)) := hm.2 54 (by decide) (by decide)
theorem h55 (hm : MH x u v g j h) : p_get h 55 = some (aI 5 (g 55)) := hm.2 55 (by decide) (by decide)
theorem h56 (hm : MH x u v g j h) : p_get h 56 = some (aI 7 (g 56)) := hm.2 56 (by decide) (by decide)
end S40
/-- no mud is -1 in the model -/
def mbm (b : Int32) : Int32 := if b = 0 then -1 else b
def nl (σ : pS) : Nat := (σ 0 8).toNatClampNeg
def kbn (σ : pS) : Nat := (σ 0 10).toNatClampNeg
def kln (σ : pS) : Nat := (σ 0 14).toNatClampNeg
def XS (σ : pS) (x : Nat → Int32) : Prop := x 0 = σ 0 0 ∧ x 4 = σ 0 4 ∧ x 5 = σ 0 3 ∧ x 6 = σ 0 2 ∧ x 12 = σ 0 5 ∧ x 13 = mbm (σ 0 6) ∧ (0 < σ 0 6 → x 14 = σ 0 7) ∧ x 15 = σ 0 8 ∧ x 17 = σ 0 1 ∧ x 33 = (if σ 0 9 = 0 then 0 else 1) ∧ (¬ σ 0 9 = 0 → x 34 = σ 0 9)
def XK (σ : pS) (x : Nat → Int32) : Prop := x 35 = σ 0 10 ∧ x 36 = σ 0 11 ∧ x 37 = mbm (σ 0 12) ∧ (0 < σ 0 12 → x 38 = σ 0 13) ∧ x 39 = σ 0 14
def GS (σ : pS) (g : Nat → Nat → Int32) : Prop := (∀ i, i < nn σ → g 35 i = σ 1 i ∧ g 36 i = σ 2 i ∧ g 37 i = σ 3 i) ∧ (∀ i, i < nt σ → g 38 i = σ 5 i ∧ g 39 i = σ 6 i ∧ g 40 i = σ 7 i ∧ g 41 i = σ 8 i ∧ g 42 i = σ 9 i) ∧ (∀ i, i < nl σ → g 43 i = σ 10 i) ∧ ∀ i, i < np σ → g 44 i = σ 4 i
def GK (σ : pS) (g : Nat → Nat → Int32) : Prop := (∀ i, i < nn σ → g 53 i = σ 11 i) ∧ (∀ i, i < kbn σ → g 54 i = σ 12 i ∧ g 55 i = σ 13 i) ∧ ∀ i, i < kln σ → g 56 i = σ 14 i
def MP (σ : pS) (x : Nat → Int32) (g : Nat → Nat → Int32) : Prop := XS σ x ∧ GS σ g ∧ (σ 0 9 = σ 0 4 → ¬ σ 0 9 = 0 → XK σ x ∧ GK σ g)
def MR (σ : pS) (h : pH) : Prop := ∃ x u v g j, MH x u v g j h ∧ MP σ x g
theorem MR_MF {σ : pS} {h h2 : pH} (hm : MR σ h) (hf : MF h h2) : MR σ h2 := by
  obtain ⟨x, u, v, g, j, ⟨h1, h3⟩, hp⟩ := hm
  exact ⟨x, u, v, g, j, ⟨by rw [hf.1 34 (by omega)]; exact h1, fun a q1 q2 => by rw [hf.1 a (by omega)]; exact h3 a q1 q2⟩, hp⟩
theorem CR_CF {σ : pS} {h h2 : pH} (hc : CR σ h) (hf : CF h h2) : CR σ h2 := by
  obtain ⟨ad, ⟨a1, a2, a3, a4, a5, a6, a7⟩, ⟨⟨f, b1, b2⟩, b3, b4⟩, ⟨⟨cs, m1⟩, m2⟩, ⟨k1, k2, ⟨cs2, k3⟩, k4, k5, k6⟩, ⟨j1, j2, j3, j4, j5, j6, j7, j8, j9, j10⟩, ⟨qa, sa, x, s1, s2⟩⟩ := hc
  have fr : ∀ k, k < 34 → p_get h2 k = p_get h k := fun k q => hf.1 k (by omega)
  refine ⟨ad, ⟨?_, ?_, ?_, ?_, ?_, ?_, ?_⟩, ⟨⟨f, ?_, b2⟩, fun i hi => ?_, b4⟩, ⟨⟨cs, ?_⟩, ?_⟩, ⟨?_, ?_, ⟨cs2, ?_⟩, ?_, ?_, ?_⟩, ⟨?_, ?_, ?_, ?_, ?_, ?_, ?_, ?_, ?_, ?_⟩, ⟨qa, sa, x, ?_, ?_⟩⟩
  · rw [fr 1 (by decide)]; exact a1
  · rw [fr 2 (by decide)]; exact a2
  · rw [fr 3 (by decide)]; exact a3
  · rw [fr 4 (by decide)]; exact a4
  · rw [fr 5 (by decide)]; exact a5
  · rw [fr 6 (by decide)]; exact a6
  · rw [fr 7 (by decide)]; exact a7
  · rw [fr 9 (by decide)]; exact b1
  · obtain ⟨q1, q2, q3⟩ := b3 i hi
    exact ⟨q1, by rw [hf.2.1]; exact q2, by rw [hf.1 _ (by omega)]; exact q3⟩
  · rw [fr 10 (by decide)]; exact m1
  · rw [fr 11 (by decide)]; exact m2
  · rw [fr 16 (by decide)]; exact k1
  · rw [fr 17 (by decide)]; exact k2
  · rw [fr 18 (by decide)]; exact k3
  · rw [fr 19 (by decide)]; exact k4
  · rw [fr 24 (by decide)]; exact k5
  · rw [fr 25 (by decide)]; exact k6
  · unfold IA; rw [fr 8 (by decide)]; exact j1
  · unfold IA; rw [fr 12 (by decide)]; exact j2
  · unfold IZ; rw [fr 13 (by decide)]; exact j3
  · unfold IA; rw [fr 14 (by decide)]; exact j4
  · unfold IA; rw [fr 15 (by decide)]; exact j5
  · rw [fr 26 (by decide)]; exact j6
  · unfold JA; rw [fr 27 (by decide)]; exact j7
  · unfold JA; rw [fr 28 (by decide)]; exact j8
  · unfold IA; rw [fr 30 (by decide)]; exact j9
  · unfold IA; rw [fr 31 (by decide)]; exact j10
  · rw [fr 29 (by decide)]; exact s1
  · unfold IA JA at *
    rcases s2 with ⟨q1, q2, q3, q4⟩ | ⟨q1, q2, q3, q4, q5, q6⟩
    · exact Or.inl ⟨q1, q2, by rw [fr 32 (by decide)]; exact q3, by rw [fr 33 (by decide)]; exact q4⟩
    · exact Or.inr ⟨q1, by rw [hf.2.1]; exact q2, q3, by rw [hf.2.1]; exact q4, by rw [hf.1 _ (by omega)]; exact q5, by rw [hf.1 _ (by omega)]; exact q6⟩
section S40c
variable {σ : pS} {h : pH} {K Q : Option Value → pH → Prop} {x : Nat → Int32} {u v : Int64} {g : Nat → Nat → Int32} {j : Nat → Nat → Int64}
theorem c106 {a b c : Int32} : Vm 106 [.int a, .int b, .int c] h Q = if a < b then Q (some (.int 0)) h else if c < a then Q (some (.int 0)) h else Q (some (.int 1)) h := by
  simp (decide := true) only [e106_0, e106_1, e106_2, e106_5, e106_6, e106_7, e106_10, e106_11, e106_14, e106_15, m106, Kt_some, Kt_none, V_ite, g_if, g_ss, g_1, g_2, g_cn, g_iok, g_sok, g_bok, g_jok, g_qok, g_ivl, g_jvl, g_qvl, g_ist, g_bst, g_jst, g_qst, g_aln, g_isa, g_dl1, g_dl2, g_dl3, g_dl4, g_dl5, g_dd, g_rfs, g_rfn, p_sm0, p_sm1, p_sm2, p_sm3, p_sm4, true_and, and_true, if_true, if_false, ↓reduceIte, Nat.reduceEqDiff, reduceCtorEq, or_true, true_or, and_self, Int32.reduceLT, Int32.reduceAdd, Int32.reduceSub, Int32.reduceToNatClampNeg, not_false_eq_true, not_true_eq_false]
theorem y_blank (hR : MR σ h) (hI : IV σ) (hK : ∀ h2, MR (f_blank σ).2 h2 → CF h h2 → K (some (.int (f_blank σ).1)) h2) : Vm 108 [.ref 34] h K := by
  obtain ⟨x, u, v, g, j, hm, ⟨s1, s2, s3, s4, s5, s6, s7, s8, s9, s10, s11⟩, hg, hk⟩ := hR
  have h34 := hm.1
  simp (decide := true) only [e108_0, e108_1, e108_4, e108_5, e108_6, e108_7, e108_10, e108_11, m108, ok_12_17_12, fv45_17, fs45_17, Kt_some, Kt_none, V_ite, g_if, g_ss, g_1, g_2, g_cn, g_iok, g_sok, g_bok, g_jok, g_qok, g_ivl, g_jvl, g_qvl, g_ist, g_bst, g_jst, g_qst, g_aln, g_isa, g_dl1, g_dl2, g_dl3, g_dl4, g_dl5, g_dd, g_rfs, g_rfn, p_sm0, p_sm1, p_sm2, p_sm3, p_sm4, true_and, and_true, if_true, if_false, ↓reduceIte, Nat.reduceEqDiff, reduceCtorEq, or_true, true_or, and_self, Int32.reduceLT, Int32.reduceAdd, Int32.reduceSub, Int32.reduceToNatClampNeg, not_false_eq_true, not_true_eq_false, xcn, xok_0, xfv_0, xfs_0, xok_1, xfv_1, xok_2, xfv_2, xok_3, xfv_3, xok_4, xfv_4, xfs_4, xok_5, xfv_5, xfs_5, xok_6, xfv_6, xfs_6, xok_7, xfv_7, xok_8, xfv_8, xok_9, xfv_9, xok_10, xfv_10, xok_11, xfv_11, xok_12, xfv_12, xfs_12, xok_13, xfv_13, xfs_13, xok_14, xfv_14, xfs_14, xok_15, xfv_15, xfs_15, xok_16, xfv_16, xok_17, xfv_17, xfs_17, xok_18, xfv_18, xok_19, xfv_19, xfs_19, xok_20, xfv_20, xfs_20, xok_21, xfv_21, xfs_21, xok_22, xfv_22, xok_23, xfv_23, xok_24, xfv_24, xok_25, xfv_25, xok_26, xfv_26, xfs_26, xok_27, xfv_27, xok_28, xfv_28, xok_29, xfv_29, xok_30, xfv_30, xfs_30, xok_31, xfv_31, xfs_31, xok_32, xfv_32, xok_33, xfv_33, xfs_33, xok_34, xfv_34, xfs_34, xok_35, xfv_35, xfs_35, xok_36, xfv_36, xfs_36, xok_37, xfv_37, xfs_37, xok_38, xfv_38, xfs_38, xok_39, xfv_39, xfs_39, xok_40, xfv_40, xok_41, xfv_41, xok_42, xfv_42, xok_43, xfv_43, xok_44, xfv_44, xfs_44, h34]
  rw [s9]
  refine hK _ ⟨_, _, _, g, j, MH_x hm, ⟨s1, s2, s3, s4, s5, s6, s7, s8, rfl, s10, s11⟩, ⟨hg.1, hg.2.1, hg.2.2.1, fun i hi => absurd hi (Nat.not_lt_zero i)⟩, hk⟩ (CF_st (CF_rf h) (by decide) (by decide))
theorem c112 {b : Int32} (h34 : p_get h 34 = some (oX x u v)) : Vm 112 [.ref 34, .int b] h Q = if b < 0 then Q (some (.int 0)) h else if x 0 - 1 < b then Q (some (.int 0)) h else Q (some (.int 1)) h := by
  simp (decide := true) only [e112_0, e112_1, e112_2, e112_3, e112_6, e112_7, e112_8, e112_11, m112, ok_12_0_12, fv45_0, Kt_some, Kt_none, V_ite, g_if, g_ss, g_1, g_2, g_cn, g_iok, g_sok, g_bok, g_jok, g_qok, g_ivl, g_jvl, g_qvl, g_ist, g_bst, g_jst, g_qst, g_aln, g_isa, g_dl1, g_dl2, g_dl3, g_dl4, g_dl5, g_dd, g_rfs, g_rfn, p_sm0, p_sm1, p_sm2, p_sm3, p_sm4, true_and, and_true, if_true, if_false, ↓reduceIte, Nat.reduceEqDiff, reduceCtorEq, or_true, true_or, and_self, Int32.reduceLT, Int32.reduceAdd, Int32.reduceSub, Int32.reduceToNatClampNeg, not_false_eq_true, not_true_eq_false, xcn, xok_0, xfv_0, xfs_0, xok_1, xfv_1, xok_2, xfv_2, xok_3, xfv_3, xok_4, xfv_4, xfs_4, xok_5, xfv_5, xfs_5, xok_6, xfv_6, xfs_6, xok_7, xfv_7, xok_8, xfv_8, xok_9, xfv_9, xok_10, xfv_10, xok_11, xfv_11, xok_12, xfv_12, xfs_12, xok_13, xfv_13, xfs_13, xok_14, xfv_14, xfs_14, xok_15, xfv_15, xfs_15, xok_16, xfv_16, xok_17, xfv_17, xfs_17, xok_18, xfv_18, xok_19, xfv_19, xfs_19, xok_20, xfv_20, xfs_20, xok_21, xfv_21, xfs_21, xok_22, xfv_22, xok_23, xfv_23, xok_24, xfv_24, xok_25, xfv_25, xok_26, xfv_26, xfs_26, xok_27, xfv_27, xok_28, xfv_28, xok_29, xfv_29, xok_30, xfv_30, xfs_30, xok_31, xfv_31, xfs_31, xok_32, xfv_32, xok_33, xfv_33, xfs_33, xok_34, xfv_34, xfs_34, xok_35, xfv_35, xfs_35, xok_36, xfv_36, xfs_36, xok_37, xfv_37, xfs_37, xok_38, xfv_38, xfs_38, xok_39, xfv_39, xfs_39, xok_40, xfv_40, xok_41, xfv_41, xok_42, xfv_42, xok_43, xfv_43, xok_44, xfv_44, xfs_44, h34, c106]
theorem lt_m1 {b : Int32} {n : Nat} (hn : n ≤ 100) (h0 : ¬ b < 0) : (nI n - 1 < b) = ¬ b < nI n := by
  obtain ⟨k, hk, rfl⟩ := nI_of h0
  apply propext
  by_cases hz : n = 0
  · subst hz
    have e : nI 0 - 1 = (-1 : Int32) := by decide
    rw [e]
    constructor
    · intro _ q; exact h0 q
    · intro _
      rcases Nat.eq_zero_or_pos k with r | r
      · subst r; decide
      · exact Int32.lt_trans (by decide) (nI_lt (a := 0) r (by omega))
  · rw [show nI n - 1 = nI (n - 1) from pk_sub (a := n) (b := 1) (by omega), nI_ltI (by omega) (by omega), nI_ltI (by omega) (by omega)]
    omega
theorem y_basin {b k : Int32} (hR : MR σ h) (hI : IV σ) (hK : ∀ h2, MR (f_basin σ b k).2 h2 → CF h h2 → K (some (.int (f_basin σ b k).1)) h2) : Vm 114 [.ref 34, .int b, .int k] h K := by
  replace hK := hK h hR (CF_rf h)
  obtain ⟨x, u, v, g, j, hm, ⟨s1, -⟩, ⟨hg, -⟩, -⟩ := hR
  have h34 := hm.1
  obtain ⟨n, ps, bt, sr, hI⟩ := hI
  obtain ⟨e1, -, -⟩ := IN_n hI
  rw [e1] at hg
  obtain ⟨⟨a1, a2, a3, -⟩, -⟩ := hI
  unfold f_basin at hK
  by_cases b0 : b < 0
  · simp only [b0, if_true] at hK
    simp (decide := true) only [e114_0, e114_1, e114_2, e114_5, e114_8, e114_10, e114_13, e114_14, e114_15, e114_16, e114_19, e114_22, e114_23, e114_24, e114_25, e114_28, e114_31, e114_33, m114, Kt_some, Kt_none, V_ite, g_if, g_ss, g_1, g_2, g_cn, g_iok, g_sok, g_bok, g_jok, g_qok, g_ivl, g_jvl, g_qvl, g_ist, g_bst, g_jst, g_qst, g_aln, g_isa, g_dl1, g_dl2, g_dl3, g_dl4, g_dl5, g_dd, g_rfs, g_rfn, p_sm0, p_sm1, p_sm2, p_sm3, p_sm4, true_and, and_true, if_true, if_false, ↓reduceIte, Nat.reduceEqDiff, reduceCtorEq, or_true, true_or, and_self, Int32.reduceLT, Int32.reduceAdd, Int32.reduceSub, Int32.reduceToNatClampNeg, not_false_eq_true, not_true_eq_false, c112 h34, xcn, h34, b0]
    exact hK
  · have e2 : (x 0 - 1 < b) = ¬ b < σ 0 0 := by rw [s1, a1]; exact lt_m1 (by omega) b0
    by_cases b1 : b < σ 0 0
    · simp only [b0, b1, if_true, if_false] at hK
      have h2 : vp_in b 4 = True := vp_of b0 (by rw [← a1]; exact b1) a3 (by omega)
      have hbn : b.toNatClampNeg < n := by
        rw [a1] at b1
        obtain ⟨q, hq, rfl⟩ := nI_of b0
        rw [nI_c (a := q) (by omega)]
        exact (nI_ltI (by omega) (by omega)).mp b1
      obtain ⟨g1, g2, g3⟩ := hg _ hbn
      by_cases k0 : k = 0
      · subst k0
        simp only [if_true] at hK
        simp (decide := true) only [e114_0, e114_1, e114_2, e114_5, e114_8, e114_10, e114_13, e114_14, e114_15, e114_16, e114_19, e114_22, e114_23, e114_24, e114_25, e114_28, e114_31, e114_33, m114, e113_0, e113_1, e113_4, e113_5, e113_8, e113_9, e113_10, e113_13, e113_14, e113_15, e113_18, e113_19, e113_22, e113_23, e113_24, e113_27, e113_28, e113_31, e113_32, e113_33, m113, ok_12_1_12, fv45_1, ok_12_2_12, fv45_2, ok_12_3_12, fv45_3, Kt_some, Kt_none, V_ite, g_if, g_ss, g_1, g_2, g_cn, g_iok, g_sok, g_bok, g_jok, g_qok, g_ivl, g_jvl, g_qvl, g_ist, g_bst, g_jst, g_qst, g_aln, g_isa, g_dl1, g_dl2, g_dl3, g_dl4, g_dl5, g_dd, g_rfs, g_rfn, p_sm0, p_sm1, p_sm2, p_sm3, p_sm4, true_and, and_true, if_true, if_false, ↓reduceIte, Nat.reduceEqDiff, reduceCtorEq, or_true, true_or, and_self, Int32.reduceLT, Int32.reduceAdd, Int32.reduceSub, Int32.reduceToNatClampNeg, not_false_eq_true, not_true_eq_false, xcn, xok_0, xfv_0, xfs_0, xok_1, xfv_1, xok_2, xfv_2, xok_3, xfv_3, xok_4, xfv_4, xfs_4, xok_5, xfv_5, xfs_5, xok_6, xfv_6, xfs_6, xok_7, xfv_7, xok_8, xfv_8, xok_9, xfv_9, xok_10, xfv_10, xok_11, xfv_11, xok_12, xfv_12, xfs_12, xok_13, xfv_13, xfs_13, xok_14, xfv_14, xfs_14, xok_15, xfv_15, xfs_15, xok_16, xfv_16, xok_17, xfv_17, xfs_17, xok_18, xfv_18, xok_19, xfv_19, xfs_19, xok_20, xfv_20, xfs_20, xok_21, xfv_21, xfs_21, xok_22, xfv_22, xok_23, xfv_23, xok_24, xfv_24, xok_25, xfv_25, xok_26, xfv_26, xfs_26, xok_27, xfv_27, xok_28, xfv_28, xok_29, xfv_29, xok_30, xfv_30, xfs_30, xok_31, xfv_31, xfs_31, xok_32, xfv_32, xok_33, xfv_33, xfs_33, xok_34, xfv_34, xfs_34, xok_35, xfv_35, xfs_35, xok_36, xfv_36, xfs_36, xok_37, xfv_37, xfs_37, xok_38, xfv_38, xfs_38, xok_39, xfv_39, xfs_39, xok_40, xfv_40, xok_41, xfv_41, xok_42, xfv_42, xok_43, xfv_43, xok_44, xfv_44, xfs_44, c112 h34, h34, b0, e2, b1, c106, h35 hm, h2, g1]
        exact hK
      by_cases k1 : k = 1
      · subst k1
        simp (decide := true) only [if_true, if_false] at hK
        simp (decide := true) only [e114_0, e114_1, e114_2, e114_5, e114_8, e114_10, e114_13, e114_14, e114_15, e114_16, e114_19, e114_22, e114_23, e114_24, e114_25, e114_28, e114_31, e114_33, m114, e113_0, e113_1, e113_4, e113_5, e113_8, e113_9, e113_10, e113_13, e113_14, e113_15, e113_18, e113_19, e113_22, e113_23, e113_24, e113_27, e113_28, e113_31, e113_32, e113_33, m113, ok_12_1_12, fv45_1, ok_12_2_12, fv45_2, ok_12_3_12, fv45_3, Kt_some, Kt_none, V_ite, g_if, g_ss, g_1, g_2, g_cn, g_iok, g_sok, g_bok, g_jok, g_qok, g_ivl, g_jvl, g_qvl, g_ist, g_bst, g_jst, g_qst, g_aln, g_isa, g_dl1, g_dl2, g_dl3, g_dl4, g_dl5, g_dd, g_rfs, g_rfn, p_sm0, p_sm1, p_sm2, p_sm3, p_sm4, true_and, and_true, if_true, if_false, ↓reduceIte, Nat.reduceEqDiff, reduceCtorEq, or_true, true_or, and_self, Int32.reduceLT, Int32.reduceAdd, Int32.reduceSub, Int32.reduceToNatClampNeg, not_false_eq_true, not_true_eq_false, xcn, xok_0, xfv_0, xfs_0, xok_1, xfv_1, xok_2, xfv_2, xok_3, xfv_3, xok_4, xfv_4, xfs_4, xok_5, xfv_5, xfs_5, xok_6, xfv_6, xfs_6, xok_7, xfv_7, xok_8, xfv_8, xok_9, xfv_9, xok_10, xfv_10, xok_11, xfv_11, xok_12, xfv_12, xfs_12, xok_13, xfv_13, xfs_13, xok_14, xfv_14, xfs_14, xok_15, xfv_15, xfs_15, xok_16, xfv_16, xok_17, xfv_17, xfs_17, xok_18, xfv_18, xok_19, xfv_19, xfs_19, xok_20, xfv_20, xfs_20, xok_21, xfv_21, xfs_21, xok_22, xfv_22, xok_23, xfv_23, xok_24, xfv_24, xok_25, xfv_25, xok_26, xfv_26, xfs_26, xok_27, xfv_27, xok_28, xfv_28, xok_29, xfv_29, xok_30, xfv_30, xfs_30, xok_31, xfv_31, xfs_31, xok_32, xfv_32, xok_33, xfv_33, xfs_33, xok_34, xfv_34, xfs_34, xok_35, xfv_35, xfs_35, xok_36, xfv_36, xfs_36, xok_37, xfv_37, xfs_37, xok_38, xfv_38, xfs_38, xok_39, xfv_39, xfs_39, xok_40, xfv_40, xok_41, xfv_41, xok_42, xfv_42, xok_43, xfv_43, xok_44, xfv_44, xfs_44, c112 h34, h34, b0, e2, b1, c106, h36 hm, h2, g2]
        exact hK
      by_cases k2 : k = 2
      · subst k2
        simp (decide := true) only [if_true, if_false] at hK
        simp (decide := true) only [e114_0, e114_1, e114_2, e114_5, e114_8, e114_10, e114_13, e114_14, e114_15, e114_16, e114_19, e114_22, e114_23, e114_24, e114_25, e114_28, e114_31, e114_33, m114, e113_0, e113_1, e113_4, e113_5, e113_8, e113_9, e113_10, e113_13, e113_14, e113_15, e113_18, e113_19, e113_22, e113_23, e113_24, e113_27, e113_28, e113_31, e113_32, e113_33, m113, ok_12_1_12, fv45_1, ok_12_2_12, fv45_2, ok_12_3_12, fv45_3, Kt_some, Kt_none, V_ite, g_if, g_ss, g_1, g_2, g_cn, g_iok, g_sok, g_bok, g_jok, g_qok, g_ivl, g_jvl, g_qvl, g_ist, g_bst, g_jst, g_qst, g_aln, g_isa, g_dl1, g_dl2, g_dl3, g_dl4, g_dl5, g_dd, g_rfs, g_rfn, p_sm0, p_sm1, p_sm2, p_sm3, p_sm4, true_and, and_true, if_true, if_false, ↓reduceIte, Nat.reduceEqDiff, reduceCtorEq, or_true, true_or, and_self, Int32.reduceLT, Int32.reduceAdd, Int32.reduceSub, Int32.reduceToNatClampNeg, not_false_eq_true, not_true_eq_false, xcn, xok_0, xfv_0, xfs_0, xok_1, xfv_1, xok_2, xfv_2, xok_3, xfv_3, xok_4, xfv_4, xfs_4, xok_5, xfv_5, xfs_5, xok_6, xfv_6, xfs_6, xok_7, xfv_7, xok_8, xfv_8, xok_9, xfv_9, xok_10, xfv_10, xok_11, xfv_11, xok_12, xfv_12, xfs_12, xok_13, xfv_13, xfs_13, xok_14, xfv_14, xfs_14, xok_15, xfv_15, xfs_15, xok_16, xfv_16, xok_17, xfv_17, xfs_17, xok_18, xfv_18, xok_19, xfv_19, xfs_19, xok_20, xfv_20, xfs_20, xok_21, xfv_21, xfs_21, xok_22, xfv_22, xok_23, xfv_23, xok_24, xfv_24, xok_25, xfv_25, xok_26, xfv_26, xfs_26, xok_27, xfv_27, xok_28, xfv_28, xok_29, xfv_29, xok_30, xfv_30, xfs_30, xok_31, xfv_31, xfs_31, xok_32, xfv_32, xok_33, xfv_33, xfs_33, xok_34, xfv_34, xfs_34, xok_35, xfv_35, xfs_35, xok_36, xfv_36, xfs_36, xok_37, xfv_37, xfs_37, xok_38, xfv_38, xfs_38, xok_39, xfv_39, xfs_39, xok_40, xfv_40, xok_41, xfv_41, xok_42, xfv_42, xok_43, xfv_43, xok_44, xfv_44, xfs_44, c112 h34, h34, b0, e2, b1, c106, h37 hm, h2, g3]
        exact hK
      simp only [k0, k1, k2, if_false] at hK
      by_cases kn : k < 0
      · simp (decide := true) only [e114_0, e114_1, e114_2, e114_5, e114_8, e114_10, e114_13, e114_14, e114_15, e114_16, e114_19, e114_22, e114_23, e114_24, e114_25, e114_28, e114_31, e114_33, m114, Kt_some, Kt_none, V_ite, g_if, g_ss, g_1, g_2, g_cn, g_iok, g_sok, g_bok, g_jok, g_qok, g_ivl, g_jvl, g_qvl, g_ist, g_bst, g_jst, g_qst, g_aln, g_isa, g_dl1, g_dl2, g_dl3, g_dl4, g_dl5, g_dd, g_rfs, g_rfn, p_sm0, p_sm1, p_sm2, p_sm3, p_sm4, true_and, and_true, if_true, if_false, ↓reduceIte, Nat.reduceEqDiff, reduceCtorEq, or_true, true_or, and_self, Int32.reduceLT, Int32.reduceAdd, Int32.reduceSub, Int32.reduceToNatClampNeg, not_false_eq_true, not_true_eq_false, xcn, xok_0, xfv_0, xfs_0, xok_1, xfv_1, xok_2, xfv_2, xok_3, xfv_3, xok_4, xfv_4, xfs_4, xok_5, xfv_5, xfs_5, xok_6, xfv_6, xfs_6, xok_7, xfv_7, xok_8, xfv_8, xok_9, xfv_9, xok_10, xfv_10, xok_11, xfv_11, xok_12, xfv_12, xfs_12, xok_13, xfv_13, xfs_13, xok_14, xfv_14, xfs_14, xok_15, xfv_15, xfs_15, xok_16, xfv_16, xok_17, xfv_17, xfs_17, xok_18, xfv_18, xok_19, xfv_19, xfs_19, xok_20, xfv_20, xfs_20, xok_21, xfv_21, xfs_21, xok_22, xfv_22, xok_23, xfv_23, xok_24, xfv_24, xok_25, xfv_25, xok_26, xfv_26, xfs_26, xok_27, xfv_27, xok_28, xfv_28, xok_29, xfv_29, xok_30, xfv_30, xfs_30, xok_31, xfv_31, xfs_31, xok_32, xfv_32, xok_33, xfv_33, xfs_33, xok_34, xfv_34, xfs_34, xok_35, xfv_35, xfs_35, xok_36, xfv_36, xfs_36, xok_37, xfv_37, xfs_37, xok_38, xfv_38, xfs_38, xok_39, xfv_39, xfs_39, xok_40, xfv_40, xok_41, xfv_41, xok_42, xfv_42, xok_43, xfv_43, xok_44, xfv_44, xfs_44, c112 h34, h34, b0, e2, b1, c106, kn]
        exact hK
      · have k2' : 2 < k := by
          obtain ⟨q, hq, rfl⟩ := nI_of kn
          refine nI_lt (a := 2) ?_ (by omega)
          rcases (show q = 0 ∨ q = 1 ∨ q = 2 ∨ 2 < q by omega) with r | r | r | r
          · subst r; exact absurd rfl k0
          · subst r; exact absurd rfl k1
          · subst r; exact absurd rfl k2
          · exact r
        simp (decide := true) only [e114_0, e114_1, e114_2, e114_5, e114_8, e114_10, e114_13, e114_14, e114_15, e114_16, e114_19, e114_22, e114_23, e114_24, e114_25, e114_28, e114_31, e114_33, m114, Kt_some, Kt_none, V_ite, g_if, g_ss, g_1, g_2, g_cn, g_iok, g_sok, g_bok, g_jok, g_qok, g_ivl, g_jvl, g_qvl, g_ist, g_bst, g_jst, g_qst, g_aln, g_isa, g_dl1, g_dl2, g_dl3, g_dl4, g_dl5, g_dd, g_rfs, g_rfn, p_sm0, p_sm1, p_sm2, p_sm3, p_sm4, true_and, and_true, if_true, if_false, ↓reduceIte, Nat.reduceEqDiff, reduceCtorEq, or_true, true_or, and_self, Int32.reduceLT, Int32.reduceAdd, Int32.reduceSub, Int32.reduceToNatClampNeg, not_false_eq_true, not_true_eq_false, xcn, xok_0, xfv_0, xfs_0, xok_1, xfv_1, xok_2, xfv_2, xok_3, xfv_3, xok_4, xfv_4, xfs_4, xok_5, xfv_5, xfs_5, xok_6, xfv_6, xfs_6, xok_7, xfv_7, xok_8, xfv_8, xok_9, xfv_9, xok_10, xfv_10, xok_11, xfv_11, xok_12, xfv_12, xfs_12, xok_13, xfv_13, xfs_13, xok_14, xfv_14, xfs_14, xok_15, xfv_15, xfs_15, xok_16, xfv_16, xok_17, xfv_17, xfs_17, xok_18, xfv_18, xok_19, xfv_19, xfs_19, xok_20, xfv_20, xfs_20, xok_21, xfv_21, xfs_21, xok_22, xfv_22, xok_23, xfv_23, xok_24, xfv_24, xok_25, xfv_25, xok_26, xfv_26, xfs_26, xok_27, xfv_27, xok_28, xfv_28, xok_29, xfv_29, xok_30, xfv_30, xfs_30, xok_31, xfv_31, xfs_31, xok_32, xfv_32, xok_33, xfv_33, xfs_33, xok_34, xfv_34, xfs_34, xok_35, xfv_35, xfs_35, xok_36, xfv_36, xfs_36, xok_37, xfv_37, xfs_37, xok_38, xfv_38, xfs_38, xok_39, xfv_39, xfs_39, xok_40, xfv_40, xok_41, xfv_41, xok_42, xfv_42, xok_43, xfv_43, xok_44, xfv_44, xfs_44, c112 h34, h34, b0, e2, b1, c106, kn, k2']
        exact hK
    · simp only [b0, b1, if_true, if_false] at hK
      simp (decide := true) only [e114_0, e114_1, e114_2, e114_5, e114_8, e114_10, e114_13, e114_14, e114_15, e114_16, e114_19, e114_22, e114_23, e114_24, e114_25, e114_28, e114_31, e114_33, m114, Kt_some, Kt_none, V_ite, g_if, g_ss, g_1, g_2, g_cn, g_iok, g_sok, g_bok, g_jok, g_qok, g_ivl, g_jvl, g_qvl, g_ist, g_bst, g_jst, g_qst, g_aln, g_isa, g_dl1, g_dl2, g_dl3, g_dl4, g_dl5, g_dd, g_rfs, g_rfn, p_sm0, p_sm1, p_sm2, p_sm3, p_sm4, true_and, and_true, if_true, if_false, ↓reduceIte, Nat.reduceEqDiff, reduceCtorEq, or_true, true_or, and_self, Int32.reduceLT, Int32.reduceAdd, Int32.reduceSub, Int32.reduceToNatClampNeg, not_false_eq_true, not_true_eq_false, xcn, xok_0, xfv_0, xfs_0, xok_1, xfv_1, xok_2, xfv_2, xok_3, xfv_3, xok_4, xfv_4, xfs_4, xok_5, xfv_5, xfs_5, xok_6, xfv_6, xfs_6, xok_7, xfv_7, xok_8, xfv_8, xok_9, xfv_9, xok_10, xfv_10, xok_11, xfv_11, xok_12, xfv_12, xfs_12, xok_13, xfv_13, xfs_13, xok_14, xfv_14, xfs_14, xok_15, xfv_15, xfs_15, xok_16, xfv_16, xok_17, xfv_17, xfs_17, xok_18, xfv_18, xok_19, xfv_19, xfs_19, xok_20, xfv_20, xfs_20, xok_21, xfv_21, xfs_21, xok_22, xfv_22, xok_23, xfv_23, xok_24, xfv_24, xok_25, xfv_25, xok_26, xfv_26, xfs_26, xok_27, xfv_27, xok_28, xfv_28, xok_29, xfv_29, xok_30, xfv_30, xfs_30, xok_31, xfv_31, xfs_31, xok_32, xfv_32, xok_33, xfv_33, xfs_33, xok_34, xfv_34, xfs_34, xok_35, xfv_35, xfs_35, xok_36, xfv_36, xfs_36, xok_37, xfv_37, xfs_37, xok_38, xfv_38, xfs_38, xok_39, xfv_39, xfs_39, xok_40, xfv_40, xok_41, xfv_41, xok_42, xfv_42, xok_43, xfv_43, xok_44, xfv_44, xfs_44, c112 h34, h34, b0, e2, b1]
      exact hK
end S40c
