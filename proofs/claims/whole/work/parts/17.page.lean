/-! the class's Page, the JDK's fill, the rest of Stair -/
section S17
variable {h : pH} {Q : Option Value → pH → Prop} {s p q r : Nat} {nb b k : Int32} {fh fl f : Nat → Int32}
abbrev aJ (n : Nat) (f : Nat → Int64) : pE := .inl (2, n, .inr (.inl f))
abbrev oP (p : Nat) (n : Int32) : pE := .inr (6, [.ref p, .int n])
def fi {α : Type} (f : Nat → α) (x : α) (i : Nat) : Nat → α := fun j => if j < i then x else f j
theorem fi_0 {α : Type} (f : Nat → α) (x : α) : fi f x 0 = f := by funext j; unfold fi; rw [if_neg (by omega)]
theorem fi_s (f : Nat → Int32) (x : Int32) (i : Nat) : upd (fi f x i) i x = fi f x (i + 1) := by
  funext j
  by_cases hj : j = i
  · subst hj; rw [pk_us]; unfold fi; rw [if_pos (by omega)]
  · rw [pk_un hj]; unfold fi
    by_cases hc : j < i
    · rw [if_pos hc, if_pos (by omega)]
    · rw [if_neg hc, if_neg (by omega)]
theorem fi_sL (f : Nat → Int64) (x : Int64) (i : Nat) : vp_updL (fi f x i) i x = fi f x (i + 1) := by
  funext j
  by_cases hj : j = i
  · subst hj; rw [pk_uLs]; unfold fi; rw [if_pos (by omega)]
  · rw [pk_uLn hj]; unfold fi
    by_cases hc : j < i
    · rw [if_pos hc, if_pos (by omega)]
    · rw [if_neg hc, if_neg (by omega)]
theorem l169 {n : Nat} (hn : n < 100000) (f : Nat → Int32) (x : Int32) : ∀ (d i : Nat), i + d = n → V 169 5 [some (.ref r), some (.int x), some (.int (nI i)), some (.int (nI n))] [] (p_set h r (aI n (fi f x i))) Q = Q none (p_set h r (aI n (fi f x n))) := by
  intro d
  induction d with
  | zero =>
    intro i hi
    have e1 := nI_F (a := i) (b := n) (by omega) (by omega)
    have e2 : i = n := by omega
    subst e2
    simp (decide := true) only [e169_0, e169_1, e169_2, e169_3, e169_4, e169_5, e169_6, e169_7, e169_10, e169_11, e169_12, e169_13, e169_14, e169_17, e169_20, m169, Kt_some, Kt_none, V_ite, g_if, g_ss, g_1, g_2, g_cn, g_iok, g_sok, g_bok, g_jok, g_qok, g_ivl, g_jvl, g_qvl, g_ist, g_bst, g_jst, g_qst, g_aln, g_isa, g_dl1, g_dl2, g_dl3, g_dl4, g_dl5, g_dd, g_rfs, g_rfn, p_sm0, p_sm1, p_sm2, p_sm3, p_sm4, true_and, and_true, if_true, if_false, ↓reduceIte, Nat.reduceEqDiff, reduceCtorEq, or_true, true_or, and_self, Int32.reduceLT, Int32.reduceAdd, Int32.reduceSub, Int32.reduceToNatClampNeg, not_false_eq_true, not_true_eq_false, e1]
  | succ d ih =>
    intro i hi
    have e1 := nI_T (a := i) (b := n) (by omega) (by omega)
    have e3 := vp_T (show i < n by omega) (by omega)
    have e4 := nI_c (a := i) (by omega)
    have := ih (i + 1) (by omega)
    rw [e169_5]
    simp (decide := true) only [e169_0, e169_1, e169_2, e169_3, e169_4, e169_6, e169_7, e169_10, e169_11, e169_12, e169_13, e169_14, e169_17, e169_20, m169, Kt_some, Kt_none, V_ite, g_if, g_ss, g_1, g_2, g_cn, g_iok, g_sok, g_bok, g_jok, g_qok, g_ivl, g_jvl, g_qvl, g_ist, g_bst, g_jst, g_qst, g_aln, g_isa, g_dl1, g_dl2, g_dl3, g_dl4, g_dl5, g_dd, g_rfs, g_rfn, p_sm0, p_sm1, p_sm2, p_sm3, p_sm4, true_and, and_true, if_true, if_false, ↓reduceIte, Nat.reduceEqDiff, reduceCtorEq, or_true, true_or, and_self, Int32.reduceLT, Int32.reduceAdd, Int32.reduceSub, Int32.reduceToNatClampNeg, not_false_eq_true, not_true_eq_false, e1, e3, e4, fi_s, nI_1]
    exact this
/-- Arrays.fill(int[]) -/
theorem c169 {n : Nat} (hn : n < 100000) (hr : p_get h r = some (aI n f)) {x : Int32} : Vm 169 [.ref r, .int x] h Q = Q none (p_set h r (aI n (fi f x n))) := by
  have := l169 (Q := Q) (h := h) (r := r) hn f x n 0 (by omega)
  rw [fi_0, g_same hr] at this
  simp (decide := true) only [e169_0, e169_1, e169_2, e169_3, e169_4, e169_6, e169_7, e169_10, e169_11, e169_12, e169_13, e169_14, e169_17, e169_20, m169, Kt_some, Kt_none, V_ite, g_if, g_ss, g_1, g_2, g_cn, g_iok, g_sok, g_bok, g_jok, g_qok, g_ivl, g_jvl, g_qvl, g_ist, g_bst, g_jst, g_qst, g_aln, g_isa, g_dl1, g_dl2, g_dl3, g_dl4, g_dl5, g_dd, g_rfs, g_rfn, p_sm0, p_sm1, p_sm2, p_sm3, p_sm4, true_and, and_true, if_true, if_false, ↓reduceIte, Nat.reduceEqDiff, reduceCtorEq, or_true, true_or, and_self, Int32.reduceLT, Int32.reduceAdd, Int32.reduceSub, Int32.reduceToNatClampNeg, not_false_eq_true, not_true_eq_false, hr]
  exact this
theorem l168 {n : Nat} (hn : n < 100000) (f : Nat → Int64) (x : Int64) (l2 : Option Value) : ∀ (d i : Nat), i + d = n → V 168 6 [some (.ref r), some (.long x), p_dl l2, some (.int (nI i)), some (.int (nI n))] [] (p_set h r (aJ n (fi f x i))) Q = Q none (p_set h r (aJ n (fi f x n))) := by
  intro d
  induction d with
  | zero =>
    intro i hi
    have e1 := nI_F (a := i) (b := n) (by omega) (by omega)
    have e2 : i = n := by omega
    subst e2
    simp (decide := true) only [e168_0, e168_1, e168_2, e168_3, e168_4, e168_6, e168_7, e168_9, e168_12, e168_13, e168_14, e168_15, e168_16, e168_19, e168_22, m168, Kt_some, Kt_none, V_ite, g_if, g_ss, g_1, g_2, g_cn, g_iok, g_sok, g_bok, g_jok, g_qok, g_ivl, g_jvl, g_qvl, g_ist, g_bst, g_jst, g_qst, g_aln, g_isa, g_dl1, g_dl2, g_dl3, g_dl4, g_dl5, g_dd, g_rfs, g_rfn, p_sm0, p_sm1, p_sm2, p_sm3, p_sm4, true_and, and_true, if_true, if_false, ↓reduceIte, Nat.reduceEqDiff, reduceCtorEq, or_true, true_or, and_self, Int32.reduceLT, Int32.reduceAdd, Int32.reduceSub, Int32.reduceToNatClampNeg, not_false_eq_true, not_true_eq_false, e1]
  | succ d ih =>
    intro i hi
    have e1 := nI_T (a := i) (b := n) (by omega) (by omega)
    have e3 := vp_T (show i < n by omega) (by omega)
    have e4 := nI_c (a := i) (by omega)
    have := ih (i + 1) (by omega)
    rw [e168_6]
    simp (decide := true) only [e168_0, e168_1, e168_2, e168_3, e168_4, e168_7, e168_9, e168_12, e168_13, e168_14, e168_15, e168_16, e168_19, e168_22, m168, Kt_some, Kt_none, V_ite, g_if, g_ss, g_1, g_2, g_cn, g_iok, g_sok, g_bok, g_jok, g_qok, g_ivl, g_jvl, g_qvl, g_ist, g_bst, g_jst, g_qst, g_aln, g_isa, g_dl1, g_dl2, g_dl3, g_dl4, g_dl5, g_dd, g_rfs, g_rfn, p_sm0, p_sm1, p_sm2, p_sm3, p_sm4, true_and, and_true, if_true, if_false, ↓reduceIte, Nat.reduceEqDiff, reduceCtorEq, or_true, true_or, and_self, Int32.reduceLT, Int32.reduceAdd, Int32.reduceSub, Int32.reduceToNatClampNeg, not_false_eq_true, not_true_eq_false, e1, e3, e4, fi_sL, nI_1]
    exact this
theorem c168 {n : Nat} {f : Nat → Int64} (hn : n < 100000) (hr : p_get h r = some (aJ n f)) {x : Int64} : Vm 168 [.ref r, .long x] h Q = Q none (p_set h r (aJ n (fi f x n))) := by
  have := l168 (Q := Q) (h := h) (r := r) hn f x none n 0 (by omega)
  rw [fi_0, g_same hr] at this
  simp (decide := true) only [e168_0, e168_1, e168_2, e168_3, e168_4, e168_7, e168_9, e168_12, e168_13, e168_14, e168_15, e168_16, e168_19, e168_22, m168, Kt_some, Kt_none, V_ite, g_if, g_ss, g_1, g_2, g_cn, g_iok, g_sok, g_bok, g_jok, g_qok, g_ivl, g_jvl, g_qvl, g_ist, g_bst, g_jst, g_qst, g_aln, g_isa, g_dl1, g_dl2, g_dl3, g_dl4, g_dl5, g_dd, g_rfs, g_rfn, p_sm0, p_sm1, p_sm2, p_sm3, p_sm4, true_and, and_true, if_true, if_false, ↓reduceIte, Nat.reduceEqDiff, reduceCtorEq, or_true, true_or, and_self, Int32.reduceLT, Int32.reduceAdd, Int32.reduceSub, Int32.reduceToNatClampNeg, not_false_eq_true, not_true_eq_false, hr]
  exact this
/-- Stair.empty -/
theorem c55 (hS : p_get h s = some (oS p q nb)) (hp : p_get h p = some (aI 4 fh)) (hr : p_get h r = some (aI 4 f)) (hrs : s ≠ r) (hrp : p ≠ r) : Vm 55 [.ref s, .ref r] h Q = Q none (p_set h r (aI 4 (upd (fi f 0 4) 0 (fh 0)))) := by
  simp (decide := true) only [e55_0, e55_0n, e55_1, e55_2, e55_5, e55_5n, e55_6, e55_7, e55_8, e55_11, e55_12, e55_13, e55_14, m55, ok_9_0_9, fv3_0, Kt_some, Kt_none, V_ite, g_if, g_ss, g_1, g_2, g_cn, g_iok, g_sok, g_bok, g_jok, g_qok, g_ivl, g_jvl, g_qvl, g_ist, g_bst, g_jst, g_qst, g_aln, g_isa, g_dl1, g_dl2, g_dl3, g_dl4, g_dl5, g_dd, g_rfs, g_rfn, p_sm0, p_sm1, p_sm2, p_sm3, p_sm4, true_and, and_true, if_true, if_false, ↓reduceIte, Nat.reduceEqDiff, reduceCtorEq, or_true, true_or, and_self, Int32.reduceLT, Int32.reduceAdd, Int32.reduceSub, Int32.reduceToNatClampNeg, not_false_eq_true, not_true_eq_false, c169 (show 4 < 100000 by omega) hr, g_ne hrs, g_ne hrp, hrs, hrp, hS, hp, vp_0 (show 0 < 4 by omega)]
/-- Stair.couldFloat -/
def cf (H : Nat → Int32) (k : Int32) : Nat → Nat → Bool
  | 0, _ => true
  | d + 1, i => if H i < k then false else cf H k d (i + 1)
theorem l57 {n : Nat} (hS : p_get h s = some (oS p q (nI n))) (hp : p_get h p = some (aI 4 fh)) (hn : n ≤ 4) (k : Int32) : ∀ (d i : Nat) (l1 : Option Value), i + d = n → V 57 6 [some (.ref s), l1, some (.int k), some (.int (nI i))] [] h Q = if cf fh k d i = true then Q (some (.int 1)) h else Q (some (.int 0)) h := by
  intro d
  induction d with
  | zero =>
    intro i l1 hi
    have e1 := nI_F (a := i) (b := n) (by omega) (by omega)
    simp (decide := true) only [e57_0, e57_1, e57_2, e57_5, e57_6, e57_7, e57_8, e57_11, e57_14, e57_15, e57_18, e57_19, e57_20, e57_21, e57_24, e57_25, e57_26, e57_29, e57_32, e57_33, m57, ok_9_2_9, fv3_2, ok_9_0_9, fv3_0, Kt_some, Kt_none, V_ite, g_if, g_ss, g_1, g_2, g_cn, g_iok, g_sok, g_bok, g_jok, g_qok, g_ivl, g_jvl, g_qvl, g_ist, g_bst, g_jst, g_qst, g_aln, g_isa, g_dl1, g_dl2, g_dl3, g_dl4, g_dl5, g_dd, g_rfs, g_rfn, p_sm0, p_sm1, p_sm2, p_sm3, p_sm4, true_and, and_true, if_true, if_false, ↓reduceIte, Nat.reduceEqDiff, reduceCtorEq, or_true, true_or, and_self, Int32.reduceLT, Int32.reduceAdd, Int32.reduceSub, Int32.reduceToNatClampNeg, not_false_eq_true, not_true_eq_false, hS, e1, cf]
  | succ d ih =>
    intro i l1 hi
    have e1 := nI_T (a := i) (b := n) (by omega) (by omega)
    have e3 := vp_T (show i < 4 by omega) (by omega)
    have e4 := nI_c (a := i) (by omega)
    rw [e57_6]
    simp (decide := true) only [e57_0, e57_1, e57_2, e57_5, e57_7, e57_8, e57_11, e57_14, e57_15, e57_18, e57_19, e57_20, e57_21, e57_24, e57_25, e57_26, e57_29, e57_32, e57_33, m57, ok_9_2_9, fv3_2, ok_9_0_9, fv3_0, Kt_some, Kt_none, V_ite, g_if, g_ss, g_1, g_2, g_cn, g_iok, g_sok, g_bok, g_jok, g_qok, g_ivl, g_jvl, g_qvl, g_ist, g_bst, g_jst, g_qst, g_aln, g_isa, g_dl1, g_dl2, g_dl3, g_dl4, g_dl5, g_dd, g_rfs, g_rfn, p_sm0, p_sm1, p_sm2, p_sm3, p_sm4, true_and, and_true, if_true, if_false, ↓reduceIte, Nat.reduceEqDiff, reduceCtorEq, or_true, true_or, and_self, Int32.reduceLT, Int32.reduceAdd, Int32.reduceSub, Int32.reduceToNatClampNeg, not_false_eq_true, not_true_eq_false, hS, hp, e1, e3, e4, nI_1]
    rw [ih (i + 1) l1 (by omega)]
    by_cases hk : fh i < k <;> simp [cf, hk]
theorem c57 {n i : Nat} (hS : p_get h s = some (oS p q (nI n))) (hp : p_get h p = some (aI 4 fh)) (hn : n ≤ 4) (hi : i < n) {k : Int32} : Vm 57 [.ref s, .int (nI i), .int k] h Q = if cf fh k (n - i) i = true then Q (some (.int 1)) h else Q (some (.int 0)) h := by
  have e1 : mx 0 (nI i) = nI i := by
    unfold mx
    split
    · rfl
    · rename_i hh
      have h0 : ¬ 0 < i := fun q => hh (nI_lt (a := 0) (b := i) q (by omega))
      have : i = 0 := by omega
      subst this
      rfl
  have := l57 (Q := Q) hS hp hn k (n - i) i (some (.int (nI i))) (by omega)
  simp (decide := true) only [e57_0, e57_1, e57_2, e57_5, e57_7, e57_8, e57_11, e57_14, e57_15, e57_18, e57_19, e57_20, e57_21, e57_24, e57_25, e57_26, e57_29, e57_32, e57_33, m57, ok_9_2_9, fv3_2, ok_9_0_9, fv3_0, Kt_some, Kt_none, V_ite, g_if, g_ss, g_1, g_2, g_cn, g_iok, g_sok, g_bok, g_jok, g_qok, g_ivl, g_jvl, g_qvl, g_ist, g_bst, g_jst, g_qst, g_aln, g_isa, g_dl1, g_dl2, g_dl3, g_dl4, g_dl5, g_dd, g_rfs, g_rfn, p_sm0, p_sm1, p_sm2, p_sm3, p_sm4, true_and, and_true, if_true, if_false, ↓reduceIte, Nat.reduceEqDiff, reduceCtorEq, or_true, true_or, and_self, Int32.reduceLT, Int32.reduceAdd, Int32.reduceSub, Int32.reduceToNatClampNeg, not_false_eq_true, not_true_eq_false, mx_e, e1]
  exact this
/-- which code may stand at a place -/
def ft (i : Nat) (c : Int32) : Bool := if 11 ≤ i then false else if i % 3 = 0 then (if c < 49 then false else if 53 < c then false else true) else if i % 3 = 1 then (if c < 48 then false else if 53 < c then false else true) else decide (c = 47)
theorem c34 {i : Nat} (hi : i < 100) {c : Int32} : Vm 34 [.int (nI i), .int c] h Q = if ft i c = true then Q (some (.int 1)) h else Q (some (.int 0)) h := by
  unfold ft
  by_cases h11 : 11 ≤ i
  · have e1 : (nI i < 11) = False := nI_F (a := i) (b := 11) h11 (by omega)
    simp (decide := true) only [e34_0, e34_1, e34_3, e34_6, e34_7, e34_8, e34_9, e34_10, e34_11, e34_36, e34_37, e34_39, e34_42, e34_43, e34_45, e34_48, e34_49, e34_52, e34_53, e34_54, e34_55, e34_57, e34_60, e34_61, e34_63, e34_66, e34_67, e34_70, e34_71, e34_72, e34_73, e34_75, e34_78, e34_79, e34_82, e34_83, m34, Kt_some, Kt_none, V_ite, g_if, g_ss, g_1, g_2, g_cn, g_iok, g_sok, g_bok, g_jok, g_qok, g_ivl, g_jvl, g_qvl, g_ist, g_bst, g_jst, g_qst, g_aln, g_isa, g_dl1, g_dl2, g_dl3, g_dl4, g_dl5, g_dd, g_rfs, g_rfn, p_sm0, p_sm1, p_sm2, p_sm3, p_sm4, true_and, and_true, if_true, if_false, ↓reduceIte, Nat.reduceEqDiff, reduceCtorEq, or_true, true_or, and_self, Int32.reduceLT, Int32.reduceAdd, Int32.reduceSub, Int32.reduceToNatClampNeg, not_false_eq_true, not_true_eq_false, e1, h11]
  · have e1 : (nI i < 11) = True := nI_T (a := i) (b := 11) (by omega) (by omega)
    have e2 : nI i - nI i / 3 * 3 = nI (i % 3) := pk_rem (d := 3) (by omega) (by omega) (by omega)
    rcases (show i % 3 = 0 ∨ i % 3 = 1 ∨ i % 3 = 2 by omega) with h3 | h3 | h3
    · simp (decide := true) only [e34_0, e34_1, e34_3, e34_6, e34_7, e34_8, e34_9, e34_10, e34_11, e34_36, e34_37, e34_39, e34_42, e34_43, e34_45, e34_48, e34_49, e34_52, e34_53, e34_54, e34_55, e34_57, e34_60, e34_61, e34_63, e34_66, e34_67, e34_70, e34_71, e34_72, e34_73, e34_75, e34_78, e34_79, e34_82, e34_83, m34, Kt_some, Kt_none, V_ite, g_if, g_ss, g_1, g_2, g_cn, g_iok, g_sok, g_bok, g_jok, g_qok, g_ivl, g_jvl, g_qvl, g_ist, g_bst, g_jst, g_qst, g_aln, g_isa, g_dl1, g_dl2, g_dl3, g_dl4, g_dl5, g_dd, g_rfs, g_rfn, p_sm0, p_sm1, p_sm2, p_sm3, p_sm4, true_and, and_true, if_true, if_false, ↓reduceIte, Nat.reduceEqDiff, reduceCtorEq, or_true, true_or, and_self, Int32.reduceLT, Int32.reduceAdd, Int32.reduceSub, Int32.reduceToNatClampNeg, not_false_eq_true, not_true_eq_false, e1, e2, h3, h11, show nI 0 = 0 from rfl]
      by_cases hA : c < 49 <;> by_cases hB : (53 : Int32) < c <;> simp [hA, hB]
    · simp (decide := true) only [e34_0, e34_1, e34_3, e34_6, e34_7, e34_8, e34_9, e34_10, e34_11, e34_36, e34_37, e34_39, e34_42, e34_43, e34_45, e34_48, e34_49, e34_52, e34_53, e34_54, e34_55, e34_57, e34_60, e34_61, e34_63, e34_66, e34_67, e34_70, e34_71, e34_72, e34_73, e34_75, e34_78, e34_79, e34_82, e34_83, m34, Kt_some, Kt_none, V_ite, g_if, g_ss, g_1, g_2, g_cn, g_iok, g_sok, g_bok, g_jok, g_qok, g_ivl, g_jvl, g_qvl, g_ist, g_bst, g_jst, g_qst, g_aln, g_isa, g_dl1, g_dl2, g_dl3, g_dl4, g_dl5, g_dd, g_rfs, g_rfn, p_sm0, p_sm1, p_sm2, p_sm3, p_sm4, true_and, and_true, if_true, if_false, ↓reduceIte, Nat.reduceEqDiff, reduceCtorEq, or_true, true_or, and_self, Int32.reduceLT, Int32.reduceAdd, Int32.reduceSub, Int32.reduceToNatClampNeg, not_false_eq_true, not_true_eq_false, e1, e2, h3, h11, show nI 1 = 1 from rfl]
      by_cases hA : c < 48 <;> by_cases hB : (53 : Int32) < c <;> simp [hA, hB]
    · simp (decide := true) only [e34_0, e34_1, e34_3, e34_6, e34_7, e34_8, e34_9, e34_10, e34_11, e34_36, e34_37, e34_39, e34_42, e34_43, e34_45, e34_48, e34_49, e34_52, e34_53, e34_54, e34_55, e34_57, e34_60, e34_61, e34_63, e34_66, e34_67, e34_70, e34_71, e34_72, e34_73, e34_75, e34_78, e34_79, e34_82, e34_83, m34, Kt_some, Kt_none, V_ite, g_if, g_ss, g_1, g_2, g_cn, g_iok, g_sok, g_bok, g_jok, g_qok, g_ivl, g_jvl, g_qvl, g_ist, g_bst, g_jst, g_qst, g_aln, g_isa, g_dl1, g_dl2, g_dl3, g_dl4, g_dl5, g_dd, g_rfs, g_rfn, p_sm0, p_sm1, p_sm2, p_sm3, p_sm4, true_and, and_true, if_true, if_false, ↓reduceIte, Nat.reduceEqDiff, reduceCtorEq, or_true, true_or, and_self, Int32.reduceLT, Int32.reduceAdd, Int32.reduceSub, Int32.reduceToNatClampNeg, not_false_eq_true, not_true_eq_false, e1, e2, h3, h11, show nI 2 = 2 from rfl]
      by_cases hA : c = 47 <;> simp [hA]
/-- the first fault -/
def ff (f : Nat → Int32) : Nat → Nat → Nat
  | 0, i => i
  | d + 1, i => if ft i (f i) = true then ff f d (i + 1) else i
theorem l33 {n : Nat} (hP : p_get h s = some (oP p (nI n))) (hp : p_get h p = some (aI 14 f)) (hn : n ≤ 14) : ∀ (d i : Nat), i + d = n → V 33 2 [some (.ref s), some (.int (nI i))] [] h Q = Q (some (.int (nI (ff f d i)))) h := by
  intro d
  induction d with
  | zero =>
    intro i hi
    have e1 := nI_F (a := i) (b := n) (by omega) (by omega)
    have e2 : i = n := by omega
    subst e2
    simp (decide := true) only [e33_0, e33_1, e33_2, e33_3, e33_4, e33_7, e33_10, e33_11, e33_12, e33_15, e33_16, e33_17, e33_20, e33_23, e33_24, e33_25, e33_28, e33_31, e33_32, e33_35, m33, ok_6_1_6, fv2_1, ok_6_0_6, fv2_0, Kt_some, Kt_none, V_ite, g_if, g_ss, g_1, g_2, g_cn, g_iok, g_sok, g_bok, g_jok, g_qok, g_ivl, g_jvl, g_qvl, g_ist, g_bst, g_jst, g_qst, g_aln, g_isa, g_dl1, g_dl2, g_dl3, g_dl4, g_dl5, g_dd, g_rfs, g_rfn, p_sm0, p_sm1, p_sm2, p_sm3, p_sm4, true_and, and_true, if_true, if_false, ↓reduceIte, Nat.reduceEqDiff, reduceCtorEq, or_true, true_or, and_self, Int32.reduceLT, Int32.reduceAdd, Int32.reduceSub, Int32.reduceToNatClampNeg, not_false_eq_true, not_true_eq_false, hP, e1, ff]
  | succ d ih =>
    intro i hi
    have e1 := nI_T (a := i) (b := n) (by omega) (by omega)
    have e3 := vp_T (show i < 14 by omega) (by omega)
    have e4 := nI_c (a := i) (by omega)
    rw [e33_2]
    simp (decide := true) only [e33_0, e33_1, e33_3, e33_4, e33_7, e33_10, e33_11, e33_12, e33_15, e33_16, e33_17, e33_20, e33_23, e33_24, e33_25, e33_28, e33_31, e33_32, e33_35, m33, ok_6_1_6, fv2_1, ok_6_0_6, fv2_0, Kt_some, Kt_none, V_ite, g_if, g_ss, g_1, g_2, g_cn, g_iok, g_sok, g_bok, g_jok, g_qok, g_ivl, g_jvl, g_qvl, g_ist, g_bst, g_jst, g_qst, g_aln, g_isa, g_dl1, g_dl2, g_dl3, g_dl4, g_dl5, g_dd, g_rfs, g_rfn, p_sm0, p_sm1, p_sm2, p_sm3, p_sm4, true_and, and_true, if_true, if_false, ↓reduceIte, Nat.reduceEqDiff, reduceCtorEq, or_true, true_or, and_self, Int32.reduceLT, Int32.reduceAdd, Int32.reduceSub, Int32.reduceToNatClampNeg, not_false_eq_true, not_true_eq_false, hP, hp, e1, e3, e4, c34 (show i < 100 by omega), nI_1]
    rw [ih (i + 1) (by omega)]
    by_cases hk : ft i (f i) = true <;> simp [ff, hk]
theorem c33 {n : Nat} (hP : p_get h s = some (oP p (nI n))) (hp : p_get h p = some (aI 14 f)) (hn : n ≤ 14) : Vm 33 [.ref s] h Q = Q (some (.int (nI (ff f n 0)))) h := by
  have := l33 (Q := Q) hP hp hn n 0 (by omega)
  simp (decide := true) only [e33_0, e33_1, e33_3, e33_4, e33_7, e33_10, e33_11, e33_12, e33_15, e33_16, e33_17, e33_20, e33_23, e33_24, e33_25, e33_28, e33_31, e33_32, e33_35, m33, ok_6_1_6, fv2_1, ok_6_0_6, fv2_0, Kt_some, Kt_none, V_ite, g_if, g_ss, g_1, g_2, g_cn, g_iok, g_sok, g_bok, g_jok, g_qok, g_ivl, g_jvl, g_qvl, g_ist, g_bst, g_jst, g_qst, g_aln, g_isa, g_dl1, g_dl2, g_dl3, g_dl4, g_dl5, g_dd, g_rfs, g_rfn, p_sm0, p_sm1, p_sm2, p_sm3, p_sm4, true_and, and_true, if_true, if_false, ↓reduceIte, Nat.reduceEqDiff, reduceCtorEq, or_true, true_or, and_self, Int32.reduceLT, Int32.reduceAdd, Int32.reduceSub, Int32.reduceToNatClampNeg, not_false_eq_true, not_true_eq_false]
  exact this
theorem ff_le (f : Nat → Int32) : ∀ d i, ff f d i ≤ i + d
  | 0, i => Nat.le_refl _
  | d + 1, i => by
    unfold ff
    have := ff_le f d (i + 1)
    split <;> omega
theorem c35 {n : Nat} (hP : p_get h s = some (oP p (nI n))) (hp : p_get h p = some (aI 14 f)) (hn : n ≤ 14) : Vm 35 [.ref s] h Q = if 5 ≤ n ∧ n % 3 = 2 ∧ ff f n 0 = n then Q (some (.int 1)) h else Q (some (.int 0)) h := by
  by_cases h5 : 5 ≤ n
  · have e1 : (nI n < 5) = False := nI_F (a := n) (b := 5) h5 (by omega)
    have e2 : nI n - nI n / 3 * 3 = nI (n % 3) := pk_rem (d := 3) (by omega) (by omega) (by omega)
    by_cases h3 : n % 3 = 2
    · have e3 : (nI (n % 3) = 2) = True := eq_true (by rw [h3]; rfl)
      by_cases hf : ff f n 0 = n
      · have e4 : (nI (ff f n 0) = nI n) = True := eq_true (by rw [hf])
        simp (decide := true) only [e35_0, e35_1, e35_4, e35_5, e35_8, e35_9, e35_12, e35_13, e35_14, e35_15, e35_18, e35_19, e35_22, e35_23, e35_26, e35_29, e35_30, e35_33, e35_34, m35, ok_6_1_6, fv2_1, Kt_some, Kt_none, V_ite, g_if, g_ss, g_1, g_2, g_cn, g_iok, g_sok, g_bok, g_jok, g_qok, g_ivl, g_jvl, g_qvl, g_ist, g_bst, g_jst, g_qst, g_aln, g_isa, g_dl1, g_dl2, g_dl3, g_dl4, g_dl5, g_dd, g_rfs, g_rfn, p_sm0, p_sm1, p_sm2, p_sm3, p_sm4, true_and, and_true, if_true, if_false, ↓reduceIte, Nat.reduceEqDiff, reduceCtorEq, or_true, true_or, and_self, Int32.reduceLT, Int32.reduceAdd, Int32.reduceSub, Int32.reduceToNatClampNeg, not_false_eq_true, not_true_eq_false, hP, c33 hP hp hn, e1, e2, e3, e4, h5, h3, hf]
      · have hle := ff_le f n 0
        have e4 : (nI (ff f n 0) = nI n) = False := eq_false (fun q => hf ((nI_eq (by omega) (by omega)).mp q))
        simp (decide := true) only [e35_0, e35_1, e35_4, e35_5, e35_8, e35_9, e35_12, e35_13, e35_14, e35_15, e35_18, e35_19, e35_22, e35_23, e35_26, e35_29, e35_30, e35_33, e35_34, m35, ok_6_1_6, fv2_1, Kt_some, Kt_none, V_ite, g_if, g_ss, g_1, g_2, g_cn, g_iok, g_sok, g_bok, g_jok, g_qok, g_ivl, g_jvl, g_qvl, g_ist, g_bst, g_jst, g_qst, g_aln, g_isa, g_dl1, g_dl2, g_dl3, g_dl4, g_dl5, g_dd, g_rfs, g_rfn, p_sm0, p_sm1, p_sm2, p_sm3, p_sm4, true_and, and_true, if_true, if_false, ↓reduceIte, Nat.reduceEqDiff, reduceCtorEq, or_true, true_or, and_self, Int32.reduceLT, Int32.reduceAdd, Int32.reduceSub, Int32.reduceToNatClampNeg, not_false_eq_true, not_true_eq_false, hP, c33 hP hp hn, e1, e2, e3, e4, h5, h3, hf, and_false]
    · have e3 : (nI (n % 3) = 2) = False := eq_false (fun q => h3 ((nI_eq (a := n % 3) (b := 2) (by omega) (by omega)).mp q))
      simp (decide := true) only [e35_0, e35_1, e35_4, e35_5, e35_8, e35_9, e35_12, e35_13, e35_14, e35_15, e35_18, e35_19, e35_22, e35_23, e35_26, e35_29, e35_30, e35_33, e35_34, m35, ok_6_1_6, fv2_1, Kt_some, Kt_none, V_ite, g_if, g_ss, g_1, g_2, g_cn, g_iok, g_sok, g_bok, g_jok, g_qok, g_ivl, g_jvl, g_qvl, g_ist, g_bst, g_jst, g_qst, g_aln, g_isa, g_dl1, g_dl2, g_dl3, g_dl4, g_dl5, g_dd, g_rfs, g_rfn, p_sm0, p_sm1, p_sm2, p_sm3, p_sm4, true_and, and_true, if_true, if_false, ↓reduceIte, Nat.reduceEqDiff, reduceCtorEq, or_true, true_or, and_self, Int32.reduceLT, Int32.reduceAdd, Int32.reduceSub, Int32.reduceToNatClampNeg, not_false_eq_true, not_true_eq_false, hP, e1, e2, e3, h5, h3, and_false, false_and]
  · have e1 : (nI n < 5) = True := nI_T (a := n) (b := 5) (by omega) (by omega)
    simp (decide := true) only [e35_0, e35_1, e35_4, e35_5, e35_8, e35_9, e35_12, e35_13, e35_14, e35_15, e35_18, e35_19, e35_22, e35_23, e35_26, e35_29, e35_30, e35_33, e35_34, m35, ok_6_1_6, fv2_1, Kt_some, Kt_none, V_ite, g_if, g_ss, g_1, g_2, g_cn, g_iok, g_sok, g_bok, g_jok, g_qok, g_ivl, g_jvl, g_qvl, g_ist, g_bst, g_jst, g_qst, g_aln, g_isa, g_dl1, g_dl2, g_dl3, g_dl4, g_dl5, g_dd, g_rfs, g_rfn, p_sm0, p_sm1, p_sm2, p_sm3, p_sm4, true_and, and_true, if_true, if_false, ↓reduceIte, Nat.reduceEqDiff, reduceCtorEq, or_true, true_or, and_self, Int32.reduceLT, Int32.reduceAdd, Int32.reduceSub, Int32.reduceToNatClampNeg, not_false_eq_true, not_true_eq_false, hP, e1, h5, false_and]
end S17
