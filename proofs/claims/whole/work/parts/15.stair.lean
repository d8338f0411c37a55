/-! the class's Stair -/
abbrev aI (n : Nat) (f : Nat → Int32) : pE := .inl (0, n, .inl f)
abbrev oS (p q : Nat) (nb : Int32) : pE := .inr (9, [.ref p, .ref q, .int nb])
def mn (a b : Int32) : Int32 := if b < a then b else a
def mx (a b : Int32) : Int32 := if a < b then b else a
theorem mn_e (a b : Int32) : (if b < a then b else a) = mn a b := rfl
theorem mx_e (a b : Int32) : (if a < b then b else a) = mx a b := rfl
theorem nI_T {a b : Nat} (h : a < b) (hb : b < 2147483648) : (nI a < nI b) = True := eq_true (nI_lt h hb)
theorem nI_F {a b : Nat} (h : b ≤ a) (ha : a < 2147483648) : (nI a < nI b) = False := eq_false (nI_nlt h ha)
theorem nI_0F {a : Nat} (ha : a < 2147483648) : (nI a < 0) = False := eq_false (nI_pos ha)
theorem vp_T {a n : Nat} (h : a < n) (hn : n < 2147483648) : vp_in (nI a) n = True := eq_true (vp_in_nI h hn)
theorem nI_c {a : Nat} (h : a < 2147483648) : (nI a).toNatClampNeg = a := nI_clamp h
theorem g_dd (x : Option Value) : p_dl (p_dl x) = p_dl x := by
  cases x with
  | none => rfl
  | some v => cases v <;> rfl
theorem vp_0 {n : Nat} (hn : 0 < n) : vp_in 0 n = True := by
  refine eq_true (fun q => ?_)
  rcases q with q | q
  · exact absurd q (by decide)
  · have e : (0 : Int32).toNatClampNeg = 0 := rfl
    omega
theorem g_eq {h : pH} {a : Nat} {e : pE} : p_get (p_set h a e) a = some e := by simp [g_if]
theorem g_ne {h : pH} {a b : Nat} {e : pE} (hne : b ≠ a) : p_get (p_set h a e) b = p_get h b := by simp [g_if, hne]
theorem g_same {h : pH} {a : Nat} {e : pE} (hg : p_get h a = some e) : p_set h a e = h := by
  unfold p_set p_get at *
  have : va_up h.2.2 a (some e) = h.2.2 := by
    funext j
    unfold va_up
    by_cases hj : j = a
    · rw [if_pos hj, hj, hg]
    · rw [if_neg hj]
  rw [this]
section S15
variable {h : pH} {Q : Option Value → pH → Prop} {s p q r : Nat} {nb b k : Int32} {fh fl f : Nat → Int32}
theorem c53 (hS : p_get h s = some (oS p q nb)) : Vm 53 [.ref s, .int b] h Q = if b < 0 then Q (some (.int 0)) h else if b < nb then Q (some (.int 1)) h else Q (some (.int 0)) h := by
  simp (decide := true) only [e53_0, e53_1, e53_4, e53_5, e53_6, e53_9, e53_12, e53_13, e53_16, e53_17, m53, ok_9_2_9, fv3_2, Kt_some, Kt_none, V_ite, g_if, g_ss, g_1, g_2, g_cn, g_iok, g_sok, g_bok, g_jok, g_qok, g_ivl, g_jvl, g_qvl, g_ist, g_bst, g_jst, g_qst, g_aln, g_isa, g_dl1, g_dl2, g_dl3, g_dl4, g_dl5, g_dd, g_rfs, g_rfn, p_sm0, p_sm1, p_sm2, p_sm3, p_sm4, true_and, and_true, if_true, if_false, ↓reduceIte, Nat.reduceEqDiff, reduceCtorEq, or_true, true_or, and_self, Int32.reduceLT, Int32.reduceAdd, Int32.reduceSub, Int32.reduceToNatClampNeg, not_false_eq_true, not_true_eq_false, hS]
theorem c54 (hS : p_get h s = some (oS p q nb)) : Vm 54 [.ref s] h Q = Q (some (.int (nb - 1))) h := by
  simp (decide := true) only [e54_0, e54_1, e54_4, e54_5, e54_6, m54, ok_9_2_9, fv3_2, Kt_some, Kt_none, V_ite, g_if, g_ss, g_1, g_2, g_cn, g_iok, g_sok, g_bok, g_jok, g_qok, g_ivl, g_jvl, g_qvl, g_ist, g_bst, g_jst, g_qst, g_aln, g_isa, g_dl1, g_dl2, g_dl3, g_dl4, g_dl5, g_dd, g_rfs, g_rfn, p_sm0, p_sm1, p_sm2, p_sm3, p_sm4, true_and, and_true, if_true, if_false, ↓reduceIte, Nat.reduceEqDiff, reduceCtorEq, or_true, true_or, and_self, Int32.reduceLT, Int32.reduceAdd, Int32.reduceSub, Int32.reduceToNatClampNeg, not_false_eq_true, not_true_eq_false, hS]
theorem c56 (hS : p_get h s = some (oS p q nb)) (hr : p_get h r = some (aI 4 f)) : Vm 56 [.ref s, .ref r, .int b, .int k] h Q = if b < 0 then Q (some (.int 0)) h else if b < nb then (vp_in b 4 ∧ if f b.toNatClampNeg < k then Q (some (.int 0)) h else Q (some (.int 1)) h) else Q (some (.int 0)) h := by
  simp (decide := true) only [e56_0, e56_1, e56_2, e56_5, e56_8, e56_8n, e56_9, e56_10, e56_11, e56_12, e56_15, e56_16, e56_19, e56_20, m56, Kt_some, Kt_none, V_ite, g_if, g_ss, g_1, g_2, g_cn, g_iok, g_sok, g_bok, g_jok, g_qok, g_ivl, g_jvl, g_qvl, g_ist, g_bst, g_jst, g_qst, g_aln, g_isa, g_dl1, g_dl2, g_dl3, g_dl4, g_dl5, g_dd, g_rfs, g_rfn, p_sm0, p_sm1, p_sm2, p_sm3, p_sm4, true_and, and_true, if_true, if_false, ↓reduceIte, Nat.reduceEqDiff, reduceCtorEq, or_true, true_or, and_self, Int32.reduceLT, Int32.reduceAdd, Int32.reduceSub, Int32.reduceToNatClampNeg, not_false_eq_true, not_true_eq_false, hS, c53 hS, hr]
theorem c58 (hS : p_get h s = some (oS p q nb)) (hr : p_get h r = some (aI 4 f)) {i : Nat} {n : Nat} (hnb : nb = nI n) (hi : i < n) (hn : n ≤ 4) : Vm 58 [.ref s, .ref r, .int (nI i), .int k] h Q = if f i < k then Q (some (.int 0)) h else if i + 1 < n then (if f (i + 1) < k then Q (some (.int 0)) h else Q (some (.int 1)) h) else Q (some (.int 0)) h := by
  subst hnb
  have e1 := nI_0F (a := i) (by omega)
  have e2 := nI_T hi (by omega)
  have e3 := vp_T (show i < 4 by omega) (by omega)
  have e4 := nI_c (a := i) (by omega)
  have e5 := nI_0F (a := i + 1) (by omega)
  have e6 := nI_c (a := i + 1) (by omega)
  simp (decide := true) only [e58_0, e58_1, e58_1n, e58_2, e58_3, e58_4, e58_7, e58_10, e58_11, e58_11n, e58_12, e58_13, e58_14, e58_15, e58_16, e58_19, e58_22, e58_23, e58_26, e58_27, m58, Kt_some, Kt_none, V_ite, g_if, g_ss, g_1, g_2, g_cn, g_iok, g_sok, g_bok, g_jok, g_qok, g_ivl, g_jvl, g_qvl, g_ist, g_bst, g_jst, g_qst, g_aln, g_isa, g_dl1, g_dl2, g_dl3, g_dl4, g_dl5, g_dd, g_rfs, g_rfn, p_sm0, p_sm1, p_sm2, p_sm3, p_sm4, true_and, and_true, if_true, if_false, ↓reduceIte, Nat.reduceEqDiff, reduceCtorEq, or_true, true_or, and_self, Int32.reduceLT, Int32.reduceAdd, Int32.reduceSub, Int32.reduceToNatClampNeg, not_false_eq_true, not_true_eq_false, hS, c56 hS hr, e1, e2, e3, e4, nI_1, e5, e6]
  by_cases hi2 : i + 1 < n
  · have e7 := nI_T hi2 (by omega)
    have e8 := vp_T (show i + 1 < 4 by omega) (by omega)
    simp (decide := true) only [e7, e8, hi2, Kt_some, Kt_none, V_ite, g_if, g_ss, g_1, g_2, g_cn, g_iok, g_sok, g_bok, g_jok, g_qok, g_ivl, g_jvl, g_qvl, g_ist, g_bst, g_jst, g_qst, g_aln, g_isa, g_dl1, g_dl2, g_dl3, g_dl4, g_dl5, g_dd, g_rfs, g_rfn, p_sm0, p_sm1, p_sm2, p_sm3, p_sm4, true_and, and_true, if_true, if_false, ↓reduceIte, Nat.reduceEqDiff, reduceCtorEq, or_true, true_or, and_self, Int32.reduceLT, Int32.reduceAdd, Int32.reduceSub, Int32.reduceToNatClampNeg, not_false_eq_true, not_true_eq_false]
  · have e7 := nI_F (a := i + 1) (b := n) (by omega) (by omega)
    simp (decide := true) only [e7, hi2, Kt_some, Kt_none, V_ite, g_if, g_ss, g_1, g_2, g_cn, g_iok, g_sok, g_bok, g_jok, g_qok, g_ivl, g_jvl, g_qvl, g_ist, g_bst, g_jst, g_qst, g_aln, g_isa, g_dl1, g_dl2, g_dl3, g_dl4, g_dl5, g_dd, g_rfs, g_rfn, p_sm0, p_sm1, p_sm2, p_sm3, p_sm4, true_and, and_true, if_true, if_false, ↓reduceIte, Nat.reduceEqDiff, reduceCtorEq, or_true, true_or, and_self, Int32.reduceLT, Int32.reduceAdd, Int32.reduceSub, Int32.reduceToNatClampNeg, not_false_eq_true, not_true_eq_false]
theorem c62 (hS : p_get h s = some (oS p q nb)) (hq : p_get h q = some (aI 4 fl)) : Vm 62 [.ref s, .int b, .int k] h Q = if b < 0 then Q (some (.int 0)) h else if b < nb then (vp_in b 4 ∧ Q (some (.int (mx 0 (k - fl b.toNatClampNeg)))) h) else Q (some (.int 0)) h := by
  simp (decide := true) only [e62_0, e62_1, e62_2, e62_5, e62_8, e62_9, e62_10, e62_11, e62_14, e62_15, e62_16, e62_17, e62_20, e62_23, e62_24, m62, ok_9_1_9, fv3_1, Kt_some, Kt_none, V_ite, g_if, g_ss, g_1, g_2, g_cn, g_iok, g_sok, g_bok, g_jok, g_qok, g_ivl, g_jvl, g_qvl, g_ist, g_bst, g_jst, g_qst, g_aln, g_isa, g_dl1, g_dl2, g_dl3, g_dl4, g_dl5, g_dd, g_rfs, g_rfn, p_sm0, p_sm1, p_sm2, p_sm3, p_sm4, true_and, and_true, if_true, if_false, ↓reduceIte, Nat.reduceEqDiff, reduceCtorEq, or_true, true_or, and_self, Int32.reduceLT, Int32.reduceAdd, Int32.reduceSub, Int32.reduceToNatClampNeg, not_false_eq_true, not_true_eq_false, hS, c53 hS, hq, mx_e]
theorem c63 (hS : p_get h s = some (oS p q nb)) (hp : p_get h p = some (aI 4 fh)) : Vm 63 [.ref s, .int b, .int k] h Q = if b < 0 then Q (some (.int 0)) h else if b < nb then (vp_in b 4 ∧ Q (some (.int (mn k (fh b.toNatClampNeg)))) h) else Q (some (.int 0)) h := by
  simp (decide := true) only [e63_0, e63_1, e63_2, e63_5, e63_8, e63_9, e63_10, e63_13, e63_14, e63_15, e63_18, e63_21, e63_22, m63, ok_9_0_9, fv3_0, Kt_some, Kt_none, V_ite, g_if, g_ss, g_1, g_2, g_cn, g_iok, g_sok, g_bok, g_jok, g_qok, g_ivl, g_jvl, g_qvl, g_ist, g_bst, g_jst, g_qst, g_aln, g_isa, g_dl1, g_dl2, g_dl3, g_dl4, g_dl5, g_dd, g_rfs, g_rfn, p_sm0, p_sm1, p_sm2, p_sm3, p_sm4, true_and, and_true, if_true, if_false, ↓reduceIte, Nat.reduceEqDiff, reduceCtorEq, or_true, true_or, and_self, Int32.reduceLT, Int32.reduceAdd, Int32.reduceSub, Int32.reduceToNatClampNeg, not_false_eq_true, not_true_eq_false, hS, c53 hS, hp, mn_e]
theorem c59 (hS : p_get h s = some (oS p q nb)) (hr : p_get h r = some (aI 4 f)) {i : Nat} {n : Nat} (hnb : nb = nI n) (hi : i < n) (hn : n ≤ 4) : Vm 59 [.ref s, .ref r, .int (nI i), .int k] h Q = Q none (p_set h r (aI 4 (if i = 0 then f else upd f i (f i - k)))) := by
  subst hnb
  have e1 := nI_0F (a := i) (by omega)
  have e2 := nI_T hi (by omega)
  have e3 := vp_T (show i < 4 by omega) (by omega)
  have e4 := nI_c (a := i) (by omega)
  by_cases h0 : i = 0
  · subst h0
    have e5 : (0 < nI 0) = False := eq_false (by decide)
    simp (decide := true) only [e59_0, e59_1, e59_4, e59_5, e59_6, e59_9, e59_12, e59_12n, e59_13, e59_14, e59_15, e59_16, e59_17, e59_18, e59_19, m59, Kt_some, Kt_none, V_ite, g_if, g_ss, g_1, g_2, g_cn, g_iok, g_sok, g_bok, g_jok, g_qok, g_ivl, g_jvl, g_qvl, g_ist, g_bst, g_jst, g_qst, g_aln, g_isa, g_dl1, g_dl2, g_dl3, g_dl4, g_dl5, g_dd, g_rfs, g_rfn, p_sm0, p_sm1, p_sm2, p_sm3, p_sm4, true_and, and_true, if_true, if_false, ↓reduceIte, Nat.reduceEqDiff, reduceCtorEq, or_true, true_or, and_self, Int32.reduceLT, Int32.reduceAdd, Int32.reduceSub, Int32.reduceToNatClampNeg, not_false_eq_true, not_true_eq_false, hS, c53 hS, hr, e1, e2, e3, e4, e5]
    rw [g_same hr]
  · have e5 : (0 < nI i) = True := eq_true (by have := nI_lt (a := 0) (b := i) (by omega) (by omega); exact this)
    simp (decide := true) only [e59_0, e59_1, e59_4, e59_5, e59_6, e59_9, e59_12, e59_12n, e59_13, e59_14, e59_15, e59_16, e59_17, e59_18, e59_19, m59, Kt_some, Kt_none, V_ite, g_if, g_ss, g_1, g_2, g_cn, g_iok, g_sok, g_bok, g_jok, g_qok, g_ivl, g_jvl, g_qvl, g_ist, g_bst, g_jst, g_qst, g_aln, g_isa, g_dl1, g_dl2, g_dl3, g_dl4, g_dl5, g_dd, g_rfs, g_rfn, p_sm0, p_sm1, p_sm2, p_sm3, p_sm4, true_and, and_true, if_true, if_false, ↓reduceIte, Nat.reduceEqDiff, reduceCtorEq, or_true, true_or, and_self, Int32.reduceLT, Int32.reduceAdd, Int32.reduceSub, Int32.reduceToNatClampNeg, not_false_eq_true, not_true_eq_false, hS, c53 hS, hr, e1, e2, e3, e4, e5, h0]
/-- the sum of the basins above the river -/
def sa (f : Nat → Int32) : Nat → Int32
  | 0 => 0
  | 1 => 0
  | n + 2 => sa f (n + 1) + f (n + 1)
theorem sa_s (f : Nat → Int32) {i : Nat} (hi : 1 ≤ i) : sa f i + f i = sa f (i + 1) := by
  cases i with
  | zero => omega
  | succ i => rfl
theorem l64 {n : Nat} (hS : p_get h s = some (oS p q (nI n))) (hr : p_get h r = some (aI 4 f)) (hn : n ≤ 4) : ∀ (d i : Nat), 1 ≤ i → (i + d = n ∨ (d = 0 ∧ n ≤ i ∧ i ≤ 4)) → V 64 4 [some (.ref s), some (.ref r), some (.int (sa f i)), some (.int (nI i))] [] h Q = Q (some (.int (sa f (if n ≤ i then i else n)))) h := by
  intro d
  induction d with
  | zero =>
    intro i h1 hi
    have e1 := nI_F (a := i) (b := n) (by omega) (by omega)
    have e2 : n ≤ i := by omega
    simp (decide := true) only [e64_0, e64_1, e64_2, e64_3, e64_4, e64_5, e64_6, e64_9, e64_12, e64_13, e64_13n, e64_14, e64_15, e64_16, e64_17, e64_18, e64_21, e64_24, e64_25, m64, ok_9_2_9, fv3_2, Kt_some, Kt_none, V_ite, g_if, g_ss, g_1, g_2, g_cn, g_iok, g_sok, g_bok, g_jok, g_qok, g_ivl, g_jvl, g_qvl, g_ist, g_bst, g_jst, g_qst, g_aln, g_isa, g_dl1, g_dl2, g_dl3, g_dl4, g_dl5, g_dd, g_rfs, g_rfn, p_sm0, p_sm1, p_sm2, p_sm3, p_sm4, true_and, and_true, if_true, if_false, ↓reduceIte, Nat.reduceEqDiff, reduceCtorEq, or_true, true_or, and_self, Int32.reduceLT, Int32.reduceAdd, Int32.reduceSub, Int32.reduceToNatClampNeg, not_false_eq_true, not_true_eq_false, hS, e1, e2]
  | succ d ih =>
    intro i h1 hi
    have e1 := nI_T (a := i) (b := n) (by omega) (by omega)
    have e3 := vp_T (show i < 4 by omega) (by omega)
    have e4 := nI_c (a := i) (by omega)
    have e2 : ¬ n ≤ i := by omega
    rw [e64_4]
    simp (decide := true) only [e64_0, e64_1, e64_2, e64_3, e64_5, e64_6, e64_9, e64_12, e64_13, e64_13n, e64_14, e64_15, e64_16, e64_17, e64_18, e64_21, e64_24, e64_25, m64, ok_9_2_9, fv3_2, Kt_some, Kt_none, V_ite, g_if, g_ss, g_1, g_2, g_cn, g_iok, g_sok, g_bok, g_jok, g_qok, g_ivl, g_jvl, g_qvl, g_ist, g_bst, g_jst, g_qst, g_aln, g_isa, g_dl1, g_dl2, g_dl3, g_dl4, g_dl5, g_dd, g_rfs, g_rfn, p_sm0, p_sm1, p_sm2, p_sm3, p_sm4, true_and, and_true, if_true, if_false, ↓reduceIte, Nat.reduceEqDiff, reduceCtorEq, or_true, true_or, and_self, Int32.reduceLT, Int32.reduceAdd, Int32.reduceSub, Int32.reduceToNatClampNeg, not_false_eq_true, not_true_eq_false, hS, hr, e1, e3, e4, sa_s f h1, nI_1]
    rw [ih (i + 1) (by omega) (by omega)]
    by_cases hq : n ≤ i + 1
    · simp only [hq, e2, if_true, if_false, show i + 1 = n by omega, Nat.le_refl]
    · simp only [hq, e2, if_true, if_false]
theorem c64 {n : Nat} (hS : p_get h s = some (oS p q (nI n))) (hr : p_get h r = some (aI 4 f)) (hn : n ≤ 4) : Vm 64 [.ref s, .ref r] h Q = Q (some (.int (sa f n))) h := by
  simp (decide := true) only [e64_0, e64_1, e64_2, e64_3, e64_5, e64_6, e64_9, e64_12, e64_13, e64_13n, e64_14, e64_15, e64_16, e64_17, e64_18, e64_21, e64_24, e64_25, m64, ok_9_2_9, fv3_2, Kt_some, Kt_none, V_ite, g_if, g_ss, g_1, g_2, g_cn, g_iok, g_sok, g_bok, g_jok, g_qok, g_ivl, g_jvl, g_qvl, g_ist, g_bst, g_jst, g_qst, g_aln, g_isa, g_dl1, g_dl2, g_dl3, g_dl4, g_dl5, g_dd, g_rfs, g_rfn, p_sm0, p_sm1, p_sm2, p_sm3, p_sm4, true_and, and_true, if_true, if_false, ↓reduceIte, Nat.reduceEqDiff, reduceCtorEq, or_true, true_or, and_self, Int32.reduceLT, Int32.reduceAdd, Int32.reduceSub, Int32.reduceToNatClampNeg, not_false_eq_true, not_true_eq_false]
  have := l64 (Q := Q) hS hr hn (n - 1) 1 (by omega) (by omega)
  have e : sa f (if n ≤ 1 then 1 else n) = sa f n := by
    by_cases h0 : n ≤ 1
    · rw [if_pos h0]
      rcases (show n = 0 ∨ n = 1 by omega) with rfl | rfl <;> rfl
    · rw [if_neg h0]
  rw [e] at this
  exact this
end S15
