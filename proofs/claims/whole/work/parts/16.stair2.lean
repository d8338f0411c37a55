section S16
variable {h : pH} {Q : Option Value → pH → Prop} {s p q r : Nat} {nb b k : Int32} {fh fl f : Nat → Int32}
/-- pouring k buckets into basin i: what stands then, and what runs over the river's edge -/
def pw (H : Nat → Int32) : (Nat → Int32) → Nat → Int32 → (Nat → Int32) × Int32
  | f, 0, k => (f, k)
  | f, i + 1, k => if 0 < k then pw H (upd f (i + 1) (f (i + 1) + mn k (H (i + 1) - f (i + 1)))) i (k - mn k (H (i + 1) - f (i + 1))) else (f, k)
theorem pw_n (H : Nat → Int32) (f : Nat → Int32) : ∀ (i : Nat) (k : Int32), ¬ 0 < k → pw H f i k = (f, k)
  | 0, k, _ => rfl
  | i + 1, k, h => by rw [pw, if_neg h]
theorem pw_0 (H : Nat → Int32) : ∀ (i : Nat) (f : Nat → Int32) (k : Int32), (pw H f i k).1 0 = f 0
  | 0, f, k => rfl
  | i + 1, f, k => by
    rw [pw]
    split
    · rw [pw_0 H i]
      exact pk_un (by omega)
    · rfl
theorem mn_0 {k : Int32} (h : 0 < k) : mn k 0 = 0 := by rw [mn, if_pos h]
theorem upd_id (f : Nat → Int32) (i : Nat) : upd f i (f i) = f := by
  funext j
  by_cases hj : j = i
  · subst hj; exact pk_us
  · exact pk_un hj
theorem i_sub (x : Int32) : x - x = 0 := Int32.sub_self x
theorem i_add0 (x : Int32) : x + 0 = x := Int32.add_zero x
theorem i_sub0 (x : Int32) : x - 0 = x := Int32.sub_zero x
theorem i_nlt (x : Int32) : (x < x) = False := eq_false Int32.lt_irrefl
theorem l60 {n : Nat} (hS : p_get h s = some (oS p q (nI n))) (hp : p_get h p = some (aI 4 fh)) (hrs : s ≠ r) (hrp : p ≠ r) (hn : n ≤ 4) : ∀ (i : Nat) (f : Nat → Int32) (k : Int32) (l2 l3 l6 : Option Value), i < n → f 0 = fh 0 → V 60 13 [some (.ref s), some (.ref r), l2, p_dl l3, some (.int k), some (.int (nI i)), l6] [] (p_set h r (aI 4 f)) Q = Q (some (.int (pw fh f i k).2)) (p_set h r (aI 4 (pw fh f i k).1)) := by
  intro i
  induction i with
  | zero =>
    intro f k l2 l3 l6 hi hf
    rw [e60_13]
    by_cases hk : 0 < k
    · have e1 : (-1 : Int32) < 0 := by decide
      have e2 : nI 0 = 0 := rfl
      have e3 : vp_in 0 4 = True := vp_0 (by omega)
      simp (decide := true) only [e60_0, e60_1, e60_3, e60_4, e60_5, e60_8, e60_11, e60_15, e60_18, e60_20, e60_23, e60_25, e60_26, e60_29, e60_31, e60_32, e60_32n, e60_33, e60_35, e60_36, e60_37, e60_40, e60_42, e60_42n, e60_43, e60_45, e60_46, e60_47, e60_49, e60_50, e60_51, e60_53, e60_55, e60_56, e60_58, e60_61, e60_64, e60_66, m60, ok_9_0_9, fv3_0, Kt_some, Kt_none, V_ite, g_if, g_ss, g_1, g_2, g_cn, g_iok, g_sok, g_bok, g_jok, g_qok, g_ivl, g_jvl, g_qvl, g_ist, g_bst, g_jst, g_qst, g_aln, g_isa, g_dl1, g_dl2, g_dl3, g_dl4, g_dl5, g_dd, g_rfs, g_rfn, p_sm0, p_sm1, p_sm2, p_sm3, p_sm4, true_and, and_true, if_true, if_false, ↓reduceIte, Nat.reduceEqDiff, reduceCtorEq, or_true, true_or, and_self, Int32.reduceLT, Int32.reduceAdd, Int32.reduceSub, Int32.reduceToNatClampNeg, not_false_eq_true, not_true_eq_false, g_ne hrs, g_ne hrp, g_eq, hS, hp, hrs, hrp, e2, e3, hk, hf, i_sub, mn_e, mn_0 hk, i_add0, i_sub0]
      rw [e60_13]
      simp (decide := true) only [e60_0, e60_1, e60_3, e60_4, e60_5, e60_8, e60_11, e60_15, e60_18, e60_20, e60_23, e60_25, e60_26, e60_29, e60_31, e60_32, e60_32n, e60_33, e60_35, e60_36, e60_37, e60_40, e60_42, e60_42n, e60_43, e60_45, e60_46, e60_47, e60_49, e60_50, e60_51, e60_53, e60_55, e60_56, e60_58, e60_61, e60_64, e60_66, m60, ok_9_0_9, fv3_0, Kt_some, Kt_none, V_ite, g_if, g_ss, g_1, g_2, g_cn, g_iok, g_sok, g_bok, g_jok, g_qok, g_ivl, g_jvl, g_qvl, g_ist, g_bst, g_jst, g_qst, g_aln, g_isa, g_dl1, g_dl2, g_dl3, g_dl4, g_dl5, g_dd, g_rfs, g_rfn, p_sm0, p_sm1, p_sm2, p_sm3, p_sm4, true_and, and_true, if_true, if_false, ↓reduceIte, Nat.reduceEqDiff, reduceCtorEq, or_true, true_or, and_self, Int32.reduceLT, Int32.reduceAdd, Int32.reduceSub, Int32.reduceToNatClampNeg, not_false_eq_true, not_true_eq_false, e1, pw]
      rw [← hf, upd_id]
    · simp (decide := true) only [e60_0, e60_1, e60_3, e60_4, e60_5, e60_8, e60_11, e60_15, e60_18, e60_20, e60_23, e60_25, e60_26, e60_29, e60_31, e60_32, e60_32n, e60_33, e60_35, e60_36, e60_37, e60_40, e60_42, e60_42n, e60_43, e60_45, e60_46, e60_47, e60_49, e60_50, e60_51, e60_53, e60_55, e60_56, e60_58, e60_61, e60_64, e60_66, m60, ok_9_0_9, fv3_0, Kt_some, Kt_none, V_ite, g_if, g_ss, g_1, g_2, g_cn, g_iok, g_sok, g_bok, g_jok, g_qok, g_ivl, g_jvl, g_qvl, g_ist, g_bst, g_jst, g_qst, g_aln, g_isa, g_dl1, g_dl2, g_dl3, g_dl4, g_dl5, g_dd, g_rfs, g_rfn, p_sm0, p_sm1, p_sm2, p_sm3, p_sm4, true_and, and_true, if_true, if_false, ↓reduceIte, Nat.reduceEqDiff, reduceCtorEq, or_true, true_or, and_self, Int32.reduceLT, Int32.reduceAdd, Int32.reduceSub, Int32.reduceToNatClampNeg, not_false_eq_true, not_true_eq_false, hk, pw, show nI 0 = 0 from rfl]
  | succ i ih =>
    intro f k l2 l3 l6 hi hf
    rw [e60_13]
    have e1 := nI_0F (a := i + 1) (by omega)
    by_cases hk : 0 < k
    · have e3 := vp_T (show i + 1 < 4 by omega) (by omega)
      have e4 := nI_c (a := i + 1) (by omega)
      have e5 : nI (i + 1) + -1 = nI i := pk_m1 i
      simp (decide := true) only [e60_0, e60_1, e60_3, e60_4, e60_5, e60_8, e60_11, e60_15, e60_18, e60_20, e60_23, e60_25, e60_26, e60_29, e60_31, e60_32, e60_32n, e60_33, e60_35, e60_36, e60_37, e60_40, e60_42, e60_42n, e60_43, e60_45, e60_46, e60_47, e60_49, e60_50, e60_51, e60_53, e60_55, e60_56, e60_58, e60_61, e60_64, e60_66, m60, ok_9_0_9, fv3_0, Kt_some, Kt_none, V_ite, g_if, g_ss, g_1, g_2, g_cn, g_iok, g_sok, g_bok, g_jok, g_qok, g_ivl, g_jvl, g_qvl, g_ist, g_bst, g_jst, g_qst, g_aln, g_isa, g_dl1, g_dl2, g_dl3, g_dl4, g_dl5, g_dd, g_rfs, g_rfn, p_sm0, p_sm1, p_sm2, p_sm3, p_sm4, true_and, and_true, if_true, if_false, ↓reduceIte, Nat.reduceEqDiff, reduceCtorEq, or_true, true_or, and_self, Int32.reduceLT, Int32.reduceAdd, Int32.reduceSub, Int32.reduceToNatClampNeg, not_false_eq_true, not_true_eq_false, g_ne hrs, g_ne hrp, g_eq, hS, hp, hrs, hrp, e1, e3, e4, e5, hk, mn_e, pw]
      have := ih (upd f (i + 1) (f (i + 1) + mn k (fh (i + 1) - f (i + 1)))) (k - mn k (fh (i + 1) - f (i + 1))) l2 l3 (some (.int (mn k (fh (i + 1) - f (i + 1))))) (by omega) (by rw [pk_un (by omega)]; exact hf)
      exact this
    · simp (decide := true) only [e60_0, e60_1, e60_3, e60_4, e60_5, e60_8, e60_11, e60_15, e60_18, e60_20, e60_23, e60_25, e60_26, e60_29, e60_31, e60_32, e60_32n, e60_33, e60_35, e60_36, e60_37, e60_40, e60_42, e60_42n, e60_43, e60_45, e60_46, e60_47, e60_49, e60_50, e60_51, e60_53, e60_55, e60_56, e60_58, e60_61, e60_64, e60_66, m60, ok_9_0_9, fv3_0, Kt_some, Kt_none, V_ite, g_if, g_ss, g_1, g_2, g_cn, g_iok, g_sok, g_bok, g_jok, g_qok, g_ivl, g_jvl, g_qvl, g_ist, g_bst, g_jst, g_qst, g_aln, g_isa, g_dl1, g_dl2, g_dl3, g_dl4, g_dl5, g_dd, g_rfs, g_rfn, p_sm0, p_sm1, p_sm2, p_sm3, p_sm4, true_and, and_true, if_true, if_false, ↓reduceIte, Nat.reduceEqDiff, reduceCtorEq, or_true, true_or, and_self, Int32.reduceLT, Int32.reduceAdd, Int32.reduceSub, Int32.reduceToNatClampNeg, not_false_eq_true, not_true_eq_false, e1, hk, pw]
/-- Stair.fill: the river is always full -/
theorem c60 {n i : Nat} (hS : p_get h s = some (oS p q (nI n))) (hp : p_get h p = some (aI 4 fh)) (hr : p_get h r = some (aI 4 f)) (hrs : s ≠ r) (hrp : p ≠ r) (hn : n ≤ 4) (hi : i < n) (hf : f 0 = fh 0) : Vm 60 [.ref s, .ref r, .int (nI i), .int k] h Q = Q (some (.int (pw fh f i k).2)) (p_set h r (aI 4 (pw fh f i k).1)) := by
  have e1 : nI n - 1 = nI (n - 1) := pk_sub (a := n) (b := 1) (by omega)
  have e2 : mn (nI i) (nI (n - 1)) = nI i := by rw [mn, if_neg (nI_nlt (by omega) (by omega))]
  have := l60 (Q := Q) hS hp hrs hrp hn i f k (some (.int (nI i))) (some (.int k)) none hi hf
  rw [g_same hr] at this
  simp (decide := true) only [e60_0, e60_1, e60_3, e60_4, e60_5, e60_8, e60_11, e60_15, e60_18, e60_20, e60_23, e60_25, e60_26, e60_29, e60_31, e60_32, e60_32n, e60_33, e60_35, e60_36, e60_37, e60_40, e60_42, e60_42n, e60_43, e60_45, e60_46, e60_47, e60_49, e60_50, e60_51, e60_53, e60_55, e60_56, e60_58, e60_61, e60_64, e60_66, m60, ok_9_0_9, fv3_0, Kt_some, Kt_none, V_ite, g_if, g_ss, g_1, g_2, g_cn, g_iok, g_sok, g_bok, g_jok, g_qok, g_ivl, g_jvl, g_qvl, g_ist, g_bst, g_jst, g_qst, g_aln, g_isa, g_dl1, g_dl2, g_dl3, g_dl4, g_dl5, g_dd, g_rfs, g_rfn, p_sm0, p_sm1, p_sm2, p_sm3, p_sm4, true_and, and_true, if_true, if_false, ↓reduceIte, Nat.reduceEqDiff, reduceCtorEq, or_true, true_or, and_self, Int32.reduceLT, Int32.reduceAdd, Int32.reduceSub, Int32.reduceToNatClampNeg, not_false_eq_true, not_true_eq_false, hS, c54 hS, e1, mn_e, e2]
  exact this
/-- a day's leaking -/
def lk (fl f : Nat → Int32) (n : Nat) : Nat → Int32 := fun i => if 1 ≤ i ∧ i < n then mx 0 (f i - fl i) else f i
theorem lk_1 (fl f : Nat → Int32) : lk fl f 1 = f := by
  funext j
  unfold lk
  rw [if_neg (by omega)]
theorem lk_s (fl f : Nat → Int32) {i : Nat} (hi : 1 ≤ i) : upd (lk fl f i) i (mx 0 (lk fl f i i - fl i)) = lk fl f (i + 1) := by
  funext j
  by_cases hj : j = i
  · subst hj
    rw [pk_us]
    unfold lk
    rw [if_neg (by omega), if_pos (by omega)]
  · rw [pk_un hj]
    unfold lk
    by_cases hc : 1 ≤ j ∧ j < i
    · rw [if_pos hc, if_pos (by omega)]
    · rw [if_neg hc, if_neg (by omega)]
theorem l61 {n : Nat} (hS : p_get h s = some (oS p q (nI n))) (hq : p_get h q = some (aI 4 fl)) (hrs : s ≠ r) (hrq : q ≠ r) (hn : n ≤ 4) (f : Nat → Int32) : ∀ (d i : Nat) (l2 : Option Value), 1 ≤ i → i + d = n → V 61 13 [some (.ref s), some (.ref r), p_dl l2, some (.int (nI i))] [] (p_set h r (aI 4 (lk fl f i))) Q = Q none (p_set h r (aI 4 (lk fl f n))) := by
  intro d
  induction d with
  | zero =>
    intro i l2 h1 hi
    have e1 := nI_F (a := i) (b := n) (by omega) (by omega)
    have e2 : i = n := by omega
    subst e2
    simp (decide := true) only [e61_0, e61_1, e61_1n, e61_2, e61_3, e61_6, e61_7, e61_10, e61_11, e61_12, e61_13, e61_14, e61_15, e61_18, e61_21, e61_21n, e61_22, e61_23, e61_24, e61_25, e61_25n, e61_26, e61_27, e61_28, e61_31, e61_32, e61_35, e61_38, m61, ok_9_2_9, fv3_2, Kt_some, Kt_none, V_ite, g_if, g_ss, g_1, g_2, g_cn, g_iok, g_sok, g_bok, g_jok, g_qok, g_ivl, g_jvl, g_qvl, g_ist, g_bst, g_jst, g_qst, g_aln, g_isa, g_dl1, g_dl2, g_dl3, g_dl4, g_dl5, g_dd, g_rfs, g_rfn, p_sm0, p_sm1, p_sm2, p_sm3, p_sm4, true_and, and_true, if_true, if_false, ↓reduceIte, Nat.reduceEqDiff, reduceCtorEq, or_true, true_or, and_self, Int32.reduceLT, Int32.reduceAdd, Int32.reduceSub, Int32.reduceToNatClampNeg, not_false_eq_true, not_true_eq_false, g_ne hrs, hS, hrs, e1]
  | succ d ih =>
    intro i l2 h1 hi
    have e1 := nI_T (a := i) (b := n) (by omega) (by omega)
    have e0 := nI_0F (a := i) (by omega)
    have e3 := vp_T (show i < 4 by omega) (by omega)
    have e4 := nI_c (a := i) (by omega)
    have hS2 : p_get (p_set h r (aI 4 (lk fl f i))) s = some (oS p q (nI n)) := by rw [g_ne hrs]; exact hS
    have hq2 : p_get (p_set h r (aI 4 (lk fl f i))) q = some (aI 4 fl) := by rw [g_ne hrq]; exact hq
    have := ih (i + 1) l2 (by omega) (by omega)
    rw [e61_13]
    simp (decide := true) only [e61_0, e61_1, e61_1n, e61_2, e61_3, e61_6, e61_7, e61_10, e61_11, e61_12, e61_14, e61_15, e61_18, e61_21, e61_21n, e61_22, e61_23, e61_24, e61_25, e61_25n, e61_26, e61_27, e61_28, e61_31, e61_32, e61_35, e61_38, m61, ok_9_2_9, fv3_2, Kt_some, Kt_none, V_ite, g_if, g_ss, g_1, g_2, g_cn, g_iok, g_sok, g_bok, g_jok, g_qok, g_ivl, g_jvl, g_qvl, g_ist, g_bst, g_jst, g_qst, g_aln, g_isa, g_dl1, g_dl2, g_dl3, g_dl4, g_dl5, g_dd, g_rfs, g_rfn, p_sm0, p_sm1, p_sm2, p_sm3, p_sm4, true_and, and_true, if_true, if_false, ↓reduceIte, Nat.reduceEqDiff, reduceCtorEq, or_true, true_or, and_self, Int32.reduceLT, Int32.reduceAdd, Int32.reduceSub, Int32.reduceToNatClampNeg, not_false_eq_true, not_true_eq_false, g_ne hrs, hS, hrs, hrq, e0, e1, e3, e4, c62 hS2 hq2, lk_s fl f h1, nI_1]
    exact this
theorem c61 {n : Nat} {rain : Int32} (hS : p_get h s = some (oS p q (nI n))) (hp : p_get h p = some (aI 4 fh)) (hq : p_get h q = some (aI 4 fl)) (hr : p_get h r = some (aI 4 f)) (hrs : s ≠ r) (hrp : p ≠ r) (hrq : q ≠ r) (hn : n ≤ 4) (h0 : 1 ≤ n) (hf : f 0 = fh 0) : Vm 61 [.ref s, .ref r, .int rain] h Q = Q none (p_set h r (aI 4 (lk fl (pw fh f (n - 1) rain).1 n))) := by
  have e1 : nI n - 1 = nI (n - 1) := pk_sub (a := n) (b := 1) (by omega)
  have := l61 (Q := Q) hS hq hrs hrq hn (pw fh f (n - 1) rain).1 (n - 1) 1 (some (.int rain)) (by omega) (by omega)
  rw [lk_1] at this
  simp (decide := true) only [e61_0, e61_1, e61_1n, e61_2, e61_3, e61_6, e61_7, e61_10, e61_11, e61_12, e61_14, e61_15, e61_18, e61_21, e61_21n, e61_22, e61_23, e61_24, e61_25, e61_25n, e61_26, e61_27, e61_28, e61_31, e61_32, e61_35, e61_38, m61, ok_9_2_9, fv3_2, Kt_some, Kt_none, V_ite, g_if, g_ss, g_1, g_2, g_cn, g_iok, g_sok, g_bok, g_jok, g_qok, g_ivl, g_jvl, g_qvl, g_ist, g_bst, g_jst, g_qst, g_aln, g_isa, g_dl1, g_dl2, g_dl3, g_dl4, g_dl5, g_dd, g_rfs, g_rfn, p_sm0, p_sm1, p_sm2, p_sm3, p_sm4, true_and, and_true, if_true, if_false, ↓reduceIte, Nat.reduceEqDiff, reduceCtorEq, or_true, true_or, and_self, Int32.reduceLT, Int32.reduceAdd, Int32.reduceSub, Int32.reduceToNatClampNeg, not_false_eq_true, not_true_eq_false, hS, c54 hS, e1, c60 hS hp hr hrs hrp hn (show n - 1 < n by omega) hf]
  exact this
end S16
