section S29
variable {h : pH} {K Q : Option Value → pH → Prop} {sz bs fr cs : Int32}
abbrev oU (sz bs fr cs : Int32) : pE := oM 11 12 13 14 15 sz bs fr cs
theorem sh_i : ∀ i : Nat, i < 32 → (1 : Int32) <<< (nI i &&& 31) = nI (2 ^ i) := by decide +kernel
theorem or_i : ∀ i : Nat, i < 5 → ∀ m : Nat, m < 2 ^ i → nI m ||| nI (2 ^ i) = nI (m + 2 ^ i) := by decide +kernel
theorem or_g {i m : Nat} (hm : m < 2 ^ i) : nI m ||| nI (2 ^ i) = nI (m + 2 ^ i) := by
  apply Int32.toBitVec_inj.mp
  show BitVec.ofNat 32 m ||| BitVec.ofNat 32 (2 ^ i) = BitVec.ofNat 32 (m + 2 ^ i)
  rw [← BitVec.ofNat_or, Nat.or_comm, Nat.add_comm]
  have := Nat.two_pow_add_eq_or_of_lt hm 1
  rw [Nat.mul_one] at this
  rw [this]
theorem and_d : ∀ a : Nat, a < 32 → ∀ b : Nat, b < 32 → nI a &&& nI b = nI (a &&& b) := by decide +kernel
theorem cm_d : ∀ a : Nat, a < 32 → ∀ b : Nat, b < 32 → ((nI a &&& (nI b ^^^ -1) = 0) ↔ a &&& b = a) := by decide +kernel
theorem p2_le {i : Nat} (hi : i < 5) : 1 ≤ 2 ^ i ∧ 2 ^ i ≤ 16 ∧ 2 ^ (i + 1) = 2 ^ i + 2 ^ i := by
  rcases (show i = 0 ∨ i = 1 ∨ i = 2 ∨ i = 3 ∨ i = 4 by omega) with rfl | rfl | rfl | rfl | rfl <;> decide
/-- what crews pour together, of the first i boats -/
def tf (c f : Nat → Int32) : Nat → (Nat → Int32)
  | 0 => f
  | i + 1 => fun x => if 2 ^ i ≤ x ∧ x < 2 ^ (i + 1) then tf c f i (x - 2 ^ i) + c i else tf c f i x
def tp (c f : Nat → Int32) (i q : Nat) : Nat → Int32 := fun x => if 2 ^ i ≤ x ∧ x < 2 ^ i + q then tf c f i (x - 2 ^ i) + c i else tf c f i x
theorem tp_0 (c f : Nat → Int32) (i : Nat) : tp c f i 0 = tf c f i := by
  funext x; unfold tp; rw [if_neg (by omega)]
theorem tp_s (c f : Nat → Int32) {i q : Nat} (hq : q < 2 ^ i) : upd (tp c f i q) (2 ^ i + q) (tp c f i q q + c i) = tp c f i (q + 1) := by
  funext x
  by_cases hx : x = 2 ^ i + q
  · subst hx
    rw [pk_us]
    unfold tp
    rw [if_neg (by omega), if_pos (by omega)]
    congr 2
    omega
  · rw [pk_un hx]
    unfold tp
    by_cases hc : 2 ^ i ≤ x ∧ x < 2 ^ i + q
    · rw [if_pos hc, if_pos (by omega)]
    · rw [if_neg hc, if_neg (by omega)]
theorem tp_e (c f : Nat → Int32) (i : Nat) : tp c f i (2 ^ i) = tf c f (i + 1) := by
  funext x
  unfold tp
  conv => rhs; unfold tf
  rw [show 2 ^ (i + 1) = 2 ^ i + 2 ^ i by rw [Nat.pow_succ]; omega]
/-- the carriers, as bits -/
def km (c : Nat → Int32) : Nat → Nat
  | 0 => 0
  | i + 1 => if 0 < c i then km c i + 2 ^ i else km c i
theorem km_lt (c : Nat → Int32) : ∀ i, km c i < 2 ^ i
  | 0 => Nat.one_pos
  | i + 1 => by
    have := km_lt c i
    have e : 2 ^ (i + 1) = 2 ^ i + 2 ^ i := by rw [Nat.pow_succ]; omega
    unfold km
    split <;> omega
theorem l18i {H : pH} {c f : Nat → Int32} {i : Nat} (hi : i < 5) (h10 : p_get H 10 = some (oU sz bs fr cs)) (h12 : p_get H 12 = some (aI 5 c)) : ∀ (d q : Nat), q + d = 2 ^ i → V 18 37 [some (.ref 10), some (.int (nI i)), some (.int (nI (2 ^ i))), some (.int (nI q))] [] (p_set H 13 (aI 32 (tp c f i q))) K = V 18 69 [some (.ref 10), some (.int (nI i)), some (.int (nI (2 ^ i))), some (.int (nI (2 ^ i)))] [] (p_set H 13 (aI 32 (tf c f (i + 1)))) K := by
  obtain ⟨p1, p2, p3⟩ := p2_le hi
  intro d
  induction d with
  | zero =>
    intro q hq
    have e2 : q = 2 ^ i := by omega
    subst e2
    have e1 := nI_F (a := 2 ^ i) (b := 2 ^ i) (by omega) (by omega)
    rw [e18_37, tp_e]
    simp (decide := true) only [e18_0, e18_1, e18_2, e18_5, e18_6, e18_8, e18_9, e18_12, e18_13, e18_14, e18_15, e18_16, e18_17, e18_20, e18_21, e18_22, e18_25, e18_26, e18_26i, e18_27, e18_30, e18_31, e18_32, e18_35, e18_36, e18_38, e18_39, e18_42, e18_43, e18_46, e18_47, e18_48, e18_49, e18_50, e18_53, e18_54, e18_55, e18_56, e18_59, e18_60, e18_61, e18_62, e18_63, e18_66, e18_72, e18_75, m18, ok_4_8_4, fs9_8, ok_4_2_4, fv9_2, fv9_8, ok_4_5_4, fv9_5, Kt_some, Kt_none, V_ite, g_if, g_ss, g_1, g_2, g_cn, g_iok, g_sok, g_bok, g_jok, g_qok, g_ivl, g_jvl, g_qvl, g_ist, g_bst, g_jst, g_qst, g_aln, g_isa, g_dl1, g_dl2, g_dl3, g_dl4, g_dl5, g_dd, g_rfs, g_rfn, p_sm0, p_sm1, p_sm2, p_sm3, p_sm4, true_and, and_true, if_true, if_false, ↓reduceIte, Nat.reduceEqDiff, reduceCtorEq, or_true, true_or, and_self, Int32.reduceLT, Int32.reduceAdd, Int32.reduceSub, Int32.reduceToNatClampNeg, not_false_eq_true, not_true_eq_false, e1]
  | succ d ih =>
    intro q hq
    have e1 := nI_T (a := q) (b := 2 ^ i) (by omega) (by omega)
    have v1 := vp_T (show q < 32 by omega) (by omega)
    have v2 := vp_T (show 2 ^ i + q < 32 by omega) (by omega)
    have v3 := vp_T (show i < 5 by omega) (by omega)
    have c1 := nI_c (a := q) (by omega)
    have c2 := nI_c (a := 2 ^ i + q) (by omega)
    have c3 := nI_c (a := i) (by omega)
    have := ih (q + 1) (by omega)
    rw [e18_37]
    simp (decide := true) only [e18_0, e18_1, e18_2, e18_5, e18_6, e18_8, e18_9, e18_12, e18_13, e18_14, e18_15, e18_16, e18_17, e18_20, e18_21, e18_22, e18_25, e18_26, e18_26i, e18_27, e18_30, e18_31, e18_32, e18_35, e18_36, e18_38, e18_39, e18_42, e18_43, e18_46, e18_47, e18_48, e18_49, e18_50, e18_53, e18_54, e18_55, e18_56, e18_59, e18_60, e18_61, e18_62, e18_63, e18_66, e18_72, e18_75, m18, ok_4_8_4, fs9_8, ok_4_2_4, fv9_2, fv9_8, ok_4_5_4, fv9_5, Kt_some, Kt_none, V_ite, g_if, g_ss, g_1, g_2, g_cn, g_iok, g_sok, g_bok, g_jok, g_qok, g_ivl, g_jvl, g_qvl, g_ist, g_bst, g_jst, g_qst, g_aln, g_isa, g_dl1, g_dl2, g_dl3, g_dl4, g_dl5, g_dd, g_rfs, g_rfn, p_sm0, p_sm1, p_sm2, p_sm3, p_sm4, true_and, and_true, if_true, if_false, ↓reduceIte, Nat.reduceEqDiff, reduceCtorEq, or_true, true_or, and_self, Int32.reduceLT, Int32.reduceAdd, Int32.reduceSub, Int32.reduceToNatClampNeg, not_false_eq_true, not_true_eq_false, e1, h10, h12, nI_add, v1, v2, v3, c1, c2, c3, tp_s c f (show q < 2 ^ i by omega), nI_1]
    exact this
theorem l18 {c f : Nat → Int32} (h12 : p_get h 12 = some (aI 5 c)) : ∀ (d i : Nat) (l2 l3 : Option Value), i + d = 5 → V 18 7 [some (.ref 10), some (.int (nI i)), l2, l3] [] (p_set (p_set h 10 (oU sz bs fr (nI (km c i)))) 13 (aI 32 (tf c f i))) K = K none (p_set (p_set h 10 (oU sz bs fr (nI (km c 5)))) 13 (aI 32 (tf c f 5))) := by
  intro d
  induction d with
  | zero =>
    intro i l2 l3 hi
    have e2 : i = 5 := by omega
    subst e2
    rw [e18_7]
    simp (decide := true) only [e18_0, e18_1, e18_2, e18_5, e18_6, e18_8, e18_9, e18_12, e18_13, e18_14, e18_15, e18_16, e18_17, e18_20, e18_21, e18_22, e18_25, e18_26, e18_26i, e18_27, e18_30, e18_31, e18_32, e18_35, e18_36, e18_38, e18_39, e18_42, e18_43, e18_46, e18_47, e18_48, e18_49, e18_50, e18_53, e18_54, e18_55, e18_56, e18_59, e18_60, e18_61, e18_62, e18_63, e18_66, e18_69, e18_72, e18_75, m18, ok_4_8_4, fs9_8, ok_4_2_4, fv9_2, fv9_8, ok_4_5_4, fv9_5, Kt_some, Kt_none, V_ite, g_if, g_ss, g_1, g_2, g_cn, g_iok, g_sok, g_bok, g_jok, g_qok, g_ivl, g_jvl, g_qvl, g_ist, g_bst, g_jst, g_qst, g_aln, g_isa, g_dl1, g_dl2, g_dl3, g_dl4, g_dl5, g_dd, g_rfs, g_rfn, p_sm0, p_sm1, p_sm2, p_sm3, p_sm4, true_and, and_true, if_true, if_false, ↓reduceIte, Nat.reduceEqDiff, reduceCtorEq, or_true, true_or, and_self, Int32.reduceLT, Int32.reduceAdd, Int32.reduceSub, Int32.reduceToNatClampNeg, not_false_eq_true, not_true_eq_false, show (nI 5 < 5) = False from eq_false (by decide)]
  | succ d ih =>
    intro i l2 l3 hi
    have e1 : (nI i < 5) = True := nI_T (a := i) (b := 5) (by omega) (by omega)
    have v3 := vp_T (show i < 5 by omega) (by omega)
    have c3 := nI_c (a := i) (by omega)
    have s3 := sh_i i (by omega)
    have hk := km_lt c i
    have hz : nI 0 = (0 : Int32) := rfl
    by_cases hc : 0 < c i
    · have o3 := or_i i (by omega) (km c i) hk
      have := fun (H : pH) (h10 : p_get H 10 = some (oU sz bs fr (nI (km c (i + 1))))) (h12 : p_get H 12 = some (aI 5 c)) => l18i (K := K) (f := f) (show i < 5 by omega) h10 h12 (2 ^ i) 0 (by omega)
      rw [tp_0] at this
      have t := this (p_set h 10 (oU sz bs fr (nI (km c (i + 1))))) (by simp (decide := true) only [Kt_some, Kt_none, V_ite, g_if, g_ss, g_1, g_2, g_cn, g_iok, g_sok, g_bok, g_jok, g_qok, g_ivl, g_jvl, g_qvl, g_ist, g_bst, g_jst, g_qst, g_aln, g_isa, g_dl1, g_dl2, g_dl3, g_dl4, g_dl5, g_dd, g_rfs, g_rfn, p_sm0, p_sm1, p_sm2, p_sm3, p_sm4, true_and, and_true, if_true, if_false, ↓reduceIte, Nat.reduceEqDiff, reduceCtorEq, or_true, true_or, and_self, Int32.reduceLT, Int32.reduceAdd, Int32.reduceSub, Int32.reduceToNatClampNeg, not_false_eq_true, not_true_eq_false]) (by simp (decide := true) only [Kt_some, Kt_none, V_ite, g_if, g_ss, g_1, g_2, g_cn, g_iok, g_sok, g_bok, g_jok, g_qok, g_ivl, g_jvl, g_qvl, g_ist, g_bst, g_jst, g_qst, g_aln, g_isa, g_dl1, g_dl2, g_dl3, g_dl4, g_dl5, g_dd, g_rfs, g_rfn, p_sm0, p_sm1, p_sm2, p_sm3, p_sm4, true_and, and_true, if_true, if_false, ↓reduceIte, Nat.reduceEqDiff, reduceCtorEq, or_true, true_or, and_self, Int32.reduceLT, Int32.reduceAdd, Int32.reduceSub, Int32.reduceToNatClampNeg, not_false_eq_true, not_true_eq_false, h12])
      have k1 : km c (i + 1) = km c i + 2 ^ i := by rw [km, if_pos hc]
      rw [k1, hz] at t
      rw [e18_7]
      simp (decide := true) only [e18_0, e18_1, e18_2, e18_5, e18_6, e18_8, e18_9, e18_12, e18_13, e18_14, e18_15, e18_16, e18_17, e18_20, e18_21, e18_22, e18_25, e18_26, e18_26i, e18_27, e18_30, e18_31, e18_32, e18_35, e18_36, e18_38, e18_39, e18_42, e18_43, e18_46, e18_47, e18_48, e18_49, e18_50, e18_53, e18_54, e18_55, e18_56, e18_59, e18_60, e18_61, e18_62, e18_63, e18_66, e18_72, e18_75, m18, ok_4_8_4, fs9_8, ok_4_2_4, fv9_2, fv9_8, ok_4_5_4, fv9_5, Kt_some, Kt_none, V_ite, g_if, g_ss, g_1, g_2, g_cn, g_iok, g_sok, g_bok, g_jok, g_qok, g_ivl, g_jvl, g_qvl, g_ist, g_bst, g_jst, g_qst, g_aln, g_isa, g_dl1, g_dl2, g_dl3, g_dl4, g_dl5, g_dd, g_rfs, g_rfn, p_sm0, p_sm1, p_sm2, p_sm3, p_sm4, true_and, and_true, if_true, if_false, ↓reduceIte, Nat.reduceEqDiff, reduceCtorEq, or_true, true_or, and_self, Int32.reduceLT, Int32.reduceAdd, Int32.reduceSub, Int32.reduceToNatClampNeg, not_false_eq_true, not_true_eq_false, e1, s3, h12, v3, c3, hc, o3, g_comm (show (13 : Nat) ≠ 10 by decide)]
      refine t.trans ?_
      simp (decide := true) only [e18_0, e18_1, e18_2, e18_5, e18_6, e18_8, e18_9, e18_12, e18_13, e18_14, e18_15, e18_16, e18_17, e18_20, e18_21, e18_22, e18_25, e18_26, e18_26i, e18_27, e18_30, e18_31, e18_32, e18_35, e18_36, e18_38, e18_39, e18_42, e18_43, e18_46, e18_47, e18_48, e18_49, e18_50, e18_53, e18_54, e18_55, e18_56, e18_59, e18_60, e18_61, e18_62, e18_63, e18_66, e18_69, e18_72, e18_75, m18, ok_4_8_4, fs9_8, ok_4_2_4, fv9_2, fv9_8, ok_4_5_4, fv9_5, Kt_some, Kt_none, V_ite, g_if, g_ss, g_1, g_2, g_cn, g_iok, g_sok, g_bok, g_jok, g_qok, g_ivl, g_jvl, g_qvl, g_ist, g_bst, g_jst, g_qst, g_aln, g_isa, g_dl1, g_dl2, g_dl3, g_dl4, g_dl5, g_dd, g_rfs, g_rfn, p_sm0, p_sm1, p_sm2, p_sm3, p_sm4, true_and, and_true, if_true, if_false, ↓reduceIte, Nat.reduceEqDiff, reduceCtorEq, or_true, true_or, and_self, Int32.reduceLT, Int32.reduceAdd, Int32.reduceSub, Int32.reduceToNatClampNeg, not_false_eq_true, not_true_eq_false, nI_1]
      rw [← k1]
      exact ih (i + 1) _ _ (by omega)
    · have := fun (H : pH) (h10 : p_get H 10 = some (oU sz bs fr (nI (km c (i + 1))))) (h12 : p_get H 12 = some (aI 5 c)) => l18i (K := K) (f := f) (show i < 5 by omega) h10 h12 (2 ^ i) 0 (by omega)
      rw [tp_0] at this
      have t := this (p_set h 10 (oU sz bs fr (nI (km c (i + 1))))) (by simp (decide := true) only [Kt_some, Kt_none, V_ite, g_if, g_ss, g_1, g_2, g_cn, g_iok, g_sok, g_bok, g_jok, g_qok, g_ivl, g_jvl, g_qvl, g_ist, g_bst, g_jst, g_qst, g_aln, g_isa, g_dl1, g_dl2, g_dl3, g_dl4, g_dl5, g_dd, g_rfs, g_rfn, p_sm0, p_sm1, p_sm2, p_sm3, p_sm4, true_and, and_true, if_true, if_false, ↓reduceIte, Nat.reduceEqDiff, reduceCtorEq, or_true, true_or, and_self, Int32.reduceLT, Int32.reduceAdd, Int32.reduceSub, Int32.reduceToNatClampNeg, not_false_eq_true, not_true_eq_false]) (by simp (decide := true) only [Kt_some, Kt_none, V_ite, g_if, g_ss, g_1, g_2, g_cn, g_iok, g_sok, g_bok, g_jok, g_qok, g_ivl, g_jvl, g_qvl, g_ist, g_bst, g_jst, g_qst, g_aln, g_isa, g_dl1, g_dl2, g_dl3, g_dl4, g_dl5, g_dd, g_rfs, g_rfn, p_sm0, p_sm1, p_sm2, p_sm3, p_sm4, true_and, and_true, if_true, if_false, ↓reduceIte, Nat.reduceEqDiff, reduceCtorEq, or_true, true_or, and_self, Int32.reduceLT, Int32.reduceAdd, Int32.reduceSub, Int32.reduceToNatClampNeg, not_false_eq_true, not_true_eq_false, h12])
      have k1 : km c (i + 1) = km c i := by rw [km, if_neg hc]
      rw [k1, hz] at t
      rw [e18_7]
      simp (decide := true) only [e18_0, e18_1, e18_2, e18_5, e18_6, e18_8, e18_9, e18_12, e18_13, e18_14, e18_15, e18_16, e18_17, e18_20, e18_21, e18_22, e18_25, e18_26, e18_26i, e18_27, e18_30, e18_31, e18_32, e18_35, e18_36, e18_38, e18_39, e18_42, e18_43, e18_46, e18_47, e18_48, e18_49, e18_50, e18_53, e18_54, e18_55, e18_56, e18_59, e18_60, e18_61, e18_62, e18_63, e18_66, e18_72, e18_75, m18, ok_4_8_4, fs9_8, ok_4_2_4, fv9_2, fv9_8, ok_4_5_4, fv9_5, Kt_some, Kt_none, V_ite, g_if, g_ss, g_1, g_2, g_cn, g_iok, g_sok, g_bok, g_jok, g_qok, g_ivl, g_jvl, g_qvl, g_ist, g_bst, g_jst, g_qst, g_aln, g_isa, g_dl1, g_dl2, g_dl3, g_dl4, g_dl5, g_dd, g_rfs, g_rfn, p_sm0, p_sm1, p_sm2, p_sm3, p_sm4, true_and, and_true, if_true, if_false, ↓reduceIte, Nat.reduceEqDiff, reduceCtorEq, or_true, true_or, and_self, Int32.reduceLT, Int32.reduceAdd, Int32.reduceSub, Int32.reduceToNatClampNeg, not_false_eq_true, not_true_eq_false, e1, s3, h12, v3, c3, hc]
      refine t.trans ?_
      simp (decide := true) only [e18_0, e18_1, e18_2, e18_5, e18_6, e18_8, e18_9, e18_12, e18_13, e18_14, e18_15, e18_16, e18_17, e18_20, e18_21, e18_22, e18_25, e18_26, e18_26i, e18_27, e18_30, e18_31, e18_32, e18_35, e18_36, e18_38, e18_39, e18_42, e18_43, e18_46, e18_47, e18_48, e18_49, e18_50, e18_53, e18_54, e18_55, e18_56, e18_59, e18_60, e18_61, e18_62, e18_63, e18_66, e18_69, e18_72, e18_75, m18, ok_4_8_4, fs9_8, ok_4_2_4, fv9_2, fv9_8, ok_4_5_4, fv9_5, Kt_some, Kt_none, V_ite, g_if, g_ss, g_1, g_2, g_cn, g_iok, g_sok, g_bok, g_jok, g_qok, g_ivl, g_jvl, g_qvl, g_ist, g_bst, g_jst, g_qst, g_aln, g_isa, g_dl1, g_dl2, g_dl3, g_dl4, g_dl5, g_dd, g_rfs, g_rfn, p_sm0, p_sm1, p_sm2, p_sm3, p_sm4, true_and, and_true, if_true, if_false, ↓reduceIte, Nat.reduceEqDiff, reduceCtorEq, or_true, true_or, and_self, Int32.reduceLT, Int32.reduceAdd, Int32.reduceSub, Int32.reduceToNatClampNeg, not_false_eq_true, not_true_eq_false, nI_1]
      rw [← k1]
      exact ih (i + 1) _ _ (by omega)
theorem c18 {c f : Nat → Int32} (h10 : p_get h 10 = some (oU sz bs fr cs)) (h12 : p_get h 12 = some (aI 5 c)) (h13 : p_get h 13 = some (aI 32 f)) : Vm 18 [.ref 10] h K = K none (p_set (p_set h 10 (oU sz bs fr (nI (km c 5)))) 13 (aI 32 (tf c f 5))) := by
  have := l18 (K := K) (sz := sz) (bs := bs) (fr := fr) (f := f) h12 5 0 none none (by omega)
  rw [show tf c f 0 = f from rfl, g_same (a := 13) (by simp (decide := true) only [Kt_some, Kt_none, V_ite, g_if, g_ss, g_1, g_2, g_cn, g_iok, g_sok, g_bok, g_jok, g_qok, g_ivl, g_jvl, g_qvl, g_ist, g_bst, g_jst, g_qst, g_aln, g_isa, g_dl1, g_dl2, g_dl3, g_dl4, g_dl5, g_dd, g_rfs, g_rfn, p_sm0, p_sm1, p_sm2, p_sm3, p_sm4, true_and, and_true, if_true, if_false, ↓reduceIte, Nat.reduceEqDiff, reduceCtorEq, or_true, true_or, and_self, Int32.reduceLT, Int32.reduceAdd, Int32.reduceSub, Int32.reduceToNatClampNeg, not_false_eq_true, not_true_eq_false, h13])] at this
  simp (decide := true) only [e18_0, e18_1, e18_2, e18_5, e18_6, e18_8, e18_9, e18_12, e18_13, e18_14, e18_15, e18_16, e18_17, e18_20, e18_21, e18_22, e18_25, e18_26, e18_26i, e18_27, e18_30, e18_31, e18_32, e18_35, e18_36, e18_37, e18_38, e18_39, e18_42, e18_43, e18_46, e18_47, e18_48, e18_49, e18_50, e18_53, e18_54, e18_55, e18_56, e18_59, e18_60, e18_61, e18_62, e18_63, e18_66, e18_69, e18_72, e18_75, m18, ok_4_8_4, fs9_8, ok_4_2_4, fv9_2, fv9_8, ok_4_5_4, fv9_5, Kt_some, Kt_none, V_ite, g_if, g_ss, g_1, g_2, g_cn, g_iok, g_sok, g_bok, g_jok, g_qok, g_ivl, g_jvl, g_qvl, g_ist, g_bst, g_jst, g_qst, g_aln, g_isa, g_dl1, g_dl2, g_dl3, g_dl4, g_dl5, g_dd, g_rfs, g_rfn, p_sm0, p_sm1, p_sm2, p_sm3, p_sm4, true_and, and_true, if_true, if_false, ↓reduceIte, Nat.reduceEqDiff, reduceCtorEq, or_true, true_or, and_self, Int32.reduceLT, Int32.reduceAdd, Int32.reduceSub, Int32.reduceToNatClampNeg, not_false_eq_true, not_true_eq_false, h10]
  exact this
/-- bits that are set where something holds -/
def fb (P : Nat → Bool) : Nat → Nat
  | 0 => 0
  | k + 1 => if P k = true then fb P k + 2 ^ k else fb P k
theorem fb_s (P : Nat → Bool) (k : Nat) : fb P (k + 1) = if P k = true then fb P k + 2 ^ k else fb P k := rfl
theorem fb_lt (P : Nat → Bool) : ∀ i, fb P i < 2 ^ i
  | 0 => Nat.one_pos
  | i + 1 => by
    have := fb_lt P i
    have e : 2 ^ (i + 1) = 2 ^ i + 2 ^ i := by rw [Nat.pow_succ]; omega
    unfold fb
    split <;> omega
theorem fb_t (P : Nat → Bool) : ∀ n k, k < n → fb P n / 2 ^ k % 2 = if P k = true then 1 else 0
  | 0, k, h => absurd h (Nat.not_lt_zero k)
  | n + 1, k, h => by
    by_cases hk : k = n
    · subst hk
      have := fb_lt P k
      have hp : 0 < 2 ^ k := Nat.pow_pos (by decide)
      rw [fb_s]
      by_cases q : P k = true
      · rw [if_pos q, if_pos q, Nat.add_div_right _ hp, Nat.div_eq_of_lt this]
      · rw [if_neg q, if_neg q, Nat.div_eq_of_lt this]
    · have ih := fb_t P n k (by omega)
      rw [← ih, fb_s]
      by_cases q : P n = true
      · rw [if_pos q]
        have e : 2 ^ n = 2 ^ k * (2 * 2 ^ (n - k - 1)) := by
          rw [← Nat.mul_assoc, ← Nat.pow_succ, ← Nat.pow_add]
          congr 1
          omega
        rw [e, Nat.add_mul_div_left _ _ (Nat.pow_pos (by decide))]
        omega
      · rw [if_neg q]
/-- which crews can have poured on a day -/
def ftp (H L had line : Int32) (t : Nat → Int32) : Nat → Bool := fun x => decide (mx 0 (mn (had + t x) H - L) = line)
theorem l19 {n b : Nat} {had line : Int32} {fh fl t : Nat → Int32} (a4 : p_get h 4 = some (oS 5 6 (nI n))) (a5 : p_get h 5 = some (aI 4 fh)) (a6 : p_get h 6 = some (aI 4 fl)) (h10 : p_get h 10 = some (oU sz (nI b) fr cs)) (h13 : p_get h 13 = some (aI 32 t)) (hn : n ≤ 4) (hb : b < n) : ∀ (d k : Nat) (l6 : Option Value), k + d = 32 → V 19 6 [some (.ref 10), some (.ref 4), some (.int had), some (.int line), some (.int (nI (fb (ftp (fh b) (fl b) had line t) k))), some (.int (nI k)), l6] [] h K = K (some (.int (nI (fb (ftp (fh b) (fl b) had line t) 32)))) h := by
  intro d
  induction d with
  | zero =>
    intro k l6 hk
    have e2 : k = 32 := by omega
    subst e2
    rw [e19_6]
    simp (decide := true) only [e19_0, e19_1, e19_3, e19_4, e19_8, e19_10, e19_13, e19_13n, e19_14, e19_15, e19_18, e19_19, e19_20, e19_23, e19_25, e19_26, e19_27, e19_30, e19_32, e19_32n, e19_33, e19_34, e19_37, e19_39, e19_42, e19_43, e19_46, e19_48, e19_49, e19_51, e19_52, e19_53, e19_55, e19_58, e19_61, e19_63, m19, ok_4_3_4, fv9_3, ok_4_5_4, fv9_5, Kt_some, Kt_none, V_ite, g_if, g_ss, g_1, g_2, g_cn, g_iok, g_sok, g_bok, g_jok, g_qok, g_ivl, g_jvl, g_qvl, g_ist, g_bst, g_jst, g_qst, g_aln, g_isa, g_dl1, g_dl2, g_dl3, g_dl4, g_dl5, g_dd, g_rfs, g_rfn, p_sm0, p_sm1, p_sm2, p_sm3, p_sm4, true_and, and_true, if_true, if_false, ↓reduceIte, Nat.reduceEqDiff, reduceCtorEq, or_true, true_or, and_self, Int32.reduceLT, Int32.reduceAdd, Int32.reduceSub, Int32.reduceToNatClampNeg, not_false_eq_true, not_true_eq_false, show (nI 32 < 32) = False from eq_false (by decide)]
  | succ d ih =>
    intro k l6 hk
    have e1 : (nI k < 32) = True := nI_T (a := k) (b := 32) (by omega) (by omega)
    have v3 := vp_T (show k < 32 by omega) (by omega)
    have c3 := nI_c (a := k) (by omega)
    have s3 := sh_i k (by omega)
    have r1 := nI_0F (a := b) (by omega)
    have r2 := nI_T hb (by omega)
    have r3 := vp_T (show b < 4 by omega) (by omega)
    have r4 := nI_c (a := b) (by omega)
    have hlt := fb_lt (ftp (fh b) (fl b) had line t) k
    have o3 := or_g hlt
    rw [e19_6]
    by_cases hc : mx 0 (mn (had + t k) (fh b) - fl b) = line
    · have hP : ftp (fh b) (fl b) had line t k = true := decide_eq_true hc
      simp (decide := true) only [e19_0, e19_1, e19_3, e19_4, e19_8, e19_10, e19_13, e19_13n, e19_14, e19_15, e19_18, e19_19, e19_20, e19_23, e19_25, e19_26, e19_27, e19_30, e19_32, e19_32n, e19_33, e19_34, e19_37, e19_39, e19_42, e19_43, e19_46, e19_48, e19_49, e19_51, e19_52, e19_53, e19_55, e19_58, e19_61, e19_63, m19, ok_4_3_4, fv9_3, ok_4_5_4, fv9_5, Kt_some, Kt_none, V_ite, g_if, g_ss, g_1, g_2, g_cn, g_iok, g_sok, g_bok, g_jok, g_qok, g_ivl, g_jvl, g_qvl, g_ist, g_bst, g_jst, g_qst, g_aln, g_isa, g_dl1, g_dl2, g_dl3, g_dl4, g_dl5, g_dd, g_rfs, g_rfn, p_sm0, p_sm1, p_sm2, p_sm3, p_sm4, true_and, and_true, if_true, if_false, ↓reduceIte, Nat.reduceEqDiff, reduceCtorEq, or_true, true_or, and_self, Int32.reduceLT, Int32.reduceAdd, Int32.reduceSub, Int32.reduceToNatClampNeg, not_false_eq_true, not_true_eq_false, e1, h10, h13, a4, v3, c3, c63 a4 a5, c62 a4 a6, r1, r2, r3, r4, hc, s3, o3, nI_1]
      have := ih (k + 1) (some (.int (mn (had + t k) (fh b)))) (by omega)
      rw [fb, if_pos hP] at this
      exact this
    · have hP : ¬ ftp (fh b) (fl b) had line t k = true := fun q => hc (of_decide_eq_true q)
      simp (decide := true) only [e19_0, e19_1, e19_3, e19_4, e19_8, e19_10, e19_13, e19_13n, e19_14, e19_15, e19_18, e19_19, e19_20, e19_23, e19_25, e19_26, e19_27, e19_30, e19_32, e19_32n, e19_33, e19_34, e19_37, e19_39, e19_42, e19_43, e19_46, e19_48, e19_49, e19_51, e19_52, e19_53, e19_55, e19_58, e19_61, e19_63, m19, ok_4_3_4, fv9_3, ok_4_5_4, fv9_5, Kt_some, Kt_none, V_ite, g_if, g_ss, g_1, g_2, g_cn, g_iok, g_sok, g_bok, g_jok, g_qok, g_ivl, g_jvl, g_qvl, g_ist, g_bst, g_jst, g_qst, g_aln, g_isa, g_dl1, g_dl2, g_dl3, g_dl4, g_dl5, g_dd, g_rfs, g_rfn, p_sm0, p_sm1, p_sm2, p_sm3, p_sm4, true_and, and_true, if_true, if_false, ↓reduceIte, Nat.reduceEqDiff, reduceCtorEq, or_true, true_or, and_self, Int32.reduceLT, Int32.reduceAdd, Int32.reduceSub, Int32.reduceToNatClampNeg, not_false_eq_true, not_true_eq_false, e1, h10, h13, a4, v3, c3, c63 a4 a5, c62 a4 a6, r1, r2, r3, r4, hc, nI_1]
      have := ih (k + 1) (some (.int (mn (had + t k) (fh b)))) (by omega)
      rw [fb, if_neg hP] at this
      exact this
theorem c19 {n b : Nat} {had line : Int32} {fh fl t : Nat → Int32} (a4 : p_get h 4 = some (oS 5 6 (nI n))) (a5 : p_get h 5 = some (aI 4 fh)) (a6 : p_get h 6 = some (aI 4 fl)) (h10 : p_get h 10 = some (oU sz (nI b) fr cs)) (h13 : p_get h 13 = some (aI 32 t)) (hn : n ≤ 4) (hb : b < n) : Vm 19 [.ref 10, .ref 4, .int had, .int line] h K = K (some (.int (nI (fb (ftp (fh b) (fl b) had line t) 32)))) h := by
  have := l19 (K := K) (had := had) (line := line) a4 a5 a6 h10 h13 hn hb 32 0 none (by omega)
  simp (decide := true) only [e19_0, e19_1, e19_3, e19_4, e19_8, e19_10, e19_13, e19_13n, e19_14, e19_15, e19_18, e19_19, e19_20, e19_23, e19_25, e19_26, e19_27, e19_30, e19_32, e19_32n, e19_33, e19_34, e19_37, e19_39, e19_42, e19_43, e19_46, e19_48, e19_49, e19_51, e19_52, e19_53, e19_55, e19_58, e19_61, e19_63, m19, ok_4_3_4, fv9_3, ok_4_5_4, fv9_5, Kt_some, Kt_none, V_ite, g_if, g_ss, g_1, g_2, g_cn, g_iok, g_sok, g_bok, g_jok, g_qok, g_ivl, g_jvl, g_qvl, g_ist, g_bst, g_jst, g_qst, g_aln, g_isa, g_dl1, g_dl2, g_dl3, g_dl4, g_dl5, g_dd, g_rfs, g_rfn, p_sm0, p_sm1, p_sm2, p_sm3, p_sm4, true_and, and_true, if_true, if_false, ↓reduceIte, Nat.reduceEqDiff, reduceCtorEq, or_true, true_or, and_self, Int32.reduceLT, Int32.reduceAdd, Int32.reduceSub, Int32.reduceToNatClampNeg, not_false_eq_true, not_true_eq_false]
  exact this
end S29
