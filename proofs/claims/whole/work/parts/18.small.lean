/-! boats; letters; reading a stair; small methods of Mud and Image -/
section S18
variable {h : pH} {Q : Option Value → pH → Prop} {s p q r a : Nat} {nb b k : Int32} {fh fl f g : Nat → Int32}
theorem g_comm {h : pH} {a b : Nat} {x y : pE} (hne : a ≠ b) : p_set (p_set h a x) b y = p_set (p_set h b y) a x := by
  unfold p_set
  simp only [Prod.mk.injEq, true_and]
  funext j
  unfold va_up
  by_cases h1 : j = b
  · by_cases h2 : j = a
    · exact absurd (h2.symm.trans h1) hne
    · simp [h1, h2]
      intro e
      exact absurd e.symm hne
  · simp [h1]
abbrev oB (ci : Nat) (d c pl ld : Int32) : pE := .inr (ci, [.int d, .int c, .int pl, .int ld])
/-- of a boat, by its class: kind, needs, carries -/
def bk (ci : Nat) : Int32 := if ci = 7 then 1 else if ci = 0 then 2 else if ci = 2 then 3 else if ci = 10 then 4 else 0
def bn (ci : Nat) (d : Int32) : Int32 := if ci = 7 then (d + 1) / 2 else if ci = 0 then d + 1 else d
def bc (ci : Nat) (c : Int32) : Int32 := if ci = 10 then 2 * c else c
theorem bt_cases {ci : Nat} (hc : p_bt ci = true) : ci = 0 ∨ ci = 1 ∨ ci = 2 ∨ ci = 7 ∨ ci = 10 := by
  unfold p_bt at hc
  simp only [Bool.or_eq_true, beq_iff_eq] at hc
  omega
section BT
variable {ci : Nat} {d c pl ld : Int32}
theorem c_kind (hb : p_get h a = some (oB ci d c pl ld)) (hc : p_bt ci = true) : Vm (p_tz [(0, 1), (1, 4), (2, 8), (7, 37), (10, 66)] ci) [.ref a] h Q = Q (some (.int (bk ci))) h := by
  rcases bt_cases hc with rfl | rfl | rfl | rfl | rfl
  · show Vm 1 _ _ _ = _
    simp (decide := true) only [e1_0, e1_1, m1, Kt_some, Kt_none, V_ite, g_if, g_ss, g_1, g_2, g_cn, g_iok, g_sok, g_bok, g_jok, g_qok, g_ivl, g_jvl, g_qvl, g_ist, g_bst, g_jst, g_qst, g_aln, g_isa, g_dl1, g_dl2, g_dl3, g_dl4, g_dl5, g_dd, g_rfs, g_rfn, p_sm0, p_sm1, p_sm2, p_sm3, p_sm4, true_and, and_true, if_true, if_false, ↓reduceIte, Nat.reduceEqDiff, reduceCtorEq, or_true, true_or, and_self, Int32.reduceLT, Int32.reduceAdd, Int32.reduceSub, Int32.reduceToNatClampNeg, not_false_eq_true, not_true_eq_false, hb, bk]
  · show Vm 4 _ _ _ = _
    simp (decide := true) only [e4_0, e4_1, m4, Kt_some, Kt_none, V_ite, g_if, g_ss, g_1, g_2, g_cn, g_iok, g_sok, g_bok, g_jok, g_qok, g_ivl, g_jvl, g_qvl, g_ist, g_bst, g_jst, g_qst, g_aln, g_isa, g_dl1, g_dl2, g_dl3, g_dl4, g_dl5, g_dd, g_rfs, g_rfn, p_sm0, p_sm1, p_sm2, p_sm3, p_sm4, true_and, and_true, if_true, if_false, ↓reduceIte, Nat.reduceEqDiff, reduceCtorEq, or_true, true_or, and_self, Int32.reduceLT, Int32.reduceAdd, Int32.reduceSub, Int32.reduceToNatClampNeg, not_false_eq_true, not_true_eq_false, hb, bk]
  · show Vm 8 _ _ _ = _
    simp (decide := true) only [e8_0, e8_1, m8, Kt_some, Kt_none, V_ite, g_if, g_ss, g_1, g_2, g_cn, g_iok, g_sok, g_bok, g_jok, g_qok, g_ivl, g_jvl, g_qvl, g_ist, g_bst, g_jst, g_qst, g_aln, g_isa, g_dl1, g_dl2, g_dl3, g_dl4, g_dl5, g_dd, g_rfs, g_rfn, p_sm0, p_sm1, p_sm2, p_sm3, p_sm4, true_and, and_true, if_true, if_false, ↓reduceIte, Nat.reduceEqDiff, reduceCtorEq, or_true, true_or, and_self, Int32.reduceLT, Int32.reduceAdd, Int32.reduceSub, Int32.reduceToNatClampNeg, not_false_eq_true, not_true_eq_false, hb, bk]
  · show Vm 37 _ _ _ = _
    simp (decide := true) only [e37_0, e37_1, m37, Kt_some, Kt_none, V_ite, g_if, g_ss, g_1, g_2, g_cn, g_iok, g_sok, g_bok, g_jok, g_qok, g_ivl, g_jvl, g_qvl, g_ist, g_bst, g_jst, g_qst, g_aln, g_isa, g_dl1, g_dl2, g_dl3, g_dl4, g_dl5, g_dd, g_rfs, g_rfn, p_sm0, p_sm1, p_sm2, p_sm3, p_sm4, true_and, and_true, if_true, if_false, ↓reduceIte, Nat.reduceEqDiff, reduceCtorEq, or_true, true_or, and_self, Int32.reduceLT, Int32.reduceAdd, Int32.reduceSub, Int32.reduceToNatClampNeg, not_false_eq_true, not_true_eq_false, hb, bk]
  · show Vm 66 _ _ _ = _
    simp (decide := true) only [e66_0, e66_1, m66, Kt_some, Kt_none, V_ite, g_if, g_ss, g_1, g_2, g_cn, g_iok, g_sok, g_bok, g_jok, g_qok, g_ivl, g_jvl, g_qvl, g_ist, g_bst, g_jst, g_qst, g_aln, g_isa, g_dl1, g_dl2, g_dl3, g_dl4, g_dl5, g_dd, g_rfs, g_rfn, p_sm0, p_sm1, p_sm2, p_sm3, p_sm4, true_and, and_true, if_true, if_false, ↓reduceIte, Nat.reduceEqDiff, reduceCtorEq, or_true, true_or, and_self, Int32.reduceLT, Int32.reduceAdd, Int32.reduceSub, Int32.reduceToNatClampNeg, not_false_eq_true, not_true_eq_false, hb, bk]
theorem c_needs (hb : p_get h a = some (oB ci d c pl ld)) (hc : p_bt ci = true) : Vm (p_tz [(0, 2), (1, 5), (2, 5), (7, 38), (10, 5)] ci) [.ref a] h Q = Q (some (.int (bn ci d))) h := by
  rcases bt_cases hc with rfl | rfl | rfl | rfl | rfl
  · show Vm 2 _ _ _ = _
    simp (decide := true) only [e2_0, e2_1, e2_4, e2_5, e2_6, m2, ok_0_0_0, fv4_0, Kt_some, Kt_none, V_ite, g_if, g_ss, g_1, g_2, g_cn, g_iok, g_sok, g_bok, g_jok, g_qok, g_ivl, g_jvl, g_qvl, g_ist, g_bst, g_jst, g_qst, g_aln, g_isa, g_dl1, g_dl2, g_dl3, g_dl4, g_dl5, g_dd, g_rfs, g_rfn, p_sm0, p_sm1, p_sm2, p_sm3, p_sm4, true_and, and_true, if_true, if_false, ↓reduceIte, Nat.reduceEqDiff, reduceCtorEq, or_true, true_or, and_self, Int32.reduceLT, Int32.reduceAdd, Int32.reduceSub, Int32.reduceToNatClampNeg, not_false_eq_true, not_true_eq_false, hb, bn]
  · show Vm 5 _ _ _ = _
    simp (decide := true) only [e5_0, e5_1, e5_4, m5, ok_0x1x2x7x10_0_0, fv4_0, ok_0x1x2x7x10_0_1, ok_0x1x2x7x10_0_2, ok_0x1x2x7x10_0_7, ok_0x1x2x7x10_0_10, Kt_some, Kt_none, V_ite, g_if, g_ss, g_1, g_2, g_cn, g_iok, g_sok, g_bok, g_jok, g_qok, g_ivl, g_jvl, g_qvl, g_ist, g_bst, g_jst, g_qst, g_aln, g_isa, g_dl1, g_dl2, g_dl3, g_dl4, g_dl5, g_dd, g_rfs, g_rfn, p_sm0, p_sm1, p_sm2, p_sm3, p_sm4, true_and, and_true, if_true, if_false, ↓reduceIte, Nat.reduceEqDiff, reduceCtorEq, or_true, true_or, and_self, Int32.reduceLT, Int32.reduceAdd, Int32.reduceSub, Int32.reduceToNatClampNeg, not_false_eq_true, not_true_eq_false, hb, bn]
  · show Vm 5 _ _ _ = _
    simp (decide := true) only [e5_0, e5_1, e5_4, m5, ok_0x1x2x7x10_0_0, fv4_0, ok_0x1x2x7x10_0_1, ok_0x1x2x7x10_0_2, ok_0x1x2x7x10_0_7, ok_0x1x2x7x10_0_10, Kt_some, Kt_none, V_ite, g_if, g_ss, g_1, g_2, g_cn, g_iok, g_sok, g_bok, g_jok, g_qok, g_ivl, g_jvl, g_qvl, g_ist, g_bst, g_jst, g_qst, g_aln, g_isa, g_dl1, g_dl2, g_dl3, g_dl4, g_dl5, g_dd, g_rfs, g_rfn, p_sm0, p_sm1, p_sm2, p_sm3, p_sm4, true_and, and_true, if_true, if_false, ↓reduceIte, Nat.reduceEqDiff, reduceCtorEq, or_true, true_or, and_self, Int32.reduceLT, Int32.reduceAdd, Int32.reduceSub, Int32.reduceToNatClampNeg, not_false_eq_true, not_true_eq_false, hb, bn]
  · show Vm 38 _ _ _ = _
    simp (decide := true) only [e38_0, e38_1, e38_4, e38_5, e38_6, e38_7, e38_8, m38, ok_7_0_7, fv4_0, Kt_some, Kt_none, V_ite, g_if, g_ss, g_1, g_2, g_cn, g_iok, g_sok, g_bok, g_jok, g_qok, g_ivl, g_jvl, g_qvl, g_ist, g_bst, g_jst, g_qst, g_aln, g_isa, g_dl1, g_dl2, g_dl3, g_dl4, g_dl5, g_dd, g_rfs, g_rfn, p_sm0, p_sm1, p_sm2, p_sm3, p_sm4, true_and, and_true, if_true, if_false, ↓reduceIte, Nat.reduceEqDiff, reduceCtorEq, or_true, true_or, and_self, Int32.reduceLT, Int32.reduceAdd, Int32.reduceSub, Int32.reduceToNatClampNeg, not_false_eq_true, not_true_eq_false, hb, bn]
  · show Vm 5 _ _ _ = _
    simp (decide := true) only [e5_0, e5_1, e5_4, m5, ok_0x1x2x7x10_0_0, fv4_0, ok_0x1x2x7x10_0_1, ok_0x1x2x7x10_0_2, ok_0x1x2x7x10_0_7, ok_0x1x2x7x10_0_10, Kt_some, Kt_none, V_ite, g_if, g_ss, g_1, g_2, g_cn, g_iok, g_sok, g_bok, g_jok, g_qok, g_ivl, g_jvl, g_qvl, g_ist, g_bst, g_jst, g_qst, g_aln, g_isa, g_dl1, g_dl2, g_dl3, g_dl4, g_dl5, g_dd, g_rfs, g_rfn, p_sm0, p_sm1, p_sm2, p_sm3, p_sm4, true_and, and_true, if_true, if_false, ↓reduceIte, Nat.reduceEqDiff, reduceCtorEq, or_true, true_or, and_self, Int32.reduceLT, Int32.reduceAdd, Int32.reduceSub, Int32.reduceToNatClampNeg, not_false_eq_true, not_true_eq_false, hb, bn]
theorem c_carries (hb : p_get h a = some (oB ci d c pl ld)) (hc : p_bt ci = true) : Vm (p_tz [(0, 6), (1, 6), (2, 6), (7, 6), (10, 67)] ci) [.ref a] h Q = Q (some (.int (bc ci c))) h := by
  rcases bt_cases hc with rfl | rfl | rfl | rfl | rfl
  · show Vm 6 _ _ _ = _
    simp (decide := true) only [e6_0, e6_1, e6_4, m6, ok_0x1x2x7x10_1_0, fv4_1, ok_0x1x2x7x10_1_1, ok_0x1x2x7x10_1_2, ok_0x1x2x7x10_1_7, ok_0x1x2x7x10_1_10, Kt_some, Kt_none, V_ite, g_if, g_ss, g_1, g_2, g_cn, g_iok, g_sok, g_bok, g_jok, g_qok, g_ivl, g_jvl, g_qvl, g_ist, g_bst, g_jst, g_qst, g_aln, g_isa, g_dl1, g_dl2, g_dl3, g_dl4, g_dl5, g_dd, g_rfs, g_rfn, p_sm0, p_sm1, p_sm2, p_sm3, p_sm4, true_and, and_true, if_true, if_false, ↓reduceIte, Nat.reduceEqDiff, reduceCtorEq, or_true, true_or, and_self, Int32.reduceLT, Int32.reduceAdd, Int32.reduceSub, Int32.reduceToNatClampNeg, not_false_eq_true, not_true_eq_false, hb, bc]
  · show Vm 6 _ _ _ = _
    simp (decide := true) only [e6_0, e6_1, e6_4, m6, ok_0x1x2x7x10_1_0, fv4_1, ok_0x1x2x7x10_1_1, ok_0x1x2x7x10_1_2, ok_0x1x2x7x10_1_7, ok_0x1x2x7x10_1_10, Kt_some, Kt_none, V_ite, g_if, g_ss, g_1, g_2, g_cn, g_iok, g_sok, g_bok, g_jok, g_qok, g_ivl, g_jvl, g_qvl, g_ist, g_bst, g_jst, g_qst, g_aln, g_isa, g_dl1, g_dl2, g_dl3, g_dl4, g_dl5, g_dd, g_rfs, g_rfn, p_sm0, p_sm1, p_sm2, p_sm3, p_sm4, true_and, and_true, if_true, if_false, ↓reduceIte, Nat.reduceEqDiff, reduceCtorEq, or_true, true_or, and_self, Int32.reduceLT, Int32.reduceAdd, Int32.reduceSub, Int32.reduceToNatClampNeg, not_false_eq_true, not_true_eq_false, hb, bc]
  · show Vm 6 _ _ _ = _
    simp (decide := true) only [e6_0, e6_1, e6_4, m6, ok_0x1x2x7x10_1_0, fv4_1, ok_0x1x2x7x10_1_1, ok_0x1x2x7x10_1_2, ok_0x1x2x7x10_1_7, ok_0x1x2x7x10_1_10, Kt_some, Kt_none, V_ite, g_if, g_ss, g_1, g_2, g_cn, g_iok, g_sok, g_bok, g_jok, g_qok, g_ivl, g_jvl, g_qvl, g_ist, g_bst, g_jst, g_qst, g_aln, g_isa, g_dl1, g_dl2, g_dl3, g_dl4, g_dl5, g_dd, g_rfs, g_rfn, p_sm0, p_sm1, p_sm2, p_sm3, p_sm4, true_and, and_true, if_true, if_false, ↓reduceIte, Nat.reduceEqDiff, reduceCtorEq, or_true, true_or, and_self, Int32.reduceLT, Int32.reduceAdd, Int32.reduceSub, Int32.reduceToNatClampNeg, not_false_eq_true, not_true_eq_false, hb, bc]
  · show Vm 6 _ _ _ = _
    simp (decide := true) only [e6_0, e6_1, e6_4, m6, ok_0x1x2x7x10_1_0, fv4_1, ok_0x1x2x7x10_1_1, ok_0x1x2x7x10_1_2, ok_0x1x2x7x10_1_7, ok_0x1x2x7x10_1_10, Kt_some, Kt_none, V_ite, g_if, g_ss, g_1, g_2, g_cn, g_iok, g_sok, g_bok, g_jok, g_qok, g_ivl, g_jvl, g_qvl, g_ist, g_bst, g_jst, g_qst, g_aln, g_isa, g_dl1, g_dl2, g_dl3, g_dl4, g_dl5, g_dd, g_rfs, g_rfn, p_sm0, p_sm1, p_sm2, p_sm3, p_sm4, true_and, and_true, if_true, if_false, ↓reduceIte, Nat.reduceEqDiff, reduceCtorEq, or_true, true_or, and_self, Int32.reduceLT, Int32.reduceAdd, Int32.reduceSub, Int32.reduceToNatClampNeg, not_false_eq_true, not_true_eq_false, hb, bc]
  · show Vm 67 _ _ _ = _
    simp (decide := true) only [e67_0, e67_1, e67_2, e67_5, e67_6, m67, ok_10_1_10, fv4_1, Kt_some, Kt_none, V_ite, g_if, g_ss, g_1, g_2, g_cn, g_iok, g_sok, g_bok, g_jok, g_qok, g_ivl, g_jvl, g_qvl, g_ist, g_bst, g_jst, g_qst, g_aln, g_isa, g_dl1, g_dl2, g_dl3, g_dl4, g_dl5, g_dd, g_rfs, g_rfn, p_sm0, p_sm1, p_sm2, p_sm3, p_sm4, true_and, and_true, if_true, if_false, ↓reduceIte, Nat.reduceEqDiff, reduceCtorEq, or_true, true_or, and_self, Int32.reduceLT, Int32.reduceAdd, Int32.reduceSub, Int32.reduceToNatClampNeg, not_false_eq_true, not_true_eq_false, hb, bc]
end BT
/-- a byte of a long -/
def bo (w : Int64) (i : Int32) : Int32 := (w.toUInt64 >>> ((8 * i).toInt64.toUInt64 &&& Int64.toUInt64 63)).toInt64.toInt32 &&& 255
theorem c31 {w : Int64} {i : Int32} : Vm 31 [.long w, .int i] h Q = Q (some (.int (bo w i))) h := by
  simp (decide := true) only [e31_0, e31_1, e31_3, e31_4, e31_5, e31_6, e31_7, e31_10, e31_11, m31, Kt_some, Kt_none, V_ite, g_if, g_ss, g_1, g_2, g_cn, g_iok, g_sok, g_bok, g_jok, g_qok, g_ivl, g_jvl, g_qvl, g_ist, g_bst, g_jst, g_qst, g_aln, g_isa, g_dl1, g_dl2, g_dl3, g_dl4, g_dl5, g_dd, g_rfs, g_rfn, p_sm0, p_sm1, p_sm2, p_sm3, p_sm4, true_and, and_true, if_true, if_false, ↓reduceIte, Nat.reduceEqDiff, reduceCtorEq, or_true, true_or, and_self, Int32.reduceLT, Int32.reduceAdd, Int32.reduceSub, Int32.reduceToNatClampNeg, not_false_eq_true, not_true_eq_false, bo]
/-- how many letters: none if they are not as told -/
def li (g : Nat → Int32) : Nat → Nat → Nat → Option Nat
  | 0, _, t => some t
  | d + 1, i, t => if 126 < g i then none else if g i = 0 then li g d (i + 1) t else if t < i then none else li g d (i + 1) (t + 1)
def lr (o : Option Nat) : Int32 := match o with
  | some t => nI t
  | none => -102
theorem l30 {w : Int64} : ∀ (d i t : Nat) (l4 : Option Value), i + d = 8 → t ≤ i → V 30 4 [some (.long w), none, some (.int (nI t)), some (.int (nI i)), l4] [] h Q = Q (some (.int (lr (li (fun j => bo w (nI j)) d i t)))) h := by
  intro d
  induction d with
  | zero =>
    intro i t l4 hi ht
    have e1 : (nI i < 8) = False := nI_F (a := i) (b := 8) (by omega) (by omega)
    simp (decide := true) only [e30_0, e30_1, e30_2, e30_3, e30_4, e30_5, e30_7, e30_10, e30_11, e30_12, e30_15, e30_17, e30_19, e30_21, e30_24, e30_26, e30_29, e30_30, e30_31, e30_34, e30_36, e30_37, e30_39, e30_42, e30_45, e30_48, e30_51, e30_52, m30, Kt_some, Kt_none, V_ite, g_if, g_ss, g_1, g_2, g_cn, g_iok, g_sok, g_bok, g_jok, g_qok, g_ivl, g_jvl, g_qvl, g_ist, g_bst, g_jst, g_qst, g_aln, g_isa, g_dl1, g_dl2, g_dl3, g_dl4, g_dl5, g_dd, g_rfs, g_rfn, p_sm0, p_sm1, p_sm2, p_sm3, p_sm4, true_and, and_true, if_true, if_false, ↓reduceIte, Nat.reduceEqDiff, reduceCtorEq, or_true, true_or, and_self, Int32.reduceLT, Int32.reduceAdd, Int32.reduceSub, Int32.reduceToNatClampNeg, not_false_eq_true, not_true_eq_false, e1, li, lr]
  | succ d ih =>
    intro i t l4 hi ht
    have e1 : (nI i < 8) = True := nI_T (a := i) (b := 8) (by omega) (by omega)
    rw [e30_4]
    by_cases h1 : 126 < bo w (nI i)
    · simp (decide := true) only [e30_0, e30_1, e30_2, e30_3, e30_5, e30_7, e30_10, e30_11, e30_12, e30_15, e30_17, e30_19, e30_21, e30_24, e30_26, e30_29, e30_30, e30_31, e30_34, e30_36, e30_37, e30_39, e30_42, e30_45, e30_48, e30_51, e30_52, m30, Kt_some, Kt_none, V_ite, g_if, g_ss, g_1, g_2, g_cn, g_iok, g_sok, g_bok, g_jok, g_qok, g_ivl, g_jvl, g_qvl, g_ist, g_bst, g_jst, g_qst, g_aln, g_isa, g_dl1, g_dl2, g_dl3, g_dl4, g_dl5, g_dd, g_rfs, g_rfn, p_sm0, p_sm1, p_sm2, p_sm3, p_sm4, true_and, and_true, if_true, if_false, ↓reduceIte, Nat.reduceEqDiff, reduceCtorEq, or_true, true_or, and_self, Int32.reduceLT, Int32.reduceAdd, Int32.reduceSub, Int32.reduceToNatClampNeg, not_false_eq_true, not_true_eq_false, e1, c31, h1, li, lr]
    · by_cases h2 : bo w (nI i) = 0
      · simp (decide := true) only [e30_0, e30_1, e30_2, e30_3, e30_5, e30_7, e30_10, e30_11, e30_12, e30_15, e30_17, e30_19, e30_21, e30_24, e30_26, e30_29, e30_30, e30_31, e30_34, e30_36, e30_37, e30_39, e30_42, e30_45, e30_48, e30_51, e30_52, m30, Kt_some, Kt_none, V_ite, g_if, g_ss, g_1, g_2, g_cn, g_iok, g_sok, g_bok, g_jok, g_qok, g_ivl, g_jvl, g_qvl, g_ist, g_bst, g_jst, g_qst, g_aln, g_isa, g_dl1, g_dl2, g_dl3, g_dl4, g_dl5, g_dd, g_rfs, g_rfn, p_sm0, p_sm1, p_sm2, p_sm3, p_sm4, true_and, and_true, if_true, if_false, ↓reduceIte, Nat.reduceEqDiff, reduceCtorEq, or_true, true_or, and_self, Int32.reduceLT, Int32.reduceAdd, Int32.reduceSub, Int32.reduceToNatClampNeg, not_false_eq_true, not_true_eq_false, e1, c31, h1, h2, li, nI_1]
        rw [ih (i + 1) t _ (by omega) (by omega)]
      · by_cases h3 : t < i
        · have e3 := nI_T h3 (by omega)
          simp (decide := true) only [e30_0, e30_1, e30_2, e30_3, e30_5, e30_7, e30_10, e30_11, e30_12, e30_15, e30_17, e30_19, e30_21, e30_24, e30_26, e30_29, e30_30, e30_31, e30_34, e30_36, e30_37, e30_39, e30_42, e30_45, e30_48, e30_51, e30_52, m30, Kt_some, Kt_none, V_ite, g_if, g_ss, g_1, g_2, g_cn, g_iok, g_sok, g_bok, g_jok, g_qok, g_ivl, g_jvl, g_qvl, g_ist, g_bst, g_jst, g_qst, g_aln, g_isa, g_dl1, g_dl2, g_dl3, g_dl4, g_dl5, g_dd, g_rfs, g_rfn, p_sm0, p_sm1, p_sm2, p_sm3, p_sm4, true_and, and_true, if_true, if_false, ↓reduceIte, Nat.reduceEqDiff, reduceCtorEq, or_true, true_or, and_self, Int32.reduceLT, Int32.reduceAdd, Int32.reduceSub, Int32.reduceToNatClampNeg, not_false_eq_true, not_true_eq_false, e1, c31, h1, h2, h3, e3, li, lr]
        · have e3 := nI_F (a := t) (b := i) (by omega) (by omega)
          simp (decide := true) only [e30_0, e30_1, e30_2, e30_3, e30_5, e30_7, e30_10, e30_11, e30_12, e30_15, e30_17, e30_19, e30_21, e30_24, e30_26, e30_29, e30_30, e30_31, e30_34, e30_36, e30_37, e30_39, e30_42, e30_45, e30_48, e30_51, e30_52, m30, Kt_some, Kt_none, V_ite, g_if, g_ss, g_1, g_2, g_cn, g_iok, g_sok, g_bok, g_jok, g_qok, g_ivl, g_jvl, g_qvl, g_ist, g_bst, g_jst, g_qst, g_aln, g_isa, g_dl1, g_dl2, g_dl3, g_dl4, g_dl5, g_dd, g_rfs, g_rfn, p_sm0, p_sm1, p_sm2, p_sm3, p_sm4, true_and, and_true, if_true, if_false, ↓reduceIte, Nat.reduceEqDiff, reduceCtorEq, or_true, true_or, and_self, Int32.reduceLT, Int32.reduceAdd, Int32.reduceSub, Int32.reduceToNatClampNeg, not_false_eq_true, not_true_eq_false, e1, c31, h1, h2, h3, e3, li, nI_1]
          rw [ih (i + 1) (t + 1) _ (by omega) (by omega)]
theorem c30 {w : Int64} : Vm 30 [.long w] h Q = Q (some (.int (lr (li (fun j => bo w (nI j)) 8 0 0)))) h := by
  have := l30 (Q := Q) (h := h) (w := w) 8 0 0 none (by omega) (by omega)
  simp (decide := true) only [e30_0, e30_1, e30_2, e30_3, e30_5, e30_7, e30_10, e30_11, e30_12, e30_15, e30_17, e30_19, e30_21, e30_24, e30_26, e30_29, e30_30, e30_31, e30_34, e30_36, e30_37, e30_39, e30_42, e30_45, e30_48, e30_51, e30_52, m30, Kt_some, Kt_none, V_ite, g_if, g_ss, g_1, g_2, g_cn, g_iok, g_sok, g_bok, g_jok, g_qok, g_ivl, g_jvl, g_qvl, g_ist, g_bst, g_jst, g_qst, g_aln, g_isa, g_dl1, g_dl2, g_dl3, g_dl4, g_dl5, g_dd, g_rfs, g_rfn, p_sm0, p_sm1, p_sm2, p_sm3, p_sm4, true_and, and_true, if_true, if_false, ↓reduceIte, Nat.reduceEqDiff, reduceCtorEq, or_true, true_or, and_self, Int32.reduceLT, Int32.reduceAdd, Int32.reduceSub, Int32.reduceToNatClampNeg, not_false_eq_true, not_true_eq_false]
  exact this
theorem li_le (g : Nat → Int32) : ∀ (d i t m : Nat), li g d i t = some m → t ≤ m ∧ m ≤ t + d
  | 0, i, t, m, e => by cases e; omega
  | d + 1, i, t, m, e => by
    unfold li at e
    split at e
    · cases e
    · split at e
      · have := li_le g d (i + 1) t m e
        omega
      · split at e
        · cases e
        · have := li_le g d (i + 1) (t + 1) m e
          omega
/-- the page with letters behind -/
def ap (f : Nat → Int32) (n : Nat) (g : Nat → Int32) (t : Nat) : Nat → Int32 := fun j => if n ≤ j ∧ j < n + t then g (j - n) else f j
theorem ap_0 (f : Nat → Int32) (n : Nat) (g : Nat → Int32) : ap f n g 0 = f := by
  funext j; unfold ap; rw [if_neg (by omega)]
theorem ap_s (f : Nat → Int32) (n : Nat) (g : Nat → Int32) (t : Nat) : upd (ap f n g t) (n + t) (g t) = ap f n g (t + 1) := by
  funext j
  by_cases hj : j = n + t
  · subst hj
    rw [pk_us]
    unfold ap
    rw [if_pos (by omega)]
    congr 1
    omega
  · rw [pk_un hj]
    unfold ap
    by_cases hc : n ≤ j ∧ j < n + t
    · rw [if_pos hc, if_pos (by omega)]
    · rw [if_neg hc, if_neg (by omega)]
theorem l32 {w : Int64} {n t : Nat} (hps : p ≠ s) (hn : n + t ≤ 14) (f : Nat → Int32) (l2 : Option Value) : ∀ (d i : Nat) (l3 : Option Value), i + d = t → V 32 3 [some (.ref s), some (.long w), none, some (.int (nI t)), some (.int (nI i))] [] (p_set (p_set h p (aI 14 (ap f n (fun j => bo w (nI j)) i))) s (oP p (nI (n + i)))) Q = Q none (p_set (p_set h p (aI 14 (ap f n (fun j => bo w (nI j)) t))) s (oP p (nI (n + t)))) := by
  intro d
  induction d with
  | zero =>
    intro i l3 hi
    have e1 := nI_F (a := i) (b := t) (by omega) (by omega)
    have e2 : i = t := by omega
    subst e2
    simp (decide := true) only [e32_0, e32_1, e32_3, e32_5, e32_6, e32_9, e32_10, e32_13, e32_15, e32_18, e32_19, e32_22, e32_23, e32_26, e32_27, e32_29, e32_32, e32_33, e32_34, e32_34i, e32_35, e32_38, e32_39, e32_40, e32_43, e32_46, e32_49, m32, ok_6_1_6, fv2_1, ok_6_0_6, fv2_0, fs2_1, Kt_some, Kt_none, V_ite, g_if, g_ss, g_1, g_2, g_cn, g_iok, g_sok, g_bok, g_jok, g_qok, g_ivl, g_jvl, g_qvl, g_ist, g_bst, g_jst, g_qst, g_aln, g_isa, g_dl1, g_dl2, g_dl3, g_dl4, g_dl5, g_dd, g_rfs, g_rfn, p_sm0, p_sm1, p_sm2, p_sm3, p_sm4, true_and, and_true, if_true, if_false, ↓reduceIte, Nat.reduceEqDiff, reduceCtorEq, or_true, true_or, and_self, Int32.reduceLT, Int32.reduceAdd, Int32.reduceSub, Int32.reduceToNatClampNeg, not_false_eq_true, not_true_eq_false, e1]
  | succ d ih =>
    intro i l3 hi
    have e1 := nI_T (a := i) (b := t) (by omega) (by omega)
    have e2 : (nI (n + i) < 14) = True := nI_T (a := n + i) (b := 14) (by omega) (by omega)
    have e3 := vp_T (show n + i < 14 by omega) (by omega)
    have e4 := nI_c (a := n + i) (by omega)
    have hsp : s ≠ p := fun e => hps e.symm
    have := ih (i + 1) l3 (by omega)
    rw [e32_3]
    simp (decide := true) only [e32_0, e32_1, e32_5, e32_6, e32_9, e32_10, e32_13, e32_15, e32_18, e32_19, e32_22, e32_23, e32_26, e32_27, e32_29, e32_32, e32_33, e32_34, e32_34i, e32_35, e32_38, e32_39, e32_40, e32_43, e32_46, e32_49, m32, ok_6_1_6, fv2_1, ok_6_0_6, fv2_0, fs2_1, Kt_some, Kt_none, V_ite, g_if, g_ss, g_1, g_2, g_cn, g_iok, g_sok, g_bok, g_jok, g_qok, g_ivl, g_jvl, g_qvl, g_ist, g_bst, g_jst, g_qst, g_aln, g_isa, g_dl1, g_dl2, g_dl3, g_dl4, g_dl5, g_dd, g_rfs, g_rfn, p_sm0, p_sm1, p_sm2, p_sm3, p_sm4, true_and, and_true, if_true, if_false, ↓reduceIte, Nat.reduceEqDiff, reduceCtorEq, or_true, true_or, and_self, Int32.reduceLT, Int32.reduceAdd, Int32.reduceSub, Int32.reduceToNatClampNeg, not_false_eq_true, not_true_eq_false, e1, e2, e3, e4, hps, hsp, c31, g_comm hsp, ap_s, nI_1]
    exact this
theorem c32 {w : Int64} {n t : Nat} (hP : p_get h s = some (oP p (nI n))) (hp : p_get h p = some (aI 14 f)) (hps : p ≠ s) (hn : n + t ≤ 14) : Vm 32 [.ref s, .long w, .int (nI t)] h Q = Q none (p_set (p_set h p (aI 14 (ap f n (fun j => bo w (nI j)) t))) s (oP p (nI (n + t)))) := by
  have := l32 (Q := Q) (h := h) (w := w) hps hn f none t 0 none (by omega)
  rw [ap_0, g_same hp, Nat.add_zero, g_same hP] at this
  simp (decide := true) only [e32_0, e32_1, e32_5, e32_6, e32_9, e32_10, e32_13, e32_15, e32_18, e32_19, e32_22, e32_23, e32_26, e32_27, e32_29, e32_32, e32_33, e32_34, e32_34i, e32_35, e32_38, e32_39, e32_40, e32_43, e32_46, e32_49, m32, ok_6_1_6, fv2_1, ok_6_0_6, fv2_0, fs2_1, Kt_some, Kt_none, V_ite, g_if, g_ss, g_1, g_2, g_cn, g_iok, g_sok, g_bok, g_jok, g_qok, g_ivl, g_jvl, g_qvl, g_ist, g_bst, g_jst, g_qst, g_aln, g_isa, g_dl1, g_dl2, g_dl3, g_dl4, g_dl5, g_dd, g_rfs, g_rfn, p_sm0, p_sm1, p_sm2, p_sm3, p_sm4, true_and, and_true, if_true, if_false, ↓reduceIte, Nat.reduceEqDiff, reduceCtorEq, or_true, true_or, and_self, Int32.reduceLT, Int32.reduceAdd, Int32.reduceSub, Int32.reduceToNatClampNeg, not_false_eq_true, not_true_eq_false]
  exact this
/-- a stair read off a page -/
def rd (f fc : Nat → Int32) (j n : Nat) : Nat → Int32 := fun i => if i < n then fc (3 * i + j) - 48 else f i
theorem rd_0 (f fc : Nat → Int32) (j : Nat) : rd f fc j 0 = f := by
  funext i; unfold rd; rw [if_neg (by omega)]
theorem rd_s (f fc : Nat → Int32) (j n : Nat) : upd (rd f fc j n) n (fc (3 * n + j) - 48) = rd f fc j (n + 1) := by
  funext i
  by_cases hj : i = n
  · subst hj
    rw [pk_us]
    unfold rd
    rw [if_pos (by omega)]
  · rw [pk_un hj]
    unfold rd
    by_cases hc : i < n
    · rw [if_pos hc, if_pos (by omega)]
    · rw [if_neg hc, if_neg (by omega)]
theorem l52 {n u c : Nat} {fc : Nat → Int32} (hP : p_get h u = some (oP c k)) (hc : p_get h c = some (aI 14 fc)) (hn : n ≤ 4) (hsp : s ≠ p) (hsq : s ≠ q) (hpq : p ≠ q) (hus : u ≠ s) (hup : u ≠ p) (huq : u ≠ q) (hcs : c ≠ s) (hcp : c ≠ p) (hcq : c ≠ q) (fh fl : Nat → Int32) : ∀ (d i : Nat), i + d = n → V 52 18 [some (.ref s), some (.ref u), some (.int (nI i))] [] (p_set (p_set (p_set h s (oS p q (nI n))) p (aI 4 (rd fh fc 0 i))) q (aI 4 (rd fl fc 1 i))) Q = Q none (p_set (p_set (p_set h s (oS p q (nI n))) p (aI 4 (rd fh fc 0 n))) q (aI 4 (rd fl fc 1 n))) := by
  intro d
  induction d with
  | zero =>
    intro i hi
    have e1 := nI_F (a := i) (b := n) (by omega) (by omega)
    have e2 : i = n := by omega
    subst e2
    simp (decide := true) only [e52_0, e52_1, e52_1n, e52_2, e52_5, e52_6, e52_7, e52_8, e52_9, e52_10, e52_13, e52_16, e52_17, e52_18, e52_19, e52_20, e52_23, e52_26, e52_27, e52_30, e52_31, e52_31n, e52_32, e52_35, e52_36, e52_37, e52_38, e52_39, e52_41, e52_42, e52_43, e52_44, e52_47, e52_48, e52_48n, e52_49, e52_52, e52_53, e52_54, e52_55, e52_56, e52_57, e52_58, e52_60, e52_61, e52_62, e52_65, e52_68, m52, ok_6_1_6, fv2_1, ok_9_2_9, fs3_2, fv3_2, ok_9_0_9, fv3_0, ok_6_0_6, fv2_0, ok_9_1_9, fv3_1, Kt_some, Kt_none, V_ite, g_if, g_ss, g_1, g_2, g_cn, g_iok, g_sok, g_bok, g_jok, g_qok, g_ivl, g_jvl, g_qvl, g_ist, g_bst, g_jst, g_qst, g_aln, g_isa, g_dl1, g_dl2, g_dl3, g_dl4, g_dl5, g_dd, g_rfs, g_rfn, p_sm0, p_sm1, p_sm2, p_sm3, p_sm4, true_and, and_true, if_true, if_false, ↓reduceIte, Nat.reduceEqDiff, reduceCtorEq, or_true, true_or, and_self, Int32.reduceLT, Int32.reduceAdd, Int32.reduceSub, Int32.reduceToNatClampNeg, not_false_eq_true, not_true_eq_false, e1, hsp, hsq]
  | succ d ih =>
    intro i hi
    have e1 := nI_T (a := i) (b := n) (by omega) (by omega)
    have e3 := vp_T (show i < 4 by omega) (by omega)
    have e4 := nI_c (a := i) (by omega)
    have e5 : 3 * nI i = nI (3 * i) := pk_mul 3 i
    have e6 := vp_T (show 3 * i < 14 by omega) (by omega)
    have e7 := nI_c (a := 3 * i) (by omega)
    have e8 := vp_T (show 3 * i + 1 < 14 by omega) (by omega)
    have e9 := nI_c (a := 3 * i + 1) (by omega)
    have hqp : q ≠ p := fun e => hpq e.symm
    have r0 : upd (rd fh fc 0 i) i (fc (3 * i) - 48) = rd fh fc 0 (i + 1) := rd_s fh fc 0 i
    have := ih (i + 1) (by omega)
    rw [e52_18]
    simp (decide := true) only [e52_0, e52_1, e52_1n, e52_2, e52_5, e52_6, e52_7, e52_8, e52_9, e52_10, e52_13, e52_16, e52_17, e52_19, e52_20, e52_23, e52_26, e52_27, e52_30, e52_31, e52_31n, e52_32, e52_35, e52_36, e52_37, e52_38, e52_39, e52_41, e52_42, e52_43, e52_44, e52_47, e52_48, e52_48n, e52_49, e52_52, e52_53, e52_54, e52_55, e52_56, e52_57, e52_58, e52_60, e52_61, e52_62, e52_65, e52_68, m52, ok_6_1_6, fv2_1, ok_9_2_9, fs3_2, fv3_2, ok_9_0_9, fv3_0, ok_6_0_6, fv2_0, ok_9_1_9, fv3_1, Kt_some, Kt_none, V_ite, g_if, g_ss, g_1, g_2, g_cn, g_iok, g_sok, g_bok, g_jok, g_qok, g_ivl, g_jvl, g_qvl, g_ist, g_bst, g_jst, g_qst, g_aln, g_isa, g_dl1, g_dl2, g_dl3, g_dl4, g_dl5, g_dd, g_rfs, g_rfn, p_sm0, p_sm1, p_sm2, p_sm3, p_sm4, true_and, and_true, if_true, if_false, ↓reduceIte, Nat.reduceEqDiff, reduceCtorEq, or_true, true_or, and_self, Int32.reduceLT, Int32.reduceAdd, Int32.reduceSub, Int32.reduceToNatClampNeg, not_false_eq_true, not_true_eq_false, e1, e3, e4, e5, e6, e7, e8, e9, hP, hc, hsp, hsq, hpq, hqp, hus, hup, huq, hcs, hcp, hcq, g_comm hqp, r0, rd_s, nI_1]
    exact this
theorem c52 {m u c : Nat} {fc : Nat → Int32} (hS : p_get h s = some (oS p q nb)) (hp : p_get h p = some (aI 4 fh)) (hq : p_get h q = some (aI 4 fl)) (hP : p_get h u = some (oP c (nI m))) (hc : p_get h c = some (aI 14 fc)) (hm : (m + 1) / 3 ≤ 4) (hm2 : m ≤ 14) (hsp : s ≠ p) (hsq : s ≠ q) (hpq : p ≠ q) (hus : u ≠ s) (hup : u ≠ p) (huq : u ≠ q) (hcs : c ≠ s) (hcp : c ≠ p) (hcq : c ≠ q) : Vm 52 [.ref s, .ref u] h Q = Q none (p_set (p_set (p_set h s (oS p q (nI ((m + 1) / 3)))) p (aI 4 (rd fh fc 0 ((m + 1) / 3)))) q (aI 4 (rd fl fc 1 ((m + 1) / 3)))) := by
  have := l52 (Q := Q) (s := s) (p := p) (q := q) hP hc hm hsp hsq hpq hus hup huq hcs hcp hcq fh fl ((m + 1) / 3) 0 (by omega)
  have hps : p ≠ s := fun e => hsp e.symm
  have hqs : q ≠ s := fun e => hsq e.symm
  have hqp : q ≠ p := fun e => hpq e.symm
  rw [rd_0, rd_0, g_same (a := p) (by rw [g_ne hps]; exact hp), g_same (a := q) (by rw [g_ne hqs]; exact hq)] at this
  have e1 : nI (m + 1) / 3 = nI ((m + 1) / 3) := pk_div (d := 3) (by omega) (by omega) (by omega)
  have e2 : mn (nI ((m + 1) / 3)) 4 = nI ((m + 1) / 3) := by
    rw [mn]
    exact if_neg (nI_nlt (a := 4) (b := (m + 1) / 3) hm (by omega))
  simp (decide := true) only [e52_0, e52_1, e52_1n, e52_2, e52_5, e52_6, e52_7, e52_8, e52_9, e52_10, e52_13, e52_16, e52_17, e52_19, e52_20, e52_23, e52_26, e52_27, e52_30, e52_31, e52_31n, e52_32, e52_35, e52_36, e52_37, e52_38, e52_39, e52_41, e52_42, e52_43, e52_44, e52_47, e52_48, e52_48n, e52_49, e52_52, e52_53, e52_54, e52_55, e52_56, e52_57, e52_58, e52_60, e52_61, e52_62, e52_65, e52_68, m52, ok_6_1_6, fv2_1, ok_9_2_9, fs3_2, fv3_2, ok_9_0_9, fv3_0, ok_6_0_6, fv2_0, ok_9_1_9, fv3_1, Kt_some, Kt_none, V_ite, g_if, g_ss, g_1, g_2, g_cn, g_iok, g_sok, g_bok, g_jok, g_qok, g_ivl, g_jvl, g_qvl, g_ist, g_bst, g_jst, g_qst, g_aln, g_isa, g_dl1, g_dl2, g_dl3, g_dl4, g_dl5, g_dd, g_rfs, g_rfn, p_sm0, p_sm1, p_sm2, p_sm3, p_sm4, true_and, and_true, if_true, if_false, ↓reduceIte, Nat.reduceEqDiff, reduceCtorEq, or_true, true_or, and_self, Int32.reduceLT, Int32.reduceAdd, Int32.reduceSub, Int32.reduceToNatClampNeg, not_false_eq_true, not_true_eq_false, hS, hP, hus, nI_1, e1, mn_e, e2]
  exact this
/-- Mud -/
abbrev oM (l c t w d : Nat) (sz bs fr cs : Int32) : pE := .inr (4, [.ref l, .int sz, .ref c, .int bs, .int fr, .ref t, .ref w, .ref d, .int cs])
section MD
variable {l c t w d : Nat} {sz bs fr cs : Int32}
theorem c13 (hM : p_get h s = some (oM l c t w d sz bs fr cs)) : Vm 13 [.ref s] h Q = if 0 < bs then Q (some (.int 1)) h else Q (some (.int 0)) h := by
  simp (decide := true) only [e13_0, e13_1, e13_4, e13_7, e13_8, e13_11, e13_12, m13, ok_4_3_4, fv9_3, Kt_some, Kt_none, V_ite, g_if, g_ss, g_1, g_2, g_cn, g_iok, g_sok, g_bok, g_jok, g_qok, g_ivl, g_jvl, g_qvl, g_ist, g_bst, g_jst, g_qst, g_aln, g_isa, g_dl1, g_dl2, g_dl3, g_dl4, g_dl5, g_dd, g_rfs, g_rfn, p_sm0, p_sm1, p_sm2, p_sm3, p_sm4, true_and, and_true, if_true, if_false, ↓reduceIte, Nat.reduceEqDiff, reduceCtorEq, or_true, true_or, and_self, Int32.reduceLT, Int32.reduceAdd, Int32.reduceSub, Int32.reduceToNatClampNeg, not_false_eq_true, not_true_eq_false, hM]
theorem c14 (hM : p_get h s = some (oM l c t w d sz bs fr cs)) : Vm 14 [.ref s] h Q = Q none (p_set h s (oM l c t w d 0 0 0 cs)) := by
  simp (decide := true) only [e14_0, e14_1, e14_2, e14_5, e14_6, e14_7, e14_10, e14_11, e14_12, e14_15, m14, ok_4_3_4, fs9_3, ok_4_4_4, fs9_4, ok_4_1_4, fs9_1, Kt_some, Kt_none, V_ite, g_if, g_ss, g_1, g_2, g_cn, g_iok, g_sok, g_bok, g_jok, g_qok, g_ivl, g_jvl, g_qvl, g_ist, g_bst, g_jst, g_qst, g_aln, g_isa, g_dl1, g_dl2, g_dl3, g_dl4, g_dl5, g_dd, g_rfs, g_rfn, p_sm0, p_sm1, p_sm2, p_sm3, p_sm4, true_and, and_true, if_true, if_false, ↓reduceIte, Nat.reduceEqDiff, reduceCtorEq, or_true, true_or, and_self, Int32.reduceLT, Int32.reduceAdd, Int32.reduceSub, Int32.reduceToNatClampNeg, not_false_eq_true, not_true_eq_false, hM]
theorem c15 (hM : p_get h s = some (oM l c t w d sz bs fr cs)) : Vm 15 [.ref s, .int b, .int k] h Q = Q none (p_set h s (oM l c t w d 0 b k cs)) := by
  simp (decide := true) only [e15_0, e15_1, e15_2, e15_5, e15_6, e15_7, e15_10, e15_11, e15_12, e15_15, m15, ok_4_3_4, fs9_3, ok_4_4_4, fs9_4, ok_4_1_4, fs9_1, Kt_some, Kt_none, V_ite, g_if, g_ss, g_1, g_2, g_cn, g_iok, g_sok, g_bok, g_jok, g_qok, g_ivl, g_jvl, g_qvl, g_ist, g_bst, g_jst, g_qst, g_aln, g_isa, g_dl1, g_dl2, g_dl3, g_dl4, g_dl5, g_dd, g_rfs, g_rfn, p_sm0, p_sm1, p_sm2, p_sm3, p_sm4, true_and, and_true, if_true, if_false, ↓reduceIte, Nat.reduceEqDiff, reduceCtorEq, or_true, true_or, and_self, Int32.reduceLT, Int32.reduceAdd, Int32.reduceSub, Int32.reduceToNatClampNeg, not_false_eq_true, not_true_eq_false, hM]
theorem cpy_0 (f g : Nat → Int32) (n : Nat) : va_cpy f g 0 0 n = fun j => if j < n then f j else g j := by
  funext j
  unfold va_cpy
  by_cases hj : j < n <;> simp [hj]
theorem c16 {l2 c2 t2 w2 d2 s2 : Nat} {sz2 bs2 fr2 cs2 : Int32} (hM : p_get h s = some (oM l c t w d sz bs fr cs)) (hM2 : p_get h s2 = some (oM l2 c2 t2 w2 d2 sz2 bs2 fr2 cs2)) (hl : p_get h l = some (aI 7 f)) (hl2 : p_get h l2 = some (aI 7 g)) (h1 : s2 ≠ s) (h2 : l ≠ s) (h3 : l2 ≠ s) : Vm 16 [.ref s, .ref s2] h Q = Q none (p_set (p_set h s (oM l c t w d sz2 bs2 fr2 cs)) l (aI 7 (fun j => if j < 7 then g j else f j))) := by
  simp (decide := true) only [e16_0, e16_1, e16_1n, e16_2, e16_5, e16_8, e16_9, e16_9n, e16_10, e16_13, e16_16, e16_17, e16_17n, e16_18, e16_21, e16_24, e16_24n, e16_25, e16_28, e16_29, e16_30, e16_33, e16_34, e16_36, e16_39, m16, ok_4_3_4, fv9_3, fs9_3, ok_4_4_4, fv9_4, fs9_4, ok_4_1_4, fv9_1, fs9_1, ok_4_0_4, fv9_0, Kt_some, Kt_none, V_ite, g_if, g_ss, g_1, g_2, g_cn, g_iok, g_sok, g_bok, g_jok, g_qok, g_ivl, g_jvl, g_qvl, g_ist, g_bst, g_jst, g_qst, g_aln, g_isa, g_dl1, g_dl2, g_dl3, g_dl4, g_dl5, g_dd, g_rfs, g_rfn, p_sm0, p_sm1, p_sm2, p_sm3, p_sm4, true_and, and_true, if_true, if_false, ↓reduceIte, Nat.reduceEqDiff, reduceCtorEq, or_true, true_or, and_self, Int32.reduceLT, Int32.reduceAdd, Int32.reduceSub, Int32.reduceToNatClampNeg, not_false_eq_true, not_true_eq_false, hM, hM2, hl, hl2, h1, h2, h3, p_aci, p_acv, cpy_0, show (7 : Int32).toNatClampNeg = 7 from rfl, show (0 : Int32).toNatClampNeg = 0 from rfl, Nat.zero_add, Nat.le_refl]
end MD
end S18
