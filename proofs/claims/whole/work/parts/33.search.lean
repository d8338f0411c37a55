section S33
variable {h : pH} {K Q : Option Value → pH → Prop}
/-! the search: a state is a number of sixteen bits; an entry has its first act above them -/
def has (L : List Nat) (c : Nat) : Bool := L.any (fun e => e % 65536 == c)
def ins (L : List Nat) (c f : Nat) : List Nat := if has L c = true then L else L ++ [c + 65536 * f]
def mkc (w : Nat → Nat) (ld cp bp : Nat) : Nat := w 1 + 8 * w 2 + 64 * w 3 + 512 * ld + 4096 * cp + 16384 * bp
def sW (H0 c : Nat) : Nat → Nat := fun i => if i = 0 then H0 else if i = 1 then c % 8 else if i = 2 then c / 8 % 8 else if i = 3 then c / 64 % 8 else 0
def sL (c : Nat) : Nat := c / 512 % 8
def sC (c : Nat) : Nat := c / 4096 % 4
def sB (c : Nat) : Nat := c / 16384 % 4
/-- the first act -/
def fa (f a : Nat) : Nat := if f = 31 then a else f
def sbit (j : Int32) : Int64 := (1 : Int64) <<< (j.toInt64 &&& 63)
theorem sbit_v : ∀ j : Nat, j < 64 → (sbit (nI j)).toBitVec = BitVec.twoPow 64 j := by decide +kernel
theorem sbit_t {j : Nat} (hj : j < 64) (x : Int64) : (x &&& sbit (nI j) = 0) ↔ x.toBitVec.getLsbD j = false := by
  rw [← Int64.toBitVec_inj, Int64.toBitVec_and, sbit_v j hj, BitVec.and_twoPow]
  by_cases hq : x.toBitVec.getLsbD j = true
  · rw [if_pos hq, hq]
    constructor
    · intro q
      exfalso
      have := congrArg (fun y : BitVec 64 => y.getLsbD j) q
      simp [BitVec.getLsbD_twoPow, hj] at this
    · intro q; cases q
  · rw [if_neg hq]
    rw [Bool.not_eq_true] at hq
    rw [hq]
    exact ⟨fun _ => rfl, fun _ => rfl⟩
theorem sbit_o {i j : Nat} (hi : i < 64) (hj : j < 64) (x : Int64) : (x ||| sbit (nI j)).toBitVec.getLsbD i = (x.toBitVec.getLsbD i || decide (i = j)) := by
  rw [Int64.toBitVec_or, sbit_v j hj, BitVec.getLsbD_or, BitVec.getLsbD_twoPow]
  by_cases hij : i = j
  · subst hij; simp [hi]
  · simp [hij]
    intro _ q
    exact absurd q.symm hij
theorem shk {x k : Nat} {z : Int32} (hz : ((z &&& 31).toBitVec.smod 32).toNat = k) (hx : x * 2 ^ k < 2 ^ 32) : nI x <<< (z &&& 31) = nI (x * 2 ^ k) := pk_shlN _ _ hz hx
theorem or_m {a b k : Nat} (ha : a < 2 ^ k) : nI a ||| nI (b * 2 ^ k) = nI (a + b * 2 ^ k) := by
  apply Int32.toBitVec_inj.mp
  show BitVec.ofNat 32 a ||| BitVec.ofNat 32 (b * 2 ^ k) = BitVec.ofNat 32 (a + b * 2 ^ k)
  rw [← BitVec.ofNat_or, Nat.or_comm, Nat.add_comm]
  have := Nat.two_pow_add_eq_or_of_lt ha b
  rw [Nat.mul_comm] at this
  rw [this]
def SR (qa sa : Nat) (x : Nat → Int32) (L : List Nat) (h : pH) : Prop := p_get h 29 = some (oF qa sa x) ∧ x 2 = nI L.length ∧ (∃ fq, p_get h qa = some (aI 18144 fq) ∧ ∀ i, i < L.length → fq i = nI (L.getD i 0)) ∧ ∃ fs, p_get h sa = some (aJ 1024 fs) ∧ ∀ c, c < 65536 → (fs (c / 64)).toBitVec.getLsbD (c % 64) = has L c
def GR (qa sa : Nat) (h h2 : pH) : Prop := (∀ k, k ≠ 29 → k ≠ 30 → k ≠ 31 → k ≠ qa → k ≠ sa → p_get h2 k = p_get h k) ∧ h2.1 = h.1 ∧ h2.2.1 = h.2.1
theorem GR_rf (qa sa : Nat) (h : pH) : GR qa sa h h := ⟨fun _ _ _ _ _ _ => rfl, rfl, rfl⟩
theorem GR_tr {qa sa : Nat} {h h2 h3 : pH} (a : GR qa sa h h2) (b : GR qa sa h2 h3) : GR qa sa h h3 := ⟨fun k h1 h2 h3 h4 h5 => (b.1 k h1 h2 h3 h4 h5).trans (a.1 k h1 h2 h3 h4 h5), b.2.1.trans a.2.1, b.2.2.trans a.2.2⟩
theorem GR_st {qa sa a : Nat} {h h2 : pH} {e : pE} (hf : GR qa sa h h2) (ha : a = 29 ∨ a = 30 ∨ a = 31 ∨ a = qa ∨ a = sa) : GR qa sa h (p_set h2 a e) := by
  refine ⟨fun k h1 h2 h3 h4 h5 => ?_, hf.2.1, hf.2.2⟩
  rw [g_ne (by omega)]
  exact hf.1 k h1 h2 h3 h4 h5
theorem c45 {qa sa : Nat} {x : Nat → Int32} {f a : Nat} (h29 : p_get h 29 = some (oF qa sa x)) (hf : x 3 = nI f) (hf31 : f ≤ 31) : Vm 45 [.ref 29, .int (nI a)] h Q = Q (some (.int (nI (fa f a)))) h := by
  unfold fa
  by_cases q : f = 31
  · subst q
    simp (decide := true) only [e45_0, e45_1, e45_4, e45_6, e45_9, e45_10, e45_13, e45_14, e45_17, m45, ok_8_7_8, fv14_7, Kt_some, Kt_none, V_ite, g_if, g_ss, g_1, g_2, g_cn, g_iok, g_sok, g_bok, g_jok, g_qok, g_ivl, g_jvl, g_qvl, g_ist, g_bst, g_jst, g_qst, g_aln, g_isa, g_dl1, g_dl2, g_dl3, g_dl4, g_dl5, g_dd, g_rfs, g_rfn, p_sm0, p_sm1, p_sm2, p_sm3, p_sm4, true_and, and_true, if_true, if_false, ↓reduceIte, Nat.reduceEqDiff, reduceCtorEq, or_true, true_or, and_self, Int32.reduceLT, Int32.reduceAdd, Int32.reduceSub, Int32.reduceToNatClampNeg, not_false_eq_true, not_true_eq_false, h29, hf, show (nI 31 = 31) = True from eq_true (by decide)]
  · have e : (nI f = 31) = False := eq_false (fun r => q ((nI_eq (a := f) (b := 31) (by omega) (by omega)).mp r))
    simp (decide := true) only [e45_0, e45_1, e45_4, e45_6, e45_9, e45_10, e45_13, e45_14, e45_17, m45, ok_8_7_8, fv14_7, Kt_some, Kt_none, V_ite, g_if, g_ss, g_1, g_2, g_cn, g_iok, g_sok, g_bok, g_jok, g_qok, g_ivl, g_jvl, g_qvl, g_ist, g_bst, g_jst, g_qst, g_aln, g_isa, g_dl1, g_dl2, g_dl3, g_dl4, g_dl5, g_dd, g_rfs, g_rfn, p_sm0, p_sm1, p_sm2, p_sm3, p_sm4, true_and, and_true, if_true, if_false, ↓reduceIte, Nat.reduceEqDiff, reduceCtorEq, or_true, true_or, and_self, Int32.reduceLT, Int32.reduceAdd, Int32.reduceSub, Int32.reduceToNatClampNeg, not_false_eq_true, not_true_eq_false, h29, hf, e, q]
theorem has_ins (L : List Nat) (c f d : Nat) (hc : c < 65536) (h0 : has L c = false) : has (L ++ [c + 65536 * f]) d = (has L d || decide (d = c)) := by
  unfold has
  rw [List.any_append]
  congr 1
  have : (c + 65536 * f) % 65536 = c := by omega
  simp only [List.any_cons, List.any_nil, Bool.or_false, this]
  by_cases q : d = c
  · subst q; simp
  · simp only [q, decide_false, beq_eq_false_iff_ne, ne_eq]
    exact fun r => q r.symm
theorem c44 {qa sa r : Nat} {x : Nat → Int32} {L : List Nat} {g : Nat → Int32} {w : Nat → Nat} {ld cp bp f a : Nat} (hS : SR qa sa x L h) (hqs : qa ≠ sa) (hq : 57 ≤ qa) (hs : 57 ≤ sa) (hr : p_get h r = some (aI 4 g)) (hr57 : r < 57) (hr29 : r ≠ 29) (h1 : g 1 = nI (w 1)) (h2 : g 2 = nI (w 2)) (h3 : g 3 = nI (w 3)) (w1 : w 1 < 8) (w2 : w 2 < 8) (w3 : w 3 < 8) (hl : ld < 8) (hc : cp < 4) (hb : bp < 4) (hf : x 3 = nI f) (hf31 : f ≤ 31) (ha : a ≤ 31) (hcap : has L (mkc w ld cp bp) = false → L.length < 18144) (hlen : L.length ≤ 18144)
    (hK : ∀ h2, SR qa sa (upd x 2 (nI (ins L (mkc w ld cp bp) (fa f a)).length)) (ins L (mkc w ld cp bp) (fa f a)) h2 → GR qa sa h h2 → (∀ k, k ≠ 29 → k ≠ qa → k ≠ sa → p_get h2 k = p_get h k) → K none h2) : Vm 44 [.ref 29, .ref r, .int (nI ld), .int (nI cp), .int (nI bp), .int (nI a)] h K := by
  obtain ⟨s1, s2, ⟨fq, s3, s4⟩, fs, s5, s6⟩ := id hS
  have z1 := shk (x := w 2) (k := 3) (z := 3) (by decide) (by omega)
  have z2 := shk (x := w 3) (k := 6) (z := 6) (by decide) (by omega)
  have z3 := shk (x := ld) (k := 9) (z := 9) (by decide) (by omega)
  have z4 := shk (x := cp) (k := 12) (z := 12) (by decide) (by omega)
  have z5 := shk (x := bp) (k := 14) (z := 14) (by decide) (by omega)
  have y1 := or_m (a := w 1) (b := w 2) (k := 3) (by omega)
  have y2 := or_m (a := w 1 + w 2 * 2 ^ 3) (b := w 3) (k := 6) (by omega)
  have y3 := or_m (a := w 1 + w 2 * 2 ^ 3 + w 3 * 2 ^ 6) (b := ld) (k := 9) (by omega)
  have y4 := or_m (a := w 1 + w 2 * 2 ^ 3 + w 3 * 2 ^ 6 + ld * 2 ^ 9) (b := cp) (k := 12) (by omega)
  have y5 := or_m (a := w 1 + w 2 * 2 ^ 3 + w 3 * 2 ^ 6 + ld * 2 ^ 9 + cp * 2 ^ 12) (b := bp) (k := 14) (by omega)
  have hm : w 1 + w 2 * 2 ^ 3 + w 3 * 2 ^ 6 + ld * 2 ^ 9 + cp * 2 ^ 12 + bp * 2 ^ 14 = mkc w ld cp bp := by unfold mkc; omega
  rw [hm] at y5
  have hc16 : mkc w ld cp bp < 65536 := by unfold mkc; omega
  generalize hcc : mkc w ld cp bp = c at *
  have m1 : nI c &&& 65535 = nI c := by
    have := pk_andN (n := c) (by omega) (m := 65535) 16 (by decide)
    rw [this]
    congr 1
    omega
  have m2 : ((nI c).toUInt32 >>> ((6 : Int32).toUInt32 &&& Int32.toUInt32 31)).toInt32 = nI (c / 64) := pk_ushrN (by omega) 6 6 (by decide)
  have m3 : nI c &&& 63 = nI (c % 64) := pk_andN (n := c) (by omega) (m := 63) 6 (by decide)
  have e1 : (nI (c / 64) < Int32.ofNat 1024) = True := nI_T (a := c / 64) (b := 1024) (by omega) (by omega)
  have v1 := vp_T (show c / 64 < 1024 by omega) (by omega)
  have c1 := nI_c (a := c / 64) (by omega)
  have n1 : (sa = 29) = False := eq_false (by omega)
  have n2 : (qa = 29) = False := eq_false (by omega)
  have n3 : (qa = sa) = False := eq_false hqs
  have n4 : (29 = sa) = False := eq_false (by omega)
  have n5 : (29 = qa) = False := eq_false (by omega)
  have n6 : (sa = qa) = False := eq_false (fun q => hqs q.symm)
  have vv1 : vp_in 1 4 = True := vp_T (a := 1) (by omega) (by omega)
  have vv2 : vp_in 2 4 = True := vp_T (a := 2) (by omega) (by omega)
  have vv3 : vp_in 3 4 = True := vp_T (a := 3) (by omega) (by omega)
  have hbit : (1 : Int64) <<< ((nI (c % 64)).toInt64 &&& 63) = sbit (nI (c % 64)) := rfl
  have s6c := s6 c hc16
  by_cases hh : has L c = true
  · have hne : ¬ (fs (c / 64) &&& sbit (nI (c % 64)) = 0) := fun q => by
      rw [sbit_t (by omega), s6c, hh] at q
      cases q
    have e2 : (lg_cmp (fs (c / 64) &&& sbit (nI (c % 64))) 0 = 0) = False := eq_false (fun q => hne ((lg_cmp_eq _ _).mp q))
    have hi : ins L c (fa f a) = L := by unfold ins; rw [if_pos hh]
    rw [hi] at hK
    have hux : upd x 2 (nI L.length) = x := by rw [← s2]; exact upd_id x 2
    rw [hux] at hK
    simp (decide := true) only [e44_0, e44_0n, e44_1, e44_2, e44_3, e44_3n, e44_4, e44_5, e44_6, e44_7, e44_8, e44_9, e44_9n, e44_10, e44_11, e44_12, e44_14, e44_15, e44_16, e44_17, e44_19, e44_20, e44_21, e44_22, e44_24, e44_25, e44_26, e44_28, e44_30, e44_31, e44_32, e44_34, e44_36, e44_38, e44_39, e44_41, e44_43, e44_45, e44_46, e44_48, e44_49, e44_51, e44_53, e44_54, e44_55, e44_57, e44_59, e44_60, e44_63, e44_64, e44_67, e44_68, e44_71, e44_73, e44_74, e44_76, e44_77, e44_78, e44_79, e44_82, e44_83, e44_86, e44_87, e44_90, e44_91, e44_94, e44_95, e44_96, e44_99, e44_101, e44_102, e44_103, e44_105, e44_106, e44_107, e44_108, e44_111, e44_112, e44_115, e44_117, e44_118, e44_120, e44_123, e44_125, e44_126, e44_127, e44_128, e44_129, e44_129i, e44_130, e44_133, e44_134, e44_135, e44_138, m44, ok_8_5_8, fv14_5, ok_8_6_8, fv14_6, ok_8_4_8, fv14_4, fs14_6, Kt_some, Kt_none, V_ite, g_if, g_ss, g_1, g_2, g_cn, g_iok, g_sok, g_bok, g_jok, g_qok, g_ivl, g_jvl, g_qvl, g_ist, g_bst, g_jst, g_qst, g_aln, g_isa, g_dl1, g_dl2, g_dl3, g_dl4, g_dl5, g_dd, g_rfs, g_rfn, p_sm0, p_sm1, p_sm2, p_sm3, p_sm4, true_and, and_true, if_true, if_false, ↓reduceIte, Nat.reduceEqDiff, reduceCtorEq, or_true, true_or, and_self, Int32.reduceLT, Int32.reduceAdd, Int32.reduceSub, Int32.reduceToNatClampNeg, not_false_eq_true, not_true_eq_false, hr, vv1, vv2, vv3, h1, h2, h3, z1, z2, z3, z4, z5, y1, y2, y3, y4, y5, m1, m2, m3, hbit, s1, s5, e1, v1, c1, e2]
    exact hK h hS (GR_rf qa sa h) (fun _ _ _ _ => rfl)
  · rw [Bool.not_eq_true] at hh
    have hlt := hcap hh
    have he : fs (c / 64) &&& sbit (nI (c % 64)) = 0 := by rw [sbit_t (by omega), s6c, hh]
    have e2 : (lg_cmp (fs (c / 64) &&& sbit (nI (c % 64))) 0 = 0) = True := eq_true ((lg_cmp_eq _ _).mpr he)
    have e3 : (nI L.length < Int32.ofNat 18144) = True := nI_T (a := L.length) (b := 18144) hlt (by omega)
    have v2 := vp_T hlt (by omega)
    have c2 := nI_c (a := L.length) (by omega)
    have hi : ins L c (fa f a) = L ++ [c + 65536 * fa f a] := by unfold ins; rw [if_neg (by rw [hh]; decide)]
    have hfa : fa f a ≤ 31 := by unfold fa; split <;> omega
    have z6 := shk (x := fa f a) (k := 16) (z := 16) (by decide) (by omega)
    have y6 := or_m (a := c) (b := fa f a) (k := 16) (by omega)
    have y7 : c + fa f a * 2 ^ 16 = c + 65536 * fa f a := by omega
    rw [hi, List.length_append, List.length_singleton] at hK
    have hfirst := fun Q => c45 (Q := Q) (h := p_set h sa (aJ 1024 (vp_updL fs (c / 64) (fs (c / 64) ||| sbit (nI (c % 64)))))) (qa := qa) (sa := sa) (x := x) (f := f) (a := a) (by simp (decide := true) only [Kt_some, Kt_none, V_ite, g_if, g_ss, g_1, g_2, g_cn, g_iok, g_sok, g_bok, g_jok, g_qok, g_ivl, g_jvl, g_qvl, g_ist, g_bst, g_jst, g_qst, g_aln, g_isa, g_dl1, g_dl2, g_dl3, g_dl4, g_dl5, g_dd, g_rfs, g_rfn, p_sm0, p_sm1, p_sm2, p_sm3, p_sm4, true_and, and_true, if_true, if_false, ↓reduceIte, Nat.reduceEqDiff, reduceCtorEq, or_true, true_or, and_self, Int32.reduceLT, Int32.reduceAdd, Int32.reduceSub, Int32.reduceToNatClampNeg, not_false_eq_true, not_true_eq_false, n4, s1]) hf hf31
    simp (decide := true) only [e44_0, e44_0n, e44_1, e44_2, e44_3, e44_3n, e44_4, e44_5, e44_6, e44_7, e44_8, e44_9, e44_9n, e44_10, e44_11, e44_12, e44_14, e44_15, e44_16, e44_17, e44_19, e44_20, e44_21, e44_22, e44_24, e44_25, e44_26, e44_28, e44_30, e44_31, e44_32, e44_34, e44_36, e44_38, e44_39, e44_41, e44_43, e44_45, e44_46, e44_48, e44_49, e44_51, e44_53, e44_54, e44_55, e44_57, e44_59, e44_60, e44_63, e44_64, e44_67, e44_68, e44_71, e44_73, e44_74, e44_76, e44_77, e44_78, e44_79, e44_82, e44_83, e44_86, e44_87, e44_90, e44_91, e44_94, e44_95, e44_96, e44_99, e44_101, e44_102, e44_103, e44_105, e44_106, e44_107, e44_108, e44_111, e44_112, e44_115, e44_117, e44_118, e44_120, e44_123, e44_125, e44_126, e44_127, e44_128, e44_129, e44_129i, e44_130, e44_133, e44_134, e44_135, e44_138, m44, ok_8_5_8, fv14_5, ok_8_6_8, fv14_6, ok_8_4_8, fv14_4, fs14_6, Kt_some, Kt_none, V_ite, g_if, g_ss, g_1, g_2, g_cn, g_iok, g_sok, g_bok, g_jok, g_qok, g_ivl, g_jvl, g_qvl, g_ist, g_bst, g_jst, g_qst, g_aln, g_isa, g_dl1, g_dl2, g_dl3, g_dl4, g_dl5, g_dd, g_rfs, g_rfn, p_sm0, p_sm1, p_sm2, p_sm3, p_sm4, true_and, and_true, if_true, if_false, ↓reduceIte, Nat.reduceEqDiff, reduceCtorEq, or_true, true_or, and_self, Int32.reduceLT, Int32.reduceAdd, Int32.reduceSub, Int32.reduceToNatClampNeg, not_false_eq_true, not_true_eq_false, hr, vv1, vv2, vv3, h1, h2, h3, z1, z2, z3, z4, z5, y1, y2, y3, y4, y5, m1, m2, m3, hbit, s1, s3, s5, e1, v1, c1, e2, s2, e3, n1, n2, n3, n4, n5, n6, hfirst, z6, y6, y7, v2, c2, nI_1]
    refine hK _ ⟨?_, ?_, ⟨upd fq L.length (nI (c + 65536 * fa f a)), ?_, ?_⟩, vp_updL fs (c / 64) (fs (c / 64) ||| sbit (nI (c % 64))), ?_, ?_⟩ ?_ ?_
    · simp (decide := true) only [Kt_some, Kt_none, V_ite, g_if, g_ss, g_1, g_2, g_cn, g_iok, g_sok, g_bok, g_jok, g_qok, g_ivl, g_jvl, g_qvl, g_ist, g_bst, g_jst, g_qst, g_aln, g_isa, g_dl1, g_dl2, g_dl3, g_dl4, g_dl5, g_dd, g_rfs, g_rfn, p_sm0, p_sm1, p_sm2, p_sm3, p_sm4, true_and, and_true, if_true, if_false, ↓reduceIte, Nat.reduceEqDiff, reduceCtorEq, or_true, true_or, and_self, Int32.reduceLT, Int32.reduceAdd, Int32.reduceSub, Int32.reduceToNatClampNeg, not_false_eq_true, not_true_eq_false, u_if]
      rfl
    · rw [List.length_append, List.length_singleton]
      exact pk_us
    · simp (decide := true) only [Kt_some, Kt_none, V_ite, g_if, g_ss, g_1, g_2, g_cn, g_iok, g_sok, g_bok, g_jok, g_qok, g_ivl, g_jvl, g_qvl, g_ist, g_bst, g_jst, g_qst, g_aln, g_isa, g_dl1, g_dl2, g_dl3, g_dl4, g_dl5, g_dd, g_rfs, g_rfn, p_sm0, p_sm1, p_sm2, p_sm3, p_sm4, true_and, and_true, if_true, if_false, ↓reduceIte, Nat.reduceEqDiff, reduceCtorEq, or_true, true_or, and_self, Int32.reduceLT, Int32.reduceAdd, Int32.reduceSub, Int32.reduceToNatClampNeg, not_false_eq_true, not_true_eq_false, n2, n3]
    · intro i hi2
      rw [List.length_append, List.length_singleton] at hi2
      by_cases hil : i = L.length
      · subst hil
        rw [pk_us]
        simp [List.getD]
      · rw [pk_un hil, s4 i (by omega)]
        simp [List.getD, List.getElem?_append, show i < L.length by omega]
    · simp (decide := true) only [Kt_some, Kt_none, V_ite, g_if, g_ss, g_1, g_2, g_cn, g_iok, g_sok, g_bok, g_jok, g_qok, g_ivl, g_jvl, g_qvl, g_ist, g_bst, g_jst, g_qst, g_aln, g_isa, g_dl1, g_dl2, g_dl3, g_dl4, g_dl5, g_dd, g_rfs, g_rfn, p_sm0, p_sm1, p_sm2, p_sm3, p_sm4, true_and, and_true, if_true, if_false, ↓reduceIte, Nat.reduceEqDiff, reduceCtorEq, or_true, true_or, and_self, Int32.reduceLT, Int32.reduceAdd, Int32.reduceSub, Int32.reduceToNatClampNeg, not_false_eq_true, not_true_eq_false, n1, n6]
    · intro d hd
      rw [has_ins L c (fa f a) d hc16 hh, ← s6 d hd]
      by_cases hq2 : d / 64 = c / 64
      · rw [hq2, pk_uLs, sbit_o (by omega) (by omega)]
        congr 1
        by_cases r : d = c
        · subst r; simp
        · have : ¬ d % 64 = c % 64 := by omega
          simp only [r, this]
      · rw [pk_uLn hq2]
        have : ¬ d = c := fun r => hq2 (by rw [r])
        simp only [this, decide_false, Bool.or_false]
    · exact GR_st (GR_st (GR_st (GR_rf qa sa h) (by omega)) (by omega)) (by omega)
    · intro k k1 k2 k3
      rw [g_ne k1, g_ne k2, g_ne k3]
end S33
