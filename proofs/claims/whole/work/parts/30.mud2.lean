section S30
variable {h : pH} {K Q : Option Value → pH → Prop} {sz bs fr cs : Int32}
/-- the parts of a crew, from the greatest down -/
def pt (P : Nat → Bool) (mk db : Int32) (w m : Nat → Int32) (x : Nat) : Nat → Nat → Int32 → Int32 → Int32 × Int32
  | 0, _, s, d => (s, d)
  | n + 1, p, s, d => if p = 0 then (s, d) else if P p = true then (if 0 < w (x - p) then pt P mk db w m x n ((p - 1) &&& x) (s + w (x - p)) (d ||| (if nI p &&& mk = 0 then m (x - p) else db)) else pt P mk db w m x n ((p - 1) &&& x) s d) else pt P mk db w m x n ((p - 1) &&& x) s d
theorem pt_c (P : Nat → Bool) (mk db : Int32) (w m w2 m2 : Nat → Int32) (x : Nat) (hw : ∀ j, j < x → w j = w2 j) (hm : ∀ j, j < x → m j = m2 j) : ∀ (n p : Nat) (s d : Int32), p ≤ x → pt P mk db w m x n p s d = pt P mk db w2 m2 x n p s d
  | 0, _, _, _, _ => rfl
  | n + 1, p, s, d, hp => by
    unfold pt
    by_cases h0 : p = 0
    · rw [if_pos h0, if_pos h0]
    · have h1 : x - p < x := by omega
      have h2 : (p - 1) &&& x ≤ x := Nat.and_le_right
      rw [if_neg h0, if_neg h0, hw _ h1, hm _ h1, pt_c P mk db w m w2 m2 x hw hm n _ _ _ h2, pt_c P mk db w m w2 m2 x hw hm n _ _ _ h2]
theorem l21 {F x : Nat} {P : Nat → Bool} {mk db : Int32} {w m : Nat → Int32} {l5 : Option Value} (hF : F < 2 ^ 32) (hP : ∀ k, k < 32 → F / 2 ^ k % 2 = if P k = true then 1 else 0) (hx : x < 32) (h10 : p_get h 10 = some (oU sz bs fr cs)) (h14 : p_get h 14 = some (aI 32 w)) (h15 : p_get h 15 = some (aI 32 m)) : ∀ (n p : Nat) (s d : Int32) (l9 : Option Value), p ≤ n → p ≤ x → V 21 50 [some (.ref 10), some (.int (nI x)), some (.int (nI F)), some (.int mk), some (.int db), p_dl l5, some (.int s), some (.int d), some (.int (nI p)), l9] [] h K = K none (p_set (p_set h 14 (aI 32 (upd w x (pt P mk db w m x n p s d).1))) 15 (aI 32 (upd m x (pt P mk db w m x n p s d).2))) := by
  have vx := vp_T hx (by omega)
  have cx := nI_c (a := x) (by omega)
  have key0 : ∀ (s d : Int32) (l9 : Option Value), V 21 50 [some (.ref 10), some (.int (nI x)), some (.int (nI F)), some (.int mk), some (.int db), p_dl l5, some (.int s), some (.int d), some (.int (nI 0)), l9] [] h K = K none (p_set (p_set h 14 (aI 32 (upd w x s))) 15 (aI 32 (upd m x d))) := by
    intro s d l9
    rw [e21_50]
    simp (decide := true) only [e21_0, e21_1, e21_2, e21_3, e21_6, e21_7, e21_10, e21_11, e21_13, e21_15, e21_18, e21_19, e21_22, e21_23, e21_24, e21_27, e21_28, e21_30, e21_32, e21_35, e21_36, e21_39, e21_40, e21_41, e21_44, e21_45, e21_47, e21_48, e21_52, e21_55, e21_56, e21_58, e21_59, e21_61, e21_62, e21_64, e21_65, e21_66, e21_67, e21_70, e21_71, e21_74, e21_76, e21_77, e21_80, e21_82, e21_83, e21_86, e21_88, e21_89, e21_90, e21_92, e21_94, e21_96, e21_97, e21_98, e21_101, e21_103, e21_106, e21_107, e21_110, e21_112, e21_113, e21_114, e21_116, e21_118, e21_119, e21_120, e21_121, e21_122, e21_124, e21_127, e21_128, e21_131, e21_132, e21_134, e21_135, e21_136, e21_139, e21_140, e21_142, e21_143, m21, ok_4_6_4, fv9_6, ok_4_7_4, fv9_7, Kt_some, Kt_none, V_ite, g_if, g_ss, g_1, g_2, g_cn, g_iok, g_sok, g_bok, g_jok, g_qok, g_ivl, g_jvl, g_qvl, g_ist, g_bst, g_jst, g_qst, g_aln, g_isa, g_dl1, g_dl2, g_dl3, g_dl4, g_dl5, g_dd, g_rfs, g_rfn, p_sm0, p_sm1, p_sm2, p_sm3, p_sm4, true_and, and_true, if_true, if_false, ↓reduceIte, Nat.reduceEqDiff, reduceCtorEq, or_true, true_or, and_self, Int32.reduceLT, Int32.reduceAdd, Int32.reduceSub, Int32.reduceToNatClampNeg, not_false_eq_true, not_true_eq_false, show (0 < nI 0) = False from eq_false (by decide), h10, h14, h15, vx, cx]
  intro n
  induction n with
  | zero =>
    intro p s d l9 hp _
    have e2 : p = 0 := by omega
    subst e2
    rw [key0, pt]
  | succ n ih =>
    intro p s d l9 hp hpx
    by_cases h0 : p = 0
    · subst h0
      rw [key0, pt]
      simp only [if_true]
    · have e1 : (0 < nI p) = True := eq_true (by have := nI_lt (a := 0) (b := p) (by omega) (by omega); exact this)
      have e2 : nI x - nI p = nI (x - p) := pk_sub hpx
      have e3 : nI p - 1 = nI (p - 1) := pk_sub (a := p) (b := 1) (by omega)
      have e4 := and_d (p - 1) (by omega) x hx
      have hle : (p - 1) &&& x ≤ p - 1 := Nat.and_le_left
      have hlx : (p - 1) &&& x ≤ x := Nat.and_le_right
      have v1 := vp_T (show x - p < 32 by omega) (by omega)
      have c1 := nI_c (a := x - p) (by omega)
      have sh : ((nI F).toUInt32 >>> ((nI p).toUInt32 &&& Int32.toUInt32 31)).toInt32 = nI (F / 2 ^ p) := pk_ushrN hF (nI p) p (by
        have : ∀ q : Nat, q < 32 → (((nI q).toUInt32 &&& Int32.toUInt32 31).toBitVec % 32).toNat = q := by decide +kernel
        exact this p (by omega))
      have hF2 : F / 2 ^ p < 2 ^ 32 := Nat.lt_of_le_of_lt (Nat.div_le_self _ _) hF
      have an : nI (F / 2 ^ p) &&& 1 = nI (F / 2 ^ p % 2 ^ 1) := pk_andN hF2 1 (by decide)
      have hPp := hP p (by omega)
      rw [Nat.pow_one, hPp] at an
      rw [e21_50]
      by_cases q : P p = true
      · rw [if_pos q] at an
        have n1 : (nI 1 = 0) = False := eq_false (by decide)
        by_cases hw : 0 < w (x - p)
        · by_cases hm : nI p &&& mk = 0
          · simp (decide := true) only [e21_0, e21_1, e21_2, e21_3, e21_6, e21_7, e21_10, e21_11, e21_13, e21_15, e21_18, e21_19, e21_22, e21_23, e21_24, e21_27, e21_28, e21_30, e21_32, e21_35, e21_36, e21_39, e21_40, e21_41, e21_44, e21_45, e21_47, e21_48, e21_52, e21_55, e21_56, e21_58, e21_59, e21_61, e21_62, e21_64, e21_65, e21_66, e21_67, e21_70, e21_71, e21_74, e21_76, e21_77, e21_80, e21_82, e21_83, e21_86, e21_88, e21_89, e21_90, e21_92, e21_94, e21_96, e21_97, e21_98, e21_101, e21_103, e21_106, e21_107, e21_110, e21_112, e21_113, e21_114, e21_116, e21_118, e21_119, e21_120, e21_121, e21_122, e21_124, e21_127, e21_128, e21_131, e21_132, e21_134, e21_135, e21_136, e21_139, e21_140, e21_142, e21_143, m21, ok_4_6_4, fv9_6, ok_4_7_4, fv9_7, Kt_some, Kt_none, V_ite, g_if, g_ss, g_1, g_2, g_cn, g_iok, g_sok, g_bok, g_jok, g_qok, g_ivl, g_jvl, g_qvl, g_ist, g_bst, g_jst, g_qst, g_aln, g_isa, g_dl1, g_dl2, g_dl3, g_dl4, g_dl5, g_dd, g_rfs, g_rfn, p_sm0, p_sm1, p_sm2, p_sm3, p_sm4, true_and, and_true, if_true, if_false, ↓reduceIte, Nat.reduceEqDiff, reduceCtorEq, or_true, true_or, and_self, Int32.reduceLT, Int32.reduceAdd, Int32.reduceSub, Int32.reduceToNatClampNeg, not_false_eq_true, not_true_eq_false, e1, e2, sh, an, n1, h10, h14, h15, v1, c1, hw, hm, e3, e4]
            rw [ih _ _ _ _ (by omega) hlx]
            simp only [pt, h0, q, hw, hm, if_true, if_false]
          · simp (decide := true) only [e21_0, e21_1, e21_2, e21_3, e21_6, e21_7, e21_10, e21_11, e21_13, e21_15, e21_18, e21_19, e21_22, e21_23, e21_24, e21_27, e21_28, e21_30, e21_32, e21_35, e21_36, e21_39, e21_40, e21_41, e21_44, e21_45, e21_47, e21_48, e21_52, e21_55, e21_56, e21_58, e21_59, e21_61, e21_62, e21_64, e21_65, e21_66, e21_67, e21_70, e21_71, e21_74, e21_76, e21_77, e21_80, e21_82, e21_83, e21_86, e21_88, e21_89, e21_90, e21_92, e21_94, e21_96, e21_97, e21_98, e21_101, e21_103, e21_106, e21_107, e21_110, e21_112, e21_113, e21_114, e21_116, e21_118, e21_119, e21_120, e21_121, e21_122, e21_124, e21_127, e21_128, e21_131, e21_132, e21_134, e21_135, e21_136, e21_139, e21_140, e21_142, e21_143, m21, ok_4_6_4, fv9_6, ok_4_7_4, fv9_7, Kt_some, Kt_none, V_ite, g_if, g_ss, g_1, g_2, g_cn, g_iok, g_sok, g_bok, g_jok, g_qok, g_ivl, g_jvl, g_qvl, g_ist, g_bst, g_jst, g_qst, g_aln, g_isa, g_dl1, g_dl2, g_dl3, g_dl4, g_dl5, g_dd, g_rfs, g_rfn, p_sm0, p_sm1, p_sm2, p_sm3, p_sm4, true_and, and_true, if_true, if_false, ↓reduceIte, Nat.reduceEqDiff, reduceCtorEq, or_true, true_or, and_self, Int32.reduceLT, Int32.reduceAdd, Int32.reduceSub, Int32.reduceToNatClampNeg, not_false_eq_true, not_true_eq_false, e1, e2, sh, an, n1, h10, h14, h15, v1, c1, hw, hm, e3, e4]
            rw [ih _ _ _ _ (by omega) hlx]
            simp only [pt, h0, q, hw, hm, if_true, if_false]
        · simp (decide := true) only [e21_0, e21_1, e21_2, e21_3, e21_6, e21_7, e21_10, e21_11, e21_13, e21_15, e21_18, e21_19, e21_22, e21_23, e21_24, e21_27, e21_28, e21_30, e21_32, e21_35, e21_36, e21_39, e21_40, e21_41, e21_44, e21_45, e21_47, e21_48, e21_52, e21_55, e21_56, e21_58, e21_59, e21_61, e21_62, e21_64, e21_65, e21_66, e21_67, e21_70, e21_71, e21_74, e21_76, e21_77, e21_80, e21_82, e21_83, e21_86, e21_88, e21_89, e21_90, e21_92, e21_94, e21_96, e21_97, e21_98, e21_101, e21_103, e21_106, e21_107, e21_110, e21_112, e21_113, e21_114, e21_116, e21_118, e21_119, e21_120, e21_121, e21_122, e21_124, e21_127, e21_128, e21_131, e21_132, e21_134, e21_135, e21_136, e21_139, e21_140, e21_142, e21_143, m21, ok_4_6_4, fv9_6, ok_4_7_4, fv9_7, Kt_some, Kt_none, V_ite, g_if, g_ss, g_1, g_2, g_cn, g_iok, g_sok, g_bok, g_jok, g_qok, g_ivl, g_jvl, g_qvl, g_ist, g_bst, g_jst, g_qst, g_aln, g_isa, g_dl1, g_dl2, g_dl3, g_dl4, g_dl5, g_dd, g_rfs, g_rfn, p_sm0, p_sm1, p_sm2, p_sm3, p_sm4, true_and, and_true, if_true, if_false, ↓reduceIte, Nat.reduceEqDiff, reduceCtorEq, or_true, true_or, and_self, Int32.reduceLT, Int32.reduceAdd, Int32.reduceSub, Int32.reduceToNatClampNeg, not_false_eq_true, not_true_eq_false, e1, e2, sh, an, n1, h10, h14, h15, v1, c1, hw, e3, e4]
          rw [ih _ _ _ _ (by omega) hlx]
          simp only [pt, h0, q, hw, if_true, if_false]
      · rw [if_neg q] at an
        have n1 : (nI 0 = 0) = True := eq_true (by decide)
        simp (decide := true) only [e21_0, e21_1, e21_2, e21_3, e21_6, e21_7, e21_10, e21_11, e21_13, e21_15, e21_18, e21_19, e21_22, e21_23, e21_24, e21_27, e21_28, e21_30, e21_32, e21_35, e21_36, e21_39, e21_40, e21_41, e21_44, e21_45, e21_47, e21_48, e21_52, e21_55, e21_56, e21_58, e21_59, e21_61, e21_62, e21_64, e21_65, e21_66, e21_67, e21_70, e21_71, e21_74, e21_76, e21_77, e21_80, e21_82, e21_83, e21_86, e21_88, e21_89, e21_90, e21_92, e21_94, e21_96, e21_97, e21_98, e21_101, e21_103, e21_106, e21_107, e21_110, e21_112, e21_113, e21_114, e21_116, e21_118, e21_119, e21_120, e21_121, e21_122, e21_124, e21_127, e21_128, e21_131, e21_132, e21_134, e21_135, e21_136, e21_139, e21_140, e21_142, e21_143, m21, ok_4_6_4, fv9_6, ok_4_7_4, fv9_7, Kt_some, Kt_none, V_ite, g_if, g_ss, g_1, g_2, g_cn, g_iok, g_sok, g_bok, g_jok, g_qok, g_ivl, g_jvl, g_qvl, g_ist, g_bst, g_jst, g_qst, g_aln, g_isa, g_dl1, g_dl2, g_dl3, g_dl4, g_dl5, g_dd, g_rfs, g_rfn, p_sm0, p_sm1, p_sm2, p_sm3, p_sm4, true_and, and_true, if_true, if_false, ↓reduceIte, Nat.reduceEqDiff, reduceCtorEq, or_true, true_or, and_self, Int32.reduceLT, Int32.reduceAdd, Int32.reduceSub, Int32.reduceToNatClampNeg, not_false_eq_true, not_true_eq_false, e1, e2, sh, an, n1, h10, h14, h15, v1, c1, e3, e4]
        rw [ih _ _ _ _ (by omega) hlx]
        rw [Bool.not_eq_true] at q
        simp only [pt, h0, q, Bool.false_eq_true, if_true, if_false]
/-- a crew's ways and days behind a day -/
def pc (P : Nat → Bool) (mk db : Int32) (w m : Nat → Int32) (x : Nat) : Int32 × Int32 := pt P mk db w m x x x (if P 0 = true then w x else 0) (if P 0 = true then m x else 0)
theorem c21 {F x : Nat} {P : Nat → Bool} {mk db : Int32} {w m : Nat → Int32} (hF : F < 2 ^ 32) (hP : ∀ k, k < 32 → F / 2 ^ k % 2 = if P k = true then 1 else 0) (hx : x < 32) (h10 : p_get h 10 = some (oU sz bs fr cs)) (h14 : p_get h 14 = some (aI 32 w)) (h15 : p_get h 15 = some (aI 32 m)) : Vm 21 [.ref 10, .int (nI x), .int (nI F), .int mk, .int db] h K = K none (p_set (p_set h 14 (aI 32 (upd w x (pc P mk db w m x).1))) 15 (aI 32 (upd m x (pc P mk db w m x).2))) := by
  have vx := vp_T hx (by omega)
  have cx := nI_c (a := x) (by omega)
  have an : nI F &&& 1 = nI (F % 2 ^ 1) := pk_andN hF 1 (by decide)
  have hPp := hP 0 (by omega)
  rw [Nat.pow_zero, Nat.div_one] at hPp
  rw [Nat.pow_one, hPp] at an
  unfold pc
  by_cases q : P 0 = true
  · rw [if_pos q] at an
    have n1 : (nI 1 = 0) = False := eq_false (by decide)
    rw [if_pos q, if_pos q]
    simp (decide := true) only [e21_0, e21_1, e21_2, e21_3, e21_6, e21_7, e21_10, e21_11, e21_13, e21_15, e21_18, e21_19, e21_22, e21_23, e21_24, e21_27, e21_28, e21_30, e21_32, e21_35, e21_36, e21_39, e21_40, e21_41, e21_44, e21_45, e21_47, e21_48, e21_52, e21_55, e21_56, e21_58, e21_59, e21_61, e21_62, e21_64, e21_65, e21_66, e21_67, e21_70, e21_71, e21_74, e21_76, e21_77, e21_80, e21_82, e21_83, e21_86, e21_88, e21_89, e21_90, e21_92, e21_94, e21_96, e21_97, e21_98, e21_101, e21_103, e21_106, e21_107, e21_110, e21_112, e21_113, e21_114, e21_116, e21_118, e21_119, e21_120, e21_121, e21_122, e21_124, e21_127, e21_128, e21_131, e21_132, e21_134, e21_135, e21_136, e21_139, e21_140, e21_142, e21_143, m21, ok_4_6_4, fv9_6, ok_4_7_4, fv9_7, Kt_some, Kt_none, V_ite, g_if, g_ss, g_1, g_2, g_cn, g_iok, g_sok, g_bok, g_jok, g_qok, g_ivl, g_jvl, g_qvl, g_ist, g_bst, g_jst, g_qst, g_aln, g_isa, g_dl1, g_dl2, g_dl3, g_dl4, g_dl5, g_dd, g_rfs, g_rfn, p_sm0, p_sm1, p_sm2, p_sm3, p_sm4, true_and, and_true, if_true, if_false, ↓reduceIte, Nat.reduceEqDiff, reduceCtorEq, or_true, true_or, and_self, Int32.reduceLT, Int32.reduceAdd, Int32.reduceSub, Int32.reduceToNatClampNeg, not_false_eq_true, not_true_eq_false, an, n1, h10, h14, h15, vx, cx]
    exact l21 (l5 := some (.int 1)) hF hP hx h10 h14 h15 x x _ _ _ (by omega) (by omega)
  · rw [if_neg q] at an
    have n1 : (nI 0 = 0) = True := eq_true (by decide)
    rw [if_neg q, if_neg q]
    simp (decide := true) only [e21_0, e21_1, e21_2, e21_3, e21_6, e21_7, e21_10, e21_11, e21_13, e21_15, e21_18, e21_19, e21_22, e21_23, e21_24, e21_27, e21_28, e21_30, e21_32, e21_35, e21_36, e21_39, e21_40, e21_41, e21_44, e21_45, e21_47, e21_48, e21_52, e21_55, e21_56, e21_58, e21_59, e21_61, e21_62, e21_64, e21_65, e21_66, e21_67, e21_70, e21_71, e21_74, e21_76, e21_77, e21_80, e21_82, e21_83, e21_86, e21_88, e21_89, e21_90, e21_92, e21_94, e21_96, e21_97, e21_98, e21_101, e21_103, e21_106, e21_107, e21_110, e21_112, e21_113, e21_114, e21_116, e21_118, e21_119, e21_120, e21_121, e21_122, e21_124, e21_127, e21_128, e21_131, e21_132, e21_134, e21_135, e21_136, e21_139, e21_140, e21_142, e21_143, m21, ok_4_6_4, fv9_6, ok_4_7_4, fv9_7, Kt_some, Kt_none, V_ite, g_if, g_ss, g_1, g_2, g_cn, g_iok, g_sok, g_bok, g_jok, g_qok, g_ivl, g_jvl, g_qvl, g_ist, g_bst, g_jst, g_qst, g_aln, g_isa, g_dl1, g_dl2, g_dl3, g_dl4, g_dl5, g_dd, g_rfs, g_rfn, p_sm0, p_sm1, p_sm2, p_sm3, p_sm4, true_and, and_true, if_true, if_false, ↓reduceIte, Nat.reduceEqDiff, reduceCtorEq, or_true, true_or, and_self, Int32.reduceLT, Int32.reduceAdd, Int32.reduceSub, Int32.reduceToNatClampNeg, not_false_eq_true, not_true_eq_false, an, n1, h10, h14, h15, vx, cx]
    exact l21 (l5 := some (.int 0)) hF hP hx h10 h14 h15 x x _ _ _ (by omega) (by omega)
/-- all crews from q on are told for a day -/
def dq (P : Nat → Bool) (mk db : Int32) (kk : Nat) (w m : Nat → Int32) (q : Nat) : Nat → Int32 := fun x => if q ≤ x ∧ x < 32 ∧ x &&& kk = x then (pc P mk db w m x).1 else w x
def dr (P : Nat → Bool) (mk db : Int32) (kk : Nat) (w m : Nat → Int32) (q : Nat) : Nat → Int32 := fun x => if q ≤ x ∧ x < 32 ∧ x &&& kk = x then (pc P mk db w m x).2 else m x
theorem pc_c (P : Nat → Bool) (mk db : Int32) (w m w2 m2 : Nat → Int32) (x : Nat) (hw : ∀ j, j ≤ x → w j = w2 j) (hm : ∀ j, j ≤ x → m j = m2 j) : pc P mk db w m x = pc P mk db w2 m2 x := by
  unfold pc
  rw [hw x (Nat.le_refl x), hm x (Nat.le_refl x)]
  exact pt_c P mk db w m w2 m2 x (fun j hj => hw j (by omega)) (fun j hj => hm j (by omega)) x x _ _ (Nat.le_refl x)
theorem dq_s {P : Nat → Bool} {mk db : Int32} {kk : Nat} {w m : Nat → Int32} {q : Nat} (hq : q < 32) (hk : q &&& kk = q) : upd (dq P mk db kk w m (q + 1)) q (pc P mk db (dq P mk db kk w m (q + 1)) (dr P mk db kk w m (q + 1)) q).1 = dq P mk db kk w m q ∧ upd (dr P mk db kk w m (q + 1)) q (pc P mk db (dq P mk db kk w m (q + 1)) (dr P mk db kk w m (q + 1)) q).2 = dr P mk db kk w m q := by
  have e : pc P mk db (dq P mk db kk w m (q + 1)) (dr P mk db kk w m (q + 1)) q = pc P mk db w m q := by
    refine pc_c _ _ _ _ _ _ _ _ (fun j hj => ?_) (fun j hj => ?_)
    · unfold dq; rw [if_neg (by omega)]
    · unfold dr; rw [if_neg (by omega)]
  rw [e]
  constructor
  · funext x
    by_cases hx : x = q
    · subst hx; rw [pk_us]; unfold dq; rw [if_pos ⟨Nat.le_refl x, hq, hk⟩]
    · rw [pk_un hx]; unfold dq
      by_cases hc : q + 1 ≤ x ∧ x < 32 ∧ x &&& kk = x
      · rw [if_pos hc, if_pos ⟨by omega, hc.2⟩]
      · rw [if_neg hc, if_neg (fun r => hc ⟨by omega, r.2⟩)]
  · funext x
    by_cases hx : x = q
    · subst hx; rw [pk_us]; unfold dr; rw [if_pos ⟨Nat.le_refl x, hq, hk⟩]
    · rw [pk_un hx]; unfold dr
      by_cases hc : q + 1 ≤ x ∧ x < 32 ∧ x &&& kk = x
      · rw [if_pos hc, if_pos ⟨by omega, hc.2⟩]
      · rw [if_neg hc, if_neg (fun r => hc ⟨by omega, r.2⟩)]
theorem dq_n {P : Nat → Bool} {mk db : Int32} {kk : Nat} {w m : Nat → Int32} {q : Nat} (hk : ¬ q &&& kk = q) : dq P mk db kk w m (q + 1) = dq P mk db kk w m q ∧ dr P mk db kk w m (q + 1) = dr P mk db kk w m q := by
  have e : ∀ x, (q + 1 ≤ x ∧ x < 32 ∧ x &&& kk = x) = (q ≤ x ∧ x < 32 ∧ x &&& kk = x) := by
    intro x
    apply propext
    constructor
    · exact fun r => ⟨by omega, r.2⟩
    · intro r
      refine ⟨?_, r.2⟩
      rcases Nat.lt_or_ge q x with q1 | q1
      · omega
      · have : x = q := by omega
        subst this
        exact absurd r.2.2 hk
  constructor
  · funext x; unfold dq; simp only [e x]
  · funext x; unfold dr; simp only [e x]
theorem dq_32 {P : Nat → Bool} {mk db : Int32} {kk : Nat} {w m : Nat → Int32} : dq P mk db kk w m 32 = w ∧ dr P mk db kk w m 32 = m := by
  constructor
  · funext x; unfold dq; rw [if_neg (by omega)]
  · funext x; unfold dr; rw [if_neg (by omega)]
theorem l20 {F kk : Nat} {P : Nat → Bool} {mk db : Int32} {w m : Nat → Int32} (hF : F < 2 ^ 32) (hP : ∀ k, k < 32 → F / 2 ^ k % 2 = if P k = true then 1 else 0) (hk : kk < 32) (h10 : p_get h 10 = some (oU sz bs fr (nI kk))) : ∀ (q : Nat), q ≤ 32 → V 20 4 [some (.ref 10), some (.int (nI F)), some (.int mk), some (.int db), some (.int (nI q + -1))] [] (p_set (p_set h 14 (aI 32 (dq P mk db kk w m q))) 15 (aI 32 (dr P mk db kk w m q))) K = K none (p_set (p_set h 14 (aI 32 (dq P mk db kk w m 0))) 15 (aI 32 (dr P mk db kk w m 0))) := by
  intro q
  induction q with
  | zero =>
    intro _
    rw [e20_4]
    simp (decide := true) only [e20_0, e20_2, e20_6, e20_9, e20_11, e20_12, e20_15, e20_16, e20_17, e20_18, e20_21, e20_22, e20_24, e20_25, e20_26, e20_27, e20_30, e20_33, e20_36, m20, ok_4_8_4, fv9_8, Kt_some, Kt_none, V_ite, g_if, g_ss, g_1, g_2, g_cn, g_iok, g_sok, g_bok, g_jok, g_qok, g_ivl, g_jvl, g_qvl, g_ist, g_bst, g_jst, g_qst, g_aln, g_isa, g_dl1, g_dl2, g_dl3, g_dl4, g_dl5, g_dd, g_rfs, g_rfn, p_sm0, p_sm1, p_sm2, p_sm3, p_sm4, true_and, and_true, if_true, if_false, ↓reduceIte, Nat.reduceEqDiff, reduceCtorEq, or_true, true_or, and_self, Int32.reduceLT, Int32.reduceAdd, Int32.reduceSub, Int32.reduceToNatClampNeg, not_false_eq_true, not_true_eq_false, show (nI 0 + -1 < 0) = True from eq_true (by decide)]
  | succ q ih =>
    intro hq
    have e1 := nI_0F (a := q) (by omega)
    have e2 := pk_m1 q
    have hcm := cm_d q (by omega) kk hk
    rw [e20_4, e2]
    by_cases hc : q &&& kk = q
    · have e3 : (nI q &&& (nI kk ^^^ -1) = 0) = True := eq_true (hcm.mpr hc)
      have hc21 := fun Q => c21 (K := Q) (h := p_set (p_set h 14 (aI 32 (dq P mk db kk w m (q + 1)))) 15 (aI 32 (dr P mk db kk w m (q + 1)))) (F := F) (x := q) (P := P) (mk := mk) (db := db) (w := dq P mk db kk w m (q + 1)) (m := dr P mk db kk w m (q + 1)) (sz := sz) (bs := bs) (fr := fr) (cs := nI kk) hF hP (by omega) (by simp (decide := true) only [Kt_some, Kt_none, V_ite, g_if, g_ss, g_1, g_2, g_cn, g_iok, g_sok, g_bok, g_jok, g_qok, g_ivl, g_jvl, g_qvl, g_ist, g_bst, g_jst, g_qst, g_aln, g_isa, g_dl1, g_dl2, g_dl3, g_dl4, g_dl5, g_dd, g_rfs, g_rfn, p_sm0, p_sm1, p_sm2, p_sm3, p_sm4, true_and, and_true, if_true, if_false, ↓reduceIte, Nat.reduceEqDiff, reduceCtorEq, or_true, true_or, and_self, Int32.reduceLT, Int32.reduceAdd, Int32.reduceSub, Int32.reduceToNatClampNeg, not_false_eq_true, not_true_eq_false, h10]) (by simp (decide := true) only [Kt_some, Kt_none, V_ite, g_if, g_ss, g_1, g_2, g_cn, g_iok, g_sok, g_bok, g_jok, g_qok, g_ivl, g_jvl, g_qvl, g_ist, g_bst, g_jst, g_qst, g_aln, g_isa, g_dl1, g_dl2, g_dl3, g_dl4, g_dl5, g_dd, g_rfs, g_rfn, p_sm0, p_sm1, p_sm2, p_sm3, p_sm4, true_and, and_true, if_true, if_false, ↓reduceIte, Nat.reduceEqDiff, reduceCtorEq, or_true, true_or, and_self, Int32.reduceLT, Int32.reduceAdd, Int32.reduceSub, Int32.reduceToNatClampNeg, not_false_eq_true, not_true_eq_false]) (by simp (decide := true) only [Kt_some, Kt_none, V_ite, g_if, g_ss, g_1, g_2, g_cn, g_iok, g_sok, g_bok, g_jok, g_qok, g_ivl, g_jvl, g_qvl, g_ist, g_bst, g_jst, g_qst, g_aln, g_isa, g_dl1, g_dl2, g_dl3, g_dl4, g_dl5, g_dd, g_rfs, g_rfn, p_sm0, p_sm1, p_sm2, p_sm3, p_sm4, true_and, and_true, if_true, if_false, ↓reduceIte, Nat.reduceEqDiff, reduceCtorEq, or_true, true_or, and_self, Int32.reduceLT, Int32.reduceAdd, Int32.reduceSub, Int32.reduceToNatClampNeg, not_false_eq_true, not_true_eq_false])
      obtain ⟨s1, s2⟩ := dq_s (P := P) (mk := mk) (db := db) (w := w) (m := m) (show q < 32 by omega) hc
      simp (decide := true) only [e20_0, e20_2, e20_6, e20_9, e20_11, e20_12, e20_15, e20_16, e20_17, e20_18, e20_21, e20_22, e20_24, e20_25, e20_26, e20_27, e20_30, e20_33, e20_36, m20, ok_4_8_4, fv9_8, Kt_some, Kt_none, V_ite, g_if, g_ss, g_1, g_2, g_cn, g_iok, g_sok, g_bok, g_jok, g_qok, g_ivl, g_jvl, g_qvl, g_ist, g_bst, g_jst, g_qst, g_aln, g_isa, g_dl1, g_dl2, g_dl3, g_dl4, g_dl5, g_dd, g_rfs, g_rfn, p_sm0, p_sm1, p_sm2, p_sm3, p_sm4, true_and, and_true, if_true, if_false, ↓reduceIte, Nat.reduceEqDiff, reduceCtorEq, or_true, true_or, and_self, Int32.reduceLT, Int32.reduceAdd, Int32.reduceSub, Int32.reduceToNatClampNeg, not_false_eq_true, not_true_eq_false, e1, h10, e3, hc21, g_comm (show (15 : Nat) ≠ 14 by decide), s1, s2]
      exact ih (by omega)
    · have e3 : (nI q &&& (nI kk ^^^ -1) = 0) = False := eq_false (fun r => hc (hcm.mp r))
      obtain ⟨s1, s2⟩ := dq_n (P := P) (mk := mk) (db := db) (w := w) (m := m) hc
      simp (decide := true) only [e20_0, e20_2, e20_6, e20_9, e20_11, e20_12, e20_15, e20_16, e20_17, e20_18, e20_21, e20_22, e20_24, e20_25, e20_26, e20_27, e20_30, e20_33, e20_36, m20, ok_4_8_4, fv9_8, Kt_some, Kt_none, V_ite, g_if, g_ss, g_1, g_2, g_cn, g_iok, g_sok, g_bok, g_jok, g_qok, g_ivl, g_jvl, g_qvl, g_ist, g_bst, g_jst, g_qst, g_aln, g_isa, g_dl1, g_dl2, g_dl3, g_dl4, g_dl5, g_dd, g_rfs, g_rfn, p_sm0, p_sm1, p_sm2, p_sm3, p_sm4, true_and, and_true, if_true, if_false, ↓reduceIte, Nat.reduceEqDiff, reduceCtorEq, or_true, true_or, and_self, Int32.reduceLT, Int32.reduceAdd, Int32.reduceSub, Int32.reduceToNatClampNeg, not_false_eq_true, not_true_eq_false, e1, h10, e3]
      rw [s1, s2]
      exact ih (by omega)
theorem c20 {F kk : Nat} {P : Nat → Bool} {mk db : Int32} {w m : Nat → Int32} (hF : F < 2 ^ 32) (hP : ∀ k, k < 32 → F / 2 ^ k % 2 = if P k = true then 1 else 0) (hk : kk < 32) (h10 : p_get h 10 = some (oU sz bs fr (nI kk))) (h14 : p_get h 14 = some (aI 32 w)) (h15 : p_get h 15 = some (aI 32 m)) : Vm 20 [.ref 10, .int (nI F), .int mk, .int db] h K = K none (p_set (p_set h 14 (aI 32 (dq P mk db kk w m 0))) 15 (aI 32 (dr P mk db kk w m 0))) := by
  have := l20 (K := K) (w := w) (m := m) (mk := mk) (db := db) hF hP hk h10 32 (by omega)
  obtain ⟨s1, s2⟩ := dq_32 (P := P) (mk := mk) (db := db) (kk := kk) (w := w) (m := m)
  rw [s1, s2, g_same h14, g_same h15] at this
  simp (decide := true) only [e20_0, e20_2, e20_6, e20_9, e20_11, e20_12, e20_15, e20_16, e20_17, e20_18, e20_21, e20_22, e20_24, e20_25, e20_26, e20_27, e20_30, e20_33, e20_36, m20, ok_4_8_4, fv9_8, Kt_some, Kt_none, V_ite, g_if, g_ss, g_1, g_2, g_cn, g_iok, g_sok, g_bok, g_jok, g_qok, g_ivl, g_jvl, g_qvl, g_ist, g_bst, g_jst, g_qst, g_aln, g_isa, g_dl1, g_dl2, g_dl3, g_dl4, g_dl5, g_dd, g_rfs, g_rfn, p_sm0, p_sm1, p_sm2, p_sm3, p_sm4, true_and, and_true, if_true, if_false, ↓reduceIte, Nat.reduceEqDiff, reduceCtorEq, or_true, true_or, and_self, Int32.reduceLT, Int32.reduceAdd, Int32.reduceSub, Int32.reduceToNatClampNeg, not_false_eq_true, not_true_eq_false]
  exact this
end S30
