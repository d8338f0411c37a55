section S36
variable {h : pH} {K Q : Option Value → pH → Prop} {n : Nat} {H : Nat → Nat} {nb nc cc c f qa sa : Nat} {L : List Nat}
/-- all acts from a state -/
theorem xr_e : xr n H nb nc cc L c f 17 = tk n H nb nc cc (xr n H nb nc cc L c f 5) c f 6 := by
  have hno : ∀ (L : List Nat) (a : Nat), 5 ≤ a → a ≤ 10 → xs n H nb nc cc L c f a = L := by
    intro L a h1 h2
    refine xs_no ?_
    unfold can
    simp only [show ¬ a = 0 by omega, show ¬ a = 1 by omega, show ¬ a = 2 by omega, show ¬ a = 3 by omega, show ¬ a = 4 by omega, if_false, Bool.and_eq_true, decide_eq_true_eq]
    omega
  have h11 : xr n H nb nc cc L c f 11 = xr n H nb nc cc L c f 5 := by
    show xs n H nb nc cc (xs n H nb nc cc (xs n H nb nc cc (xs n H nb nc cc (xs n H nb nc cc (xs n H nb nc cc (xr n H nb nc cc L c f 5) c f 5) c f 6) c f 7) c f 8) c f 9) c f 10 = _
    rw [hno _ 10 (by omega) (by omega), hno _ 9 (by omega) (by omega), hno _ 8 (by omega) (by omega), hno _ 7 (by omega) (by omega), hno _ 6 (by omega) (by omega), hno _ 5 (by omega) (by omega)]
  show xs n H nb nc cc (xs n H nb nc cc (xs n H nb nc cc (xs n H nb nc cc (xs n H nb nc cc (xs n H nb nc cc (xr n H nb nc cc L c f 11) c f 11) c f 12) c f 13) c f 14) c f 15) c f 16 = _
  rw [h11]
  rfl
/-- the search: first act and number of acts -/
def se (n : Nat) (H : Nat → Nat) (nb nc cc : Nat) : Nat → List Nat → Nat → Nat → Nat → Option (Nat × Nat)
  | 0, _, _, _, _ => none
  | d + 1, L, hd, le, ly => if hd < L.length then (if fd n H nb (L.getD hd 0 % 65536) = true then some (fa (L.getD hd 0 / 65536) 0, (if hd = le then ly + 1 else ly) + 1) else se n H nb nc cc d (xr n H nb nc cc L (L.getD hd 0 % 65536) (L.getD hd 0 / 65536) 17) (hd + 1) (if hd = le then L.length else le) (if hd = le then ly + 1 else ly)) else none
def so : Option (Nat × Nat) → Int32 × Int32
  | none => (-1, -1)
  | some (f, a) => (nI a, nI f)
/-- between two states -/
def LV (n : Nat) (H : Nat → Nat) (nb nc cc qa sa : Nat) (L : List Nat) (h : pH) : Prop := ∃ x : Nat → Int32, SR qa sa x L h ∧ (x 0 = -1 ∧ x 1 = -1 ∧ x 7 = nI nb ∧ x 8 = nI nc ∧ x 9 = nI cc) ∧ p_get h 4 = some (oS 5 6 (nI n)) ∧ (∃ fh, p_get h 5 = some (aI 4 fh) ∧ ∀ i, i < n → fh i = nI (H i)) ∧ IA h 30 4 ∧ IA h 31 4
theorem EV_LV (hE : EV n H nb nc cc c f qa sa L h) : LV n H nb nc cc qa sa L h := by
  obtain ⟨x, hS, ⟨x0, x1, -, -, -, -, x7, x8, x9⟩, h4, h5, ⟨g, h30, -⟩, h31⟩ := hE
  exact ⟨x, hS, ⟨x0, x1, x7, x8, x9⟩, h4, h5, ⟨g, h30⟩, h31⟩
/-- what is left at the end -/
def FP (qa sa : Nat) (r0 r1 : Int32) (h : pH) : Prop := ∃ x : Nat → Int32, p_get h 29 = some (oF qa sa x) ∧ x 0 = r0 ∧ x 1 = r1 ∧ IA h qa 18144 ∧ JA h sa 1024 ∧ IA h 30 4 ∧ IA h 31 4
theorem us {e k m : Nat} {z : Int32} (hz : ((z.toUInt32 &&& Int32.toUInt32 31).toBitVec % 32).toNat = k) (he : e < 2 ^ 32) : ((nI e).toUInt32 >>> (z.toUInt32 &&& Int32.toUInt32 31)).toInt32 = nI (e / 2 ^ k) := pk_ushrN he z k hz
theorem c43 {e : Nat} (hF : SF n H nb nc cc qa sa) (hE : LV n H nb nc cc qa sa L h) (he : e < 2097152) (hN : ∀ h2, EV n H nb nc cc (e % 65536) (e / 65536) qa sa L h2 → GR qa sa h h2 → K none h2) : Vm 43 [.ref 29, .ref 4, .int (nI e)] h K := by
  obtain ⟨x, hS, ⟨x0, x1, x7, x8, x9⟩, h4, ⟨fh, h5, hfh⟩, ⟨g, h30⟩, h31⟩ := hE
  obtain ⟨s1, s2, ⟨fq, s3, s3'⟩, fs, s4, s4'⟩ := id hS
  obtain ⟨f1, f2, f3, f4, f5, f6, f7, f8, f9⟩ := id hF
  have u1 := us (e := e) (k := 16) (m := 0) (z := 16) (by decide) (by omega)
  have u2 := us (e := e) (k := 3) (m := 0) (z := 3) (by decide) (by omega)
  have u3 := us (e := e) (k := 6) (m := 0) (z := 6) (by decide) (by omega)
  have u4 := us (e := e) (k := 9) (m := 0) (z := 9) (by decide) (by omega)
  have u5 := us (e := e) (k := 12) (m := 0) (z := 12) (by decide) (by omega)
  have u6 := us (e := e) (k := 14) (m := 0) (z := 14) (by decide) (by omega)
  have a1 := pk_andN (n := e) (by omega) (m := 7) 3 (by decide)
  have a2 := pk_andN (n := e / 2 ^ 3) (by omega) (m := 7) 3 (by decide)
  have a3 := pk_andN (n := e / 2 ^ 6) (by omega) (m := 7) 3 (by decide)
  have a4 := pk_andN (n := e / 2 ^ 9) (by omega) (m := 7) 3 (by decide)
  have a5 := pk_andN (n := e / 2 ^ 12) (by omega) (m := 3) 2 (by decide)
  have a6 := pk_andN (n := e / 2 ^ 14) (by omega) (m := 3) 2 (by decide)
  have vv0 : vp_in 0 4 = True := vp_0 (by omega)
  have vv1 : vp_in 1 4 = True := vp_T (a := 1) (by omega) (by omega)
  have vv2 : vp_in 2 4 = True := vp_T (a := 2) (by omega) (by omega)
  have vv3 : vp_in 3 4 = True := vp_T (a := 3) (by omega) (by omega)
  simp (decide := true) only [e43_0, e43_1, e43_2, e43_4, e43_5, e43_8, e43_9, e43_12, e43_13, e43_13n, e43_14, e43_17, e43_18, e43_19, e43_20, e43_21, e43_24, e43_25, e43_26, e43_28, e43_29, e43_30, e43_31, e43_34, e43_35, e43_36, e43_37, e43_38, e43_40, e43_41, e43_42, e43_43, e43_46, e43_47, e43_48, e43_50, e43_51, e43_53, e43_54, e43_55, e43_56, e43_57, e43_59, e43_60, e43_62, e43_63, e43_66, e43_67, e43_68, e43_70, e43_71, e43_72, e43_73, e43_76, e43_77, e43_78, e43_80, e43_81, e43_82, e43_83, e43_86, m43, ok_8_7_8, fs14_7, ok_8_2_8, fv14_2, ok_9_0_9, fv3_0, ok_8_10_8, fs14_10, ok_8_8_8, fs14_8, ok_8_9_8, fs14_9, Kt_some, Kt_none, V_ite, g_if, g_ss, g_1, g_2, g_cn, g_iok, g_sok, g_bok, g_jok, g_qok, g_ivl, g_jvl, g_qvl, g_ist, g_bst, g_jst, g_qst, g_aln, g_isa, g_dl1, g_dl2, g_dl3, g_dl4, g_dl5, g_dd, g_rfs, g_rfn, p_sm0, p_sm1, p_sm2, p_sm3, p_sm4, true_and, and_true, if_true, if_false, ↓reduceIte, Nat.reduceEqDiff, reduceCtorEq, or_true, true_or, and_self, Int32.reduceLT, Int32.reduceAdd, Int32.reduceSub, Int32.reduceToNatClampNeg, not_false_eq_true, not_true_eq_false, s1, h4, h5, h30, vv0, vv1, vv2, vv3, u1, u2, u3, u4, u5, u6, a1, a2, a3, a4, a5, a6, g_comm (show (30 : Nat) ≠ 29 by decide)]
  refine hN _ ⟨upd (upd (upd (upd x 3 (nI (e / 65536))) 6 (nI (sL (e % 65536)))) 4 (nI (sC (e % 65536)))) 5 (nI (sB (e % 65536))), ⟨?_, ?_, ⟨fq, ?_, s3'⟩, fs, ?_, s4'⟩, ?_, ?_, ⟨fh, ?_, hfh⟩, ⟨upd (upd (upd (upd g 0 (fh 0)) 1 (nI (e % 2 ^ 3))) 2 (nI (e / 2 ^ 3 % 2 ^ 3))) 3 (nI (e / 2 ^ 6 % 2 ^ 3)), ?_, ?_⟩, ?_⟩ ?_
  · simp (decide := true) only [Kt_some, Kt_none, V_ite, g_if, g_ss, g_1, g_2, g_cn, g_iok, g_sok, g_bok, g_jok, g_qok, g_ivl, g_jvl, g_qvl, g_ist, g_bst, g_jst, g_qst, g_aln, g_isa, g_dl1, g_dl2, g_dl3, g_dl4, g_dl5, g_dd, g_rfs, g_rfn, p_sm0, p_sm1, p_sm2, p_sm3, p_sm4, true_and, and_true, if_true, if_false, ↓reduceIte, Nat.reduceEqDiff, reduceCtorEq, or_true, true_or, and_self, Int32.reduceLT, Int32.reduceAdd, Int32.reduceSub, Int32.reduceToNatClampNeg, not_false_eq_true, not_true_eq_false]
    unfold sL sC sB
    rw [show e / 2 ^ 16 = e / 65536 by omega, show e / 2 ^ 9 % 2 ^ 3 = e % 65536 / 512 % 8 by omega, show e / 2 ^ 12 % 2 ^ 2 = e % 65536 / 4096 % 4 by omega, show e / 2 ^ 14 % 2 ^ 2 = e % 65536 / 16384 % 4 by omega]
    rfl
  · exact s2
  · rw [g_ne (by omega), g_ne (by omega)]
    exact s3
  · rw [g_ne (by omega), g_ne (by omega)]
    exact s4
  · simp (decide := true) only [u_if, if_true, if_false, x0, x1, x7, x8, x9, and_self]
  · simp (decide := true) only [Kt_some, Kt_none, V_ite, g_if, g_ss, g_1, g_2, g_cn, g_iok, g_sok, g_bok, g_jok, g_qok, g_ivl, g_jvl, g_qvl, g_ist, g_bst, g_jst, g_qst, g_aln, g_isa, g_dl1, g_dl2, g_dl3, g_dl4, g_dl5, g_dd, g_rfs, g_rfn, p_sm0, p_sm1, p_sm2, p_sm3, p_sm4, true_and, and_true, if_true, if_false, ↓reduceIte, Nat.reduceEqDiff, reduceCtorEq, or_true, true_or, and_self, Int32.reduceLT, Int32.reduceAdd, Int32.reduceSub, Int32.reduceToNatClampNeg, not_false_eq_true, not_true_eq_false, h4]
  · simp (decide := true) only [Kt_some, Kt_none, V_ite, g_if, g_ss, g_1, g_2, g_cn, g_iok, g_sok, g_bok, g_jok, g_qok, g_ivl, g_jvl, g_qvl, g_ist, g_bst, g_jst, g_qst, g_aln, g_isa, g_dl1, g_dl2, g_dl3, g_dl4, g_dl5, g_dd, g_rfs, g_rfn, p_sm0, p_sm1, p_sm2, p_sm3, p_sm4, true_and, and_true, if_true, if_false, ↓reduceIte, Nat.reduceEqDiff, reduceCtorEq, or_true, true_or, and_self, Int32.reduceLT, Int32.reduceAdd, Int32.reduceSub, Int32.reduceToNatClampNeg, not_false_eq_true, not_true_eq_false, h5]
  · simp (decide := true) only [Kt_some, Kt_none, V_ite, g_if, g_ss, g_1, g_2, g_cn, g_iok, g_sok, g_bok, g_jok, g_qok, g_ivl, g_jvl, g_qvl, g_ist, g_bst, g_jst, g_qst, g_aln, g_isa, g_dl1, g_dl2, g_dl3, g_dl4, g_dl5, g_dd, g_rfs, g_rfn, p_sm0, p_sm1, p_sm2, p_sm3, p_sm4, true_and, and_true, if_true, if_false, ↓reduceIte, Nat.reduceEqDiff, reduceCtorEq, or_true, true_or, and_self, Int32.reduceLT, Int32.reduceAdd, Int32.reduceSub, Int32.reduceToNatClampNeg, not_false_eq_true, not_true_eq_false]
  · intro i hi
    rcases (show i = 0 ∨ i = 1 ∨ i = 2 ∨ i = 3 by omega) with rfl | rfl | rfl | rfl
    · simp (decide := true) only [u_if, if_true, if_false]
      rw [hfh 0 (by omega), sW_0]
    · simp (decide := true) only [u_if, if_true, if_false, sW]
      congr 1
      omega
    · simp (decide := true) only [u_if, if_true, if_false, sW]
      congr 1
      omega
    · simp (decide := true) only [u_if, if_true, if_false, sW]
      congr 1
      omega
  · exact IA_st (IA_st h31 (by decide)) (by decide)
  · exact GR_st (GR_st (GR_rf qa sa h) (by omega)) (by omega)
theorem l40 {l2 l3 l4 : Option Value} (hF : SF n H nb nc cc qa sa) : ∀ (d hd le ly : Nat) (L : List Nat) (h : pH), hd + d = 18145 → hd ≤ L.length → le ≤ 18144 → ly ≤ hd → LV n H nb nc cc qa sa L h → QV n H cc L → (∀ h2, FP qa sa (so (se n H nb nc cc d L hd le ly)).1 (so (se n H nb nc cc d L hd le ly)).2 h2 → GR qa sa h h2 → K none h2) → V 40 69 [some (.ref 29), some (.ref 4), l2, l3, p_dl l4, some (.int (nI ly)), some (.int (nI le)), some (.int (nI hd))] [] h K := by
  obtain ⟨f1, f2, f3, f4, f5, f6, f7, f8, f9⟩ := id hF
  intro d
  induction d with
  | zero =>
    intro hd le ly L h h1 h2 h3 h4 hL hq hN
    have := QV_len f2 f3 f6 hq
    omega
  | succ d ih =>
    intro hd le ly L h h1 h2 h3 hly hL hq hN
    have hlen := QV_len f2 f3 f6 hq
    obtain ⟨x, hS, ⟨x0, x1, x7, x8, x9⟩, h4, h5, h30, h31⟩ := id hL
    obtain ⟨s1, s2, ⟨fq, s3, s3'⟩, fs, s4, s4'⟩ := id hS
    by_cases hlt : hd < L.length
    · have e1 : (nI hd < nI L.length) = True := nI_T hlt (by omega)
      have e2 : (nI hd < 18144) = True := nI_T (a := hd) (b := 18144) (by omega) (by omega)
      have vv := vp_T (show hd < 18144 by omega) (by omega)
      have cv := nI_c (a := hd) (by omega)
      have hmem : L.getD hd 0 ∈ L := by
        rw [List.getD_eq_getElem?_getD, List.getElem?_eq_getElem hlt]
        exact List.getElem_mem hlt
      obtain ⟨hv, hf31⟩ := hq.1 _ hmem
      have hgd := s3' hd hlt
      simp only [se, hlt, if_true] at hN
      generalize L.getD hd 0 = e at *
      have he : e < 2097152 := by omega
      have main : ∀ (le2 ly2 : Nat), le2 ≤ 18144 → ly2 ≤ hd + 1 → (if hd = le then L.length else le) = le2 → (if hd = le then ly + 1 else ly) = ly2 → V 40 102 [some (.ref 29), some (.ref 4), l2, l3, p_dl l4, some (.int (nI ly2)), some (.int (nI le2)), some (.int (nI hd))] [] h K := by
        intro le2 ly2 hle2 hly2 q1 q2
        rw [q1, q2] at hN
        simp (decide := true) only [e40_0, e40_1, e40_1n, e40_2, e40_5, e40_5n, e40_6, e40_9, e40_12, e40_13, e40_16, e40_17, e40_20, e40_21, e40_22, e40_25, e40_26, e40_29, e40_32, e40_32n, e40_33, e40_33n, e40_34, e40_37, e40_37n, e40_38, e40_41, e40_44, e40_47, e40_48, e40_49, e40_49n, e40_50, e40_50n, e40_51, e40_51n, e40_52, e40_52n, e40_54, e40_57, e40_58, e40_60, e40_61, e40_64, e40_66, e40_67, e40_71, e40_72, e40_75, e40_78, e40_80, e40_83, e40_86, e40_88, e40_90, e40_93, e40_96, e40_97, e40_100, e40_102, e40_103, e40_103n, e40_104, e40_105, e40_108, e40_110, e40_111, e40_114, e40_115, e40_115n, e40_116, e40_119, e40_122, e40_123, e40_125, e40_126, e40_127, e40_130, e40_131, e40_132, e40_132n, e40_133, e40_136, e40_137, e40_137n, e40_138, e40_141, e40_142, e40_142n, e40_143, e40_146, e40_149, e40_152, m40, ok_0x1x2x7x10_2_0, fv4_2, ok_0x1x2x7x10_2_1, ok_0x1x2x7x10_2_2, ok_0x1x2x7x10_2_7, ok_0x1x2x7x10_2_10, ok_8_0_8, fs14_0, ok_8_1_8, fs14_1, fv14_0, ok_8_6_8, fv14_6, ok_8_4_8, fv14_4, Kt_some, Kt_none, V_ite, g_if, g_ss, g_1, g_2, g_cn, g_iok, g_sok, g_bok, g_jok, g_qok, g_ivl, g_jvl, g_qvl, g_ist, g_bst, g_jst, g_qst, g_aln, g_isa, g_dl1, g_dl2, g_dl3, g_dl4, g_dl5, g_dd, g_rfs, g_rfn, p_sm0, p_sm1, p_sm2, p_sm3, p_sm4, true_and, and_true, if_true, if_false, ↓reduceIte, Nat.reduceEqDiff, reduceCtorEq, or_true, true_or, and_self, Int32.reduceLT, Int32.reduceAdd, Int32.reduceSub, Int32.reduceToNatClampNeg, not_false_eq_true, not_true_eq_false, s1, s3, vv, cv, hgd]
        refine c43 hF hL he (fun h2 hE2 hG2 => ?_)
        obtain ⟨y, ⟨t1, -⟩, -⟩ := id hE2
        simp (decide := true) only [e40_0, e40_1, e40_1n, e40_2, e40_5, e40_5n, e40_6, e40_9, e40_12, e40_13, e40_16, e40_17, e40_20, e40_21, e40_22, e40_25, e40_26, e40_29, e40_32, e40_32n, e40_33, e40_33n, e40_34, e40_37, e40_37n, e40_38, e40_41, e40_44, e40_47, e40_48, e40_49, e40_49n, e40_50, e40_50n, e40_51, e40_51n, e40_52, e40_52n, e40_54, e40_57, e40_58, e40_60, e40_61, e40_64, e40_66, e40_67, e40_71, e40_72, e40_75, e40_78, e40_80, e40_83, e40_86, e40_88, e40_90, e40_93, e40_96, e40_97, e40_100, e40_102, e40_103, e40_103n, e40_104, e40_105, e40_108, e40_110, e40_111, e40_114, e40_115, e40_115n, e40_116, e40_119, e40_122, e40_123, e40_125, e40_126, e40_127, e40_130, e40_131, e40_132, e40_132n, e40_133, e40_136, e40_137, e40_137n, e40_138, e40_141, e40_142, e40_142n, e40_143, e40_146, e40_149, e40_152, m40, ok_0x1x2x7x10_2_0, fv4_2, ok_0x1x2x7x10_2_1, ok_0x1x2x7x10_2_2, ok_0x1x2x7x10_2_7, ok_0x1x2x7x10_2_10, ok_8_0_8, fs14_0, ok_8_1_8, fs14_1, fv14_0, ok_8_6_8, fv14_6, ok_8_4_8, fv14_4, Kt_some, Kt_none, V_ite, g_if, g_ss, g_1, g_2, g_cn, g_iok, g_sok, g_bok, g_jok, g_qok, g_ivl, g_jvl, g_qvl, g_ist, g_bst, g_jst, g_qst, g_aln, g_isa, g_dl1, g_dl2, g_dl3, g_dl4, g_dl5, g_dd, g_rfs, g_rfn, p_sm0, p_sm1, p_sm2, p_sm3, p_sm4, true_and, and_true, if_true, if_false, ↓reduceIte, Nat.reduceEqDiff, reduceCtorEq, or_true, true_or, and_self, Int32.reduceLT, Int32.reduceAdd, Int32.reduceSub, Int32.reduceToNatClampNeg, not_false_eq_true, not_true_eq_false, t1]
        refine c46 hF hE2 hq hv hf31 ?_ ?_
        · intro hfd h3 z z1 z2 z3 ⟨zq, z4⟩ ⟨zs, z5⟩ z6 z7 z8
          rw [if_pos hfd] at hN
          have e5 : nI ly2 + 1 = nI (ly2 + 1) := nI_1 ly2
          simp (decide := true) only [e40_0, e40_1, e40_1n, e40_2, e40_5, e40_5n, e40_6, e40_9, e40_12, e40_13, e40_16, e40_17, e40_20, e40_21, e40_22, e40_25, e40_26, e40_29, e40_32, e40_32n, e40_33, e40_33n, e40_34, e40_37, e40_37n, e40_38, e40_41, e40_44, e40_47, e40_48, e40_49, e40_49n, e40_50, e40_50n, e40_51, e40_51n, e40_52, e40_52n, e40_54, e40_57, e40_58, e40_60, e40_61, e40_64, e40_66, e40_67, e40_71, e40_72, e40_75, e40_78, e40_80, e40_83, e40_86, e40_88, e40_90, e40_93, e40_96, e40_97, e40_100, e40_102, e40_103, e40_103n, e40_104, e40_105, e40_108, e40_110, e40_111, e40_114, e40_115, e40_115n, e40_116, e40_119, e40_122, e40_123, e40_125, e40_126, e40_127, e40_130, e40_131, e40_132, e40_132n, e40_133, e40_136, e40_137, e40_137n, e40_138, e40_141, e40_142, e40_142n, e40_143, e40_146, e40_149, e40_152, m40, ok_0x1x2x7x10_2_0, fv4_2, ok_0x1x2x7x10_2_1, ok_0x1x2x7x10_2_2, ok_0x1x2x7x10_2_7, ok_0x1x2x7x10_2_10, ok_8_0_8, fs14_0, ok_8_1_8, fs14_1, fv14_0, ok_8_6_8, fv14_6, ok_8_4_8, fv14_4, Kt_some, Kt_none, V_ite, g_if, g_ss, g_1, g_2, g_cn, g_iok, g_sok, g_bok, g_jok, g_qok, g_ivl, g_jvl, g_qvl, g_ist, g_bst, g_jst, g_qst, g_aln, g_isa, g_dl1, g_dl2, g_dl3, g_dl4, g_dl5, g_dd, g_rfs, g_rfn, p_sm0, p_sm1, p_sm2, p_sm3, p_sm4, true_and, and_true, if_true, if_false, ↓reduceIte, Nat.reduceEqDiff, reduceCtorEq, or_true, true_or, and_self, Int32.reduceLT, Int32.reduceAdd, Int32.reduceSub, Int32.reduceToNatClampNeg, not_false_eq_true, not_true_eq_false, z1, e5]
          refine hN _ ⟨upd z 0 (nI (ly2 + 1)), ?_, pk_us, ?_, ?_, ?_, ?_, ?_⟩ ?_
          · simp (decide := true) only [Kt_some, Kt_none, V_ite, g_if, g_ss, g_1, g_2, g_cn, g_iok, g_sok, g_bok, g_jok, g_qok, g_ivl, g_jvl, g_qvl, g_ist, g_bst, g_jst, g_qst, g_aln, g_isa, g_dl1, g_dl2, g_dl3, g_dl4, g_dl5, g_dd, g_rfs, g_rfn, p_sm0, p_sm1, p_sm2, p_sm3, p_sm4, true_and, and_true, if_true, if_false, ↓reduceIte, Nat.reduceEqDiff, reduceCtorEq, or_true, true_or, and_self, Int32.reduceLT, Int32.reduceAdd, Int32.reduceSub, Int32.reduceToNatClampNeg, not_false_eq_true, not_true_eq_false]
            rfl
          · rw [pk_un (by decide)]
            exact z2
          · exact ⟨zq, by rw [g_ne (by omega)]; exact z4⟩
          · exact ⟨zs, by rw [g_ne (by omega)]; exact z5⟩
          · exact IA_st z6 (by decide)
          · exact IA_st z7 (by decide)
          · exact GR_st (GR_tr hG2 z8) (by omega)
        · intro hfd h3 hE3 hG3
          rw [if_neg (by rw [hfd]; decide)] at hN
          have hq3 := QV_xs (nb := nb) (nc := nc) (a := 0) f2 f3 f6 hq hv hf31 (by omega) (fun q => by rw [hfd] at q; cases q.2)
          obtain ⟨y, ⟨t1, -⟩, -⟩ := id hE3
          simp (decide := true) only [e40_0, e40_1, e40_1n, e40_2, e40_5, e40_5n, e40_6, e40_9, e40_12, e40_13, e40_16, e40_17, e40_20, e40_21, e40_22, e40_25, e40_26, e40_29, e40_32, e40_32n, e40_33, e40_33n, e40_34, e40_37, e40_37n, e40_38, e40_41, e40_44, e40_47, e40_48, e40_49, e40_49n, e40_50, e40_50n, e40_51, e40_51n, e40_52, e40_52n, e40_54, e40_57, e40_58, e40_60, e40_61, e40_64, e40_66, e40_67, e40_71, e40_72, e40_75, e40_78, e40_80, e40_83, e40_86, e40_88, e40_90, e40_93, e40_96, e40_97, e40_100, e40_102, e40_103, e40_103n, e40_104, e40_105, e40_108, e40_110, e40_111, e40_114, e40_115, e40_115n, e40_116, e40_119, e40_122, e40_123, e40_125, e40_126, e40_127, e40_130, e40_131, e40_132, e40_132n, e40_133, e40_136, e40_137, e40_137n, e40_138, e40_141, e40_142, e40_142n, e40_143, e40_146, e40_149, e40_152, m40, ok_0x1x2x7x10_2_0, fv4_2, ok_0x1x2x7x10_2_1, ok_0x1x2x7x10_2_2, ok_0x1x2x7x10_2_7, ok_0x1x2x7x10_2_10, ok_8_0_8, fs14_0, ok_8_1_8, fs14_1, fv14_0, ok_8_6_8, fv14_6, ok_8_4_8, fv14_4, Kt_some, Kt_none, V_ite, g_if, g_ss, g_1, g_2, g_cn, g_iok, g_sok, g_bok, g_jok, g_qok, g_ivl, g_jvl, g_qvl, g_ist, g_bst, g_jst, g_qst, g_aln, g_isa, g_dl1, g_dl2, g_dl3, g_dl4, g_dl5, g_dd, g_rfs, g_rfn, p_sm0, p_sm1, p_sm2, p_sm3, p_sm4, true_and, and_true, if_true, if_false, ↓reduceIte, Nat.reduceEqDiff, reduceCtorEq, or_true, true_or, and_self, Int32.reduceLT, Int32.reduceAdd, Int32.reduceSub, Int32.reduceToNatClampNeg, not_false_eq_true, not_true_eq_false, t1]
          refine c47 hF hE3 hq3 hv hf31 (fun h4 hE4 hq4 hG4 => ?_)
          obtain ⟨y, ⟨t1, -⟩, -⟩ := id hE4
          simp (decide := true) only [e40_0, e40_1, e40_1n, e40_2, e40_5, e40_5n, e40_6, e40_9, e40_12, e40_13, e40_16, e40_17, e40_20, e40_21, e40_22, e40_25, e40_26, e40_29, e40_32, e40_32n, e40_33, e40_33n, e40_34, e40_37, e40_37n, e40_38, e40_41, e40_44, e40_47, e40_48, e40_49, e40_49n, e40_50, e40_50n, e40_51, e40_51n, e40_52, e40_52n, e40_54, e40_57, e40_58, e40_60, e40_61, e40_64, e40_66, e40_67, e40_71, e40_72, e40_75, e40_78, e40_80, e40_83, e40_86, e40_88, e40_90, e40_93, e40_96, e40_97, e40_100, e40_102, e40_103, e40_103n, e40_104, e40_105, e40_108, e40_110, e40_111, e40_114, e40_115, e40_115n, e40_116, e40_119, e40_122, e40_123, e40_125, e40_126, e40_127, e40_130, e40_131, e40_132, e40_132n, e40_133, e40_136, e40_137, e40_137n, e40_138, e40_141, e40_142, e40_142n, e40_143, e40_146, e40_149, e40_152, m40, ok_0x1x2x7x10_2_0, fv4_2, ok_0x1x2x7x10_2_1, ok_0x1x2x7x10_2_2, ok_0x1x2x7x10_2_7, ok_0x1x2x7x10_2_10, ok_8_0_8, fs14_0, ok_8_1_8, fs14_1, fv14_0, ok_8_6_8, fv14_6, ok_8_4_8, fv14_4, Kt_some, Kt_none, V_ite, g_if, g_ss, g_1, g_2, g_cn, g_iok, g_sok, g_bok, g_jok, g_qok, g_ivl, g_jvl, g_qvl, g_ist, g_bst, g_jst, g_qst, g_aln, g_isa, g_dl1, g_dl2, g_dl3, g_dl4, g_dl5, g_dd, g_rfs, g_rfn, p_sm0, p_sm1, p_sm2, p_sm3, p_sm4, true_and, and_true, if_true, if_false, ↓reduceIte, Nat.reduceEqDiff, reduceCtorEq, or_true, true_or, and_self, Int32.reduceLT, Int32.reduceAdd, Int32.reduceSub, Int32.reduceToNatClampNeg, not_false_eq_true, not_true_eq_false, t1]
          refine c48 hF hE4 hq4 hv hf31 (fun h5 hE5 hq5 hG5 => ?_)
          obtain ⟨y, ⟨t1, -⟩, -⟩ := id hE5
          simp (decide := true) only [e40_0, e40_1, e40_1n, e40_2, e40_5, e40_5n, e40_6, e40_9, e40_12, e40_13, e40_16, e40_17, e40_20, e40_21, e40_22, e40_25, e40_26, e40_29, e40_32, e40_32n, e40_33, e40_33n, e40_34, e40_37, e40_37n, e40_38, e40_41, e40_44, e40_47, e40_48, e40_49, e40_49n, e40_50, e40_50n, e40_51, e40_51n, e40_52, e40_52n, e40_54, e40_57, e40_58, e40_60, e40_61, e40_64, e40_66, e40_67, e40_71, e40_72, e40_75, e40_78, e40_80, e40_83, e40_86, e40_88, e40_90, e40_93, e40_96, e40_97, e40_100, e40_102, e40_103, e40_103n, e40_104, e40_105, e40_108, e40_110, e40_111, e40_114, e40_115, e40_115n, e40_116, e40_119, e40_122, e40_123, e40_125, e40_126, e40_127, e40_130, e40_131, e40_132, e40_132n, e40_133, e40_136, e40_137, e40_137n, e40_138, e40_141, e40_142, e40_142n, e40_143, e40_146, e40_149, e40_152, m40, ok_0x1x2x7x10_2_0, fv4_2, ok_0x1x2x7x10_2_1, ok_0x1x2x7x10_2_2, ok_0x1x2x7x10_2_7, ok_0x1x2x7x10_2_10, ok_8_0_8, fs14_0, ok_8_1_8, fs14_1, fv14_0, ok_8_6_8, fv14_6, ok_8_4_8, fv14_4, Kt_some, Kt_none, V_ite, g_if, g_ss, g_1, g_2, g_cn, g_iok, g_sok, g_bok, g_jok, g_qok, g_ivl, g_jvl, g_qvl, g_ist, g_bst, g_jst, g_qst, g_aln, g_isa, g_dl1, g_dl2, g_dl3, g_dl4, g_dl5, g_dd, g_rfs, g_rfn, p_sm0, p_sm1, p_sm2, p_sm3, p_sm4, true_and, and_true, if_true, if_false, ↓reduceIte, Nat.reduceEqDiff, reduceCtorEq, or_true, true_or, and_self, Int32.reduceLT, Int32.reduceAdd, Int32.reduceSub, Int32.reduceToNatClampNeg, not_false_eq_true, not_true_eq_false, t1]
          refine c50 hF hE5 hq5 hv hf31 (fun h6 hE6 hq6 hG6 => ?_)
          simp (decide := true) only [e40_0, e40_1, e40_1n, e40_2, e40_5, e40_5n, e40_6, e40_9, e40_12, e40_13, e40_16, e40_17, e40_20, e40_21, e40_22, e40_25, e40_26, e40_29, e40_32, e40_32n, e40_33, e40_33n, e40_34, e40_37, e40_37n, e40_38, e40_41, e40_44, e40_47, e40_48, e40_49, e40_49n, e40_50, e40_50n, e40_51, e40_51n, e40_52, e40_52n, e40_54, e40_57, e40_58, e40_60, e40_61, e40_64, e40_66, e40_67, e40_71, e40_72, e40_75, e40_78, e40_80, e40_83, e40_86, e40_88, e40_90, e40_93, e40_96, e40_97, e40_100, e40_102, e40_103, e40_103n, e40_104, e40_105, e40_108, e40_110, e40_111, e40_114, e40_115, e40_115n, e40_116, e40_119, e40_122, e40_123, e40_125, e40_126, e40_127, e40_130, e40_131, e40_132, e40_132n, e40_133, e40_136, e40_137, e40_137n, e40_138, e40_141, e40_142, e40_142n, e40_143, e40_146, e40_149, e40_152, m40, ok_0x1x2x7x10_2_0, fv4_2, ok_0x1x2x7x10_2_1, ok_0x1x2x7x10_2_2, ok_0x1x2x7x10_2_7, ok_0x1x2x7x10_2_10, ok_8_0_8, fs14_0, ok_8_1_8, fs14_1, fv14_0, ok_8_6_8, fv14_6, ok_8_4_8, fv14_4, Kt_some, Kt_none, V_ite, g_if, g_ss, g_1, g_2, g_cn, g_iok, g_sok, g_bok, g_jok, g_qok, g_ivl, g_jvl, g_qvl, g_ist, g_bst, g_jst, g_qst, g_aln, g_isa, g_dl1, g_dl2, g_dl3, g_dl4, g_dl5, g_dd, g_rfs, g_rfn, p_sm0, p_sm1, p_sm2, p_sm3, p_sm4, true_and, and_true, if_true, if_false, ↓reduceIte, Nat.reduceEqDiff, reduceCtorEq, or_true, true_or, and_self, Int32.reduceLT, Int32.reduceAdd, Int32.reduceSub, Int32.reduceToNatClampNeg, not_false_eq_true, not_true_eq_false, nI_1]
          rw [xr_e] at hN
          refine ih (hd + 1) le2 ly2 _ h6 (by omega) ?_ hle2 hly2 (EV_LV hE6) hq6 (fun h7 r1 r2 => hN h7 r1 (GR_tr hG2 (GR_tr hG3 (GR_tr hG4 (GR_tr hG5 (GR_tr hG6 r2))))))
          have mono : ∀ (M : List Nat) (a : Nat), M.length ≤ (xs n H nb nc cc M (e % 65536) (e / 65536) a).length := by
            intro M a
            unfold xs ins
            split
            · split
              · exact Nat.le_refl _
              · rw [List.length_append]; exact Nat.le_add_right _ _
            · exact Nat.le_refl _
          have mtk : ∀ (M : List Nat) (k : Nat), M.length ≤ (tk n H nb nc cc M (e % 65536) (e / 65536) k).length := by
            intro M k
            induction k with
            | zero => exact Nat.le_refl _
            | succ k ihk => exact Nat.le_trans ihk (mono _ _)
          have := mtk (xs n H nb nc cc (xs n H nb nc cc (xs n H nb nc cc (xs n H nb nc cc (xs n H nb nc cc L (e % 65536) (e / 65536) 0) (e % 65536) (e / 65536) 1) (e % 65536) (e / 65536) 2) (e % 65536) (e / 65536) 3) (e % 65536) (e / 65536) 4) 6
          have := mono L 0
          have := mono (xs n H nb nc cc L (e % 65536) (e / 65536) 0) 1
          have := mono (xs n H nb nc cc (xs n H nb nc cc L (e % 65536) (e / 65536) 0) (e % 65536) (e / 65536) 1) 2
          have := mono (xs n H nb nc cc (xs n H nb nc cc (xs n H nb nc cc L (e % 65536) (e / 65536) 0) (e % 65536) (e / 65536) 1) (e % 65536) (e / 65536) 2) 3
          have := mono (xs n H nb nc cc (xs n H nb nc cc (xs n H nb nc cc (xs n H nb nc cc L (e % 65536) (e / 65536) 0) (e % 65536) (e / 65536) 1) (e % 65536) (e / 65536) 2) (e % 65536) (e / 65536) 3) 4
          omega
      rw [e40_69]
      by_cases hle : hd = le
      · have e3 : (nI hd = nI le) = True := eq_true (by rw [hle])
        simp (decide := true) only [e40_0, e40_1, e40_1n, e40_2, e40_5, e40_5n, e40_6, e40_9, e40_12, e40_13, e40_16, e40_17, e40_20, e40_21, e40_22, e40_25, e40_26, e40_29, e40_32, e40_32n, e40_33, e40_33n, e40_34, e40_37, e40_37n, e40_38, e40_41, e40_44, e40_47, e40_48, e40_49, e40_49n, e40_50, e40_50n, e40_51, e40_51n, e40_52, e40_52n, e40_54, e40_57, e40_58, e40_60, e40_61, e40_64, e40_66, e40_67, e40_71, e40_72, e40_75, e40_78, e40_80, e40_83, e40_86, e40_88, e40_90, e40_93, e40_96, e40_97, e40_100, e40_103, e40_103n, e40_104, e40_105, e40_108, e40_110, e40_111, e40_114, e40_115, e40_115n, e40_116, e40_119, e40_122, e40_123, e40_125, e40_126, e40_127, e40_130, e40_131, e40_132, e40_132n, e40_133, e40_136, e40_137, e40_137n, e40_138, e40_141, e40_142, e40_142n, e40_143, e40_146, e40_149, e40_152, m40, ok_0x1x2x7x10_2_0, fv4_2, ok_0x1x2x7x10_2_1, ok_0x1x2x7x10_2_2, ok_0x1x2x7x10_2_7, ok_0x1x2x7x10_2_10, ok_8_0_8, fs14_0, ok_8_1_8, fs14_1, fv14_0, ok_8_6_8, fv14_6, ok_8_4_8, fv14_4, Kt_some, Kt_none, V_ite, g_if, g_ss, g_1, g_2, g_cn, g_iok, g_sok, g_bok, g_jok, g_qok, g_ivl, g_jvl, g_qvl, g_ist, g_bst, g_jst, g_qst, g_aln, g_isa, g_dl1, g_dl2, g_dl3, g_dl4, g_dl5, g_dd, g_rfs, g_rfn, p_sm0, p_sm1, p_sm2, p_sm3, p_sm4, true_and, and_true, if_true, if_false, ↓reduceIte, Nat.reduceEqDiff, reduceCtorEq, or_true, true_or, and_self, Int32.reduceLT, Int32.reduceAdd, Int32.reduceSub, Int32.reduceToNatClampNeg, not_false_eq_true, not_true_eq_false, s1, s2, e1, e2, e3, nI_1]
        refine main L.length (ly + 1) hlen (by omega) (if_pos hle) (if_pos hle)
      · have e3 : (nI hd = nI le) = False := eq_false (fun q => hle ((nI_eq (by omega) (by omega)).mp q))
        simp (decide := true) only [e40_0, e40_1, e40_1n, e40_2, e40_5, e40_5n, e40_6, e40_9, e40_12, e40_13, e40_16, e40_17, e40_20, e40_21, e40_22, e40_25, e40_26, e40_29, e40_32, e40_32n, e40_33, e40_33n, e40_34, e40_37, e40_37n, e40_38, e40_41, e40_44, e40_47, e40_48, e40_49, e40_49n, e40_50, e40_50n, e40_51, e40_51n, e40_52, e40_52n, e40_54, e40_57, e40_58, e40_60, e40_61, e40_64, e40_66, e40_67, e40_71, e40_72, e40_75, e40_78, e40_80, e40_83, e40_86, e40_88, e40_90, e40_93, e40_96, e40_97, e40_100, e40_103, e40_103n, e40_104, e40_105, e40_108, e40_110, e40_111, e40_114, e40_115, e40_115n, e40_116, e40_119, e40_122, e40_123, e40_125, e40_126, e40_127, e40_130, e40_131, e40_132, e40_132n, e40_133, e40_136, e40_137, e40_137n, e40_138, e40_141, e40_142, e40_142n, e40_143, e40_146, e40_149, e40_152, m40, ok_0x1x2x7x10_2_0, fv4_2, ok_0x1x2x7x10_2_1, ok_0x1x2x7x10_2_2, ok_0x1x2x7x10_2_7, ok_0x1x2x7x10_2_10, ok_8_0_8, fs14_0, ok_8_1_8, fs14_1, fv14_0, ok_8_6_8, fv14_6, ok_8_4_8, fv14_4, Kt_some, Kt_none, V_ite, g_if, g_ss, g_1, g_2, g_cn, g_iok, g_sok, g_bok, g_jok, g_qok, g_ivl, g_jvl, g_qvl, g_ist, g_bst, g_jst, g_qst, g_aln, g_isa, g_dl1, g_dl2, g_dl3, g_dl4, g_dl5, g_dd, g_rfs, g_rfn, p_sm0, p_sm1, p_sm2, p_sm3, p_sm4, true_and, and_true, if_true, if_false, ↓reduceIte, Nat.reduceEqDiff, reduceCtorEq, or_true, true_or, and_self, Int32.reduceLT, Int32.reduceAdd, Int32.reduceSub, Int32.reduceToNatClampNeg, not_false_eq_true, not_true_eq_false, s1, s2, e1, e2, e3]
        exact main le ly h3 (by omega) (if_neg hle) (if_neg hle)
    · have e1 : (nI hd < nI L.length) = False := nI_F (by omega) (by omega)
      simp only [se, hlt, if_false] at hN
      rw [e40_69]
      simp (decide := true) only [e40_0, e40_1, e40_1n, e40_2, e40_5, e40_5n, e40_6, e40_9, e40_12, e40_13, e40_16, e40_17, e40_20, e40_21, e40_22, e40_25, e40_26, e40_29, e40_32, e40_32n, e40_33, e40_33n, e40_34, e40_37, e40_37n, e40_38, e40_41, e40_44, e40_47, e40_48, e40_49, e40_49n, e40_50, e40_50n, e40_51, e40_51n, e40_52, e40_52n, e40_54, e40_57, e40_58, e40_60, e40_61, e40_64, e40_66, e40_67, e40_71, e40_72, e40_75, e40_78, e40_80, e40_83, e40_86, e40_88, e40_90, e40_93, e40_96, e40_97, e40_100, e40_103, e40_103n, e40_104, e40_105, e40_108, e40_110, e40_111, e40_114, e40_115, e40_115n, e40_116, e40_119, e40_122, e40_123, e40_125, e40_126, e40_127, e40_130, e40_131, e40_132, e40_132n, e40_133, e40_136, e40_137, e40_137n, e40_138, e40_141, e40_142, e40_142n, e40_143, e40_146, e40_149, e40_152, m40, ok_0x1x2x7x10_2_0, fv4_2, ok_0x1x2x7x10_2_1, ok_0x1x2x7x10_2_2, ok_0x1x2x7x10_2_7, ok_0x1x2x7x10_2_10, ok_8_0_8, fs14_0, ok_8_1_8, fs14_1, fv14_0, ok_8_6_8, fv14_6, ok_8_4_8, fv14_4, Kt_some, Kt_none, V_ite, g_if, g_ss, g_1, g_2, g_cn, g_iok, g_sok, g_bok, g_jok, g_qok, g_ivl, g_jvl, g_qvl, g_ist, g_bst, g_jst, g_qst, g_aln, g_isa, g_dl1, g_dl2, g_dl3, g_dl4, g_dl5, g_dd, g_rfs, g_rfn, p_sm0, p_sm1, p_sm2, p_sm3, p_sm4, true_and, and_true, if_true, if_false, ↓reduceIte, Nat.reduceEqDiff, reduceCtorEq, or_true, true_or, and_self, Int32.reduceLT, Int32.reduceAdd, Int32.reduceSub, Int32.reduceToNatClampNeg, not_false_eq_true, not_true_eq_false, s1, s2, e1]
      exact hN h ⟨x, s1, x0, x1, ⟨fq, s3⟩, ⟨fs, s4⟩, h30, h31⟩ (GR_rf qa sa h)
end S36
