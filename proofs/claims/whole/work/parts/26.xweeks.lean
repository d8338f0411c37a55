section S26
variable {σ : pS} {h : pH} {K Q : Option Value → pH → Prop} {ad : Nat → Nat} {e e2 : pE} {N a : Nat}
def ns (s : Int32) : Int32 := ((1103515245 * s.toInt64 + 12345) &&& 2147483647).toInt32
def rn (s : Int32) : Int32 := s / 65536 - s / 65536 / 4 * 4
theorem c103 {s : Int32} : Vm 103 [.int s] h Q = Q (some (.int (ns s))) h := by
  simp (decide := true) only [e103_0, e103_3, e103_4, e103_5, e103_6, e103_9, e103_10, e103_13, e103_14, e103_15, m103, Kt_some, Kt_none, V_ite, g_if, g_ss, g_1, g_2, g_cn, g_iok, g_sok, g_bok, g_jok, g_qok, g_ivl, g_jvl, g_qvl, g_ist, g_bst, g_jst, g_qst, g_aln, g_isa, g_dl1, g_dl2, g_dl3, g_dl4, g_dl5, g_dd, g_rfs, g_rfn, p_sm0, p_sm1, p_sm2, p_sm3, p_sm4, true_and, and_true, if_true, if_false, ↓reduceIte, Nat.reduceEqDiff, reduceCtorEq, or_true, true_or, and_self, Int32.reduceLT, Int32.reduceAdd, Int32.reduceSub, Int32.reduceToNatClampNeg, not_false_eq_true, not_true_eq_false, ns]
/-- days by a seed: what stands then, and the seed -/
def wk (H L : Nat → Int32) (n : Nat) : Nat → (Nat → Int32) → Int32 → (Nat → Int32) × Int32
  | 0, f, s => (f, s)
  | d + 1, f, s => wk H L n d (lk L (pw H f (n - 1) (rn (ns s))).1 n) (ns s)
theorem lk_00 (L f : Nat → Int32) (n : Nat) : lk L f n 0 = f 0 := by
  unfold lk
  rw [if_neg (by omega)]
theorem l91 {dd n : Nat} {b5 : Int32} {l2 l3 : Option Value} (hd : dd ≤ 60) (hn : n ≤ 4) (h0 : 1 ≤ n) (a1 : p_get h 1 = some (oW (σ 0 2) (σ 0 3) (σ 0 4) b5)) (a4 : p_get h 4 = some (oS 5 6 (nI n))) (a5 : p_get h 5 = some (aI 4 (σ 1))) (a6 : p_get h 6 = some (aI 4 (σ 2))) : ∀ (d i : Nat) (f : Nat → Int32) (s : Int32), i + d = dd → f 0 = σ 1 0 → V 91 60 [some (.ref 1), some (.int (nI dd)), l2, p_dl l3, some (.int s), some (.int (nI i))] [] (p_set h 8 (aI 4 f)) K = V 91 97 [some (.ref 1), some (.int (nI dd)), l2, p_dl l3, some (.int (wk (σ 1) (σ 2) n d f s).2), some (.int (nI dd))] [] (p_set h 8 (aI 4 (wk (σ 1) (σ 2) n d f s).1)) K := by
  intro d
  induction d with
  | zero =>
    intro i f s hi hf
    have e1 := nI_F (a := i) (b := dd) (by omega) (by omega)
    have e2 : i = dd := by omega
    subst e2
    rw [e91_60]
    simp (decide := true) only [e91_0, e91_1, e91_2, e91_5, e91_6, e91_8, e91_11, e91_12, e91_15, e91_16, e91_19, e91_20, e91_21, e91_24, e91_26, e91_27, e91_28, e91_31, e91_34, e91_37, e91_39, e91_40, e91_41, e91_44, e91_45, e91_46, e91_49, e91_50, e91_51, e91_54, e91_55, e91_57, e91_58, e91_62, e91_63, e91_66, e91_68, e91_71, e91_73, e91_74, e91_77, e91_78, e91_81, e91_83, e91_85, e91_86, e91_87, e91_88, e91_91, e91_94, e91_98, e91_101, e91_102, e91_105, e91_106, e91_109, e91_112, e91_113, e91_114, e91_115, e91_118, e91_119, e91_120, e91_123, e91_126, e91_129, e91_131, m91, ok_11_1_11, fv13_1, ok_9_2_9, fv3_2, ok_11_2_11, fv13_2, ok_11_3_11, fv13_3, Kt_some, Kt_none, V_ite, g_if, g_ss, g_1, g_2, g_cn, g_iok, g_sok, g_bok, g_jok, g_qok, g_ivl, g_jvl, g_qvl, g_ist, g_bst, g_jst, g_qst, g_aln, g_isa, g_dl1, g_dl2, g_dl3, g_dl4, g_dl5, g_dd, g_rfs, g_rfn, p_sm0, p_sm1, p_sm2, p_sm3, p_sm4, true_and, and_true, if_true, if_false, ↓reduceIte, Nat.reduceEqDiff, reduceCtorEq, or_true, true_or, and_self, Int32.reduceLT, Int32.reduceAdd, Int32.reduceSub, Int32.reduceToNatClampNeg, not_false_eq_true, not_true_eq_false, e1, wk]
  | succ d ih =>
    intro i f s hi hf
    have e1 := nI_T (a := i) (b := dd) (by omega) (by omega)
    have b4 : p_get (p_set h 8 (aI 4 f)) 4 = some (oS 5 6 (nI n)) := by simp (decide := true) only [Kt_some, Kt_none, V_ite, g_if, g_ss, g_1, g_2, g_cn, g_iok, g_sok, g_bok, g_jok, g_qok, g_ivl, g_jvl, g_qvl, g_ist, g_bst, g_jst, g_qst, g_aln, g_isa, g_dl1, g_dl2, g_dl3, g_dl4, g_dl5, g_dd, g_rfs, g_rfn, p_sm0, p_sm1, p_sm2, p_sm3, p_sm4, true_and, and_true, if_true, if_false, ↓reduceIte, Nat.reduceEqDiff, reduceCtorEq, or_true, true_or, and_self, Int32.reduceLT, Int32.reduceAdd, Int32.reduceSub, Int32.reduceToNatClampNeg, not_false_eq_true, not_true_eq_false, a4]
    have b5 : p_get (p_set h 8 (aI 4 f)) 5 = some (aI 4 (σ 1)) := by simp (decide := true) only [Kt_some, Kt_none, V_ite, g_if, g_ss, g_1, g_2, g_cn, g_iok, g_sok, g_bok, g_jok, g_qok, g_ivl, g_jvl, g_qvl, g_ist, g_bst, g_jst, g_qst, g_aln, g_isa, g_dl1, g_dl2, g_dl3, g_dl4, g_dl5, g_dd, g_rfs, g_rfn, p_sm0, p_sm1, p_sm2, p_sm3, p_sm4, true_and, and_true, if_true, if_false, ↓reduceIte, Nat.reduceEqDiff, reduceCtorEq, or_true, true_or, and_self, Int32.reduceLT, Int32.reduceAdd, Int32.reduceSub, Int32.reduceToNatClampNeg, not_false_eq_true, not_true_eq_false, a5]
    have b6 : p_get (p_set h 8 (aI 4 f)) 6 = some (aI 4 (σ 2)) := by simp (decide := true) only [Kt_some, Kt_none, V_ite, g_if, g_ss, g_1, g_2, g_cn, g_iok, g_sok, g_bok, g_jok, g_qok, g_ivl, g_jvl, g_qvl, g_ist, g_bst, g_jst, g_qst, g_aln, g_isa, g_dl1, g_dl2, g_dl3, g_dl4, g_dl5, g_dd, g_rfs, g_rfn, p_sm0, p_sm1, p_sm2, p_sm3, p_sm4, true_and, and_true, if_true, if_false, ↓reduceIte, Nat.reduceEqDiff, reduceCtorEq, or_true, true_or, and_self, Int32.reduceLT, Int32.reduceAdd, Int32.reduceSub, Int32.reduceToNatClampNeg, not_false_eq_true, not_true_eq_false, a6]
    have hpd := fun Q => c61 (Q := Q) (s := 4) (r := 8) (f := f) (rain := rn (ns s)) b4 b5 b6 (by simp (decide := true) only [Kt_some, Kt_none, V_ite, g_if, g_ss, g_1, g_2, g_cn, g_iok, g_sok, g_bok, g_jok, g_qok, g_ivl, g_jvl, g_qvl, g_ist, g_bst, g_jst, g_qst, g_aln, g_isa, g_dl1, g_dl2, g_dl3, g_dl4, g_dl5, g_dd, g_rfs, g_rfn, p_sm0, p_sm1, p_sm2, p_sm3, p_sm4, true_and, and_true, if_true, if_false, ↓reduceIte, Nat.reduceEqDiff, reduceCtorEq, or_true, true_or, and_self, Int32.reduceLT, Int32.reduceAdd, Int32.reduceSub, Int32.reduceToNatClampNeg, not_false_eq_true, not_true_eq_false]) (by decide) (by decide) (by decide) hn h0 hf
    have hrn : ns s / 65536 - ns s / 65536 / 4 * 4 = rn (ns s) := rfl
    have := ih (i + 1) (lk (σ 2) (pw (σ 1) f (n - 1) (rn (ns s))).1 n) (ns s) (by omega) (by rw [lk_00, pw_0]; exact hf)
    rw [e91_60]
    simp (decide := true) only [e91_0, e91_1, e91_2, e91_5, e91_6, e91_8, e91_11, e91_12, e91_15, e91_16, e91_19, e91_20, e91_21, e91_24, e91_26, e91_27, e91_28, e91_31, e91_34, e91_37, e91_39, e91_40, e91_41, e91_44, e91_45, e91_46, e91_49, e91_50, e91_51, e91_54, e91_55, e91_57, e91_58, e91_62, e91_63, e91_66, e91_68, e91_71, e91_73, e91_74, e91_77, e91_78, e91_81, e91_83, e91_85, e91_86, e91_87, e91_88, e91_91, e91_94, e91_98, e91_101, e91_102, e91_105, e91_106, e91_109, e91_112, e91_113, e91_114, e91_115, e91_118, e91_119, e91_120, e91_123, e91_126, e91_129, e91_131, m91, ok_11_1_11, fv13_1, ok_9_2_9, fv3_2, ok_11_2_11, fv13_2, ok_11_3_11, fv13_3, Kt_some, Kt_none, V_ite, g_if, g_ss, g_1, g_2, g_cn, g_iok, g_sok, g_bok, g_jok, g_qok, g_ivl, g_jvl, g_qvl, g_ist, g_bst, g_jst, g_qst, g_aln, g_isa, g_dl1, g_dl2, g_dl3, g_dl4, g_dl5, g_dd, g_rfs, g_rfn, p_sm0, p_sm1, p_sm2, p_sm3, p_sm4, true_and, and_true, if_true, if_false, ↓reduceIte, Nat.reduceEqDiff, reduceCtorEq, or_true, true_or, and_self, Int32.reduceLT, Int32.reduceAdd, Int32.reduceSub, Int32.reduceToNatClampNeg, not_false_eq_true, not_true_eq_false, e1, c103, a1, a4, hrn, hpd, nI_1]
    exact this
/-- how many boats float on a row -/
def af (g : Nat → Bool) : Nat → Nat → Nat → Nat
  | 0, _, c => c
  | d + 1, i, c => af g d (i + 1) (if g i = true then c + 1 else c)
def fo (σ : pS) (w : Nat → Int32) (i : Nat) : Bool := decide (¬ w (σ 8 i).toNatClampNeg < ne σ i)
theorem l104 {w : Nat → Int32} (hI : IV σ) (hA : CA σ h) (hB : CB σ ad (nt σ) h) (h8 : p_get h 8 = some (aI 4 w)) : ∀ (d i c : Nat) (l4 : Option Value), i + d = nt σ → c ≤ i → V 104 4 [some (.ref 1), some (.ref 8), some (.int (nI c)), some (.int (nI i)), l4] [] h K = K (some (.int (nI (af (fo σ w) d i c)))) h := by
  obtain ⟨a1, a2, a3, a4, a5, a6, a7⟩ := id hA
  obtain ⟨⟨f, b1, b2⟩, b3, b4⟩ := id hB
  have hbt : σ 0 2 = nI (nt σ) ∧ nt σ ≤ 5 := by
    obtain ⟨n, ps, bt, sr, hI⟩ := hI
    obtain ⟨-, -, e5⟩ := IN_n hI
    obtain ⟨⟨-, -, -, -, -, e4, e6, -⟩, -⟩ := hI
    rw [e5]
    exact ⟨e4, e6⟩
  obtain ⟨e02, e05⟩ := hbt
  intro d
  induction d with
  | zero =>
    intro i c l4 hi hc
    have e1 : (nI i < σ 0 2) = False := by rw [e02]; exact nI_F (by omega) (by omega)
    rw [e104_4]
    simp (decide := true) only [e104_0, e104_1, e104_2, e104_3, e104_5, e104_6, e104_9, e104_12, e104_13, e104_16, e104_17, e104_18, e104_18n, e104_20, e104_20n, e104_22, e104_22r, e104_25, e104_26, e104_29, e104_29n, e104_30, e104_30n, e104_32, e104_35, e104_35n, e104_37, e104_40, e104_43, e104_46, e104_49, e104_52, e104_55, e104_56, m104, ok_11_9_11, fv13_9, ok_11_4_11, fv13_4, ok_11_1_11, fv13_1, ok_0x1x2x7x10_2_0, fv4_2, ok_0x1x2x7x10_2_1, ok_0x1x2x7x10_2_2, ok_0x1x2x7x10_2_7, ok_0x1x2x7x10_2_10, Kt_some, Kt_none, V_ite, g_if, g_ss, g_1, g_2, g_cn, g_iok, g_sok, g_bok, g_jok, g_qok, g_ivl, g_jvl, g_qvl, g_ist, g_bst, g_jst, g_qst, g_aln, g_isa, g_dl1, g_dl2, g_dl3, g_dl4, g_dl5, g_dd, g_rfs, g_rfn, p_sm0, p_sm1, p_sm2, p_sm3, p_sm4, true_and, and_true, if_true, if_false, ↓reduceIte, Nat.reduceEqDiff, reduceCtorEq, or_true, true_or, and_self, Int32.reduceLT, Int32.reduceAdd, Int32.reduceSub, Int32.reduceToNatClampNeg, not_false_eq_true, not_true_eq_false, a1, e1, af]
  | succ d ih =>
    intro i c l4 hi hc
    have e1 : (nI i < σ 0 2) = True := by rw [e02]; exact nI_T (by omega) (by omega)
    have e2 := vp_T (show i < 5 by omega) (by omega)
    have e3 := nI_c (a := i) (by omega)
    obtain ⟨b57, bh, hbj⟩ := b3 i (by omega)
    obtain ⟨n, m, q1, q2, q3, q4, q5, q6, -⟩ := pl_in hI (show i < nt σ by omega)
    have hc6 : p_bt (kc (σ 5 i)) = true := by
      obtain ⟨n, ps, bt, sr, hI⟩ := hI
      obtain ⟨-, -, e5⟩ := IN_n hI
      obtain ⟨-, -, -, hE, -⟩ := hI
      exact (kc_bt (hE i (by omega)).1).1
    have r1 := nI_0F (a := m) (by omega)
    have r2 : (nI m < σ 0 0) = True := by rw [q1]; exact nI_T q5 (by omega)
    have r3 := vp_T (show m < 4 by omega) (by omega)
    have r4 := nI_c (a := m) (by omega)
    have e5 : bn (kc (σ 5 i)) (σ 6 i) = ne σ i := rfl
    rw [e104_4]
    by_cases hw : w m < ne σ i
    · have hf : fo σ w i = false := by unfold fo; rw [q6]; exact decide_eq_false (fun q => q hw)
      simp (decide := true) only [e104_0, e104_1, e104_2, e104_3, e104_5, e104_6, e104_9, e104_12, e104_13, e104_16, e104_17, e104_18, e104_18n, e104_20, e104_20n, e104_22, e104_22r, e104_25, e104_26, e104_29, e104_29n, e104_30, e104_30n, e104_32, e104_35, e104_35n, e104_37, e104_40, e104_43, e104_46, e104_49, e104_52, e104_55, e104_56, m104, ok_11_9_11, fv13_9, ok_11_4_11, fv13_4, ok_11_1_11, fv13_1, ok_0x1x2x7x10_2_0, fv4_2, ok_0x1x2x7x10_2_1, ok_0x1x2x7x10_2_2, ok_0x1x2x7x10_2_7, ok_0x1x2x7x10_2_10, Kt_some, Kt_none, V_ite, g_if, g_ss, g_1, g_2, g_cn, g_iok, g_sok, g_bok, g_jok, g_qok, g_ivl, g_jvl, g_qvl, g_ist, g_bst, g_jst, g_qst, g_aln, g_isa, g_dl1, g_dl2, g_dl3, g_dl4, g_dl5, g_dd, g_rfs, g_rfn, p_sm0, p_sm1, p_sm2, p_sm3, p_sm4, true_and, and_true, if_true, if_false, ↓reduceIte, Nat.reduceEqDiff, reduceCtorEq, or_true, true_or, and_self, Int32.reduceLT, Int32.reduceAdd, Int32.reduceSub, Int32.reduceToNatClampNeg, not_false_eq_true, not_true_eq_false, a1, a4, e1, e2, e3, b1, b2 i (by omega), hbj, hc6, c_needs hbj hc6, ok_b 2 hc6 (by decide), q4, e5, c56 a4 h8, r1, r2, r3, r4, hw, nI_1]
      rw [ih (i + 1) c _ (by omega) (by omega), af, hf]
      rfl
    · have hf : fo σ w i = true := by unfold fo; rw [q6]; exact decide_eq_true hw
      simp (decide := true) only [e104_0, e104_1, e104_2, e104_3, e104_5, e104_6, e104_9, e104_12, e104_13, e104_16, e104_17, e104_18, e104_18n, e104_20, e104_20n, e104_22, e104_22r, e104_25, e104_26, e104_29, e104_29n, e104_30, e104_30n, e104_32, e104_35, e104_35n, e104_37, e104_40, e104_43, e104_46, e104_49, e104_52, e104_55, e104_56, m104, ok_11_9_11, fv13_9, ok_11_4_11, fv13_4, ok_11_1_11, fv13_1, ok_0x1x2x7x10_2_0, fv4_2, ok_0x1x2x7x10_2_1, ok_0x1x2x7x10_2_2, ok_0x1x2x7x10_2_7, ok_0x1x2x7x10_2_10, Kt_some, Kt_none, V_ite, g_if, g_ss, g_1, g_2, g_cn, g_iok, g_sok, g_bok, g_jok, g_qok, g_ivl, g_jvl, g_qvl, g_ist, g_bst, g_jst, g_qst, g_aln, g_isa, g_dl1, g_dl2, g_dl3, g_dl4, g_dl5, g_dd, g_rfs, g_rfn, p_sm0, p_sm1, p_sm2, p_sm3, p_sm4, true_and, and_true, if_true, if_false, ↓reduceIte, Nat.reduceEqDiff, reduceCtorEq, or_true, true_or, and_self, Int32.reduceLT, Int32.reduceAdd, Int32.reduceSub, Int32.reduceToNatClampNeg, not_false_eq_true, not_true_eq_false, a1, a4, e1, e2, e3, b1, b2 i (by omega), hbj, hc6, c_needs hbj hc6, ok_b 2 hc6 (by decide), q4, e5, c56 a4 h8, r1, r2, r3, r4, hw, nI_1]
      rw [ih (i + 1) (c + 1) _ (by omega) (by omega), af, hf]
      rfl
theorem c104 {w : Nat → Int32} (hI : IV σ) (hA : CA σ h) (hB : CB σ ad (nt σ) h) (h8 : p_get h 8 = some (aI 4 w)) : Vm 104 [.ref 1, .ref 8] h K = K (some (.int (nI (af (fo σ w) (nt σ) 0 0)))) h := by
  have := l104 (K := K) hI hA hB h8 (nt σ) 0 0 none (by omega) (by omega)
  simp (decide := true) only [e104_0, e104_1, e104_2, e104_3, e104_5, e104_6, e104_9, e104_12, e104_13, e104_16, e104_17, e104_18, e104_18n, e104_20, e104_20n, e104_22, e104_22r, e104_25, e104_26, e104_29, e104_29n, e104_30, e104_30n, e104_32, e104_35, e104_35n, e104_37, e104_40, e104_43, e104_46, e104_49, e104_52, e104_55, e104_56, m104, ok_11_9_11, fv13_9, ok_11_4_11, fv13_4, ok_11_1_11, fv13_1, ok_0x1x2x7x10_2_0, fv4_2, ok_0x1x2x7x10_2_1, ok_0x1x2x7x10_2_2, ok_0x1x2x7x10_2_7, ok_0x1x2x7x10_2_10, Kt_some, Kt_none, V_ite, g_if, g_ss, g_1, g_2, g_cn, g_iok, g_sok, g_bok, g_jok, g_qok, g_ivl, g_jvl, g_qvl, g_ist, g_bst, g_jst, g_qst, g_aln, g_isa, g_dl1, g_dl2, g_dl3, g_dl4, g_dl5, g_dd, g_rfs, g_rfn, p_sm0, p_sm1, p_sm2, p_sm3, p_sm4, true_and, and_true, if_true, if_false, ↓reduceIte, Nat.reduceEqDiff, reduceCtorEq, or_true, true_or, and_self, Int32.reduceLT, Int32.reduceAdd, Int32.reduceSub, Int32.reduceToNatClampNeg, not_false_eq_true, not_true_eq_false]
  exact this
def f_weeks (σ : pS) (d s k : Int32) : Int32 × pS := (if d < 1 then -102 else if 60 < d then -102 else if s < 0 then -102 else if k < 0 then -102 else if 2 < k then -102 else if σ 0 0 = 0 then -103 else
    (if k = 0 then sa (wk (σ 1) (σ 2) (nn σ) d.toNatClampNeg (σ 3) s).1 (nn σ) else if k = 1 then nI (af (fo σ (wk (σ 1) (σ 2) (nn σ) d.toNatClampNeg (σ 3) s).1) (nt σ) 0 0) else (wk (σ 1) (σ 2) (nn σ) d.toNatClampNeg (σ 3) s).2), σ)
theorem wk_jn (H L : Nat → Int32) (n : Nat) (hn : n ≤ 4) : ∀ (d : Nat) (f g : Nat → Int32) (s : Int32), (∀ i, i < 4 → f i = g i) → (wk H L n d f s).2 = (wk H L n d g s).2 ∧ ∀ i, i < 4 → (wk H L n d f s).1 i = (wk H L n d g s).1 i := by
  intro d
  induction d with
  | zero => intro f g s hfg; exact ⟨rfl, hfg⟩
  | succ d ih =>
    intro f g s hfg
    have pwc : ∀ (j : Nat) (f g : Nat → Int32) (k : Int32), j < 4 → (∀ i, i < 4 → f i = g i) → (pw H f j k).2 = (pw H g j k).2 ∧ ∀ i, i < 4 → (pw H f j k).1 i = (pw H g j k).1 i := by
      intro j
      induction j with
      | zero => intro f g k _ q; exact ⟨rfl, q⟩
      | succ j ihj =>
        intro f g k hj q
        unfold pw
        by_cases hk : 0 < k
        · simp only [hk, if_true]
          rw [q (j + 1) hj]
          refine ihj _ _ _ (by omega) (fun i hi => ?_)
          by_cases hij : i = j + 1
          · subst hij; rw [pk_us, pk_us]
          · rw [pk_un hij, pk_un hij]; exact q i hi
        · rw [if_neg hk, if_neg hk]
          exact ⟨rfl, q⟩
    refine ih _ _ (ns s) (fun i hi => ?_)
    have := (pwc (n - 1) f g (rn (ns s)) (by omega) hfg).2 i hi
    unfold lk
    rw [this]
theorem sa_c (f g : Nat → Int32) : ∀ (n : Nat), n ≤ 4 → (∀ i, i < 4 → f i = g i) → sa f n = sa g n
  | 0, _, _ => rfl
  | 1, _, _ => rfl
  | n + 2, hn, h => by
    show sa f (n + 1) + f (n + 1) = sa g (n + 1) + g (n + 1)
    rw [sa_c f g (n + 1) (by omega) h, h (n + 1) (by omega)]
theorem af_c (g g2 : Nat → Bool) : ∀ (d i c : Nat), (∀ j, i ≤ j → j < i + d → g j = g2 j) → af g d i c = af g2 d i c
  | 0, _, _, _ => rfl
  | d + 1, i, c, h => by
    unfold af
    rw [h i (by omega) (by omega), af_c g g2 d (i + 1) _ (fun j h1 h2 => h j (by omega) (by omega))]
theorem x_weeks {d s k : Int32} (hC : CR σ h) (hI : IV σ) (hK : ∀ h2, CR (f_weeks σ d s k).2 h2 → MF h h2 → K (some (.int (f_weeks σ d s k).1)) h2) : Vm 91 [.ref 1, .int d, .int s, .int k] h K := by
  obtain ⟨ad, hA, hB, hM, hKp, hJ, hS⟩ := id hC
  obtain ⟨a1, a2, a3, a4, a5, a6, a7⟩ := id hA
  unfold f_weeks at hK
  by_cases d1 : d < 1
  · simp only [d1, if_true] at hK
    simp (decide := true) only [e91_0, e91_1, e91_2, e91_5, e91_6, e91_8, e91_11, e91_12, e91_15, e91_16, e91_19, e91_20, e91_21, e91_24, e91_26, e91_27, e91_28, e91_31, e91_34, e91_37, e91_39, e91_40, e91_41, e91_44, e91_45, e91_46, e91_49, e91_50, e91_51, e91_54, e91_55, e91_57, e91_58, e91_60, e91_62, e91_63, e91_66, e91_68, e91_71, e91_73, e91_74, e91_77, e91_78, e91_81, e91_83, e91_85, e91_86, e91_87, e91_88, e91_91, e91_94, e91_97, e91_98, e91_101, e91_102, e91_105, e91_106, e91_109, e91_112, e91_113, e91_114, e91_115, e91_118, e91_119, e91_120, e91_123, e91_126, e91_129, e91_131, m91, ok_11_1_11, fv13_1, ok_9_2_9, fv3_2, ok_11_2_11, fv13_2, ok_11_3_11, fv13_3, Kt_some, Kt_none, V_ite, g_if, g_ss, g_1, g_2, g_cn, g_iok, g_sok, g_bok, g_jok, g_qok, g_ivl, g_jvl, g_qvl, g_ist, g_bst, g_jst, g_qst, g_aln, g_isa, g_dl1, g_dl2, g_dl3, g_dl4, g_dl5, g_dd, g_rfs, g_rfn, p_sm0, p_sm1, p_sm2, p_sm3, p_sm4, true_and, and_true, if_true, if_false, ↓reduceIte, Nat.reduceEqDiff, reduceCtorEq, or_true, true_or, and_self, Int32.reduceLT, Int32.reduceAdd, Int32.reduceSub, Int32.reduceToNatClampNeg, not_false_eq_true, not_true_eq_false, d1]
    exact hK h hC (MF_rf h)
  by_cases d2 : 60 < d
  · simp only [d1, d2, if_true, if_false] at hK
    simp (decide := true) only [e91_0, e91_1, e91_2, e91_5, e91_6, e91_8, e91_11, e91_12, e91_15, e91_16, e91_19, e91_20, e91_21, e91_24, e91_26, e91_27, e91_28, e91_31, e91_34, e91_37, e91_39, e91_40, e91_41, e91_44, e91_45, e91_46, e91_49, e91_50, e91_51, e91_54, e91_55, e91_57, e91_58, e91_60, e91_62, e91_63, e91_66, e91_68, e91_71, e91_73, e91_74, e91_77, e91_78, e91_81, e91_83, e91_85, e91_86, e91_87, e91_88, e91_91, e91_94, e91_97, e91_98, e91_101, e91_102, e91_105, e91_106, e91_109, e91_112, e91_113, e91_114, e91_115, e91_118, e91_119, e91_120, e91_123, e91_126, e91_129, e91_131, m91, ok_11_1_11, fv13_1, ok_9_2_9, fv3_2, ok_11_2_11, fv13_2, ok_11_3_11, fv13_3, Kt_some, Kt_none, V_ite, g_if, g_ss, g_1, g_2, g_cn, g_iok, g_sok, g_bok, g_jok, g_qok, g_ivl, g_jvl, g_qvl, g_ist, g_bst, g_jst, g_qst, g_aln, g_isa, g_dl1, g_dl2, g_dl3, g_dl4, g_dl5, g_dd, g_rfs, g_rfn, p_sm0, p_sm1, p_sm2, p_sm3, p_sm4, true_and, and_true, if_true, if_false, ↓reduceIte, Nat.reduceEqDiff, reduceCtorEq, or_true, true_or, and_self, Int32.reduceLT, Int32.reduceAdd, Int32.reduceSub, Int32.reduceToNatClampNeg, not_false_eq_true, not_true_eq_false, d1, d2]
    exact hK h hC (MF_rf h)
  by_cases s1 : s < 0
  · simp only [d1, d2, s1, if_true, if_false] at hK
    simp (decide := true) only [e91_0, e91_1, e91_2, e91_5, e91_6, e91_8, e91_11, e91_12, e91_15, e91_16, e91_19, e91_20, e91_21, e91_24, e91_26, e91_27, e91_28, e91_31, e91_34, e91_37, e91_39, e91_40, e91_41, e91_44, e91_45, e91_46, e91_49, e91_50, e91_51, e91_54, e91_55, e91_57, e91_58, e91_60, e91_62, e91_63, e91_66, e91_68, e91_71, e91_73, e91_74, e91_77, e91_78, e91_81, e91_83, e91_85, e91_86, e91_87, e91_88, e91_91, e91_94, e91_97, e91_98, e91_101, e91_102, e91_105, e91_106, e91_109, e91_112, e91_113, e91_114, e91_115, e91_118, e91_119, e91_120, e91_123, e91_126, e91_129, e91_131, m91, ok_11_1_11, fv13_1, ok_9_2_9, fv3_2, ok_11_2_11, fv13_2, ok_11_3_11, fv13_3, Kt_some, Kt_none, V_ite, g_if, g_ss, g_1, g_2, g_cn, g_iok, g_sok, g_bok, g_jok, g_qok, g_ivl, g_jvl, g_qvl, g_ist, g_bst, g_jst, g_qst, g_aln, g_isa, g_dl1, g_dl2, g_dl3, g_dl4, g_dl5, g_dd, g_rfs, g_rfn, p_sm0, p_sm1, p_sm2, p_sm3, p_sm4, true_and, and_true, if_true, if_false, ↓reduceIte, Nat.reduceEqDiff, reduceCtorEq, or_true, true_or, and_self, Int32.reduceLT, Int32.reduceAdd, Int32.reduceSub, Int32.reduceToNatClampNeg, not_false_eq_true, not_true_eq_false, d1, d2, s1]
    exact hK h hC (MF_rf h)
  by_cases k0 : k < 0
  · simp only [d1, d2, s1, k0, if_true, if_false] at hK
    simp (decide := true) only [e91_0, e91_1, e91_2, e91_5, e91_6, e91_8, e91_11, e91_12, e91_15, e91_16, e91_19, e91_20, e91_21, e91_24, e91_26, e91_27, e91_28, e91_31, e91_34, e91_37, e91_39, e91_40, e91_41, e91_44, e91_45, e91_46, e91_49, e91_50, e91_51, e91_54, e91_55, e91_57, e91_58, e91_60, e91_62, e91_63, e91_66, e91_68, e91_71, e91_73, e91_74, e91_77, e91_78, e91_81, e91_83, e91_85, e91_86, e91_87, e91_88, e91_91, e91_94, e91_97, e91_98, e91_101, e91_102, e91_105, e91_106, e91_109, e91_112, e91_113, e91_114, e91_115, e91_118, e91_119, e91_120, e91_123, e91_126, e91_129, e91_131, m91, ok_11_1_11, fv13_1, ok_9_2_9, fv3_2, ok_11_2_11, fv13_2, ok_11_3_11, fv13_3, Kt_some, Kt_none, V_ite, g_if, g_ss, g_1, g_2, g_cn, g_iok, g_sok, g_bok, g_jok, g_qok, g_ivl, g_jvl, g_qvl, g_ist, g_bst, g_jst, g_qst, g_aln, g_isa, g_dl1, g_dl2, g_dl3, g_dl4, g_dl5, g_dd, g_rfs, g_rfn, p_sm0, p_sm1, p_sm2, p_sm3, p_sm4, true_and, and_true, if_true, if_false, ↓reduceIte, Nat.reduceEqDiff, reduceCtorEq, or_true, true_or, and_self, Int32.reduceLT, Int32.reduceAdd, Int32.reduceSub, Int32.reduceToNatClampNeg, not_false_eq_true, not_true_eq_false, d1, d2, s1, k0]
    exact hK h hC (MF_rf h)
  by_cases k2 : 2 < k
  · simp only [d1, d2, s1, k0, k2, if_true, if_false] at hK
    simp (decide := true) only [e91_0, e91_1, e91_2, e91_5, e91_6, e91_8, e91_11, e91_12, e91_15, e91_16, e91_19, e91_20, e91_21, e91_24, e91_26, e91_27, e91_28, e91_31, e91_34, e91_37, e91_39, e91_40, e91_41, e91_44, e91_45, e91_46, e91_49, e91_50, e91_51, e91_54, e91_55, e91_57, e91_58, e91_60, e91_62, e91_63, e91_66, e91_68, e91_71, e91_73, e91_74, e91_77, e91_78, e91_81, e91_83, e91_85, e91_86, e91_87, e91_88, e91_91, e91_94, e91_97, e91_98, e91_101, e91_102, e91_105, e91_106, e91_109, e91_112, e91_113, e91_114, e91_115, e91_118, e91_119, e91_120, e91_123, e91_126, e91_129, e91_131, m91, ok_11_1_11, fv13_1, ok_9_2_9, fv3_2, ok_11_2_11, fv13_2, ok_11_3_11, fv13_3, Kt_some, Kt_none, V_ite, g_if, g_ss, g_1, g_2, g_cn, g_iok, g_sok, g_bok, g_jok, g_qok, g_ivl, g_jvl, g_qvl, g_ist, g_bst, g_jst, g_qst, g_aln, g_isa, g_dl1, g_dl2, g_dl3, g_dl4, g_dl5, g_dd, g_rfs, g_rfn, p_sm0, p_sm1, p_sm2, p_sm3, p_sm4, true_and, and_true, if_true, if_false, ↓reduceIte, Nat.reduceEqDiff, reduceCtorEq, or_true, true_or, and_self, Int32.reduceLT, Int32.reduceAdd, Int32.reduceSub, Int32.reduceToNatClampNeg, not_false_eq_true, not_true_eq_false, d1, d2, s1, k0, k2]
    exact hK h hC (MF_rf h)
  by_cases h2 : σ 0 0 = 0
  · simp only [d1, d2, s1, k0, k2, h2, if_true, if_false] at hK
    simp (decide := true) only [e91_0, e91_1, e91_2, e91_5, e91_6, e91_8, e91_11, e91_12, e91_15, e91_16, e91_19, e91_20, e91_21, e91_24, e91_26, e91_27, e91_28, e91_31, e91_34, e91_37, e91_39, e91_40, e91_41, e91_44, e91_45, e91_46, e91_49, e91_50, e91_51, e91_54, e91_55, e91_57, e91_58, e91_60, e91_62, e91_63, e91_66, e91_68, e91_71, e91_73, e91_74, e91_77, e91_78, e91_81, e91_83, e91_85, e91_86, e91_87, e91_88, e91_91, e91_94, e91_97, e91_98, e91_101, e91_102, e91_105, e91_106, e91_109, e91_112, e91_113, e91_114, e91_115, e91_118, e91_119, e91_120, e91_123, e91_126, e91_129, e91_131, m91, ok_11_1_11, fv13_1, ok_9_2_9, fv3_2, ok_11_2_11, fv13_2, ok_11_3_11, fv13_3, Kt_some, Kt_none, V_ite, g_if, g_ss, g_1, g_2, g_cn, g_iok, g_sok, g_bok, g_jok, g_qok, g_ivl, g_jvl, g_qvl, g_ist, g_bst, g_jst, g_qst, g_aln, g_isa, g_dl1, g_dl2, g_dl3, g_dl4, g_dl5, g_dd, g_rfs, g_rfn, p_sm0, p_sm1, p_sm2, p_sm3, p_sm4, true_and, and_true, if_true, if_false, ↓reduceIte, Nat.reduceEqDiff, reduceCtorEq, or_true, true_or, and_self, Int32.reduceLT, Int32.reduceAdd, Int32.reduceSub, Int32.reduceToNatClampNeg, not_false_eq_true, not_true_eq_false, d1, d2, s1, k0, k2, a1, a4, h2]
    exact hK h hC (MF_rf h)
  · simp only [d1, d2, s1, k0, k2, h2, if_true, if_false] at hK
    obtain ⟨n, ps, bt, sr, hI2⟩ := id hI
    obtain ⟨e2, -, -⟩ := IN_n hI2
    obtain ⟨⟨g1, g2, g3, -⟩, -, -, -, ⟨-, g4, -⟩, -⟩ := hI2
    have hn : 2 ≤ n := by
      rcases g2 with rfl | g2
      · exact absurd g1 h2
      · exact g2
    rw [e2] at hK
    obtain ⟨⟨f8, j8⟩, jr⟩ := id hJ
    obtain ⟨dn, hdn, rfl⟩ := nI_of (x := d) (fun q => d1 (Int32.lt_trans q (by decide)))
    have hd60 : dn ≤ 60 := Nat.not_lt.mp (fun q => d2 (nI_lt (a := 60) (b := dn) q (by omega)))
    rw [nI_c (a := dn) (by omega)] at hK
    have a4' := a4
    rw [g1] at a4'
    have hl := l91 (K := K) (l2 := some (.int s)) (l3 := some (.int k)) hd60 g3 (by omega) a1 a4' a5 a6 dn 0 (jn (σ 3) f8 4) s (by omega) (by unfold jn; rw [if_pos (by omega)]; exact g4 (by omega))
    obtain ⟨w1, w2⟩ := wk_jn (σ 1) (σ 2) n g3 dn (jn (σ 3) f8 4) (σ 3) s (fun i hi => by unfold jn; rw [if_pos hi])
    generalize hW : wk (σ 1) (σ 2) n dn (jn (σ 3) f8 4) s = W at hl w1 w2
    have hCR : CR σ (p_set h 8 (aI 4 W.1)) := by
      refine ⟨ad, ⟨?_, ?_, ?_, ?_, ?_, ?_, ?_⟩, ?_, ?_, ?_, ?_, ?_⟩
      · simp (decide := true) only [Kt_some, Kt_none, V_ite, g_if, g_ss, g_1, g_2, g_cn, g_iok, g_sok, g_bok, g_jok, g_qok, g_ivl, g_jvl, g_qvl, g_ist, g_bst, g_jst, g_qst, g_aln, g_isa, g_dl1, g_dl2, g_dl3, g_dl4, g_dl5, g_dd, g_rfs, g_rfn, p_sm0, p_sm1, p_sm2, p_sm3, p_sm4, true_and, and_true, if_true, if_false, ↓reduceIte, Nat.reduceEqDiff, reduceCtorEq, or_true, true_or, and_self, Int32.reduceLT, Int32.reduceAdd, Int32.reduceSub, Int32.reduceToNatClampNeg, not_false_eq_true, not_true_eq_false, a1]
      · simp (decide := true) only [Kt_some, Kt_none, V_ite, g_if, g_ss, g_1, g_2, g_cn, g_iok, g_sok, g_bok, g_jok, g_qok, g_ivl, g_jvl, g_qvl, g_ist, g_bst, g_jst, g_qst, g_aln, g_isa, g_dl1, g_dl2, g_dl3, g_dl4, g_dl5, g_dd, g_rfs, g_rfn, p_sm0, p_sm1, p_sm2, p_sm3, p_sm4, true_and, and_true, if_true, if_false, ↓reduceIte, Nat.reduceEqDiff, reduceCtorEq, or_true, true_or, and_self, Int32.reduceLT, Int32.reduceAdd, Int32.reduceSub, Int32.reduceToNatClampNeg, not_false_eq_true, not_true_eq_false, a2]
      · simp (decide := true) only [Kt_some, Kt_none, V_ite, g_if, g_ss, g_1, g_2, g_cn, g_iok, g_sok, g_bok, g_jok, g_qok, g_ivl, g_jvl, g_qvl, g_ist, g_bst, g_jst, g_qst, g_aln, g_isa, g_dl1, g_dl2, g_dl3, g_dl4, g_dl5, g_dd, g_rfs, g_rfn, p_sm0, p_sm1, p_sm2, p_sm3, p_sm4, true_and, and_true, if_true, if_false, ↓reduceIte, Nat.reduceEqDiff, reduceCtorEq, or_true, true_or, and_self, Int32.reduceLT, Int32.reduceAdd, Int32.reduceSub, Int32.reduceToNatClampNeg, not_false_eq_true, not_true_eq_false, a3]
      · simp (decide := true) only [Kt_some, Kt_none, V_ite, g_if, g_ss, g_1, g_2, g_cn, g_iok, g_sok, g_bok, g_jok, g_qok, g_ivl, g_jvl, g_qvl, g_ist, g_bst, g_jst, g_qst, g_aln, g_isa, g_dl1, g_dl2, g_dl3, g_dl4, g_dl5, g_dd, g_rfs, g_rfn, p_sm0, p_sm1, p_sm2, p_sm3, p_sm4, true_and, and_true, if_true, if_false, ↓reduceIte, Nat.reduceEqDiff, reduceCtorEq, or_true, true_or, and_self, Int32.reduceLT, Int32.reduceAdd, Int32.reduceSub, Int32.reduceToNatClampNeg, not_false_eq_true, not_true_eq_false, a4]
      · simp (decide := true) only [Kt_some, Kt_none, V_ite, g_if, g_ss, g_1, g_2, g_cn, g_iok, g_sok, g_bok, g_jok, g_qok, g_ivl, g_jvl, g_qvl, g_ist, g_bst, g_jst, g_qst, g_aln, g_isa, g_dl1, g_dl2, g_dl3, g_dl4, g_dl5, g_dd, g_rfs, g_rfn, p_sm0, p_sm1, p_sm2, p_sm3, p_sm4, true_and, and_true, if_true, if_false, ↓reduceIte, Nat.reduceEqDiff, reduceCtorEq, or_true, true_or, and_self, Int32.reduceLT, Int32.reduceAdd, Int32.reduceSub, Int32.reduceToNatClampNeg, not_false_eq_true, not_true_eq_false, a5]
      · simp (decide := true) only [Kt_some, Kt_none, V_ite, g_if, g_ss, g_1, g_2, g_cn, g_iok, g_sok, g_bok, g_jok, g_qok, g_ivl, g_jvl, g_qvl, g_ist, g_bst, g_jst, g_qst, g_aln, g_isa, g_dl1, g_dl2, g_dl3, g_dl4, g_dl5, g_dd, g_rfs, g_rfn, p_sm0, p_sm1, p_sm2, p_sm3, p_sm4, true_and, and_true, if_true, if_false, ↓reduceIte, Nat.reduceEqDiff, reduceCtorEq, or_true, true_or, and_self, Int32.reduceLT, Int32.reduceAdd, Int32.reduceSub, Int32.reduceToNatClampNeg, not_false_eq_true, not_true_eq_false, a6]
      · simp (decide := true) only [Kt_some, Kt_none, V_ite, g_if, g_ss, g_1, g_2, g_cn, g_iok, g_sok, g_bok, g_jok, g_qok, g_ivl, g_jvl, g_qvl, g_ist, g_bst, g_jst, g_qst, g_aln, g_isa, g_dl1, g_dl2, g_dl3, g_dl4, g_dl5, g_dd, g_rfs, g_rfn, p_sm0, p_sm1, p_sm2, p_sm3, p_sm4, true_and, and_true, if_true, if_false, ↓reduceIte, Nat.reduceEqDiff, reduceCtorEq, or_true, true_or, and_self, Int32.reduceLT, Int32.reduceAdd, Int32.reduceSub, Int32.reduceToNatClampNeg, not_false_eq_true, not_true_eq_false, a7]
      · (repeat' (first | exact hB | exact hM | exact hKp | exact hJ | exact hS | exact MF_rf _ | refine CB_st ?_ (by decide) (by decide) | refine CM_st ?_ (by decide) (by decide) | refine CK_st ?_ (by decide) | refine CJ_st ?_ (by decide) | refine CS_st ?_ (by decide) (by decide) (by decide) (by decide) | refine MF_st ?_ (by decide)))
      · (repeat' (first | exact hB | exact hM | exact hKp | exact hJ | exact hS | exact MF_rf _ | refine CB_st ?_ (by decide) (by decide) | refine CM_st ?_ (by decide) (by decide) | refine CK_st ?_ (by decide) | refine CJ_st ?_ (by decide) | refine CS_st ?_ (by decide) (by decide) (by decide) (by decide) | refine MF_st ?_ (by decide)))
      · (repeat' (first | exact hB | exact hM | exact hKp | exact hJ | exact hS | exact MF_rf _ | refine CB_st ?_ (by decide) (by decide) | refine CM_st ?_ (by decide) (by decide) | refine CK_st ?_ (by decide) | refine CJ_st ?_ (by decide) | refine CS_st ?_ (by decide) (by decide) (by decide) (by decide) | refine MF_st ?_ (by decide)))
      · obtain ⟨j2, j3, j4, j5, j6, j7, j8, j9, j10⟩ := jr
        refine ⟨⟨W.1, by simp (decide := true) only [Kt_some, Kt_none, V_ite, g_if, g_ss, g_1, g_2, g_cn, g_iok, g_sok, g_bok, g_jok, g_qok, g_ivl, g_jvl, g_qvl, g_ist, g_bst, g_jst, g_qst, g_aln, g_isa, g_dl1, g_dl2, g_dl3, g_dl4, g_dl5, g_dd, g_rfs, g_rfn, p_sm0, p_sm1, p_sm2, p_sm3, p_sm4, true_and, and_true, if_true, if_false, ↓reduceIte, Nat.reduceEqDiff, reduceCtorEq, or_true, true_or, and_self, Int32.reduceLT, Int32.reduceAdd, Int32.reduceSub, Int32.reduceToNatClampNeg, not_false_eq_true, not_true_eq_false]⟩, IA_st j2 (by decide), IZ_st j3 (by decide), IA_st j4 (by decide), IA_st j5 (by decide), by simp (decide := true) only [Kt_some, Kt_none, V_ite, g_if, g_ss, g_1, g_2, g_cn, g_iok, g_sok, g_bok, g_jok, g_qok, g_ivl, g_jvl, g_qvl, g_ist, g_bst, g_jst, g_qst, g_aln, g_isa, g_dl1, g_dl2, g_dl3, g_dl4, g_dl5, g_dd, g_rfs, g_rfn, p_sm0, p_sm1, p_sm2, p_sm3, p_sm4, true_and, and_true, if_true, if_false, ↓reduceIte, Nat.reduceEqDiff, reduceCtorEq, or_true, true_or, and_self, Int32.reduceLT, Int32.reduceAdd, Int32.reduceSub, Int32.reduceToNatClampNeg, not_false_eq_true, not_true_eq_false, j6], JA_st j7 (by decide), JA_st j8 (by decide), IA_st j9 (by decide), IA_st j10 (by decide)⟩
      · (repeat' (first | exact hB | exact hM | exact hKp | exact hJ | exact hS | exact MF_rf _ | refine CB_st ?_ (by decide) (by decide) | refine CM_st ?_ (by decide) (by decide) | refine CK_st ?_ (by decide) | refine CJ_st ?_ (by decide) | refine CS_st ?_ (by decide) (by decide) (by decide) (by decide) | refine MF_st ?_ (by decide)))
    have hMF : MF h (p_set h 8 (aI 4 W.1)) := MF_st (MF_rf h) (by decide)
    replace hK := hK _ hCR hMF
    have hA2 : CA σ (p_set h 8 (aI 4 W.1)) := by
      obtain ⟨ad2, q, -⟩ := hCR
      exact q
    have hB2 : CB σ ad (nt σ) (p_set h 8 (aI 4 W.1)) := CB_st hB (by decide) (by decide)
    have hsum := fun Q => c64 (Q := Q) (h := p_set h 8 (aI 4 W.1)) (s := 4) (r := 8) (p := 5) (q := 6) (f := W.1) (by simp (decide := true) only [Kt_some, Kt_none, V_ite, g_if, g_ss, g_1, g_2, g_cn, g_iok, g_sok, g_bok, g_jok, g_qok, g_ivl, g_jvl, g_qvl, g_ist, g_bst, g_jst, g_qst, g_aln, g_isa, g_dl1, g_dl2, g_dl3, g_dl4, g_dl5, g_dd, g_rfs, g_rfn, p_sm0, p_sm1, p_sm2, p_sm3, p_sm4, true_and, and_true, if_true, if_false, ↓reduceIte, Nat.reduceEqDiff, reduceCtorEq, or_true, true_or, and_self, Int32.reduceLT, Int32.reduceAdd, Int32.reduceSub, Int32.reduceToNatClampNeg, not_false_eq_true, not_true_eq_false, a4']) (by simp (decide := true) only [Kt_some, Kt_none, V_ite, g_if, g_ss, g_1, g_2, g_cn, g_iok, g_sok, g_bok, g_jok, g_qok, g_ivl, g_jvl, g_qvl, g_ist, g_bst, g_jst, g_qst, g_aln, g_isa, g_dl1, g_dl2, g_dl3, g_dl4, g_dl5, g_dd, g_rfs, g_rfn, p_sm0, p_sm1, p_sm2, p_sm3, p_sm4, true_and, and_true, if_true, if_false, ↓reduceIte, Nat.reduceEqDiff, reduceCtorEq, or_true, true_or, and_self, Int32.reduceLT, Int32.reduceAdd, Int32.reduceSub, Int32.reduceToNatClampNeg, not_false_eq_true, not_true_eq_false]) g3
    have haf := fun Q => c104 (K := Q) (w := W.1) hI hA2 hB2 (by simp (decide := true) only [Kt_some, Kt_none, V_ite, g_if, g_ss, g_1, g_2, g_cn, g_iok, g_sok, g_bok, g_jok, g_qok, g_ivl, g_jvl, g_qvl, g_ist, g_bst, g_jst, g_qst, g_aln, g_isa, g_dl1, g_dl2, g_dl3, g_dl4, g_dl5, g_dd, g_rfs, g_rfn, p_sm0, p_sm1, p_sm2, p_sm3, p_sm4, true_and, and_true, if_true, if_false, ↓reduceIte, Nat.reduceEqDiff, reduceCtorEq, or_true, true_or, and_self, Int32.reduceLT, Int32.reduceAdd, Int32.reduceSub, Int32.reduceToNatClampNeg, not_false_eq_true, not_true_eq_false])
    rw [sa_c _ _ n g3 w2] at hsum
    have hfo : af (fo σ W.1) (nt σ) 0 0 = af (fo σ (wk (σ 1) (σ 2) n dn (σ 3) s).1) (nt σ) 0 0 := by
      refine af_c _ _ _ _ _ (fun j _ hj => ?_)
      obtain ⟨n2, m, q1, q2, q3, q4, q5, q6, -⟩ := pl_in hI (show j < nt σ by omega)
      unfold fo
      rw [q6, w2 m (by omega)]
    rw [hfo] at haf
    rw [w1] at hl
    simp only [k_ite] at hK
    rw [show nI 0 = (0 : Int32) from rfl] at hl
    by_cases kk0 : k = 0
    · subst kk0
      simp only [if_true] at hK
      simp (decide := true) only [e91_0, e91_1, e91_2, e91_5, e91_6, e91_8, e91_11, e91_12, e91_15, e91_16, e91_19, e91_20, e91_21, e91_24, e91_26, e91_27, e91_28, e91_31, e91_34, e91_37, e91_39, e91_40, e91_41, e91_44, e91_45, e91_46, e91_49, e91_50, e91_51, e91_54, e91_55, e91_57, e91_58, e91_62, e91_63, e91_66, e91_68, e91_71, e91_73, e91_74, e91_77, e91_78, e91_81, e91_83, e91_85, e91_86, e91_87, e91_88, e91_91, e91_94, e91_98, e91_101, e91_102, e91_105, e91_106, e91_109, e91_112, e91_113, e91_114, e91_115, e91_118, e91_119, e91_120, e91_123, e91_126, e91_129, e91_131, m91, ok_11_1_11, fv13_1, ok_9_2_9, fv3_2, ok_11_2_11, fv13_2, ok_11_3_11, fv13_3, Kt_some, Kt_none, V_ite, g_if, g_ss, g_1, g_2, g_cn, g_iok, g_sok, g_bok, g_jok, g_qok, g_ivl, g_jvl, g_qvl, g_ist, g_bst, g_jst, g_qst, g_aln, g_isa, g_dl1, g_dl2, g_dl3, g_dl4, g_dl5, g_dd, g_rfs, g_rfn, p_sm0, p_sm1, p_sm2, p_sm3, p_sm4, true_and, and_true, if_true, if_false, ↓reduceIte, Nat.reduceEqDiff, reduceCtorEq, or_true, true_or, and_self, Int32.reduceLT, Int32.reduceAdd, Int32.reduceSub, Int32.reduceToNatClampNeg, not_false_eq_true, not_true_eq_false, d1, d2, s1, a1, a4, a7, h2, j8, p_aci, p_acv, cpy_0, show (4 : Int32).toNatClampNeg = 4 from rfl, Nat.zero_add, Nat.le_refl, jn_e]
      refine (iff_of_eq hl).mpr ?_
      simp (decide := true) only [e91_0, e91_1, e91_2, e91_5, e91_6, e91_8, e91_11, e91_12, e91_15, e91_16, e91_19, e91_20, e91_21, e91_24, e91_26, e91_27, e91_28, e91_31, e91_34, e91_37, e91_39, e91_40, e91_41, e91_44, e91_45, e91_46, e91_49, e91_50, e91_51, e91_54, e91_55, e91_57, e91_58, e91_62, e91_63, e91_66, e91_68, e91_71, e91_73, e91_74, e91_77, e91_78, e91_81, e91_83, e91_85, e91_86, e91_87, e91_88, e91_91, e91_94, e91_97, e91_98, e91_101, e91_102, e91_105, e91_106, e91_109, e91_112, e91_113, e91_114, e91_115, e91_118, e91_119, e91_120, e91_123, e91_126, e91_129, e91_131, m91, ok_11_1_11, fv13_1, ok_9_2_9, fv3_2, ok_11_2_11, fv13_2, ok_11_3_11, fv13_3, Kt_some, Kt_none, V_ite, g_if, g_ss, g_1, g_2, g_cn, g_iok, g_sok, g_bok, g_jok, g_qok, g_ivl, g_jvl, g_qvl, g_ist, g_bst, g_jst, g_qst, g_aln, g_isa, g_dl1, g_dl2, g_dl3, g_dl4, g_dl5, g_dd, g_rfs, g_rfn, p_sm0, p_sm1, p_sm2, p_sm3, p_sm4, true_and, and_true, if_true, if_false, ↓reduceIte, Nat.reduceEqDiff, reduceCtorEq, or_true, true_or, and_self, Int32.reduceLT, Int32.reduceAdd, Int32.reduceSub, Int32.reduceToNatClampNeg, not_false_eq_true, not_true_eq_false, a1, a4, hsum]
      exact hK
    · by_cases kk1 : k = 1
      · subst kk1
        simp (decide := true) only [if_true, if_false] at hK
        simp (decide := true) only [e91_0, e91_1, e91_2, e91_5, e91_6, e91_8, e91_11, e91_12, e91_15, e91_16, e91_19, e91_20, e91_21, e91_24, e91_26, e91_27, e91_28, e91_31, e91_34, e91_37, e91_39, e91_40, e91_41, e91_44, e91_45, e91_46, e91_49, e91_50, e91_51, e91_54, e91_55, e91_57, e91_58, e91_62, e91_63, e91_66, e91_68, e91_71, e91_73, e91_74, e91_77, e91_78, e91_81, e91_83, e91_85, e91_86, e91_87, e91_88, e91_91, e91_94, e91_98, e91_101, e91_102, e91_105, e91_106, e91_109, e91_112, e91_113, e91_114, e91_115, e91_118, e91_119, e91_120, e91_123, e91_126, e91_129, e91_131, m91, ok_11_1_11, fv13_1, ok_9_2_9, fv3_2, ok_11_2_11, fv13_2, ok_11_3_11, fv13_3, Kt_some, Kt_none, V_ite, g_if, g_ss, g_1, g_2, g_cn, g_iok, g_sok, g_bok, g_jok, g_qok, g_ivl, g_jvl, g_qvl, g_ist, g_bst, g_jst, g_qst, g_aln, g_isa, g_dl1, g_dl2, g_dl3, g_dl4, g_dl5, g_dd, g_rfs, g_rfn, p_sm0, p_sm1, p_sm2, p_sm3, p_sm4, true_and, and_true, if_true, if_false, ↓reduceIte, Nat.reduceEqDiff, reduceCtorEq, or_true, true_or, and_self, Int32.reduceLT, Int32.reduceAdd, Int32.reduceSub, Int32.reduceToNatClampNeg, not_false_eq_true, not_true_eq_false, d1, d2, s1, a1, a4, a7, h2, j8, p_aci, p_acv, cpy_0, show (4 : Int32).toNatClampNeg = 4 from rfl, Nat.zero_add, Nat.le_refl, jn_e]
        refine (iff_of_eq hl).mpr ?_
        simp (decide := true) only [e91_0, e91_1, e91_2, e91_5, e91_6, e91_8, e91_11, e91_12, e91_15, e91_16, e91_19, e91_20, e91_21, e91_24, e91_26, e91_27, e91_28, e91_31, e91_34, e91_37, e91_39, e91_40, e91_41, e91_44, e91_45, e91_46, e91_49, e91_50, e91_51, e91_54, e91_55, e91_57, e91_58, e91_62, e91_63, e91_66, e91_68, e91_71, e91_73, e91_74, e91_77, e91_78, e91_81, e91_83, e91_85, e91_86, e91_87, e91_88, e91_91, e91_94, e91_97, e91_98, e91_101, e91_102, e91_105, e91_106, e91_109, e91_112, e91_113, e91_114, e91_115, e91_118, e91_119, e91_120, e91_123, e91_126, e91_129, e91_131, m91, ok_11_1_11, fv13_1, ok_9_2_9, fv3_2, ok_11_2_11, fv13_2, ok_11_3_11, fv13_3, Kt_some, Kt_none, V_ite, g_if, g_ss, g_1, g_2, g_cn, g_iok, g_sok, g_bok, g_jok, g_qok, g_ivl, g_jvl, g_qvl, g_ist, g_bst, g_jst, g_qst, g_aln, g_isa, g_dl1, g_dl2, g_dl3, g_dl4, g_dl5, g_dd, g_rfs, g_rfn, p_sm0, p_sm1, p_sm2, p_sm3, p_sm4, true_and, and_true, if_true, if_false, ↓reduceIte, Nat.reduceEqDiff, reduceCtorEq, or_true, true_or, and_self, Int32.reduceLT, Int32.reduceAdd, Int32.reduceSub, Int32.reduceToNatClampNeg, not_false_eq_true, not_true_eq_false, a1, a4, haf]
        exact hK
      · simp only [kk0, kk1, if_false] at hK
        simp (decide := true) only [e91_0, e91_1, e91_2, e91_5, e91_6, e91_8, e91_11, e91_12, e91_15, e91_16, e91_19, e91_20, e91_21, e91_24, e91_26, e91_27, e91_28, e91_31, e91_34, e91_37, e91_39, e91_40, e91_41, e91_44, e91_45, e91_46, e91_49, e91_50, e91_51, e91_54, e91_55, e91_57, e91_58, e91_62, e91_63, e91_66, e91_68, e91_71, e91_73, e91_74, e91_77, e91_78, e91_81, e91_83, e91_85, e91_86, e91_87, e91_88, e91_91, e91_94, e91_98, e91_101, e91_102, e91_105, e91_106, e91_109, e91_112, e91_113, e91_114, e91_115, e91_118, e91_119, e91_120, e91_123, e91_126, e91_129, e91_131, m91, ok_11_1_11, fv13_1, ok_9_2_9, fv3_2, ok_11_2_11, fv13_2, ok_11_3_11, fv13_3, Kt_some, Kt_none, V_ite, g_if, g_ss, g_1, g_2, g_cn, g_iok, g_sok, g_bok, g_jok, g_qok, g_ivl, g_jvl, g_qvl, g_ist, g_bst, g_jst, g_qst, g_aln, g_isa, g_dl1, g_dl2, g_dl3, g_dl4, g_dl5, g_dd, g_rfs, g_rfn, p_sm0, p_sm1, p_sm2, p_sm3, p_sm4, true_and, and_true, if_true, if_false, ↓reduceIte, Nat.reduceEqDiff, reduceCtorEq, or_true, true_or, and_self, Int32.reduceLT, Int32.reduceAdd, Int32.reduceSub, Int32.reduceToNatClampNeg, not_false_eq_true, not_true_eq_false, d1, d2, s1, k0, k2, a1, a4, a7, h2, j8, p_aci, p_acv, cpy_0, show (4 : Int32).toNatClampNeg = 4 from rfl, Nat.zero_add, Nat.le_refl, jn_e]
        refine (iff_of_eq hl).mpr ?_
        simp (decide := true) only [e91_0, e91_1, e91_2, e91_5, e91_6, e91_8, e91_11, e91_12, e91_15, e91_16, e91_19, e91_20, e91_21, e91_24, e91_26, e91_27, e91_28, e91_31, e91_34, e91_37, e91_39, e91_40, e91_41, e91_44, e91_45, e91_46, e91_49, e91_50, e91_51, e91_54, e91_55, e91_57, e91_58, e91_62, e91_63, e91_66, e91_68, e91_71, e91_73, e91_74, e91_77, e91_78, e91_81, e91_83, e91_85, e91_86, e91_87, e91_88, e91_91, e91_94, e91_97, e91_98, e91_101, e91_102, e91_105, e91_106, e91_109, e91_112, e91_113, e91_114, e91_115, e91_118, e91_119, e91_120, e91_123, e91_126, e91_129, e91_131, m91, ok_11_1_11, fv13_1, ok_9_2_9, fv3_2, ok_11_2_11, fv13_2, ok_11_3_11, fv13_3, Kt_some, Kt_none, V_ite, g_if, g_ss, g_1, g_2, g_cn, g_iok, g_sok, g_bok, g_jok, g_qok, g_ivl, g_jvl, g_qvl, g_ist, g_bst, g_jst, g_qst, g_aln, g_isa, g_dl1, g_dl2, g_dl3, g_dl4, g_dl5, g_dd, g_rfs, g_rfn, p_sm0, p_sm1, p_sm2, p_sm3, p_sm4, true_and, and_true, if_true, if_false, ↓reduceIte, Nat.reduceEqDiff, reduceCtorEq, or_true, true_or, and_self, Int32.reduceLT, Int32.reduceAdd, Int32.reduceSub, Int32.reduceToNatClampNeg, not_false_eq_true, not_true_eq_false, a1, a4, kk0, kk1]
        exact hK
end S26
