theorem Vm_eq {z : Nat} {as : List Value} {h h2 : pH} {r : Option Value} (H : ∀ K : Option Value → pH → Prop, K r h2 → Vm z as h K) (K : Option Value → pH → Prop) : Vm z as h K = K r h2 := by
  apply propext
  constructor
  · rintro ⟨n, v, h1, e, q⟩
    obtain ⟨n2, v2, h3, e2, rfl, rfl⟩ := H (fun v h3 => v = r ∧ h3 = h2) ⟨rfl, rfl⟩
    have a := p_mono3 e (Nat.le_add_right n n2)
    have b := p_mono3 e2 (Nat.le_add_left n2 n)
    rw [a] at b
    cases b
    exact q
  · exact H K
section S32
variable {σ : pS} {h : pH} {K Q : Option Value → pH → Prop} {ad : Nat → Nat}
theorem r_basin {b k : Int32} (hC : CR σ h) (hI : IV σ) (K : Option Value → pH → Prop) : Vm 73 [.ref 1, .int b, .int k] h K = K (some (.int (f_basin σ b k).1)) h := Vm_eq (fun _ hK => q_basin hC hI hK) K
theorem r_about {b k : Int32} (hC : CR σ h) (hI : IV σ) (K : Option Value → pH → Prop) : Vm 75 [.ref 1, .int b, .int k] h K = K (some (.int (f_about σ b k).1)) h := Vm_eq (fun _ hK => q_about hC hI hK) K
theorem r_lacks {b : Int32} (hC : CR σ h) (hI : IV σ) (K : Option Value → pH → Prop) : Vm 83 [.ref 1, .int b] h K = K (some (.int (f_lacks σ b).1)) h := Vm_eq (fun _ hK => q_lacks hC hI hK) K
theorem r_lasts {b : Int32} (hC : CR σ h) (hI : IV σ) (K : Option Value → pH → Prop) : Vm 84 [.ref 1, .int b] h K = K (some (.int (f_lasts σ b).1)) h := Vm_eq (fun _ hK => q_lasts hC hI hK) K
theorem r_lined {b : Int32} (hC : CR σ h) (hI : IV σ) (K : Option Value → pH → Prop) : Vm 85 [.ref 1, .int b] h K = K (some (.int (f_lined σ b).1)) h := Vm_eq (fun _ hK => q_lined hC hI hK) K
theorem r_count {b : Int32} (hC : CR σ h) (hI : IV σ) (K : Option Value → pH → Prop) : Vm 94 [.ref 1, .int b] h K = K (some (.int (f_count σ b).1)) h := Vm_eq (fun _ hK => q_count hC hI hK) K
def dg (u : Int64) (x : Int32) : Int64 := 31 * u + x.toInt64
theorem dg_e (u : Int64) (x : Int32) : 31 * u + x.toInt64 = dg u x := rfl
def ds (σ : pS) : Nat → Nat → Int64 → Int64
  | 0, _, u => u
  | d + 1, i, u => ds σ d (i + 1) (dg (dg (dg (dg u (f_basin σ (nI i) 0).1) (f_basin σ (nI i) 1).1) (f_basin σ (nI i) 2).1) (f_lasts σ (nI i)).1)
def de (σ : pS) : Nat → Nat → Int64 → Int64
  | 0, _, u => u
  | d + 1, i, u => de σ d (i + 1) (dg (dg (dg (dg (dg (dg (dg (dg (dg u (f_about σ (nI i) 0).1) (f_about σ (nI i) 1).1) (f_about σ (nI i) 2).1) (f_about σ (nI i) 3).1) (f_about σ (nI i) 4).1) (f_about σ (nI i) 5).1) (f_about σ (nI i) 6).1) (f_about σ (nI i) 7).1) (f_lacks σ (nI i)).1)
def df (f : Nat → Int32) : Nat → Nat → Int64 → Int64
  | 0, _, u => u
  | d + 1, i, u => df f d (i + 1) (dg u (f i))
theorem l96 {n : Nat} {l1 l2 : Option Value} (hC : CR σ h) (hI : IV σ) (h00 : σ 0 0 = nI n) (hn : n ≤ 4) : ∀ (d i : Nat) (u : Int64) (l6 : Option Value), i + d = n → V 96 5 [some (.ref 1), l1, p_dl l2, some (.long u), none, some (.int (nI i)), l6] [] h K = K (some (.long (ds σ d i u))) h := by
  obtain ⟨ad, ⟨a1, a2, a3, a4, a5, a6, a7⟩, hB, hM, hKp, hJ, hS⟩ := id hC
  intro d
  induction d with
  | zero =>
    intro i u l6 hi
    have e1 : (nI i < σ 0 0) = False := by rw [h00]; exact nI_F (by omega) (by omega)
    rw [e96_5]
    simp (decide := true) only [e96_0, e96_1, e96_2, e96_3, e96_7, e96_8, e96_11, e96_14, e96_17, e96_18, e96_20, e96_22, e96_23, e96_26, e96_29, e96_30, e96_31, e96_32, e96_34, e96_36, e96_39, e96_40, e96_41, e96_42, e96_45, e96_48, e96_51, e96_52, e96_53, e96_54, e96_56, e96_59, e96_60, e96_61, e96_62, e96_65, e96_68, e96_69, m96, ok_11_1_11, fv13_1, ok_9_2_9, fv3_2, Kt_some, Kt_none, V_ite, g_if, g_ss, g_1, g_2, g_cn, g_iok, g_sok, g_bok, g_jok, g_qok, g_ivl, g_jvl, g_qvl, g_ist, g_bst, g_jst, g_qst, g_aln, g_isa, g_dl1, g_dl2, g_dl3, g_dl4, g_dl5, g_dd, g_rfs, g_rfn, p_sm0, p_sm1, p_sm2, p_sm3, p_sm4, true_and, and_true, if_true, if_false, ↓reduceIte, Nat.reduceEqDiff, reduceCtorEq, or_true, true_or, and_self, Int32.reduceLT, Int32.reduceAdd, Int32.reduceSub, Int32.reduceToNatClampNeg, not_false_eq_true, not_true_eq_false, a1, a4, e1, ds]
  | succ d ih =>
    intro i u l6 hi
    have e1 : (nI i < σ 0 0) = True := by rw [h00]; exact nI_T (by omega) (by omega)
    rw [e96_5]
    simp (decide := true) only [e96_0, e96_1, e96_2, e96_3, e96_7, e96_8, e96_11, e96_14, e96_17, e96_18, e96_20, e96_22, e96_23, e96_26, e96_29, e96_30, e96_31, e96_32, e96_34, e96_36, e96_39, e96_40, e96_41, e96_42, e96_45, e96_48, e96_51, e96_52, e96_53, e96_54, e96_56, e96_59, e96_60, e96_61, e96_62, e96_65, e96_68, e96_69, m96, ok_11_1_11, fv13_1, ok_9_2_9, fv3_2, Kt_some, Kt_none, V_ite, g_if, g_ss, g_1, g_2, g_cn, g_iok, g_sok, g_bok, g_jok, g_qok, g_ivl, g_jvl, g_qvl, g_ist, g_bst, g_jst, g_qst, g_aln, g_isa, g_dl1, g_dl2, g_dl3, g_dl4, g_dl5, g_dd, g_rfs, g_rfn, p_sm0, p_sm1, p_sm2, p_sm3, p_sm4, true_and, and_true, if_true, if_false, ↓reduceIte, Nat.reduceEqDiff, reduceCtorEq, or_true, true_or, and_self, Int32.reduceLT, Int32.reduceAdd, Int32.reduceSub, Int32.reduceToNatClampNeg, not_false_eq_true, not_true_eq_false, a1, a4, e1, r_basin hC hI, r_lasts hC hI, dg_e, nI_1]
    exact ih (i + 1) _ _ (by omega)
theorem c96 {u : Int64} (hC : CR σ h) (hI : IV σ) (K : Option Value → pH → Prop) : Vm 96 [.ref 1, .long u] h K = K (some (.long (ds σ (nn σ) 0 u))) h := by
  obtain ⟨n, ps, bt, sr, hI2⟩ := id hI
  obtain ⟨e2, -, -⟩ := IN_n hI2
  obtain ⟨⟨g1, g2, g3, -⟩, -⟩ := hI2
  have := l96 (K := K) (l1 := some (.long u)) (l2 := none) hC hI g1 g3 n 0 u none (by omega)
  rw [e2]
  simp (decide := true) only [e96_0, e96_1, e96_2, e96_3, e96_7, e96_8, e96_11, e96_14, e96_17, e96_18, e96_20, e96_22, e96_23, e96_26, e96_29, e96_30, e96_31, e96_32, e96_34, e96_36, e96_39, e96_40, e96_41, e96_42, e96_45, e96_48, e96_51, e96_52, e96_53, e96_54, e96_56, e96_59, e96_60, e96_61, e96_62, e96_65, e96_68, e96_69, m96, ok_11_1_11, fv13_1, ok_9_2_9, fv3_2, Kt_some, Kt_none, V_ite, g_if, g_ss, g_1, g_2, g_cn, g_iok, g_sok, g_bok, g_jok, g_qok, g_ivl, g_jvl, g_qvl, g_ist, g_bst, g_jst, g_qst, g_aln, g_isa, g_dl1, g_dl2, g_dl3, g_dl4, g_dl5, g_dd, g_rfs, g_rfn, p_sm0, p_sm1, p_sm2, p_sm3, p_sm4, true_and, and_true, if_true, if_false, ↓reduceIte, Nat.reduceEqDiff, reduceCtorEq, or_true, true_or, and_self, Int32.reduceLT, Int32.reduceAdd, Int32.reduceSub, Int32.reduceToNatClampNeg, not_false_eq_true, not_true_eq_false]
  exact this
theorem l97 {n : Nat} {l1 l2 : Option Value} (hC : CR σ h) (hI : IV σ) (h02 : σ 0 2 = nI n) (hn : n ≤ 5) : ∀ (d i : Nat) (u : Int64) (l6 : Option Value), i + d = n → V 97 5 [some (.ref 1), l1, p_dl l2, some (.long u), none, some (.int (nI i)), l6] [] h K = K (some (.long (de σ d i u))) h := by
  obtain ⟨ad, ⟨a1, a2, a3, a4, a5, a6, a7⟩, hB, hM, hKp, hJ, hS⟩ := id hC
  intro d
  induction d with
  | zero =>
    intro i u l6 hi
    have e1 : (nI i < σ 0 2) = False := by rw [h02]; exact nI_F (by omega) (by omega)
    rw [e97_5]
    simp (decide := true) only [e97_0, e97_1, e97_2, e97_3, e97_7, e97_8, e97_11, e97_14, e97_15, e97_17, e97_19, e97_21, e97_24, e97_27, e97_28, e97_29, e97_30, e97_32, e97_34, e97_37, e97_38, e97_39, e97_40, e97_43, e97_46, e97_49, e97_50, e97_51, e97_52, e97_54, e97_57, e97_58, e97_59, e97_60, e97_63, e97_66, e97_67, m97, ok_11_9_11, fv13_9, Kt_some, Kt_none, V_ite, g_if, g_ss, g_1, g_2, g_cn, g_iok, g_sok, g_bok, g_jok, g_qok, g_ivl, g_jvl, g_qvl, g_ist, g_bst, g_jst, g_qst, g_aln, g_isa, g_dl1, g_dl2, g_dl3, g_dl4, g_dl5, g_dd, g_rfs, g_rfn, p_sm0, p_sm1, p_sm2, p_sm3, p_sm4, true_and, and_true, if_true, if_false, ↓reduceIte, Nat.reduceEqDiff, reduceCtorEq, or_true, true_or, and_self, Int32.reduceLT, Int32.reduceAdd, Int32.reduceSub, Int32.reduceToNatClampNeg, not_false_eq_true, not_true_eq_false, a1, e1, de]
  | succ d ih =>
    intro i u l6 hi
    have e1 : (nI i < σ 0 2) = True := by rw [h02]; exact nI_T (by omega) (by omega)
    rw [e97_5]
    simp (decide := true) only [e97_0, e97_1, e97_2, e97_3, e97_7, e97_8, e97_11, e97_14, e97_15, e97_17, e97_19, e97_21, e97_24, e97_27, e97_28, e97_29, e97_30, e97_32, e97_34, e97_37, e97_38, e97_39, e97_40, e97_43, e97_46, e97_49, e97_50, e97_51, e97_52, e97_54, e97_57, e97_58, e97_59, e97_60, e97_63, e97_66, e97_67, m97, ok_11_9_11, fv13_9, Kt_some, Kt_none, V_ite, g_if, g_ss, g_1, g_2, g_cn, g_iok, g_sok, g_bok, g_jok, g_qok, g_ivl, g_jvl, g_qvl, g_ist, g_bst, g_jst, g_qst, g_aln, g_isa, g_dl1, g_dl2, g_dl3, g_dl4, g_dl5, g_dd, g_rfs, g_rfn, p_sm0, p_sm1, p_sm2, p_sm3, p_sm4, true_and, and_true, if_true, if_false, ↓reduceIte, Nat.reduceEqDiff, reduceCtorEq, or_true, true_or, and_self, Int32.reduceLT, Int32.reduceAdd, Int32.reduceSub, Int32.reduceToNatClampNeg, not_false_eq_true, not_true_eq_false, a1, e1, r_about hC hI, r_lacks hC hI, dg_e, nI_1]
    exact ih (i + 1) _ _ (by omega)
theorem c97 {u : Int64} (hC : CR σ h) (hI : IV σ) (K : Option Value → pH → Prop) : Vm 97 [.ref 1, .long u] h K = K (some (.long (de σ (nt σ) 0 u))) h := by
  obtain ⟨n, ps, bt, sr, hI2⟩ := id hI
  obtain ⟨-, -, e5⟩ := IN_n hI2
  obtain ⟨⟨-, -, -, -, -, e4, e6, -⟩, -⟩ := hI2
  have := l97 (K := K) (l1 := some (.long u)) (l2 := none) hC hI e4 e6 bt 0 u none (by omega)
  rw [e5]
  simp (decide := true) only [e97_0, e97_1, e97_2, e97_3, e97_7, e97_8, e97_11, e97_14, e97_15, e97_17, e97_19, e97_21, e97_24, e97_27, e97_28, e97_29, e97_30, e97_32, e97_34, e97_37, e97_38, e97_39, e97_40, e97_43, e97_46, e97_49, e97_50, e97_51, e97_52, e97_54, e97_57, e97_58, e97_59, e97_60, e97_63, e97_66, e97_67, m97, ok_11_9_11, fv13_9, Kt_some, Kt_none, V_ite, g_if, g_ss, g_1, g_2, g_cn, g_iok, g_sok, g_bok, g_jok, g_qok, g_ivl, g_jvl, g_qvl, g_ist, g_bst, g_jst, g_qst, g_aln, g_isa, g_dl1, g_dl2, g_dl3, g_dl4, g_dl5, g_dd, g_rfs, g_rfn, p_sm0, p_sm1, p_sm2, p_sm3, p_sm4, true_and, and_true, if_true, if_false, ↓reduceIte, Nat.reduceEqDiff, reduceCtorEq, or_true, true_or, and_self, Int32.reduceLT, Int32.reduceAdd, Int32.reduceSub, Int32.reduceToNatClampNeg, not_false_eq_true, not_true_eq_false]
  exact this
theorem l95a {n : Nat} (hC : CR σ h) (h08 : σ 0 8 = nI n) (hn : n ≤ 7) : ∀ (d i : Nat) (u : Int64), i + d = n → V 95 39 [some (.ref 1), some (.long u), none, some (.int (nI i))] [] h K = V 95 73 [some (.ref 1), some (.long (df (σ 10) d i u)), none, some (.int (nI n))] [] h K := by
  obtain ⟨ad, ⟨a1, a2, a3, a4, a5, a6, a7⟩, hB, ⟨⟨cs, m1⟩, m2⟩, hKp, hJ, hS⟩ := id hC
  intro d
  induction d with
  | zero =>
    intro i u hi
    have e2 : i = n := by omega
    subst e2
    have e1 : (nI i < σ 0 8) = False := by rw [h08]; exact nI_F (by omega) (by omega)
    rw [e95_39]
    simp (decide := true) only [e95_0, e95_1, e95_4, e95_7, e95_8, e95_9, e95_10, e95_13, e95_14, e95_15, e95_18, e95_21, e95_24, e95_27, e95_28, e95_29, e95_30, e95_31, e95_34, e95_35, e95_36, e95_37, e95_38, e95_40, e95_41, e95_44, e95_47, e95_50, e95_53, e95_54, e95_55, e95_56, e95_59, e95_62, e95_63, e95_64, e95_65, e95_66, e95_67, e95_70, e95_74, e95_77, e95_80, e95_83, e95_86, e95_87, e95_88, e95_89, e95_92, e95_93, e95_94, e95_95, e95_96, e95_97, e95_98, e95_99, e95_102, e95_105, e95_108, e95_111, e95_112, e95_113, e95_114, e95_117, e95_120, e95_121, e95_122, e95_123, e95_124, e95_125, e95_128, e95_131, e95_132, e95_133, e95_134, e95_136, e95_139, e95_142, e95_143, e95_144, e95_145, e95_146, e95_149, e95_150, e95_151, e95_152, e95_155, e95_158, e95_159, m95, ok_11_1_11, fv13_1, ok_9_2_9, fv3_2, ok_11_5_11, fv13_5, ok_4_1_4, fv9_1, ok_4_0_4, fv9_0, ok_11_0_11, fv13_0, ok_6_1_6, fv2_1, ok_6_0_6, fv2_0, Kt_some, Kt_none, V_ite, g_if, g_ss, g_1, g_2, g_cn, g_iok, g_sok, g_bok, g_jok, g_qok, g_ivl, g_jvl, g_qvl, g_ist, g_bst, g_jst, g_qst, g_aln, g_isa, g_dl1, g_dl2, g_dl3, g_dl4, g_dl5, g_dd, g_rfs, g_rfn, p_sm0, p_sm1, p_sm2, p_sm3, p_sm4, true_and, and_true, if_true, if_false, ↓reduceIte, Nat.reduceEqDiff, reduceCtorEq, or_true, true_or, and_self, Int32.reduceLT, Int32.reduceAdd, Int32.reduceSub, Int32.reduceToNatClampNeg, not_false_eq_true, not_true_eq_false, a1, m1, e1, df]
  | succ d ih =>
    intro i u hi
    have e1 : (nI i < σ 0 8) = True := by rw [h08]; exact nI_T (by omega) (by omega)
    have v3 := vp_T (show i < 7 by omega) (by omega)
    have c3 := nI_c (a := i) (by omega)
    rw [e95_39]
    simp (decide := true) only [e95_0, e95_1, e95_4, e95_7, e95_8, e95_9, e95_10, e95_13, e95_14, e95_15, e95_18, e95_21, e95_24, e95_27, e95_28, e95_29, e95_30, e95_31, e95_34, e95_35, e95_36, e95_37, e95_38, e95_40, e95_41, e95_44, e95_47, e95_50, e95_53, e95_54, e95_55, e95_56, e95_59, e95_62, e95_63, e95_64, e95_65, e95_66, e95_67, e95_70, e95_74, e95_77, e95_80, e95_83, e95_86, e95_87, e95_88, e95_89, e95_92, e95_93, e95_94, e95_95, e95_96, e95_97, e95_98, e95_99, e95_102, e95_105, e95_108, e95_111, e95_112, e95_113, e95_114, e95_117, e95_120, e95_121, e95_122, e95_123, e95_124, e95_125, e95_128, e95_131, e95_132, e95_133, e95_134, e95_136, e95_139, e95_142, e95_143, e95_144, e95_145, e95_146, e95_149, e95_150, e95_151, e95_152, e95_155, e95_158, e95_159, m95, ok_11_1_11, fv13_1, ok_9_2_9, fv3_2, ok_11_5_11, fv13_5, ok_4_1_4, fv9_1, ok_4_0_4, fv9_0, ok_11_0_11, fv13_0, ok_6_1_6, fv2_1, ok_6_0_6, fv2_0, Kt_some, Kt_none, V_ite, g_if, g_ss, g_1, g_2, g_cn, g_iok, g_sok, g_bok, g_jok, g_qok, g_ivl, g_jvl, g_qvl, g_ist, g_bst, g_jst, g_qst, g_aln, g_isa, g_dl1, g_dl2, g_dl3, g_dl4, g_dl5, g_dd, g_rfs, g_rfn, p_sm0, p_sm1, p_sm2, p_sm3, p_sm4, true_and, and_true, if_true, if_false, ↓reduceIte, Nat.reduceEqDiff, reduceCtorEq, or_true, true_or, and_self, Int32.reduceLT, Int32.reduceAdd, Int32.reduceSub, Int32.reduceToNatClampNeg, not_false_eq_true, not_true_eq_false, a1, m1, m2, e1, v3, c3, dg_e, nI_1]
    exact ih (i + 1) _ (by omega)
theorem l95b {n : Nat} (hC : CR σ h) (h01 : σ 0 1 = nI n) (hn : n ≤ 14) : ∀ (d i : Nat) (u : Int64), i + d = n → V 95 97 [some (.ref 1), some (.long u), none, some (.int (nI i))] [] h K = V 95 131 [some (.ref 1), some (.long (df (σ 4) d i u)), none, some (.int (nI n))] [] h K := by
  obtain ⟨ad, ⟨a1, a2, a3, a4, a5, a6, a7⟩, hB, ⟨⟨cs, m1⟩, m2⟩, hKp, hJ, hS⟩ := id hC
  intro d
  induction d with
  | zero =>
    intro i u hi
    have e2 : i = n := by omega
    subst e2
    have e1 : (nI i < σ 0 1) = False := by rw [h01]; exact nI_F (by omega) (by omega)
    rw [e95_97]
    simp (decide := true) only [e95_0, e95_1, e95_4, e95_7, e95_8, e95_9, e95_10, e95_13, e95_14, e95_15, e95_18, e95_21, e95_24, e95_27, e95_28, e95_29, e95_30, e95_31, e95_34, e95_35, e95_36, e95_37, e95_38, e95_39, e95_40, e95_41, e95_44, e95_47, e95_50, e95_53, e95_54, e95_55, e95_56, e95_59, e95_62, e95_63, e95_64, e95_65, e95_66, e95_67, e95_70, e95_73, e95_74, e95_77, e95_80, e95_83, e95_86, e95_87, e95_88, e95_89, e95_92, e95_93, e95_94, e95_95, e95_96, e95_98, e95_99, e95_102, e95_105, e95_108, e95_111, e95_112, e95_113, e95_114, e95_117, e95_120, e95_121, e95_122, e95_123, e95_124, e95_125, e95_128, e95_132, e95_133, e95_134, e95_136, e95_139, e95_142, e95_143, e95_144, e95_145, e95_146, e95_149, e95_150, e95_151, e95_152, e95_155, e95_158, e95_159, m95, ok_11_1_11, fv13_1, ok_9_2_9, fv3_2, ok_11_5_11, fv13_5, ok_4_1_4, fv9_1, ok_4_0_4, fv9_0, ok_11_0_11, fv13_0, ok_6_1_6, fv2_1, ok_6_0_6, fv2_0, Kt_some, Kt_none, V_ite, g_if, g_ss, g_1, g_2, g_cn, g_iok, g_sok, g_bok, g_jok, g_qok, g_ivl, g_jvl, g_qvl, g_ist, g_bst, g_jst, g_qst, g_aln, g_isa, g_dl1, g_dl2, g_dl3, g_dl4, g_dl5, g_dd, g_rfs, g_rfn, p_sm0, p_sm1, p_sm2, p_sm3, p_sm4, true_and, and_true, if_true, if_false, ↓reduceIte, Nat.reduceEqDiff, reduceCtorEq, or_true, true_or, and_self, Int32.reduceLT, Int32.reduceAdd, Int32.reduceSub, Int32.reduceToNatClampNeg, not_false_eq_true, not_true_eq_false, a1, a2, e1, df]
  | succ d ih =>
    intro i u hi
    have e1 : (nI i < σ 0 1) = True := by rw [h01]; exact nI_T (by omega) (by omega)
    have v3 := vp_T (show i < 14 by omega) (by omega)
    have c3 := nI_c (a := i) (by omega)
    rw [e95_97]
    simp (decide := true) only [e95_0, e95_1, e95_4, e95_7, e95_8, e95_9, e95_10, e95_13, e95_14, e95_15, e95_18, e95_21, e95_24, e95_27, e95_28, e95_29, e95_30, e95_31, e95_34, e95_35, e95_36, e95_37, e95_38, e95_39, e95_40, e95_41, e95_44, e95_47, e95_50, e95_53, e95_54, e95_55, e95_56, e95_59, e95_62, e95_63, e95_64, e95_65, e95_66, e95_67, e95_70, e95_73, e95_74, e95_77, e95_80, e95_83, e95_86, e95_87, e95_88, e95_89, e95_92, e95_93, e95_94, e95_95, e95_96, e95_98, e95_99, e95_102, e95_105, e95_108, e95_111, e95_112, e95_113, e95_114, e95_117, e95_120, e95_121, e95_122, e95_123, e95_124, e95_125, e95_128, e95_132, e95_133, e95_134, e95_136, e95_139, e95_142, e95_143, e95_144, e95_145, e95_146, e95_149, e95_150, e95_151, e95_152, e95_155, e95_158, e95_159, m95, ok_11_1_11, fv13_1, ok_9_2_9, fv3_2, ok_11_5_11, fv13_5, ok_4_1_4, fv9_1, ok_4_0_4, fv9_0, ok_11_0_11, fv13_0, ok_6_1_6, fv2_1, ok_6_0_6, fv2_0, Kt_some, Kt_none, V_ite, g_if, g_ss, g_1, g_2, g_cn, g_iok, g_sok, g_bok, g_jok, g_qok, g_ivl, g_jvl, g_qvl, g_ist, g_bst, g_jst, g_qst, g_aln, g_isa, g_dl1, g_dl2, g_dl3, g_dl4, g_dl5, g_dd, g_rfs, g_rfn, p_sm0, p_sm1, p_sm2, p_sm3, p_sm4, true_and, and_true, if_true, if_false, ↓reduceIte, Nat.reduceEqDiff, reduceCtorEq, or_true, true_or, and_self, Int32.reduceLT, Int32.reduceAdd, Int32.reduceSub, Int32.reduceToNatClampNeg, not_false_eq_true, not_true_eq_false, a1, a2, a3, e1, v3, c3, dg_e, nI_1]
    exact ih (i + 1) _ (by omega)
def dc (σ : pS) (u : Int64) : Int64 := dg (dg (dg (dg (dg (dg (dg (dg u (f_count σ 0).1) (f_count σ 1).1) (f_count σ 2).1) (f_count σ 3).1) (f_count σ 4).1) (f_count σ 5).1) (f_count σ 6).1) (f_count σ 7).1
def d1 (σ : pS) : Int64 := de σ (nt σ) 0 (ds σ (nn σ) 0 653)
def d2 (σ : pS) : Int64 := if 0 < σ 0 0 then dg (d1 σ) (f_lined σ 3).1 else d1 σ
def d3 (σ : pS) : Int64 := df (σ 10) (σ 0 8).toNatClampNeg 0 (d2 σ)
def d4 (σ : pS) : Int64 := if 0 < σ 0 6 then dg (d3 σ) (f_poured σ).1 else d3 σ
def f_digest (σ : pS) : Int64 × pS := (dc σ (df (σ 4) (np σ) 0 (d4 σ)), σ)
theorem x_digest (hC : CR σ h) (hI : IV σ) (hK : ∀ h2, CR (f_digest σ).2 h2 → MF h h2 → K (some (.long (f_digest σ).1)) h2) : Vm 95 [.ref 1] h K := by
  obtain ⟨ad, ⟨a1, a2, a3, a4, a5, a6, a7⟩, hB, ⟨⟨cs, m1⟩, m2⟩, hKp, hJ, hS⟩ := id hC
  obtain ⟨n, ps, bt, sr, hI2⟩ := id hI
  obtain ⟨e2, e3, e5⟩ := IN_n hI2
  obtain ⟨⟨g1, g2, g3, g4, g5, -⟩, -, -, -, -, -, ⟨mb, ml, -, -, -, g6, g7, -⟩, -⟩ := hI2
  have z0 : nI 0 = (0 : Int32) := rfl
  have key : ∀ (h2 : pH) (v : Int64), CR σ h2 → MF h h2 → v = d4 σ → V 95 95 [some (.ref 1), some (.long v), none, some (.int (nI ml))] [] h2 K := by
    intro h2 v hC2 hF hv
    have hl := l95b (K := K) hC2 g4 g5 ps 0 v (by omega)
    obtain ⟨ad2, ⟨b1, -⟩, -⟩ := id hC2
    rw [z0] at hl
    simp (decide := true) only [e95_0, e95_1, e95_4, e95_7, e95_8, e95_9, e95_10, e95_13, e95_14, e95_15, e95_18, e95_21, e95_24, e95_27, e95_28, e95_29, e95_30, e95_31, e95_34, e95_35, e95_36, e95_37, e95_38, e95_39, e95_40, e95_41, e95_44, e95_47, e95_50, e95_53, e95_54, e95_55, e95_56, e95_59, e95_62, e95_63, e95_64, e95_65, e95_66, e95_67, e95_70, e95_73, e95_74, e95_77, e95_80, e95_83, e95_86, e95_87, e95_88, e95_89, e95_92, e95_93, e95_94, e95_95, e95_96, e95_98, e95_99, e95_102, e95_105, e95_108, e95_111, e95_112, e95_113, e95_114, e95_117, e95_120, e95_121, e95_122, e95_123, e95_124, e95_125, e95_128, e95_131, e95_132, e95_133, e95_134, e95_136, e95_139, e95_142, e95_143, e95_144, e95_145, e95_146, e95_149, e95_150, e95_151, e95_152, e95_155, e95_158, e95_159, m95, ok_11_1_11, fv13_1, ok_9_2_9, fv3_2, ok_11_5_11, fv13_5, ok_4_1_4, fv9_1, ok_4_0_4, fv9_0, ok_11_0_11, fv13_0, ok_6_1_6, fv2_1, ok_6_0_6, fv2_0, Kt_some, Kt_none, V_ite, g_if, g_ss, g_1, g_2, g_cn, g_iok, g_sok, g_bok, g_jok, g_qok, g_ivl, g_jvl, g_qvl, g_ist, g_bst, g_jst, g_qst, g_aln, g_isa, g_dl1, g_dl2, g_dl3, g_dl4, g_dl5, g_dd, g_rfs, g_rfn, p_sm0, p_sm1, p_sm2, p_sm3, p_sm4, true_and, and_true, if_true, if_false, ↓reduceIte, Nat.reduceEqDiff, reduceCtorEq, or_true, true_or, and_self, Int32.reduceLT, Int32.reduceAdd, Int32.reduceSub, Int32.reduceToNatClampNeg, not_false_eq_true, not_true_eq_false]
    refine (iff_of_eq hl).mpr ?_
    simp (decide := true) only [e95_0, e95_1, e95_4, e95_7, e95_8, e95_9, e95_10, e95_13, e95_14, e95_15, e95_18, e95_21, e95_24, e95_27, e95_28, e95_29, e95_30, e95_31, e95_34, e95_35, e95_36, e95_37, e95_38, e95_39, e95_40, e95_41, e95_44, e95_47, e95_50, e95_53, e95_54, e95_55, e95_56, e95_59, e95_62, e95_63, e95_64, e95_65, e95_66, e95_67, e95_70, e95_73, e95_74, e95_77, e95_80, e95_83, e95_86, e95_87, e95_88, e95_89, e95_92, e95_93, e95_94, e95_95, e95_96, e95_98, e95_99, e95_102, e95_105, e95_108, e95_111, e95_112, e95_113, e95_114, e95_117, e95_120, e95_121, e95_122, e95_123, e95_124, e95_125, e95_128, e95_131, e95_132, e95_133, e95_134, e95_136, e95_139, e95_142, e95_143, e95_144, e95_145, e95_146, e95_149, e95_150, e95_151, e95_152, e95_155, e95_158, e95_159, m95, ok_11_1_11, fv13_1, ok_9_2_9, fv3_2, ok_11_5_11, fv13_5, ok_4_1_4, fv9_1, ok_4_0_4, fv9_0, ok_11_0_11, fv13_0, ok_6_1_6, fv2_1, ok_6_0_6, fv2_0, Kt_some, Kt_none, V_ite, g_if, g_ss, g_1, g_2, g_cn, g_iok, g_sok, g_bok, g_jok, g_qok, g_ivl, g_jvl, g_qvl, g_ist, g_bst, g_jst, g_qst, g_aln, g_isa, g_dl1, g_dl2, g_dl3, g_dl4, g_dl5, g_dd, g_rfs, g_rfn, p_sm0, p_sm1, p_sm2, p_sm3, p_sm4, true_and, and_true, if_true, if_false, ↓reduceIte, Nat.reduceEqDiff, reduceCtorEq, or_true, true_or, and_self, Int32.reduceLT, Int32.reduceAdd, Int32.reduceSub, Int32.reduceToNatClampNeg, not_false_eq_true, not_true_eq_false, b1, r_count hC2 hI, dg_e]
    have := hK h2 hC2 hF
    unfold f_digest dc at this
    rw [e3] at this
    rw [hv]
    exact this
  have key2 : ∀ v : Int64, v = d2 σ → V 95 37 [some (.ref 1), some (.long v), none, none] [] h K := by
    intro v hv
    have hl := l95a (K := K) hC g6 g7 ml 0 v (by omega)
    rw [z0] at hl
    have hd3 : df (σ 10) ml 0 v = d3 σ := by
      unfold d3
      rw [g6, nI_c (a := ml) (by omega), hv]
    simp (decide := true) only [e95_0, e95_1, e95_4, e95_7, e95_8, e95_9, e95_10, e95_13, e95_14, e95_15, e95_18, e95_21, e95_24, e95_27, e95_28, e95_29, e95_30, e95_31, e95_34, e95_35, e95_36, e95_37, e95_38, e95_40, e95_41, e95_44, e95_47, e95_50, e95_53, e95_54, e95_55, e95_56, e95_59, e95_62, e95_63, e95_64, e95_65, e95_66, e95_67, e95_70, e95_73, e95_74, e95_77, e95_80, e95_83, e95_86, e95_87, e95_88, e95_89, e95_92, e95_93, e95_94, e95_95, e95_96, e95_97, e95_98, e95_99, e95_102, e95_105, e95_108, e95_111, e95_112, e95_113, e95_114, e95_117, e95_120, e95_121, e95_122, e95_123, e95_124, e95_125, e95_128, e95_131, e95_132, e95_133, e95_134, e95_136, e95_139, e95_142, e95_143, e95_144, e95_145, e95_146, e95_149, e95_150, e95_151, e95_152, e95_155, e95_158, e95_159, m95, ok_11_1_11, fv13_1, ok_9_2_9, fv3_2, ok_11_5_11, fv13_5, ok_4_1_4, fv9_1, ok_4_0_4, fv9_0, ok_11_0_11, fv13_0, ok_6_1_6, fv2_1, ok_6_0_6, fv2_0, Kt_some, Kt_none, V_ite, g_if, g_ss, g_1, g_2, g_cn, g_iok, g_sok, g_bok, g_jok, g_qok, g_ivl, g_jvl, g_qvl, g_ist, g_bst, g_jst, g_qst, g_aln, g_isa, g_dl1, g_dl2, g_dl3, g_dl4, g_dl5, g_dd, g_rfs, g_rfn, p_sm0, p_sm1, p_sm2, p_sm3, p_sm4, true_and, and_true, if_true, if_false, ↓reduceIte, Nat.reduceEqDiff, reduceCtorEq, or_true, true_or, and_self, Int32.reduceLT, Int32.reduceAdd, Int32.reduceSub, Int32.reduceToNatClampNeg, not_false_eq_true, not_true_eq_false]
    refine (iff_of_eq hl).mpr ?_
    by_cases hb : 0 < σ 0 6
    · simp (decide := true) only [e95_0, e95_1, e95_4, e95_7, e95_8, e95_9, e95_10, e95_13, e95_14, e95_15, e95_18, e95_21, e95_24, e95_27, e95_28, e95_29, e95_30, e95_31, e95_34, e95_35, e95_36, e95_37, e95_38, e95_40, e95_41, e95_44, e95_47, e95_50, e95_53, e95_54, e95_55, e95_56, e95_59, e95_62, e95_63, e95_64, e95_65, e95_66, e95_67, e95_70, e95_73, e95_74, e95_77, e95_80, e95_83, e95_86, e95_87, e95_88, e95_89, e95_92, e95_93, e95_94, e95_96, e95_97, e95_98, e95_99, e95_102, e95_105, e95_108, e95_111, e95_112, e95_113, e95_114, e95_117, e95_120, e95_121, e95_122, e95_123, e95_124, e95_125, e95_128, e95_131, e95_132, e95_133, e95_134, e95_136, e95_139, e95_142, e95_143, e95_144, e95_145, e95_146, e95_149, e95_150, e95_151, e95_152, e95_155, e95_158, e95_159, m95, ok_11_1_11, fv13_1, ok_9_2_9, fv3_2, ok_11_5_11, fv13_5, ok_4_1_4, fv9_1, ok_4_0_4, fv9_0, ok_11_0_11, fv13_0, ok_6_1_6, fv2_1, ok_6_0_6, fv2_0, Kt_some, Kt_none, V_ite, g_if, g_ss, g_1, g_2, g_cn, g_iok, g_sok, g_bok, g_jok, g_qok, g_ivl, g_jvl, g_qvl, g_ist, g_bst, g_jst, g_qst, g_aln, g_isa, g_dl1, g_dl2, g_dl3, g_dl4, g_dl5, g_dd, g_rfs, g_rfn, p_sm0, p_sm1, p_sm2, p_sm3, p_sm4, true_and, and_true, if_true, if_false, ↓reduceIte, Nat.reduceEqDiff, reduceCtorEq, or_true, true_or, and_self, Int32.reduceLT, Int32.reduceAdd, Int32.reduceSub, Int32.reduceToNatClampNeg, not_false_eq_true, not_true_eq_false, a1, m1, c13 m1, hb]
      refine x_poured hC hI (fun h2 hC2 hF => ?_)
      simp (decide := true) only [e95_0, e95_1, e95_4, e95_7, e95_8, e95_9, e95_10, e95_13, e95_14, e95_15, e95_18, e95_21, e95_24, e95_27, e95_28, e95_29, e95_30, e95_31, e95_34, e95_35, e95_36, e95_37, e95_38, e95_40, e95_41, e95_44, e95_47, e95_50, e95_53, e95_54, e95_55, e95_56, e95_59, e95_62, e95_63, e95_64, e95_65, e95_66, e95_67, e95_70, e95_73, e95_74, e95_77, e95_80, e95_83, e95_86, e95_87, e95_88, e95_89, e95_92, e95_93, e95_94, e95_96, e95_97, e95_98, e95_99, e95_102, e95_105, e95_108, e95_111, e95_112, e95_113, e95_114, e95_117, e95_120, e95_121, e95_122, e95_123, e95_124, e95_125, e95_128, e95_131, e95_132, e95_133, e95_134, e95_136, e95_139, e95_142, e95_143, e95_144, e95_145, e95_146, e95_149, e95_150, e95_151, e95_152, e95_155, e95_158, e95_159, m95, ok_11_1_11, fv13_1, ok_9_2_9, fv3_2, ok_11_5_11, fv13_5, ok_4_1_4, fv9_1, ok_4_0_4, fv9_0, ok_11_0_11, fv13_0, ok_6_1_6, fv2_1, ok_6_0_6, fv2_0, Kt_some, Kt_none, V_ite, g_if, g_ss, g_1, g_2, g_cn, g_iok, g_sok, g_bok, g_jok, g_qok, g_ivl, g_jvl, g_qvl, g_ist, g_bst, g_jst, g_qst, g_aln, g_isa, g_dl1, g_dl2, g_dl3, g_dl4, g_dl5, g_dd, g_rfs, g_rfn, p_sm0, p_sm1, p_sm2, p_sm3, p_sm4, true_and, and_true, if_true, if_false, ↓reduceIte, Nat.reduceEqDiff, reduceCtorEq, or_true, true_or, and_self, Int32.reduceLT, Int32.reduceAdd, Int32.reduceSub, Int32.reduceToNatClampNeg, not_false_eq_true, not_true_eq_false, dg_e]
      refine key h2 _ hC2 hF ?_
      unfold d4
      rw [if_pos hb, hd3]
    · simp (decide := true) only [e95_0, e95_1, e95_4, e95_7, e95_8, e95_9, e95_10, e95_13, e95_14, e95_15, e95_18, e95_21, e95_24, e95_27, e95_28, e95_29, e95_30, e95_31, e95_34, e95_35, e95_36, e95_37, e95_38, e95_40, e95_41, e95_44, e95_47, e95_50, e95_53, e95_54, e95_55, e95_56, e95_59, e95_62, e95_63, e95_64, e95_65, e95_66, e95_67, e95_70, e95_73, e95_74, e95_77, e95_80, e95_83, e95_86, e95_87, e95_88, e95_89, e95_92, e95_93, e95_94, e95_96, e95_97, e95_98, e95_99, e95_102, e95_105, e95_108, e95_111, e95_112, e95_113, e95_114, e95_117, e95_120, e95_121, e95_122, e95_123, e95_124, e95_125, e95_128, e95_131, e95_132, e95_133, e95_134, e95_136, e95_139, e95_142, e95_143, e95_144, e95_145, e95_146, e95_149, e95_150, e95_151, e95_152, e95_155, e95_158, e95_159, m95, ok_11_1_11, fv13_1, ok_9_2_9, fv3_2, ok_11_5_11, fv13_5, ok_4_1_4, fv9_1, ok_4_0_4, fv9_0, ok_11_0_11, fv13_0, ok_6_1_6, fv2_1, ok_6_0_6, fv2_0, Kt_some, Kt_none, V_ite, g_if, g_ss, g_1, g_2, g_cn, g_iok, g_sok, g_bok, g_jok, g_qok, g_ivl, g_jvl, g_qvl, g_ist, g_bst, g_jst, g_qst, g_aln, g_isa, g_dl1, g_dl2, g_dl3, g_dl4, g_dl5, g_dd, g_rfs, g_rfn, p_sm0, p_sm1, p_sm2, p_sm3, p_sm4, true_and, and_true, if_true, if_false, ↓reduceIte, Nat.reduceEqDiff, reduceCtorEq, or_true, true_or, and_self, Int32.reduceLT, Int32.reduceAdd, Int32.reduceSub, Int32.reduceToNatClampNeg, not_false_eq_true, not_true_eq_false, a1, m1, c13 m1, hb]
      refine key h _ hC (MF_rf h) ?_
      unfold d4
      rw [if_neg hb, hd3]
  by_cases h0 : 0 < σ 0 0
  · simp (decide := true) only [e95_0, e95_1, e95_4, e95_7, e95_8, e95_9, e95_10, e95_13, e95_14, e95_15, e95_18, e95_21, e95_24, e95_27, e95_28, e95_29, e95_30, e95_31, e95_34, e95_35, e95_36, e95_38, e95_39, e95_40, e95_41, e95_44, e95_47, e95_50, e95_53, e95_54, e95_55, e95_56, e95_59, e95_62, e95_63, e95_64, e95_65, e95_66, e95_67, e95_70, e95_73, e95_74, e95_77, e95_80, e95_83, e95_86, e95_87, e95_88, e95_89, e95_92, e95_93, e95_94, e95_95, e95_96, e95_97, e95_98, e95_99, e95_102, e95_105, e95_108, e95_111, e95_112, e95_113, e95_114, e95_117, e95_120, e95_121, e95_122, e95_123, e95_124, e95_125, e95_128, e95_131, e95_132, e95_133, e95_134, e95_136, e95_139, e95_142, e95_143, e95_144, e95_145, e95_146, e95_149, e95_150, e95_151, e95_152, e95_155, e95_158, e95_159, m95, ok_11_1_11, fv13_1, ok_9_2_9, fv3_2, ok_11_5_11, fv13_5, ok_4_1_4, fv9_1, ok_4_0_4, fv9_0, ok_11_0_11, fv13_0, ok_6_1_6, fv2_1, ok_6_0_6, fv2_0, Kt_some, Kt_none, V_ite, g_if, g_ss, g_1, g_2, g_cn, g_iok, g_sok, g_bok, g_jok, g_qok, g_ivl, g_jvl, g_qvl, g_ist, g_bst, g_jst, g_qst, g_aln, g_isa, g_dl1, g_dl2, g_dl3, g_dl4, g_dl5, g_dd, g_rfs, g_rfn, p_sm0, p_sm1, p_sm2, p_sm3, p_sm4, true_and, and_true, if_true, if_false, ↓reduceIte, Nat.reduceEqDiff, reduceCtorEq, or_true, true_or, and_self, Int32.reduceLT, Int32.reduceAdd, Int32.reduceSub, Int32.reduceToNatClampNeg, not_false_eq_true, not_true_eq_false, a1, a4, c96 hC hI, c97 hC hI, h0, r_lined hC hI, dg_e]
    refine key2 _ ?_
    unfold d2 d1
    rw [if_pos h0]
  · simp (decide := true) only [e95_0, e95_1, e95_4, e95_7, e95_8, e95_9, e95_10, e95_13, e95_14, e95_15, e95_18, e95_21, e95_24, e95_27, e95_28, e95_29, e95_30, e95_31, e95_34, e95_35, e95_36, e95_38, e95_39, e95_40, e95_41, e95_44, e95_47, e95_50, e95_53, e95_54, e95_55, e95_56, e95_59, e95_62, e95_63, e95_64, e95_65, e95_66, e95_67, e95_70, e95_73, e95_74, e95_77, e95_80, e95_83, e95_86, e95_87, e95_88, e95_89, e95_92, e95_93, e95_94, e95_95, e95_96, e95_97, e95_98, e95_99, e95_102, e95_105, e95_108, e95_111, e95_112, e95_113, e95_114, e95_117, e95_120, e95_121, e95_122, e95_123, e95_124, e95_125, e95_128, e95_131, e95_132, e95_133, e95_134, e95_136, e95_139, e95_142, e95_143, e95_144, e95_145, e95_146, e95_149, e95_150, e95_151, e95_152, e95_155, e95_158, e95_159, m95, ok_11_1_11, fv13_1, ok_9_2_9, fv3_2, ok_11_5_11, fv13_5, ok_4_1_4, fv9_1, ok_4_0_4, fv9_0, ok_11_0_11, fv13_0, ok_6_1_6, fv2_1, ok_6_0_6, fv2_0, Kt_some, Kt_none, V_ite, g_if, g_ss, g_1, g_2, g_cn, g_iok, g_sok, g_bok, g_jok, g_qok, g_ivl, g_jvl, g_qvl, g_ist, g_bst, g_jst, g_qst, g_aln, g_isa, g_dl1, g_dl2, g_dl3, g_dl4, g_dl5, g_dd, g_rfs, g_rfn, p_sm0, p_sm1, p_sm2, p_sm3, p_sm4, true_and, and_true, if_true, if_false, ↓reduceIte, Nat.reduceEqDiff, reduceCtorEq, or_true, true_or, and_self, Int32.reduceLT, Int32.reduceAdd, Int32.reduceSub, Int32.reduceToNatClampNeg, not_false_eq_true, not_true_eq_false, a1, a4, c96 hC hI, c97 hC hI, h0]
    refine key2 _ ?_
    unfold d2 d1
    rw [if_neg h0]
end S32
