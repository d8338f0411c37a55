section S62
variable {h : pH} {K Q : Option Value → pH → Prop} {x : Nat → Int32} {u v : Int64} {g : Nat → Nat → Int32} {j : Nat → Nat → Int64} {n nb nc cc bi ci : Nat} {H : Nat → Nat} {c F : Nat} {L : List Nat}
/-- what a search leaves as it was -/
def fS0 (bi ci : Nat) (x : Nat → Int32) (g : Nat → Nat → Int32) (x2 : Nat → Int32) (g2 : Nat → Nat → Int32) : Prop := (∀ q, q ≠ 26 → x2 q = x q) ∧ (∀ a, a ≠ 37 → a ≠ 41 → a ≠ 42 → a ≠ 47 → a ≠ 48 → g2 a = g a) ∧ g2 37 0 = g 37 0 ∧ (∀ q, q ≠ bi → q ≠ ci → g2 41 q = g 41 q) ∧ (∀ q, q ≠ ci → g2 42 q = g 42 q)
def fS (bi ci : Nat) (x : Nat → Int32) (g : Nat → Nat → Int32) (L : List Nat) (x2 : Nat → Int32) (g2 : Nat → Nat → Int32) : Prop := fS0 bi ci x g x2 g2 ∧ x2 26 = nI L.length ∧ QF L (g2 48) (g2 47)
theorem fS0_R {x2 : Nat → Int32} {g2 g3 : Nat → Nat → Int32} (a : fS0 bi ci x g x2 g2) (b : fR bi ci g2 g3) : fS0 bi ci x g x2 g3 := by
  obtain ⟨a1, a2, a3, a4, a5⟩ := a
  obtain ⟨b1, b2, b3, b4⟩ := b
  exact ⟨a1, fun q h1 h2 h3 h4 h5 => (b1 q h1 h2 h3).trans (a2 q h1 h2 h3 h4 h5), b2.trans a3, fun q h1 h2 => (b3 q h1 h2).trans (a4 q h1 h2), fun q h1 => (b4 q h1).trans (a5 q h1)⟩
theorem fS_R {x2 : Nat → Int32} {g2 g3 : Nat → Nat → Int32} (a : fS bi ci x g L x2 g2) (b : fR bi ci g2 g3) : fS bi ci x g L x2 g3 := by
  refine ⟨fS0_R a.1 b, a.2.1, ?_⟩
  rw [b.1 48 (by decide) (by decide) (by decide), b.1 47 (by decide) (by decide) (by decide)]
  exact a.2.2
theorem fB_S {x2 : Nat → Int32} {g2 : Nat → Nat → Int32} (a : fB n H nb nc cc bi ci x g) (b : fS0 bi ci x g x2 g2) : fB n H nb nc cc bi ci x2 g2 := by
  obtain ⟨a1, a2, a3, a4, a5, a6⟩ := a
  obtain ⟨b0, b1, b2, -⟩ := b
  unfold fB
  rw [b0 0 (by decide), b1 35 (by decide) (by decide) (by decide) (by decide) (by decide), b1 38 (by decide) (by decide) (by decide) (by decide) (by decide), b1 39 (by decide) (by decide) (by decide) (by decide) (by decide), b1 40 (by decide) (by decide) (by decide) (by decide) (by decide), b2]
  exact ⟨a1, a2, a3, a4, a5, a6⟩
theorem fS0_u {x2 : Nat → Int32} {g2 : Nat → Nat → Int32} {z : Int32} {f e : Nat → Int32} (a : fS0 bi ci x g x2 g2) : fS0 bi ci x g (upd x2 26 z) (va_up (va_up g2 47 f) 48 e) := by
  obtain ⟨a1, a2, a3, a4, a5⟩ := a
  refine ⟨fun q hq => by rw [pk_un hq]; exact a1 q hq, fun q h1 h2 h3 h4 h5 => by rw [va_n _ _ h5, va_n _ _ h4]; exact a2 q h1 h2 h3 h4 h5, ?_, fun q h1 h2 => ?_, fun q h1 => ?_⟩
  · rw [va_n _ _ (by decide), va_n _ _ (by decide)]; exact a3
  · rw [va_n _ _ (by decide), va_n _ _ (by decide)]; exact a4 q h1 h2
  · rw [va_n _ _ (by decide), va_n _ _ (by decide)]; exact a5 q h1
theorem fS_ins {x2 : Nat → Int32} {g2 : Nat → Nat → Int32} {t D : Nat} (a : fS bi ci x g L x2 g2) (ht : BD t) (hh : has L t = false) (hD : D ≤ 31) : fS bi ci x g (L ++ [t + 65536 * D]) (upd x2 26 (nI (L.length + 1))) (va_up (va_up g2 47 (upd (g2 47) (mcc t) (nI (fv D)))) 48 (upd (g2 48) L.length (nI (mcc t)))) := by
  refine ⟨fS0_u a.1, ?_, ?_⟩
  · rw [pk_us, List.length_append, List.length_singleton]
  · rw [va_s, va_n _ _ (by decide), va_s]
    exact QF_ins a.2.2 ht hh hD
theorem xr_mem {e : Nat} (he : e ∈ L) : ∀ a, e ∈ xr n H nb nc cc L c F a
  | 0 => he
  | a + 1 => by
    have ih := xr_mem he a
    show e ∈ xs n H nb nc cc _ c F a
    unfold xs ins
    split
    · split
      · exact ih
      · exact List.mem_append.mpr (Or.inl ih)
    · exact ih
theorem xr_q (hC : fC n H nb nc cc bi ci) (hq : QV n H cc L) (hv : VC n H cc c) (hF : F ≤ 31) (hfd : fd n H nb c = false) : ∀ a, a ≤ 17 → QV n H cc (xr n H nb nc cc L c F a)
  | 0, _ => hq
  | a + 1, ha => QV_xs hC.2.1 hC.2.2.1 hC.2.2.2.2.2.1 (xr_q hC hq hv hF hfd a (by omega)) hv hF (by omega) (fun q => by rw [hfd] at q; cases q.2)
theorem l142 (hC : fC n H nb nc cc bi ci) (hB : fB n H nb nc cc bi ci x g) (hq : QV n H cc L) (hv : VC n H cc c) (hF : F ≤ 31) (he : c + 65536 * F ∈ L)
    (hT : fd n H nb c = true → ∀ h3 x3 g3, MH x3 u v g3 j h3 → fS0 bi ci x g x3 g3 → CF h h3 → Q (some (.int (nI (fa F 0)))) h3)
    (hN : fd n H nb c = false → ∀ h3 x3 g3, MH x3 u v g3 j h3 → fS bi ci x g (xr n H nb nc cc L c F 17) x3 g3 → CF h h3 → Q (some (.int (-1))) h3) :
    ∀ (d a : Nat) (h2 : pH) (x2 : Nat → Int32) (g2 : Nat → Nat → Int32) (l5 : Option Value), a + d = 17 → MH x2 u v g2 j h2 → fS bi ci x g (xr n H nb nc cc L c F a) x2 g2 → CF h h2 → (a = 0 ∨ fd n H nb c = false) → V 142 3 [some (.ref 34), some (.int (nI (mcc c))), some (.int (nI bi)), some (.int (nI ci)), some (.int (nI a)), l5] [] h2 Q := by
  obtain ⟨f1, f2, f3, f4, f5, f6, f7, f8, f9⟩ := id hC
  obtain ⟨hTB, hmc⟩ := VC_TB f2 f3 f6 hv
  have hmlt := mcd_lt hTB
  have vcc : vp_in (nI (mcc c)) 24192 = True := vp_T (by rw [hmc]; exact hmlt) (by omega)
  have ccc : (nI (mcc c)).toNatClampNeg = mcc c := nI_c (by rw [hmc]; omega)
  intro d
  induction d with
  | zero =>
    intro a h2 x2 g2 l5 ha hm hS hCF hfd
    have e : a = 17 := by omega
    subst e
    have hfd : fd n H nb c = false := by
      rcases hfd with q | q
      · omega
      · exact q
    rw [e142_3]
    simp (decide := true) only [e142_0, e142_1, e142_5, e142_7, e142_10, e142_11, e142_12, e142_13, e142_14, e142_17, e142_18, e142_20, e142_21, e142_22, e142_25, e142_28, e142_29, e142_30, e142_31, e142_34, e142_36, e142_37, e142_40, e142_42, e142_43, e142_46, e142_47, e142_50, e142_52, e142_53, e142_56, e142_57, e142_58, e142_60, e142_63, e142_65, e142_66, e142_67, e142_68, e142_71, e142_72, e142_75, e142_76, e142_77, e142_78, e142_79, e142_82, e142_83, e142_86, e142_88, e142_89, e142_90, e142_90i, e142_91, e142_94, e142_95, e142_96, e142_99, e142_101, e142_102, e142_103, e142_104, e142_107, e142_108, e142_109, e142_112, e142_113, e142_116, e142_118, e142_119, e142_120, e142_121, e142_122, e142_125, e142_128, e142_129, m142, ok_12_24_12, fv45_24, ok_12_25_12, fv45_25, ok_12_26_12, fv45_26, fs45_26, ok_12_0_12, fv45_0, Kt_some, Kt_none, V_ite, g_if, g_ss, g_1, g_2, g_cn, g_iok, g_sok, g_bok, g_jok, g_qok, g_ivl, g_jvl, g_qvl, g_ist, g_bst, g_jst, g_qst, g_aln, g_isa, g_dl1, g_dl2, g_dl3, g_dl4, g_dl5, g_dd, g_rfs, g_rfn, p_sm0, p_sm1, p_sm2, p_sm3, p_sm4, true_and, and_true, if_true, if_false, ↓reduceIte, Nat.reduceEqDiff, reduceCtorEq, or_true, true_or, and_self, Int32.reduceLT, Int32.reduceAdd, Int32.reduceSub, Int32.reduceToNatClampNeg, not_false_eq_true, not_true_eq_false, show (nI 17 < 17) = False from eq_false (by decide)]
    exact hN hfd h2 x2 g2 hm hS hCF
  | succ d ih =>
    intro a h2 x2 g2 l5 ha hm hS hCF hfd
    have e1 : (nI a < 17) = True := nI_T (a := a) (b := 17) (by omega) (by omega)
    have hqa : QV n H cc (xr n H nb nc cc L c F a) := by
      rcases hfd with q | q
      · subst q; exact hq
      · exact xr_q hC hq hv hF q a (by omega)
    have hmem := xr_mem (n := n) (H := H) (nb := nb) (nc := nc) (cc := cc) (c := c) (F := F) he a
    have hxr : xr n H nb nc cc L c F (a + 1) = xs n H nb nc cc (xr n H nb nc cc L c F a) c F a := rfl
    generalize xr n H nb nc cc L c F a = La at *
    have hlen := QV_len f2 f3 f6 hqa
    have x0 : x2 0 = nI n := (fB_S hB hS.1).1
    rw [e142_3]
    simp (decide := true) only [e142_0, e142_1, e142_5, e142_7, e142_10, e142_11, e142_12, e142_13, e142_14, e142_17, e142_18, e142_20, e142_21, e142_22, e142_25, e142_28, e142_29, e142_30, e142_31, e142_34, e142_36, e142_37, e142_40, e142_42, e142_43, e142_46, e142_47, e142_50, e142_52, e142_53, e142_56, e142_57, e142_58, e142_60, e142_63, e142_65, e142_66, e142_67, e142_68, e142_71, e142_72, e142_75, e142_76, e142_77, e142_78, e142_79, e142_82, e142_83, e142_86, e142_88, e142_89, e142_90, e142_90i, e142_91, e142_94, e142_95, e142_96, e142_99, e142_101, e142_102, e142_103, e142_104, e142_107, e142_108, e142_109, e142_112, e142_113, e142_116, e142_118, e142_119, e142_120, e142_121, e142_122, e142_125, e142_128, e142_129, m142, ok_12_24_12, fv45_24, ok_12_25_12, fv45_25, ok_12_26_12, fv45_26, fs45_26, ok_12_0_12, fv45_0, Kt_some, Kt_none, V_ite, g_if, g_ss, g_1, g_2, g_cn, g_iok, g_sok, g_bok, g_jok, g_qok, g_ivl, g_jvl, g_qvl, g_ist, g_bst, g_jst, g_qst, g_aln, g_isa, g_dl1, g_dl2, g_dl3, g_dl4, g_dl5, g_dd, g_rfs, g_rfn, p_sm0, p_sm1, p_sm2, p_sm3, p_sm4, true_and, and_true, if_true, if_false, ↓reduceIte, Nat.reduceEqDiff, reduceCtorEq, or_true, true_or, and_self, Int32.reduceLT, Int32.reduceAdd, Int32.reduceSub, Int32.reduceToNatClampNeg, not_false_eq_true, not_true_eq_false, e1, hm.1, xcn]
    rw [hmc]
    refine c139 hm hC x0 hTB (fun h3 g3 hm3 hR3 hD3 hF3 => ?_)
    have hS3 := fS_R hS hR3
    simp (decide := true) only [e142_0, e142_1, e142_5, e142_7, e142_10, e142_11, e142_12, e142_13, e142_14, e142_17, e142_18, e142_20, e142_21, e142_22, e142_25, e142_28, e142_29, e142_30, e142_31, e142_34, e142_36, e142_37, e142_40, e142_42, e142_43, e142_46, e142_47, e142_50, e142_52, e142_53, e142_56, e142_57, e142_58, e142_60, e142_63, e142_65, e142_66, e142_67, e142_68, e142_71, e142_72, e142_75, e142_76, e142_77, e142_78, e142_79, e142_82, e142_83, e142_86, e142_88, e142_89, e142_90, e142_90i, e142_91, e142_94, e142_95, e142_96, e142_99, e142_101, e142_102, e142_103, e142_104, e142_107, e142_108, e142_109, e142_112, e142_113, e142_116, e142_118, e142_119, e142_120, e142_121, e142_122, e142_125, e142_128, e142_129, m142, ok_12_24_12, fv45_24, ok_12_25_12, fv45_25, ok_12_26_12, fv45_26, fs45_26, ok_12_0_12, fv45_0, Kt_some, Kt_none, V_ite, g_if, g_ss, g_1, g_2, g_cn, g_iok, g_sok, g_bok, g_jok, g_qok, g_ivl, g_jvl, g_qvl, g_ist, g_bst, g_jst, g_qst, g_aln, g_isa, g_dl1, g_dl2, g_dl3, g_dl4, g_dl5, g_dd, g_rfs, g_rfn, p_sm0, p_sm1, p_sm2, p_sm3, p_sm4, true_and, and_true, if_true, if_false, ↓reduceIte, Nat.reduceEqDiff, reduceCtorEq, or_true, true_or, and_self, Int32.reduceLT, Int32.reduceAdd, Int32.reduceSub, Int32.reduceToNatClampNeg, not_false_eq_true, not_true_eq_false, hm3.1, xcn]
    refine c140 hm3 hC (fB_S hB hS3.1) hD3 hv (by omega) (fun hcan h4 g4 w2 ld2 cp2 bp2 hm4 hR4 hD4 hT4 hmk hF4 => ?_) (fun hcan h4 g4 hm4 hR4 hF4 => ?_)
    · have hS4 := fS_R hS3 hR4
      have hCF4 := CF_tr hCF (CF_tr hF3 hF4)
      have hBD := BD_mk hT4
      have hmt := mcc_mk hT4
      have htlt := mcd_lt hT4
      have hdig := (mcd_d hT4).1
      have htB : sB (mkc w2 ld2 cp2 bp2) = bp2 := (mk_8 hT4).2.2.2.2
      have hbp4 : bp2 < 4 := hT4.2.2.2.2
      have hcode := fun Q => c138 (Q := Q) hm4 hC x0 hD4 hT4
      rw [← hmt] at hcode htlt hdig
      rw [hmk] at hcode htlt hdig hBD htB
      have vt := vp_T (a := mcc (nxt H c a)) htlt (by omega)
      have ct := nI_c (a := mcc (nxt H c a)) (by omega)
      have hz := QF_0 hS4.2.2 hBD
      have x26 : x2 26 = nI La.length := hS4.2.1
      by_cases hh : has La (nxt H c a) = true
      · have hnz : (g4 47 (mcc (nxt H c a)) = 0) = False := eq_false (fun q => by rw [hz.mp q] at hh; cases hh)
        have hfd2 : fd n H nb c = false := by
          rcases hfd with q | q
          · subst q
            cases hf : fd n H nb c with
            | false => rfl
            | true =>
              exfalso
              unfold has at hh
              rw [List.any_eq_true] at hh
              obtain ⟨e, he1, q1⟩ := hh
              have q1 : e % 65536 = nxt H c 0 := beq_iff_eq.mp q1
              obtain ⟨hve, -⟩ := hqa.1 e he1
              rw [q1] at hve
              have hb := hve.2.2.2.2.2
              unfold fd at hf
              rw [Bool.and_eq_true, decide_eq_true_eq] at hf
              have : bp2 = sB c + 1 := by
                rw [← htB]
                exact (mk_d (sW_lt _ _ (by omega)) (sW_lt _ _ (by omega)) (sW_lt _ _ (by omega)) (by have := sb4 c; omega) (sb4 c).2.1 (by omega)).2.2.2.2
              omega
          · exact q
        have hxs : xs n H nb nc cc La c F a = La := by
          unfold xs ins
          rw [if_pos hcan, if_pos hh]
        simp (decide := true) only [e142_0, e142_1, e142_5, e142_7, e142_10, e142_11, e142_12, e142_13, e142_14, e142_17, e142_18, e142_20, e142_21, e142_22, e142_25, e142_28, e142_29, e142_30, e142_31, e142_34, e142_36, e142_37, e142_40, e142_42, e142_43, e142_46, e142_47, e142_50, e142_52, e142_53, e142_56, e142_57, e142_58, e142_60, e142_63, e142_65, e142_66, e142_67, e142_68, e142_71, e142_72, e142_75, e142_76, e142_77, e142_78, e142_79, e142_82, e142_83, e142_86, e142_88, e142_89, e142_90, e142_90i, e142_91, e142_94, e142_95, e142_96, e142_99, e142_101, e142_102, e142_103, e142_104, e142_107, e142_108, e142_109, e142_112, e142_113, e142_116, e142_118, e142_119, e142_120, e142_121, e142_122, e142_125, e142_128, e142_129, m142, ok_12_24_12, fv45_24, ok_12_25_12, fv45_25, ok_12_26_12, fv45_26, fs45_26, ok_12_0_12, fv45_0, Kt_some, Kt_none, V_ite, g_if, g_ss, g_1, g_2, g_cn, g_iok, g_sok, g_bok, g_jok, g_qok, g_ivl, g_jvl, g_qvl, g_ist, g_bst, g_jst, g_qst, g_aln, g_isa, g_dl1, g_dl2, g_dl3, g_dl4, g_dl5, g_dd, g_rfs, g_rfn, p_sm0, p_sm1, p_sm2, p_sm3, p_sm4, true_and, and_true, if_true, if_false, ↓reduceIte, Nat.reduceEqDiff, reduceCtorEq, or_true, true_or, and_self, Int32.reduceLT, Int32.reduceAdd, Int32.reduceSub, Int32.reduceToNatClampNeg, not_false_eq_true, not_true_eq_false, xcn, xok_0, xfv_0, xfs_0, xok_1, xfv_1, xok_2, xfv_2, xok_3, xfv_3, xok_4, xfv_4, xfs_4, xok_5, xfv_5, xfs_5, xok_6, xfv_6, xfs_6, xok_7, xfv_7, xok_8, xfv_8, xok_9, xfv_9, xok_10, xfv_10, xok_11, xfv_11, xok_12, xfv_12, xfs_12, xok_13, xfv_13, xfs_13, xok_14, xfv_14, xfs_14, xok_15, xfv_15, xfs_15, xok_16, xfv_16, xok_17, xfv_17, xfs_17, xok_18, xfv_18, xok_19, xfv_19, xfs_19, xok_20, xfv_20, xfs_20, xok_21, xfv_21, xfs_21, xok_22, xfv_22, xok_23, xfv_23, xok_24, xfv_24, xok_25, xfv_25, xok_26, xfv_26, xfs_26, xok_27, xfv_27, xok_28, xfv_28, xok_29, xfv_29, xok_30, xfv_30, xfs_30, xok_31, xfv_31, xfs_31, xok_32, xfv_32, xok_33, xfv_33, xfs_33, xok_34, xfv_34, xfs_34, xok_35, xfv_35, xfs_35, xok_36, xfv_36, xfs_36, xok_37, xfv_37, xfs_37, xok_38, xfv_38, xfs_38, xok_39, xfv_39, xfs_39, xok_40, xfv_40, xok_41, xfv_41, xok_42, xfv_42, xok_43, xfv_43, xok_44, xfv_44, xfs_44, hm4.1, hcode, h47 hm4, vt, ct, hnz, nI_1]
        rw [← hmc]
        refine ih (a + 1) h4 x2 g4 _ (by omega) hm4 ?_ hCF4 (Or.inr hfd2)
        rw [hxr, hxs]
        exact hS4
      · rw [Bool.not_eq_true] at hh
        have hnz : (g4 47 (mcc (nxt H c a)) = 0) = True := eq_true (hz.mpr hh)
        have hfF : g4 47 (mcc c) = nI (fv F) := by
          have := hS4.2.2.2.1 _ hmem
          rw [show (c + 65536 * F) % 65536 = c by have := hv.1; omega, show (c + 65536 * F) / 65536 = F by have := hv.1; omega] at this
          exact this
        have vq := vp_T (show La.length < 24192 by omega) (by omega)
        have cq := nI_c (a := La.length) (by omega)
        have hxs : xs n H nb nc cc La c F a = La ++ [nxt H c a + 65536 * fa F a] := by
          unfold xs ins
          rw [if_pos hcan, if_neg (by rw [hh]; decide)]
        have hfa31 : fa F a ≤ 31 ∧ fa F a ≠ 31 := by
          unfold fa
          split <;> omega
        have hfv : fv (fa F a) = fa F a + 1 := by
          unfold fv
          rw [if_neg hfa31.2]
        have hS5 := fS_ins hS4 hBD hh hfa31.1
        rw [hfv] at hS5
        have hm5 : MH (upd x2 26 (nI (La.length + 1))) u v (va_up (va_up g4 47 (upd (g4 47) (mcc (nxt H c a)) (nI (fa F a + 1)))) 48 (upd (g4 48) La.length (nI (mcc (nxt H c a))))) j (p_set (p_set (p_set h4 47 (aB 24192 (upd (g4 47) (mcc (nxt H c a)) (nI (fa F a + 1))))) 48 (aI 24192 (upd (g4 48) La.length (nI (mcc (nxt H c a)))))) 34 (oX (upd x2 26 (nI (La.length + 1))) u v)) := MH_x (MH_i (MH_b hm4 (a := 47) (Or.inr rfl)) (a := 48) (by decide) (by decide) (by decide) (by decide) (by decide) (by decide))
        have hCF5 : CF h (p_set (p_set (p_set h4 47 (aB 24192 (upd (g4 47) (mcc (nxt H c a)) (nI (fa F a + 1))))) 48 (aI 24192 (upd (g4 48) La.length (nI (mcc (nxt H c a)))))) 34 (oX (upd x2 26 (nI (La.length + 1))) u v)) := CF_st (CF_st (CF_st hCF4 (by decide) (by decide)) (by decide) (by decide)) (by decide) (by decide)
        have a4 : nI (mcc (nxt H c a)) / 4 = nI (mcc (nxt H c a) / 4) := pk_div (d := 4) (by omega) (by omega) (by omega)
        have b4 : nI (mcc (nxt H c a)) - nI (mcc (nxt H c a)) / 4 * 4 = nI (mcc (nxt H c a) % 4) := pk_rem (d := 4) (by omega) (by omega) (by omega)
        rw [a4, hdig] at b4
        have en : nI n - 1 = nI (n - 1) := pk_sub (a := n) (b := 1) (by omega)
        have es : nI (fa F a + 1) - 1 = nI (fa F a) := nI_pred _
        have tail : V 142 78 [some (.ref 34), some (.int (nI (mcc c))), some (.int (nI bi)), some (.int (nI ci)), some (.int (nI a)), some (.int (nI (mcc (nxt H c a))))] [] (p_set h4 47 (aB 24192 (upd (g4 47) (mcc (nxt H c a)) (nI (fa F a + 1))))) Q := by
          by_cases hbn : bp2 = n - 1
          · have e3 : (nI bp2 = nI (n - 1)) = True := eq_true (by rw [hbn])
            have ha0 : a = 0 ∧ fd n H nb c = true := by
              by_cases hq2 : a = 0 ∧ sB c + 2 = n
              · obtain ⟨rfl, q2⟩ := hq2
                refine ⟨rfl, ?_⟩
                unfold fd
                have : can n H nb nc cc c 0 = rz n (sW (H 0) c) (sB c) nb := rfl
                rw [← this, hcan, q2]
                simp
              · have := (VC_nxt f2 f3 f6 hv hcan hq2).2.2.2.2.2
                rw [htB] at this
                omega
            obtain ⟨rfl, hfdt⟩ := ha0
            simp (decide := true) only [e142_0, e142_1, e142_5, e142_7, e142_10, e142_11, e142_12, e142_13, e142_14, e142_17, e142_18, e142_20, e142_21, e142_22, e142_25, e142_28, e142_29, e142_30, e142_31, e142_34, e142_36, e142_37, e142_40, e142_42, e142_43, e142_46, e142_47, e142_50, e142_52, e142_53, e142_56, e142_57, e142_58, e142_60, e142_63, e142_65, e142_66, e142_67, e142_68, e142_71, e142_72, e142_75, e142_76, e142_77, e142_78, e142_79, e142_82, e142_83, e142_86, e142_88, e142_89, e142_90, e142_90i, e142_91, e142_94, e142_95, e142_96, e142_99, e142_101, e142_102, e142_103, e142_104, e142_107, e142_108, e142_109, e142_112, e142_113, e142_116, e142_118, e142_119, e142_120, e142_121, e142_122, e142_125, e142_128, e142_129, m142, ok_12_24_12, fv45_24, ok_12_25_12, fv45_25, ok_12_26_12, fv45_26, fs45_26, ok_12_0_12, fv45_0, Kt_some, Kt_none, V_ite, g_if, g_ss, g_1, g_2, g_cn, g_iok, g_sok, g_bok, g_jok, g_qok, g_ivl, g_jvl, g_qvl, g_ist, g_bst, g_jst, g_qst, g_aln, g_isa, g_dl1, g_dl2, g_dl3, g_dl4, g_dl5, g_dd, g_rfs, g_rfn, p_sm0, p_sm1, p_sm2, p_sm3, p_sm4, true_and, and_true, if_true, if_false, ↓reduceIte, Nat.reduceEqDiff, reduceCtorEq, or_true, true_or, and_self, Int32.reduceLT, Int32.reduceAdd, Int32.reduceSub, Int32.reduceToNatClampNeg, not_false_eq_true, not_true_eq_false, xcn, xok_0, xfv_0, xfs_0, xok_1, xfv_1, xok_2, xfv_2, xok_3, xfv_3, xok_4, xfv_4, xfs_4, xok_5, xfv_5, xfs_5, xok_6, xfv_6, xfs_6, xok_7, xfv_7, xok_8, xfv_8, xok_9, xfv_9, xok_10, xfv_10, xok_11, xfv_11, xok_12, xfv_12, xfs_12, xok_13, xfv_13, xfs_13, xok_14, xfv_14, xfs_14, xok_15, xfv_15, xfs_15, xok_16, xfv_16, xok_17, xfv_17, xfs_17, xok_18, xfv_18, xok_19, xfv_19, xfs_19, xok_20, xfv_20, xfs_20, xok_21, xfv_21, xfs_21, xok_22, xfv_22, xok_23, xfv_23, xok_24, xfv_24, xok_25, xfv_25, xok_26, xfv_26, xfs_26, xok_27, xfv_27, xok_28, xfv_28, xok_29, xfv_29, xok_30, xfv_30, xfs_30, xok_31, xfv_31, xfs_31, xok_32, xfv_32, xok_33, xfv_33, xfs_33, xok_34, xfv_34, xfs_34, xok_35, xfv_35, xfs_35, xok_36, xfv_36, xfs_36, xok_37, xfv_37, xfs_37, xok_38, xfv_38, xfs_38, xok_39, xfv_39, xfs_39, xok_40, xfv_40, xok_41, xfv_41, xok_42, xfv_42, xok_43, xfv_43, xok_44, xfv_44, xfs_44, hm4.1, h48 hm4, x26, vq, cq, nI_1, u_if, x0, a4, b4, en, e3, vt, ct, es]
            exact hT hfdt _ _ _ hm5 hS5.1 hCF5
          · have e3 : (nI bp2 = nI (n - 1)) = False := eq_false (fun q => hbn ((nI_eq (by omega) (by omega)).mp q))
            have hfd2 : fd n H nb c = false := by
              rcases hfd with q | q
              · subst q
                cases hf : fd n H nb c with
                | false => rfl
                | true =>
                  exfalso
                  unfold fd at hf
                  rw [Bool.and_eq_true, decide_eq_true_eq] at hf
                  have : bp2 = sB c + 1 := by
                    rw [← htB]
                    exact (mk_d (sW_lt _ _ (by omega)) (sW_lt _ _ (by omega)) (sW_lt _ _ (by omega)) (by have := sb4 c; omega) (sb4 c).2.1 (by omega)).2.2.2.2
                  omega
              · exact q
            simp (decide := true) only [e142_0, e142_1, e142_5, e142_7, e142_10, e142_11, e142_12, e142_13, e142_14, e142_17, e142_18, e142_20, e142_21, e142_22, e142_25, e142_28, e142_29, e142_30, e142_31, e142_34, e142_36, e142_37, e142_40, e142_42, e142_43, e142_46, e142_47, e142_50, e142_52, e142_53, e142_56, e142_57, e142_58, e142_60, e142_63, e142_65, e142_66, e142_67, e142_68, e142_71, e142_72, e142_75, e142_76, e142_77, e142_78, e142_79, e142_82, e142_83, e142_86, e142_88, e142_89, e142_90, e142_90i, e142_91, e142_94, e142_95, e142_96, e142_99, e142_101, e142_102, e142_103, e142_104, e142_107, e142_108, e142_109, e142_112, e142_113, e142_116, e142_118, e142_119, e142_120, e142_121, e142_122, e142_125, e142_128, e142_129, m142, ok_12_24_12, fv45_24, ok_12_25_12, fv45_25, ok_12_26_12, fv45_26, fs45_26, ok_12_0_12, fv45_0, Kt_some, Kt_none, V_ite, g_if, g_ss, g_1, g_2, g_cn, g_iok, g_sok, g_bok, g_jok, g_qok, g_ivl, g_jvl, g_qvl, g_ist, g_bst, g_jst, g_qst, g_aln, g_isa, g_dl1, g_dl2, g_dl3, g_dl4, g_dl5, g_dd, g_rfs, g_rfn, p_sm0, p_sm1, p_sm2, p_sm3, p_sm4, true_and, and_true, if_true, if_false, ↓reduceIte, Nat.reduceEqDiff, reduceCtorEq, or_true, true_or, and_self, Int32.reduceLT, Int32.reduceAdd, Int32.reduceSub, Int32.reduceToNatClampNeg, not_false_eq_true, not_true_eq_false, xcn, xok_0, xfv_0, xfs_0, xok_1, xfv_1, xok_2, xfv_2, xok_3, xfv_3, xok_4, xfv_4, xfs_4, xok_5, xfv_5, xfs_5, xok_6, xfv_6, xfs_6, xok_7, xfv_7, xok_8, xfv_8, xok_9, xfv_9, xok_10, xfv_10, xok_11, xfv_11, xok_12, xfv_12, xfs_12, xok_13, xfv_13, xfs_13, xok_14, xfv_14, xfs_14, xok_15, xfv_15, xfs_15, xok_16, xfv_16, xok_17, xfv_17, xfs_17, xok_18, xfv_18, xok_19, xfv_19, xfs_19, xok_20, xfv_20, xfs_20, xok_21, xfv_21, xfs_21, xok_22, xfv_22, xok_23, xfv_23, xok_24, xfv_24, xok_25, xfv_25, xok_26, xfv_26, xfs_26, xok_27, xfv_27, xok_28, xfv_28, xok_29, xfv_29, xok_30, xfv_30, xfs_30, xok_31, xfv_31, xfs_31, xok_32, xfv_32, xok_33, xfv_33, xfs_33, xok_34, xfv_34, xfs_34, xok_35, xfv_35, xfs_35, xok_36, xfv_36, xfs_36, xok_37, xfv_37, xfs_37, xok_38, xfv_38, xfs_38, xok_39, xfv_39, xfs_39, xok_40, xfv_40, xok_41, xfv_41, xok_42, xfv_42, xok_43, xfv_43, xok_44, xfv_44, xfs_44, hm4.1, h48 hm4, x26, vq, cq, nI_1, u_if, x0, a4, b4, en, e3]
            refine ih (a + 1) _ _ _ _ (by omega) hm5 ?_ hCF5 (Or.inr hfd2)
            rw [hxr, hxs]
            exact hS5
        by_cases h31 : F = 31
        · have e2 : (nI (fv F) = 99) = True := eq_true (by rw [h31]; rfl)
          have hfa : fa F a = a := by unfold fa; rw [if_pos h31]
          rw [hfa] at tail
          simp (decide := true) only [e142_0, e142_1, e142_5, e142_7, e142_10, e142_11, e142_12, e142_13, e142_14, e142_17, e142_18, e142_20, e142_21, e142_22, e142_25, e142_28, e142_29, e142_30, e142_31, e142_34, e142_36, e142_37, e142_40, e142_42, e142_43, e142_46, e142_47, e142_50, e142_52, e142_53, e142_56, e142_57, e142_58, e142_60, e142_63, e142_65, e142_66, e142_67, e142_68, e142_71, e142_72, e142_75, e142_76, e142_77, e142_79, e142_82, e142_83, e142_86, e142_88, e142_89, e142_90, e142_90i, e142_91, e142_94, e142_95, e142_96, e142_99, e142_101, e142_102, e142_103, e142_104, e142_107, e142_108, e142_109, e142_112, e142_113, e142_116, e142_118, e142_119, e142_120, e142_121, e142_122, e142_125, e142_128, e142_129, m142, ok_12_24_12, fv45_24, ok_12_25_12, fv45_25, ok_12_26_12, fv45_26, fs45_26, ok_12_0_12, fv45_0, Kt_some, Kt_none, V_ite, g_if, g_ss, g_1, g_2, g_cn, g_iok, g_sok, g_bok, g_jok, g_qok, g_ivl, g_jvl, g_qvl, g_ist, g_bst, g_jst, g_qst, g_aln, g_isa, g_dl1, g_dl2, g_dl3, g_dl4, g_dl5, g_dd, g_rfs, g_rfn, p_sm0, p_sm1, p_sm2, p_sm3, p_sm4, true_and, and_true, if_true, if_false, ↓reduceIte, Nat.reduceEqDiff, reduceCtorEq, or_true, true_or, and_self, Int32.reduceLT, Int32.reduceAdd, Int32.reduceSub, Int32.reduceToNatClampNeg, not_false_eq_true, not_true_eq_false, xcn, xok_0, xfv_0, xfs_0, xok_1, xfv_1, xok_2, xfv_2, xok_3, xfv_3, xok_4, xfv_4, xfs_4, xok_5, xfv_5, xfs_5, xok_6, xfv_6, xfs_6, xok_7, xfv_7, xok_8, xfv_8, xok_9, xfv_9, xok_10, xfv_10, xok_11, xfv_11, xok_12, xfv_12, xfs_12, xok_13, xfv_13, xfs_13, xok_14, xfv_14, xfs_14, xok_15, xfv_15, xfs_15, xok_16, xfv_16, xok_17, xfv_17, xfs_17, xok_18, xfv_18, xok_19, xfv_19, xfs_19, xok_20, xfv_20, xfs_20, xok_21, xfv_21, xfs_21, xok_22, xfv_22, xok_23, xfv_23, xok_24, xfv_24, xok_25, xfv_25, xok_26, xfv_26, xfs_26, xok_27, xfv_27, xok_28, xfv_28, xok_29, xfv_29, xok_30, xfv_30, xfs_30, xok_31, xfv_31, xfs_31, xok_32, xfv_32, xok_33, xfv_33, xfs_33, xok_34, xfv_34, xfs_34, xok_35, xfv_35, xfs_35, xok_36, xfv_36, xfs_36, xok_37, xfv_37, xfs_37, xok_38, xfv_38, xfs_38, xok_39, xfv_39, xfs_39, xok_40, xfv_40, xok_41, xfv_41, xok_42, xfv_42, xok_43, xfv_43, xok_44, xfv_44, xfs_44, hm4.1, hcode, h47 hm4, vt, ct, hnz, ← hmc, vcc, ccc, hfF, e2, nI_1, (nb_b (a + 1) (by omega)).2]
          exact tail
        · have e2 : (nI (fv F) = 99) = False := by
            refine eq_false (fun q => ?_)
            have := (nI_eq (a := fv F) (b := 99) (by have := fv_b hF; omega) (by omega)).mp q
            unfold fv at this
            rw [if_neg h31] at this
            omega
          have hfa : fa F a = F := by unfold fa; rw [if_neg h31]
          have hf2 : fv F = F + 1 := by unfold fv; rw [if_neg h31]
          rw [hf2] at hfF e2
          rw [hfa] at tail
          simp (decide := true) only [e142_0, e142_1, e142_5, e142_7, e142_10, e142_11, e142_12, e142_13, e142_14, e142_17, e142_18, e142_20, e142_21, e142_22, e142_25, e142_28, e142_29, e142_30, e142_31, e142_34, e142_36, e142_37, e142_40, e142_42, e142_43, e142_46, e142_47, e142_50, e142_52, e142_53, e142_56, e142_57, e142_58, e142_60, e142_63, e142_65, e142_66, e142_67, e142_68, e142_71, e142_72, e142_75, e142_76, e142_77, e142_79, e142_82, e142_83, e142_86, e142_88, e142_89, e142_90, e142_90i, e142_91, e142_94, e142_95, e142_96, e142_99, e142_101, e142_102, e142_103, e142_104, e142_107, e142_108, e142_109, e142_112, e142_113, e142_116, e142_118, e142_119, e142_120, e142_121, e142_122, e142_125, e142_128, e142_129, m142, ok_12_24_12, fv45_24, ok_12_25_12, fv45_25, ok_12_26_12, fv45_26, fs45_26, ok_12_0_12, fv45_0, Kt_some, Kt_none, V_ite, g_if, g_ss, g_1, g_2, g_cn, g_iok, g_sok, g_bok, g_jok, g_qok, g_ivl, g_jvl, g_qvl, g_ist, g_bst, g_jst, g_qst, g_aln, g_isa, g_dl1, g_dl2, g_dl3, g_dl4, g_dl5, g_dd, g_rfs, g_rfn, p_sm0, p_sm1, p_sm2, p_sm3, p_sm4, true_and, and_true, if_true, if_false, ↓reduceIte, Nat.reduceEqDiff, reduceCtorEq, or_true, true_or, and_self, Int32.reduceLT, Int32.reduceAdd, Int32.reduceSub, Int32.reduceToNatClampNeg, not_false_eq_true, not_true_eq_false, xcn, xok_0, xfv_0, xfs_0, xok_1, xfv_1, xok_2, xfv_2, xok_3, xfv_3, xok_4, xfv_4, xfs_4, xok_5, xfv_5, xfs_5, xok_6, xfv_6, xfs_6, xok_7, xfv_7, xok_8, xfv_8, xok_9, xfv_9, xok_10, xfv_10, xok_11, xfv_11, xok_12, xfv_12, xfs_12, xok_13, xfv_13, xfs_13, xok_14, xfv_14, xfs_14, xok_15, xfv_15, xfs_15, xok_16, xfv_16, xok_17, xfv_17, xfs_17, xok_18, xfv_18, xok_19, xfv_19, xfs_19, xok_20, xfv_20, xfs_20, xok_21, xfv_21, xfs_21, xok_22, xfv_22, xok_23, xfv_23, xok_24, xfv_24, xok_25, xfv_25, xok_26, xfv_26, xfs_26, xok_27, xfv_27, xok_28, xfv_28, xok_29, xfv_29, xok_30, xfv_30, xfs_30, xok_31, xfv_31, xfs_31, xok_32, xfv_32, xok_33, xfv_33, xfs_33, xok_34, xfv_34, xfs_34, xok_35, xfv_35, xfs_35, xok_36, xfv_36, xfs_36, xok_37, xfv_37, xfs_37, xok_38, xfv_38, xfs_38, xok_39, xfv_39, xfs_39, xok_40, xfv_40, xok_41, xfv_41, xok_42, xfv_42, xok_43, xfv_43, xok_44, xfv_44, xfs_44, hm4.1, hcode, h47 hm4, vt, ct, hnz, ← hmc, vcc, ccc, hfF, e2, (nb_b (F + 1) (by omega)).1]
          exact tail
    · have hS4 := fS_R hS3 hR4
      have hCF4 := CF_tr hCF (CF_tr hF3 hF4)
      have hxs : xs n H nb nc cc La c F a = La := xs_no (by rw [hcan]; decide)
      have hfd2 : fd n H nb c = false := by
        rcases hfd with q | q
        · subst q
          unfold fd
          have : can n H nb nc cc c 0 = rz n (sW (H 0) c) (sB c) nb := rfl
          rw [← this, hcan]
          rfl
        · exact q
      simp (decide := true) only [e142_0, e142_1, e142_5, e142_7, e142_10, e142_11, e142_12, e142_13, e142_14, e142_17, e142_18, e142_20, e142_21, e142_22, e142_25, e142_28, e142_29, e142_30, e142_31, e142_34, e142_36, e142_37, e142_40, e142_42, e142_43, e142_46, e142_47, e142_50, e142_52, e142_53, e142_56, e142_57, e142_58, e142_60, e142_63, e142_65, e142_66, e142_67, e142_68, e142_71, e142_72, e142_75, e142_76, e142_77, e142_78, e142_79, e142_82, e142_83, e142_86, e142_88, e142_89, e142_90, e142_90i, e142_91, e142_94, e142_95, e142_96, e142_99, e142_101, e142_102, e142_103, e142_104, e142_107, e142_108, e142_109, e142_112, e142_113, e142_116, e142_118, e142_119, e142_120, e142_121, e142_122, e142_125, e142_128, e142_129, m142, ok_12_24_12, fv45_24, ok_12_25_12, fv45_25, ok_12_26_12, fv45_26, fs45_26, ok_12_0_12, fv45_0, Kt_some, Kt_none, V_ite, g_if, g_ss, g_1, g_2, g_cn, g_iok, g_sok, g_bok, g_jok, g_qok, g_ivl, g_jvl, g_qvl, g_ist, g_bst, g_jst, g_qst, g_aln, g_isa, g_dl1, g_dl2, g_dl3, g_dl4, g_dl5, g_dd, g_rfs, g_rfn, p_sm0, p_sm1, p_sm2, p_sm3, p_sm4, true_and, and_true, if_true, if_false, ↓reduceIte, Nat.reduceEqDiff, reduceCtorEq, or_true, true_or, and_self, Int32.reduceLT, Int32.reduceAdd, Int32.reduceSub, Int32.reduceToNatClampNeg, not_false_eq_true, not_true_eq_false, nI_1]
      rw [← hmc]
      refine ih (a + 1) h4 x2 g4 _ (by omega) hm4 ?_ hCF4 (Or.inr hfd2)
      rw [hxr, hxs]
      exact hS4
theorem c142 {h2 : pH} {x2 : Nat → Int32} {g2 : Nat → Nat → Int32} (hC : fC n H nb nc cc bi ci) (hB : fB n H nb nc cc bi ci x g) (hq : QV n H cc L) (hv : VC n H cc c) (hF : F ≤ 31) (he : c + 65536 * F ∈ L) (hm : MH x2 u v g2 j h2) (hS : fS bi ci x g L x2 g2) (hCF : CF h h2)
    (hT : fd n H nb c = true → ∀ h3 x3 g3, MH x3 u v g3 j h3 → fS0 bi ci x g x3 g3 → CF h h3 → Q (some (.int (nI (fa F 0)))) h3)
    (hN : fd n H nb c = false → ∀ h3 x3 g3, MH x3 u v g3 j h3 → fS bi ci x g (xr n H nb nc cc L c F 17) x3 g3 → CF h h3 → Q (some (.int (-1))) h3) : Vm 142 [.ref 34, .int (nI (mcc c)), .int (nI bi), .int (nI ci)] h2 Q := by
  have := l142 hC hB hq hv hF he hT hN 17 0 h2 x2 g2 none (by omega) hm hS hCF (Or.inl rfl)
  simp (decide := true) only [e142_0, e142_1, e142_5, e142_7, e142_10, e142_11, e142_12, e142_13, e142_14, e142_17, e142_18, e142_20, e142_21, e142_22, e142_25, e142_28, e142_29, e142_30, e142_31, e142_34, e142_36, e142_37, e142_40, e142_42, e142_43, e142_46, e142_47, e142_50, e142_52, e142_53, e142_56, e142_57, e142_58, e142_60, e142_63, e142_65, e142_66, e142_67, e142_68, e142_71, e142_72, e142_75, e142_76, e142_77, e142_78, e142_79, e142_82, e142_83, e142_86, e142_88, e142_89, e142_90, e142_90i, e142_91, e142_94, e142_95, e142_96, e142_99, e142_101, e142_102, e142_103, e142_104, e142_107, e142_108, e142_109, e142_112, e142_113, e142_116, e142_118, e142_119, e142_120, e142_121, e142_122, e142_125, e142_128, e142_129, m142, ok_12_24_12, fv45_24, ok_12_25_12, fv45_25, ok_12_26_12, fv45_26, fs45_26, ok_12_0_12, fv45_0, Kt_some, Kt_none, V_ite, g_if, g_ss, g_1, g_2, g_cn, g_iok, g_sok, g_bok, g_jok, g_qok, g_ivl, g_jvl, g_qvl, g_ist, g_bst, g_jst, g_qst, g_aln, g_isa, g_dl1, g_dl2, g_dl3, g_dl4, g_dl5, g_dd, g_rfs, g_rfn, p_sm0, p_sm1, p_sm2, p_sm3, p_sm4, true_and, and_true, if_true, if_false, ↓reduceIte, Nat.reduceEqDiff, reduceCtorEq, or_true, true_or, and_self, Int32.reduceLT, Int32.reduceAdd, Int32.reduceSub, Int32.reduceToNatClampNeg, not_false_eq_true, not_true_eq_false]
  exact this
end S62
