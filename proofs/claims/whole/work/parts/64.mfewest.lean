section S64
variable {σ : pS} {h : pH} {K Q : Option Value → pH → Prop} {x : Nat → Int32} {u v : Int64} {g : Nat → Nat → Int32} {j : Nat → Nat → Int64}
theorem y_few0 {i jj : Nat} {k : Int32} (hm : MH x u v g j h) (hp : MP σ x g) (hI : IV σ) (hi : i < nt σ) (hj : jj < nt σ) (hij : i ≠ jj) (hk : k = 0 ∨ k = 1)
    (hK : ∀ h2, MR (s0 σ 5 (σ 0 5 + 1)) h2 → CF h h2 → Q (some (.int (if k = 0 then (rs σ i jj).1 else (rs σ i jj).2))) h2) : Vm 141 [.ref 34, .int (nI i), .int (nI jj), .int k] (p_set h 34 (oX (upd x 12 (x 12 + 1)) u v)) Q := by
  obtain ⟨n2, n4, n0, hH, hw, hz, hw0, hb⟩ := s_in hI hi hj
  obtain ⟨i1, i2, i3, i4, ⟨pi, i5, i6⟩, -, i9⟩ := hb i hi
  obtain ⟨j1, j2, j3, j4, ⟨pj, j5, j6⟩, ⟨lj, j7, j8⟩, j9⟩ := hb jj hj
  obtain ⟨bi0, bi1⟩ := nt_b hI hi
  obtain ⟨bj0, bj1⟩ := nt_b hI hj
  obtain ⟨iA, pA, nA, qA1, qA2, qA3, qA4, qA5, tA1, tA2, tA3, tA4, tA5, tA6, tA7, -⟩ := b_in hp hI bi0 bi1
  obtain ⟨iB, pB, nB, qB1, qB2, qB3, qB4, qB5, tB1, tB2, tB3, tB4, tB5, tB6, tB7, -⟩ := b_in hp hI bj0 bj1
  have n5 : nt σ ≤ 5 := by
    obtain ⟨n, ps, bt, sr, hI⟩ := hI
    obtain ⟨-, -, e5⟩ := IN_n hI
    obtain ⟨⟨-, -, -, -, -, e4, e6, -⟩, -⟩ := hI
    omega
  rw [nI_c (a := i) (by omega)] at qA2
  rw [nI_c (a := jj) (by omega)] at qB2
  subst qA2
  subst qB2
  have ep : (σ 8 i).toNatClampNeg = pi := by rw [i5]; exact nI_c (by omega)
  have eq : (σ 8 jj).toNatClampNeg = pj := by rw [j5]; exact nI_c (by omega)
  have el : (σ 9 jj).toNatClampNeg = lj := by rw [j7]; exact nI_c (by omega)
  obtain ⟨⟨z1, z2, z3, z4, z5, z6, z7, z8, z9, z10, z11⟩, ⟨t1, t2, t3, t4⟩, hkp⟩ := id hp
  have hC : fC (nn σ) (hN σ) (nN σ i) (nN σ jj) (cN σ jj) i jj := ⟨n2, n4, fun q hq => (hH q hq).1, i2, j2, j4, by omega, by omega, hij⟩
  have x0 : x 0 = nI (nn σ) := by rw [z1, n0]
  have hg37 : ∀ q, q < nn σ → g 37 q = nI (wN σ q) := fun q hq => by rw [(t1 q hq).2.2]; exact hw q (by omega)
  have hB : fB (nn σ) (hN σ) (nN σ i) (nN σ jj) (cN σ jj) i jj (upd x 12 (x 12 + 1)) g := ⟨x0, by rw [hg37 0 (by omega), hw0], fun q hq => by rw [(t1 q hq).1]; exact (hH q hq).2.1, by rw [tA1, tA2, tA6]; exact i1, by rw [tB1, tB2, tB6]; exact j1, by rw [tB1, tB3, tB7]; exact j3⟩
  have hD : fD (nn σ) i jj g (wN σ) lj pj pi := ⟨fun q _ hq => hg37 q hq, by rw [tA4, i5], by rw [tB4, j5], by rw [tB5, j7]⟩
  have hT : TB (nn σ) (wN σ) lj pj pi := by
    refine ⟨fun q q1 q2 => ?_, hz, by omega, by omega, by omega⟩
    by_cases hq : q < nn σ
    · have := hH q hq; omega
    · rw [hz q (by omega) q2]; omega
  have hm2 : MH (upd x 12 (x 12 + 1)) u v g j (p_set h 34 (oX (upd x 12 (x 12 + 1)) u v)) := MH_x hm
  have hCF0 : CF h (p_set h 34 (oX (upd x 12 (x 12 + 1)) u v)) := CF_st (CF_rf h) (by decide) (by decide)
  have z5' : upd x 12 (x 12 + 1) 12 = σ 0 5 + 1 := by rw [pk_us, z5]
  refine c141 hm2 hC hB hD hT (fun ht => ?_) (fun ht => ?_) (fun ht h3 x3 g3 hm3 hS3 hD3 hF3 => ?_)
  · have er : rs σ i jj = (0, -1) := by unfold rs; rw [ep, if_pos ht]
    rw [er] at hK
    exact hK _ ⟨_, _, _, _, _, hm2, ⟨z1, z2, z3, z4, z5', z6, z7, z8, z9, z10, z11⟩, ⟨t1, t2, t3, t4⟩, hkp⟩ hCF0
  · have := (VC_c0 hI hi hj (by rw [ep]; exact ht)).1
    unfold c0 at this
    rw [ep, eq, el] at this
    exact this
  · have er : rs σ i jj = so (se (nn σ) (hN σ) (nN σ i) (nN σ jj) (cN σ jj) 18145 [mkc (wN σ) lj pj pi + 65536 * 31] 0 1 0) := by
      unfold rs c0
      rw [ep, eq, el, if_neg ht]
    rw [er] at hK
    obtain ⟨s1, s2, s3, s4, s5⟩ := hS3
    obtain ⟨d1, d2, d3, d4⟩ := hD3
    have e35 := s2 35 (by decide) (by decide) (by decide) (by decide) (by decide)
    have e36 := s2 36 (by decide) (by decide) (by decide) (by decide) (by decide)
    have e38 := s2 38 (by decide) (by decide) (by decide) (by decide) (by decide)
    have e39 := s2 39 (by decide) (by decide) (by decide) (by decide) (by decide)
    have e40 := s2 40 (by decide) (by decide) (by decide) (by decide) (by decide)
    have e43 := s2 43 (by decide) (by decide) (by decide) (by decide) (by decide)
    have e44 := s2 44 (by decide) (by decide) (by decide) (by decide) (by decide)
    have e53 := s2 53 (by decide) (by decide) (by decide) (by decide) (by decide)
    have e54 := s2 54 (by decide) (by decide) (by decide) (by decide) (by decide)
    have e55 := s2 55 (by decide) (by decide) (by decide) (by decide) (by decide)
    have e56 := s2 56 (by decide) (by decide) (by decide) (by decide) (by decide)
    have hxq : ∀ q, q ≠ 26 → q ≠ 12 → x3 q = x q := fun q q1 q2 => by rw [s1 q q1, pk_un q2]
    have hMR : MR (s0 σ 5 (σ 0 5 + 1)) h3 := by
      refine ⟨x3, u, v, g3, j, hm3, ⟨?_, ?_, ?_, ?_, ?_, ?_, ?_, ?_, ?_, ?_, ?_⟩, ⟨fun q hq => ?_, fun q hq => ?_, fun q hq => ?_, fun q hq => ?_⟩, fun q1 q2 => ?_⟩
      · rw [hxq 0 (by decide) (by decide)]; exact z1
      · rw [hxq 4 (by decide) (by decide)]; exact z2
      · rw [hxq 5 (by decide) (by decide)]; exact z3
      · rw [hxq 6 (by decide) (by decide)]; exact z4
      · rw [s1 12 (by decide)]; exact z5'
      · rw [hxq 13 (by decide) (by decide)]; exact z6
      · rw [hxq 14 (by decide) (by decide)]; exact z7
      · rw [hxq 15 (by decide) (by decide)]; exact z8
      · rw [hxq 17 (by decide) (by decide)]; exact z9
      · rw [hxq 33 (by decide) (by decide)]; exact z10
      · rw [hxq 34 (by decide) (by decide)]; exact z11
      · have hq : q < nn σ := hq
        rw [e35, e36]
        refine ⟨(t1 q hq).1, (t1 q hq).2.1, ?_⟩
        show g3 37 q = σ 3 q
        by_cases h0 : q = 0
        · subst h0
          rw [s3]; exact (t1 0 hq).2.2
        · rw [d1 q (by omega) hq, hw q (by omega)]
      · have hq : q < nt σ := hq
        obtain ⟨y1, y2, y3, y4, y5⟩ := t2 q hq
        rw [e38, e39, e40]
        refine ⟨y1, y2, y3, ?_, ?_⟩
        · show g3 41 q = σ 8 q
          by_cases q1 : q = i
          · subst q1; rw [d2, i5]
          · by_cases q2 : q = jj
            · subst q2; rw [d3, j5]
            · rw [s4 q q1 q2]; exact y4
        · show g3 42 q = σ 9 q
          by_cases q2 : q = jj
          · subst q2; rw [d4, j7]
          · rw [s5 q q2]; exact y5
      · rw [e43]; exact t3 q hq
      · rw [e44]; exact t4 q hq
      · obtain ⟨⟨k1, k2, k3, k4, k5⟩, k6, k7, k8⟩ := hkp q1 q2
        refine ⟨⟨?_, ?_, ?_, ?_, ?_⟩, ?_, ?_, ?_⟩
        · rw [hxq 35 (by decide) (by decide)]; exact k1
        · rw [hxq 36 (by decide) (by decide)]; exact k2
        · rw [hxq 37 (by decide) (by decide)]; exact k3
        · rw [hxq 38 (by decide) (by decide)]; exact k4
        · rw [hxq 39 (by decide) (by decide)]; exact k5
        · rw [e53]; exact k6
        · rw [e54, e55]; exact k7
        · rw [e56]; exact k8
    have := hK h3 hMR (CF_tr hCF0 hF3)
    rcases hk with rfl | rfl
    · rw [if_pos rfl] at this
      rw [if_neg (by decide)]
      exact this
    · rw [if_neg (by decide)] at this
      rw [if_pos rfl]
      exact this
theorem y_fewest {b c k : Int32} (hR : MR σ h) (hI : IV σ) (hK : ∀ h2, MR (f_fewest σ b c k).2 h2 → CF h h2 → K (some (.int (f_fewest σ b c k).1)) h2) : Vm 143 [.ref 34, .int b, .int c, .int k] h K := by
  obtain ⟨x, u, v, g, j, hm, hp⟩ := id hR
  have h34 := hm.1
  unfold f_fewest at hK
  by_cases b0 : b < 0
  · simp only [b0, if_true] at hK
    simp (decide := true) only [e143_0, e143_1, e143_2, e143_5, e143_8, e143_9, e143_10, e143_13, e143_16, e143_17, e143_18, e143_21, e143_23, e143_24, e143_25, e143_26, e143_27, e143_30, e143_33, e143_35, e143_36, e143_37, e143_40, e143_41, e143_42, e143_45, e143_48, e143_49, e143_52, e143_54, e143_57, e143_59, e143_60, e143_61, e143_61i, e143_62, e143_65, e143_66, e143_67, e143_70, e143_71, e143_72, e143_73, e143_74, e143_77, m143, ok_12_7_12, fv45_7, ok_12_12_12, fv45_12, fs45_12, Kt_some, Kt_none, V_ite, g_if, g_ss, g_1, g_2, g_cn, g_iok, g_sok, g_bok, g_jok, g_qok, g_ivl, g_jvl, g_qvl, g_ist, g_bst, g_jst, g_qst, g_aln, g_isa, g_dl1, g_dl2, g_dl3, g_dl4, g_dl5, g_dd, g_rfs, g_rfn, p_sm0, p_sm1, p_sm2, p_sm3, p_sm4, true_and, and_true, if_true, if_false, ↓reduceIte, Nat.reduceEqDiff, reduceCtorEq, or_true, true_or, and_self, Int32.reduceLT, Int32.reduceAdd, Int32.reduceSub, Int32.reduceToNatClampNeg, not_false_eq_true, not_true_eq_false, xcn, xok_0, xfv_0, xfs_0, xok_1, xfv_1, xok_2, xfv_2, xok_3, xfv_3, xok_4, xfv_4, xfs_4, xok_5, xfv_5, xfs_5, xok_6, xfv_6, xfs_6, xok_7, xfv_7, xok_8, xfv_8, xok_9, xfv_9, xok_10, xfv_10, xok_11, xfv_11, xok_12, xfv_12, xfs_12, xok_13, xfv_13, xfs_13, xok_14, xfv_14, xfs_14, xok_15, xfv_15, xfs_15, xok_16, xfv_16, xok_17, xfv_17, xfs_17, xok_18, xfv_18, xok_19, xfv_19, xfs_19, xok_20, xfv_20, xfs_20, xok_21, xfv_21, xfs_21, xok_22, xfv_22, xok_23, xfv_23, xok_24, xfv_24, xok_25, xfv_25, xok_26, xfv_26, xfs_26, xok_27, xfv_27, xok_28, xfv_28, xok_29, xfv_29, xok_30, xfv_30, xfs_30, xok_31, xfv_31, xfs_31, xok_32, xfv_32, xok_33, xfv_33, xfs_33, xok_34, xfv_34, xfs_34, xok_35, xfv_35, xfs_35, xok_36, xfv_36, xfs_36, xok_37, xfv_37, xfs_37, xok_38, xfv_38, xfs_38, xok_39, xfv_39, xfs_39, xok_40, xfv_40, xok_41, xfv_41, xok_42, xfv_42, xok_43, xfv_43, xok_44, xfv_44, xfs_44, h34, c115 h34, b0]
    exact hK h hR (CF_rf h)
  have eb := isb hp hI b0
  by_cases b1 : b < σ 0 2
  · by_cases c0 : c < 0
    · simp only [b0, b1, c0, if_true, if_false] at hK
      simp (decide := true) only [e143_0, e143_1, e143_2, e143_5, e143_8, e143_9, e143_10, e143_13, e143_16, e143_17, e143_18, e143_21, e143_23, e143_24, e143_25, e143_26, e143_27, e143_30, e143_33, e143_35, e143_36, e143_37, e143_40, e143_41, e143_42, e143_45, e143_48, e143_49, e143_52, e143_54, e143_57, e143_59, e143_60, e143_61, e143_61i, e143_62, e143_65, e143_66, e143_67, e143_70, e143_71, e143_72, e143_73, e143_74, e143_77, m143, ok_12_7_12, fv45_7, ok_12_12_12, fv45_12, fs45_12, Kt_some, Kt_none, V_ite, g_if, g_ss, g_1, g_2, g_cn, g_iok, g_sok, g_bok, g_jok, g_qok, g_ivl, g_jvl, g_qvl, g_ist, g_bst, g_jst, g_qst, g_aln, g_isa, g_dl1, g_dl2, g_dl3, g_dl4, g_dl5, g_dd, g_rfs, g_rfn, p_sm0, p_sm1, p_sm2, p_sm3, p_sm4, true_and, and_true, if_true, if_false, ↓reduceIte, Nat.reduceEqDiff, reduceCtorEq, or_true, true_or, and_self, Int32.reduceLT, Int32.reduceAdd, Int32.reduceSub, Int32.reduceToNatClampNeg, not_false_eq_true, not_true_eq_false, xcn, xok_0, xfv_0, xfs_0, xok_1, xfv_1, xok_2, xfv_2, xok_3, xfv_3, xok_4, xfv_4, xfs_4, xok_5, xfv_5, xfs_5, xok_6, xfv_6, xfs_6, xok_7, xfv_7, xok_8, xfv_8, xok_9, xfv_9, xok_10, xfv_10, xok_11, xfv_11, xok_12, xfv_12, xfs_12, xok_13, xfv_13, xfs_13, xok_14, xfv_14, xfs_14, xok_15, xfv_15, xfs_15, xok_16, xfv_16, xok_17, xfv_17, xfs_17, xok_18, xfv_18, xok_19, xfv_19, xfs_19, xok_20, xfv_20, xfs_20, xok_21, xfv_21, xfs_21, xok_22, xfv_22, xok_23, xfv_23, xok_24, xfv_24, xok_25, xfv_25, xok_26, xfv_26, xfs_26, xok_27, xfv_27, xok_28, xfv_28, xok_29, xfv_29, xok_30, xfv_30, xfs_30, xok_31, xfv_31, xfs_31, xok_32, xfv_32, xok_33, xfv_33, xfs_33, xok_34, xfv_34, xfs_34, xok_35, xfv_35, xfs_35, xok_36, xfv_36, xfs_36, xok_37, xfv_37, xfs_37, xok_38, xfv_38, xfs_38, xok_39, xfv_39, xfs_39, xok_40, xfv_40, xok_41, xfv_41, xok_42, xfv_42, xok_43, xfv_43, xok_44, xfv_44, xfs_44, h34, c115 h34, b0, eb, b1, c0]
      exact hK h hR (CF_rf h)
    have ec := isb hp hI c0
    by_cases c1 : c < σ 0 2
    · by_cases bc : b = c
      · simp only [b0, b1, c0, c1, bc, if_true, if_false] at hK
        have bc2 : (b = c) = True := eq_true bc
        simp (decide := true) only [e143_0, e143_1, e143_2, e143_5, e143_8, e143_9, e143_10, e143_13, e143_16, e143_17, e143_18, e143_21, e143_23, e143_24, e143_25, e143_26, e143_27, e143_30, e143_33, e143_35, e143_36, e143_37, e143_40, e143_41, e143_42, e143_45, e143_48, e143_49, e143_52, e143_54, e143_57, e143_59, e143_60, e143_61, e143_61i, e143_62, e143_65, e143_66, e143_67, e143_70, e143_71, e143_72, e143_73, e143_74, e143_77, m143, ok_12_7_12, fv45_7, ok_12_12_12, fv45_12, fs45_12, Kt_some, Kt_none, V_ite, g_if, g_ss, g_1, g_2, g_cn, g_iok, g_sok, g_bok, g_jok, g_qok, g_ivl, g_jvl, g_qvl, g_ist, g_bst, g_jst, g_qst, g_aln, g_isa, g_dl1, g_dl2, g_dl3, g_dl4, g_dl5, g_dd, g_rfs, g_rfn, p_sm0, p_sm1, p_sm2, p_sm3, p_sm4, true_and, and_true, if_true, if_false, ↓reduceIte, Nat.reduceEqDiff, reduceCtorEq, or_true, true_or, and_self, Int32.reduceLT, Int32.reduceAdd, Int32.reduceSub, Int32.reduceToNatClampNeg, not_false_eq_true, not_true_eq_false, xcn, xok_0, xfv_0, xfs_0, xok_1, xfv_1, xok_2, xfv_2, xok_3, xfv_3, xok_4, xfv_4, xfs_4, xok_5, xfv_5, xfs_5, xok_6, xfv_6, xfs_6, xok_7, xfv_7, xok_8, xfv_8, xok_9, xfv_9, xok_10, xfv_10, xok_11, xfv_11, xok_12, xfv_12, xfs_12, xok_13, xfv_13, xfs_13, xok_14, xfv_14, xfs_14, xok_15, xfv_15, xfs_15, xok_16, xfv_16, xok_17, xfv_17, xfs_17, xok_18, xfv_18, xok_19, xfv_19, xfs_19, xok_20, xfv_20, xfs_20, xok_21, xfv_21, xfs_21, xok_22, xfv_22, xok_23, xfv_23, xok_24, xfv_24, xok_25, xfv_25, xok_26, xfv_26, xfs_26, xok_27, xfv_27, xok_28, xfv_28, xok_29, xfv_29, xok_30, xfv_30, xfs_30, xok_31, xfv_31, xfs_31, xok_32, xfv_32, xok_33, xfv_33, xfs_33, xok_34, xfv_34, xfs_34, xok_35, xfv_35, xfs_35, xok_36, xfv_36, xfs_36, xok_37, xfv_37, xfs_37, xok_38, xfv_38, xfs_38, xok_39, xfv_39, xfs_39, xok_40, xfv_40, xok_41, xfv_41, xok_42, xfv_42, xok_43, xfv_43, xok_44, xfv_44, xfs_44, h34, c115 h34, b0, eb, b1, c0, ec, c1, bc2]
        exact hK h hR (CF_rf h)
      have bc2 : (b = c) = False := eq_false bc
      by_cases k0 : k < 0
      · simp only [b0, b1, c0, c1, bc, k0, if_true, if_false] at hK
        simp (decide := true) only [e143_0, e143_1, e143_2, e143_5, e143_8, e143_9, e143_10, e143_13, e143_16, e143_17, e143_18, e143_21, e143_23, e143_24, e143_25, e143_26, e143_27, e143_30, e143_33, e143_35, e143_36, e143_37, e143_40, e143_41, e143_42, e143_45, e143_48, e143_49, e143_52, e143_54, e143_57, e143_59, e143_60, e143_61, e143_61i, e143_62, e143_65, e143_66, e143_67, e143_70, e143_71, e143_72, e143_73, e143_74, e143_77, m143, ok_12_7_12, fv45_7, ok_12_12_12, fv45_12, fs45_12, Kt_some, Kt_none, V_ite, g_if, g_ss, g_1, g_2, g_cn, g_iok, g_sok, g_bok, g_jok, g_qok, g_ivl, g_jvl, g_qvl, g_ist, g_bst, g_jst, g_qst, g_aln, g_isa, g_dl1, g_dl2, g_dl3, g_dl4, g_dl5, g_dd, g_rfs, g_rfn, p_sm0, p_sm1, p_sm2, p_sm3, p_sm4, true_and, and_true, if_true, if_false, ↓reduceIte, Nat.reduceEqDiff, reduceCtorEq, or_true, true_or, and_self, Int32.reduceLT, Int32.reduceAdd, Int32.reduceSub, Int32.reduceToNatClampNeg, not_false_eq_true, not_true_eq_false, xcn, xok_0, xfv_0, xfs_0, xok_1, xfv_1, xok_2, xfv_2, xok_3, xfv_3, xok_4, xfv_4, xfs_4, xok_5, xfv_5, xfs_5, xok_6, xfv_6, xfs_6, xok_7, xfv_7, xok_8, xfv_8, xok_9, xfv_9, xok_10, xfv_10, xok_11, xfv_11, xok_12, xfv_12, xfs_12, xok_13, xfv_13, xfs_13, xok_14, xfv_14, xfs_14, xok_15, xfv_15, xfs_15, xok_16, xfv_16, xok_17, xfv_17, xfs_17, xok_18, xfv_18, xok_19, xfv_19, xfs_19, xok_20, xfv_20, xfs_20, xok_21, xfv_21, xfs_21, xok_22, xfv_22, xok_23, xfv_23, xok_24, xfv_24, xok_25, xfv_25, xok_26, xfv_26, xfs_26, xok_27, xfv_27, xok_28, xfv_28, xok_29, xfv_29, xok_30, xfv_30, xfs_30, xok_31, xfv_31, xfs_31, xok_32, xfv_32, xok_33, xfv_33, xfs_33, xok_34, xfv_34, xfs_34, xok_35, xfv_35, xfs_35, xok_36, xfv_36, xfs_36, xok_37, xfv_37, xfs_37, xok_38, xfv_38, xfs_38, xok_39, xfv_39, xfs_39, xok_40, xfv_40, xok_41, xfv_41, xok_42, xfv_42, xok_43, xfv_43, xok_44, xfv_44, xfs_44, h34, c115 h34, b0, eb, b1, c0, ec, c1, bc2, c106, k0]
        exact hK h hR (CF_rf h)
      by_cases k1 : 1 < k
      · simp only [b0, b1, c0, c1, bc, k0, k1, if_true, if_false] at hK
        simp (decide := true) only [e143_0, e143_1, e143_2, e143_5, e143_8, e143_9, e143_10, e143_13, e143_16, e143_17, e143_18, e143_21, e143_23, e143_24, e143_25, e143_26, e143_27, e143_30, e143_33, e143_35, e143_36, e143_37, e143_40, e143_41, e143_42, e143_45, e143_48, e143_49, e143_52, e143_54, e143_57, e143_59, e143_60, e143_61, e143_61i, e143_62, e143_65, e143_66, e143_67, e143_70, e143_71, e143_72, e143_73, e143_74, e143_77, m143, ok_12_7_12, fv45_7, ok_12_12_12, fv45_12, fs45_12, Kt_some, Kt_none, V_ite, g_if, g_ss, g_1, g_2, g_cn, g_iok, g_sok, g_bok, g_jok, g_qok, g_ivl, g_jvl, g_qvl, g_ist, g_bst, g_jst, g_qst, g_aln, g_isa, g_dl1, g_dl2, g_dl3, g_dl4, g_dl5, g_dd, g_rfs, g_rfn, p_sm0, p_sm1, p_sm2, p_sm3, p_sm4, true_and, and_true, if_true, if_false, ↓reduceIte, Nat.reduceEqDiff, reduceCtorEq, or_true, true_or, and_self, Int32.reduceLT, Int32.reduceAdd, Int32.reduceSub, Int32.reduceToNatClampNeg, not_false_eq_true, not_true_eq_false, xcn, xok_0, xfv_0, xfs_0, xok_1, xfv_1, xok_2, xfv_2, xok_3, xfv_3, xok_4, xfv_4, xfs_4, xok_5, xfv_5, xfs_5, xok_6, xfv_6, xfs_6, xok_7, xfv_7, xok_8, xfv_8, xok_9, xfv_9, xok_10, xfv_10, xok_11, xfv_11, xok_12, xfv_12, xfs_12, xok_13, xfv_13, xfs_13, xok_14, xfv_14, xfs_14, xok_15, xfv_15, xfs_15, xok_16, xfv_16, xok_17, xfv_17, xfs_17, xok_18, xfv_18, xok_19, xfv_19, xfs_19, xok_20, xfv_20, xfs_20, xok_21, xfv_21, xfs_21, xok_22, xfv_22, xok_23, xfv_23, xok_24, xfv_24, xok_25, xfv_25, xok_26, xfv_26, xfs_26, xok_27, xfv_27, xok_28, xfv_28, xok_29, xfv_29, xok_30, xfv_30, xfs_30, xok_31, xfv_31, xfs_31, xok_32, xfv_32, xok_33, xfv_33, xfs_33, xok_34, xfv_34, xfs_34, xok_35, xfv_35, xfs_35, xok_36, xfv_36, xfs_36, xok_37, xfv_37, xfs_37, xok_38, xfv_38, xfs_38, xok_39, xfv_39, xfs_39, xok_40, xfv_40, xok_41, xfv_41, xok_42, xfv_42, xok_43, xfv_43, xok_44, xfv_44, xfs_44, h34, c115 h34, b0, eb, b1, c0, ec, c1, bc2, c106, k0, k1]
        exact hK h hR (CF_rf h)
      obtain ⟨i, hi1, hi2, hi3, hi4, hi5, hi6, hi7⟩ := bt_in hI b0 b1
      obtain ⟨jj, p, n, q1, q2, q3, q4, q5, t1, t2, t3, t4, t5, t6, t7, t8, -⟩ := b_in hp hI c0 c1
      have hck := ck_is t8
      simp only [b0, b1, c0, c1, bc, k0, k1, if_true, if_false, hi2, q2] at hK
      have z5 : x 12 = σ 0 5 := hp.1.2.2.2.2.1
      by_cases hpi : p_is (kc (σ 5 jj)) 2 = true
      · rw [hpi] at hck
        obtain ⟨qa, qa1, qa2⟩ : ∃ q : Nat, σ 0 5 = nI q ∧ q ≤ 40 := by
          obtain ⟨n, ps, bt, sr, -, -, -, -, -, -, -, ⟨m, q1, -, q2⟩, -⟩ := hI
          exact ⟨m, q1, q2⟩
        by_cases h40 : σ 0 5 < 40
        · simp only [hpi, h40, if_true] at hK
          have e40 : (σ 0 5 = 40) = False := eq_false (fun q => by rw [q] at h40; exact absurd h40 (by decide))
          have hk2 : k = 0 ∨ k = 1 := by
            obtain ⟨m, hm31, rfl⟩ := nI_of k0
            have : m ≤ 1 := Nat.not_lt.mp (fun q => k1 (nI_lt (a := 1) q (by omega)))
            rcases (show m = 0 ∨ m = 1 by omega) with rfl | rfl
            · exact Or.inl rfl
            · exact Or.inr rfl
          simp (decide := true) only [e143_0, e143_1, e143_2, e143_5, e143_8, e143_9, e143_10, e143_13, e143_16, e143_17, e143_18, e143_21, e143_23, e143_24, e143_25, e143_26, e143_27, e143_30, e143_33, e143_35, e143_36, e143_37, e143_40, e143_41, e143_42, e143_45, e143_48, e143_49, e143_52, e143_54, e143_57, e143_59, e143_60, e143_61, e143_61i, e143_62, e143_65, e143_66, e143_67, e143_70, e143_71, e143_72, e143_73, e143_74, e143_77, m143, ok_12_7_12, fv45_7, ok_12_12_12, fv45_12, fs45_12, Kt_some, Kt_none, V_ite, g_if, g_ss, g_1, g_2, g_cn, g_iok, g_sok, g_bok, g_jok, g_qok, g_ivl, g_jvl, g_qvl, g_ist, g_bst, g_jst, g_qst, g_aln, g_isa, g_dl1, g_dl2, g_dl3, g_dl4, g_dl5, g_dd, g_rfs, g_rfn, p_sm0, p_sm1, p_sm2, p_sm3, p_sm4, true_and, and_true, if_true, if_false, ↓reduceIte, Nat.reduceEqDiff, reduceCtorEq, or_true, true_or, and_self, Int32.reduceLT, Int32.reduceAdd, Int32.reduceSub, Int32.reduceToNatClampNeg, not_false_eq_true, not_true_eq_false, xcn, xok_0, xfv_0, xfs_0, xok_1, xfv_1, xok_2, xfv_2, xok_3, xfv_3, xok_4, xfv_4, xfs_4, xok_5, xfv_5, xfs_5, xok_6, xfv_6, xfs_6, xok_7, xfv_7, xok_8, xfv_8, xok_9, xfv_9, xok_10, xfv_10, xok_11, xfv_11, xok_12, xfv_12, xfs_12, xok_13, xfv_13, xfs_13, xok_14, xfv_14, xfs_14, xok_15, xfv_15, xfs_15, xok_16, xfv_16, xok_17, xfv_17, xfs_17, xok_18, xfv_18, xok_19, xfv_19, xfs_19, xok_20, xfv_20, xfs_20, xok_21, xfv_21, xfs_21, xok_22, xfv_22, xok_23, xfv_23, xok_24, xfv_24, xok_25, xfv_25, xok_26, xfv_26, xfs_26, xok_27, xfv_27, xok_28, xfv_28, xok_29, xfv_29, xok_30, xfv_30, xfs_30, xok_31, xfv_31, xfs_31, xok_32, xfv_32, xok_33, xfv_33, xfs_33, xok_34, xfv_34, xfs_34, xok_35, xfv_35, xfs_35, xok_36, xfv_36, xfs_36, xok_37, xfv_37, xfs_37, xok_38, xfv_38, xfs_38, xok_39, xfv_39, xfs_39, xok_40, xfv_40, xok_41, xfv_41, xok_42, xfv_42, xok_43, xfv_43, xok_44, xfv_44, xfs_44, h34, c115 h34, b0, eb, b1, c0, ec, c1, bc2, c106, k0, k1, h38 hm, q5, q2, t1, c116, hck, z5, e40]
          have := fun hK2 => y_few0 (Q := Kt 143 77 [some (.ref 34), some (.int b), some (.int c), some (.int k)] [] K) (k := k) hm hp hI hi3 q3 (fun q => bc (by rw [hi1, q1, q])) hk2 hK2
          rw [← hi1, ← q1, z5] at this
          refine this (fun h2 r1 r2 => ?_)
          simp (decide := true) only [e143_0, e143_1, e143_2, e143_5, e143_8, e143_9, e143_10, e143_13, e143_16, e143_17, e143_18, e143_21, e143_23, e143_24, e143_25, e143_26, e143_27, e143_30, e143_33, e143_35, e143_36, e143_37, e143_40, e143_41, e143_42, e143_45, e143_48, e143_49, e143_52, e143_54, e143_57, e143_59, e143_60, e143_61, e143_61i, e143_62, e143_65, e143_66, e143_67, e143_70, e143_71, e143_72, e143_73, e143_74, e143_77, m143, ok_12_7_12, fv45_7, ok_12_12_12, fv45_12, fs45_12, Kt_some, Kt_none, V_ite, g_if, g_ss, g_1, g_2, g_cn, g_iok, g_sok, g_bok, g_jok, g_qok, g_ivl, g_jvl, g_qvl, g_ist, g_bst, g_jst, g_qst, g_aln, g_isa, g_dl1, g_dl2, g_dl3, g_dl4, g_dl5, g_dd, g_rfs, g_rfn, p_sm0, p_sm1, p_sm2, p_sm3, p_sm4, true_and, and_true, if_true, if_false, ↓reduceIte, Nat.reduceEqDiff, reduceCtorEq, or_true, true_or, and_self, Int32.reduceLT, Int32.reduceAdd, Int32.reduceSub, Int32.reduceToNatClampNeg, not_false_eq_true, not_true_eq_false]
          exact hK h2 r1 r2
        · simp only [hpi, h40, if_true, if_false] at hK
          have e40 : (σ 0 5 = 40) = True := eq_true (by
            rw [qa1] at h40 ⊢
            have : ¬ qa < 40 := fun q => h40 (nI_lt (a := qa) (b := 40) q (by omega))
            rw [show qa = 40 by omega]
            rfl)
          simp (decide := true) only [e143_0, e143_1, e143_2, e143_5, e143_8, e143_9, e143_10, e143_13, e143_16, e143_17, e143_18, e143_21, e143_23, e143_24, e143_25, e143_26, e143_27, e143_30, e143_33, e143_35, e143_36, e143_37, e143_40, e143_41, e143_42, e143_45, e143_48, e143_49, e143_52, e143_54, e143_57, e143_59, e143_60, e143_61, e143_61i, e143_62, e143_65, e143_66, e143_67, e143_70, e143_71, e143_72, e143_73, e143_74, e143_77, m143, ok_12_7_12, fv45_7, ok_12_12_12, fv45_12, fs45_12, Kt_some, Kt_none, V_ite, g_if, g_ss, g_1, g_2, g_cn, g_iok, g_sok, g_bok, g_jok, g_qok, g_ivl, g_jvl, g_qvl, g_ist, g_bst, g_jst, g_qst, g_aln, g_isa, g_dl1, g_dl2, g_dl3, g_dl4, g_dl5, g_dd, g_rfs, g_rfn, p_sm0, p_sm1, p_sm2, p_sm3, p_sm4, true_and, and_true, if_true, if_false, ↓reduceIte, Nat.reduceEqDiff, reduceCtorEq, or_true, true_or, and_self, Int32.reduceLT, Int32.reduceAdd, Int32.reduceSub, Int32.reduceToNatClampNeg, not_false_eq_true, not_true_eq_false, xcn, xok_0, xfv_0, xfs_0, xok_1, xfv_1, xok_2, xfv_2, xok_3, xfv_3, xok_4, xfv_4, xfs_4, xok_5, xfv_5, xfs_5, xok_6, xfv_6, xfs_6, xok_7, xfv_7, xok_8, xfv_8, xok_9, xfv_9, xok_10, xfv_10, xok_11, xfv_11, xok_12, xfv_12, xfs_12, xok_13, xfv_13, xfs_13, xok_14, xfv_14, xfs_14, xok_15, xfv_15, xfs_15, xok_16, xfv_16, xok_17, xfv_17, xfs_17, xok_18, xfv_18, xok_19, xfv_19, xfs_19, xok_20, xfv_20, xfs_20, xok_21, xfv_21, xfs_21, xok_22, xfv_22, xok_23, xfv_23, xok_24, xfv_24, xok_25, xfv_25, xok_26, xfv_26, xfs_26, xok_27, xfv_27, xok_28, xfv_28, xok_29, xfv_29, xok_30, xfv_30, xfs_30, xok_31, xfv_31, xfs_31, xok_32, xfv_32, xok_33, xfv_33, xfs_33, xok_34, xfv_34, xfs_34, xok_35, xfv_35, xfs_35, xok_36, xfv_36, xfs_36, xok_37, xfv_37, xfs_37, xok_38, xfv_38, xfs_38, xok_39, xfv_39, xfs_39, xok_40, xfv_40, xok_41, xfv_41, xok_42, xfv_42, xok_43, xfv_43, xok_44, xfv_44, xfs_44, h34, c115 h34, b0, eb, b1, c0, ec, c1, bc2, c106, k0, k1, h38 hm, q5, q2, t1, c116, hck, z5, e40]
          exact hK h hR (CF_rf h)
      · simp only [hpi, if_false] at hK
        rw [Bool.not_eq_true] at hpi
        rw [hpi] at hck
        simp (decide := true) only [e143_0, e143_1, e143_2, e143_5, e143_8, e143_9, e143_10, e143_13, e143_16, e143_17, e143_18, e143_21, e143_23, e143_24, e143_25, e143_26, e143_27, e143_30, e143_33, e143_35, e143_36, e143_37, e143_40, e143_41, e143_42, e143_45, e143_48, e143_49, e143_52, e143_54, e143_57, e143_59, e143_60, e143_61, e143_61i, e143_62, e143_65, e143_66, e143_67, e143_70, e143_71, e143_72, e143_73, e143_74, e143_77, m143, ok_12_7_12, fv45_7, ok_12_12_12, fv45_12, fs45_12, Kt_some, Kt_none, V_ite, g_if, g_ss, g_1, g_2, g_cn, g_iok, g_sok, g_bok, g_jok, g_qok, g_ivl, g_jvl, g_qvl, g_ist, g_bst, g_jst, g_qst, g_aln, g_isa, g_dl1, g_dl2, g_dl3, g_dl4, g_dl5, g_dd, g_rfs, g_rfn, p_sm0, p_sm1, p_sm2, p_sm3, p_sm4, true_and, and_true, if_true, if_false, ↓reduceIte, Nat.reduceEqDiff, reduceCtorEq, or_true, true_or, and_self, Int32.reduceLT, Int32.reduceAdd, Int32.reduceSub, Int32.reduceToNatClampNeg, not_false_eq_true, not_true_eq_false, xcn, xok_0, xfv_0, xfs_0, xok_1, xfv_1, xok_2, xfv_2, xok_3, xfv_3, xok_4, xfv_4, xfs_4, xok_5, xfv_5, xfs_5, xok_6, xfv_6, xfs_6, xok_7, xfv_7, xok_8, xfv_8, xok_9, xfv_9, xok_10, xfv_10, xok_11, xfv_11, xok_12, xfv_12, xfs_12, xok_13, xfv_13, xfs_13, xok_14, xfv_14, xfs_14, xok_15, xfv_15, xfs_15, xok_16, xfv_16, xok_17, xfv_17, xfs_17, xok_18, xfv_18, xok_19, xfv_19, xfs_19, xok_20, xfv_20, xfs_20, xok_21, xfv_21, xfs_21, xok_22, xfv_22, xok_23, xfv_23, xok_24, xfv_24, xok_25, xfv_25, xok_26, xfv_26, xfs_26, xok_27, xfv_27, xok_28, xfv_28, xok_29, xfv_29, xok_30, xfv_30, xfs_30, xok_31, xfv_31, xfs_31, xok_32, xfv_32, xok_33, xfv_33, xfs_33, xok_34, xfv_34, xfs_34, xok_35, xfv_35, xfs_35, xok_36, xfv_36, xfs_36, xok_37, xfv_37, xfs_37, xok_38, xfv_38, xfs_38, xok_39, xfv_39, xfs_39, xok_40, xfv_40, xok_41, xfv_41, xok_42, xfv_42, xok_43, xfv_43, xok_44, xfv_44, xfs_44, h34, c115 h34, b0, eb, b1, c0, ec, c1, bc2, c106, k0, k1, h38 hm, q5, q2, t1, c116, hck, Bool.false_eq_true]
        exact hK h hR (CF_rf h)
    · simp only [b0, b1, c0, c1, if_true, if_false] at hK
      simp (decide := true) only [e143_0, e143_1, e143_2, e143_5, e143_8, e143_9, e143_10, e143_13, e143_16, e143_17, e143_18, e143_21, e143_23, e143_24, e143_25, e143_26, e143_27, e143_30, e143_33, e143_35, e143_36, e143_37, e143_40, e143_41, e143_42, e143_45, e143_48, e143_49, e143_52, e143_54, e143_57, e143_59, e143_60, e143_61, e143_61i, e143_62, e143_65, e143_66, e143_67, e143_70, e143_71, e143_72, e143_73, e143_74, e143_77, m143, ok_12_7_12, fv45_7, ok_12_12_12, fv45_12, fs45_12, Kt_some, Kt_none, V_ite, g_if, g_ss, g_1, g_2, g_cn, g_iok, g_sok, g_bok, g_jok, g_qok, g_ivl, g_jvl, g_qvl, g_ist, g_bst, g_jst, g_qst, g_aln, g_isa, g_dl1, g_dl2, g_dl3, g_dl4, g_dl5, g_dd, g_rfs, g_rfn, p_sm0, p_sm1, p_sm2, p_sm3, p_sm4, true_and, and_true, if_true, if_false, ↓reduceIte, Nat.reduceEqDiff, reduceCtorEq, or_true, true_or, and_self, Int32.reduceLT, Int32.reduceAdd, Int32.reduceSub, Int32.reduceToNatClampNeg, not_false_eq_true, not_true_eq_false, xcn, xok_0, xfv_0, xfs_0, xok_1, xfv_1, xok_2, xfv_2, xok_3, xfv_3, xok_4, xfv_4, xfs_4, xok_5, xfv_5, xfs_5, xok_6, xfv_6, xfs_6, xok_7, xfv_7, xok_8, xfv_8, xok_9, xfv_9, xok_10, xfv_10, xok_11, xfv_11, xok_12, xfv_12, xfs_12, xok_13, xfv_13, xfs_13, xok_14, xfv_14, xfs_14, xok_15, xfv_15, xfs_15, xok_16, xfv_16, xok_17, xfv_17, xfs_17, xok_18, xfv_18, xok_19, xfv_19, xfs_19, xok_20, xfv_20, xfs_20, xok_21, xfv_21, xfs_21, xok_22, xfv_22, xok_23, xfv_23, xok_24, xfv_24, xok_25, xfv_25, xok_26, xfv_26, xfs_26, xok_27, xfv_27, xok_28, xfv_28, xok_29, xfv_29, xok_30, xfv_30, xfs_30, xok_31, xfv_31, xfs_31, xok_32, xfv_32, xok_33, xfv_33, xfs_33, xok_34, xfv_34, xfs_34, xok_35, xfv_35, xfs_35, xok_36, xfv_36, xfs_36, xok_37, xfv_37, xfs_37, xok_38, xfv_38, xfs_38, xok_39, xfv_39, xfs_39, xok_40, xfv_40, xok_41, xfv_41, xok_42, xfv_42, xok_43, xfv_43, xok_44, xfv_44, xfs_44, h34, c115 h34, b0, eb, b1, c0, ec, c1]
      exact hK h hR (CF_rf h)
  · simp only [b0, b1, if_true, if_false] at hK
    simp (decide := true) only [e143_0, e143_1, e143_2, e143_5, e143_8, e143_9, e143_10, e143_13, e143_16, e143_17, e143_18, e143_21, e143_23, e143_24, e143_25, e143_26, e143_27, e143_30, e143_33, e143_35, e143_36, e143_37, e143_40, e143_41, e143_42, e143_45, e143_48, e143_49, e143_52, e143_54, e143_57, e143_59, e143_60, e143_61, e143_61i, e143_62, e143_65, e143_66, e143_67, e143_70, e143_71, e143_72, e143_73, e143_74, e143_77, m143, ok_12_7_12, fv45_7, ok_12_12_12, fv45_12, fs45_12, Kt_some, Kt_none, V_ite, g_if, g_ss, g_1, g_2, g_cn, g_iok, g_sok, g_bok, g_jok, g_qok, g_ivl, g_jvl, g_qvl, g_ist, g_bst, g_jst, g_qst, g_aln, g_isa, g_dl1, g_dl2, g_dl3, g_dl4, g_dl5, g_dd, g_rfs, g_rfn, p_sm0, p_sm1, p_sm2, p_sm3, p_sm4, true_and, and_true, if_true, if_false, ↓reduceIte, Nat.reduceEqDiff, reduceCtorEq, or_true, true_or, and_self, Int32.reduceLT, Int32.reduceAdd, Int32.reduceSub, Int32.reduceToNatClampNeg, not_false_eq_true, not_true_eq_false, xcn, xok_0, xfv_0, xfs_0, xok_1, xfv_1, xok_2, xfv_2, xok_3, xfv_3, xok_4, xfv_4, xfs_4, xok_5, xfv_5, xfs_5, xok_6, xfv_6, xfs_6, xok_7, xfv_7, xok_8, xfv_8, xok_9, xfv_9, xok_10, xfv_10, xok_11, xfv_11, xok_12, xfv_12, xfs_12, xok_13, xfv_13, xfs_13, xok_14, xfv_14, xfs_14, xok_15, xfv_15, xfs_15, xok_16, xfv_16, xok_17, xfv_17, xfs_17, xok_18, xfv_18, xok_19, xfv_19, xfs_19, xok_20, xfv_20, xfs_20, xok_21, xfv_21, xfs_21, xok_22, xfv_22, xok_23, xfv_23, xok_24, xfv_24, xok_25, xfv_25, xok_26, xfv_26, xfs_26, xok_27, xfv_27, xok_28, xfv_28, xok_29, xfv_29, xok_30, xfv_30, xfs_30, xok_31, xfv_31, xfs_31, xok_32, xfv_32, xok_33, xfv_33, xfs_33, xok_34, xfv_34, xfs_34, xok_35, xfv_35, xfs_35, xok_36, xfv_36, xfs_36, xok_37, xfv_37, xfs_37, xok_38, xfv_38, xfs_38, xok_39, xfv_39, xfs_39, xok_40, xfv_40, xok_41, xfv_41, xok_42, xfv_42, xok_43, xfv_43, xok_44, xfv_44, xfs_44, h34, c115 h34, b0, eb, b1]
    exact hK h hR (CF_rf h)
end S64
