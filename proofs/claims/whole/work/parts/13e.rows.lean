section EE
variable {L : pL} {st : List Value} {h : pH} {Q : Option Value → pH → Prop} {l0 l1 l2 l3 l4 l5 l6 l7 l8 l9 l10 l11 l12 : Option Value} {a b b1 b2 b3 b4 : Nat} {i x z x1 x2 x3 x4 x5 : Int32} {u w u1 u2 : Int64}
theorem e168_0 : V 168 0 L st h Q = V 168 1 L (.int 0 :: st) h Q := V_c (by decide +kernel : decode (p_c 168) 0 = .ok (.iconst 0, 1)) (by decide)
theorem e168_1 : V 168 1 [l0, l1, l2, l3, l4] (.int x :: st) h Q = V 168 2 [l0, l1, p_dl l2, some (.int x), l4] st h Q := V_nx (by decide +kernel : decode (p_c 168) 1 = .ok (.istore_n 3, 1)) rfl rfl
theorem e168_2 : V 168 2 [some (.ref a), l1, l2, l3, l4] st h Q = V 168 3 [some (.ref a), l1, l2, l3, l4] (.ref a :: st) h Q := V_nx (by decide +kernel : decode (p_c 168) 2 = .ok (.aload_n 0, 1)) rfl rfl
theorem e168_3 : V 168 3 L (.ref a :: st) h Q = (p_isa (p_get h a) ∧ V 168 4 L (.int (Int32.ofNat (p_aln (p_get h a))) :: st) h Q) := V_len (by decide +kernel : decode (p_c 168) 3 = .ok (.arraylength, 1))
theorem e168_4 : V 168 4 [l0, l1, l2, l3, l4] (.int x :: st) h Q = V 168 6 [l0, l1, l2, p_dl l3, some (.int x)] st h Q := V_nx (by decide +kernel : decode (p_c 168) 4 = .ok (.istore 4, 2)) rfl rfl
theorem e168_6 : V 168 6 [l0, l1, l2, some (.int x), l4] st h Q = V 168 7 [l0, l1, l2, some (.int x), l4] (.int x :: st) h Q := V_nx (by decide +kernel : decode (p_c 168) 6 = .ok (.iload_n 3, 1)) rfl rfl
theorem e168_7 : V 168 7 [l0, l1, l2, l3, some (.int x)] st h Q = V 168 9 [l0, l1, l2, l3, some (.int x)] (.int x :: st) h Q := V_nx (by decide +kernel : decode (p_c 168) 7 = .ok (.iload 4, 2)) rfl rfl
theorem e168_9 : V 168 9 L (.int z :: .int x :: st) h Q = if x < z then V 168 12 L st h Q else V 168 22 L st h Q := (V_icmp (by decide +kernel : decode (p_c 168) 9 = .ok (.if_icmp .ge 13, 3)) (by decide)).trans i_ge
theorem e168_12 : V 168 12 [some (.ref a), l1, l2, l3, l4] st h Q = V 168 13 [some (.ref a), l1, l2, l3, l4] (.ref a :: st) h Q := V_nx (by decide +kernel : decode (p_c 168) 12 = .ok (.aload_n 0, 1)) rfl rfl
theorem e168_13 : V 168 13 [l0, l1, l2, some (.int x), l4] st h Q = V 168 14 [l0, l1, l2, some (.int x), l4] (.int x :: st) h Q := V_nx (by decide +kernel : decode (p_c 168) 13 = .ok (.iload_n 3, 1)) rfl rfl
theorem e168_14 : V 168 14 [l0, some (.long u), l2, l3, l4] st h Q = V 168 15 [l0, some (.long u), l2, l3, l4] (.long u :: st) h Q := V_nx (by decide +kernel : decode (p_c 168) 14 = .ok (.lload_n 1, 1)) rfl rfl
theorem e168_15 : V 168 15 L (.long u :: .int i :: .ref a :: st) h Q = (p_jok i (p_get h a) ∧ V 168 16 L st (p_set h a (p_jst i u (p_get h a))) Q) := V_las (by decide +kernel : decode (p_c 168) 15 = .ok (.lastore, 1))
theorem e168_16 : V 168 16 [l0, l1, l2, some (.int x), l4] st h Q = V 168 19 [l0, l1, p_dl l2, some (.int (x + 1)), l4] st h Q := V_iinc (x := x) (by decide +kernel : decode (p_c 168) 16 = .ok (.iinc 3 1, 3)) (by decide) rfl (Nat.le_of_ble_eq_true rfl)
theorem e168_19 : V 168 19 L st h Q = V 168 6 L st h Q := V_goto (by decide +kernel : decode (p_c 168) 19 = .ok (.goto (-13), 3)) (by decide)
theorem e168_22 : V 168 22 L [] h Q = Q none h := V_rv (by decide +kernel : decode (p_c 168) 22 = .ok (.return_, 1)) rfl
theorem m168 : Vm 168 [.ref b1, .long u1] h Q = V 168 0 [some (.ref b1), some (.long u1), none, none, none] [] h Q := rfl
theorem e169_0 : V 169 0 L st h Q = V 169 1 L (.int 0 :: st) h Q := V_c (by decide +kernel : decode (p_c 169) 0 = .ok (.iconst 0, 1)) (by decide)
theorem e169_1 : V 169 1 [l0, l1, l2, l3] (.int x :: st) h Q = V 169 2 [l0, p_dl l1, some (.int x), l3] st h Q := V_nx (by decide +kernel : decode (p_c 169) 1 = .ok (.istore_n 2, 1)) rfl rfl
theorem e169_2 : V 169 2 [some (.ref a), l1, l2, l3] st h Q = V 169 3 [some (.ref a), l1, l2, l3] (.ref a :: st) h Q := V_nx (by decide +kernel : decode (p_c 169) 2 = .ok (.aload_n 0, 1)) rfl rfl
theorem e169_3 : V 169 3 L (.ref a :: st) h Q = (p_isa (p_get h a) ∧ V 169 4 L (.int (Int32.ofNat (p_aln (p_get h a))) :: st) h Q) := V_len (by decide +kernel : decode (p_c 169) 3 = .ok (.arraylength, 1))
theorem e169_4 : V 169 4 [l0, l1, l2, l3] (.int x :: st) h Q = V 169 5 [l0, l1, p_dl l2, some (.int x)] st h Q := V_nx (by decide +kernel : decode (p_c 169) 4 = .ok (.istore_n 3, 1)) rfl rfl
theorem e169_5 : V 169 5 [l0, l1, some (.int x), l3] st h Q = V 169 6 [l0, l1, some (.int x), l3] (.int x :: st) h Q := V_nx (by decide +kernel : decode (p_c 169) 5 = .ok (.iload_n 2, 1)) rfl rfl
theorem e169_6 : V 169 6 [l0, l1, l2, some (.int x)] st h Q = V 169 7 [l0, l1, l2, some (.int x)] (.int x :: st) h Q := V_nx (by decide +kernel : decode (p_c 169) 6 = .ok (.iload_n 3, 1)) rfl rfl
theorem e169_7 : V 169 7 L (.int z :: .int x :: st) h Q = if x < z then V 169 10 L st h Q else V 169 20 L st h Q := (V_icmp (by decide +kernel : decode (p_c 169) 7 = .ok (.if_icmp .ge 13, 3)) (by decide)).trans i_ge
theorem e169_10 : V 169 10 [some (.ref a), l1, l2, l3] st h Q = V 169 11 [some (.ref a), l1, l2, l3] (.ref a :: st) h Q := V_nx (by decide +kernel : decode (p_c 169) 10 = .ok (.aload_n 0, 1)) rfl rfl
theorem e169_11 : V 169 11 [l0, l1, some (.int x), l3] st h Q = V 169 12 [l0, l1, some (.int x), l3] (.int x :: st) h Q := V_nx (by decide +kernel : decode (p_c 169) 11 = .ok (.iload_n 2, 1)) rfl rfl
theorem e169_12 : V 169 12 [l0, some (.int x), l2, l3] st h Q = V 169 13 [l0, some (.int x), l2, l3] (.int x :: st) h Q := V_nx (by decide +kernel : decode (p_c 169) 12 = .ok (.iload_n 1, 1)) rfl rfl
theorem e169_13 : V 169 13 L (.int x :: .int i :: .ref a :: st) h Q = (p_sok i (p_get h a) ∧ V 169 14 L st (p_set h a (p_ist i x (p_get h a))) Q) := V_ias (by decide +kernel : decode (p_c 169) 13 = .ok (.iastore, 1))
theorem e169_14 : V 169 14 [l0, l1, some (.int x), l3] st h Q = V 169 17 [l0, p_dl l1, some (.int (x + 1)), l3] st h Q := V_iinc (x := x) (by decide +kernel : decode (p_c 169) 14 = .ok (.iinc 2 1, 3)) (by decide) rfl (Nat.le_of_ble_eq_true rfl)
theorem e169_17 : V 169 17 L st h Q = V 169 5 L st h Q := V_goto (by decide +kernel : decode (p_c 169) 17 = .ok (.goto (-12), 3)) (by decide)
theorem e169_20 : V 169 20 L [] h Q = Q none h := V_rv (by decide +kernel : decode (p_c 169) 20 = .ok (.return_, 1)) rfl
theorem m169 : Vm 169 [.ref b1, .int x1] h Q = V 169 0 [some (.ref b1), some (.int x1), none, none] [] h Q := rfl
theorem e170_0 : V 170 0 L st h Q = V 170 3 L (.ref h.1 :: st) (p_new h (.inr (11, [.null, .null, .null, .null, .null, .null, .null, .null, .null, .int 0, .int 0, .int 0, .int 0])) 13) Q := V_new (ci := 11) (by decide +kernel : decode (p_c 170) 0 = .ok (.new 7, 3)) (by decide +kernel)
theorem e170_3 : V 170 3 L (.ref a :: st) h Q = V 170 4 L (.ref a :: .ref a :: st) h Q := V_dup (by decide +kernel : decode (p_c 170) 3 = .ok (.dup, 1)) rfl
theorem e170_3i : V 170 3 L (.int x :: st) h Q = V 170 4 L (.int x :: .int x :: st) h Q := V_dup (by decide +kernel : decode (p_c 170) 3 = .ok (.dup, 1)) rfl
theorem e170_4 : V 170 4 L (.ref a :: st) h Q = (p_sm st ∧ Vm 68 [.ref a] h (Kt 170 7 L st Q)) := V_sp (n := 0) (as := []) (z := 68) (by decide +kernel : decode (p_c 170) 4 = .ok (.invokespecial 9, 3)) (by decide +kernel) rfl (by decide +kernel) rfl
theorem e170_7 : V 170 7 [l0, l1, l2, l3] (.ref a :: st) h Q = V 170 8 [p_dl l0, some (.ref a), l2, l3] st h Q := V_nx (by decide +kernel : decode (p_c 170) 7 = .ok (.astore_n 1, 1)) rfl rfl
theorem e170_7n : V 170 7 [l0, l1, l2, l3] (.null :: st) h Q = V 170 8 [p_dl l0, some (.null), l2, l3] st h Q := V_nx (by decide +kernel : decode (p_c 170) 7 = .ok (.astore_n 1, 1)) rfl rfl
theorem e170_8 : V 170 8 L st h Q = V 170 11 L (.ref h.1 :: st) (p_new h (.inr (12, [.int 0, .null, .null, .null, .int 0, .int 0, .int 0, .null, .null, .null, .null, .null, .int 0, .int 0, .int 0, .int 0, .null, .int 0, .null, .int 0, .int 0, .int 0, .null, .null, .null, .null, .int 0, .null, .null, .null, .int 0, .long 0, .null, .int 0, .int 0, .int 0, .int 0, .int 0, .int 0, .int 0, .null, .null, .null, .null, .long 0])) 45) Q := V_new (ci := 12) (by decide +kernel : decode (p_c 170) 8 = .ok (.new 10, 3)) (by decide +kernel)
theorem e170_11 : V 170 11 L (.ref a :: st) h Q = V 170 12 L (.ref a :: .ref a :: st) h Q := V_dup (by decide +kernel : decode (p_c 170) 11 = .ok (.dup, 1)) rfl
theorem e170_11i : V 170 11 L (.int x :: st) h Q = V 170 12 L (.int x :: .int x :: st) h Q := V_dup (by decide +kernel : decode (p_c 170) 11 = .ok (.dup, 1)) rfl
theorem e170_12 : V 170 12 L (.ref a :: st) h Q = (p_sm st ∧ Vm 105 [.ref a] h (Kt 170 15 L st Q)) := V_sp (n := 0) (as := []) (z := 105) (by decide +kernel : decode (p_c 170) 12 = .ok (.invokespecial 12, 3)) (by decide +kernel) rfl (by decide +kernel) rfl
theorem e170_15 : V 170 15 [l0, l1, l2, l3] (.ref a :: st) h Q = V 170 16 [l0, p_dl l1, some (.ref a), l3] st h Q := V_nx (by decide +kernel : decode (p_c 170) 15 = .ok (.astore_n 2, 1)) rfl rfl
theorem e170_15n : V 170 15 [l0, l1, l2, l3] (.null :: st) h Q = V 170 16 [l0, p_dl l1, some (.null), l3] st h Q := V_nx (by decide +kernel : decode (p_c 170) 15 = .ok (.astore_n 2, 1)) rfl rfl
theorem e170_16 : V 170 16 L st h Q = V 170 17 L (.int 0 :: st) h Q := V_c (by decide +kernel : decode (p_c 170) 16 = .ok (.iconst 0, 1)) (by decide)
theorem e170_17 : V 170 17 [l0, l1, l2, l3] (.int x :: st) h Q = V 170 18 [l0, l1, p_dl l2, some (.int x)] st h Q := V_nx (by decide +kernel : decode (p_c 170) 17 = .ok (.istore_n 3, 1)) rfl rfl
theorem e170_18 : V 170 18 [l0, l1, l2, some (.int x)] st h Q = V 170 19 [l0, l1, l2, some (.int x)] (.int x :: st) h Q := V_nx (by decide +kernel : decode (p_c 170) 18 = .ok (.iload_n 3, 1)) rfl rfl
theorem e170_19 : V 170 19 [some (.ref a), l1, l2, l3] st h Q = V 170 20 [some (.ref a), l1, l2, l3] (.ref a :: st) h Q := V_nx (by decide +kernel : decode (p_c 170) 19 = .ok (.aload_n 0, 1)) rfl rfl
theorem e170_20 : V 170 20 L (.ref a :: st) h Q = (p_isa (p_get h a) ∧ V 170 21 L (.int (Int32.ofNat (p_aln (p_get h a))) :: st) h Q) := V_len (by decide +kernel : decode (p_c 170) 20 = .ok (.arraylength, 1))
theorem e170_21 : V 170 21 L st h Q = V 170 23 L (.int 6 :: st) h Q := V_b (by decide +kernel : decode (p_c 170) 21 = .ok (.bipush 6, 2)) (by decide)
theorem e170_23 : V 170 23 L (.int z :: .int x :: st) h Q = V 170 24 L (.int (x - z) :: st) h Q := V_nx (by decide +kernel : decode (p_c 170) 23 = .ok (.isub, 1)) rfl rfl
theorem e170_24 : V 170 24 L (.int z :: .int x :: st) h Q = if z < x then V 170 905 L st h Q else V 170 27 L st h Q := (V_icmp (by decide +kernel : decode (p_c 170) 24 = .ok (.if_icmp .gt 881, 3)) (by decide)).trans i_gt
theorem e170_27 : V 170 27 [some (.ref a), l1, l2, l3] st h Q = V 170 28 [some (.ref a), l1, l2, l3] (.ref a :: st) h Q := V_nx (by decide +kernel : decode (p_c 170) 27 = .ok (.aload_n 0, 1)) rfl rfl
theorem e170_28 : V 170 28 [l0, l1, l2, some (.int x)] st h Q = V 170 29 [l0, l1, l2, some (.int x)] (.int x :: st) h Q := V_nx (by decide +kernel : decode (p_c 170) 28 = .ok (.iload_n 3, 1)) rfl rfl
theorem e170_29 : V 170 29 L (.int i :: .ref a :: st) h Q = (p_iok i (p_get h a) ∧ V 170 30 L (.int (p_ivl i (p_get h a)) :: st) h Q) := V_ial (by decide +kernel : decode (p_c 170) 29 = .ok (.iaload, 1))
theorem e170_30 : V 170 30 L st h Q = V 170 32 L (.int 31 :: st) h Q := V_b (by decide +kernel : decode (p_c 170) 30 = .ok (.bipush 31, 2)) (by decide)
theorem e170_32 : V 170 32 L (.int z :: .int x :: st) h Q = V 170 33 L (.int (x &&& z) :: st) h Q := V_nx (by decide +kernel : decode (p_c 170) 32 = .ok (.iand, 1)) rfl rfl
theorem e170_33 : V 170 33 L (.int x :: st) h Q = V 170 (if x = 0 then 156 else if x = 1 then 209 else if x = 2 then 222 else if x = 3 then 235 else if x = 4 then 248 else if x = 5 then 281 else if x = 6 then 324 else if x = 7 then 357 else if x = 8 then 390 else if x = 9 then 413 else if x = 10 then 446 else if x = 11 then 479 else if x = 12 then 502 else if x = 13 then 525 else if x = 14 then 568 else if x = 15 then 591 else if x = 16 then 614 else if x = 17 then 637 else if x = 18 then 701 else if x = 19 then 734 else if x = 20 then 757 else if x = 21 then 770 else if x = 22 then 793 else if x = 23 then 836 else if x = 24 then 849 else if x = 25 then 862 else if x = 26 then 885 else 899) L st h Q := V_ts (fun z => if z = 0 then 156 else if z = 1 then 209 else if z = 2 then 222 else if z = 3 then 235 else if z = 4 then 248 else if z = 5 then 281 else if z = 6 then 324 else if z = 7 then 357 else if z = 8 then 390 else if z = 9 then 413 else if z = 10 then 446 else if z = 11 then 479 else if z = 12 then 502 else if z = 13 then 525 else if z = 14 then 568 else if z = 15 then 591 else if z = 16 then 614 else if z = 17 then 637 else if z = 18 then 701 else if z = 19 then 734 else if z = 20 then 757 else if z = 21 then 770 else if z = 22 then 793 else if z = 23 then 836 else if z = 24 then 849 else if z = 25 then 862 else if z = 26 then 885 else 899) (by decide +kernel : decode (p_c 170) 33 = .ok (.tableswitch 866 0 26 #[123, 176, 189, 202, 215, 248, 291, 324, 357, 380, 413, 446, 469, 492, 535, 558, 581, 604, 668, 701, 724, 737, 760, 803, 816, 829, 852], 123)) (by decide) (by
  intro z
  refine ⟨fun hz => ?_, fun hz => ?_⟩
  · have h_0 : ¬ z = 0 := by intro q; subst q; revert hz; decide
    have h_1 : ¬ z = 1 := by intro q; subst q; revert hz; decide
    have h_2 : ¬ z = 2 := by intro q; subst q; revert hz; decide
    have h_3 : ¬ z = 3 := by intro q; subst q; revert hz; decide
    have h_4 : ¬ z = 4 := by intro q; subst q; revert hz; decide
    have h_5 : ¬ z = 5 := by intro q; subst q; revert hz; decide
    have h_6 : ¬ z = 6 := by intro q; subst q; revert hz; decide
    have h_7 : ¬ z = 7 := by intro q; subst q; revert hz; decide
    have h_8 : ¬ z = 8 := by intro q; subst q; revert hz; decide
    have h_9 : ¬ z = 9 := by intro q; subst q; revert hz; decide
    have h_10 : ¬ z = 10 := by intro q; subst q; revert hz; decide
    have h_11 : ¬ z = 11 := by intro q; subst q; revert hz; decide
    have h_12 : ¬ z = 12 := by intro q; subst q; revert hz; decide
    have h_13 : ¬ z = 13 := by intro q; subst q; revert hz; decide
    have h_14 : ¬ z = 14 := by intro q; subst q; revert hz; decide
    have h_15 : ¬ z = 15 := by intro q; subst q; revert hz; decide
    have h_16 : ¬ z = 16 := by intro q; subst q; revert hz; decide
    have h_17 : ¬ z = 17 := by intro q; subst q; revert hz; decide
    have h_18 : ¬ z = 18 := by intro q; subst q; revert hz; decide
    have h_19 : ¬ z = 19 := by intro q; subst q; revert hz; decide
    have h_20 : ¬ z = 20 := by intro q; subst q; revert hz; decide
    have h_21 : ¬ z = 21 := by intro q; subst q; revert hz; decide
    have h_22 : ¬ z = 22 := by intro q; subst q; revert hz; decide
    have h_23 : ¬ z = 23 := by intro q; subst q; revert hz; decide
    have h_24 : ¬ z = 24 := by intro q; subst q; revert hz; decide
    have h_25 : ¬ z = 25 := by intro q; subst q; revert hz; decide
    have h_26 : ¬ z = 26 := by intro q; subst q; revert hz; decide
    simp only [h_0, h_1, h_2, h_3, h_4, h_5, h_6, h_7, h_8, h_9, h_10, h_11, h_12, h_13, h_14, h_15, h_16, h_17, h_18, h_19, h_20, h_21, h_22, h_23, h_24, h_25, h_26, if_false]
    rfl
  · have hc : z.toInt = 0 ∨ z.toInt = 1 ∨ z.toInt = 2 ∨ z.toInt = 3 ∨ z.toInt = 4 ∨ z.toInt = 5 ∨ z.toInt = 6 ∨ z.toInt = 7 ∨ z.toInt = 8 ∨ z.toInt = 9 ∨ z.toInt = 10 ∨ z.toInt = 11 ∨ z.toInt = 12 ∨ z.toInt = 13 ∨ z.toInt = 14 ∨ z.toInt = 15 ∨ z.toInt = 16 ∨ z.toInt = 17 ∨ z.toInt = 18 ∨ z.toInt = 19 ∨ z.toInt = 20 ∨ z.toInt = 21 ∨ z.toInt = 22 ∨ z.toInt = 23 ∨ z.toInt = 24 ∨ z.toInt = 25 ∨ z.toInt = 26 := by omega
    rcases hc with hc | hc | hc | hc | hc | hc | hc | hc | hc | hc | hc | hc | hc | hc | hc | hc | hc | hc | hc | hc | hc | hc | hc | hc | hc | hc | hc
    · have e : z = 0 := Int32.toInt_inj.mp (by rw [hc]; rfl)
      subst e
      exact ⟨123, rfl, by decide, rfl⟩
    · have e : z = 1 := Int32.toInt_inj.mp (by rw [hc]; rfl)
      subst e
      exact ⟨176, rfl, by decide, rfl⟩
    · have e : z = 2 := Int32.toInt_inj.mp (by rw [hc]; rfl)
      subst e
      exact ⟨189, rfl, by decide, rfl⟩
    · have e : z = 3 := Int32.toInt_inj.mp (by rw [hc]; rfl)
      subst e
      exact ⟨202, rfl, by decide, rfl⟩
    · have e : z = 4 := Int32.toInt_inj.mp (by rw [hc]; rfl)
      subst e
      exact ⟨215, rfl, by decide, rfl⟩
    · have e : z = 5 := Int32.toInt_inj.mp (by rw [hc]; rfl)
      subst e
      exact ⟨248, rfl, by decide, rfl⟩
    · have e : z = 6 := Int32.toInt_inj.mp (by rw [hc]; rfl)
      subst e
      exact ⟨291, rfl, by decide, rfl⟩
    · have e : z = 7 := Int32.toInt_inj.mp (by rw [hc]; rfl)
      subst e
      exact ⟨324, rfl, by decide, rfl⟩
    · have e : z = 8 := Int32.toInt_inj.mp (by rw [hc]; rfl)
      subst e
      exact ⟨357, rfl, by decide, rfl⟩
    · have e : z = 9 := Int32.toInt_inj.mp (by rw [hc]; rfl)
      subst e
      exact ⟨380, rfl, by decide, rfl⟩
    · have e : z = 10 := Int32.toInt_inj.mp (by rw [hc]; rfl)
      subst e
      exact ⟨413, rfl, by decide, rfl⟩
    · have e : z = 11 := Int32.toInt_inj.mp (by rw [hc]; rfl)
      subst e
      exact ⟨446, rfl, by decide, rfl⟩
    · have e : z = 12 := Int32.toInt_inj.mp (by rw [hc]; rfl)
      subst e
      exact ⟨469, rfl, by decide, rfl⟩
    · have e : z = 13 := Int32.toInt_inj.mp (by rw [hc]; rfl)
      subst e
      exact ⟨492, rfl, by decide, rfl⟩
    · have e : z = 14 := Int32.toInt_inj.mp (by rw [hc]; rfl)
      subst e
      exact ⟨535, rfl, by decide, rfl⟩
    · have e : z = 15 := Int32.toInt_inj.mp (by rw [hc]; rfl)
      subst e
      exact ⟨558, rfl, by decide, rfl⟩
    · have e : z = 16 := Int32.toInt_inj.mp (by rw [hc]; rfl)
      subst e
      exact ⟨581, rfl, by decide, rfl⟩
    · have e : z = 17 := Int32.toInt_inj.mp (by rw [hc]; rfl)
      subst e
      exact ⟨604, rfl, by decide, rfl⟩
    · have e : z = 18 := Int32.toInt_inj.mp (by rw [hc]; rfl)
      subst e
      exact ⟨668, rfl, by decide, rfl⟩
    · have e : z = 19 := Int32.toInt_inj.mp (by rw [hc]; rfl)
      subst e
      exact ⟨701, rfl, by decide, rfl⟩
    · have e : z = 20 := Int32.toInt_inj.mp (by rw [hc]; rfl)
      subst e
      exact ⟨724, rfl, by decide, rfl⟩
    · have e : z = 21 := Int32.toInt_inj.mp (by rw [hc]; rfl)
      subst e
      exact ⟨737, rfl, by decide, rfl⟩
    · have e : z = 22 := Int32.toInt_inj.mp (by rw [hc]; rfl)
      subst e
      exact ⟨760, rfl, by decide, rfl⟩
    · have e : z = 23 := Int32.toInt_inj.mp (by rw [hc]; rfl)
      subst e
      exact ⟨803, rfl, by decide, rfl⟩
    · have e : z = 24 := Int32.toInt_inj.mp (by rw [hc]; rfl)
      subst e
      exact ⟨816, rfl, by decide, rfl⟩
    · have e : z = 25 := Int32.toInt_inj.mp (by rw [hc]; rfl)
      subst e
      exact ⟨829, rfl, by decide, rfl⟩
    · have e : z = 26 := Int32.toInt_inj.mp (by rw [hc]; rfl)
      subst e
      exact ⟨852, rfl, by decide, rfl⟩)
theorem e170_156 : V 170 156 [l0, some (.ref a), l2, l3] st h Q = V 170 157 [l0, some (.ref a), l2, l3] (.ref a :: st) h Q := V_nx (by decide +kernel : decode (p_c 170) 156 = .ok (.aload_n 1, 1)) rfl rfl
theorem e170_156n : V 170 156 [l0, some .null, l2, l3] st h Q = V 170 157 [l0, some .null, l2, l3] (.null :: st) h Q := V_nx (by decide +kernel : decode (p_c 170) 156 = .ok (.aload_n 1, 1)) rfl rfl
theorem e170_157 : V 170 157 [some (.ref a), l1, l2, l3] st h Q = V 170 158 [some (.ref a), l1, l2, l3] (.ref a :: st) h Q := V_nx (by decide +kernel : decode (p_c 170) 157 = .ok (.aload_n 0, 1)) rfl rfl
theorem e170_158 : V 170 158 [l0, l1, l2, some (.int x)] st h Q = V 170 159 [l0, l1, l2, some (.int x)] (.int x :: st) h Q := V_nx (by decide +kernel : decode (p_c 170) 158 = .ok (.iload_n 3, 1)) rfl rfl
theorem e170_159 : V 170 159 L st h Q = V 170 160 L (.int 1 :: st) h Q := V_c (by decide +kernel : decode (p_c 170) 159 = .ok (.iconst 1, 1)) (by decide)
theorem e170_160 : V 170 160 L (.int z :: .int x :: st) h Q = V 170 161 L (.int (x + z) :: st) h Q := V_nx (by decide +kernel : decode (p_c 170) 160 = .ok (.iadd, 1)) rfl rfl
theorem e170_161 : V 170 161 L (.int i :: .ref a :: st) h Q = (p_iok i (p_get h a) ∧ V 170 162 L (.int (p_ivl i (p_get h a)) :: st) h Q) := V_ial (by decide +kernel : decode (p_c 170) 161 = .ok (.iaload, 1))
theorem e170_162 : V 170 162 L (.int x :: st) h Q = V 170 163 L (.long x.toInt64 :: st) h Q := V_nx (by decide +kernel : decode (p_c 170) 162 = .ok (.i2l, 1)) rfl rfl
theorem e170_163 : V 170 163 L st h Q = V 170 165 L (.int 32 :: st) h Q := V_b (by decide +kernel : decode (p_c 170) 163 = .ok (.bipush 32, 2)) (by decide)
theorem e170_165 : V 170 165 L (.int x :: .long u :: st) h Q = V 170 166 L (.long (u <<< (x.toInt64 &&& 63)) :: st) h Q := V_nx (by decide +kernel : decode (p_c 170) 165 = .ok (.lshl, 1)) rfl rfl
theorem e170_166 : V 170 166 [some (.ref a), l1, l2, l3] st h Q = V 170 167 [some (.ref a), l1, l2, l3] (.ref a :: st) h Q := V_nx (by decide +kernel : decode (p_c 170) 166 = .ok (.aload_n 0, 1)) rfl rfl
theorem e170_167 : V 170 167 [l0, l1, l2, some (.int x)] st h Q = V 170 168 [l0, l1, l2, some (.int x)] (.int x :: st) h Q := V_nx (by decide +kernel : decode (p_c 170) 167 = .ok (.iload_n 3, 1)) rfl rfl
theorem e170_168 : V 170 168 L st h Q = V 170 169 L (.int 2 :: st) h Q := V_c (by decide +kernel : decode (p_c 170) 168 = .ok (.iconst 2, 1)) (by decide)
theorem e170_169 : V 170 169 L (.int z :: .int x :: st) h Q = V 170 170 L (.int (x + z) :: st) h Q := V_nx (by decide +kernel : decode (p_c 170) 169 = .ok (.iadd, 1)) rfl rfl
theorem e170_170 : V 170 170 L (.int i :: .ref a :: st) h Q = (p_iok i (p_get h a) ∧ V 170 171 L (.int (p_ivl i (p_get h a)) :: st) h Q) := V_ial (by decide +kernel : decode (p_c 170) 170 = .ok (.iaload, 1))
theorem e170_171 : V 170 171 L (.int x :: st) h Q = V 170 172 L (.long x.toInt64 :: st) h Q := V_nx (by decide +kernel : decode (p_c 170) 171 = .ok (.i2l, 1)) rfl rfl
theorem e170_172 : V 170 172 L st h Q = V 170 175 L (.long 4294967295 :: st) h Q := V_ldc2 (by decide +kernel : decode (p_c 170) 172 = .ok (.ldc2_w 13, 3)) (by decide +kernel)
theorem e170_175 : V 170 175 L (.long w :: .long u :: st) h Q = V 170 176 L (.long (u &&& w) :: st) h Q := V_nx (by decide +kernel : decode (p_c 170) 175 = .ok (.land, 1)) rfl rfl
theorem e170_176 : V 170 176 L (.long w :: .long u :: st) h Q = V 170 177 L (.long (u ||| w) :: st) h Q := V_nx (by decide +kernel : decode (p_c 170) 176 = .ok (.lor, 1)) rfl rfl
theorem e170_177 : V 170 177 L (.long u1 :: .ref a :: st) h Q = ((p_cn1 (p_get h a) = 11 ∧ p_sm st) ∧ Vm 69 [.ref a, .long u1] h (Kt 170 180 L st Q)) := V_iv (n := 1) (as := [.long u1]) (ci := 11) (z := 69) (by decide +kernel : decode (p_c 170) 177 = .ok (.invokevirtual 15, 3)) (by decide +kernel) rfl rfl (by decide +kernel) rfl
theorem e170_180 : V 170 180 [l0, l1, some (.ref a), l3] st h Q = V 170 181 [l0, l1, some (.ref a), l3] (.ref a :: st) h Q := V_nx (by decide +kernel : decode (p_c 170) 180 = .ok (.aload_n 2, 1)) rfl rfl
theorem e170_180n : V 170 180 [l0, l1, some .null, l3] st h Q = V 170 181 [l0, l1, some .null, l3] (.null :: st) h Q := V_nx (by decide +kernel : decode (p_c 170) 180 = .ok (.aload_n 2, 1)) rfl rfl
theorem e170_181 : V 170 181 [some (.ref a), l1, l2, l3] st h Q = V 170 182 [some (.ref a), l1, l2, l3] (.ref a :: st) h Q := V_nx (by decide +kernel : decode (p_c 170) 181 = .ok (.aload_n 0, 1)) rfl rfl
theorem e170_182 : V 170 182 [l0, l1, l2, some (.int x)] st h Q = V 170 183 [l0, l1, l2, some (.int x)] (.int x :: st) h Q := V_nx (by decide +kernel : decode (p_c 170) 182 = .ok (.iload_n 3, 1)) rfl rfl
theorem e170_183 : V 170 183 L st h Q = V 170 184 L (.int 1 :: st) h Q := V_c (by decide +kernel : decode (p_c 170) 183 = .ok (.iconst 1, 1)) (by decide)
theorem e170_184 : V 170 184 L (.int z :: .int x :: st) h Q = V 170 185 L (.int (x + z) :: st) h Q := V_nx (by decide +kernel : decode (p_c 170) 184 = .ok (.iadd, 1)) rfl rfl
theorem e170_185 : V 170 185 L (.int i :: .ref a :: st) h Q = (p_iok i (p_get h a) ∧ V 170 186 L (.int (p_ivl i (p_get h a)) :: st) h Q) := V_ial (by decide +kernel : decode (p_c 170) 185 = .ok (.iaload, 1))
theorem e170_186 : V 170 186 L (.int x :: st) h Q = V 170 187 L (.long x.toInt64 :: st) h Q := V_nx (by decide +kernel : decode (p_c 170) 186 = .ok (.i2l, 1)) rfl rfl
theorem e170_187 : V 170 187 L st h Q = V 170 189 L (.int 32 :: st) h Q := V_b (by decide +kernel : decode (p_c 170) 187 = .ok (.bipush 32, 2)) (by decide)
theorem e170_189 : V 170 189 L (.int x :: .long u :: st) h Q = V 170 190 L (.long (u <<< (x.toInt64 &&& 63)) :: st) h Q := V_nx (by decide +kernel : decode (p_c 170) 189 = .ok (.lshl, 1)) rfl rfl
theorem e170_190 : V 170 190 [some (.ref a), l1, l2, l3] st h Q = V 170 191 [some (.ref a), l1, l2, l3] (.ref a :: st) h Q := V_nx (by decide +kernel : decode (p_c 170) 190 = .ok (.aload_n 0, 1)) rfl rfl
theorem e170_191 : V 170 191 [l0, l1, l2, some (.int x)] st h Q = V 170 192 [l0, l1, l2, some (.int x)] (.int x :: st) h Q := V_nx (by decide +kernel : decode (p_c 170) 191 = .ok (.iload_n 3, 1)) rfl rfl
theorem e170_192 : V 170 192 L st h Q = V 170 193 L (.int 2 :: st) h Q := V_c (by decide +kernel : decode (p_c 170) 192 = .ok (.iconst 2, 1)) (by decide)
theorem e170_193 : V 170 193 L (.int z :: .int x :: st) h Q = V 170 194 L (.int (x + z) :: st) h Q := V_nx (by decide +kernel : decode (p_c 170) 193 = .ok (.iadd, 1)) rfl rfl
theorem e170_194 : V 170 194 L (.int i :: .ref a :: st) h Q = (p_iok i (p_get h a) ∧ V 170 195 L (.int (p_ivl i (p_get h a)) :: st) h Q) := V_ial (by decide +kernel : decode (p_c 170) 194 = .ok (.iaload, 1))
theorem e170_195 : V 170 195 L (.int x :: st) h Q = V 170 196 L (.long x.toInt64 :: st) h Q := V_nx (by decide +kernel : decode (p_c 170) 195 = .ok (.i2l, 1)) rfl rfl
theorem e170_196 : V 170 196 L st h Q = V 170 199 L (.long 4294967295 :: st) h Q := V_ldc2 (by decide +kernel : decode (p_c 170) 196 = .ok (.ldc2_w 13, 3)) (by decide +kernel)
theorem e170_199 : V 170 199 L (.long w :: .long u :: st) h Q = V 170 200 L (.long (u &&& w) :: st) h Q := V_nx (by decide +kernel : decode (p_c 170) 199 = .ok (.land, 1)) rfl rfl
theorem e170_200 : V 170 200 L (.long w :: .long u :: st) h Q = V 170 201 L (.long (u ||| w) :: st) h Q := V_nx (by decide +kernel : decode (p_c 170) 200 = .ok (.lor, 1)) rfl rfl
theorem e170_201 : V 170 201 L (.long u1 :: .ref a :: st) h Q = ((p_cn1 (p_get h a) = 12 ∧ p_sm st) ∧ Vm 107 [.ref a, .long u1] h (Kt 170 204 L st Q)) := V_iv (n := 1) (as := [.long u1]) (ci := 12) (z := 107) (by decide +kernel : decode (p_c 170) 201 = .ok (.invokevirtual 19, 3)) (by decide +kernel) rfl rfl (by decide +kernel) rfl
theorem e170_204 : V 170 204 L (.int z :: .int x :: st) h Q = if x = z then V 170 899 L st h Q else V 170 207 L st h Q := (V_icmp (by decide +kernel : decode (p_c 170) 204 = .ok (.if_icmp .eq 695, 3)) (by decide)).trans i_eq
theorem e170_207 : V 170 207 L st h Q = V 170 208 L (.int 0 :: st) h Q := V_c (by decide +kernel : decode (p_c 170) 207 = .ok (.iconst 0, 1)) (by decide)
theorem e170_208 : V 170 208 L [.int x] h Q = ((x = 0 ∨ x = 1) ∧ Q (some (.int x)) h) := V_rz (by decide +kernel : decode (p_c 170) 208 = .ok (.ireturn, 1)) rfl
theorem e170_209 : V 170 209 [l0, some (.ref a), l2, l3] st h Q = V 170 210 [l0, some (.ref a), l2, l3] (.ref a :: st) h Q := V_nx (by decide +kernel : decode (p_c 170) 209 = .ok (.aload_n 1, 1)) rfl rfl
theorem e170_209n : V 170 209 [l0, some .null, l2, l3] st h Q = V 170 210 [l0, some .null, l2, l3] (.null :: st) h Q := V_nx (by decide +kernel : decode (p_c 170) 209 = .ok (.aload_n 1, 1)) rfl rfl
theorem e170_210 : V 170 210 L (.ref a :: st) h Q = ((p_cn1 (p_get h a) = 11 ∧ p_sm st) ∧ Vm 70 [.ref a] h (Kt 170 213 L st Q)) := V_iv (n := 0) (as := []) (ci := 11) (z := 70) (by decide +kernel : decode (p_c 170) 210 = .ok (.invokevirtual 20, 3)) (by decide +kernel) rfl rfl (by decide +kernel) rfl
theorem e170_213 : V 170 213 [l0, l1, some (.ref a), l3] st h Q = V 170 214 [l0, l1, some (.ref a), l3] (.ref a :: st) h Q := V_nx (by decide +kernel : decode (p_c 170) 213 = .ok (.aload_n 2, 1)) rfl rfl
theorem e170_213n : V 170 213 [l0, l1, some .null, l3] st h Q = V 170 214 [l0, l1, some .null, l3] (.null :: st) h Q := V_nx (by decide +kernel : decode (p_c 170) 213 = .ok (.aload_n 2, 1)) rfl rfl
theorem e170_214 : V 170 214 L (.ref a :: st) h Q = ((p_cn1 (p_get h a) = 12 ∧ p_sm st) ∧ Vm 108 [.ref a] h (Kt 170 217 L st Q)) := V_iv (n := 0) (as := []) (ci := 12) (z := 108) (by decide +kernel : decode (p_c 170) 214 = .ok (.invokevirtual 24, 3)) (by decide +kernel) rfl rfl (by decide +kernel) rfl
theorem e170_217 : V 170 217 L (.int z :: .int x :: st) h Q = if x = z then V 170 899 L st h Q else V 170 220 L st h Q := (V_icmp (by decide +kernel : decode (p_c 170) 217 = .ok (.if_icmp .eq 682, 3)) (by decide)).trans i_eq
theorem e170_220 : V 170 220 L st h Q = V 170 221 L (.int 0 :: st) h Q := V_c (by decide +kernel : decode (p_c 170) 220 = .ok (.iconst 0, 1)) (by decide)
theorem e170_221 : V 170 221 L [.int x] h Q = ((x = 0 ∨ x = 1) ∧ Q (some (.int x)) h) := V_rz (by decide +kernel : decode (p_c 170) 221 = .ok (.ireturn, 1)) rfl
theorem e170_222 : V 170 222 [l0, some (.ref a), l2, l3] st h Q = V 170 223 [l0, some (.ref a), l2, l3] (.ref a :: st) h Q := V_nx (by decide +kernel : decode (p_c 170) 222 = .ok (.aload_n 1, 1)) rfl rfl
theorem e170_222n : V 170 222 [l0, some .null, l2, l3] st h Q = V 170 223 [l0, some .null, l2, l3] (.null :: st) h Q := V_nx (by decide +kernel : decode (p_c 170) 222 = .ok (.aload_n 1, 1)) rfl rfl
theorem e170_223 : V 170 223 L (.ref a :: st) h Q = ((p_cn1 (p_get h a) = 11 ∧ p_sm st) ∧ Vm 71 [.ref a] h (Kt 170 226 L st Q)) := V_iv (n := 0) (as := []) (ci := 11) (z := 71) (by decide +kernel : decode (p_c 170) 223 = .ok (.invokevirtual 25, 3)) (by decide +kernel) rfl rfl (by decide +kernel) rfl
theorem e170_226 : V 170 226 [l0, l1, some (.ref a), l3] st h Q = V 170 227 [l0, l1, some (.ref a), l3] (.ref a :: st) h Q := V_nx (by decide +kernel : decode (p_c 170) 226 = .ok (.aload_n 2, 1)) rfl rfl
theorem e170_226n : V 170 226 [l0, l1, some .null, l3] st h Q = V 170 227 [l0, l1, some .null, l3] (.null :: st) h Q := V_nx (by decide +kernel : decode (p_c 170) 226 = .ok (.aload_n 2, 1)) rfl rfl
theorem e170_227 : V 170 227 L (.ref a :: st) h Q = ((p_cn1 (p_get h a) = 12 ∧ p_sm st) ∧ Vm 110 [.ref a] h (Kt 170 230 L st Q)) := V_iv (n := 0) (as := []) (ci := 12) (z := 110) (by decide +kernel : decode (p_c 170) 227 = .ok (.invokevirtual 28, 3)) (by decide +kernel) rfl rfl (by decide +kernel) rfl
theorem e170_230 : V 170 230 L (.int z :: .int x :: st) h Q = if x = z then V 170 899 L st h Q else V 170 233 L st h Q := (V_icmp (by decide +kernel : decode (p_c 170) 230 = .ok (.if_icmp .eq 669, 3)) (by decide)).trans i_eq
theorem e170_233 : V 170 233 L st h Q = V 170 234 L (.int 0 :: st) h Q := V_c (by decide +kernel : decode (p_c 170) 233 = .ok (.iconst 0, 1)) (by decide)
theorem e170_234 : V 170 234 L [.int x] h Q = ((x = 0 ∨ x = 1) ∧ Q (some (.int x)) h) := V_rz (by decide +kernel : decode (p_c 170) 234 = .ok (.ireturn, 1)) rfl
theorem e170_235 : V 170 235 [l0, some (.ref a), l2, l3] st h Q = V 170 236 [l0, some (.ref a), l2, l3] (.ref a :: st) h Q := V_nx (by decide +kernel : decode (p_c 170) 235 = .ok (.aload_n 1, 1)) rfl rfl
theorem e170_235n : V 170 235 [l0, some .null, l2, l3] st h Q = V 170 236 [l0, some .null, l2, l3] (.null :: st) h Q := V_nx (by decide +kernel : decode (p_c 170) 235 = .ok (.aload_n 1, 1)) rfl rfl
theorem e170_236 : V 170 236 L (.ref a :: st) h Q = ((p_cn1 (p_get h a) = 11 ∧ p_sm st) ∧ Vm 72 [.ref a] h (Kt 170 239 L st Q)) := V_iv (n := 0) (as := []) (ci := 11) (z := 72) (by decide +kernel : decode (p_c 170) 236 = .ok (.invokevirtual 29, 3)) (by decide +kernel) rfl rfl (by decide +kernel) rfl
theorem e170_239 : V 170 239 [l0, l1, some (.ref a), l3] st h Q = V 170 240 [l0, l1, some (.ref a), l3] (.ref a :: st) h Q := V_nx (by decide +kernel : decode (p_c 170) 239 = .ok (.aload_n 2, 1)) rfl rfl
theorem e170_239n : V 170 239 [l0, l1, some .null, l3] st h Q = V 170 240 [l0, l1, some .null, l3] (.null :: st) h Q := V_nx (by decide +kernel : decode (p_c 170) 239 = .ok (.aload_n 2, 1)) rfl rfl
theorem e170_240 : V 170 240 L (.ref a :: st) h Q = ((p_cn1 (p_get h a) = 12 ∧ p_sm st) ∧ Vm 111 [.ref a] h (Kt 170 243 L st Q)) := V_iv (n := 0) (as := []) (ci := 12) (z := 111) (by decide +kernel : decode (p_c 170) 240 = .ok (.invokevirtual 32, 3)) (by decide +kernel) rfl rfl (by decide +kernel) rfl
theorem e170_243 : V 170 243 L (.int z :: .int x :: st) h Q = if x = z then V 170 899 L st h Q else V 170 246 L st h Q := (V_icmp (by decide +kernel : decode (p_c 170) 243 = .ok (.if_icmp .eq 656, 3)) (by decide)).trans i_eq
theorem e170_246 : V 170 246 L st h Q = V 170 247 L (.int 0 :: st) h Q := V_c (by decide +kernel : decode (p_c 170) 246 = .ok (.iconst 0, 1)) (by decide)
theorem e170_247 : V 170 247 L [.int x] h Q = ((x = 0 ∨ x = 1) ∧ Q (some (.int x)) h) := V_rz (by decide +kernel : decode (p_c 170) 247 = .ok (.ireturn, 1)) rfl
theorem e170_248 : V 170 248 [l0, some (.ref a), l2, l3] st h Q = V 170 249 [l0, some (.ref a), l2, l3] (.ref a :: st) h Q := V_nx (by decide +kernel : decode (p_c 170) 248 = .ok (.aload_n 1, 1)) rfl rfl
theorem e170_248n : V 170 248 [l0, some .null, l2, l3] st h Q = V 170 249 [l0, some .null, l2, l3] (.null :: st) h Q := V_nx (by decide +kernel : decode (p_c 170) 248 = .ok (.aload_n 1, 1)) rfl rfl
theorem e170_249 : V 170 249 [some (.ref a), l1, l2, l3] st h Q = V 170 250 [some (.ref a), l1, l2, l3] (.ref a :: st) h Q := V_nx (by decide +kernel : decode (p_c 170) 249 = .ok (.aload_n 0, 1)) rfl rfl
theorem e170_250 : V 170 250 [l0, l1, l2, some (.int x)] st h Q = V 170 251 [l0, l1, l2, some (.int x)] (.int x :: st) h Q := V_nx (by decide +kernel : decode (p_c 170) 250 = .ok (.iload_n 3, 1)) rfl rfl
theorem e170_251 : V 170 251 L st h Q = V 170 252 L (.int 1 :: st) h Q := V_c (by decide +kernel : decode (p_c 170) 251 = .ok (.iconst 1, 1)) (by decide)
theorem e170_252 : V 170 252 L (.int z :: .int x :: st) h Q = V 170 253 L (.int (x + z) :: st) h Q := V_nx (by decide +kernel : decode (p_c 170) 252 = .ok (.iadd, 1)) rfl rfl
theorem e170_253 : V 170 253 L (.int i :: .ref a :: st) h Q = (p_iok i (p_get h a) ∧ V 170 254 L (.int (p_ivl i (p_get h a)) :: st) h Q) := V_ial (by decide +kernel : decode (p_c 170) 253 = .ok (.iaload, 1))
theorem e170_254 : V 170 254 [some (.ref a), l1, l2, l3] st h Q = V 170 255 [some (.ref a), l1, l2, l3] (.ref a :: st) h Q := V_nx (by decide +kernel : decode (p_c 170) 254 = .ok (.aload_n 0, 1)) rfl rfl
theorem e170_255 : V 170 255 [l0, l1, l2, some (.int x)] st h Q = V 170 256 [l0, l1, l2, some (.int x)] (.int x :: st) h Q := V_nx (by decide +kernel : decode (p_c 170) 255 = .ok (.iload_n 3, 1)) rfl rfl
theorem e170_256 : V 170 256 L st h Q = V 170 257 L (.int 2 :: st) h Q := V_c (by decide +kernel : decode (p_c 170) 256 = .ok (.iconst 2, 1)) (by decide)
theorem e170_257 : V 170 257 L (.int z :: .int x :: st) h Q = V 170 258 L (.int (x + z) :: st) h Q := V_nx (by decide +kernel : decode (p_c 170) 257 = .ok (.iadd, 1)) rfl rfl
theorem e170_258 : V 170 258 L (.int i :: .ref a :: st) h Q = (p_iok i (p_get h a) ∧ V 170 259 L (.int (p_ivl i (p_get h a)) :: st) h Q) := V_ial (by decide +kernel : decode (p_c 170) 258 = .ok (.iaload, 1))
theorem e170_259 : V 170 259 L (.int x2 :: .int x1 :: .ref a :: st) h Q = ((p_cn1 (p_get h a) = 11 ∧ p_sm st) ∧ Vm 73 [.ref a, .int x1, .int x2] h (Kt 170 262 L st Q)) := V_iv (n := 2) (as := [.int x2, .int x1]) (ci := 11) (z := 73) (by decide +kernel : decode (p_c 170) 259 = .ok (.invokevirtual 33, 3)) (by decide +kernel) rfl rfl (by decide +kernel) rfl
theorem e170_262 : V 170 262 [l0, l1, some (.ref a), l3] st h Q = V 170 263 [l0, l1, some (.ref a), l3] (.ref a :: st) h Q := V_nx (by decide +kernel : decode (p_c 170) 262 = .ok (.aload_n 2, 1)) rfl rfl
theorem e170_262n : V 170 262 [l0, l1, some .null, l3] st h Q = V 170 263 [l0, l1, some .null, l3] (.null :: st) h Q := V_nx (by decide +kernel : decode (p_c 170) 262 = .ok (.aload_n 2, 1)) rfl rfl
theorem e170_263 : V 170 263 [some (.ref a), l1, l2, l3] st h Q = V 170 264 [some (.ref a), l1, l2, l3] (.ref a :: st) h Q := V_nx (by decide +kernel : decode (p_c 170) 263 = .ok (.aload_n 0, 1)) rfl rfl
theorem e170_264 : V 170 264 [l0, l1, l2, some (.int x)] st h Q = V 170 265 [l0, l1, l2, some (.int x)] (.int x :: st) h Q := V_nx (by decide +kernel : decode (p_c 170) 264 = .ok (.iload_n 3, 1)) rfl rfl
theorem e170_265 : V 170 265 L st h Q = V 170 266 L (.int 1 :: st) h Q := V_c (by decide +kernel : decode (p_c 170) 265 = .ok (.iconst 1, 1)) (by decide)
theorem e170_266 : V 170 266 L (.int z :: .int x :: st) h Q = V 170 267 L (.int (x + z) :: st) h Q := V_nx (by decide +kernel : decode (p_c 170) 266 = .ok (.iadd, 1)) rfl rfl
theorem e170_267 : V 170 267 L (.int i :: .ref a :: st) h Q = (p_iok i (p_get h a) ∧ V 170 268 L (.int (p_ivl i (p_get h a)) :: st) h Q) := V_ial (by decide +kernel : decode (p_c 170) 267 = .ok (.iaload, 1))
theorem e170_268 : V 170 268 [some (.ref a), l1, l2, l3] st h Q = V 170 269 [some (.ref a), l1, l2, l3] (.ref a :: st) h Q := V_nx (by decide +kernel : decode (p_c 170) 268 = .ok (.aload_n 0, 1)) rfl rfl
theorem e170_269 : V 170 269 [l0, l1, l2, some (.int x)] st h Q = V 170 270 [l0, l1, l2, some (.int x)] (.int x :: st) h Q := V_nx (by decide +kernel : decode (p_c 170) 269 = .ok (.iload_n 3, 1)) rfl rfl
theorem e170_270 : V 170 270 L st h Q = V 170 271 L (.int 2 :: st) h Q := V_c (by decide +kernel : decode (p_c 170) 270 = .ok (.iconst 2, 1)) (by decide)
theorem e170_271 : V 170 271 L (.int z :: .int x :: st) h Q = V 170 272 L (.int (x + z) :: st) h Q := V_nx (by decide +kernel : decode (p_c 170) 271 = .ok (.iadd, 1)) rfl rfl
theorem e170_272 : V 170 272 L (.int i :: .ref a :: st) h Q = (p_iok i (p_get h a) ∧ V 170 273 L (.int (p_ivl i (p_get h a)) :: st) h Q) := V_ial (by decide +kernel : decode (p_c 170) 272 = .ok (.iaload, 1))
theorem e170_273 : V 170 273 L (.int x2 :: .int x1 :: .ref a :: st) h Q = ((p_cn1 (p_get h a) = 12 ∧ p_sm st) ∧ Vm 114 [.ref a, .int x1, .int x2] h (Kt 170 276 L st Q)) := V_iv (n := 2) (as := [.int x2, .int x1]) (ci := 12) (z := 114) (by decide +kernel : decode (p_c 170) 273 = .ok (.invokevirtual 37, 3)) (by decide +kernel) rfl rfl (by decide +kernel) rfl
theorem e170_276 : V 170 276 L (.int z :: .int x :: st) h Q = if x = z then V 170 899 L st h Q else V 170 279 L st h Q := (V_icmp (by decide +kernel : decode (p_c 170) 276 = .ok (.if_icmp .eq 623, 3)) (by decide)).trans i_eq
theorem e170_279 : V 170 279 L st h Q = V 170 280 L (.int 0 :: st) h Q := V_c (by decide +kernel : decode (p_c 170) 279 = .ok (.iconst 0, 1)) (by decide)
theorem e170_280 : V 170 280 L [.int x] h Q = ((x = 0 ∨ x = 1) ∧ Q (some (.int x)) h) := V_rz (by decide +kernel : decode (p_c 170) 280 = .ok (.ireturn, 1)) rfl
theorem e170_281 : V 170 281 [l0, some (.ref a), l2, l3] st h Q = V 170 282 [l0, some (.ref a), l2, l3] (.ref a :: st) h Q := V_nx (by decide +kernel : decode (p_c 170) 281 = .ok (.aload_n 1, 1)) rfl rfl
theorem e170_281n : V 170 281 [l0, some .null, l2, l3] st h Q = V 170 282 [l0, some .null, l2, l3] (.null :: st) h Q := V_nx (by decide +kernel : decode (p_c 170) 281 = .ok (.aload_n 1, 1)) rfl rfl
theorem e170_282 : V 170 282 [some (.ref a), l1, l2, l3] st h Q = V 170 283 [some (.ref a), l1, l2, l3] (.ref a :: st) h Q := V_nx (by decide +kernel : decode (p_c 170) 282 = .ok (.aload_n 0, 1)) rfl rfl
theorem e170_283 : V 170 283 [l0, l1, l2, some (.int x)] st h Q = V 170 284 [l0, l1, l2, some (.int x)] (.int x :: st) h Q := V_nx (by decide +kernel : decode (p_c 170) 283 = .ok (.iload_n 3, 1)) rfl rfl
theorem e170_284 : V 170 284 L st h Q = V 170 285 L (.int 1 :: st) h Q := V_c (by decide +kernel : decode (p_c 170) 284 = .ok (.iconst 1, 1)) (by decide)
theorem e170_285 : V 170 285 L (.int z :: .int x :: st) h Q = V 170 286 L (.int (x + z) :: st) h Q := V_nx (by decide +kernel : decode (p_c 170) 285 = .ok (.iadd, 1)) rfl rfl
theorem e170_286 : V 170 286 L (.int i :: .ref a :: st) h Q = (p_iok i (p_get h a) ∧ V 170 287 L (.int (p_ivl i (p_get h a)) :: st) h Q) := V_ial (by decide +kernel : decode (p_c 170) 286 = .ok (.iaload, 1))
theorem e170_287 : V 170 287 [some (.ref a), l1, l2, l3] st h Q = V 170 288 [some (.ref a), l1, l2, l3] (.ref a :: st) h Q := V_nx (by decide +kernel : decode (p_c 170) 287 = .ok (.aload_n 0, 1)) rfl rfl
theorem e170_288 : V 170 288 [l0, l1, l2, some (.int x)] st h Q = V 170 289 [l0, l1, l2, some (.int x)] (.int x :: st) h Q := V_nx (by decide +kernel : decode (p_c 170) 288 = .ok (.iload_n 3, 1)) rfl rfl
theorem e170_289 : V 170 289 L st h Q = V 170 290 L (.int 2 :: st) h Q := V_c (by decide +kernel : decode (p_c 170) 289 = .ok (.iconst 2, 1)) (by decide)
theorem e170_290 : V 170 290 L (.int z :: .int x :: st) h Q = V 170 291 L (.int (x + z) :: st) h Q := V_nx (by decide +kernel : decode (p_c 170) 290 = .ok (.iadd, 1)) rfl rfl
theorem e170_291 : V 170 291 L (.int i :: .ref a :: st) h Q = (p_iok i (p_get h a) ∧ V 170 292 L (.int (p_ivl i (p_get h a)) :: st) h Q) := V_ial (by decide +kernel : decode (p_c 170) 291 = .ok (.iaload, 1))
theorem e170_292 : V 170 292 [some (.ref a), l1, l2, l3] st h Q = V 170 293 [some (.ref a), l1, l2, l3] (.ref a :: st) h Q := V_nx (by decide +kernel : decode (p_c 170) 292 = .ok (.aload_n 0, 1)) rfl rfl
theorem e170_293 : V 170 293 [l0, l1, l2, some (.int x)] st h Q = V 170 294 [l0, l1, l2, some (.int x)] (.int x :: st) h Q := V_nx (by decide +kernel : decode (p_c 170) 293 = .ok (.iload_n 3, 1)) rfl rfl
theorem e170_294 : V 170 294 L st h Q = V 170 295 L (.int 3 :: st) h Q := V_c (by decide +kernel : decode (p_c 170) 294 = .ok (.iconst 3, 1)) (by decide)
theorem e170_295 : V 170 295 L (.int z :: .int x :: st) h Q = V 170 296 L (.int (x + z) :: st) h Q := V_nx (by decide +kernel : decode (p_c 170) 295 = .ok (.iadd, 1)) rfl rfl
theorem e170_296 : V 170 296 L (.int i :: .ref a :: st) h Q = (p_iok i (p_get h a) ∧ V 170 297 L (.int (p_ivl i (p_get h a)) :: st) h Q) := V_ial (by decide +kernel : decode (p_c 170) 296 = .ok (.iaload, 1))
theorem e170_297 : V 170 297 L (.int x3 :: .int x2 :: .int x1 :: .ref a :: st) h Q = ((p_cn1 (p_get h a) = 11 ∧ p_sm st) ∧ Vm 74 [.ref a, .int x1, .int x2, .int x3] h (Kt 170 300 L st Q)) := V_iv (n := 3) (as := [.int x3, .int x2, .int x1]) (ci := 11) (z := 74) (by decide +kernel : decode (p_c 170) 297 = .ok (.invokevirtual 38, 3)) (by decide +kernel) rfl rfl (by decide +kernel) rfl
theorem e170_300 : V 170 300 [l0, l1, some (.ref a), l3] st h Q = V 170 301 [l0, l1, some (.ref a), l3] (.ref a :: st) h Q := V_nx (by decide +kernel : decode (p_c 170) 300 = .ok (.aload_n 2, 1)) rfl rfl
theorem e170_300n : V 170 300 [l0, l1, some .null, l3] st h Q = V 170 301 [l0, l1, some .null, l3] (.null :: st) h Q := V_nx (by decide +kernel : decode (p_c 170) 300 = .ok (.aload_n 2, 1)) rfl rfl
theorem e170_301 : V 170 301 [some (.ref a), l1, l2, l3] st h Q = V 170 302 [some (.ref a), l1, l2, l3] (.ref a :: st) h Q := V_nx (by decide +kernel : decode (p_c 170) 301 = .ok (.aload_n 0, 1)) rfl rfl
theorem e170_302 : V 170 302 [l0, l1, l2, some (.int x)] st h Q = V 170 303 [l0, l1, l2, some (.int x)] (.int x :: st) h Q := V_nx (by decide +kernel : decode (p_c 170) 302 = .ok (.iload_n 3, 1)) rfl rfl
theorem e170_303 : V 170 303 L st h Q = V 170 304 L (.int 1 :: st) h Q := V_c (by decide +kernel : decode (p_c 170) 303 = .ok (.iconst 1, 1)) (by decide)
theorem e170_304 : V 170 304 L (.int z :: .int x :: st) h Q = V 170 305 L (.int (x + z) :: st) h Q := V_nx (by decide +kernel : decode (p_c 170) 304 = .ok (.iadd, 1)) rfl rfl
theorem e170_305 : V 170 305 L (.int i :: .ref a :: st) h Q = (p_iok i (p_get h a) ∧ V 170 306 L (.int (p_ivl i (p_get h a)) :: st) h Q) := V_ial (by decide +kernel : decode (p_c 170) 305 = .ok (.iaload, 1))
theorem e170_306 : V 170 306 [some (.ref a), l1, l2, l3] st h Q = V 170 307 [some (.ref a), l1, l2, l3] (.ref a :: st) h Q := V_nx (by decide +kernel : decode (p_c 170) 306 = .ok (.aload_n 0, 1)) rfl rfl
theorem e170_307 : V 170 307 [l0, l1, l2, some (.int x)] st h Q = V 170 308 [l0, l1, l2, some (.int x)] (.int x :: st) h Q := V_nx (by decide +kernel : decode (p_c 170) 307 = .ok (.iload_n 3, 1)) rfl rfl
theorem e170_308 : V 170 308 L st h Q = V 170 309 L (.int 2 :: st) h Q := V_c (by decide +kernel : decode (p_c 170) 308 = .ok (.iconst 2, 1)) (by decide)
theorem e170_309 : V 170 309 L (.int z :: .int x :: st) h Q = V 170 310 L (.int (x + z) :: st) h Q := V_nx (by decide +kernel : decode (p_c 170) 309 = .ok (.iadd, 1)) rfl rfl
theorem e170_310 : V 170 310 L (.int i :: .ref a :: st) h Q = (p_iok i (p_get h a) ∧ V 170 311 L (.int (p_ivl i (p_get h a)) :: st) h Q) := V_ial (by decide +kernel : decode (p_c 170) 310 = .ok (.iaload, 1))
theorem e170_311 : V 170 311 [some (.ref a), l1, l2, l3] st h Q = V 170 312 [some (.ref a), l1, l2, l3] (.ref a :: st) h Q := V_nx (by decide +kernel : decode (p_c 170) 311 = .ok (.aload_n 0, 1)) rfl rfl
theorem e170_312 : V 170 312 [l0, l1, l2, some (.int x)] st h Q = V 170 313 [l0, l1, l2, some (.int x)] (.int x :: st) h Q := V_nx (by decide +kernel : decode (p_c 170) 312 = .ok (.iload_n 3, 1)) rfl rfl
theorem e170_313 : V 170 313 L st h Q = V 170 314 L (.int 3 :: st) h Q := V_c (by decide +kernel : decode (p_c 170) 313 = .ok (.iconst 3, 1)) (by decide)
theorem e170_314 : V 170 314 L (.int z :: .int x :: st) h Q = V 170 315 L (.int (x + z) :: st) h Q := V_nx (by decide +kernel : decode (p_c 170) 314 = .ok (.iadd, 1)) rfl rfl
theorem e170_315 : V 170 315 L (.int i :: .ref a :: st) h Q = (p_iok i (p_get h a) ∧ V 170 316 L (.int (p_ivl i (p_get h a)) :: st) h Q) := V_ial (by decide +kernel : decode (p_c 170) 315 = .ok (.iaload, 1))
theorem e170_316 : V 170 316 L (.int x3 :: .int x2 :: .int x1 :: .ref a :: st) h Q = ((p_cn1 (p_get h a) = 12 ∧ p_sm st) ∧ Vm 117 [.ref a, .int x1, .int x2, .int x3] h (Kt 170 319 L st Q)) := V_iv (n := 3) (as := [.int x3, .int x2, .int x1]) (ci := 12) (z := 117) (by decide +kernel : decode (p_c 170) 316 = .ok (.invokevirtual 42, 3)) (by decide +kernel) rfl rfl (by decide +kernel) rfl
theorem e170_319 : V 170 319 L (.int z :: .int x :: st) h Q = if x = z then V 170 899 L st h Q else V 170 322 L st h Q := (V_icmp (by decide +kernel : decode (p_c 170) 319 = .ok (.if_icmp .eq 580, 3)) (by decide)).trans i_eq
theorem e170_322 : V 170 322 L st h Q = V 170 323 L (.int 0 :: st) h Q := V_c (by decide +kernel : decode (p_c 170) 322 = .ok (.iconst 0, 1)) (by decide)
theorem e170_323 : V 170 323 L [.int x] h Q = ((x = 0 ∨ x = 1) ∧ Q (some (.int x)) h) := V_rz (by decide +kernel : decode (p_c 170) 323 = .ok (.ireturn, 1)) rfl
theorem e170_324 : V 170 324 [l0, some (.ref a), l2, l3] st h Q = V 170 325 [l0, some (.ref a), l2, l3] (.ref a :: st) h Q := V_nx (by decide +kernel : decode (p_c 170) 324 = .ok (.aload_n 1, 1)) rfl rfl
theorem e170_324n : V 170 324 [l0, some .null, l2, l3] st h Q = V 170 325 [l0, some .null, l2, l3] (.null :: st) h Q := V_nx (by decide +kernel : decode (p_c 170) 324 = .ok (.aload_n 1, 1)) rfl rfl
theorem e170_325 : V 170 325 [some (.ref a), l1, l2, l3] st h Q = V 170 326 [some (.ref a), l1, l2, l3] (.ref a :: st) h Q := V_nx (by decide +kernel : decode (p_c 170) 325 = .ok (.aload_n 0, 1)) rfl rfl
theorem e170_326 : V 170 326 [l0, l1, l2, some (.int x)] st h Q = V 170 327 [l0, l1, l2, some (.int x)] (.int x :: st) h Q := V_nx (by decide +kernel : decode (p_c 170) 326 = .ok (.iload_n 3, 1)) rfl rfl
theorem e170_327 : V 170 327 L st h Q = V 170 328 L (.int 1 :: st) h Q := V_c (by decide +kernel : decode (p_c 170) 327 = .ok (.iconst 1, 1)) (by decide)
theorem e170_328 : V 170 328 L (.int z :: .int x :: st) h Q = V 170 329 L (.int (x + z) :: st) h Q := V_nx (by decide +kernel : decode (p_c 170) 328 = .ok (.iadd, 1)) rfl rfl
theorem e170_329 : V 170 329 L (.int i :: .ref a :: st) h Q = (p_iok i (p_get h a) ∧ V 170 330 L (.int (p_ivl i (p_get h a)) :: st) h Q) := V_ial (by decide +kernel : decode (p_c 170) 329 = .ok (.iaload, 1))
theorem e170_330 : V 170 330 [some (.ref a), l1, l2, l3] st h Q = V 170 331 [some (.ref a), l1, l2, l3] (.ref a :: st) h Q := V_nx (by decide +kernel : decode (p_c 170) 330 = .ok (.aload_n 0, 1)) rfl rfl
theorem e170_331 : V 170 331 [l0, l1, l2, some (.int x)] st h Q = V 170 332 [l0, l1, l2, some (.int x)] (.int x :: st) h Q := V_nx (by decide +kernel : decode (p_c 170) 331 = .ok (.iload_n 3, 1)) rfl rfl
theorem e170_332 : V 170 332 L st h Q = V 170 333 L (.int 2 :: st) h Q := V_c (by decide +kernel : decode (p_c 170) 332 = .ok (.iconst 2, 1)) (by decide)
theorem e170_333 : V 170 333 L (.int z :: .int x :: st) h Q = V 170 334 L (.int (x + z) :: st) h Q := V_nx (by decide +kernel : decode (p_c 170) 333 = .ok (.iadd, 1)) rfl rfl
theorem e170_334 : V 170 334 L (.int i :: .ref a :: st) h Q = (p_iok i (p_get h a) ∧ V 170 335 L (.int (p_ivl i (p_get h a)) :: st) h Q) := V_ial (by decide +kernel : decode (p_c 170) 334 = .ok (.iaload, 1))
theorem e170_335 : V 170 335 L (.int x2 :: .int x1 :: .ref a :: st) h Q = ((p_cn1 (p_get h a) = 11 ∧ p_sm st) ∧ Vm 75 [.ref a, .int x1, .int x2] h (Kt 170 338 L st Q)) := V_iv (n := 2) (as := [.int x2, .int x1]) (ci := 11) (z := 75) (by decide +kernel : decode (p_c 170) 335 = .ok (.invokevirtual 43, 3)) (by decide +kernel) rfl rfl (by decide +kernel) rfl
theorem e170_338 : V 170 338 [l0, l1, some (.ref a), l3] st h Q = V 170 339 [l0, l1, some (.ref a), l3] (.ref a :: st) h Q := V_nx (by decide +kernel : decode (p_c 170) 338 = .ok (.aload_n 2, 1)) rfl rfl
theorem e170_338n : V 170 338 [l0, l1, some .null, l3] st h Q = V 170 339 [l0, l1, some .null, l3] (.null :: st) h Q := V_nx (by decide +kernel : decode (p_c 170) 338 = .ok (.aload_n 2, 1)) rfl rfl
theorem e170_339 : V 170 339 [some (.ref a), l1, l2, l3] st h Q = V 170 340 [some (.ref a), l1, l2, l3] (.ref a :: st) h Q := V_nx (by decide +kernel : decode (p_c 170) 339 = .ok (.aload_n 0, 1)) rfl rfl
theorem e170_340 : V 170 340 [l0, l1, l2, some (.int x)] st h Q = V 170 341 [l0, l1, l2, some (.int x)] (.int x :: st) h Q := V_nx (by decide +kernel : decode (p_c 170) 340 = .ok (.iload_n 3, 1)) rfl rfl
theorem e170_341 : V 170 341 L st h Q = V 170 342 L (.int 1 :: st) h Q := V_c (by decide +kernel : decode (p_c 170) 341 = .ok (.iconst 1, 1)) (by decide)
theorem e170_342 : V 170 342 L (.int z :: .int x :: st) h Q = V 170 343 L (.int (x + z) :: st) h Q := V_nx (by decide +kernel : decode (p_c 170) 342 = .ok (.iadd, 1)) rfl rfl
theorem e170_343 : V 170 343 L (.int i :: .ref a :: st) h Q = (p_iok i (p_get h a) ∧ V 170 344 L (.int (p_ivl i (p_get h a)) :: st) h Q) := V_ial (by decide +kernel : decode (p_c 170) 343 = .ok (.iaload, 1))
theorem e170_344 : V 170 344 [some (.ref a), l1, l2, l3] st h Q = V 170 345 [some (.ref a), l1, l2, l3] (.ref a :: st) h Q := V_nx (by decide +kernel : decode (p_c 170) 344 = .ok (.aload_n 0, 1)) rfl rfl
theorem e170_345 : V 170 345 [l0, l1, l2, some (.int x)] st h Q = V 170 346 [l0, l1, l2, some (.int x)] (.int x :: st) h Q := V_nx (by decide +kernel : decode (p_c 170) 345 = .ok (.iload_n 3, 1)) rfl rfl
theorem e170_346 : V 170 346 L st h Q = V 170 347 L (.int 2 :: st) h Q := V_c (by decide +kernel : decode (p_c 170) 346 = .ok (.iconst 2, 1)) (by decide)
theorem e170_347 : V 170 347 L (.int z :: .int x :: st) h Q = V 170 348 L (.int (x + z) :: st) h Q := V_nx (by decide +kernel : decode (p_c 170) 347 = .ok (.iadd, 1)) rfl rfl
theorem e170_348 : V 170 348 L (.int i :: .ref a :: st) h Q = (p_iok i (p_get h a) ∧ V 170 349 L (.int (p_ivl i (p_get h a)) :: st) h Q) := V_ial (by decide +kernel : decode (p_c 170) 348 = .ok (.iaload, 1))
theorem e170_349 : V 170 349 L (.int x2 :: .int x1 :: .ref a :: st) h Q = ((p_cn1 (p_get h a) = 12 ∧ p_sm st) ∧ Vm 122 [.ref a, .int x1, .int x2] h (Kt 170 352 L st Q)) := V_iv (n := 2) (as := [.int x2, .int x1]) (ci := 12) (z := 122) (by decide +kernel : decode (p_c 170) 349 = .ok (.invokevirtual 46, 3)) (by decide +kernel) rfl rfl (by decide +kernel) rfl
theorem e170_352 : V 170 352 L (.int z :: .int x :: st) h Q = if x = z then V 170 899 L st h Q else V 170 355 L st h Q := (V_icmp (by decide +kernel : decode (p_c 170) 352 = .ok (.if_icmp .eq 547, 3)) (by decide)).trans i_eq
theorem e170_355 : V 170 355 L st h Q = V 170 356 L (.int 0 :: st) h Q := V_c (by decide +kernel : decode (p_c 170) 355 = .ok (.iconst 0, 1)) (by decide)
theorem e170_356 : V 170 356 L [.int x] h Q = ((x = 0 ∨ x = 1) ∧ Q (some (.int x)) h) := V_rz (by decide +kernel : decode (p_c 170) 356 = .ok (.ireturn, 1)) rfl
theorem e170_357 : V 170 357 [l0, some (.ref a), l2, l3] st h Q = V 170 358 [l0, some (.ref a), l2, l3] (.ref a :: st) h Q := V_nx (by decide +kernel : decode (p_c 170) 357 = .ok (.aload_n 1, 1)) rfl rfl
theorem e170_357n : V 170 357 [l0, some .null, l2, l3] st h Q = V 170 358 [l0, some .null, l2, l3] (.null :: st) h Q := V_nx (by decide +kernel : decode (p_c 170) 357 = .ok (.aload_n 1, 1)) rfl rfl
theorem e170_358 : V 170 358 [some (.ref a), l1, l2, l3] st h Q = V 170 359 [some (.ref a), l1, l2, l3] (.ref a :: st) h Q := V_nx (by decide +kernel : decode (p_c 170) 358 = .ok (.aload_n 0, 1)) rfl rfl
theorem e170_359 : V 170 359 [l0, l1, l2, some (.int x)] st h Q = V 170 360 [l0, l1, l2, some (.int x)] (.int x :: st) h Q := V_nx (by decide +kernel : decode (p_c 170) 359 = .ok (.iload_n 3, 1)) rfl rfl
theorem e170_360 : V 170 360 L st h Q = V 170 361 L (.int 1 :: st) h Q := V_c (by decide +kernel : decode (p_c 170) 360 = .ok (.iconst 1, 1)) (by decide)
theorem e170_361 : V 170 361 L (.int z :: .int x :: st) h Q = V 170 362 L (.int (x + z) :: st) h Q := V_nx (by decide +kernel : decode (p_c 170) 361 = .ok (.iadd, 1)) rfl rfl
theorem e170_362 : V 170 362 L (.int i :: .ref a :: st) h Q = (p_iok i (p_get h a) ∧ V 170 363 L (.int (p_ivl i (p_get h a)) :: st) h Q) := V_ial (by decide +kernel : decode (p_c 170) 362 = .ok (.iaload, 1))
theorem e170_363 : V 170 363 [some (.ref a), l1, l2, l3] st h Q = V 170 364 [some (.ref a), l1, l2, l3] (.ref a :: st) h Q := V_nx (by decide +kernel : decode (p_c 170) 363 = .ok (.aload_n 0, 1)) rfl rfl
theorem e170_364 : V 170 364 [l0, l1, l2, some (.int x)] st h Q = V 170 365 [l0, l1, l2, some (.int x)] (.int x :: st) h Q := V_nx (by decide +kernel : decode (p_c 170) 364 = .ok (.iload_n 3, 1)) rfl rfl
theorem e170_365 : V 170 365 L st h Q = V 170 366 L (.int 2 :: st) h Q := V_c (by decide +kernel : decode (p_c 170) 365 = .ok (.iconst 2, 1)) (by decide)
theorem e170_366 : V 170 366 L (.int z :: .int x :: st) h Q = V 170 367 L (.int (x + z) :: st) h Q := V_nx (by decide +kernel : decode (p_c 170) 366 = .ok (.iadd, 1)) rfl rfl
theorem e170_367 : V 170 367 L (.int i :: .ref a :: st) h Q = (p_iok i (p_get h a) ∧ V 170 368 L (.int (p_ivl i (p_get h a)) :: st) h Q) := V_ial (by decide +kernel : decode (p_c 170) 367 = .ok (.iaload, 1))
theorem e170_368 : V 170 368 L (.int x2 :: .int x1 :: .ref a :: st) h Q = ((p_cn1 (p_get h a) = 11 ∧ p_sm st) ∧ Vm 76 [.ref a, .int x1, .int x2] h (Kt 170 371 L st Q)) := V_iv (n := 2) (as := [.int x2, .int x1]) (ci := 11) (z := 76) (by decide +kernel : decode (p_c 170) 368 = .ok (.invokevirtual 47, 3)) (by decide +kernel) rfl rfl (by decide +kernel) rfl
theorem e170_371 : V 170 371 [l0, l1, some (.ref a), l3] st h Q = V 170 372 [l0, l1, some (.ref a), l3] (.ref a :: st) h Q := V_nx (by decide +kernel : decode (p_c 170) 371 = .ok (.aload_n 2, 1)) rfl rfl
theorem e170_371n : V 170 371 [l0, l1, some .null, l3] st h Q = V 170 372 [l0, l1, some .null, l3] (.null :: st) h Q := V_nx (by decide +kernel : decode (p_c 170) 371 = .ok (.aload_n 2, 1)) rfl rfl
theorem e170_372 : V 170 372 [some (.ref a), l1, l2, l3] st h Q = V 170 373 [some (.ref a), l1, l2, l3] (.ref a :: st) h Q := V_nx (by decide +kernel : decode (p_c 170) 372 = .ok (.aload_n 0, 1)) rfl rfl
theorem e170_373 : V 170 373 [l0, l1, l2, some (.int x)] st h Q = V 170 374 [l0, l1, l2, some (.int x)] (.int x :: st) h Q := V_nx (by decide +kernel : decode (p_c 170) 373 = .ok (.iload_n 3, 1)) rfl rfl
theorem e170_374 : V 170 374 L st h Q = V 170 375 L (.int 1 :: st) h Q := V_c (by decide +kernel : decode (p_c 170) 374 = .ok (.iconst 1, 1)) (by decide)
theorem e170_375 : V 170 375 L (.int z :: .int x :: st) h Q = V 170 376 L (.int (x + z) :: st) h Q := V_nx (by decide +kernel : decode (p_c 170) 375 = .ok (.iadd, 1)) rfl rfl
theorem e170_376 : V 170 376 L (.int i :: .ref a :: st) h Q = (p_iok i (p_get h a) ∧ V 170 377 L (.int (p_ivl i (p_get h a)) :: st) h Q) := V_ial (by decide +kernel : decode (p_c 170) 376 = .ok (.iaload, 1))
theorem e170_377 : V 170 377 [some (.ref a), l1, l2, l3] st h Q = V 170 378 [some (.ref a), l1, l2, l3] (.ref a :: st) h Q := V_nx (by decide +kernel : decode (p_c 170) 377 = .ok (.aload_n 0, 1)) rfl rfl
theorem e170_378 : V 170 378 [l0, l1, l2, some (.int x)] st h Q = V 170 379 [l0, l1, l2, some (.int x)] (.int x :: st) h Q := V_nx (by decide +kernel : decode (p_c 170) 378 = .ok (.iload_n 3, 1)) rfl rfl
theorem e170_379 : V 170 379 L st h Q = V 170 380 L (.int 2 :: st) h Q := V_c (by decide +kernel : decode (p_c 170) 379 = .ok (.iconst 2, 1)) (by decide)
theorem e170_380 : V 170 380 L (.int z :: .int x :: st) h Q = V 170 381 L (.int (x + z) :: st) h Q := V_nx (by decide +kernel : decode (p_c 170) 380 = .ok (.iadd, 1)) rfl rfl
theorem e170_381 : V 170 381 L (.int i :: .ref a :: st) h Q = (p_iok i (p_get h a) ∧ V 170 382 L (.int (p_ivl i (p_get h a)) :: st) h Q) := V_ial (by decide +kernel : decode (p_c 170) 381 = .ok (.iaload, 1))
theorem e170_382 : V 170 382 L (.int x2 :: .int x1 :: .ref a :: st) h Q = ((p_cn1 (p_get h a) = 12 ∧ p_sm st) ∧ Vm 123 [.ref a, .int x1, .int x2] h (Kt 170 385 L st Q)) := V_iv (n := 2) (as := [.int x2, .int x1]) (ci := 12) (z := 123) (by decide +kernel : decode (p_c 170) 382 = .ok (.invokevirtual 50, 3)) (by decide +kernel) rfl rfl (by decide +kernel) rfl
theorem e170_385 : V 170 385 L (.int z :: .int x :: st) h Q = if x = z then V 170 899 L st h Q else V 170 388 L st h Q := (V_icmp (by decide +kernel : decode (p_c 170) 385 = .ok (.if_icmp .eq 514, 3)) (by decide)).trans i_eq
theorem e170_388 : V 170 388 L st h Q = V 170 389 L (.int 0 :: st) h Q := V_c (by decide +kernel : decode (p_c 170) 388 = .ok (.iconst 0, 1)) (by decide)
theorem e170_389 : V 170 389 L [.int x] h Q = ((x = 0 ∨ x = 1) ∧ Q (some (.int x)) h) := V_rz (by decide +kernel : decode (p_c 170) 389 = .ok (.ireturn, 1)) rfl
theorem e170_390 : V 170 390 [l0, some (.ref a), l2, l3] st h Q = V 170 391 [l0, some (.ref a), l2, l3] (.ref a :: st) h Q := V_nx (by decide +kernel : decode (p_c 170) 390 = .ok (.aload_n 1, 1)) rfl rfl
theorem e170_390n : V 170 390 [l0, some .null, l2, l3] st h Q = V 170 391 [l0, some .null, l2, l3] (.null :: st) h Q := V_nx (by decide +kernel : decode (p_c 170) 390 = .ok (.aload_n 1, 1)) rfl rfl
theorem e170_391 : V 170 391 [some (.ref a), l1, l2, l3] st h Q = V 170 392 [some (.ref a), l1, l2, l3] (.ref a :: st) h Q := V_nx (by decide +kernel : decode (p_c 170) 391 = .ok (.aload_n 0, 1)) rfl rfl
theorem e170_392 : V 170 392 [l0, l1, l2, some (.int x)] st h Q = V 170 393 [l0, l1, l2, some (.int x)] (.int x :: st) h Q := V_nx (by decide +kernel : decode (p_c 170) 392 = .ok (.iload_n 3, 1)) rfl rfl
theorem e170_393 : V 170 393 L st h Q = V 170 394 L (.int 1 :: st) h Q := V_c (by decide +kernel : decode (p_c 170) 393 = .ok (.iconst 1, 1)) (by decide)
theorem e170_394 : V 170 394 L (.int z :: .int x :: st) h Q = V 170 395 L (.int (x + z) :: st) h Q := V_nx (by decide +kernel : decode (p_c 170) 394 = .ok (.iadd, 1)) rfl rfl
theorem e170_395 : V 170 395 L (.int i :: .ref a :: st) h Q = (p_iok i (p_get h a) ∧ V 170 396 L (.int (p_ivl i (p_get h a)) :: st) h Q) := V_ial (by decide +kernel : decode (p_c 170) 395 = .ok (.iaload, 1))
theorem e170_396 : V 170 396 L (.int x1 :: .ref a :: st) h Q = ((p_cn1 (p_get h a) = 11 ∧ p_sm st) ∧ Vm 77 [.ref a, .int x1] h (Kt 170 399 L st Q)) := V_iv (n := 1) (as := [.int x1]) (ci := 11) (z := 77) (by decide +kernel : decode (p_c 170) 396 = .ok (.invokevirtual 51, 3)) (by decide +kernel) rfl rfl (by decide +kernel) rfl
theorem e170_399 : V 170 399 [l0, l1, some (.ref a), l3] st h Q = V 170 400 [l0, l1, some (.ref a), l3] (.ref a :: st) h Q := V_nx (by decide +kernel : decode (p_c 170) 399 = .ok (.aload_n 2, 1)) rfl rfl
theorem e170_399n : V 170 399 [l0, l1, some .null, l3] st h Q = V 170 400 [l0, l1, some .null, l3] (.null :: st) h Q := V_nx (by decide +kernel : decode (p_c 170) 399 = .ok (.aload_n 2, 1)) rfl rfl
theorem e170_400 : V 170 400 [some (.ref a), l1, l2, l3] st h Q = V 170 401 [some (.ref a), l1, l2, l3] (.ref a :: st) h Q := V_nx (by decide +kernel : decode (p_c 170) 400 = .ok (.aload_n 0, 1)) rfl rfl
theorem e170_401 : V 170 401 [l0, l1, l2, some (.int x)] st h Q = V 170 402 [l0, l1, l2, some (.int x)] (.int x :: st) h Q := V_nx (by decide +kernel : decode (p_c 170) 401 = .ok (.iload_n 3, 1)) rfl rfl
theorem e170_402 : V 170 402 L st h Q = V 170 403 L (.int 1 :: st) h Q := V_c (by decide +kernel : decode (p_c 170) 402 = .ok (.iconst 1, 1)) (by decide)
theorem e170_403 : V 170 403 L (.int z :: .int x :: st) h Q = V 170 404 L (.int (x + z) :: st) h Q := V_nx (by decide +kernel : decode (p_c 170) 403 = .ok (.iadd, 1)) rfl rfl
theorem e170_404 : V 170 404 L (.int i :: .ref a :: st) h Q = (p_iok i (p_get h a) ∧ V 170 405 L (.int (p_ivl i (p_get h a)) :: st) h Q) := V_ial (by decide +kernel : decode (p_c 170) 404 = .ok (.iaload, 1))
theorem e170_405 : V 170 405 L (.int x1 :: .ref a :: st) h Q = ((p_cn1 (p_get h a) = 12 ∧ p_sm st) ∧ Vm 131 [.ref a, .int x1] h (Kt 170 408 L st Q)) := V_iv (n := 1) (as := [.int x1]) (ci := 12) (z := 131) (by decide +kernel : decode (p_c 170) 405 = .ok (.invokevirtual 55, 3)) (by decide +kernel) rfl rfl (by decide +kernel) rfl
theorem e170_408 : V 170 408 L (.int z :: .int x :: st) h Q = if x = z then V 170 899 L st h Q else V 170 411 L st h Q := (V_icmp (by decide +kernel : decode (p_c 170) 408 = .ok (.if_icmp .eq 491, 3)) (by decide)).trans i_eq
theorem e170_411 : V 170 411 L st h Q = V 170 412 L (.int 0 :: st) h Q := V_c (by decide +kernel : decode (p_c 170) 411 = .ok (.iconst 0, 1)) (by decide)
theorem e170_412 : V 170 412 L [.int x] h Q = ((x = 0 ∨ x = 1) ∧ Q (some (.int x)) h) := V_rz (by decide +kernel : decode (p_c 170) 412 = .ok (.ireturn, 1)) rfl
theorem e170_413 : V 170 413 [l0, some (.ref a), l2, l3] st h Q = V 170 414 [l0, some (.ref a), l2, l3] (.ref a :: st) h Q := V_nx (by decide +kernel : decode (p_c 170) 413 = .ok (.aload_n 1, 1)) rfl rfl
theorem e170_413n : V 170 413 [l0, some .null, l2, l3] st h Q = V 170 414 [l0, some .null, l2, l3] (.null :: st) h Q := V_nx (by decide +kernel : decode (p_c 170) 413 = .ok (.aload_n 1, 1)) rfl rfl
theorem e170_414 : V 170 414 [some (.ref a), l1, l2, l3] st h Q = V 170 415 [some (.ref a), l1, l2, l3] (.ref a :: st) h Q := V_nx (by decide +kernel : decode (p_c 170) 414 = .ok (.aload_n 0, 1)) rfl rfl
theorem e170_415 : V 170 415 [l0, l1, l2, some (.int x)] st h Q = V 170 416 [l0, l1, l2, some (.int x)] (.int x :: st) h Q := V_nx (by decide +kernel : decode (p_c 170) 415 = .ok (.iload_n 3, 1)) rfl rfl
theorem e170_416 : V 170 416 L st h Q = V 170 417 L (.int 1 :: st) h Q := V_c (by decide +kernel : decode (p_c 170) 416 = .ok (.iconst 1, 1)) (by decide)
theorem e170_417 : V 170 417 L (.int z :: .int x :: st) h Q = V 170 418 L (.int (x + z) :: st) h Q := V_nx (by decide +kernel : decode (p_c 170) 417 = .ok (.iadd, 1)) rfl rfl
theorem e170_418 : V 170 418 L (.int i :: .ref a :: st) h Q = (p_iok i (p_get h a) ∧ V 170 419 L (.int (p_ivl i (p_get h a)) :: st) h Q) := V_ial (by decide +kernel : decode (p_c 170) 418 = .ok (.iaload, 1))
theorem e170_419 : V 170 419 [some (.ref a), l1, l2, l3] st h Q = V 170 420 [some (.ref a), l1, l2, l3] (.ref a :: st) h Q := V_nx (by decide +kernel : decode (p_c 170) 419 = .ok (.aload_n 0, 1)) rfl rfl
theorem e170_420 : V 170 420 [l0, l1, l2, some (.int x)] st h Q = V 170 421 [l0, l1, l2, some (.int x)] (.int x :: st) h Q := V_nx (by decide +kernel : decode (p_c 170) 420 = .ok (.iload_n 3, 1)) rfl rfl
theorem e170_421 : V 170 421 L st h Q = V 170 422 L (.int 2 :: st) h Q := V_c (by decide +kernel : decode (p_c 170) 421 = .ok (.iconst 2, 1)) (by decide)
theorem e170_422 : V 170 422 L (.int z :: .int x :: st) h Q = V 170 423 L (.int (x + z) :: st) h Q := V_nx (by decide +kernel : decode (p_c 170) 422 = .ok (.iadd, 1)) rfl rfl
theorem e170_423 : V 170 423 L (.int i :: .ref a :: st) h Q = (p_iok i (p_get h a) ∧ V 170 424 L (.int (p_ivl i (p_get h a)) :: st) h Q) := V_ial (by decide +kernel : decode (p_c 170) 423 = .ok (.iaload, 1))
theorem e170_424 : V 170 424 L (.int x2 :: .int x1 :: .ref a :: st) h Q = ((p_cn1 (p_get h a) = 11 ∧ p_sm st) ∧ Vm 78 [.ref a, .int x1, .int x2] h (Kt 170 427 L st Q)) := V_iv (n := 2) (as := [.int x2, .int x1]) (ci := 11) (z := 78) (by decide +kernel : decode (p_c 170) 424 = .ok (.invokevirtual 56, 3)) (by decide +kernel) rfl rfl (by decide +kernel) rfl
theorem e170_427 : V 170 427 [l0, l1, some (.ref a), l3] st h Q = V 170 428 [l0, l1, some (.ref a), l3] (.ref a :: st) h Q := V_nx (by decide +kernel : decode (p_c 170) 427 = .ok (.aload_n 2, 1)) rfl rfl
theorem e170_427n : V 170 427 [l0, l1, some .null, l3] st h Q = V 170 428 [l0, l1, some .null, l3] (.null :: st) h Q := V_nx (by decide +kernel : decode (p_c 170) 427 = .ok (.aload_n 2, 1)) rfl rfl
theorem e170_428 : V 170 428 [some (.ref a), l1, l2, l3] st h Q = V 170 429 [some (.ref a), l1, l2, l3] (.ref a :: st) h Q := V_nx (by decide +kernel : decode (p_c 170) 428 = .ok (.aload_n 0, 1)) rfl rfl
theorem e170_429 : V 170 429 [l0, l1, l2, some (.int x)] st h Q = V 170 430 [l0, l1, l2, some (.int x)] (.int x :: st) h Q := V_nx (by decide +kernel : decode (p_c 170) 429 = .ok (.iload_n 3, 1)) rfl rfl
theorem e170_430 : V 170 430 L st h Q = V 170 431 L (.int 1 :: st) h Q := V_c (by decide +kernel : decode (p_c 170) 430 = .ok (.iconst 1, 1)) (by decide)
theorem e170_431 : V 170 431 L (.int z :: .int x :: st) h Q = V 170 432 L (.int (x + z) :: st) h Q := V_nx (by decide +kernel : decode (p_c 170) 431 = .ok (.iadd, 1)) rfl rfl
theorem e170_432 : V 170 432 L (.int i :: .ref a :: st) h Q = (p_iok i (p_get h a) ∧ V 170 433 L (.int (p_ivl i (p_get h a)) :: st) h Q) := V_ial (by decide +kernel : decode (p_c 170) 432 = .ok (.iaload, 1))
theorem e170_433 : V 170 433 [some (.ref a), l1, l2, l3] st h Q = V 170 434 [some (.ref a), l1, l2, l3] (.ref a :: st) h Q := V_nx (by decide +kernel : decode (p_c 170) 433 = .ok (.aload_n 0, 1)) rfl rfl
theorem e170_434 : V 170 434 [l0, l1, l2, some (.int x)] st h Q = V 170 435 [l0, l1, l2, some (.int x)] (.int x :: st) h Q := V_nx (by decide +kernel : decode (p_c 170) 434 = .ok (.iload_n 3, 1)) rfl rfl
theorem e170_435 : V 170 435 L st h Q = V 170 436 L (.int 2 :: st) h Q := V_c (by decide +kernel : decode (p_c 170) 435 = .ok (.iconst 2, 1)) (by decide)
theorem e170_436 : V 170 436 L (.int z :: .int x :: st) h Q = V 170 437 L (.int (x + z) :: st) h Q := V_nx (by decide +kernel : decode (p_c 170) 436 = .ok (.iadd, 1)) rfl rfl
theorem e170_437 : V 170 437 L (.int i :: .ref a :: st) h Q = (p_iok i (p_get h a) ∧ V 170 438 L (.int (p_ivl i (p_get h a)) :: st) h Q) := V_ial (by decide +kernel : decode (p_c 170) 437 = .ok (.iaload, 1))
theorem e170_438 : V 170 438 L (.int x2 :: .int x1 :: .ref a :: st) h Q = ((p_cn1 (p_get h a) = 12 ∧ p_sm st) ∧ Vm 132 [.ref a, .int x1, .int x2] h (Kt 170 441 L st Q)) := V_iv (n := 2) (as := [.int x2, .int x1]) (ci := 12) (z := 132) (by decide +kernel : decode (p_c 170) 438 = .ok (.invokevirtual 59, 3)) (by decide +kernel) rfl rfl (by decide +kernel) rfl
theorem e170_441 : V 170 441 L (.int z :: .int x :: st) h Q = if x = z then V 170 899 L st h Q else V 170 444 L st h Q := (V_icmp (by decide +kernel : decode (p_c 170) 441 = .ok (.if_icmp .eq 458, 3)) (by decide)).trans i_eq
theorem e170_444 : V 170 444 L st h Q = V 170 445 L (.int 0 :: st) h Q := V_c (by decide +kernel : decode (p_c 170) 444 = .ok (.iconst 0, 1)) (by decide)
theorem e170_445 : V 170 445 L [.int x] h Q = ((x = 0 ∨ x = 1) ∧ Q (some (.int x)) h) := V_rz (by decide +kernel : decode (p_c 170) 445 = .ok (.ireturn, 1)) rfl
theorem e170_446 : V 170 446 [l0, some (.ref a), l2, l3] st h Q = V 170 447 [l0, some (.ref a), l2, l3] (.ref a :: st) h Q := V_nx (by decide +kernel : decode (p_c 170) 446 = .ok (.aload_n 1, 1)) rfl rfl
theorem e170_446n : V 170 446 [l0, some .null, l2, l3] st h Q = V 170 447 [l0, some .null, l2, l3] (.null :: st) h Q := V_nx (by decide +kernel : decode (p_c 170) 446 = .ok (.aload_n 1, 1)) rfl rfl
theorem e170_447 : V 170 447 [some (.ref a), l1, l2, l3] st h Q = V 170 448 [some (.ref a), l1, l2, l3] (.ref a :: st) h Q := V_nx (by decide +kernel : decode (p_c 170) 447 = .ok (.aload_n 0, 1)) rfl rfl
theorem e170_448 : V 170 448 [l0, l1, l2, some (.int x)] st h Q = V 170 449 [l0, l1, l2, some (.int x)] (.int x :: st) h Q := V_nx (by decide +kernel : decode (p_c 170) 448 = .ok (.iload_n 3, 1)) rfl rfl
theorem e170_449 : V 170 449 L st h Q = V 170 450 L (.int 1 :: st) h Q := V_c (by decide +kernel : decode (p_c 170) 449 = .ok (.iconst 1, 1)) (by decide)
theorem e170_450 : V 170 450 L (.int z :: .int x :: st) h Q = V 170 451 L (.int (x + z) :: st) h Q := V_nx (by decide +kernel : decode (p_c 170) 450 = .ok (.iadd, 1)) rfl rfl
theorem e170_451 : V 170 451 L (.int i :: .ref a :: st) h Q = (p_iok i (p_get h a) ∧ V 170 452 L (.int (p_ivl i (p_get h a)) :: st) h Q) := V_ial (by decide +kernel : decode (p_c 170) 451 = .ok (.iaload, 1))
theorem e170_452 : V 170 452 [some (.ref a), l1, l2, l3] st h Q = V 170 453 [some (.ref a), l1, l2, l3] (.ref a :: st) h Q := V_nx (by decide +kernel : decode (p_c 170) 452 = .ok (.aload_n 0, 1)) rfl rfl
theorem e170_453 : V 170 453 [l0, l1, l2, some (.int x)] st h Q = V 170 454 [l0, l1, l2, some (.int x)] (.int x :: st) h Q := V_nx (by decide +kernel : decode (p_c 170) 453 = .ok (.iload_n 3, 1)) rfl rfl
theorem e170_454 : V 170 454 L st h Q = V 170 455 L (.int 2 :: st) h Q := V_c (by decide +kernel : decode (p_c 170) 454 = .ok (.iconst 2, 1)) (by decide)
theorem e170_455 : V 170 455 L (.int z :: .int x :: st) h Q = V 170 456 L (.int (x + z) :: st) h Q := V_nx (by decide +kernel : decode (p_c 170) 455 = .ok (.iadd, 1)) rfl rfl
theorem e170_456 : V 170 456 L (.int i :: .ref a :: st) h Q = (p_iok i (p_get h a) ∧ V 170 457 L (.int (p_ivl i (p_get h a)) :: st) h Q) := V_ial (by decide +kernel : decode (p_c 170) 456 = .ok (.iaload, 1))
theorem e170_457 : V 170 457 L (.int x2 :: .int x1 :: .ref a :: st) h Q = ((p_cn1 (p_get h a) = 11 ∧ p_sm st) ∧ Vm 79 [.ref a, .int x1, .int x2] h (Kt 170 460 L st Q)) := V_iv (n := 2) (as := [.int x2, .int x1]) (ci := 11) (z := 79) (by decide +kernel : decode (p_c 170) 457 = .ok (.invokevirtual 60, 3)) (by decide +kernel) rfl rfl (by decide +kernel) rfl
theorem e170_460 : V 170 460 [l0, l1, some (.ref a), l3] st h Q = V 170 461 [l0, l1, some (.ref a), l3] (.ref a :: st) h Q := V_nx (by decide +kernel : decode (p_c 170) 460 = .ok (.aload_n 2, 1)) rfl rfl
theorem e170_460n : V 170 460 [l0, l1, some .null, l3] st h Q = V 170 461 [l0, l1, some .null, l3] (.null :: st) h Q := V_nx (by decide +kernel : decode (p_c 170) 460 = .ok (.aload_n 2, 1)) rfl rfl
theorem e170_461 : V 170 461 [some (.ref a), l1, l2, l3] st h Q = V 170 462 [some (.ref a), l1, l2, l3] (.ref a :: st) h Q := V_nx (by decide +kernel : decode (p_c 170) 461 = .ok (.aload_n 0, 1)) rfl rfl
theorem e170_462 : V 170 462 [l0, l1, l2, some (.int x)] st h Q = V 170 463 [l0, l1, l2, some (.int x)] (.int x :: st) h Q := V_nx (by decide +kernel : decode (p_c 170) 462 = .ok (.iload_n 3, 1)) rfl rfl
theorem e170_463 : V 170 463 L st h Q = V 170 464 L (.int 1 :: st) h Q := V_c (by decide +kernel : decode (p_c 170) 463 = .ok (.iconst 1, 1)) (by decide)
theorem e170_464 : V 170 464 L (.int z :: .int x :: st) h Q = V 170 465 L (.int (x + z) :: st) h Q := V_nx (by decide +kernel : decode (p_c 170) 464 = .ok (.iadd, 1)) rfl rfl
theorem e170_465 : V 170 465 L (.int i :: .ref a :: st) h Q = (p_iok i (p_get h a) ∧ V 170 466 L (.int (p_ivl i (p_get h a)) :: st) h Q) := V_ial (by decide +kernel : decode (p_c 170) 465 = .ok (.iaload, 1))
theorem e170_466 : V 170 466 [some (.ref a), l1, l2, l3] st h Q = V 170 467 [some (.ref a), l1, l2, l3] (.ref a :: st) h Q := V_nx (by decide +kernel : decode (p_c 170) 466 = .ok (.aload_n 0, 1)) rfl rfl
theorem e170_467 : V 170 467 [l0, l1, l2, some (.int x)] st h Q = V 170 468 [l0, l1, l2, some (.int x)] (.int x :: st) h Q := V_nx (by decide +kernel : decode (p_c 170) 467 = .ok (.iload_n 3, 1)) rfl rfl
theorem e170_468 : V 170 468 L st h Q = V 170 469 L (.int 2 :: st) h Q := V_c (by decide +kernel : decode (p_c 170) 468 = .ok (.iconst 2, 1)) (by decide)
theorem e170_469 : V 170 469 L (.int z :: .int x :: st) h Q = V 170 470 L (.int (x + z) :: st) h Q := V_nx (by decide +kernel : decode (p_c 170) 469 = .ok (.iadd, 1)) rfl rfl
theorem e170_470 : V 170 470 L (.int i :: .ref a :: st) h Q = (p_iok i (p_get h a) ∧ V 170 471 L (.int (p_ivl i (p_get h a)) :: st) h Q) := V_ial (by decide +kernel : decode (p_c 170) 470 = .ok (.iaload, 1))
theorem e170_471 : V 170 471 L (.int x2 :: .int x1 :: .ref a :: st) h Q = ((p_cn1 (p_get h a) = 12 ∧ p_sm st) ∧ Vm 133 [.ref a, .int x1, .int x2] h (Kt 170 474 L st Q)) := V_iv (n := 2) (as := [.int x2, .int x1]) (ci := 12) (z := 133) (by decide +kernel : decode (p_c 170) 471 = .ok (.invokevirtual 63, 3)) (by decide +kernel) rfl rfl (by decide +kernel) rfl
theorem e170_474 : V 170 474 L (.int z :: .int x :: st) h Q = if x = z then V 170 899 L st h Q else V 170 477 L st h Q := (V_icmp (by decide +kernel : decode (p_c 170) 474 = .ok (.if_icmp .eq 425, 3)) (by decide)).trans i_eq
theorem e170_477 : V 170 477 L st h Q = V 170 478 L (.int 0 :: st) h Q := V_c (by decide +kernel : decode (p_c 170) 477 = .ok (.iconst 0, 1)) (by decide)
theorem e170_478 : V 170 478 L [.int x] h Q = ((x = 0 ∨ x = 1) ∧ Q (some (.int x)) h) := V_rz (by decide +kernel : decode (p_c 170) 478 = .ok (.ireturn, 1)) rfl
theorem e170_479 : V 170 479 [l0, some (.ref a), l2, l3] st h Q = V 170 480 [l0, some (.ref a), l2, l3] (.ref a :: st) h Q := V_nx (by decide +kernel : decode (p_c 170) 479 = .ok (.aload_n 1, 1)) rfl rfl
theorem e170_479n : V 170 479 [l0, some .null, l2, l3] st h Q = V 170 480 [l0, some .null, l2, l3] (.null :: st) h Q := V_nx (by decide +kernel : decode (p_c 170) 479 = .ok (.aload_n 1, 1)) rfl rfl
theorem e170_480 : V 170 480 [some (.ref a), l1, l2, l3] st h Q = V 170 481 [some (.ref a), l1, l2, l3] (.ref a :: st) h Q := V_nx (by decide +kernel : decode (p_c 170) 480 = .ok (.aload_n 0, 1)) rfl rfl
theorem e170_481 : V 170 481 [l0, l1, l2, some (.int x)] st h Q = V 170 482 [l0, l1, l2, some (.int x)] (.int x :: st) h Q := V_nx (by decide +kernel : decode (p_c 170) 481 = .ok (.iload_n 3, 1)) rfl rfl
theorem e170_482 : V 170 482 L st h Q = V 170 483 L (.int 1 :: st) h Q := V_c (by decide +kernel : decode (p_c 170) 482 = .ok (.iconst 1, 1)) (by decide)
theorem e170_483 : V 170 483 L (.int z :: .int x :: st) h Q = V 170 484 L (.int (x + z) :: st) h Q := V_nx (by decide +kernel : decode (p_c 170) 483 = .ok (.iadd, 1)) rfl rfl
theorem e170_484 : V 170 484 L (.int i :: .ref a :: st) h Q = (p_iok i (p_get h a) ∧ V 170 485 L (.int (p_ivl i (p_get h a)) :: st) h Q) := V_ial (by decide +kernel : decode (p_c 170) 484 = .ok (.iaload, 1))
theorem e170_485 : V 170 485 L (.int x1 :: .ref a :: st) h Q = ((p_cn1 (p_get h a) = 11 ∧ p_sm st) ∧ Vm 80 [.ref a, .int x1] h (Kt 170 488 L st Q)) := V_iv (n := 1) (as := [.int x1]) (ci := 11) (z := 80) (by decide +kernel : decode (p_c 170) 485 = .ok (.invokevirtual 64, 3)) (by decide +kernel) rfl rfl (by decide +kernel) rfl
theorem e170_488 : V 170 488 [l0, l1, some (.ref a), l3] st h Q = V 170 489 [l0, l1, some (.ref a), l3] (.ref a :: st) h Q := V_nx (by decide +kernel : decode (p_c 170) 488 = .ok (.aload_n 2, 1)) rfl rfl
theorem e170_488n : V 170 488 [l0, l1, some .null, l3] st h Q = V 170 489 [l0, l1, some .null, l3] (.null :: st) h Q := V_nx (by decide +kernel : decode (p_c 170) 488 = .ok (.aload_n 2, 1)) rfl rfl
theorem e170_489 : V 170 489 [some (.ref a), l1, l2, l3] st h Q = V 170 490 [some (.ref a), l1, l2, l3] (.ref a :: st) h Q := V_nx (by decide +kernel : decode (p_c 170) 489 = .ok (.aload_n 0, 1)) rfl rfl
theorem e170_490 : V 170 490 [l0, l1, l2, some (.int x)] st h Q = V 170 491 [l0, l1, l2, some (.int x)] (.int x :: st) h Q := V_nx (by decide +kernel : decode (p_c 170) 490 = .ok (.iload_n 3, 1)) rfl rfl
theorem e170_491 : V 170 491 L st h Q = V 170 492 L (.int 1 :: st) h Q := V_c (by decide +kernel : decode (p_c 170) 491 = .ok (.iconst 1, 1)) (by decide)
theorem e170_492 : V 170 492 L (.int z :: .int x :: st) h Q = V 170 493 L (.int (x + z) :: st) h Q := V_nx (by decide +kernel : decode (p_c 170) 492 = .ok (.iadd, 1)) rfl rfl
theorem e170_493 : V 170 493 L (.int i :: .ref a :: st) h Q = (p_iok i (p_get h a) ∧ V 170 494 L (.int (p_ivl i (p_get h a)) :: st) h Q) := V_ial (by decide +kernel : decode (p_c 170) 493 = .ok (.iaload, 1))
theorem e170_494 : V 170 494 L (.int x1 :: .ref a :: st) h Q = ((p_cn1 (p_get h a) = 12 ∧ p_sm st) ∧ Vm 134 [.ref a, .int x1] h (Kt 170 497 L st Q)) := V_iv (n := 1) (as := [.int x1]) (ci := 12) (z := 134) (by decide +kernel : decode (p_c 170) 494 = .ok (.invokevirtual 67, 3)) (by decide +kernel) rfl rfl (by decide +kernel) rfl
theorem e170_497 : V 170 497 L (.int z :: .int x :: st) h Q = if x = z then V 170 899 L st h Q else V 170 500 L st h Q := (V_icmp (by decide +kernel : decode (p_c 170) 497 = .ok (.if_icmp .eq 402, 3)) (by decide)).trans i_eq
theorem e170_500 : V 170 500 L st h Q = V 170 501 L (.int 0 :: st) h Q := V_c (by decide +kernel : decode (p_c 170) 500 = .ok (.iconst 0, 1)) (by decide)
theorem e170_501 : V 170 501 L [.int x] h Q = ((x = 0 ∨ x = 1) ∧ Q (some (.int x)) h) := V_rz (by decide +kernel : decode (p_c 170) 501 = .ok (.ireturn, 1)) rfl
theorem e170_502 : V 170 502 [l0, some (.ref a), l2, l3] st h Q = V 170 503 [l0, some (.ref a), l2, l3] (.ref a :: st) h Q := V_nx (by decide +kernel : decode (p_c 170) 502 = .ok (.aload_n 1, 1)) rfl rfl
theorem e170_502n : V 170 502 [l0, some .null, l2, l3] st h Q = V 170 503 [l0, some .null, l2, l3] (.null :: st) h Q := V_nx (by decide +kernel : decode (p_c 170) 502 = .ok (.aload_n 1, 1)) rfl rfl
theorem e170_503 : V 170 503 [some (.ref a), l1, l2, l3] st h Q = V 170 504 [some (.ref a), l1, l2, l3] (.ref a :: st) h Q := V_nx (by decide +kernel : decode (p_c 170) 503 = .ok (.aload_n 0, 1)) rfl rfl
theorem e170_504 : V 170 504 [l0, l1, l2, some (.int x)] st h Q = V 170 505 [l0, l1, l2, some (.int x)] (.int x :: st) h Q := V_nx (by decide +kernel : decode (p_c 170) 504 = .ok (.iload_n 3, 1)) rfl rfl
theorem e170_505 : V 170 505 L st h Q = V 170 506 L (.int 1 :: st) h Q := V_c (by decide +kernel : decode (p_c 170) 505 = .ok (.iconst 1, 1)) (by decide)
theorem e170_506 : V 170 506 L (.int z :: .int x :: st) h Q = V 170 507 L (.int (x + z) :: st) h Q := V_nx (by decide +kernel : decode (p_c 170) 506 = .ok (.iadd, 1)) rfl rfl
theorem e170_507 : V 170 507 L (.int i :: .ref a :: st) h Q = (p_iok i (p_get h a) ∧ V 170 508 L (.int (p_ivl i (p_get h a)) :: st) h Q) := V_ial (by decide +kernel : decode (p_c 170) 507 = .ok (.iaload, 1))
theorem e170_508 : V 170 508 L (.int x1 :: .ref a :: st) h Q = ((p_cn1 (p_get h a) = 11 ∧ p_sm st) ∧ Vm 81 [.ref a, .int x1] h (Kt 170 511 L st Q)) := V_iv (n := 1) (as := [.int x1]) (ci := 11) (z := 81) (by decide +kernel : decode (p_c 170) 508 = .ok (.invokevirtual 68, 3)) (by decide +kernel) rfl rfl (by decide +kernel) rfl
theorem e170_511 : V 170 511 [l0, l1, some (.ref a), l3] st h Q = V 170 512 [l0, l1, some (.ref a), l3] (.ref a :: st) h Q := V_nx (by decide +kernel : decode (p_c 170) 511 = .ok (.aload_n 2, 1)) rfl rfl
theorem e170_511n : V 170 511 [l0, l1, some .null, l3] st h Q = V 170 512 [l0, l1, some .null, l3] (.null :: st) h Q := V_nx (by decide +kernel : decode (p_c 170) 511 = .ok (.aload_n 2, 1)) rfl rfl
theorem e170_512 : V 170 512 [some (.ref a), l1, l2, l3] st h Q = V 170 513 [some (.ref a), l1, l2, l3] (.ref a :: st) h Q := V_nx (by decide +kernel : decode (p_c 170) 512 = .ok (.aload_n 0, 1)) rfl rfl
theorem e170_513 : V 170 513 [l0, l1, l2, some (.int x)] st h Q = V 170 514 [l0, l1, l2, some (.int x)] (.int x :: st) h Q := V_nx (by decide +kernel : decode (p_c 170) 513 = .ok (.iload_n 3, 1)) rfl rfl
theorem e170_514 : V 170 514 L st h Q = V 170 515 L (.int 1 :: st) h Q := V_c (by decide +kernel : decode (p_c 170) 514 = .ok (.iconst 1, 1)) (by decide)
theorem e170_515 : V 170 515 L (.int z :: .int x :: st) h Q = V 170 516 L (.int (x + z) :: st) h Q := V_nx (by decide +kernel : decode (p_c 170) 515 = .ok (.iadd, 1)) rfl rfl
theorem e170_516 : V 170 516 L (.int i :: .ref a :: st) h Q = (p_iok i (p_get h a) ∧ V 170 517 L (.int (p_ivl i (p_get h a)) :: st) h Q) := V_ial (by decide +kernel : decode (p_c 170) 516 = .ok (.iaload, 1))
theorem e170_517 : V 170 517 L (.int x1 :: .ref a :: st) h Q = ((p_cn1 (p_get h a) = 12 ∧ p_sm st) ∧ Vm 137 [.ref a, .int x1] h (Kt 170 520 L st Q)) := V_iv (n := 1) (as := [.int x1]) (ci := 12) (z := 137) (by decide +kernel : decode (p_c 170) 517 = .ok (.invokevirtual 71, 3)) (by decide +kernel) rfl rfl (by decide +kernel) rfl
theorem e170_520 : V 170 520 L (.int z :: .int x :: st) h Q = if x = z then V 170 899 L st h Q else V 170 523 L st h Q := (V_icmp (by decide +kernel : decode (p_c 170) 520 = .ok (.if_icmp .eq 379, 3)) (by decide)).trans i_eq
theorem e170_523 : V 170 523 L st h Q = V 170 524 L (.int 0 :: st) h Q := V_c (by decide +kernel : decode (p_c 170) 523 = .ok (.iconst 0, 1)) (by decide)
theorem e170_524 : V 170 524 L [.int x] h Q = ((x = 0 ∨ x = 1) ∧ Q (some (.int x)) h) := V_rz (by decide +kernel : decode (p_c 170) 524 = .ok (.ireturn, 1)) rfl
theorem e170_525 : V 170 525 [l0, some (.ref a), l2, l3] st h Q = V 170 526 [l0, some (.ref a), l2, l3] (.ref a :: st) h Q := V_nx (by decide +kernel : decode (p_c 170) 525 = .ok (.aload_n 1, 1)) rfl rfl
theorem e170_525n : V 170 525 [l0, some .null, l2, l3] st h Q = V 170 526 [l0, some .null, l2, l3] (.null :: st) h Q := V_nx (by decide +kernel : decode (p_c 170) 525 = .ok (.aload_n 1, 1)) rfl rfl
theorem e170_526 : V 170 526 [some (.ref a), l1, l2, l3] st h Q = V 170 527 [some (.ref a), l1, l2, l3] (.ref a :: st) h Q := V_nx (by decide +kernel : decode (p_c 170) 526 = .ok (.aload_n 0, 1)) rfl rfl
theorem e170_527 : V 170 527 [l0, l1, l2, some (.int x)] st h Q = V 170 528 [l0, l1, l2, some (.int x)] (.int x :: st) h Q := V_nx (by decide +kernel : decode (p_c 170) 527 = .ok (.iload_n 3, 1)) rfl rfl
theorem e170_528 : V 170 528 L st h Q = V 170 529 L (.int 1 :: st) h Q := V_c (by decide +kernel : decode (p_c 170) 528 = .ok (.iconst 1, 1)) (by decide)
theorem e170_529 : V 170 529 L (.int z :: .int x :: st) h Q = V 170 530 L (.int (x + z) :: st) h Q := V_nx (by decide +kernel : decode (p_c 170) 529 = .ok (.iadd, 1)) rfl rfl
theorem e170_530 : V 170 530 L (.int i :: .ref a :: st) h Q = (p_iok i (p_get h a) ∧ V 170 531 L (.int (p_ivl i (p_get h a)) :: st) h Q) := V_ial (by decide +kernel : decode (p_c 170) 530 = .ok (.iaload, 1))
theorem e170_531 : V 170 531 [some (.ref a), l1, l2, l3] st h Q = V 170 532 [some (.ref a), l1, l2, l3] (.ref a :: st) h Q := V_nx (by decide +kernel : decode (p_c 170) 531 = .ok (.aload_n 0, 1)) rfl rfl
theorem e170_532 : V 170 532 [l0, l1, l2, some (.int x)] st h Q = V 170 533 [l0, l1, l2, some (.int x)] (.int x :: st) h Q := V_nx (by decide +kernel : decode (p_c 170) 532 = .ok (.iload_n 3, 1)) rfl rfl
theorem e170_533 : V 170 533 L st h Q = V 170 534 L (.int 2 :: st) h Q := V_c (by decide +kernel : decode (p_c 170) 533 = .ok (.iconst 2, 1)) (by decide)
theorem e170_534 : V 170 534 L (.int z :: .int x :: st) h Q = V 170 535 L (.int (x + z) :: st) h Q := V_nx (by decide +kernel : decode (p_c 170) 534 = .ok (.iadd, 1)) rfl rfl
theorem e170_535 : V 170 535 L (.int i :: .ref a :: st) h Q = (p_iok i (p_get h a) ∧ V 170 536 L (.int (p_ivl i (p_get h a)) :: st) h Q) := V_ial (by decide +kernel : decode (p_c 170) 535 = .ok (.iaload, 1))
theorem e170_536 : V 170 536 [some (.ref a), l1, l2, l3] st h Q = V 170 537 [some (.ref a), l1, l2, l3] (.ref a :: st) h Q := V_nx (by decide +kernel : decode (p_c 170) 536 = .ok (.aload_n 0, 1)) rfl rfl
theorem e170_537 : V 170 537 [l0, l1, l2, some (.int x)] st h Q = V 170 538 [l0, l1, l2, some (.int x)] (.int x :: st) h Q := V_nx (by decide +kernel : decode (p_c 170) 537 = .ok (.iload_n 3, 1)) rfl rfl
theorem e170_538 : V 170 538 L st h Q = V 170 539 L (.int 3 :: st) h Q := V_c (by decide +kernel : decode (p_c 170) 538 = .ok (.iconst 3, 1)) (by decide)
theorem e170_539 : V 170 539 L (.int z :: .int x :: st) h Q = V 170 540 L (.int (x + z) :: st) h Q := V_nx (by decide +kernel : decode (p_c 170) 539 = .ok (.iadd, 1)) rfl rfl
theorem e170_540 : V 170 540 L (.int i :: .ref a :: st) h Q = (p_iok i (p_get h a) ∧ V 170 541 L (.int (p_ivl i (p_get h a)) :: st) h Q) := V_ial (by decide +kernel : decode (p_c 170) 540 = .ok (.iaload, 1))
theorem e170_541 : V 170 541 L (.int x3 :: .int x2 :: .int x1 :: .ref a :: st) h Q = ((p_cn1 (p_get h a) = 11 ∧ p_sm st) ∧ Vm 82 [.ref a, .int x1, .int x2, .int x3] h (Kt 170 544 L st Q)) := V_iv (n := 3) (as := [.int x3, .int x2, .int x1]) (ci := 11) (z := 82) (by decide +kernel : decode (p_c 170) 541 = .ok (.invokevirtual 72, 3)) (by decide +kernel) rfl rfl (by decide +kernel) rfl
theorem e170_544 : V 170 544 [l0, l1, some (.ref a), l3] st h Q = V 170 545 [l0, l1, some (.ref a), l3] (.ref a :: st) h Q := V_nx (by decide +kernel : decode (p_c 170) 544 = .ok (.aload_n 2, 1)) rfl rfl
theorem e170_544n : V 170 544 [l0, l1, some .null, l3] st h Q = V 170 545 [l0, l1, some .null, l3] (.null :: st) h Q := V_nx (by decide +kernel : decode (p_c 170) 544 = .ok (.aload_n 2, 1)) rfl rfl
theorem e170_545 : V 170 545 [some (.ref a), l1, l2, l3] st h Q = V 170 546 [some (.ref a), l1, l2, l3] (.ref a :: st) h Q := V_nx (by decide +kernel : decode (p_c 170) 545 = .ok (.aload_n 0, 1)) rfl rfl
theorem e170_546 : V 170 546 [l0, l1, l2, some (.int x)] st h Q = V 170 547 [l0, l1, l2, some (.int x)] (.int x :: st) h Q := V_nx (by decide +kernel : decode (p_c 170) 546 = .ok (.iload_n 3, 1)) rfl rfl
theorem e170_547 : V 170 547 L st h Q = V 170 548 L (.int 1 :: st) h Q := V_c (by decide +kernel : decode (p_c 170) 547 = .ok (.iconst 1, 1)) (by decide)
theorem e170_548 : V 170 548 L (.int z :: .int x :: st) h Q = V 170 549 L (.int (x + z) :: st) h Q := V_nx (by decide +kernel : decode (p_c 170) 548 = .ok (.iadd, 1)) rfl rfl
theorem e170_549 : V 170 549 L (.int i :: .ref a :: st) h Q = (p_iok i (p_get h a) ∧ V 170 550 L (.int (p_ivl i (p_get h a)) :: st) h Q) := V_ial (by decide +kernel : decode (p_c 170) 549 = .ok (.iaload, 1))
theorem e170_550 : V 170 550 [some (.ref a), l1, l2, l3] st h Q = V 170 551 [some (.ref a), l1, l2, l3] (.ref a :: st) h Q := V_nx (by decide +kernel : decode (p_c 170) 550 = .ok (.aload_n 0, 1)) rfl rfl
theorem e170_551 : V 170 551 [l0, l1, l2, some (.int x)] st h Q = V 170 552 [l0, l1, l2, some (.int x)] (.int x :: st) h Q := V_nx (by decide +kernel : decode (p_c 170) 551 = .ok (.iload_n 3, 1)) rfl rfl
theorem e170_552 : V 170 552 L st h Q = V 170 553 L (.int 2 :: st) h Q := V_c (by decide +kernel : decode (p_c 170) 552 = .ok (.iconst 2, 1)) (by decide)
theorem e170_553 : V 170 553 L (.int z :: .int x :: st) h Q = V 170 554 L (.int (x + z) :: st) h Q := V_nx (by decide +kernel : decode (p_c 170) 553 = .ok (.iadd, 1)) rfl rfl
theorem e170_554 : V 170 554 L (.int i :: .ref a :: st) h Q = (p_iok i (p_get h a) ∧ V 170 555 L (.int (p_ivl i (p_get h a)) :: st) h Q) := V_ial (by decide +kernel : decode (p_c 170) 554 = .ok (.iaload, 1))
theorem e170_555 : V 170 555 [some (.ref a), l1, l2, l3] st h Q = V 170 556 [some (.ref a), l1, l2, l3] (.ref a :: st) h Q := V_nx (by decide +kernel : decode (p_c 170) 555 = .ok (.aload_n 0, 1)) rfl rfl
theorem e170_556 : V 170 556 [l0, l1, l2, some (.int x)] st h Q = V 170 557 [l0, l1, l2, some (.int x)] (.int x :: st) h Q := V_nx (by decide +kernel : decode (p_c 170) 556 = .ok (.iload_n 3, 1)) rfl rfl
theorem e170_557 : V 170 557 L st h Q = V 170 558 L (.int 3 :: st) h Q := V_c (by decide +kernel : decode (p_c 170) 557 = .ok (.iconst 3, 1)) (by decide)
theorem e170_558 : V 170 558 L (.int z :: .int x :: st) h Q = V 170 559 L (.int (x + z) :: st) h Q := V_nx (by decide +kernel : decode (p_c 170) 558 = .ok (.iadd, 1)) rfl rfl
theorem e170_559 : V 170 559 L (.int i :: .ref a :: st) h Q = (p_iok i (p_get h a) ∧ V 170 560 L (.int (p_ivl i (p_get h a)) :: st) h Q) := V_ial (by decide +kernel : decode (p_c 170) 559 = .ok (.iaload, 1))
theorem e170_560 : V 170 560 L (.int x3 :: .int x2 :: .int x1 :: .ref a :: st) h Q = ((p_cn1 (p_get h a) = 12 ∧ p_sm st) ∧ Vm 143 [.ref a, .int x1, .int x2, .int x3] h (Kt 170 563 L st Q)) := V_iv (n := 3) (as := [.int x3, .int x2, .int x1]) (ci := 12) (z := 143) (by decide +kernel : decode (p_c 170) 560 = .ok (.invokevirtual 75, 3)) (by decide +kernel) rfl rfl (by decide +kernel) rfl
theorem e170_563 : V 170 563 L (.int z :: .int x :: st) h Q = if x = z then V 170 899 L st h Q else V 170 566 L st h Q := (V_icmp (by decide +kernel : decode (p_c 170) 563 = .ok (.if_icmp .eq 336, 3)) (by decide)).trans i_eq
theorem e170_566 : V 170 566 L st h Q = V 170 567 L (.int 0 :: st) h Q := V_c (by decide +kernel : decode (p_c 170) 566 = .ok (.iconst 0, 1)) (by decide)
theorem e170_567 : V 170 567 L [.int x] h Q = ((x = 0 ∨ x = 1) ∧ Q (some (.int x)) h) := V_rz (by decide +kernel : decode (p_c 170) 567 = .ok (.ireturn, 1)) rfl
theorem e170_568 : V 170 568 [l0, some (.ref a), l2, l3] st h Q = V 170 569 [l0, some (.ref a), l2, l3] (.ref a :: st) h Q := V_nx (by decide +kernel : decode (p_c 170) 568 = .ok (.aload_n 1, 1)) rfl rfl
theorem e170_568n : V 170 568 [l0, some .null, l2, l3] st h Q = V 170 569 [l0, some .null, l2, l3] (.null :: st) h Q := V_nx (by decide +kernel : decode (p_c 170) 568 = .ok (.aload_n 1, 1)) rfl rfl
theorem e170_569 : V 170 569 [some (.ref a), l1, l2, l3] st h Q = V 170 570 [some (.ref a), l1, l2, l3] (.ref a :: st) h Q := V_nx (by decide +kernel : decode (p_c 170) 569 = .ok (.aload_n 0, 1)) rfl rfl
theorem e170_570 : V 170 570 [l0, l1, l2, some (.int x)] st h Q = V 170 571 [l0, l1, l2, some (.int x)] (.int x :: st) h Q := V_nx (by decide +kernel : decode (p_c 170) 570 = .ok (.iload_n 3, 1)) rfl rfl
theorem e170_571 : V 170 571 L st h Q = V 170 572 L (.int 1 :: st) h Q := V_c (by decide +kernel : decode (p_c 170) 571 = .ok (.iconst 1, 1)) (by decide)
theorem e170_572 : V 170 572 L (.int z :: .int x :: st) h Q = V 170 573 L (.int (x + z) :: st) h Q := V_nx (by decide +kernel : decode (p_c 170) 572 = .ok (.iadd, 1)) rfl rfl
theorem e170_573 : V 170 573 L (.int i :: .ref a :: st) h Q = (p_iok i (p_get h a) ∧ V 170 574 L (.int (p_ivl i (p_get h a)) :: st) h Q) := V_ial (by decide +kernel : decode (p_c 170) 573 = .ok (.iaload, 1))
theorem e170_574 : V 170 574 L (.int x1 :: .ref a :: st) h Q = ((p_cn1 (p_get h a) = 11 ∧ p_sm st) ∧ Vm 83 [.ref a, .int x1] h (Kt 170 577 L st Q)) := V_iv (n := 1) (as := [.int x1]) (ci := 11) (z := 83) (by decide +kernel : decode (p_c 170) 574 = .ok (.invokevirtual 76, 3)) (by decide +kernel) rfl rfl (by decide +kernel) rfl
theorem e170_577 : V 170 577 [l0, l1, some (.ref a), l3] st h Q = V 170 578 [l0, l1, some (.ref a), l3] (.ref a :: st) h Q := V_nx (by decide +kernel : decode (p_c 170) 577 = .ok (.aload_n 2, 1)) rfl rfl
theorem e170_577n : V 170 577 [l0, l1, some .null, l3] st h Q = V 170 578 [l0, l1, some .null, l3] (.null :: st) h Q := V_nx (by decide +kernel : decode (p_c 170) 577 = .ok (.aload_n 2, 1)) rfl rfl
theorem e170_578 : V 170 578 [some (.ref a), l1, l2, l3] st h Q = V 170 579 [some (.ref a), l1, l2, l3] (.ref a :: st) h Q := V_nx (by decide +kernel : decode (p_c 170) 578 = .ok (.aload_n 0, 1)) rfl rfl
theorem e170_579 : V 170 579 [l0, l1, l2, some (.int x)] st h Q = V 170 580 [l0, l1, l2, some (.int x)] (.int x :: st) h Q := V_nx (by decide +kernel : decode (p_c 170) 579 = .ok (.iload_n 3, 1)) rfl rfl
theorem e170_580 : V 170 580 L st h Q = V 170 581 L (.int 1 :: st) h Q := V_c (by decide +kernel : decode (p_c 170) 580 = .ok (.iconst 1, 1)) (by decide)
theorem e170_581 : V 170 581 L (.int z :: .int x :: st) h Q = V 170 582 L (.int (x + z) :: st) h Q := V_nx (by decide +kernel : decode (p_c 170) 581 = .ok (.iadd, 1)) rfl rfl
theorem e170_582 : V 170 582 L (.int i :: .ref a :: st) h Q = (p_iok i (p_get h a) ∧ V 170 583 L (.int (p_ivl i (p_get h a)) :: st) h Q) := V_ial (by decide +kernel : decode (p_c 170) 582 = .ok (.iaload, 1))
theorem e170_583 : V 170 583 L (.int x1 :: .ref a :: st) h Q = ((p_cn1 (p_get h a) = 12 ∧ p_sm st) ∧ Vm 145 [.ref a, .int x1] h (Kt 170 586 L st Q)) := V_iv (n := 1) (as := [.int x1]) (ci := 12) (z := 145) (by decide +kernel : decode (p_c 170) 583 = .ok (.invokevirtual 79, 3)) (by decide +kernel) rfl rfl (by decide +kernel) rfl
theorem e170_586 : V 170 586 L (.int z :: .int x :: st) h Q = if x = z then V 170 899 L st h Q else V 170 589 L st h Q := (V_icmp (by decide +kernel : decode (p_c 170) 586 = .ok (.if_icmp .eq 313, 3)) (by decide)).trans i_eq
theorem e170_589 : V 170 589 L st h Q = V 170 590 L (.int 0 :: st) h Q := V_c (by decide +kernel : decode (p_c 170) 589 = .ok (.iconst 0, 1)) (by decide)
theorem e170_590 : V 170 590 L [.int x] h Q = ((x = 0 ∨ x = 1) ∧ Q (some (.int x)) h) := V_rz (by decide +kernel : decode (p_c 170) 590 = .ok (.ireturn, 1)) rfl
theorem e170_591 : V 170 591 [l0, some (.ref a), l2, l3] st h Q = V 170 592 [l0, some (.ref a), l2, l3] (.ref a :: st) h Q := V_nx (by decide +kernel : decode (p_c 170) 591 = .ok (.aload_n 1, 1)) rfl rfl
theorem e170_591n : V 170 591 [l0, some .null, l2, l3] st h Q = V 170 592 [l0, some .null, l2, l3] (.null :: st) h Q := V_nx (by decide +kernel : decode (p_c 170) 591 = .ok (.aload_n 1, 1)) rfl rfl
theorem e170_592 : V 170 592 [some (.ref a), l1, l2, l3] st h Q = V 170 593 [some (.ref a), l1, l2, l3] (.ref a :: st) h Q := V_nx (by decide +kernel : decode (p_c 170) 592 = .ok (.aload_n 0, 1)) rfl rfl
theorem e170_593 : V 170 593 [l0, l1, l2, some (.int x)] st h Q = V 170 594 [l0, l1, l2, some (.int x)] (.int x :: st) h Q := V_nx (by decide +kernel : decode (p_c 170) 593 = .ok (.iload_n 3, 1)) rfl rfl
theorem e170_594 : V 170 594 L st h Q = V 170 595 L (.int 1 :: st) h Q := V_c (by decide +kernel : decode (p_c 170) 594 = .ok (.iconst 1, 1)) (by decide)
theorem e170_595 : V 170 595 L (.int z :: .int x :: st) h Q = V 170 596 L (.int (x + z) :: st) h Q := V_nx (by decide +kernel : decode (p_c 170) 595 = .ok (.iadd, 1)) rfl rfl
theorem e170_596 : V 170 596 L (.int i :: .ref a :: st) h Q = (p_iok i (p_get h a) ∧ V 170 597 L (.int (p_ivl i (p_get h a)) :: st) h Q) := V_ial (by decide +kernel : decode (p_c 170) 596 = .ok (.iaload, 1))
theorem e170_597 : V 170 597 L (.int x1 :: .ref a :: st) h Q = ((p_cn1 (p_get h a) = 11 ∧ p_sm st) ∧ Vm 84 [.ref a, .int x1] h (Kt 170 600 L st Q)) := V_iv (n := 1) (as := [.int x1]) (ci := 11) (z := 84) (by decide +kernel : decode (p_c 170) 597 = .ok (.invokevirtual 80, 3)) (by decide +kernel) rfl rfl (by decide +kernel) rfl
theorem e170_600 : V 170 600 [l0, l1, some (.ref a), l3] st h Q = V 170 601 [l0, l1, some (.ref a), l3] (.ref a :: st) h Q := V_nx (by decide +kernel : decode (p_c 170) 600 = .ok (.aload_n 2, 1)) rfl rfl
theorem e170_600n : V 170 600 [l0, l1, some .null, l3] st h Q = V 170 601 [l0, l1, some .null, l3] (.null :: st) h Q := V_nx (by decide +kernel : decode (p_c 170) 600 = .ok (.aload_n 2, 1)) rfl rfl
theorem e170_601 : V 170 601 [some (.ref a), l1, l2, l3] st h Q = V 170 602 [some (.ref a), l1, l2, l3] (.ref a :: st) h Q := V_nx (by decide +kernel : decode (p_c 170) 601 = .ok (.aload_n 0, 1)) rfl rfl
theorem e170_602 : V 170 602 [l0, l1, l2, some (.int x)] st h Q = V 170 603 [l0, l1, l2, some (.int x)] (.int x :: st) h Q := V_nx (by decide +kernel : decode (p_c 170) 602 = .ok (.iload_n 3, 1)) rfl rfl
theorem e170_603 : V 170 603 L st h Q = V 170 604 L (.int 1 :: st) h Q := V_c (by decide +kernel : decode (p_c 170) 603 = .ok (.iconst 1, 1)) (by decide)
theorem e170_604 : V 170 604 L (.int z :: .int x :: st) h Q = V 170 605 L (.int (x + z) :: st) h Q := V_nx (by decide +kernel : decode (p_c 170) 604 = .ok (.iadd, 1)) rfl rfl
theorem e170_605 : V 170 605 L (.int i :: .ref a :: st) h Q = (p_iok i (p_get h a) ∧ V 170 606 L (.int (p_ivl i (p_get h a)) :: st) h Q) := V_ial (by decide +kernel : decode (p_c 170) 605 = .ok (.iaload, 1))
theorem e170_606 : V 170 606 L (.int x1 :: .ref a :: st) h Q = ((p_cn1 (p_get h a) = 12 ∧ p_sm st) ∧ Vm 147 [.ref a, .int x1] h (Kt 170 609 L st Q)) := V_iv (n := 1) (as := [.int x1]) (ci := 12) (z := 147) (by decide +kernel : decode (p_c 170) 606 = .ok (.invokevirtual 83, 3)) (by decide +kernel) rfl rfl (by decide +kernel) rfl
theorem e170_609 : V 170 609 L (.int z :: .int x :: st) h Q = if x = z then V 170 899 L st h Q else V 170 612 L st h Q := (V_icmp (by decide +kernel : decode (p_c 170) 609 = .ok (.if_icmp .eq 290, 3)) (by decide)).trans i_eq
theorem e170_612 : V 170 612 L st h Q = V 170 613 L (.int 0 :: st) h Q := V_c (by decide +kernel : decode (p_c 170) 612 = .ok (.iconst 0, 1)) (by decide)
theorem e170_613 : V 170 613 L [.int x] h Q = ((x = 0 ∨ x = 1) ∧ Q (some (.int x)) h) := V_rz (by decide +kernel : decode (p_c 170) 613 = .ok (.ireturn, 1)) rfl
theorem e170_614 : V 170 614 [l0, some (.ref a), l2, l3] st h Q = V 170 615 [l0, some (.ref a), l2, l3] (.ref a :: st) h Q := V_nx (by decide +kernel : decode (p_c 170) 614 = .ok (.aload_n 1, 1)) rfl rfl
theorem e170_614n : V 170 614 [l0, some .null, l2, l3] st h Q = V 170 615 [l0, some .null, l2, l3] (.null :: st) h Q := V_nx (by decide +kernel : decode (p_c 170) 614 = .ok (.aload_n 1, 1)) rfl rfl
theorem e170_615 : V 170 615 [some (.ref a), l1, l2, l3] st h Q = V 170 616 [some (.ref a), l1, l2, l3] (.ref a :: st) h Q := V_nx (by decide +kernel : decode (p_c 170) 615 = .ok (.aload_n 0, 1)) rfl rfl
theorem e170_616 : V 170 616 [l0, l1, l2, some (.int x)] st h Q = V 170 617 [l0, l1, l2, some (.int x)] (.int x :: st) h Q := V_nx (by decide +kernel : decode (p_c 170) 616 = .ok (.iload_n 3, 1)) rfl rfl
theorem e170_617 : V 170 617 L st h Q = V 170 618 L (.int 1 :: st) h Q := V_c (by decide +kernel : decode (p_c 170) 617 = .ok (.iconst 1, 1)) (by decide)
theorem e170_618 : V 170 618 L (.int z :: .int x :: st) h Q = V 170 619 L (.int (x + z) :: st) h Q := V_nx (by decide +kernel : decode (p_c 170) 618 = .ok (.iadd, 1)) rfl rfl
theorem e170_619 : V 170 619 L (.int i :: .ref a :: st) h Q = (p_iok i (p_get h a) ∧ V 170 620 L (.int (p_ivl i (p_get h a)) :: st) h Q) := V_ial (by decide +kernel : decode (p_c 170) 619 = .ok (.iaload, 1))
theorem e170_620 : V 170 620 L (.int x1 :: .ref a :: st) h Q = ((p_cn1 (p_get h a) = 11 ∧ p_sm st) ∧ Vm 85 [.ref a, .int x1] h (Kt 170 623 L st Q)) := V_iv (n := 1) (as := [.int x1]) (ci := 11) (z := 85) (by decide +kernel : decode (p_c 170) 620 = .ok (.invokevirtual 84, 3)) (by decide +kernel) rfl rfl (by decide +kernel) rfl
theorem e170_623 : V 170 623 [l0, l1, some (.ref a), l3] st h Q = V 170 624 [l0, l1, some (.ref a), l3] (.ref a :: st) h Q := V_nx (by decide +kernel : decode (p_c 170) 623 = .ok (.aload_n 2, 1)) rfl rfl
theorem e170_623n : V 170 623 [l0, l1, some .null, l3] st h Q = V 170 624 [l0, l1, some .null, l3] (.null :: st) h Q := V_nx (by decide +kernel : decode (p_c 170) 623 = .ok (.aload_n 2, 1)) rfl rfl
theorem e170_624 : V 170 624 [some (.ref a), l1, l2, l3] st h Q = V 170 625 [some (.ref a), l1, l2, l3] (.ref a :: st) h Q := V_nx (by decide +kernel : decode (p_c 170) 624 = .ok (.aload_n 0, 1)) rfl rfl
theorem e170_625 : V 170 625 [l0, l1, l2, some (.int x)] st h Q = V 170 626 [l0, l1, l2, some (.int x)] (.int x :: st) h Q := V_nx (by decide +kernel : decode (p_c 170) 625 = .ok (.iload_n 3, 1)) rfl rfl
theorem e170_626 : V 170 626 L st h Q = V 170 627 L (.int 1 :: st) h Q := V_c (by decide +kernel : decode (p_c 170) 626 = .ok (.iconst 1, 1)) (by decide)
theorem e170_627 : V 170 627 L (.int z :: .int x :: st) h Q = V 170 628 L (.int (x + z) :: st) h Q := V_nx (by decide +kernel : decode (p_c 170) 627 = .ok (.iadd, 1)) rfl rfl
theorem e170_628 : V 170 628 L (.int i :: .ref a :: st) h Q = (p_iok i (p_get h a) ∧ V 170 629 L (.int (p_ivl i (p_get h a)) :: st) h Q) := V_ial (by decide +kernel : decode (p_c 170) 628 = .ok (.iaload, 1))
theorem e170_629 : V 170 629 L (.int x1 :: .ref a :: st) h Q = ((p_cn1 (p_get h a) = 12 ∧ p_sm st) ∧ Vm 149 [.ref a, .int x1] h (Kt 170 632 L st Q)) := V_iv (n := 1) (as := [.int x1]) (ci := 12) (z := 149) (by decide +kernel : decode (p_c 170) 629 = .ok (.invokevirtual 87, 3)) (by decide +kernel) rfl rfl (by decide +kernel) rfl
theorem e170_632 : V 170 632 L (.int z :: .int x :: st) h Q = if x = z then V 170 899 L st h Q else V 170 635 L st h Q := (V_icmp (by decide +kernel : decode (p_c 170) 632 = .ok (.if_icmp .eq 267, 3)) (by decide)).trans i_eq
theorem e170_635 : V 170 635 L st h Q = V 170 636 L (.int 0 :: st) h Q := V_c (by decide +kernel : decode (p_c 170) 635 = .ok (.iconst 0, 1)) (by decide)
theorem e170_636 : V 170 636 L [.int x] h Q = ((x = 0 ∨ x = 1) ∧ Q (some (.int x)) h) := V_rz (by decide +kernel : decode (p_c 170) 636 = .ok (.ireturn, 1)) rfl
theorem e170_637 : V 170 637 [l0, some (.ref a), l2, l3] st h Q = V 170 638 [l0, some (.ref a), l2, l3] (.ref a :: st) h Q := V_nx (by decide +kernel : decode (p_c 170) 637 = .ok (.aload_n 1, 1)) rfl rfl
theorem e170_637n : V 170 637 [l0, some .null, l2, l3] st h Q = V 170 638 [l0, some .null, l2, l3] (.null :: st) h Q := V_nx (by decide +kernel : decode (p_c 170) 637 = .ok (.aload_n 1, 1)) rfl rfl
theorem e170_638 : V 170 638 [some (.ref a), l1, l2, l3] st h Q = V 170 639 [some (.ref a), l1, l2, l3] (.ref a :: st) h Q := V_nx (by decide +kernel : decode (p_c 170) 638 = .ok (.aload_n 0, 1)) rfl rfl
theorem e170_639 : V 170 639 [l0, l1, l2, some (.int x)] st h Q = V 170 640 [l0, l1, l2, some (.int x)] (.int x :: st) h Q := V_nx (by decide +kernel : decode (p_c 170) 639 = .ok (.iload_n 3, 1)) rfl rfl
theorem e170_640 : V 170 640 L st h Q = V 170 641 L (.int 1 :: st) h Q := V_c (by decide +kernel : decode (p_c 170) 640 = .ok (.iconst 1, 1)) (by decide)
theorem e170_641 : V 170 641 L (.int z :: .int x :: st) h Q = V 170 642 L (.int (x + z) :: st) h Q := V_nx (by decide +kernel : decode (p_c 170) 641 = .ok (.iadd, 1)) rfl rfl
theorem e170_642 : V 170 642 L (.int i :: .ref a :: st) h Q = (p_iok i (p_get h a) ∧ V 170 643 L (.int (p_ivl i (p_get h a)) :: st) h Q) := V_ial (by decide +kernel : decode (p_c 170) 642 = .ok (.iaload, 1))
theorem e170_643 : V 170 643 [some (.ref a), l1, l2, l3] st h Q = V 170 644 [some (.ref a), l1, l2, l3] (.ref a :: st) h Q := V_nx (by decide +kernel : decode (p_c 170) 643 = .ok (.aload_n 0, 1)) rfl rfl
theorem e170_644 : V 170 644 [l0, l1, l2, some (.int x)] st h Q = V 170 645 [l0, l1, l2, some (.int x)] (.int x :: st) h Q := V_nx (by decide +kernel : decode (p_c 170) 644 = .ok (.iload_n 3, 1)) rfl rfl
theorem e170_645 : V 170 645 L st h Q = V 170 646 L (.int 2 :: st) h Q := V_c (by decide +kernel : decode (p_c 170) 645 = .ok (.iconst 2, 1)) (by decide)
theorem e170_646 : V 170 646 L (.int z :: .int x :: st) h Q = V 170 647 L (.int (x + z) :: st) h Q := V_nx (by decide +kernel : decode (p_c 170) 646 = .ok (.iadd, 1)) rfl rfl
theorem e170_647 : V 170 647 L (.int i :: .ref a :: st) h Q = (p_iok i (p_get h a) ∧ V 170 648 L (.int (p_ivl i (p_get h a)) :: st) h Q) := V_ial (by decide +kernel : decode (p_c 170) 647 = .ok (.iaload, 1))
theorem e170_648 : V 170 648 [some (.ref a), l1, l2, l3] st h Q = V 170 649 [some (.ref a), l1, l2, l3] (.ref a :: st) h Q := V_nx (by decide +kernel : decode (p_c 170) 648 = .ok (.aload_n 0, 1)) rfl rfl
theorem e170_649 : V 170 649 [l0, l1, l2, some (.int x)] st h Q = V 170 650 [l0, l1, l2, some (.int x)] (.int x :: st) h Q := V_nx (by decide +kernel : decode (p_c 170) 649 = .ok (.iload_n 3, 1)) rfl rfl
theorem e170_650 : V 170 650 L st h Q = V 170 651 L (.int 3 :: st) h Q := V_c (by decide +kernel : decode (p_c 170) 650 = .ok (.iconst 3, 1)) (by decide)
theorem e170_651 : V 170 651 L (.int z :: .int x :: st) h Q = V 170 652 L (.int (x + z) :: st) h Q := V_nx (by decide +kernel : decode (p_c 170) 651 = .ok (.iadd, 1)) rfl rfl
theorem e170_652 : V 170 652 L (.int i :: .ref a :: st) h Q = (p_iok i (p_get h a) ∧ V 170 653 L (.int (p_ivl i (p_get h a)) :: st) h Q) := V_ial (by decide +kernel : decode (p_c 170) 652 = .ok (.iaload, 1))
theorem e170_653 : V 170 653 [some (.ref a), l1, l2, l3] st h Q = V 170 654 [some (.ref a), l1, l2, l3] (.ref a :: st) h Q := V_nx (by decide +kernel : decode (p_c 170) 653 = .ok (.aload_n 0, 1)) rfl rfl
theorem e170_654 : V 170 654 [l0, l1, l2, some (.int x)] st h Q = V 170 655 [l0, l1, l2, some (.int x)] (.int x :: st) h Q := V_nx (by decide +kernel : decode (p_c 170) 654 = .ok (.iload_n 3, 1)) rfl rfl
theorem e170_655 : V 170 655 L st h Q = V 170 656 L (.int 4 :: st) h Q := V_c (by decide +kernel : decode (p_c 170) 655 = .ok (.iconst 4, 1)) (by decide)
theorem e170_656 : V 170 656 L (.int z :: .int x :: st) h Q = V 170 657 L (.int (x + z) :: st) h Q := V_nx (by decide +kernel : decode (p_c 170) 656 = .ok (.iadd, 1)) rfl rfl
theorem e170_657 : V 170 657 L (.int i :: .ref a :: st) h Q = (p_iok i (p_get h a) ∧ V 170 658 L (.int (p_ivl i (p_get h a)) :: st) h Q) := V_ial (by decide +kernel : decode (p_c 170) 657 = .ok (.iaload, 1))
theorem e170_658 : V 170 658 [some (.ref a), l1, l2, l3] st h Q = V 170 659 [some (.ref a), l1, l2, l3] (.ref a :: st) h Q := V_nx (by decide +kernel : decode (p_c 170) 658 = .ok (.aload_n 0, 1)) rfl rfl
theorem e170_659 : V 170 659 [l0, l1, l2, some (.int x)] st h Q = V 170 660 [l0, l1, l2, some (.int x)] (.int x :: st) h Q := V_nx (by decide +kernel : decode (p_c 170) 659 = .ok (.iload_n 3, 1)) rfl rfl
theorem e170_660 : V 170 660 L st h Q = V 170 661 L (.int 5 :: st) h Q := V_c (by decide +kernel : decode (p_c 170) 660 = .ok (.iconst 5, 1)) (by decide)
theorem e170_661 : V 170 661 L (.int z :: .int x :: st) h Q = V 170 662 L (.int (x + z) :: st) h Q := V_nx (by decide +kernel : decode (p_c 170) 661 = .ok (.iadd, 1)) rfl rfl
theorem e170_662 : V 170 662 L (.int i :: .ref a :: st) h Q = (p_iok i (p_get h a) ∧ V 170 663 L (.int (p_ivl i (p_get h a)) :: st) h Q) := V_ial (by decide +kernel : decode (p_c 170) 662 = .ok (.iaload, 1))
theorem e170_663 : V 170 663 L (.int x5 :: .int x4 :: .int x3 :: .int x2 :: .int x1 :: .ref a :: st) h Q = ((p_cn1 (p_get h a) = 11 ∧ p_sm st) ∧ Vm 86 [.ref a, .int x1, .int x2, .int x3, .int x4, .int x5] h (Kt 170 666 L st Q)) := V_iv (n := 5) (as := [.int x5, .int x4, .int x3, .int x2, .int x1]) (ci := 11) (z := 86) (by decide +kernel : decode (p_c 170) 663 = .ok (.invokevirtual 88, 3)) (by decide +kernel) rfl rfl (by decide +kernel) rfl
theorem e170_666 : V 170 666 [l0, l1, some (.ref a), l3] st h Q = V 170 667 [l0, l1, some (.ref a), l3] (.ref a :: st) h Q := V_nx (by decide +kernel : decode (p_c 170) 666 = .ok (.aload_n 2, 1)) rfl rfl
theorem e170_666n : V 170 666 [l0, l1, some .null, l3] st h Q = V 170 667 [l0, l1, some .null, l3] (.null :: st) h Q := V_nx (by decide +kernel : decode (p_c 170) 666 = .ok (.aload_n 2, 1)) rfl rfl
theorem e170_667 : V 170 667 [some (.ref a), l1, l2, l3] st h Q = V 170 668 [some (.ref a), l1, l2, l3] (.ref a :: st) h Q := V_nx (by decide +kernel : decode (p_c 170) 667 = .ok (.aload_n 0, 1)) rfl rfl
theorem e170_668 : V 170 668 [l0, l1, l2, some (.int x)] st h Q = V 170 669 [l0, l1, l2, some (.int x)] (.int x :: st) h Q := V_nx (by decide +kernel : decode (p_c 170) 668 = .ok (.iload_n 3, 1)) rfl rfl
theorem e170_669 : V 170 669 L st h Q = V 170 670 L (.int 1 :: st) h Q := V_c (by decide +kernel : decode (p_c 170) 669 = .ok (.iconst 1, 1)) (by decide)
theorem e170_670 : V 170 670 L (.int z :: .int x :: st) h Q = V 170 671 L (.int (x + z) :: st) h Q := V_nx (by decide +kernel : decode (p_c 170) 670 = .ok (.iadd, 1)) rfl rfl
theorem e170_671 : V 170 671 L (.int i :: .ref a :: st) h Q = (p_iok i (p_get h a) ∧ V 170 672 L (.int (p_ivl i (p_get h a)) :: st) h Q) := V_ial (by decide +kernel : decode (p_c 170) 671 = .ok (.iaload, 1))
theorem e170_672 : V 170 672 [some (.ref a), l1, l2, l3] st h Q = V 170 673 [some (.ref a), l1, l2, l3] (.ref a :: st) h Q := V_nx (by decide +kernel : decode (p_c 170) 672 = .ok (.aload_n 0, 1)) rfl rfl
theorem e170_673 : V 170 673 [l0, l1, l2, some (.int x)] st h Q = V 170 674 [l0, l1, l2, some (.int x)] (.int x :: st) h Q := V_nx (by decide +kernel : decode (p_c 170) 673 = .ok (.iload_n 3, 1)) rfl rfl
theorem e170_674 : V 170 674 L st h Q = V 170 675 L (.int 2 :: st) h Q := V_c (by decide +kernel : decode (p_c 170) 674 = .ok (.iconst 2, 1)) (by decide)
theorem e170_675 : V 170 675 L (.int z :: .int x :: st) h Q = V 170 676 L (.int (x + z) :: st) h Q := V_nx (by decide +kernel : decode (p_c 170) 675 = .ok (.iadd, 1)) rfl rfl
theorem e170_676 : V 170 676 L (.int i :: .ref a :: st) h Q = (p_iok i (p_get h a) ∧ V 170 677 L (.int (p_ivl i (p_get h a)) :: st) h Q) := V_ial (by decide +kernel : decode (p_c 170) 676 = .ok (.iaload, 1))
theorem e170_677 : V 170 677 [some (.ref a), l1, l2, l3] st h Q = V 170 678 [some (.ref a), l1, l2, l3] (.ref a :: st) h Q := V_nx (by decide +kernel : decode (p_c 170) 677 = .ok (.aload_n 0, 1)) rfl rfl
theorem e170_678 : V 170 678 [l0, l1, l2, some (.int x)] st h Q = V 170 679 [l0, l1, l2, some (.int x)] (.int x :: st) h Q := V_nx (by decide +kernel : decode (p_c 170) 678 = .ok (.iload_n 3, 1)) rfl rfl
theorem e170_679 : V 170 679 L st h Q = V 170 680 L (.int 3 :: st) h Q := V_c (by decide +kernel : decode (p_c 170) 679 = .ok (.iconst 3, 1)) (by decide)
theorem e170_680 : V 170 680 L (.int z :: .int x :: st) h Q = V 170 681 L (.int (x + z) :: st) h Q := V_nx (by decide +kernel : decode (p_c 170) 680 = .ok (.iadd, 1)) rfl rfl
theorem e170_681 : V 170 681 L (.int i :: .ref a :: st) h Q = (p_iok i (p_get h a) ∧ V 170 682 L (.int (p_ivl i (p_get h a)) :: st) h Q) := V_ial (by decide +kernel : decode (p_c 170) 681 = .ok (.iaload, 1))
theorem e170_682 : V 170 682 [some (.ref a), l1, l2, l3] st h Q = V 170 683 [some (.ref a), l1, l2, l3] (.ref a :: st) h Q := V_nx (by decide +kernel : decode (p_c 170) 682 = .ok (.aload_n 0, 1)) rfl rfl
theorem e170_683 : V 170 683 [l0, l1, l2, some (.int x)] st h Q = V 170 684 [l0, l1, l2, some (.int x)] (.int x :: st) h Q := V_nx (by decide +kernel : decode (p_c 170) 683 = .ok (.iload_n 3, 1)) rfl rfl
theorem e170_684 : V 170 684 L st h Q = V 170 685 L (.int 4 :: st) h Q := V_c (by decide +kernel : decode (p_c 170) 684 = .ok (.iconst 4, 1)) (by decide)
theorem e170_685 : V 170 685 L (.int z :: .int x :: st) h Q = V 170 686 L (.int (x + z) :: st) h Q := V_nx (by decide +kernel : decode (p_c 170) 685 = .ok (.iadd, 1)) rfl rfl
theorem e170_686 : V 170 686 L (.int i :: .ref a :: st) h Q = (p_iok i (p_get h a) ∧ V 170 687 L (.int (p_ivl i (p_get h a)) :: st) h Q) := V_ial (by decide +kernel : decode (p_c 170) 686 = .ok (.iaload, 1))
theorem e170_687 : V 170 687 [some (.ref a), l1, l2, l3] st h Q = V 170 688 [some (.ref a), l1, l2, l3] (.ref a :: st) h Q := V_nx (by decide +kernel : decode (p_c 170) 687 = .ok (.aload_n 0, 1)) rfl rfl
theorem e170_688 : V 170 688 [l0, l1, l2, some (.int x)] st h Q = V 170 689 [l0, l1, l2, some (.int x)] (.int x :: st) h Q := V_nx (by decide +kernel : decode (p_c 170) 688 = .ok (.iload_n 3, 1)) rfl rfl
theorem e170_689 : V 170 689 L st h Q = V 170 690 L (.int 5 :: st) h Q := V_c (by decide +kernel : decode (p_c 170) 689 = .ok (.iconst 5, 1)) (by decide)
theorem e170_690 : V 170 690 L (.int z :: .int x :: st) h Q = V 170 691 L (.int (x + z) :: st) h Q := V_nx (by decide +kernel : decode (p_c 170) 690 = .ok (.iadd, 1)) rfl rfl
theorem e170_691 : V 170 691 L (.int i :: .ref a :: st) h Q = (p_iok i (p_get h a) ∧ V 170 692 L (.int (p_ivl i (p_get h a)) :: st) h Q) := V_ial (by decide +kernel : decode (p_c 170) 691 = .ok (.iaload, 1))
theorem e170_692 : V 170 692 L (.int x5 :: .int x4 :: .int x3 :: .int x2 :: .int x1 :: .ref a :: st) h Q = ((p_cn1 (p_get h a) = 12 ∧ p_sm st) ∧ Vm 152 [.ref a, .int x1, .int x2, .int x3, .int x4, .int x5] h (Kt 170 695 L st Q)) := V_iv (n := 5) (as := [.int x5, .int x4, .int x3, .int x2, .int x1]) (ci := 12) (z := 152) (by decide +kernel : decode (p_c 170) 692 = .ok (.invokevirtual 92, 3)) (by decide +kernel) rfl rfl (by decide +kernel) rfl
theorem e170_695 : V 170 695 L (.long w :: .long u :: st) h Q = V 170 696 L (.int (lg_cmp u w) :: st) h Q := V_nx (by decide +kernel : decode (p_c 170) 695 = .ok (.lcmp, 1)) rfl rfl
theorem e170_696 : V 170 696 L (.int x :: st) h Q = if x = 0 then V 170 899 L st h Q else V 170 699 L st h Q := (V_ifc (by decide +kernel : decode (p_c 170) 696 = .ok (.ifCond .eq 203, 3)) (by decide)).trans i_eq
theorem e170_699 : V 170 699 L st h Q = V 170 700 L (.int 0 :: st) h Q := V_c (by decide +kernel : decode (p_c 170) 699 = .ok (.iconst 0, 1)) (by decide)
theorem e170_700 : V 170 700 L [.int x] h Q = ((x = 0 ∨ x = 1) ∧ Q (some (.int x)) h) := V_rz (by decide +kernel : decode (p_c 170) 700 = .ok (.ireturn, 1)) rfl
theorem e170_701 : V 170 701 [l0, some (.ref a), l2, l3] st h Q = V 170 702 [l0, some (.ref a), l2, l3] (.ref a :: st) h Q := V_nx (by decide +kernel : decode (p_c 170) 701 = .ok (.aload_n 1, 1)) rfl rfl
theorem e170_701n : V 170 701 [l0, some .null, l2, l3] st h Q = V 170 702 [l0, some .null, l2, l3] (.null :: st) h Q := V_nx (by decide +kernel : decode (p_c 170) 701 = .ok (.aload_n 1, 1)) rfl rfl
theorem e170_702 : V 170 702 [some (.ref a), l1, l2, l3] st h Q = V 170 703 [some (.ref a), l1, l2, l3] (.ref a :: st) h Q := V_nx (by decide +kernel : decode (p_c 170) 702 = .ok (.aload_n 0, 1)) rfl rfl
theorem e170_703 : V 170 703 [l0, l1, l2, some (.int x)] st h Q = V 170 704 [l0, l1, l2, some (.int x)] (.int x :: st) h Q := V_nx (by decide +kernel : decode (p_c 170) 703 = .ok (.iload_n 3, 1)) rfl rfl
theorem e170_704 : V 170 704 L st h Q = V 170 705 L (.int 1 :: st) h Q := V_c (by decide +kernel : decode (p_c 170) 704 = .ok (.iconst 1, 1)) (by decide)
theorem e170_705 : V 170 705 L (.int z :: .int x :: st) h Q = V 170 706 L (.int (x + z) :: st) h Q := V_nx (by decide +kernel : decode (p_c 170) 705 = .ok (.iadd, 1)) rfl rfl
theorem e170_706 : V 170 706 L (.int i :: .ref a :: st) h Q = (p_iok i (p_get h a) ∧ V 170 707 L (.int (p_ivl i (p_get h a)) :: st) h Q) := V_ial (by decide +kernel : decode (p_c 170) 706 = .ok (.iaload, 1))
theorem e170_707 : V 170 707 [some (.ref a), l1, l2, l3] st h Q = V 170 708 [some (.ref a), l1, l2, l3] (.ref a :: st) h Q := V_nx (by decide +kernel : decode (p_c 170) 707 = .ok (.aload_n 0, 1)) rfl rfl
theorem e170_708 : V 170 708 [l0, l1, l2, some (.int x)] st h Q = V 170 709 [l0, l1, l2, some (.int x)] (.int x :: st) h Q := V_nx (by decide +kernel : decode (p_c 170) 708 = .ok (.iload_n 3, 1)) rfl rfl
theorem e170_709 : V 170 709 L st h Q = V 170 710 L (.int 2 :: st) h Q := V_c (by decide +kernel : decode (p_c 170) 709 = .ok (.iconst 2, 1)) (by decide)
theorem e170_710 : V 170 710 L (.int z :: .int x :: st) h Q = V 170 711 L (.int (x + z) :: st) h Q := V_nx (by decide +kernel : decode (p_c 170) 710 = .ok (.iadd, 1)) rfl rfl
theorem e170_711 : V 170 711 L (.int i :: .ref a :: st) h Q = (p_iok i (p_get h a) ∧ V 170 712 L (.int (p_ivl i (p_get h a)) :: st) h Q) := V_ial (by decide +kernel : decode (p_c 170) 711 = .ok (.iaload, 1))
theorem e170_712 : V 170 712 L (.int x2 :: .int x1 :: .ref a :: st) h Q = ((p_cn1 (p_get h a) = 11 ∧ p_sm st) ∧ Vm 87 [.ref a, .int x1, .int x2] h (Kt 170 715 L st Q)) := V_iv (n := 2) (as := [.int x2, .int x1]) (ci := 11) (z := 87) (by decide +kernel : decode (p_c 170) 712 = .ok (.invokevirtual 93, 3)) (by decide +kernel) rfl rfl (by decide +kernel) rfl
theorem e170_715 : V 170 715 [l0, l1, some (.ref a), l3] st h Q = V 170 716 [l0, l1, some (.ref a), l3] (.ref a :: st) h Q := V_nx (by decide +kernel : decode (p_c 170) 715 = .ok (.aload_n 2, 1)) rfl rfl
theorem e170_715n : V 170 715 [l0, l1, some .null, l3] st h Q = V 170 716 [l0, l1, some .null, l3] (.null :: st) h Q := V_nx (by decide +kernel : decode (p_c 170) 715 = .ok (.aload_n 2, 1)) rfl rfl
theorem e170_716 : V 170 716 [some (.ref a), l1, l2, l3] st h Q = V 170 717 [some (.ref a), l1, l2, l3] (.ref a :: st) h Q := V_nx (by decide +kernel : decode (p_c 170) 716 = .ok (.aload_n 0, 1)) rfl rfl
theorem e170_717 : V 170 717 [l0, l1, l2, some (.int x)] st h Q = V 170 718 [l0, l1, l2, some (.int x)] (.int x :: st) h Q := V_nx (by decide +kernel : decode (p_c 170) 717 = .ok (.iload_n 3, 1)) rfl rfl
theorem e170_718 : V 170 718 L st h Q = V 170 719 L (.int 1 :: st) h Q := V_c (by decide +kernel : decode (p_c 170) 718 = .ok (.iconst 1, 1)) (by decide)
theorem e170_719 : V 170 719 L (.int z :: .int x :: st) h Q = V 170 720 L (.int (x + z) :: st) h Q := V_nx (by decide +kernel : decode (p_c 170) 719 = .ok (.iadd, 1)) rfl rfl
theorem e170_720 : V 170 720 L (.int i :: .ref a :: st) h Q = (p_iok i (p_get h a) ∧ V 170 721 L (.int (p_ivl i (p_get h a)) :: st) h Q) := V_ial (by decide +kernel : decode (p_c 170) 720 = .ok (.iaload, 1))
theorem e170_721 : V 170 721 [some (.ref a), l1, l2, l3] st h Q = V 170 722 [some (.ref a), l1, l2, l3] (.ref a :: st) h Q := V_nx (by decide +kernel : decode (p_c 170) 721 = .ok (.aload_n 0, 1)) rfl rfl
theorem e170_722 : V 170 722 [l0, l1, l2, some (.int x)] st h Q = V 170 723 [l0, l1, l2, some (.int x)] (.int x :: st) h Q := V_nx (by decide +kernel : decode (p_c 170) 722 = .ok (.iload_n 3, 1)) rfl rfl
theorem e170_723 : V 170 723 L st h Q = V 170 724 L (.int 2 :: st) h Q := V_c (by decide +kernel : decode (p_c 170) 723 = .ok (.iconst 2, 1)) (by decide)
theorem e170_724 : V 170 724 L (.int z :: .int x :: st) h Q = V 170 725 L (.int (x + z) :: st) h Q := V_nx (by decide +kernel : decode (p_c 170) 724 = .ok (.iadd, 1)) rfl rfl
theorem e170_725 : V 170 725 L (.int i :: .ref a :: st) h Q = (p_iok i (p_get h a) ∧ V 170 726 L (.int (p_ivl i (p_get h a)) :: st) h Q) := V_ial (by decide +kernel : decode (p_c 170) 725 = .ok (.iaload, 1))
theorem e170_726 : V 170 726 L (.int x2 :: .int x1 :: .ref a :: st) h Q = ((p_cn1 (p_get h a) = 12 ∧ p_sm st) ∧ Vm 153 [.ref a, .int x1, .int x2] h (Kt 170 729 L st Q)) := V_iv (n := 2) (as := [.int x2, .int x1]) (ci := 12) (z := 153) (by decide +kernel : decode (p_c 170) 726 = .ok (.invokevirtual 96, 3)) (by decide +kernel) rfl rfl (by decide +kernel) rfl
theorem e170_729 : V 170 729 L (.int z :: .int x :: st) h Q = if x = z then V 170 899 L st h Q else V 170 732 L st h Q := (V_icmp (by decide +kernel : decode (p_c 170) 729 = .ok (.if_icmp .eq 170, 3)) (by decide)).trans i_eq
theorem e170_732 : V 170 732 L st h Q = V 170 733 L (.int 0 :: st) h Q := V_c (by decide +kernel : decode (p_c 170) 732 = .ok (.iconst 0, 1)) (by decide)
theorem e170_733 : V 170 733 L [.int x] h Q = ((x = 0 ∨ x = 1) ∧ Q (some (.int x)) h) := V_rz (by decide +kernel : decode (p_c 170) 733 = .ok (.ireturn, 1)) rfl
theorem e170_734 : V 170 734 [l0, some (.ref a), l2, l3] st h Q = V 170 735 [l0, some (.ref a), l2, l3] (.ref a :: st) h Q := V_nx (by decide +kernel : decode (p_c 170) 734 = .ok (.aload_n 1, 1)) rfl rfl
theorem e170_734n : V 170 734 [l0, some .null, l2, l3] st h Q = V 170 735 [l0, some .null, l2, l3] (.null :: st) h Q := V_nx (by decide +kernel : decode (p_c 170) 734 = .ok (.aload_n 1, 1)) rfl rfl
theorem e170_735 : V 170 735 [some (.ref a), l1, l2, l3] st h Q = V 170 736 [some (.ref a), l1, l2, l3] (.ref a :: st) h Q := V_nx (by decide +kernel : decode (p_c 170) 735 = .ok (.aload_n 0, 1)) rfl rfl
theorem e170_736 : V 170 736 [l0, l1, l2, some (.int x)] st h Q = V 170 737 [l0, l1, l2, some (.int x)] (.int x :: st) h Q := V_nx (by decide +kernel : decode (p_c 170) 736 = .ok (.iload_n 3, 1)) rfl rfl
theorem e170_737 : V 170 737 L st h Q = V 170 738 L (.int 1 :: st) h Q := V_c (by decide +kernel : decode (p_c 170) 737 = .ok (.iconst 1, 1)) (by decide)
theorem e170_738 : V 170 738 L (.int z :: .int x :: st) h Q = V 170 739 L (.int (x + z) :: st) h Q := V_nx (by decide +kernel : decode (p_c 170) 738 = .ok (.iadd, 1)) rfl rfl
theorem e170_739 : V 170 739 L (.int i :: .ref a :: st) h Q = (p_iok i (p_get h a) ∧ V 170 740 L (.int (p_ivl i (p_get h a)) :: st) h Q) := V_ial (by decide +kernel : decode (p_c 170) 739 = .ok (.iaload, 1))
theorem e170_740 : V 170 740 L (.int x1 :: .ref a :: st) h Q = ((p_cn1 (p_get h a) = 11 ∧ p_sm st) ∧ Vm 88 [.ref a, .int x1] h (Kt 170 743 L st Q)) := V_iv (n := 1) (as := [.int x1]) (ci := 11) (z := 88) (by decide +kernel : decode (p_c 170) 740 = .ok (.invokevirtual 97, 3)) (by decide +kernel) rfl rfl (by decide +kernel) rfl
theorem e170_743 : V 170 743 [l0, l1, some (.ref a), l3] st h Q = V 170 744 [l0, l1, some (.ref a), l3] (.ref a :: st) h Q := V_nx (by decide +kernel : decode (p_c 170) 743 = .ok (.aload_n 2, 1)) rfl rfl
theorem e170_743n : V 170 743 [l0, l1, some .null, l3] st h Q = V 170 744 [l0, l1, some .null, l3] (.null :: st) h Q := V_nx (by decide +kernel : decode (p_c 170) 743 = .ok (.aload_n 2, 1)) rfl rfl
theorem e170_744 : V 170 744 [some (.ref a), l1, l2, l3] st h Q = V 170 745 [some (.ref a), l1, l2, l3] (.ref a :: st) h Q := V_nx (by decide +kernel : decode (p_c 170) 744 = .ok (.aload_n 0, 1)) rfl rfl
theorem e170_745 : V 170 745 [l0, l1, l2, some (.int x)] st h Q = V 170 746 [l0, l1, l2, some (.int x)] (.int x :: st) h Q := V_nx (by decide +kernel : decode (p_c 170) 745 = .ok (.iload_n 3, 1)) rfl rfl
theorem e170_746 : V 170 746 L st h Q = V 170 747 L (.int 1 :: st) h Q := V_c (by decide +kernel : decode (p_c 170) 746 = .ok (.iconst 1, 1)) (by decide)
theorem e170_747 : V 170 747 L (.int z :: .int x :: st) h Q = V 170 748 L (.int (x + z) :: st) h Q := V_nx (by decide +kernel : decode (p_c 170) 747 = .ok (.iadd, 1)) rfl rfl
theorem e170_748 : V 170 748 L (.int i :: .ref a :: st) h Q = (p_iok i (p_get h a) ∧ V 170 749 L (.int (p_ivl i (p_get h a)) :: st) h Q) := V_ial (by decide +kernel : decode (p_c 170) 748 = .ok (.iaload, 1))
theorem e170_749 : V 170 749 L (.int x1 :: .ref a :: st) h Q = ((p_cn1 (p_get h a) = 12 ∧ p_sm st) ∧ Vm 154 [.ref a, .int x1] h (Kt 170 752 L st Q)) := V_iv (n := 1) (as := [.int x1]) (ci := 12) (z := 154) (by decide +kernel : decode (p_c 170) 749 = .ok (.invokevirtual 100, 3)) (by decide +kernel) rfl rfl (by decide +kernel) rfl
theorem e170_752 : V 170 752 L (.int z :: .int x :: st) h Q = if x = z then V 170 899 L st h Q else V 170 755 L st h Q := (V_icmp (by decide +kernel : decode (p_c 170) 752 = .ok (.if_icmp .eq 147, 3)) (by decide)).trans i_eq
theorem e170_755 : V 170 755 L st h Q = V 170 756 L (.int 0 :: st) h Q := V_c (by decide +kernel : decode (p_c 170) 755 = .ok (.iconst 0, 1)) (by decide)
theorem e170_756 : V 170 756 L [.int x] h Q = ((x = 0 ∨ x = 1) ∧ Q (some (.int x)) h) := V_rz (by decide +kernel : decode (p_c 170) 756 = .ok (.ireturn, 1)) rfl
theorem e170_757 : V 170 757 [l0, some (.ref a), l2, l3] st h Q = V 170 758 [l0, some (.ref a), l2, l3] (.ref a :: st) h Q := V_nx (by decide +kernel : decode (p_c 170) 757 = .ok (.aload_n 1, 1)) rfl rfl
theorem e170_757n : V 170 757 [l0, some .null, l2, l3] st h Q = V 170 758 [l0, some .null, l2, l3] (.null :: st) h Q := V_nx (by decide +kernel : decode (p_c 170) 757 = .ok (.aload_n 1, 1)) rfl rfl
theorem e170_758 : V 170 758 L (.ref a :: st) h Q = ((p_cn1 (p_get h a) = 11 ∧ p_sm st) ∧ Vm 89 [.ref a] h (Kt 170 761 L st Q)) := V_iv (n := 0) (as := []) (ci := 11) (z := 89) (by decide +kernel : decode (p_c 170) 758 = .ok (.invokevirtual 101, 3)) (by decide +kernel) rfl rfl (by decide +kernel) rfl
theorem e170_761 : V 170 761 [l0, l1, some (.ref a), l3] st h Q = V 170 762 [l0, l1, some (.ref a), l3] (.ref a :: st) h Q := V_nx (by decide +kernel : decode (p_c 170) 761 = .ok (.aload_n 2, 1)) rfl rfl
theorem e170_761n : V 170 761 [l0, l1, some .null, l3] st h Q = V 170 762 [l0, l1, some .null, l3] (.null :: st) h Q := V_nx (by decide +kernel : decode (p_c 170) 761 = .ok (.aload_n 2, 1)) rfl rfl
theorem e170_762 : V 170 762 L (.ref a :: st) h Q = ((p_cn1 (p_get h a) = 12 ∧ p_sm st) ∧ Vm 157 [.ref a] h (Kt 170 765 L st Q)) := V_iv (n := 0) (as := []) (ci := 12) (z := 157) (by decide +kernel : decode (p_c 170) 762 = .ok (.invokevirtual 104, 3)) (by decide +kernel) rfl rfl (by decide +kernel) rfl
theorem e170_765 : V 170 765 L (.int z :: .int x :: st) h Q = if x = z then V 170 899 L st h Q else V 170 768 L st h Q := (V_icmp (by decide +kernel : decode (p_c 170) 765 = .ok (.if_icmp .eq 134, 3)) (by decide)).trans i_eq
theorem e170_768 : V 170 768 L st h Q = V 170 769 L (.int 0 :: st) h Q := V_c (by decide +kernel : decode (p_c 170) 768 = .ok (.iconst 0, 1)) (by decide)
theorem e170_769 : V 170 769 L [.int x] h Q = ((x = 0 ∨ x = 1) ∧ Q (some (.int x)) h) := V_rz (by decide +kernel : decode (p_c 170) 769 = .ok (.ireturn, 1)) rfl
theorem e170_770 : V 170 770 [l0, some (.ref a), l2, l3] st h Q = V 170 771 [l0, some (.ref a), l2, l3] (.ref a :: st) h Q := V_nx (by decide +kernel : decode (p_c 170) 770 = .ok (.aload_n 1, 1)) rfl rfl
theorem e170_770n : V 170 770 [l0, some .null, l2, l3] st h Q = V 170 771 [l0, some .null, l2, l3] (.null :: st) h Q := V_nx (by decide +kernel : decode (p_c 170) 770 = .ok (.aload_n 1, 1)) rfl rfl
theorem e170_771 : V 170 771 [some (.ref a), l1, l2, l3] st h Q = V 170 772 [some (.ref a), l1, l2, l3] (.ref a :: st) h Q := V_nx (by decide +kernel : decode (p_c 170) 771 = .ok (.aload_n 0, 1)) rfl rfl
theorem e170_772 : V 170 772 [l0, l1, l2, some (.int x)] st h Q = V 170 773 [l0, l1, l2, some (.int x)] (.int x :: st) h Q := V_nx (by decide +kernel : decode (p_c 170) 772 = .ok (.iload_n 3, 1)) rfl rfl
theorem e170_773 : V 170 773 L st h Q = V 170 774 L (.int 1 :: st) h Q := V_c (by decide +kernel : decode (p_c 170) 773 = .ok (.iconst 1, 1)) (by decide)
theorem e170_774 : V 170 774 L (.int z :: .int x :: st) h Q = V 170 775 L (.int (x + z) :: st) h Q := V_nx (by decide +kernel : decode (p_c 170) 774 = .ok (.iadd, 1)) rfl rfl
theorem e170_775 : V 170 775 L (.int i :: .ref a :: st) h Q = (p_iok i (p_get h a) ∧ V 170 776 L (.int (p_ivl i (p_get h a)) :: st) h Q) := V_ial (by decide +kernel : decode (p_c 170) 775 = .ok (.iaload, 1))
theorem e170_776 : V 170 776 L (.int x1 :: .ref a :: st) h Q = ((p_cn1 (p_get h a) = 11 ∧ p_sm st) ∧ Vm 90 [.ref a, .int x1] h (Kt 170 779 L st Q)) := V_iv (n := 1) (as := [.int x1]) (ci := 11) (z := 90) (by decide +kernel : decode (p_c 170) 776 = .ok (.invokevirtual 105, 3)) (by decide +kernel) rfl rfl (by decide +kernel) rfl
theorem e170_779 : V 170 779 [l0, l1, some (.ref a), l3] st h Q = V 170 780 [l0, l1, some (.ref a), l3] (.ref a :: st) h Q := V_nx (by decide +kernel : decode (p_c 170) 779 = .ok (.aload_n 2, 1)) rfl rfl
theorem e170_779n : V 170 779 [l0, l1, some .null, l3] st h Q = V 170 780 [l0, l1, some .null, l3] (.null :: st) h Q := V_nx (by decide +kernel : decode (p_c 170) 779 = .ok (.aload_n 2, 1)) rfl rfl
theorem e170_780 : V 170 780 [some (.ref a), l1, l2, l3] st h Q = V 170 781 [some (.ref a), l1, l2, l3] (.ref a :: st) h Q := V_nx (by decide +kernel : decode (p_c 170) 780 = .ok (.aload_n 0, 1)) rfl rfl
theorem e170_781 : V 170 781 [l0, l1, l2, some (.int x)] st h Q = V 170 782 [l0, l1, l2, some (.int x)] (.int x :: st) h Q := V_nx (by decide +kernel : decode (p_c 170) 781 = .ok (.iload_n 3, 1)) rfl rfl
theorem e170_782 : V 170 782 L st h Q = V 170 783 L (.int 1 :: st) h Q := V_c (by decide +kernel : decode (p_c 170) 782 = .ok (.iconst 1, 1)) (by decide)
theorem e170_783 : V 170 783 L (.int z :: .int x :: st) h Q = V 170 784 L (.int (x + z) :: st) h Q := V_nx (by decide +kernel : decode (p_c 170) 783 = .ok (.iadd, 1)) rfl rfl
theorem e170_784 : V 170 784 L (.int i :: .ref a :: st) h Q = (p_iok i (p_get h a) ∧ V 170 785 L (.int (p_ivl i (p_get h a)) :: st) h Q) := V_ial (by decide +kernel : decode (p_c 170) 784 = .ok (.iaload, 1))
theorem e170_785 : V 170 785 L (.int x1 :: .ref a :: st) h Q = ((p_cn1 (p_get h a) = 12 ∧ p_sm st) ∧ Vm 158 [.ref a, .int x1] h (Kt 170 788 L st Q)) := V_iv (n := 1) (as := [.int x1]) (ci := 12) (z := 158) (by decide +kernel : decode (p_c 170) 785 = .ok (.invokevirtual 108, 3)) (by decide +kernel) rfl rfl (by decide +kernel) rfl
theorem e170_788 : V 170 788 L (.int z :: .int x :: st) h Q = if x = z then V 170 899 L st h Q else V 170 791 L st h Q := (V_icmp (by decide +kernel : decode (p_c 170) 788 = .ok (.if_icmp .eq 111, 3)) (by decide)).trans i_eq
theorem e170_791 : V 170 791 L st h Q = V 170 792 L (.int 0 :: st) h Q := V_c (by decide +kernel : decode (p_c 170) 791 = .ok (.iconst 0, 1)) (by decide)
theorem e170_792 : V 170 792 L [.int x] h Q = ((x = 0 ∨ x = 1) ∧ Q (some (.int x)) h) := V_rz (by decide +kernel : decode (p_c 170) 792 = .ok (.ireturn, 1)) rfl
theorem e170_793 : V 170 793 [l0, some (.ref a), l2, l3] st h Q = V 170 794 [l0, some (.ref a), l2, l3] (.ref a :: st) h Q := V_nx (by decide +kernel : decode (p_c 170) 793 = .ok (.aload_n 1, 1)) rfl rfl
theorem e170_793n : V 170 793 [l0, some .null, l2, l3] st h Q = V 170 794 [l0, some .null, l2, l3] (.null :: st) h Q := V_nx (by decide +kernel : decode (p_c 170) 793 = .ok (.aload_n 1, 1)) rfl rfl
theorem e170_794 : V 170 794 [some (.ref a), l1, l2, l3] st h Q = V 170 795 [some (.ref a), l1, l2, l3] (.ref a :: st) h Q := V_nx (by decide +kernel : decode (p_c 170) 794 = .ok (.aload_n 0, 1)) rfl rfl
theorem e170_795 : V 170 795 [l0, l1, l2, some (.int x)] st h Q = V 170 796 [l0, l1, l2, some (.int x)] (.int x :: st) h Q := V_nx (by decide +kernel : decode (p_c 170) 795 = .ok (.iload_n 3, 1)) rfl rfl
theorem e170_796 : V 170 796 L st h Q = V 170 797 L (.int 1 :: st) h Q := V_c (by decide +kernel : decode (p_c 170) 796 = .ok (.iconst 1, 1)) (by decide)
theorem e170_797 : V 170 797 L (.int z :: .int x :: st) h Q = V 170 798 L (.int (x + z) :: st) h Q := V_nx (by decide +kernel : decode (p_c 170) 797 = .ok (.iadd, 1)) rfl rfl
theorem e170_798 : V 170 798 L (.int i :: .ref a :: st) h Q = (p_iok i (p_get h a) ∧ V 170 799 L (.int (p_ivl i (p_get h a)) :: st) h Q) := V_ial (by decide +kernel : decode (p_c 170) 798 = .ok (.iaload, 1))
theorem e170_799 : V 170 799 [some (.ref a), l1, l2, l3] st h Q = V 170 800 [some (.ref a), l1, l2, l3] (.ref a :: st) h Q := V_nx (by decide +kernel : decode (p_c 170) 799 = .ok (.aload_n 0, 1)) rfl rfl
theorem e170_800 : V 170 800 [l0, l1, l2, some (.int x)] st h Q = V 170 801 [l0, l1, l2, some (.int x)] (.int x :: st) h Q := V_nx (by decide +kernel : decode (p_c 170) 800 = .ok (.iload_n 3, 1)) rfl rfl
theorem e170_801 : V 170 801 L st h Q = V 170 802 L (.int 2 :: st) h Q := V_c (by decide +kernel : decode (p_c 170) 801 = .ok (.iconst 2, 1)) (by decide)
theorem e170_802 : V 170 802 L (.int z :: .int x :: st) h Q = V 170 803 L (.int (x + z) :: st) h Q := V_nx (by decide +kernel : decode (p_c 170) 802 = .ok (.iadd, 1)) rfl rfl
theorem e170_803 : V 170 803 L (.int i :: .ref a :: st) h Q = (p_iok i (p_get h a) ∧ V 170 804 L (.int (p_ivl i (p_get h a)) :: st) h Q) := V_ial (by decide +kernel : decode (p_c 170) 803 = .ok (.iaload, 1))
theorem e170_804 : V 170 804 [some (.ref a), l1, l2, l3] st h Q = V 170 805 [some (.ref a), l1, l2, l3] (.ref a :: st) h Q := V_nx (by decide +kernel : decode (p_c 170) 804 = .ok (.aload_n 0, 1)) rfl rfl
theorem e170_805 : V 170 805 [l0, l1, l2, some (.int x)] st h Q = V 170 806 [l0, l1, l2, some (.int x)] (.int x :: st) h Q := V_nx (by decide +kernel : decode (p_c 170) 805 = .ok (.iload_n 3, 1)) rfl rfl
theorem e170_806 : V 170 806 L st h Q = V 170 807 L (.int 3 :: st) h Q := V_c (by decide +kernel : decode (p_c 170) 806 = .ok (.iconst 3, 1)) (by decide)
theorem e170_807 : V 170 807 L (.int z :: .int x :: st) h Q = V 170 808 L (.int (x + z) :: st) h Q := V_nx (by decide +kernel : decode (p_c 170) 807 = .ok (.iadd, 1)) rfl rfl
theorem e170_808 : V 170 808 L (.int i :: .ref a :: st) h Q = (p_iok i (p_get h a) ∧ V 170 809 L (.int (p_ivl i (p_get h a)) :: st) h Q) := V_ial (by decide +kernel : decode (p_c 170) 808 = .ok (.iaload, 1))
theorem e170_809 : V 170 809 L (.int x3 :: .int x2 :: .int x1 :: .ref a :: st) h Q = ((p_cn1 (p_get h a) = 11 ∧ p_sm st) ∧ Vm 91 [.ref a, .int x1, .int x2, .int x3] h (Kt 170 812 L st Q)) := V_iv (n := 3) (as := [.int x3, .int x2, .int x1]) (ci := 11) (z := 91) (by decide +kernel : decode (p_c 170) 809 = .ok (.invokevirtual 109, 3)) (by decide +kernel) rfl rfl (by decide +kernel) rfl
theorem e170_812 : V 170 812 [l0, l1, some (.ref a), l3] st h Q = V 170 813 [l0, l1, some (.ref a), l3] (.ref a :: st) h Q := V_nx (by decide +kernel : decode (p_c 170) 812 = .ok (.aload_n 2, 1)) rfl rfl
theorem e170_812n : V 170 812 [l0, l1, some .null, l3] st h Q = V 170 813 [l0, l1, some .null, l3] (.null :: st) h Q := V_nx (by decide +kernel : decode (p_c 170) 812 = .ok (.aload_n 2, 1)) rfl rfl
theorem e170_813 : V 170 813 [some (.ref a), l1, l2, l3] st h Q = V 170 814 [some (.ref a), l1, l2, l3] (.ref a :: st) h Q := V_nx (by decide +kernel : decode (p_c 170) 813 = .ok (.aload_n 0, 1)) rfl rfl
theorem e170_814 : V 170 814 [l0, l1, l2, some (.int x)] st h Q = V 170 815 [l0, l1, l2, some (.int x)] (.int x :: st) h Q := V_nx (by decide +kernel : decode (p_c 170) 814 = .ok (.iload_n 3, 1)) rfl rfl
theorem e170_815 : V 170 815 L st h Q = V 170 816 L (.int 1 :: st) h Q := V_c (by decide +kernel : decode (p_c 170) 815 = .ok (.iconst 1, 1)) (by decide)
theorem e170_816 : V 170 816 L (.int z :: .int x :: st) h Q = V 170 817 L (.int (x + z) :: st) h Q := V_nx (by decide +kernel : decode (p_c 170) 816 = .ok (.iadd, 1)) rfl rfl
theorem e170_817 : V 170 817 L (.int i :: .ref a :: st) h Q = (p_iok i (p_get h a) ∧ V 170 818 L (.int (p_ivl i (p_get h a)) :: st) h Q) := V_ial (by decide +kernel : decode (p_c 170) 817 = .ok (.iaload, 1))
theorem e170_818 : V 170 818 [some (.ref a), l1, l2, l3] st h Q = V 170 819 [some (.ref a), l1, l2, l3] (.ref a :: st) h Q := V_nx (by decide +kernel : decode (p_c 170) 818 = .ok (.aload_n 0, 1)) rfl rfl
theorem e170_819 : V 170 819 [l0, l1, l2, some (.int x)] st h Q = V 170 820 [l0, l1, l2, some (.int x)] (.int x :: st) h Q := V_nx (by decide +kernel : decode (p_c 170) 819 = .ok (.iload_n 3, 1)) rfl rfl
theorem e170_820 : V 170 820 L st h Q = V 170 821 L (.int 2 :: st) h Q := V_c (by decide +kernel : decode (p_c 170) 820 = .ok (.iconst 2, 1)) (by decide)
theorem e170_821 : V 170 821 L (.int z :: .int x :: st) h Q = V 170 822 L (.int (x + z) :: st) h Q := V_nx (by decide +kernel : decode (p_c 170) 821 = .ok (.iadd, 1)) rfl rfl
theorem e170_822 : V 170 822 L (.int i :: .ref a :: st) h Q = (p_iok i (p_get h a) ∧ V 170 823 L (.int (p_ivl i (p_get h a)) :: st) h Q) := V_ial (by decide +kernel : decode (p_c 170) 822 = .ok (.iaload, 1))
theorem e170_823 : V 170 823 [some (.ref a), l1, l2, l3] st h Q = V 170 824 [some (.ref a), l1, l2, l3] (.ref a :: st) h Q := V_nx (by decide +kernel : decode (p_c 170) 823 = .ok (.aload_n 0, 1)) rfl rfl
theorem e170_824 : V 170 824 [l0, l1, l2, some (.int x)] st h Q = V 170 825 [l0, l1, l2, some (.int x)] (.int x :: st) h Q := V_nx (by decide +kernel : decode (p_c 170) 824 = .ok (.iload_n 3, 1)) rfl rfl
theorem e170_825 : V 170 825 L st h Q = V 170 826 L (.int 3 :: st) h Q := V_c (by decide +kernel : decode (p_c 170) 825 = .ok (.iconst 3, 1)) (by decide)
theorem e170_826 : V 170 826 L (.int z :: .int x :: st) h Q = V 170 827 L (.int (x + z) :: st) h Q := V_nx (by decide +kernel : decode (p_c 170) 826 = .ok (.iadd, 1)) rfl rfl
theorem e170_827 : V 170 827 L (.int i :: .ref a :: st) h Q = (p_iok i (p_get h a) ∧ V 170 828 L (.int (p_ivl i (p_get h a)) :: st) h Q) := V_ial (by decide +kernel : decode (p_c 170) 827 = .ok (.iaload, 1))
theorem e170_828 : V 170 828 L (.int x3 :: .int x2 :: .int x1 :: .ref a :: st) h Q = ((p_cn1 (p_get h a) = 12 ∧ p_sm st) ∧ Vm 161 [.ref a, .int x1, .int x2, .int x3] h (Kt 170 831 L st Q)) := V_iv (n := 3) (as := [.int x3, .int x2, .int x1]) (ci := 12) (z := 161) (by decide +kernel : decode (p_c 170) 828 = .ok (.invokevirtual 112, 3)) (by decide +kernel) rfl rfl (by decide +kernel) rfl
theorem e170_831 : V 170 831 L (.int z :: .int x :: st) h Q = if x = z then V 170 899 L st h Q else V 170 834 L st h Q := (V_icmp (by decide +kernel : decode (p_c 170) 831 = .ok (.if_icmp .eq 68, 3)) (by decide)).trans i_eq
theorem e170_834 : V 170 834 L st h Q = V 170 835 L (.int 0 :: st) h Q := V_c (by decide +kernel : decode (p_c 170) 834 = .ok (.iconst 0, 1)) (by decide)
theorem e170_835 : V 170 835 L [.int x] h Q = ((x = 0 ∨ x = 1) ∧ Q (some (.int x)) h) := V_rz (by decide +kernel : decode (p_c 170) 835 = .ok (.ireturn, 1)) rfl
theorem e170_836 : V 170 836 [l0, some (.ref a), l2, l3] st h Q = V 170 837 [l0, some (.ref a), l2, l3] (.ref a :: st) h Q := V_nx (by decide +kernel : decode (p_c 170) 836 = .ok (.aload_n 1, 1)) rfl rfl
theorem e170_836n : V 170 836 [l0, some .null, l2, l3] st h Q = V 170 837 [l0, some .null, l2, l3] (.null :: st) h Q := V_nx (by decide +kernel : decode (p_c 170) 836 = .ok (.aload_n 1, 1)) rfl rfl
theorem e170_837 : V 170 837 L (.ref a :: st) h Q = ((p_cn1 (p_get h a) = 11 ∧ p_sm st) ∧ Vm 92 [.ref a] h (Kt 170 840 L st Q)) := V_iv (n := 0) (as := []) (ci := 11) (z := 92) (by decide +kernel : decode (p_c 170) 837 = .ok (.invokevirtual 113, 3)) (by decide +kernel) rfl rfl (by decide +kernel) rfl
theorem e170_840 : V 170 840 [l0, l1, some (.ref a), l3] st h Q = V 170 841 [l0, l1, some (.ref a), l3] (.ref a :: st) h Q := V_nx (by decide +kernel : decode (p_c 170) 840 = .ok (.aload_n 2, 1)) rfl rfl
theorem e170_840n : V 170 840 [l0, l1, some .null, l3] st h Q = V 170 841 [l0, l1, some .null, l3] (.null :: st) h Q := V_nx (by decide +kernel : decode (p_c 170) 840 = .ok (.aload_n 2, 1)) rfl rfl
theorem e170_841 : V 170 841 L (.ref a :: st) h Q = ((p_cn1 (p_get h a) = 12 ∧ p_sm st) ∧ Vm 162 [.ref a] h (Kt 170 844 L st Q)) := V_iv (n := 0) (as := []) (ci := 12) (z := 162) (by decide +kernel : decode (p_c 170) 841 = .ok (.invokevirtual 116, 3)) (by decide +kernel) rfl rfl (by decide +kernel) rfl
theorem e170_844 : V 170 844 L (.int z :: .int x :: st) h Q = if x = z then V 170 899 L st h Q else V 170 847 L st h Q := (V_icmp (by decide +kernel : decode (p_c 170) 844 = .ok (.if_icmp .eq 55, 3)) (by decide)).trans i_eq
theorem e170_847 : V 170 847 L st h Q = V 170 848 L (.int 0 :: st) h Q := V_c (by decide +kernel : decode (p_c 170) 847 = .ok (.iconst 0, 1)) (by decide)
theorem e170_848 : V 170 848 L [.int x] h Q = ((x = 0 ∨ x = 1) ∧ Q (some (.int x)) h) := V_rz (by decide +kernel : decode (p_c 170) 848 = .ok (.ireturn, 1)) rfl
theorem e170_849 : V 170 849 [l0, some (.ref a), l2, l3] st h Q = V 170 850 [l0, some (.ref a), l2, l3] (.ref a :: st) h Q := V_nx (by decide +kernel : decode (p_c 170) 849 = .ok (.aload_n 1, 1)) rfl rfl
theorem e170_849n : V 170 849 [l0, some .null, l2, l3] st h Q = V 170 850 [l0, some .null, l2, l3] (.null :: st) h Q := V_nx (by decide +kernel : decode (p_c 170) 849 = .ok (.aload_n 1, 1)) rfl rfl
theorem e170_850 : V 170 850 L (.ref a :: st) h Q = ((p_cn1 (p_get h a) = 11 ∧ p_sm st) ∧ Vm 93 [.ref a] h (Kt 170 853 L st Q)) := V_iv (n := 0) (as := []) (ci := 11) (z := 93) (by decide +kernel : decode (p_c 170) 850 = .ok (.invokevirtual 117, 3)) (by decide +kernel) rfl rfl (by decide +kernel) rfl
theorem e170_853 : V 170 853 [l0, l1, some (.ref a), l3] st h Q = V 170 854 [l0, l1, some (.ref a), l3] (.ref a :: st) h Q := V_nx (by decide +kernel : decode (p_c 170) 853 = .ok (.aload_n 2, 1)) rfl rfl
theorem e170_853n : V 170 853 [l0, l1, some .null, l3] st h Q = V 170 854 [l0, l1, some .null, l3] (.null :: st) h Q := V_nx (by decide +kernel : decode (p_c 170) 853 = .ok (.aload_n 2, 1)) rfl rfl
theorem e170_854 : V 170 854 L (.ref a :: st) h Q = ((p_cn1 (p_get h a) = 12 ∧ p_sm st) ∧ Vm 163 [.ref a] h (Kt 170 857 L st Q)) := V_iv (n := 0) (as := []) (ci := 12) (z := 163) (by decide +kernel : decode (p_c 170) 854 = .ok (.invokevirtual 120, 3)) (by decide +kernel) rfl rfl (by decide +kernel) rfl
theorem e170_857 : V 170 857 L (.int z :: .int x :: st) h Q = if x = z then V 170 899 L st h Q else V 170 860 L st h Q := (V_icmp (by decide +kernel : decode (p_c 170) 857 = .ok (.if_icmp .eq 42, 3)) (by decide)).trans i_eq
theorem e170_860 : V 170 860 L st h Q = V 170 861 L (.int 0 :: st) h Q := V_c (by decide +kernel : decode (p_c 170) 860 = .ok (.iconst 0, 1)) (by decide)
theorem e170_861 : V 170 861 L [.int x] h Q = ((x = 0 ∨ x = 1) ∧ Q (some (.int x)) h) := V_rz (by decide +kernel : decode (p_c 170) 861 = .ok (.ireturn, 1)) rfl
theorem e170_862 : V 170 862 [l0, some (.ref a), l2, l3] st h Q = V 170 863 [l0, some (.ref a), l2, l3] (.ref a :: st) h Q := V_nx (by decide +kernel : decode (p_c 170) 862 = .ok (.aload_n 1, 1)) rfl rfl
theorem e170_862n : V 170 862 [l0, some .null, l2, l3] st h Q = V 170 863 [l0, some .null, l2, l3] (.null :: st) h Q := V_nx (by decide +kernel : decode (p_c 170) 862 = .ok (.aload_n 1, 1)) rfl rfl
theorem e170_863 : V 170 863 [some (.ref a), l1, l2, l3] st h Q = V 170 864 [some (.ref a), l1, l2, l3] (.ref a :: st) h Q := V_nx (by decide +kernel : decode (p_c 170) 863 = .ok (.aload_n 0, 1)) rfl rfl
theorem e170_864 : V 170 864 [l0, l1, l2, some (.int x)] st h Q = V 170 865 [l0, l1, l2, some (.int x)] (.int x :: st) h Q := V_nx (by decide +kernel : decode (p_c 170) 864 = .ok (.iload_n 3, 1)) rfl rfl
theorem e170_865 : V 170 865 L st h Q = V 170 866 L (.int 1 :: st) h Q := V_c (by decide +kernel : decode (p_c 170) 865 = .ok (.iconst 1, 1)) (by decide)
theorem e170_866 : V 170 866 L (.int z :: .int x :: st) h Q = V 170 867 L (.int (x + z) :: st) h Q := V_nx (by decide +kernel : decode (p_c 170) 866 = .ok (.iadd, 1)) rfl rfl
theorem e170_867 : V 170 867 L (.int i :: .ref a :: st) h Q = (p_iok i (p_get h a) ∧ V 170 868 L (.int (p_ivl i (p_get h a)) :: st) h Q) := V_ial (by decide +kernel : decode (p_c 170) 867 = .ok (.iaload, 1))
theorem e170_868 : V 170 868 L (.int x1 :: .ref a :: st) h Q = ((p_cn1 (p_get h a) = 11 ∧ p_sm st) ∧ Vm 94 [.ref a, .int x1] h (Kt 170 871 L st Q)) := V_iv (n := 1) (as := [.int x1]) (ci := 11) (z := 94) (by decide +kernel : decode (p_c 170) 868 = .ok (.invokevirtual 121, 3)) (by decide +kernel) rfl rfl (by decide +kernel) rfl
theorem e170_871 : V 170 871 [l0, l1, some (.ref a), l3] st h Q = V 170 872 [l0, l1, some (.ref a), l3] (.ref a :: st) h Q := V_nx (by decide +kernel : decode (p_c 170) 871 = .ok (.aload_n 2, 1)) rfl rfl
theorem e170_871n : V 170 871 [l0, l1, some .null, l3] st h Q = V 170 872 [l0, l1, some .null, l3] (.null :: st) h Q := V_nx (by decide +kernel : decode (p_c 170) 871 = .ok (.aload_n 2, 1)) rfl rfl
theorem e170_872 : V 170 872 [some (.ref a), l1, l2, l3] st h Q = V 170 873 [some (.ref a), l1, l2, l3] (.ref a :: st) h Q := V_nx (by decide +kernel : decode (p_c 170) 872 = .ok (.aload_n 0, 1)) rfl rfl
theorem e170_873 : V 170 873 [l0, l1, l2, some (.int x)] st h Q = V 170 874 [l0, l1, l2, some (.int x)] (.int x :: st) h Q := V_nx (by decide +kernel : decode (p_c 170) 873 = .ok (.iload_n 3, 1)) rfl rfl
theorem e170_874 : V 170 874 L st h Q = V 170 875 L (.int 1 :: st) h Q := V_c (by decide +kernel : decode (p_c 170) 874 = .ok (.iconst 1, 1)) (by decide)
theorem e170_875 : V 170 875 L (.int z :: .int x :: st) h Q = V 170 876 L (.int (x + z) :: st) h Q := V_nx (by decide +kernel : decode (p_c 170) 875 = .ok (.iadd, 1)) rfl rfl
theorem e170_876 : V 170 876 L (.int i :: .ref a :: st) h Q = (p_iok i (p_get h a) ∧ V 170 877 L (.int (p_ivl i (p_get h a)) :: st) h Q) := V_ial (by decide +kernel : decode (p_c 170) 876 = .ok (.iaload, 1))
theorem e170_877 : V 170 877 L (.int x1 :: .ref a :: st) h Q = ((p_cn1 (p_get h a) = 12 ∧ p_sm st) ∧ Vm 165 [.ref a, .int x1] h (Kt 170 880 L st Q)) := V_iv (n := 1) (as := [.int x1]) (ci := 12) (z := 165) (by decide +kernel : decode (p_c 170) 877 = .ok (.invokevirtual 124, 3)) (by decide +kernel) rfl rfl (by decide +kernel) rfl
theorem e170_880 : V 170 880 L (.int z :: .int x :: st) h Q = if x = z then V 170 899 L st h Q else V 170 883 L st h Q := (V_icmp (by decide +kernel : decode (p_c 170) 880 = .ok (.if_icmp .eq 19, 3)) (by decide)).trans i_eq
theorem e170_883 : V 170 883 L st h Q = V 170 884 L (.int 0 :: st) h Q := V_c (by decide +kernel : decode (p_c 170) 883 = .ok (.iconst 0, 1)) (by decide)
theorem e170_884 : V 170 884 L [.int x] h Q = ((x = 0 ∨ x = 1) ∧ Q (some (.int x)) h) := V_rz (by decide +kernel : decode (p_c 170) 884 = .ok (.ireturn, 1)) rfl
theorem e170_885 : V 170 885 [l0, some (.ref a), l2, l3] st h Q = V 170 886 [l0, some (.ref a), l2, l3] (.ref a :: st) h Q := V_nx (by decide +kernel : decode (p_c 170) 885 = .ok (.aload_n 1, 1)) rfl rfl
theorem e170_885n : V 170 885 [l0, some .null, l2, l3] st h Q = V 170 886 [l0, some .null, l2, l3] (.null :: st) h Q := V_nx (by decide +kernel : decode (p_c 170) 885 = .ok (.aload_n 1, 1)) rfl rfl
theorem e170_886 : V 170 886 L (.ref a :: st) h Q = ((p_cn1 (p_get h a) = 11 ∧ p_sm st) ∧ Vm 95 [.ref a] h (Kt 170 889 L st Q)) := V_iv (n := 0) (as := []) (ci := 11) (z := 95) (by decide +kernel : decode (p_c 170) 886 = .ok (.invokevirtual 125, 3)) (by decide +kernel) rfl rfl (by decide +kernel) rfl
theorem e170_889 : V 170 889 [l0, l1, some (.ref a), l3] st h Q = V 170 890 [l0, l1, some (.ref a), l3] (.ref a :: st) h Q := V_nx (by decide +kernel : decode (p_c 170) 889 = .ok (.aload_n 2, 1)) rfl rfl
theorem e170_889n : V 170 889 [l0, l1, some .null, l3] st h Q = V 170 890 [l0, l1, some .null, l3] (.null :: st) h Q := V_nx (by decide +kernel : decode (p_c 170) 889 = .ok (.aload_n 2, 1)) rfl rfl
theorem e170_890 : V 170 890 L (.ref a :: st) h Q = ((p_cn1 (p_get h a) = 12 ∧ p_sm st) ∧ Vm 167 [.ref a] h (Kt 170 893 L st Q)) := V_iv (n := 0) (as := []) (ci := 12) (z := 167) (by decide +kernel : decode (p_c 170) 890 = .ok (.invokevirtual 129, 3)) (by decide +kernel) rfl rfl (by decide +kernel) rfl
theorem e170_893 : V 170 893 L (.long w :: .long u :: st) h Q = V 170 894 L (.int (lg_cmp u w) :: st) h Q := V_nx (by decide +kernel : decode (p_c 170) 893 = .ok (.lcmp, 1)) rfl rfl
theorem e170_894 : V 170 894 L (.int x :: st) h Q = if x = 0 then V 170 899 L st h Q else V 170 897 L st h Q := (V_ifc (by decide +kernel : decode (p_c 170) 894 = .ok (.ifCond .eq 5, 3)) (by decide)).trans i_eq
theorem e170_897 : V 170 897 L st h Q = V 170 898 L (.int 0 :: st) h Q := V_c (by decide +kernel : decode (p_c 170) 897 = .ok (.iconst 0, 1)) (by decide)
theorem e170_898 : V 170 898 L [.int x] h Q = ((x = 0 ∨ x = 1) ∧ Q (some (.int x)) h) := V_rz (by decide +kernel : decode (p_c 170) 898 = .ok (.ireturn, 1)) rfl
theorem e170_899 : V 170 899 [l0, l1, l2, some (.int x)] st h Q = V 170 902 [l0, l1, p_dl l2, some (.int (x + 6))] st h Q := V_iinc (x := x) (by decide +kernel : decode (p_c 170) 899 = .ok (.iinc 3 6, 3)) (by decide) rfl (Nat.le_of_ble_eq_true rfl)
theorem e170_902 : V 170 902 L st h Q = V 170 18 L st h Q := V_goto (by decide +kernel : decode (p_c 170) 902 = .ok (.goto (-884), 3)) (by decide)
theorem e170_905 : V 170 905 L st h Q = V 170 906 L (.int 1 :: st) h Q := V_c (by decide +kernel : decode (p_c 170) 905 = .ok (.iconst 1, 1)) (by decide)
theorem e170_906 : V 170 906 L [.int x] h Q = ((x = 0 ∨ x = 1) ∧ Q (some (.int x)) h) := V_rz (by decide +kernel : decode (p_c 170) 906 = .ok (.ireturn, 1)) rfl
theorem m170 : Vm 170 [.ref a] h Q = V 170 0 [some (.ref a), none, none, none] [] h Q := rfl
end EE
