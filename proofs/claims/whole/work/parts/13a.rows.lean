section EE
variable {L : pL} {st : List Value} {h : pH} {Q : Option Value → pH → Prop} {l0 l1 l2 l3 l4 l5 l6 l7 l8 l9 l10 l11 l12 : Option Value} {a b b1 b2 b3 b4 : Nat} {i x z x1 x2 x3 x4 x5 : Int32} {u w u1 u2 : Int64}
theorem e0_0 : V 0 0 [some (.ref a), l1, l2] st h Q = V 0 1 [some (.ref a), l1, l2] (.ref a :: st) h Q := V_nx (by decide +kernel : decode (p_c 0) 0 = .ok (.aload_n 0, 1)) rfl rfl
theorem e0_1 : V 0 1 [l0, some (.int x), l2] st h Q = V 0 2 [l0, some (.int x), l2] (.int x :: st) h Q := V_nx (by decide +kernel : decode (p_c 0) 1 = .ok (.iload_n 1, 1)) rfl rfl
theorem e0_2 : V 0 2 [l0, l1, some (.int x)] st h Q = V 0 3 [l0, l1, some (.int x)] (.int x :: st) h Q := V_nx (by decide +kernel : decode (p_c 0) 2 = .ok (.iload_n 2, 1)) rfl rfl
theorem e0_3 : V 0 3 L (.int x2 :: .int x1 :: .ref a :: st) h Q = (p_sm st ∧ Vm 3 [.ref a, .int x1, .int x2] h (Kt 0 6 L st Q)) := V_sp (n := 2) (as := [.int x2, .int x1]) (z := 3) (by decide +kernel : decode (p_c 0) 3 = .ok (.invokespecial 1, 3)) (by decide +kernel) rfl (by decide +kernel) rfl
theorem e0_6 : V 0 6 L [] h Q = Q none h := V_rv (by decide +kernel : decode (p_c 0) 6 = .ok (.return_, 1)) rfl
theorem m0 : Vm 0 [.ref a, .int x1, .int x2] h Q = V 0 0 [some (.ref a), some (.int x1), some (.int x2)] [] h Q := rfl
theorem e1_0 : V 1 0 L st h Q = V 1 1 L (.int 2 :: st) h Q := V_c (by decide +kernel : decode (p_c 1) 0 = .ok (.iconst 2, 1)) (by decide)
theorem e1_1 : V 1 1 L [.int x] h Q = Q (some (.int x)) h := V_ri (by decide +kernel : decode (p_c 1) 1 = .ok (.ireturn, 1)) rfl
theorem m1 : Vm 1 [.ref a] h Q = V 1 0 [some (.ref a)] [] h Q := rfl
theorem e2_0 : V 2 0 [some (.ref a)] st h Q = V 2 1 [some (.ref a)] (.ref a :: st) h Q := V_nx (by decide +kernel : decode (p_c 2) 0 = .ok (.aload_n 0, 1)) rfl rfl
theorem e2_1 : V 2 1 L (.ref a :: st) h Q = (p_ok1 [0] 0 (p_get h a) ∧ V 2 4 L (p_fv 0 (p_get h a) :: st) h Q) := V_gf (t := (0, 2, "WaterShoulders$Barge")) (by decide +kernel : decode (p_c 2) 1 = .ok (.getfield 7, 3)) (by decide +kernel)
theorem e2_4 : V 2 4 L st h Q = V 2 5 L (.int 1 :: st) h Q := V_c (by decide +kernel : decode (p_c 2) 4 = .ok (.iconst 1, 1)) (by decide)
theorem e2_5 : V 2 5 L (.int z :: .int x :: st) h Q = V 2 6 L (.int (x + z) :: st) h Q := V_nx (by decide +kernel : decode (p_c 2) 5 = .ok (.iadd, 1)) rfl rfl
theorem e2_6 : V 2 6 L [.int x] h Q = Q (some (.int x)) h := V_ri (by decide +kernel : decode (p_c 2) 6 = .ok (.ireturn, 1)) rfl
theorem m2 : Vm 2 [.ref a] h Q = V 2 0 [some (.ref a)] [] h Q := rfl
theorem e3_0 : V 3 0 [some (.ref a), l1, l2] st h Q = V 3 1 [some (.ref a), l1, l2] (.ref a :: st) h Q := V_nx (by decide +kernel : decode (p_c 3) 0 = .ok (.aload_n 0, 1)) rfl rfl
theorem e3_1 : V 3 1 L (.ref a :: st) h Q = (p_sm st ∧ V 3 4 L st h Q) := V_oi (by decide +kernel : decode (p_c 3) 1 = .ok (.invokespecial 1, 3)) (by decide +kernel) (by decide +kernel)
theorem e3_4 : V 3 4 [some (.ref a), l1, l2] st h Q = V 3 5 [some (.ref a), l1, l2] (.ref a :: st) h Q := V_nx (by decide +kernel : decode (p_c 3) 4 = .ok (.aload_n 0, 1)) rfl rfl
theorem e3_5 : V 3 5 [l0, some (.int x), l2] st h Q = V 3 6 [l0, some (.int x), l2] (.int x :: st) h Q := V_nx (by decide +kernel : decode (p_c 3) 5 = .ok (.iload_n 1, 1)) rfl rfl
theorem e3_6 : V 3 6 L (.int x :: .ref a :: st) h Q = (p_ok1 [0, 1, 2, 7, 10] 0 (p_get h a) ∧ V 3 9 L st (p_set h a (p_fs 0 (.int x) (p_get h a))) Q) := V_pf0 (fin := 1) (ref := "WaterShoulders$Boat") (by decide +kernel : decode (p_c 3) 6 = .ok (.putfield 7, 3)) (by decide +kernel) (by decide +kernel)
theorem e3_9 : V 3 9 [some (.ref a), l1, l2] st h Q = V 3 10 [some (.ref a), l1, l2] (.ref a :: st) h Q := V_nx (by decide +kernel : decode (p_c 3) 9 = .ok (.aload_n 0, 1)) rfl rfl
theorem e3_10 : V 3 10 [l0, l1, some (.int x)] st h Q = V 3 11 [l0, l1, some (.int x)] (.int x :: st) h Q := V_nx (by decide +kernel : decode (p_c 3) 10 = .ok (.iload_n 2, 1)) rfl rfl
theorem e3_11 : V 3 11 L (.int x :: .ref a :: st) h Q = (p_ok1 [0, 1, 2, 7, 10] 1 (p_get h a) ∧ V 3 14 L st (p_set h a (p_fs 1 (.int x) (p_get h a))) Q) := V_pf0 (fin := 1) (ref := "WaterShoulders$Boat") (by decide +kernel : decode (p_c 3) 11 = .ok (.putfield 13, 3)) (by decide +kernel) (by decide +kernel)
theorem e3_14 : V 3 14 L [] h Q = Q none h := V_rv (by decide +kernel : decode (p_c 3) 14 = .ok (.return_, 1)) rfl
theorem m3 : Vm 3 [.ref a, .int x1, .int x2] h Q = V 3 0 [some (.ref a), some (.int x1), some (.int x2)] [] h Q := rfl
theorem e4_0 : V 4 0 L st h Q = V 4 1 L (.int 0 :: st) h Q := V_c (by decide +kernel : decode (p_c 4) 0 = .ok (.iconst 0, 1)) (by decide)
theorem e4_1 : V 4 1 L [.int x] h Q = Q (some (.int x)) h := V_ri (by decide +kernel : decode (p_c 4) 1 = .ok (.ireturn, 1)) rfl
theorem m4 : Vm 4 [.ref a] h Q = V 4 0 [some (.ref a)] [] h Q := rfl
theorem e5_0 : V 5 0 [some (.ref a)] st h Q = V 5 1 [some (.ref a)] (.ref a :: st) h Q := V_nx (by decide +kernel : decode (p_c 5) 0 = .ok (.aload_n 0, 1)) rfl rfl
theorem e5_1 : V 5 1 L (.ref a :: st) h Q = (p_ok1 [0, 1, 2, 7, 10] 0 (p_get h a) ∧ V 5 4 L (p_fv 0 (p_get h a) :: st) h Q) := V_gf (t := (0, 1, "WaterShoulders$Boat")) (by decide +kernel : decode (p_c 5) 1 = .ok (.getfield 7, 3)) (by decide +kernel)
theorem e5_4 : V 5 4 L [.int x] h Q = Q (some (.int x)) h := V_ri (by decide +kernel : decode (p_c 5) 4 = .ok (.ireturn, 1)) rfl
theorem m5 : Vm 5 [.ref a] h Q = V 5 0 [some (.ref a)] [] h Q := rfl
theorem e6_0 : V 6 0 [some (.ref a)] st h Q = V 6 1 [some (.ref a)] (.ref a :: st) h Q := V_nx (by decide +kernel : decode (p_c 6) 0 = .ok (.aload_n 0, 1)) rfl rfl
theorem e6_1 : V 6 1 L (.ref a :: st) h Q = (p_ok1 [0, 1, 2, 7, 10] 1 (p_get h a) ∧ V 6 4 L (p_fv 1 (p_get h a) :: st) h Q) := V_gf (t := (0, 1, "WaterShoulders$Boat")) (by decide +kernel : decode (p_c 6) 1 = .ok (.getfield 13, 3)) (by decide +kernel)
theorem e6_4 : V 6 4 L [.int x] h Q = Q (some (.int x)) h := V_ri (by decide +kernel : decode (p_c 6) 4 = .ok (.ireturn, 1)) rfl
theorem m6 : Vm 6 [.ref a] h Q = V 6 0 [some (.ref a)] [] h Q := rfl
theorem e7_0 : V 7 0 [some (.ref a), l1, l2] st h Q = V 7 1 [some (.ref a), l1, l2] (.ref a :: st) h Q := V_nx (by decide +kernel : decode (p_c 7) 0 = .ok (.aload_n 0, 1)) rfl rfl
theorem e7_1 : V 7 1 [l0, some (.int x), l2] st h Q = V 7 2 [l0, some (.int x), l2] (.int x :: st) h Q := V_nx (by decide +kernel : decode (p_c 7) 1 = .ok (.iload_n 1, 1)) rfl rfl
theorem e7_2 : V 7 2 [l0, l1, some (.int x)] st h Q = V 7 3 [l0, l1, some (.int x)] (.int x :: st) h Q := V_nx (by decide +kernel : decode (p_c 7) 2 = .ok (.iload_n 2, 1)) rfl rfl
theorem e7_3 : V 7 3 L (.int x2 :: .int x1 :: .ref a :: st) h Q = (p_sm st ∧ Vm 3 [.ref a, .int x1, .int x2] h (Kt 7 6 L st Q)) := V_sp (n := 2) (as := [.int x2, .int x1]) (z := 3) (by decide +kernel : decode (p_c 7) 3 = .ok (.invokespecial 1, 3)) (by decide +kernel) rfl (by decide +kernel) rfl
theorem e7_6 : V 7 6 L [] h Q = Q none h := V_rv (by decide +kernel : decode (p_c 7) 6 = .ok (.return_, 1)) rfl
theorem m7 : Vm 7 [.ref a, .int x1, .int x2] h Q = V 7 0 [some (.ref a), some (.int x1), some (.int x2)] [] h Q := rfl
theorem e8_0 : V 8 0 L st h Q = V 8 1 L (.int 3 :: st) h Q := V_c (by decide +kernel : decode (p_c 8) 0 = .ok (.iconst 3, 1)) (by decide)
theorem e8_1 : V 8 1 L [.int x] h Q = Q (some (.int x)) h := V_ri (by decide +kernel : decode (p_c 8) 1 = .ok (.ireturn, 1)) rfl
theorem m8 : Vm 8 [.ref a] h Q = V 8 0 [some (.ref a)] [] h Q := rfl
theorem e9_0 : V 9 0 [some (.ref a)] st h Q = V 9 1 [some (.ref a)] (.ref a :: st) h Q := V_nx (by decide +kernel : decode (p_c 9) 0 = .ok (.aload_n 0, 1)) rfl rfl
theorem e9_1 : V 9 1 L (.ref a :: st) h Q = (p_sm st ∧ V 9 4 L st h Q) := V_oi (by decide +kernel : decode (p_c 9) 1 = .ok (.invokespecial 3, 3)) (by decide +kernel) (by decide +kernel)
theorem e9_4 : V 9 4 [some (.ref a)] st h Q = V 9 5 [some (.ref a)] (.ref a :: st) h Q := V_nx (by decide +kernel : decode (p_c 9) 4 = .ok (.aload_n 0, 1)) rfl rfl
theorem e9_5 : V 9 5 L st h Q = V 9 6 L (.int 4 :: st) h Q := V_c (by decide +kernel : decode (p_c 9) 5 = .ok (.iconst 4, 1)) (by decide)
theorem e9_6 : V 9 6 L (.int 4 :: st) h Q = V 9 8 L (.ref h.1 :: st) (p_new h (.inl (0, 4, .inl (fun _ => 0))) 4) Q := V_nai (by decide +kernel : decode (p_c 9) 6 = .ok (.newarray .int, 2)) (by decide +kernel) (by decide +kernel)
theorem e9_8 : V 9 8 L (.ref b :: .ref a :: st) h Q = (p_ok1 [3] 0 (p_get h a) ∧ V 9 11 L st (p_set h a (p_fs 0 (.ref b) (p_get h a))) Q) := V_pf3 (fin := 1) (ref := "WaterShoulders$Image") (by decide +kernel : decode (p_c 9) 8 = .ok (.putfield 9, 3)) (by decide +kernel) (by decide +kernel)
theorem e9_11 : V 9 11 [some (.ref a)] st h Q = V 9 12 [some (.ref a)] (.ref a :: st) h Q := V_nx (by decide +kernel : decode (p_c 9) 11 = .ok (.aload_n 0, 1)) rfl rfl
theorem e9_12 : V 9 12 L st h Q = V 9 15 L (.ref h.1 :: st) (p_new h (.inr (4, [.null, .int 0, .null, .int 0, .int 0, .null, .null, .null, .int 0])) 9) Q := V_new (ci := 4) (by decide +kernel : decode (p_c 9) 12 = .ok (.new 15, 3)) (by decide +kernel)
theorem e9_15 : V 9 15 L (.ref a :: st) h Q = V 9 16 L (.ref a :: .ref a :: st) h Q := V_dup (by decide +kernel : decode (p_c 9) 15 = .ok (.dup, 1)) rfl
theorem e9_15i : V 9 15 L (.int x :: st) h Q = V 9 16 L (.int x :: .int x :: st) h Q := V_dup (by decide +kernel : decode (p_c 9) 15 = .ok (.dup, 1)) rfl
theorem e9_16 : V 9 16 L (.ref a :: st) h Q = (p_sm st ∧ Vm 12 [.ref a] h (Kt 9 19 L st Q)) := V_sp (n := 0) (as := []) (z := 12) (by decide +kernel : decode (p_c 9) 16 = .ok (.invokespecial 17, 3)) (by decide +kernel) rfl (by decide +kernel) rfl
theorem e9_19 : V 9 19 L (.ref b :: .ref a :: st) h Q = (p_ok1 [3] 1 (p_get h a) ∧ V 9 22 L st (p_set h a (p_fs 1 (.ref b) (p_get h a))) Q) := V_pf3 (fin := 1) (ref := "WaterShoulders$Image") (by decide +kernel : decode (p_c 9) 19 = .ok (.putfield 18, 3)) (by decide +kernel) (by decide +kernel)
theorem e9_22 : V 9 22 [some (.ref a)] st h Q = V 9 23 [some (.ref a)] (.ref a :: st) h Q := V_nx (by decide +kernel : decode (p_c 9) 22 = .ok (.aload_n 0, 1)) rfl rfl
theorem e9_23 : V 9 23 L st h Q = V 9 24 L (.int 5 :: st) h Q := V_c (by decide +kernel : decode (p_c 9) 23 = .ok (.iconst 5, 1)) (by decide)
theorem e9_24 : V 9 24 L (.int 5 :: st) h Q = V 9 26 L (.ref h.1 :: st) (p_new h (.inl (0, 5, .inl (fun _ => 0))) 5) Q := V_nai (by decide +kernel : decode (p_c 9) 24 = .ok (.newarray .int, 2)) (by decide +kernel) (by decide +kernel)
theorem e9_26 : V 9 26 L (.ref b :: .ref a :: st) h Q = (p_ok1 [3] 5 (p_get h a) ∧ V 9 29 L st (p_set h a (p_fs 5 (.ref b) (p_get h a))) Q) := V_pf3 (fin := 1) (ref := "WaterShoulders$Image") (by decide +kernel : decode (p_c 9) 26 = .ok (.putfield 22, 3)) (by decide +kernel) (by decide +kernel)
theorem e9_29 : V 9 29 [some (.ref a)] st h Q = V 9 30 [some (.ref a)] (.ref a :: st) h Q := V_nx (by decide +kernel : decode (p_c 9) 29 = .ok (.aload_n 0, 1)) rfl rfl
theorem e9_30 : V 9 30 L st h Q = V 9 31 L (.int 5 :: st) h Q := V_c (by decide +kernel : decode (p_c 9) 30 = .ok (.iconst 5, 1)) (by decide)
theorem e9_31 : V 9 31 L (.int 5 :: st) h Q = V 9 33 L (.ref h.1 :: st) (p_new h (.inl (0, 5, .inl (fun _ => 0))) 5) Q := V_nai (by decide +kernel : decode (p_c 9) 31 = .ok (.newarray .int, 2)) (by decide +kernel) (by decide +kernel)
theorem e9_33 : V 9 33 L (.ref b :: .ref a :: st) h Q = (p_ok1 [3] 6 (p_get h a) ∧ V 9 36 L st (p_set h a (p_fs 6 (.ref b) (p_get h a))) Q) := V_pf3 (fin := 1) (ref := "WaterShoulders$Image") (by decide +kernel : decode (p_c 9) 33 = .ok (.putfield 25, 3)) (by decide +kernel) (by decide +kernel)
theorem e9_36 : V 9 36 L [] h Q = Q none h := V_rv (by decide +kernel : decode (p_c 9) 36 = .ok (.return_, 1)) rfl
theorem m9 : Vm 9 [.ref a] h Q = V 9 0 [some (.ref a)] [] h Q := rfl
theorem e10_0 : V 10 0 [l0, l1, some (.ref a)] st h Q = V 10 1 [l0, l1, some (.ref a)] (.ref a :: st) h Q := V_nx (by decide +kernel : decode (p_c 10) 0 = .ok (.aload_n 2, 1)) rfl rfl
theorem e10_0n : V 10 0 [l0, l1, some .null] st h Q = V 10 1 [l0, l1, some .null] (.null :: st) h Q := V_nx (by decide +kernel : decode (p_c 10) 0 = .ok (.aload_n 2, 1)) rfl rfl
theorem e10_1 : V 10 1 L (.null :: st) h Q = V 10 33 L st h Q := V_nullN (by decide +kernel : decode (p_c 10) 1 = .ok (.ifnull 32, 3)) (by decide)
theorem e10_1r : V 10 1 L (.ref a :: st) h Q = V 10 4 L st h Q := V_nullR (by decide +kernel : decode (p_c 10) 1 = .ok (.ifnull 32, 3))
theorem e10_4 : V 10 4 [l0, some (.int x), l2] st h Q = V 10 5 [l0, some (.int x), l2] (.int x :: st) h Q := V_nx (by decide +kernel : decode (p_c 10) 4 = .ok (.iload_n 1, 1)) rfl rfl
theorem e10_5 : V 10 5 L (.int x :: st) h Q = if x < 0 then V 10 33 L st h Q else V 10 8 L st h Q := (V_ifc (by decide +kernel : decode (p_c 10) 5 = .ok (.ifCond .lt 28, 3)) (by decide)).trans i_lt
theorem e10_8 : V 10 8 [l0, some (.int x), l2] st h Q = V 10 9 [l0, some (.int x), l2] (.int x :: st) h Q := V_nx (by decide +kernel : decode (p_c 10) 8 = .ok (.iload_n 1, 1)) rfl rfl
theorem e10_9 : V 10 9 L st h Q = V 10 10 L (.int 5 :: st) h Q := V_c (by decide +kernel : decode (p_c 10) 9 = .ok (.iconst 5, 1)) (by decide)
theorem e10_10 : V 10 10 L (.int z :: .int x :: st) h Q = if x < z then V 10 13 L st h Q else V 10 33 L st h Q := (V_icmp (by decide +kernel : decode (p_c 10) 10 = .ok (.if_icmp .ge 23, 3)) (by decide)).trans i_ge
theorem e10_13 : V 10 13 [some (.ref a), l1, l2] st h Q = V 10 14 [some (.ref a), l1, l2] (.ref a :: st) h Q := V_nx (by decide +kernel : decode (p_c 10) 13 = .ok (.aload_n 0, 1)) rfl rfl
theorem e10_14 : V 10 14 L (.ref a :: st) h Q = (p_ok1 [3] 5 (p_get h a) ∧ V 10 17 L (p_fv 5 (p_get h a) :: st) h Q) := V_gf (t := (3, 1, "WaterShoulders$Image")) (by decide +kernel : decode (p_c 10) 14 = .ok (.getfield 22, 3)) (by decide +kernel)
theorem e10_17 : V 10 17 [l0, some (.int x), l2] st h Q = V 10 18 [l0, some (.int x), l2] (.int x :: st) h Q := V_nx (by decide +kernel : decode (p_c 10) 17 = .ok (.iload_n 1, 1)) rfl rfl
theorem e10_18 : V 10 18 [l0, l1, some (.ref a)] st h Q = V 10 19 [l0, l1, some (.ref a)] (.ref a :: st) h Q := V_nx (by decide +kernel : decode (p_c 10) 18 = .ok (.aload_n 2, 1)) rfl rfl
theorem e10_18n : V 10 18 [l0, l1, some .null] st h Q = V 10 19 [l0, l1, some .null] (.null :: st) h Q := V_nx (by decide +kernel : decode (p_c 10) 18 = .ok (.aload_n 2, 1)) rfl rfl
theorem e10_19 : V 10 19 L (.ref a :: st) h Q = (p_ok1 [0, 1, 2, 7, 10] 2 (p_get h a) ∧ V 10 22 L (p_fv 2 (p_get h a) :: st) h Q) := V_gf (t := (0, 0, "WaterShoulders$Boat")) (by decide +kernel : decode (p_c 10) 19 = .ok (.getfield 28, 3)) (by decide +kernel)
theorem e10_22 : V 10 22 L (.int x :: .int i :: .ref a :: st) h Q = (p_sok i (p_get h a) ∧ V 10 23 L st (p_set h a (p_ist i x (p_get h a))) Q) := V_ias (by decide +kernel : decode (p_c 10) 22 = .ok (.iastore, 1))
theorem e10_23 : V 10 23 [some (.ref a), l1, l2] st h Q = V 10 24 [some (.ref a), l1, l2] (.ref a :: st) h Q := V_nx (by decide +kernel : decode (p_c 10) 23 = .ok (.aload_n 0, 1)) rfl rfl
theorem e10_24 : V 10 24 L (.ref a :: st) h Q = (p_ok1 [3] 6 (p_get h a) ∧ V 10 27 L (p_fv 6 (p_get h a) :: st) h Q) := V_gf (t := (3, 1, "WaterShoulders$Image")) (by decide +kernel : decode (p_c 10) 24 = .ok (.getfield 25, 3)) (by decide +kernel)
theorem e10_27 : V 10 27 [l0, some (.int x), l2] st h Q = V 10 28 [l0, some (.int x), l2] (.int x :: st) h Q := V_nx (by decide +kernel : decode (p_c 10) 27 = .ok (.iload_n 1, 1)) rfl rfl
theorem e10_28 : V 10 28 [l0, l1, some (.ref a)] st h Q = V 10 29 [l0, l1, some (.ref a)] (.ref a :: st) h Q := V_nx (by decide +kernel : decode (p_c 10) 28 = .ok (.aload_n 2, 1)) rfl rfl
theorem e10_28n : V 10 28 [l0, l1, some .null] st h Q = V 10 29 [l0, l1, some .null] (.null :: st) h Q := V_nx (by decide +kernel : decode (p_c 10) 28 = .ok (.aload_n 2, 1)) rfl rfl
theorem e10_29 : V 10 29 L (.ref a :: st) h Q = (p_ok1 [0, 1, 2, 7, 10] 3 (p_get h a) ∧ V 10 32 L (p_fv 3 (p_get h a) :: st) h Q) := V_gf (t := (0, 0, "WaterShoulders$Boat")) (by decide +kernel : decode (p_c 10) 29 = .ok (.getfield 34, 3)) (by decide +kernel)
theorem e10_32 : V 10 32 L (.int x :: .int i :: .ref a :: st) h Q = (p_sok i (p_get h a) ∧ V 10 33 L st (p_set h a (p_ist i x (p_get h a))) Q) := V_ias (by decide +kernel : decode (p_c 10) 32 = .ok (.iastore, 1))
theorem e10_33 : V 10 33 L [] h Q = Q none h := V_rv (by decide +kernel : decode (p_c 10) 33 = .ok (.return_, 1)) rfl
theorem m10 : Vm 10 [.ref a, .int x1, .ref b1] h Q = V 10 0 [some (.ref a), some (.int x1), some (.ref b1)] [] h Q := rfl
theorem e11_0 : V 11 0 [l0, l1, some (.ref a)] st h Q = V 11 1 [l0, l1, some (.ref a)] (.ref a :: st) h Q := V_nx (by decide +kernel : decode (p_c 11) 0 = .ok (.aload_n 2, 1)) rfl rfl
theorem e11_0n : V 11 0 [l0, l1, some .null] st h Q = V 11 1 [l0, l1, some .null] (.null :: st) h Q := V_nx (by decide +kernel : decode (p_c 11) 0 = .ok (.aload_n 2, 1)) rfl rfl
theorem e11_1 : V 11 1 L (.null :: st) h Q = V 11 33 L st h Q := V_nullN (by decide +kernel : decode (p_c 11) 1 = .ok (.ifnull 32, 3)) (by decide)
theorem e11_1r : V 11 1 L (.ref a :: st) h Q = V 11 4 L st h Q := V_nullR (by decide +kernel : decode (p_c 11) 1 = .ok (.ifnull 32, 3))
theorem e11_4 : V 11 4 [l0, some (.int x), l2] st h Q = V 11 5 [l0, some (.int x), l2] (.int x :: st) h Q := V_nx (by decide +kernel : decode (p_c 11) 4 = .ok (.iload_n 1, 1)) rfl rfl
theorem e11_5 : V 11 5 L (.int x :: st) h Q = if x < 0 then V 11 33 L st h Q else V 11 8 L st h Q := (V_ifc (by decide +kernel : decode (p_c 11) 5 = .ok (.ifCond .lt 28, 3)) (by decide)).trans i_lt
theorem e11_8 : V 11 8 [l0, some (.int x), l2] st h Q = V 11 9 [l0, some (.int x), l2] (.int x :: st) h Q := V_nx (by decide +kernel : decode (p_c 11) 8 = .ok (.iload_n 1, 1)) rfl rfl
theorem e11_9 : V 11 9 L st h Q = V 11 10 L (.int 5 :: st) h Q := V_c (by decide +kernel : decode (p_c 11) 9 = .ok (.iconst 5, 1)) (by decide)
theorem e11_10 : V 11 10 L (.int z :: .int x :: st) h Q = if x < z then V 11 13 L st h Q else V 11 33 L st h Q := (V_icmp (by decide +kernel : decode (p_c 11) 10 = .ok (.if_icmp .ge 23, 3)) (by decide)).trans i_ge
theorem e11_13 : V 11 13 [l0, l1, some (.ref a)] st h Q = V 11 14 [l0, l1, some (.ref a)] (.ref a :: st) h Q := V_nx (by decide +kernel : decode (p_c 11) 13 = .ok (.aload_n 2, 1)) rfl rfl
theorem e11_13n : V 11 13 [l0, l1, some .null] st h Q = V 11 14 [l0, l1, some .null] (.null :: st) h Q := V_nx (by decide +kernel : decode (p_c 11) 13 = .ok (.aload_n 2, 1)) rfl rfl
theorem e11_14 : V 11 14 [some (.ref a), l1, l2] st h Q = V 11 15 [some (.ref a), l1, l2] (.ref a :: st) h Q := V_nx (by decide +kernel : decode (p_c 11) 14 = .ok (.aload_n 0, 1)) rfl rfl
theorem e11_15 : V 11 15 L (.ref a :: st) h Q = (p_ok1 [3] 5 (p_get h a) ∧ V 11 18 L (p_fv 5 (p_get h a) :: st) h Q) := V_gf (t := (3, 1, "WaterShoulders$Image")) (by decide +kernel : decode (p_c 11) 15 = .ok (.getfield 22, 3)) (by decide +kernel)
theorem e11_18 : V 11 18 [l0, some (.int x), l2] st h Q = V 11 19 [l0, some (.int x), l2] (.int x :: st) h Q := V_nx (by decide +kernel : decode (p_c 11) 18 = .ok (.iload_n 1, 1)) rfl rfl
theorem e11_19 : V 11 19 L (.int i :: .ref a :: st) h Q = (p_iok i (p_get h a) ∧ V 11 20 L (.int (p_ivl i (p_get h a)) :: st) h Q) := V_ial (by decide +kernel : decode (p_c 11) 19 = .ok (.iaload, 1))
theorem e11_20 : V 11 20 L (.int x :: .ref a :: st) h Q = (p_ok1 [0, 1, 2, 7, 10] 2 (p_get h a) ∧ V 11 23 L st (p_set h a (p_fs 2 (.int x) (p_get h a))) Q) := V_pf0 (fin := 0) (ref := "WaterShoulders$Boat") (by decide +kernel : decode (p_c 11) 20 = .ok (.putfield 28, 3)) (by decide +kernel) (by decide +kernel)
theorem e11_23 : V 11 23 [l0, l1, some (.ref a)] st h Q = V 11 24 [l0, l1, some (.ref a)] (.ref a :: st) h Q := V_nx (by decide +kernel : decode (p_c 11) 23 = .ok (.aload_n 2, 1)) rfl rfl
theorem e11_23n : V 11 23 [l0, l1, some .null] st h Q = V 11 24 [l0, l1, some .null] (.null :: st) h Q := V_nx (by decide +kernel : decode (p_c 11) 23 = .ok (.aload_n 2, 1)) rfl rfl
theorem e11_24 : V 11 24 [some (.ref a), l1, l2] st h Q = V 11 25 [some (.ref a), l1, l2] (.ref a :: st) h Q := V_nx (by decide +kernel : decode (p_c 11) 24 = .ok (.aload_n 0, 1)) rfl rfl
theorem e11_25 : V 11 25 L (.ref a :: st) h Q = (p_ok1 [3] 6 (p_get h a) ∧ V 11 28 L (p_fv 6 (p_get h a) :: st) h Q) := V_gf (t := (3, 1, "WaterShoulders$Image")) (by decide +kernel : decode (p_c 11) 25 = .ok (.getfield 25, 3)) (by decide +kernel)
theorem e11_28 : V 11 28 [l0, some (.int x), l2] st h Q = V 11 29 [l0, some (.int x), l2] (.int x :: st) h Q := V_nx (by decide +kernel : decode (p_c 11) 28 = .ok (.iload_n 1, 1)) rfl rfl
theorem e11_29 : V 11 29 L (.int i :: .ref a :: st) h Q = (p_iok i (p_get h a) ∧ V 11 30 L (.int (p_ivl i (p_get h a)) :: st) h Q) := V_ial (by decide +kernel : decode (p_c 11) 29 = .ok (.iaload, 1))
theorem e11_30 : V 11 30 L (.int x :: .ref a :: st) h Q = (p_ok1 [0, 1, 2, 7, 10] 3 (p_get h a) ∧ V 11 33 L st (p_set h a (p_fs 3 (.int x) (p_get h a))) Q) := V_pf0 (fin := 0) (ref := "WaterShoulders$Boat") (by decide +kernel : decode (p_c 11) 30 = .ok (.putfield 34, 3)) (by decide +kernel) (by decide +kernel)
theorem e11_33 : V 11 33 L [] h Q = Q none h := V_rv (by decide +kernel : decode (p_c 11) 33 = .ok (.return_, 1)) rfl
theorem m11 : Vm 11 [.ref a, .int x1, .ref b1] h Q = V 11 0 [some (.ref a), some (.int x1), some (.ref b1)] [] h Q := rfl
theorem e12_0 : V 12 0 [some (.ref a)] st h Q = V 12 1 [some (.ref a)] (.ref a :: st) h Q := V_nx (by decide +kernel : decode (p_c 12) 0 = .ok (.aload_n 0, 1)) rfl rfl
theorem e12_1 : V 12 1 L (.ref a :: st) h Q = (p_sm st ∧ V 12 4 L st h Q) := V_oi (by decide +kernel : decode (p_c 12) 1 = .ok (.invokespecial 3, 3)) (by decide +kernel) (by decide +kernel)
theorem e12_4 : V 12 4 [some (.ref a)] st h Q = V 12 5 [some (.ref a)] (.ref a :: st) h Q := V_nx (by decide +kernel : decode (p_c 12) 4 = .ok (.aload_n 0, 1)) rfl rfl
theorem e12_5 : V 12 5 L st h Q = V 12 7 L (.int 7 :: st) h Q := V_b (by decide +kernel : decode (p_c 12) 5 = .ok (.bipush 7, 2)) (by decide)
theorem e12_7 : V 12 7 L (.int 7 :: st) h Q = V 12 9 L (.ref h.1 :: st) (p_new h (.inl (0, 7, .inl (fun _ => 0))) 7) Q := V_nai (by decide +kernel : decode (p_c 12) 7 = .ok (.newarray .int, 2)) (by decide +kernel) (by decide +kernel)
theorem e12_9 : V 12 9 L (.ref b :: .ref a :: st) h Q = (p_ok1 [4] 0 (p_get h a) ∧ V 12 12 L st (p_set h a (p_fs 0 (.ref b) (p_get h a))) Q) := V_pf3 (fin := 1) (ref := "WaterShoulders$Mud") (by decide +kernel : decode (p_c 12) 9 = .ok (.putfield 11, 3)) (by decide +kernel) (by decide +kernel)
theorem e12_12 : V 12 12 [some (.ref a)] st h Q = V 12 13 [some (.ref a)] (.ref a :: st) h Q := V_nx (by decide +kernel : decode (p_c 12) 12 = .ok (.aload_n 0, 1)) rfl rfl
theorem e12_13 : V 12 13 L st h Q = V 12 14 L (.int 5 :: st) h Q := V_c (by decide +kernel : decode (p_c 12) 13 = .ok (.iconst 5, 1)) (by decide)
theorem e12_14 : V 12 14 L (.int 5 :: st) h Q = V 12 16 L (.ref h.1 :: st) (p_new h (.inl (0, 5, .inl (fun _ => 0))) 5) Q := V_nai (by decide +kernel : decode (p_c 12) 14 = .ok (.newarray .int, 2)) (by decide +kernel) (by decide +kernel)
theorem e12_16 : V 12 16 L (.ref b :: .ref a :: st) h Q = (p_ok1 [4] 2 (p_get h a) ∧ V 12 19 L st (p_set h a (p_fs 2 (.ref b) (p_get h a))) Q) := V_pf3 (fin := 1) (ref := "WaterShoulders$Mud") (by decide +kernel : decode (p_c 12) 16 = .ok (.putfield 15, 3)) (by decide +kernel) (by decide +kernel)
theorem e12_19 : V 12 19 [some (.ref a)] st h Q = V 12 20 [some (.ref a)] (.ref a :: st) h Q := V_nx (by decide +kernel : decode (p_c 12) 19 = .ok (.aload_n 0, 1)) rfl rfl
theorem e12_20 : V 12 20 L st h Q = V 12 22 L (.int 32 :: st) h Q := V_b (by decide +kernel : decode (p_c 12) 20 = .ok (.bipush 32, 2)) (by decide)
theorem e12_22 : V 12 22 L (.int 32 :: st) h Q = V 12 24 L (.ref h.1 :: st) (p_new h (.inl (0, 32, .inl (fun _ => 0))) 32) Q := V_nai (by decide +kernel : decode (p_c 12) 22 = .ok (.newarray .int, 2)) (by decide +kernel) (by decide +kernel)
theorem e12_24 : V 12 24 L (.ref b :: .ref a :: st) h Q = (p_ok1 [4] 5 (p_get h a) ∧ V 12 27 L st (p_set h a (p_fs 5 (.ref b) (p_get h a))) Q) := V_pf3 (fin := 1) (ref := "WaterShoulders$Mud") (by decide +kernel : decode (p_c 12) 24 = .ok (.putfield 18, 3)) (by decide +kernel) (by decide +kernel)
theorem e12_27 : V 12 27 [some (.ref a)] st h Q = V 12 28 [some (.ref a)] (.ref a :: st) h Q := V_nx (by decide +kernel : decode (p_c 12) 27 = .ok (.aload_n 0, 1)) rfl rfl
theorem e12_28 : V 12 28 L st h Q = V 12 30 L (.int 32 :: st) h Q := V_b (by decide +kernel : decode (p_c 12) 28 = .ok (.bipush 32, 2)) (by decide)
theorem e12_30 : V 12 30 L (.int 32 :: st) h Q = V 12 32 L (.ref h.1 :: st) (p_new h (.inl (0, 32, .inl (fun _ => 0))) 32) Q := V_nai (by decide +kernel : decode (p_c 12) 30 = .ok (.newarray .int, 2)) (by decide +kernel) (by decide +kernel)
theorem e12_32 : V 12 32 L (.ref b :: .ref a :: st) h Q = (p_ok1 [4] 6 (p_get h a) ∧ V 12 35 L st (p_set h a (p_fs 6 (.ref b) (p_get h a))) Q) := V_pf3 (fin := 1) (ref := "WaterShoulders$Mud") (by decide +kernel : decode (p_c 12) 32 = .ok (.putfield 21, 3)) (by decide +kernel) (by decide +kernel)
theorem e12_35 : V 12 35 [some (.ref a)] st h Q = V 12 36 [some (.ref a)] (.ref a :: st) h Q := V_nx (by decide +kernel : decode (p_c 12) 35 = .ok (.aload_n 0, 1)) rfl rfl
theorem e12_36 : V 12 36 L st h Q = V 12 38 L (.int 32 :: st) h Q := V_b (by decide +kernel : decode (p_c 12) 36 = .ok (.bipush 32, 2)) (by decide)
theorem e12_38 : V 12 38 L (.int 32 :: st) h Q = V 12 40 L (.ref h.1 :: st) (p_new h (.inl (0, 32, .inl (fun _ => 0))) 32) Q := V_nai (by decide +kernel : decode (p_c 12) 38 = .ok (.newarray .int, 2)) (by decide +kernel) (by decide +kernel)
theorem e12_40 : V 12 40 L (.ref b :: .ref a :: st) h Q = (p_ok1 [4] 7 (p_get h a) ∧ V 12 43 L st (p_set h a (p_fs 7 (.ref b) (p_get h a))) Q) := V_pf3 (fin := 1) (ref := "WaterShoulders$Mud") (by decide +kernel : decode (p_c 12) 40 = .ok (.putfield 24, 3)) (by decide +kernel) (by decide +kernel)
theorem e12_43 : V 12 43 L [] h Q = Q none h := V_rv (by decide +kernel : decode (p_c 12) 43 = .ok (.return_, 1)) rfl
theorem m12 : Vm 12 [.ref a] h Q = V 12 0 [some (.ref a)] [] h Q := rfl
theorem e13_0 : V 13 0 [some (.ref a)] st h Q = V 13 1 [some (.ref a)] (.ref a :: st) h Q := V_nx (by decide +kernel : decode (p_c 13) 0 = .ok (.aload_n 0, 1)) rfl rfl
theorem e13_1 : V 13 1 L (.ref a :: st) h Q = (p_ok1 [4] 3 (p_get h a) ∧ V 13 4 L (p_fv 3 (p_get h a) :: st) h Q) := V_gf (t := (0, 0, "WaterShoulders$Mud")) (by decide +kernel : decode (p_c 13) 1 = .ok (.getfield 27, 3)) (by decide +kernel)
theorem e13_4 : V 13 4 L (.int x :: st) h Q = if 0 < x then V 13 7 L st h Q else V 13 11 L st h Q := (V_ifc (by decide +kernel : decode (p_c 13) 4 = .ok (.ifCond .le 7, 3)) (by decide)).trans i_le
theorem e13_7 : V 13 7 L st h Q = V 13 8 L (.int 1 :: st) h Q := V_c (by decide +kernel : decode (p_c 13) 7 = .ok (.iconst 1, 1)) (by decide)
theorem e13_8 : V 13 8 L st h Q = V 13 12 L st h Q := V_goto (by decide +kernel : decode (p_c 13) 8 = .ok (.goto 4, 3)) (by decide)
theorem e13_11 : V 13 11 L st h Q = V 13 12 L (.int 0 :: st) h Q := V_c (by decide +kernel : decode (p_c 13) 11 = .ok (.iconst 0, 1)) (by decide)
theorem e13_12 : V 13 12 L [.int x] h Q = ((x = 0 ∨ x = 1) ∧ Q (some (.int x)) h) := V_rz (by decide +kernel : decode (p_c 13) 12 = .ok (.ireturn, 1)) rfl
theorem m13 : Vm 13 [.ref a] h Q = V 13 0 [some (.ref a)] [] h Q := rfl
theorem e14_0 : V 14 0 [some (.ref a)] st h Q = V 14 1 [some (.ref a)] (.ref a :: st) h Q := V_nx (by decide +kernel : decode (p_c 14) 0 = .ok (.aload_n 0, 1)) rfl rfl
theorem e14_1 : V 14 1 L st h Q = V 14 2 L (.int 0 :: st) h Q := V_c (by decide +kernel : decode (p_c 14) 1 = .ok (.iconst 0, 1)) (by decide)
theorem e14_2 : V 14 2 L (.int x :: .ref a :: st) h Q = (p_ok1 [4] 3 (p_get h a) ∧ V 14 5 L st (p_set h a (p_fs 3 (.int x) (p_get h a))) Q) := V_pf0 (fin := 0) (ref := "WaterShoulders$Mud") (by decide +kernel : decode (p_c 14) 2 = .ok (.putfield 27, 3)) (by decide +kernel) (by decide +kernel)
theorem e14_5 : V 14 5 [some (.ref a)] st h Q = V 14 6 [some (.ref a)] (.ref a :: st) h Q := V_nx (by decide +kernel : decode (p_c 14) 5 = .ok (.aload_n 0, 1)) rfl rfl
theorem e14_6 : V 14 6 L st h Q = V 14 7 L (.int 0 :: st) h Q := V_c (by decide +kernel : decode (p_c 14) 6 = .ok (.iconst 0, 1)) (by decide)
theorem e14_7 : V 14 7 L (.int x :: .ref a :: st) h Q = (p_ok1 [4] 4 (p_get h a) ∧ V 14 10 L st (p_set h a (p_fs 4 (.int x) (p_get h a))) Q) := V_pf0 (fin := 0) (ref := "WaterShoulders$Mud") (by decide +kernel : decode (p_c 14) 7 = .ok (.putfield 31, 3)) (by decide +kernel) (by decide +kernel)
theorem e14_10 : V 14 10 [some (.ref a)] st h Q = V 14 11 [some (.ref a)] (.ref a :: st) h Q := V_nx (by decide +kernel : decode (p_c 14) 10 = .ok (.aload_n 0, 1)) rfl rfl
theorem e14_11 : V 14 11 L st h Q = V 14 12 L (.int 0 :: st) h Q := V_c (by decide +kernel : decode (p_c 14) 11 = .ok (.iconst 0, 1)) (by decide)
theorem e14_12 : V 14 12 L (.int x :: .ref a :: st) h Q = (p_ok1 [4] 1 (p_get h a) ∧ V 14 15 L st (p_set h a (p_fs 1 (.int x) (p_get h a))) Q) := V_pf0 (fin := 0) (ref := "WaterShoulders$Mud") (by decide +kernel : decode (p_c 14) 12 = .ok (.putfield 34, 3)) (by decide +kernel) (by decide +kernel)
theorem e14_15 : V 14 15 L [] h Q = Q none h := V_rv (by decide +kernel : decode (p_c 14) 15 = .ok (.return_, 1)) rfl
theorem m14 : Vm 14 [.ref a] h Q = V 14 0 [some (.ref a)] [] h Q := rfl
theorem e15_0 : V 15 0 [some (.ref a), l1, l2] st h Q = V 15 1 [some (.ref a), l1, l2] (.ref a :: st) h Q := V_nx (by decide +kernel : decode (p_c 15) 0 = .ok (.aload_n 0, 1)) rfl rfl
theorem e15_1 : V 15 1 [l0, some (.int x), l2] st h Q = V 15 2 [l0, some (.int x), l2] (.int x :: st) h Q := V_nx (by decide +kernel : decode (p_c 15) 1 = .ok (.iload_n 1, 1)) rfl rfl
theorem e15_2 : V 15 2 L (.int x :: .ref a :: st) h Q = (p_ok1 [4] 3 (p_get h a) ∧ V 15 5 L st (p_set h a (p_fs 3 (.int x) (p_get h a))) Q) := V_pf0 (fin := 0) (ref := "WaterShoulders$Mud") (by decide +kernel : decode (p_c 15) 2 = .ok (.putfield 27, 3)) (by decide +kernel) (by decide +kernel)
theorem e15_5 : V 15 5 [some (.ref a), l1, l2] st h Q = V 15 6 [some (.ref a), l1, l2] (.ref a :: st) h Q := V_nx (by decide +kernel : decode (p_c 15) 5 = .ok (.aload_n 0, 1)) rfl rfl
theorem e15_6 : V 15 6 [l0, l1, some (.int x)] st h Q = V 15 7 [l0, l1, some (.int x)] (.int x :: st) h Q := V_nx (by decide +kernel : decode (p_c 15) 6 = .ok (.iload_n 2, 1)) rfl rfl
theorem e15_7 : V 15 7 L (.int x :: .ref a :: st) h Q = (p_ok1 [4] 4 (p_get h a) ∧ V 15 10 L st (p_set h a (p_fs 4 (.int x) (p_get h a))) Q) := V_pf0 (fin := 0) (ref := "WaterShoulders$Mud") (by decide +kernel : decode (p_c 15) 7 = .ok (.putfield 31, 3)) (by decide +kernel) (by decide +kernel)
theorem e15_10 : V 15 10 [some (.ref a), l1, l2] st h Q = V 15 11 [some (.ref a), l1, l2] (.ref a :: st) h Q := V_nx (by decide +kernel : decode (p_c 15) 10 = .ok (.aload_n 0, 1)) rfl rfl
theorem e15_11 : V 15 11 L st h Q = V 15 12 L (.int 0 :: st) h Q := V_c (by decide +kernel : decode (p_c 15) 11 = .ok (.iconst 0, 1)) (by decide)
theorem e15_12 : V 15 12 L (.int x :: .ref a :: st) h Q = (p_ok1 [4] 1 (p_get h a) ∧ V 15 15 L st (p_set h a (p_fs 1 (.int x) (p_get h a))) Q) := V_pf0 (fin := 0) (ref := "WaterShoulders$Mud") (by decide +kernel : decode (p_c 15) 12 = .ok (.putfield 34, 3)) (by decide +kernel) (by decide +kernel)
theorem e15_15 : V 15 15 L [] h Q = Q none h := V_rv (by decide +kernel : decode (p_c 15) 15 = .ok (.return_, 1)) rfl
theorem m15 : Vm 15 [.ref a, .int x1, .int x2] h Q = V 15 0 [some (.ref a), some (.int x1), some (.int x2)] [] h Q := rfl
theorem e16_0 : V 16 0 [some (.ref a), l1] st h Q = V 16 1 [some (.ref a), l1] (.ref a :: st) h Q := V_nx (by decide +kernel : decode (p_c 16) 0 = .ok (.aload_n 0, 1)) rfl rfl
theorem e16_1 : V 16 1 [l0, some (.ref a)] st h Q = V 16 2 [l0, some (.ref a)] (.ref a :: st) h Q := V_nx (by decide +kernel : decode (p_c 16) 1 = .ok (.aload_n 1, 1)) rfl rfl
theorem e16_1n : V 16 1 [l0, some .null] st h Q = V 16 2 [l0, some .null] (.null :: st) h Q := V_nx (by decide +kernel : decode (p_c 16) 1 = .ok (.aload_n 1, 1)) rfl rfl
theorem e16_2 : V 16 2 L (.ref a :: st) h Q = (p_ok1 [4] 3 (p_get h a) ∧ V 16 5 L (p_fv 3 (p_get h a) :: st) h Q) := V_gf (t := (0, 0, "WaterShoulders$Mud")) (by decide +kernel : decode (p_c 16) 2 = .ok (.getfield 27, 3)) (by decide +kernel)
theorem e16_5 : V 16 5 L (.int x :: .ref a :: st) h Q = (p_ok1 [4] 3 (p_get h a) ∧ V 16 8 L st (p_set h a (p_fs 3 (.int x) (p_get h a))) Q) := V_pf0 (fin := 0) (ref := "WaterShoulders$Mud") (by decide +kernel : decode (p_c 16) 5 = .ok (.putfield 27, 3)) (by decide +kernel) (by decide +kernel)
theorem e16_8 : V 16 8 [some (.ref a), l1] st h Q = V 16 9 [some (.ref a), l1] (.ref a :: st) h Q := V_nx (by decide +kernel : decode (p_c 16) 8 = .ok (.aload_n 0, 1)) rfl rfl
theorem e16_9 : V 16 9 [l0, some (.ref a)] st h Q = V 16 10 [l0, some (.ref a)] (.ref a :: st) h Q := V_nx (by decide +kernel : decode (p_c 16) 9 = .ok (.aload_n 1, 1)) rfl rfl
theorem e16_9n : V 16 9 [l0, some .null] st h Q = V 16 10 [l0, some .null] (.null :: st) h Q := V_nx (by decide +kernel : decode (p_c 16) 9 = .ok (.aload_n 1, 1)) rfl rfl
theorem e16_10 : V 16 10 L (.ref a :: st) h Q = (p_ok1 [4] 4 (p_get h a) ∧ V 16 13 L (p_fv 4 (p_get h a) :: st) h Q) := V_gf (t := (0, 0, "WaterShoulders$Mud")) (by decide +kernel : decode (p_c 16) 10 = .ok (.getfield 31, 3)) (by decide +kernel)
theorem e16_13 : V 16 13 L (.int x :: .ref a :: st) h Q = (p_ok1 [4] 4 (p_get h a) ∧ V 16 16 L st (p_set h a (p_fs 4 (.int x) (p_get h a))) Q) := V_pf0 (fin := 0) (ref := "WaterShoulders$Mud") (by decide +kernel : decode (p_c 16) 13 = .ok (.putfield 31, 3)) (by decide +kernel) (by decide +kernel)
theorem e16_16 : V 16 16 [some (.ref a), l1] st h Q = V 16 17 [some (.ref a), l1] (.ref a :: st) h Q := V_nx (by decide +kernel : decode (p_c 16) 16 = .ok (.aload_n 0, 1)) rfl rfl
theorem e16_17 : V 16 17 [l0, some (.ref a)] st h Q = V 16 18 [l0, some (.ref a)] (.ref a :: st) h Q := V_nx (by decide +kernel : decode (p_c 16) 17 = .ok (.aload_n 1, 1)) rfl rfl
theorem e16_17n : V 16 17 [l0, some .null] st h Q = V 16 18 [l0, some .null] (.null :: st) h Q := V_nx (by decide +kernel : decode (p_c 16) 17 = .ok (.aload_n 1, 1)) rfl rfl
theorem e16_18 : V 16 18 L (.ref a :: st) h Q = (p_ok1 [4] 1 (p_get h a) ∧ V 16 21 L (p_fv 1 (p_get h a) :: st) h Q) := V_gf (t := (0, 0, "WaterShoulders$Mud")) (by decide +kernel : decode (p_c 16) 18 = .ok (.getfield 34, 3)) (by decide +kernel)
theorem e16_21 : V 16 21 L (.int x :: .ref a :: st) h Q = (p_ok1 [4] 1 (p_get h a) ∧ V 16 24 L st (p_set h a (p_fs 1 (.int x) (p_get h a))) Q) := V_pf0 (fin := 0) (ref := "WaterShoulders$Mud") (by decide +kernel : decode (p_c 16) 21 = .ok (.putfield 34, 3)) (by decide +kernel) (by decide +kernel)
theorem e16_24 : V 16 24 [l0, some (.ref a)] st h Q = V 16 25 [l0, some (.ref a)] (.ref a :: st) h Q := V_nx (by decide +kernel : decode (p_c 16) 24 = .ok (.aload_n 1, 1)) rfl rfl
theorem e16_24n : V 16 24 [l0, some .null] st h Q = V 16 25 [l0, some .null] (.null :: st) h Q := V_nx (by decide +kernel : decode (p_c 16) 24 = .ok (.aload_n 1, 1)) rfl rfl
theorem e16_25 : V 16 25 L (.ref a :: st) h Q = (p_ok1 [4] 0 (p_get h a) ∧ V 16 28 L (p_fv 0 (p_get h a) :: st) h Q) := V_gf (t := (3, 1, "WaterShoulders$Mud")) (by decide +kernel : decode (p_c 16) 25 = .ok (.getfield 11, 3)) (by decide +kernel)
theorem e16_28 : V 16 28 L st h Q = V 16 29 L (.int 0 :: st) h Q := V_c (by decide +kernel : decode (p_c 16) 28 = .ok (.iconst 0, 1)) (by decide)
theorem e16_29 : V 16 29 [some (.ref a), l1] st h Q = V 16 30 [some (.ref a), l1] (.ref a :: st) h Q := V_nx (by decide +kernel : decode (p_c 16) 29 = .ok (.aload_n 0, 1)) rfl rfl
theorem e16_30 : V 16 30 L (.ref a :: st) h Q = (p_ok1 [4] 0 (p_get h a) ∧ V 16 33 L (p_fv 0 (p_get h a) :: st) h Q) := V_gf (t := (3, 1, "WaterShoulders$Mud")) (by decide +kernel : decode (p_c 16) 30 = .ok (.getfield 11, 3)) (by decide +kernel)
theorem e16_33 : V 16 33 L st h Q = V 16 34 L (.int 0 :: st) h Q := V_c (by decide +kernel : decode (p_c 16) 33 = .ok (.iconst 0, 1)) (by decide)
theorem e16_34 : V 16 34 L st h Q = V 16 36 L (.int 7 :: st) h Q := V_b (by decide +kernel : decode (p_c 16) 34 = .ok (.bipush 7, 2)) (by decide)
theorem e16_36 : V 16 36 L (.int x3 :: .int x2 :: .ref b :: .int x1 :: .ref a :: st) h Q = ((p_sm st ∧ p_aci x1 x2 x3 (p_get h a) (p_get h b)) ∧ V 16 39 L st (p_set h b (p_acv x1 x2 x3 (p_get h a) (p_get h b))) Q) := V_ac (by decide +kernel : decode (p_c 16) 36 = .ok (.invokestatic 37, 3)) (by decide +kernel) (by decide +kernel) (by decide +kernel) (by decide +kernel)
theorem e16_39 : V 16 39 L [] h Q = Q none h := V_rv (by decide +kernel : decode (p_c 16) 39 = .ok (.return_, 1)) rfl
theorem m16 : Vm 16 [.ref a, .ref b1] h Q = V 16 0 [some (.ref a), some (.ref b1)] [] h Q := rfl
theorem e17_0 : V 17 0 [some (.ref a), l1, l2, l3, l4] st h Q = V 17 1 [some (.ref a), l1, l2, l3, l4] (.ref a :: st) h Q := V_nx (by decide +kernel : decode (p_c 17) 0 = .ok (.aload_n 0, 1)) rfl rfl
theorem e17_1 : V 17 1 L (.ref a :: st) h Q = ((p_cn1 (p_get h a) = 4 ∧ p_sm st) ∧ Vm 18 [.ref a] h (Kt 17 4 L st Q)) := V_iv (n := 0) (as := []) (ci := 4) (z := 18) (by decide +kernel : decode (p_c 17) 1 = .ok (.invokevirtual 43, 3)) (by decide +kernel) rfl rfl (by decide +kernel) rfl
theorem e17_4 : V 17 4 [some (.ref a), l1, l2, l3, l4] st h Q = V 17 5 [some (.ref a), l1, l2, l3, l4] (.ref a :: st) h Q := V_nx (by decide +kernel : decode (p_c 17) 4 = .ok (.aload_n 0, 1)) rfl rfl
theorem e17_5 : V 17 5 L (.ref a :: st) h Q = (p_ok1 [4] 6 (p_get h a) ∧ V 17 8 L (p_fv 6 (p_get h a) :: st) h Q) := V_gf (t := (3, 1, "WaterShoulders$Mud")) (by decide +kernel : decode (p_c 17) 5 = .ok (.getfield 21, 3)) (by decide +kernel)
theorem e17_8 : V 17 8 L st h Q = V 17 9 L (.int 0 :: st) h Q := V_c (by decide +kernel : decode (p_c 17) 8 = .ok (.iconst 0, 1)) (by decide)
theorem e17_9 : V 17 9 L (.int x1 :: .ref b1 :: st) h Q = (p_sm st ∧ Vm 169 [.ref b1, .int x1] h (Kt 17 12 L st Q)) := V_st (n := 2) (as := [.int x1, .ref b1]) (z := 169) (by decide +kernel : decode (p_c 17) 9 = .ok (.invokestatic 46, 3)) (by decide +kernel) rfl (by decide +kernel) rfl
theorem e17_12 : V 17 12 [some (.ref a), l1, l2, l3, l4] st h Q = V 17 13 [some (.ref a), l1, l2, l3, l4] (.ref a :: st) h Q := V_nx (by decide +kernel : decode (p_c 17) 12 = .ok (.aload_n 0, 1)) rfl rfl
theorem e17_13 : V 17 13 L (.ref a :: st) h Q = (p_ok1 [4] 7 (p_get h a) ∧ V 17 16 L (p_fv 7 (p_get h a) :: st) h Q) := V_gf (t := (3, 1, "WaterShoulders$Mud")) (by decide +kernel : decode (p_c 17) 13 = .ok (.getfield 24, 3)) (by decide +kernel)
theorem e17_16 : V 17 16 L st h Q = V 17 17 L (.int 0 :: st) h Q := V_c (by decide +kernel : decode (p_c 17) 16 = .ok (.iconst 0, 1)) (by decide)
theorem e17_17 : V 17 17 L (.int x1 :: .ref b1 :: st) h Q = (p_sm st ∧ Vm 169 [.ref b1, .int x1] h (Kt 17 20 L st Q)) := V_st (n := 2) (as := [.int x1, .ref b1]) (z := 169) (by decide +kernel : decode (p_c 17) 17 = .ok (.invokestatic 46, 3)) (by decide +kernel) rfl (by decide +kernel) rfl
theorem e17_20 : V 17 20 [some (.ref a), l1, l2, l3, l4] st h Q = V 17 21 [some (.ref a), l1, l2, l3, l4] (.ref a :: st) h Q := V_nx (by decide +kernel : decode (p_c 17) 20 = .ok (.aload_n 0, 1)) rfl rfl
theorem e17_21 : V 17 21 L (.ref a :: st) h Q = (p_ok1 [4] 6 (p_get h a) ∧ V 17 24 L (p_fv 6 (p_get h a) :: st) h Q) := V_gf (t := (3, 1, "WaterShoulders$Mud")) (by decide +kernel : decode (p_c 17) 21 = .ok (.getfield 21, 3)) (by decide +kernel)
theorem e17_24 : V 17 24 L st h Q = V 17 25 L (.int 0 :: st) h Q := V_c (by decide +kernel : decode (p_c 17) 24 = .ok (.iconst 0, 1)) (by decide)
theorem e17_25 : V 17 25 L st h Q = V 17 26 L (.int 1 :: st) h Q := V_c (by decide +kernel : decode (p_c 17) 25 = .ok (.iconst 1, 1)) (by decide)
theorem e17_26 : V 17 26 L (.int x :: .int i :: .ref a :: st) h Q = (p_sok i (p_get h a) ∧ V 17 27 L st (p_set h a (p_ist i x (p_get h a))) Q) := V_ias (by decide +kernel : decode (p_c 17) 26 = .ok (.iastore, 1))
theorem e17_27 : V 17 27 [some (.ref a), l1, l2, l3, l4] st h Q = V 17 28 [some (.ref a), l1, l2, l3, l4] (.ref a :: st) h Q := V_nx (by decide +kernel : decode (p_c 17) 27 = .ok (.aload_n 0, 1)) rfl rfl
theorem e17_28 : V 17 28 L (.ref a :: st) h Q = (p_ok1 [4] 7 (p_get h a) ∧ V 17 31 L (p_fv 7 (p_get h a) :: st) h Q) := V_gf (t := (3, 1, "WaterShoulders$Mud")) (by decide +kernel : decode (p_c 17) 28 = .ok (.getfield 24, 3)) (by decide +kernel)
theorem e17_31 : V 17 31 L st h Q = V 17 32 L (.int 0 :: st) h Q := V_c (by decide +kernel : decode (p_c 17) 31 = .ok (.iconst 0, 1)) (by decide)
theorem e17_32 : V 17 32 L st h Q = V 17 33 L (.int 1 :: st) h Q := V_c (by decide +kernel : decode (p_c 17) 32 = .ok (.iconst 1, 1)) (by decide)
theorem e17_33 : V 17 33 L (.int x :: .int i :: .ref a :: st) h Q = (p_sok i (p_get h a) ∧ V 17 34 L st (p_set h a (p_ist i x (p_get h a))) Q) := V_ias (by decide +kernel : decode (p_c 17) 33 = .ok (.iastore, 1))
theorem e17_34 : V 17 34 [some (.ref a), l1, l2, l3, l4] st h Q = V 17 35 [some (.ref a), l1, l2, l3, l4] (.ref a :: st) h Q := V_nx (by decide +kernel : decode (p_c 17) 34 = .ok (.aload_n 0, 1)) rfl rfl
theorem e17_35 : V 17 35 L (.ref a :: st) h Q = (p_ok1 [4] 4 (p_get h a) ∧ V 17 38 L (p_fv 4 (p_get h a) :: st) h Q) := V_gf (t := (0, 0, "WaterShoulders$Mud")) (by decide +kernel : decode (p_c 17) 35 = .ok (.getfield 31, 3)) (by decide +kernel)
theorem e17_38 : V 17 38 [l0, l1, l2, l3, l4] (.int x :: st) h Q = V 17 39 [l0, l1, p_dl l2, some (.int x), l4] st h Q := V_nx (by decide +kernel : decode (p_c 17) 38 = .ok (.istore_n 3, 1)) rfl rfl
theorem e17_39 : V 17 39 L st h Q = V 17 40 L (.int 0 :: st) h Q := V_c (by decide +kernel : decode (p_c 17) 39 = .ok (.iconst 0, 1)) (by decide)
theorem e17_40 : V 17 40 [l0, l1, l2, l3, l4] (.int x :: st) h Q = V 17 42 [l0, l1, l2, p_dl l3, some (.int x)] st h Q := V_nx (by decide +kernel : decode (p_c 17) 40 = .ok (.istore 4, 2)) rfl rfl
theorem e17_42 : V 17 42 [l0, l1, l2, l3, some (.int x)] st h Q = V 17 44 [l0, l1, l2, l3, some (.int x)] (.int x :: st) h Q := V_nx (by decide +kernel : decode (p_c 17) 42 = .ok (.iload 4, 2)) rfl rfl
theorem e17_44 : V 17 44 [some (.ref a), l1, l2, l3, l4] st h Q = V 17 45 [some (.ref a), l1, l2, l3, l4] (.ref a :: st) h Q := V_nx (by decide +kernel : decode (p_c 17) 44 = .ok (.aload_n 0, 1)) rfl rfl
theorem e17_45 : V 17 45 L (.ref a :: st) h Q = (p_ok1 [4] 1 (p_get h a) ∧ V 17 48 L (p_fv 1 (p_get h a) :: st) h Q) := V_gf (t := (0, 0, "WaterShoulders$Mud")) (by decide +kernel : decode (p_c 17) 45 = .ok (.getfield 34, 3)) (by decide +kernel)
theorem e17_48 : V 17 48 L (.int z :: .int x :: st) h Q = if x < z then V 17 51 L st h Q else V 17 96 L st h Q := (V_icmp (by decide +kernel : decode (p_c 17) 48 = .ok (.if_icmp .ge 48, 3)) (by decide)).trans i_ge
theorem e17_51 : V 17 51 [l0, l1, l2, l3, some (.int x)] st h Q = V 17 53 [l0, l1, l2, l3, some (.int x)] (.int x :: st) h Q := V_nx (by decide +kernel : decode (p_c 17) 51 = .ok (.iload 4, 2)) rfl rfl
theorem e17_53 : V 17 53 L st h Q = V 17 55 L (.int 7 :: st) h Q := V_b (by decide +kernel : decode (p_c 17) 53 = .ok (.bipush 7, 2)) (by decide)
theorem e17_55 : V 17 55 L (.int z :: .int x :: st) h Q = if x < z then V 17 58 L st h Q else V 17 96 L st h Q := (V_icmp (by decide +kernel : decode (p_c 17) 55 = .ok (.if_icmp .ge 41, 3)) (by decide)).trans i_ge
theorem e17_58 : V 17 58 [some (.ref a), l1, l2, l3, l4] st h Q = V 17 59 [some (.ref a), l1, l2, l3, l4] (.ref a :: st) h Q := V_nx (by decide +kernel : decode (p_c 17) 58 = .ok (.aload_n 0, 1)) rfl rfl
theorem e17_59 : V 17 59 [some (.ref a), l1, l2, l3, l4] st h Q = V 17 60 [some (.ref a), l1, l2, l3, l4] (.ref a :: st) h Q := V_nx (by decide +kernel : decode (p_c 17) 59 = .ok (.aload_n 0, 1)) rfl rfl
theorem e17_60 : V 17 60 [l0, some (.ref a), l2, l3, l4] st h Q = V 17 61 [l0, some (.ref a), l2, l3, l4] (.ref a :: st) h Q := V_nx (by decide +kernel : decode (p_c 17) 60 = .ok (.aload_n 1, 1)) rfl rfl
theorem e17_60n : V 17 60 [l0, some .null, l2, l3, l4] st h Q = V 17 61 [l0, some .null, l2, l3, l4] (.null :: st) h Q := V_nx (by decide +kernel : decode (p_c 17) 60 = .ok (.aload_n 1, 1)) rfl rfl
theorem e17_61 : V 17 61 [l0, l1, l2, some (.int x), l4] st h Q = V 17 62 [l0, l1, l2, some (.int x), l4] (.int x :: st) h Q := V_nx (by decide +kernel : decode (p_c 17) 61 = .ok (.iload_n 3, 1)) rfl rfl
theorem e17_62 : V 17 62 [some (.ref a), l1, l2, l3, l4] st h Q = V 17 63 [some (.ref a), l1, l2, l3, l4] (.ref a :: st) h Q := V_nx (by decide +kernel : decode (p_c 17) 62 = .ok (.aload_n 0, 1)) rfl rfl
theorem e17_63 : V 17 63 L (.ref a :: st) h Q = (p_ok1 [4] 0 (p_get h a) ∧ V 17 66 L (p_fv 0 (p_get h a) :: st) h Q) := V_gf (t := (3, 1, "WaterShoulders$Mud")) (by decide +kernel : decode (p_c 17) 63 = .ok (.getfield 11, 3)) (by decide +kernel)
theorem e17_66 : V 17 66 [l0, l1, l2, l3, some (.int x)] st h Q = V 17 68 [l0, l1, l2, l3, some (.int x)] (.int x :: st) h Q := V_nx (by decide +kernel : decode (p_c 17) 66 = .ok (.iload 4, 2)) rfl rfl
theorem e17_68 : V 17 68 L (.int i :: .ref a :: st) h Q = (p_iok i (p_get h a) ∧ V 17 69 L (.int (p_ivl i (p_get h a)) :: st) h Q) := V_ial (by decide +kernel : decode (p_c 17) 68 = .ok (.iaload, 1))
theorem e17_69 : V 17 69 L (.int x2 :: .int x1 :: .ref b1 :: .ref a :: st) h Q = ((p_cn1 (p_get h a) = 4 ∧ p_sm st) ∧ Vm 19 [.ref a, .ref b1, .int x1, .int x2] h (Kt 17 72 L st Q)) := V_iv (n := 3) (as := [.int x2, .int x1, .ref b1]) (ci := 4) (z := 19) (by decide +kernel : decode (p_c 17) 69 = .ok (.invokevirtual 52, 3)) (by decide +kernel) rfl rfl (by decide +kernel) rfl
theorem e17_72 : V 17 72 [l0, l1, some (.int x), l3, l4] st h Q = V 17 73 [l0, l1, some (.int x), l3, l4] (.int x :: st) h Q := V_nx (by decide +kernel : decode (p_c 17) 72 = .ok (.iload_n 2, 1)) rfl rfl
theorem e17_73 : V 17 73 L st h Q = V 17 74 L (.int 1 :: st) h Q := V_c (by decide +kernel : decode (p_c 17) 73 = .ok (.iconst 1, 1)) (by decide)
theorem e17_74 : V 17 74 [l0, l1, l2, l3, some (.int x)] st h Q = V 17 76 [l0, l1, l2, l3, some (.int x)] (.int x :: st) h Q := V_nx (by decide +kernel : decode (p_c 17) 74 = .ok (.iload 4, 2)) rfl rfl
theorem e17_76 : V 17 76 L st h Q = V 17 77 L (.int 1 :: st) h Q := V_c (by decide +kernel : decode (p_c 17) 76 = .ok (.iconst 1, 1)) (by decide)
theorem e17_77 : V 17 77 L (.int z :: .int x :: st) h Q = V 17 78 L (.int (x + z) :: st) h Q := V_nx (by decide +kernel : decode (p_c 17) 77 = .ok (.iadd, 1)) rfl rfl
theorem e17_78 : V 17 78 L (.int z :: .int x :: st) h Q = V 17 79 L (.int (x <<< (z &&& 31)) :: st) h Q := V_nx (by decide +kernel : decode (p_c 17) 78 = .ok (.ishl, 1)) rfl rfl
theorem e17_79 : V 17 79 L (.int x3 :: .int x2 :: .int x1 :: .ref a :: st) h Q = ((p_cn1 (p_get h a) = 4 ∧ p_sm st) ∧ Vm 20 [.ref a, .int x1, .int x2, .int x3] h (Kt 17 82 L st Q)) := V_iv (n := 3) (as := [.int x3, .int x2, .int x1]) (ci := 4) (z := 20) (by decide +kernel : decode (p_c 17) 79 = .ok (.invokevirtual 56, 3)) (by decide +kernel) rfl rfl (by decide +kernel) rfl
theorem e17_82 : V 17 82 [some (.ref a), l1, l2, l3, l4] st h Q = V 17 83 [some (.ref a), l1, l2, l3, l4] (.ref a :: st) h Q := V_nx (by decide +kernel : decode (p_c 17) 82 = .ok (.aload_n 0, 1)) rfl rfl
theorem e17_83 : V 17 83 L (.ref a :: st) h Q = (p_ok1 [4] 0 (p_get h a) ∧ V 17 86 L (p_fv 0 (p_get h a) :: st) h Q) := V_gf (t := (3, 1, "WaterShoulders$Mud")) (by decide +kernel : decode (p_c 17) 83 = .ok (.getfield 11, 3)) (by decide +kernel)
theorem e17_86 : V 17 86 [l0, l1, l2, l3, some (.int x)] st h Q = V 17 88 [l0, l1, l2, l3, some (.int x)] (.int x :: st) h Q := V_nx (by decide +kernel : decode (p_c 17) 86 = .ok (.iload 4, 2)) rfl rfl
theorem e17_88 : V 17 88 L (.int i :: .ref a :: st) h Q = (p_iok i (p_get h a) ∧ V 17 89 L (.int (p_ivl i (p_get h a)) :: st) h Q) := V_ial (by decide +kernel : decode (p_c 17) 88 = .ok (.iaload, 1))
theorem e17_89 : V 17 89 [l0, l1, l2, l3, l4] (.int x :: st) h Q = V 17 90 [l0, l1, p_dl l2, some (.int x), l4] st h Q := V_nx (by decide +kernel : decode (p_c 17) 89 = .ok (.istore_n 3, 1)) rfl rfl
theorem e17_90 : V 17 90 [l0, l1, l2, l3, some (.int x)] st h Q = V 17 93 [l0, l1, l2, p_dl l3, some (.int (x + 1))] st h Q := V_iinc (x := x) (by decide +kernel : decode (p_c 17) 90 = .ok (.iinc 4 1, 3)) (by decide) rfl (Nat.le_of_ble_eq_true rfl)
theorem e17_93 : V 17 93 L st h Q = V 17 42 L st h Q := V_goto (by decide +kernel : decode (p_c 17) 93 = .ok (.goto (-51), 3)) (by decide)
theorem e17_96 : V 17 96 L [] h Q = Q none h := V_rv (by decide +kernel : decode (p_c 17) 96 = .ok (.return_, 1)) rfl
theorem m17 : Vm 17 [.ref a, .ref b1, .int x1] h Q = V 17 0 [some (.ref a), some (.ref b1), some (.int x1), none, none] [] h Q := rfl
theorem e18_0 : V 18 0 [some (.ref a), l1, l2, l3] st h Q = V 18 1 [some (.ref a), l1, l2, l3] (.ref a :: st) h Q := V_nx (by decide +kernel : decode (p_c 18) 0 = .ok (.aload_n 0, 1)) rfl rfl
theorem e18_1 : V 18 1 L st h Q = V 18 2 L (.int 0 :: st) h Q := V_c (by decide +kernel : decode (p_c 18) 1 = .ok (.iconst 0, 1)) (by decide)
theorem e18_2 : V 18 2 L (.int x :: .ref a :: st) h Q = (p_ok1 [4] 8 (p_get h a) ∧ V 18 5 L st (p_set h a (p_fs 8 (.int x) (p_get h a))) Q) := V_pf0 (fin := 0) (ref := "WaterShoulders$Mud") (by decide +kernel : decode (p_c 18) 2 = .ok (.putfield 60, 3)) (by decide +kernel) (by decide +kernel)
theorem e18_5 : V 18 5 L st h Q = V 18 6 L (.int 0 :: st) h Q := V_c (by decide +kernel : decode (p_c 18) 5 = .ok (.iconst 0, 1)) (by decide)
theorem e18_6 : V 18 6 [l0, l1, l2, l3] (.int x :: st) h Q = V 18 7 [p_dl l0, some (.int x), l2, l3] st h Q := V_nx (by decide +kernel : decode (p_c 18) 6 = .ok (.istore_n 1, 1)) rfl rfl
theorem e18_7 : V 18 7 [l0, some (.int x), l2, l3] st h Q = V 18 8 [l0, some (.int x), l2, l3] (.int x :: st) h Q := V_nx (by decide +kernel : decode (p_c 18) 7 = .ok (.iload_n 1, 1)) rfl rfl
theorem e18_8 : V 18 8 L st h Q = V 18 9 L (.int 5 :: st) h Q := V_c (by decide +kernel : decode (p_c 18) 8 = .ok (.iconst 5, 1)) (by decide)
theorem e18_9 : V 18 9 L (.int z :: .int x :: st) h Q = if x < z then V 18 12 L st h Q else V 18 75 L st h Q := (V_icmp (by decide +kernel : decode (p_c 18) 9 = .ok (.if_icmp .ge 66, 3)) (by decide)).trans i_ge
theorem e18_12 : V 18 12 L st h Q = V 18 13 L (.int 1 :: st) h Q := V_c (by decide +kernel : decode (p_c 18) 12 = .ok (.iconst 1, 1)) (by decide)
theorem e18_13 : V 18 13 [l0, some (.int x), l2, l3] st h Q = V 18 14 [l0, some (.int x), l2, l3] (.int x :: st) h Q := V_nx (by decide +kernel : decode (p_c 18) 13 = .ok (.iload_n 1, 1)) rfl rfl
theorem e18_14 : V 18 14 L (.int z :: .int x :: st) h Q = V 18 15 L (.int (x <<< (z &&& 31)) :: st) h Q := V_nx (by decide +kernel : decode (p_c 18) 14 = .ok (.ishl, 1)) rfl rfl
theorem e18_15 : V 18 15 [l0, l1, l2, l3] (.int x :: st) h Q = V 18 16 [l0, p_dl l1, some (.int x), l3] st h Q := V_nx (by decide +kernel : decode (p_c 18) 15 = .ok (.istore_n 2, 1)) rfl rfl
theorem e18_16 : V 18 16 [some (.ref a), l1, l2, l3] st h Q = V 18 17 [some (.ref a), l1, l2, l3] (.ref a :: st) h Q := V_nx (by decide +kernel : decode (p_c 18) 16 = .ok (.aload_n 0, 1)) rfl rfl
theorem e18_17 : V 18 17 L (.ref a :: st) h Q = (p_ok1 [4] 2 (p_get h a) ∧ V 18 20 L (p_fv 2 (p_get h a) :: st) h Q) := V_gf (t := (3, 1, "WaterShoulders$Mud")) (by decide +kernel : decode (p_c 18) 17 = .ok (.getfield 15, 3)) (by decide +kernel)
theorem e18_20 : V 18 20 [l0, some (.int x), l2, l3] st h Q = V 18 21 [l0, some (.int x), l2, l3] (.int x :: st) h Q := V_nx (by decide +kernel : decode (p_c 18) 20 = .ok (.iload_n 1, 1)) rfl rfl
theorem e18_21 : V 18 21 L (.int i :: .ref a :: st) h Q = (p_iok i (p_get h a) ∧ V 18 22 L (.int (p_ivl i (p_get h a)) :: st) h Q) := V_ial (by decide +kernel : decode (p_c 18) 21 = .ok (.iaload, 1))
theorem e18_22 : V 18 22 L (.int x :: st) h Q = if 0 < x then V 18 25 L st h Q else V 18 35 L st h Q := (V_ifc (by decide +kernel : decode (p_c 18) 22 = .ok (.ifCond .le 13, 3)) (by decide)).trans i_le
theorem e18_25 : V 18 25 [some (.ref a), l1, l2, l3] st h Q = V 18 26 [some (.ref a), l1, l2, l3] (.ref a :: st) h Q := V_nx (by decide +kernel : decode (p_c 18) 25 = .ok (.aload_n 0, 1)) rfl rfl
theorem e18_26 : V 18 26 L (.ref a :: st) h Q = V 18 27 L (.ref a :: .ref a :: st) h Q := V_dup (by decide +kernel : decode (p_c 18) 26 = .ok (.dup, 1)) rfl
theorem e18_26i : V 18 26 L (.int x :: st) h Q = V 18 27 L (.int x :: .int x :: st) h Q := V_dup (by decide +kernel : decode (p_c 18) 26 = .ok (.dup, 1)) rfl
theorem e18_27 : V 18 27 L (.ref a :: st) h Q = (p_ok1 [4] 8 (p_get h a) ∧ V 18 30 L (p_fv 8 (p_get h a) :: st) h Q) := V_gf (t := (0, 0, "WaterShoulders$Mud")) (by decide +kernel : decode (p_c 18) 27 = .ok (.getfield 60, 3)) (by decide +kernel)
theorem e18_30 : V 18 30 [l0, l1, some (.int x), l3] st h Q = V 18 31 [l0, l1, some (.int x), l3] (.int x :: st) h Q := V_nx (by decide +kernel : decode (p_c 18) 30 = .ok (.iload_n 2, 1)) rfl rfl
theorem e18_31 : V 18 31 L (.int z :: .int x :: st) h Q = V 18 32 L (.int (x ||| z) :: st) h Q := V_nx (by decide +kernel : decode (p_c 18) 31 = .ok (.ior, 1)) rfl rfl
theorem e18_32 : V 18 32 L (.int x :: .ref a :: st) h Q = (p_ok1 [4] 8 (p_get h a) ∧ V 18 35 L st (p_set h a (p_fs 8 (.int x) (p_get h a))) Q) := V_pf0 (fin := 0) (ref := "WaterShoulders$Mud") (by decide +kernel : decode (p_c 18) 32 = .ok (.putfield 60, 3)) (by decide +kernel) (by decide +kernel)
theorem e18_35 : V 18 35 L st h Q = V 18 36 L (.int 0 :: st) h Q := V_c (by decide +kernel : decode (p_c 18) 35 = .ok (.iconst 0, 1)) (by decide)
theorem e18_36 : V 18 36 [l0, l1, l2, l3] (.int x :: st) h Q = V 18 37 [l0, l1, p_dl l2, some (.int x)] st h Q := V_nx (by decide +kernel : decode (p_c 18) 36 = .ok (.istore_n 3, 1)) rfl rfl
theorem e18_37 : V 18 37 [l0, l1, l2, some (.int x)] st h Q = V 18 38 [l0, l1, l2, some (.int x)] (.int x :: st) h Q := V_nx (by decide +kernel : decode (p_c 18) 37 = .ok (.iload_n 3, 1)) rfl rfl
theorem e18_38 : V 18 38 [l0, l1, some (.int x), l3] st h Q = V 18 39 [l0, l1, some (.int x), l3] (.int x :: st) h Q := V_nx (by decide +kernel : decode (p_c 18) 38 = .ok (.iload_n 2, 1)) rfl rfl
theorem e18_39 : V 18 39 L (.int z :: .int x :: st) h Q = if x < z then V 18 42 L st h Q else V 18 69 L st h Q := (V_icmp (by decide +kernel : decode (p_c 18) 39 = .ok (.if_icmp .ge 30, 3)) (by decide)).trans i_ge
theorem e18_42 : V 18 42 [some (.ref a), l1, l2, l3] st h Q = V 18 43 [some (.ref a), l1, l2, l3] (.ref a :: st) h Q := V_nx (by decide +kernel : decode (p_c 18) 42 = .ok (.aload_n 0, 1)) rfl rfl
theorem e18_43 : V 18 43 L (.ref a :: st) h Q = (p_ok1 [4] 5 (p_get h a) ∧ V 18 46 L (p_fv 5 (p_get h a) :: st) h Q) := V_gf (t := (3, 1, "WaterShoulders$Mud")) (by decide +kernel : decode (p_c 18) 43 = .ok (.getfield 18, 3)) (by decide +kernel)
theorem e18_46 : V 18 46 [l0, l1, some (.int x), l3] st h Q = V 18 47 [l0, l1, some (.int x), l3] (.int x :: st) h Q := V_nx (by decide +kernel : decode (p_c 18) 46 = .ok (.iload_n 2, 1)) rfl rfl
theorem e18_47 : V 18 47 [l0, l1, l2, some (.int x)] st h Q = V 18 48 [l0, l1, l2, some (.int x)] (.int x :: st) h Q := V_nx (by decide +kernel : decode (p_c 18) 47 = .ok (.iload_n 3, 1)) rfl rfl
theorem e18_48 : V 18 48 L (.int z :: .int x :: st) h Q = V 18 49 L (.int (x + z) :: st) h Q := V_nx (by decide +kernel : decode (p_c 18) 48 = .ok (.iadd, 1)) rfl rfl
theorem e18_49 : V 18 49 [some (.ref a), l1, l2, l3] st h Q = V 18 50 [some (.ref a), l1, l2, l3] (.ref a :: st) h Q := V_nx (by decide +kernel : decode (p_c 18) 49 = .ok (.aload_n 0, 1)) rfl rfl
theorem e18_50 : V 18 50 L (.ref a :: st) h Q = (p_ok1 [4] 5 (p_get h a) ∧ V 18 53 L (p_fv 5 (p_get h a) :: st) h Q) := V_gf (t := (3, 1, "WaterShoulders$Mud")) (by decide +kernel : decode (p_c 18) 50 = .ok (.getfield 18, 3)) (by decide +kernel)
theorem e18_53 : V 18 53 [l0, l1, l2, some (.int x)] st h Q = V 18 54 [l0, l1, l2, some (.int x)] (.int x :: st) h Q := V_nx (by decide +kernel : decode (p_c 18) 53 = .ok (.iload_n 3, 1)) rfl rfl
theorem e18_54 : V 18 54 L (.int i :: .ref a :: st) h Q = (p_iok i (p_get h a) ∧ V 18 55 L (.int (p_ivl i (p_get h a)) :: st) h Q) := V_ial (by decide +kernel : decode (p_c 18) 54 = .ok (.iaload, 1))
theorem e18_55 : V 18 55 [some (.ref a), l1, l2, l3] st h Q = V 18 56 [some (.ref a), l1, l2, l3] (.ref a :: st) h Q := V_nx (by decide +kernel : decode (p_c 18) 55 = .ok (.aload_n 0, 1)) rfl rfl
theorem e18_56 : V 18 56 L (.ref a :: st) h Q = (p_ok1 [4] 2 (p_get h a) ∧ V 18 59 L (p_fv 2 (p_get h a) :: st) h Q) := V_gf (t := (3, 1, "WaterShoulders$Mud")) (by decide +kernel : decode (p_c 18) 56 = .ok (.getfield 15, 3)) (by decide +kernel)
theorem e18_59 : V 18 59 [l0, some (.int x), l2, l3] st h Q = V 18 60 [l0, some (.int x), l2, l3] (.int x :: st) h Q := V_nx (by decide +kernel : decode (p_c 18) 59 = .ok (.iload_n 1, 1)) rfl rfl
theorem e18_60 : V 18 60 L (.int i :: .ref a :: st) h Q = (p_iok i (p_get h a) ∧ V 18 61 L (.int (p_ivl i (p_get h a)) :: st) h Q) := V_ial (by decide +kernel : decode (p_c 18) 60 = .ok (.iaload, 1))
theorem e18_61 : V 18 61 L (.int z :: .int x :: st) h Q = V 18 62 L (.int (x + z) :: st) h Q := V_nx (by decide +kernel : decode (p_c 18) 61 = .ok (.iadd, 1)) rfl rfl
theorem e18_62 : V 18 62 L (.int x :: .int i :: .ref a :: st) h Q = (p_sok i (p_get h a) ∧ V 18 63 L st (p_set h a (p_ist i x (p_get h a))) Q) := V_ias (by decide +kernel : decode (p_c 18) 62 = .ok (.iastore, 1))
theorem e18_63 : V 18 63 [l0, l1, l2, some (.int x)] st h Q = V 18 66 [l0, l1, p_dl l2, some (.int (x + 1))] st h Q := V_iinc (x := x) (by decide +kernel : decode (p_c 18) 63 = .ok (.iinc 3 1, 3)) (by decide) rfl (Nat.le_of_ble_eq_true rfl)
theorem e18_66 : V 18 66 L st h Q = V 18 37 L st h Q := V_goto (by decide +kernel : decode (p_c 18) 66 = .ok (.goto (-29), 3)) (by decide)
theorem e18_69 : V 18 69 [l0, some (.int x), l2, l3] st h Q = V 18 72 [p_dl l0, some (.int (x + 1)), l2, l3] st h Q := V_iinc (x := x) (by decide +kernel : decode (p_c 18) 69 = .ok (.iinc 1 1, 3)) (by decide) rfl (Nat.le_of_ble_eq_true rfl)
theorem e18_72 : V 18 72 L st h Q = V 18 7 L st h Q := V_goto (by decide +kernel : decode (p_c 18) 72 = .ok (.goto (-65), 3)) (by decide)
theorem e18_75 : V 18 75 L [] h Q = Q none h := V_rv (by decide +kernel : decode (p_c 18) 75 = .ok (.return_, 1)) rfl
theorem m18 : Vm 18 [.ref a] h Q = V 18 0 [some (.ref a), none, none, none] [] h Q := rfl
theorem e19_0 : V 19 0 L st h Q = V 19 1 L (.int 0 :: st) h Q := V_c (by decide +kernel : decode (p_c 19) 0 = .ok (.iconst 0, 1)) (by decide)
theorem e19_1 : V 19 1 [l0, l1, l2, l3, l4, l5, l6] (.int x :: st) h Q = V 19 3 [l0, l1, l2, p_dl l3, some (.int x), l5, l6] st h Q := V_nx (by decide +kernel : decode (p_c 19) 1 = .ok (.istore 4, 2)) rfl rfl
theorem e19_3 : V 19 3 L st h Q = V 19 4 L (.int 0 :: st) h Q := V_c (by decide +kernel : decode (p_c 19) 3 = .ok (.iconst 0, 1)) (by decide)
theorem e19_4 : V 19 4 [l0, l1, l2, l3, l4, l5, l6] (.int x :: st) h Q = V 19 6 [l0, l1, l2, l3, p_dl l4, some (.int x), l6] st h Q := V_nx (by decide +kernel : decode (p_c 19) 4 = .ok (.istore 5, 2)) rfl rfl
theorem e19_6 : V 19 6 [l0, l1, l2, l3, l4, some (.int x), l6] st h Q = V 19 8 [l0, l1, l2, l3, l4, some (.int x), l6] (.int x :: st) h Q := V_nx (by decide +kernel : decode (p_c 19) 6 = .ok (.iload 5, 2)) rfl rfl
theorem e19_8 : V 19 8 L st h Q = V 19 10 L (.int 32 :: st) h Q := V_b (by decide +kernel : decode (p_c 19) 8 = .ok (.bipush 32, 2)) (by decide)
theorem e19_10 : V 19 10 L (.int z :: .int x :: st) h Q = if x < z then V 19 13 L st h Q else V 19 61 L st h Q := (V_icmp (by decide +kernel : decode (p_c 19) 10 = .ok (.if_icmp .ge 51, 3)) (by decide)).trans i_ge
theorem e19_13 : V 19 13 [l0, some (.ref a), l2, l3, l4, l5, l6] st h Q = V 19 14 [l0, some (.ref a), l2, l3, l4, l5, l6] (.ref a :: st) h Q := V_nx (by decide +kernel : decode (p_c 19) 13 = .ok (.aload_n 1, 1)) rfl rfl
theorem e19_13n : V 19 13 [l0, some .null, l2, l3, l4, l5, l6] st h Q = V 19 14 [l0, some .null, l2, l3, l4, l5, l6] (.null :: st) h Q := V_nx (by decide +kernel : decode (p_c 19) 13 = .ok (.aload_n 1, 1)) rfl rfl
theorem e19_14 : V 19 14 [some (.ref a), l1, l2, l3, l4, l5, l6] st h Q = V 19 15 [some (.ref a), l1, l2, l3, l4, l5, l6] (.ref a :: st) h Q := V_nx (by decide +kernel : decode (p_c 19) 14 = .ok (.aload_n 0, 1)) rfl rfl
theorem e19_15 : V 19 15 L (.ref a :: st) h Q = (p_ok1 [4] 3 (p_get h a) ∧ V 19 18 L (p_fv 3 (p_get h a) :: st) h Q) := V_gf (t := (0, 0, "WaterShoulders$Mud")) (by decide +kernel : decode (p_c 19) 15 = .ok (.getfield 27, 3)) (by decide +kernel)
theorem e19_18 : V 19 18 [l0, l1, some (.int x), l3, l4, l5, l6] st h Q = V 19 19 [l0, l1, some (.int x), l3, l4, l5, l6] (.int x :: st) h Q := V_nx (by decide +kernel : decode (p_c 19) 18 = .ok (.iload_n 2, 1)) rfl rfl
theorem e19_19 : V 19 19 [some (.ref a), l1, l2, l3, l4, l5, l6] st h Q = V 19 20 [some (.ref a), l1, l2, l3, l4, l5, l6] (.ref a :: st) h Q := V_nx (by decide +kernel : decode (p_c 19) 19 = .ok (.aload_n 0, 1)) rfl rfl
theorem e19_20 : V 19 20 L (.ref a :: st) h Q = (p_ok1 [4] 5 (p_get h a) ∧ V 19 23 L (p_fv 5 (p_get h a) :: st) h Q) := V_gf (t := (3, 1, "WaterShoulders$Mud")) (by decide +kernel : decode (p_c 19) 20 = .ok (.getfield 18, 3)) (by decide +kernel)
theorem e19_23 : V 19 23 [l0, l1, l2, l3, l4, some (.int x), l6] st h Q = V 19 25 [l0, l1, l2, l3, l4, some (.int x), l6] (.int x :: st) h Q := V_nx (by decide +kernel : decode (p_c 19) 23 = .ok (.iload 5, 2)) rfl rfl
theorem e19_25 : V 19 25 L (.int i :: .ref a :: st) h Q = (p_iok i (p_get h a) ∧ V 19 26 L (.int (p_ivl i (p_get h a)) :: st) h Q) := V_ial (by decide +kernel : decode (p_c 19) 25 = .ok (.iaload, 1))
theorem e19_26 : V 19 26 L (.int z :: .int x :: st) h Q = V 19 27 L (.int (x + z) :: st) h Q := V_nx (by decide +kernel : decode (p_c 19) 26 = .ok (.iadd, 1)) rfl rfl
theorem e19_27 : V 19 27 L (.int x2 :: .int x1 :: .ref a :: st) h Q = ((p_cn1 (p_get h a) = 9 ∧ p_sm st) ∧ Vm 63 [.ref a, .int x1, .int x2] h (Kt 19 30 L st Q)) := V_iv (n := 2) (as := [.int x2, .int x1]) (ci := 9) (z := 63) (by decide +kernel : decode (p_c 19) 27 = .ok (.invokevirtual 63, 3)) (by decide +kernel) rfl rfl (by decide +kernel) rfl
theorem e19_30 : V 19 30 [l0, l1, l2, l3, l4, l5, l6] (.int x :: st) h Q = V 19 32 [l0, l1, l2, l3, l4, p_dl l5, some (.int x)] st h Q := V_nx (by decide +kernel : decode (p_c 19) 30 = .ok (.istore 6, 2)) rfl rfl
theorem e19_32 : V 19 32 [l0, some (.ref a), l2, l3, l4, l5, l6] st h Q = V 19 33 [l0, some (.ref a), l2, l3, l4, l5, l6] (.ref a :: st) h Q := V_nx (by decide +kernel : decode (p_c 19) 32 = .ok (.aload_n 1, 1)) rfl rfl
theorem e19_32n : V 19 32 [l0, some .null, l2, l3, l4, l5, l6] st h Q = V 19 33 [l0, some .null, l2, l3, l4, l5, l6] (.null :: st) h Q := V_nx (by decide +kernel : decode (p_c 19) 32 = .ok (.aload_n 1, 1)) rfl rfl
theorem e19_33 : V 19 33 [some (.ref a), l1, l2, l3, l4, l5, l6] st h Q = V 19 34 [some (.ref a), l1, l2, l3, l4, l5, l6] (.ref a :: st) h Q := V_nx (by decide +kernel : decode (p_c 19) 33 = .ok (.aload_n 0, 1)) rfl rfl
theorem e19_34 : V 19 34 L (.ref a :: st) h Q = (p_ok1 [4] 3 (p_get h a) ∧ V 19 37 L (p_fv 3 (p_get h a) :: st) h Q) := V_gf (t := (0, 0, "WaterShoulders$Mud")) (by decide +kernel : decode (p_c 19) 34 = .ok (.getfield 27, 3)) (by decide +kernel)
theorem e19_37 : V 19 37 [l0, l1, l2, l3, l4, l5, some (.int x)] st h Q = V 19 39 [l0, l1, l2, l3, l4, l5, some (.int x)] (.int x :: st) h Q := V_nx (by decide +kernel : decode (p_c 19) 37 = .ok (.iload 6, 2)) rfl rfl
theorem e19_39 : V 19 39 L (.int x2 :: .int x1 :: .ref a :: st) h Q = ((p_cn1 (p_get h a) = 9 ∧ p_sm st) ∧ Vm 62 [.ref a, .int x1, .int x2] h (Kt 19 42 L st Q)) := V_iv (n := 2) (as := [.int x2, .int x1]) (ci := 9) (z := 62) (by decide +kernel : decode (p_c 19) 39 = .ok (.invokevirtual 69, 3)) (by decide +kernel) rfl rfl (by decide +kernel) rfl
theorem e19_42 : V 19 42 [l0, l1, l2, some (.int x), l4, l5, l6] st h Q = V 19 43 [l0, l1, l2, some (.int x), l4, l5, l6] (.int x :: st) h Q := V_nx (by decide +kernel : decode (p_c 19) 42 = .ok (.iload_n 3, 1)) rfl rfl
theorem e19_43 : V 19 43 L (.int z :: .int x :: st) h Q = if x = z then V 19 46 L st h Q else V 19 55 L st h Q := (V_icmp (by decide +kernel : decode (p_c 19) 43 = .ok (.if_icmp .ne 12, 3)) (by decide)).trans i_ne
theorem e19_46 : V 19 46 [l0, l1, l2, l3, some (.int x), l5, l6] st h Q = V 19 48 [l0, l1, l2, l3, some (.int x), l5, l6] (.int x :: st) h Q := V_nx (by decide +kernel : decode (p_c 19) 46 = .ok (.iload 4, 2)) rfl rfl
theorem e19_48 : V 19 48 L st h Q = V 19 49 L (.int 1 :: st) h Q := V_c (by decide +kernel : decode (p_c 19) 48 = .ok (.iconst 1, 1)) (by decide)
theorem e19_49 : V 19 49 [l0, l1, l2, l3, l4, some (.int x), l6] st h Q = V 19 51 [l0, l1, l2, l3, l4, some (.int x), l6] (.int x :: st) h Q := V_nx (by decide +kernel : decode (p_c 19) 49 = .ok (.iload 5, 2)) rfl rfl
theorem e19_51 : V 19 51 L (.int z :: .int x :: st) h Q = V 19 52 L (.int (x <<< (z &&& 31)) :: st) h Q := V_nx (by decide +kernel : decode (p_c 19) 51 = .ok (.ishl, 1)) rfl rfl
theorem e19_52 : V 19 52 L (.int z :: .int x :: st) h Q = V 19 53 L (.int (x ||| z) :: st) h Q := V_nx (by decide +kernel : decode (p_c 19) 52 = .ok (.ior, 1)) rfl rfl
theorem e19_53 : V 19 53 [l0, l1, l2, l3, l4, l5, l6] (.int x :: st) h Q = V 19 55 [l0, l1, l2, p_dl l3, some (.int x), l5, l6] st h Q := V_nx (by decide +kernel : decode (p_c 19) 53 = .ok (.istore 4, 2)) rfl rfl
theorem e19_55 : V 19 55 [l0, l1, l2, l3, l4, some (.int x), l6] st h Q = V 19 58 [l0, l1, l2, l3, p_dl l4, some (.int (x + 1)), l6] st h Q := V_iinc (x := x) (by decide +kernel : decode (p_c 19) 55 = .ok (.iinc 5 1, 3)) (by decide) rfl (Nat.le_of_ble_eq_true rfl)
theorem e19_58 : V 19 58 L st h Q = V 19 6 L st h Q := V_goto (by decide +kernel : decode (p_c 19) 58 = .ok (.goto (-52), 3)) (by decide)
theorem e19_61 : V 19 61 [l0, l1, l2, l3, some (.int x), l5, l6] st h Q = V 19 63 [l0, l1, l2, l3, some (.int x), l5, l6] (.int x :: st) h Q := V_nx (by decide +kernel : decode (p_c 19) 61 = .ok (.iload 4, 2)) rfl rfl
theorem e19_63 : V 19 63 L [.int x] h Q = Q (some (.int x)) h := V_ri (by decide +kernel : decode (p_c 19) 63 = .ok (.ireturn, 1)) rfl
theorem m19 : Vm 19 [.ref a, .ref b1, .int x1, .int x2] h Q = V 19 0 [some (.ref a), some (.ref b1), some (.int x1), some (.int x2), none, none, none] [] h Q := rfl
theorem e20_0 : V 20 0 L st h Q = V 20 2 L (.int 31 :: st) h Q := V_b (by decide +kernel : decode (p_c 20) 0 = .ok (.bipush 31, 2)) (by decide)
theorem e20_2 : V 20 2 [l0, l1, l2, l3, l4] (.int x :: st) h Q = V 20 4 [l0, l1, l2, p_dl l3, some (.int x)] st h Q := V_nx (by decide +kernel : decode (p_c 20) 2 = .ok (.istore 4, 2)) rfl rfl
theorem e20_4 : V 20 4 [l0, l1, l2, l3, some (.int x)] st h Q = V 20 6 [l0, l1, l2, l3, some (.int x)] (.int x :: st) h Q := V_nx (by decide +kernel : decode (p_c 20) 4 = .ok (.iload 4, 2)) rfl rfl
theorem e20_6 : V 20 6 L (.int x :: st) h Q = if x < 0 then V 20 36 L st h Q else V 20 9 L st h Q := (V_ifc (by decide +kernel : decode (p_c 20) 6 = .ok (.ifCond .lt 30, 3)) (by decide)).trans i_lt
theorem e20_9 : V 20 9 [l0, l1, l2, l3, some (.int x)] st h Q = V 20 11 [l0, l1, l2, l3, some (.int x)] (.int x :: st) h Q := V_nx (by decide +kernel : decode (p_c 20) 9 = .ok (.iload 4, 2)) rfl rfl
theorem e20_11 : V 20 11 [some (.ref a), l1, l2, l3, l4] st h Q = V 20 12 [some (.ref a), l1, l2, l3, l4] (.ref a :: st) h Q := V_nx (by decide +kernel : decode (p_c 20) 11 = .ok (.aload_n 0, 1)) rfl rfl
theorem e20_12 : V 20 12 L (.ref a :: st) h Q = (p_ok1 [4] 8 (p_get h a) ∧ V 20 15 L (p_fv 8 (p_get h a) :: st) h Q) := V_gf (t := (0, 0, "WaterShoulders$Mud")) (by decide +kernel : decode (p_c 20) 12 = .ok (.getfield 60, 3)) (by decide +kernel)
theorem e20_15 : V 20 15 L st h Q = V 20 16 L (.int (-1) :: st) h Q := V_c (by decide +kernel : decode (p_c 20) 15 = .ok (.iconst (-1), 1)) (by decide)
theorem e20_16 : V 20 16 L (.int z :: .int x :: st) h Q = V 20 17 L (.int (x ^^^ z) :: st) h Q := V_nx (by decide +kernel : decode (p_c 20) 16 = .ok (.ixor, 1)) rfl rfl
theorem e20_17 : V 20 17 L (.int z :: .int x :: st) h Q = V 20 18 L (.int (x &&& z) :: st) h Q := V_nx (by decide +kernel : decode (p_c 20) 17 = .ok (.iand, 1)) rfl rfl
theorem e20_18 : V 20 18 L (.int x :: st) h Q = if x = 0 then V 20 21 L st h Q else V 20 30 L st h Q := (V_ifc (by decide +kernel : decode (p_c 20) 18 = .ok (.ifCond .ne 12, 3)) (by decide)).trans i_ne
theorem e20_21 : V 20 21 [some (.ref a), l1, l2, l3, l4] st h Q = V 20 22 [some (.ref a), l1, l2, l3, l4] (.ref a :: st) h Q := V_nx (by decide +kernel : decode (p_c 20) 21 = .ok (.aload_n 0, 1)) rfl rfl
theorem e20_22 : V 20 22 [l0, l1, l2, l3, some (.int x)] st h Q = V 20 24 [l0, l1, l2, l3, some (.int x)] (.int x :: st) h Q := V_nx (by decide +kernel : decode (p_c 20) 22 = .ok (.iload 4, 2)) rfl rfl
theorem e20_24 : V 20 24 [l0, some (.int x), l2, l3, l4] st h Q = V 20 25 [l0, some (.int x), l2, l3, l4] (.int x :: st) h Q := V_nx (by decide +kernel : decode (p_c 20) 24 = .ok (.iload_n 1, 1)) rfl rfl
theorem e20_25 : V 20 25 [l0, l1, some (.int x), l3, l4] st h Q = V 20 26 [l0, l1, some (.int x), l3, l4] (.int x :: st) h Q := V_nx (by decide +kernel : decode (p_c 20) 25 = .ok (.iload_n 2, 1)) rfl rfl
theorem e20_26 : V 20 26 [l0, l1, l2, some (.int x), l4] st h Q = V 20 27 [l0, l1, l2, some (.int x), l4] (.int x :: st) h Q := V_nx (by decide +kernel : decode (p_c 20) 26 = .ok (.iload_n 3, 1)) rfl rfl
theorem e20_27 : V 20 27 L (.int x4 :: .int x3 :: .int x2 :: .int x1 :: .ref a :: st) h Q = ((p_cn1 (p_get h a) = 4 ∧ p_sm st) ∧ Vm 21 [.ref a, .int x1, .int x2, .int x3, .int x4] h (Kt 20 30 L st Q)) := V_iv (n := 4) (as := [.int x4, .int x3, .int x2, .int x1]) (ci := 4) (z := 21) (by decide +kernel : decode (p_c 20) 27 = .ok (.invokevirtual 72, 3)) (by decide +kernel) rfl rfl (by decide +kernel) rfl
theorem e20_30 : V 20 30 [l0, l1, l2, l3, some (.int x)] st h Q = V 20 33 [l0, l1, l2, p_dl l3, some (.int (x + (-1)))] st h Q := V_iinc (x := x) (by decide +kernel : decode (p_c 20) 30 = .ok (.iinc 4 (-1), 3)) (by decide) rfl (Nat.le_of_ble_eq_true rfl)
theorem e20_33 : V 20 33 L st h Q = V 20 4 L st h Q := V_goto (by decide +kernel : decode (p_c 20) 33 = .ok (.goto (-29), 3)) (by decide)
theorem e20_36 : V 20 36 L [] h Q = Q none h := V_rv (by decide +kernel : decode (p_c 20) 36 = .ok (.return_, 1)) rfl
theorem m20 : Vm 20 [.ref a, .int x1, .int x2, .int x3] h Q = V 20 0 [some (.ref a), some (.int x1), some (.int x2), some (.int x3), none] [] h Q := rfl
theorem e21_0 : V 21 0 [l0, l1, some (.int x), l3, l4, l5, l6, l7, l8, l9] st h Q = V 21 1 [l0, l1, some (.int x), l3, l4, l5, l6, l7, l8, l9] (.int x :: st) h Q := V_nx (by decide +kernel : decode (p_c 21) 0 = .ok (.iload_n 2, 1)) rfl rfl
theorem e21_1 : V 21 1 L st h Q = V 21 2 L (.int 1 :: st) h Q := V_c (by decide +kernel : decode (p_c 21) 1 = .ok (.iconst 1, 1)) (by decide)
theorem e21_2 : V 21 2 L (.int z :: .int x :: st) h Q = V 21 3 L (.int (x &&& z) :: st) h Q := V_nx (by decide +kernel : decode (p_c 21) 2 = .ok (.iand, 1)) rfl rfl
theorem e21_3 : V 21 3 L (.int x :: st) h Q = if x = 0 then V 21 10 L st h Q else V 21 6 L st h Q := (V_ifc (by decide +kernel : decode (p_c 21) 3 = .ok (.ifCond .eq 7, 3)) (by decide)).trans i_eq
theorem e21_6 : V 21 6 L st h Q = V 21 7 L (.int 1 :: st) h Q := V_c (by decide +kernel : decode (p_c 21) 6 = .ok (.iconst 1, 1)) (by decide)
theorem e21_7 : V 21 7 L st h Q = V 21 11 L st h Q := V_goto (by decide +kernel : decode (p_c 21) 7 = .ok (.goto 4, 3)) (by decide)
theorem e21_10 : V 21 10 L st h Q = V 21 11 L (.int 0 :: st) h Q := V_c (by decide +kernel : decode (p_c 21) 10 = .ok (.iconst 0, 1)) (by decide)
theorem e21_11 : V 21 11 [l0, l1, l2, l3, l4, l5, l6, l7, l8, l9] (.int x :: st) h Q = V 21 13 [l0, l1, l2, l3, p_dl l4, some (.int x), l6, l7, l8, l9] st h Q := V_nx (by decide +kernel : decode (p_c 21) 11 = .ok (.istore 5, 2)) rfl rfl
theorem e21_13 : V 21 13 [l0, l1, l2, l3, l4, some (.int x), l6, l7, l8, l9] st h Q = V 21 15 [l0, l1, l2, l3, l4, some (.int x), l6, l7, l8, l9] (.int x :: st) h Q := V_nx (by decide +kernel : decode (p_c 21) 13 = .ok (.iload 5, 2)) rfl rfl
theorem e21_15 : V 21 15 L (.int x :: st) h Q = if x = 0 then V 21 27 L st h Q else V 21 18 L st h Q := (V_ifc (by decide +kernel : decode (p_c 21) 15 = .ok (.ifCond .eq 12, 3)) (by decide)).trans i_eq
theorem e21_18 : V 21 18 [some (.ref a), l1, l2, l3, l4, l5, l6, l7, l8, l9] st h Q = V 21 19 [some (.ref a), l1, l2, l3, l4, l5, l6, l7, l8, l9] (.ref a :: st) h Q := V_nx (by decide +kernel : decode (p_c 21) 18 = .ok (.aload_n 0, 1)) rfl rfl
theorem e21_19 : V 21 19 L (.ref a :: st) h Q = (p_ok1 [4] 6 (p_get h a) ∧ V 21 22 L (p_fv 6 (p_get h a) :: st) h Q) := V_gf (t := (3, 1, "WaterShoulders$Mud")) (by decide +kernel : decode (p_c 21) 19 = .ok (.getfield 21, 3)) (by decide +kernel)
theorem e21_22 : V 21 22 [l0, some (.int x), l2, l3, l4, l5, l6, l7, l8, l9] st h Q = V 21 23 [l0, some (.int x), l2, l3, l4, l5, l6, l7, l8, l9] (.int x :: st) h Q := V_nx (by decide +kernel : decode (p_c 21) 22 = .ok (.iload_n 1, 1)) rfl rfl
theorem e21_23 : V 21 23 L (.int i :: .ref a :: st) h Q = (p_iok i (p_get h a) ∧ V 21 24 L (.int (p_ivl i (p_get h a)) :: st) h Q) := V_ial (by decide +kernel : decode (p_c 21) 23 = .ok (.iaload, 1))
theorem e21_24 : V 21 24 L st h Q = V 21 28 L st h Q := V_goto (by decide +kernel : decode (p_c 21) 24 = .ok (.goto 4, 3)) (by decide)
theorem e21_27 : V 21 27 L st h Q = V 21 28 L (.int 0 :: st) h Q := V_c (by decide +kernel : decode (p_c 21) 27 = .ok (.iconst 0, 1)) (by decide)
theorem e21_28 : V 21 28 [l0, l1, l2, l3, l4, l5, l6, l7, l8, l9] (.int x :: st) h Q = V 21 30 [l0, l1, l2, l3, l4, p_dl l5, some (.int x), l7, l8, l9] st h Q := V_nx (by decide +kernel : decode (p_c 21) 28 = .ok (.istore 6, 2)) rfl rfl
theorem e21_30 : V 21 30 [l0, l1, l2, l3, l4, some (.int x), l6, l7, l8, l9] st h Q = V 21 32 [l0, l1, l2, l3, l4, some (.int x), l6, l7, l8, l9] (.int x :: st) h Q := V_nx (by decide +kernel : decode (p_c 21) 30 = .ok (.iload 5, 2)) rfl rfl
theorem e21_32 : V 21 32 L (.int x :: st) h Q = if x = 0 then V 21 44 L st h Q else V 21 35 L st h Q := (V_ifc (by decide +kernel : decode (p_c 21) 32 = .ok (.ifCond .eq 12, 3)) (by decide)).trans i_eq
theorem e21_35 : V 21 35 [some (.ref a), l1, l2, l3, l4, l5, l6, l7, l8, l9] st h Q = V 21 36 [some (.ref a), l1, l2, l3, l4, l5, l6, l7, l8, l9] (.ref a :: st) h Q := V_nx (by decide +kernel : decode (p_c 21) 35 = .ok (.aload_n 0, 1)) rfl rfl
theorem e21_36 : V 21 36 L (.ref a :: st) h Q = (p_ok1 [4] 7 (p_get h a) ∧ V 21 39 L (p_fv 7 (p_get h a) :: st) h Q) := V_gf (t := (3, 1, "WaterShoulders$Mud")) (by decide +kernel : decode (p_c 21) 36 = .ok (.getfield 24, 3)) (by decide +kernel)
theorem e21_39 : V 21 39 [l0, some (.int x), l2, l3, l4, l5, l6, l7, l8, l9] st h Q = V 21 40 [l0, some (.int x), l2, l3, l4, l5, l6, l7, l8, l9] (.int x :: st) h Q := V_nx (by decide +kernel : decode (p_c 21) 39 = .ok (.iload_n 1, 1)) rfl rfl
theorem e21_40 : V 21 40 L (.int i :: .ref a :: st) h Q = (p_iok i (p_get h a) ∧ V 21 41 L (.int (p_ivl i (p_get h a)) :: st) h Q) := V_ial (by decide +kernel : decode (p_c 21) 40 = .ok (.iaload, 1))
theorem e21_41 : V 21 41 L st h Q = V 21 45 L st h Q := V_goto (by decide +kernel : decode (p_c 21) 41 = .ok (.goto 4, 3)) (by decide)
theorem e21_44 : V 21 44 L st h Q = V 21 45 L (.int 0 :: st) h Q := V_c (by decide +kernel : decode (p_c 21) 44 = .ok (.iconst 0, 1)) (by decide)
theorem e21_45 : V 21 45 [l0, l1, l2, l3, l4, l5, l6, l7, l8, l9] (.int x :: st) h Q = V 21 47 [l0, l1, l2, l3, l4, l5, p_dl l6, some (.int x), l8, l9] st h Q := V_nx (by decide +kernel : decode (p_c 21) 45 = .ok (.istore 7, 2)) rfl rfl
theorem e21_47 : V 21 47 [l0, some (.int x), l2, l3, l4, l5, l6, l7, l8, l9] st h Q = V 21 48 [l0, some (.int x), l2, l3, l4, l5, l6, l7, l8, l9] (.int x :: st) h Q := V_nx (by decide +kernel : decode (p_c 21) 47 = .ok (.iload_n 1, 1)) rfl rfl
theorem e21_48 : V 21 48 [l0, l1, l2, l3, l4, l5, l6, l7, l8, l9] (.int x :: st) h Q = V 21 50 [l0, l1, l2, l3, l4, l5, l6, p_dl l7, some (.int x), l9] st h Q := V_nx (by decide +kernel : decode (p_c 21) 48 = .ok (.istore 8, 2)) rfl rfl
theorem e21_50 : V 21 50 [l0, l1, l2, l3, l4, l5, l6, l7, some (.int x), l9] st h Q = V 21 52 [l0, l1, l2, l3, l4, l5, l6, l7, some (.int x), l9] (.int x :: st) h Q := V_nx (by decide +kernel : decode (p_c 21) 50 = .ok (.iload 8, 2)) rfl rfl
theorem e21_52 : V 21 52 L (.int x :: st) h Q = if 0 < x then V 21 55 L st h Q else V 21 127 L st h Q := (V_ifc (by decide +kernel : decode (p_c 21) 52 = .ok (.ifCond .le 75, 3)) (by decide)).trans i_le
theorem e21_55 : V 21 55 [l0, some (.int x), l2, l3, l4, l5, l6, l7, l8, l9] st h Q = V 21 56 [l0, some (.int x), l2, l3, l4, l5, l6, l7, l8, l9] (.int x :: st) h Q := V_nx (by decide +kernel : decode (p_c 21) 55 = .ok (.iload_n 1, 1)) rfl rfl
theorem e21_56 : V 21 56 [l0, l1, l2, l3, l4, l5, l6, l7, some (.int x), l9] st h Q = V 21 58 [l0, l1, l2, l3, l4, l5, l6, l7, some (.int x), l9] (.int x :: st) h Q := V_nx (by decide +kernel : decode (p_c 21) 56 = .ok (.iload 8, 2)) rfl rfl
theorem e21_58 : V 21 58 L (.int z :: .int x :: st) h Q = V 21 59 L (.int (x - z) :: st) h Q := V_nx (by decide +kernel : decode (p_c 21) 58 = .ok (.isub, 1)) rfl rfl
theorem e21_59 : V 21 59 [l0, l1, l2, l3, l4, l5, l6, l7, l8, l9] (.int x :: st) h Q = V 21 61 [l0, l1, l2, l3, l4, l5, l6, l7, p_dl l8, some (.int x)] st h Q := V_nx (by decide +kernel : decode (p_c 21) 59 = .ok (.istore 9, 2)) rfl rfl
theorem e21_61 : V 21 61 [l0, l1, some (.int x), l3, l4, l5, l6, l7, l8, l9] st h Q = V 21 62 [l0, l1, some (.int x), l3, l4, l5, l6, l7, l8, l9] (.int x :: st) h Q := V_nx (by decide +kernel : decode (p_c 21) 61 = .ok (.iload_n 2, 1)) rfl rfl
theorem e21_62 : V 21 62 [l0, l1, l2, l3, l4, l5, l6, l7, some (.int x), l9] st h Q = V 21 64 [l0, l1, l2, l3, l4, l5, l6, l7, some (.int x), l9] (.int x :: st) h Q := V_nx (by decide +kernel : decode (p_c 21) 62 = .ok (.iload 8, 2)) rfl rfl
theorem e21_64 : V 21 64 L (.int z :: .int x :: st) h Q = V 21 65 L (.int ((x.toUInt32 >>> (z.toUInt32 &&& Int32.toUInt32 31)).toInt32) :: st) h Q := V_nx (by decide +kernel : decode (p_c 21) 64 = .ok (.iushr, 1)) rfl rfl
theorem e21_65 : V 21 65 L st h Q = V 21 66 L (.int 1 :: st) h Q := V_c (by decide +kernel : decode (p_c 21) 65 = .ok (.iconst 1, 1)) (by decide)
theorem e21_66 : V 21 66 L (.int z :: .int x :: st) h Q = V 21 67 L (.int (x &&& z) :: st) h Q := V_nx (by decide +kernel : decode (p_c 21) 66 = .ok (.iand, 1)) rfl rfl
theorem e21_67 : V 21 67 L (.int x :: st) h Q = if x = 0 then V 21 116 L st h Q else V 21 70 L st h Q := (V_ifc (by decide +kernel : decode (p_c 21) 67 = .ok (.ifCond .eq 49, 3)) (by decide)).trans i_eq
theorem e21_70 : V 21 70 [some (.ref a), l1, l2, l3, l4, l5, l6, l7, l8, l9] st h Q = V 21 71 [some (.ref a), l1, l2, l3, l4, l5, l6, l7, l8, l9] (.ref a :: st) h Q := V_nx (by decide +kernel : decode (p_c 21) 70 = .ok (.aload_n 0, 1)) rfl rfl
theorem e21_71 : V 21 71 L (.ref a :: st) h Q = (p_ok1 [4] 6 (p_get h a) ∧ V 21 74 L (p_fv 6 (p_get h a) :: st) h Q) := V_gf (t := (3, 1, "WaterShoulders$Mud")) (by decide +kernel : decode (p_c 21) 71 = .ok (.getfield 21, 3)) (by decide +kernel)
theorem e21_74 : V 21 74 [l0, l1, l2, l3, l4, l5, l6, l7, l8, some (.int x)] st h Q = V 21 76 [l0, l1, l2, l3, l4, l5, l6, l7, l8, some (.int x)] (.int x :: st) h Q := V_nx (by decide +kernel : decode (p_c 21) 74 = .ok (.iload 9, 2)) rfl rfl
theorem e21_76 : V 21 76 L (.int i :: .ref a :: st) h Q = (p_iok i (p_get h a) ∧ V 21 77 L (.int (p_ivl i (p_get h a)) :: st) h Q) := V_ial (by decide +kernel : decode (p_c 21) 76 = .ok (.iaload, 1))
theorem e21_77 : V 21 77 L (.int x :: st) h Q = if 0 < x then V 21 80 L st h Q else V 21 116 L st h Q := (V_ifc (by decide +kernel : decode (p_c 21) 77 = .ok (.ifCond .le 39, 3)) (by decide)).trans i_le
theorem e21_80 : V 21 80 [l0, l1, l2, l3, l4, l5, some (.int x), l7, l8, l9] st h Q = V 21 82 [l0, l1, l2, l3, l4, l5, some (.int x), l7, l8, l9] (.int x :: st) h Q := V_nx (by decide +kernel : decode (p_c 21) 80 = .ok (.iload 6, 2)) rfl rfl
theorem e21_82 : V 21 82 [some (.ref a), l1, l2, l3, l4, l5, l6, l7, l8, l9] st h Q = V 21 83 [some (.ref a), l1, l2, l3, l4, l5, l6, l7, l8, l9] (.ref a :: st) h Q := V_nx (by decide +kernel : decode (p_c 21) 82 = .ok (.aload_n 0, 1)) rfl rfl
theorem e21_83 : V 21 83 L (.ref a :: st) h Q = (p_ok1 [4] 6 (p_get h a) ∧ V 21 86 L (p_fv 6 (p_get h a) :: st) h Q) := V_gf (t := (3, 1, "WaterShoulders$Mud")) (by decide +kernel : decode (p_c 21) 83 = .ok (.getfield 21, 3)) (by decide +kernel)
theorem e21_86 : V 21 86 [l0, l1, l2, l3, l4, l5, l6, l7, l8, some (.int x)] st h Q = V 21 88 [l0, l1, l2, l3, l4, l5, l6, l7, l8, some (.int x)] (.int x :: st) h Q := V_nx (by decide +kernel : decode (p_c 21) 86 = .ok (.iload 9, 2)) rfl rfl
theorem e21_88 : V 21 88 L (.int i :: .ref a :: st) h Q = (p_iok i (p_get h a) ∧ V 21 89 L (.int (p_ivl i (p_get h a)) :: st) h Q) := V_ial (by decide +kernel : decode (p_c 21) 88 = .ok (.iaload, 1))
theorem e21_89 : V 21 89 L (.int z :: .int x :: st) h Q = V 21 90 L (.int (x + z) :: st) h Q := V_nx (by decide +kernel : decode (p_c 21) 89 = .ok (.iadd, 1)) rfl rfl
theorem e21_90 : V 21 90 [l0, l1, l2, l3, l4, l5, l6, l7, l8, l9] (.int x :: st) h Q = V 21 92 [l0, l1, l2, l3, l4, p_dl l5, some (.int x), l7, l8, l9] st h Q := V_nx (by decide +kernel : decode (p_c 21) 90 = .ok (.istore 6, 2)) rfl rfl
theorem e21_92 : V 21 92 [l0, l1, l2, l3, l4, l5, l6, some (.int x), l8, l9] st h Q = V 21 94 [l0, l1, l2, l3, l4, l5, l6, some (.int x), l8, l9] (.int x :: st) h Q := V_nx (by decide +kernel : decode (p_c 21) 92 = .ok (.iload 7, 2)) rfl rfl
theorem e21_94 : V 21 94 [l0, l1, l2, l3, l4, l5, l6, l7, some (.int x), l9] st h Q = V 21 96 [l0, l1, l2, l3, l4, l5, l6, l7, some (.int x), l9] (.int x :: st) h Q := V_nx (by decide +kernel : decode (p_c 21) 94 = .ok (.iload 8, 2)) rfl rfl
theorem e21_96 : V 21 96 [l0, l1, l2, some (.int x), l4, l5, l6, l7, l8, l9] st h Q = V 21 97 [l0, l1, l2, some (.int x), l4, l5, l6, l7, l8, l9] (.int x :: st) h Q := V_nx (by decide +kernel : decode (p_c 21) 96 = .ok (.iload_n 3, 1)) rfl rfl
theorem e21_97 : V 21 97 L (.int z :: .int x :: st) h Q = V 21 98 L (.int (x &&& z) :: st) h Q := V_nx (by decide +kernel : decode (p_c 21) 97 = .ok (.iand, 1)) rfl rfl
theorem e21_98 : V 21 98 L (.int x :: st) h Q = if x = 0 then V 21 106 L st h Q else V 21 101 L st h Q := (V_ifc (by decide +kernel : decode (p_c 21) 98 = .ok (.ifCond .eq 8, 3)) (by decide)).trans i_eq
theorem e21_101 : V 21 101 [l0, l1, l2, l3, some (.int x), l5, l6, l7, l8, l9] st h Q = V 21 103 [l0, l1, l2, l3, some (.int x), l5, l6, l7, l8, l9] (.int x :: st) h Q := V_nx (by decide +kernel : decode (p_c 21) 101 = .ok (.iload 4, 2)) rfl rfl
theorem e21_103 : V 21 103 L st h Q = V 21 113 L st h Q := V_goto (by decide +kernel : decode (p_c 21) 103 = .ok (.goto 10, 3)) (by decide)
theorem e21_106 : V 21 106 [some (.ref a), l1, l2, l3, l4, l5, l6, l7, l8, l9] st h Q = V 21 107 [some (.ref a), l1, l2, l3, l4, l5, l6, l7, l8, l9] (.ref a :: st) h Q := V_nx (by decide +kernel : decode (p_c 21) 106 = .ok (.aload_n 0, 1)) rfl rfl
theorem e21_107 : V 21 107 L (.ref a :: st) h Q = (p_ok1 [4] 7 (p_get h a) ∧ V 21 110 L (p_fv 7 (p_get h a) :: st) h Q) := V_gf (t := (3, 1, "WaterShoulders$Mud")) (by decide +kernel : decode (p_c 21) 107 = .ok (.getfield 24, 3)) (by decide +kernel)
theorem e21_110 : V 21 110 [l0, l1, l2, l3, l4, l5, l6, l7, l8, some (.int x)] st h Q = V 21 112 [l0, l1, l2, l3, l4, l5, l6, l7, l8, some (.int x)] (.int x :: st) h Q := V_nx (by decide +kernel : decode (p_c 21) 110 = .ok (.iload 9, 2)) rfl rfl
theorem e21_112 : V 21 112 L (.int i :: .ref a :: st) h Q = (p_iok i (p_get h a) ∧ V 21 113 L (.int (p_ivl i (p_get h a)) :: st) h Q) := V_ial (by decide +kernel : decode (p_c 21) 112 = .ok (.iaload, 1))
theorem e21_113 : V 21 113 L (.int z :: .int x :: st) h Q = V 21 114 L (.int (x ||| z) :: st) h Q := V_nx (by decide +kernel : decode (p_c 21) 113 = .ok (.ior, 1)) rfl rfl
theorem e21_114 : V 21 114 [l0, l1, l2, l3, l4, l5, l6, l7, l8, l9] (.int x :: st) h Q = V 21 116 [l0, l1, l2, l3, l4, l5, p_dl l6, some (.int x), l8, l9] st h Q := V_nx (by decide +kernel : decode (p_c 21) 114 = .ok (.istore 7, 2)) rfl rfl
theorem e21_116 : V 21 116 [l0, l1, l2, l3, l4, l5, l6, l7, some (.int x), l9] st h Q = V 21 118 [l0, l1, l2, l3, l4, l5, l6, l7, some (.int x), l9] (.int x :: st) h Q := V_nx (by decide +kernel : decode (p_c 21) 116 = .ok (.iload 8, 2)) rfl rfl
theorem e21_118 : V 21 118 L st h Q = V 21 119 L (.int 1 :: st) h Q := V_c (by decide +kernel : decode (p_c 21) 118 = .ok (.iconst 1, 1)) (by decide)
theorem e21_119 : V 21 119 L (.int z :: .int x :: st) h Q = V 21 120 L (.int (x - z) :: st) h Q := V_nx (by decide +kernel : decode (p_c 21) 119 = .ok (.isub, 1)) rfl rfl
theorem e21_120 : V 21 120 [l0, some (.int x), l2, l3, l4, l5, l6, l7, l8, l9] st h Q = V 21 121 [l0, some (.int x), l2, l3, l4, l5, l6, l7, l8, l9] (.int x :: st) h Q := V_nx (by decide +kernel : decode (p_c 21) 120 = .ok (.iload_n 1, 1)) rfl rfl
theorem e21_121 : V 21 121 L (.int z :: .int x :: st) h Q = V 21 122 L (.int (x &&& z) :: st) h Q := V_nx (by decide +kernel : decode (p_c 21) 121 = .ok (.iand, 1)) rfl rfl
theorem e21_122 : V 21 122 [l0, l1, l2, l3, l4, l5, l6, l7, l8, l9] (.int x :: st) h Q = V 21 124 [l0, l1, l2, l3, l4, l5, l6, p_dl l7, some (.int x), l9] st h Q := V_nx (by decide +kernel : decode (p_c 21) 122 = .ok (.istore 8, 2)) rfl rfl
theorem e21_124 : V 21 124 L st h Q = V 21 50 L st h Q := V_goto (by decide +kernel : decode (p_c 21) 124 = .ok (.goto (-74), 3)) (by decide)
theorem e21_127 : V 21 127 [some (.ref a), l1, l2, l3, l4, l5, l6, l7, l8, l9] st h Q = V 21 128 [some (.ref a), l1, l2, l3, l4, l5, l6, l7, l8, l9] (.ref a :: st) h Q := V_nx (by decide +kernel : decode (p_c 21) 127 = .ok (.aload_n 0, 1)) rfl rfl
theorem e21_128 : V 21 128 L (.ref a :: st) h Q = (p_ok1 [4] 6 (p_get h a) ∧ V 21 131 L (p_fv 6 (p_get h a) :: st) h Q) := V_gf (t := (3, 1, "WaterShoulders$Mud")) (by decide +kernel : decode (p_c 21) 128 = .ok (.getfield 21, 3)) (by decide +kernel)
theorem e21_131 : V 21 131 [l0, some (.int x), l2, l3, l4, l5, l6, l7, l8, l9] st h Q = V 21 132 [l0, some (.int x), l2, l3, l4, l5, l6, l7, l8, l9] (.int x :: st) h Q := V_nx (by decide +kernel : decode (p_c 21) 131 = .ok (.iload_n 1, 1)) rfl rfl
theorem e21_132 : V 21 132 [l0, l1, l2, l3, l4, l5, some (.int x), l7, l8, l9] st h Q = V 21 134 [l0, l1, l2, l3, l4, l5, some (.int x), l7, l8, l9] (.int x :: st) h Q := V_nx (by decide +kernel : decode (p_c 21) 132 = .ok (.iload 6, 2)) rfl rfl
theorem e21_134 : V 21 134 L (.int x :: .int i :: .ref a :: st) h Q = (p_sok i (p_get h a) ∧ V 21 135 L st (p_set h a (p_ist i x (p_get h a))) Q) := V_ias (by decide +kernel : decode (p_c 21) 134 = .ok (.iastore, 1))
theorem e21_135 : V 21 135 [some (.ref a), l1, l2, l3, l4, l5, l6, l7, l8, l9] st h Q = V 21 136 [some (.ref a), l1, l2, l3, l4, l5, l6, l7, l8, l9] (.ref a :: st) h Q := V_nx (by decide +kernel : decode (p_c 21) 135 = .ok (.aload_n 0, 1)) rfl rfl
theorem e21_136 : V 21 136 L (.ref a :: st) h Q = (p_ok1 [4] 7 (p_get h a) ∧ V 21 139 L (p_fv 7 (p_get h a) :: st) h Q) := V_gf (t := (3, 1, "WaterShoulders$Mud")) (by decide +kernel : decode (p_c 21) 136 = .ok (.getfield 24, 3)) (by decide +kernel)
theorem e21_139 : V 21 139 [l0, some (.int x), l2, l3, l4, l5, l6, l7, l8, l9] st h Q = V 21 140 [l0, some (.int x), l2, l3, l4, l5, l6, l7, l8, l9] (.int x :: st) h Q := V_nx (by decide +kernel : decode (p_c 21) 139 = .ok (.iload_n 1, 1)) rfl rfl
theorem e21_140 : V 21 140 [l0, l1, l2, l3, l4, l5, l6, some (.int x), l8, l9] st h Q = V 21 142 [l0, l1, l2, l3, l4, l5, l6, some (.int x), l8, l9] (.int x :: st) h Q := V_nx (by decide +kernel : decode (p_c 21) 140 = .ok (.iload 7, 2)) rfl rfl
theorem e21_142 : V 21 142 L (.int x :: .int i :: .ref a :: st) h Q = (p_sok i (p_get h a) ∧ V 21 143 L st (p_set h a (p_ist i x (p_get h a))) Q) := V_ias (by decide +kernel : decode (p_c 21) 142 = .ok (.iastore, 1))
theorem e21_143 : V 21 143 L [] h Q = Q none h := V_rv (by decide +kernel : decode (p_c 21) 143 = .ok (.return_, 1)) rfl
theorem m21 : Vm 21 [.ref a, .int x1, .int x2, .int x3, .int x4] h Q = V 21 0 [some (.ref a), some (.int x1), some (.int x2), some (.int x3), some (.int x4), none, none, none, none, none] [] h Q := rfl
theorem e22_0 : V 22 0 L st h Q = V 22 1 L (.int 0 :: st) h Q := V_c (by decide +kernel : decode (p_c 22) 0 = .ok (.iconst 0, 1)) (by decide)
theorem e22_1 : V 22 1 [l0, l1, l2] (.int x :: st) h Q = V 22 2 [p_dl l0, some (.int x), l2] st h Q := V_nx (by decide +kernel : decode (p_c 22) 1 = .ok (.istore_n 1, 1)) rfl rfl
theorem e22_2 : V 22 2 L st h Q = V 22 3 L (.int 0 :: st) h Q := V_c (by decide +kernel : decode (p_c 22) 2 = .ok (.iconst 0, 1)) (by decide)
theorem e22_3 : V 22 3 [l0, l1, l2] (.int x :: st) h Q = V 22 4 [l0, p_dl l1, some (.int x)] st h Q := V_nx (by decide +kernel : decode (p_c 22) 3 = .ok (.istore_n 2, 1)) rfl rfl
theorem e22_4 : V 22 4 [l0, l1, some (.int x)] st h Q = V 22 5 [l0, l1, some (.int x)] (.int x :: st) h Q := V_nx (by decide +kernel : decode (p_c 22) 4 = .ok (.iload_n 2, 1)) rfl rfl
theorem e22_5 : V 22 5 L st h Q = V 22 7 L (.int 32 :: st) h Q := V_b (by decide +kernel : decode (p_c 22) 5 = .ok (.bipush 32, 2)) (by decide)
theorem e22_7 : V 22 7 L (.int z :: .int x :: st) h Q = if x < z then V 22 10 L st h Q else V 22 25 L st h Q := (V_icmp (by decide +kernel : decode (p_c 22) 7 = .ok (.if_icmp .ge 18, 3)) (by decide)).trans i_ge
theorem e22_10 : V 22 10 [l0, some (.int x), l2] st h Q = V 22 11 [l0, some (.int x), l2] (.int x :: st) h Q := V_nx (by decide +kernel : decode (p_c 22) 10 = .ok (.iload_n 1, 1)) rfl rfl
theorem e22_11 : V 22 11 [some (.ref a), l1, l2] st h Q = V 22 12 [some (.ref a), l1, l2] (.ref a :: st) h Q := V_nx (by decide +kernel : decode (p_c 22) 11 = .ok (.aload_n 0, 1)) rfl rfl
theorem e22_12 : V 22 12 L (.ref a :: st) h Q = (p_ok1 [4] 6 (p_get h a) ∧ V 22 15 L (p_fv 6 (p_get h a) :: st) h Q) := V_gf (t := (3, 1, "WaterShoulders$Mud")) (by decide +kernel : decode (p_c 22) 12 = .ok (.getfield 21, 3)) (by decide +kernel)
theorem e22_15 : V 22 15 [l0, l1, some (.int x)] st h Q = V 22 16 [l0, l1, some (.int x)] (.int x :: st) h Q := V_nx (by decide +kernel : decode (p_c 22) 15 = .ok (.iload_n 2, 1)) rfl rfl
theorem e22_16 : V 22 16 L (.int i :: .ref a :: st) h Q = (p_iok i (p_get h a) ∧ V 22 17 L (.int (p_ivl i (p_get h a)) :: st) h Q) := V_ial (by decide +kernel : decode (p_c 22) 16 = .ok (.iaload, 1))
theorem e22_17 : V 22 17 L (.int z :: .int x :: st) h Q = V 22 18 L (.int (x + z) :: st) h Q := V_nx (by decide +kernel : decode (p_c 22) 17 = .ok (.iadd, 1)) rfl rfl
theorem e22_18 : V 22 18 [l0, l1, l2] (.int x :: st) h Q = V 22 19 [p_dl l0, some (.int x), l2] st h Q := V_nx (by decide +kernel : decode (p_c 22) 18 = .ok (.istore_n 1, 1)) rfl rfl
theorem e22_19 : V 22 19 [l0, l1, some (.int x)] st h Q = V 22 22 [l0, p_dl l1, some (.int (x + 1))] st h Q := V_iinc (x := x) (by decide +kernel : decode (p_c 22) 19 = .ok (.iinc 2 1, 3)) (by decide) rfl (Nat.le_of_ble_eq_true rfl)
theorem e22_22 : V 22 22 L st h Q = V 22 4 L st h Q := V_goto (by decide +kernel : decode (p_c 22) 22 = .ok (.goto (-18), 3)) (by decide)
theorem e22_25 : V 22 25 [l0, some (.int x), l2] st h Q = V 22 26 [l0, some (.int x), l2] (.int x :: st) h Q := V_nx (by decide +kernel : decode (p_c 22) 25 = .ok (.iload_n 1, 1)) rfl rfl
theorem e22_26 : V 22 26 L [.int x] h Q = Q (some (.int x)) h := V_ri (by decide +kernel : decode (p_c 22) 26 = .ok (.ireturn, 1)) rfl
theorem m22 : Vm 22 [.ref a] h Q = V 22 0 [some (.ref a), none, none] [] h Q := rfl
theorem e23_0 : V 23 0 L st h Q = V 23 1 L (.int 0 :: st) h Q := V_c (by decide +kernel : decode (p_c 23) 0 = .ok (.iconst 0, 1)) (by decide)
theorem e23_1 : V 23 1 [l0, l1, l2] (.int x :: st) h Q = V 23 2 [p_dl l0, some (.int x), l2] st h Q := V_nx (by decide +kernel : decode (p_c 23) 1 = .ok (.istore_n 1, 1)) rfl rfl
theorem e23_2 : V 23 2 L st h Q = V 23 3 L (.int 0 :: st) h Q := V_c (by decide +kernel : decode (p_c 23) 2 = .ok (.iconst 0, 1)) (by decide)
theorem e23_3 : V 23 3 [l0, l1, l2] (.int x :: st) h Q = V 23 4 [l0, p_dl l1, some (.int x)] st h Q := V_nx (by decide +kernel : decode (p_c 23) 3 = .ok (.istore_n 2, 1)) rfl rfl
theorem e23_4 : V 23 4 [l0, l1, some (.int x)] st h Q = V 23 5 [l0, l1, some (.int x)] (.int x :: st) h Q := V_nx (by decide +kernel : decode (p_c 23) 4 = .ok (.iload_n 2, 1)) rfl rfl
theorem e23_5 : V 23 5 L st h Q = V 23 7 L (.int 32 :: st) h Q := V_b (by decide +kernel : decode (p_c 23) 5 = .ok (.bipush 32, 2)) (by decide)
theorem e23_7 : V 23 7 L (.int z :: .int x :: st) h Q = if x < z then V 23 10 L st h Q else V 23 25 L st h Q := (V_icmp (by decide +kernel : decode (p_c 23) 7 = .ok (.if_icmp .ge 18, 3)) (by decide)).trans i_ge
theorem e23_10 : V 23 10 [l0, some (.int x), l2] st h Q = V 23 11 [l0, some (.int x), l2] (.int x :: st) h Q := V_nx (by decide +kernel : decode (p_c 23) 10 = .ok (.iload_n 1, 1)) rfl rfl
theorem e23_11 : V 23 11 [some (.ref a), l1, l2] st h Q = V 23 12 [some (.ref a), l1, l2] (.ref a :: st) h Q := V_nx (by decide +kernel : decode (p_c 23) 11 = .ok (.aload_n 0, 1)) rfl rfl
theorem e23_12 : V 23 12 L (.ref a :: st) h Q = (p_ok1 [4] 7 (p_get h a) ∧ V 23 15 L (p_fv 7 (p_get h a) :: st) h Q) := V_gf (t := (3, 1, "WaterShoulders$Mud")) (by decide +kernel : decode (p_c 23) 12 = .ok (.getfield 24, 3)) (by decide +kernel)
theorem e23_15 : V 23 15 [l0, l1, some (.int x)] st h Q = V 23 16 [l0, l1, some (.int x)] (.int x :: st) h Q := V_nx (by decide +kernel : decode (p_c 23) 15 = .ok (.iload_n 2, 1)) rfl rfl
theorem e23_16 : V 23 16 L (.int i :: .ref a :: st) h Q = (p_iok i (p_get h a) ∧ V 23 17 L (.int (p_ivl i (p_get h a)) :: st) h Q) := V_ial (by decide +kernel : decode (p_c 23) 16 = .ok (.iaload, 1))
theorem e23_17 : V 23 17 L (.int z :: .int x :: st) h Q = V 23 18 L (.int (x ||| z) :: st) h Q := V_nx (by decide +kernel : decode (p_c 23) 17 = .ok (.ior, 1)) rfl rfl
theorem e23_18 : V 23 18 [l0, l1, l2] (.int x :: st) h Q = V 23 19 [p_dl l0, some (.int x), l2] st h Q := V_nx (by decide +kernel : decode (p_c 23) 18 = .ok (.istore_n 1, 1)) rfl rfl
theorem e23_19 : V 23 19 [l0, l1, some (.int x)] st h Q = V 23 22 [l0, p_dl l1, some (.int (x + 1))] st h Q := V_iinc (x := x) (by decide +kernel : decode (p_c 23) 19 = .ok (.iinc 2 1, 3)) (by decide) rfl (Nat.le_of_ble_eq_true rfl)
theorem e23_22 : V 23 22 L st h Q = V 23 4 L st h Q := V_goto (by decide +kernel : decode (p_c 23) 22 = .ok (.goto (-18), 3)) (by decide)
theorem e23_25 : V 23 25 L st h Q = V 23 26 L (.int 0 :: st) h Q := V_c (by decide +kernel : decode (p_c 23) 25 = .ok (.iconst 0, 1)) (by decide)
theorem e23_26 : V 23 26 [l0, l1, l2] (.int x :: st) h Q = V 23 27 [l0, p_dl l1, some (.int x)] st h Q := V_nx (by decide +kernel : decode (p_c 23) 26 = .ok (.istore_n 2, 1)) rfl rfl
theorem e23_27 : V 23 27 [l0, l1, some (.int x)] st h Q = V 23 28 [l0, l1, some (.int x)] (.int x :: st) h Q := V_nx (by decide +kernel : decode (p_c 23) 27 = .ok (.iload_n 2, 1)) rfl rfl
theorem e23_28 : V 23 28 L st h Q = V 23 30 L (.int 7 :: st) h Q := V_b (by decide +kernel : decode (p_c 23) 28 = .ok (.bipush 7, 2)) (by decide)
theorem e23_30 : V 23 30 L (.int z :: .int x :: st) h Q = if z < x then V 23 48 L st h Q else V 23 33 L st h Q := (V_icmp (by decide +kernel : decode (p_c 23) 30 = .ok (.if_icmp .gt 18, 3)) (by decide)).trans i_gt
theorem e23_33 : V 23 33 [l0, some (.int x), l2] st h Q = V 23 34 [l0, some (.int x), l2] (.int x :: st) h Q := V_nx (by decide +kernel : decode (p_c 23) 33 = .ok (.iload_n 1, 1)) rfl rfl
theorem e23_34 : V 23 34 L st h Q = V 23 35 L (.int 1 :: st) h Q := V_c (by decide +kernel : decode (p_c 23) 34 = .ok (.iconst 1, 1)) (by decide)
theorem e23_35 : V 23 35 [l0, l1, some (.int x)] st h Q = V 23 36 [l0, l1, some (.int x)] (.int x :: st) h Q := V_nx (by decide +kernel : decode (p_c 23) 35 = .ok (.iload_n 2, 1)) rfl rfl
theorem e23_36 : V 23 36 L (.int z :: .int x :: st) h Q = V 23 37 L (.int (x <<< (z &&& 31)) :: st) h Q := V_nx (by decide +kernel : decode (p_c 23) 36 = .ok (.ishl, 1)) rfl rfl
theorem e23_37 : V 23 37 L (.int z :: .int x :: st) h Q = if x = z then V 23 40 L st h Q else V 23 42 L st h Q := (V_icmp (by decide +kernel : decode (p_c 23) 37 = .ok (.if_icmp .ne 5, 3)) (by decide)).trans i_ne
theorem e23_40 : V 23 40 [l0, l1, some (.int x)] st h Q = V 23 41 [l0, l1, some (.int x)] (.int x :: st) h Q := V_nx (by decide +kernel : decode (p_c 23) 40 = .ok (.iload_n 2, 1)) rfl rfl
theorem e23_41 : V 23 41 L [.int x] h Q = Q (some (.int x)) h := V_ri (by decide +kernel : decode (p_c 23) 41 = .ok (.ireturn, 1)) rfl
theorem e23_42 : V 23 42 [l0, l1, some (.int x)] st h Q = V 23 45 [l0, p_dl l1, some (.int (x + 1))] st h Q := V_iinc (x := x) (by decide +kernel : decode (p_c 23) 42 = .ok (.iinc 2 1, 3)) (by decide) rfl (Nat.le_of_ble_eq_true rfl)
theorem e23_45 : V 23 45 L st h Q = V 23 27 L st h Q := V_goto (by decide +kernel : decode (p_c 23) 45 = .ok (.goto (-18), 3)) (by decide)
theorem e23_48 : V 23 48 L st h Q = V 23 49 L (.int (-1) :: st) h Q := V_c (by decide +kernel : decode (p_c 23) 48 = .ok (.iconst (-1), 1)) (by decide)
theorem e23_49 : V 23 49 L [.int x] h Q = Q (some (.int x)) h := V_ri (by decide +kernel : decode (p_c 23) 49 = .ok (.ireturn, 1)) rfl
theorem m23 : Vm 23 [.ref a] h Q = V 23 0 [some (.ref a), none, none] [] h Q := rfl
theorem e24_0 : V 24 0 [some (.ref a)] st h Q = V 24 1 [some (.ref a)] (.ref a :: st) h Q := V_nx (by decide +kernel : decode (p_c 24) 0 = .ok (.aload_n 0, 1)) rfl rfl
theorem e24_1 : V 24 1 L (.ref a :: st) h Q = (p_sm st ∧ V 24 4 L st h Q) := V_oi (by decide +kernel : decode (p_c 24) 1 = .ok (.invokespecial 3, 3)) (by decide +kernel) (by decide +kernel)
theorem e24_4 : V 24 4 [some (.ref a)] st h Q = V 24 5 [some (.ref a)] (.ref a :: st) h Q := V_nx (by decide +kernel : decode (p_c 24) 4 = .ok (.aload_n 0, 1)) rfl rfl
theorem e24_5 : V 24 5 L st h Q = V 24 7 L (.int 6 :: st) h Q := V_b (by decide +kernel : decode (p_c 24) 5 = .ok (.bipush 6, 2)) (by decide)
theorem e24_7 : V 24 7 L (.int 6 :: st) h Q = V 24 9 L (.ref h.1 :: st) (p_new h (.inl (2, 6, .inr (.inl (fun _ => 0)))) 6) Q := V_nal (by decide +kernel : decode (p_c 24) 7 = .ok (.newarray .long, 2)) (by decide +kernel) (by decide +kernel)
theorem e24_9 : V 24 9 L (.ref b :: .ref a :: st) h Q = (p_ok1 [5] 0 (p_get h a) ∧ V 24 12 L st (p_set h a (p_fs 0 (.ref b) (p_get h a))) Q) := V_pf3 (fin := 1) (ref := "WaterShoulders$Odds") (by decide +kernel : decode (p_c 24) 9 = .ok (.putfield 9, 3)) (by decide +kernel) (by decide +kernel)
theorem e24_12 : V 24 12 [some (.ref a)] st h Q = V 24 13 [some (.ref a)] (.ref a :: st) h Q := V_nx (by decide +kernel : decode (p_c 24) 12 = .ok (.aload_n 0, 1)) rfl rfl
theorem e24_13 : V 24 13 L st h Q = V 24 15 L (.int 6 :: st) h Q := V_b (by decide +kernel : decode (p_c 24) 13 = .ok (.bipush 6, 2)) (by decide)
theorem e24_15 : V 24 15 L (.int 6 :: st) h Q = V 24 17 L (.ref h.1 :: st) (p_new h (.inl (2, 6, .inr (.inl (fun _ => 0)))) 6) Q := V_nal (by decide +kernel : decode (p_c 24) 15 = .ok (.newarray .long, 2)) (by decide +kernel) (by decide +kernel)
theorem e24_17 : V 24 17 L (.ref b :: .ref a :: st) h Q = (p_ok1 [5] 1 (p_get h a) ∧ V 24 20 L st (p_set h a (p_fs 1 (.ref b) (p_get h a))) Q) := V_pf3 (fin := 1) (ref := "WaterShoulders$Odds") (by decide +kernel : decode (p_c 24) 17 = .ok (.putfield 15, 3)) (by decide +kernel) (by decide +kernel)
theorem e24_20 : V 24 20 L [] h Q = Q none h := V_rv (by decide +kernel : decode (p_c 24) 20 = .ok (.return_, 1)) rfl
theorem m24 : Vm 24 [.ref a] h Q = V 24 0 [some (.ref a)] [] h Q := rfl
theorem e25_0 : V 25 0 [some (.ref a), l1] st h Q = V 25 1 [some (.ref a), l1] (.ref a :: st) h Q := V_nx (by decide +kernel : decode (p_c 25) 0 = .ok (.aload_n 0, 1)) rfl rfl
theorem e25_1 : V 25 1 L (.ref a :: st) h Q = (p_ok1 [5] 0 (p_get h a) ∧ V 25 4 L (p_fv 0 (p_get h a) :: st) h Q) := V_gf (t := (3, 1, "WaterShoulders$Odds")) (by decide +kernel : decode (p_c 25) 1 = .ok (.getfield 9, 3)) (by decide +kernel)
theorem e25_4 : V 25 4 L st h Q = V 25 5 L (.long 0 :: st) h Q := V_lc (by decide +kernel : decode (p_c 25) 4 = .ok (.lconst 0, 1)) (by decide)
theorem e25_5 : V 25 5 L (.long u1 :: .ref b1 :: st) h Q = (p_sm st ∧ Vm 168 [.ref b1, .long u1] h (Kt 25 8 L st Q)) := V_st (n := 2) (as := [.long u1, .ref b1]) (z := 168) (by decide +kernel : decode (p_c 25) 5 = .ok (.invokestatic 18, 3)) (by decide +kernel) rfl (by decide +kernel) rfl
theorem e25_8 : V 25 8 [l0, some (.int x)] st h Q = V 25 9 [l0, some (.int x)] (.int x :: st) h Q := V_nx (by decide +kernel : decode (p_c 25) 8 = .ok (.iload_n 1, 1)) rfl rfl
theorem e25_9 : V 25 9 L (.int x :: st) h Q = if x < 0 then V 25 24 L st h Q else V 25 12 L st h Q := (V_ifc (by decide +kernel : decode (p_c 25) 9 = .ok (.ifCond .lt 15, 3)) (by decide)).trans i_lt
theorem e25_12 : V 25 12 [l0, some (.int x)] st h Q = V 25 13 [l0, some (.int x)] (.int x :: st) h Q := V_nx (by decide +kernel : decode (p_c 25) 12 = .ok (.iload_n 1, 1)) rfl rfl
theorem e25_13 : V 25 13 L st h Q = V 25 14 L (.int 5 :: st) h Q := V_c (by decide +kernel : decode (p_c 25) 13 = .ok (.iconst 5, 1)) (by decide)
theorem e25_14 : V 25 14 L (.int z :: .int x :: st) h Q = if z < x then V 25 24 L st h Q else V 25 17 L st h Q := (V_icmp (by decide +kernel : decode (p_c 25) 14 = .ok (.if_icmp .gt 10, 3)) (by decide)).trans i_gt
theorem e25_17 : V 25 17 [some (.ref a), l1] st h Q = V 25 18 [some (.ref a), l1] (.ref a :: st) h Q := V_nx (by decide +kernel : decode (p_c 25) 17 = .ok (.aload_n 0, 1)) rfl rfl
theorem e25_18 : V 25 18 L (.ref a :: st) h Q = (p_ok1 [5] 0 (p_get h a) ∧ V 25 21 L (p_fv 0 (p_get h a) :: st) h Q) := V_gf (t := (3, 1, "WaterShoulders$Odds")) (by decide +kernel : decode (p_c 25) 18 = .ok (.getfield 9, 3)) (by decide +kernel)
theorem e25_21 : V 25 21 [l0, some (.int x)] st h Q = V 25 22 [l0, some (.int x)] (.int x :: st) h Q := V_nx (by decide +kernel : decode (p_c 25) 21 = .ok (.iload_n 1, 1)) rfl rfl
theorem e25_22 : V 25 22 L st h Q = V 25 23 L (.long 1 :: st) h Q := V_lc (by decide +kernel : decode (p_c 25) 22 = .ok (.lconst 1, 1)) (by decide)
theorem e25_23 : V 25 23 L (.long u :: .int i :: .ref a :: st) h Q = (p_jok i (p_get h a) ∧ V 25 24 L st (p_set h a (p_jst i u (p_get h a))) Q) := V_las (by decide +kernel : decode (p_c 25) 23 = .ok (.lastore, 1))
theorem e25_24 : V 25 24 L [] h Q = Q none h := V_rv (by decide +kernel : decode (p_c 25) 24 = .ok (.return_, 1)) rfl
theorem m25 : Vm 25 [.ref a, .int x1] h Q = V 25 0 [some (.ref a), some (.int x1)] [] h Q := rfl
theorem e26_0 : V 26 0 [some (.ref a), l1, l2, l3, l4, l5, l6] st h Q = V 26 1 [some (.ref a), l1, l2, l3, l4, l5, l6] (.ref a :: st) h Q := V_nx (by decide +kernel : decode (p_c 26) 0 = .ok (.aload_n 0, 1)) rfl rfl
theorem e26_1 : V 26 1 L (.ref a :: st) h Q = (p_ok1 [5] 1 (p_get h a) ∧ V 26 4 L (p_fv 1 (p_get h a) :: st) h Q) := V_gf (t := (3, 1, "WaterShoulders$Odds")) (by decide +kernel : decode (p_c 26) 1 = .ok (.getfield 15, 3)) (by decide +kernel)
theorem e26_4 : V 26 4 L st h Q = V 26 5 L (.long 0 :: st) h Q := V_lc (by decide +kernel : decode (p_c 26) 4 = .ok (.lconst 0, 1)) (by decide)
theorem e26_5 : V 26 5 L (.long u1 :: .ref b1 :: st) h Q = (p_sm st ∧ Vm 168 [.ref b1, .long u1] h (Kt 26 8 L st Q)) := V_st (n := 2) (as := [.long u1, .ref b1]) (z := 168) (by decide +kernel : decode (p_c 26) 5 = .ok (.invokestatic 18, 3)) (by decide +kernel) rfl (by decide +kernel) rfl
theorem e26_8 : V 26 8 L st h Q = V 26 9 L (.int 0 :: st) h Q := V_c (by decide +kernel : decode (p_c 26) 8 = .ok (.iconst 0, 1)) (by decide)
theorem e26_9 : V 26 9 [l0, l1, l2, l3, l4, l5, l6] (.int x :: st) h Q = V 26 11 [l0, l1, l2, p_dl l3, some (.int x), l5, l6] st h Q := V_nx (by decide +kernel : decode (p_c 26) 9 = .ok (.istore 4, 2)) rfl rfl
theorem e26_11 : V 26 11 [l0, l1, l2, l3, some (.int x), l5, l6] st h Q = V 26 13 [l0, l1, l2, l3, some (.int x), l5, l6] (.int x :: st) h Q := V_nx (by decide +kernel : decode (p_c 26) 11 = .ok (.iload 4, 2)) rfl rfl
theorem e26_13 : V 26 13 L st h Q = V 26 14 L (.int 5 :: st) h Q := V_c (by decide +kernel : decode (p_c 26) 13 = .ok (.iconst 5, 1)) (by decide)
theorem e26_14 : V 26 14 L (.int z :: .int x :: st) h Q = if z < x then V 26 96 L st h Q else V 26 17 L st h Q := (V_icmp (by decide +kernel : decode (p_c 26) 14 = .ok (.if_icmp .gt 82, 3)) (by decide)).trans i_gt
theorem e26_17 : V 26 17 [l0, some (.ref a), l2, l3, l4, l5, l6] st h Q = V 26 18 [l0, some (.ref a), l2, l3, l4, l5, l6] (.ref a :: st) h Q := V_nx (by decide +kernel : decode (p_c 26) 17 = .ok (.aload_n 1, 1)) rfl rfl
theorem e26_17n : V 26 17 [l0, some .null, l2, l3, l4, l5, l6] st h Q = V 26 18 [l0, some .null, l2, l3, l4, l5, l6] (.null :: st) h Q := V_nx (by decide +kernel : decode (p_c 26) 17 = .ok (.aload_n 1, 1)) rfl rfl
theorem e26_18 : V 26 18 [l0, l1, some (.int x), l3, l4, l5, l6] st h Q = V 26 19 [l0, l1, some (.int x), l3, l4, l5, l6] (.int x :: st) h Q := V_nx (by decide +kernel : decode (p_c 26) 18 = .ok (.iload_n 2, 1)) rfl rfl
theorem e26_19 : V 26 19 [l0, some (.ref a), l2, l3, l4, l5, l6] st h Q = V 26 20 [l0, some (.ref a), l2, l3, l4, l5, l6] (.ref a :: st) h Q := V_nx (by decide +kernel : decode (p_c 26) 19 = .ok (.aload_n 1, 1)) rfl rfl
theorem e26_19n : V 26 19 [l0, some .null, l2, l3, l4, l5, l6] st h Q = V 26 20 [l0, some .null, l2, l3, l4, l5, l6] (.null :: st) h Q := V_nx (by decide +kernel : decode (p_c 26) 19 = .ok (.aload_n 1, 1)) rfl rfl
theorem e26_20 : V 26 20 [l0, l1, some (.int x), l3, l4, l5, l6] st h Q = V 26 21 [l0, l1, some (.int x), l3, l4, l5, l6] (.int x :: st) h Q := V_nx (by decide +kernel : decode (p_c 26) 20 = .ok (.iload_n 2, 1)) rfl rfl
theorem e26_21 : V 26 21 [l0, l1, l2, l3, some (.int x), l5, l6] st h Q = V 26 23 [l0, l1, l2, l3, some (.int x), l5, l6] (.int x :: st) h Q := V_nx (by decide +kernel : decode (p_c 26) 21 = .ok (.iload 4, 2)) rfl rfl
theorem e26_23 : V 26 23 L st h Q = V 26 24 L (.int 1 :: st) h Q := V_c (by decide +kernel : decode (p_c 26) 23 = .ok (.iconst 1, 1)) (by decide)
theorem e26_24 : V 26 24 L (.int z :: .int x :: st) h Q = V 26 25 L (.int (x + z) :: st) h Q := V_nx (by decide +kernel : decode (p_c 26) 24 = .ok (.iadd, 1)) rfl rfl
theorem e26_25 : V 26 25 L (.int x2 :: .int x1 :: .ref a :: st) h Q = ((p_cn1 (p_get h a) = 9 ∧ p_sm st) ∧ Vm 63 [.ref a, .int x1, .int x2] h (Kt 26 28 L st Q)) := V_iv (n := 2) (as := [.int x2, .int x1]) (ci := 9) (z := 63) (by decide +kernel : decode (p_c 26) 25 = .ok (.invokevirtual 24, 3)) (by decide +kernel) rfl rfl (by decide +kernel) rfl
theorem e26_28 : V 26 28 L (.int x2 :: .int x1 :: .ref a :: st) h Q = ((p_cn1 (p_get h a) = 9 ∧ p_sm st) ∧ Vm 62 [.ref a, .int x1, .int x2] h (Kt 26 31 L st Q)) := V_iv (n := 2) (as := [.int x2, .int x1]) (ci := 9) (z := 62) (by decide +kernel : decode (p_c 26) 28 = .ok (.invokevirtual 30, 3)) (by decide +kernel) rfl rfl (by decide +kernel) rfl
theorem e26_31 : V 26 31 [l0, l1, l2, l3, l4, l5, l6] (.int x :: st) h Q = V 26 33 [l0, l1, l2, l3, p_dl l4, some (.int x), l6] st h Q := V_nx (by decide +kernel : decode (p_c 26) 31 = .ok (.istore 5, 2)) rfl rfl
theorem e26_33 : V 26 33 [l0, some (.ref a), l2, l3, l4, l5, l6] st h Q = V 26 34 [l0, some (.ref a), l2, l3, l4, l5, l6] (.ref a :: st) h Q := V_nx (by decide +kernel : decode (p_c 26) 33 = .ok (.aload_n 1, 1)) rfl rfl
theorem e26_33n : V 26 33 [l0, some .null, l2, l3, l4, l5, l6] st h Q = V 26 34 [l0, some .null, l2, l3, l4, l5, l6] (.null :: st) h Q := V_nx (by decide +kernel : decode (p_c 26) 33 = .ok (.aload_n 1, 1)) rfl rfl
theorem e26_34 : V 26 34 [l0, l1, some (.int x), l3, l4, l5, l6] st h Q = V 26 35 [l0, l1, some (.int x), l3, l4, l5, l6] (.int x :: st) h Q := V_nx (by decide +kernel : decode (p_c 26) 34 = .ok (.iload_n 2, 1)) rfl rfl
theorem e26_35 : V 26 35 [l0, some (.ref a), l2, l3, l4, l5, l6] st h Q = V 26 36 [l0, some (.ref a), l2, l3, l4, l5, l6] (.ref a :: st) h Q := V_nx (by decide +kernel : decode (p_c 26) 35 = .ok (.aload_n 1, 1)) rfl rfl
theorem e26_35n : V 26 35 [l0, some .null, l2, l3, l4, l5, l6] st h Q = V 26 36 [l0, some .null, l2, l3, l4, l5, l6] (.null :: st) h Q := V_nx (by decide +kernel : decode (p_c 26) 35 = .ok (.aload_n 1, 1)) rfl rfl
theorem e26_36 : V 26 36 [l0, l1, some (.int x), l3, l4, l5, l6] st h Q = V 26 37 [l0, l1, some (.int x), l3, l4, l5, l6] (.int x :: st) h Q := V_nx (by decide +kernel : decode (p_c 26) 36 = .ok (.iload_n 2, 1)) rfl rfl
theorem e26_37 : V 26 37 [l0, l1, l2, l3, some (.int x), l5, l6] st h Q = V 26 39 [l0, l1, l2, l3, some (.int x), l5, l6] (.int x :: st) h Q := V_nx (by decide +kernel : decode (p_c 26) 37 = .ok (.iload 4, 2)) rfl rfl
theorem e26_39 : V 26 39 L (.int x2 :: .int x1 :: .ref a :: st) h Q = ((p_cn1 (p_get h a) = 9 ∧ p_sm st) ∧ Vm 63 [.ref a, .int x1, .int x2] h (Kt 26 42 L st Q)) := V_iv (n := 2) (as := [.int x2, .int x1]) (ci := 9) (z := 63) (by decide +kernel : decode (p_c 26) 39 = .ok (.invokevirtual 24, 3)) (by decide +kernel) rfl rfl (by decide +kernel) rfl
theorem e26_42 : V 26 42 L (.int x2 :: .int x1 :: .ref a :: st) h Q = ((p_cn1 (p_get h a) = 9 ∧ p_sm st) ∧ Vm 62 [.ref a, .int x1, .int x2] h (Kt 26 45 L st Q)) := V_iv (n := 2) (as := [.int x2, .int x1]) (ci := 9) (z := 62) (by decide +kernel : decode (p_c 26) 42 = .ok (.invokevirtual 30, 3)) (by decide +kernel) rfl rfl (by decide +kernel) rfl
theorem e26_45 : V 26 45 [l0, l1, l2, l3, l4, l5, l6] (.int x :: st) h Q = V 26 47 [l0, l1, l2, l3, l4, p_dl l5, some (.int x)] st h Q := V_nx (by decide +kernel : decode (p_c 26) 45 = .ok (.istore 6, 2)) rfl rfl
theorem e26_47 : V 26 47 [some (.ref a), l1, l2, l3, l4, l5, l6] st h Q = V 26 48 [some (.ref a), l1, l2, l3, l4, l5, l6] (.ref a :: st) h Q := V_nx (by decide +kernel : decode (p_c 26) 47 = .ok (.aload_n 0, 1)) rfl rfl
theorem e26_48 : V 26 48 L (.ref a :: st) h Q = (p_ok1 [5] 1 (p_get h a) ∧ V 26 51 L (p_fv 1 (p_get h a) :: st) h Q) := V_gf (t := (3, 1, "WaterShoulders$Odds")) (by decide +kernel : decode (p_c 26) 48 = .ok (.getfield 15, 3)) (by decide +kernel)
theorem e26_51 : V 26 51 [l0, l1, l2, l3, l4, some (.int x), l6] st h Q = V 26 53 [l0, l1, l2, l3, l4, some (.int x), l6] (.int x :: st) h Q := V_nx (by decide +kernel : decode (p_c 26) 51 = .ok (.iload 5, 2)) rfl rfl
theorem e26_53 : V 26 53 L (.int x :: .ref a :: st) h Q = V 26 54 L (.int x :: .ref a :: .int x :: .ref a :: st) h Q := V_nx (by decide +kernel : decode (p_c 26) 53 = .ok (.dup2, 1)) rfl rfl
theorem e26_54 : V 26 54 L (.int i :: .ref a :: st) h Q = (p_jok i (p_get h a) ∧ V 26 55 L (.long (p_jvl i (p_get h a)) :: st) h Q) := V_lal (by decide +kernel : decode (p_c 26) 54 = .ok (.laload, 1))
theorem e26_55 : V 26 55 [some (.ref a), l1, l2, l3, l4, l5, l6] st h Q = V 26 56 [some (.ref a), l1, l2, l3, l4, l5, l6] (.ref a :: st) h Q := V_nx (by decide +kernel : decode (p_c 26) 55 = .ok (.aload_n 0, 1)) rfl rfl
theorem e26_56 : V 26 56 L (.ref a :: st) h Q = (p_ok1 [5] 0 (p_get h a) ∧ V 26 59 L (p_fv 0 (p_get h a) :: st) h Q) := V_gf (t := (3, 1, "WaterShoulders$Odds")) (by decide +kernel : decode (p_c 26) 56 = .ok (.getfield 9, 3)) (by decide +kernel)
theorem e26_59 : V 26 59 [l0, l1, l2, l3, some (.int x), l5, l6] st h Q = V 26 61 [l0, l1, l2, l3, some (.int x), l5, l6] (.int x :: st) h Q := V_nx (by decide +kernel : decode (p_c 26) 59 = .ok (.iload 4, 2)) rfl rfl
theorem e26_61 : V 26 61 L (.int i :: .ref a :: st) h Q = (p_jok i (p_get h a) ∧ V 26 62 L (.long (p_jvl i (p_get h a)) :: st) h Q) := V_lal (by decide +kernel : decode (p_c 26) 61 = .ok (.laload, 1))
theorem e26_62 : V 26 62 [l0, l1, l2, some (.int x), l4, l5, l6] st h Q = V 26 63 [l0, l1, l2, some (.int x), l4, l5, l6] (.int x :: st) h Q := V_nx (by decide +kernel : decode (p_c 26) 62 = .ok (.iload_n 3, 1)) rfl rfl
theorem e26_63 : V 26 63 L (.int x :: st) h Q = V 26 64 L (.long x.toInt64 :: st) h Q := V_nx (by decide +kernel : decode (p_c 26) 63 = .ok (.i2l, 1)) rfl rfl
theorem e26_64 : V 26 64 L (.long w :: .long u :: st) h Q = V 26 65 L (.long (u * w) :: st) h Q := V_nx (by decide +kernel : decode (p_c 26) 64 = .ok (.lmul, 1)) rfl rfl
theorem e26_65 : V 26 65 L (.long w :: .long u :: st) h Q = V 26 66 L (.long (u + w) :: st) h Q := V_nx (by decide +kernel : decode (p_c 26) 65 = .ok (.ladd, 1)) rfl rfl
theorem e26_66 : V 26 66 L (.long u :: .int i :: .ref a :: st) h Q = (p_jok i (p_get h a) ∧ V 26 67 L st (p_set h a (p_jst i u (p_get h a))) Q) := V_las (by decide +kernel : decode (p_c 26) 66 = .ok (.lastore, 1))
theorem e26_67 : V 26 67 [some (.ref a), l1, l2, l3, l4, l5, l6] st h Q = V 26 68 [some (.ref a), l1, l2, l3, l4, l5, l6] (.ref a :: st) h Q := V_nx (by decide +kernel : decode (p_c 26) 67 = .ok (.aload_n 0, 1)) rfl rfl
theorem e26_68 : V 26 68 L (.ref a :: st) h Q = (p_ok1 [5] 1 (p_get h a) ∧ V 26 71 L (p_fv 1 (p_get h a) :: st) h Q) := V_gf (t := (3, 1, "WaterShoulders$Odds")) (by decide +kernel : decode (p_c 26) 68 = .ok (.getfield 15, 3)) (by decide +kernel)
theorem e26_71 : V 26 71 [l0, l1, l2, l3, l4, l5, some (.int x)] st h Q = V 26 73 [l0, l1, l2, l3, l4, l5, some (.int x)] (.int x :: st) h Q := V_nx (by decide +kernel : decode (p_c 26) 71 = .ok (.iload 6, 2)) rfl rfl
theorem e26_73 : V 26 73 L (.int x :: .ref a :: st) h Q = V 26 74 L (.int x :: .ref a :: .int x :: .ref a :: st) h Q := V_nx (by decide +kernel : decode (p_c 26) 73 = .ok (.dup2, 1)) rfl rfl
theorem e26_74 : V 26 74 L (.int i :: .ref a :: st) h Q = (p_jok i (p_get h a) ∧ V 26 75 L (.long (p_jvl i (p_get h a)) :: st) h Q) := V_lal (by decide +kernel : decode (p_c 26) 74 = .ok (.laload, 1))
theorem e26_75 : V 26 75 [some (.ref a), l1, l2, l3, l4, l5, l6] st h Q = V 26 76 [some (.ref a), l1, l2, l3, l4, l5, l6] (.ref a :: st) h Q := V_nx (by decide +kernel : decode (p_c 26) 75 = .ok (.aload_n 0, 1)) rfl rfl
theorem e26_76 : V 26 76 L (.ref a :: st) h Q = (p_ok1 [5] 0 (p_get h a) ∧ V 26 79 L (p_fv 0 (p_get h a) :: st) h Q) := V_gf (t := (3, 1, "WaterShoulders$Odds")) (by decide +kernel : decode (p_c 26) 76 = .ok (.getfield 9, 3)) (by decide +kernel)
theorem e26_79 : V 26 79 [l0, l1, l2, l3, some (.int x), l5, l6] st h Q = V 26 81 [l0, l1, l2, l3, some (.int x), l5, l6] (.int x :: st) h Q := V_nx (by decide +kernel : decode (p_c 26) 79 = .ok (.iload 4, 2)) rfl rfl
theorem e26_81 : V 26 81 L (.int i :: .ref a :: st) h Q = (p_jok i (p_get h a) ∧ V 26 82 L (.long (p_jvl i (p_get h a)) :: st) h Q) := V_lal (by decide +kernel : decode (p_c 26) 81 = .ok (.laload, 1))
theorem e26_82 : V 26 82 L st h Q = V 26 84 L (.int 10 :: st) h Q := V_b (by decide +kernel : decode (p_c 26) 82 = .ok (.bipush 10, 2)) (by decide)
theorem e26_84 : V 26 84 [l0, l1, l2, some (.int x), l4, l5, l6] st h Q = V 26 85 [l0, l1, l2, some (.int x), l4, l5, l6] (.int x :: st) h Q := V_nx (by decide +kernel : decode (p_c 26) 84 = .ok (.iload_n 3, 1)) rfl rfl
theorem e26_85 : V 26 85 L (.int z :: .int x :: st) h Q = V 26 86 L (.int (x - z) :: st) h Q := V_nx (by decide +kernel : decode (p_c 26) 85 = .ok (.isub, 1)) rfl rfl
theorem e26_86 : V 26 86 L (.int x :: st) h Q = V 26 87 L (.long x.toInt64 :: st) h Q := V_nx (by decide +kernel : decode (p_c 26) 86 = .ok (.i2l, 1)) rfl rfl
theorem e26_87 : V 26 87 L (.long w :: .long u :: st) h Q = V 26 88 L (.long (u * w) :: st) h Q := V_nx (by decide +kernel : decode (p_c 26) 87 = .ok (.lmul, 1)) rfl rfl
theorem e26_88 : V 26 88 L (.long w :: .long u :: st) h Q = V 26 89 L (.long (u + w) :: st) h Q := V_nx (by decide +kernel : decode (p_c 26) 88 = .ok (.ladd, 1)) rfl rfl
theorem e26_89 : V 26 89 L (.long u :: .int i :: .ref a :: st) h Q = (p_jok i (p_get h a) ∧ V 26 90 L st (p_set h a (p_jst i u (p_get h a))) Q) := V_las (by decide +kernel : decode (p_c 26) 89 = .ok (.lastore, 1))
theorem e26_90 : V 26 90 [l0, l1, l2, l3, some (.int x), l5, l6] st h Q = V 26 93 [l0, l1, l2, p_dl l3, some (.int (x + 1)), l5, l6] st h Q := V_iinc (x := x) (by decide +kernel : decode (p_c 26) 90 = .ok (.iinc 4 1, 3)) (by decide) rfl (Nat.le_of_ble_eq_true rfl)
theorem e26_93 : V 26 93 L st h Q = V 26 11 L st h Q := V_goto (by decide +kernel : decode (p_c 26) 93 = .ok (.goto (-82), 3)) (by decide)
theorem e26_96 : V 26 96 [some (.ref a), l1, l2, l3, l4, l5, l6] st h Q = V 26 97 [some (.ref a), l1, l2, l3, l4, l5, l6] (.ref a :: st) h Q := V_nx (by decide +kernel : decode (p_c 26) 96 = .ok (.aload_n 0, 1)) rfl rfl
theorem e26_97 : V 26 97 L (.ref a :: st) h Q = (p_ok1 [5] 1 (p_get h a) ∧ V 26 100 L (p_fv 1 (p_get h a) :: st) h Q) := V_gf (t := (3, 1, "WaterShoulders$Odds")) (by decide +kernel : decode (p_c 26) 97 = .ok (.getfield 15, 3)) (by decide +kernel)
theorem e26_100 : V 26 100 L st h Q = V 26 101 L (.int 0 :: st) h Q := V_c (by decide +kernel : decode (p_c 26) 100 = .ok (.iconst 0, 1)) (by decide)
theorem e26_101 : V 26 101 [some (.ref a), l1, l2, l3, l4, l5, l6] st h Q = V 26 102 [some (.ref a), l1, l2, l3, l4, l5, l6] (.ref a :: st) h Q := V_nx (by decide +kernel : decode (p_c 26) 101 = .ok (.aload_n 0, 1)) rfl rfl
theorem e26_102 : V 26 102 L (.ref a :: st) h Q = (p_ok1 [5] 0 (p_get h a) ∧ V 26 105 L (p_fv 0 (p_get h a) :: st) h Q) := V_gf (t := (3, 1, "WaterShoulders$Odds")) (by decide +kernel : decode (p_c 26) 102 = .ok (.getfield 9, 3)) (by decide +kernel)
theorem e26_105 : V 26 105 L st h Q = V 26 106 L (.int 0 :: st) h Q := V_c (by decide +kernel : decode (p_c 26) 105 = .ok (.iconst 0, 1)) (by decide)
theorem e26_106 : V 26 106 L st h Q = V 26 108 L (.int 6 :: st) h Q := V_b (by decide +kernel : decode (p_c 26) 106 = .ok (.bipush 6, 2)) (by decide)
theorem e26_108 : V 26 108 L (.int x3 :: .int x2 :: .ref b :: .int x1 :: .ref a :: st) h Q = ((p_sm st ∧ p_aci x1 x2 x3 (p_get h a) (p_get h b)) ∧ V 26 111 L st (p_set h b (p_acv x1 x2 x3 (p_get h a) (p_get h b))) Q) := V_ac (by decide +kernel : decode (p_c 26) 108 = .ok (.invokestatic 33, 3)) (by decide +kernel) (by decide +kernel) (by decide +kernel) (by decide +kernel)
theorem e26_111 : V 26 111 L [] h Q = Q none h := V_rv (by decide +kernel : decode (p_c 26) 111 = .ok (.return_, 1)) rfl
theorem m26 : Vm 26 [.ref a, .ref b1, .int x1, .int x2] h Q = V 26 0 [some (.ref a), some (.ref b1), some (.int x1), some (.int x2), none, none, none] [] h Q := rfl
theorem e27_0 : V 27 0 L st h Q = V 27 1 L (.long 0 :: st) h Q := V_lc (by decide +kernel : decode (p_c 27) 0 = .ok (.lconst 0, 1)) (by decide)
theorem e27_1 : V 27 1 [l0, l1, l2, l3, l4] (.long u :: st) h Q = V 27 2 [l0, p_dl l1, some (.long u), none, l4] st h Q := V_nx (by decide +kernel : decode (p_c 27) 1 = .ok (.lstore_n 2, 1)) rfl rfl
theorem e27_2 : V 27 2 L st h Q = V 27 3 L (.int 0 :: st) h Q := V_c (by decide +kernel : decode (p_c 27) 2 = .ok (.iconst 0, 1)) (by decide)
theorem e27_3 : V 27 3 [l0, some (.int x), l2, l3, l4] st h Q = V 27 4 [l0, some (.int x), l2, l3, l4] (.int x :: st) h Q := V_nx (by decide +kernel : decode (p_c 27) 3 = .ok (.iload_n 1, 1)) rfl rfl
theorem e27_4 : V 27 4 L (.int z :: .int x :: st) h Q = (p_sm st ∧ V 27 7 L (.int (if x < z then z else x) :: st) h Q) := V_mm (by decide +kernel : decode (p_c 27) 4 = .ok (.invokestatic 39, 3)) (by decide +kernel) (by decide +kernel) (by decide +kernel) (Or.inl ⟨rfl, rfl⟩)
theorem e27_7 : V 27 7 [l0, l1, l2, l3, l4] (.int x :: st) h Q = V 27 9 [l0, l1, l2, p_dl l3, some (.int x)] st h Q := V_nx (by decide +kernel : decode (p_c 27) 7 = .ok (.istore 4, 2)) rfl rfl
theorem e27_9 : V 27 9 [l0, l1, l2, l3, some (.int x)] st h Q = V 27 11 [l0, l1, l2, l3, some (.int x)] (.int x :: st) h Q := V_nx (by decide +kernel : decode (p_c 27) 9 = .ok (.iload 4, 2)) rfl rfl
theorem e27_11 : V 27 11 L st h Q = V 27 12 L (.int 5 :: st) h Q := V_c (by decide +kernel : decode (p_c 27) 11 = .ok (.iconst 5, 1)) (by decide)
theorem e27_12 : V 27 12 L (.int z :: .int x :: st) h Q = if z < x then V 27 31 L st h Q else V 27 15 L st h Q := (V_icmp (by decide +kernel : decode (p_c 27) 12 = .ok (.if_icmp .gt 19, 3)) (by decide)).trans i_gt
theorem e27_15 : V 27 15 [l0, l1, some (.long u), l3, l4] st h Q = V 27 16 [l0, l1, some (.long u), l3, l4] (.long u :: st) h Q := V_nx (by decide +kernel : decode (p_c 27) 15 = .ok (.lload_n 2, 1)) rfl rfl
theorem e27_16 : V 27 16 [some (.ref a), l1, l2, l3, l4] st h Q = V 27 17 [some (.ref a), l1, l2, l3, l4] (.ref a :: st) h Q := V_nx (by decide +kernel : decode (p_c 27) 16 = .ok (.aload_n 0, 1)) rfl rfl
theorem e27_17 : V 27 17 L (.ref a :: st) h Q = (p_ok1 [5] 0 (p_get h a) ∧ V 27 20 L (p_fv 0 (p_get h a) :: st) h Q) := V_gf (t := (3, 1, "WaterShoulders$Odds")) (by decide +kernel : decode (p_c 27) 17 = .ok (.getfield 9, 3)) (by decide +kernel)
theorem e27_20 : V 27 20 [l0, l1, l2, l3, some (.int x)] st h Q = V 27 22 [l0, l1, l2, l3, some (.int x)] (.int x :: st) h Q := V_nx (by decide +kernel : decode (p_c 27) 20 = .ok (.iload 4, 2)) rfl rfl
theorem e27_22 : V 27 22 L (.int i :: .ref a :: st) h Q = (p_jok i (p_get h a) ∧ V 27 23 L (.long (p_jvl i (p_get h a)) :: st) h Q) := V_lal (by decide +kernel : decode (p_c 27) 22 = .ok (.laload, 1))
theorem e27_23 : V 27 23 L (.long w :: .long u :: st) h Q = V 27 24 L (.long (u + w) :: st) h Q := V_nx (by decide +kernel : decode (p_c 27) 23 = .ok (.ladd, 1)) rfl rfl
theorem e27_24 : V 27 24 [l0, l1, l2, l3, l4] (.long u :: st) h Q = V 27 25 [l0, p_dl l1, some (.long u), none, l4] st h Q := V_nx (by decide +kernel : decode (p_c 27) 24 = .ok (.lstore_n 2, 1)) rfl rfl
theorem e27_25 : V 27 25 [l0, l1, l2, l3, some (.int x)] st h Q = V 27 28 [l0, l1, l2, p_dl l3, some (.int (x + 1))] st h Q := V_iinc (x := x) (by decide +kernel : decode (p_c 27) 25 = .ok (.iinc 4 1, 3)) (by decide) rfl (Nat.le_of_ble_eq_true rfl)
theorem e27_28 : V 27 28 L st h Q = V 27 9 L st h Q := V_goto (by decide +kernel : decode (p_c 27) 28 = .ok (.goto (-19), 3)) (by decide)
theorem e27_31 : V 27 31 [l0, l1, some (.long u), l3, l4] st h Q = V 27 32 [l0, l1, some (.long u), l3, l4] (.long u :: st) h Q := V_nx (by decide +kernel : decode (p_c 27) 31 = .ok (.lload_n 2, 1)) rfl rfl
theorem e27_32 : V 27 32 L [.long u] h Q = Q (some (.long u)) h := V_rl (by decide +kernel : decode (p_c 27) 32 = .ok (.lreturn, 1)) rfl
theorem m27 : Vm 27 [.ref a, .int x1] h Q = V 27 0 [some (.ref a), some (.int x1), none, none, none] [] h Q := rfl
theorem e28_0 : V 28 0 [some (.long u), l1, l2, l3, l4, l5, l6, l7, l8, l9, l10] st h Q = V 28 1 [some (.long u), l1, l2, l3, l4, l5, l6, l7, l8, l9, l10] (.long u :: st) h Q := V_nx (by decide +kernel : decode (p_c 28) 0 = .ok (.lload_n 0, 1)) rfl rfl
theorem e28_1 : V 28 1 [l0, l1, l2, l3, l4, l5, l6, l7, l8, l9, l10] (.long u :: st) h Q = V 28 3 [l0, l1, l2, p_dl l3, some (.long u), none, l6, l7, l8, l9, l10] st h Q := V_nx (by decide +kernel : decode (p_c 28) 1 = .ok (.lstore 4, 2)) rfl rfl
theorem e28_3 : V 28 3 [l0, l1, some (.long u), l3, l4, l5, l6, l7, l8, l9, l10] st h Q = V 28 4 [l0, l1, some (.long u), l3, l4, l5, l6, l7, l8, l9, l10] (.long u :: st) h Q := V_nx (by decide +kernel : decode (p_c 28) 3 = .ok (.lload_n 2, 1)) rfl rfl
theorem e28_4 : V 28 4 [l0, l1, l2, l3, l4, l5, l6, l7, l8, l9, l10] (.long u :: st) h Q = V 28 6 [l0, l1, l2, l3, l4, p_dl l5, some (.long u), none, l8, l9, l10] st h Q := V_nx (by decide +kernel : decode (p_c 28) 4 = .ok (.lstore 6, 2)) rfl rfl
theorem e28_6 : V 28 6 L st h Q = V 28 7 L (.int 0 :: st) h Q := V_c (by decide +kernel : decode (p_c 28) 6 = .ok (.iconst 0, 1)) (by decide)
theorem e28_7 : V 28 7 [l0, l1, l2, l3, l4, l5, l6, l7, l8, l9, l10] (.int x :: st) h Q = V 28 9 [l0, l1, l2, l3, l4, l5, l6, p_dl l7, some (.int x), l9, l10] st h Q := V_nx (by decide +kernel : decode (p_c 28) 7 = .ok (.istore 8, 2)) rfl rfl
theorem e28_9 : V 28 9 [l0, l1, l2, l3, l4, l5, l6, l7, some (.int x), l9, l10] st h Q = V 28 11 [l0, l1, l2, l3, l4, l5, l6, l7, some (.int x), l9, l10] (.int x :: st) h Q := V_nx (by decide +kernel : decode (p_c 28) 9 = .ok (.iload 8, 2)) rfl rfl
theorem e28_11 : V 28 11 L st h Q = V 28 13 L (.int 100 :: st) h Q := V_b (by decide +kernel : decode (p_c 28) 11 = .ok (.bipush 100, 2)) (by decide)
theorem e28_13 : V 28 13 L (.int z :: .int x :: st) h Q = if x < z then V 28 16 L st h Q else V 28 44 L st h Q := (V_icmp (by decide +kernel : decode (p_c 28) 13 = .ok (.if_icmp .ge 31, 3)) (by decide)).trans i_ge
theorem e28_16 : V 28 16 [l0, l1, l2, l3, l4, l5, some (.long u), l7, l8, l9, l10] st h Q = V 28 18 [l0, l1, l2, l3, l4, l5, some (.long u), l7, l8, l9, l10] (.long u :: st) h Q := V_nx (by decide +kernel : decode (p_c 28) 16 = .ok (.lload 6, 2)) rfl rfl
theorem e28_18 : V 28 18 L st h Q = V 28 19 L (.long 0 :: st) h Q := V_lc (by decide +kernel : decode (p_c 28) 18 = .ok (.lconst 0, 1)) (by decide)
theorem e28_19 : V 28 19 L (.long w :: .long u :: st) h Q = V 28 20 L (.int (lg_cmp u w) :: st) h Q := V_nx (by decide +kernel : decode (p_c 28) 19 = .ok (.lcmp, 1)) rfl rfl
theorem e28_20 : V 28 20 L (.int x :: st) h Q = if x = 0 then V 28 44 L st h Q else V 28 23 L st h Q := (V_ifc (by decide +kernel : decode (p_c 28) 20 = .ok (.ifCond .eq 24, 3)) (by decide)).trans i_eq
theorem e28_23 : V 28 23 [l0, l1, l2, l3, some (.long u), l5, l6, l7, l8, l9, l10] st h Q = V 28 25 [l0, l1, l2, l3, some (.long u), l5, l6, l7, l8, l9, l10] (.long u :: st) h Q := V_nx (by decide +kernel : decode (p_c 28) 23 = .ok (.lload 4, 2)) rfl rfl
theorem e28_25 : V 28 25 [l0, l1, l2, l3, l4, l5, some (.long u), l7, l8, l9, l10] st h Q = V 28 27 [l0, l1, l2, l3, l4, l5, some (.long u), l7, l8, l9, l10] (.long u :: st) h Q := V_nx (by decide +kernel : decode (p_c 28) 25 = .ok (.lload 6, 2)) rfl rfl
theorem e28_27 : V 28 27 L (.long w :: .long u :: st) h Q = (¬ w = 0 ∧ V 28 28 L (.long (u - u / w * w) :: st) h Q) := V_lrem (by decide +kernel : decode (p_c 28) 27 = .ok (.lrem, 1))
theorem e28_28 : V 28 28 [l0, l1, l2, l3, l4, l5, l6, l7, l8, l9, l10] (.long u :: st) h Q = V 28 30 [l0, l1, l2, l3, l4, l5, l6, l7, p_dl l8, some (.long u), none] st h Q := V_nx (by decide +kernel : decode (p_c 28) 28 = .ok (.lstore 9, 2)) rfl rfl
theorem e28_30 : V 28 30 [l0, l1, l2, l3, l4, l5, some (.long u), l7, l8, l9, l10] st h Q = V 28 32 [l0, l1, l2, l3, l4, l5, some (.long u), l7, l8, l9, l10] (.long u :: st) h Q := V_nx (by decide +kernel : decode (p_c 28) 30 = .ok (.lload 6, 2)) rfl rfl
theorem e28_32 : V 28 32 [l0, l1, l2, l3, l4, l5, l6, l7, l8, l9, l10] (.long u :: st) h Q = V 28 34 [l0, l1, l2, p_dl l3, some (.long u), none, l6, l7, l8, l9, l10] st h Q := V_nx (by decide +kernel : decode (p_c 28) 32 = .ok (.lstore 4, 2)) rfl rfl
theorem e28_34 : V 28 34 [l0, l1, l2, l3, l4, l5, l6, l7, l8, some (.long u), l10] st h Q = V 28 36 [l0, l1, l2, l3, l4, l5, l6, l7, l8, some (.long u), l10] (.long u :: st) h Q := V_nx (by decide +kernel : decode (p_c 28) 34 = .ok (.lload 9, 2)) rfl rfl
theorem e28_36 : V 28 36 [l0, l1, l2, l3, l4, l5, l6, l7, l8, l9, l10] (.long u :: st) h Q = V 28 38 [l0, l1, l2, l3, l4, p_dl l5, some (.long u), none, l8, l9, l10] st h Q := V_nx (by decide +kernel : decode (p_c 28) 36 = .ok (.lstore 6, 2)) rfl rfl
theorem e28_38 : V 28 38 [l0, l1, l2, l3, l4, l5, l6, l7, some (.int x), l9, l10] st h Q = V 28 41 [l0, l1, l2, l3, l4, l5, l6, p_dl l7, some (.int (x + 1)), l9, l10] st h Q := V_iinc (x := x) (by decide +kernel : decode (p_c 28) 38 = .ok (.iinc 8 1, 3)) (by decide) rfl (Nat.le_of_ble_eq_true rfl)
theorem e28_41 : V 28 41 L st h Q = V 28 9 L st h Q := V_goto (by decide +kernel : decode (p_c 28) 41 = .ok (.goto (-32), 3)) (by decide)
theorem e28_44 : V 28 44 [l0, l1, l2, l3, some (.long u), l5, l6, l7, l8, l9, l10] st h Q = V 28 46 [l0, l1, l2, l3, some (.long u), l5, l6, l7, l8, l9, l10] (.long u :: st) h Q := V_nx (by decide +kernel : decode (p_c 28) 44 = .ok (.lload 4, 2)) rfl rfl
theorem e28_46 : V 28 46 L [.long u] h Q = Q (some (.long u)) h := V_rl (by decide +kernel : decode (p_c 28) 46 = .ok (.lreturn, 1)) rfl
theorem m28 : Vm 28 [.long u1, .long u2] h Q = V 28 0 [some (.long u1), none, some (.long u2), none, none, none, none, none, none, none, none] [] h Q := rfl
theorem e29_0 : V 29 0 [some (.ref a)] st h Q = V 29 1 [some (.ref a)] (.ref a :: st) h Q := V_nx (by decide +kernel : decode (p_c 29) 0 = .ok (.aload_n 0, 1)) rfl rfl
theorem e29_1 : V 29 1 L (.ref a :: st) h Q = (p_sm st ∧ V 29 4 L st h Q) := V_oi (by decide +kernel : decode (p_c 29) 1 = .ok (.invokespecial 3, 3)) (by decide +kernel) (by decide +kernel)
theorem e29_4 : V 29 4 [some (.ref a)] st h Q = V 29 5 [some (.ref a)] (.ref a :: st) h Q := V_nx (by decide +kernel : decode (p_c 29) 4 = .ok (.aload_n 0, 1)) rfl rfl
theorem e29_5 : V 29 5 L st h Q = V 29 7 L (.int 14 :: st) h Q := V_b (by decide +kernel : decode (p_c 29) 5 = .ok (.bipush 14, 2)) (by decide)
theorem e29_7 : V 29 7 L (.int 14 :: st) h Q = V 29 9 L (.ref h.1 :: st) (p_new h (.inl (0, 14, .inl (fun _ => 0))) 14) Q := V_nai (by decide +kernel : decode (p_c 29) 7 = .ok (.newarray .int, 2)) (by decide +kernel) (by decide +kernel)
theorem e29_9 : V 29 9 L (.ref b :: .ref a :: st) h Q = (p_ok1 [6] 0 (p_get h a) ∧ V 29 12 L st (p_set h a (p_fs 0 (.ref b) (p_get h a))) Q) := V_pf3 (fin := 1) (ref := "WaterShoulders$Page") (by decide +kernel : decode (p_c 29) 9 = .ok (.putfield 11, 3)) (by decide +kernel) (by decide +kernel)
theorem e29_12 : V 29 12 L [] h Q = Q none h := V_rv (by decide +kernel : decode (p_c 29) 12 = .ok (.return_, 1)) rfl
theorem m29 : Vm 29 [.ref a] h Q = V 29 0 [some (.ref a)] [] h Q := rfl
theorem e30_0 : V 30 0 L st h Q = V 30 1 L (.int 0 :: st) h Q := V_c (by decide +kernel : decode (p_c 30) 0 = .ok (.iconst 0, 1)) (by decide)
theorem e30_1 : V 30 1 [l0, l1, l2, l3, l4] (.int x :: st) h Q = V 30 2 [l0, p_dl l1, some (.int x), l3, l4] st h Q := V_nx (by decide +kernel : decode (p_c 30) 1 = .ok (.istore_n 2, 1)) rfl rfl
theorem e30_2 : V 30 2 L st h Q = V 30 3 L (.int 0 :: st) h Q := V_c (by decide +kernel : decode (p_c 30) 2 = .ok (.iconst 0, 1)) (by decide)
theorem e30_3 : V 30 3 [l0, l1, l2, l3, l4] (.int x :: st) h Q = V 30 4 [l0, l1, p_dl l2, some (.int x), l4] st h Q := V_nx (by decide +kernel : decode (p_c 30) 3 = .ok (.istore_n 3, 1)) rfl rfl
theorem e30_4 : V 30 4 [l0, l1, l2, some (.int x), l4] st h Q = V 30 5 [l0, l1, l2, some (.int x), l4] (.int x :: st) h Q := V_nx (by decide +kernel : decode (p_c 30) 4 = .ok (.iload_n 3, 1)) rfl rfl
theorem e30_5 : V 30 5 L st h Q = V 30 7 L (.int 8 :: st) h Q := V_b (by decide +kernel : decode (p_c 30) 5 = .ok (.bipush 8, 2)) (by decide)
theorem e30_7 : V 30 7 L (.int z :: .int x :: st) h Q = if x < z then V 30 10 L st h Q else V 30 51 L st h Q := (V_icmp (by decide +kernel : decode (p_c 30) 7 = .ok (.if_icmp .ge 44, 3)) (by decide)).trans i_ge
theorem e30_10 : V 30 10 [some (.long u), l1, l2, l3, l4] st h Q = V 30 11 [some (.long u), l1, l2, l3, l4] (.long u :: st) h Q := V_nx (by decide +kernel : decode (p_c 30) 10 = .ok (.lload_n 0, 1)) rfl rfl
theorem e30_11 : V 30 11 [l0, l1, l2, some (.int x), l4] st h Q = V 30 12 [l0, l1, l2, some (.int x), l4] (.int x :: st) h Q := V_nx (by decide +kernel : decode (p_c 30) 11 = .ok (.iload_n 3, 1)) rfl rfl
theorem e30_12 : V 30 12 L (.int x1 :: .long u1 :: st) h Q = (p_sm st ∧ Vm 31 [.long u1, .int x1] h (Kt 30 15 L st Q)) := V_st (n := 2) (as := [.int x1, .long u1]) (z := 31) (by decide +kernel : decode (p_c 30) 12 = .ok (.invokestatic 15, 3)) (by decide +kernel) rfl (by decide +kernel) rfl
theorem e30_15 : V 30 15 [l0, l1, l2, l3, l4] (.int x :: st) h Q = V 30 17 [l0, l1, l2, p_dl l3, some (.int x)] st h Q := V_nx (by decide +kernel : decode (p_c 30) 15 = .ok (.istore 4, 2)) rfl rfl
theorem e30_17 : V 30 17 [l0, l1, l2, l3, some (.int x)] st h Q = V 30 19 [l0, l1, l2, l3, some (.int x)] (.int x :: st) h Q := V_nx (by decide +kernel : decode (p_c 30) 17 = .ok (.iload 4, 2)) rfl rfl
theorem e30_19 : V 30 19 L st h Q = V 30 21 L (.int 126 :: st) h Q := V_b (by decide +kernel : decode (p_c 30) 19 = .ok (.bipush 126, 2)) (by decide)
theorem e30_21 : V 30 21 L (.int z :: .int x :: st) h Q = if z < x then V 30 34 L st h Q else V 30 24 L st h Q := (V_icmp (by decide +kernel : decode (p_c 30) 21 = .ok (.if_icmp .gt 13, 3)) (by decide)).trans i_gt
theorem e30_24 : V 30 24 [l0, l1, l2, l3, some (.int x)] st h Q = V 30 26 [l0, l1, l2, l3, some (.int x)] (.int x :: st) h Q := V_nx (by decide +kernel : decode (p_c 30) 24 = .ok (.iload 4, 2)) rfl rfl
theorem e30_26 : V 30 26 L (.int x :: st) h Q = if x = 0 then V 30 37 L st h Q else V 30 29 L st h Q := (V_ifc (by decide +kernel : decode (p_c 30) 26 = .ok (.ifCond .eq 11, 3)) (by decide)).trans i_eq
theorem e30_29 : V 30 29 [l0, l1, some (.int x), l3, l4] st h Q = V 30 30 [l0, l1, some (.int x), l3, l4] (.int x :: st) h Q := V_nx (by decide +kernel : decode (p_c 30) 29 = .ok (.iload_n 2, 1)) rfl rfl
theorem e30_30 : V 30 30 [l0, l1, l2, some (.int x), l4] st h Q = V 30 31 [l0, l1, l2, some (.int x), l4] (.int x :: st) h Q := V_nx (by decide +kernel : decode (p_c 30) 30 = .ok (.iload_n 3, 1)) rfl rfl
theorem e30_31 : V 30 31 L (.int z :: .int x :: st) h Q = if x < z then V 30 34 L st h Q else V 30 37 L st h Q := (V_icmp (by decide +kernel : decode (p_c 30) 31 = .ok (.if_icmp .ge 6, 3)) (by decide)).trans i_ge
theorem e30_34 : V 30 34 L st h Q = V 30 36 L (.int (-102) :: st) h Q := V_b (by decide +kernel : decode (p_c 30) 34 = .ok (.bipush (-102), 2)) (by decide)
theorem e30_36 : V 30 36 L [.int x] h Q = Q (some (.int x)) h := V_ri (by decide +kernel : decode (p_c 30) 36 = .ok (.ireturn, 1)) rfl
theorem e30_37 : V 30 37 [l0, l1, l2, l3, some (.int x)] st h Q = V 30 39 [l0, l1, l2, l3, some (.int x)] (.int x :: st) h Q := V_nx (by decide +kernel : decode (p_c 30) 37 = .ok (.iload 4, 2)) rfl rfl
theorem e30_39 : V 30 39 L (.int x :: st) h Q = if x = 0 then V 30 45 L st h Q else V 30 42 L st h Q := (V_ifc (by decide +kernel : decode (p_c 30) 39 = .ok (.ifCond .eq 6, 3)) (by decide)).trans i_eq
theorem e30_42 : V 30 42 [l0, l1, some (.int x), l3, l4] st h Q = V 30 45 [l0, p_dl l1, some (.int (x + 1)), l3, l4] st h Q := V_iinc (x := x) (by decide +kernel : decode (p_c 30) 42 = .ok (.iinc 2 1, 3)) (by decide) rfl (Nat.le_of_ble_eq_true rfl)
theorem e30_45 : V 30 45 [l0, l1, l2, some (.int x), l4] st h Q = V 30 48 [l0, l1, p_dl l2, some (.int (x + 1)), l4] st h Q := V_iinc (x := x) (by decide +kernel : decode (p_c 30) 45 = .ok (.iinc 3 1, 3)) (by decide) rfl (Nat.le_of_ble_eq_true rfl)
theorem e30_48 : V 30 48 L st h Q = V 30 4 L st h Q := V_goto (by decide +kernel : decode (p_c 30) 48 = .ok (.goto (-44), 3)) (by decide)
theorem e30_51 : V 30 51 [l0, l1, some (.int x), l3, l4] st h Q = V 30 52 [l0, l1, some (.int x), l3, l4] (.int x :: st) h Q := V_nx (by decide +kernel : decode (p_c 30) 51 = .ok (.iload_n 2, 1)) rfl rfl
theorem e30_52 : V 30 52 L [.int x] h Q = Q (some (.int x)) h := V_ri (by decide +kernel : decode (p_c 30) 52 = .ok (.ireturn, 1)) rfl
theorem m30 : Vm 30 [.long u1] h Q = V 30 0 [some (.long u1), none, none, none, none] [] h Q := rfl
theorem e31_0 : V 31 0 [some (.long u), l1, l2] st h Q = V 31 1 [some (.long u), l1, l2] (.long u :: st) h Q := V_nx (by decide +kernel : decode (p_c 31) 0 = .ok (.lload_n 0, 1)) rfl rfl
theorem e31_1 : V 31 1 L st h Q = V 31 3 L (.int 8 :: st) h Q := V_b (by decide +kernel : decode (p_c 31) 1 = .ok (.bipush 8, 2)) (by decide)
theorem e31_3 : V 31 3 [l0, l1, some (.int x)] st h Q = V 31 4 [l0, l1, some (.int x)] (.int x :: st) h Q := V_nx (by decide +kernel : decode (p_c 31) 3 = .ok (.iload_n 2, 1)) rfl rfl
theorem e31_4 : V 31 4 L (.int z :: .int x :: st) h Q = V 31 5 L (.int (x * z) :: st) h Q := V_nx (by decide +kernel : decode (p_c 31) 4 = .ok (.imul, 1)) rfl rfl
theorem e31_5 : V 31 5 L (.int x :: .long u :: st) h Q = V 31 6 L (.long ((u.toUInt64 >>> (x.toInt64.toUInt64 &&& Int64.toUInt64 63)).toInt64) :: st) h Q := V_nx (by decide +kernel : decode (p_c 31) 5 = .ok (.lushr, 1)) rfl rfl
theorem e31_6 : V 31 6 L (.long u :: st) h Q = V 31 7 L (.int u.toInt32 :: st) h Q := V_nx (by decide +kernel : decode (p_c 31) 6 = .ok (.l2i, 1)) rfl rfl
theorem e31_7 : V 31 7 L st h Q = V 31 10 L (.int 255 :: st) h Q := V_s (by decide +kernel : decode (p_c 31) 7 = .ok (.sipush 255, 3)) (by decide)
theorem e31_10 : V 31 10 L (.int z :: .int x :: st) h Q = V 31 11 L (.int (x &&& z) :: st) h Q := V_nx (by decide +kernel : decode (p_c 31) 10 = .ok (.iand, 1)) rfl rfl
theorem e31_11 : V 31 11 L [.int x] h Q = Q (some (.int x)) h := V_ri (by decide +kernel : decode (p_c 31) 11 = .ok (.ireturn, 1)) rfl
theorem m31 : Vm 31 [.long u1, .int x1] h Q = V 31 0 [some (.long u1), none, some (.int x1)] [] h Q := rfl
theorem e32_0 : V 32 0 L st h Q = V 32 1 L (.int 0 :: st) h Q := V_c (by decide +kernel : decode (p_c 32) 0 = .ok (.iconst 0, 1)) (by decide)
theorem e32_1 : V 32 1 [l0, l1, l2, l3, l4] (.int x :: st) h Q = V 32 3 [l0, l1, l2, p_dl l3, some (.int x)] st h Q := V_nx (by decide +kernel : decode (p_c 32) 1 = .ok (.istore 4, 2)) rfl rfl
theorem e32_3 : V 32 3 [l0, l1, l2, l3, some (.int x)] st h Q = V 32 5 [l0, l1, l2, l3, some (.int x)] (.int x :: st) h Q := V_nx (by decide +kernel : decode (p_c 32) 3 = .ok (.iload 4, 2)) rfl rfl
theorem e32_5 : V 32 5 [l0, l1, l2, some (.int x), l4] st h Q = V 32 6 [l0, l1, l2, some (.int x), l4] (.int x :: st) h Q := V_nx (by decide +kernel : decode (p_c 32) 5 = .ok (.iload_n 3, 1)) rfl rfl
theorem e32_6 : V 32 6 L (.int z :: .int x :: st) h Q = if x < z then V 32 9 L st h Q else V 32 49 L st h Q := (V_icmp (by decide +kernel : decode (p_c 32) 6 = .ok (.if_icmp .ge 43, 3)) (by decide)).trans i_ge
theorem e32_9 : V 32 9 [some (.ref a), l1, l2, l3, l4] st h Q = V 32 10 [some (.ref a), l1, l2, l3, l4] (.ref a :: st) h Q := V_nx (by decide +kernel : decode (p_c 32) 9 = .ok (.aload_n 0, 1)) rfl rfl
theorem e32_10 : V 32 10 L (.ref a :: st) h Q = (p_ok1 [6] 1 (p_get h a) ∧ V 32 13 L (p_fv 1 (p_get h a) :: st) h Q) := V_gf (t := (0, 0, "WaterShoulders$Page")) (by decide +kernel : decode (p_c 32) 10 = .ok (.getfield 19, 3)) (by decide +kernel)
theorem e32_13 : V 32 13 L st h Q = V 32 15 L (.int 14 :: st) h Q := V_b (by decide +kernel : decode (p_c 32) 13 = .ok (.bipush 14, 2)) (by decide)
theorem e32_15 : V 32 15 L (.int z :: .int x :: st) h Q = if x < z then V 32 18 L st h Q else V 32 49 L st h Q := (V_icmp (by decide +kernel : decode (p_c 32) 15 = .ok (.if_icmp .ge 34, 3)) (by decide)).trans i_ge
theorem e32_18 : V 32 18 [some (.ref a), l1, l2, l3, l4] st h Q = V 32 19 [some (.ref a), l1, l2, l3, l4] (.ref a :: st) h Q := V_nx (by decide +kernel : decode (p_c 32) 18 = .ok (.aload_n 0, 1)) rfl rfl
theorem e32_19 : V 32 19 L (.ref a :: st) h Q = (p_ok1 [6] 0 (p_get h a) ∧ V 32 22 L (p_fv 0 (p_get h a) :: st) h Q) := V_gf (t := (3, 1, "WaterShoulders$Page")) (by decide +kernel : decode (p_c 32) 19 = .ok (.getfield 11, 3)) (by decide +kernel)
theorem e32_22 : V 32 22 [some (.ref a), l1, l2, l3, l4] st h Q = V 32 23 [some (.ref a), l1, l2, l3, l4] (.ref a :: st) h Q := V_nx (by decide +kernel : decode (p_c 32) 22 = .ok (.aload_n 0, 1)) rfl rfl
theorem e32_23 : V 32 23 L (.ref a :: st) h Q = (p_ok1 [6] 1 (p_get h a) ∧ V 32 26 L (p_fv 1 (p_get h a) :: st) h Q) := V_gf (t := (0, 0, "WaterShoulders$Page")) (by decide +kernel : decode (p_c 32) 23 = .ok (.getfield 19, 3)) (by decide +kernel)
theorem e32_26 : V 32 26 [l0, some (.long u), l2, l3, l4] st h Q = V 32 27 [l0, some (.long u), l2, l3, l4] (.long u :: st) h Q := V_nx (by decide +kernel : decode (p_c 32) 26 = .ok (.lload_n 1, 1)) rfl rfl
theorem e32_27 : V 32 27 [l0, l1, l2, l3, some (.int x)] st h Q = V 32 29 [l0, l1, l2, l3, some (.int x)] (.int x :: st) h Q := V_nx (by decide +kernel : decode (p_c 32) 27 = .ok (.iload 4, 2)) rfl rfl
theorem e32_29 : V 32 29 L (.int x1 :: .long u1 :: st) h Q = (p_sm st ∧ Vm 31 [.long u1, .int x1] h (Kt 32 32 L st Q)) := V_st (n := 2) (as := [.int x1, .long u1]) (z := 31) (by decide +kernel : decode (p_c 32) 29 = .ok (.invokestatic 15, 3)) (by decide +kernel) rfl (by decide +kernel) rfl
theorem e32_32 : V 32 32 L (.int x :: .int i :: .ref a :: st) h Q = (p_sok i (p_get h a) ∧ V 32 33 L st (p_set h a (p_ist i x (p_get h a))) Q) := V_ias (by decide +kernel : decode (p_c 32) 32 = .ok (.iastore, 1))
theorem e32_33 : V 32 33 [some (.ref a), l1, l2, l3, l4] st h Q = V 32 34 [some (.ref a), l1, l2, l3, l4] (.ref a :: st) h Q := V_nx (by decide +kernel : decode (p_c 32) 33 = .ok (.aload_n 0, 1)) rfl rfl
theorem e32_34 : V 32 34 L (.ref a :: st) h Q = V 32 35 L (.ref a :: .ref a :: st) h Q := V_dup (by decide +kernel : decode (p_c 32) 34 = .ok (.dup, 1)) rfl
theorem e32_34i : V 32 34 L (.int x :: st) h Q = V 32 35 L (.int x :: .int x :: st) h Q := V_dup (by decide +kernel : decode (p_c 32) 34 = .ok (.dup, 1)) rfl
theorem e32_35 : V 32 35 L (.ref a :: st) h Q = (p_ok1 [6] 1 (p_get h a) ∧ V 32 38 L (p_fv 1 (p_get h a) :: st) h Q) := V_gf (t := (0, 0, "WaterShoulders$Page")) (by decide +kernel : decode (p_c 32) 35 = .ok (.getfield 19, 3)) (by decide +kernel)
theorem e32_38 : V 32 38 L st h Q = V 32 39 L (.int 1 :: st) h Q := V_c (by decide +kernel : decode (p_c 32) 38 = .ok (.iconst 1, 1)) (by decide)
theorem e32_39 : V 32 39 L (.int z :: .int x :: st) h Q = V 32 40 L (.int (x + z) :: st) h Q := V_nx (by decide +kernel : decode (p_c 32) 39 = .ok (.iadd, 1)) rfl rfl
theorem e32_40 : V 32 40 L (.int x :: .ref a :: st) h Q = (p_ok1 [6] 1 (p_get h a) ∧ V 32 43 L st (p_set h a (p_fs 1 (.int x) (p_get h a))) Q) := V_pf0 (fin := 0) (ref := "WaterShoulders$Page") (by decide +kernel : decode (p_c 32) 40 = .ok (.putfield 19, 3)) (by decide +kernel) (by decide +kernel)
theorem e32_43 : V 32 43 [l0, l1, l2, l3, some (.int x)] st h Q = V 32 46 [l0, l1, l2, p_dl l3, some (.int (x + 1))] st h Q := V_iinc (x := x) (by decide +kernel : decode (p_c 32) 43 = .ok (.iinc 4 1, 3)) (by decide) rfl (Nat.le_of_ble_eq_true rfl)
theorem e32_46 : V 32 46 L st h Q = V 32 3 L st h Q := V_goto (by decide +kernel : decode (p_c 32) 46 = .ok (.goto (-43), 3)) (by decide)
theorem e32_49 : V 32 49 L [] h Q = Q none h := V_rv (by decide +kernel : decode (p_c 32) 49 = .ok (.return_, 1)) rfl
theorem m32 : Vm 32 [.ref a, .long u1, .int x1] h Q = V 32 0 [some (.ref a), some (.long u1), none, some (.int x1), none] [] h Q := rfl
theorem e33_0 : V 33 0 L st h Q = V 33 1 L (.int 0 :: st) h Q := V_c (by decide +kernel : decode (p_c 33) 0 = .ok (.iconst 0, 1)) (by decide)
theorem e33_1 : V 33 1 [l0, l1] (.int x :: st) h Q = V 33 2 [p_dl l0, some (.int x)] st h Q := V_nx (by decide +kernel : decode (p_c 33) 1 = .ok (.istore_n 1, 1)) rfl rfl
theorem e33_2 : V 33 2 [l0, some (.int x)] st h Q = V 33 3 [l0, some (.int x)] (.int x :: st) h Q := V_nx (by decide +kernel : decode (p_c 33) 2 = .ok (.iload_n 1, 1)) rfl rfl
theorem e33_3 : V 33 3 [some (.ref a), l1] st h Q = V 33 4 [some (.ref a), l1] (.ref a :: st) h Q := V_nx (by decide +kernel : decode (p_c 33) 3 = .ok (.aload_n 0, 1)) rfl rfl
theorem e33_4 : V 33 4 L (.ref a :: st) h Q = (p_ok1 [6] 1 (p_get h a) ∧ V 33 7 L (p_fv 1 (p_get h a) :: st) h Q) := V_gf (t := (0, 0, "WaterShoulders$Page")) (by decide +kernel : decode (p_c 33) 4 = .ok (.getfield 19, 3)) (by decide +kernel)
theorem e33_7 : V 33 7 L (.int z :: .int x :: st) h Q = if x < z then V 33 10 L st h Q else V 33 31 L st h Q := (V_icmp (by decide +kernel : decode (p_c 33) 7 = .ok (.if_icmp .ge 24, 3)) (by decide)).trans i_ge
theorem e33_10 : V 33 10 [l0, some (.int x)] st h Q = V 33 11 [l0, some (.int x)] (.int x :: st) h Q := V_nx (by decide +kernel : decode (p_c 33) 10 = .ok (.iload_n 1, 1)) rfl rfl
theorem e33_11 : V 33 11 [some (.ref a), l1] st h Q = V 33 12 [some (.ref a), l1] (.ref a :: st) h Q := V_nx (by decide +kernel : decode (p_c 33) 11 = .ok (.aload_n 0, 1)) rfl rfl
theorem e33_12 : V 33 12 L (.ref a :: st) h Q = (p_ok1 [6] 0 (p_get h a) ∧ V 33 15 L (p_fv 0 (p_get h a) :: st) h Q) := V_gf (t := (3, 1, "WaterShoulders$Page")) (by decide +kernel : decode (p_c 33) 12 = .ok (.getfield 11, 3)) (by decide +kernel)
theorem e33_15 : V 33 15 [l0, some (.int x)] st h Q = V 33 16 [l0, some (.int x)] (.int x :: st) h Q := V_nx (by decide +kernel : decode (p_c 33) 15 = .ok (.iload_n 1, 1)) rfl rfl
theorem e33_16 : V 33 16 L (.int i :: .ref a :: st) h Q = (p_iok i (p_get h a) ∧ V 33 17 L (.int (p_ivl i (p_get h a)) :: st) h Q) := V_ial (by decide +kernel : decode (p_c 33) 16 = .ok (.iaload, 1))
theorem e33_17 : V 33 17 L (.int x2 :: .int x1 :: st) h Q = (p_sm st ∧ Vm 34 [.int x1, .int x2] h (Kt 33 20 L st Q)) := V_st (n := 2) (as := [.int x2, .int x1]) (z := 34) (by decide +kernel : decode (p_c 33) 17 = .ok (.invokestatic 23, 3)) (by decide +kernel) rfl (by decide +kernel) rfl
theorem e33_20 : V 33 20 L (.int x :: st) h Q = if x = 0 then V 33 23 L st h Q else V 33 25 L st h Q := (V_ifc (by decide +kernel : decode (p_c 33) 20 = .ok (.ifCond .ne 5, 3)) (by decide)).trans i_ne
theorem e33_23 : V 33 23 [l0, some (.int x)] st h Q = V 33 24 [l0, some (.int x)] (.int x :: st) h Q := V_nx (by decide +kernel : decode (p_c 33) 23 = .ok (.iload_n 1, 1)) rfl rfl
theorem e33_24 : V 33 24 L [.int x] h Q = Q (some (.int x)) h := V_ri (by decide +kernel : decode (p_c 33) 24 = .ok (.ireturn, 1)) rfl
theorem e33_25 : V 33 25 [l0, some (.int x)] st h Q = V 33 28 [p_dl l0, some (.int (x + 1))] st h Q := V_iinc (x := x) (by decide +kernel : decode (p_c 33) 25 = .ok (.iinc 1 1, 3)) (by decide) rfl (Nat.le_of_ble_eq_true rfl)
theorem e33_28 : V 33 28 L st h Q = V 33 2 L st h Q := V_goto (by decide +kernel : decode (p_c 33) 28 = .ok (.goto (-26), 3)) (by decide)
theorem e33_31 : V 33 31 [some (.ref a), l1] st h Q = V 33 32 [some (.ref a), l1] (.ref a :: st) h Q := V_nx (by decide +kernel : decode (p_c 33) 31 = .ok (.aload_n 0, 1)) rfl rfl
theorem e33_32 : V 33 32 L (.ref a :: st) h Q = (p_ok1 [6] 1 (p_get h a) ∧ V 33 35 L (p_fv 1 (p_get h a) :: st) h Q) := V_gf (t := (0, 0, "WaterShoulders$Page")) (by decide +kernel : decode (p_c 33) 32 = .ok (.getfield 19, 3)) (by decide +kernel)
theorem e33_35 : V 33 35 L [.int x] h Q = Q (some (.int x)) h := V_ri (by decide +kernel : decode (p_c 33) 35 = .ok (.ireturn, 1)) rfl
theorem m33 : Vm 33 [.ref a] h Q = V 33 0 [some (.ref a), none] [] h Q := rfl
theorem e34_0 : V 34 0 [some (.int x), l1] st h Q = V 34 1 [some (.int x), l1] (.int x :: st) h Q := V_nx (by decide +kernel : decode (p_c 34) 0 = .ok (.iload_n 0, 1)) rfl rfl
theorem e34_1 : V 34 1 L st h Q = V 34 3 L (.int 11 :: st) h Q := V_b (by decide +kernel : decode (p_c 34) 1 = .ok (.bipush 11, 2)) (by decide)
theorem e34_3 : V 34 3 L (.int z :: .int x :: st) h Q = if x < z then V 34 8 L st h Q else V 34 6 L st h Q := (V_icmp (by decide +kernel : decode (p_c 34) 3 = .ok (.if_icmp .lt 5, 3)) (by decide)).trans i_lt
theorem e34_6 : V 34 6 L st h Q = V 34 7 L (.int 0 :: st) h Q := V_c (by decide +kernel : decode (p_c 34) 6 = .ok (.iconst 0, 1)) (by decide)
theorem e34_7 : V 34 7 L [.int x] h Q = ((x = 0 ∨ x = 1) ∧ Q (some (.int x)) h) := V_rz (by decide +kernel : decode (p_c 34) 7 = .ok (.ireturn, 1)) rfl
theorem e34_8 : V 34 8 [some (.int x), l1] st h Q = V 34 9 [some (.int x), l1] (.int x :: st) h Q := V_nx (by decide +kernel : decode (p_c 34) 8 = .ok (.iload_n 0, 1)) rfl rfl
theorem e34_9 : V 34 9 L st h Q = V 34 10 L (.int 3 :: st) h Q := V_c (by decide +kernel : decode (p_c 34) 9 = .ok (.iconst 3, 1)) (by decide)
theorem e34_10 : V 34 10 L (.int z :: .int x :: st) h Q = (¬ z = 0 ∧ V 34 11 L (.int (x - x / z * z) :: st) h Q) := V_irem (by decide +kernel : decode (p_c 34) 10 = .ok (.irem, 1))
theorem e34_11 : V 34 11 L (.int x :: st) h Q = V 34 (if x = 0 then 36 else if x = 1 then 54 else 72) L st h Q := V_ls2 (by decide +kernel : decode (p_c 34) 11 = .ok (.lookupswitch 61 #[(0, 25), (1, 43)], 25))
theorem e34_36 : V 34 36 [l0, some (.int x)] st h Q = V 34 37 [l0, some (.int x)] (.int x :: st) h Q := V_nx (by decide +kernel : decode (p_c 34) 36 = .ok (.iload_n 1, 1)) rfl rfl
theorem e34_37 : V 34 37 L st h Q = V 34 39 L (.int 49 :: st) h Q := V_b (by decide +kernel : decode (p_c 34) 37 = .ok (.bipush 49, 2)) (by decide)
theorem e34_39 : V 34 39 L (.int z :: .int x :: st) h Q = if x < z then V 34 52 L st h Q else V 34 42 L st h Q := (V_icmp (by decide +kernel : decode (p_c 34) 39 = .ok (.if_icmp .lt 13, 3)) (by decide)).trans i_lt
theorem e34_42 : V 34 42 [l0, some (.int x)] st h Q = V 34 43 [l0, some (.int x)] (.int x :: st) h Q := V_nx (by decide +kernel : decode (p_c 34) 42 = .ok (.iload_n 1, 1)) rfl rfl
theorem e34_43 : V 34 43 L st h Q = V 34 45 L (.int 53 :: st) h Q := V_b (by decide +kernel : decode (p_c 34) 43 = .ok (.bipush 53, 2)) (by decide)
theorem e34_45 : V 34 45 L (.int z :: .int x :: st) h Q = if z < x then V 34 52 L st h Q else V 34 48 L st h Q := (V_icmp (by decide +kernel : decode (p_c 34) 45 = .ok (.if_icmp .gt 7, 3)) (by decide)).trans i_gt
theorem e34_48 : V 34 48 L st h Q = V 34 49 L (.int 1 :: st) h Q := V_c (by decide +kernel : decode (p_c 34) 48 = .ok (.iconst 1, 1)) (by decide)
theorem e34_49 : V 34 49 L st h Q = V 34 53 L st h Q := V_goto (by decide +kernel : decode (p_c 34) 49 = .ok (.goto 4, 3)) (by decide)
theorem e34_52 : V 34 52 L st h Q = V 34 53 L (.int 0 :: st) h Q := V_c (by decide +kernel : decode (p_c 34) 52 = .ok (.iconst 0, 1)) (by decide)
theorem e34_53 : V 34 53 L [.int x] h Q = ((x = 0 ∨ x = 1) ∧ Q (some (.int x)) h) := V_rz (by decide +kernel : decode (p_c 34) 53 = .ok (.ireturn, 1)) rfl
theorem e34_54 : V 34 54 [l0, some (.int x)] st h Q = V 34 55 [l0, some (.int x)] (.int x :: st) h Q := V_nx (by decide +kernel : decode (p_c 34) 54 = .ok (.iload_n 1, 1)) rfl rfl
theorem e34_55 : V 34 55 L st h Q = V 34 57 L (.int 48 :: st) h Q := V_b (by decide +kernel : decode (p_c 34) 55 = .ok (.bipush 48, 2)) (by decide)
theorem e34_57 : V 34 57 L (.int z :: .int x :: st) h Q = if x < z then V 34 70 L st h Q else V 34 60 L st h Q := (V_icmp (by decide +kernel : decode (p_c 34) 57 = .ok (.if_icmp .lt 13, 3)) (by decide)).trans i_lt
theorem e34_60 : V 34 60 [l0, some (.int x)] st h Q = V 34 61 [l0, some (.int x)] (.int x :: st) h Q := V_nx (by decide +kernel : decode (p_c 34) 60 = .ok (.iload_n 1, 1)) rfl rfl
theorem e34_61 : V 34 61 L st h Q = V 34 63 L (.int 53 :: st) h Q := V_b (by decide +kernel : decode (p_c 34) 61 = .ok (.bipush 53, 2)) (by decide)
theorem e34_63 : V 34 63 L (.int z :: .int x :: st) h Q = if z < x then V 34 70 L st h Q else V 34 66 L st h Q := (V_icmp (by decide +kernel : decode (p_c 34) 63 = .ok (.if_icmp .gt 7, 3)) (by decide)).trans i_gt
theorem e34_66 : V 34 66 L st h Q = V 34 67 L (.int 1 :: st) h Q := V_c (by decide +kernel : decode (p_c 34) 66 = .ok (.iconst 1, 1)) (by decide)
theorem e34_67 : V 34 67 L st h Q = V 34 71 L st h Q := V_goto (by decide +kernel : decode (p_c 34) 67 = .ok (.goto 4, 3)) (by decide)
theorem e34_70 : V 34 70 L st h Q = V 34 71 L (.int 0 :: st) h Q := V_c (by decide +kernel : decode (p_c 34) 70 = .ok (.iconst 0, 1)) (by decide)
theorem e34_71 : V 34 71 L [.int x] h Q = ((x = 0 ∨ x = 1) ∧ Q (some (.int x)) h) := V_rz (by decide +kernel : decode (p_c 34) 71 = .ok (.ireturn, 1)) rfl
theorem e34_72 : V 34 72 [l0, some (.int x)] st h Q = V 34 73 [l0, some (.int x)] (.int x :: st) h Q := V_nx (by decide +kernel : decode (p_c 34) 72 = .ok (.iload_n 1, 1)) rfl rfl
theorem e34_73 : V 34 73 L st h Q = V 34 75 L (.int 47 :: st) h Q := V_b (by decide +kernel : decode (p_c 34) 73 = .ok (.bipush 47, 2)) (by decide)
theorem e34_75 : V 34 75 L (.int z :: .int x :: st) h Q = if x = z then V 34 78 L st h Q else V 34 82 L st h Q := (V_icmp (by decide +kernel : decode (p_c 34) 75 = .ok (.if_icmp .ne 7, 3)) (by decide)).trans i_ne
theorem e34_78 : V 34 78 L st h Q = V 34 79 L (.int 1 :: st) h Q := V_c (by decide +kernel : decode (p_c 34) 78 = .ok (.iconst 1, 1)) (by decide)
theorem e34_79 : V 34 79 L st h Q = V 34 83 L st h Q := V_goto (by decide +kernel : decode (p_c 34) 79 = .ok (.goto 4, 3)) (by decide)
theorem e34_82 : V 34 82 L st h Q = V 34 83 L (.int 0 :: st) h Q := V_c (by decide +kernel : decode (p_c 34) 82 = .ok (.iconst 0, 1)) (by decide)
theorem e34_83 : V 34 83 L [.int x] h Q = ((x = 0 ∨ x = 1) ∧ Q (some (.int x)) h) := V_rz (by decide +kernel : decode (p_c 34) 83 = .ok (.ireturn, 1)) rfl
theorem m34 : Vm 34 [.int x1, .int x2] h Q = V 34 0 [some (.int x1), some (.int x2)] [] h Q := rfl
theorem e35_0 : V 35 0 [some (.ref a)] st h Q = V 35 1 [some (.ref a)] (.ref a :: st) h Q := V_nx (by decide +kernel : decode (p_c 35) 0 = .ok (.aload_n 0, 1)) rfl rfl
theorem e35_1 : V 35 1 L (.ref a :: st) h Q = (p_ok1 [6] 1 (p_get h a) ∧ V 35 4 L (p_fv 1 (p_get h a) :: st) h Q) := V_gf (t := (0, 0, "WaterShoulders$Page")) (by decide +kernel : decode (p_c 35) 1 = .ok (.getfield 19, 3)) (by decide +kernel)
theorem e35_4 : V 35 4 L st h Q = V 35 5 L (.int 5 :: st) h Q := V_c (by decide +kernel : decode (p_c 35) 4 = .ok (.iconst 5, 1)) (by decide)
theorem e35_5 : V 35 5 L (.int z :: .int x :: st) h Q = if x < z then V 35 33 L st h Q else V 35 8 L st h Q := (V_icmp (by decide +kernel : decode (p_c 35) 5 = .ok (.if_icmp .lt 28, 3)) (by decide)).trans i_lt
theorem e35_8 : V 35 8 [some (.ref a)] st h Q = V 35 9 [some (.ref a)] (.ref a :: st) h Q := V_nx (by decide +kernel : decode (p_c 35) 8 = .ok (.aload_n 0, 1)) rfl rfl
theorem e35_9 : V 35 9 L (.ref a :: st) h Q = (p_ok1 [6] 1 (p_get h a) ∧ V 35 12 L (p_fv 1 (p_get h a) :: st) h Q) := V_gf (t := (0, 0, "WaterShoulders$Page")) (by decide +kernel : decode (p_c 35) 9 = .ok (.getfield 19, 3)) (by decide +kernel)
theorem e35_12 : V 35 12 L st h Q = V 35 13 L (.int 3 :: st) h Q := V_c (by decide +kernel : decode (p_c 35) 12 = .ok (.iconst 3, 1)) (by decide)
theorem e35_13 : V 35 13 L (.int z :: .int x :: st) h Q = (¬ z = 0 ∧ V 35 14 L (.int (x - x / z * z) :: st) h Q) := V_irem (by decide +kernel : decode (p_c 35) 13 = .ok (.irem, 1))
theorem e35_14 : V 35 14 L st h Q = V 35 15 L (.int 2 :: st) h Q := V_c (by decide +kernel : decode (p_c 35) 14 = .ok (.iconst 2, 1)) (by decide)
theorem e35_15 : V 35 15 L (.int z :: .int x :: st) h Q = if x = z then V 35 18 L st h Q else V 35 33 L st h Q := (V_icmp (by decide +kernel : decode (p_c 35) 15 = .ok (.if_icmp .ne 18, 3)) (by decide)).trans i_ne
theorem e35_18 : V 35 18 [some (.ref a)] st h Q = V 35 19 [some (.ref a)] (.ref a :: st) h Q := V_nx (by decide +kernel : decode (p_c 35) 18 = .ok (.aload_n 0, 1)) rfl rfl
theorem e35_19 : V 35 19 L (.ref a :: st) h Q = ((p_cn1 (p_get h a) = 6 ∧ p_sm st) ∧ Vm 33 [.ref a] h (Kt 35 22 L st Q)) := V_iv (n := 0) (as := []) (ci := 6) (z := 33) (by decide +kernel : decode (p_c 35) 19 = .ok (.invokevirtual 27, 3)) (by decide +kernel) rfl rfl (by decide +kernel) rfl
theorem e35_22 : V 35 22 [some (.ref a)] st h Q = V 35 23 [some (.ref a)] (.ref a :: st) h Q := V_nx (by decide +kernel : decode (p_c 35) 22 = .ok (.aload_n 0, 1)) rfl rfl
theorem e35_23 : V 35 23 L (.ref a :: st) h Q = (p_ok1 [6] 1 (p_get h a) ∧ V 35 26 L (p_fv 1 (p_get h a) :: st) h Q) := V_gf (t := (0, 0, "WaterShoulders$Page")) (by decide +kernel : decode (p_c 35) 23 = .ok (.getfield 19, 3)) (by decide +kernel)
theorem e35_26 : V 35 26 L (.int z :: .int x :: st) h Q = if x = z then V 35 29 L st h Q else V 35 33 L st h Q := (V_icmp (by decide +kernel : decode (p_c 35) 26 = .ok (.if_icmp .ne 7, 3)) (by decide)).trans i_ne
theorem e35_29 : V 35 29 L st h Q = V 35 30 L (.int 1 :: st) h Q := V_c (by decide +kernel : decode (p_c 35) 29 = .ok (.iconst 1, 1)) (by decide)
theorem e35_30 : V 35 30 L st h Q = V 35 34 L st h Q := V_goto (by decide +kernel : decode (p_c 35) 30 = .ok (.goto 4, 3)) (by decide)
theorem e35_33 : V 35 33 L st h Q = V 35 34 L (.int 0 :: st) h Q := V_c (by decide +kernel : decode (p_c 35) 33 = .ok (.iconst 0, 1)) (by decide)
theorem e35_34 : V 35 34 L [.int x] h Q = ((x = 0 ∨ x = 1) ∧ Q (some (.int x)) h) := V_rz (by decide +kernel : decode (p_c 35) 34 = .ok (.ireturn, 1)) rfl
theorem m35 : Vm 35 [.ref a] h Q = V 35 0 [some (.ref a)] [] h Q := rfl
theorem e36_0 : V 36 0 [some (.ref a), l1, l2] st h Q = V 36 1 [some (.ref a), l1, l2] (.ref a :: st) h Q := V_nx (by decide +kernel : decode (p_c 36) 0 = .ok (.aload_n 0, 1)) rfl rfl
theorem e36_1 : V 36 1 [l0, some (.int x), l2] st h Q = V 36 2 [l0, some (.int x), l2] (.int x :: st) h Q := V_nx (by decide +kernel : decode (p_c 36) 1 = .ok (.iload_n 1, 1)) rfl rfl
theorem e36_2 : V 36 2 [l0, l1, some (.int x)] st h Q = V 36 3 [l0, l1, some (.int x)] (.int x :: st) h Q := V_nx (by decide +kernel : decode (p_c 36) 2 = .ok (.iload_n 2, 1)) rfl rfl
theorem e36_3 : V 36 3 L (.int x2 :: .int x1 :: .ref a :: st) h Q = (p_sm st ∧ Vm 3 [.ref a, .int x1, .int x2] h (Kt 36 6 L st Q)) := V_sp (n := 2) (as := [.int x2, .int x1]) (z := 3) (by decide +kernel : decode (p_c 36) 3 = .ok (.invokespecial 1, 3)) (by decide +kernel) rfl (by decide +kernel) rfl
theorem e36_6 : V 36 6 L [] h Q = Q none h := V_rv (by decide +kernel : decode (p_c 36) 6 = .ok (.return_, 1)) rfl
theorem m36 : Vm 36 [.ref a, .int x1, .int x2] h Q = V 36 0 [some (.ref a), some (.int x1), some (.int x2)] [] h Q := rfl
theorem e37_0 : V 37 0 L st h Q = V 37 1 L (.int 1 :: st) h Q := V_c (by decide +kernel : decode (p_c 37) 0 = .ok (.iconst 1, 1)) (by decide)
theorem e37_1 : V 37 1 L [.int x] h Q = Q (some (.int x)) h := V_ri (by decide +kernel : decode (p_c 37) 1 = .ok (.ireturn, 1)) rfl
theorem m37 : Vm 37 [.ref a] h Q = V 37 0 [some (.ref a)] [] h Q := rfl
theorem e38_0 : V 38 0 [some (.ref a)] st h Q = V 38 1 [some (.ref a)] (.ref a :: st) h Q := V_nx (by decide +kernel : decode (p_c 38) 0 = .ok (.aload_n 0, 1)) rfl rfl
theorem e38_1 : V 38 1 L (.ref a :: st) h Q = (p_ok1 [7] 0 (p_get h a) ∧ V 38 4 L (p_fv 0 (p_get h a) :: st) h Q) := V_gf (t := (0, 2, "WaterShoulders$Punt")) (by decide +kernel : decode (p_c 38) 1 = .ok (.getfield 7, 3)) (by decide +kernel)
theorem e38_4 : V 38 4 L st h Q = V 38 5 L (.int 1 :: st) h Q := V_c (by decide +kernel : decode (p_c 38) 4 = .ok (.iconst 1, 1)) (by decide)
theorem e38_5 : V 38 5 L (.int z :: .int x :: st) h Q = V 38 6 L (.int (x + z) :: st) h Q := V_nx (by decide +kernel : decode (p_c 38) 5 = .ok (.iadd, 1)) rfl rfl
theorem e38_6 : V 38 6 L st h Q = V 38 7 L (.int 2 :: st) h Q := V_c (by decide +kernel : decode (p_c 38) 6 = .ok (.iconst 2, 1)) (by decide)
theorem e38_7 : V 38 7 L (.int z :: .int x :: st) h Q = (¬ z = 0 ∧ V 38 8 L (.int (x / z) :: st) h Q) := V_idiv (by decide +kernel : decode (p_c 38) 7 = .ok (.idiv, 1))
theorem e38_8 : V 38 8 L [.int x] h Q = Q (some (.int x)) h := V_ri (by decide +kernel : decode (p_c 38) 8 = .ok (.ireturn, 1)) rfl
theorem m38 : Vm 38 [.ref a] h Q = V 38 0 [some (.ref a)] [] h Q := rfl
theorem e51_0 : V 51 0 [some (.ref a)] st h Q = V 51 1 [some (.ref a)] (.ref a :: st) h Q := V_nx (by decide +kernel : decode (p_c 51) 0 = .ok (.aload_n 0, 1)) rfl rfl
theorem e51_1 : V 51 1 L (.ref a :: st) h Q = (p_sm st ∧ V 51 4 L st h Q) := V_oi (by decide +kernel : decode (p_c 51) 1 = .ok (.invokespecial 3, 3)) (by decide +kernel) (by decide +kernel)
theorem e51_4 : V 51 4 [some (.ref a)] st h Q = V 51 5 [some (.ref a)] (.ref a :: st) h Q := V_nx (by decide +kernel : decode (p_c 51) 4 = .ok (.aload_n 0, 1)) rfl rfl
theorem e51_5 : V 51 5 L st h Q = V 51 6 L (.int 4 :: st) h Q := V_c (by decide +kernel : decode (p_c 51) 5 = .ok (.iconst 4, 1)) (by decide)
theorem e51_6 : V 51 6 L (.int 4 :: st) h Q = V 51 8 L (.ref h.1 :: st) (p_new h (.inl (0, 4, .inl (fun _ => 0))) 4) Q := V_nai (by decide +kernel : decode (p_c 51) 6 = .ok (.newarray .int, 2)) (by decide +kernel) (by decide +kernel)
theorem e51_8 : V 51 8 L (.ref b :: .ref a :: st) h Q = (p_ok1 [9] 0 (p_get h a) ∧ V 51 11 L st (p_set h a (p_fs 0 (.ref b) (p_get h a))) Q) := V_pf3 (fin := 1) (ref := "WaterShoulders$Stair") (by decide +kernel : decode (p_c 51) 8 = .ok (.putfield 9, 3)) (by decide +kernel) (by decide +kernel)
theorem e51_11 : V 51 11 [some (.ref a)] st h Q = V 51 12 [some (.ref a)] (.ref a :: st) h Q := V_nx (by decide +kernel : decode (p_c 51) 11 = .ok (.aload_n 0, 1)) rfl rfl
theorem e51_12 : V 51 12 L st h Q = V 51 13 L (.int 4 :: st) h Q := V_c (by decide +kernel : decode (p_c 51) 12 = .ok (.iconst 4, 1)) (by decide)
theorem e51_13 : V 51 13 L (.int 4 :: st) h Q = V 51 15 L (.ref h.1 :: st) (p_new h (.inl (0, 4, .inl (fun _ => 0))) 4) Q := V_nai (by decide +kernel : decode (p_c 51) 13 = .ok (.newarray .int, 2)) (by decide +kernel) (by decide +kernel)
theorem e51_15 : V 51 15 L (.ref b :: .ref a :: st) h Q = (p_ok1 [9] 1 (p_get h a) ∧ V 51 18 L st (p_set h a (p_fs 1 (.ref b) (p_get h a))) Q) := V_pf3 (fin := 1) (ref := "WaterShoulders$Stair") (by decide +kernel : decode (p_c 51) 15 = .ok (.putfield 15, 3)) (by decide +kernel) (by decide +kernel)
theorem e51_18 : V 51 18 L [] h Q = Q none h := V_rv (by decide +kernel : decode (p_c 51) 18 = .ok (.return_, 1)) rfl
theorem m51 : Vm 51 [.ref a] h Q = V 51 0 [some (.ref a)] [] h Q := rfl
theorem e52_0 : V 52 0 [some (.ref a), l1, l2] st h Q = V 52 1 [some (.ref a), l1, l2] (.ref a :: st) h Q := V_nx (by decide +kernel : decode (p_c 52) 0 = .ok (.aload_n 0, 1)) rfl rfl
theorem e52_1 : V 52 1 [l0, some (.ref a), l2] st h Q = V 52 2 [l0, some (.ref a), l2] (.ref a :: st) h Q := V_nx (by decide +kernel : decode (p_c 52) 1 = .ok (.aload_n 1, 1)) rfl rfl
theorem e52_1n : V 52 1 [l0, some .null, l2] st h Q = V 52 2 [l0, some .null, l2] (.null :: st) h Q := V_nx (by decide +kernel : decode (p_c 52) 1 = .ok (.aload_n 1, 1)) rfl rfl
theorem e52_2 : V 52 2 L (.ref a :: st) h Q = (p_ok1 [6] 1 (p_get h a) ∧ V 52 5 L (p_fv 1 (p_get h a) :: st) h Q) := V_gf (t := (0, 0, "WaterShoulders$Page")) (by decide +kernel : decode (p_c 52) 2 = .ok (.getfield 18, 3)) (by decide +kernel)
theorem e52_5 : V 52 5 L st h Q = V 52 6 L (.int 1 :: st) h Q := V_c (by decide +kernel : decode (p_c 52) 5 = .ok (.iconst 1, 1)) (by decide)
theorem e52_6 : V 52 6 L (.int z :: .int x :: st) h Q = V 52 7 L (.int (x + z) :: st) h Q := V_nx (by decide +kernel : decode (p_c 52) 6 = .ok (.iadd, 1)) rfl rfl
theorem e52_7 : V 52 7 L st h Q = V 52 8 L (.int 3 :: st) h Q := V_c (by decide +kernel : decode (p_c 52) 7 = .ok (.iconst 3, 1)) (by decide)
theorem e52_8 : V 52 8 L (.int z :: .int x :: st) h Q = (¬ z = 0 ∧ V 52 9 L (.int (x / z) :: st) h Q) := V_idiv (by decide +kernel : decode (p_c 52) 8 = .ok (.idiv, 1))
theorem e52_9 : V 52 9 L st h Q = V 52 10 L (.int 4 :: st) h Q := V_c (by decide +kernel : decode (p_c 52) 9 = .ok (.iconst 4, 1)) (by decide)
theorem e52_10 : V 52 10 L (.int z :: .int x :: st) h Q = (p_sm st ∧ V 52 13 L (.int (if z < x then z else x) :: st) h Q) := V_mm (by decide +kernel : decode (p_c 52) 10 = .ok (.invokestatic 24, 3)) (by decide +kernel) (by decide +kernel) (by decide +kernel) (Or.inr ⟨rfl, rfl⟩)
theorem e52_13 : V 52 13 L (.int x :: .ref a :: st) h Q = (p_ok1 [9] 2 (p_get h a) ∧ V 52 16 L st (p_set h a (p_fs 2 (.int x) (p_get h a))) Q) := V_pf0 (fin := 0) (ref := "WaterShoulders$Stair") (by decide +kernel : decode (p_c 52) 13 = .ok (.putfield 30, 3)) (by decide +kernel) (by decide +kernel)
theorem e52_16 : V 52 16 L st h Q = V 52 17 L (.int 0 :: st) h Q := V_c (by decide +kernel : decode (p_c 52) 16 = .ok (.iconst 0, 1)) (by decide)
theorem e52_17 : V 52 17 [l0, l1, l2] (.int x :: st) h Q = V 52 18 [l0, p_dl l1, some (.int x)] st h Q := V_nx (by decide +kernel : decode (p_c 52) 17 = .ok (.istore_n 2, 1)) rfl rfl
theorem e52_18 : V 52 18 [l0, l1, some (.int x)] st h Q = V 52 19 [l0, l1, some (.int x)] (.int x :: st) h Q := V_nx (by decide +kernel : decode (p_c 52) 18 = .ok (.iload_n 2, 1)) rfl rfl
theorem e52_19 : V 52 19 [some (.ref a), l1, l2] st h Q = V 52 20 [some (.ref a), l1, l2] (.ref a :: st) h Q := V_nx (by decide +kernel : decode (p_c 52) 19 = .ok (.aload_n 0, 1)) rfl rfl
theorem e52_20 : V 52 20 L (.ref a :: st) h Q = (p_ok1 [9] 2 (p_get h a) ∧ V 52 23 L (p_fv 2 (p_get h a) :: st) h Q) := V_gf (t := (0, 0, "WaterShoulders$Stair")) (by decide +kernel : decode (p_c 52) 20 = .ok (.getfield 30, 3)) (by decide +kernel)
theorem e52_23 : V 52 23 L (.int z :: .int x :: st) h Q = if x < z then V 52 26 L st h Q else V 52 68 L st h Q := (V_icmp (by decide +kernel : decode (p_c 52) 23 = .ok (.if_icmp .ge 45, 3)) (by decide)).trans i_ge
theorem e52_26 : V 52 26 [some (.ref a), l1, l2] st h Q = V 52 27 [some (.ref a), l1, l2] (.ref a :: st) h Q := V_nx (by decide +kernel : decode (p_c 52) 26 = .ok (.aload_n 0, 1)) rfl rfl
theorem e52_27 : V 52 27 L (.ref a :: st) h Q = (p_ok1 [9] 0 (p_get h a) ∧ V 52 30 L (p_fv 0 (p_get h a) :: st) h Q) := V_gf (t := (3, 1, "WaterShoulders$Stair")) (by decide +kernel : decode (p_c 52) 27 = .ok (.getfield 9, 3)) (by decide +kernel)
theorem e52_30 : V 52 30 [l0, l1, some (.int x)] st h Q = V 52 31 [l0, l1, some (.int x)] (.int x :: st) h Q := V_nx (by decide +kernel : decode (p_c 52) 30 = .ok (.iload_n 2, 1)) rfl rfl
theorem e52_31 : V 52 31 [l0, some (.ref a), l2] st h Q = V 52 32 [l0, some (.ref a), l2] (.ref a :: st) h Q := V_nx (by decide +kernel : decode (p_c 52) 31 = .ok (.aload_n 1, 1)) rfl rfl
theorem e52_31n : V 52 31 [l0, some .null, l2] st h Q = V 52 32 [l0, some .null, l2] (.null :: st) h Q := V_nx (by decide +kernel : decode (p_c 52) 31 = .ok (.aload_n 1, 1)) rfl rfl
theorem e52_32 : V 52 32 L (.ref a :: st) h Q = (p_ok1 [6] 0 (p_get h a) ∧ V 52 35 L (p_fv 0 (p_get h a) :: st) h Q) := V_gf (t := (3, 2, "WaterShoulders$Page")) (by decide +kernel : decode (p_c 52) 32 = .ok (.getfield 33, 3)) (by decide +kernel)
theorem e52_35 : V 52 35 L st h Q = V 52 36 L (.int 3 :: st) h Q := V_c (by decide +kernel : decode (p_c 52) 35 = .ok (.iconst 3, 1)) (by decide)
theorem e52_36 : V 52 36 [l0, l1, some (.int x)] st h Q = V 52 37 [l0, l1, some (.int x)] (.int x :: st) h Q := V_nx (by decide +kernel : decode (p_c 52) 36 = .ok (.iload_n 2, 1)) rfl rfl
theorem e52_37 : V 52 37 L (.int z :: .int x :: st) h Q = V 52 38 L (.int (x * z) :: st) h Q := V_nx (by decide +kernel : decode (p_c 52) 37 = .ok (.imul, 1)) rfl rfl
theorem e52_38 : V 52 38 L (.int i :: .ref a :: st) h Q = (p_iok i (p_get h a) ∧ V 52 39 L (.int (p_ivl i (p_get h a)) :: st) h Q) := V_ial (by decide +kernel : decode (p_c 52) 38 = .ok (.iaload, 1))
theorem e52_39 : V 52 39 L st h Q = V 52 41 L (.int 48 :: st) h Q := V_b (by decide +kernel : decode (p_c 52) 39 = .ok (.bipush 48, 2)) (by decide)
theorem e52_41 : V 52 41 L (.int z :: .int x :: st) h Q = V 52 42 L (.int (x - z) :: st) h Q := V_nx (by decide +kernel : decode (p_c 52) 41 = .ok (.isub, 1)) rfl rfl
theorem e52_42 : V 52 42 L (.int x :: .int i :: .ref a :: st) h Q = (p_sok i (p_get h a) ∧ V 52 43 L st (p_set h a (p_ist i x (p_get h a))) Q) := V_ias (by decide +kernel : decode (p_c 52) 42 = .ok (.iastore, 1))
theorem e52_43 : V 52 43 [some (.ref a), l1, l2] st h Q = V 52 44 [some (.ref a), l1, l2] (.ref a :: st) h Q := V_nx (by decide +kernel : decode (p_c 52) 43 = .ok (.aload_n 0, 1)) rfl rfl
theorem e52_44 : V 52 44 L (.ref a :: st) h Q = (p_ok1 [9] 1 (p_get h a) ∧ V 52 47 L (p_fv 1 (p_get h a) :: st) h Q) := V_gf (t := (3, 1, "WaterShoulders$Stair")) (by decide +kernel : decode (p_c 52) 44 = .ok (.getfield 15, 3)) (by decide +kernel)
theorem e52_47 : V 52 47 [l0, l1, some (.int x)] st h Q = V 52 48 [l0, l1, some (.int x)] (.int x :: st) h Q := V_nx (by decide +kernel : decode (p_c 52) 47 = .ok (.iload_n 2, 1)) rfl rfl
theorem e52_48 : V 52 48 [l0, some (.ref a), l2] st h Q = V 52 49 [l0, some (.ref a), l2] (.ref a :: st) h Q := V_nx (by decide +kernel : decode (p_c 52) 48 = .ok (.aload_n 1, 1)) rfl rfl
theorem e52_48n : V 52 48 [l0, some .null, l2] st h Q = V 52 49 [l0, some .null, l2] (.null :: st) h Q := V_nx (by decide +kernel : decode (p_c 52) 48 = .ok (.aload_n 1, 1)) rfl rfl
theorem e52_49 : V 52 49 L (.ref a :: st) h Q = (p_ok1 [6] 0 (p_get h a) ∧ V 52 52 L (p_fv 0 (p_get h a) :: st) h Q) := V_gf (t := (3, 2, "WaterShoulders$Page")) (by decide +kernel : decode (p_c 52) 49 = .ok (.getfield 33, 3)) (by decide +kernel)
theorem e52_52 : V 52 52 L st h Q = V 52 53 L (.int 3 :: st) h Q := V_c (by decide +kernel : decode (p_c 52) 52 = .ok (.iconst 3, 1)) (by decide)
theorem e52_53 : V 52 53 [l0, l1, some (.int x)] st h Q = V 52 54 [l0, l1, some (.int x)] (.int x :: st) h Q := V_nx (by decide +kernel : decode (p_c 52) 53 = .ok (.iload_n 2, 1)) rfl rfl
theorem e52_54 : V 52 54 L (.int z :: .int x :: st) h Q = V 52 55 L (.int (x * z) :: st) h Q := V_nx (by decide +kernel : decode (p_c 52) 54 = .ok (.imul, 1)) rfl rfl
theorem e52_55 : V 52 55 L st h Q = V 52 56 L (.int 1 :: st) h Q := V_c (by decide +kernel : decode (p_c 52) 55 = .ok (.iconst 1, 1)) (by decide)
theorem e52_56 : V 52 56 L (.int z :: .int x :: st) h Q = V 52 57 L (.int (x + z) :: st) h Q := V_nx (by decide +kernel : decode (p_c 52) 56 = .ok (.iadd, 1)) rfl rfl
theorem e52_57 : V 52 57 L (.int i :: .ref a :: st) h Q = (p_iok i (p_get h a) ∧ V 52 58 L (.int (p_ivl i (p_get h a)) :: st) h Q) := V_ial (by decide +kernel : decode (p_c 52) 57 = .ok (.iaload, 1))
theorem e52_58 : V 52 58 L st h Q = V 52 60 L (.int 48 :: st) h Q := V_b (by decide +kernel : decode (p_c 52) 58 = .ok (.bipush 48, 2)) (by decide)
theorem e52_60 : V 52 60 L (.int z :: .int x :: st) h Q = V 52 61 L (.int (x - z) :: st) h Q := V_nx (by decide +kernel : decode (p_c 52) 60 = .ok (.isub, 1)) rfl rfl
theorem e52_61 : V 52 61 L (.int x :: .int i :: .ref a :: st) h Q = (p_sok i (p_get h a) ∧ V 52 62 L st (p_set h a (p_ist i x (p_get h a))) Q) := V_ias (by decide +kernel : decode (p_c 52) 61 = .ok (.iastore, 1))
theorem e52_62 : V 52 62 [l0, l1, some (.int x)] st h Q = V 52 65 [l0, p_dl l1, some (.int (x + 1))] st h Q := V_iinc (x := x) (by decide +kernel : decode (p_c 52) 62 = .ok (.iinc 2 1, 3)) (by decide) rfl (Nat.le_of_ble_eq_true rfl)
theorem e52_65 : V 52 65 L st h Q = V 52 18 L st h Q := V_goto (by decide +kernel : decode (p_c 52) 65 = .ok (.goto (-47), 3)) (by decide)
theorem e52_68 : V 52 68 L [] h Q = Q none h := V_rv (by decide +kernel : decode (p_c 52) 68 = .ok (.return_, 1)) rfl
theorem m52 : Vm 52 [.ref a, .ref b1] h Q = V 52 0 [some (.ref a), some (.ref b1), none] [] h Q := rfl
theorem e53_0 : V 53 0 [l0, some (.int x)] st h Q = V 53 1 [l0, some (.int x)] (.int x :: st) h Q := V_nx (by decide +kernel : decode (p_c 53) 0 = .ok (.iload_n 1, 1)) rfl rfl
theorem e53_1 : V 53 1 L (.int x :: st) h Q = if x < 0 then V 53 16 L st h Q else V 53 4 L st h Q := (V_ifc (by decide +kernel : decode (p_c 53) 1 = .ok (.ifCond .lt 15, 3)) (by decide)).trans i_lt
theorem e53_4 : V 53 4 [l0, some (.int x)] st h Q = V 53 5 [l0, some (.int x)] (.int x :: st) h Q := V_nx (by decide +kernel : decode (p_c 53) 4 = .ok (.iload_n 1, 1)) rfl rfl
theorem e53_5 : V 53 5 [some (.ref a), l1] st h Q = V 53 6 [some (.ref a), l1] (.ref a :: st) h Q := V_nx (by decide +kernel : decode (p_c 53) 5 = .ok (.aload_n 0, 1)) rfl rfl
theorem e53_6 : V 53 6 L (.ref a :: st) h Q = (p_ok1 [9] 2 (p_get h a) ∧ V 53 9 L (p_fv 2 (p_get h a) :: st) h Q) := V_gf (t := (0, 0, "WaterShoulders$Stair")) (by decide +kernel : decode (p_c 53) 6 = .ok (.getfield 30, 3)) (by decide +kernel)
theorem e53_9 : V 53 9 L (.int z :: .int x :: st) h Q = if x < z then V 53 12 L st h Q else V 53 16 L st h Q := (V_icmp (by decide +kernel : decode (p_c 53) 9 = .ok (.if_icmp .ge 7, 3)) (by decide)).trans i_ge
theorem e53_12 : V 53 12 L st h Q = V 53 13 L (.int 1 :: st) h Q := V_c (by decide +kernel : decode (p_c 53) 12 = .ok (.iconst 1, 1)) (by decide)
theorem e53_13 : V 53 13 L st h Q = V 53 17 L st h Q := V_goto (by decide +kernel : decode (p_c 53) 13 = .ok (.goto 4, 3)) (by decide)
theorem e53_16 : V 53 16 L st h Q = V 53 17 L (.int 0 :: st) h Q := V_c (by decide +kernel : decode (p_c 53) 16 = .ok (.iconst 0, 1)) (by decide)
theorem e53_17 : V 53 17 L [.int x] h Q = ((x = 0 ∨ x = 1) ∧ Q (some (.int x)) h) := V_rz (by decide +kernel : decode (p_c 53) 17 = .ok (.ireturn, 1)) rfl
theorem m53 : Vm 53 [.ref a, .int x1] h Q = V 53 0 [some (.ref a), some (.int x1)] [] h Q := rfl
theorem e54_0 : V 54 0 [some (.ref a)] st h Q = V 54 1 [some (.ref a)] (.ref a :: st) h Q := V_nx (by decide +kernel : decode (p_c 54) 0 = .ok (.aload_n 0, 1)) rfl rfl
theorem e54_1 : V 54 1 L (.ref a :: st) h Q = (p_ok1 [9] 2 (p_get h a) ∧ V 54 4 L (p_fv 2 (p_get h a) :: st) h Q) := V_gf (t := (0, 0, "WaterShoulders$Stair")) (by decide +kernel : decode (p_c 54) 1 = .ok (.getfield 30, 3)) (by decide +kernel)
theorem e54_4 : V 54 4 L st h Q = V 54 5 L (.int 1 :: st) h Q := V_c (by decide +kernel : decode (p_c 54) 4 = .ok (.iconst 1, 1)) (by decide)
theorem e54_5 : V 54 5 L (.int z :: .int x :: st) h Q = V 54 6 L (.int (x - z) :: st) h Q := V_nx (by decide +kernel : decode (p_c 54) 5 = .ok (.isub, 1)) rfl rfl
theorem e54_6 : V 54 6 L [.int x] h Q = Q (some (.int x)) h := V_ri (by decide +kernel : decode (p_c 54) 6 = .ok (.ireturn, 1)) rfl
theorem m54 : Vm 54 [.ref a] h Q = V 54 0 [some (.ref a)] [] h Q := rfl
theorem e55_0 : V 55 0 [l0, some (.ref a)] st h Q = V 55 1 [l0, some (.ref a)] (.ref a :: st) h Q := V_nx (by decide +kernel : decode (p_c 55) 0 = .ok (.aload_n 1, 1)) rfl rfl
theorem e55_0n : V 55 0 [l0, some .null] st h Q = V 55 1 [l0, some .null] (.null :: st) h Q := V_nx (by decide +kernel : decode (p_c 55) 0 = .ok (.aload_n 1, 1)) rfl rfl
theorem e55_1 : V 55 1 L st h Q = V 55 2 L (.int 0 :: st) h Q := V_c (by decide +kernel : decode (p_c 55) 1 = .ok (.iconst 0, 1)) (by decide)
theorem e55_2 : V 55 2 L (.int x1 :: .ref b1 :: st) h Q = (p_sm st ∧ Vm 169 [.ref b1, .int x1] h (Kt 55 5 L st Q)) := V_st (n := 2) (as := [.int x1, .ref b1]) (z := 169) (by decide +kernel : decode (p_c 55) 2 = .ok (.invokestatic 36, 3)) (by decide +kernel) rfl (by decide +kernel) rfl
theorem e55_5 : V 55 5 [l0, some (.ref a)] st h Q = V 55 6 [l0, some (.ref a)] (.ref a :: st) h Q := V_nx (by decide +kernel : decode (p_c 55) 5 = .ok (.aload_n 1, 1)) rfl rfl
theorem e55_5n : V 55 5 [l0, some .null] st h Q = V 55 6 [l0, some .null] (.null :: st) h Q := V_nx (by decide +kernel : decode (p_c 55) 5 = .ok (.aload_n 1, 1)) rfl rfl
theorem e55_6 : V 55 6 L st h Q = V 55 7 L (.int 0 :: st) h Q := V_c (by decide +kernel : decode (p_c 55) 6 = .ok (.iconst 0, 1)) (by decide)
theorem e55_7 : V 55 7 [some (.ref a), l1] st h Q = V 55 8 [some (.ref a), l1] (.ref a :: st) h Q := V_nx (by decide +kernel : decode (p_c 55) 7 = .ok (.aload_n 0, 1)) rfl rfl
theorem e55_8 : V 55 8 L (.ref a :: st) h Q = (p_ok1 [9] 0 (p_get h a) ∧ V 55 11 L (p_fv 0 (p_get h a) :: st) h Q) := V_gf (t := (3, 1, "WaterShoulders$Stair")) (by decide +kernel : decode (p_c 55) 8 = .ok (.getfield 9, 3)) (by decide +kernel)
theorem e55_11 : V 55 11 L st h Q = V 55 12 L (.int 0 :: st) h Q := V_c (by decide +kernel : decode (p_c 55) 11 = .ok (.iconst 0, 1)) (by decide)
theorem e55_12 : V 55 12 L (.int i :: .ref a :: st) h Q = (p_iok i (p_get h a) ∧ V 55 13 L (.int (p_ivl i (p_get h a)) :: st) h Q) := V_ial (by decide +kernel : decode (p_c 55) 12 = .ok (.iaload, 1))
theorem e55_13 : V 55 13 L (.int x :: .int i :: .ref a :: st) h Q = (p_sok i (p_get h a) ∧ V 55 14 L st (p_set h a (p_ist i x (p_get h a))) Q) := V_ias (by decide +kernel : decode (p_c 55) 13 = .ok (.iastore, 1))
theorem e55_14 : V 55 14 L [] h Q = Q none h := V_rv (by decide +kernel : decode (p_c 55) 14 = .ok (.return_, 1)) rfl
theorem m55 : Vm 55 [.ref a, .ref b1] h Q = V 55 0 [some (.ref a), some (.ref b1)] [] h Q := rfl
theorem e56_0 : V 56 0 [some (.ref a), l1, l2, l3] st h Q = V 56 1 [some (.ref a), l1, l2, l3] (.ref a :: st) h Q := V_nx (by decide +kernel : decode (p_c 56) 0 = .ok (.aload_n 0, 1)) rfl rfl
theorem e56_1 : V 56 1 [l0, l1, some (.int x), l3] st h Q = V 56 2 [l0, l1, some (.int x), l3] (.int x :: st) h Q := V_nx (by decide +kernel : decode (p_c 56) 1 = .ok (.iload_n 2, 1)) rfl rfl
theorem e56_2 : V 56 2 L (.int x1 :: .ref a :: st) h Q = ((p_cn1 (p_get h a) = 9 ∧ p_sm st) ∧ Vm 53 [.ref a, .int x1] h (Kt 56 5 L st Q)) := V_iv (n := 1) (as := [.int x1]) (ci := 9) (z := 53) (by decide +kernel : decode (p_c 56) 2 = .ok (.invokevirtual 42, 3)) (by decide +kernel) rfl rfl (by decide +kernel) rfl
theorem e56_5 : V 56 5 L (.int x :: st) h Q = if x = 0 then V 56 19 L st h Q else V 56 8 L st h Q := (V_ifc (by decide +kernel : decode (p_c 56) 5 = .ok (.ifCond .eq 14, 3)) (by decide)).trans i_eq
theorem e56_8 : V 56 8 [l0, some (.ref a), l2, l3] st h Q = V 56 9 [l0, some (.ref a), l2, l3] (.ref a :: st) h Q := V_nx (by decide +kernel : decode (p_c 56) 8 = .ok (.aload_n 1, 1)) rfl rfl
theorem e56_8n : V 56 8 [l0, some .null, l2, l3] st h Q = V 56 9 [l0, some .null, l2, l3] (.null :: st) h Q := V_nx (by decide +kernel : decode (p_c 56) 8 = .ok (.aload_n 1, 1)) rfl rfl
theorem e56_9 : V 56 9 [l0, l1, some (.int x), l3] st h Q = V 56 10 [l0, l1, some (.int x), l3] (.int x :: st) h Q := V_nx (by decide +kernel : decode (p_c 56) 9 = .ok (.iload_n 2, 1)) rfl rfl
theorem e56_10 : V 56 10 L (.int i :: .ref a :: st) h Q = (p_iok i (p_get h a) ∧ V 56 11 L (.int (p_ivl i (p_get h a)) :: st) h Q) := V_ial (by decide +kernel : decode (p_c 56) 10 = .ok (.iaload, 1))
theorem e56_11 : V 56 11 [l0, l1, l2, some (.int x)] st h Q = V 56 12 [l0, l1, l2, some (.int x)] (.int x :: st) h Q := V_nx (by decide +kernel : decode (p_c 56) 11 = .ok (.iload_n 3, 1)) rfl rfl
theorem e56_12 : V 56 12 L (.int z :: .int x :: st) h Q = if x < z then V 56 19 L st h Q else V 56 15 L st h Q := (V_icmp (by decide +kernel : decode (p_c 56) 12 = .ok (.if_icmp .lt 7, 3)) (by decide)).trans i_lt
theorem e56_15 : V 56 15 L st h Q = V 56 16 L (.int 1 :: st) h Q := V_c (by decide +kernel : decode (p_c 56) 15 = .ok (.iconst 1, 1)) (by decide)
theorem e56_16 : V 56 16 L st h Q = V 56 20 L st h Q := V_goto (by decide +kernel : decode (p_c 56) 16 = .ok (.goto 4, 3)) (by decide)
theorem e56_19 : V 56 19 L st h Q = V 56 20 L (.int 0 :: st) h Q := V_c (by decide +kernel : decode (p_c 56) 19 = .ok (.iconst 0, 1)) (by decide)
theorem e56_20 : V 56 20 L [.int x] h Q = ((x = 0 ∨ x = 1) ∧ Q (some (.int x)) h) := V_rz (by decide +kernel : decode (p_c 56) 20 = .ok (.ireturn, 1)) rfl
theorem m56 : Vm 56 [.ref a, .ref b1, .int x1, .int x2] h Q = V 56 0 [some (.ref a), some (.ref b1), some (.int x1), some (.int x2)] [] h Q := rfl
theorem e57_0 : V 57 0 L st h Q = V 57 1 L (.int 0 :: st) h Q := V_c (by decide +kernel : decode (p_c 57) 0 = .ok (.iconst 0, 1)) (by decide)
theorem e57_1 : V 57 1 [l0, some (.int x), l2, l3] st h Q = V 57 2 [l0, some (.int x), l2, l3] (.int x :: st) h Q := V_nx (by decide +kernel : decode (p_c 57) 1 = .ok (.iload_n 1, 1)) rfl rfl
theorem e57_2 : V 57 2 L (.int z :: .int x :: st) h Q = (p_sm st ∧ V 57 5 L (.int (if x < z then z else x) :: st) h Q) := V_mm (by decide +kernel : decode (p_c 57) 2 = .ok (.invokestatic 46, 3)) (by decide +kernel) (by decide +kernel) (by decide +kernel) (Or.inl ⟨rfl, rfl⟩)
theorem e57_5 : V 57 5 [l0, l1, l2, l3] (.int x :: st) h Q = V 57 6 [l0, l1, p_dl l2, some (.int x)] st h Q := V_nx (by decide +kernel : decode (p_c 57) 5 = .ok (.istore_n 3, 1)) rfl rfl
theorem e57_6 : V 57 6 [l0, l1, l2, some (.int x)] st h Q = V 57 7 [l0, l1, l2, some (.int x)] (.int x :: st) h Q := V_nx (by decide +kernel : decode (p_c 57) 6 = .ok (.iload_n 3, 1)) rfl rfl
theorem e57_7 : V 57 7 [some (.ref a), l1, l2, l3] st h Q = V 57 8 [some (.ref a), l1, l2, l3] (.ref a :: st) h Q := V_nx (by decide +kernel : decode (p_c 57) 7 = .ok (.aload_n 0, 1)) rfl rfl
theorem e57_8 : V 57 8 L (.ref a :: st) h Q = (p_ok1 [9] 2 (p_get h a) ∧ V 57 11 L (p_fv 2 (p_get h a) :: st) h Q) := V_gf (t := (0, 0, "WaterShoulders$Stair")) (by decide +kernel : decode (p_c 57) 8 = .ok (.getfield 30, 3)) (by decide +kernel)
theorem e57_11 : V 57 11 L (.int z :: .int x :: st) h Q = if x < z then V 57 14 L st h Q else V 57 32 L st h Q := (V_icmp (by decide +kernel : decode (p_c 57) 11 = .ok (.if_icmp .ge 21, 3)) (by decide)).trans i_ge
theorem e57_14 : V 57 14 [some (.ref a), l1, l2, l3] st h Q = V 57 15 [some (.ref a), l1, l2, l3] (.ref a :: st) h Q := V_nx (by decide +kernel : decode (p_c 57) 14 = .ok (.aload_n 0, 1)) rfl rfl
theorem e57_15 : V 57 15 L (.ref a :: st) h Q = (p_ok1 [9] 0 (p_get h a) ∧ V 57 18 L (p_fv 0 (p_get h a) :: st) h Q) := V_gf (t := (3, 1, "WaterShoulders$Stair")) (by decide +kernel : decode (p_c 57) 15 = .ok (.getfield 9, 3)) (by decide +kernel)
theorem e57_18 : V 57 18 [l0, l1, l2, some (.int x)] st h Q = V 57 19 [l0, l1, l2, some (.int x)] (.int x :: st) h Q := V_nx (by decide +kernel : decode (p_c 57) 18 = .ok (.iload_n 3, 1)) rfl rfl
theorem e57_19 : V 57 19 L (.int i :: .ref a :: st) h Q = (p_iok i (p_get h a) ∧ V 57 20 L (.int (p_ivl i (p_get h a)) :: st) h Q) := V_ial (by decide +kernel : decode (p_c 57) 19 = .ok (.iaload, 1))
theorem e57_20 : V 57 20 [l0, l1, some (.int x), l3] st h Q = V 57 21 [l0, l1, some (.int x), l3] (.int x :: st) h Q := V_nx (by decide +kernel : decode (p_c 57) 20 = .ok (.iload_n 2, 1)) rfl rfl
theorem e57_21 : V 57 21 L (.int z :: .int x :: st) h Q = if x < z then V 57 24 L st h Q else V 57 26 L st h Q := (V_icmp (by decide +kernel : decode (p_c 57) 21 = .ok (.if_icmp .ge 5, 3)) (by decide)).trans i_ge
theorem e57_24 : V 57 24 L st h Q = V 57 25 L (.int 0 :: st) h Q := V_c (by decide +kernel : decode (p_c 57) 24 = .ok (.iconst 0, 1)) (by decide)
theorem e57_25 : V 57 25 L [.int x] h Q = ((x = 0 ∨ x = 1) ∧ Q (some (.int x)) h) := V_rz (by decide +kernel : decode (p_c 57) 25 = .ok (.ireturn, 1)) rfl
theorem e57_26 : V 57 26 [l0, l1, l2, some (.int x)] st h Q = V 57 29 [l0, l1, p_dl l2, some (.int (x + 1))] st h Q := V_iinc (x := x) (by decide +kernel : decode (p_c 57) 26 = .ok (.iinc 3 1, 3)) (by decide) rfl (Nat.le_of_ble_eq_true rfl)
theorem e57_29 : V 57 29 L st h Q = V 57 6 L st h Q := V_goto (by decide +kernel : decode (p_c 57) 29 = .ok (.goto (-23), 3)) (by decide)
theorem e57_32 : V 57 32 L st h Q = V 57 33 L (.int 1 :: st) h Q := V_c (by decide +kernel : decode (p_c 57) 32 = .ok (.iconst 1, 1)) (by decide)
theorem e57_33 : V 57 33 L [.int x] h Q = ((x = 0 ∨ x = 1) ∧ Q (some (.int x)) h) := V_rz (by decide +kernel : decode (p_c 57) 33 = .ok (.ireturn, 1)) rfl
theorem m57 : Vm 57 [.ref a, .int x1, .int x2] h Q = V 57 0 [some (.ref a), some (.int x1), some (.int x2), none] [] h Q := rfl
theorem e58_0 : V 58 0 [some (.ref a), l1, l2, l3] st h Q = V 58 1 [some (.ref a), l1, l2, l3] (.ref a :: st) h Q := V_nx (by decide +kernel : decode (p_c 58) 0 = .ok (.aload_n 0, 1)) rfl rfl
theorem e58_1 : V 58 1 [l0, some (.ref a), l2, l3] st h Q = V 58 2 [l0, some (.ref a), l2, l3] (.ref a :: st) h Q := V_nx (by decide +kernel : decode (p_c 58) 1 = .ok (.aload_n 1, 1)) rfl rfl
theorem e58_1n : V 58 1 [l0, some .null, l2, l3] st h Q = V 58 2 [l0, some .null, l2, l3] (.null :: st) h Q := V_nx (by decide +kernel : decode (p_c 58) 1 = .ok (.aload_n 1, 1)) rfl rfl
theorem e58_2 : V 58 2 [l0, l1, some (.int x), l3] st h Q = V 58 3 [l0, l1, some (.int x), l3] (.int x :: st) h Q := V_nx (by decide +kernel : decode (p_c 58) 2 = .ok (.iload_n 2, 1)) rfl rfl
theorem e58_3 : V 58 3 [l0, l1, l2, some (.int x)] st h Q = V 58 4 [l0, l1, l2, some (.int x)] (.int x :: st) h Q := V_nx (by decide +kernel : decode (p_c 58) 3 = .ok (.iload_n 3, 1)) rfl rfl
theorem e58_4 : V 58 4 L (.int x2 :: .int x1 :: .ref b1 :: .ref a :: st) h Q = ((p_cn1 (p_get h a) = 9 ∧ p_sm st) ∧ Vm 56 [.ref a, .ref b1, .int x1, .int x2] h (Kt 58 7 L st Q)) := V_iv (n := 3) (as := [.int x2, .int x1, .ref b1]) (ci := 9) (z := 56) (by decide +kernel : decode (p_c 58) 4 = .ok (.invokevirtual 49, 3)) (by decide +kernel) rfl rfl (by decide +kernel) rfl
theorem e58_7 : V 58 7 L (.int x :: st) h Q = if x = 0 then V 58 26 L st h Q else V 58 10 L st h Q := (V_ifc (by decide +kernel : decode (p_c 58) 7 = .ok (.ifCond .eq 19, 3)) (by decide)).trans i_eq
theorem e58_10 : V 58 10 [some (.ref a), l1, l2, l3] st h Q = V 58 11 [some (.ref a), l1, l2, l3] (.ref a :: st) h Q := V_nx (by decide +kernel : decode (p_c 58) 10 = .ok (.aload_n 0, 1)) rfl rfl
theorem e58_11 : V 58 11 [l0, some (.ref a), l2, l3] st h Q = V 58 12 [l0, some (.ref a), l2, l3] (.ref a :: st) h Q := V_nx (by decide +kernel : decode (p_c 58) 11 = .ok (.aload_n 1, 1)) rfl rfl
theorem e58_11n : V 58 11 [l0, some .null, l2, l3] st h Q = V 58 12 [l0, some .null, l2, l3] (.null :: st) h Q := V_nx (by decide +kernel : decode (p_c 58) 11 = .ok (.aload_n 1, 1)) rfl rfl
theorem e58_12 : V 58 12 [l0, l1, some (.int x), l3] st h Q = V 58 13 [l0, l1, some (.int x), l3] (.int x :: st) h Q := V_nx (by decide +kernel : decode (p_c 58) 12 = .ok (.iload_n 2, 1)) rfl rfl
theorem e58_13 : V 58 13 L st h Q = V 58 14 L (.int 1 :: st) h Q := V_c (by decide +kernel : decode (p_c 58) 13 = .ok (.iconst 1, 1)) (by decide)
theorem e58_14 : V 58 14 L (.int z :: .int x :: st) h Q = V 58 15 L (.int (x + z) :: st) h Q := V_nx (by decide +kernel : decode (p_c 58) 14 = .ok (.iadd, 1)) rfl rfl
theorem e58_15 : V 58 15 [l0, l1, l2, some (.int x)] st h Q = V 58 16 [l0, l1, l2, some (.int x)] (.int x :: st) h Q := V_nx (by decide +kernel : decode (p_c 58) 15 = .ok (.iload_n 3, 1)) rfl rfl
theorem e58_16 : V 58 16 L (.int x2 :: .int x1 :: .ref b1 :: .ref a :: st) h Q = ((p_cn1 (p_get h a) = 9 ∧ p_sm st) ∧ Vm 56 [.ref a, .ref b1, .int x1, .int x2] h (Kt 58 19 L st Q)) := V_iv (n := 3) (as := [.int x2, .int x1, .ref b1]) (ci := 9) (z := 56) (by decide +kernel : decode (p_c 58) 16 = .ok (.invokevirtual 49, 3)) (by decide +kernel) rfl rfl (by decide +kernel) rfl
theorem e58_19 : V 58 19 L (.int x :: st) h Q = if x = 0 then V 58 26 L st h Q else V 58 22 L st h Q := (V_ifc (by decide +kernel : decode (p_c 58) 19 = .ok (.ifCond .eq 7, 3)) (by decide)).trans i_eq
theorem e58_22 : V 58 22 L st h Q = V 58 23 L (.int 1 :: st) h Q := V_c (by decide +kernel : decode (p_c 58) 22 = .ok (.iconst 1, 1)) (by decide)
theorem e58_23 : V 58 23 L st h Q = V 58 27 L st h Q := V_goto (by decide +kernel : decode (p_c 58) 23 = .ok (.goto 4, 3)) (by decide)
theorem e58_26 : V 58 26 L st h Q = V 58 27 L (.int 0 :: st) h Q := V_c (by decide +kernel : decode (p_c 58) 26 = .ok (.iconst 0, 1)) (by decide)
theorem e58_27 : V 58 27 L [.int x] h Q = ((x = 0 ∨ x = 1) ∧ Q (some (.int x)) h) := V_rz (by decide +kernel : decode (p_c 58) 27 = .ok (.ireturn, 1)) rfl
theorem m58 : Vm 58 [.ref a, .ref b1, .int x1, .int x2] h Q = V 58 0 [some (.ref a), some (.ref b1), some (.int x1), some (.int x2)] [] h Q := rfl
theorem e59_0 : V 59 0 [l0, l1, some (.int x), l3] st h Q = V 59 1 [l0, l1, some (.int x), l3] (.int x :: st) h Q := V_nx (by decide +kernel : decode (p_c 59) 0 = .ok (.iload_n 2, 1)) rfl rfl
theorem e59_1 : V 59 1 L (.int x :: st) h Q = if 0 < x then V 59 4 L st h Q else V 59 19 L st h Q := (V_ifc (by decide +kernel : decode (p_c 59) 1 = .ok (.ifCond .le 18, 3)) (by decide)).trans i_le
theorem e59_4 : V 59 4 [some (.ref a), l1, l2, l3] st h Q = V 59 5 [some (.ref a), l1, l2, l3] (.ref a :: st) h Q := V_nx (by decide +kernel : decode (p_c 59) 4 = .ok (.aload_n 0, 1)) rfl rfl
theorem e59_5 : V 59 5 [l0, l1, some (.int x), l3] st h Q = V 59 6 [l0, l1, some (.int x), l3] (.int x :: st) h Q := V_nx (by decide +kernel : decode (p_c 59) 5 = .ok (.iload_n 2, 1)) rfl rfl
theorem e59_6 : V 59 6 L (.int x1 :: .ref a :: st) h Q = ((p_cn1 (p_get h a) = 9 ∧ p_sm st) ∧ Vm 53 [.ref a, .int x1] h (Kt 59 9 L st Q)) := V_iv (n := 1) (as := [.int x1]) (ci := 9) (z := 53) (by decide +kernel : decode (p_c 59) 6 = .ok (.invokevirtual 42, 3)) (by decide +kernel) rfl rfl (by decide +kernel) rfl
theorem e59_9 : V 59 9 L (.int x :: st) h Q = if x = 0 then V 59 19 L st h Q else V 59 12 L st h Q := (V_ifc (by decide +kernel : decode (p_c 59) 9 = .ok (.ifCond .eq 10, 3)) (by decide)).trans i_eq
theorem e59_12 : V 59 12 [l0, some (.ref a), l2, l3] st h Q = V 59 13 [l0, some (.ref a), l2, l3] (.ref a :: st) h Q := V_nx (by decide +kernel : decode (p_c 59) 12 = .ok (.aload_n 1, 1)) rfl rfl
theorem e59_12n : V 59 12 [l0, some .null, l2, l3] st h Q = V 59 13 [l0, some .null, l2, l3] (.null :: st) h Q := V_nx (by decide +kernel : decode (p_c 59) 12 = .ok (.aload_n 1, 1)) rfl rfl
theorem e59_13 : V 59 13 [l0, l1, some (.int x), l3] st h Q = V 59 14 [l0, l1, some (.int x), l3] (.int x :: st) h Q := V_nx (by decide +kernel : decode (p_c 59) 13 = .ok (.iload_n 2, 1)) rfl rfl
theorem e59_14 : V 59 14 L (.int x :: .ref a :: st) h Q = V 59 15 L (.int x :: .ref a :: .int x :: .ref a :: st) h Q := V_nx (by decide +kernel : decode (p_c 59) 14 = .ok (.dup2, 1)) rfl rfl
theorem e59_15 : V 59 15 L (.int i :: .ref a :: st) h Q = (p_iok i (p_get h a) ∧ V 59 16 L (.int (p_ivl i (p_get h a)) :: st) h Q) := V_ial (by decide +kernel : decode (p_c 59) 15 = .ok (.iaload, 1))
theorem e59_16 : V 59 16 [l0, l1, l2, some (.int x)] st h Q = V 59 17 [l0, l1, l2, some (.int x)] (.int x :: st) h Q := V_nx (by decide +kernel : decode (p_c 59) 16 = .ok (.iload_n 3, 1)) rfl rfl
theorem e59_17 : V 59 17 L (.int z :: .int x :: st) h Q = V 59 18 L (.int (x - z) :: st) h Q := V_nx (by decide +kernel : decode (p_c 59) 17 = .ok (.isub, 1)) rfl rfl
theorem e59_18 : V 59 18 L (.int x :: .int i :: .ref a :: st) h Q = (p_sok i (p_get h a) ∧ V 59 19 L st (p_set h a (p_ist i x (p_get h a))) Q) := V_ias (by decide +kernel : decode (p_c 59) 18 = .ok (.iastore, 1))
theorem e59_19 : V 59 19 L [] h Q = Q none h := V_rv (by decide +kernel : decode (p_c 59) 19 = .ok (.return_, 1)) rfl
theorem m59 : Vm 59 [.ref a, .ref b1, .int x1, .int x2] h Q = V 59 0 [some (.ref a), some (.ref b1), some (.int x1), some (.int x2)] [] h Q := rfl
theorem e60_0 : V 60 0 [l0, l1, l2, some (.int x), l4, l5, l6] st h Q = V 60 1 [l0, l1, l2, some (.int x), l4, l5, l6] (.int x :: st) h Q := V_nx (by decide +kernel : decode (p_c 60) 0 = .ok (.iload_n 3, 1)) rfl rfl
theorem e60_1 : V 60 1 [l0, l1, l2, l3, l4, l5, l6] (.int x :: st) h Q = V 60 3 [l0, l1, l2, p_dl l3, some (.int x), l5, l6] st h Q := V_nx (by decide +kernel : decode (p_c 60) 1 = .ok (.istore 4, 2)) rfl rfl
theorem e60_3 : V 60 3 [l0, l1, some (.int x), l3, l4, l5, l6] st h Q = V 60 4 [l0, l1, some (.int x), l3, l4, l5, l6] (.int x :: st) h Q := V_nx (by decide +kernel : decode (p_c 60) 3 = .ok (.iload_n 2, 1)) rfl rfl
theorem e60_4 : V 60 4 [some (.ref a), l1, l2, l3, l4, l5, l6] st h Q = V 60 5 [some (.ref a), l1, l2, l3, l4, l5, l6] (.ref a :: st) h Q := V_nx (by decide +kernel : decode (p_c 60) 4 = .ok (.aload_n 0, 1)) rfl rfl
theorem e60_5 : V 60 5 L (.ref a :: st) h Q = ((p_cn1 (p_get h a) = 9 ∧ p_sm st) ∧ Vm 54 [.ref a] h (Kt 60 8 L st Q)) := V_iv (n := 0) (as := []) (ci := 9) (z := 54) (by decide +kernel : decode (p_c 60) 5 = .ok (.invokevirtual 53, 3)) (by decide +kernel) rfl rfl (by decide +kernel) rfl
theorem e60_8 : V 60 8 L (.int z :: .int x :: st) h Q = (p_sm st ∧ V 60 11 L (.int (if z < x then z else x) :: st) h Q) := V_mm (by decide +kernel : decode (p_c 60) 8 = .ok (.invokestatic 24, 3)) (by decide +kernel) (by decide +kernel) (by decide +kernel) (Or.inr ⟨rfl, rfl⟩)
theorem e60_11 : V 60 11 [l0, l1, l2, l3, l4, l5, l6] (.int x :: st) h Q = V 60 13 [l0, l1, l2, l3, p_dl l4, some (.int x), l6] st h Q := V_nx (by decide +kernel : decode (p_c 60) 11 = .ok (.istore 5, 2)) rfl rfl
theorem e60_13 : V 60 13 [l0, l1, l2, l3, l4, some (.int x), l6] st h Q = V 60 15 [l0, l1, l2, l3, l4, some (.int x), l6] (.int x :: st) h Q := V_nx (by decide +kernel : decode (p_c 60) 13 = .ok (.iload 5, 2)) rfl rfl
theorem e60_15 : V 60 15 L (.int x :: st) h Q = if x < 0 then V 60 64 L st h Q else V 60 18 L st h Q := (V_ifc (by decide +kernel : decode (p_c 60) 15 = .ok (.ifCond .lt 49, 3)) (by decide)).trans i_lt
theorem e60_18 : V 60 18 [l0, l1, l2, l3, some (.int x), l5, l6] st h Q = V 60 20 [l0, l1, l2, l3, some (.int x), l5, l6] (.int x :: st) h Q := V_nx (by decide +kernel : decode (p_c 60) 18 = .ok (.iload 4, 2)) rfl rfl
theorem e60_20 : V 60 20 L (.int x :: st) h Q = if 0 < x then V 60 23 L st h Q else V 60 64 L st h Q := (V_ifc (by decide +kernel : decode (p_c 60) 20 = .ok (.ifCond .le 44, 3)) (by decide)).trans i_le
theorem e60_23 : V 60 23 [l0, l1, l2, l3, some (.int x), l5, l6] st h Q = V 60 25 [l0, l1, l2, l3, some (.int x), l5, l6] (.int x :: st) h Q := V_nx (by decide +kernel : decode (p_c 60) 23 = .ok (.iload 4, 2)) rfl rfl
theorem e60_25 : V 60 25 [some (.ref a), l1, l2, l3, l4, l5, l6] st h Q = V 60 26 [some (.ref a), l1, l2, l3, l4, l5, l6] (.ref a :: st) h Q := V_nx (by decide +kernel : decode (p_c 60) 25 = .ok (.aload_n 0, 1)) rfl rfl
theorem e60_26 : V 60 26 L (.ref a :: st) h Q = (p_ok1 [9] 0 (p_get h a) ∧ V 60 29 L (p_fv 0 (p_get h a) :: st) h Q) := V_gf (t := (3, 1, "WaterShoulders$Stair")) (by decide +kernel : decode (p_c 60) 26 = .ok (.getfield 9, 3)) (by decide +kernel)
theorem e60_29 : V 60 29 [l0, l1, l2, l3, l4, some (.int x), l6] st h Q = V 60 31 [l0, l1, l2, l3, l4, some (.int x), l6] (.int x :: st) h Q := V_nx (by decide +kernel : decode (p_c 60) 29 = .ok (.iload 5, 2)) rfl rfl
theorem e60_31 : V 60 31 L (.int i :: .ref a :: st) h Q = (p_iok i (p_get h a) ∧ V 60 32 L (.int (p_ivl i (p_get h a)) :: st) h Q) := V_ial (by decide +kernel : decode (p_c 60) 31 = .ok (.iaload, 1))
theorem e60_32 : V 60 32 [l0, some (.ref a), l2, l3, l4, l5, l6] st h Q = V 60 33 [l0, some (.ref a), l2, l3, l4, l5, l6] (.ref a :: st) h Q := V_nx (by decide +kernel : decode (p_c 60) 32 = .ok (.aload_n 1, 1)) rfl rfl
theorem e60_32n : V 60 32 [l0, some .null, l2, l3, l4, l5, l6] st h Q = V 60 33 [l0, some .null, l2, l3, l4, l5, l6] (.null :: st) h Q := V_nx (by decide +kernel : decode (p_c 60) 32 = .ok (.aload_n 1, 1)) rfl rfl
theorem e60_33 : V 60 33 [l0, l1, l2, l3, l4, some (.int x), l6] st h Q = V 60 35 [l0, l1, l2, l3, l4, some (.int x), l6] (.int x :: st) h Q := V_nx (by decide +kernel : decode (p_c 60) 33 = .ok (.iload 5, 2)) rfl rfl
theorem e60_35 : V 60 35 L (.int i :: .ref a :: st) h Q = (p_iok i (p_get h a) ∧ V 60 36 L (.int (p_ivl i (p_get h a)) :: st) h Q) := V_ial (by decide +kernel : decode (p_c 60) 35 = .ok (.iaload, 1))
theorem e60_36 : V 60 36 L (.int z :: .int x :: st) h Q = V 60 37 L (.int (x - z) :: st) h Q := V_nx (by decide +kernel : decode (p_c 60) 36 = .ok (.isub, 1)) rfl rfl
theorem e60_37 : V 60 37 L (.int z :: .int x :: st) h Q = (p_sm st ∧ V 60 40 L (.int (if z < x then z else x) :: st) h Q) := V_mm (by decide +kernel : decode (p_c 60) 37 = .ok (.invokestatic 24, 3)) (by decide +kernel) (by decide +kernel) (by decide +kernel) (Or.inr ⟨rfl, rfl⟩)
theorem e60_40 : V 60 40 [l0, l1, l2, l3, l4, l5, l6] (.int x :: st) h Q = V 60 42 [l0, l1, l2, l3, l4, p_dl l5, some (.int x)] st h Q := V_nx (by decide +kernel : decode (p_c 60) 40 = .ok (.istore 6, 2)) rfl rfl
theorem e60_42 : V 60 42 [l0, some (.ref a), l2, l3, l4, l5, l6] st h Q = V 60 43 [l0, some (.ref a), l2, l3, l4, l5, l6] (.ref a :: st) h Q := V_nx (by decide +kernel : decode (p_c 60) 42 = .ok (.aload_n 1, 1)) rfl rfl
theorem e60_42n : V 60 42 [l0, some .null, l2, l3, l4, l5, l6] st h Q = V 60 43 [l0, some .null, l2, l3, l4, l5, l6] (.null :: st) h Q := V_nx (by decide +kernel : decode (p_c 60) 42 = .ok (.aload_n 1, 1)) rfl rfl
theorem e60_43 : V 60 43 [l0, l1, l2, l3, l4, some (.int x), l6] st h Q = V 60 45 [l0, l1, l2, l3, l4, some (.int x), l6] (.int x :: st) h Q := V_nx (by decide +kernel : decode (p_c 60) 43 = .ok (.iload 5, 2)) rfl rfl
theorem e60_45 : V 60 45 L (.int x :: .ref a :: st) h Q = V 60 46 L (.int x :: .ref a :: .int x :: .ref a :: st) h Q := V_nx (by decide +kernel : decode (p_c 60) 45 = .ok (.dup2, 1)) rfl rfl
theorem e60_46 : V 60 46 L (.int i :: .ref a :: st) h Q = (p_iok i (p_get h a) ∧ V 60 47 L (.int (p_ivl i (p_get h a)) :: st) h Q) := V_ial (by decide +kernel : decode (p_c 60) 46 = .ok (.iaload, 1))
theorem e60_47 : V 60 47 [l0, l1, l2, l3, l4, l5, some (.int x)] st h Q = V 60 49 [l0, l1, l2, l3, l4, l5, some (.int x)] (.int x :: st) h Q := V_nx (by decide +kernel : decode (p_c 60) 47 = .ok (.iload 6, 2)) rfl rfl
theorem e60_49 : V 60 49 L (.int z :: .int x :: st) h Q = V 60 50 L (.int (x + z) :: st) h Q := V_nx (by decide +kernel : decode (p_c 60) 49 = .ok (.iadd, 1)) rfl rfl
theorem e60_50 : V 60 50 L (.int x :: .int i :: .ref a :: st) h Q = (p_sok i (p_get h a) ∧ V 60 51 L st (p_set h a (p_ist i x (p_get h a))) Q) := V_ias (by decide +kernel : decode (p_c 60) 50 = .ok (.iastore, 1))
theorem e60_51 : V 60 51 [l0, l1, l2, l3, some (.int x), l5, l6] st h Q = V 60 53 [l0, l1, l2, l3, some (.int x), l5, l6] (.int x :: st) h Q := V_nx (by decide +kernel : decode (p_c 60) 51 = .ok (.iload 4, 2)) rfl rfl
theorem e60_53 : V 60 53 [l0, l1, l2, l3, l4, l5, some (.int x)] st h Q = V 60 55 [l0, l1, l2, l3, l4, l5, some (.int x)] (.int x :: st) h Q := V_nx (by decide +kernel : decode (p_c 60) 53 = .ok (.iload 6, 2)) rfl rfl
theorem e60_55 : V 60 55 L (.int z :: .int x :: st) h Q = V 60 56 L (.int (x - z) :: st) h Q := V_nx (by decide +kernel : decode (p_c 60) 55 = .ok (.isub, 1)) rfl rfl
theorem e60_56 : V 60 56 [l0, l1, l2, l3, l4, l5, l6] (.int x :: st) h Q = V 60 58 [l0, l1, l2, p_dl l3, some (.int x), l5, l6] st h Q := V_nx (by decide +kernel : decode (p_c 60) 56 = .ok (.istore 4, 2)) rfl rfl
theorem e60_58 : V 60 58 [l0, l1, l2, l3, l4, some (.int x), l6] st h Q = V 60 61 [l0, l1, l2, l3, p_dl l4, some (.int (x + (-1))), l6] st h Q := V_iinc (x := x) (by decide +kernel : decode (p_c 60) 58 = .ok (.iinc 5 (-1), 3)) (by decide) rfl (Nat.le_of_ble_eq_true rfl)
theorem e60_61 : V 60 61 L st h Q = V 60 13 L st h Q := V_goto (by decide +kernel : decode (p_c 60) 61 = .ok (.goto (-48), 3)) (by decide)
theorem e60_64 : V 60 64 [l0, l1, l2, l3, some (.int x), l5, l6] st h Q = V 60 66 [l0, l1, l2, l3, some (.int x), l5, l6] (.int x :: st) h Q := V_nx (by decide +kernel : decode (p_c 60) 64 = .ok (.iload 4, 2)) rfl rfl
theorem e60_66 : V 60 66 L [.int x] h Q = Q (some (.int x)) h := V_ri (by decide +kernel : decode (p_c 60) 66 = .ok (.ireturn, 1)) rfl
theorem m60 : Vm 60 [.ref a, .ref b1, .int x1, .int x2] h Q = V 60 0 [some (.ref a), some (.ref b1), some (.int x1), some (.int x2), none, none, none] [] h Q := rfl
theorem e61_0 : V 61 0 [some (.ref a), l1, l2, l3] st h Q = V 61 1 [some (.ref a), l1, l2, l3] (.ref a :: st) h Q := V_nx (by decide +kernel : decode (p_c 61) 0 = .ok (.aload_n 0, 1)) rfl rfl
theorem e61_1 : V 61 1 [l0, some (.ref a), l2, l3] st h Q = V 61 2 [l0, some (.ref a), l2, l3] (.ref a :: st) h Q := V_nx (by decide +kernel : decode (p_c 61) 1 = .ok (.aload_n 1, 1)) rfl rfl
theorem e61_1n : V 61 1 [l0, some .null, l2, l3] st h Q = V 61 2 [l0, some .null, l2, l3] (.null :: st) h Q := V_nx (by decide +kernel : decode (p_c 61) 1 = .ok (.aload_n 1, 1)) rfl rfl
theorem e61_2 : V 61 2 [some (.ref a), l1, l2, l3] st h Q = V 61 3 [some (.ref a), l1, l2, l3] (.ref a :: st) h Q := V_nx (by decide +kernel : decode (p_c 61) 2 = .ok (.aload_n 0, 1)) rfl rfl
theorem e61_3 : V 61 3 L (.ref a :: st) h Q = ((p_cn1 (p_get h a) = 9 ∧ p_sm st) ∧ Vm 54 [.ref a] h (Kt 61 6 L st Q)) := V_iv (n := 0) (as := []) (ci := 9) (z := 54) (by decide +kernel : decode (p_c 61) 3 = .ok (.invokevirtual 53, 3)) (by decide +kernel) rfl rfl (by decide +kernel) rfl
theorem e61_6 : V 61 6 [l0, l1, some (.int x), l3] st h Q = V 61 7 [l0, l1, some (.int x), l3] (.int x :: st) h Q := V_nx (by decide +kernel : decode (p_c 61) 6 = .ok (.iload_n 2, 1)) rfl rfl
theorem e61_7 : V 61 7 L (.int x2 :: .int x1 :: .ref b1 :: .ref a :: st) h Q = ((p_cn1 (p_get h a) = 9 ∧ p_sm st) ∧ Vm 60 [.ref a, .ref b1, .int x1, .int x2] h (Kt 61 10 L st Q)) := V_iv (n := 3) (as := [.int x2, .int x1, .ref b1]) (ci := 9) (z := 60) (by decide +kernel : decode (p_c 61) 7 = .ok (.invokevirtual 57, 3)) (by decide +kernel) rfl rfl (by decide +kernel) rfl
theorem e61_10 : V 61 10 L (.int x :: st) h Q = V 61 11 L st h Q := V_nx (by decide +kernel : decode (p_c 61) 10 = .ok (.pop, 1)) rfl rfl
theorem e61_11 : V 61 11 L st h Q = V 61 12 L (.int 1 :: st) h Q := V_c (by decide +kernel : decode (p_c 61) 11 = .ok (.iconst 1, 1)) (by decide)
theorem e61_12 : V 61 12 [l0, l1, l2, l3] (.int x :: st) h Q = V 61 13 [l0, l1, p_dl l2, some (.int x)] st h Q := V_nx (by decide +kernel : decode (p_c 61) 12 = .ok (.istore_n 3, 1)) rfl rfl
theorem e61_13 : V 61 13 [l0, l1, l2, some (.int x)] st h Q = V 61 14 [l0, l1, l2, some (.int x)] (.int x :: st) h Q := V_nx (by decide +kernel : decode (p_c 61) 13 = .ok (.iload_n 3, 1)) rfl rfl
theorem e61_14 : V 61 14 [some (.ref a), l1, l2, l3] st h Q = V 61 15 [some (.ref a), l1, l2, l3] (.ref a :: st) h Q := V_nx (by decide +kernel : decode (p_c 61) 14 = .ok (.aload_n 0, 1)) rfl rfl
theorem e61_15 : V 61 15 L (.ref a :: st) h Q = (p_ok1 [9] 2 (p_get h a) ∧ V 61 18 L (p_fv 2 (p_get h a) :: st) h Q) := V_gf (t := (0, 0, "WaterShoulders$Stair")) (by decide +kernel : decode (p_c 61) 15 = .ok (.getfield 30, 3)) (by decide +kernel)
theorem e61_18 : V 61 18 L (.int z :: .int x :: st) h Q = if x < z then V 61 21 L st h Q else V 61 38 L st h Q := (V_icmp (by decide +kernel : decode (p_c 61) 18 = .ok (.if_icmp .ge 20, 3)) (by decide)).trans i_ge
theorem e61_21 : V 61 21 [l0, some (.ref a), l2, l3] st h Q = V 61 22 [l0, some (.ref a), l2, l3] (.ref a :: st) h Q := V_nx (by decide +kernel : decode (p_c 61) 21 = .ok (.aload_n 1, 1)) rfl rfl
theorem e61_21n : V 61 21 [l0, some .null, l2, l3] st h Q = V 61 22 [l0, some .null, l2, l3] (.null :: st) h Q := V_nx (by decide +kernel : decode (p_c 61) 21 = .ok (.aload_n 1, 1)) rfl rfl
theorem e61_22 : V 61 22 [l0, l1, l2, some (.int x)] st h Q = V 61 23 [l0, l1, l2, some (.int x)] (.int x :: st) h Q := V_nx (by decide +kernel : decode (p_c 61) 22 = .ok (.iload_n 3, 1)) rfl rfl
theorem e61_23 : V 61 23 [some (.ref a), l1, l2, l3] st h Q = V 61 24 [some (.ref a), l1, l2, l3] (.ref a :: st) h Q := V_nx (by decide +kernel : decode (p_c 61) 23 = .ok (.aload_n 0, 1)) rfl rfl
theorem e61_24 : V 61 24 [l0, l1, l2, some (.int x)] st h Q = V 61 25 [l0, l1, l2, some (.int x)] (.int x :: st) h Q := V_nx (by decide +kernel : decode (p_c 61) 24 = .ok (.iload_n 3, 1)) rfl rfl
theorem e61_25 : V 61 25 [l0, some (.ref a), l2, l3] st h Q = V 61 26 [l0, some (.ref a), l2, l3] (.ref a :: st) h Q := V_nx (by decide +kernel : decode (p_c 61) 25 = .ok (.aload_n 1, 1)) rfl rfl
theorem e61_25n : V 61 25 [l0, some .null, l2, l3] st h Q = V 61 26 [l0, some .null, l2, l3] (.null :: st) h Q := V_nx (by decide +kernel : decode (p_c 61) 25 = .ok (.aload_n 1, 1)) rfl rfl
theorem e61_26 : V 61 26 [l0, l1, l2, some (.int x)] st h Q = V 61 27 [l0, l1, l2, some (.int x)] (.int x :: st) h Q := V_nx (by decide +kernel : decode (p_c 61) 26 = .ok (.iload_n 3, 1)) rfl rfl
theorem e61_27 : V 61 27 L (.int i :: .ref a :: st) h Q = (p_iok i (p_get h a) ∧ V 61 28 L (.int (p_ivl i (p_get h a)) :: st) h Q) := V_ial (by decide +kernel : decode (p_c 61) 27 = .ok (.iaload, 1))
theorem e61_28 : V 61 28 L (.int x2 :: .int x1 :: .ref a :: st) h Q = ((p_cn1 (p_get h a) = 9 ∧ p_sm st) ∧ Vm 62 [.ref a, .int x1, .int x2] h (Kt 61 31 L st Q)) := V_iv (n := 2) (as := [.int x2, .int x1]) (ci := 9) (z := 62) (by decide +kernel : decode (p_c 61) 28 = .ok (.invokevirtual 60, 3)) (by decide +kernel) rfl rfl (by decide +kernel) rfl
theorem e61_31 : V 61 31 L (.int x :: .int i :: .ref a :: st) h Q = (p_sok i (p_get h a) ∧ V 61 32 L st (p_set h a (p_ist i x (p_get h a))) Q) := V_ias (by decide +kernel : decode (p_c 61) 31 = .ok (.iastore, 1))
theorem e61_32 : V 61 32 [l0, l1, l2, some (.int x)] st h Q = V 61 35 [l0, l1, p_dl l2, some (.int (x + 1))] st h Q := V_iinc (x := x) (by decide +kernel : decode (p_c 61) 32 = .ok (.iinc 3 1, 3)) (by decide) rfl (Nat.le_of_ble_eq_true rfl)
theorem e61_35 : V 61 35 L st h Q = V 61 13 L st h Q := V_goto (by decide +kernel : decode (p_c 61) 35 = .ok (.goto (-22), 3)) (by decide)
theorem e61_38 : V 61 38 L [] h Q = Q none h := V_rv (by decide +kernel : decode (p_c 61) 38 = .ok (.return_, 1)) rfl
theorem m61 : Vm 61 [.ref a, .ref b1, .int x1] h Q = V 61 0 [some (.ref a), some (.ref b1), some (.int x1), none] [] h Q := rfl
theorem e62_0 : V 62 0 [some (.ref a), l1, l2] st h Q = V 62 1 [some (.ref a), l1, l2] (.ref a :: st) h Q := V_nx (by decide +kernel : decode (p_c 62) 0 = .ok (.aload_n 0, 1)) rfl rfl
theorem e62_1 : V 62 1 [l0, some (.int x), l2] st h Q = V 62 2 [l0, some (.int x), l2] (.int x :: st) h Q := V_nx (by decide +kernel : decode (p_c 62) 1 = .ok (.iload_n 1, 1)) rfl rfl
theorem e62_2 : V 62 2 L (.int x1 :: .ref a :: st) h Q = ((p_cn1 (p_get h a) = 9 ∧ p_sm st) ∧ Vm 53 [.ref a, .int x1] h (Kt 62 5 L st Q)) := V_iv (n := 1) (as := [.int x1]) (ci := 9) (z := 53) (by decide +kernel : decode (p_c 62) 2 = .ok (.invokevirtual 42, 3)) (by decide +kernel) rfl rfl (by decide +kernel) rfl
theorem e62_5 : V 62 5 L (.int x :: st) h Q = if x = 0 then V 62 23 L st h Q else V 62 8 L st h Q := (V_ifc (by decide +kernel : decode (p_c 62) 5 = .ok (.ifCond .eq 18, 3)) (by decide)).trans i_eq
theorem e62_8 : V 62 8 L st h Q = V 62 9 L (.int 0 :: st) h Q := V_c (by decide +kernel : decode (p_c 62) 8 = .ok (.iconst 0, 1)) (by decide)
theorem e62_9 : V 62 9 [l0, l1, some (.int x)] st h Q = V 62 10 [l0, l1, some (.int x)] (.int x :: st) h Q := V_nx (by decide +kernel : decode (p_c 62) 9 = .ok (.iload_n 2, 1)) rfl rfl
theorem e62_10 : V 62 10 [some (.ref a), l1, l2] st h Q = V 62 11 [some (.ref a), l1, l2] (.ref a :: st) h Q := V_nx (by decide +kernel : decode (p_c 62) 10 = .ok (.aload_n 0, 1)) rfl rfl
theorem e62_11 : V 62 11 L (.ref a :: st) h Q = (p_ok1 [9] 1 (p_get h a) ∧ V 62 14 L (p_fv 1 (p_get h a) :: st) h Q) := V_gf (t := (3, 1, "WaterShoulders$Stair")) (by decide +kernel : decode (p_c 62) 11 = .ok (.getfield 15, 3)) (by decide +kernel)
theorem e62_14 : V 62 14 [l0, some (.int x), l2] st h Q = V 62 15 [l0, some (.int x), l2] (.int x :: st) h Q := V_nx (by decide +kernel : decode (p_c 62) 14 = .ok (.iload_n 1, 1)) rfl rfl
theorem e62_15 : V 62 15 L (.int i :: .ref a :: st) h Q = (p_iok i (p_get h a) ∧ V 62 16 L (.int (p_ivl i (p_get h a)) :: st) h Q) := V_ial (by decide +kernel : decode (p_c 62) 15 = .ok (.iaload, 1))
theorem e62_16 : V 62 16 L (.int z :: .int x :: st) h Q = V 62 17 L (.int (x - z) :: st) h Q := V_nx (by decide +kernel : decode (p_c 62) 16 = .ok (.isub, 1)) rfl rfl
theorem e62_17 : V 62 17 L (.int z :: .int x :: st) h Q = (p_sm st ∧ V 62 20 L (.int (if x < z then z else x) :: st) h Q) := V_mm (by decide +kernel : decode (p_c 62) 17 = .ok (.invokestatic 46, 3)) (by decide +kernel) (by decide +kernel) (by decide +kernel) (Or.inl ⟨rfl, rfl⟩)
theorem e62_20 : V 62 20 L st h Q = V 62 24 L st h Q := V_goto (by decide +kernel : decode (p_c 62) 20 = .ok (.goto 4, 3)) (by decide)
theorem e62_23 : V 62 23 L st h Q = V 62 24 L (.int 0 :: st) h Q := V_c (by decide +kernel : decode (p_c 62) 23 = .ok (.iconst 0, 1)) (by decide)
theorem e62_24 : V 62 24 L [.int x] h Q = Q (some (.int x)) h := V_ri (by decide +kernel : decode (p_c 62) 24 = .ok (.ireturn, 1)) rfl
theorem m62 : Vm 62 [.ref a, .int x1, .int x2] h Q = V 62 0 [some (.ref a), some (.int x1), some (.int x2)] [] h Q := rfl
theorem e63_0 : V 63 0 [some (.ref a), l1, l2] st h Q = V 63 1 [some (.ref a), l1, l2] (.ref a :: st) h Q := V_nx (by decide +kernel : decode (p_c 63) 0 = .ok (.aload_n 0, 1)) rfl rfl
theorem e63_1 : V 63 1 [l0, some (.int x), l2] st h Q = V 63 2 [l0, some (.int x), l2] (.int x :: st) h Q := V_nx (by decide +kernel : decode (p_c 63) 1 = .ok (.iload_n 1, 1)) rfl rfl
theorem e63_2 : V 63 2 L (.int x1 :: .ref a :: st) h Q = ((p_cn1 (p_get h a) = 9 ∧ p_sm st) ∧ Vm 53 [.ref a, .int x1] h (Kt 63 5 L st Q)) := V_iv (n := 1) (as := [.int x1]) (ci := 9) (z := 53) (by decide +kernel : decode (p_c 63) 2 = .ok (.invokevirtual 42, 3)) (by decide +kernel) rfl rfl (by decide +kernel) rfl
theorem e63_5 : V 63 5 L (.int x :: st) h Q = if x = 0 then V 63 21 L st h Q else V 63 8 L st h Q := (V_ifc (by decide +kernel : decode (p_c 63) 5 = .ok (.ifCond .eq 16, 3)) (by decide)).trans i_eq
theorem e63_8 : V 63 8 [l0, l1, some (.int x)] st h Q = V 63 9 [l0, l1, some (.int x)] (.int x :: st) h Q := V_nx (by decide +kernel : decode (p_c 63) 8 = .ok (.iload_n 2, 1)) rfl rfl
theorem e63_9 : V 63 9 [some (.ref a), l1, l2] st h Q = V 63 10 [some (.ref a), l1, l2] (.ref a :: st) h Q := V_nx (by decide +kernel : decode (p_c 63) 9 = .ok (.aload_n 0, 1)) rfl rfl
theorem e63_10 : V 63 10 L (.ref a :: st) h Q = (p_ok1 [9] 0 (p_get h a) ∧ V 63 13 L (p_fv 0 (p_get h a) :: st) h Q) := V_gf (t := (3, 1, "WaterShoulders$Stair")) (by decide +kernel : decode (p_c 63) 10 = .ok (.getfield 9, 3)) (by decide +kernel)
theorem e63_13 : V 63 13 [l0, some (.int x), l2] st h Q = V 63 14 [l0, some (.int x), l2] (.int x :: st) h Q := V_nx (by decide +kernel : decode (p_c 63) 13 = .ok (.iload_n 1, 1)) rfl rfl
theorem e63_14 : V 63 14 L (.int i :: .ref a :: st) h Q = (p_iok i (p_get h a) ∧ V 63 15 L (.int (p_ivl i (p_get h a)) :: st) h Q) := V_ial (by decide +kernel : decode (p_c 63) 14 = .ok (.iaload, 1))
theorem e63_15 : V 63 15 L (.int z :: .int x :: st) h Q = (p_sm st ∧ V 63 18 L (.int (if z < x then z else x) :: st) h Q) := V_mm (by decide +kernel : decode (p_c 63) 15 = .ok (.invokestatic 24, 3)) (by decide +kernel) (by decide +kernel) (by decide +kernel) (Or.inr ⟨rfl, rfl⟩)
theorem e63_18 : V 63 18 L st h Q = V 63 22 L st h Q := V_goto (by decide +kernel : decode (p_c 63) 18 = .ok (.goto 4, 3)) (by decide)
theorem e63_21 : V 63 21 L st h Q = V 63 22 L (.int 0 :: st) h Q := V_c (by decide +kernel : decode (p_c 63) 21 = .ok (.iconst 0, 1)) (by decide)
theorem e63_22 : V 63 22 L [.int x] h Q = Q (some (.int x)) h := V_ri (by decide +kernel : decode (p_c 63) 22 = .ok (.ireturn, 1)) rfl
theorem m63 : Vm 63 [.ref a, .int x1, .int x2] h Q = V 63 0 [some (.ref a), some (.int x1), some (.int x2)] [] h Q := rfl
theorem e64_0 : V 64 0 L st h Q = V 64 1 L (.int 0 :: st) h Q := V_c (by decide +kernel : decode (p_c 64) 0 = .ok (.iconst 0, 1)) (by decide)
theorem e64_1 : V 64 1 [l0, l1, l2, l3] (.int x :: st) h Q = V 64 2 [l0, p_dl l1, some (.int x), l3] st h Q := V_nx (by decide +kernel : decode (p_c 64) 1 = .ok (.istore_n 2, 1)) rfl rfl
theorem e64_2 : V 64 2 L st h Q = V 64 3 L (.int 1 :: st) h Q := V_c (by decide +kernel : decode (p_c 64) 2 = .ok (.iconst 1, 1)) (by decide)
theorem e64_3 : V 64 3 [l0, l1, l2, l3] (.int x :: st) h Q = V 64 4 [l0, l1, p_dl l2, some (.int x)] st h Q := V_nx (by decide +kernel : decode (p_c 64) 3 = .ok (.istore_n 3, 1)) rfl rfl
theorem e64_4 : V 64 4 [l0, l1, l2, some (.int x)] st h Q = V 64 5 [l0, l1, l2, some (.int x)] (.int x :: st) h Q := V_nx (by decide +kernel : decode (p_c 64) 4 = .ok (.iload_n 3, 1)) rfl rfl
theorem e64_5 : V 64 5 [some (.ref a), l1, l2, l3] st h Q = V 64 6 [some (.ref a), l1, l2, l3] (.ref a :: st) h Q := V_nx (by decide +kernel : decode (p_c 64) 5 = .ok (.aload_n 0, 1)) rfl rfl
theorem e64_6 : V 64 6 L (.ref a :: st) h Q = (p_ok1 [9] 2 (p_get h a) ∧ V 64 9 L (p_fv 2 (p_get h a) :: st) h Q) := V_gf (t := (0, 0, "WaterShoulders$Stair")) (by decide +kernel : decode (p_c 64) 6 = .ok (.getfield 30, 3)) (by decide +kernel)
theorem e64_9 : V 64 9 L (.int z :: .int x :: st) h Q = if x < z then V 64 12 L st h Q else V 64 24 L st h Q := (V_icmp (by decide +kernel : decode (p_c 64) 9 = .ok (.if_icmp .ge 15, 3)) (by decide)).trans i_ge
theorem e64_12 : V 64 12 [l0, l1, some (.int x), l3] st h Q = V 64 13 [l0, l1, some (.int x), l3] (.int x :: st) h Q := V_nx (by decide +kernel : decode (p_c 64) 12 = .ok (.iload_n 2, 1)) rfl rfl
theorem e64_13 : V 64 13 [l0, some (.ref a), l2, l3] st h Q = V 64 14 [l0, some (.ref a), l2, l3] (.ref a :: st) h Q := V_nx (by decide +kernel : decode (p_c 64) 13 = .ok (.aload_n 1, 1)) rfl rfl
theorem e64_13n : V 64 13 [l0, some .null, l2, l3] st h Q = V 64 14 [l0, some .null, l2, l3] (.null :: st) h Q := V_nx (by decide +kernel : decode (p_c 64) 13 = .ok (.aload_n 1, 1)) rfl rfl
theorem e64_14 : V 64 14 [l0, l1, l2, some (.int x)] st h Q = V 64 15 [l0, l1, l2, some (.int x)] (.int x :: st) h Q := V_nx (by decide +kernel : decode (p_c 64) 14 = .ok (.iload_n 3, 1)) rfl rfl
theorem e64_15 : V 64 15 L (.int i :: .ref a :: st) h Q = (p_iok i (p_get h a) ∧ V 64 16 L (.int (p_ivl i (p_get h a)) :: st) h Q) := V_ial (by decide +kernel : decode (p_c 64) 15 = .ok (.iaload, 1))
theorem e64_16 : V 64 16 L (.int z :: .int x :: st) h Q = V 64 17 L (.int (x + z) :: st) h Q := V_nx (by decide +kernel : decode (p_c 64) 16 = .ok (.iadd, 1)) rfl rfl
theorem e64_17 : V 64 17 [l0, l1, l2, l3] (.int x :: st) h Q = V 64 18 [l0, p_dl l1, some (.int x), l3] st h Q := V_nx (by decide +kernel : decode (p_c 64) 17 = .ok (.istore_n 2, 1)) rfl rfl
theorem e64_18 : V 64 18 [l0, l1, l2, some (.int x)] st h Q = V 64 21 [l0, l1, p_dl l2, some (.int (x + 1))] st h Q := V_iinc (x := x) (by decide +kernel : decode (p_c 64) 18 = .ok (.iinc 3 1, 3)) (by decide) rfl (Nat.le_of_ble_eq_true rfl)
theorem e64_21 : V 64 21 L st h Q = V 64 4 L st h Q := V_goto (by decide +kernel : decode (p_c 64) 21 = .ok (.goto (-17), 3)) (by decide)
theorem e64_24 : V 64 24 [l0, l1, some (.int x), l3] st h Q = V 64 25 [l0, l1, some (.int x), l3] (.int x :: st) h Q := V_nx (by decide +kernel : decode (p_c 64) 24 = .ok (.iload_n 2, 1)) rfl rfl
theorem e64_25 : V 64 25 L [.int x] h Q = Q (some (.int x)) h := V_ri (by decide +kernel : decode (p_c 64) 25 = .ok (.ireturn, 1)) rfl
theorem m64 : Vm 64 [.ref a, .ref b1] h Q = V 64 0 [some (.ref a), some (.ref b1), none, none] [] h Q := rfl
theorem e65_0 : V 65 0 [some (.ref a), l1, l2] st h Q = V 65 1 [some (.ref a), l1, l2] (.ref a :: st) h Q := V_nx (by decide +kernel : decode (p_c 65) 0 = .ok (.aload_n 0, 1)) rfl rfl
theorem e65_1 : V 65 1 [l0, some (.int x), l2] st h Q = V 65 2 [l0, some (.int x), l2] (.int x :: st) h Q := V_nx (by decide +kernel : decode (p_c 65) 1 = .ok (.iload_n 1, 1)) rfl rfl
theorem e65_2 : V 65 2 [l0, l1, some (.int x)] st h Q = V 65 3 [l0, l1, some (.int x)] (.int x :: st) h Q := V_nx (by decide +kernel : decode (p_c 65) 2 = .ok (.iload_n 2, 1)) rfl rfl
theorem e65_3 : V 65 3 L (.int x2 :: .int x1 :: .ref a :: st) h Q = (p_sm st ∧ Vm 7 [.ref a, .int x1, .int x2] h (Kt 65 6 L st Q)) := V_sp (n := 2) (as := [.int x2, .int x1]) (z := 7) (by decide +kernel : decode (p_c 65) 3 = .ok (.invokespecial 1, 3)) (by decide +kernel) rfl (by decide +kernel) rfl
theorem e65_6 : V 65 6 L [] h Q = Q none h := V_rv (by decide +kernel : decode (p_c 65) 6 = .ok (.return_, 1)) rfl
theorem m65 : Vm 65 [.ref a, .int x1, .int x2] h Q = V 65 0 [some (.ref a), some (.int x1), some (.int x2)] [] h Q := rfl
theorem e66_0 : V 66 0 L st h Q = V 66 1 L (.int 4 :: st) h Q := V_c (by decide +kernel : decode (p_c 66) 0 = .ok (.iconst 4, 1)) (by decide)
theorem e66_1 : V 66 1 L [.int x] h Q = Q (some (.int x)) h := V_ri (by decide +kernel : decode (p_c 66) 1 = .ok (.ireturn, 1)) rfl
theorem m66 : Vm 66 [.ref a] h Q = V 66 0 [some (.ref a)] [] h Q := rfl
theorem e67_0 : V 67 0 L st h Q = V 67 1 L (.int 2 :: st) h Q := V_c (by decide +kernel : decode (p_c 67) 0 = .ok (.iconst 2, 1)) (by decide)
theorem e67_1 : V 67 1 [some (.ref a)] st h Q = V 67 2 [some (.ref a)] (.ref a :: st) h Q := V_nx (by decide +kernel : decode (p_c 67) 1 = .ok (.aload_n 0, 1)) rfl rfl
theorem e67_2 : V 67 2 L (.ref a :: st) h Q = (p_ok1 [10] 1 (p_get h a) ∧ V 67 5 L (p_fv 1 (p_get h a) :: st) h Q) := V_gf (t := (0, 2, "WaterShoulders$Tub")) (by decide +kernel : decode (p_c 67) 2 = .ok (.getfield 7, 3)) (by decide +kernel)
theorem e67_5 : V 67 5 L (.int z :: .int x :: st) h Q = V 67 6 L (.int (x * z) :: st) h Q := V_nx (by decide +kernel : decode (p_c 67) 5 = .ok (.imul, 1)) rfl rfl
theorem e67_6 : V 67 6 L [.int x] h Q = Q (some (.int x)) h := V_ri (by decide +kernel : decode (p_c 67) 6 = .ok (.ireturn, 1)) rfl
theorem m67 : Vm 67 [.ref a] h Q = V 67 0 [some (.ref a)] [] h Q := rfl
end EE
