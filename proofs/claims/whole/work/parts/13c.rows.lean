section EE
variable {L : pL} {st : List Value} {h : pH} {Q : Option Value → pH → Prop} {l0 l1 l2 l3 l4 l5 l6 l7 l8 l9 l10 l11 l12 : Option Value} {a b b1 b2 b3 b4 : Nat} {i x z x1 x2 x3 x4 x5 : Int32} {u w u1 u2 : Int64}
theorem e68_0 : V 68 0 [some (.ref a)] st h Q = V 68 1 [some (.ref a)] (.ref a :: st) h Q := V_nx (by decide +kernel : decode (p_c 68) 0 = .ok (.aload_n 0, 1)) rfl rfl
theorem e68_1 : V 68 1 L (.ref a :: st) h Q = (p_sm st ∧ V 68 4 L st h Q) := V_oi (by decide +kernel : decode (p_c 68) 1 = .ok (.invokespecial 1, 3)) (by decide +kernel) (by decide +kernel)
theorem e68_4 : V 68 4 [some (.ref a)] st h Q = V 68 5 [some (.ref a)] (.ref a :: st) h Q := V_nx (by decide +kernel : decode (p_c 68) 4 = .ok (.aload_n 0, 1)) rfl rfl
theorem e68_5 : V 68 5 L st h Q = V 68 8 L (.ref h.1 :: st) (p_new h (.inr (6, [.null, .int 0])) 2) Q := V_new (ci := 6) (by decide +kernel : decode (p_c 68) 5 = .ok (.new 7, 3)) (by decide +kernel)
theorem e68_8 : V 68 8 L (.ref a :: st) h Q = V 68 9 L (.ref a :: .ref a :: st) h Q := V_dup (by decide +kernel : decode (p_c 68) 8 = .ok (.dup, 1)) rfl
theorem e68_8i : V 68 8 L (.int x :: st) h Q = V 68 9 L (.int x :: .int x :: st) h Q := V_dup (by decide +kernel : decode (p_c 68) 8 = .ok (.dup, 1)) rfl
theorem e68_9 : V 68 9 L (.ref a :: st) h Q = (p_sm st ∧ Vm 29 [.ref a] h (Kt 68 12 L st Q)) := V_sp (n := 0) (as := []) (z := 29) (by decide +kernel : decode (p_c 68) 9 = .ok (.invokespecial 9, 3)) (by decide +kernel) rfl (by decide +kernel) rfl
theorem e68_12 : V 68 12 L (.ref b :: .ref a :: st) h Q = (p_ok1 [11] 0 (p_get h a) ∧ V 68 15 L st (p_set h a (p_fs 0 (.ref b) (p_get h a))) Q) := V_pf3 (fin := 1) (ref := "WaterShoulders") (by decide +kernel : decode (p_c 68) 12 = .ok (.putfield 10, 3)) (by decide +kernel) (by decide +kernel)
theorem e68_15 : V 68 15 [some (.ref a)] st h Q = V 68 16 [some (.ref a)] (.ref a :: st) h Q := V_nx (by decide +kernel : decode (p_c 68) 15 = .ok (.aload_n 0, 1)) rfl rfl
theorem e68_16 : V 68 16 L st h Q = V 68 19 L (.ref h.1 :: st) (p_new h (.inr (9, [.null, .null, .int 0])) 3) Q := V_new (ci := 9) (by decide +kernel : decode (p_c 68) 16 = .ok (.new 16, 3)) (by decide +kernel)
theorem e68_19 : V 68 19 L (.ref a :: st) h Q = V 68 20 L (.ref a :: .ref a :: st) h Q := V_dup (by decide +kernel : decode (p_c 68) 19 = .ok (.dup, 1)) rfl
theorem e68_19i : V 68 19 L (.int x :: st) h Q = V 68 20 L (.int x :: .int x :: st) h Q := V_dup (by decide +kernel : decode (p_c 68) 19 = .ok (.dup, 1)) rfl
theorem e68_20 : V 68 20 L (.ref a :: st) h Q = (p_sm st ∧ Vm 51 [.ref a] h (Kt 68 23 L st Q)) := V_sp (n := 0) (as := []) (z := 51) (by decide +kernel : decode (p_c 68) 20 = .ok (.invokespecial 18, 3)) (by decide +kernel) rfl (by decide +kernel) rfl
theorem e68_23 : V 68 23 L (.ref b :: .ref a :: st) h Q = (p_ok1 [11] 1 (p_get h a) ∧ V 68 26 L st (p_set h a (p_fs 1 (.ref b) (p_get h a))) Q) := V_pf3 (fin := 1) (ref := "WaterShoulders") (by decide +kernel : decode (p_c 68) 23 = .ok (.putfield 19, 3)) (by decide +kernel) (by decide +kernel)
theorem e68_26 : V 68 26 [some (.ref a)] st h Q = V 68 27 [some (.ref a)] (.ref a :: st) h Q := V_nx (by decide +kernel : decode (p_c 68) 26 = .ok (.aload_n 0, 1)) rfl rfl
theorem e68_27 : V 68 27 L st h Q = V 68 28 L (.int 4 :: st) h Q := V_c (by decide +kernel : decode (p_c 68) 27 = .ok (.iconst 4, 1)) (by decide)
theorem e68_28 : V 68 28 L (.int 4 :: st) h Q = V 68 30 L (.ref h.1 :: st) (p_new h (.inl (0, 4, .inl (fun _ => 0))) 4) Q := V_nai (by decide +kernel : decode (p_c 68) 28 = .ok (.newarray .int, 2)) (by decide +kernel) (by decide +kernel)
theorem e68_30 : V 68 30 L (.ref b :: .ref a :: st) h Q = (p_ok1 [11] 2 (p_get h a) ∧ V 68 33 L st (p_set h a (p_fs 2 (.ref b) (p_get h a))) Q) := V_pf3 (fin := 1) (ref := "WaterShoulders") (by decide +kernel : decode (p_c 68) 30 = .ok (.putfield 23, 3)) (by decide +kernel) (by decide +kernel)
theorem e68_33 : V 68 33 [some (.ref a)] st h Q = V 68 34 [some (.ref a)] (.ref a :: st) h Q := V_nx (by decide +kernel : decode (p_c 68) 33 = .ok (.aload_n 0, 1)) rfl rfl
theorem e68_34 : V 68 34 L st h Q = V 68 35 L (.int 4 :: st) h Q := V_c (by decide +kernel : decode (p_c 68) 34 = .ok (.iconst 4, 1)) (by decide)
theorem e68_35 : V 68 35 L (.int 4 :: st) h Q = V 68 37 L (.ref h.1 :: st) (p_new h (.inl (0, 4, .inl (fun _ => 0))) 4) Q := V_nai (by decide +kernel : decode (p_c 68) 35 = .ok (.newarray .int, 2)) (by decide +kernel) (by decide +kernel)
theorem e68_37 : V 68 37 L (.ref b :: .ref a :: st) h Q = (p_ok1 [11] 3 (p_get h a) ∧ V 68 40 L st (p_set h a (p_fs 3 (.ref b) (p_get h a))) Q) := V_pf3 (fin := 1) (ref := "WaterShoulders") (by decide +kernel : decode (p_c 68) 37 = .ok (.putfield 27, 3)) (by decide +kernel) (by decide +kernel)
theorem e68_40 : V 68 40 [some (.ref a)] st h Q = V 68 41 [some (.ref a)] (.ref a :: st) h Q := V_nx (by decide +kernel : decode (p_c 68) 40 = .ok (.aload_n 0, 1)) rfl rfl
theorem e68_41 : V 68 41 L st h Q = V 68 42 L (.int 5 :: st) h Q := V_c (by decide +kernel : decode (p_c 68) 41 = .ok (.iconst 5, 1)) (by decide)
theorem e68_42 : V 68 42 L (.int 5 :: st) h Q = V 68 45 L (.ref h.1 :: st) (p_new h (.inl (3, 5, .inr (.inr (fun _ => none)))) 5) Q := V_naq (by decide +kernel : decode (p_c 68) 42 = .ok (.anewarray 30, 3)) (by decide +kernel) (by decide +kernel) (by decide +kernel)
theorem e68_45 : V 68 45 L (.ref b :: .ref a :: st) h Q = (p_ok1 [11] 4 (p_get h a) ∧ V 68 48 L st (p_set h a (p_fs 4 (.ref b) (p_get h a))) Q) := V_pf3 (fin := 1) (ref := "WaterShoulders") (by decide +kernel : decode (p_c 68) 45 = .ok (.putfield 32, 3)) (by decide +kernel) (by decide +kernel)
theorem e68_48 : V 68 48 [some (.ref a)] st h Q = V 68 49 [some (.ref a)] (.ref a :: st) h Q := V_nx (by decide +kernel : decode (p_c 68) 48 = .ok (.aload_n 0, 1)) rfl rfl
theorem e68_49 : V 68 49 L st h Q = V 68 52 L (.ref h.1 :: st) (p_new h (.inr (4, [.null, .int 0, .null, .int 0, .int 0, .null, .null, .null, .int 0])) 9) Q := V_new (ci := 4) (by decide +kernel : decode (p_c 68) 49 = .ok (.new 36, 3)) (by decide +kernel)
theorem e68_52 : V 68 52 L (.ref a :: st) h Q = V 68 53 L (.ref a :: .ref a :: st) h Q := V_dup (by decide +kernel : decode (p_c 68) 52 = .ok (.dup, 1)) rfl
theorem e68_52i : V 68 52 L (.int x :: st) h Q = V 68 53 L (.int x :: .int x :: st) h Q := V_dup (by decide +kernel : decode (p_c 68) 52 = .ok (.dup, 1)) rfl
theorem e68_53 : V 68 53 L (.ref a :: st) h Q = (p_sm st ∧ Vm 12 [.ref a] h (Kt 68 56 L st Q)) := V_sp (n := 0) (as := []) (z := 12) (by decide +kernel : decode (p_c 68) 53 = .ok (.invokespecial 38, 3)) (by decide +kernel) rfl (by decide +kernel) rfl
theorem e68_56 : V 68 56 L (.ref b :: .ref a :: st) h Q = (p_ok1 [11] 5 (p_get h a) ∧ V 68 59 L st (p_set h a (p_fs 5 (.ref b) (p_get h a))) Q) := V_pf3 (fin := 1) (ref := "WaterShoulders") (by decide +kernel : decode (p_c 68) 56 = .ok (.putfield 39, 3)) (by decide +kernel) (by decide +kernel)
theorem e68_59 : V 68 59 [some (.ref a)] st h Q = V 68 60 [some (.ref a)] (.ref a :: st) h Q := V_nx (by decide +kernel : decode (p_c 68) 59 = .ok (.aload_n 0, 1)) rfl rfl
theorem e68_60 : V 68 60 L st h Q = V 68 63 L (.ref h.1 :: st) (p_new h (.inr (3, [.null, .null, .int 0, .int 0, .int 0, .null, .null])) 7) Q := V_new (ci := 3) (by decide +kernel : decode (p_c 68) 60 = .ok (.new 43, 3)) (by decide +kernel)
theorem e68_63 : V 68 63 L (.ref a :: st) h Q = V 68 64 L (.ref a :: .ref a :: st) h Q := V_dup (by decide +kernel : decode (p_c 68) 63 = .ok (.dup, 1)) rfl
theorem e68_63i : V 68 63 L (.int x :: st) h Q = V 68 64 L (.int x :: .int x :: st) h Q := V_dup (by decide +kernel : decode (p_c 68) 63 = .ok (.dup, 1)) rfl
theorem e68_64 : V 68 64 L (.ref a :: st) h Q = (p_sm st ∧ Vm 9 [.ref a] h (Kt 68 67 L st Q)) := V_sp (n := 0) (as := []) (z := 9) (by decide +kernel : decode (p_c 68) 64 = .ok (.invokespecial 45, 3)) (by decide +kernel) rfl (by decide +kernel) rfl
theorem e68_67 : V 68 67 L (.ref b :: .ref a :: st) h Q = (p_ok1 [11] 6 (p_get h a) ∧ V 68 70 L st (p_set h a (p_fs 6 (.ref b) (p_get h a))) Q) := V_pf3 (fin := 1) (ref := "WaterShoulders") (by decide +kernel : decode (p_c 68) 67 = .ok (.putfield 46, 3)) (by decide +kernel) (by decide +kernel)
theorem e68_70 : V 68 70 [some (.ref a)] st h Q = V 68 71 [some (.ref a)] (.ref a :: st) h Q := V_nx (by decide +kernel : decode (p_c 68) 70 = .ok (.aload_n 0, 1)) rfl rfl
theorem e68_71 : V 68 71 L st h Q = V 68 74 L (.ref h.1 :: st) (p_new h (.inr (5, [.null, .null])) 2) Q := V_new (ci := 5) (by decide +kernel : decode (p_c 68) 71 = .ok (.new 50, 3)) (by decide +kernel)
theorem e68_74 : V 68 74 L (.ref a :: st) h Q = V 68 75 L (.ref a :: .ref a :: st) h Q := V_dup (by decide +kernel : decode (p_c 68) 74 = .ok (.dup, 1)) rfl
theorem e68_74i : V 68 74 L (.int x :: st) h Q = V 68 75 L (.int x :: .int x :: st) h Q := V_dup (by decide +kernel : decode (p_c 68) 74 = .ok (.dup, 1)) rfl
theorem e68_75 : V 68 75 L (.ref a :: st) h Q = (p_sm st ∧ Vm 24 [.ref a] h (Kt 68 78 L st Q)) := V_sp (n := 0) (as := []) (z := 24) (by decide +kernel : decode (p_c 68) 75 = .ok (.invokespecial 52, 3)) (by decide +kernel) rfl (by decide +kernel) rfl
theorem e68_78 : V 68 78 L (.ref b :: .ref a :: st) h Q = (p_ok1 [11] 7 (p_get h a) ∧ V 68 81 L st (p_set h a (p_fs 7 (.ref b) (p_get h a))) Q) := V_pf3 (fin := 1) (ref := "WaterShoulders") (by decide +kernel : decode (p_c 68) 78 = .ok (.putfield 53, 3)) (by decide +kernel) (by decide +kernel)
theorem e68_81 : V 68 81 [some (.ref a)] st h Q = V 68 82 [some (.ref a)] (.ref a :: st) h Q := V_nx (by decide +kernel : decode (p_c 68) 81 = .ok (.aload_n 0, 1)) rfl rfl
theorem e68_82 : V 68 82 L st h Q = V 68 85 L (.ref h.1 :: st) (p_new h (.inr (8, [.int 0, .int 0, .null, .null, .null, .null, .int 0, .int 0, .int 0, .int 0, .int 0, .int 0, .int 0, .int 0])) 14) Q := V_new (ci := 8) (by decide +kernel : decode (p_c 68) 82 = .ok (.new 57, 3)) (by decide +kernel)
theorem e68_85 : V 68 85 L (.ref a :: st) h Q = V 68 86 L (.ref a :: .ref a :: st) h Q := V_dup (by decide +kernel : decode (p_c 68) 85 = .ok (.dup, 1)) rfl
theorem e68_85i : V 68 85 L (.int x :: st) h Q = V 68 86 L (.int x :: .int x :: st) h Q := V_dup (by decide +kernel : decode (p_c 68) 85 = .ok (.dup, 1)) rfl
theorem e68_86 : V 68 86 L (.ref a :: st) h Q = (p_sm st ∧ Vm 39 [.ref a] h (Kt 68 89 L st Q)) := V_sp (n := 0) (as := []) (z := 39) (by decide +kernel : decode (p_c 68) 86 = .ok (.invokespecial 59, 3)) (by decide +kernel) rfl (by decide +kernel) rfl
theorem e68_89 : V 68 89 L (.ref b :: .ref a :: st) h Q = (p_ok1 [11] 8 (p_get h a) ∧ V 68 92 L st (p_set h a (p_fs 8 (.ref b) (p_get h a))) Q) := V_pf3 (fin := 1) (ref := "WaterShoulders") (by decide +kernel : decode (p_c 68) 89 = .ok (.putfield 60, 3)) (by decide +kernel) (by decide +kernel)
theorem e68_92 : V 68 92 L [] h Q = Q none h := V_rv (by decide +kernel : decode (p_c 68) 92 = .ok (.return_, 1)) rfl
theorem m68 : Vm 68 [.ref a] h Q = V 68 0 [some (.ref a)] [] h Q := rfl
theorem e69_0 : V 69 0 [l0, some (.long u), l2, l3] st h Q = V 69 1 [l0, some (.long u), l2, l3] (.long u :: st) h Q := V_nx (by decide +kernel : decode (p_c 69) 0 = .ok (.lload_n 1, 1)) rfl rfl
theorem e69_1 : V 69 1 L (.long u1 :: st) h Q = (p_sm st ∧ Vm 30 [.long u1] h (Kt 69 4 L st Q)) := V_st (n := 1) (as := [.long u1]) (z := 30) (by decide +kernel : decode (p_c 69) 1 = .ok (.invokestatic 64, 3)) (by decide +kernel) rfl (by decide +kernel) rfl
theorem e69_4 : V 69 4 [l0, l1, l2, l3] (.int x :: st) h Q = V 69 5 [l0, l1, p_dl l2, some (.int x)] st h Q := V_nx (by decide +kernel : decode (p_c 69) 4 = .ok (.istore_n 3, 1)) rfl rfl
theorem e69_5 : V 69 5 [l0, l1, l2, some (.int x)] st h Q = V 69 6 [l0, l1, l2, some (.int x)] (.int x :: st) h Q := V_nx (by decide +kernel : decode (p_c 69) 5 = .ok (.iload_n 3, 1)) rfl rfl
theorem e69_6 : V 69 6 L (.int x :: st) h Q = if x < 0 then V 69 9 L st h Q else V 69 12 L st h Q := (V_ifc (by decide +kernel : decode (p_c 69) 6 = .ok (.ifCond .ge 6, 3)) (by decide)).trans i_ge
theorem e69_9 : V 69 9 L st h Q = V 69 11 L (.int (-102) :: st) h Q := V_b (by decide +kernel : decode (p_c 69) 9 = .ok (.bipush (-102), 2)) (by decide)
theorem e69_11 : V 69 11 L [.int x] h Q = Q (some (.int x)) h := V_ri (by decide +kernel : decode (p_c 69) 11 = .ok (.ireturn, 1)) rfl
theorem e69_12 : V 69 12 [some (.ref a), l1, l2, l3] st h Q = V 69 13 [some (.ref a), l1, l2, l3] (.ref a :: st) h Q := V_nx (by decide +kernel : decode (p_c 69) 12 = .ok (.aload_n 0, 1)) rfl rfl
theorem e69_13 : V 69 13 L (.ref a :: st) h Q = (p_ok1 [11] 0 (p_get h a) ∧ V 69 16 L (p_fv 0 (p_get h a) :: st) h Q) := V_gf (t := (3, 1, "WaterShoulders")) (by decide +kernel : decode (p_c 69) 13 = .ok (.getfield 10, 3)) (by decide +kernel)
theorem e69_16 : V 69 16 L (.ref a :: st) h Q = (p_ok1 [6] 1 (p_get h a) ∧ V 69 19 L (p_fv 1 (p_get h a) :: st) h Q) := V_gf (t := (0, 0, "WaterShoulders$Page")) (by decide +kernel : decode (p_c 69) 16 = .ok (.getfield 68, 3)) (by decide +kernel)
theorem e69_19 : V 69 19 [l0, l1, l2, some (.int x)] st h Q = V 69 20 [l0, l1, l2, some (.int x)] (.int x :: st) h Q := V_nx (by decide +kernel : decode (p_c 69) 19 = .ok (.iload_n 3, 1)) rfl rfl
theorem e69_20 : V 69 20 L (.int z :: .int x :: st) h Q = V 69 21 L (.int (x + z) :: st) h Q := V_nx (by decide +kernel : decode (p_c 69) 20 = .ok (.iadd, 1)) rfl rfl
theorem e69_21 : V 69 21 L st h Q = V 69 23 L (.int 14 :: st) h Q := V_b (by decide +kernel : decode (p_c 69) 21 = .ok (.bipush 14, 2)) (by decide)
theorem e69_23 : V 69 23 L (.int z :: .int x :: st) h Q = if z < x then V 69 26 L st h Q else V 69 29 L st h Q := (V_icmp (by decide +kernel : decode (p_c 69) 23 = .ok (.if_icmp .le 6, 3)) (by decide)).trans i_le
theorem e69_26 : V 69 26 L st h Q = V 69 28 L (.int (-104) :: st) h Q := V_b (by decide +kernel : decode (p_c 69) 26 = .ok (.bipush (-104), 2)) (by decide)
theorem e69_28 : V 69 28 L [.int x] h Q = Q (some (.int x)) h := V_ri (by decide +kernel : decode (p_c 69) 28 = .ok (.ireturn, 1)) rfl
theorem e69_29 : V 69 29 [some (.ref a), l1, l2, l3] st h Q = V 69 30 [some (.ref a), l1, l2, l3] (.ref a :: st) h Q := V_nx (by decide +kernel : decode (p_c 69) 29 = .ok (.aload_n 0, 1)) rfl rfl
theorem e69_30 : V 69 30 L (.ref a :: st) h Q = (p_ok1 [11] 0 (p_get h a) ∧ V 69 33 L (p_fv 0 (p_get h a) :: st) h Q) := V_gf (t := (3, 1, "WaterShoulders")) (by decide +kernel : decode (p_c 69) 30 = .ok (.getfield 10, 3)) (by decide +kernel)
theorem e69_33 : V 69 33 [l0, some (.long u), l2, l3] st h Q = V 69 34 [l0, some (.long u), l2, l3] (.long u :: st) h Q := V_nx (by decide +kernel : decode (p_c 69) 33 = .ok (.lload_n 1, 1)) rfl rfl
theorem e69_34 : V 69 34 [l0, l1, l2, some (.int x)] st h Q = V 69 35 [l0, l1, l2, some (.int x)] (.int x :: st) h Q := V_nx (by decide +kernel : decode (p_c 69) 34 = .ok (.iload_n 3, 1)) rfl rfl
theorem e69_35 : V 69 35 L (.int x1 :: .long u1 :: .ref a :: st) h Q = ((p_cn1 (p_get h a) = 6 ∧ p_sm st) ∧ Vm 32 [.ref a, .long u1, .int x1] h (Kt 69 38 L st Q)) := V_iv (n := 2) (as := [.int x1, .long u1]) (ci := 6) (z := 32) (by decide +kernel : decode (p_c 69) 35 = .ok (.invokevirtual 72, 3)) (by decide +kernel) rfl rfl (by decide +kernel) rfl
theorem e69_38 : V 69 38 [some (.ref a), l1, l2, l3] st h Q = V 69 39 [some (.ref a), l1, l2, l3] (.ref a :: st) h Q := V_nx (by decide +kernel : decode (p_c 69) 38 = .ok (.aload_n 0, 1)) rfl rfl
theorem e69_39 : V 69 39 L (.ref a :: st) h Q = (p_ok1 [11] 0 (p_get h a) ∧ V 69 42 L (p_fv 0 (p_get h a) :: st) h Q) := V_gf (t := (3, 1, "WaterShoulders")) (by decide +kernel : decode (p_c 69) 39 = .ok (.getfield 10, 3)) (by decide +kernel)
theorem e69_42 : V 69 42 L (.ref a :: st) h Q = (p_ok1 [6] 1 (p_get h a) ∧ V 69 45 L (p_fv 1 (p_get h a) :: st) h Q) := V_gf (t := (0, 0, "WaterShoulders$Page")) (by decide +kernel : decode (p_c 69) 42 = .ok (.getfield 68, 3)) (by decide +kernel)
theorem e69_45 : V 69 45 L [.int x] h Q = Q (some (.int x)) h := V_ri (by decide +kernel : decode (p_c 69) 45 = .ok (.ireturn, 1)) rfl
theorem m69 : Vm 69 [.ref a, .long u1] h Q = V 69 0 [some (.ref a), some (.long u1), none, none] [] h Q := rfl
theorem e70_0 : V 70 0 [some (.ref a), l1] st h Q = V 70 1 [some (.ref a), l1] (.ref a :: st) h Q := V_nx (by decide +kernel : decode (p_c 70) 0 = .ok (.aload_n 0, 1)) rfl rfl
theorem e70_1 : V 70 1 L (.ref a :: st) h Q = (p_ok1 [11] 0 (p_get h a) ∧ V 70 4 L (p_fv 0 (p_get h a) :: st) h Q) := V_gf (t := (3, 1, "WaterShoulders")) (by decide +kernel : decode (p_c 70) 1 = .ok (.getfield 10, 3)) (by decide +kernel)
theorem e70_4 : V 70 4 L (.ref a :: st) h Q = (p_ok1 [6] 1 (p_get h a) ∧ V 70 7 L (p_fv 1 (p_get h a) :: st) h Q) := V_gf (t := (0, 0, "WaterShoulders$Page")) (by decide +kernel : decode (p_c 70) 4 = .ok (.getfield 68, 3)) (by decide +kernel)
theorem e70_7 : V 70 7 [l0, l1] (.int x :: st) h Q = V 70 8 [p_dl l0, some (.int x)] st h Q := V_nx (by decide +kernel : decode (p_c 70) 7 = .ok (.istore_n 1, 1)) rfl rfl
theorem e70_8 : V 70 8 [some (.ref a), l1] st h Q = V 70 9 [some (.ref a), l1] (.ref a :: st) h Q := V_nx (by decide +kernel : decode (p_c 70) 8 = .ok (.aload_n 0, 1)) rfl rfl
theorem e70_9 : V 70 9 L (.ref a :: st) h Q = (p_ok1 [11] 0 (p_get h a) ∧ V 70 12 L (p_fv 0 (p_get h a) :: st) h Q) := V_gf (t := (3, 1, "WaterShoulders")) (by decide +kernel : decode (p_c 70) 9 = .ok (.getfield 10, 3)) (by decide +kernel)
theorem e70_12 : V 70 12 L st h Q = V 70 13 L (.int 0 :: st) h Q := V_c (by decide +kernel : decode (p_c 70) 12 = .ok (.iconst 0, 1)) (by decide)
theorem e70_13 : V 70 13 L (.int x :: .ref a :: st) h Q = (p_ok1 [6] 1 (p_get h a) ∧ V 70 16 L st (p_set h a (p_fs 1 (.int x) (p_get h a))) Q) := V_pf0 (fin := 0) (ref := "WaterShoulders$Page") (by decide +kernel : decode (p_c 70) 13 = .ok (.putfield 68, 3)) (by decide +kernel) (by decide +kernel)
theorem e70_16 : V 70 16 [l0, some (.int x)] st h Q = V 70 17 [l0, some (.int x)] (.int x :: st) h Q := V_nx (by decide +kernel : decode (p_c 70) 16 = .ok (.iload_n 1, 1)) rfl rfl
theorem e70_17 : V 70 17 L [.int x] h Q = Q (some (.int x)) h := V_ri (by decide +kernel : decode (p_c 70) 17 = .ok (.ireturn, 1)) rfl
theorem m70 : Vm 70 [.ref a] h Q = V 70 0 [some (.ref a), none] [] h Q := rfl
theorem e71_0 : V 71 0 [some (.ref a)] st h Q = V 71 1 [some (.ref a)] (.ref a :: st) h Q := V_nx (by decide +kernel : decode (p_c 71) 0 = .ok (.aload_n 0, 1)) rfl rfl
theorem e71_1 : V 71 1 L (.ref a :: st) h Q = (p_ok1 [11] 0 (p_get h a) ∧ V 71 4 L (p_fv 0 (p_get h a) :: st) h Q) := V_gf (t := (3, 1, "WaterShoulders")) (by decide +kernel : decode (p_c 71) 1 = .ok (.getfield 10, 3)) (by decide +kernel)
theorem e71_4 : V 71 4 L (.ref a :: st) h Q = ((p_cn1 (p_get h a) = 6 ∧ p_sm st) ∧ Vm 33 [.ref a] h (Kt 71 7 L st Q)) := V_iv (n := 0) (as := []) (ci := 6) (z := 33) (by decide +kernel : decode (p_c 71) 4 = .ok (.invokevirtual 76, 3)) (by decide +kernel) rfl rfl (by decide +kernel) rfl
theorem e71_7 : V 71 7 L [.int x] h Q = Q (some (.int x)) h := V_ri (by decide +kernel : decode (p_c 71) 7 = .ok (.ireturn, 1)) rfl
theorem m71 : Vm 71 [.ref a] h Q = V 71 0 [some (.ref a)] [] h Q := rfl
theorem e72_0 : V 72 0 [some (.ref a)] st h Q = V 72 1 [some (.ref a)] (.ref a :: st) h Q := V_nx (by decide +kernel : decode (p_c 72) 0 = .ok (.aload_n 0, 1)) rfl rfl
theorem e72_1 : V 72 1 L (.ref a :: st) h Q = (p_ok1 [11] 0 (p_get h a) ∧ V 72 4 L (p_fv 0 (p_get h a) :: st) h Q) := V_gf (t := (3, 1, "WaterShoulders")) (by decide +kernel : decode (p_c 72) 1 = .ok (.getfield 10, 3)) (by decide +kernel)
theorem e72_4 : V 72 4 L (.ref a :: st) h Q = ((p_cn1 (p_get h a) = 6 ∧ p_sm st) ∧ Vm 35 [.ref a] h (Kt 72 7 L st Q)) := V_iv (n := 0) (as := []) (ci := 6) (z := 35) (by decide +kernel : decode (p_c 72) 4 = .ok (.invokevirtual 80, 3)) (by decide +kernel) rfl rfl (by decide +kernel) rfl
theorem e72_7 : V 72 7 L (.int x :: st) h Q = if x = 0 then V 72 10 L st h Q else V 72 13 L st h Q := (V_ifc (by decide +kernel : decode (p_c 72) 7 = .ok (.ifCond .ne 6, 3)) (by decide)).trans i_ne
theorem e72_10 : V 72 10 L st h Q = V 72 12 L (.int (-103) :: st) h Q := V_b (by decide +kernel : decode (p_c 72) 10 = .ok (.bipush (-103), 2)) (by decide)
theorem e72_12 : V 72 12 L [.int x] h Q = Q (some (.int x)) h := V_ri (by decide +kernel : decode (p_c 72) 12 = .ok (.ireturn, 1)) rfl
theorem e72_13 : V 72 13 [some (.ref a)] st h Q = V 72 14 [some (.ref a)] (.ref a :: st) h Q := V_nx (by decide +kernel : decode (p_c 72) 13 = .ok (.aload_n 0, 1)) rfl rfl
theorem e72_14 : V 72 14 L (.ref a :: st) h Q = (p_ok1 [11] 1 (p_get h a) ∧ V 72 17 L (p_fv 1 (p_get h a) :: st) h Q) := V_gf (t := (3, 1, "WaterShoulders")) (by decide +kernel : decode (p_c 72) 14 = .ok (.getfield 19, 3)) (by decide +kernel)
theorem e72_17 : V 72 17 [some (.ref a)] st h Q = V 72 18 [some (.ref a)] (.ref a :: st) h Q := V_nx (by decide +kernel : decode (p_c 72) 17 = .ok (.aload_n 0, 1)) rfl rfl
theorem e72_18 : V 72 18 L (.ref a :: st) h Q = (p_ok1 [11] 0 (p_get h a) ∧ V 72 21 L (p_fv 0 (p_get h a) :: st) h Q) := V_gf (t := (3, 1, "WaterShoulders")) (by decide +kernel : decode (p_c 72) 18 = .ok (.getfield 10, 3)) (by decide +kernel)
theorem e72_21 : V 72 21 L (.ref b1 :: .ref a :: st) h Q = ((p_cn1 (p_get h a) = 9 ∧ p_sm st) ∧ Vm 52 [.ref a, .ref b1] h (Kt 72 24 L st Q)) := V_iv (n := 1) (as := [.ref b1]) (ci := 9) (z := 52) (by decide +kernel : decode (p_c 72) 21 = .ok (.invokevirtual 84, 3)) (by decide +kernel) rfl rfl (by decide +kernel) rfl
theorem e72_24 : V 72 24 [some (.ref a)] st h Q = V 72 25 [some (.ref a)] (.ref a :: st) h Q := V_nx (by decide +kernel : decode (p_c 72) 24 = .ok (.aload_n 0, 1)) rfl rfl
theorem e72_25 : V 72 25 L (.ref a :: st) h Q = (p_ok1 [11] 1 (p_get h a) ∧ V 72 28 L (p_fv 1 (p_get h a) :: st) h Q) := V_gf (t := (3, 1, "WaterShoulders")) (by decide +kernel : decode (p_c 72) 25 = .ok (.getfield 19, 3)) (by decide +kernel)
theorem e72_28 : V 72 28 [some (.ref a)] st h Q = V 72 29 [some (.ref a)] (.ref a :: st) h Q := V_nx (by decide +kernel : decode (p_c 72) 28 = .ok (.aload_n 0, 1)) rfl rfl
theorem e72_29 : V 72 29 L (.ref a :: st) h Q = (p_ok1 [11] 2 (p_get h a) ∧ V 72 32 L (p_fv 2 (p_get h a) :: st) h Q) := V_gf (t := (3, 1, "WaterShoulders")) (by decide +kernel : decode (p_c 72) 29 = .ok (.getfield 23, 3)) (by decide +kernel)
theorem e72_32 : V 72 32 L (.ref b1 :: .ref a :: st) h Q = ((p_cn1 (p_get h a) = 9 ∧ p_sm st) ∧ Vm 55 [.ref a, .ref b1] h (Kt 72 35 L st Q)) := V_iv (n := 1) (as := [.ref b1]) (ci := 9) (z := 55) (by decide +kernel : decode (p_c 72) 32 = .ok (.invokevirtual 88, 3)) (by decide +kernel) rfl rfl (by decide +kernel) rfl
theorem e72_35 : V 72 35 [some (.ref a)] st h Q = V 72 36 [some (.ref a)] (.ref a :: st) h Q := V_nx (by decide +kernel : decode (p_c 72) 35 = .ok (.aload_n 0, 1)) rfl rfl
theorem e72_36 : V 72 36 L (.ref a :: st) h Q = (p_ok1 [11] 0 (p_get h a) ∧ V 72 39 L (p_fv 0 (p_get h a) :: st) h Q) := V_gf (t := (3, 1, "WaterShoulders")) (by decide +kernel : decode (p_c 72) 36 = .ok (.getfield 10, 3)) (by decide +kernel)
theorem e72_39 : V 72 39 L st h Q = V 72 40 L (.int 0 :: st) h Q := V_c (by decide +kernel : decode (p_c 72) 39 = .ok (.iconst 0, 1)) (by decide)
theorem e72_40 : V 72 40 L (.int x :: .ref a :: st) h Q = (p_ok1 [6] 1 (p_get h a) ∧ V 72 43 L st (p_set h a (p_fs 1 (.int x) (p_get h a))) Q) := V_pf0 (fin := 0) (ref := "WaterShoulders$Page") (by decide +kernel : decode (p_c 72) 40 = .ok (.putfield 68, 3)) (by decide +kernel) (by decide +kernel)
theorem e72_43 : V 72 43 [some (.ref a)] st h Q = V 72 44 [some (.ref a)] (.ref a :: st) h Q := V_nx (by decide +kernel : decode (p_c 72) 43 = .ok (.aload_n 0, 1)) rfl rfl
theorem e72_44 : V 72 44 L st h Q = V 72 45 L (.int 0 :: st) h Q := V_c (by decide +kernel : decode (p_c 72) 44 = .ok (.iconst 0, 1)) (by decide)
theorem e72_45 : V 72 45 L (.int x :: .ref a :: st) h Q = (p_ok1 [11] 9 (p_get h a) ∧ V 72 48 L st (p_set h a (p_fs 9 (.int x) (p_get h a))) Q) := V_pf0 (fin := 0) (ref := "WaterShoulders") (by decide +kernel : decode (p_c 72) 45 = .ok (.putfield 92, 3)) (by decide +kernel) (by decide +kernel)
theorem e72_48 : V 72 48 [some (.ref a)] st h Q = V 72 49 [some (.ref a)] (.ref a :: st) h Q := V_nx (by decide +kernel : decode (p_c 72) 48 = .ok (.aload_n 0, 1)) rfl rfl
theorem e72_49 : V 72 49 L st h Q = V 72 50 L (.int 0 :: st) h Q := V_c (by decide +kernel : decode (p_c 72) 49 = .ok (.iconst 0, 1)) (by decide)
theorem e72_50 : V 72 50 L (.int x :: .ref a :: st) h Q = (p_ok1 [11] 10 (p_get h a) ∧ V 72 53 L st (p_set h a (p_fs 10 (.int x) (p_get h a))) Q) := V_pf0 (fin := 0) (ref := "WaterShoulders") (by decide +kernel : decode (p_c 72) 50 = .ok (.putfield 95, 3)) (by decide +kernel) (by decide +kernel)
theorem e72_53 : V 72 53 [some (.ref a)] st h Q = V 72 54 [some (.ref a)] (.ref a :: st) h Q := V_nx (by decide +kernel : decode (p_c 72) 53 = .ok (.aload_n 0, 1)) rfl rfl
theorem e72_54 : V 72 54 L (.ref a :: st) h Q = (p_ok1 [11] 5 (p_get h a) ∧ V 72 57 L (p_fv 5 (p_get h a) :: st) h Q) := V_gf (t := (3, 1, "WaterShoulders")) (by decide +kernel : decode (p_c 72) 54 = .ok (.getfield 39, 3)) (by decide +kernel)
theorem e72_57 : V 72 57 L (.ref a :: st) h Q = ((p_cn1 (p_get h a) = 4 ∧ p_sm st) ∧ Vm 14 [.ref a] h (Kt 72 60 L st Q)) := V_iv (n := 0) (as := []) (ci := 4) (z := 14) (by decide +kernel : decode (p_c 72) 57 = .ok (.invokevirtual 98, 3)) (by decide +kernel) rfl rfl (by decide +kernel) rfl
theorem e72_60 : V 72 60 [some (.ref a)] st h Q = V 72 61 [some (.ref a)] (.ref a :: st) h Q := V_nx (by decide +kernel : decode (p_c 72) 60 = .ok (.aload_n 0, 1)) rfl rfl
theorem e72_61 : V 72 61 L (.ref a :: st) h Q = V 72 62 L (.ref a :: .ref a :: st) h Q := V_dup (by decide +kernel : decode (p_c 72) 61 = .ok (.dup, 1)) rfl
theorem e72_61i : V 72 61 L (.int x :: st) h Q = V 72 62 L (.int x :: .int x :: st) h Q := V_dup (by decide +kernel : decode (p_c 72) 61 = .ok (.dup, 1)) rfl
theorem e72_62 : V 72 62 L (.ref a :: st) h Q = (p_ok1 [11] 11 (p_get h a) ∧ V 72 65 L (p_fv 11 (p_get h a) :: st) h Q) := V_gf (t := (0, 0, "WaterShoulders")) (by decide +kernel : decode (p_c 72) 62 = .ok (.getfield 101, 3)) (by decide +kernel)
theorem e72_65 : V 72 65 L st h Q = V 72 66 L (.int 1 :: st) h Q := V_c (by decide +kernel : decode (p_c 72) 65 = .ok (.iconst 1, 1)) (by decide)
theorem e72_66 : V 72 66 L (.int z :: .int x :: st) h Q = V 72 67 L (.int (x + z) :: st) h Q := V_nx (by decide +kernel : decode (p_c 72) 66 = .ok (.iadd, 1)) rfl rfl
theorem e72_67 : V 72 67 L (.int x :: .ref a :: st) h Q = (p_ok1 [11] 11 (p_get h a) ∧ V 72 70 L st (p_set h a (p_fs 11 (.int x) (p_get h a))) Q) := V_pf0 (fin := 0) (ref := "WaterShoulders") (by decide +kernel : decode (p_c 72) 67 = .ok (.putfield 101, 3)) (by decide +kernel) (by decide +kernel)
theorem e72_70 : V 72 70 [some (.ref a)] st h Q = V 72 71 [some (.ref a)] (.ref a :: st) h Q := V_nx (by decide +kernel : decode (p_c 72) 70 = .ok (.aload_n 0, 1)) rfl rfl
theorem e72_71 : V 72 71 L (.ref a :: st) h Q = (p_ok1 [11] 1 (p_get h a) ∧ V 72 74 L (p_fv 1 (p_get h a) :: st) h Q) := V_gf (t := (3, 1, "WaterShoulders")) (by decide +kernel : decode (p_c 72) 71 = .ok (.getfield 19, 3)) (by decide +kernel)
theorem e72_74 : V 72 74 L (.ref a :: st) h Q = (p_ok1 [9] 2 (p_get h a) ∧ V 72 77 L (p_fv 2 (p_get h a) :: st) h Q) := V_gf (t := (0, 0, "WaterShoulders$Stair")) (by decide +kernel : decode (p_c 72) 74 = .ok (.getfield 104, 3)) (by decide +kernel)
theorem e72_77 : V 72 77 L [.int x] h Q = Q (some (.int x)) h := V_ri (by decide +kernel : decode (p_c 72) 77 = .ok (.ireturn, 1)) rfl
theorem m72 : Vm 72 [.ref a] h Q = V 72 0 [some (.ref a)] [] h Q := rfl
theorem e73_0 : V 73 0 [some (.ref a), l1, l2] st h Q = V 73 1 [some (.ref a), l1, l2] (.ref a :: st) h Q := V_nx (by decide +kernel : decode (p_c 73) 0 = .ok (.aload_n 0, 1)) rfl rfl
theorem e73_1 : V 73 1 L (.ref a :: st) h Q = (p_ok1 [11] 1 (p_get h a) ∧ V 73 4 L (p_fv 1 (p_get h a) :: st) h Q) := V_gf (t := (3, 1, "WaterShoulders")) (by decide +kernel : decode (p_c 73) 1 = .ok (.getfield 19, 3)) (by decide +kernel)
theorem e73_4 : V 73 4 [l0, some (.int x), l2] st h Q = V 73 5 [l0, some (.int x), l2] (.int x :: st) h Q := V_nx (by decide +kernel : decode (p_c 73) 4 = .ok (.iload_n 1, 1)) rfl rfl
theorem e73_5 : V 73 5 L (.int x1 :: .ref a :: st) h Q = ((p_cn1 (p_get h a) = 9 ∧ p_sm st) ∧ Vm 53 [.ref a, .int x1] h (Kt 73 8 L st Q)) := V_iv (n := 1) (as := [.int x1]) (ci := 9) (z := 53) (by decide +kernel : decode (p_c 73) 5 = .ok (.invokevirtual 107, 3)) (by decide +kernel) rfl rfl (by decide +kernel) rfl
theorem e73_8 : V 73 8 L (.int x :: st) h Q = if x = 0 then V 73 11 L st h Q else V 73 14 L st h Q := (V_ifc (by decide +kernel : decode (p_c 73) 8 = .ok (.ifCond .ne 6, 3)) (by decide)).trans i_ne
theorem e73_11 : V 73 11 L st h Q = V 73 13 L (.int (-101) :: st) h Q := V_b (by decide +kernel : decode (p_c 73) 11 = .ok (.bipush (-101), 2)) (by decide)
theorem e73_13 : V 73 13 L [.int x] h Q = Q (some (.int x)) h := V_ri (by decide +kernel : decode (p_c 73) 13 = .ok (.ireturn, 1)) rfl
theorem e73_14 : V 73 14 [l0, l1, some (.int x)] st h Q = V 73 15 [l0, l1, some (.int x)] (.int x :: st) h Q := V_nx (by decide +kernel : decode (p_c 73) 14 = .ok (.iload_n 2, 1)) rfl rfl
theorem e73_15 : V 73 15 L (.int x :: st) h Q = V 73 (if x = 0 then 40 else if x = 1 then 50 else if x = 2 then 60 else 67) L st h Q := V_ts (fun z => if z = 0 then 40 else if z = 1 then 50 else if z = 2 then 60 else 67) (by decide +kernel : decode (p_c 73) 15 = .ok (.tableswitch 52 0 2 #[25, 35, 45], 25)) (by decide) (by
  intro z
  refine ⟨fun hz => ?_, fun hz => ?_⟩
  · have h_0 : ¬ z = 0 := by intro q; subst q; revert hz; decide
    have h_1 : ¬ z = 1 := by intro q; subst q; revert hz; decide
    have h_2 : ¬ z = 2 := by intro q; subst q; revert hz; decide
    simp only [h_0, h_1, h_2, if_false]
    rfl
  · have hc : z.toInt = 0 ∨ z.toInt = 1 ∨ z.toInt = 2 := by omega
    rcases hc with hc | hc | hc
    · have e : z = 0 := Int32.toInt_inj.mp (by rw [hc]; rfl)
      subst e
      exact ⟨25, rfl, by decide, rfl⟩
    · have e : z = 1 := Int32.toInt_inj.mp (by rw [hc]; rfl)
      subst e
      exact ⟨35, rfl, by decide, rfl⟩
    · have e : z = 2 := Int32.toInt_inj.mp (by rw [hc]; rfl)
      subst e
      exact ⟨45, rfl, by decide, rfl⟩)
theorem e73_40 : V 73 40 [some (.ref a), l1, l2] st h Q = V 73 41 [some (.ref a), l1, l2] (.ref a :: st) h Q := V_nx (by decide +kernel : decode (p_c 73) 40 = .ok (.aload_n 0, 1)) rfl rfl
theorem e73_41 : V 73 41 L (.ref a :: st) h Q = (p_ok1 [11] 1 (p_get h a) ∧ V 73 44 L (p_fv 1 (p_get h a) :: st) h Q) := V_gf (t := (3, 1, "WaterShoulders")) (by decide +kernel : decode (p_c 73) 41 = .ok (.getfield 19, 3)) (by decide +kernel)
theorem e73_44 : V 73 44 L (.ref a :: st) h Q = (p_ok1 [9] 0 (p_get h a) ∧ V 73 47 L (p_fv 0 (p_get h a) :: st) h Q) := V_gf (t := (3, 2, "WaterShoulders$Stair")) (by decide +kernel : decode (p_c 73) 44 = .ok (.getfield 111, 3)) (by decide +kernel)
theorem e73_47 : V 73 47 [l0, some (.int x), l2] st h Q = V 73 48 [l0, some (.int x), l2] (.int x :: st) h Q := V_nx (by decide +kernel : decode (p_c 73) 47 = .ok (.iload_n 1, 1)) rfl rfl
theorem e73_48 : V 73 48 L (.int i :: .ref a :: st) h Q = (p_iok i (p_get h a) ∧ V 73 49 L (.int (p_ivl i (p_get h a)) :: st) h Q) := V_ial (by decide +kernel : decode (p_c 73) 48 = .ok (.iaload, 1))
theorem e73_49 : V 73 49 L [.int x] h Q = Q (some (.int x)) h := V_ri (by decide +kernel : decode (p_c 73) 49 = .ok (.ireturn, 1)) rfl
theorem e73_50 : V 73 50 [some (.ref a), l1, l2] st h Q = V 73 51 [some (.ref a), l1, l2] (.ref a :: st) h Q := V_nx (by decide +kernel : decode (p_c 73) 50 = .ok (.aload_n 0, 1)) rfl rfl
theorem e73_51 : V 73 51 L (.ref a :: st) h Q = (p_ok1 [11] 1 (p_get h a) ∧ V 73 54 L (p_fv 1 (p_get h a) :: st) h Q) := V_gf (t := (3, 1, "WaterShoulders")) (by decide +kernel : decode (p_c 73) 51 = .ok (.getfield 19, 3)) (by decide +kernel)
theorem e73_54 : V 73 54 L (.ref a :: st) h Q = (p_ok1 [9] 1 (p_get h a) ∧ V 73 57 L (p_fv 1 (p_get h a) :: st) h Q) := V_gf (t := (3, 2, "WaterShoulders$Stair")) (by decide +kernel : decode (p_c 73) 54 = .ok (.getfield 114, 3)) (by decide +kernel)
theorem e73_57 : V 73 57 [l0, some (.int x), l2] st h Q = V 73 58 [l0, some (.int x), l2] (.int x :: st) h Q := V_nx (by decide +kernel : decode (p_c 73) 57 = .ok (.iload_n 1, 1)) rfl rfl
theorem e73_58 : V 73 58 L (.int i :: .ref a :: st) h Q = (p_iok i (p_get h a) ∧ V 73 59 L (.int (p_ivl i (p_get h a)) :: st) h Q) := V_ial (by decide +kernel : decode (p_c 73) 58 = .ok (.iaload, 1))
theorem e73_59 : V 73 59 L [.int x] h Q = Q (some (.int x)) h := V_ri (by decide +kernel : decode (p_c 73) 59 = .ok (.ireturn, 1)) rfl
theorem e73_60 : V 73 60 [some (.ref a), l1, l2] st h Q = V 73 61 [some (.ref a), l1, l2] (.ref a :: st) h Q := V_nx (by decide +kernel : decode (p_c 73) 60 = .ok (.aload_n 0, 1)) rfl rfl
theorem e73_61 : V 73 61 L (.ref a :: st) h Q = (p_ok1 [11] 2 (p_get h a) ∧ V 73 64 L (p_fv 2 (p_get h a) :: st) h Q) := V_gf (t := (3, 1, "WaterShoulders")) (by decide +kernel : decode (p_c 73) 61 = .ok (.getfield 23, 3)) (by decide +kernel)
theorem e73_64 : V 73 64 [l0, some (.int x), l2] st h Q = V 73 65 [l0, some (.int x), l2] (.int x :: st) h Q := V_nx (by decide +kernel : decode (p_c 73) 64 = .ok (.iload_n 1, 1)) rfl rfl
theorem e73_65 : V 73 65 L (.int i :: .ref a :: st) h Q = (p_iok i (p_get h a) ∧ V 73 66 L (.int (p_ivl i (p_get h a)) :: st) h Q) := V_ial (by decide +kernel : decode (p_c 73) 65 = .ok (.iaload, 1))
theorem e73_66 : V 73 66 L [.int x] h Q = Q (some (.int x)) h := V_ri (by decide +kernel : decode (p_c 73) 66 = .ok (.ireturn, 1)) rfl
theorem e73_67 : V 73 67 L st h Q = V 73 69 L (.int (-102) :: st) h Q := V_b (by decide +kernel : decode (p_c 73) 67 = .ok (.bipush (-102), 2)) (by decide)
theorem e73_69 : V 73 69 L [.int x] h Q = Q (some (.int x)) h := V_ri (by decide +kernel : decode (p_c 73) 69 = .ok (.ireturn, 1)) rfl
theorem m73 : Vm 73 [.ref a, .int x1, .int x2] h Q = V 73 0 [some (.ref a), some (.int x1), some (.int x2)] [] h Q := rfl
theorem e74_0 : V 74 0 [l0, some (.int x), l2, l3] st h Q = V 74 1 [l0, some (.int x), l2, l3] (.int x :: st) h Q := V_nx (by decide +kernel : decode (p_c 74) 0 = .ok (.iload_n 1, 1)) rfl rfl
theorem e74_1 : V 74 1 L (.int x :: st) h Q = if x < 0 then V 74 26 L st h Q else V 74 4 L st h Q := (V_ifc (by decide +kernel : decode (p_c 74) 1 = .ok (.ifCond .lt 25, 3)) (by decide)).trans i_lt
theorem e74_4 : V 74 4 [l0, some (.int x), l2, l3] st h Q = V 74 5 [l0, some (.int x), l2, l3] (.int x :: st) h Q := V_nx (by decide +kernel : decode (p_c 74) 4 = .ok (.iload_n 1, 1)) rfl rfl
theorem e74_5 : V 74 5 L st h Q = V 74 6 L (.int 4 :: st) h Q := V_c (by decide +kernel : decode (p_c 74) 5 = .ok (.iconst 4, 1)) (by decide)
theorem e74_6 : V 74 6 L (.int z :: .int x :: st) h Q = if z < x then V 74 26 L st h Q else V 74 9 L st h Q := (V_icmp (by decide +kernel : decode (p_c 74) 6 = .ok (.if_icmp .gt 20, 3)) (by decide)).trans i_gt
theorem e74_9 : V 74 9 [l0, l1, some (.int x), l3] st h Q = V 74 10 [l0, l1, some (.int x), l3] (.int x :: st) h Q := V_nx (by decide +kernel : decode (p_c 74) 9 = .ok (.iload_n 2, 1)) rfl rfl
theorem e74_10 : V 74 10 L (.int x :: st) h Q = if x < 0 then V 74 26 L st h Q else V 74 13 L st h Q := (V_ifc (by decide +kernel : decode (p_c 74) 10 = .ok (.ifCond .lt 16, 3)) (by decide)).trans i_lt
theorem e74_13 : V 74 13 [l0, l1, some (.int x), l3] st h Q = V 74 14 [l0, l1, some (.int x), l3] (.int x :: st) h Q := V_nx (by decide +kernel : decode (p_c 74) 13 = .ok (.iload_n 2, 1)) rfl rfl
theorem e74_14 : V 74 14 L st h Q = V 74 15 L (.int 5 :: st) h Q := V_c (by decide +kernel : decode (p_c 74) 14 = .ok (.iconst 5, 1)) (by decide)
theorem e74_15 : V 74 15 L (.int z :: .int x :: st) h Q = if z < x then V 74 26 L st h Q else V 74 18 L st h Q := (V_icmp (by decide +kernel : decode (p_c 74) 15 = .ok (.if_icmp .gt 11, 3)) (by decide)).trans i_gt
theorem e74_18 : V 74 18 [l0, some (.int x), l2, l3] st h Q = V 74 19 [l0, some (.int x), l2, l3] (.int x :: st) h Q := V_nx (by decide +kernel : decode (p_c 74) 18 = .ok (.iload_n 1, 1)) rfl rfl
theorem e74_19 : V 74 19 [l0, l1, l2, some (.int x)] st h Q = V 74 20 [l0, l1, l2, some (.int x)] (.int x :: st) h Q := V_nx (by decide +kernel : decode (p_c 74) 19 = .ok (.iload_n 3, 1)) rfl rfl
theorem e74_20 : V 74 20 L (.int x2 :: .int x1 :: st) h Q = (p_sm st ∧ Vm 98 [.int x1, .int x2] h (Kt 74 23 L st Q)) := V_st (n := 2) (as := [.int x2, .int x1]) (z := 98) (by decide +kernel : decode (p_c 74) 20 = .ok (.invokestatic 117, 3)) (by decide +kernel) rfl (by decide +kernel) rfl
theorem e74_23 : V 74 23 L (.int x :: st) h Q = if x = 0 then V 74 26 L st h Q else V 74 29 L st h Q := (V_ifc (by decide +kernel : decode (p_c 74) 23 = .ok (.ifCond .ne 6, 3)) (by decide)).trans i_ne
theorem e74_26 : V 74 26 L st h Q = V 74 28 L (.int (-102) :: st) h Q := V_b (by decide +kernel : decode (p_c 74) 26 = .ok (.bipush (-102), 2)) (by decide)
theorem e74_28 : V 74 28 L [.int x] h Q = Q (some (.int x)) h := V_ri (by decide +kernel : decode (p_c 74) 28 = .ok (.ireturn, 1)) rfl
theorem e74_29 : V 74 29 [some (.ref a), l1, l2, l3] st h Q = V 74 30 [some (.ref a), l1, l2, l3] (.ref a :: st) h Q := V_nx (by decide +kernel : decode (p_c 74) 29 = .ok (.aload_n 0, 1)) rfl rfl
theorem e74_30 : V 74 30 L (.ref a :: st) h Q = (p_ok1 [11] 1 (p_get h a) ∧ V 74 33 L (p_fv 1 (p_get h a) :: st) h Q) := V_gf (t := (3, 1, "WaterShoulders")) (by decide +kernel : decode (p_c 74) 30 = .ok (.getfield 19, 3)) (by decide +kernel)
theorem e74_33 : V 74 33 L (.ref a :: st) h Q = (p_ok1 [9] 2 (p_get h a) ∧ V 74 36 L (p_fv 2 (p_get h a) :: st) h Q) := V_gf (t := (0, 0, "WaterShoulders$Stair")) (by decide +kernel : decode (p_c 74) 33 = .ok (.getfield 104, 3)) (by decide +kernel)
theorem e74_36 : V 74 36 L (.int x :: st) h Q = if x = 0 then V 74 39 L st h Q else V 74 42 L st h Q := (V_ifc (by decide +kernel : decode (p_c 74) 36 = .ok (.ifCond .ne 6, 3)) (by decide)).trans i_ne
theorem e74_39 : V 74 39 L st h Q = V 74 41 L (.int (-103) :: st) h Q := V_b (by decide +kernel : decode (p_c 74) 39 = .ok (.bipush (-103), 2)) (by decide)
theorem e74_41 : V 74 41 L [.int x] h Q = Q (some (.int x)) h := V_ri (by decide +kernel : decode (p_c 74) 41 = .ok (.ireturn, 1)) rfl
theorem e74_42 : V 74 42 [some (.ref a), l1, l2, l3] st h Q = V 74 43 [some (.ref a), l1, l2, l3] (.ref a :: st) h Q := V_nx (by decide +kernel : decode (p_c 74) 42 = .ok (.aload_n 0, 1)) rfl rfl
theorem e74_43 : V 74 43 L (.ref a :: st) h Q = (p_ok1 [11] 9 (p_get h a) ∧ V 74 46 L (p_fv 9 (p_get h a) :: st) h Q) := V_gf (t := (0, 0, "WaterShoulders")) (by decide +kernel : decode (p_c 74) 43 = .ok (.getfield 92, 3)) (by decide +kernel)
theorem e74_46 : V 74 46 L st h Q = V 74 47 L (.int 5 :: st) h Q := V_c (by decide +kernel : decode (p_c 74) 46 = .ok (.iconst 5, 1)) (by decide)
theorem e74_47 : V 74 47 L (.int z :: .int x :: st) h Q = if x < z then V 74 53 L st h Q else V 74 50 L st h Q := (V_icmp (by decide +kernel : decode (p_c 74) 47 = .ok (.if_icmp .lt 6, 3)) (by decide)).trans i_lt
theorem e74_50 : V 74 50 L st h Q = V 74 52 L (.int (-104) :: st) h Q := V_b (by decide +kernel : decode (p_c 74) 50 = .ok (.bipush (-104), 2)) (by decide)
theorem e74_52 : V 74 52 L [.int x] h Q = Q (some (.int x)) h := V_ri (by decide +kernel : decode (p_c 74) 52 = .ok (.ireturn, 1)) rfl
theorem e74_53 : V 74 53 [some (.ref a), l1, l2, l3] st h Q = V 74 54 [some (.ref a), l1, l2, l3] (.ref a :: st) h Q := V_nx (by decide +kernel : decode (p_c 74) 53 = .ok (.aload_n 0, 1)) rfl rfl
theorem e74_54 : V 74 54 L (.ref a :: st) h Q = (p_ok1 [11] 4 (p_get h a) ∧ V 74 57 L (p_fv 4 (p_get h a) :: st) h Q) := V_gf (t := (3, 1, "WaterShoulders")) (by decide +kernel : decode (p_c 74) 54 = .ok (.getfield 32, 3)) (by decide +kernel)
theorem e74_57 : V 74 57 [some (.ref a), l1, l2, l3] st h Q = V 74 58 [some (.ref a), l1, l2, l3] (.ref a :: st) h Q := V_nx (by decide +kernel : decode (p_c 74) 57 = .ok (.aload_n 0, 1)) rfl rfl
theorem e74_58 : V 74 58 L (.ref a :: st) h Q = (p_ok1 [11] 9 (p_get h a) ∧ V 74 61 L (p_fv 9 (p_get h a) :: st) h Q) := V_gf (t := (0, 0, "WaterShoulders")) (by decide +kernel : decode (p_c 74) 58 = .ok (.getfield 92, 3)) (by decide +kernel)
theorem e74_61 : V 74 61 [l0, some (.int x), l2, l3] st h Q = V 74 62 [l0, some (.int x), l2, l3] (.int x :: st) h Q := V_nx (by decide +kernel : decode (p_c 74) 61 = .ok (.iload_n 1, 1)) rfl rfl
theorem e74_62 : V 74 62 [l0, l1, some (.int x), l3] st h Q = V 74 63 [l0, l1, some (.int x), l3] (.int x :: st) h Q := V_nx (by decide +kernel : decode (p_c 74) 62 = .ok (.iload_n 2, 1)) rfl rfl
theorem e74_63 : V 74 63 [l0, l1, l2, some (.int x)] st h Q = V 74 64 [l0, l1, l2, some (.int x)] (.int x :: st) h Q := V_nx (by decide +kernel : decode (p_c 74) 63 = .ok (.iload_n 3, 1)) rfl rfl
theorem e74_64 : V 74 64 L (.int x3 :: .int x2 :: .int x1 :: st) h Q = (p_sm st ∧ Vm 99 [.int x1, .int x2, .int x3] h (Kt 74 67 L st Q)) := V_st (n := 3) (as := [.int x3, .int x2, .int x1]) (z := 99) (by decide +kernel : decode (p_c 74) 64 = .ok (.invokestatic 121, 3)) (by decide +kernel) rfl (by decide +kernel) rfl
theorem e74_67 : V 74 67 L (.ref b :: .int i :: .ref a :: st) h Q = ((p_bt (p_cn1 (p_get h b)) = true ∧ p_qok i (p_get h a)) ∧ V 74 68 L st (p_set h a (p_qst i b (p_get h a))) Q) := V_aas (by decide +kernel : decode (p_c 74) 67 = .ok (.aastore, 1))
theorem e74_68 : V 74 68 [some (.ref a), l1, l2, l3] st h Q = V 74 69 [some (.ref a), l1, l2, l3] (.ref a :: st) h Q := V_nx (by decide +kernel : decode (p_c 74) 68 = .ok (.aload_n 0, 1)) rfl rfl
theorem e74_69 : V 74 69 L (.ref a :: st) h Q = V 74 70 L (.ref a :: .ref a :: st) h Q := V_dup (by decide +kernel : decode (p_c 74) 69 = .ok (.dup, 1)) rfl
theorem e74_69i : V 74 69 L (.int x :: st) h Q = V 74 70 L (.int x :: .int x :: st) h Q := V_dup (by decide +kernel : decode (p_c 74) 69 = .ok (.dup, 1)) rfl
theorem e74_70 : V 74 70 L (.ref a :: st) h Q = (p_ok1 [11] 9 (p_get h a) ∧ V 74 73 L (p_fv 9 (p_get h a) :: st) h Q) := V_gf (t := (0, 0, "WaterShoulders")) (by decide +kernel : decode (p_c 74) 70 = .ok (.getfield 92, 3)) (by decide +kernel)
theorem e74_73 : V 74 73 L st h Q = V 74 74 L (.int 1 :: st) h Q := V_c (by decide +kernel : decode (p_c 74) 73 = .ok (.iconst 1, 1)) (by decide)
theorem e74_74 : V 74 74 L (.int z :: .int x :: st) h Q = V 74 75 L (.int (x + z) :: st) h Q := V_nx (by decide +kernel : decode (p_c 74) 74 = .ok (.iadd, 1)) rfl rfl
theorem e74_75 : V 74 75 L (.int x :: .ref a :: st) h Q = (p_ok1 [11] 9 (p_get h a) ∧ V 74 78 L st (p_set h a (p_fs 9 (.int x) (p_get h a))) Q) := V_pf0 (fin := 0) (ref := "WaterShoulders") (by decide +kernel : decode (p_c 74) 75 = .ok (.putfield 92, 3)) (by decide +kernel) (by decide +kernel)
theorem e74_78 : V 74 78 [some (.ref a), l1, l2, l3] st h Q = V 74 79 [some (.ref a), l1, l2, l3] (.ref a :: st) h Q := V_nx (by decide +kernel : decode (p_c 74) 78 = .ok (.aload_n 0, 1)) rfl rfl
theorem e74_79 : V 74 79 L (.ref a :: st) h Q = (p_ok1 [11] 9 (p_get h a) ∧ V 74 82 L (p_fv 9 (p_get h a) :: st) h Q) := V_gf (t := (0, 0, "WaterShoulders")) (by decide +kernel : decode (p_c 74) 79 = .ok (.getfield 92, 3)) (by decide +kernel)
theorem e74_82 : V 74 82 L st h Q = V 74 83 L (.int 1 :: st) h Q := V_c (by decide +kernel : decode (p_c 74) 82 = .ok (.iconst 1, 1)) (by decide)
theorem e74_83 : V 74 83 L (.int z :: .int x :: st) h Q = V 74 84 L (.int (x - z) :: st) h Q := V_nx (by decide +kernel : decode (p_c 74) 83 = .ok (.isub, 1)) rfl rfl
theorem e74_84 : V 74 84 L [.int x] h Q = Q (some (.int x)) h := V_ri (by decide +kernel : decode (p_c 74) 84 = .ok (.ireturn, 1)) rfl
theorem m74 : Vm 74 [.ref a, .int x1, .int x2, .int x3] h Q = V 74 0 [some (.ref a), some (.int x1), some (.int x2), some (.int x3)] [] h Q := rfl
theorem e75_0 : V 75 0 [some (.ref a), l1, l2, l3] st h Q = V 75 1 [some (.ref a), l1, l2, l3] (.ref a :: st) h Q := V_nx (by decide +kernel : decode (p_c 75) 0 = .ok (.aload_n 0, 1)) rfl rfl
theorem e75_1 : V 75 1 [l0, some (.int x), l2, l3] st h Q = V 75 2 [l0, some (.int x), l2, l3] (.int x :: st) h Q := V_nx (by decide +kernel : decode (p_c 75) 1 = .ok (.iload_n 1, 1)) rfl rfl
theorem e75_2 : V 75 2 L (.int x1 :: .ref a :: st) h Q = ((p_cn1 (p_get h a) = 11 ∧ p_sm st) ∧ Vm 100 [.ref a, .int x1] h (Kt 75 5 L st Q)) := V_iv (n := 1) (as := [.int x1]) (ci := 11) (z := 100) (by decide +kernel : decode (p_c 75) 2 = .ok (.invokevirtual 125, 3)) (by decide +kernel) rfl rfl (by decide +kernel) rfl
theorem e75_5 : V 75 5 [l0, l1, l2, l3] (.ref a :: st) h Q = V 75 6 [l0, l1, p_dl l2, some (.ref a)] st h Q := V_nx (by decide +kernel : decode (p_c 75) 5 = .ok (.astore_n 3, 1)) rfl rfl
theorem e75_5n : V 75 5 [l0, l1, l2, l3] (.null :: st) h Q = V 75 6 [l0, l1, p_dl l2, some (.null)] st h Q := V_nx (by decide +kernel : decode (p_c 75) 5 = .ok (.astore_n 3, 1)) rfl rfl
theorem e75_6 : V 75 6 [l0, l1, l2, some (.ref a)] st h Q = V 75 7 [l0, l1, l2, some (.ref a)] (.ref a :: st) h Q := V_nx (by decide +kernel : decode (p_c 75) 6 = .ok (.aload_n 3, 1)) rfl rfl
theorem e75_6n : V 75 6 [l0, l1, l2, some .null] st h Q = V 75 7 [l0, l1, l2, some .null] (.null :: st) h Q := V_nx (by decide +kernel : decode (p_c 75) 6 = .ok (.aload_n 3, 1)) rfl rfl
theorem e75_7 : V 75 7 L (.null :: st) h Q = V 75 10 L st h Q := V_nonN (by decide +kernel : decode (p_c 75) 7 = .ok (.ifnonnull 6, 3))
theorem e75_7r : V 75 7 L (.ref a :: st) h Q = V 75 13 L st h Q := V_nonR (by decide +kernel : decode (p_c 75) 7 = .ok (.ifnonnull 6, 3)) (by decide)
theorem e75_10 : V 75 10 L st h Q = V 75 12 L (.int (-101) :: st) h Q := V_b (by decide +kernel : decode (p_c 75) 10 = .ok (.bipush (-101), 2)) (by decide)
theorem e75_12 : V 75 12 L [.int x] h Q = Q (some (.int x)) h := V_ri (by decide +kernel : decode (p_c 75) 12 = .ok (.ireturn, 1)) rfl
theorem e75_13 : V 75 13 [l0, l1, some (.int x), l3] st h Q = V 75 14 [l0, l1, some (.int x), l3] (.int x :: st) h Q := V_nx (by decide +kernel : decode (p_c 75) 13 = .ok (.iload_n 2, 1)) rfl rfl
theorem e75_14 : V 75 14 L (.int x :: st) h Q = V 75 (if x = 0 then 60 else if x = 1 then 65 else if x = 2 then 70 else if x = 3 then 75 else if x = 4 then 80 else if x = 5 then 85 else if x = 6 then 90 else if x = 7 then 95 else 123) L st h Q := V_ts (fun z => if z = 0 then 60 else if z = 1 then 65 else if z = 2 then 70 else if z = 3 then 75 else if z = 4 then 80 else if z = 5 then 85 else if z = 6 then 90 else if z = 7 then 95 else 123) (by decide +kernel : decode (p_c 75) 14 = .ok (.tableswitch 109 0 7 #[46, 51, 56, 61, 66, 71, 76, 81], 46)) (by decide) (by
  intro z
  refine ⟨fun hz => ?_, fun hz => ?_⟩
  · have h_0 : ¬ z = 0 := by intro q; subst q; revert hz; decide
    have h_1 : ¬ z = 1 := by intro q; subst q; revert hz; decide
    have h_2 : ¬ z = 2 := by intro q; subst q; revert hz; decide
    have h_3 : ¬ z = 3 := by intro q; subst q; revert hz; decide
    have h_4 : ¬ z = 4 := by intro q; subst q; revert hz; decide
    have h_5 : ¬ z = 5 := by intro q; subst q; revert hz; decide
    have h_6 : ¬ z = 6 := by intro q; subst q; revert hz; decide
    have h_7 : ¬ z = 7 := by intro q; subst q; revert hz; decide
    simp only [h_0, h_1, h_2, h_3, h_4, h_5, h_6, h_7, if_false]
    rfl
  · have hc : z.toInt = 0 ∨ z.toInt = 1 ∨ z.toInt = 2 ∨ z.toInt = 3 ∨ z.toInt = 4 ∨ z.toInt = 5 ∨ z.toInt = 6 ∨ z.toInt = 7 := by omega
    rcases hc with hc | hc | hc | hc | hc | hc | hc | hc
    · have e : z = 0 := Int32.toInt_inj.mp (by rw [hc]; rfl)
      subst e
      exact ⟨46, rfl, by decide, rfl⟩
    · have e : z = 1 := Int32.toInt_inj.mp (by rw [hc]; rfl)
      subst e
      exact ⟨51, rfl, by decide, rfl⟩
    · have e : z = 2 := Int32.toInt_inj.mp (by rw [hc]; rfl)
      subst e
      exact ⟨56, rfl, by decide, rfl⟩
    · have e : z = 3 := Int32.toInt_inj.mp (by rw [hc]; rfl)
      subst e
      exact ⟨61, rfl, by decide, rfl⟩
    · have e : z = 4 := Int32.toInt_inj.mp (by rw [hc]; rfl)
      subst e
      exact ⟨66, rfl, by decide, rfl⟩
    · have e : z = 5 := Int32.toInt_inj.mp (by rw [hc]; rfl)
      subst e
      exact ⟨71, rfl, by decide, rfl⟩
    · have e : z = 6 := Int32.toInt_inj.mp (by rw [hc]; rfl)
      subst e
      exact ⟨76, rfl, by decide, rfl⟩
    · have e : z = 7 := Int32.toInt_inj.mp (by rw [hc]; rfl)
      subst e
      exact ⟨81, rfl, by decide, rfl⟩)
theorem e75_60 : V 75 60 [l0, l1, l2, some (.ref a)] st h Q = V 75 61 [l0, l1, l2, some (.ref a)] (.ref a :: st) h Q := V_nx (by decide +kernel : decode (p_c 75) 60 = .ok (.aload_n 3, 1)) rfl rfl
theorem e75_60n : V 75 60 [l0, l1, l2, some .null] st h Q = V 75 61 [l0, l1, l2, some .null] (.null :: st) h Q := V_nx (by decide +kernel : decode (p_c 75) 60 = .ok (.aload_n 3, 1)) rfl rfl
theorem e75_61 : V 75 61 L (.ref a :: st) h Q = ((p_bt (p_cn1 (p_get h a)) = true ∧ p_sm st) ∧ Vm (p_tz [(0, 1), (1, 4), (2, 8), (7, 37), (10, 66)] (p_cn1 (p_get h a))) [.ref a] h (Kt 75 64 L st Q)) := V_ib (by decide +kernel : decode (p_c 75) 61 = .ok (.invokevirtual 129, 3)) (by decide +kernel) rfl (by decide +kernel)
theorem e75_64 : V 75 64 L [.int x] h Q = Q (some (.int x)) h := V_ri (by decide +kernel : decode (p_c 75) 64 = .ok (.ireturn, 1)) rfl
theorem e75_65 : V 75 65 [l0, l1, l2, some (.ref a)] st h Q = V 75 66 [l0, l1, l2, some (.ref a)] (.ref a :: st) h Q := V_nx (by decide +kernel : decode (p_c 75) 65 = .ok (.aload_n 3, 1)) rfl rfl
theorem e75_65n : V 75 65 [l0, l1, l2, some .null] st h Q = V 75 66 [l0, l1, l2, some .null] (.null :: st) h Q := V_nx (by decide +kernel : decode (p_c 75) 65 = .ok (.aload_n 3, 1)) rfl rfl
theorem e75_66 : V 75 66 L (.ref a :: st) h Q = (p_ok1 [0, 1, 2, 7, 10] 0 (p_get h a) ∧ V 75 69 L (p_fv 0 (p_get h a) :: st) h Q) := V_gf (t := (0, 2, "WaterShoulders$Boat")) (by decide +kernel : decode (p_c 75) 66 = .ok (.getfield 132, 3)) (by decide +kernel)
theorem e75_69 : V 75 69 L [.int x] h Q = Q (some (.int x)) h := V_ri (by decide +kernel : decode (p_c 75) 69 = .ok (.ireturn, 1)) rfl
theorem e75_70 : V 75 70 [l0, l1, l2, some (.ref a)] st h Q = V 75 71 [l0, l1, l2, some (.ref a)] (.ref a :: st) h Q := V_nx (by decide +kernel : decode (p_c 75) 70 = .ok (.aload_n 3, 1)) rfl rfl
theorem e75_70n : V 75 70 [l0, l1, l2, some .null] st h Q = V 75 71 [l0, l1, l2, some .null] (.null :: st) h Q := V_nx (by decide +kernel : decode (p_c 75) 70 = .ok (.aload_n 3, 1)) rfl rfl
theorem e75_71 : V 75 71 L (.ref a :: st) h Q = (p_ok1 [0, 1, 2, 7, 10] 1 (p_get h a) ∧ V 75 74 L (p_fv 1 (p_get h a) :: st) h Q) := V_gf (t := (0, 2, "WaterShoulders$Boat")) (by decide +kernel : decode (p_c 75) 71 = .ok (.getfield 135, 3)) (by decide +kernel)
theorem e75_74 : V 75 74 L [.int x] h Q = Q (some (.int x)) h := V_ri (by decide +kernel : decode (p_c 75) 74 = .ok (.ireturn, 1)) rfl
theorem e75_75 : V 75 75 [l0, l1, l2, some (.ref a)] st h Q = V 75 76 [l0, l1, l2, some (.ref a)] (.ref a :: st) h Q := V_nx (by decide +kernel : decode (p_c 75) 75 = .ok (.aload_n 3, 1)) rfl rfl
theorem e75_75n : V 75 75 [l0, l1, l2, some .null] st h Q = V 75 76 [l0, l1, l2, some .null] (.null :: st) h Q := V_nx (by decide +kernel : decode (p_c 75) 75 = .ok (.aload_n 3, 1)) rfl rfl
theorem e75_76 : V 75 76 L (.ref a :: st) h Q = ((p_bt (p_cn1 (p_get h a)) = true ∧ p_sm st) ∧ Vm (p_tz [(0, 2), (1, 5), (2, 5), (7, 38), (10, 5)] (p_cn1 (p_get h a))) [.ref a] h (Kt 75 79 L st Q)) := V_ib (by decide +kernel : decode (p_c 75) 76 = .ok (.invokevirtual 138, 3)) (by decide +kernel) rfl (by decide +kernel)
theorem e75_79 : V 75 79 L [.int x] h Q = Q (some (.int x)) h := V_ri (by decide +kernel : decode (p_c 75) 79 = .ok (.ireturn, 1)) rfl
theorem e75_80 : V 75 80 [l0, l1, l2, some (.ref a)] st h Q = V 75 81 [l0, l1, l2, some (.ref a)] (.ref a :: st) h Q := V_nx (by decide +kernel : decode (p_c 75) 80 = .ok (.aload_n 3, 1)) rfl rfl
theorem e75_80n : V 75 80 [l0, l1, l2, some .null] st h Q = V 75 81 [l0, l1, l2, some .null] (.null :: st) h Q := V_nx (by decide +kernel : decode (p_c 75) 80 = .ok (.aload_n 3, 1)) rfl rfl
theorem e75_81 : V 75 81 L (.ref a :: st) h Q = ((p_bt (p_cn1 (p_get h a)) = true ∧ p_sm st) ∧ Vm (p_tz [(0, 6), (1, 6), (2, 6), (7, 6), (10, 67)] (p_cn1 (p_get h a))) [.ref a] h (Kt 75 84 L st Q)) := V_ib (by decide +kernel : decode (p_c 75) 81 = .ok (.invokevirtual 141, 3)) (by decide +kernel) rfl (by decide +kernel)
theorem e75_84 : V 75 84 L [.int x] h Q = Q (some (.int x)) h := V_ri (by decide +kernel : decode (p_c 75) 84 = .ok (.ireturn, 1)) rfl
theorem e75_85 : V 75 85 [l0, l1, l2, some (.ref a)] st h Q = V 75 86 [l0, l1, l2, some (.ref a)] (.ref a :: st) h Q := V_nx (by decide +kernel : decode (p_c 75) 85 = .ok (.aload_n 3, 1)) rfl rfl
theorem e75_85n : V 75 85 [l0, l1, l2, some .null] st h Q = V 75 86 [l0, l1, l2, some .null] (.null :: st) h Q := V_nx (by decide +kernel : decode (p_c 75) 85 = .ok (.aload_n 3, 1)) rfl rfl
theorem e75_86 : V 75 86 L (.ref a :: st) h Q = (p_ok1 [0, 1, 2, 7, 10] 2 (p_get h a) ∧ V 75 89 L (p_fv 2 (p_get h a) :: st) h Q) := V_gf (t := (0, 0, "WaterShoulders$Boat")) (by decide +kernel : decode (p_c 75) 86 = .ok (.getfield 144, 3)) (by decide +kernel)
theorem e75_89 : V 75 89 L [.int x] h Q = Q (some (.int x)) h := V_ri (by decide +kernel : decode (p_c 75) 89 = .ok (.ireturn, 1)) rfl
theorem e75_90 : V 75 90 [l0, l1, l2, some (.ref a)] st h Q = V 75 91 [l0, l1, l2, some (.ref a)] (.ref a :: st) h Q := V_nx (by decide +kernel : decode (p_c 75) 90 = .ok (.aload_n 3, 1)) rfl rfl
theorem e75_90n : V 75 90 [l0, l1, l2, some .null] st h Q = V 75 91 [l0, l1, l2, some .null] (.null :: st) h Q := V_nx (by decide +kernel : decode (p_c 75) 90 = .ok (.aload_n 3, 1)) rfl rfl
theorem e75_91 : V 75 91 L (.ref a :: st) h Q = (p_ok1 [0, 1, 2, 7, 10] 3 (p_get h a) ∧ V 75 94 L (p_fv 3 (p_get h a) :: st) h Q) := V_gf (t := (0, 0, "WaterShoulders$Boat")) (by decide +kernel : decode (p_c 75) 91 = .ok (.getfield 147, 3)) (by decide +kernel)
theorem e75_94 : V 75 94 L [.int x] h Q = Q (some (.int x)) h := V_ri (by decide +kernel : decode (p_c 75) 94 = .ok (.ireturn, 1)) rfl
theorem e75_95 : V 75 95 [some (.ref a), l1, l2, l3] st h Q = V 75 96 [some (.ref a), l1, l2, l3] (.ref a :: st) h Q := V_nx (by decide +kernel : decode (p_c 75) 95 = .ok (.aload_n 0, 1)) rfl rfl
theorem e75_96 : V 75 96 L (.ref a :: st) h Q = (p_ok1 [11] 1 (p_get h a) ∧ V 75 99 L (p_fv 1 (p_get h a) :: st) h Q) := V_gf (t := (3, 1, "WaterShoulders")) (by decide +kernel : decode (p_c 75) 96 = .ok (.getfield 19, 3)) (by decide +kernel)
theorem e75_99 : V 75 99 [some (.ref a), l1, l2, l3] st h Q = V 75 100 [some (.ref a), l1, l2, l3] (.ref a :: st) h Q := V_nx (by decide +kernel : decode (p_c 75) 99 = .ok (.aload_n 0, 1)) rfl rfl
theorem e75_100 : V 75 100 L (.ref a :: st) h Q = (p_ok1 [11] 2 (p_get h a) ∧ V 75 103 L (p_fv 2 (p_get h a) :: st) h Q) := V_gf (t := (3, 1, "WaterShoulders")) (by decide +kernel : decode (p_c 75) 100 = .ok (.getfield 23, 3)) (by decide +kernel)
theorem e75_103 : V 75 103 [l0, l1, l2, some (.ref a)] st h Q = V 75 104 [l0, l1, l2, some (.ref a)] (.ref a :: st) h Q := V_nx (by decide +kernel : decode (p_c 75) 103 = .ok (.aload_n 3, 1)) rfl rfl
theorem e75_103n : V 75 103 [l0, l1, l2, some .null] st h Q = V 75 104 [l0, l1, l2, some .null] (.null :: st) h Q := V_nx (by decide +kernel : decode (p_c 75) 103 = .ok (.aload_n 3, 1)) rfl rfl
theorem e75_104 : V 75 104 L (.ref a :: st) h Q = (p_ok1 [0, 1, 2, 7, 10] 2 (p_get h a) ∧ V 75 107 L (p_fv 2 (p_get h a) :: st) h Q) := V_gf (t := (0, 0, "WaterShoulders$Boat")) (by decide +kernel : decode (p_c 75) 104 = .ok (.getfield 144, 3)) (by decide +kernel)
theorem e75_107 : V 75 107 [l0, l1, l2, some (.ref a)] st h Q = V 75 108 [l0, l1, l2, some (.ref a)] (.ref a :: st) h Q := V_nx (by decide +kernel : decode (p_c 75) 107 = .ok (.aload_n 3, 1)) rfl rfl
theorem e75_107n : V 75 107 [l0, l1, l2, some .null] st h Q = V 75 108 [l0, l1, l2, some .null] (.null :: st) h Q := V_nx (by decide +kernel : decode (p_c 75) 107 = .ok (.aload_n 3, 1)) rfl rfl
theorem e75_108 : V 75 108 L (.ref a :: st) h Q = ((p_bt (p_cn1 (p_get h a)) = true ∧ p_sm st) ∧ Vm (p_tz [(0, 2), (1, 5), (2, 5), (7, 38), (10, 5)] (p_cn1 (p_get h a))) [.ref a] h (Kt 75 111 L st Q)) := V_ib (by decide +kernel : decode (p_c 75) 108 = .ok (.invokevirtual 138, 3)) (by decide +kernel) rfl (by decide +kernel)
theorem e75_111 : V 75 111 L (.int x2 :: .int x1 :: .ref b1 :: .ref a :: st) h Q = ((p_cn1 (p_get h a) = 9 ∧ p_sm st) ∧ Vm 56 [.ref a, .ref b1, .int x1, .int x2] h (Kt 75 114 L st Q)) := V_iv (n := 3) (as := [.int x2, .int x1, .ref b1]) (ci := 9) (z := 56) (by decide +kernel : decode (p_c 75) 111 = .ok (.invokevirtual 150, 3)) (by decide +kernel) rfl rfl (by decide +kernel) rfl
theorem e75_114 : V 75 114 L (.int x :: st) h Q = if x = 0 then V 75 121 L st h Q else V 75 117 L st h Q := (V_ifc (by decide +kernel : decode (p_c 75) 114 = .ok (.ifCond .eq 7, 3)) (by decide)).trans i_eq
theorem e75_117 : V 75 117 L st h Q = V 75 118 L (.int 1 :: st) h Q := V_c (by decide +kernel : decode (p_c 75) 117 = .ok (.iconst 1, 1)) (by decide)
theorem e75_118 : V 75 118 L st h Q = V 75 122 L st h Q := V_goto (by decide +kernel : decode (p_c 75) 118 = .ok (.goto 4, 3)) (by decide)
theorem e75_121 : V 75 121 L st h Q = V 75 122 L (.int 0 :: st) h Q := V_c (by decide +kernel : decode (p_c 75) 121 = .ok (.iconst 0, 1)) (by decide)
theorem e75_122 : V 75 122 L [.int x] h Q = Q (some (.int x)) h := V_ri (by decide +kernel : decode (p_c 75) 122 = .ok (.ireturn, 1)) rfl
theorem e75_123 : V 75 123 L st h Q = V 75 125 L (.int (-102) :: st) h Q := V_b (by decide +kernel : decode (p_c 75) 123 = .ok (.bipush (-102), 2)) (by decide)
theorem e75_125 : V 75 125 L [.int x] h Q = Q (some (.int x)) h := V_ri (by decide +kernel : decode (p_c 75) 125 = .ok (.ireturn, 1)) rfl
theorem m75 : Vm 75 [.ref a, .int x1, .int x2] h Q = V 75 0 [some (.ref a), some (.int x1), some (.int x2), none] [] h Q := rfl
theorem e76_0 : V 76 0 [some (.ref a), l1, l2, l3] st h Q = V 76 1 [some (.ref a), l1, l2, l3] (.ref a :: st) h Q := V_nx (by decide +kernel : decode (p_c 76) 0 = .ok (.aload_n 0, 1)) rfl rfl
theorem e76_1 : V 76 1 [l0, some (.int x), l2, l3] st h Q = V 76 2 [l0, some (.int x), l2, l3] (.int x :: st) h Q := V_nx (by decide +kernel : decode (p_c 76) 1 = .ok (.iload_n 1, 1)) rfl rfl
theorem e76_2 : V 76 2 L (.int x1 :: .ref a :: st) h Q = ((p_cn1 (p_get h a) = 11 ∧ p_sm st) ∧ Vm 100 [.ref a, .int x1] h (Kt 76 5 L st Q)) := V_iv (n := 1) (as := [.int x1]) (ci := 11) (z := 100) (by decide +kernel : decode (p_c 76) 2 = .ok (.invokevirtual 125, 3)) (by decide +kernel) rfl rfl (by decide +kernel) rfl
theorem e76_5 : V 76 5 [l0, l1, l2, l3] (.ref a :: st) h Q = V 76 6 [l0, l1, p_dl l2, some (.ref a)] st h Q := V_nx (by decide +kernel : decode (p_c 76) 5 = .ok (.astore_n 3, 1)) rfl rfl
theorem e76_5n : V 76 5 [l0, l1, l2, l3] (.null :: st) h Q = V 76 6 [l0, l1, p_dl l2, some (.null)] st h Q := V_nx (by decide +kernel : decode (p_c 76) 5 = .ok (.astore_n 3, 1)) rfl rfl
theorem e76_6 : V 76 6 [l0, l1, l2, some (.ref a)] st h Q = V 76 7 [l0, l1, l2, some (.ref a)] (.ref a :: st) h Q := V_nx (by decide +kernel : decode (p_c 76) 6 = .ok (.aload_n 3, 1)) rfl rfl
theorem e76_6n : V 76 6 [l0, l1, l2, some .null] st h Q = V 76 7 [l0, l1, l2, some .null] (.null :: st) h Q := V_nx (by decide +kernel : decode (p_c 76) 6 = .ok (.aload_n 3, 1)) rfl rfl
theorem e76_7 : V 76 7 L (.null :: st) h Q = V 76 10 L st h Q := V_nonN (by decide +kernel : decode (p_c 76) 7 = .ok (.ifnonnull 6, 3))
theorem e76_7r : V 76 7 L (.ref a :: st) h Q = V 76 13 L st h Q := V_nonR (by decide +kernel : decode (p_c 76) 7 = .ok (.ifnonnull 6, 3)) (by decide)
theorem e76_10 : V 76 10 L st h Q = V 76 12 L (.int (-101) :: st) h Q := V_b (by decide +kernel : decode (p_c 76) 10 = .ok (.bipush (-101), 2)) (by decide)
theorem e76_12 : V 76 12 L [.int x] h Q = Q (some (.int x)) h := V_ri (by decide +kernel : decode (p_c 76) 12 = .ok (.ireturn, 1)) rfl
theorem e76_13 : V 76 13 [l0, l1, some (.int x), l3] st h Q = V 76 14 [l0, l1, some (.int x), l3] (.int x :: st) h Q := V_nx (by decide +kernel : decode (p_c 76) 13 = .ok (.iload_n 2, 1)) rfl rfl
theorem e76_14 : V 76 14 L (.int x :: st) h Q = V 76 (if x = 0 then 48 else if x = 1 then 50 else if x = 2 then 63 else if x = 3 then 76 else if x = 4 then 89 else 102) L st h Q := V_ts (fun z => if z = 0 then 48 else if z = 1 then 50 else if z = 2 then 63 else if z = 3 then 76 else if z = 4 then 89 else 102) (by decide +kernel : decode (p_c 76) 14 = .ok (.tableswitch 88 0 4 #[34, 36, 49, 62, 75], 34)) (by decide) (by
  intro z
  refine ⟨fun hz => ?_, fun hz => ?_⟩
  · have h_0 : ¬ z = 0 := by intro q; subst q; revert hz; decide
    have h_1 : ¬ z = 1 := by intro q; subst q; revert hz; decide
    have h_2 : ¬ z = 2 := by intro q; subst q; revert hz; decide
    have h_3 : ¬ z = 3 := by intro q; subst q; revert hz; decide
    have h_4 : ¬ z = 4 := by intro q; subst q; revert hz; decide
    simp only [h_0, h_1, h_2, h_3, h_4, if_false]
    rfl
  · have hc : z.toInt = 0 ∨ z.toInt = 1 ∨ z.toInt = 2 ∨ z.toInt = 3 ∨ z.toInt = 4 := by omega
    rcases hc with hc | hc | hc | hc | hc
    · have e : z = 0 := Int32.toInt_inj.mp (by rw [hc]; rfl)
      subst e
      exact ⟨34, rfl, by decide, rfl⟩
    · have e : z = 1 := Int32.toInt_inj.mp (by rw [hc]; rfl)
      subst e
      exact ⟨36, rfl, by decide, rfl⟩
    · have e : z = 2 := Int32.toInt_inj.mp (by rw [hc]; rfl)
      subst e
      exact ⟨49, rfl, by decide, rfl⟩
    · have e : z = 3 := Int32.toInt_inj.mp (by rw [hc]; rfl)
      subst e
      exact ⟨62, rfl, by decide, rfl⟩
    · have e : z = 4 := Int32.toInt_inj.mp (by rw [hc]; rfl)
      subst e
      exact ⟨75, rfl, by decide, rfl⟩)
theorem e76_48 : V 76 48 [l0, some (.int x), l2, l3] st h Q = V 76 49 [l0, some (.int x), l2, l3] (.int x :: st) h Q := V_nx (by decide +kernel : decode (p_c 76) 48 = .ok (.iload_n 1, 1)) rfl rfl
theorem e76_49 : V 76 49 L [.int x] h Q = Q (some (.int x)) h := V_ri (by decide +kernel : decode (p_c 76) 49 = .ok (.ireturn, 1)) rfl
theorem e76_50 : V 76 50 [l0, l1, l2, some (.ref a)] st h Q = V 76 51 [l0, l1, l2, some (.ref a)] (.ref a :: st) h Q := V_nx (by decide +kernel : decode (p_c 76) 50 = .ok (.aload_n 3, 1)) rfl rfl
theorem e76_50n : V 76 50 [l0, l1, l2, some .null] st h Q = V 76 51 [l0, l1, l2, some .null] (.null :: st) h Q := V_nx (by decide +kernel : decode (p_c 76) 50 = .ok (.aload_n 3, 1)) rfl rfl
theorem e76_51n : V 76 51 L (.null :: st) h Q = V 76 54 L (.int 0 :: st) h Q := V_ioN (by decide +kernel : decode (p_c 76) 51 = .ok (.instanceof 154, 3))
theorem e76_51 : V 76 51 L (.ref a :: st) h Q = (p_bt (p_cn1 (p_get h a)) = true ∧ V 76 54 L (.int (if p_is (p_cn1 (p_get h a)) 7 then 1 else 0) :: st) h Q) := V_ioR (by decide +kernel : decode (p_c 76) 51 = .ok (.instanceof 154, 3)) (by decide +kernel) rfl
theorem e76_54 : V 76 54 L (.int x :: st) h Q = if x = 0 then V 76 61 L st h Q else V 76 57 L st h Q := (V_ifc (by decide +kernel : decode (p_c 76) 54 = .ok (.ifCond .eq 7, 3)) (by decide)).trans i_eq
theorem e76_57 : V 76 57 [l0, some (.int x), l2, l3] st h Q = V 76 58 [l0, some (.int x), l2, l3] (.int x :: st) h Q := V_nx (by decide +kernel : decode (p_c 76) 57 = .ok (.iload_n 1, 1)) rfl rfl
theorem e76_58 : V 76 58 L st h Q = V 76 62 L st h Q := V_goto (by decide +kernel : decode (p_c 76) 58 = .ok (.goto 4, 3)) (by decide)
theorem e76_61 : V 76 61 L st h Q = V 76 62 L (.int (-1) :: st) h Q := V_c (by decide +kernel : decode (p_c 76) 61 = .ok (.iconst (-1), 1)) (by decide)
theorem e76_62 : V 76 62 L [.int x] h Q = Q (some (.int x)) h := V_ri (by decide +kernel : decode (p_c 76) 62 = .ok (.ireturn, 1)) rfl
theorem e76_63 : V 76 63 [l0, l1, l2, some (.ref a)] st h Q = V 76 64 [l0, l1, l2, some (.ref a)] (.ref a :: st) h Q := V_nx (by decide +kernel : decode (p_c 76) 63 = .ok (.aload_n 3, 1)) rfl rfl
theorem e76_63n : V 76 63 [l0, l1, l2, some .null] st h Q = V 76 64 [l0, l1, l2, some .null] (.null :: st) h Q := V_nx (by decide +kernel : decode (p_c 76) 63 = .ok (.aload_n 3, 1)) rfl rfl
theorem e76_64n : V 76 64 L (.null :: st) h Q = V 76 67 L (.int 0 :: st) h Q := V_ioN (by decide +kernel : decode (p_c 76) 64 = .ok (.instanceof 156, 3))
theorem e76_64 : V 76 64 L (.ref a :: st) h Q = (p_bt (p_cn1 (p_get h a)) = true ∧ V 76 67 L (.int (if p_is (p_cn1 (p_get h a)) 0 then 1 else 0) :: st) h Q) := V_ioR (by decide +kernel : decode (p_c 76) 64 = .ok (.instanceof 156, 3)) (by decide +kernel) rfl
theorem e76_67 : V 76 67 L (.int x :: st) h Q = if x = 0 then V 76 74 L st h Q else V 76 70 L st h Q := (V_ifc (by decide +kernel : decode (p_c 76) 67 = .ok (.ifCond .eq 7, 3)) (by decide)).trans i_eq
theorem e76_70 : V 76 70 [l0, some (.int x), l2, l3] st h Q = V 76 71 [l0, some (.int x), l2, l3] (.int x :: st) h Q := V_nx (by decide +kernel : decode (p_c 76) 70 = .ok (.iload_n 1, 1)) rfl rfl
theorem e76_71 : V 76 71 L st h Q = V 76 75 L st h Q := V_goto (by decide +kernel : decode (p_c 76) 71 = .ok (.goto 4, 3)) (by decide)
theorem e76_74 : V 76 74 L st h Q = V 76 75 L (.int (-1) :: st) h Q := V_c (by decide +kernel : decode (p_c 76) 74 = .ok (.iconst (-1), 1)) (by decide)
theorem e76_75 : V 76 75 L [.int x] h Q = Q (some (.int x)) h := V_ri (by decide +kernel : decode (p_c 76) 75 = .ok (.ireturn, 1)) rfl
theorem e76_76 : V 76 76 [l0, l1, l2, some (.ref a)] st h Q = V 76 77 [l0, l1, l2, some (.ref a)] (.ref a :: st) h Q := V_nx (by decide +kernel : decode (p_c 76) 76 = .ok (.aload_n 3, 1)) rfl rfl
theorem e76_76n : V 76 76 [l0, l1, l2, some .null] st h Q = V 76 77 [l0, l1, l2, some .null] (.null :: st) h Q := V_nx (by decide +kernel : decode (p_c 76) 76 = .ok (.aload_n 3, 1)) rfl rfl
theorem e76_77n : V 76 77 L (.null :: st) h Q = V 76 80 L (.int 0 :: st) h Q := V_ioN (by decide +kernel : decode (p_c 76) 77 = .ok (.instanceof 158, 3))
theorem e76_77 : V 76 77 L (.ref a :: st) h Q = (p_bt (p_cn1 (p_get h a)) = true ∧ V 76 80 L (.int (if p_is (p_cn1 (p_get h a)) 2 then 1 else 0) :: st) h Q) := V_ioR (by decide +kernel : decode (p_c 76) 77 = .ok (.instanceof 158, 3)) (by decide +kernel) rfl
theorem e76_80 : V 76 80 L (.int x :: st) h Q = if x = 0 then V 76 87 L st h Q else V 76 83 L st h Q := (V_ifc (by decide +kernel : decode (p_c 76) 80 = .ok (.ifCond .eq 7, 3)) (by decide)).trans i_eq
theorem e76_83 : V 76 83 [l0, some (.int x), l2, l3] st h Q = V 76 84 [l0, some (.int x), l2, l3] (.int x :: st) h Q := V_nx (by decide +kernel : decode (p_c 76) 83 = .ok (.iload_n 1, 1)) rfl rfl
theorem e76_84 : V 76 84 L st h Q = V 76 88 L st h Q := V_goto (by decide +kernel : decode (p_c 76) 84 = .ok (.goto 4, 3)) (by decide)
theorem e76_87 : V 76 87 L st h Q = V 76 88 L (.int (-1) :: st) h Q := V_c (by decide +kernel : decode (p_c 76) 87 = .ok (.iconst (-1), 1)) (by decide)
theorem e76_88 : V 76 88 L [.int x] h Q = Q (some (.int x)) h := V_ri (by decide +kernel : decode (p_c 76) 88 = .ok (.ireturn, 1)) rfl
theorem e76_89 : V 76 89 [l0, l1, l2, some (.ref a)] st h Q = V 76 90 [l0, l1, l2, some (.ref a)] (.ref a :: st) h Q := V_nx (by decide +kernel : decode (p_c 76) 89 = .ok (.aload_n 3, 1)) rfl rfl
theorem e76_89n : V 76 89 [l0, l1, l2, some .null] st h Q = V 76 90 [l0, l1, l2, some .null] (.null :: st) h Q := V_nx (by decide +kernel : decode (p_c 76) 89 = .ok (.aload_n 3, 1)) rfl rfl
theorem e76_90n : V 76 90 L (.null :: st) h Q = V 76 93 L (.int 0 :: st) h Q := V_ioN (by decide +kernel : decode (p_c 76) 90 = .ok (.instanceof 160, 3))
theorem e76_90 : V 76 90 L (.ref a :: st) h Q = (p_bt (p_cn1 (p_get h a)) = true ∧ V 76 93 L (.int (if p_is (p_cn1 (p_get h a)) 10 then 1 else 0) :: st) h Q) := V_ioR (by decide +kernel : decode (p_c 76) 90 = .ok (.instanceof 160, 3)) (by decide +kernel) rfl
theorem e76_93 : V 76 93 L (.int x :: st) h Q = if x = 0 then V 76 100 L st h Q else V 76 96 L st h Q := (V_ifc (by decide +kernel : decode (p_c 76) 93 = .ok (.ifCond .eq 7, 3)) (by decide)).trans i_eq
theorem e76_96 : V 76 96 [l0, some (.int x), l2, l3] st h Q = V 76 97 [l0, some (.int x), l2, l3] (.int x :: st) h Q := V_nx (by decide +kernel : decode (p_c 76) 96 = .ok (.iload_n 1, 1)) rfl rfl
theorem e76_97 : V 76 97 L st h Q = V 76 101 L st h Q := V_goto (by decide +kernel : decode (p_c 76) 97 = .ok (.goto 4, 3)) (by decide)
theorem e76_100 : V 76 100 L st h Q = V 76 101 L (.int (-1) :: st) h Q := V_c (by decide +kernel : decode (p_c 76) 100 = .ok (.iconst (-1), 1)) (by decide)
theorem e76_101 : V 76 101 L [.int x] h Q = Q (some (.int x)) h := V_ri (by decide +kernel : decode (p_c 76) 101 = .ok (.ireturn, 1)) rfl
theorem e76_102 : V 76 102 L st h Q = V 76 104 L (.int (-102) :: st) h Q := V_b (by decide +kernel : decode (p_c 76) 102 = .ok (.bipush (-102), 2)) (by decide)
theorem e76_104 : V 76 104 L [.int x] h Q = Q (some (.int x)) h := V_ri (by decide +kernel : decode (p_c 76) 104 = .ok (.ireturn, 1)) rfl
theorem m76 : Vm 76 [.ref a, .int x1, .int x2] h Q = V 76 0 [some (.ref a), some (.int x1), some (.int x2), none] [] h Q := rfl
theorem e77_0 : V 77 0 [some (.ref a), l1, l2] st h Q = V 77 1 [some (.ref a), l1, l2] (.ref a :: st) h Q := V_nx (by decide +kernel : decode (p_c 77) 0 = .ok (.aload_n 0, 1)) rfl rfl
theorem e77_1 : V 77 1 [l0, some (.int x), l2] st h Q = V 77 2 [l0, some (.int x), l2] (.int x :: st) h Q := V_nx (by decide +kernel : decode (p_c 77) 1 = .ok (.iload_n 1, 1)) rfl rfl
theorem e77_2 : V 77 2 L (.int x1 :: .ref a :: st) h Q = ((p_cn1 (p_get h a) = 11 ∧ p_sm st) ∧ Vm 100 [.ref a, .int x1] h (Kt 77 5 L st Q)) := V_iv (n := 1) (as := [.int x1]) (ci := 11) (z := 100) (by decide +kernel : decode (p_c 77) 2 = .ok (.invokevirtual 125, 3)) (by decide +kernel) rfl rfl (by decide +kernel) rfl
theorem e77_5 : V 77 5 [l0, l1, l2] (.ref a :: st) h Q = V 77 6 [l0, p_dl l1, some (.ref a)] st h Q := V_nx (by decide +kernel : decode (p_c 77) 5 = .ok (.astore_n 2, 1)) rfl rfl
theorem e77_5n : V 77 5 [l0, l1, l2] (.null :: st) h Q = V 77 6 [l0, p_dl l1, some (.null)] st h Q := V_nx (by decide +kernel : decode (p_c 77) 5 = .ok (.astore_n 2, 1)) rfl rfl
theorem e77_6 : V 77 6 [l0, l1, some (.ref a)] st h Q = V 77 7 [l0, l1, some (.ref a)] (.ref a :: st) h Q := V_nx (by decide +kernel : decode (p_c 77) 6 = .ok (.aload_n 2, 1)) rfl rfl
theorem e77_6n : V 77 6 [l0, l1, some .null] st h Q = V 77 7 [l0, l1, some .null] (.null :: st) h Q := V_nx (by decide +kernel : decode (p_c 77) 6 = .ok (.aload_n 2, 1)) rfl rfl
theorem e77_7 : V 77 7 L (.null :: st) h Q = V 77 10 L st h Q := V_nonN (by decide +kernel : decode (p_c 77) 7 = .ok (.ifnonnull 6, 3))
theorem e77_7r : V 77 7 L (.ref a :: st) h Q = V 77 13 L st h Q := V_nonR (by decide +kernel : decode (p_c 77) 7 = .ok (.ifnonnull 6, 3)) (by decide)
theorem e77_10 : V 77 10 L st h Q = V 77 12 L (.int (-101) :: st) h Q := V_b (by decide +kernel : decode (p_c 77) 10 = .ok (.bipush (-101), 2)) (by decide)
theorem e77_12 : V 77 12 L [.int x] h Q = Q (some (.int x)) h := V_ri (by decide +kernel : decode (p_c 77) 12 = .ok (.ireturn, 1)) rfl
theorem e77_13 : V 77 13 [some (.ref a), l1, l2] st h Q = V 77 14 [some (.ref a), l1, l2] (.ref a :: st) h Q := V_nx (by decide +kernel : decode (p_c 77) 13 = .ok (.aload_n 0, 1)) rfl rfl
theorem e77_14 : V 77 14 L (.ref a :: st) h Q = (p_ok1 [11] 1 (p_get h a) ∧ V 77 17 L (p_fv 1 (p_get h a) :: st) h Q) := V_gf (t := (3, 1, "WaterShoulders")) (by decide +kernel : decode (p_c 77) 14 = .ok (.getfield 19, 3)) (by decide +kernel)
theorem e77_17 : V 77 17 [some (.ref a), l1, l2] st h Q = V 77 18 [some (.ref a), l1, l2] (.ref a :: st) h Q := V_nx (by decide +kernel : decode (p_c 77) 17 = .ok (.aload_n 0, 1)) rfl rfl
theorem e77_18 : V 77 18 L (.ref a :: st) h Q = (p_ok1 [11] 2 (p_get h a) ∧ V 77 21 L (p_fv 2 (p_get h a) :: st) h Q) := V_gf (t := (3, 1, "WaterShoulders")) (by decide +kernel : decode (p_c 77) 18 = .ok (.getfield 23, 3)) (by decide +kernel)
theorem e77_21 : V 77 21 [l0, l1, some (.ref a)] st h Q = V 77 22 [l0, l1, some (.ref a)] (.ref a :: st) h Q := V_nx (by decide +kernel : decode (p_c 77) 21 = .ok (.aload_n 2, 1)) rfl rfl
theorem e77_21n : V 77 21 [l0, l1, some .null] st h Q = V 77 22 [l0, l1, some .null] (.null :: st) h Q := V_nx (by decide +kernel : decode (p_c 77) 21 = .ok (.aload_n 2, 1)) rfl rfl
theorem e77_22 : V 77 22 L (.ref a :: st) h Q = (p_ok1 [0, 1, 2, 7, 10] 2 (p_get h a) ∧ V 77 25 L (p_fv 2 (p_get h a) :: st) h Q) := V_gf (t := (0, 0, "WaterShoulders$Boat")) (by decide +kernel : decode (p_c 77) 22 = .ok (.getfield 144, 3)) (by decide +kernel)
theorem e77_25 : V 77 25 [l0, l1, some (.ref a)] st h Q = V 77 26 [l0, l1, some (.ref a)] (.ref a :: st) h Q := V_nx (by decide +kernel : decode (p_c 77) 25 = .ok (.aload_n 2, 1)) rfl rfl
theorem e77_25n : V 77 25 [l0, l1, some .null] st h Q = V 77 26 [l0, l1, some .null] (.null :: st) h Q := V_nx (by decide +kernel : decode (p_c 77) 25 = .ok (.aload_n 2, 1)) rfl rfl
theorem e77_26 : V 77 26 L (.ref a :: st) h Q = ((p_bt (p_cn1 (p_get h a)) = true ∧ p_sm st) ∧ Vm (p_tz [(0, 2), (1, 5), (2, 5), (7, 38), (10, 5)] (p_cn1 (p_get h a))) [.ref a] h (Kt 77 29 L st Q)) := V_ib (by decide +kernel : decode (p_c 77) 26 = .ok (.invokevirtual 138, 3)) (by decide +kernel) rfl (by decide +kernel)
theorem e77_29 : V 77 29 L (.int x2 :: .int x1 :: .ref b1 :: .ref a :: st) h Q = ((p_cn1 (p_get h a) = 9 ∧ p_sm st) ∧ Vm 58 [.ref a, .ref b1, .int x1, .int x2] h (Kt 77 32 L st Q)) := V_iv (n := 3) (as := [.int x2, .int x1, .ref b1]) (ci := 9) (z := 58) (by decide +kernel : decode (p_c 77) 29 = .ok (.invokevirtual 162, 3)) (by decide +kernel) rfl rfl (by decide +kernel) rfl
theorem e77_32 : V 77 32 L (.int x :: st) h Q = if x = 0 then V 77 35 L st h Q else V 77 38 L st h Q := (V_ifc (by decide +kernel : decode (p_c 77) 32 = .ok (.ifCond .ne 6, 3)) (by decide)).trans i_ne
theorem e77_35 : V 77 35 L st h Q = V 77 37 L (.int (-103) :: st) h Q := V_b (by decide +kernel : decode (p_c 77) 35 = .ok (.bipush (-103), 2)) (by decide)
theorem e77_37 : V 77 37 L [.int x] h Q = Q (some (.int x)) h := V_ri (by decide +kernel : decode (p_c 77) 37 = .ok (.ireturn, 1)) rfl
theorem e77_38 : V 77 38 [l0, l1, some (.ref a)] st h Q = V 77 39 [l0, l1, some (.ref a)] (.ref a :: st) h Q := V_nx (by decide +kernel : decode (p_c 77) 38 = .ok (.aload_n 2, 1)) rfl rfl
theorem e77_38n : V 77 38 [l0, l1, some .null] st h Q = V 77 39 [l0, l1, some .null] (.null :: st) h Q := V_nx (by decide +kernel : decode (p_c 77) 38 = .ok (.aload_n 2, 1)) rfl rfl
theorem e77_39 : V 77 39 L (.ref a :: st) h Q = V 77 40 L (.ref a :: .ref a :: st) h Q := V_dup (by decide +kernel : decode (p_c 77) 39 = .ok (.dup, 1)) rfl
theorem e77_39i : V 77 39 L (.int x :: st) h Q = V 77 40 L (.int x :: .int x :: st) h Q := V_dup (by decide +kernel : decode (p_c 77) 39 = .ok (.dup, 1)) rfl
theorem e77_40 : V 77 40 L (.ref a :: st) h Q = (p_ok1 [0, 1, 2, 7, 10] 2 (p_get h a) ∧ V 77 43 L (p_fv 2 (p_get h a) :: st) h Q) := V_gf (t := (0, 0, "WaterShoulders$Boat")) (by decide +kernel : decode (p_c 77) 40 = .ok (.getfield 144, 3)) (by decide +kernel)
theorem e77_43 : V 77 43 L st h Q = V 77 44 L (.int 1 :: st) h Q := V_c (by decide +kernel : decode (p_c 77) 43 = .ok (.iconst 1, 1)) (by decide)
theorem e77_44 : V 77 44 L (.int z :: .int x :: st) h Q = V 77 45 L (.int (x + z) :: st) h Q := V_nx (by decide +kernel : decode (p_c 77) 44 = .ok (.iadd, 1)) rfl rfl
theorem e77_45 : V 77 45 L (.int x :: .ref a :: st) h Q = (p_ok1 [0, 1, 2, 7, 10] 2 (p_get h a) ∧ V 77 48 L st (p_set h a (p_fs 2 (.int x) (p_get h a))) Q) := V_pf0 (fin := 0) (ref := "WaterShoulders$Boat") (by decide +kernel : decode (p_c 77) 45 = .ok (.putfield 144, 3)) (by decide +kernel) (by decide +kernel)
theorem e77_48 : V 77 48 [l0, l1, some (.ref a)] st h Q = V 77 49 [l0, l1, some (.ref a)] (.ref a :: st) h Q := V_nx (by decide +kernel : decode (p_c 77) 48 = .ok (.aload_n 2, 1)) rfl rfl
theorem e77_48n : V 77 48 [l0, l1, some .null] st h Q = V 77 49 [l0, l1, some .null] (.null :: st) h Q := V_nx (by decide +kernel : decode (p_c 77) 48 = .ok (.aload_n 2, 1)) rfl rfl
theorem e77_49 : V 77 49 L (.ref a :: st) h Q = (p_ok1 [0, 1, 2, 7, 10] 2 (p_get h a) ∧ V 77 52 L (p_fv 2 (p_get h a) :: st) h Q) := V_gf (t := (0, 0, "WaterShoulders$Boat")) (by decide +kernel : decode (p_c 77) 49 = .ok (.getfield 144, 3)) (by decide +kernel)
theorem e77_52 : V 77 52 L [.int x] h Q = Q (some (.int x)) h := V_ri (by decide +kernel : decode (p_c 77) 52 = .ok (.ireturn, 1)) rfl
theorem m77 : Vm 77 [.ref a, .int x1] h Q = V 77 0 [some (.ref a), some (.int x1), none] [] h Q := rfl
theorem e78_0 : V 78 0 [some (.ref a), l1, l2, l3] st h Q = V 78 1 [some (.ref a), l1, l2, l3] (.ref a :: st) h Q := V_nx (by decide +kernel : decode (p_c 78) 0 = .ok (.aload_n 0, 1)) rfl rfl
theorem e78_1 : V 78 1 [l0, some (.int x), l2, l3] st h Q = V 78 2 [l0, some (.int x), l2, l3] (.int x :: st) h Q := V_nx (by decide +kernel : decode (p_c 78) 1 = .ok (.iload_n 1, 1)) rfl rfl
theorem e78_2 : V 78 2 L (.int x1 :: .ref a :: st) h Q = ((p_cn1 (p_get h a) = 11 ∧ p_sm st) ∧ Vm 100 [.ref a, .int x1] h (Kt 78 5 L st Q)) := V_iv (n := 1) (as := [.int x1]) (ci := 11) (z := 100) (by decide +kernel : decode (p_c 78) 2 = .ok (.invokevirtual 125, 3)) (by decide +kernel) rfl rfl (by decide +kernel) rfl
theorem e78_5 : V 78 5 [l0, l1, l2, l3] (.ref a :: st) h Q = V 78 6 [l0, l1, p_dl l2, some (.ref a)] st h Q := V_nx (by decide +kernel : decode (p_c 78) 5 = .ok (.astore_n 3, 1)) rfl rfl
theorem e78_5n : V 78 5 [l0, l1, l2, l3] (.null :: st) h Q = V 78 6 [l0, l1, p_dl l2, some (.null)] st h Q := V_nx (by decide +kernel : decode (p_c 78) 5 = .ok (.astore_n 3, 1)) rfl rfl
theorem e78_6 : V 78 6 [l0, l1, l2, some (.ref a)] st h Q = V 78 7 [l0, l1, l2, some (.ref a)] (.ref a :: st) h Q := V_nx (by decide +kernel : decode (p_c 78) 6 = .ok (.aload_n 3, 1)) rfl rfl
theorem e78_6n : V 78 6 [l0, l1, l2, some .null] st h Q = V 78 7 [l0, l1, l2, some .null] (.null :: st) h Q := V_nx (by decide +kernel : decode (p_c 78) 6 = .ok (.aload_n 3, 1)) rfl rfl
theorem e78_7 : V 78 7 L (.null :: st) h Q = V 78 10 L st h Q := V_nonN (by decide +kernel : decode (p_c 78) 7 = .ok (.ifnonnull 6, 3))
theorem e78_7r : V 78 7 L (.ref a :: st) h Q = V 78 13 L st h Q := V_nonR (by decide +kernel : decode (p_c 78) 7 = .ok (.ifnonnull 6, 3)) (by decide)
theorem e78_10 : V 78 10 L st h Q = V 78 12 L (.int (-101) :: st) h Q := V_b (by decide +kernel : decode (p_c 78) 10 = .ok (.bipush (-101), 2)) (by decide)
theorem e78_12 : V 78 12 L [.int x] h Q = Q (some (.int x)) h := V_ri (by decide +kernel : decode (p_c 78) 12 = .ok (.ireturn, 1)) rfl
theorem e78_13 : V 78 13 [l0, l1, some (.int x), l3] st h Q = V 78 14 [l0, l1, some (.int x), l3] (.int x :: st) h Q := V_nx (by decide +kernel : decode (p_c 78) 13 = .ok (.iload_n 2, 1)) rfl rfl
theorem e78_14 : V 78 14 L st h Q = V 78 15 L (.int 1 :: st) h Q := V_c (by decide +kernel : decode (p_c 78) 14 = .ok (.iconst 1, 1)) (by decide)
theorem e78_15 : V 78 15 L (.int z :: .int x :: st) h Q = if x < z then V 78 24 L st h Q else V 78 18 L st h Q := (V_icmp (by decide +kernel : decode (p_c 78) 15 = .ok (.if_icmp .lt 9, 3)) (by decide)).trans i_lt
theorem e78_18 : V 78 18 [l0, l1, some (.int x), l3] st h Q = V 78 19 [l0, l1, some (.int x), l3] (.int x :: st) h Q := V_nx (by decide +kernel : decode (p_c 78) 18 = .ok (.iload_n 2, 1)) rfl rfl
theorem e78_19 : V 78 19 L st h Q = V 78 21 L (.int 6 :: st) h Q := V_b (by decide +kernel : decode (p_c 78) 19 = .ok (.bipush 6, 2)) (by decide)
theorem e78_21 : V 78 21 L (.int z :: .int x :: st) h Q = if z < x then V 78 24 L st h Q else V 78 27 L st h Q := (V_icmp (by decide +kernel : decode (p_c 78) 21 = .ok (.if_icmp .le 6, 3)) (by decide)).trans i_le
theorem e78_24 : V 78 24 L st h Q = V 78 26 L (.int (-102) :: st) h Q := V_b (by decide +kernel : decode (p_c 78) 24 = .ok (.bipush (-102), 2)) (by decide)
theorem e78_26 : V 78 26 L [.int x] h Q = Q (some (.int x)) h := V_ri (by decide +kernel : decode (p_c 78) 26 = .ok (.ireturn, 1)) rfl
theorem e78_27 : V 78 27 [some (.ref a), l1, l2, l3] st h Q = V 78 28 [some (.ref a), l1, l2, l3] (.ref a :: st) h Q := V_nx (by decide +kernel : decode (p_c 78) 27 = .ok (.aload_n 0, 1)) rfl rfl
theorem e78_28 : V 78 28 L (.ref a :: st) h Q = (p_ok1 [11] 1 (p_get h a) ∧ V 78 31 L (p_fv 1 (p_get h a) :: st) h Q) := V_gf (t := (3, 1, "WaterShoulders")) (by decide +kernel : decode (p_c 78) 28 = .ok (.getfield 19, 3)) (by decide +kernel)
theorem e78_31 : V 78 31 [some (.ref a), l1, l2, l3] st h Q = V 78 32 [some (.ref a), l1, l2, l3] (.ref a :: st) h Q := V_nx (by decide +kernel : decode (p_c 78) 31 = .ok (.aload_n 0, 1)) rfl rfl
theorem e78_32 : V 78 32 L (.ref a :: st) h Q = (p_ok1 [11] 2 (p_get h a) ∧ V 78 35 L (p_fv 2 (p_get h a) :: st) h Q) := V_gf (t := (3, 1, "WaterShoulders")) (by decide +kernel : decode (p_c 78) 32 = .ok (.getfield 23, 3)) (by decide +kernel)
theorem e78_35 : V 78 35 [l0, l1, l2, some (.ref a)] st h Q = V 78 36 [l0, l1, l2, some (.ref a)] (.ref a :: st) h Q := V_nx (by decide +kernel : decode (p_c 78) 35 = .ok (.aload_n 3, 1)) rfl rfl
theorem e78_35n : V 78 35 [l0, l1, l2, some .null] st h Q = V 78 36 [l0, l1, l2, some .null] (.null :: st) h Q := V_nx (by decide +kernel : decode (p_c 78) 35 = .ok (.aload_n 3, 1)) rfl rfl
theorem e78_36 : V 78 36 L (.ref a :: st) h Q = (p_ok1 [0, 1, 2, 7, 10] 2 (p_get h a) ∧ V 78 39 L (p_fv 2 (p_get h a) :: st) h Q) := V_gf (t := (0, 0, "WaterShoulders$Boat")) (by decide +kernel : decode (p_c 78) 36 = .ok (.getfield 144, 3)) (by decide +kernel)
theorem e78_39 : V 78 39 [l0, l1, some (.int x), l3] st h Q = V 78 40 [l0, l1, some (.int x), l3] (.int x :: st) h Q := V_nx (by decide +kernel : decode (p_c 78) 39 = .ok (.iload_n 2, 1)) rfl rfl
theorem e78_40 : V 78 40 L (.int x2 :: .int x1 :: .ref b1 :: .ref a :: st) h Q = ((p_cn1 (p_get h a) = 9 ∧ p_sm st) ∧ Vm 56 [.ref a, .ref b1, .int x1, .int x2] h (Kt 78 43 L st Q)) := V_iv (n := 3) (as := [.int x2, .int x1, .ref b1]) (ci := 9) (z := 56) (by decide +kernel : decode (p_c 78) 40 = .ok (.invokevirtual 150, 3)) (by decide +kernel) rfl rfl (by decide +kernel) rfl
theorem e78_43 : V 78 43 L (.int x :: st) h Q = if x = 0 then V 78 59 L st h Q else V 78 46 L st h Q := (V_ifc (by decide +kernel : decode (p_c 78) 43 = .ok (.ifCond .eq 16, 3)) (by decide)).trans i_eq
theorem e78_46 : V 78 46 [l0, l1, l2, some (.ref a)] st h Q = V 78 47 [l0, l1, l2, some (.ref a)] (.ref a :: st) h Q := V_nx (by decide +kernel : decode (p_c 78) 46 = .ok (.aload_n 3, 1)) rfl rfl
theorem e78_46n : V 78 46 [l0, l1, l2, some .null] st h Q = V 78 47 [l0, l1, l2, some .null] (.null :: st) h Q := V_nx (by decide +kernel : decode (p_c 78) 46 = .ok (.aload_n 3, 1)) rfl rfl
theorem e78_47 : V 78 47 L (.ref a :: st) h Q = (p_ok1 [0, 1, 2, 7, 10] 3 (p_get h a) ∧ V 78 50 L (p_fv 3 (p_get h a) :: st) h Q) := V_gf (t := (0, 0, "WaterShoulders$Boat")) (by decide +kernel : decode (p_c 78) 47 = .ok (.getfield 147, 3)) (by decide +kernel)
theorem e78_50 : V 78 50 [l0, l1, some (.int x), l3] st h Q = V 78 51 [l0, l1, some (.int x), l3] (.int x :: st) h Q := V_nx (by decide +kernel : decode (p_c 78) 50 = .ok (.iload_n 2, 1)) rfl rfl
theorem e78_51 : V 78 51 L (.int z :: .int x :: st) h Q = V 78 52 L (.int (x + z) :: st) h Q := V_nx (by decide +kernel : decode (p_c 78) 51 = .ok (.iadd, 1)) rfl rfl
theorem e78_52 : V 78 52 [l0, l1, l2, some (.ref a)] st h Q = V 78 53 [l0, l1, l2, some (.ref a)] (.ref a :: st) h Q := V_nx (by decide +kernel : decode (p_c 78) 52 = .ok (.aload_n 3, 1)) rfl rfl
theorem e78_52n : V 78 52 [l0, l1, l2, some .null] st h Q = V 78 53 [l0, l1, l2, some .null] (.null :: st) h Q := V_nx (by decide +kernel : decode (p_c 78) 52 = .ok (.aload_n 3, 1)) rfl rfl
theorem e78_53 : V 78 53 L (.ref a :: st) h Q = ((p_bt (p_cn1 (p_get h a)) = true ∧ p_sm st) ∧ Vm (p_tz [(0, 6), (1, 6), (2, 6), (7, 6), (10, 67)] (p_cn1 (p_get h a))) [.ref a] h (Kt 78 56 L st Q)) := V_ib (by decide +kernel : decode (p_c 78) 53 = .ok (.invokevirtual 141, 3)) (by decide +kernel) rfl (by decide +kernel)
theorem e78_56 : V 78 56 L (.int z :: .int x :: st) h Q = if z < x then V 78 59 L st h Q else V 78 62 L st h Q := (V_icmp (by decide +kernel : decode (p_c 78) 56 = .ok (.if_icmp .le 6, 3)) (by decide)).trans i_le
theorem e78_59 : V 78 59 L st h Q = V 78 61 L (.int (-103) :: st) h Q := V_b (by decide +kernel : decode (p_c 78) 59 = .ok (.bipush (-103), 2)) (by decide)
theorem e78_61 : V 78 61 L [.int x] h Q = Q (some (.int x)) h := V_ri (by decide +kernel : decode (p_c 78) 61 = .ok (.ireturn, 1)) rfl
theorem e78_62 : V 78 62 [some (.ref a), l1, l2, l3] st h Q = V 78 63 [some (.ref a), l1, l2, l3] (.ref a :: st) h Q := V_nx (by decide +kernel : decode (p_c 78) 62 = .ok (.aload_n 0, 1)) rfl rfl
theorem e78_63 : V 78 63 L (.ref a :: st) h Q = (p_ok1 [11] 1 (p_get h a) ∧ V 78 66 L (p_fv 1 (p_get h a) :: st) h Q) := V_gf (t := (3, 1, "WaterShoulders")) (by decide +kernel : decode (p_c 78) 63 = .ok (.getfield 19, 3)) (by decide +kernel)
theorem e78_66 : V 78 66 [some (.ref a), l1, l2, l3] st h Q = V 78 67 [some (.ref a), l1, l2, l3] (.ref a :: st) h Q := V_nx (by decide +kernel : decode (p_c 78) 66 = .ok (.aload_n 0, 1)) rfl rfl
theorem e78_67 : V 78 67 L (.ref a :: st) h Q = (p_ok1 [11] 2 (p_get h a) ∧ V 78 70 L (p_fv 2 (p_get h a) :: st) h Q) := V_gf (t := (3, 1, "WaterShoulders")) (by decide +kernel : decode (p_c 78) 67 = .ok (.getfield 23, 3)) (by decide +kernel)
theorem e78_70 : V 78 70 [l0, l1, l2, some (.ref a)] st h Q = V 78 71 [l0, l1, l2, some (.ref a)] (.ref a :: st) h Q := V_nx (by decide +kernel : decode (p_c 78) 70 = .ok (.aload_n 3, 1)) rfl rfl
theorem e78_70n : V 78 70 [l0, l1, l2, some .null] st h Q = V 78 71 [l0, l1, l2, some .null] (.null :: st) h Q := V_nx (by decide +kernel : decode (p_c 78) 70 = .ok (.aload_n 3, 1)) rfl rfl
theorem e78_71 : V 78 71 L (.ref a :: st) h Q = (p_ok1 [0, 1, 2, 7, 10] 2 (p_get h a) ∧ V 78 74 L (p_fv 2 (p_get h a) :: st) h Q) := V_gf (t := (0, 0, "WaterShoulders$Boat")) (by decide +kernel : decode (p_c 78) 71 = .ok (.getfield 144, 3)) (by decide +kernel)
theorem e78_74 : V 78 74 [l0, l1, some (.int x), l3] st h Q = V 78 75 [l0, l1, some (.int x), l3] (.int x :: st) h Q := V_nx (by decide +kernel : decode (p_c 78) 74 = .ok (.iload_n 2, 1)) rfl rfl
theorem e78_75 : V 78 75 L (.int x2 :: .int x1 :: .ref b1 :: .ref a :: st) h Q = ((p_cn1 (p_get h a) = 9 ∧ p_sm st) ∧ Vm 59 [.ref a, .ref b1, .int x1, .int x2] h (Kt 78 78 L st Q)) := V_iv (n := 3) (as := [.int x2, .int x1, .ref b1]) (ci := 9) (z := 59) (by decide +kernel : decode (p_c 78) 75 = .ok (.invokevirtual 165, 3)) (by decide +kernel) rfl rfl (by decide +kernel) rfl
theorem e78_78 : V 78 78 [l0, l1, l2, some (.ref a)] st h Q = V 78 79 [l0, l1, l2, some (.ref a)] (.ref a :: st) h Q := V_nx (by decide +kernel : decode (p_c 78) 78 = .ok (.aload_n 3, 1)) rfl rfl
theorem e78_78n : V 78 78 [l0, l1, l2, some .null] st h Q = V 78 79 [l0, l1, l2, some .null] (.null :: st) h Q := V_nx (by decide +kernel : decode (p_c 78) 78 = .ok (.aload_n 3, 1)) rfl rfl
theorem e78_79 : V 78 79 L (.ref a :: st) h Q = V 78 80 L (.ref a :: .ref a :: st) h Q := V_dup (by decide +kernel : decode (p_c 78) 79 = .ok (.dup, 1)) rfl
theorem e78_79i : V 78 79 L (.int x :: st) h Q = V 78 80 L (.int x :: .int x :: st) h Q := V_dup (by decide +kernel : decode (p_c 78) 79 = .ok (.dup, 1)) rfl
theorem e78_80 : V 78 80 L (.ref a :: st) h Q = (p_ok1 [0, 1, 2, 7, 10] 3 (p_get h a) ∧ V 78 83 L (p_fv 3 (p_get h a) :: st) h Q) := V_gf (t := (0, 0, "WaterShoulders$Boat")) (by decide +kernel : decode (p_c 78) 80 = .ok (.getfield 147, 3)) (by decide +kernel)
theorem e78_83 : V 78 83 [l0, l1, some (.int x), l3] st h Q = V 78 84 [l0, l1, some (.int x), l3] (.int x :: st) h Q := V_nx (by decide +kernel : decode (p_c 78) 83 = .ok (.iload_n 2, 1)) rfl rfl
theorem e78_84 : V 78 84 L (.int z :: .int x :: st) h Q = V 78 85 L (.int (x + z) :: st) h Q := V_nx (by decide +kernel : decode (p_c 78) 84 = .ok (.iadd, 1)) rfl rfl
theorem e78_85 : V 78 85 L (.int x :: .ref a :: st) h Q = (p_ok1 [0, 1, 2, 7, 10] 3 (p_get h a) ∧ V 78 88 L st (p_set h a (p_fs 3 (.int x) (p_get h a))) Q) := V_pf0 (fin := 0) (ref := "WaterShoulders$Boat") (by decide +kernel : decode (p_c 78) 85 = .ok (.putfield 147, 3)) (by decide +kernel) (by decide +kernel)
theorem e78_88 : V 78 88 [l0, l1, l2, some (.ref a)] st h Q = V 78 89 [l0, l1, l2, some (.ref a)] (.ref a :: st) h Q := V_nx (by decide +kernel : decode (p_c 78) 88 = .ok (.aload_n 3, 1)) rfl rfl
theorem e78_88n : V 78 88 [l0, l1, l2, some .null] st h Q = V 78 89 [l0, l1, l2, some .null] (.null :: st) h Q := V_nx (by decide +kernel : decode (p_c 78) 88 = .ok (.aload_n 3, 1)) rfl rfl
theorem e78_89 : V 78 89 L (.ref a :: st) h Q = (p_ok1 [0, 1, 2, 7, 10] 3 (p_get h a) ∧ V 78 92 L (p_fv 3 (p_get h a) :: st) h Q) := V_gf (t := (0, 0, "WaterShoulders$Boat")) (by decide +kernel : decode (p_c 78) 89 = .ok (.getfield 147, 3)) (by decide +kernel)
theorem e78_92 : V 78 92 L [.int x] h Q = Q (some (.int x)) h := V_ri (by decide +kernel : decode (p_c 78) 92 = .ok (.ireturn, 1)) rfl
theorem m78 : Vm 78 [.ref a, .int x1, .int x2] h Q = V 78 0 [some (.ref a), some (.int x1), some (.int x2), none] [] h Q := rfl
theorem e79_0 : V 79 0 [some (.ref a), l1, l2, l3, l4] st h Q = V 79 1 [some (.ref a), l1, l2, l3, l4] (.ref a :: st) h Q := V_nx (by decide +kernel : decode (p_c 79) 0 = .ok (.aload_n 0, 1)) rfl rfl
theorem e79_1 : V 79 1 [l0, some (.int x), l2, l3, l4] st h Q = V 79 2 [l0, some (.int x), l2, l3, l4] (.int x :: st) h Q := V_nx (by decide +kernel : decode (p_c 79) 1 = .ok (.iload_n 1, 1)) rfl rfl
theorem e79_2 : V 79 2 L (.int x1 :: .ref a :: st) h Q = ((p_cn1 (p_get h a) = 11 ∧ p_sm st) ∧ Vm 100 [.ref a, .int x1] h (Kt 79 5 L st Q)) := V_iv (n := 1) (as := [.int x1]) (ci := 11) (z := 100) (by decide +kernel : decode (p_c 79) 2 = .ok (.invokevirtual 125, 3)) (by decide +kernel) rfl rfl (by decide +kernel) rfl
theorem e79_5 : V 79 5 [l0, l1, l2, l3, l4] (.ref a :: st) h Q = V 79 6 [l0, l1, p_dl l2, some (.ref a), l4] st h Q := V_nx (by decide +kernel : decode (p_c 79) 5 = .ok (.astore_n 3, 1)) rfl rfl
theorem e79_5n : V 79 5 [l0, l1, l2, l3, l4] (.null :: st) h Q = V 79 6 [l0, l1, p_dl l2, some (.null), l4] st h Q := V_nx (by decide +kernel : decode (p_c 79) 5 = .ok (.astore_n 3, 1)) rfl rfl
theorem e79_6 : V 79 6 [l0, l1, l2, some (.ref a), l4] st h Q = V 79 7 [l0, l1, l2, some (.ref a), l4] (.ref a :: st) h Q := V_nx (by decide +kernel : decode (p_c 79) 6 = .ok (.aload_n 3, 1)) rfl rfl
theorem e79_6n : V 79 6 [l0, l1, l2, some .null, l4] st h Q = V 79 7 [l0, l1, l2, some .null, l4] (.null :: st) h Q := V_nx (by decide +kernel : decode (p_c 79) 6 = .ok (.aload_n 3, 1)) rfl rfl
theorem e79_7 : V 79 7 L (.null :: st) h Q = V 79 10 L st h Q := V_nonN (by decide +kernel : decode (p_c 79) 7 = .ok (.ifnonnull 6, 3))
theorem e79_7r : V 79 7 L (.ref a :: st) h Q = V 79 13 L st h Q := V_nonR (by decide +kernel : decode (p_c 79) 7 = .ok (.ifnonnull 6, 3)) (by decide)
theorem e79_10 : V 79 10 L st h Q = V 79 12 L (.int (-101) :: st) h Q := V_b (by decide +kernel : decode (p_c 79) 10 = .ok (.bipush (-101), 2)) (by decide)
theorem e79_12 : V 79 12 L [.int x] h Q = Q (some (.int x)) h := V_ri (by decide +kernel : decode (p_c 79) 12 = .ok (.ireturn, 1)) rfl
theorem e79_13 : V 79 13 [l0, l1, some (.int x), l3, l4] st h Q = V 79 14 [l0, l1, some (.int x), l3, l4] (.int x :: st) h Q := V_nx (by decide +kernel : decode (p_c 79) 13 = .ok (.iload_n 2, 1)) rfl rfl
theorem e79_14 : V 79 14 L (.int x :: st) h Q = if x < 0 then V 79 22 L st h Q else V 79 17 L st h Q := (V_ifc (by decide +kernel : decode (p_c 79) 14 = .ok (.ifCond .lt 8, 3)) (by decide)).trans i_lt
theorem e79_17 : V 79 17 [l0, l1, some (.int x), l3, l4] st h Q = V 79 18 [l0, l1, some (.int x), l3, l4] (.int x :: st) h Q := V_nx (by decide +kernel : decode (p_c 79) 17 = .ok (.iload_n 2, 1)) rfl rfl
theorem e79_18 : V 79 18 L st h Q = V 79 19 L (.int 1 :: st) h Q := V_c (by decide +kernel : decode (p_c 79) 18 = .ok (.iconst 1, 1)) (by decide)
theorem e79_19 : V 79 19 L (.int z :: .int x :: st) h Q = if z < x then V 79 22 L st h Q else V 79 25 L st h Q := (V_icmp (by decide +kernel : decode (p_c 79) 19 = .ok (.if_icmp .le 6, 3)) (by decide)).trans i_le
theorem e79_22 : V 79 22 L st h Q = V 79 24 L (.int (-102) :: st) h Q := V_b (by decide +kernel : decode (p_c 79) 22 = .ok (.bipush (-102), 2)) (by decide)
theorem e79_24 : V 79 24 L [.int x] h Q = Q (some (.int x)) h := V_ri (by decide +kernel : decode (p_c 79) 24 = .ok (.ireturn, 1)) rfl
theorem e79_25 : V 79 25 [l0, l1, l2, some (.ref a), l4] st h Q = V 79 26 [l0, l1, l2, some (.ref a), l4] (.ref a :: st) h Q := V_nx (by decide +kernel : decode (p_c 79) 25 = .ok (.aload_n 3, 1)) rfl rfl
theorem e79_25n : V 79 25 [l0, l1, l2, some .null, l4] st h Q = V 79 26 [l0, l1, l2, some .null, l4] (.null :: st) h Q := V_nx (by decide +kernel : decode (p_c 79) 25 = .ok (.aload_n 3, 1)) rfl rfl
theorem e79_26 : V 79 26 L (.ref a :: st) h Q = (p_ok1 [0, 1, 2, 7, 10] 3 (p_get h a) ∧ V 79 29 L (p_fv 3 (p_get h a) :: st) h Q) := V_gf (t := (0, 0, "WaterShoulders$Boat")) (by decide +kernel : decode (p_c 79) 26 = .ok (.getfield 147, 3)) (by decide +kernel)
theorem e79_29 : V 79 29 L st h Q = V 79 30 L (.int 1 :: st) h Q := V_c (by decide +kernel : decode (p_c 79) 29 = .ok (.iconst 1, 1)) (by decide)
theorem e79_30 : V 79 30 L (.int z :: .int x :: st) h Q = if x < z then V 79 49 L st h Q else V 79 33 L st h Q := (V_icmp (by decide +kernel : decode (p_c 79) 30 = .ok (.if_icmp .lt 19, 3)) (by decide)).trans i_lt
theorem e79_33 : V 79 33 [some (.ref a), l1, l2, l3, l4] st h Q = V 79 34 [some (.ref a), l1, l2, l3, l4] (.ref a :: st) h Q := V_nx (by decide +kernel : decode (p_c 79) 33 = .ok (.aload_n 0, 1)) rfl rfl
theorem e79_34 : V 79 34 L (.ref a :: st) h Q = (p_ok1 [11] 1 (p_get h a) ∧ V 79 37 L (p_fv 1 (p_get h a) :: st) h Q) := V_gf (t := (3, 1, "WaterShoulders")) (by decide +kernel : decode (p_c 79) 34 = .ok (.getfield 19, 3)) (by decide +kernel)
theorem e79_37 : V 79 37 [l0, l1, l2, some (.ref a), l4] st h Q = V 79 38 [l0, l1, l2, some (.ref a), l4] (.ref a :: st) h Q := V_nx (by decide +kernel : decode (p_c 79) 37 = .ok (.aload_n 3, 1)) rfl rfl
theorem e79_37n : V 79 37 [l0, l1, l2, some .null, l4] st h Q = V 79 38 [l0, l1, l2, some .null, l4] (.null :: st) h Q := V_nx (by decide +kernel : decode (p_c 79) 37 = .ok (.aload_n 3, 1)) rfl rfl
theorem e79_38 : V 79 38 L (.ref a :: st) h Q = (p_ok1 [0, 1, 2, 7, 10] 2 (p_get h a) ∧ V 79 41 L (p_fv 2 (p_get h a) :: st) h Q) := V_gf (t := (0, 0, "WaterShoulders$Boat")) (by decide +kernel : decode (p_c 79) 38 = .ok (.getfield 144, 3)) (by decide +kernel)
theorem e79_41 : V 79 41 [l0, l1, some (.int x), l3, l4] st h Q = V 79 42 [l0, l1, some (.int x), l3, l4] (.int x :: st) h Q := V_nx (by decide +kernel : decode (p_c 79) 41 = .ok (.iload_n 2, 1)) rfl rfl
theorem e79_42 : V 79 42 L (.int z :: .int x :: st) h Q = V 79 43 L (.int (x + z) :: st) h Q := V_nx (by decide +kernel : decode (p_c 79) 42 = .ok (.iadd, 1)) rfl rfl
theorem e79_43 : V 79 43 L (.int x1 :: .ref a :: st) h Q = ((p_cn1 (p_get h a) = 9 ∧ p_sm st) ∧ Vm 53 [.ref a, .int x1] h (Kt 79 46 L st Q)) := V_iv (n := 1) (as := [.int x1]) (ci := 9) (z := 53) (by decide +kernel : decode (p_c 79) 43 = .ok (.invokevirtual 107, 3)) (by decide +kernel) rfl rfl (by decide +kernel) rfl
theorem e79_46 : V 79 46 L (.int x :: st) h Q = if x = 0 then V 79 49 L st h Q else V 79 52 L st h Q := (V_ifc (by decide +kernel : decode (p_c 79) 46 = .ok (.ifCond .ne 6, 3)) (by decide)).trans i_ne
theorem e79_49 : V 79 49 L st h Q = V 79 51 L (.int (-103) :: st) h Q := V_b (by decide +kernel : decode (p_c 79) 49 = .ok (.bipush (-103), 2)) (by decide)
theorem e79_51 : V 79 51 L [.int x] h Q = Q (some (.int x)) h := V_ri (by decide +kernel : decode (p_c 79) 51 = .ok (.ireturn, 1)) rfl
theorem e79_52 : V 79 52 [some (.ref a), l1, l2, l3, l4] st h Q = V 79 53 [some (.ref a), l1, l2, l3, l4] (.ref a :: st) h Q := V_nx (by decide +kernel : decode (p_c 79) 52 = .ok (.aload_n 0, 1)) rfl rfl
theorem e79_53 : V 79 53 L (.ref a :: st) h Q = (p_ok1 [11] 1 (p_get h a) ∧ V 79 56 L (p_fv 1 (p_get h a) :: st) h Q) := V_gf (t := (3, 1, "WaterShoulders")) (by decide +kernel : decode (p_c 79) 53 = .ok (.getfield 19, 3)) (by decide +kernel)
theorem e79_56 : V 79 56 [some (.ref a), l1, l2, l3, l4] st h Q = V 79 57 [some (.ref a), l1, l2, l3, l4] (.ref a :: st) h Q := V_nx (by decide +kernel : decode (p_c 79) 56 = .ok (.aload_n 0, 1)) rfl rfl
theorem e79_57 : V 79 57 L (.ref a :: st) h Q = (p_ok1 [11] 2 (p_get h a) ∧ V 79 60 L (p_fv 2 (p_get h a) :: st) h Q) := V_gf (t := (3, 1, "WaterShoulders")) (by decide +kernel : decode (p_c 79) 57 = .ok (.getfield 23, 3)) (by decide +kernel)
theorem e79_60 : V 79 60 [l0, l1, l2, some (.ref a), l4] st h Q = V 79 61 [l0, l1, l2, some (.ref a), l4] (.ref a :: st) h Q := V_nx (by decide +kernel : decode (p_c 79) 60 = .ok (.aload_n 3, 1)) rfl rfl
theorem e79_60n : V 79 60 [l0, l1, l2, some .null, l4] st h Q = V 79 61 [l0, l1, l2, some .null, l4] (.null :: st) h Q := V_nx (by decide +kernel : decode (p_c 79) 60 = .ok (.aload_n 3, 1)) rfl rfl
theorem e79_61 : V 79 61 L (.ref a :: st) h Q = (p_ok1 [0, 1, 2, 7, 10] 2 (p_get h a) ∧ V 79 64 L (p_fv 2 (p_get h a) :: st) h Q) := V_gf (t := (0, 0, "WaterShoulders$Boat")) (by decide +kernel : decode (p_c 79) 61 = .ok (.getfield 144, 3)) (by decide +kernel)
theorem e79_64 : V 79 64 [l0, l1, some (.int x), l3, l4] st h Q = V 79 65 [l0, l1, some (.int x), l3, l4] (.int x :: st) h Q := V_nx (by decide +kernel : decode (p_c 79) 64 = .ok (.iload_n 2, 1)) rfl rfl
theorem e79_65 : V 79 65 L (.int z :: .int x :: st) h Q = V 79 66 L (.int (x + z) :: st) h Q := V_nx (by decide +kernel : decode (p_c 79) 65 = .ok (.iadd, 1)) rfl rfl
theorem e79_66 : V 79 66 [l0, l1, l2, some (.ref a), l4] st h Q = V 79 67 [l0, l1, l2, some (.ref a), l4] (.ref a :: st) h Q := V_nx (by decide +kernel : decode (p_c 79) 66 = .ok (.aload_n 3, 1)) rfl rfl
theorem e79_66n : V 79 66 [l0, l1, l2, some .null, l4] st h Q = V 79 67 [l0, l1, l2, some .null, l4] (.null :: st) h Q := V_nx (by decide +kernel : decode (p_c 79) 66 = .ok (.aload_n 3, 1)) rfl rfl
theorem e79_67 : V 79 67 L (.ref a :: st) h Q = (p_ok1 [0, 1, 2, 7, 10] 3 (p_get h a) ∧ V 79 70 L (p_fv 3 (p_get h a) :: st) h Q) := V_gf (t := (0, 0, "WaterShoulders$Boat")) (by decide +kernel : decode (p_c 79) 67 = .ok (.getfield 147, 3)) (by decide +kernel)
theorem e79_70 : V 79 70 L (.int x2 :: .int x1 :: .ref b1 :: .ref a :: st) h Q = ((p_cn1 (p_get h a) = 9 ∧ p_sm st) ∧ Vm 60 [.ref a, .ref b1, .int x1, .int x2] h (Kt 79 73 L st Q)) := V_iv (n := 3) (as := [.int x2, .int x1, .ref b1]) (ci := 9) (z := 60) (by decide +kernel : decode (p_c 79) 70 = .ok (.invokevirtual 169, 3)) (by decide +kernel) rfl rfl (by decide +kernel) rfl
theorem e79_73 : V 79 73 [l0, l1, l2, l3, l4] (.int x :: st) h Q = V 79 75 [l0, l1, l2, p_dl l3, some (.int x)] st h Q := V_nx (by decide +kernel : decode (p_c 79) 73 = .ok (.istore 4, 2)) rfl rfl
theorem e79_75 : V 79 75 [l0, l1, l2, some (.ref a), l4] st h Q = V 79 76 [l0, l1, l2, some (.ref a), l4] (.ref a :: st) h Q := V_nx (by decide +kernel : decode (p_c 79) 75 = .ok (.aload_n 3, 1)) rfl rfl
theorem e79_75n : V 79 75 [l0, l1, l2, some .null, l4] st h Q = V 79 76 [l0, l1, l2, some .null, l4] (.null :: st) h Q := V_nx (by decide +kernel : decode (p_c 79) 75 = .ok (.aload_n 3, 1)) rfl rfl
theorem e79_76 : V 79 76 L st h Q = V 79 77 L (.int 0 :: st) h Q := V_c (by decide +kernel : decode (p_c 79) 76 = .ok (.iconst 0, 1)) (by decide)
theorem e79_77 : V 79 77 L (.int x :: .ref a :: st) h Q = (p_ok1 [0, 1, 2, 7, 10] 3 (p_get h a) ∧ V 79 80 L st (p_set h a (p_fs 3 (.int x) (p_get h a))) Q) := V_pf0 (fin := 0) (ref := "WaterShoulders$Boat") (by decide +kernel : decode (p_c 79) 77 = .ok (.putfield 147, 3)) (by decide +kernel) (by decide +kernel)
theorem e79_80 : V 79 80 [l0, l1, l2, l3, some (.int x)] st h Q = V 79 82 [l0, l1, l2, l3, some (.int x)] (.int x :: st) h Q := V_nx (by decide +kernel : decode (p_c 79) 80 = .ok (.iload 4, 2)) rfl rfl
theorem e79_82 : V 79 82 L [.int x] h Q = Q (some (.int x)) h := V_ri (by decide +kernel : decode (p_c 79) 82 = .ok (.ireturn, 1)) rfl
theorem m79 : Vm 79 [.ref a, .int x1, .int x2] h Q = V 79 0 [some (.ref a), some (.int x1), some (.int x2), none, none] [] h Q := rfl
theorem e80_0 : V 80 0 [some (.ref a), l1, l2, l3] st h Q = V 80 1 [some (.ref a), l1, l2, l3] (.ref a :: st) h Q := V_nx (by decide +kernel : decode (p_c 80) 0 = .ok (.aload_n 0, 1)) rfl rfl
theorem e80_1 : V 80 1 [l0, some (.int x), l2, l3] st h Q = V 80 2 [l0, some (.int x), l2, l3] (.int x :: st) h Q := V_nx (by decide +kernel : decode (p_c 80) 1 = .ok (.iload_n 1, 1)) rfl rfl
theorem e80_2 : V 80 2 L (.int x1 :: .ref a :: st) h Q = ((p_cn1 (p_get h a) = 11 ∧ p_sm st) ∧ Vm 100 [.ref a, .int x1] h (Kt 80 5 L st Q)) := V_iv (n := 1) (as := [.int x1]) (ci := 11) (z := 100) (by decide +kernel : decode (p_c 80) 2 = .ok (.invokevirtual 125, 3)) (by decide +kernel) rfl rfl (by decide +kernel) rfl
theorem e80_5 : V 80 5 [l0, l1, l2, l3] (.ref a :: st) h Q = V 80 6 [l0, p_dl l1, some (.ref a), l3] st h Q := V_nx (by decide +kernel : decode (p_c 80) 5 = .ok (.astore_n 2, 1)) rfl rfl
theorem e80_5n : V 80 5 [l0, l1, l2, l3] (.null :: st) h Q = V 80 6 [l0, p_dl l1, some (.null), l3] st h Q := V_nx (by decide +kernel : decode (p_c 80) 5 = .ok (.astore_n 2, 1)) rfl rfl
theorem e80_6 : V 80 6 [l0, l1, some (.ref a), l3] st h Q = V 80 7 [l0, l1, some (.ref a), l3] (.ref a :: st) h Q := V_nx (by decide +kernel : decode (p_c 80) 6 = .ok (.aload_n 2, 1)) rfl rfl
theorem e80_6n : V 80 6 [l0, l1, some .null, l3] st h Q = V 80 7 [l0, l1, some .null, l3] (.null :: st) h Q := V_nx (by decide +kernel : decode (p_c 80) 6 = .ok (.aload_n 2, 1)) rfl rfl
theorem e80_7 : V 80 7 L (.null :: st) h Q = V 80 10 L st h Q := V_nonN (by decide +kernel : decode (p_c 80) 7 = .ok (.ifnonnull 6, 3))
theorem e80_7r : V 80 7 L (.ref a :: st) h Q = V 80 13 L st h Q := V_nonR (by decide +kernel : decode (p_c 80) 7 = .ok (.ifnonnull 6, 3)) (by decide)
theorem e80_10 : V 80 10 L st h Q = V 80 12 L (.int (-101) :: st) h Q := V_b (by decide +kernel : decode (p_c 80) 10 = .ok (.bipush (-101), 2)) (by decide)
theorem e80_12 : V 80 12 L [.int x] h Q = Q (some (.int x)) h := V_ri (by decide +kernel : decode (p_c 80) 12 = .ok (.ireturn, 1)) rfl
theorem e80_13 : V 80 13 [l0, l1, some (.ref a), l3] st h Q = V 80 14 [l0, l1, some (.ref a), l3] (.ref a :: st) h Q := V_nx (by decide +kernel : decode (p_c 80) 13 = .ok (.aload_n 2, 1)) rfl rfl
theorem e80_13n : V 80 13 [l0, l1, some .null, l3] st h Q = V 80 14 [l0, l1, some .null, l3] (.null :: st) h Q := V_nx (by decide +kernel : decode (p_c 80) 13 = .ok (.aload_n 2, 1)) rfl rfl
theorem e80_14 : V 80 14 L (.ref a :: st) h Q = (p_ok1 [0, 1, 2, 7, 10] 3 (p_get h a) ∧ V 80 17 L (p_fv 3 (p_get h a) :: st) h Q) := V_gf (t := (0, 0, "WaterShoulders$Boat")) (by decide +kernel : decode (p_c 80) 14 = .ok (.getfield 147, 3)) (by decide +kernel)
theorem e80_17 : V 80 17 L (.int x :: st) h Q = if 0 < x then V 80 27 L st h Q else V 80 20 L st h Q := (V_ifc (by decide +kernel : decode (p_c 80) 17 = .ok (.ifCond .gt 10, 3)) (by decide)).trans i_gt
theorem e80_20 : V 80 20 [l0, l1, some (.ref a), l3] st h Q = V 80 21 [l0, l1, some (.ref a), l3] (.ref a :: st) h Q := V_nx (by decide +kernel : decode (p_c 80) 20 = .ok (.aload_n 2, 1)) rfl rfl
theorem e80_20n : V 80 20 [l0, l1, some .null, l3] st h Q = V 80 21 [l0, l1, some .null, l3] (.null :: st) h Q := V_nx (by decide +kernel : decode (p_c 80) 20 = .ok (.aload_n 2, 1)) rfl rfl
theorem e80_21 : V 80 21 L (.ref a :: st) h Q = (p_ok1 [0, 1, 2, 7, 10] 2 (p_get h a) ∧ V 80 24 L (p_fv 2 (p_get h a) :: st) h Q) := V_gf (t := (0, 0, "WaterShoulders$Boat")) (by decide +kernel : decode (p_c 80) 21 = .ok (.getfield 144, 3)) (by decide +kernel)
theorem e80_24 : V 80 24 L (.int x :: st) h Q = if x = 0 then V 80 27 L st h Q else V 80 30 L st h Q := (V_ifc (by decide +kernel : decode (p_c 80) 24 = .ok (.ifCond .ne 6, 3)) (by decide)).trans i_ne
theorem e80_27 : V 80 27 L st h Q = V 80 29 L (.int (-103) :: st) h Q := V_b (by decide +kernel : decode (p_c 80) 27 = .ok (.bipush (-103), 2)) (by decide)
theorem e80_29 : V 80 29 L [.int x] h Q = Q (some (.int x)) h := V_ri (by decide +kernel : decode (p_c 80) 29 = .ok (.ireturn, 1)) rfl
theorem e80_30 : V 80 30 [l0, l1, some (.ref a), l3] st h Q = V 80 31 [l0, l1, some (.ref a), l3] (.ref a :: st) h Q := V_nx (by decide +kernel : decode (p_c 80) 30 = .ok (.aload_n 2, 1)) rfl rfl
theorem e80_30n : V 80 30 [l0, l1, some .null, l3] st h Q = V 80 31 [l0, l1, some .null, l3] (.null :: st) h Q := V_nx (by decide +kernel : decode (p_c 80) 30 = .ok (.aload_n 2, 1)) rfl rfl
theorem e80_31 : V 80 31 L (.ref a :: st) h Q = (p_ok1 [0, 1, 2, 7, 10] 2 (p_get h a) ∧ V 80 34 L (p_fv 2 (p_get h a) :: st) h Q) := V_gf (t := (0, 0, "WaterShoulders$Boat")) (by decide +kernel : decode (p_c 80) 31 = .ok (.getfield 144, 3)) (by decide +kernel)
theorem e80_34 : V 80 34 [l0, l1, l2, l3] (.int x :: st) h Q = V 80 35 [l0, l1, p_dl l2, some (.int x)] st h Q := V_nx (by decide +kernel : decode (p_c 80) 34 = .ok (.istore_n 3, 1)) rfl rfl
theorem e80_35 : V 80 35 [l0, l1, some (.ref a), l3] st h Q = V 80 36 [l0, l1, some (.ref a), l3] (.ref a :: st) h Q := V_nx (by decide +kernel : decode (p_c 80) 35 = .ok (.aload_n 2, 1)) rfl rfl
theorem e80_35n : V 80 35 [l0, l1, some .null, l3] st h Q = V 80 36 [l0, l1, some .null, l3] (.null :: st) h Q := V_nx (by decide +kernel : decode (p_c 80) 35 = .ok (.aload_n 2, 1)) rfl rfl
theorem e80_36 : V 80 36 L st h Q = V 80 37 L (.int 0 :: st) h Q := V_c (by decide +kernel : decode (p_c 80) 36 = .ok (.iconst 0, 1)) (by decide)
theorem e80_37 : V 80 37 L (.int x :: .ref a :: st) h Q = (p_ok1 [0, 1, 2, 7, 10] 2 (p_get h a) ∧ V 80 40 L st (p_set h a (p_fs 2 (.int x) (p_get h a))) Q) := V_pf0 (fin := 0) (ref := "WaterShoulders$Boat") (by decide +kernel : decode (p_c 80) 37 = .ok (.putfield 144, 3)) (by decide +kernel) (by decide +kernel)
theorem e80_40 : V 80 40 [l0, l1, l2, some (.int x)] st h Q = V 80 41 [l0, l1, l2, some (.int x)] (.int x :: st) h Q := V_nx (by decide +kernel : decode (p_c 80) 40 = .ok (.iload_n 3, 1)) rfl rfl
theorem e80_41 : V 80 41 L [.int x] h Q = Q (some (.int x)) h := V_ri (by decide +kernel : decode (p_c 80) 41 = .ok (.ireturn, 1)) rfl
theorem m80 : Vm 80 [.ref a, .int x1] h Q = V 80 0 [some (.ref a), some (.int x1), none, none] [] h Q := rfl
theorem e81_0 : V 81 0 [l0, some (.int x)] st h Q = V 81 1 [l0, some (.int x)] (.int x :: st) h Q := V_nx (by decide +kernel : decode (p_c 81) 0 = .ok (.iload_n 1, 1)) rfl rfl
theorem e81_1 : V 81 1 L (.int x :: st) h Q = if x < 0 then V 81 10 L st h Q else V 81 4 L st h Q := (V_ifc (by decide +kernel : decode (p_c 81) 1 = .ok (.ifCond .lt 9, 3)) (by decide)).trans i_lt
theorem e81_4 : V 81 4 [l0, some (.int x)] st h Q = V 81 5 [l0, some (.int x)] (.int x :: st) h Q := V_nx (by decide +kernel : decode (p_c 81) 4 = .ok (.iload_n 1, 1)) rfl rfl
theorem e81_5 : V 81 5 L st h Q = V 81 7 L (.int 9 :: st) h Q := V_b (by decide +kernel : decode (p_c 81) 5 = .ok (.bipush 9, 2)) (by decide)
theorem e81_7 : V 81 7 L (.int z :: .int x :: st) h Q = if z < x then V 81 10 L st h Q else V 81 13 L st h Q := (V_icmp (by decide +kernel : decode (p_c 81) 7 = .ok (.if_icmp .le 6, 3)) (by decide)).trans i_le
theorem e81_10 : V 81 10 L st h Q = V 81 12 L (.int (-102) :: st) h Q := V_b (by decide +kernel : decode (p_c 81) 10 = .ok (.bipush (-102), 2)) (by decide)
theorem e81_12 : V 81 12 L [.int x] h Q = Q (some (.int x)) h := V_ri (by decide +kernel : decode (p_c 81) 12 = .ok (.ireturn, 1)) rfl
theorem e81_13 : V 81 13 [some (.ref a), l1] st h Q = V 81 14 [some (.ref a), l1] (.ref a :: st) h Q := V_nx (by decide +kernel : decode (p_c 81) 13 = .ok (.aload_n 0, 1)) rfl rfl
theorem e81_14 : V 81 14 L (.ref a :: st) h Q = (p_ok1 [11] 1 (p_get h a) ∧ V 81 17 L (p_fv 1 (p_get h a) :: st) h Q) := V_gf (t := (3, 1, "WaterShoulders")) (by decide +kernel : decode (p_c 81) 14 = .ok (.getfield 19, 3)) (by decide +kernel)
theorem e81_17 : V 81 17 L (.ref a :: st) h Q = (p_ok1 [9] 2 (p_get h a) ∧ V 81 20 L (p_fv 2 (p_get h a) :: st) h Q) := V_gf (t := (0, 0, "WaterShoulders$Stair")) (by decide +kernel : decode (p_c 81) 17 = .ok (.getfield 104, 3)) (by decide +kernel)
theorem e81_20 : V 81 20 L (.int x :: st) h Q = if x = 0 then V 81 23 L st h Q else V 81 26 L st h Q := (V_ifc (by decide +kernel : decode (p_c 81) 20 = .ok (.ifCond .ne 6, 3)) (by decide)).trans i_ne
theorem e81_23 : V 81 23 L st h Q = V 81 25 L (.int (-103) :: st) h Q := V_b (by decide +kernel : decode (p_c 81) 23 = .ok (.bipush (-103), 2)) (by decide)
theorem e81_25 : V 81 25 L [.int x] h Q = Q (some (.int x)) h := V_ri (by decide +kernel : decode (p_c 81) 25 = .ok (.ireturn, 1)) rfl
theorem e81_26 : V 81 26 [some (.ref a), l1] st h Q = V 81 27 [some (.ref a), l1] (.ref a :: st) h Q := V_nx (by decide +kernel : decode (p_c 81) 26 = .ok (.aload_n 0, 1)) rfl rfl
theorem e81_27 : V 81 27 L (.ref a :: st) h Q = (p_ok1 [11] 1 (p_get h a) ∧ V 81 30 L (p_fv 1 (p_get h a) :: st) h Q) := V_gf (t := (3, 1, "WaterShoulders")) (by decide +kernel : decode (p_c 81) 27 = .ok (.getfield 19, 3)) (by decide +kernel)
theorem e81_30 : V 81 30 [some (.ref a), l1] st h Q = V 81 31 [some (.ref a), l1] (.ref a :: st) h Q := V_nx (by decide +kernel : decode (p_c 81) 30 = .ok (.aload_n 0, 1)) rfl rfl
theorem e81_31 : V 81 31 L (.ref a :: st) h Q = (p_ok1 [11] 2 (p_get h a) ∧ V 81 34 L (p_fv 2 (p_get h a) :: st) h Q) := V_gf (t := (3, 1, "WaterShoulders")) (by decide +kernel : decode (p_c 81) 31 = .ok (.getfield 23, 3)) (by decide +kernel)
theorem e81_34 : V 81 34 [l0, some (.int x)] st h Q = V 81 35 [l0, some (.int x)] (.int x :: st) h Q := V_nx (by decide +kernel : decode (p_c 81) 34 = .ok (.iload_n 1, 1)) rfl rfl
theorem e81_35 : V 81 35 L (.int x1 :: .ref b1 :: .ref a :: st) h Q = ((p_cn1 (p_get h a) = 9 ∧ p_sm st) ∧ Vm 61 [.ref a, .ref b1, .int x1] h (Kt 81 38 L st Q)) := V_iv (n := 2) (as := [.int x1, .ref b1]) (ci := 9) (z := 61) (by decide +kernel : decode (p_c 81) 35 = .ok (.invokevirtual 173, 3)) (by decide +kernel) rfl rfl (by decide +kernel) rfl
theorem e81_38 : V 81 38 [some (.ref a), l1] st h Q = V 81 39 [some (.ref a), l1] (.ref a :: st) h Q := V_nx (by decide +kernel : decode (p_c 81) 38 = .ok (.aload_n 0, 1)) rfl rfl
theorem e81_39 : V 81 39 L (.ref a :: st) h Q = V 81 40 L (.ref a :: .ref a :: st) h Q := V_dup (by decide +kernel : decode (p_c 81) 39 = .ok (.dup, 1)) rfl
theorem e81_39i : V 81 39 L (.int x :: st) h Q = V 81 40 L (.int x :: .int x :: st) h Q := V_dup (by decide +kernel : decode (p_c 81) 39 = .ok (.dup, 1)) rfl
theorem e81_40 : V 81 40 L (.ref a :: st) h Q = (p_ok1 [11] 10 (p_get h a) ∧ V 81 43 L (p_fv 10 (p_get h a) :: st) h Q) := V_gf (t := (0, 0, "WaterShoulders")) (by decide +kernel : decode (p_c 81) 40 = .ok (.getfield 95, 3)) (by decide +kernel)
theorem e81_43 : V 81 43 L st h Q = V 81 44 L (.int 1 :: st) h Q := V_c (by decide +kernel : decode (p_c 81) 43 = .ok (.iconst 1, 1)) (by decide)
theorem e81_44 : V 81 44 L (.int z :: .int x :: st) h Q = V 81 45 L (.int (x + z) :: st) h Q := V_nx (by decide +kernel : decode (p_c 81) 44 = .ok (.iadd, 1)) rfl rfl
theorem e81_45 : V 81 45 L (.int x :: .ref a :: st) h Q = (p_ok1 [11] 10 (p_get h a) ∧ V 81 48 L st (p_set h a (p_fs 10 (.int x) (p_get h a))) Q) := V_pf0 (fin := 0) (ref := "WaterShoulders") (by decide +kernel : decode (p_c 81) 45 = .ok (.putfield 95, 3)) (by decide +kernel) (by decide +kernel)
theorem e81_48 : V 81 48 [some (.ref a), l1] st h Q = V 81 49 [some (.ref a), l1] (.ref a :: st) h Q := V_nx (by decide +kernel : decode (p_c 81) 48 = .ok (.aload_n 0, 1)) rfl rfl
theorem e81_49 : V 81 49 L (.ref a :: st) h Q = (p_ok1 [11] 1 (p_get h a) ∧ V 81 52 L (p_fv 1 (p_get h a) :: st) h Q) := V_gf (t := (3, 1, "WaterShoulders")) (by decide +kernel : decode (p_c 81) 49 = .ok (.getfield 19, 3)) (by decide +kernel)
theorem e81_52 : V 81 52 [some (.ref a), l1] st h Q = V 81 53 [some (.ref a), l1] (.ref a :: st) h Q := V_nx (by decide +kernel : decode (p_c 81) 52 = .ok (.aload_n 0, 1)) rfl rfl
theorem e81_53 : V 81 53 L (.ref a :: st) h Q = (p_ok1 [11] 2 (p_get h a) ∧ V 81 56 L (p_fv 2 (p_get h a) :: st) h Q) := V_gf (t := (3, 1, "WaterShoulders")) (by decide +kernel : decode (p_c 81) 53 = .ok (.getfield 23, 3)) (by decide +kernel)
theorem e81_56 : V 81 56 L (.ref b1 :: .ref a :: st) h Q = ((p_cn1 (p_get h a) = 9 ∧ p_sm st) ∧ Vm 64 [.ref a, .ref b1] h (Kt 81 59 L st Q)) := V_iv (n := 1) (as := [.ref b1]) (ci := 9) (z := 64) (by decide +kernel : decode (p_c 81) 56 = .ok (.invokevirtual 177, 3)) (by decide +kernel) rfl rfl (by decide +kernel) rfl
theorem e81_59 : V 81 59 L [.int x] h Q = Q (some (.int x)) h := V_ri (by decide +kernel : decode (p_c 81) 59 = .ok (.ireturn, 1)) rfl
theorem m81 : Vm 81 [.ref a, .int x1] h Q = V 81 0 [some (.ref a), some (.int x1)] [] h Q := rfl
theorem e82_0 : V 82 0 [some (.ref a), l1, l2, l3, l4, l5] st h Q = V 82 1 [some (.ref a), l1, l2, l3, l4, l5] (.ref a :: st) h Q := V_nx (by decide +kernel : decode (p_c 82) 0 = .ok (.aload_n 0, 1)) rfl rfl
theorem e82_1 : V 82 1 [l0, some (.int x), l2, l3, l4, l5] st h Q = V 82 2 [l0, some (.int x), l2, l3, l4, l5] (.int x :: st) h Q := V_nx (by decide +kernel : decode (p_c 82) 1 = .ok (.iload_n 1, 1)) rfl rfl
theorem e82_2 : V 82 2 L (.int x1 :: .ref a :: st) h Q = ((p_cn1 (p_get h a) = 11 ∧ p_sm st) ∧ Vm 100 [.ref a, .int x1] h (Kt 82 5 L st Q)) := V_iv (n := 1) (as := [.int x1]) (ci := 11) (z := 100) (by decide +kernel : decode (p_c 82) 2 = .ok (.invokevirtual 125, 3)) (by decide +kernel) rfl rfl (by decide +kernel) rfl
theorem e82_5 : V 82 5 [l0, l1, l2, l3, l4, l5] (.ref a :: st) h Q = V 82 7 [l0, l1, l2, p_dl l3, some (.ref a), l5] st h Q := V_nx (by decide +kernel : decode (p_c 82) 5 = .ok (.astore 4, 2)) rfl rfl
theorem e82_5n : V 82 5 [l0, l1, l2, l3, l4, l5] (.null :: st) h Q = V 82 7 [l0, l1, l2, p_dl l3, some (.null), l5] st h Q := V_nx (by decide +kernel : decode (p_c 82) 5 = .ok (.astore 4, 2)) rfl rfl
theorem e82_7 : V 82 7 [some (.ref a), l1, l2, l3, l4, l5] st h Q = V 82 8 [some (.ref a), l1, l2, l3, l4, l5] (.ref a :: st) h Q := V_nx (by decide +kernel : decode (p_c 82) 7 = .ok (.aload_n 0, 1)) rfl rfl
theorem e82_8 : V 82 8 [l0, l1, some (.int x), l3, l4, l5] st h Q = V 82 9 [l0, l1, some (.int x), l3, l4, l5] (.int x :: st) h Q := V_nx (by decide +kernel : decode (p_c 82) 8 = .ok (.iload_n 2, 1)) rfl rfl
theorem e82_9 : V 82 9 L (.int x1 :: .ref a :: st) h Q = ((p_cn1 (p_get h a) = 11 ∧ p_sm st) ∧ Vm 100 [.ref a, .int x1] h (Kt 82 12 L st Q)) := V_iv (n := 1) (as := [.int x1]) (ci := 11) (z := 100) (by decide +kernel : decode (p_c 82) 9 = .ok (.invokevirtual 125, 3)) (by decide +kernel) rfl rfl (by decide +kernel) rfl
theorem e82_12 : V 82 12 [l0, l1, l2, l3, l4, l5] (.ref a :: st) h Q = V 82 14 [l0, l1, l2, l3, p_dl l4, some (.ref a)] st h Q := V_nx (by decide +kernel : decode (p_c 82) 12 = .ok (.astore 5, 2)) rfl rfl
theorem e82_12n : V 82 12 [l0, l1, l2, l3, l4, l5] (.null :: st) h Q = V 82 14 [l0, l1, l2, l3, p_dl l4, some (.null)] st h Q := V_nx (by decide +kernel : decode (p_c 82) 12 = .ok (.astore 5, 2)) rfl rfl
theorem e82_14 : V 82 14 [l0, l1, l2, l3, some (.ref a), l5] st h Q = V 82 16 [l0, l1, l2, l3, some (.ref a), l5] (.ref a :: st) h Q := V_nx (by decide +kernel : decode (p_c 82) 14 = .ok (.aload 4, 2)) rfl rfl
theorem e82_14n : V 82 14 [l0, l1, l2, l3, some .null, l5] st h Q = V 82 16 [l0, l1, l2, l3, some .null, l5] (.null :: st) h Q := V_nx (by decide +kernel : decode (p_c 82) 14 = .ok (.aload 4, 2)) rfl rfl
theorem e82_16 : V 82 16 L (.null :: st) h Q = V 82 29 L st h Q := V_nullN (by decide +kernel : decode (p_c 82) 16 = .ok (.ifnull 13, 3)) (by decide)
theorem e82_16r : V 82 16 L (.ref a :: st) h Q = V 82 19 L st h Q := V_nullR (by decide +kernel : decode (p_c 82) 16 = .ok (.ifnull 13, 3))
theorem e82_19 : V 82 19 [l0, l1, l2, l3, l4, some (.ref a)] st h Q = V 82 21 [l0, l1, l2, l3, l4, some (.ref a)] (.ref a :: st) h Q := V_nx (by decide +kernel : decode (p_c 82) 19 = .ok (.aload 5, 2)) rfl rfl
theorem e82_19n : V 82 19 [l0, l1, l2, l3, l4, some .null] st h Q = V 82 21 [l0, l1, l2, l3, l4, some .null] (.null :: st) h Q := V_nx (by decide +kernel : decode (p_c 82) 19 = .ok (.aload 5, 2)) rfl rfl
theorem e82_21 : V 82 21 L (.null :: st) h Q = V 82 29 L st h Q := V_nullN (by decide +kernel : decode (p_c 82) 21 = .ok (.ifnull 8, 3)) (by decide)
theorem e82_21r : V 82 21 L (.ref a :: st) h Q = V 82 24 L st h Q := V_nullR (by decide +kernel : decode (p_c 82) 21 = .ok (.ifnull 8, 3))
theorem e82_24 : V 82 24 [l0, some (.int x), l2, l3, l4, l5] st h Q = V 82 25 [l0, some (.int x), l2, l3, l4, l5] (.int x :: st) h Q := V_nx (by decide +kernel : decode (p_c 82) 24 = .ok (.iload_n 1, 1)) rfl rfl
theorem e82_25 : V 82 25 [l0, l1, some (.int x), l3, l4, l5] st h Q = V 82 26 [l0, l1, some (.int x), l3, l4, l5] (.int x :: st) h Q := V_nx (by decide +kernel : decode (p_c 82) 25 = .ok (.iload_n 2, 1)) rfl rfl
theorem e82_26 : V 82 26 L (.int z :: .int x :: st) h Q = if x = z then V 82 29 L st h Q else V 82 32 L st h Q := (V_icmp (by decide +kernel : decode (p_c 82) 26 = .ok (.if_icmp .ne 6, 3)) (by decide)).trans i_ne
theorem e82_29 : V 82 29 L st h Q = V 82 31 L (.int (-101) :: st) h Q := V_b (by decide +kernel : decode (p_c 82) 29 = .ok (.bipush (-101), 2)) (by decide)
theorem e82_31 : V 82 31 L [.int x] h Q = Q (some (.int x)) h := V_ri (by decide +kernel : decode (p_c 82) 31 = .ok (.ireturn, 1)) rfl
theorem e82_32 : V 82 32 [l0, l1, l2, some (.int x), l4, l5] st h Q = V 82 33 [l0, l1, l2, some (.int x), l4, l5] (.int x :: st) h Q := V_nx (by decide +kernel : decode (p_c 82) 32 = .ok (.iload_n 3, 1)) rfl rfl
theorem e82_33 : V 82 33 L (.int x :: st) h Q = if x < 0 then V 82 41 L st h Q else V 82 36 L st h Q := (V_ifc (by decide +kernel : decode (p_c 82) 33 = .ok (.ifCond .lt 8, 3)) (by decide)).trans i_lt
theorem e82_36 : V 82 36 [l0, l1, l2, some (.int x), l4, l5] st h Q = V 82 37 [l0, l1, l2, some (.int x), l4, l5] (.int x :: st) h Q := V_nx (by decide +kernel : decode (p_c 82) 36 = .ok (.iload_n 3, 1)) rfl rfl
theorem e82_37 : V 82 37 L st h Q = V 82 38 L (.int 1 :: st) h Q := V_c (by decide +kernel : decode (p_c 82) 37 = .ok (.iconst 1, 1)) (by decide)
theorem e82_38 : V 82 38 L (.int z :: .int x :: st) h Q = if z < x then V 82 41 L st h Q else V 82 44 L st h Q := (V_icmp (by decide +kernel : decode (p_c 82) 38 = .ok (.if_icmp .le 6, 3)) (by decide)).trans i_le
theorem e82_41 : V 82 41 L st h Q = V 82 43 L (.int (-102) :: st) h Q := V_b (by decide +kernel : decode (p_c 82) 41 = .ok (.bipush (-102), 2)) (by decide)
theorem e82_43 : V 82 43 L [.int x] h Q = Q (some (.int x)) h := V_ri (by decide +kernel : decode (p_c 82) 43 = .ok (.ireturn, 1)) rfl
theorem e82_44 : V 82 44 [l0, l1, l2, l3, l4, some (.ref a)] st h Q = V 82 46 [l0, l1, l2, l3, l4, some (.ref a)] (.ref a :: st) h Q := V_nx (by decide +kernel : decode (p_c 82) 44 = .ok (.aload 5, 2)) rfl rfl
theorem e82_44n : V 82 44 [l0, l1, l2, l3, l4, some .null] st h Q = V 82 46 [l0, l1, l2, l3, l4, some .null] (.null :: st) h Q := V_nx (by decide +kernel : decode (p_c 82) 44 = .ok (.aload 5, 2)) rfl rfl
theorem e82_46n : V 82 46 L (.null :: st) h Q = V 82 49 L (.int 0 :: st) h Q := V_ioN (by decide +kernel : decode (p_c 82) 46 = .ok (.instanceof 158, 3))
theorem e82_46 : V 82 46 L (.ref a :: st) h Q = (p_bt (p_cn1 (p_get h a)) = true ∧ V 82 49 L (.int (if p_is (p_cn1 (p_get h a)) 2 then 1 else 0) :: st) h Q) := V_ioR (by decide +kernel : decode (p_c 82) 46 = .ok (.instanceof 158, 3)) (by decide +kernel) rfl
theorem e82_49 : V 82 49 L (.int x :: st) h Q = if x = 0 then V 82 61 L st h Q else V 82 52 L st h Q := (V_ifc (by decide +kernel : decode (p_c 82) 49 = .ok (.ifCond .eq 12, 3)) (by decide)).trans i_eq
theorem e82_52 : V 82 52 [some (.ref a), l1, l2, l3, l4, l5] st h Q = V 82 53 [some (.ref a), l1, l2, l3, l4, l5] (.ref a :: st) h Q := V_nx (by decide +kernel : decode (p_c 82) 52 = .ok (.aload_n 0, 1)) rfl rfl
theorem e82_53 : V 82 53 L (.ref a :: st) h Q = (p_ok1 [11] 12 (p_get h a) ∧ V 82 56 L (p_fv 12 (p_get h a) :: st) h Q) := V_gf (t := (0, 0, "WaterShoulders")) (by decide +kernel : decode (p_c 82) 53 = .ok (.getfield 181, 3)) (by decide +kernel)
theorem e82_56 : V 82 56 L st h Q = V 82 58 L (.int 40 :: st) h Q := V_b (by decide +kernel : decode (p_c 82) 56 = .ok (.bipush 40, 2)) (by decide)
theorem e82_58 : V 82 58 L (.int z :: .int x :: st) h Q = if x < z then V 82 64 L st h Q else V 82 61 L st h Q := (V_icmp (by decide +kernel : decode (p_c 82) 58 = .ok (.if_icmp .lt 6, 3)) (by decide)).trans i_lt
theorem e82_61 : V 82 61 L st h Q = V 82 63 L (.int (-103) :: st) h Q := V_b (by decide +kernel : decode (p_c 82) 61 = .ok (.bipush (-103), 2)) (by decide)
theorem e82_63 : V 82 63 L [.int x] h Q = Q (some (.int x)) h := V_ri (by decide +kernel : decode (p_c 82) 63 = .ok (.ireturn, 1)) rfl
theorem e82_64 : V 82 64 [some (.ref a), l1, l2, l3, l4, l5] st h Q = V 82 65 [some (.ref a), l1, l2, l3, l4, l5] (.ref a :: st) h Q := V_nx (by decide +kernel : decode (p_c 82) 64 = .ok (.aload_n 0, 1)) rfl rfl
theorem e82_65 : V 82 65 L (.ref a :: st) h Q = V 82 66 L (.ref a :: .ref a :: st) h Q := V_dup (by decide +kernel : decode (p_c 82) 65 = .ok (.dup, 1)) rfl
theorem e82_65i : V 82 65 L (.int x :: st) h Q = V 82 66 L (.int x :: .int x :: st) h Q := V_dup (by decide +kernel : decode (p_c 82) 65 = .ok (.dup, 1)) rfl
theorem e82_66 : V 82 66 L (.ref a :: st) h Q = (p_ok1 [11] 12 (p_get h a) ∧ V 82 69 L (p_fv 12 (p_get h a) :: st) h Q) := V_gf (t := (0, 0, "WaterShoulders")) (by decide +kernel : decode (p_c 82) 66 = .ok (.getfield 181, 3)) (by decide +kernel)
theorem e82_69 : V 82 69 L st h Q = V 82 70 L (.int 1 :: st) h Q := V_c (by decide +kernel : decode (p_c 82) 69 = .ok (.iconst 1, 1)) (by decide)
theorem e82_70 : V 82 70 L (.int z :: .int x :: st) h Q = V 82 71 L (.int (x + z) :: st) h Q := V_nx (by decide +kernel : decode (p_c 82) 70 = .ok (.iadd, 1)) rfl rfl
theorem e82_71 : V 82 71 L (.int x :: .ref a :: st) h Q = (p_ok1 [11] 12 (p_get h a) ∧ V 82 74 L st (p_set h a (p_fs 12 (.int x) (p_get h a))) Q) := V_pf0 (fin := 0) (ref := "WaterShoulders") (by decide +kernel : decode (p_c 82) 71 = .ok (.putfield 181, 3)) (by decide +kernel) (by decide +kernel)
theorem e82_74 : V 82 74 [some (.ref a), l1, l2, l3, l4, l5] st h Q = V 82 75 [some (.ref a), l1, l2, l3, l4, l5] (.ref a :: st) h Q := V_nx (by decide +kernel : decode (p_c 82) 74 = .ok (.aload_n 0, 1)) rfl rfl
theorem e82_75 : V 82 75 L (.ref a :: st) h Q = (p_ok1 [11] 8 (p_get h a) ∧ V 82 78 L (p_fv 8 (p_get h a) :: st) h Q) := V_gf (t := (3, 1, "WaterShoulders")) (by decide +kernel : decode (p_c 82) 75 = .ok (.getfield 60, 3)) (by decide +kernel)
theorem e82_78 : V 82 78 [some (.ref a), l1, l2, l3, l4, l5] st h Q = V 82 79 [some (.ref a), l1, l2, l3, l4, l5] (.ref a :: st) h Q := V_nx (by decide +kernel : decode (p_c 82) 78 = .ok (.aload_n 0, 1)) rfl rfl
theorem e82_79 : V 82 79 L (.ref a :: st) h Q = (p_ok1 [11] 1 (p_get h a) ∧ V 82 82 L (p_fv 1 (p_get h a) :: st) h Q) := V_gf (t := (3, 1, "WaterShoulders")) (by decide +kernel : decode (p_c 82) 79 = .ok (.getfield 19, 3)) (by decide +kernel)
theorem e82_82 : V 82 82 [some (.ref a), l1, l2, l3, l4, l5] st h Q = V 82 83 [some (.ref a), l1, l2, l3, l4, l5] (.ref a :: st) h Q := V_nx (by decide +kernel : decode (p_c 82) 82 = .ok (.aload_n 0, 1)) rfl rfl
theorem e82_83 : V 82 83 L (.ref a :: st) h Q = (p_ok1 [11] 2 (p_get h a) ∧ V 82 86 L (p_fv 2 (p_get h a) :: st) h Q) := V_gf (t := (3, 1, "WaterShoulders")) (by decide +kernel : decode (p_c 82) 83 = .ok (.getfield 23, 3)) (by decide +kernel)
theorem e82_86 : V 82 86 [l0, l1, l2, l3, some (.ref a), l5] st h Q = V 82 88 [l0, l1, l2, l3, some (.ref a), l5] (.ref a :: st) h Q := V_nx (by decide +kernel : decode (p_c 82) 86 = .ok (.aload 4, 2)) rfl rfl
theorem e82_86n : V 82 86 [l0, l1, l2, l3, some .null, l5] st h Q = V 82 88 [l0, l1, l2, l3, some .null, l5] (.null :: st) h Q := V_nx (by decide +kernel : decode (p_c 82) 86 = .ok (.aload 4, 2)) rfl rfl
theorem e82_88 : V 82 88 [l0, l1, l2, l3, l4, some (.ref a)] st h Q = V 82 90 [l0, l1, l2, l3, l4, some (.ref a)] (.ref a :: st) h Q := V_nx (by decide +kernel : decode (p_c 82) 88 = .ok (.aload 5, 2)) rfl rfl
theorem e82_88n : V 82 88 [l0, l1, l2, l3, l4, some .null] st h Q = V 82 90 [l0, l1, l2, l3, l4, some .null] (.null :: st) h Q := V_nx (by decide +kernel : decode (p_c 82) 88 = .ok (.aload 5, 2)) rfl rfl
theorem e82_90 : V 82 90 L (.ref b4 :: .ref b3 :: .ref b2 :: .ref b1 :: .ref a :: st) h Q = ((p_cn1 (p_get h a) = 8 ∧ p_sm st) ∧ Vm 40 [.ref a, .ref b1, .ref b2, .ref b3, .ref b4] h (Kt 82 93 L st Q)) := V_iv (n := 4) (as := [.ref b4, .ref b3, .ref b2, .ref b1]) (ci := 8) (z := 40) (by decide +kernel : decode (p_c 82) 90 = .ok (.invokevirtual 184, 3)) (by decide +kernel) rfl rfl (by decide +kernel) rfl
theorem e82_93 : V 82 93 [l0, l1, l2, some (.int x), l4, l5] st h Q = V 82 94 [l0, l1, l2, some (.int x), l4, l5] (.int x :: st) h Q := V_nx (by decide +kernel : decode (p_c 82) 93 = .ok (.iload_n 3, 1)) rfl rfl
theorem e82_94 : V 82 94 L (.int x :: st) h Q = if x = 0 then V 82 97 L st h Q else V 82 107 L st h Q := (V_ifc (by decide +kernel : decode (p_c 82) 94 = .ok (.ifCond .ne 13, 3)) (by decide)).trans i_ne
theorem e82_97 : V 82 97 [some (.ref a), l1, l2, l3, l4, l5] st h Q = V 82 98 [some (.ref a), l1, l2, l3, l4, l5] (.ref a :: st) h Q := V_nx (by decide +kernel : decode (p_c 82) 97 = .ok (.aload_n 0, 1)) rfl rfl
theorem e82_98 : V 82 98 L (.ref a :: st) h Q = (p_ok1 [11] 8 (p_get h a) ∧ V 82 101 L (p_fv 8 (p_get h a) :: st) h Q) := V_gf (t := (3, 1, "WaterShoulders")) (by decide +kernel : decode (p_c 82) 98 = .ok (.getfield 60, 3)) (by decide +kernel)
theorem e82_101 : V 82 101 L (.ref a :: st) h Q = (p_ok1 [8] 0 (p_get h a) ∧ V 82 104 L (p_fv 0 (p_get h a) :: st) h Q) := V_gf (t := (0, 0, "WaterShoulders$Search")) (by decide +kernel : decode (p_c 82) 101 = .ok (.getfield 188, 3)) (by decide +kernel)
theorem e82_104 : V 82 104 L st h Q = V 82 114 L st h Q := V_goto (by decide +kernel : decode (p_c 82) 104 = .ok (.goto 10, 3)) (by decide)
theorem e82_107 : V 82 107 [some (.ref a), l1, l2, l3, l4, l5] st h Q = V 82 108 [some (.ref a), l1, l2, l3, l4, l5] (.ref a :: st) h Q := V_nx (by decide +kernel : decode (p_c 82) 107 = .ok (.aload_n 0, 1)) rfl rfl
theorem e82_108 : V 82 108 L (.ref a :: st) h Q = (p_ok1 [11] 8 (p_get h a) ∧ V 82 111 L (p_fv 8 (p_get h a) :: st) h Q) := V_gf (t := (3, 1, "WaterShoulders")) (by decide +kernel : decode (p_c 82) 108 = .ok (.getfield 60, 3)) (by decide +kernel)
theorem e82_111 : V 82 111 L (.ref a :: st) h Q = (p_ok1 [8] 1 (p_get h a) ∧ V 82 114 L (p_fv 1 (p_get h a) :: st) h Q) := V_gf (t := (0, 0, "WaterShoulders$Search")) (by decide +kernel : decode (p_c 82) 111 = .ok (.getfield 191, 3)) (by decide +kernel)
theorem e82_114 : V 82 114 L [.int x] h Q = Q (some (.int x)) h := V_ri (by decide +kernel : decode (p_c 82) 114 = .ok (.ireturn, 1)) rfl
theorem m82 : Vm 82 [.ref a, .int x1, .int x2, .int x3] h Q = V 82 0 [some (.ref a), some (.int x1), some (.int x2), some (.int x3), none, none] [] h Q := rfl
theorem e83_0 : V 83 0 [some (.ref a), l1, l2, l3] st h Q = V 83 1 [some (.ref a), l1, l2, l3] (.ref a :: st) h Q := V_nx (by decide +kernel : decode (p_c 83) 0 = .ok (.aload_n 0, 1)) rfl rfl
theorem e83_1 : V 83 1 [l0, some (.int x), l2, l3] st h Q = V 83 2 [l0, some (.int x), l2, l3] (.int x :: st) h Q := V_nx (by decide +kernel : decode (p_c 83) 1 = .ok (.iload_n 1, 1)) rfl rfl
theorem e83_2 : V 83 2 L (.int x1 :: .ref a :: st) h Q = ((p_cn1 (p_get h a) = 11 ∧ p_sm st) ∧ Vm 100 [.ref a, .int x1] h (Kt 83 5 L st Q)) := V_iv (n := 1) (as := [.int x1]) (ci := 11) (z := 100) (by decide +kernel : decode (p_c 83) 2 = .ok (.invokevirtual 125, 3)) (by decide +kernel) rfl rfl (by decide +kernel) rfl
theorem e83_5 : V 83 5 [l0, l1, l2, l3] (.ref a :: st) h Q = V 83 6 [l0, p_dl l1, some (.ref a), l3] st h Q := V_nx (by decide +kernel : decode (p_c 83) 5 = .ok (.astore_n 2, 1)) rfl rfl
theorem e83_5n : V 83 5 [l0, l1, l2, l3] (.null :: st) h Q = V 83 6 [l0, p_dl l1, some (.null), l3] st h Q := V_nx (by decide +kernel : decode (p_c 83) 5 = .ok (.astore_n 2, 1)) rfl rfl
theorem e83_6 : V 83 6 [l0, l1, some (.ref a), l3] st h Q = V 83 7 [l0, l1, some (.ref a), l3] (.ref a :: st) h Q := V_nx (by decide +kernel : decode (p_c 83) 6 = .ok (.aload_n 2, 1)) rfl rfl
theorem e83_6n : V 83 6 [l0, l1, some .null, l3] st h Q = V 83 7 [l0, l1, some .null, l3] (.null :: st) h Q := V_nx (by decide +kernel : decode (p_c 83) 6 = .ok (.aload_n 2, 1)) rfl rfl
theorem e83_7 : V 83 7 L (.null :: st) h Q = V 83 10 L st h Q := V_nonN (by decide +kernel : decode (p_c 83) 7 = .ok (.ifnonnull 6, 3))
theorem e83_7r : V 83 7 L (.ref a :: st) h Q = V 83 13 L st h Q := V_nonR (by decide +kernel : decode (p_c 83) 7 = .ok (.ifnonnull 6, 3)) (by decide)
theorem e83_10 : V 83 10 L st h Q = V 83 12 L (.int (-101) :: st) h Q := V_b (by decide +kernel : decode (p_c 83) 10 = .ok (.bipush (-101), 2)) (by decide)
theorem e83_12 : V 83 12 L [.int x] h Q = Q (some (.int x)) h := V_ri (by decide +kernel : decode (p_c 83) 12 = .ok (.ireturn, 1)) rfl
theorem e83_13 : V 83 13 [l0, l1, some (.ref a), l3] st h Q = V 83 14 [l0, l1, some (.ref a), l3] (.ref a :: st) h Q := V_nx (by decide +kernel : decode (p_c 83) 13 = .ok (.aload_n 2, 1)) rfl rfl
theorem e83_13n : V 83 13 [l0, l1, some .null, l3] st h Q = V 83 14 [l0, l1, some .null, l3] (.null :: st) h Q := V_nx (by decide +kernel : decode (p_c 83) 13 = .ok (.aload_n 2, 1)) rfl rfl
theorem e83_14 : V 83 14 L (.ref a :: st) h Q = (p_ok1 [0, 1, 2, 7, 10] 2 (p_get h a) ∧ V 83 17 L (p_fv 2 (p_get h a) :: st) h Q) := V_gf (t := (0, 0, "WaterShoulders$Boat")) (by decide +kernel : decode (p_c 83) 14 = .ok (.getfield 144, 3)) (by decide +kernel)
theorem e83_17 : V 83 17 L st h Q = V 83 18 L (.int 1 :: st) h Q := V_c (by decide +kernel : decode (p_c 83) 17 = .ok (.iconst 1, 1)) (by decide)
theorem e83_18 : V 83 18 L (.int z :: .int x :: st) h Q = V 83 19 L (.int (x + z) :: st) h Q := V_nx (by decide +kernel : decode (p_c 83) 18 = .ok (.iadd, 1)) rfl rfl
theorem e83_19 : V 83 19 [l0, l1, l2, l3] (.int x :: st) h Q = V 83 20 [l0, l1, p_dl l2, some (.int x)] st h Q := V_nx (by decide +kernel : decode (p_c 83) 19 = .ok (.istore_n 3, 1)) rfl rfl
theorem e83_20 : V 83 20 [some (.ref a), l1, l2, l3] st h Q = V 83 21 [some (.ref a), l1, l2, l3] (.ref a :: st) h Q := V_nx (by decide +kernel : decode (p_c 83) 20 = .ok (.aload_n 0, 1)) rfl rfl
theorem e83_21 : V 83 21 L (.ref a :: st) h Q = (p_ok1 [11] 1 (p_get h a) ∧ V 83 24 L (p_fv 1 (p_get h a) :: st) h Q) := V_gf (t := (3, 1, "WaterShoulders")) (by decide +kernel : decode (p_c 83) 21 = .ok (.getfield 19, 3)) (by decide +kernel)
theorem e83_24 : V 83 24 [l0, l1, l2, some (.int x)] st h Q = V 83 25 [l0, l1, l2, some (.int x)] (.int x :: st) h Q := V_nx (by decide +kernel : decode (p_c 83) 24 = .ok (.iload_n 3, 1)) rfl rfl
theorem e83_25 : V 83 25 L (.int x1 :: .ref a :: st) h Q = ((p_cn1 (p_get h a) = 9 ∧ p_sm st) ∧ Vm 53 [.ref a, .int x1] h (Kt 83 28 L st Q)) := V_iv (n := 1) (as := [.int x1]) (ci := 9) (z := 53) (by decide +kernel : decode (p_c 83) 25 = .ok (.invokevirtual 107, 3)) (by decide +kernel) rfl rfl (by decide +kernel) rfl
theorem e83_28 : V 83 28 L (.int x :: st) h Q = if x = 0 then V 83 47 L st h Q else V 83 31 L st h Q := (V_ifc (by decide +kernel : decode (p_c 83) 28 = .ok (.ifCond .eq 19, 3)) (by decide)).trans i_eq
theorem e83_31 : V 83 31 [some (.ref a), l1, l2, l3] st h Q = V 83 32 [some (.ref a), l1, l2, l3] (.ref a :: st) h Q := V_nx (by decide +kernel : decode (p_c 83) 31 = .ok (.aload_n 0, 1)) rfl rfl
theorem e83_32 : V 83 32 L (.ref a :: st) h Q = (p_ok1 [11] 1 (p_get h a) ∧ V 83 35 L (p_fv 1 (p_get h a) :: st) h Q) := V_gf (t := (3, 1, "WaterShoulders")) (by decide +kernel : decode (p_c 83) 32 = .ok (.getfield 19, 3)) (by decide +kernel)
theorem e83_35 : V 83 35 L (.ref a :: st) h Q = (p_ok1 [9] 0 (p_get h a) ∧ V 83 38 L (p_fv 0 (p_get h a) :: st) h Q) := V_gf (t := (3, 2, "WaterShoulders$Stair")) (by decide +kernel : decode (p_c 83) 35 = .ok (.getfield 111, 3)) (by decide +kernel)
theorem e83_38 : V 83 38 [l0, l1, l2, some (.int x)] st h Q = V 83 39 [l0, l1, l2, some (.int x)] (.int x :: st) h Q := V_nx (by decide +kernel : decode (p_c 83) 38 = .ok (.iload_n 3, 1)) rfl rfl
theorem e83_39 : V 83 39 L (.int i :: .ref a :: st) h Q = (p_iok i (p_get h a) ∧ V 83 40 L (.int (p_ivl i (p_get h a)) :: st) h Q) := V_ial (by decide +kernel : decode (p_c 83) 39 = .ok (.iaload, 1))
theorem e83_40 : V 83 40 [l0, l1, some (.ref a), l3] st h Q = V 83 41 [l0, l1, some (.ref a), l3] (.ref a :: st) h Q := V_nx (by decide +kernel : decode (p_c 83) 40 = .ok (.aload_n 2, 1)) rfl rfl
theorem e83_40n : V 83 40 [l0, l1, some .null, l3] st h Q = V 83 41 [l0, l1, some .null, l3] (.null :: st) h Q := V_nx (by decide +kernel : decode (p_c 83) 40 = .ok (.aload_n 2, 1)) rfl rfl
theorem e83_41 : V 83 41 L (.ref a :: st) h Q = ((p_bt (p_cn1 (p_get h a)) = true ∧ p_sm st) ∧ Vm (p_tz [(0, 2), (1, 5), (2, 5), (7, 38), (10, 5)] (p_cn1 (p_get h a))) [.ref a] h (Kt 83 44 L st Q)) := V_ib (by decide +kernel : decode (p_c 83) 41 = .ok (.invokevirtual 138, 3)) (by decide +kernel) rfl (by decide +kernel)
theorem e83_44 : V 83 44 L (.int z :: .int x :: st) h Q = if x < z then V 83 47 L st h Q else V 83 49 L st h Q := (V_icmp (by decide +kernel : decode (p_c 83) 44 = .ok (.if_icmp .ge 5, 3)) (by decide)).trans i_ge
theorem e83_47 : V 83 47 L st h Q = V 83 48 L (.int (-1) :: st) h Q := V_c (by decide +kernel : decode (p_c 83) 47 = .ok (.iconst (-1), 1)) (by decide)
theorem e83_48 : V 83 48 L [.int x] h Q = Q (some (.int x)) h := V_ri (by decide +kernel : decode (p_c 83) 48 = .ok (.ireturn, 1)) rfl
theorem e83_49 : V 83 49 L st h Q = V 83 50 L (.int 0 :: st) h Q := V_c (by decide +kernel : decode (p_c 83) 49 = .ok (.iconst 0, 1)) (by decide)
theorem e83_50 : V 83 50 [l0, l1, some (.ref a), l3] st h Q = V 83 51 [l0, l1, some (.ref a), l3] (.ref a :: st) h Q := V_nx (by decide +kernel : decode (p_c 83) 50 = .ok (.aload_n 2, 1)) rfl rfl
theorem e83_50n : V 83 50 [l0, l1, some .null, l3] st h Q = V 83 51 [l0, l1, some .null, l3] (.null :: st) h Q := V_nx (by decide +kernel : decode (p_c 83) 50 = .ok (.aload_n 2, 1)) rfl rfl
theorem e83_51 : V 83 51 L (.ref a :: st) h Q = ((p_bt (p_cn1 (p_get h a)) = true ∧ p_sm st) ∧ Vm (p_tz [(0, 2), (1, 5), (2, 5), (7, 38), (10, 5)] (p_cn1 (p_get h a))) [.ref a] h (Kt 83 54 L st Q)) := V_ib (by decide +kernel : decode (p_c 83) 51 = .ok (.invokevirtual 138, 3)) (by decide +kernel) rfl (by decide +kernel)
theorem e83_54 : V 83 54 [some (.ref a), l1, l2, l3] st h Q = V 83 55 [some (.ref a), l1, l2, l3] (.ref a :: st) h Q := V_nx (by decide +kernel : decode (p_c 83) 54 = .ok (.aload_n 0, 1)) rfl rfl
theorem e83_55 : V 83 55 L (.ref a :: st) h Q = (p_ok1 [11] 2 (p_get h a) ∧ V 83 58 L (p_fv 2 (p_get h a) :: st) h Q) := V_gf (t := (3, 1, "WaterShoulders")) (by decide +kernel : decode (p_c 83) 55 = .ok (.getfield 23, 3)) (by decide +kernel)
theorem e83_58 : V 83 58 [l0, l1, l2, some (.int x)] st h Q = V 83 59 [l0, l1, l2, some (.int x)] (.int x :: st) h Q := V_nx (by decide +kernel : decode (p_c 83) 58 = .ok (.iload_n 3, 1)) rfl rfl
theorem e83_59 : V 83 59 L (.int i :: .ref a :: st) h Q = (p_iok i (p_get h a) ∧ V 83 60 L (.int (p_ivl i (p_get h a)) :: st) h Q) := V_ial (by decide +kernel : decode (p_c 83) 59 = .ok (.iaload, 1))
theorem e83_60 : V 83 60 L (.int z :: .int x :: st) h Q = V 83 61 L (.int (x - z) :: st) h Q := V_nx (by decide +kernel : decode (p_c 83) 60 = .ok (.isub, 1)) rfl rfl
theorem e83_61 : V 83 61 L (.int z :: .int x :: st) h Q = (p_sm st ∧ V 83 64 L (.int (if x < z then z else x) :: st) h Q) := V_mm (by decide +kernel : decode (p_c 83) 61 = .ok (.invokestatic 194, 3)) (by decide +kernel) (by decide +kernel) (by decide +kernel) (Or.inl ⟨rfl, rfl⟩)
theorem e83_64 : V 83 64 L [.int x] h Q = Q (some (.int x)) h := V_ri (by decide +kernel : decode (p_c 83) 64 = .ok (.ireturn, 1)) rfl
theorem m83 : Vm 83 [.ref a, .int x1] h Q = V 83 0 [some (.ref a), some (.int x1), none, none] [] h Q := rfl
theorem e84_0 : V 84 0 [some (.ref a), l1, l2, l3] st h Q = V 84 1 [some (.ref a), l1, l2, l3] (.ref a :: st) h Q := V_nx (by decide +kernel : decode (p_c 84) 0 = .ok (.aload_n 0, 1)) rfl rfl
theorem e84_1 : V 84 1 L (.ref a :: st) h Q = (p_ok1 [11] 1 (p_get h a) ∧ V 84 4 L (p_fv 1 (p_get h a) :: st) h Q) := V_gf (t := (3, 1, "WaterShoulders")) (by decide +kernel : decode (p_c 84) 1 = .ok (.getfield 19, 3)) (by decide +kernel)
theorem e84_4 : V 84 4 [l0, some (.int x), l2, l3] st h Q = V 84 5 [l0, some (.int x), l2, l3] (.int x :: st) h Q := V_nx (by decide +kernel : decode (p_c 84) 4 = .ok (.iload_n 1, 1)) rfl rfl
theorem e84_5 : V 84 5 L (.int x1 :: .ref a :: st) h Q = ((p_cn1 (p_get h a) = 9 ∧ p_sm st) ∧ Vm 53 [.ref a, .int x1] h (Kt 84 8 L st Q)) := V_iv (n := 1) (as := [.int x1]) (ci := 9) (z := 53) (by decide +kernel : decode (p_c 84) 5 = .ok (.invokevirtual 107, 3)) (by decide +kernel) rfl rfl (by decide +kernel) rfl
theorem e84_8 : V 84 8 L (.int x :: st) h Q = if x = 0 then V 84 11 L st h Q else V 84 14 L st h Q := (V_ifc (by decide +kernel : decode (p_c 84) 8 = .ok (.ifCond .ne 6, 3)) (by decide)).trans i_ne
theorem e84_11 : V 84 11 L st h Q = V 84 13 L (.int (-101) :: st) h Q := V_b (by decide +kernel : decode (p_c 84) 11 = .ok (.bipush (-101), 2)) (by decide)
theorem e84_13 : V 84 13 L [.int x] h Q = Q (some (.int x)) h := V_ri (by decide +kernel : decode (p_c 84) 13 = .ok (.ireturn, 1)) rfl
theorem e84_14 : V 84 14 [some (.ref a), l1, l2, l3] st h Q = V 84 15 [some (.ref a), l1, l2, l3] (.ref a :: st) h Q := V_nx (by decide +kernel : decode (p_c 84) 14 = .ok (.aload_n 0, 1)) rfl rfl
theorem e84_15 : V 84 15 L (.ref a :: st) h Q = (p_ok1 [11] 2 (p_get h a) ∧ V 84 18 L (p_fv 2 (p_get h a) :: st) h Q) := V_gf (t := (3, 1, "WaterShoulders")) (by decide +kernel : decode (p_c 84) 15 = .ok (.getfield 23, 3)) (by decide +kernel)
theorem e84_18 : V 84 18 [l0, some (.int x), l2, l3] st h Q = V 84 19 [l0, some (.int x), l2, l3] (.int x :: st) h Q := V_nx (by decide +kernel : decode (p_c 84) 18 = .ok (.iload_n 1, 1)) rfl rfl
theorem e84_19 : V 84 19 L (.int i :: .ref a :: st) h Q = (p_iok i (p_get h a) ∧ V 84 20 L (.int (p_ivl i (p_get h a)) :: st) h Q) := V_ial (by decide +kernel : decode (p_c 84) 19 = .ok (.iaload, 1))
theorem e84_20 : V 84 20 [l0, l1, l2, l3] (.int x :: st) h Q = V 84 21 [l0, p_dl l1, some (.int x), l3] st h Q := V_nx (by decide +kernel : decode (p_c 84) 20 = .ok (.istore_n 2, 1)) rfl rfl
theorem e84_21 : V 84 21 [l0, some (.int x), l2, l3] st h Q = V 84 22 [l0, some (.int x), l2, l3] (.int x :: st) h Q := V_nx (by decide +kernel : decode (p_c 84) 21 = .ok (.iload_n 1, 1)) rfl rfl
theorem e84_22 : V 84 22 L (.int x :: st) h Q = if x = 0 then V 84 25 L st h Q else V 84 29 L st h Q := (V_ifc (by decide +kernel : decode (p_c 84) 22 = .ok (.ifCond .ne 7, 3)) (by decide)).trans i_ne
theorem e84_25 : V 84 25 L st h Q = V 84 26 L (.int 0 :: st) h Q := V_c (by decide +kernel : decode (p_c 84) 25 = .ok (.iconst 0, 1)) (by decide)
theorem e84_26 : V 84 26 L st h Q = V 84 38 L st h Q := V_goto (by decide +kernel : decode (p_c 84) 26 = .ok (.goto 12, 3)) (by decide)
theorem e84_29 : V 84 29 [some (.ref a), l1, l2, l3] st h Q = V 84 30 [some (.ref a), l1, l2, l3] (.ref a :: st) h Q := V_nx (by decide +kernel : decode (p_c 84) 29 = .ok (.aload_n 0, 1)) rfl rfl
theorem e84_30 : V 84 30 L (.ref a :: st) h Q = (p_ok1 [11] 1 (p_get h a) ∧ V 84 33 L (p_fv 1 (p_get h a) :: st) h Q) := V_gf (t := (3, 1, "WaterShoulders")) (by decide +kernel : decode (p_c 84) 30 = .ok (.getfield 19, 3)) (by decide +kernel)
theorem e84_33 : V 84 33 L (.ref a :: st) h Q = (p_ok1 [9] 1 (p_get h a) ∧ V 84 36 L (p_fv 1 (p_get h a) :: st) h Q) := V_gf (t := (3, 2, "WaterShoulders$Stair")) (by decide +kernel : decode (p_c 84) 33 = .ok (.getfield 114, 3)) (by decide +kernel)
theorem e84_36 : V 84 36 [l0, some (.int x), l2, l3] st h Q = V 84 37 [l0, some (.int x), l2, l3] (.int x :: st) h Q := V_nx (by decide +kernel : decode (p_c 84) 36 = .ok (.iload_n 1, 1)) rfl rfl
theorem e84_37 : V 84 37 L (.int i :: .ref a :: st) h Q = (p_iok i (p_get h a) ∧ V 84 38 L (.int (p_ivl i (p_get h a)) :: st) h Q) := V_ial (by decide +kernel : decode (p_c 84) 37 = .ok (.iaload, 1))
theorem e84_38 : V 84 38 [l0, l1, l2, l3] (.int x :: st) h Q = V 84 39 [l0, l1, p_dl l2, some (.int x)] st h Q := V_nx (by decide +kernel : decode (p_c 84) 38 = .ok (.istore_n 3, 1)) rfl rfl
theorem e84_39 : V 84 39 [l0, l1, some (.int x), l3] st h Q = V 84 40 [l0, l1, some (.int x), l3] (.int x :: st) h Q := V_nx (by decide +kernel : decode (p_c 84) 39 = .ok (.iload_n 2, 1)) rfl rfl
theorem e84_40 : V 84 40 L (.int x :: st) h Q = if x = 0 then V 84 43 L st h Q else V 84 45 L st h Q := (V_ifc (by decide +kernel : decode (p_c 84) 40 = .ok (.ifCond .ne 5, 3)) (by decide)).trans i_ne
theorem e84_43 : V 84 43 L st h Q = V 84 44 L (.int 0 :: st) h Q := V_c (by decide +kernel : decode (p_c 84) 43 = .ok (.iconst 0, 1)) (by decide)
theorem e84_44 : V 84 44 L [.int x] h Q = Q (some (.int x)) h := V_ri (by decide +kernel : decode (p_c 84) 44 = .ok (.ireturn, 1)) rfl
theorem e84_45 : V 84 45 [l0, l1, l2, some (.int x)] st h Q = V 84 46 [l0, l1, l2, some (.int x)] (.int x :: st) h Q := V_nx (by decide +kernel : decode (p_c 84) 45 = .ok (.iload_n 3, 1)) rfl rfl
theorem e84_46 : V 84 46 L (.int x :: st) h Q = if 0 < x then V 84 49 L st h Q else V 84 59 L st h Q := (V_ifc (by decide +kernel : decode (p_c 84) 46 = .ok (.ifCond .le 13, 3)) (by decide)).trans i_le
theorem e84_49 : V 84 49 [l0, l1, some (.int x), l3] st h Q = V 84 50 [l0, l1, some (.int x), l3] (.int x :: st) h Q := V_nx (by decide +kernel : decode (p_c 84) 49 = .ok (.iload_n 2, 1)) rfl rfl
theorem e84_50 : V 84 50 [l0, l1, l2, some (.int x)] st h Q = V 84 51 [l0, l1, l2, some (.int x)] (.int x :: st) h Q := V_nx (by decide +kernel : decode (p_c 84) 50 = .ok (.iload_n 3, 1)) rfl rfl
theorem e84_51 : V 84 51 L (.int z :: .int x :: st) h Q = V 84 52 L (.int (x + z) :: st) h Q := V_nx (by decide +kernel : decode (p_c 84) 51 = .ok (.iadd, 1)) rfl rfl
theorem e84_52 : V 84 52 L st h Q = V 84 53 L (.int 1 :: st) h Q := V_c (by decide +kernel : decode (p_c 84) 52 = .ok (.iconst 1, 1)) (by decide)
theorem e84_53 : V 84 53 L (.int z :: .int x :: st) h Q = V 84 54 L (.int (x - z) :: st) h Q := V_nx (by decide +kernel : decode (p_c 84) 53 = .ok (.isub, 1)) rfl rfl
theorem e84_54 : V 84 54 [l0, l1, l2, some (.int x)] st h Q = V 84 55 [l0, l1, l2, some (.int x)] (.int x :: st) h Q := V_nx (by decide +kernel : decode (p_c 84) 54 = .ok (.iload_n 3, 1)) rfl rfl
theorem e84_55 : V 84 55 L (.int z :: .int x :: st) h Q = (¬ z = 0 ∧ V 84 56 L (.int (x / z) :: st) h Q) := V_idiv (by decide +kernel : decode (p_c 84) 55 = .ok (.idiv, 1))
theorem e84_56 : V 84 56 L st h Q = V 84 60 L st h Q := V_goto (by decide +kernel : decode (p_c 84) 56 = .ok (.goto 4, 3)) (by decide)
theorem e84_59 : V 84 59 L st h Q = V 84 60 L (.int (-1) :: st) h Q := V_c (by decide +kernel : decode (p_c 84) 59 = .ok (.iconst (-1), 1)) (by decide)
theorem e84_60 : V 84 60 L [.int x] h Q = Q (some (.int x)) h := V_ri (by decide +kernel : decode (p_c 84) 60 = .ok (.ireturn, 1)) rfl
theorem m84 : Vm 84 [.ref a, .int x1] h Q = V 84 0 [some (.ref a), some (.int x1), none, none] [] h Q := rfl
theorem e85_0 : V 85 0 [l0, some (.int x), l2, l3] st h Q = V 85 1 [l0, some (.int x), l2, l3] (.int x :: st) h Q := V_nx (by decide +kernel : decode (p_c 85) 0 = .ok (.iload_n 1, 1)) rfl rfl
theorem e85_1 : V 85 1 L st h Q = V 85 2 L (.int 1 :: st) h Q := V_c (by decide +kernel : decode (p_c 85) 1 = .ok (.iconst 1, 1)) (by decide)
theorem e85_2 : V 85 2 L (.int z :: .int x :: st) h Q = if x < z then V 85 11 L st h Q else V 85 5 L st h Q := (V_icmp (by decide +kernel : decode (p_c 85) 2 = .ok (.if_icmp .lt 9, 3)) (by decide)).trans i_lt
theorem e85_5 : V 85 5 [l0, some (.int x), l2, l3] st h Q = V 85 6 [l0, some (.int x), l2, l3] (.int x :: st) h Q := V_nx (by decide +kernel : decode (p_c 85) 5 = .ok (.iload_n 1, 1)) rfl rfl
theorem e85_6 : V 85 6 L st h Q = V 85 8 L (.int 9 :: st) h Q := V_b (by decide +kernel : decode (p_c 85) 6 = .ok (.bipush 9, 2)) (by decide)
theorem e85_8 : V 85 8 L (.int z :: .int x :: st) h Q = if z < x then V 85 11 L st h Q else V 85 14 L st h Q := (V_icmp (by decide +kernel : decode (p_c 85) 8 = .ok (.if_icmp .le 6, 3)) (by decide)).trans i_le
theorem e85_11 : V 85 11 L st h Q = V 85 13 L (.int (-102) :: st) h Q := V_b (by decide +kernel : decode (p_c 85) 11 = .ok (.bipush (-102), 2)) (by decide)
theorem e85_13 : V 85 13 L [.int x] h Q = Q (some (.int x)) h := V_ri (by decide +kernel : decode (p_c 85) 13 = .ok (.ireturn, 1)) rfl
theorem e85_14 : V 85 14 [some (.ref a), l1, l2, l3] st h Q = V 85 15 [some (.ref a), l1, l2, l3] (.ref a :: st) h Q := V_nx (by decide +kernel : decode (p_c 85) 14 = .ok (.aload_n 0, 1)) rfl rfl
theorem e85_15 : V 85 15 L (.ref a :: st) h Q = (p_ok1 [11] 1 (p_get h a) ∧ V 85 18 L (p_fv 1 (p_get h a) :: st) h Q) := V_gf (t := (3, 1, "WaterShoulders")) (by decide +kernel : decode (p_c 85) 15 = .ok (.getfield 19, 3)) (by decide +kernel)
theorem e85_18 : V 85 18 L (.ref a :: st) h Q = (p_ok1 [9] 2 (p_get h a) ∧ V 85 21 L (p_fv 2 (p_get h a) :: st) h Q) := V_gf (t := (0, 0, "WaterShoulders$Stair")) (by decide +kernel : decode (p_c 85) 18 = .ok (.getfield 104, 3)) (by decide +kernel)
theorem e85_21 : V 85 21 L (.int x :: st) h Q = if x = 0 then V 85 24 L st h Q else V 85 27 L st h Q := (V_ifc (by decide +kernel : decode (p_c 85) 21 = .ok (.ifCond .ne 6, 3)) (by decide)).trans i_ne
theorem e85_24 : V 85 24 L st h Q = V 85 26 L (.int (-103) :: st) h Q := V_b (by decide +kernel : decode (p_c 85) 24 = .ok (.bipush (-103), 2)) (by decide)
theorem e85_26 : V 85 26 L [.int x] h Q = Q (some (.int x)) h := V_ri (by decide +kernel : decode (p_c 85) 26 = .ok (.ireturn, 1)) rfl
theorem e85_27 : V 85 27 L st h Q = V 85 28 L (.int 1 :: st) h Q := V_c (by decide +kernel : decode (p_c 85) 27 = .ok (.iconst 1, 1)) (by decide)
theorem e85_28 : V 85 28 [l0, l1, l2, l3] (.int x :: st) h Q = V 85 29 [l0, p_dl l1, some (.int x), l3] st h Q := V_nx (by decide +kernel : decode (p_c 85) 28 = .ok (.istore_n 2, 1)) rfl rfl
theorem e85_29 : V 85 29 L st h Q = V 85 30 L (.int 2 :: st) h Q := V_c (by decide +kernel : decode (p_c 85) 29 = .ok (.iconst 2, 1)) (by decide)
theorem e85_30 : V 85 30 [l0, l1, l2, l3] (.int x :: st) h Q = V 85 31 [l0, l1, p_dl l2, some (.int x)] st h Q := V_nx (by decide +kernel : decode (p_c 85) 30 = .ok (.istore_n 3, 1)) rfl rfl
theorem e85_31 : V 85 31 [l0, l1, l2, some (.int x)] st h Q = V 85 32 [l0, l1, l2, some (.int x)] (.int x :: st) h Q := V_nx (by decide +kernel : decode (p_c 85) 31 = .ok (.iload_n 3, 1)) rfl rfl
theorem e85_32 : V 85 32 [some (.ref a), l1, l2, l3] st h Q = V 85 33 [some (.ref a), l1, l2, l3] (.ref a :: st) h Q := V_nx (by decide +kernel : decode (p_c 85) 32 = .ok (.aload_n 0, 1)) rfl rfl
theorem e85_33 : V 85 33 L (.ref a :: st) h Q = (p_ok1 [11] 1 (p_get h a) ∧ V 85 36 L (p_fv 1 (p_get h a) :: st) h Q) := V_gf (t := (3, 1, "WaterShoulders")) (by decide +kernel : decode (p_c 85) 33 = .ok (.getfield 19, 3)) (by decide +kernel)
theorem e85_36 : V 85 36 L (.ref a :: st) h Q = (p_ok1 [9] 2 (p_get h a) ∧ V 85 39 L (p_fv 2 (p_get h a) :: st) h Q) := V_gf (t := (0, 0, "WaterShoulders$Stair")) (by decide +kernel : decode (p_c 85) 36 = .ok (.getfield 104, 3)) (by decide +kernel)
theorem e85_39 : V 85 39 L (.int z :: .int x :: st) h Q = if x < z then V 85 42 L st h Q else V 85 65 L st h Q := (V_icmp (by decide +kernel : decode (p_c 85) 39 = .ok (.if_icmp .ge 26, 3)) (by decide)).trans i_ge
theorem e85_42 : V 85 42 [some (.ref a), l1, l2, l3] st h Q = V 85 43 [some (.ref a), l1, l2, l3] (.ref a :: st) h Q := V_nx (by decide +kernel : decode (p_c 85) 42 = .ok (.aload_n 0, 1)) rfl rfl
theorem e85_43 : V 85 43 [l0, l1, l2, some (.int x)] st h Q = V 85 44 [l0, l1, l2, some (.int x)] (.int x :: st) h Q := V_nx (by decide +kernel : decode (p_c 85) 43 = .ok (.iload_n 3, 1)) rfl rfl
theorem e85_44 : V 85 44 [l0, some (.int x), l2, l3] st h Q = V 85 45 [l0, some (.int x), l2, l3] (.int x :: st) h Q := V_nx (by decide +kernel : decode (p_c 85) 44 = .ok (.iload_n 1, 1)) rfl rfl
theorem e85_45 : V 85 45 L (.int x2 :: .int x1 :: .ref a :: st) h Q = ((p_cn1 (p_get h a) = 11 ∧ p_sm st) ∧ Vm 101 [.ref a, .int x1, .int x2] h (Kt 85 48 L st Q)) := V_iv (n := 2) (as := [.int x2, .int x1]) (ci := 11) (z := 101) (by decide +kernel : decode (p_c 85) 45 = .ok (.invokevirtual 200, 3)) (by decide +kernel) rfl rfl (by decide +kernel) rfl
theorem e85_48 : V 85 48 [some (.ref a), l1, l2, l3] st h Q = V 85 49 [some (.ref a), l1, l2, l3] (.ref a :: st) h Q := V_nx (by decide +kernel : decode (p_c 85) 48 = .ok (.aload_n 0, 1)) rfl rfl
theorem e85_49 : V 85 49 [l0, l1, some (.int x), l3] st h Q = V 85 50 [l0, l1, some (.int x), l3] (.int x :: st) h Q := V_nx (by decide +kernel : decode (p_c 85) 49 = .ok (.iload_n 2, 1)) rfl rfl
theorem e85_50 : V 85 50 [l0, some (.int x), l2, l3] st h Q = V 85 51 [l0, some (.int x), l2, l3] (.int x :: st) h Q := V_nx (by decide +kernel : decode (p_c 85) 50 = .ok (.iload_n 1, 1)) rfl rfl
theorem e85_51 : V 85 51 L (.int x2 :: .int x1 :: .ref a :: st) h Q = ((p_cn1 (p_get h a) = 11 ∧ p_sm st) ∧ Vm 101 [.ref a, .int x1, .int x2] h (Kt 85 54 L st Q)) := V_iv (n := 2) (as := [.int x2, .int x1]) (ci := 11) (z := 101) (by decide +kernel : decode (p_c 85) 51 = .ok (.invokevirtual 200, 3)) (by decide +kernel) rfl rfl (by decide +kernel) rfl
theorem e85_54 : V 85 54 L (.int z :: .int x :: st) h Q = if z < x then V 85 57 L st h Q else V 85 59 L st h Q := (V_icmp (by decide +kernel : decode (p_c 85) 54 = .ok (.if_icmp .le 5, 3)) (by decide)).trans i_le
theorem e85_57 : V 85 57 [l0, l1, l2, some (.int x)] st h Q = V 85 58 [l0, l1, l2, some (.int x)] (.int x :: st) h Q := V_nx (by decide +kernel : decode (p_c 85) 57 = .ok (.iload_n 3, 1)) rfl rfl
theorem e85_58 : V 85 58 [l0, l1, l2, l3] (.int x :: st) h Q = V 85 59 [l0, p_dl l1, some (.int x), l3] st h Q := V_nx (by decide +kernel : decode (p_c 85) 58 = .ok (.istore_n 2, 1)) rfl rfl
theorem e85_59 : V 85 59 [l0, l1, l2, some (.int x)] st h Q = V 85 62 [l0, l1, p_dl l2, some (.int (x + 1))] st h Q := V_iinc (x := x) (by decide +kernel : decode (p_c 85) 59 = .ok (.iinc 3 1, 3)) (by decide) rfl (Nat.le_of_ble_eq_true rfl)
theorem e85_62 : V 85 62 L st h Q = V 85 31 L st h Q := V_goto (by decide +kernel : decode (p_c 85) 62 = .ok (.goto (-31), 3)) (by decide)
theorem e85_65 : V 85 65 [l0, l1, some (.int x), l3] st h Q = V 85 66 [l0, l1, some (.int x), l3] (.int x :: st) h Q := V_nx (by decide +kernel : decode (p_c 85) 65 = .ok (.iload_n 2, 1)) rfl rfl
theorem e85_66 : V 85 66 L [.int x] h Q = Q (some (.int x)) h := V_ri (by decide +kernel : decode (p_c 85) 66 = .ok (.ireturn, 1)) rfl
theorem m85 : Vm 85 [.ref a, .int x1] h Q = V 85 0 [some (.ref a), some (.int x1), none, none] [] h Q := rfl
theorem e86_0 : V 86 0 [l0, some (.int x), l2, l3, l4, l5, l6, l7, l8, l9, l10, l11] st h Q = V 86 1 [l0, some (.int x), l2, l3, l4, l5, l6, l7, l8, l9, l10, l11] (.int x :: st) h Q := V_nx (by decide +kernel : decode (p_c 86) 0 = .ok (.iload_n 1, 1)) rfl rfl
theorem e86_1 : V 86 1 L (.int x :: st) h Q = if x = 0 then V 86 15 L st h Q else V 86 4 L st h Q := (V_ifc (by decide +kernel : decode (p_c 86) 1 = .ok (.ifCond .eq 14, 3)) (by decide)).trans i_eq
theorem e86_4 : V 86 4 [some (.ref a), l1, l2, l3, l4, l5, l6, l7, l8, l9, l10, l11] st h Q = V 86 5 [some (.ref a), l1, l2, l3, l4, l5, l6, l7, l8, l9, l10, l11] (.ref a :: st) h Q := V_nx (by decide +kernel : decode (p_c 86) 4 = .ok (.aload_n 0, 1)) rfl rfl
theorem e86_5 : V 86 5 L (.ref a :: st) h Q = (p_ok1 [11] 1 (p_get h a) ∧ V 86 8 L (p_fv 1 (p_get h a) :: st) h Q) := V_gf (t := (3, 1, "WaterShoulders")) (by decide +kernel : decode (p_c 86) 5 = .ok (.getfield 19, 3)) (by decide +kernel)
theorem e86_8 : V 86 8 [l0, some (.int x), l2, l3, l4, l5, l6, l7, l8, l9, l10, l11] st h Q = V 86 9 [l0, some (.int x), l2, l3, l4, l5, l6, l7, l8, l9, l10, l11] (.int x :: st) h Q := V_nx (by decide +kernel : decode (p_c 86) 8 = .ok (.iload_n 1, 1)) rfl rfl
theorem e86_9 : V 86 9 L (.int x1 :: .ref a :: st) h Q = ((p_cn1 (p_get h a) = 9 ∧ p_sm st) ∧ Vm 53 [.ref a, .int x1] h (Kt 86 12 L st Q)) := V_iv (n := 1) (as := [.int x1]) (ci := 9) (z := 53) (by decide +kernel : decode (p_c 86) 9 = .ok (.invokevirtual 107, 3)) (by decide +kernel) rfl rfl (by decide +kernel) rfl
theorem e86_12 : V 86 12 L (.int x :: st) h Q = if x = 0 then V 86 15 L st h Q else V 86 19 L st h Q := (V_ifc (by decide +kernel : decode (p_c 86) 12 = .ok (.ifCond .ne 7, 3)) (by decide)).trans i_ne
theorem e86_15 : V 86 15 L st h Q = V 86 18 L (.long (-101) :: st) h Q := V_ldc2 (by decide +kernel : decode (p_c 86) 15 = .ok (.ldc2_w 203, 3)) (by decide +kernel)
theorem e86_18 : V 86 18 L [.long u] h Q = Q (some (.long u)) h := V_rl (by decide +kernel : decode (p_c 86) 18 = .ok (.lreturn, 1)) rfl
theorem e86_19 : V 86 19 [l0, l1, some (.int x), l3, l4, l5, l6, l7, l8, l9, l10, l11] st h Q = V 86 20 [l0, l1, some (.int x), l3, l4, l5, l6, l7, l8, l9, l10, l11] (.int x :: st) h Q := V_nx (by decide +kernel : decode (p_c 86) 19 = .ok (.iload_n 2, 1)) rfl rfl
theorem e86_20 : V 86 20 L st h Q = V 86 21 L (.int 1 :: st) h Q := V_c (by decide +kernel : decode (p_c 86) 20 = .ok (.iconst 1, 1)) (by decide)
theorem e86_21 : V 86 21 L (.int z :: .int x :: st) h Q = if x < z then V 86 40 L st h Q else V 86 24 L st h Q := (V_icmp (by decide +kernel : decode (p_c 86) 21 = .ok (.if_icmp .lt 19, 3)) (by decide)).trans i_lt
theorem e86_24 : V 86 24 [l0, l1, some (.int x), l3, l4, l5, l6, l7, l8, l9, l10, l11] st h Q = V 86 25 [l0, l1, some (.int x), l3, l4, l5, l6, l7, l8, l9, l10, l11] (.int x :: st) h Q := V_nx (by decide +kernel : decode (p_c 86) 24 = .ok (.iload_n 2, 1)) rfl rfl
theorem e86_25 : V 86 25 L st h Q = V 86 27 L (.int 9 :: st) h Q := V_b (by decide +kernel : decode (p_c 86) 25 = .ok (.bipush 9, 2)) (by decide)
theorem e86_27 : V 86 27 L (.int z :: .int x :: st) h Q = if z < x then V 86 40 L st h Q else V 86 30 L st h Q := (V_icmp (by decide +kernel : decode (p_c 86) 27 = .ok (.if_icmp .gt 13, 3)) (by decide)).trans i_gt
theorem e86_30 : V 86 30 [l0, l1, l2, some (.int x), l4, l5, l6, l7, l8, l9, l10, l11] st h Q = V 86 31 [l0, l1, l2, some (.int x), l4, l5, l6, l7, l8, l9, l10, l11] (.int x :: st) h Q := V_nx (by decide +kernel : decode (p_c 86) 30 = .ok (.iload_n 3, 1)) rfl rfl
theorem e86_31 : V 86 31 L (.int x :: st) h Q = if x < 0 then V 86 40 L st h Q else V 86 34 L st h Q := (V_ifc (by decide +kernel : decode (p_c 86) 31 = .ok (.ifCond .lt 9, 3)) (by decide)).trans i_lt
theorem e86_34 : V 86 34 [l0, l1, l2, some (.int x), l4, l5, l6, l7, l8, l9, l10, l11] st h Q = V 86 35 [l0, l1, l2, some (.int x), l4, l5, l6, l7, l8, l9, l10, l11] (.int x :: st) h Q := V_nx (by decide +kernel : decode (p_c 86) 34 = .ok (.iload_n 3, 1)) rfl rfl
theorem e86_35 : V 86 35 L st h Q = V 86 37 L (.int 10 :: st) h Q := V_b (by decide +kernel : decode (p_c 86) 35 = .ok (.bipush 10, 2)) (by decide)
theorem e86_37 : V 86 37 L (.int z :: .int x :: st) h Q = if z < x then V 86 40 L st h Q else V 86 44 L st h Q := (V_icmp (by decide +kernel : decode (p_c 86) 37 = .ok (.if_icmp .le 7, 3)) (by decide)).trans i_le
theorem e86_40 : V 86 40 L st h Q = V 86 43 L (.long (-102) :: st) h Q := V_ldc2 (by decide +kernel : decode (p_c 86) 40 = .ok (.ldc2_w 205, 3)) (by decide +kernel)
theorem e86_43 : V 86 43 L [.long u] h Q = Q (some (.long u)) h := V_rl (by decide +kernel : decode (p_c 86) 43 = .ok (.lreturn, 1)) rfl
theorem e86_44 : V 86 44 [l0, l1, l2, l3, some (.int x), l5, l6, l7, l8, l9, l10, l11] st h Q = V 86 46 [l0, l1, l2, l3, some (.int x), l5, l6, l7, l8, l9, l10, l11] (.int x :: st) h Q := V_nx (by decide +kernel : decode (p_c 86) 44 = .ok (.iload 4, 2)) rfl rfl
theorem e86_46 : V 86 46 L (.int x :: st) h Q = if x < 0 then V 86 66 L st h Q else V 86 49 L st h Q := (V_ifc (by decide +kernel : decode (p_c 86) 46 = .ok (.ifCond .lt 20, 3)) (by decide)).trans i_lt
theorem e86_49 : V 86 49 [l0, l1, l2, l3, some (.int x), l5, l6, l7, l8, l9, l10, l11] st h Q = V 86 51 [l0, l1, l2, l3, some (.int x), l5, l6, l7, l8, l9, l10, l11] (.int x :: st) h Q := V_nx (by decide +kernel : decode (p_c 86) 49 = .ok (.iload 4, 2)) rfl rfl
theorem e86_51 : V 86 51 L st h Q = V 86 52 L (.int 5 :: st) h Q := V_c (by decide +kernel : decode (p_c 86) 51 = .ok (.iconst 5, 1)) (by decide)
theorem e86_52 : V 86 52 L (.int z :: .int x :: st) h Q = if z < x then V 86 66 L st h Q else V 86 55 L st h Q := (V_icmp (by decide +kernel : decode (p_c 86) 52 = .ok (.if_icmp .gt 14, 3)) (by decide)).trans i_gt
theorem e86_55 : V 86 55 [l0, l1, l2, l3, l4, some (.int x), l6, l7, l8, l9, l10, l11] st h Q = V 86 57 [l0, l1, l2, l3, l4, some (.int x), l6, l7, l8, l9, l10, l11] (.int x :: st) h Q := V_nx (by decide +kernel : decode (p_c 86) 55 = .ok (.iload 5, 2)) rfl rfl
theorem e86_57 : V 86 57 L (.int x :: st) h Q = if x < 0 then V 86 66 L st h Q else V 86 60 L st h Q := (V_ifc (by decide +kernel : decode (p_c 86) 57 = .ok (.ifCond .lt 9, 3)) (by decide)).trans i_lt
theorem e86_60 : V 86 60 [l0, l1, l2, l3, l4, some (.int x), l6, l7, l8, l9, l10, l11] st h Q = V 86 62 [l0, l1, l2, l3, l4, some (.int x), l6, l7, l8, l9, l10, l11] (.int x :: st) h Q := V_nx (by decide +kernel : decode (p_c 86) 60 = .ok (.iload 5, 2)) rfl rfl
theorem e86_62 : V 86 62 L st h Q = V 86 63 L (.int 1 :: st) h Q := V_c (by decide +kernel : decode (p_c 86) 62 = .ok (.iconst 1, 1)) (by decide)
theorem e86_63 : V 86 63 L (.int z :: .int x :: st) h Q = if z < x then V 86 66 L st h Q else V 86 70 L st h Q := (V_icmp (by decide +kernel : decode (p_c 86) 63 = .ok (.if_icmp .le 7, 3)) (by decide)).trans i_le
theorem e86_66 : V 86 66 L st h Q = V 86 69 L (.long (-102) :: st) h Q := V_ldc2 (by decide +kernel : decode (p_c 86) 66 = .ok (.ldc2_w 205, 3)) (by decide +kernel)
theorem e86_69 : V 86 69 L [.long u] h Q = Q (some (.long u)) h := V_rl (by decide +kernel : decode (p_c 86) 69 = .ok (.lreturn, 1)) rfl
theorem e86_70 : V 86 70 [some (.ref a), l1, l2, l3, l4, l5, l6, l7, l8, l9, l10, l11] st h Q = V 86 71 [some (.ref a), l1, l2, l3, l4, l5, l6, l7, l8, l9, l10, l11] (.ref a :: st) h Q := V_nx (by decide +kernel : decode (p_c 86) 70 = .ok (.aload_n 0, 1)) rfl rfl
theorem e86_71 : V 86 71 L (.ref a :: st) h Q = (p_ok1 [11] 7 (p_get h a) ∧ V 86 74 L (p_fv 7 (p_get h a) :: st) h Q) := V_gf (t := (3, 1, "WaterShoulders")) (by decide +kernel : decode (p_c 86) 71 = .ok (.getfield 53, 3)) (by decide +kernel)
theorem e86_74 : V 86 74 [some (.ref a), l1, l2, l3, l4, l5, l6, l7, l8, l9, l10, l11] st h Q = V 86 75 [some (.ref a), l1, l2, l3, l4, l5, l6, l7, l8, l9, l10, l11] (.ref a :: st) h Q := V_nx (by decide +kernel : decode (p_c 86) 74 = .ok (.aload_n 0, 1)) rfl rfl
theorem e86_75 : V 86 75 L (.ref a :: st) h Q = (p_ok1 [11] 2 (p_get h a) ∧ V 86 78 L (p_fv 2 (p_get h a) :: st) h Q) := V_gf (t := (3, 1, "WaterShoulders")) (by decide +kernel : decode (p_c 86) 75 = .ok (.getfield 23, 3)) (by decide +kernel)
theorem e86_78 : V 86 78 [l0, some (.int x), l2, l3, l4, l5, l6, l7, l8, l9, l10, l11] st h Q = V 86 79 [l0, some (.int x), l2, l3, l4, l5, l6, l7, l8, l9, l10, l11] (.int x :: st) h Q := V_nx (by decide +kernel : decode (p_c 86) 78 = .ok (.iload_n 1, 1)) rfl rfl
theorem e86_79 : V 86 79 L (.int i :: .ref a :: st) h Q = (p_iok i (p_get h a) ∧ V 86 80 L (.int (p_ivl i (p_get h a)) :: st) h Q) := V_ial (by decide +kernel : decode (p_c 86) 79 = .ok (.iaload, 1))
theorem e86_80 : V 86 80 L (.int x1 :: .ref a :: st) h Q = ((p_cn1 (p_get h a) = 5 ∧ p_sm st) ∧ Vm 25 [.ref a, .int x1] h (Kt 86 83 L st Q)) := V_iv (n := 1) (as := [.int x1]) (ci := 5) (z := 25) (by decide +kernel : decode (p_c 86) 80 = .ok (.invokevirtual 207, 3)) (by decide +kernel) rfl rfl (by decide +kernel) rfl
theorem e86_83 : V 86 83 L st h Q = V 86 84 L (.int 0 :: st) h Q := V_c (by decide +kernel : decode (p_c 86) 83 = .ok (.iconst 0, 1)) (by decide)
theorem e86_84 : V 86 84 [l0, l1, l2, l3, l4, l5, l6, l7, l8, l9, l10, l11] (.int x :: st) h Q = V 86 86 [l0, l1, l2, l3, l4, p_dl l5, some (.int x), l7, l8, l9, l10, l11] st h Q := V_nx (by decide +kernel : decode (p_c 86) 84 = .ok (.istore 6, 2)) rfl rfl
theorem e86_86 : V 86 86 [l0, l1, l2, l3, l4, l5, some (.int x), l7, l8, l9, l10, l11] st h Q = V 86 88 [l0, l1, l2, l3, l4, l5, some (.int x), l7, l8, l9, l10, l11] (.int x :: st) h Q := V_nx (by decide +kernel : decode (p_c 86) 86 = .ok (.iload 6, 2)) rfl rfl
theorem e86_88 : V 86 88 [l0, l1, some (.int x), l3, l4, l5, l6, l7, l8, l9, l10, l11] st h Q = V 86 89 [l0, l1, some (.int x), l3, l4, l5, l6, l7, l8, l9, l10, l11] (.int x :: st) h Q := V_nx (by decide +kernel : decode (p_c 86) 88 = .ok (.iload_n 2, 1)) rfl rfl
theorem e86_89 : V 86 89 L (.int z :: .int x :: st) h Q = if x < z then V 86 92 L st h Q else V 86 111 L st h Q := (V_icmp (by decide +kernel : decode (p_c 86) 89 = .ok (.if_icmp .ge 22, 3)) (by decide)).trans i_ge
theorem e86_92 : V 86 92 [some (.ref a), l1, l2, l3, l4, l5, l6, l7, l8, l9, l10, l11] st h Q = V 86 93 [some (.ref a), l1, l2, l3, l4, l5, l6, l7, l8, l9, l10, l11] (.ref a :: st) h Q := V_nx (by decide +kernel : decode (p_c 86) 92 = .ok (.aload_n 0, 1)) rfl rfl
theorem e86_93 : V 86 93 L (.ref a :: st) h Q = (p_ok1 [11] 7 (p_get h a) ∧ V 86 96 L (p_fv 7 (p_get h a) :: st) h Q) := V_gf (t := (3, 1, "WaterShoulders")) (by decide +kernel : decode (p_c 86) 93 = .ok (.getfield 53, 3)) (by decide +kernel)
theorem e86_96 : V 86 96 [some (.ref a), l1, l2, l3, l4, l5, l6, l7, l8, l9, l10, l11] st h Q = V 86 97 [some (.ref a), l1, l2, l3, l4, l5, l6, l7, l8, l9, l10, l11] (.ref a :: st) h Q := V_nx (by decide +kernel : decode (p_c 86) 96 = .ok (.aload_n 0, 1)) rfl rfl
theorem e86_97 : V 86 97 L (.ref a :: st) h Q = (p_ok1 [11] 1 (p_get h a) ∧ V 86 100 L (p_fv 1 (p_get h a) :: st) h Q) := V_gf (t := (3, 1, "WaterShoulders")) (by decide +kernel : decode (p_c 86) 97 = .ok (.getfield 19, 3)) (by decide +kernel)
theorem e86_100 : V 86 100 [l0, some (.int x), l2, l3, l4, l5, l6, l7, l8, l9, l10, l11] st h Q = V 86 101 [l0, some (.int x), l2, l3, l4, l5, l6, l7, l8, l9, l10, l11] (.int x :: st) h Q := V_nx (by decide +kernel : decode (p_c 86) 100 = .ok (.iload_n 1, 1)) rfl rfl
theorem e86_101 : V 86 101 [l0, l1, l2, some (.int x), l4, l5, l6, l7, l8, l9, l10, l11] st h Q = V 86 102 [l0, l1, l2, some (.int x), l4, l5, l6, l7, l8, l9, l10, l11] (.int x :: st) h Q := V_nx (by decide +kernel : decode (p_c 86) 101 = .ok (.iload_n 3, 1)) rfl rfl
theorem e86_102 : V 86 102 L (.int x2 :: .int x1 :: .ref b1 :: .ref a :: st) h Q = ((p_cn1 (p_get h a) = 5 ∧ p_sm st) ∧ Vm 26 [.ref a, .ref b1, .int x1, .int x2] h (Kt 86 105 L st Q)) := V_iv (n := 3) (as := [.int x2, .int x1, .ref b1]) (ci := 5) (z := 26) (by decide +kernel : decode (p_c 86) 102 = .ok (.invokevirtual 211, 3)) (by decide +kernel) rfl rfl (by decide +kernel) rfl
theorem e86_105 : V 86 105 [l0, l1, l2, l3, l4, l5, some (.int x), l7, l8, l9, l10, l11] st h Q = V 86 108 [l0, l1, l2, l3, l4, p_dl l5, some (.int (x + 1)), l7, l8, l9, l10, l11] st h Q := V_iinc (x := x) (by decide +kernel : decode (p_c 86) 105 = .ok (.iinc 6 1, 3)) (by decide) rfl (Nat.le_of_ble_eq_true rfl)
theorem e86_108 : V 86 108 L st h Q = V 86 86 L st h Q := V_goto (by decide +kernel : decode (p_c 86) 108 = .ok (.goto (-22), 3)) (by decide)
theorem e86_111 : V 86 111 [some (.ref a), l1, l2, l3, l4, l5, l6, l7, l8, l9, l10, l11] st h Q = V 86 112 [some (.ref a), l1, l2, l3, l4, l5, l6, l7, l8, l9, l10, l11] (.ref a :: st) h Q := V_nx (by decide +kernel : decode (p_c 86) 111 = .ok (.aload_n 0, 1)) rfl rfl
theorem e86_112 : V 86 112 L (.ref a :: st) h Q = (p_ok1 [11] 7 (p_get h a) ∧ V 86 115 L (p_fv 7 (p_get h a) :: st) h Q) := V_gf (t := (3, 1, "WaterShoulders")) (by decide +kernel : decode (p_c 86) 112 = .ok (.getfield 53, 3)) (by decide +kernel)
theorem e86_115 : V 86 115 [l0, l1, l2, l3, some (.int x), l5, l6, l7, l8, l9, l10, l11] st h Q = V 86 117 [l0, l1, l2, l3, some (.int x), l5, l6, l7, l8, l9, l10, l11] (.int x :: st) h Q := V_nx (by decide +kernel : decode (p_c 86) 115 = .ok (.iload 4, 2)) rfl rfl
theorem e86_117 : V 86 117 L (.int x1 :: .ref a :: st) h Q = ((p_cn1 (p_get h a) = 5 ∧ p_sm st) ∧ Vm 27 [.ref a, .int x1] h (Kt 86 120 L st Q)) := V_iv (n := 1) (as := [.int x1]) (ci := 5) (z := 27) (by decide +kernel : decode (p_c 86) 117 = .ok (.invokevirtual 214, 3)) (by decide +kernel) rfl rfl (by decide +kernel) rfl
theorem e86_120 : V 86 120 [l0, l1, l2, l3, l4, l5, l6, l7, l8, l9, l10, l11] (.long u :: st) h Q = V 86 122 [l0, l1, l2, l3, l4, p_dl l5, some (.long u), none, l8, l9, l10, l11] st h Q := V_nx (by decide +kernel : decode (p_c 86) 120 = .ok (.lstore 6, 2)) rfl rfl
theorem e86_122 : V 86 122 [some (.ref a), l1, l2, l3, l4, l5, l6, l7, l8, l9, l10, l11] st h Q = V 86 123 [some (.ref a), l1, l2, l3, l4, l5, l6, l7, l8, l9, l10, l11] (.ref a :: st) h Q := V_nx (by decide +kernel : decode (p_c 86) 122 = .ok (.aload_n 0, 1)) rfl rfl
theorem e86_123 : V 86 123 L (.ref a :: st) h Q = (p_ok1 [11] 7 (p_get h a) ∧ V 86 126 L (p_fv 7 (p_get h a) :: st) h Q) := V_gf (t := (3, 1, "WaterShoulders")) (by decide +kernel : decode (p_c 86) 123 = .ok (.getfield 53, 3)) (by decide +kernel)
theorem e86_126 : V 86 126 L st h Q = V 86 127 L (.int 0 :: st) h Q := V_c (by decide +kernel : decode (p_c 86) 126 = .ok (.iconst 0, 1)) (by decide)
theorem e86_127 : V 86 127 L (.int x1 :: .ref a :: st) h Q = ((p_cn1 (p_get h a) = 5 ∧ p_sm st) ∧ Vm 27 [.ref a, .int x1] h (Kt 86 130 L st Q)) := V_iv (n := 1) (as := [.int x1]) (ci := 5) (z := 27) (by decide +kernel : decode (p_c 86) 127 = .ok (.invokevirtual 214, 3)) (by decide +kernel) rfl rfl (by decide +kernel) rfl
theorem e86_130 : V 86 130 [l0, l1, l2, l3, l4, l5, l6, l7, l8, l9, l10, l11] (.long u :: st) h Q = V 86 132 [l0, l1, l2, l3, l4, l5, l6, p_dl l7, some (.long u), none, l10, l11] st h Q := V_nx (by decide +kernel : decode (p_c 86) 130 = .ok (.lstore 8, 2)) rfl rfl
theorem e86_132 : V 86 132 L st h Q = V 86 133 L (.long 1 :: st) h Q := V_lc (by decide +kernel : decode (p_c 86) 132 = .ok (.lconst 1, 1)) (by decide)
theorem e86_133 : V 86 133 [l0, l1, l2, l3, l4, l5, some (.long u), l7, l8, l9, l10, l11] st h Q = V 86 135 [l0, l1, l2, l3, l4, l5, some (.long u), l7, l8, l9, l10, l11] (.long u :: st) h Q := V_nx (by decide +kernel : decode (p_c 86) 133 = .ok (.lload 6, 2)) rfl rfl
theorem e86_135 : V 86 135 [l0, l1, l2, l3, l4, l5, l6, l7, some (.long u), l9, l10, l11] st h Q = V 86 137 [l0, l1, l2, l3, l4, l5, l6, l7, some (.long u), l9, l10, l11] (.long u :: st) h Q := V_nx (by decide +kernel : decode (p_c 86) 135 = .ok (.lload 8, 2)) rfl rfl
theorem e86_137 : V 86 137 L (.long u2 :: .long u1 :: st) h Q = (p_sm st ∧ Vm 28 [.long u1, .long u2] h (Kt 86 140 L st Q)) := V_st (n := 2) (as := [.long u2, .long u1]) (z := 28) (by decide +kernel : decode (p_c 86) 137 = .ok (.invokestatic 218, 3)) (by decide +kernel) rfl (by decide +kernel) rfl
theorem e86_140 : V 86 140 L (.long w :: .long u :: st) h Q = (p_sm st ∧ V 86 143 L (.long (if w < u then u else w) :: st) h Q) := V_ml (by decide +kernel : decode (p_c 86) 140 = .ok (.invokestatic 222, 3)) (by decide +kernel) (by decide +kernel) (by decide +kernel)
theorem e86_143 : V 86 143 [l0, l1, l2, l3, l4, l5, l6, l7, l8, l9, l10, l11] (.long u :: st) h Q = V 86 145 [l0, l1, l2, l3, l4, l5, l6, l7, l8, p_dl l9, some (.long u), none] st h Q := V_nx (by decide +kernel : decode (p_c 86) 143 = .ok (.lstore 10, 2)) rfl rfl
theorem e86_145 : V 86 145 [l0, l1, l2, l3, l4, some (.int x), l6, l7, l8, l9, l10, l11] st h Q = V 86 147 [l0, l1, l2, l3, l4, some (.int x), l6, l7, l8, l9, l10, l11] (.int x :: st) h Q := V_nx (by decide +kernel : decode (p_c 86) 145 = .ok (.iload 5, 2)) rfl rfl
theorem e86_147 : V 86 147 L (.int x :: st) h Q = if x = 0 then V 86 150 L st h Q else V 86 155 L st h Q := (V_ifc (by decide +kernel : decode (p_c 86) 147 = .ok (.ifCond .ne 8, 3)) (by decide)).trans i_ne
theorem e86_150 : V 86 150 [l0, l1, l2, l3, l4, l5, some (.long u), l7, l8, l9, l10, l11] st h Q = V 86 152 [l0, l1, l2, l3, l4, l5, some (.long u), l7, l8, l9, l10, l11] (.long u :: st) h Q := V_nx (by decide +kernel : decode (p_c 86) 150 = .ok (.lload 6, 2)) rfl rfl
theorem e86_152 : V 86 152 L st h Q = V 86 157 L st h Q := V_goto (by decide +kernel : decode (p_c 86) 152 = .ok (.goto 5, 3)) (by decide)
theorem e86_155 : V 86 155 [l0, l1, l2, l3, l4, l5, l6, l7, some (.long u), l9, l10, l11] st h Q = V 86 157 [l0, l1, l2, l3, l4, l5, l6, l7, some (.long u), l9, l10, l11] (.long u :: st) h Q := V_nx (by decide +kernel : decode (p_c 86) 155 = .ok (.lload 8, 2)) rfl rfl
theorem e86_157 : V 86 157 [l0, l1, l2, l3, l4, l5, l6, l7, l8, l9, some (.long u), l11] st h Q = V 86 159 [l0, l1, l2, l3, l4, l5, l6, l7, l8, l9, some (.long u), l11] (.long u :: st) h Q := V_nx (by decide +kernel : decode (p_c 86) 157 = .ok (.lload 10, 2)) rfl rfl
theorem e86_159 : V 86 159 L (.long w :: .long u :: st) h Q = (¬ w = 0 ∧ V 86 160 L (.long (u / w) :: st) h Q) := V_ldiv (by decide +kernel : decode (p_c 86) 159 = .ok (.ldiv, 1))
theorem e86_160 : V 86 160 L [.long u] h Q = Q (some (.long u)) h := V_rl (by decide +kernel : decode (p_c 86) 160 = .ok (.lreturn, 1)) rfl
theorem m86 : Vm 86 [.ref a, .int x1, .int x2, .int x3, .int x4, .int x5] h Q = V 86 0 [some (.ref a), some (.int x1), some (.int x2), some (.int x3), some (.int x4), some (.int x5), none, none, none, none, none, none] [] h Q := rfl
theorem e87_0 : V 87 0 [l0, some (.int x), l2] st h Q = V 87 1 [l0, some (.int x), l2] (.int x :: st) h Q := V_nx (by decide +kernel : decode (p_c 87) 0 = .ok (.iload_n 1, 1)) rfl rfl
theorem e87_1 : V 87 1 L (.int x :: st) h Q = if x = 0 then V 87 15 L st h Q else V 87 4 L st h Q := (V_ifc (by decide +kernel : decode (p_c 87) 1 = .ok (.ifCond .eq 14, 3)) (by decide)).trans i_eq
theorem e87_4 : V 87 4 [some (.ref a), l1, l2] st h Q = V 87 5 [some (.ref a), l1, l2] (.ref a :: st) h Q := V_nx (by decide +kernel : decode (p_c 87) 4 = .ok (.aload_n 0, 1)) rfl rfl
theorem e87_5 : V 87 5 L (.ref a :: st) h Q = (p_ok1 [11] 1 (p_get h a) ∧ V 87 8 L (p_fv 1 (p_get h a) :: st) h Q) := V_gf (t := (3, 1, "WaterShoulders")) (by decide +kernel : decode (p_c 87) 5 = .ok (.getfield 19, 3)) (by decide +kernel)
theorem e87_8 : V 87 8 [l0, some (.int x), l2] st h Q = V 87 9 [l0, some (.int x), l2] (.int x :: st) h Q := V_nx (by decide +kernel : decode (p_c 87) 8 = .ok (.iload_n 1, 1)) rfl rfl
theorem e87_9 : V 87 9 L (.int x1 :: .ref a :: st) h Q = ((p_cn1 (p_get h a) = 9 ∧ p_sm st) ∧ Vm 53 [.ref a, .int x1] h (Kt 87 12 L st Q)) := V_iv (n := 1) (as := [.int x1]) (ci := 9) (z := 53) (by decide +kernel : decode (p_c 87) 9 = .ok (.invokevirtual 107, 3)) (by decide +kernel) rfl rfl (by decide +kernel) rfl
theorem e87_12 : V 87 12 L (.int x :: st) h Q = if x = 0 then V 87 15 L st h Q else V 87 18 L st h Q := (V_ifc (by decide +kernel : decode (p_c 87) 12 = .ok (.ifCond .ne 6, 3)) (by decide)).trans i_ne
theorem e87_15 : V 87 15 L st h Q = V 87 17 L (.int (-101) :: st) h Q := V_b (by decide +kernel : decode (p_c 87) 15 = .ok (.bipush (-101), 2)) (by decide)
theorem e87_17 : V 87 17 L [.int x] h Q = Q (some (.int x)) h := V_ri (by decide +kernel : decode (p_c 87) 17 = .ok (.ireturn, 1)) rfl
theorem e87_18 : V 87 18 [l0, l1, some (.int x)] st h Q = V 87 19 [l0, l1, some (.int x)] (.int x :: st) h Q := V_nx (by decide +kernel : decode (p_c 87) 18 = .ok (.iload_n 2, 1)) rfl rfl
theorem e87_19 : V 87 19 L (.int x :: st) h Q = if x < 0 then V 87 35 L st h Q else V 87 22 L st h Q := (V_ifc (by decide +kernel : decode (p_c 87) 19 = .ok (.ifCond .lt 16, 3)) (by decide)).trans i_lt
theorem e87_22 : V 87 22 [l0, l1, some (.int x)] st h Q = V 87 23 [l0, l1, some (.int x)] (.int x :: st) h Q := V_nx (by decide +kernel : decode (p_c 87) 22 = .ok (.iload_n 2, 1)) rfl rfl
theorem e87_23 : V 87 23 [some (.ref a), l1, l2] st h Q = V 87 24 [some (.ref a), l1, l2] (.ref a :: st) h Q := V_nx (by decide +kernel : decode (p_c 87) 23 = .ok (.aload_n 0, 1)) rfl rfl
theorem e87_24 : V 87 24 L (.ref a :: st) h Q = (p_ok1 [11] 1 (p_get h a) ∧ V 87 27 L (p_fv 1 (p_get h a) :: st) h Q) := V_gf (t := (3, 1, "WaterShoulders")) (by decide +kernel : decode (p_c 87) 24 = .ok (.getfield 19, 3)) (by decide +kernel)
theorem e87_27 : V 87 27 L (.ref a :: st) h Q = (p_ok1 [9] 0 (p_get h a) ∧ V 87 30 L (p_fv 0 (p_get h a) :: st) h Q) := V_gf (t := (3, 2, "WaterShoulders$Stair")) (by decide +kernel : decode (p_c 87) 27 = .ok (.getfield 111, 3)) (by decide +kernel)
theorem e87_30 : V 87 30 [l0, some (.int x), l2] st h Q = V 87 31 [l0, some (.int x), l2] (.int x :: st) h Q := V_nx (by decide +kernel : decode (p_c 87) 30 = .ok (.iload_n 1, 1)) rfl rfl
theorem e87_31 : V 87 31 L (.int i :: .ref a :: st) h Q = (p_iok i (p_get h a) ∧ V 87 32 L (.int (p_ivl i (p_get h a)) :: st) h Q) := V_ial (by decide +kernel : decode (p_c 87) 31 = .ok (.iaload, 1))
theorem e87_32 : V 87 32 L (.int z :: .int x :: st) h Q = if z < x then V 87 35 L st h Q else V 87 38 L st h Q := (V_icmp (by decide +kernel : decode (p_c 87) 32 = .ok (.if_icmp .le 6, 3)) (by decide)).trans i_le
theorem e87_35 : V 87 35 L st h Q = V 87 37 L (.int (-102) :: st) h Q := V_b (by decide +kernel : decode (p_c 87) 35 = .ok (.bipush (-102), 2)) (by decide)
theorem e87_37 : V 87 37 L [.int x] h Q = Q (some (.int x)) h := V_ri (by decide +kernel : decode (p_c 87) 37 = .ok (.ireturn, 1)) rfl
theorem e87_38 : V 87 38 [some (.ref a), l1, l2] st h Q = V 87 39 [some (.ref a), l1, l2] (.ref a :: st) h Q := V_nx (by decide +kernel : decode (p_c 87) 38 = .ok (.aload_n 0, 1)) rfl rfl
theorem e87_39 : V 87 39 L (.ref a :: st) h Q = (p_ok1 [11] 5 (p_get h a) ∧ V 87 42 L (p_fv 5 (p_get h a) :: st) h Q) := V_gf (t := (3, 1, "WaterShoulders")) (by decide +kernel : decode (p_c 87) 39 = .ok (.getfield 39, 3)) (by decide +kernel)
theorem e87_42 : V 87 42 [l0, some (.int x), l2] st h Q = V 87 43 [l0, some (.int x), l2] (.int x :: st) h Q := V_nx (by decide +kernel : decode (p_c 87) 42 = .ok (.iload_n 1, 1)) rfl rfl
theorem e87_43 : V 87 43 [l0, l1, some (.int x)] st h Q = V 87 44 [l0, l1, some (.int x)] (.int x :: st) h Q := V_nx (by decide +kernel : decode (p_c 87) 43 = .ok (.iload_n 2, 1)) rfl rfl
theorem e87_44 : V 87 44 L (.int x2 :: .int x1 :: .ref a :: st) h Q = ((p_cn1 (p_get h a) = 4 ∧ p_sm st) ∧ Vm 15 [.ref a, .int x1, .int x2] h (Kt 87 47 L st Q)) := V_iv (n := 2) (as := [.int x2, .int x1]) (ci := 4) (z := 15) (by decide +kernel : decode (p_c 87) 44 = .ok (.invokevirtual 224, 3)) (by decide +kernel) rfl rfl (by decide +kernel) rfl
theorem e87_47 : V 87 47 [some (.ref a), l1, l2] st h Q = V 87 48 [some (.ref a), l1, l2] (.ref a :: st) h Q := V_nx (by decide +kernel : decode (p_c 87) 47 = .ok (.aload_n 0, 1)) rfl rfl
theorem e87_48 : V 87 48 L (.ref a :: st) h Q = (p_ok1 [11] 1 (p_get h a) ∧ V 87 51 L (p_fv 1 (p_get h a) :: st) h Q) := V_gf (t := (3, 1, "WaterShoulders")) (by decide +kernel : decode (p_c 87) 48 = .ok (.getfield 19, 3)) (by decide +kernel)
theorem e87_51 : V 87 51 L (.ref a :: st) h Q = (p_ok1 [9] 0 (p_get h a) ∧ V 87 54 L (p_fv 0 (p_get h a) :: st) h Q) := V_gf (t := (3, 2, "WaterShoulders$Stair")) (by decide +kernel : decode (p_c 87) 51 = .ok (.getfield 111, 3)) (by decide +kernel)
theorem e87_54 : V 87 54 [l0, some (.int x), l2] st h Q = V 87 55 [l0, some (.int x), l2] (.int x :: st) h Q := V_nx (by decide +kernel : decode (p_c 87) 54 = .ok (.iload_n 1, 1)) rfl rfl
theorem e87_55 : V 87 55 L (.int i :: .ref a :: st) h Q = (p_iok i (p_get h a) ∧ V 87 56 L (.int (p_ivl i (p_get h a)) :: st) h Q) := V_ial (by decide +kernel : decode (p_c 87) 55 = .ok (.iaload, 1))
theorem e87_56 : V 87 56 L [.int x] h Q = Q (some (.int x)) h := V_ri (by decide +kernel : decode (p_c 87) 56 = .ok (.ireturn, 1)) rfl
theorem m87 : Vm 87 [.ref a, .int x1, .int x2] h Q = V 87 0 [some (.ref a), some (.int x1), some (.int x2)] [] h Q := rfl
theorem e88_0 : V 88 0 [some (.ref a), l1] st h Q = V 88 1 [some (.ref a), l1] (.ref a :: st) h Q := V_nx (by decide +kernel : decode (p_c 88) 0 = .ok (.aload_n 0, 1)) rfl rfl
theorem e88_1 : V 88 1 L (.ref a :: st) h Q = (p_ok1 [11] 5 (p_get h a) ∧ V 88 4 L (p_fv 5 (p_get h a) :: st) h Q) := V_gf (t := (3, 1, "WaterShoulders")) (by decide +kernel : decode (p_c 88) 1 = .ok (.getfield 39, 3)) (by decide +kernel)
theorem e88_4 : V 88 4 L (.ref a :: st) h Q = ((p_cn1 (p_get h a) = 4 ∧ p_sm st) ∧ Vm 13 [.ref a] h (Kt 88 7 L st Q)) := V_iv (n := 0) (as := []) (ci := 4) (z := 13) (by decide +kernel : decode (p_c 88) 4 = .ok (.invokevirtual 228, 3)) (by decide +kernel) rfl rfl (by decide +kernel) rfl
theorem e88_7 : V 88 7 L (.int x :: st) h Q = if x = 0 then V 88 10 L st h Q else V 88 13 L st h Q := (V_ifc (by decide +kernel : decode (p_c 88) 7 = .ok (.ifCond .ne 6, 3)) (by decide)).trans i_ne
theorem e88_10 : V 88 10 L st h Q = V 88 12 L (.int (-103) :: st) h Q := V_b (by decide +kernel : decode (p_c 88) 10 = .ok (.bipush (-103), 2)) (by decide)
theorem e88_12 : V 88 12 L [.int x] h Q = Q (some (.int x)) h := V_ri (by decide +kernel : decode (p_c 88) 12 = .ok (.ireturn, 1)) rfl
theorem e88_13 : V 88 13 [l0, some (.int x)] st h Q = V 88 14 [l0, some (.int x)] (.int x :: st) h Q := V_nx (by decide +kernel : decode (p_c 88) 13 = .ok (.iload_n 1, 1)) rfl rfl
theorem e88_14 : V 88 14 L (.int x :: st) h Q = if x < 0 then V 88 22 L st h Q else V 88 17 L st h Q := (V_ifc (by decide +kernel : decode (p_c 88) 14 = .ok (.ifCond .lt 8, 3)) (by decide)).trans i_lt
theorem e88_17 : V 88 17 [l0, some (.int x)] st h Q = V 88 18 [l0, some (.int x)] (.int x :: st) h Q := V_nx (by decide +kernel : decode (p_c 88) 17 = .ok (.iload_n 1, 1)) rfl rfl
theorem e88_18 : V 88 18 L st h Q = V 88 19 L (.int 5 :: st) h Q := V_c (by decide +kernel : decode (p_c 88) 18 = .ok (.iconst 5, 1)) (by decide)
theorem e88_19 : V 88 19 L (.int z :: .int x :: st) h Q = if z < x then V 88 22 L st h Q else V 88 25 L st h Q := (V_icmp (by decide +kernel : decode (p_c 88) 19 = .ok (.if_icmp .le 6, 3)) (by decide)).trans i_le
theorem e88_22 : V 88 22 L st h Q = V 88 24 L (.int (-102) :: st) h Q := V_b (by decide +kernel : decode (p_c 88) 22 = .ok (.bipush (-102), 2)) (by decide)
theorem e88_24 : V 88 24 L [.int x] h Q = Q (some (.int x)) h := V_ri (by decide +kernel : decode (p_c 88) 24 = .ok (.ireturn, 1)) rfl
theorem e88_25 : V 88 25 [some (.ref a), l1] st h Q = V 88 26 [some (.ref a), l1] (.ref a :: st) h Q := V_nx (by decide +kernel : decode (p_c 88) 25 = .ok (.aload_n 0, 1)) rfl rfl
theorem e88_26 : V 88 26 L (.ref a :: st) h Q = (p_ok1 [11] 5 (p_get h a) ∧ V 88 29 L (p_fv 5 (p_get h a) :: st) h Q) := V_gf (t := (3, 1, "WaterShoulders")) (by decide +kernel : decode (p_c 88) 26 = .ok (.getfield 39, 3)) (by decide +kernel)
theorem e88_29 : V 88 29 L (.ref a :: st) h Q = (p_ok1 [4] 1 (p_get h a) ∧ V 88 32 L (p_fv 1 (p_get h a) :: st) h Q) := V_gf (t := (0, 0, "WaterShoulders$Mud")) (by decide +kernel : decode (p_c 88) 29 = .ok (.getfield 231, 3)) (by decide +kernel)
theorem e88_32 : V 88 32 L st h Q = V 88 34 L (.int 7 :: st) h Q := V_b (by decide +kernel : decode (p_c 88) 32 = .ok (.bipush 7, 2)) (by decide)
theorem e88_34 : V 88 34 L (.int z :: .int x :: st) h Q = if x < z then V 88 40 L st h Q else V 88 37 L st h Q := (V_icmp (by decide +kernel : decode (p_c 88) 34 = .ok (.if_icmp .lt 6, 3)) (by decide)).trans i_lt
theorem e88_37 : V 88 37 L st h Q = V 88 39 L (.int (-104) :: st) h Q := V_b (by decide +kernel : decode (p_c 88) 37 = .ok (.bipush (-104), 2)) (by decide)
theorem e88_39 : V 88 39 L [.int x] h Q = Q (some (.int x)) h := V_ri (by decide +kernel : decode (p_c 88) 39 = .ok (.ireturn, 1)) rfl
theorem e88_40 : V 88 40 [some (.ref a), l1] st h Q = V 88 41 [some (.ref a), l1] (.ref a :: st) h Q := V_nx (by decide +kernel : decode (p_c 88) 40 = .ok (.aload_n 0, 1)) rfl rfl
theorem e88_41 : V 88 41 L (.ref a :: st) h Q = (p_ok1 [11] 5 (p_get h a) ∧ V 88 44 L (p_fv 5 (p_get h a) :: st) h Q) := V_gf (t := (3, 1, "WaterShoulders")) (by decide +kernel : decode (p_c 88) 41 = .ok (.getfield 39, 3)) (by decide +kernel)
theorem e88_44 : V 88 44 L (.ref a :: st) h Q = (p_ok1 [4] 0 (p_get h a) ∧ V 88 47 L (p_fv 0 (p_get h a) :: st) h Q) := V_gf (t := (3, 2, "WaterShoulders$Mud")) (by decide +kernel : decode (p_c 88) 44 = .ok (.getfield 232, 3)) (by decide +kernel)
theorem e88_47 : V 88 47 [some (.ref a), l1] st h Q = V 88 48 [some (.ref a), l1] (.ref a :: st) h Q := V_nx (by decide +kernel : decode (p_c 88) 47 = .ok (.aload_n 0, 1)) rfl rfl
theorem e88_48 : V 88 48 L (.ref a :: st) h Q = (p_ok1 [11] 5 (p_get h a) ∧ V 88 51 L (p_fv 5 (p_get h a) :: st) h Q) := V_gf (t := (3, 1, "WaterShoulders")) (by decide +kernel : decode (p_c 88) 48 = .ok (.getfield 39, 3)) (by decide +kernel)
theorem e88_51 : V 88 51 L (.ref a :: st) h Q = (p_ok1 [4] 1 (p_get h a) ∧ V 88 54 L (p_fv 1 (p_get h a) :: st) h Q) := V_gf (t := (0, 0, "WaterShoulders$Mud")) (by decide +kernel : decode (p_c 88) 51 = .ok (.getfield 231, 3)) (by decide +kernel)
theorem e88_54 : V 88 54 [l0, some (.int x)] st h Q = V 88 55 [l0, some (.int x)] (.int x :: st) h Q := V_nx (by decide +kernel : decode (p_c 88) 54 = .ok (.iload_n 1, 1)) rfl rfl
theorem e88_55 : V 88 55 L (.int x :: .int i :: .ref a :: st) h Q = (p_sok i (p_get h a) ∧ V 88 56 L st (p_set h a (p_ist i x (p_get h a))) Q) := V_ias (by decide +kernel : decode (p_c 88) 55 = .ok (.iastore, 1))
theorem e88_56 : V 88 56 [some (.ref a), l1] st h Q = V 88 57 [some (.ref a), l1] (.ref a :: st) h Q := V_nx (by decide +kernel : decode (p_c 88) 56 = .ok (.aload_n 0, 1)) rfl rfl
theorem e88_57 : V 88 57 L (.ref a :: st) h Q = (p_ok1 [11] 5 (p_get h a) ∧ V 88 60 L (p_fv 5 (p_get h a) :: st) h Q) := V_gf (t := (3, 1, "WaterShoulders")) (by decide +kernel : decode (p_c 88) 57 = .ok (.getfield 39, 3)) (by decide +kernel)
theorem e88_60 : V 88 60 L (.ref a :: st) h Q = V 88 61 L (.ref a :: .ref a :: st) h Q := V_dup (by decide +kernel : decode (p_c 88) 60 = .ok (.dup, 1)) rfl
theorem e88_60i : V 88 60 L (.int x :: st) h Q = V 88 61 L (.int x :: .int x :: st) h Q := V_dup (by decide +kernel : decode (p_c 88) 60 = .ok (.dup, 1)) rfl
theorem e88_61 : V 88 61 L (.ref a :: st) h Q = (p_ok1 [4] 1 (p_get h a) ∧ V 88 64 L (p_fv 1 (p_get h a) :: st) h Q) := V_gf (t := (0, 0, "WaterShoulders$Mud")) (by decide +kernel : decode (p_c 88) 61 = .ok (.getfield 231, 3)) (by decide +kernel)
theorem e88_64 : V 88 64 L st h Q = V 88 65 L (.int 1 :: st) h Q := V_c (by decide +kernel : decode (p_c 88) 64 = .ok (.iconst 1, 1)) (by decide)
theorem e88_65 : V 88 65 L (.int z :: .int x :: st) h Q = V 88 66 L (.int (x + z) :: st) h Q := V_nx (by decide +kernel : decode (p_c 88) 65 = .ok (.iadd, 1)) rfl rfl
theorem e88_66 : V 88 66 L (.int x :: .ref a :: st) h Q = (p_ok1 [4] 1 (p_get h a) ∧ V 88 69 L st (p_set h a (p_fs 1 (.int x) (p_get h a))) Q) := V_pf0 (fin := 0) (ref := "WaterShoulders$Mud") (by decide +kernel : decode (p_c 88) 66 = .ok (.putfield 231, 3)) (by decide +kernel) (by decide +kernel)
theorem e88_69 : V 88 69 [some (.ref a), l1] st h Q = V 88 70 [some (.ref a), l1] (.ref a :: st) h Q := V_nx (by decide +kernel : decode (p_c 88) 69 = .ok (.aload_n 0, 1)) rfl rfl
theorem e88_70 : V 88 70 L (.ref a :: st) h Q = (p_ok1 [11] 5 (p_get h a) ∧ V 88 73 L (p_fv 5 (p_get h a) :: st) h Q) := V_gf (t := (3, 1, "WaterShoulders")) (by decide +kernel : decode (p_c 88) 70 = .ok (.getfield 39, 3)) (by decide +kernel)
theorem e88_73 : V 88 73 L (.ref a :: st) h Q = (p_ok1 [4] 1 (p_get h a) ∧ V 88 76 L (p_fv 1 (p_get h a) :: st) h Q) := V_gf (t := (0, 0, "WaterShoulders$Mud")) (by decide +kernel : decode (p_c 88) 73 = .ok (.getfield 231, 3)) (by decide +kernel)
theorem e88_76 : V 88 76 L [.int x] h Q = Q (some (.int x)) h := V_ri (by decide +kernel : decode (p_c 88) 76 = .ok (.ireturn, 1)) rfl
theorem m88 : Vm 88 [.ref a, .int x1] h Q = V 88 0 [some (.ref a), some (.int x1)] [] h Q := rfl
theorem e89_0 : V 89 0 [some (.ref a)] st h Q = V 89 1 [some (.ref a)] (.ref a :: st) h Q := V_nx (by decide +kernel : decode (p_c 89) 0 = .ok (.aload_n 0, 1)) rfl rfl
theorem e89_1 : V 89 1 L (.ref a :: st) h Q = (p_ok1 [11] 5 (p_get h a) ∧ V 89 4 L (p_fv 5 (p_get h a) :: st) h Q) := V_gf (t := (3, 1, "WaterShoulders")) (by decide +kernel : decode (p_c 89) 1 = .ok (.getfield 39, 3)) (by decide +kernel)
theorem e89_4 : V 89 4 L (.ref a :: st) h Q = ((p_cn1 (p_get h a) = 4 ∧ p_sm st) ∧ Vm 13 [.ref a] h (Kt 89 7 L st Q)) := V_iv (n := 0) (as := []) (ci := 4) (z := 13) (by decide +kernel : decode (p_c 89) 4 = .ok (.invokevirtual 228, 3)) (by decide +kernel) rfl rfl (by decide +kernel) rfl
theorem e89_7 : V 89 7 L (.int x :: st) h Q = if x = 0 then V 89 10 L st h Q else V 89 13 L st h Q := (V_ifc (by decide +kernel : decode (p_c 89) 7 = .ok (.ifCond .ne 6, 3)) (by decide)).trans i_ne
theorem e89_10 : V 89 10 L st h Q = V 89 12 L (.int (-103) :: st) h Q := V_b (by decide +kernel : decode (p_c 89) 10 = .ok (.bipush (-103), 2)) (by decide)
theorem e89_12 : V 89 12 L [.int x] h Q = Q (some (.int x)) h := V_ri (by decide +kernel : decode (p_c 89) 12 = .ok (.ireturn, 1)) rfl
theorem e89_13 : V 89 13 [some (.ref a)] st h Q = V 89 14 [some (.ref a)] (.ref a :: st) h Q := V_nx (by decide +kernel : decode (p_c 89) 13 = .ok (.aload_n 0, 1)) rfl rfl
theorem e89_14 : V 89 14 L st h Q = V 89 15 L (.int 0 :: st) h Q := V_c (by decide +kernel : decode (p_c 89) 14 = .ok (.iconst 0, 1)) (by decide)
theorem e89_15 : V 89 15 L (.int x1 :: .ref a :: st) h Q = ((p_cn1 (p_get h a) = 11 ∧ p_sm st) ∧ Vm 102 [.ref a, .int x1] h (Kt 89 18 L st Q)) := V_iv (n := 1) (as := [.int x1]) (ci := 11) (z := 102) (by decide +kernel : decode (p_c 89) 15 = .ok (.invokevirtual 235, 3)) (by decide +kernel) rfl rfl (by decide +kernel) rfl
theorem e89_18 : V 89 18 [some (.ref a)] st h Q = V 89 19 [some (.ref a)] (.ref a :: st) h Q := V_nx (by decide +kernel : decode (p_c 89) 18 = .ok (.aload_n 0, 1)) rfl rfl
theorem e89_19 : V 89 19 L (.ref a :: st) h Q = (p_ok1 [11] 5 (p_get h a) ∧ V 89 22 L (p_fv 5 (p_get h a) :: st) h Q) := V_gf (t := (3, 1, "WaterShoulders")) (by decide +kernel : decode (p_c 89) 19 = .ok (.getfield 39, 3)) (by decide +kernel)
theorem e89_22 : V 89 22 L (.ref a :: st) h Q = ((p_cn1 (p_get h a) = 4 ∧ p_sm st) ∧ Vm 22 [.ref a] h (Kt 89 25 L st Q)) := V_iv (n := 0) (as := []) (ci := 4) (z := 22) (by decide +kernel : decode (p_c 89) 22 = .ok (.invokevirtual 238, 3)) (by decide +kernel) rfl rfl (by decide +kernel) rfl
theorem e89_25 : V 89 25 L [.int x] h Q = Q (some (.int x)) h := V_ri (by decide +kernel : decode (p_c 89) 25 = .ok (.ireturn, 1)) rfl
theorem m89 : Vm 89 [.ref a] h Q = V 89 0 [some (.ref a)] [] h Q := rfl
theorem e90_0 : V 90 0 [some (.ref a), l1, l2] st h Q = V 90 1 [some (.ref a), l1, l2] (.ref a :: st) h Q := V_nx (by decide +kernel : decode (p_c 90) 0 = .ok (.aload_n 0, 1)) rfl rfl
theorem e90_1 : V 90 1 [l0, some (.int x), l2] st h Q = V 90 2 [l0, some (.int x), l2] (.int x :: st) h Q := V_nx (by decide +kernel : decode (p_c 90) 1 = .ok (.iload_n 1, 1)) rfl rfl
theorem e90_2 : V 90 2 L (.int x1 :: .ref a :: st) h Q = ((p_cn1 (p_get h a) = 11 ∧ p_sm st) ∧ Vm 100 [.ref a, .int x1] h (Kt 90 5 L st Q)) := V_iv (n := 1) (as := [.int x1]) (ci := 11) (z := 100) (by decide +kernel : decode (p_c 90) 2 = .ok (.invokevirtual 125, 3)) (by decide +kernel) rfl rfl (by decide +kernel) rfl
theorem e90_5 : V 90 5 [l0, l1, l2] (.ref a :: st) h Q = V 90 6 [l0, p_dl l1, some (.ref a)] st h Q := V_nx (by decide +kernel : decode (p_c 90) 5 = .ok (.astore_n 2, 1)) rfl rfl
theorem e90_5n : V 90 5 [l0, l1, l2] (.null :: st) h Q = V 90 6 [l0, p_dl l1, some (.null)] st h Q := V_nx (by decide +kernel : decode (p_c 90) 5 = .ok (.astore_n 2, 1)) rfl rfl
theorem e90_6 : V 90 6 [l0, l1, some (.ref a)] st h Q = V 90 7 [l0, l1, some (.ref a)] (.ref a :: st) h Q := V_nx (by decide +kernel : decode (p_c 90) 6 = .ok (.aload_n 2, 1)) rfl rfl
theorem e90_6n : V 90 6 [l0, l1, some .null] st h Q = V 90 7 [l0, l1, some .null] (.null :: st) h Q := V_nx (by decide +kernel : decode (p_c 90) 6 = .ok (.aload_n 2, 1)) rfl rfl
theorem e90_7 : V 90 7 L (.null :: st) h Q = V 90 10 L st h Q := V_nonN (by decide +kernel : decode (p_c 90) 7 = .ok (.ifnonnull 6, 3))
theorem e90_7r : V 90 7 L (.ref a :: st) h Q = V 90 13 L st h Q := V_nonR (by decide +kernel : decode (p_c 90) 7 = .ok (.ifnonnull 6, 3)) (by decide)
theorem e90_10 : V 90 10 L st h Q = V 90 12 L (.int (-101) :: st) h Q := V_b (by decide +kernel : decode (p_c 90) 10 = .ok (.bipush (-101), 2)) (by decide)
theorem e90_12 : V 90 12 L [.int x] h Q = Q (some (.int x)) h := V_ri (by decide +kernel : decode (p_c 90) 12 = .ok (.ireturn, 1)) rfl
theorem e90_13 : V 90 13 [some (.ref a), l1, l2] st h Q = V 90 14 [some (.ref a), l1, l2] (.ref a :: st) h Q := V_nx (by decide +kernel : decode (p_c 90) 13 = .ok (.aload_n 0, 1)) rfl rfl
theorem e90_14 : V 90 14 L (.ref a :: st) h Q = (p_ok1 [11] 5 (p_get h a) ∧ V 90 17 L (p_fv 5 (p_get h a) :: st) h Q) := V_gf (t := (3, 1, "WaterShoulders")) (by decide +kernel : decode (p_c 90) 14 = .ok (.getfield 39, 3)) (by decide +kernel)
theorem e90_17 : V 90 17 L (.ref a :: st) h Q = ((p_cn1 (p_get h a) = 4 ∧ p_sm st) ∧ Vm 13 [.ref a] h (Kt 90 20 L st Q)) := V_iv (n := 0) (as := []) (ci := 4) (z := 13) (by decide +kernel : decode (p_c 90) 17 = .ok (.invokevirtual 228, 3)) (by decide +kernel) rfl rfl (by decide +kernel) rfl
theorem e90_20 : V 90 20 L (.int x :: st) h Q = if x = 0 then V 90 30 L st h Q else V 90 23 L st h Q := (V_ifc (by decide +kernel : decode (p_c 90) 20 = .ok (.ifCond .eq 10, 3)) (by decide)).trans i_eq
theorem e90_23 : V 90 23 [l0, l1, some (.ref a)] st h Q = V 90 24 [l0, l1, some (.ref a)] (.ref a :: st) h Q := V_nx (by decide +kernel : decode (p_c 90) 23 = .ok (.aload_n 2, 1)) rfl rfl
theorem e90_23n : V 90 23 [l0, l1, some .null] st h Q = V 90 24 [l0, l1, some .null] (.null :: st) h Q := V_nx (by decide +kernel : decode (p_c 90) 23 = .ok (.aload_n 2, 1)) rfl rfl
theorem e90_24n : V 90 24 L (.null :: st) h Q = V 90 27 L (.int 0 :: st) h Q := V_ioN (by decide +kernel : decode (p_c 90) 24 = .ok (.instanceof 158, 3))
theorem e90_24 : V 90 24 L (.ref a :: st) h Q = (p_bt (p_cn1 (p_get h a)) = true ∧ V 90 27 L (.int (if p_is (p_cn1 (p_get h a)) 2 then 1 else 0) :: st) h Q) := V_ioR (by decide +kernel : decode (p_c 90) 24 = .ok (.instanceof 158, 3)) (by decide +kernel) rfl
theorem e90_27 : V 90 27 L (.int x :: st) h Q = if x = 0 then V 90 30 L st h Q else V 90 33 L st h Q := (V_ifc (by decide +kernel : decode (p_c 90) 27 = .ok (.ifCond .ne 6, 3)) (by decide)).trans i_ne
theorem e90_30 : V 90 30 L st h Q = V 90 32 L (.int (-103) :: st) h Q := V_b (by decide +kernel : decode (p_c 90) 30 = .ok (.bipush (-103), 2)) (by decide)
theorem e90_32 : V 90 32 L [.int x] h Q = Q (some (.int x)) h := V_ri (by decide +kernel : decode (p_c 90) 32 = .ok (.ireturn, 1)) rfl
theorem e90_33 : V 90 33 [some (.ref a), l1, l2] st h Q = V 90 34 [some (.ref a), l1, l2] (.ref a :: st) h Q := V_nx (by decide +kernel : decode (p_c 90) 33 = .ok (.aload_n 0, 1)) rfl rfl
theorem e90_34 : V 90 34 L st h Q = V 90 35 L (.int 1 :: st) h Q := V_c (by decide +kernel : decode (p_c 90) 34 = .ok (.iconst 1, 1)) (by decide)
theorem e90_35 : V 90 35 [l0, some (.int x), l2] st h Q = V 90 36 [l0, some (.int x), l2] (.int x :: st) h Q := V_nx (by decide +kernel : decode (p_c 90) 35 = .ok (.iload_n 1, 1)) rfl rfl
theorem e90_36 : V 90 36 L (.int z :: .int x :: st) h Q = V 90 37 L (.int (x <<< (z &&& 31)) :: st) h Q := V_nx (by decide +kernel : decode (p_c 90) 36 = .ok (.ishl, 1)) rfl rfl
theorem e90_37 : V 90 37 L (.int x1 :: .ref a :: st) h Q = ((p_cn1 (p_get h a) = 11 ∧ p_sm st) ∧ Vm 102 [.ref a, .int x1] h (Kt 90 40 L st Q)) := V_iv (n := 1) (as := [.int x1]) (ci := 11) (z := 102) (by decide +kernel : decode (p_c 90) 37 = .ok (.invokevirtual 235, 3)) (by decide +kernel) rfl rfl (by decide +kernel) rfl
theorem e90_40 : V 90 40 [some (.ref a), l1, l2] st h Q = V 90 41 [some (.ref a), l1, l2] (.ref a :: st) h Q := V_nx (by decide +kernel : decode (p_c 90) 40 = .ok (.aload_n 0, 1)) rfl rfl
theorem e90_41 : V 90 41 L (.ref a :: st) h Q = (p_ok1 [11] 5 (p_get h a) ∧ V 90 44 L (p_fv 5 (p_get h a) :: st) h Q) := V_gf (t := (3, 1, "WaterShoulders")) (by decide +kernel : decode (p_c 90) 41 = .ok (.getfield 39, 3)) (by decide +kernel)
theorem e90_44 : V 90 44 L (.ref a :: st) h Q = ((p_cn1 (p_get h a) = 4 ∧ p_sm st) ∧ Vm 23 [.ref a] h (Kt 90 47 L st Q)) := V_iv (n := 0) (as := []) (ci := 4) (z := 23) (by decide +kernel : decode (p_c 90) 44 = .ok (.invokevirtual 241, 3)) (by decide +kernel) rfl rfl (by decide +kernel) rfl
theorem e90_47 : V 90 47 L [.int x] h Q = Q (some (.int x)) h := V_ri (by decide +kernel : decode (p_c 90) 47 = .ok (.ireturn, 1)) rfl
theorem m90 : Vm 90 [.ref a, .int x1] h Q = V 90 0 [some (.ref a), some (.int x1), none] [] h Q := rfl
theorem e91_0 : V 91 0 [l0, some (.int x), l2, l3, l4, l5] st h Q = V 91 1 [l0, some (.int x), l2, l3, l4, l5] (.int x :: st) h Q := V_nx (by decide +kernel : decode (p_c 91) 0 = .ok (.iload_n 1, 1)) rfl rfl
theorem e91_1 : V 91 1 L st h Q = V 91 2 L (.int 1 :: st) h Q := V_c (by decide +kernel : decode (p_c 91) 1 = .ok (.iconst 1, 1)) (by decide)
theorem e91_2 : V 91 2 L (.int z :: .int x :: st) h Q = if x < z then V 91 24 L st h Q else V 91 5 L st h Q := (V_icmp (by decide +kernel : decode (p_c 91) 2 = .ok (.if_icmp .lt 22, 3)) (by decide)).trans i_lt
theorem e91_5 : V 91 5 [l0, some (.int x), l2, l3, l4, l5] st h Q = V 91 6 [l0, some (.int x), l2, l3, l4, l5] (.int x :: st) h Q := V_nx (by decide +kernel : decode (p_c 91) 5 = .ok (.iload_n 1, 1)) rfl rfl
theorem e91_6 : V 91 6 L st h Q = V 91 8 L (.int 60 :: st) h Q := V_b (by decide +kernel : decode (p_c 91) 6 = .ok (.bipush 60, 2)) (by decide)
theorem e91_8 : V 91 8 L (.int z :: .int x :: st) h Q = if z < x then V 91 24 L st h Q else V 91 11 L st h Q := (V_icmp (by decide +kernel : decode (p_c 91) 8 = .ok (.if_icmp .gt 16, 3)) (by decide)).trans i_gt
theorem e91_11 : V 91 11 [l0, l1, some (.int x), l3, l4, l5] st h Q = V 91 12 [l0, l1, some (.int x), l3, l4, l5] (.int x :: st) h Q := V_nx (by decide +kernel : decode (p_c 91) 11 = .ok (.iload_n 2, 1)) rfl rfl
theorem e91_12 : V 91 12 L (.int x :: st) h Q = if x < 0 then V 91 24 L st h Q else V 91 15 L st h Q := (V_ifc (by decide +kernel : decode (p_c 91) 12 = .ok (.ifCond .lt 12, 3)) (by decide)).trans i_lt
theorem e91_15 : V 91 15 [l0, l1, l2, some (.int x), l4, l5] st h Q = V 91 16 [l0, l1, l2, some (.int x), l4, l5] (.int x :: st) h Q := V_nx (by decide +kernel : decode (p_c 91) 15 = .ok (.iload_n 3, 1)) rfl rfl
theorem e91_16 : V 91 16 L (.int x :: st) h Q = if x < 0 then V 91 24 L st h Q else V 91 19 L st h Q := (V_ifc (by decide +kernel : decode (p_c 91) 16 = .ok (.ifCond .lt 8, 3)) (by decide)).trans i_lt
theorem e91_19 : V 91 19 [l0, l1, l2, some (.int x), l4, l5] st h Q = V 91 20 [l0, l1, l2, some (.int x), l4, l5] (.int x :: st) h Q := V_nx (by decide +kernel : decode (p_c 91) 19 = .ok (.iload_n 3, 1)) rfl rfl
theorem e91_20 : V 91 20 L st h Q = V 91 21 L (.int 2 :: st) h Q := V_c (by decide +kernel : decode (p_c 91) 20 = .ok (.iconst 2, 1)) (by decide)
theorem e91_21 : V 91 21 L (.int z :: .int x :: st) h Q = if z < x then V 91 24 L st h Q else V 91 27 L st h Q := (V_icmp (by decide +kernel : decode (p_c 91) 21 = .ok (.if_icmp .le 6, 3)) (by decide)).trans i_le
theorem e91_24 : V 91 24 L st h Q = V 91 26 L (.int (-102) :: st) h Q := V_b (by decide +kernel : decode (p_c 91) 24 = .ok (.bipush (-102), 2)) (by decide)
theorem e91_26 : V 91 26 L [.int x] h Q = Q (some (.int x)) h := V_ri (by decide +kernel : decode (p_c 91) 26 = .ok (.ireturn, 1)) rfl
theorem e91_27 : V 91 27 [some (.ref a), l1, l2, l3, l4, l5] st h Q = V 91 28 [some (.ref a), l1, l2, l3, l4, l5] (.ref a :: st) h Q := V_nx (by decide +kernel : decode (p_c 91) 27 = .ok (.aload_n 0, 1)) rfl rfl
theorem e91_28 : V 91 28 L (.ref a :: st) h Q = (p_ok1 [11] 1 (p_get h a) ∧ V 91 31 L (p_fv 1 (p_get h a) :: st) h Q) := V_gf (t := (3, 1, "WaterShoulders")) (by decide +kernel : decode (p_c 91) 28 = .ok (.getfield 19, 3)) (by decide +kernel)
theorem e91_31 : V 91 31 L (.ref a :: st) h Q = (p_ok1 [9] 2 (p_get h a) ∧ V 91 34 L (p_fv 2 (p_get h a) :: st) h Q) := V_gf (t := (0, 0, "WaterShoulders$Stair")) (by decide +kernel : decode (p_c 91) 31 = .ok (.getfield 104, 3)) (by decide +kernel)
theorem e91_34 : V 91 34 L (.int x :: st) h Q = if x = 0 then V 91 37 L st h Q else V 91 40 L st h Q := (V_ifc (by decide +kernel : decode (p_c 91) 34 = .ok (.ifCond .ne 6, 3)) (by decide)).trans i_ne
theorem e91_37 : V 91 37 L st h Q = V 91 39 L (.int (-103) :: st) h Q := V_b (by decide +kernel : decode (p_c 91) 37 = .ok (.bipush (-103), 2)) (by decide)
theorem e91_39 : V 91 39 L [.int x] h Q = Q (some (.int x)) h := V_ri (by decide +kernel : decode (p_c 91) 39 = .ok (.ireturn, 1)) rfl
theorem e91_40 : V 91 40 [some (.ref a), l1, l2, l3, l4, l5] st h Q = V 91 41 [some (.ref a), l1, l2, l3, l4, l5] (.ref a :: st) h Q := V_nx (by decide +kernel : decode (p_c 91) 40 = .ok (.aload_n 0, 1)) rfl rfl
theorem e91_41 : V 91 41 L (.ref a :: st) h Q = (p_ok1 [11] 2 (p_get h a) ∧ V 91 44 L (p_fv 2 (p_get h a) :: st) h Q) := V_gf (t := (3, 1, "WaterShoulders")) (by decide +kernel : decode (p_c 91) 41 = .ok (.getfield 23, 3)) (by decide +kernel)
theorem e91_44 : V 91 44 L st h Q = V 91 45 L (.int 0 :: st) h Q := V_c (by decide +kernel : decode (p_c 91) 44 = .ok (.iconst 0, 1)) (by decide)
theorem e91_45 : V 91 45 [some (.ref a), l1, l2, l3, l4, l5] st h Q = V 91 46 [some (.ref a), l1, l2, l3, l4, l5] (.ref a :: st) h Q := V_nx (by decide +kernel : decode (p_c 91) 45 = .ok (.aload_n 0, 1)) rfl rfl
theorem e91_46 : V 91 46 L (.ref a :: st) h Q = (p_ok1 [11] 3 (p_get h a) ∧ V 91 49 L (p_fv 3 (p_get h a) :: st) h Q) := V_gf (t := (3, 1, "WaterShoulders")) (by decide +kernel : decode (p_c 91) 46 = .ok (.getfield 27, 3)) (by decide +kernel)
theorem e91_49 : V 91 49 L st h Q = V 91 50 L (.int 0 :: st) h Q := V_c (by decide +kernel : decode (p_c 91) 49 = .ok (.iconst 0, 1)) (by decide)
theorem e91_50 : V 91 50 L st h Q = V 91 51 L (.int 4 :: st) h Q := V_c (by decide +kernel : decode (p_c 91) 50 = .ok (.iconst 4, 1)) (by decide)
theorem e91_51 : V 91 51 L (.int x3 :: .int x2 :: .ref b :: .int x1 :: .ref a :: st) h Q = ((p_sm st ∧ p_aci x1 x2 x3 (p_get h a) (p_get h b)) ∧ V 91 54 L st (p_set h b (p_acv x1 x2 x3 (p_get h a) (p_get h b))) Q) := V_ac (by decide +kernel : decode (p_c 91) 51 = .ok (.invokestatic 244, 3)) (by decide +kernel) (by decide +kernel) (by decide +kernel) (by decide +kernel)
theorem e91_54 : V 91 54 [l0, l1, some (.int x), l3, l4, l5] st h Q = V 91 55 [l0, l1, some (.int x), l3, l4, l5] (.int x :: st) h Q := V_nx (by decide +kernel : decode (p_c 91) 54 = .ok (.iload_n 2, 1)) rfl rfl
theorem e91_55 : V 91 55 [l0, l1, l2, l3, l4, l5] (.int x :: st) h Q = V 91 57 [l0, l1, l2, p_dl l3, some (.int x), l5] st h Q := V_nx (by decide +kernel : decode (p_c 91) 55 = .ok (.istore 4, 2)) rfl rfl
theorem e91_57 : V 91 57 L st h Q = V 91 58 L (.int 0 :: st) h Q := V_c (by decide +kernel : decode (p_c 91) 57 = .ok (.iconst 0, 1)) (by decide)
theorem e91_58 : V 91 58 [l0, l1, l2, l3, l4, l5] (.int x :: st) h Q = V 91 60 [l0, l1, l2, l3, p_dl l4, some (.int x)] st h Q := V_nx (by decide +kernel : decode (p_c 91) 58 = .ok (.istore 5, 2)) rfl rfl
theorem e91_60 : V 91 60 [l0, l1, l2, l3, l4, some (.int x)] st h Q = V 91 62 [l0, l1, l2, l3, l4, some (.int x)] (.int x :: st) h Q := V_nx (by decide +kernel : decode (p_c 91) 60 = .ok (.iload 5, 2)) rfl rfl
theorem e91_62 : V 91 62 [l0, some (.int x), l2, l3, l4, l5] st h Q = V 91 63 [l0, some (.int x), l2, l3, l4, l5] (.int x :: st) h Q := V_nx (by decide +kernel : decode (p_c 91) 62 = .ok (.iload_n 1, 1)) rfl rfl
theorem e91_63 : V 91 63 L (.int z :: .int x :: st) h Q = if x < z then V 91 66 L st h Q else V 91 97 L st h Q := (V_icmp (by decide +kernel : decode (p_c 91) 63 = .ok (.if_icmp .ge 34, 3)) (by decide)).trans i_ge
theorem e91_66 : V 91 66 [l0, l1, l2, l3, some (.int x), l5] st h Q = V 91 68 [l0, l1, l2, l3, some (.int x), l5] (.int x :: st) h Q := V_nx (by decide +kernel : decode (p_c 91) 66 = .ok (.iload 4, 2)) rfl rfl
theorem e91_68 : V 91 68 L (.int x1 :: st) h Q = (p_sm st ∧ Vm 103 [.int x1] h (Kt 91 71 L st Q)) := V_st (n := 1) (as := [.int x1]) (z := 103) (by decide +kernel : decode (p_c 91) 68 = .ok (.invokestatic 250, 3)) (by decide +kernel) rfl (by decide +kernel) rfl
theorem e91_71 : V 91 71 [l0, l1, l2, l3, l4, l5] (.int x :: st) h Q = V 91 73 [l0, l1, l2, p_dl l3, some (.int x), l5] st h Q := V_nx (by decide +kernel : decode (p_c 91) 71 = .ok (.istore 4, 2)) rfl rfl
theorem e91_73 : V 91 73 [some (.ref a), l1, l2, l3, l4, l5] st h Q = V 91 74 [some (.ref a), l1, l2, l3, l4, l5] (.ref a :: st) h Q := V_nx (by decide +kernel : decode (p_c 91) 73 = .ok (.aload_n 0, 1)) rfl rfl
theorem e91_74 : V 91 74 L (.ref a :: st) h Q = (p_ok1 [11] 1 (p_get h a) ∧ V 91 77 L (p_fv 1 (p_get h a) :: st) h Q) := V_gf (t := (3, 1, "WaterShoulders")) (by decide +kernel : decode (p_c 91) 74 = .ok (.getfield 19, 3)) (by decide +kernel)
theorem e91_77 : V 91 77 [some (.ref a), l1, l2, l3, l4, l5] st h Q = V 91 78 [some (.ref a), l1, l2, l3, l4, l5] (.ref a :: st) h Q := V_nx (by decide +kernel : decode (p_c 91) 77 = .ok (.aload_n 0, 1)) rfl rfl
theorem e91_78 : V 91 78 L (.ref a :: st) h Q = (p_ok1 [11] 3 (p_get h a) ∧ V 91 81 L (p_fv 3 (p_get h a) :: st) h Q) := V_gf (t := (3, 1, "WaterShoulders")) (by decide +kernel : decode (p_c 91) 78 = .ok (.getfield 27, 3)) (by decide +kernel)
theorem e91_81 : V 91 81 [l0, l1, l2, l3, some (.int x), l5] st h Q = V 91 83 [l0, l1, l2, l3, some (.int x), l5] (.int x :: st) h Q := V_nx (by decide +kernel : decode (p_c 91) 81 = .ok (.iload 4, 2)) rfl rfl
theorem e91_83 : V 91 83 L st h Q = V 91 85 L (.int 65536 :: st) h Q := V_ldc (by decide +kernel : decode (p_c 91) 83 = .ok (.ldc 254, 2)) (by decide +kernel)
theorem e91_85 : V 91 85 L (.int z :: .int x :: st) h Q = (¬ z = 0 ∧ V 91 86 L (.int (x / z) :: st) h Q) := V_idiv (by decide +kernel : decode (p_c 91) 85 = .ok (.idiv, 1))
theorem e91_86 : V 91 86 L st h Q = V 91 87 L (.int 4 :: st) h Q := V_c (by decide +kernel : decode (p_c 91) 86 = .ok (.iconst 4, 1)) (by decide)
theorem e91_87 : V 91 87 L (.int z :: .int x :: st) h Q = (¬ z = 0 ∧ V 91 88 L (.int (x - x / z * z) :: st) h Q) := V_irem (by decide +kernel : decode (p_c 91) 87 = .ok (.irem, 1))
theorem e91_88 : V 91 88 L (.int x1 :: .ref b1 :: .ref a :: st) h Q = ((p_cn1 (p_get h a) = 9 ∧ p_sm st) ∧ Vm 61 [.ref a, .ref b1, .int x1] h (Kt 91 91 L st Q)) := V_iv (n := 2) (as := [.int x1, .ref b1]) (ci := 9) (z := 61) (by decide +kernel : decode (p_c 91) 88 = .ok (.invokevirtual 173, 3)) (by decide +kernel) rfl rfl (by decide +kernel) rfl
theorem e91_91 : V 91 91 [l0, l1, l2, l3, l4, some (.int x)] st h Q = V 91 94 [l0, l1, l2, l3, p_dl l4, some (.int (x + 1))] st h Q := V_iinc (x := x) (by decide +kernel : decode (p_c 91) 91 = .ok (.iinc 5 1, 3)) (by decide) rfl (Nat.le_of_ble_eq_true rfl)
theorem e91_94 : V 91 94 L st h Q = V 91 60 L st h Q := V_goto (by decide +kernel : decode (p_c 91) 94 = .ok (.goto (-34), 3)) (by decide)
theorem e91_97 : V 91 97 [l0, l1, l2, some (.int x), l4, l5] st h Q = V 91 98 [l0, l1, l2, some (.int x), l4, l5] (.int x :: st) h Q := V_nx (by decide +kernel : decode (p_c 91) 97 = .ok (.iload_n 3, 1)) rfl rfl
theorem e91_98 : V 91 98 L (.int x :: st) h Q = if x = 0 then V 91 101 L st h Q else V 91 113 L st h Q := (V_ifc (by decide +kernel : decode (p_c 91) 98 = .ok (.ifCond .ne 15, 3)) (by decide)).trans i_ne
theorem e91_101 : V 91 101 [some (.ref a), l1, l2, l3, l4, l5] st h Q = V 91 102 [some (.ref a), l1, l2, l3, l4, l5] (.ref a :: st) h Q := V_nx (by decide +kernel : decode (p_c 91) 101 = .ok (.aload_n 0, 1)) rfl rfl
theorem e91_102 : V 91 102 L (.ref a :: st) h Q = (p_ok1 [11] 1 (p_get h a) ∧ V 91 105 L (p_fv 1 (p_get h a) :: st) h Q) := V_gf (t := (3, 1, "WaterShoulders")) (by decide +kernel : decode (p_c 91) 102 = .ok (.getfield 19, 3)) (by decide +kernel)
theorem e91_105 : V 91 105 [some (.ref a), l1, l2, l3, l4, l5] st h Q = V 91 106 [some (.ref a), l1, l2, l3, l4, l5] (.ref a :: st) h Q := V_nx (by decide +kernel : decode (p_c 91) 105 = .ok (.aload_n 0, 1)) rfl rfl
theorem e91_106 : V 91 106 L (.ref a :: st) h Q = (p_ok1 [11] 3 (p_get h a) ∧ V 91 109 L (p_fv 3 (p_get h a) :: st) h Q) := V_gf (t := (3, 1, "WaterShoulders")) (by decide +kernel : decode (p_c 91) 106 = .ok (.getfield 27, 3)) (by decide +kernel)
theorem e91_109 : V 91 109 L (.ref b1 :: .ref a :: st) h Q = ((p_cn1 (p_get h a) = 9 ∧ p_sm st) ∧ Vm 64 [.ref a, .ref b1] h (Kt 91 112 L st Q)) := V_iv (n := 1) (as := [.ref b1]) (ci := 9) (z := 64) (by decide +kernel : decode (p_c 91) 109 = .ok (.invokevirtual 177, 3)) (by decide +kernel) rfl rfl (by decide +kernel) rfl
theorem e91_112 : V 91 112 L [.int x] h Q = Q (some (.int x)) h := V_ri (by decide +kernel : decode (p_c 91) 112 = .ok (.ireturn, 1)) rfl
theorem e91_113 : V 91 113 [l0, l1, l2, some (.int x), l4, l5] st h Q = V 91 114 [l0, l1, l2, some (.int x), l4, l5] (.int x :: st) h Q := V_nx (by decide +kernel : decode (p_c 91) 113 = .ok (.iload_n 3, 1)) rfl rfl
theorem e91_114 : V 91 114 L st h Q = V 91 115 L (.int 1 :: st) h Q := V_c (by decide +kernel : decode (p_c 91) 114 = .ok (.iconst 1, 1)) (by decide)
theorem e91_115 : V 91 115 L (.int z :: .int x :: st) h Q = if x = z then V 91 118 L st h Q else V 91 129 L st h Q := (V_icmp (by decide +kernel : decode (p_c 91) 115 = .ok (.if_icmp .ne 14, 3)) (by decide)).trans i_ne
theorem e91_118 : V 91 118 [some (.ref a), l1, l2, l3, l4, l5] st h Q = V 91 119 [some (.ref a), l1, l2, l3, l4, l5] (.ref a :: st) h Q := V_nx (by decide +kernel : decode (p_c 91) 118 = .ok (.aload_n 0, 1)) rfl rfl
theorem e91_119 : V 91 119 [some (.ref a), l1, l2, l3, l4, l5] st h Q = V 91 120 [some (.ref a), l1, l2, l3, l4, l5] (.ref a :: st) h Q := V_nx (by decide +kernel : decode (p_c 91) 119 = .ok (.aload_n 0, 1)) rfl rfl
theorem e91_120 : V 91 120 L (.ref a :: st) h Q = (p_ok1 [11] 3 (p_get h a) ∧ V 91 123 L (p_fv 3 (p_get h a) :: st) h Q) := V_gf (t := (3, 1, "WaterShoulders")) (by decide +kernel : decode (p_c 91) 120 = .ok (.getfield 27, 3)) (by decide +kernel)
theorem e91_123 : V 91 123 L (.ref b1 :: .ref a :: st) h Q = ((p_cn1 (p_get h a) = 11 ∧ p_sm st) ∧ Vm 104 [.ref a, .ref b1] h (Kt 91 126 L st Q)) := V_iv (n := 1) (as := [.ref b1]) (ci := 11) (z := 104) (by decide +kernel : decode (p_c 91) 123 = .ok (.invokevirtual 255, 3)) (by decide +kernel) rfl rfl (by decide +kernel) rfl
theorem e91_126 : V 91 126 L st h Q = V 91 131 L st h Q := V_goto (by decide +kernel : decode (p_c 91) 126 = .ok (.goto 5, 3)) (by decide)
theorem e91_129 : V 91 129 [l0, l1, l2, l3, some (.int x), l5] st h Q = V 91 131 [l0, l1, l2, l3, some (.int x), l5] (.int x :: st) h Q := V_nx (by decide +kernel : decode (p_c 91) 129 = .ok (.iload 4, 2)) rfl rfl
theorem e91_131 : V 91 131 L [.int x] h Q = Q (some (.int x)) h := V_ri (by decide +kernel : decode (p_c 91) 131 = .ok (.ireturn, 1)) rfl
theorem m91 : Vm 91 [.ref a, .int x1, .int x2, .int x3] h Q = V 91 0 [some (.ref a), some (.int x1), some (.int x2), some (.int x3), none, none] [] h Q := rfl
theorem e92_0 : V 92 0 [some (.ref a), l1] st h Q = V 92 1 [some (.ref a), l1] (.ref a :: st) h Q := V_nx (by decide +kernel : decode (p_c 92) 0 = .ok (.aload_n 0, 1)) rfl rfl
theorem e92_1 : V 92 1 L (.ref a :: st) h Q = (p_ok1 [11] 1 (p_get h a) ∧ V 92 4 L (p_fv 1 (p_get h a) :: st) h Q) := V_gf (t := (3, 1, "WaterShoulders")) (by decide +kernel : decode (p_c 92) 1 = .ok (.getfield 19, 3)) (by decide +kernel)
theorem e92_4 : V 92 4 L (.ref a :: st) h Q = (p_ok1 [9] 2 (p_get h a) ∧ V 92 7 L (p_fv 2 (p_get h a) :: st) h Q) := V_gf (t := (0, 0, "WaterShoulders$Stair")) (by decide +kernel : decode (p_c 92) 4 = .ok (.getfield 104, 3)) (by decide +kernel)
theorem e92_7 : V 92 7 L (.int x :: st) h Q = if x = 0 then V 92 10 L st h Q else V 92 13 L st h Q := (V_ifc (by decide +kernel : decode (p_c 92) 7 = .ok (.ifCond .ne 6, 3)) (by decide)).trans i_ne
theorem e92_10 : V 92 10 L st h Q = V 92 12 L (.int (-103) :: st) h Q := V_b (by decide +kernel : decode (p_c 92) 10 = .ok (.bipush (-103), 2)) (by decide)
theorem e92_12 : V 92 12 L [.int x] h Q = Q (some (.int x)) h := V_ri (by decide +kernel : decode (p_c 92) 12 = .ok (.ireturn, 1)) rfl
theorem e92_13 : V 92 13 [some (.ref a), l1] st h Q = V 92 14 [some (.ref a), l1] (.ref a :: st) h Q := V_nx (by decide +kernel : decode (p_c 92) 13 = .ok (.aload_n 0, 1)) rfl rfl
theorem e92_14 : V 92 14 L (.ref a :: st) h Q = (p_ok1 [11] 6 (p_get h a) ∧ V 92 17 L (p_fv 6 (p_get h a) :: st) h Q) := V_gf (t := (3, 1, "WaterShoulders")) (by decide +kernel : decode (p_c 92) 14 = .ok (.getfield 46, 3)) (by decide +kernel)
theorem e92_17 : V 92 17 [some (.ref a), l1] st h Q = V 92 18 [some (.ref a), l1] (.ref a :: st) h Q := V_nx (by decide +kernel : decode (p_c 92) 17 = .ok (.aload_n 0, 1)) rfl rfl
theorem e92_18 : V 92 18 L (.ref a :: st) h Q = (p_ok1 [11] 11 (p_get h a) ∧ V 92 21 L (p_fv 11 (p_get h a) :: st) h Q) := V_gf (t := (0, 0, "WaterShoulders")) (by decide +kernel : decode (p_c 92) 18 = .ok (.getfield 101, 3)) (by decide +kernel)
theorem e92_21 : V 92 21 L (.int x :: .ref a :: st) h Q = (p_ok1 [3] 2 (p_get h a) ∧ V 92 24 L st (p_set h a (p_fs 2 (.int x) (p_get h a))) Q) := V_pf0 (fin := 0) (ref := "WaterShoulders$Image") (by decide +kernel : decode (p_c 92) 21 = .ok (.putfield 258, 3)) (by decide +kernel) (by decide +kernel)
theorem e92_24 : V 92 24 [some (.ref a), l1] st h Q = V 92 25 [some (.ref a), l1] (.ref a :: st) h Q := V_nx (by decide +kernel : decode (p_c 92) 24 = .ok (.aload_n 0, 1)) rfl rfl
theorem e92_25 : V 92 25 L (.ref a :: st) h Q = (p_ok1 [11] 6 (p_get h a) ∧ V 92 28 L (p_fv 6 (p_get h a) :: st) h Q) := V_gf (t := (3, 1, "WaterShoulders")) (by decide +kernel : decode (p_c 92) 25 = .ok (.getfield 46, 3)) (by decide +kernel)
theorem e92_28 : V 92 28 [some (.ref a), l1] st h Q = V 92 29 [some (.ref a), l1] (.ref a :: st) h Q := V_nx (by decide +kernel : decode (p_c 92) 28 = .ok (.aload_n 0, 1)) rfl rfl
theorem e92_29 : V 92 29 L (.ref a :: st) h Q = (p_ok1 [11] 9 (p_get h a) ∧ V 92 32 L (p_fv 9 (p_get h a) :: st) h Q) := V_gf (t := (0, 0, "WaterShoulders")) (by decide +kernel : decode (p_c 92) 29 = .ok (.getfield 92, 3)) (by decide +kernel)
theorem e92_32 : V 92 32 L (.int x :: .ref a :: st) h Q = (p_ok1 [3] 3 (p_get h a) ∧ V 92 35 L st (p_set h a (p_fs 3 (.int x) (p_get h a))) Q) := V_pf0 (fin := 0) (ref := "WaterShoulders$Image") (by decide +kernel : decode (p_c 92) 32 = .ok (.putfield 259, 3)) (by decide +kernel) (by decide +kernel)
theorem e92_35 : V 92 35 [some (.ref a), l1] st h Q = V 92 36 [some (.ref a), l1] (.ref a :: st) h Q := V_nx (by decide +kernel : decode (p_c 92) 35 = .ok (.aload_n 0, 1)) rfl rfl
theorem e92_36 : V 92 36 L (.ref a :: st) h Q = (p_ok1 [11] 6 (p_get h a) ∧ V 92 39 L (p_fv 6 (p_get h a) :: st) h Q) := V_gf (t := (3, 1, "WaterShoulders")) (by decide +kernel : decode (p_c 92) 36 = .ok (.getfield 46, 3)) (by decide +kernel)
theorem e92_39 : V 92 39 [some (.ref a), l1] st h Q = V 92 40 [some (.ref a), l1] (.ref a :: st) h Q := V_nx (by decide +kernel : decode (p_c 92) 39 = .ok (.aload_n 0, 1)) rfl rfl
theorem e92_40 : V 92 40 L (.ref a :: st) h Q = (p_ok1 [11] 10 (p_get h a) ∧ V 92 43 L (p_fv 10 (p_get h a) :: st) h Q) := V_gf (t := (0, 0, "WaterShoulders")) (by decide +kernel : decode (p_c 92) 40 = .ok (.getfield 95, 3)) (by decide +kernel)
theorem e92_43 : V 92 43 L (.int x :: .ref a :: st) h Q = (p_ok1 [3] 4 (p_get h a) ∧ V 92 46 L st (p_set h a (p_fs 4 (.int x) (p_get h a))) Q) := V_pf0 (fin := 0) (ref := "WaterShoulders$Image") (by decide +kernel : decode (p_c 92) 43 = .ok (.putfield 260, 3)) (by decide +kernel) (by decide +kernel)
theorem e92_46 : V 92 46 [some (.ref a), l1] st h Q = V 92 47 [some (.ref a), l1] (.ref a :: st) h Q := V_nx (by decide +kernel : decode (p_c 92) 46 = .ok (.aload_n 0, 1)) rfl rfl
theorem e92_47 : V 92 47 L (.ref a :: st) h Q = (p_ok1 [11] 2 (p_get h a) ∧ V 92 50 L (p_fv 2 (p_get h a) :: st) h Q) := V_gf (t := (3, 1, "WaterShoulders")) (by decide +kernel : decode (p_c 92) 47 = .ok (.getfield 23, 3)) (by decide +kernel)
theorem e92_50 : V 92 50 L st h Q = V 92 51 L (.int 0 :: st) h Q := V_c (by decide +kernel : decode (p_c 92) 50 = .ok (.iconst 0, 1)) (by decide)
theorem e92_51 : V 92 51 [some (.ref a), l1] st h Q = V 92 52 [some (.ref a), l1] (.ref a :: st) h Q := V_nx (by decide +kernel : decode (p_c 92) 51 = .ok (.aload_n 0, 1)) rfl rfl
theorem e92_52 : V 92 52 L (.ref a :: st) h Q = (p_ok1 [11] 6 (p_get h a) ∧ V 92 55 L (p_fv 6 (p_get h a) :: st) h Q) := V_gf (t := (3, 1, "WaterShoulders")) (by decide +kernel : decode (p_c 92) 52 = .ok (.getfield 46, 3)) (by decide +kernel)
theorem e92_55 : V 92 55 L (.ref a :: st) h Q = (p_ok1 [3] 0 (p_get h a) ∧ V 92 58 L (p_fv 0 (p_get h a) :: st) h Q) := V_gf (t := (3, 2, "WaterShoulders$Image")) (by decide +kernel : decode (p_c 92) 55 = .ok (.getfield 261, 3)) (by decide +kernel)
theorem e92_58 : V 92 58 L st h Q = V 92 59 L (.int 0 :: st) h Q := V_c (by decide +kernel : decode (p_c 92) 58 = .ok (.iconst 0, 1)) (by decide)
theorem e92_59 : V 92 59 L st h Q = V 92 60 L (.int 4 :: st) h Q := V_c (by decide +kernel : decode (p_c 92) 59 = .ok (.iconst 4, 1)) (by decide)
theorem e92_60 : V 92 60 L (.int x3 :: .int x2 :: .ref b :: .int x1 :: .ref a :: st) h Q = ((p_sm st ∧ p_aci x1 x2 x3 (p_get h a) (p_get h b)) ∧ V 92 63 L st (p_set h b (p_acv x1 x2 x3 (p_get h a) (p_get h b))) Q) := V_ac (by decide +kernel : decode (p_c 92) 60 = .ok (.invokestatic 244, 3)) (by decide +kernel) (by decide +kernel) (by decide +kernel) (by decide +kernel)
theorem e92_63 : V 92 63 [some (.ref a), l1] st h Q = V 92 64 [some (.ref a), l1] (.ref a :: st) h Q := V_nx (by decide +kernel : decode (p_c 92) 63 = .ok (.aload_n 0, 1)) rfl rfl
theorem e92_64 : V 92 64 L (.ref a :: st) h Q = (p_ok1 [11] 6 (p_get h a) ∧ V 92 67 L (p_fv 6 (p_get h a) :: st) h Q) := V_gf (t := (3, 1, "WaterShoulders")) (by decide +kernel : decode (p_c 92) 64 = .ok (.getfield 46, 3)) (by decide +kernel)
theorem e92_67 : V 92 67 L (.ref a :: st) h Q = (p_ok1 [3] 1 (p_get h a) ∧ V 92 70 L (p_fv 1 (p_get h a) :: st) h Q) := V_gf (t := (3, 2, "WaterShoulders$Image")) (by decide +kernel : decode (p_c 92) 67 = .ok (.getfield 262, 3)) (by decide +kernel)
theorem e92_70 : V 92 70 [some (.ref a), l1] st h Q = V 92 71 [some (.ref a), l1] (.ref a :: st) h Q := V_nx (by decide +kernel : decode (p_c 92) 70 = .ok (.aload_n 0, 1)) rfl rfl
theorem e92_71 : V 92 71 L (.ref a :: st) h Q = (p_ok1 [11] 5 (p_get h a) ∧ V 92 74 L (p_fv 5 (p_get h a) :: st) h Q) := V_gf (t := (3, 1, "WaterShoulders")) (by decide +kernel : decode (p_c 92) 71 = .ok (.getfield 39, 3)) (by decide +kernel)
theorem e92_74 : V 92 74 L (.ref b1 :: .ref a :: st) h Q = ((p_cn1 (p_get h a) = 4 ∧ p_sm st) ∧ Vm 16 [.ref a, .ref b1] h (Kt 92 77 L st Q)) := V_iv (n := 1) (as := [.ref b1]) (ci := 4) (z := 16) (by decide +kernel : decode (p_c 92) 74 = .ok (.invokevirtual 263, 3)) (by decide +kernel) rfl rfl (by decide +kernel) rfl
theorem e92_77 : V 92 77 L st h Q = V 92 78 L (.int 0 :: st) h Q := V_c (by decide +kernel : decode (p_c 92) 77 = .ok (.iconst 0, 1)) (by decide)
theorem e92_78 : V 92 78 [l0, l1] (.int x :: st) h Q = V 92 79 [p_dl l0, some (.int x)] st h Q := V_nx (by decide +kernel : decode (p_c 92) 78 = .ok (.istore_n 1, 1)) rfl rfl
theorem e92_79 : V 92 79 [l0, some (.int x)] st h Q = V 92 80 [l0, some (.int x)] (.int x :: st) h Q := V_nx (by decide +kernel : decode (p_c 92) 79 = .ok (.iload_n 1, 1)) rfl rfl
theorem e92_80 : V 92 80 [some (.ref a), l1] st h Q = V 92 81 [some (.ref a), l1] (.ref a :: st) h Q := V_nx (by decide +kernel : decode (p_c 92) 80 = .ok (.aload_n 0, 1)) rfl rfl
theorem e92_81 : V 92 81 L (.ref a :: st) h Q = (p_ok1 [11] 9 (p_get h a) ∧ V 92 84 L (p_fv 9 (p_get h a) :: st) h Q) := V_gf (t := (0, 0, "WaterShoulders")) (by decide +kernel : decode (p_c 92) 81 = .ok (.getfield 92, 3)) (by decide +kernel)
theorem e92_84 : V 92 84 L (.int z :: .int x :: st) h Q = if x < z then V 92 87 L st h Q else V 92 107 L st h Q := (V_icmp (by decide +kernel : decode (p_c 92) 84 = .ok (.if_icmp .ge 23, 3)) (by decide)).trans i_ge
theorem e92_87 : V 92 87 [some (.ref a), l1] st h Q = V 92 88 [some (.ref a), l1] (.ref a :: st) h Q := V_nx (by decide +kernel : decode (p_c 92) 87 = .ok (.aload_n 0, 1)) rfl rfl
theorem e92_88 : V 92 88 L (.ref a :: st) h Q = (p_ok1 [11] 6 (p_get h a) ∧ V 92 91 L (p_fv 6 (p_get h a) :: st) h Q) := V_gf (t := (3, 1, "WaterShoulders")) (by decide +kernel : decode (p_c 92) 88 = .ok (.getfield 46, 3)) (by decide +kernel)
theorem e92_91 : V 92 91 [l0, some (.int x)] st h Q = V 92 92 [l0, some (.int x)] (.int x :: st) h Q := V_nx (by decide +kernel : decode (p_c 92) 91 = .ok (.iload_n 1, 1)) rfl rfl
theorem e92_92 : V 92 92 [some (.ref a), l1] st h Q = V 92 93 [some (.ref a), l1] (.ref a :: st) h Q := V_nx (by decide +kernel : decode (p_c 92) 92 = .ok (.aload_n 0, 1)) rfl rfl
theorem e92_93 : V 92 93 L (.ref a :: st) h Q = (p_ok1 [11] 4 (p_get h a) ∧ V 92 96 L (p_fv 4 (p_get h a) :: st) h Q) := V_gf (t := (3, 1, "WaterShoulders")) (by decide +kernel : decode (p_c 92) 93 = .ok (.getfield 32, 3)) (by decide +kernel)
theorem e92_96 : V 92 96 [l0, some (.int x)] st h Q = V 92 97 [l0, some (.int x)] (.int x :: st) h Q := V_nx (by decide +kernel : decode (p_c 92) 96 = .ok (.iload_n 1, 1)) rfl rfl
theorem e92_97 : V 92 97 L (.int i :: .ref a :: st) h Q = (p_qok i (p_get h a) ∧ V 92 98 L (va_rf (p_qvl i (p_get h a)) :: st) h Q) := V_aal (by decide +kernel : decode (p_c 92) 97 = .ok (.aaload, 1))
theorem e92_98 : V 92 98 L (.ref b1 :: .int x1 :: .ref a :: st) h Q = ((p_cn1 (p_get h a) = 3 ∧ p_sm st) ∧ Vm 10 [.ref a, .int x1, .ref b1] h (Kt 92 101 L st Q)) := V_iv (n := 2) (as := [.ref b1, .int x1]) (ci := 3) (z := 10) (by decide +kernel : decode (p_c 92) 98 = .ok (.invokevirtual 267, 3)) (by decide +kernel) rfl rfl (by decide +kernel) rfl
theorem e92_101 : V 92 101 [l0, some (.int x)] st h Q = V 92 104 [p_dl l0, some (.int (x + 1))] st h Q := V_iinc (x := x) (by decide +kernel : decode (p_c 92) 101 = .ok (.iinc 1 1, 3)) (by decide) rfl (Nat.le_of_ble_eq_true rfl)
theorem e92_104 : V 92 104 L st h Q = V 92 79 L st h Q := V_goto (by decide +kernel : decode (p_c 92) 104 = .ok (.goto (-25), 3)) (by decide)
theorem e92_107 : V 92 107 [some (.ref a), l1] st h Q = V 92 108 [some (.ref a), l1] (.ref a :: st) h Q := V_nx (by decide +kernel : decode (p_c 92) 107 = .ok (.aload_n 0, 1)) rfl rfl
theorem e92_108 : V 92 108 L (.ref a :: st) h Q = (p_ok1 [11] 9 (p_get h a) ∧ V 92 111 L (p_fv 9 (p_get h a) :: st) h Q) := V_gf (t := (0, 0, "WaterShoulders")) (by decide +kernel : decode (p_c 92) 108 = .ok (.getfield 92, 3)) (by decide +kernel)
theorem e92_111 : V 92 111 L [.int x] h Q = Q (some (.int x)) h := V_ri (by decide +kernel : decode (p_c 92) 111 = .ok (.ireturn, 1)) rfl
theorem m92 : Vm 92 [.ref a] h Q = V 92 0 [some (.ref a), none] [] h Q := rfl
theorem e93_0 : V 93 0 [some (.ref a), l1] st h Q = V 93 1 [some (.ref a), l1] (.ref a :: st) h Q := V_nx (by decide +kernel : decode (p_c 93) 0 = .ok (.aload_n 0, 1)) rfl rfl
theorem e93_1 : V 93 1 L (.ref a :: st) h Q = (p_ok1 [11] 6 (p_get h a) ∧ V 93 4 L (p_fv 6 (p_get h a) :: st) h Q) := V_gf (t := (3, 1, "WaterShoulders")) (by decide +kernel : decode (p_c 93) 1 = .ok (.getfield 46, 3)) (by decide +kernel)
theorem e93_4 : V 93 4 L (.ref a :: st) h Q = (p_ok1 [3] 2 (p_get h a) ∧ V 93 7 L (p_fv 2 (p_get h a) :: st) h Q) := V_gf (t := (0, 0, "WaterShoulders$Image")) (by decide +kernel : decode (p_c 93) 4 = .ok (.getfield 258, 3)) (by decide +kernel)
theorem e93_7 : V 93 7 L (.int x :: st) h Q = if x = 0 then V 93 24 L st h Q else V 93 10 L st h Q := (V_ifc (by decide +kernel : decode (p_c 93) 7 = .ok (.ifCond .eq 17, 3)) (by decide)).trans i_eq
theorem e93_10 : V 93 10 [some (.ref a), l1] st h Q = V 93 11 [some (.ref a), l1] (.ref a :: st) h Q := V_nx (by decide +kernel : decode (p_c 93) 10 = .ok (.aload_n 0, 1)) rfl rfl
theorem e93_11 : V 93 11 L (.ref a :: st) h Q = (p_ok1 [11] 6 (p_get h a) ∧ V 93 14 L (p_fv 6 (p_get h a) :: st) h Q) := V_gf (t := (3, 1, "WaterShoulders")) (by decide +kernel : decode (p_c 93) 11 = .ok (.getfield 46, 3)) (by decide +kernel)
theorem e93_14 : V 93 14 L (.ref a :: st) h Q = (p_ok1 [3] 2 (p_get h a) ∧ V 93 17 L (p_fv 2 (p_get h a) :: st) h Q) := V_gf (t := (0, 0, "WaterShoulders$Image")) (by decide +kernel : decode (p_c 93) 14 = .ok (.getfield 258, 3)) (by decide +kernel)
theorem e93_17 : V 93 17 [some (.ref a), l1] st h Q = V 93 18 [some (.ref a), l1] (.ref a :: st) h Q := V_nx (by decide +kernel : decode (p_c 93) 17 = .ok (.aload_n 0, 1)) rfl rfl
theorem e93_18 : V 93 18 L (.ref a :: st) h Q = (p_ok1 [11] 11 (p_get h a) ∧ V 93 21 L (p_fv 11 (p_get h a) :: st) h Q) := V_gf (t := (0, 0, "WaterShoulders")) (by decide +kernel : decode (p_c 93) 18 = .ok (.getfield 101, 3)) (by decide +kernel)
theorem e93_21 : V 93 21 L (.int z :: .int x :: st) h Q = if x = z then V 93 27 L st h Q else V 93 24 L st h Q := (V_icmp (by decide +kernel : decode (p_c 93) 21 = .ok (.if_icmp .eq 6, 3)) (by decide)).trans i_eq
theorem e93_24 : V 93 24 L st h Q = V 93 26 L (.int (-103) :: st) h Q := V_b (by decide +kernel : decode (p_c 93) 24 = .ok (.bipush (-103), 2)) (by decide)
theorem e93_26 : V 93 26 L [.int x] h Q = Q (some (.int x)) h := V_ri (by decide +kernel : decode (p_c 93) 26 = .ok (.ireturn, 1)) rfl
theorem e93_27 : V 93 27 [some (.ref a), l1] st h Q = V 93 28 [some (.ref a), l1] (.ref a :: st) h Q := V_nx (by decide +kernel : decode (p_c 93) 27 = .ok (.aload_n 0, 1)) rfl rfl
theorem e93_28 : V 93 28 [some (.ref a), l1] st h Q = V 93 29 [some (.ref a), l1] (.ref a :: st) h Q := V_nx (by decide +kernel : decode (p_c 93) 28 = .ok (.aload_n 0, 1)) rfl rfl
theorem e93_29 : V 93 29 L (.ref a :: st) h Q = (p_ok1 [11] 6 (p_get h a) ∧ V 93 32 L (p_fv 6 (p_get h a) :: st) h Q) := V_gf (t := (3, 1, "WaterShoulders")) (by decide +kernel : decode (p_c 93) 29 = .ok (.getfield 46, 3)) (by decide +kernel)
theorem e93_32 : V 93 32 L (.ref a :: st) h Q = (p_ok1 [3] 3 (p_get h a) ∧ V 93 35 L (p_fv 3 (p_get h a) :: st) h Q) := V_gf (t := (0, 0, "WaterShoulders$Image")) (by decide +kernel : decode (p_c 93) 32 = .ok (.getfield 259, 3)) (by decide +kernel)
theorem e93_35 : V 93 35 L (.int x :: .ref a :: st) h Q = (p_ok1 [11] 9 (p_get h a) ∧ V 93 38 L st (p_set h a (p_fs 9 (.int x) (p_get h a))) Q) := V_pf0 (fin := 0) (ref := "WaterShoulders") (by decide +kernel : decode (p_c 93) 35 = .ok (.putfield 92, 3)) (by decide +kernel) (by decide +kernel)
theorem e93_38 : V 93 38 [some (.ref a), l1] st h Q = V 93 39 [some (.ref a), l1] (.ref a :: st) h Q := V_nx (by decide +kernel : decode (p_c 93) 38 = .ok (.aload_n 0, 1)) rfl rfl
theorem e93_39 : V 93 39 [some (.ref a), l1] st h Q = V 93 40 [some (.ref a), l1] (.ref a :: st) h Q := V_nx (by decide +kernel : decode (p_c 93) 39 = .ok (.aload_n 0, 1)) rfl rfl
theorem e93_40 : V 93 40 L (.ref a :: st) h Q = (p_ok1 [11] 6 (p_get h a) ∧ V 93 43 L (p_fv 6 (p_get h a) :: st) h Q) := V_gf (t := (3, 1, "WaterShoulders")) (by decide +kernel : decode (p_c 93) 40 = .ok (.getfield 46, 3)) (by decide +kernel)
theorem e93_43 : V 93 43 L (.ref a :: st) h Q = (p_ok1 [3] 4 (p_get h a) ∧ V 93 46 L (p_fv 4 (p_get h a) :: st) h Q) := V_gf (t := (0, 0, "WaterShoulders$Image")) (by decide +kernel : decode (p_c 93) 43 = .ok (.getfield 260, 3)) (by decide +kernel)
theorem e93_46 : V 93 46 L (.int x :: .ref a :: st) h Q = (p_ok1 [11] 10 (p_get h a) ∧ V 93 49 L st (p_set h a (p_fs 10 (.int x) (p_get h a))) Q) := V_pf0 (fin := 0) (ref := "WaterShoulders") (by decide +kernel : decode (p_c 93) 46 = .ok (.putfield 95, 3)) (by decide +kernel) (by decide +kernel)
theorem e93_49 : V 93 49 [some (.ref a), l1] st h Q = V 93 50 [some (.ref a), l1] (.ref a :: st) h Q := V_nx (by decide +kernel : decode (p_c 93) 49 = .ok (.aload_n 0, 1)) rfl rfl
theorem e93_50 : V 93 50 L (.ref a :: st) h Q = (p_ok1 [11] 6 (p_get h a) ∧ V 93 53 L (p_fv 6 (p_get h a) :: st) h Q) := V_gf (t := (3, 1, "WaterShoulders")) (by decide +kernel : decode (p_c 93) 50 = .ok (.getfield 46, 3)) (by decide +kernel)
theorem e93_53 : V 93 53 L (.ref a :: st) h Q = (p_ok1 [3] 0 (p_get h a) ∧ V 93 56 L (p_fv 0 (p_get h a) :: st) h Q) := V_gf (t := (3, 2, "WaterShoulders$Image")) (by decide +kernel : decode (p_c 93) 53 = .ok (.getfield 261, 3)) (by decide +kernel)
theorem e93_56 : V 93 56 L st h Q = V 93 57 L (.int 0 :: st) h Q := V_c (by decide +kernel : decode (p_c 93) 56 = .ok (.iconst 0, 1)) (by decide)
theorem e93_57 : V 93 57 [some (.ref a), l1] st h Q = V 93 58 [some (.ref a), l1] (.ref a :: st) h Q := V_nx (by decide +kernel : decode (p_c 93) 57 = .ok (.aload_n 0, 1)) rfl rfl
theorem e93_58 : V 93 58 L (.ref a :: st) h Q = (p_ok1 [11] 2 (p_get h a) ∧ V 93 61 L (p_fv 2 (p_get h a) :: st) h Q) := V_gf (t := (3, 1, "WaterShoulders")) (by decide +kernel : decode (p_c 93) 58 = .ok (.getfield 23, 3)) (by decide +kernel)
theorem e93_61 : V 93 61 L st h Q = V 93 62 L (.int 0 :: st) h Q := V_c (by decide +kernel : decode (p_c 93) 61 = .ok (.iconst 0, 1)) (by decide)
theorem e93_62 : V 93 62 L st h Q = V 93 63 L (.int 4 :: st) h Q := V_c (by decide +kernel : decode (p_c 93) 62 = .ok (.iconst 4, 1)) (by decide)
theorem e93_63 : V 93 63 L (.int x3 :: .int x2 :: .ref b :: .int x1 :: .ref a :: st) h Q = ((p_sm st ∧ p_aci x1 x2 x3 (p_get h a) (p_get h b)) ∧ V 93 66 L st (p_set h b (p_acv x1 x2 x3 (p_get h a) (p_get h b))) Q) := V_ac (by decide +kernel : decode (p_c 93) 63 = .ok (.invokestatic 244, 3)) (by decide +kernel) (by decide +kernel) (by decide +kernel) (by decide +kernel)
theorem e93_66 : V 93 66 [some (.ref a), l1] st h Q = V 93 67 [some (.ref a), l1] (.ref a :: st) h Q := V_nx (by decide +kernel : decode (p_c 93) 66 = .ok (.aload_n 0, 1)) rfl rfl
theorem e93_67 : V 93 67 L (.ref a :: st) h Q = (p_ok1 [11] 5 (p_get h a) ∧ V 93 70 L (p_fv 5 (p_get h a) :: st) h Q) := V_gf (t := (3, 1, "WaterShoulders")) (by decide +kernel : decode (p_c 93) 67 = .ok (.getfield 39, 3)) (by decide +kernel)
theorem e93_70 : V 93 70 [some (.ref a), l1] st h Q = V 93 71 [some (.ref a), l1] (.ref a :: st) h Q := V_nx (by decide +kernel : decode (p_c 93) 70 = .ok (.aload_n 0, 1)) rfl rfl
theorem e93_71 : V 93 71 L (.ref a :: st) h Q = (p_ok1 [11] 6 (p_get h a) ∧ V 93 74 L (p_fv 6 (p_get h a) :: st) h Q) := V_gf (t := (3, 1, "WaterShoulders")) (by decide +kernel : decode (p_c 93) 71 = .ok (.getfield 46, 3)) (by decide +kernel)
theorem e93_74 : V 93 74 L (.ref a :: st) h Q = (p_ok1 [3] 1 (p_get h a) ∧ V 93 77 L (p_fv 1 (p_get h a) :: st) h Q) := V_gf (t := (3, 2, "WaterShoulders$Image")) (by decide +kernel : decode (p_c 93) 74 = .ok (.getfield 262, 3)) (by decide +kernel)
theorem e93_77 : V 93 77 L (.ref b1 :: .ref a :: st) h Q = ((p_cn1 (p_get h a) = 4 ∧ p_sm st) ∧ Vm 16 [.ref a, .ref b1] h (Kt 93 80 L st Q)) := V_iv (n := 1) (as := [.ref b1]) (ci := 4) (z := 16) (by decide +kernel : decode (p_c 93) 77 = .ok (.invokevirtual 263, 3)) (by decide +kernel) rfl rfl (by decide +kernel) rfl
theorem e93_80 : V 93 80 L st h Q = V 93 81 L (.int 0 :: st) h Q := V_c (by decide +kernel : decode (p_c 93) 80 = .ok (.iconst 0, 1)) (by decide)
theorem e93_81 : V 93 81 [l0, l1] (.int x :: st) h Q = V 93 82 [p_dl l0, some (.int x)] st h Q := V_nx (by decide +kernel : decode (p_c 93) 81 = .ok (.istore_n 1, 1)) rfl rfl
theorem e93_82 : V 93 82 [l0, some (.int x)] st h Q = V 93 83 [l0, some (.int x)] (.int x :: st) h Q := V_nx (by decide +kernel : decode (p_c 93) 82 = .ok (.iload_n 1, 1)) rfl rfl
theorem e93_83 : V 93 83 [some (.ref a), l1] st h Q = V 93 84 [some (.ref a), l1] (.ref a :: st) h Q := V_nx (by decide +kernel : decode (p_c 93) 83 = .ok (.aload_n 0, 1)) rfl rfl
theorem e93_84 : V 93 84 L (.ref a :: st) h Q = (p_ok1 [11] 9 (p_get h a) ∧ V 93 87 L (p_fv 9 (p_get h a) :: st) h Q) := V_gf (t := (0, 0, "WaterShoulders")) (by decide +kernel : decode (p_c 93) 84 = .ok (.getfield 92, 3)) (by decide +kernel)
theorem e93_87 : V 93 87 L (.int z :: .int x :: st) h Q = if x < z then V 93 90 L st h Q else V 93 110 L st h Q := (V_icmp (by decide +kernel : decode (p_c 93) 87 = .ok (.if_icmp .ge 23, 3)) (by decide)).trans i_ge
theorem e93_90 : V 93 90 [some (.ref a), l1] st h Q = V 93 91 [some (.ref a), l1] (.ref a :: st) h Q := V_nx (by decide +kernel : decode (p_c 93) 90 = .ok (.aload_n 0, 1)) rfl rfl
theorem e93_91 : V 93 91 L (.ref a :: st) h Q = (p_ok1 [11] 6 (p_get h a) ∧ V 93 94 L (p_fv 6 (p_get h a) :: st) h Q) := V_gf (t := (3, 1, "WaterShoulders")) (by decide +kernel : decode (p_c 93) 91 = .ok (.getfield 46, 3)) (by decide +kernel)
theorem e93_94 : V 93 94 [l0, some (.int x)] st h Q = V 93 95 [l0, some (.int x)] (.int x :: st) h Q := V_nx (by decide +kernel : decode (p_c 93) 94 = .ok (.iload_n 1, 1)) rfl rfl
theorem e93_95 : V 93 95 [some (.ref a), l1] st h Q = V 93 96 [some (.ref a), l1] (.ref a :: st) h Q := V_nx (by decide +kernel : decode (p_c 93) 95 = .ok (.aload_n 0, 1)) rfl rfl
theorem e93_96 : V 93 96 L (.ref a :: st) h Q = (p_ok1 [11] 4 (p_get h a) ∧ V 93 99 L (p_fv 4 (p_get h a) :: st) h Q) := V_gf (t := (3, 1, "WaterShoulders")) (by decide +kernel : decode (p_c 93) 96 = .ok (.getfield 32, 3)) (by decide +kernel)
theorem e93_99 : V 93 99 [l0, some (.int x)] st h Q = V 93 100 [l0, some (.int x)] (.int x :: st) h Q := V_nx (by decide +kernel : decode (p_c 93) 99 = .ok (.iload_n 1, 1)) rfl rfl
theorem e93_100 : V 93 100 L (.int i :: .ref a :: st) h Q = (p_qok i (p_get h a) ∧ V 93 101 L (va_rf (p_qvl i (p_get h a)) :: st) h Q) := V_aal (by decide +kernel : decode (p_c 93) 100 = .ok (.aaload, 1))
theorem e93_101 : V 93 101 L (.ref b1 :: .int x1 :: .ref a :: st) h Q = ((p_cn1 (p_get h a) = 3 ∧ p_sm st) ∧ Vm 11 [.ref a, .int x1, .ref b1] h (Kt 93 104 L st Q)) := V_iv (n := 2) (as := [.ref b1, .int x1]) (ci := 3) (z := 11) (by decide +kernel : decode (p_c 93) 101 = .ok (.invokevirtual 271, 3)) (by decide +kernel) rfl rfl (by decide +kernel) rfl
theorem e93_104 : V 93 104 [l0, some (.int x)] st h Q = V 93 107 [p_dl l0, some (.int (x + 1))] st h Q := V_iinc (x := x) (by decide +kernel : decode (p_c 93) 104 = .ok (.iinc 1 1, 3)) (by decide) rfl (Nat.le_of_ble_eq_true rfl)
theorem e93_107 : V 93 107 L st h Q = V 93 82 L st h Q := V_goto (by decide +kernel : decode (p_c 93) 107 = .ok (.goto (-25), 3)) (by decide)
theorem e93_110 : V 93 110 [some (.ref a), l1] st h Q = V 93 111 [some (.ref a), l1] (.ref a :: st) h Q := V_nx (by decide +kernel : decode (p_c 93) 110 = .ok (.aload_n 0, 1)) rfl rfl
theorem e93_111 : V 93 111 L (.ref a :: st) h Q = (p_ok1 [11] 9 (p_get h a) ∧ V 93 114 L (p_fv 9 (p_get h a) :: st) h Q) := V_gf (t := (0, 0, "WaterShoulders")) (by decide +kernel : decode (p_c 93) 111 = .ok (.getfield 92, 3)) (by decide +kernel)
theorem e93_114 : V 93 114 L [.int x] h Q = Q (some (.int x)) h := V_ri (by decide +kernel : decode (p_c 93) 114 = .ok (.ireturn, 1)) rfl
theorem m93 : Vm 93 [.ref a] h Q = V 93 0 [some (.ref a), none] [] h Q := rfl
theorem e94_0 : V 94 0 [l0, some (.int x)] st h Q = V 94 1 [l0, some (.int x)] (.int x :: st) h Q := V_nx (by decide +kernel : decode (p_c 94) 0 = .ok (.iload_n 1, 1)) rfl rfl
theorem e94_1 : V 94 1 L (.int x :: st) h Q = V 94 (if x = 0 then 48 else if x = 1 then 56 else if x = 2 then 61 else if x = 3 then 73 else if x = 4 then 78 else if x = 5 then 86 else if x = 6 then 94 else if x = 7 then 99 else 104) L st h Q := V_ts (fun z => if z = 0 then 48 else if z = 1 then 56 else if z = 2 then 61 else if z = 3 then 73 else if z = 4 then 78 else if z = 5 then 86 else if z = 6 then 94 else if z = 7 then 99 else 104) (by decide +kernel : decode (p_c 94) 1 = .ok (.tableswitch 103 0 7 #[47, 55, 60, 72, 77, 85, 93, 98], 47)) (by decide) (by
  intro z
  refine ⟨fun hz => ?_, fun hz => ?_⟩
  · have h_0 : ¬ z = 0 := by intro q; subst q; revert hz; decide
    have h_1 : ¬ z = 1 := by intro q; subst q; revert hz; decide
    have h_2 : ¬ z = 2 := by intro q; subst q; revert hz; decide
    have h_3 : ¬ z = 3 := by intro q; subst q; revert hz; decide
    have h_4 : ¬ z = 4 := by intro q; subst q; revert hz; decide
    have h_5 : ¬ z = 5 := by intro q; subst q; revert hz; decide
    have h_6 : ¬ z = 6 := by intro q; subst q; revert hz; decide
    have h_7 : ¬ z = 7 := by intro q; subst q; revert hz; decide
    simp only [h_0, h_1, h_2, h_3, h_4, h_5, h_6, h_7, if_false]
    rfl
  · have hc : z.toInt = 0 ∨ z.toInt = 1 ∨ z.toInt = 2 ∨ z.toInt = 3 ∨ z.toInt = 4 ∨ z.toInt = 5 ∨ z.toInt = 6 ∨ z.toInt = 7 := by omega
    rcases hc with hc | hc | hc | hc | hc | hc | hc | hc
    · have e : z = 0 := Int32.toInt_inj.mp (by rw [hc]; rfl)
      subst e
      exact ⟨47, rfl, by decide, rfl⟩
    · have e : z = 1 := Int32.toInt_inj.mp (by rw [hc]; rfl)
      subst e
      exact ⟨55, rfl, by decide, rfl⟩
    · have e : z = 2 := Int32.toInt_inj.mp (by rw [hc]; rfl)
      subst e
      exact ⟨60, rfl, by decide, rfl⟩
    · have e : z = 3 := Int32.toInt_inj.mp (by rw [hc]; rfl)
      subst e
      exact ⟨72, rfl, by decide, rfl⟩
    · have e : z = 4 := Int32.toInt_inj.mp (by rw [hc]; rfl)
      subst e
      exact ⟨77, rfl, by decide, rfl⟩
    · have e : z = 5 := Int32.toInt_inj.mp (by rw [hc]; rfl)
      subst e
      exact ⟨85, rfl, by decide, rfl⟩
    · have e : z = 6 := Int32.toInt_inj.mp (by rw [hc]; rfl)
      subst e
      exact ⟨93, rfl, by decide, rfl⟩
    · have e : z = 7 := Int32.toInt_inj.mp (by rw [hc]; rfl)
      subst e
      exact ⟨98, rfl, by decide, rfl⟩)
theorem e94_48 : V 94 48 [some (.ref a), l1] st h Q = V 94 49 [some (.ref a), l1] (.ref a :: st) h Q := V_nx (by decide +kernel : decode (p_c 94) 48 = .ok (.aload_n 0, 1)) rfl rfl
theorem e94_49 : V 94 49 L (.ref a :: st) h Q = (p_ok1 [11] 1 (p_get h a) ∧ V 94 52 L (p_fv 1 (p_get h a) :: st) h Q) := V_gf (t := (3, 1, "WaterShoulders")) (by decide +kernel : decode (p_c 94) 49 = .ok (.getfield 19, 3)) (by decide +kernel)
theorem e94_52 : V 94 52 L (.ref a :: st) h Q = (p_ok1 [9] 2 (p_get h a) ∧ V 94 55 L (p_fv 2 (p_get h a) :: st) h Q) := V_gf (t := (0, 0, "WaterShoulders$Stair")) (by decide +kernel : decode (p_c 94) 52 = .ok (.getfield 104, 3)) (by decide +kernel)
theorem e94_55 : V 94 55 L [.int x] h Q = Q (some (.int x)) h := V_ri (by decide +kernel : decode (p_c 94) 55 = .ok (.ireturn, 1)) rfl
theorem e94_56 : V 94 56 [some (.ref a), l1] st h Q = V 94 57 [some (.ref a), l1] (.ref a :: st) h Q := V_nx (by decide +kernel : decode (p_c 94) 56 = .ok (.aload_n 0, 1)) rfl rfl
theorem e94_57 : V 94 57 L (.ref a :: st) h Q = (p_ok1 [11] 9 (p_get h a) ∧ V 94 60 L (p_fv 9 (p_get h a) :: st) h Q) := V_gf (t := (0, 0, "WaterShoulders")) (by decide +kernel : decode (p_c 94) 57 = .ok (.getfield 92, 3)) (by decide +kernel)
theorem e94_60 : V 94 60 L [.int x] h Q = Q (some (.int x)) h := V_ri (by decide +kernel : decode (p_c 94) 60 = .ok (.ireturn, 1)) rfl
theorem e94_61 : V 94 61 [some (.ref a), l1] st h Q = V 94 62 [some (.ref a), l1] (.ref a :: st) h Q := V_nx (by decide +kernel : decode (p_c 94) 61 = .ok (.aload_n 0, 1)) rfl rfl
theorem e94_62 : V 94 62 L (.ref a :: st) h Q = (p_ok1 [11] 1 (p_get h a) ∧ V 94 65 L (p_fv 1 (p_get h a) :: st) h Q) := V_gf (t := (3, 1, "WaterShoulders")) (by decide +kernel : decode (p_c 94) 62 = .ok (.getfield 19, 3)) (by decide +kernel)
theorem e94_65 : V 94 65 [some (.ref a), l1] st h Q = V 94 66 [some (.ref a), l1] (.ref a :: st) h Q := V_nx (by decide +kernel : decode (p_c 94) 65 = .ok (.aload_n 0, 1)) rfl rfl
theorem e94_66 : V 94 66 L (.ref a :: st) h Q = (p_ok1 [11] 2 (p_get h a) ∧ V 94 69 L (p_fv 2 (p_get h a) :: st) h Q) := V_gf (t := (3, 1, "WaterShoulders")) (by decide +kernel : decode (p_c 94) 66 = .ok (.getfield 23, 3)) (by decide +kernel)
theorem e94_69 : V 94 69 L (.ref b1 :: .ref a :: st) h Q = ((p_cn1 (p_get h a) = 9 ∧ p_sm st) ∧ Vm 64 [.ref a, .ref b1] h (Kt 94 72 L st Q)) := V_iv (n := 1) (as := [.ref b1]) (ci := 9) (z := 64) (by decide +kernel : decode (p_c 94) 69 = .ok (.invokevirtual 177, 3)) (by decide +kernel) rfl rfl (by decide +kernel) rfl
theorem e94_72 : V 94 72 L [.int x] h Q = Q (some (.int x)) h := V_ri (by decide +kernel : decode (p_c 94) 72 = .ok (.ireturn, 1)) rfl
theorem e94_73 : V 94 73 [some (.ref a), l1] st h Q = V 94 74 [some (.ref a), l1] (.ref a :: st) h Q := V_nx (by decide +kernel : decode (p_c 94) 73 = .ok (.aload_n 0, 1)) rfl rfl
theorem e94_74 : V 94 74 L (.ref a :: st) h Q = (p_ok1 [11] 10 (p_get h a) ∧ V 94 77 L (p_fv 10 (p_get h a) :: st) h Q) := V_gf (t := (0, 0, "WaterShoulders")) (by decide +kernel : decode (p_c 94) 74 = .ok (.getfield 95, 3)) (by decide +kernel)
theorem e94_77 : V 94 77 L [.int x] h Q = Q (some (.int x)) h := V_ri (by decide +kernel : decode (p_c 94) 77 = .ok (.ireturn, 1)) rfl
theorem e94_78 : V 94 78 [some (.ref a), l1] st h Q = V 94 79 [some (.ref a), l1] (.ref a :: st) h Q := V_nx (by decide +kernel : decode (p_c 94) 78 = .ok (.aload_n 0, 1)) rfl rfl
theorem e94_79 : V 94 79 L (.ref a :: st) h Q = (p_ok1 [11] 5 (p_get h a) ∧ V 94 82 L (p_fv 5 (p_get h a) :: st) h Q) := V_gf (t := (3, 1, "WaterShoulders")) (by decide +kernel : decode (p_c 94) 79 = .ok (.getfield 39, 3)) (by decide +kernel)
theorem e94_82 : V 94 82 L (.ref a :: st) h Q = (p_ok1 [4] 1 (p_get h a) ∧ V 94 85 L (p_fv 1 (p_get h a) :: st) h Q) := V_gf (t := (0, 0, "WaterShoulders$Mud")) (by decide +kernel : decode (p_c 94) 82 = .ok (.getfield 231, 3)) (by decide +kernel)
theorem e94_85 : V 94 85 L [.int x] h Q = Q (some (.int x)) h := V_ri (by decide +kernel : decode (p_c 94) 85 = .ok (.ireturn, 1)) rfl
theorem e94_86 : V 94 86 [some (.ref a), l1] st h Q = V 94 87 [some (.ref a), l1] (.ref a :: st) h Q := V_nx (by decide +kernel : decode (p_c 94) 86 = .ok (.aload_n 0, 1)) rfl rfl
theorem e94_87 : V 94 87 L (.ref a :: st) h Q = (p_ok1 [11] 0 (p_get h a) ∧ V 94 90 L (p_fv 0 (p_get h a) :: st) h Q) := V_gf (t := (3, 1, "WaterShoulders")) (by decide +kernel : decode (p_c 94) 87 = .ok (.getfield 10, 3)) (by decide +kernel)
theorem e94_90 : V 94 90 L (.ref a :: st) h Q = (p_ok1 [6] 1 (p_get h a) ∧ V 94 93 L (p_fv 1 (p_get h a) :: st) h Q) := V_gf (t := (0, 0, "WaterShoulders$Page")) (by decide +kernel : decode (p_c 94) 90 = .ok (.getfield 68, 3)) (by decide +kernel)
theorem e94_93 : V 94 93 L [.int x] h Q = Q (some (.int x)) h := V_ri (by decide +kernel : decode (p_c 94) 93 = .ok (.ireturn, 1)) rfl
theorem e94_94 : V 94 94 [some (.ref a), l1] st h Q = V 94 95 [some (.ref a), l1] (.ref a :: st) h Q := V_nx (by decide +kernel : decode (p_c 94) 94 = .ok (.aload_n 0, 1)) rfl rfl
theorem e94_95 : V 94 95 L (.ref a :: st) h Q = (p_ok1 [11] 11 (p_get h a) ∧ V 94 98 L (p_fv 11 (p_get h a) :: st) h Q) := V_gf (t := (0, 0, "WaterShoulders")) (by decide +kernel : decode (p_c 94) 95 = .ok (.getfield 101, 3)) (by decide +kernel)
theorem e94_98 : V 94 98 L [.int x] h Q = Q (some (.int x)) h := V_ri (by decide +kernel : decode (p_c 94) 98 = .ok (.ireturn, 1)) rfl
theorem e94_99 : V 94 99 [some (.ref a), l1] st h Q = V 94 100 [some (.ref a), l1] (.ref a :: st) h Q := V_nx (by decide +kernel : decode (p_c 94) 99 = .ok (.aload_n 0, 1)) rfl rfl
theorem e94_100 : V 94 100 L (.ref a :: st) h Q = (p_ok1 [11] 12 (p_get h a) ∧ V 94 103 L (p_fv 12 (p_get h a) :: st) h Q) := V_gf (t := (0, 0, "WaterShoulders")) (by decide +kernel : decode (p_c 94) 100 = .ok (.getfield 181, 3)) (by decide +kernel)
theorem e94_103 : V 94 103 L [.int x] h Q = Q (some (.int x)) h := V_ri (by decide +kernel : decode (p_c 94) 103 = .ok (.ireturn, 1)) rfl
theorem e94_104 : V 94 104 L st h Q = V 94 106 L (.int (-102) :: st) h Q := V_b (by decide +kernel : decode (p_c 94) 104 = .ok (.bipush (-102), 2)) (by decide)
theorem e94_106 : V 94 106 L [.int x] h Q = Q (some (.int x)) h := V_ri (by decide +kernel : decode (p_c 94) 106 = .ok (.ireturn, 1)) rfl
theorem m94 : Vm 94 [.ref a, .int x1] h Q = V 94 0 [some (.ref a), some (.int x1)] [] h Q := rfl
theorem e95_0 : V 95 0 [some (.ref a), l1, l2, l3] st h Q = V 95 1 [some (.ref a), l1, l2, l3] (.ref a :: st) h Q := V_nx (by decide +kernel : decode (p_c 95) 0 = .ok (.aload_n 0, 1)) rfl rfl
theorem e95_1 : V 95 1 L st h Q = V 95 4 L (.long 653 :: st) h Q := V_ldc2 (by decide +kernel : decode (p_c 95) 1 = .ok (.ldc2_w 274, 3)) (by decide +kernel)
theorem e95_4 : V 95 4 L (.long u1 :: .ref a :: st) h Q = ((p_cn1 (p_get h a) = 11 ∧ p_sm st) ∧ Vm 96 [.ref a, .long u1] h (Kt 95 7 L st Q)) := V_iv (n := 1) (as := [.long u1]) (ci := 11) (z := 96) (by decide +kernel : decode (p_c 95) 4 = .ok (.invokevirtual 276, 3)) (by decide +kernel) rfl rfl (by decide +kernel) rfl
theorem e95_7 : V 95 7 [l0, l1, l2, l3] (.long u :: st) h Q = V 95 8 [p_dl l0, some (.long u), none, l3] st h Q := V_nx (by decide +kernel : decode (p_c 95) 7 = .ok (.lstore_n 1, 1)) rfl rfl
theorem e95_8 : V 95 8 [some (.ref a), l1, l2, l3] st h Q = V 95 9 [some (.ref a), l1, l2, l3] (.ref a :: st) h Q := V_nx (by decide +kernel : decode (p_c 95) 8 = .ok (.aload_n 0, 1)) rfl rfl
theorem e95_9 : V 95 9 [l0, some (.long u), l2, l3] st h Q = V 95 10 [l0, some (.long u), l2, l3] (.long u :: st) h Q := V_nx (by decide +kernel : decode (p_c 95) 9 = .ok (.lload_n 1, 1)) rfl rfl
theorem e95_10 : V 95 10 L (.long u1 :: .ref a :: st) h Q = ((p_cn1 (p_get h a) = 11 ∧ p_sm st) ∧ Vm 97 [.ref a, .long u1] h (Kt 95 13 L st Q)) := V_iv (n := 1) (as := [.long u1]) (ci := 11) (z := 97) (by decide +kernel : decode (p_c 95) 10 = .ok (.invokevirtual 280, 3)) (by decide +kernel) rfl rfl (by decide +kernel) rfl
theorem e95_13 : V 95 13 [l0, l1, l2, l3] (.long u :: st) h Q = V 95 14 [p_dl l0, some (.long u), none, l3] st h Q := V_nx (by decide +kernel : decode (p_c 95) 13 = .ok (.lstore_n 1, 1)) rfl rfl
theorem e95_14 : V 95 14 [some (.ref a), l1, l2, l3] st h Q = V 95 15 [some (.ref a), l1, l2, l3] (.ref a :: st) h Q := V_nx (by decide +kernel : decode (p_c 95) 14 = .ok (.aload_n 0, 1)) rfl rfl
theorem e95_15 : V 95 15 L (.ref a :: st) h Q = (p_ok1 [11] 1 (p_get h a) ∧ V 95 18 L (p_fv 1 (p_get h a) :: st) h Q) := V_gf (t := (3, 1, "WaterShoulders")) (by decide +kernel : decode (p_c 95) 15 = .ok (.getfield 19, 3)) (by decide +kernel)
theorem e95_18 : V 95 18 L (.ref a :: st) h Q = (p_ok1 [9] 2 (p_get h a) ∧ V 95 21 L (p_fv 2 (p_get h a) :: st) h Q) := V_gf (t := (0, 0, "WaterShoulders$Stair")) (by decide +kernel : decode (p_c 95) 18 = .ok (.getfield 104, 3)) (by decide +kernel)
theorem e95_21 : V 95 21 L (.int x :: st) h Q = if 0 < x then V 95 24 L st h Q else V 95 37 L st h Q := (V_ifc (by decide +kernel : decode (p_c 95) 21 = .ok (.ifCond .le 16, 3)) (by decide)).trans i_le
theorem e95_24 : V 95 24 L st h Q = V 95 27 L (.long 31 :: st) h Q := V_ldc2 (by decide +kernel : decode (p_c 95) 24 = .ok (.ldc2_w 283, 3)) (by decide +kernel)
theorem e95_27 : V 95 27 [l0, some (.long u), l2, l3] st h Q = V 95 28 [l0, some (.long u), l2, l3] (.long u :: st) h Q := V_nx (by decide +kernel : decode (p_c 95) 27 = .ok (.lload_n 1, 1)) rfl rfl
theorem e95_28 : V 95 28 L (.long w :: .long u :: st) h Q = V 95 29 L (.long (u * w) :: st) h Q := V_nx (by decide +kernel : decode (p_c 95) 28 = .ok (.lmul, 1)) rfl rfl
theorem e95_29 : V 95 29 [some (.ref a), l1, l2, l3] st h Q = V 95 30 [some (.ref a), l1, l2, l3] (.ref a :: st) h Q := V_nx (by decide +kernel : decode (p_c 95) 29 = .ok (.aload_n 0, 1)) rfl rfl
theorem e95_30 : V 95 30 L st h Q = V 95 31 L (.int 3 :: st) h Q := V_c (by decide +kernel : decode (p_c 95) 30 = .ok (.iconst 3, 1)) (by decide)
theorem e95_31 : V 95 31 L (.int x1 :: .ref a :: st) h Q = ((p_cn1 (p_get h a) = 11 ∧ p_sm st) ∧ Vm 85 [.ref a, .int x1] h (Kt 95 34 L st Q)) := V_iv (n := 1) (as := [.int x1]) (ci := 11) (z := 85) (by decide +kernel : decode (p_c 95) 31 = .ok (.invokevirtual 285, 3)) (by decide +kernel) rfl rfl (by decide +kernel) rfl
theorem e95_34 : V 95 34 L (.int x :: st) h Q = V 95 35 L (.long x.toInt64 :: st) h Q := V_nx (by decide +kernel : decode (p_c 95) 34 = .ok (.i2l, 1)) rfl rfl
theorem e95_35 : V 95 35 L (.long w :: .long u :: st) h Q = V 95 36 L (.long (u + w) :: st) h Q := V_nx (by decide +kernel : decode (p_c 95) 35 = .ok (.ladd, 1)) rfl rfl
theorem e95_36 : V 95 36 [l0, l1, l2, l3] (.long u :: st) h Q = V 95 37 [p_dl l0, some (.long u), none, l3] st h Q := V_nx (by decide +kernel : decode (p_c 95) 36 = .ok (.lstore_n 1, 1)) rfl rfl
theorem e95_37 : V 95 37 L st h Q = V 95 38 L (.int 0 :: st) h Q := V_c (by decide +kernel : decode (p_c 95) 37 = .ok (.iconst 0, 1)) (by decide)
theorem e95_38 : V 95 38 [l0, l1, l2, l3] (.int x :: st) h Q = V 95 39 [l0, l1, p_dl l2, some (.int x)] st h Q := V_nx (by decide +kernel : decode (p_c 95) 38 = .ok (.istore_n 3, 1)) rfl rfl
theorem e95_39 : V 95 39 [l0, l1, l2, some (.int x)] st h Q = V 95 40 [l0, l1, l2, some (.int x)] (.int x :: st) h Q := V_nx (by decide +kernel : decode (p_c 95) 39 = .ok (.iload_n 3, 1)) rfl rfl
theorem e95_40 : V 95 40 [some (.ref a), l1, l2, l3] st h Q = V 95 41 [some (.ref a), l1, l2, l3] (.ref a :: st) h Q := V_nx (by decide +kernel : decode (p_c 95) 40 = .ok (.aload_n 0, 1)) rfl rfl
theorem e95_41 : V 95 41 L (.ref a :: st) h Q = (p_ok1 [11] 5 (p_get h a) ∧ V 95 44 L (p_fv 5 (p_get h a) :: st) h Q) := V_gf (t := (3, 1, "WaterShoulders")) (by decide +kernel : decode (p_c 95) 41 = .ok (.getfield 39, 3)) (by decide +kernel)
theorem e95_44 : V 95 44 L (.ref a :: st) h Q = (p_ok1 [4] 1 (p_get h a) ∧ V 95 47 L (p_fv 1 (p_get h a) :: st) h Q) := V_gf (t := (0, 0, "WaterShoulders$Mud")) (by decide +kernel : decode (p_c 95) 44 = .ok (.getfield 231, 3)) (by decide +kernel)
theorem e95_47 : V 95 47 L (.int z :: .int x :: st) h Q = if x < z then V 95 50 L st h Q else V 95 73 L st h Q := (V_icmp (by decide +kernel : decode (p_c 95) 47 = .ok (.if_icmp .ge 26, 3)) (by decide)).trans i_ge
theorem e95_50 : V 95 50 L st h Q = V 95 53 L (.long 31 :: st) h Q := V_ldc2 (by decide +kernel : decode (p_c 95) 50 = .ok (.ldc2_w 283, 3)) (by decide +kernel)
theorem e95_53 : V 95 53 [l0, some (.long u), l2, l3] st h Q = V 95 54 [l0, some (.long u), l2, l3] (.long u :: st) h Q := V_nx (by decide +kernel : decode (p_c 95) 53 = .ok (.lload_n 1, 1)) rfl rfl
theorem e95_54 : V 95 54 L (.long w :: .long u :: st) h Q = V 95 55 L (.long (u * w) :: st) h Q := V_nx (by decide +kernel : decode (p_c 95) 54 = .ok (.lmul, 1)) rfl rfl
theorem e95_55 : V 95 55 [some (.ref a), l1, l2, l3] st h Q = V 95 56 [some (.ref a), l1, l2, l3] (.ref a :: st) h Q := V_nx (by decide +kernel : decode (p_c 95) 55 = .ok (.aload_n 0, 1)) rfl rfl
theorem e95_56 : V 95 56 L (.ref a :: st) h Q = (p_ok1 [11] 5 (p_get h a) ∧ V 95 59 L (p_fv 5 (p_get h a) :: st) h Q) := V_gf (t := (3, 1, "WaterShoulders")) (by decide +kernel : decode (p_c 95) 56 = .ok (.getfield 39, 3)) (by decide +kernel)
theorem e95_59 : V 95 59 L (.ref a :: st) h Q = (p_ok1 [4] 0 (p_get h a) ∧ V 95 62 L (p_fv 0 (p_get h a) :: st) h Q) := V_gf (t := (3, 2, "WaterShoulders$Mud")) (by decide +kernel : decode (p_c 95) 59 = .ok (.getfield 232, 3)) (by decide +kernel)
theorem e95_62 : V 95 62 [l0, l1, l2, some (.int x)] st h Q = V 95 63 [l0, l1, l2, some (.int x)] (.int x :: st) h Q := V_nx (by decide +kernel : decode (p_c 95) 62 = .ok (.iload_n 3, 1)) rfl rfl
theorem e95_63 : V 95 63 L (.int i :: .ref a :: st) h Q = (p_iok i (p_get h a) ∧ V 95 64 L (.int (p_ivl i (p_get h a)) :: st) h Q) := V_ial (by decide +kernel : decode (p_c 95) 63 = .ok (.iaload, 1))
theorem e95_64 : V 95 64 L (.int x :: st) h Q = V 95 65 L (.long x.toInt64 :: st) h Q := V_nx (by decide +kernel : decode (p_c 95) 64 = .ok (.i2l, 1)) rfl rfl
theorem e95_65 : V 95 65 L (.long w :: .long u :: st) h Q = V 95 66 L (.long (u + w) :: st) h Q := V_nx (by decide +kernel : decode (p_c 95) 65 = .ok (.ladd, 1)) rfl rfl
theorem e95_66 : V 95 66 [l0, l1, l2, l3] (.long u :: st) h Q = V 95 67 [p_dl l0, some (.long u), none, l3] st h Q := V_nx (by decide +kernel : decode (p_c 95) 66 = .ok (.lstore_n 1, 1)) rfl rfl
theorem e95_67 : V 95 67 [l0, l1, l2, some (.int x)] st h Q = V 95 70 [l0, l1, p_dl l2, some (.int (x + 1))] st h Q := V_iinc (x := x) (by decide +kernel : decode (p_c 95) 67 = .ok (.iinc 3 1, 3)) (by decide) rfl (Nat.le_of_ble_eq_true rfl)
theorem e95_70 : V 95 70 L st h Q = V 95 39 L st h Q := V_goto (by decide +kernel : decode (p_c 95) 70 = .ok (.goto (-31), 3)) (by decide)
theorem e95_73 : V 95 73 [some (.ref a), l1, l2, l3] st h Q = V 95 74 [some (.ref a), l1, l2, l3] (.ref a :: st) h Q := V_nx (by decide +kernel : decode (p_c 95) 73 = .ok (.aload_n 0, 1)) rfl rfl
theorem e95_74 : V 95 74 L (.ref a :: st) h Q = (p_ok1 [11] 5 (p_get h a) ∧ V 95 77 L (p_fv 5 (p_get h a) :: st) h Q) := V_gf (t := (3, 1, "WaterShoulders")) (by decide +kernel : decode (p_c 95) 74 = .ok (.getfield 39, 3)) (by decide +kernel)
theorem e95_77 : V 95 77 L (.ref a :: st) h Q = ((p_cn1 (p_get h a) = 4 ∧ p_sm st) ∧ Vm 13 [.ref a] h (Kt 95 80 L st Q)) := V_iv (n := 0) (as := []) (ci := 4) (z := 13) (by decide +kernel : decode (p_c 95) 77 = .ok (.invokevirtual 228, 3)) (by decide +kernel) rfl rfl (by decide +kernel) rfl
theorem e95_80 : V 95 80 L (.int x :: st) h Q = if x = 0 then V 95 95 L st h Q else V 95 83 L st h Q := (V_ifc (by decide +kernel : decode (p_c 95) 80 = .ok (.ifCond .eq 15, 3)) (by decide)).trans i_eq
theorem e95_83 : V 95 83 L st h Q = V 95 86 L (.long 31 :: st) h Q := V_ldc2 (by decide +kernel : decode (p_c 95) 83 = .ok (.ldc2_w 283, 3)) (by decide +kernel)
theorem e95_86 : V 95 86 [l0, some (.long u), l2, l3] st h Q = V 95 87 [l0, some (.long u), l2, l3] (.long u :: st) h Q := V_nx (by decide +kernel : decode (p_c 95) 86 = .ok (.lload_n 1, 1)) rfl rfl
theorem e95_87 : V 95 87 L (.long w :: .long u :: st) h Q = V 95 88 L (.long (u * w) :: st) h Q := V_nx (by decide +kernel : decode (p_c 95) 87 = .ok (.lmul, 1)) rfl rfl
theorem e95_88 : V 95 88 [some (.ref a), l1, l2, l3] st h Q = V 95 89 [some (.ref a), l1, l2, l3] (.ref a :: st) h Q := V_nx (by decide +kernel : decode (p_c 95) 88 = .ok (.aload_n 0, 1)) rfl rfl
theorem e95_89 : V 95 89 L (.ref a :: st) h Q = ((p_cn1 (p_get h a) = 11 ∧ p_sm st) ∧ Vm 89 [.ref a] h (Kt 95 92 L st Q)) := V_iv (n := 0) (as := []) (ci := 11) (z := 89) (by decide +kernel : decode (p_c 95) 89 = .ok (.invokevirtual 288, 3)) (by decide +kernel) rfl rfl (by decide +kernel) rfl
theorem e95_92 : V 95 92 L (.int x :: st) h Q = V 95 93 L (.long x.toInt64 :: st) h Q := V_nx (by decide +kernel : decode (p_c 95) 92 = .ok (.i2l, 1)) rfl rfl
theorem e95_93 : V 95 93 L (.long w :: .long u :: st) h Q = V 95 94 L (.long (u + w) :: st) h Q := V_nx (by decide +kernel : decode (p_c 95) 93 = .ok (.ladd, 1)) rfl rfl
theorem e95_94 : V 95 94 [l0, l1, l2, l3] (.long u :: st) h Q = V 95 95 [p_dl l0, some (.long u), none, l3] st h Q := V_nx (by decide +kernel : decode (p_c 95) 94 = .ok (.lstore_n 1, 1)) rfl rfl
theorem e95_95 : V 95 95 L st h Q = V 95 96 L (.int 0 :: st) h Q := V_c (by decide +kernel : decode (p_c 95) 95 = .ok (.iconst 0, 1)) (by decide)
theorem e95_96 : V 95 96 [l0, l1, l2, l3] (.int x :: st) h Q = V 95 97 [l0, l1, p_dl l2, some (.int x)] st h Q := V_nx (by decide +kernel : decode (p_c 95) 96 = .ok (.istore_n 3, 1)) rfl rfl
theorem e95_97 : V 95 97 [l0, l1, l2, some (.int x)] st h Q = V 95 98 [l0, l1, l2, some (.int x)] (.int x :: st) h Q := V_nx (by decide +kernel : decode (p_c 95) 97 = .ok (.iload_n 3, 1)) rfl rfl
theorem e95_98 : V 95 98 [some (.ref a), l1, l2, l3] st h Q = V 95 99 [some (.ref a), l1, l2, l3] (.ref a :: st) h Q := V_nx (by decide +kernel : decode (p_c 95) 98 = .ok (.aload_n 0, 1)) rfl rfl
theorem e95_99 : V 95 99 L (.ref a :: st) h Q = (p_ok1 [11] 0 (p_get h a) ∧ V 95 102 L (p_fv 0 (p_get h a) :: st) h Q) := V_gf (t := (3, 1, "WaterShoulders")) (by decide +kernel : decode (p_c 95) 99 = .ok (.getfield 10, 3)) (by decide +kernel)
theorem e95_102 : V 95 102 L (.ref a :: st) h Q = (p_ok1 [6] 1 (p_get h a) ∧ V 95 105 L (p_fv 1 (p_get h a) :: st) h Q) := V_gf (t := (0, 0, "WaterShoulders$Page")) (by decide +kernel : decode (p_c 95) 102 = .ok (.getfield 68, 3)) (by decide +kernel)
theorem e95_105 : V 95 105 L (.int z :: .int x :: st) h Q = if x < z then V 95 108 L st h Q else V 95 131 L st h Q := (V_icmp (by decide +kernel : decode (p_c 95) 105 = .ok (.if_icmp .ge 26, 3)) (by decide)).trans i_ge
theorem e95_108 : V 95 108 L st h Q = V 95 111 L (.long 31 :: st) h Q := V_ldc2 (by decide +kernel : decode (p_c 95) 108 = .ok (.ldc2_w 283, 3)) (by decide +kernel)
theorem e95_111 : V 95 111 [l0, some (.long u), l2, l3] st h Q = V 95 112 [l0, some (.long u), l2, l3] (.long u :: st) h Q := V_nx (by decide +kernel : decode (p_c 95) 111 = .ok (.lload_n 1, 1)) rfl rfl
theorem e95_112 : V 95 112 L (.long w :: .long u :: st) h Q = V 95 113 L (.long (u * w) :: st) h Q := V_nx (by decide +kernel : decode (p_c 95) 112 = .ok (.lmul, 1)) rfl rfl
theorem e95_113 : V 95 113 [some (.ref a), l1, l2, l3] st h Q = V 95 114 [some (.ref a), l1, l2, l3] (.ref a :: st) h Q := V_nx (by decide +kernel : decode (p_c 95) 113 = .ok (.aload_n 0, 1)) rfl rfl
theorem e95_114 : V 95 114 L (.ref a :: st) h Q = (p_ok1 [11] 0 (p_get h a) ∧ V 95 117 L (p_fv 0 (p_get h a) :: st) h Q) := V_gf (t := (3, 1, "WaterShoulders")) (by decide +kernel : decode (p_c 95) 114 = .ok (.getfield 10, 3)) (by decide +kernel)
theorem e95_117 : V 95 117 L (.ref a :: st) h Q = (p_ok1 [6] 0 (p_get h a) ∧ V 95 120 L (p_fv 0 (p_get h a) :: st) h Q) := V_gf (t := (3, 2, "WaterShoulders$Page")) (by decide +kernel : decode (p_c 95) 117 = .ok (.getfield 291, 3)) (by decide +kernel)
theorem e95_120 : V 95 120 [l0, l1, l2, some (.int x)] st h Q = V 95 121 [l0, l1, l2, some (.int x)] (.int x :: st) h Q := V_nx (by decide +kernel : decode (p_c 95) 120 = .ok (.iload_n 3, 1)) rfl rfl
theorem e95_121 : V 95 121 L (.int i :: .ref a :: st) h Q = (p_iok i (p_get h a) ∧ V 95 122 L (.int (p_ivl i (p_get h a)) :: st) h Q) := V_ial (by decide +kernel : decode (p_c 95) 121 = .ok (.iaload, 1))
theorem e95_122 : V 95 122 L (.int x :: st) h Q = V 95 123 L (.long x.toInt64 :: st) h Q := V_nx (by decide +kernel : decode (p_c 95) 122 = .ok (.i2l, 1)) rfl rfl
theorem e95_123 : V 95 123 L (.long w :: .long u :: st) h Q = V 95 124 L (.long (u + w) :: st) h Q := V_nx (by decide +kernel : decode (p_c 95) 123 = .ok (.ladd, 1)) rfl rfl
theorem e95_124 : V 95 124 [l0, l1, l2, l3] (.long u :: st) h Q = V 95 125 [p_dl l0, some (.long u), none, l3] st h Q := V_nx (by decide +kernel : decode (p_c 95) 124 = .ok (.lstore_n 1, 1)) rfl rfl
theorem e95_125 : V 95 125 [l0, l1, l2, some (.int x)] st h Q = V 95 128 [l0, l1, p_dl l2, some (.int (x + 1))] st h Q := V_iinc (x := x) (by decide +kernel : decode (p_c 95) 125 = .ok (.iinc 3 1, 3)) (by decide) rfl (Nat.le_of_ble_eq_true rfl)
theorem e95_128 : V 95 128 L st h Q = V 95 97 L st h Q := V_goto (by decide +kernel : decode (p_c 95) 128 = .ok (.goto (-31), 3)) (by decide)
theorem e95_131 : V 95 131 L st h Q = V 95 132 L (.int 0 :: st) h Q := V_c (by decide +kernel : decode (p_c 95) 131 = .ok (.iconst 0, 1)) (by decide)
theorem e95_132 : V 95 132 [l0, l1, l2, l3] (.int x :: st) h Q = V 95 133 [l0, l1, p_dl l2, some (.int x)] st h Q := V_nx (by decide +kernel : decode (p_c 95) 132 = .ok (.istore_n 3, 1)) rfl rfl
theorem e95_133 : V 95 133 [l0, l1, l2, some (.int x)] st h Q = V 95 134 [l0, l1, l2, some (.int x)] (.int x :: st) h Q := V_nx (by decide +kernel : decode (p_c 95) 133 = .ok (.iload_n 3, 1)) rfl rfl
theorem e95_134 : V 95 134 L st h Q = V 95 136 L (.int 7 :: st) h Q := V_b (by decide +kernel : decode (p_c 95) 134 = .ok (.bipush 7, 2)) (by decide)
theorem e95_136 : V 95 136 L (.int z :: .int x :: st) h Q = if z < x then V 95 158 L st h Q else V 95 139 L st h Q := (V_icmp (by decide +kernel : decode (p_c 95) 136 = .ok (.if_icmp .gt 22, 3)) (by decide)).trans i_gt
theorem e95_139 : V 95 139 L st h Q = V 95 142 L (.long 31 :: st) h Q := V_ldc2 (by decide +kernel : decode (p_c 95) 139 = .ok (.ldc2_w 283, 3)) (by decide +kernel)
theorem e95_142 : V 95 142 [l0, some (.long u), l2, l3] st h Q = V 95 143 [l0, some (.long u), l2, l3] (.long u :: st) h Q := V_nx (by decide +kernel : decode (p_c 95) 142 = .ok (.lload_n 1, 1)) rfl rfl
theorem e95_143 : V 95 143 L (.long w :: .long u :: st) h Q = V 95 144 L (.long (u * w) :: st) h Q := V_nx (by decide +kernel : decode (p_c 95) 143 = .ok (.lmul, 1)) rfl rfl
theorem e95_144 : V 95 144 [some (.ref a), l1, l2, l3] st h Q = V 95 145 [some (.ref a), l1, l2, l3] (.ref a :: st) h Q := V_nx (by decide +kernel : decode (p_c 95) 144 = .ok (.aload_n 0, 1)) rfl rfl
theorem e95_145 : V 95 145 [l0, l1, l2, some (.int x)] st h Q = V 95 146 [l0, l1, l2, some (.int x)] (.int x :: st) h Q := V_nx (by decide +kernel : decode (p_c 95) 145 = .ok (.iload_n 3, 1)) rfl rfl
theorem e95_146 : V 95 146 L (.int x1 :: .ref a :: st) h Q = ((p_cn1 (p_get h a) = 11 ∧ p_sm st) ∧ Vm 94 [.ref a, .int x1] h (Kt 95 149 L st Q)) := V_iv (n := 1) (as := [.int x1]) (ci := 11) (z := 94) (by decide +kernel : decode (p_c 95) 146 = .ok (.invokevirtual 294, 3)) (by decide +kernel) rfl rfl (by decide +kernel) rfl
theorem e95_149 : V 95 149 L (.int x :: st) h Q = V 95 150 L (.long x.toInt64 :: st) h Q := V_nx (by decide +kernel : decode (p_c 95) 149 = .ok (.i2l, 1)) rfl rfl
theorem e95_150 : V 95 150 L (.long w :: .long u :: st) h Q = V 95 151 L (.long (u + w) :: st) h Q := V_nx (by decide +kernel : decode (p_c 95) 150 = .ok (.ladd, 1)) rfl rfl
theorem e95_151 : V 95 151 [l0, l1, l2, l3] (.long u :: st) h Q = V 95 152 [p_dl l0, some (.long u), none, l3] st h Q := V_nx (by decide +kernel : decode (p_c 95) 151 = .ok (.lstore_n 1, 1)) rfl rfl
theorem e95_152 : V 95 152 [l0, l1, l2, some (.int x)] st h Q = V 95 155 [l0, l1, p_dl l2, some (.int (x + 1))] st h Q := V_iinc (x := x) (by decide +kernel : decode (p_c 95) 152 = .ok (.iinc 3 1, 3)) (by decide) rfl (Nat.le_of_ble_eq_true rfl)
theorem e95_155 : V 95 155 L st h Q = V 95 133 L st h Q := V_goto (by decide +kernel : decode (p_c 95) 155 = .ok (.goto (-22), 3)) (by decide)
theorem e95_158 : V 95 158 [l0, some (.long u), l2, l3] st h Q = V 95 159 [l0, some (.long u), l2, l3] (.long u :: st) h Q := V_nx (by decide +kernel : decode (p_c 95) 158 = .ok (.lload_n 1, 1)) rfl rfl
theorem e95_159 : V 95 159 L [.long u] h Q = Q (some (.long u)) h := V_rl (by decide +kernel : decode (p_c 95) 159 = .ok (.lreturn, 1)) rfl
theorem m95 : Vm 95 [.ref a] h Q = V 95 0 [some (.ref a), none, none, none] [] h Q := rfl
theorem e96_0 : V 96 0 [l0, some (.long u), l2, l3, l4, l5, l6] st h Q = V 96 1 [l0, some (.long u), l2, l3, l4, l5, l6] (.long u :: st) h Q := V_nx (by decide +kernel : decode (p_c 96) 0 = .ok (.lload_n 1, 1)) rfl rfl
theorem e96_1 : V 96 1 [l0, l1, l2, l3, l4, l5, l6] (.long u :: st) h Q = V 96 2 [l0, l1, p_dl l2, some (.long u), none, l5, l6] st h Q := V_nx (by decide +kernel : decode (p_c 96) 1 = .ok (.lstore_n 3, 1)) rfl rfl
theorem e96_2 : V 96 2 L st h Q = V 96 3 L (.int 0 :: st) h Q := V_c (by decide +kernel : decode (p_c 96) 2 = .ok (.iconst 0, 1)) (by decide)
theorem e96_3 : V 96 3 [l0, l1, l2, l3, l4, l5, l6] (.int x :: st) h Q = V 96 5 [l0, l1, l2, l3, p_dl l4, some (.int x), l6] st h Q := V_nx (by decide +kernel : decode (p_c 96) 3 = .ok (.istore 5, 2)) rfl rfl
theorem e96_5 : V 96 5 [l0, l1, l2, l3, l4, some (.int x), l6] st h Q = V 96 7 [l0, l1, l2, l3, l4, some (.int x), l6] (.int x :: st) h Q := V_nx (by decide +kernel : decode (p_c 96) 5 = .ok (.iload 5, 2)) rfl rfl
theorem e96_7 : V 96 7 [some (.ref a), l1, l2, l3, l4, l5, l6] st h Q = V 96 8 [some (.ref a), l1, l2, l3, l4, l5, l6] (.ref a :: st) h Q := V_nx (by decide +kernel : decode (p_c 96) 7 = .ok (.aload_n 0, 1)) rfl rfl
theorem e96_8 : V 96 8 L (.ref a :: st) h Q = (p_ok1 [11] 1 (p_get h a) ∧ V 96 11 L (p_fv 1 (p_get h a) :: st) h Q) := V_gf (t := (3, 1, "WaterShoulders")) (by decide +kernel : decode (p_c 96) 8 = .ok (.getfield 19, 3)) (by decide +kernel)
theorem e96_11 : V 96 11 L (.ref a :: st) h Q = (p_ok1 [9] 2 (p_get h a) ∧ V 96 14 L (p_fv 2 (p_get h a) :: st) h Q) := V_gf (t := (0, 0, "WaterShoulders$Stair")) (by decide +kernel : decode (p_c 96) 11 = .ok (.getfield 104, 3)) (by decide +kernel)
theorem e96_14 : V 96 14 L (.int z :: .int x :: st) h Q = if x < z then V 96 17 L st h Q else V 96 68 L st h Q := (V_icmp (by decide +kernel : decode (p_c 96) 14 = .ok (.if_icmp .ge 54, 3)) (by decide)).trans i_ge
theorem e96_17 : V 96 17 L st h Q = V 96 18 L (.int 0 :: st) h Q := V_c (by decide +kernel : decode (p_c 96) 17 = .ok (.iconst 0, 1)) (by decide)
theorem e96_18 : V 96 18 [l0, l1, l2, l3, l4, l5, l6] (.int x :: st) h Q = V 96 20 [l0, l1, l2, l3, l4, p_dl l5, some (.int x)] st h Q := V_nx (by decide +kernel : decode (p_c 96) 18 = .ok (.istore 6, 2)) rfl rfl
theorem e96_20 : V 96 20 [l0, l1, l2, l3, l4, l5, some (.int x)] st h Q = V 96 22 [l0, l1, l2, l3, l4, l5, some (.int x)] (.int x :: st) h Q := V_nx (by decide +kernel : decode (p_c 96) 20 = .ok (.iload 6, 2)) rfl rfl
theorem e96_22 : V 96 22 L st h Q = V 96 23 L (.int 2 :: st) h Q := V_c (by decide +kernel : decode (p_c 96) 22 = .ok (.iconst 2, 1)) (by decide)
theorem e96_23 : V 96 23 L (.int z :: .int x :: st) h Q = if z < x then V 96 48 L st h Q else V 96 26 L st h Q := (V_icmp (by decide +kernel : decode (p_c 96) 23 = .ok (.if_icmp .gt 25, 3)) (by decide)).trans i_gt
theorem e96_26 : V 96 26 L st h Q = V 96 29 L (.long 31 :: st) h Q := V_ldc2 (by decide +kernel : decode (p_c 96) 26 = .ok (.ldc2_w 283, 3)) (by decide +kernel)
theorem e96_29 : V 96 29 [l0, l1, l2, some (.long u), l4, l5, l6] st h Q = V 96 30 [l0, l1, l2, some (.long u), l4, l5, l6] (.long u :: st) h Q := V_nx (by decide +kernel : decode (p_c 96) 29 = .ok (.lload_n 3, 1)) rfl rfl
theorem e96_30 : V 96 30 L (.long w :: .long u :: st) h Q = V 96 31 L (.long (u * w) :: st) h Q := V_nx (by decide +kernel : decode (p_c 96) 30 = .ok (.lmul, 1)) rfl rfl
theorem e96_31 : V 96 31 [some (.ref a), l1, l2, l3, l4, l5, l6] st h Q = V 96 32 [some (.ref a), l1, l2, l3, l4, l5, l6] (.ref a :: st) h Q := V_nx (by decide +kernel : decode (p_c 96) 31 = .ok (.aload_n 0, 1)) rfl rfl
theorem e96_32 : V 96 32 [l0, l1, l2, l3, l4, some (.int x), l6] st h Q = V 96 34 [l0, l1, l2, l3, l4, some (.int x), l6] (.int x :: st) h Q := V_nx (by decide +kernel : decode (p_c 96) 32 = .ok (.iload 5, 2)) rfl rfl
theorem e96_34 : V 96 34 [l0, l1, l2, l3, l4, l5, some (.int x)] st h Q = V 96 36 [l0, l1, l2, l3, l4, l5, some (.int x)] (.int x :: st) h Q := V_nx (by decide +kernel : decode (p_c 96) 34 = .ok (.iload 6, 2)) rfl rfl
theorem e96_36 : V 96 36 L (.int x2 :: .int x1 :: .ref a :: st) h Q = ((p_cn1 (p_get h a) = 11 ∧ p_sm st) ∧ Vm 73 [.ref a, .int x1, .int x2] h (Kt 96 39 L st Q)) := V_iv (n := 2) (as := [.int x2, .int x1]) (ci := 11) (z := 73) (by decide +kernel : decode (p_c 96) 36 = .ok (.invokevirtual 297, 3)) (by decide +kernel) rfl rfl (by decide +kernel) rfl
theorem e96_39 : V 96 39 L (.int x :: st) h Q = V 96 40 L (.long x.toInt64 :: st) h Q := V_nx (by decide +kernel : decode (p_c 96) 39 = .ok (.i2l, 1)) rfl rfl
theorem e96_40 : V 96 40 L (.long w :: .long u :: st) h Q = V 96 41 L (.long (u + w) :: st) h Q := V_nx (by decide +kernel : decode (p_c 96) 40 = .ok (.ladd, 1)) rfl rfl
theorem e96_41 : V 96 41 [l0, l1, l2, l3, l4, l5, l6] (.long u :: st) h Q = V 96 42 [l0, l1, p_dl l2, some (.long u), none, l5, l6] st h Q := V_nx (by decide +kernel : decode (p_c 96) 41 = .ok (.lstore_n 3, 1)) rfl rfl
theorem e96_42 : V 96 42 [l0, l1, l2, l3, l4, l5, some (.int x)] st h Q = V 96 45 [l0, l1, l2, l3, l4, p_dl l5, some (.int (x + 1))] st h Q := V_iinc (x := x) (by decide +kernel : decode (p_c 96) 42 = .ok (.iinc 6 1, 3)) (by decide) rfl (Nat.le_of_ble_eq_true rfl)
theorem e96_45 : V 96 45 L st h Q = V 96 20 L st h Q := V_goto (by decide +kernel : decode (p_c 96) 45 = .ok (.goto (-25), 3)) (by decide)
theorem e96_48 : V 96 48 L st h Q = V 96 51 L (.long 31 :: st) h Q := V_ldc2 (by decide +kernel : decode (p_c 96) 48 = .ok (.ldc2_w 283, 3)) (by decide +kernel)
theorem e96_51 : V 96 51 [l0, l1, l2, some (.long u), l4, l5, l6] st h Q = V 96 52 [l0, l1, l2, some (.long u), l4, l5, l6] (.long u :: st) h Q := V_nx (by decide +kernel : decode (p_c 96) 51 = .ok (.lload_n 3, 1)) rfl rfl
theorem e96_52 : V 96 52 L (.long w :: .long u :: st) h Q = V 96 53 L (.long (u * w) :: st) h Q := V_nx (by decide +kernel : decode (p_c 96) 52 = .ok (.lmul, 1)) rfl rfl
theorem e96_53 : V 96 53 [some (.ref a), l1, l2, l3, l4, l5, l6] st h Q = V 96 54 [some (.ref a), l1, l2, l3, l4, l5, l6] (.ref a :: st) h Q := V_nx (by decide +kernel : decode (p_c 96) 53 = .ok (.aload_n 0, 1)) rfl rfl
theorem e96_54 : V 96 54 [l0, l1, l2, l3, l4, some (.int x), l6] st h Q = V 96 56 [l0, l1, l2, l3, l4, some (.int x), l6] (.int x :: st) h Q := V_nx (by decide +kernel : decode (p_c 96) 54 = .ok (.iload 5, 2)) rfl rfl
theorem e96_56 : V 96 56 L (.int x1 :: .ref a :: st) h Q = ((p_cn1 (p_get h a) = 11 ∧ p_sm st) ∧ Vm 84 [.ref a, .int x1] h (Kt 96 59 L st Q)) := V_iv (n := 1) (as := [.int x1]) (ci := 11) (z := 84) (by decide +kernel : decode (p_c 96) 56 = .ok (.invokevirtual 300, 3)) (by decide +kernel) rfl rfl (by decide +kernel) rfl
theorem e96_59 : V 96 59 L (.int x :: st) h Q = V 96 60 L (.long x.toInt64 :: st) h Q := V_nx (by decide +kernel : decode (p_c 96) 59 = .ok (.i2l, 1)) rfl rfl
theorem e96_60 : V 96 60 L (.long w :: .long u :: st) h Q = V 96 61 L (.long (u + w) :: st) h Q := V_nx (by decide +kernel : decode (p_c 96) 60 = .ok (.ladd, 1)) rfl rfl
theorem e96_61 : V 96 61 [l0, l1, l2, l3, l4, l5, l6] (.long u :: st) h Q = V 96 62 [l0, l1, p_dl l2, some (.long u), none, l5, l6] st h Q := V_nx (by decide +kernel : decode (p_c 96) 61 = .ok (.lstore_n 3, 1)) rfl rfl
theorem e96_62 : V 96 62 [l0, l1, l2, l3, l4, some (.int x), l6] st h Q = V 96 65 [l0, l1, l2, l3, p_dl l4, some (.int (x + 1)), l6] st h Q := V_iinc (x := x) (by decide +kernel : decode (p_c 96) 62 = .ok (.iinc 5 1, 3)) (by decide) rfl (Nat.le_of_ble_eq_true rfl)
theorem e96_65 : V 96 65 L st h Q = V 96 5 L st h Q := V_goto (by decide +kernel : decode (p_c 96) 65 = .ok (.goto (-60), 3)) (by decide)
theorem e96_68 : V 96 68 [l0, l1, l2, some (.long u), l4, l5, l6] st h Q = V 96 69 [l0, l1, l2, some (.long u), l4, l5, l6] (.long u :: st) h Q := V_nx (by decide +kernel : decode (p_c 96) 68 = .ok (.lload_n 3, 1)) rfl rfl
theorem e96_69 : V 96 69 L [.long u] h Q = Q (some (.long u)) h := V_rl (by decide +kernel : decode (p_c 96) 69 = .ok (.lreturn, 1)) rfl
theorem m96 : Vm 96 [.ref a, .long u1] h Q = V 96 0 [some (.ref a), some (.long u1), none, none, none, none, none] [] h Q := rfl
theorem e97_0 : V 97 0 [l0, some (.long u), l2, l3, l4, l5, l6] st h Q = V 97 1 [l0, some (.long u), l2, l3, l4, l5, l6] (.long u :: st) h Q := V_nx (by decide +kernel : decode (p_c 97) 0 = .ok (.lload_n 1, 1)) rfl rfl
theorem e97_1 : V 97 1 [l0, l1, l2, l3, l4, l5, l6] (.long u :: st) h Q = V 97 2 [l0, l1, p_dl l2, some (.long u), none, l5, l6] st h Q := V_nx (by decide +kernel : decode (p_c 97) 1 = .ok (.lstore_n 3, 1)) rfl rfl
theorem e97_2 : V 97 2 L st h Q = V 97 3 L (.int 0 :: st) h Q := V_c (by decide +kernel : decode (p_c 97) 2 = .ok (.iconst 0, 1)) (by decide)
theorem e97_3 : V 97 3 [l0, l1, l2, l3, l4, l5, l6] (.int x :: st) h Q = V 97 5 [l0, l1, l2, l3, p_dl l4, some (.int x), l6] st h Q := V_nx (by decide +kernel : decode (p_c 97) 3 = .ok (.istore 5, 2)) rfl rfl
theorem e97_5 : V 97 5 [l0, l1, l2, l3, l4, some (.int x), l6] st h Q = V 97 7 [l0, l1, l2, l3, l4, some (.int x), l6] (.int x :: st) h Q := V_nx (by decide +kernel : decode (p_c 97) 5 = .ok (.iload 5, 2)) rfl rfl
theorem e97_7 : V 97 7 [some (.ref a), l1, l2, l3, l4, l5, l6] st h Q = V 97 8 [some (.ref a), l1, l2, l3, l4, l5, l6] (.ref a :: st) h Q := V_nx (by decide +kernel : decode (p_c 97) 7 = .ok (.aload_n 0, 1)) rfl rfl
theorem e97_8 : V 97 8 L (.ref a :: st) h Q = (p_ok1 [11] 9 (p_get h a) ∧ V 97 11 L (p_fv 9 (p_get h a) :: st) h Q) := V_gf (t := (0, 0, "WaterShoulders")) (by decide +kernel : decode (p_c 97) 8 = .ok (.getfield 92, 3)) (by decide +kernel)
theorem e97_11 : V 97 11 L (.int z :: .int x :: st) h Q = if x < z then V 97 14 L st h Q else V 97 66 L st h Q := (V_icmp (by decide +kernel : decode (p_c 97) 11 = .ok (.if_icmp .ge 55, 3)) (by decide)).trans i_ge
theorem e97_14 : V 97 14 L st h Q = V 97 15 L (.int 0 :: st) h Q := V_c (by decide +kernel : decode (p_c 97) 14 = .ok (.iconst 0, 1)) (by decide)
theorem e97_15 : V 97 15 [l0, l1, l2, l3, l4, l5, l6] (.int x :: st) h Q = V 97 17 [l0, l1, l2, l3, l4, p_dl l5, some (.int x)] st h Q := V_nx (by decide +kernel : decode (p_c 97) 15 = .ok (.istore 6, 2)) rfl rfl
theorem e97_17 : V 97 17 [l0, l1, l2, l3, l4, l5, some (.int x)] st h Q = V 97 19 [l0, l1, l2, l3, l4, l5, some (.int x)] (.int x :: st) h Q := V_nx (by decide +kernel : decode (p_c 97) 17 = .ok (.iload 6, 2)) rfl rfl
theorem e97_19 : V 97 19 L st h Q = V 97 21 L (.int 7 :: st) h Q := V_b (by decide +kernel : decode (p_c 97) 19 = .ok (.bipush 7, 2)) (by decide)
theorem e97_21 : V 97 21 L (.int z :: .int x :: st) h Q = if z < x then V 97 46 L st h Q else V 97 24 L st h Q := (V_icmp (by decide +kernel : decode (p_c 97) 21 = .ok (.if_icmp .gt 25, 3)) (by decide)).trans i_gt
theorem e97_24 : V 97 24 L st h Q = V 97 27 L (.long 31 :: st) h Q := V_ldc2 (by decide +kernel : decode (p_c 97) 24 = .ok (.ldc2_w 283, 3)) (by decide +kernel)
theorem e97_27 : V 97 27 [l0, l1, l2, some (.long u), l4, l5, l6] st h Q = V 97 28 [l0, l1, l2, some (.long u), l4, l5, l6] (.long u :: st) h Q := V_nx (by decide +kernel : decode (p_c 97) 27 = .ok (.lload_n 3, 1)) rfl rfl
theorem e97_28 : V 97 28 L (.long w :: .long u :: st) h Q = V 97 29 L (.long (u * w) :: st) h Q := V_nx (by decide +kernel : decode (p_c 97) 28 = .ok (.lmul, 1)) rfl rfl
theorem e97_29 : V 97 29 [some (.ref a), l1, l2, l3, l4, l5, l6] st h Q = V 97 30 [some (.ref a), l1, l2, l3, l4, l5, l6] (.ref a :: st) h Q := V_nx (by decide +kernel : decode (p_c 97) 29 = .ok (.aload_n 0, 1)) rfl rfl
theorem e97_30 : V 97 30 [l0, l1, l2, l3, l4, some (.int x), l6] st h Q = V 97 32 [l0, l1, l2, l3, l4, some (.int x), l6] (.int x :: st) h Q := V_nx (by decide +kernel : decode (p_c 97) 30 = .ok (.iload 5, 2)) rfl rfl
theorem e97_32 : V 97 32 [l0, l1, l2, l3, l4, l5, some (.int x)] st h Q = V 97 34 [l0, l1, l2, l3, l4, l5, some (.int x)] (.int x :: st) h Q := V_nx (by decide +kernel : decode (p_c 97) 32 = .ok (.iload 6, 2)) rfl rfl
theorem e97_34 : V 97 34 L (.int x2 :: .int x1 :: .ref a :: st) h Q = ((p_cn1 (p_get h a) = 11 ∧ p_sm st) ∧ Vm 75 [.ref a, .int x1, .int x2] h (Kt 97 37 L st Q)) := V_iv (n := 2) (as := [.int x2, .int x1]) (ci := 11) (z := 75) (by decide +kernel : decode (p_c 97) 34 = .ok (.invokevirtual 303, 3)) (by decide +kernel) rfl rfl (by decide +kernel) rfl
theorem e97_37 : V 97 37 L (.int x :: st) h Q = V 97 38 L (.long x.toInt64 :: st) h Q := V_nx (by decide +kernel : decode (p_c 97) 37 = .ok (.i2l, 1)) rfl rfl
theorem e97_38 : V 97 38 L (.long w :: .long u :: st) h Q = V 97 39 L (.long (u + w) :: st) h Q := V_nx (by decide +kernel : decode (p_c 97) 38 = .ok (.ladd, 1)) rfl rfl
theorem e97_39 : V 97 39 [l0, l1, l2, l3, l4, l5, l6] (.long u :: st) h Q = V 97 40 [l0, l1, p_dl l2, some (.long u), none, l5, l6] st h Q := V_nx (by decide +kernel : decode (p_c 97) 39 = .ok (.lstore_n 3, 1)) rfl rfl
theorem e97_40 : V 97 40 [l0, l1, l2, l3, l4, l5, some (.int x)] st h Q = V 97 43 [l0, l1, l2, l3, l4, p_dl l5, some (.int (x + 1))] st h Q := V_iinc (x := x) (by decide +kernel : decode (p_c 97) 40 = .ok (.iinc 6 1, 3)) (by decide) rfl (Nat.le_of_ble_eq_true rfl)
theorem e97_43 : V 97 43 L st h Q = V 97 17 L st h Q := V_goto (by decide +kernel : decode (p_c 97) 43 = .ok (.goto (-26), 3)) (by decide)
theorem e97_46 : V 97 46 L st h Q = V 97 49 L (.long 31 :: st) h Q := V_ldc2 (by decide +kernel : decode (p_c 97) 46 = .ok (.ldc2_w 283, 3)) (by decide +kernel)
theorem e97_49 : V 97 49 [l0, l1, l2, some (.long u), l4, l5, l6] st h Q = V 97 50 [l0, l1, l2, some (.long u), l4, l5, l6] (.long u :: st) h Q := V_nx (by decide +kernel : decode (p_c 97) 49 = .ok (.lload_n 3, 1)) rfl rfl
theorem e97_50 : V 97 50 L (.long w :: .long u :: st) h Q = V 97 51 L (.long (u * w) :: st) h Q := V_nx (by decide +kernel : decode (p_c 97) 50 = .ok (.lmul, 1)) rfl rfl
theorem e97_51 : V 97 51 [some (.ref a), l1, l2, l3, l4, l5, l6] st h Q = V 97 52 [some (.ref a), l1, l2, l3, l4, l5, l6] (.ref a :: st) h Q := V_nx (by decide +kernel : decode (p_c 97) 51 = .ok (.aload_n 0, 1)) rfl rfl
theorem e97_52 : V 97 52 [l0, l1, l2, l3, l4, some (.int x), l6] st h Q = V 97 54 [l0, l1, l2, l3, l4, some (.int x), l6] (.int x :: st) h Q := V_nx (by decide +kernel : decode (p_c 97) 52 = .ok (.iload 5, 2)) rfl rfl
theorem e97_54 : V 97 54 L (.int x1 :: .ref a :: st) h Q = ((p_cn1 (p_get h a) = 11 ∧ p_sm st) ∧ Vm 83 [.ref a, .int x1] h (Kt 97 57 L st Q)) := V_iv (n := 1) (as := [.int x1]) (ci := 11) (z := 83) (by decide +kernel : decode (p_c 97) 54 = .ok (.invokevirtual 306, 3)) (by decide +kernel) rfl rfl (by decide +kernel) rfl
theorem e97_57 : V 97 57 L (.int x :: st) h Q = V 97 58 L (.long x.toInt64 :: st) h Q := V_nx (by decide +kernel : decode (p_c 97) 57 = .ok (.i2l, 1)) rfl rfl
theorem e97_58 : V 97 58 L (.long w :: .long u :: st) h Q = V 97 59 L (.long (u + w) :: st) h Q := V_nx (by decide +kernel : decode (p_c 97) 58 = .ok (.ladd, 1)) rfl rfl
theorem e97_59 : V 97 59 [l0, l1, l2, l3, l4, l5, l6] (.long u :: st) h Q = V 97 60 [l0, l1, p_dl l2, some (.long u), none, l5, l6] st h Q := V_nx (by decide +kernel : decode (p_c 97) 59 = .ok (.lstore_n 3, 1)) rfl rfl
theorem e97_60 : V 97 60 [l0, l1, l2, l3, l4, some (.int x), l6] st h Q = V 97 63 [l0, l1, l2, l3, p_dl l4, some (.int (x + 1)), l6] st h Q := V_iinc (x := x) (by decide +kernel : decode (p_c 97) 60 = .ok (.iinc 5 1, 3)) (by decide) rfl (Nat.le_of_ble_eq_true rfl)
theorem e97_63 : V 97 63 L st h Q = V 97 5 L st h Q := V_goto (by decide +kernel : decode (p_c 97) 63 = .ok (.goto (-58), 3)) (by decide)
theorem e97_66 : V 97 66 [l0, l1, l2, some (.long u), l4, l5, l6] st h Q = V 97 67 [l0, l1, l2, some (.long u), l4, l5, l6] (.long u :: st) h Q := V_nx (by decide +kernel : decode (p_c 97) 66 = .ok (.lload_n 3, 1)) rfl rfl
theorem e97_67 : V 97 67 L [.long u] h Q = Q (some (.long u)) h := V_rl (by decide +kernel : decode (p_c 97) 67 = .ok (.lreturn, 1)) rfl
theorem m97 : Vm 97 [.ref a, .long u1] h Q = V 97 0 [some (.ref a), some (.long u1), none, none, none, none, none] [] h Q := rfl
theorem e98_0 : V 98 0 [some (.int x), l1] st h Q = V 98 1 [some (.int x), l1] (.int x :: st) h Q := V_nx (by decide +kernel : decode (p_c 98) 0 = .ok (.iload_n 0, 1)) rfl rfl
theorem e98_1 : V 98 1 L st h Q = V 98 2 L (.int 3 :: st) h Q := V_c (by decide +kernel : decode (p_c 98) 1 = .ok (.iconst 3, 1)) (by decide)
theorem e98_2 : V 98 2 L (.int z :: .int x :: st) h Q = if x < z then V 98 23 L st h Q else V 98 5 L st h Q := (V_icmp (by decide +kernel : decode (p_c 98) 2 = .ok (.if_icmp .lt 21, 3)) (by decide)).trans i_lt
theorem e98_5 : V 98 5 [l0, some (.int x)] st h Q = V 98 6 [l0, some (.int x)] (.int x :: st) h Q := V_nx (by decide +kernel : decode (p_c 98) 5 = .ok (.iload_n 1, 1)) rfl rfl
theorem e98_6 : V 98 6 L st h Q = V 98 7 L (.int 1 :: st) h Q := V_c (by decide +kernel : decode (p_c 98) 6 = .ok (.iconst 1, 1)) (by decide)
theorem e98_7 : V 98 7 L (.int z :: .int x :: st) h Q = if x < z then V 98 19 L st h Q else V 98 10 L st h Q := (V_icmp (by decide +kernel : decode (p_c 98) 7 = .ok (.if_icmp .lt 12, 3)) (by decide)).trans i_lt
theorem e98_10 : V 98 10 [l0, some (.int x)] st h Q = V 98 11 [l0, some (.int x)] (.int x :: st) h Q := V_nx (by decide +kernel : decode (p_c 98) 10 = .ok (.iload_n 1, 1)) rfl rfl
theorem e98_11 : V 98 11 L st h Q = V 98 12 L (.int 3 :: st) h Q := V_c (by decide +kernel : decode (p_c 98) 11 = .ok (.iconst 3, 1)) (by decide)
theorem e98_12 : V 98 12 L (.int z :: .int x :: st) h Q = if z < x then V 98 19 L st h Q else V 98 15 L st h Q := (V_icmp (by decide +kernel : decode (p_c 98) 12 = .ok (.if_icmp .gt 7, 3)) (by decide)).trans i_gt
theorem e98_15 : V 98 15 L st h Q = V 98 16 L (.int 1 :: st) h Q := V_c (by decide +kernel : decode (p_c 98) 15 = .ok (.iconst 1, 1)) (by decide)
theorem e98_16 : V 98 16 L st h Q = V 98 32 L st h Q := V_goto (by decide +kernel : decode (p_c 98) 16 = .ok (.goto 16, 3)) (by decide)
theorem e98_19 : V 98 19 L st h Q = V 98 20 L (.int 0 :: st) h Q := V_c (by decide +kernel : decode (p_c 98) 19 = .ok (.iconst 0, 1)) (by decide)
theorem e98_20 : V 98 20 L st h Q = V 98 32 L st h Q := V_goto (by decide +kernel : decode (p_c 98) 20 = .ok (.goto 12, 3)) (by decide)
theorem e98_23 : V 98 23 [l0, some (.int x)] st h Q = V 98 24 [l0, some (.int x)] (.int x :: st) h Q := V_nx (by decide +kernel : decode (p_c 98) 23 = .ok (.iload_n 1, 1)) rfl rfl
theorem e98_24 : V 98 24 L (.int x :: st) h Q = if x = 0 then V 98 27 L st h Q else V 98 31 L st h Q := (V_ifc (by decide +kernel : decode (p_c 98) 24 = .ok (.ifCond .ne 7, 3)) (by decide)).trans i_ne
theorem e98_27 : V 98 27 L st h Q = V 98 28 L (.int 1 :: st) h Q := V_c (by decide +kernel : decode (p_c 98) 27 = .ok (.iconst 1, 1)) (by decide)
theorem e98_28 : V 98 28 L st h Q = V 98 32 L st h Q := V_goto (by decide +kernel : decode (p_c 98) 28 = .ok (.goto 4, 3)) (by decide)
theorem e98_31 : V 98 31 L st h Q = V 98 32 L (.int 0 :: st) h Q := V_c (by decide +kernel : decode (p_c 98) 31 = .ok (.iconst 0, 1)) (by decide)
theorem e98_32 : V 98 32 L [.int x] h Q = ((x = 0 ∨ x = 1) ∧ Q (some (.int x)) h) := V_rz (by decide +kernel : decode (p_c 98) 32 = .ok (.ireturn, 1)) rfl
theorem m98 : Vm 98 [.int x1, .int x2] h Q = V 98 0 [some (.int x1), some (.int x2)] [] h Q := rfl
theorem e99_0 : V 99 0 [some (.int x), l1, l2] st h Q = V 99 1 [some (.int x), l1, l2] (.int x :: st) h Q := V_nx (by decide +kernel : decode (p_c 99) 0 = .ok (.iload_n 0, 1)) rfl rfl
theorem e99_1 : V 99 1 L (.int x :: st) h Q = V 99 (if x = 1 then 32 else if x = 2 then 42 else if x = 3 then 52 else if x = 4 then 62 else 72) L st h Q := V_ts (fun z => if z = 1 then 32 else if z = 2 then 42 else if z = 3 then 52 else if z = 4 then 62 else 72) (by decide +kernel : decode (p_c 99) 1 = .ok (.tableswitch 71 1 4 #[31, 41, 51, 61], 31)) (by decide) (by
  intro z
  refine ⟨fun hz => ?_, fun hz => ?_⟩
  · have h_0 : ¬ z = 1 := by intro q; subst q; revert hz; decide
    have h_1 : ¬ z = 2 := by intro q; subst q; revert hz; decide
    have h_2 : ¬ z = 3 := by intro q; subst q; revert hz; decide
    have h_3 : ¬ z = 4 := by intro q; subst q; revert hz; decide
    simp only [h_0, h_1, h_2, h_3, if_false]
    rfl
  · have hc : z.toInt = 1 ∨ z.toInt = 2 ∨ z.toInt = 3 ∨ z.toInt = 4 := by omega
    rcases hc with hc | hc | hc | hc
    · have e : z = 1 := Int32.toInt_inj.mp (by rw [hc]; rfl)
      subst e
      exact ⟨31, rfl, by decide, rfl⟩
    · have e : z = 2 := Int32.toInt_inj.mp (by rw [hc]; rfl)
      subst e
      exact ⟨41, rfl, by decide, rfl⟩
    · have e : z = 3 := Int32.toInt_inj.mp (by rw [hc]; rfl)
      subst e
      exact ⟨51, rfl, by decide, rfl⟩
    · have e : z = 4 := Int32.toInt_inj.mp (by rw [hc]; rfl)
      subst e
      exact ⟨61, rfl, by decide, rfl⟩)
theorem e99_32 : V 99 32 L st h Q = V 99 35 L (.ref h.1 :: st) (p_new h (.inr (7, [.int 0, .int 0, .int 0, .int 0])) 4) Q := V_new (ci := 7) (by decide +kernel : decode (p_c 99) 32 = .ok (.new 154, 3)) (by decide +kernel)
theorem e99_35 : V 99 35 L (.ref a :: st) h Q = V 99 36 L (.ref a :: .ref a :: st) h Q := V_dup (by decide +kernel : decode (p_c 99) 35 = .ok (.dup, 1)) rfl
theorem e99_35i : V 99 35 L (.int x :: st) h Q = V 99 36 L (.int x :: .int x :: st) h Q := V_dup (by decide +kernel : decode (p_c 99) 35 = .ok (.dup, 1)) rfl
theorem e99_36 : V 99 36 [l0, some (.int x), l2] st h Q = V 99 37 [l0, some (.int x), l2] (.int x :: st) h Q := V_nx (by decide +kernel : decode (p_c 99) 36 = .ok (.iload_n 1, 1)) rfl rfl
theorem e99_37 : V 99 37 [l0, l1, some (.int x)] st h Q = V 99 38 [l0, l1, some (.int x)] (.int x :: st) h Q := V_nx (by decide +kernel : decode (p_c 99) 37 = .ok (.iload_n 2, 1)) rfl rfl
theorem e99_38 : V 99 38 L (.int x2 :: .int x1 :: .ref a :: st) h Q = (p_sm st ∧ Vm 36 [.ref a, .int x1, .int x2] h (Kt 99 41 L st Q)) := V_sp (n := 2) (as := [.int x2, .int x1]) (z := 36) (by decide +kernel : decode (p_c 99) 38 = .ok (.invokespecial 309, 3)) (by decide +kernel) rfl (by decide +kernel) rfl
theorem e99_41 : V 99 41 L [.ref a] h Q = Q (some (.ref a)) h := V_ra (by decide +kernel : decode (p_c 99) 41 = .ok (.areturn, 1)) rfl
theorem e99_41n : V 99 41 L [.null] h Q = Q (some .null) h := V_rn (by decide +kernel : decode (p_c 99) 41 = .ok (.areturn, 1)) rfl
theorem e99_42 : V 99 42 L st h Q = V 99 45 L (.ref h.1 :: st) (p_new h (.inr (0, [.int 0, .int 0, .int 0, .int 0])) 4) Q := V_new (ci := 0) (by decide +kernel : decode (p_c 99) 42 = .ok (.new 156, 3)) (by decide +kernel)
theorem e99_45 : V 99 45 L (.ref a :: st) h Q = V 99 46 L (.ref a :: .ref a :: st) h Q := V_dup (by decide +kernel : decode (p_c 99) 45 = .ok (.dup, 1)) rfl
theorem e99_45i : V 99 45 L (.int x :: st) h Q = V 99 46 L (.int x :: .int x :: st) h Q := V_dup (by decide +kernel : decode (p_c 99) 45 = .ok (.dup, 1)) rfl
theorem e99_46 : V 99 46 [l0, some (.int x), l2] st h Q = V 99 47 [l0, some (.int x), l2] (.int x :: st) h Q := V_nx (by decide +kernel : decode (p_c 99) 46 = .ok (.iload_n 1, 1)) rfl rfl
theorem e99_47 : V 99 47 [l0, l1, some (.int x)] st h Q = V 99 48 [l0, l1, some (.int x)] (.int x :: st) h Q := V_nx (by decide +kernel : decode (p_c 99) 47 = .ok (.iload_n 2, 1)) rfl rfl
theorem e99_48 : V 99 48 L (.int x2 :: .int x1 :: .ref a :: st) h Q = (p_sm st ∧ Vm 0 [.ref a, .int x1, .int x2] h (Kt 99 51 L st Q)) := V_sp (n := 2) (as := [.int x2, .int x1]) (z := 0) (by decide +kernel : decode (p_c 99) 48 = .ok (.invokespecial 311, 3)) (by decide +kernel) rfl (by decide +kernel) rfl
theorem e99_51 : V 99 51 L [.ref a] h Q = Q (some (.ref a)) h := V_ra (by decide +kernel : decode (p_c 99) 51 = .ok (.areturn, 1)) rfl
theorem e99_51n : V 99 51 L [.null] h Q = Q (some .null) h := V_rn (by decide +kernel : decode (p_c 99) 51 = .ok (.areturn, 1)) rfl
theorem e99_52 : V 99 52 L st h Q = V 99 55 L (.ref h.1 :: st) (p_new h (.inr (2, [.int 0, .int 0, .int 0, .int 0])) 4) Q := V_new (ci := 2) (by decide +kernel : decode (p_c 99) 52 = .ok (.new 158, 3)) (by decide +kernel)
theorem e99_55 : V 99 55 L (.ref a :: st) h Q = V 99 56 L (.ref a :: .ref a :: st) h Q := V_dup (by decide +kernel : decode (p_c 99) 55 = .ok (.dup, 1)) rfl
theorem e99_55i : V 99 55 L (.int x :: st) h Q = V 99 56 L (.int x :: .int x :: st) h Q := V_dup (by decide +kernel : decode (p_c 99) 55 = .ok (.dup, 1)) rfl
theorem e99_56 : V 99 56 [l0, some (.int x), l2] st h Q = V 99 57 [l0, some (.int x), l2] (.int x :: st) h Q := V_nx (by decide +kernel : decode (p_c 99) 56 = .ok (.iload_n 1, 1)) rfl rfl
theorem e99_57 : V 99 57 [l0, l1, some (.int x)] st h Q = V 99 58 [l0, l1, some (.int x)] (.int x :: st) h Q := V_nx (by decide +kernel : decode (p_c 99) 57 = .ok (.iload_n 2, 1)) rfl rfl
theorem e99_58 : V 99 58 L (.int x2 :: .int x1 :: .ref a :: st) h Q = (p_sm st ∧ Vm 7 [.ref a, .int x1, .int x2] h (Kt 99 61 L st Q)) := V_sp (n := 2) (as := [.int x2, .int x1]) (z := 7) (by decide +kernel : decode (p_c 99) 58 = .ok (.invokespecial 312, 3)) (by decide +kernel) rfl (by decide +kernel) rfl
theorem e99_61 : V 99 61 L [.ref a] h Q = Q (some (.ref a)) h := V_ra (by decide +kernel : decode (p_c 99) 61 = .ok (.areturn, 1)) rfl
theorem e99_61n : V 99 61 L [.null] h Q = Q (some .null) h := V_rn (by decide +kernel : decode (p_c 99) 61 = .ok (.areturn, 1)) rfl
theorem e99_62 : V 99 62 L st h Q = V 99 65 L (.ref h.1 :: st) (p_new h (.inr (10, [.int 0, .int 0, .int 0, .int 0])) 4) Q := V_new (ci := 10) (by decide +kernel : decode (p_c 99) 62 = .ok (.new 160, 3)) (by decide +kernel)
theorem e99_65 : V 99 65 L (.ref a :: st) h Q = V 99 66 L (.ref a :: .ref a :: st) h Q := V_dup (by decide +kernel : decode (p_c 99) 65 = .ok (.dup, 1)) rfl
theorem e99_65i : V 99 65 L (.int x :: st) h Q = V 99 66 L (.int x :: .int x :: st) h Q := V_dup (by decide +kernel : decode (p_c 99) 65 = .ok (.dup, 1)) rfl
theorem e99_66 : V 99 66 [l0, some (.int x), l2] st h Q = V 99 67 [l0, some (.int x), l2] (.int x :: st) h Q := V_nx (by decide +kernel : decode (p_c 99) 66 = .ok (.iload_n 1, 1)) rfl rfl
theorem e99_67 : V 99 67 [l0, l1, some (.int x)] st h Q = V 99 68 [l0, l1, some (.int x)] (.int x :: st) h Q := V_nx (by decide +kernel : decode (p_c 99) 67 = .ok (.iload_n 2, 1)) rfl rfl
theorem e99_68 : V 99 68 L (.int x2 :: .int x1 :: .ref a :: st) h Q = (p_sm st ∧ Vm 65 [.ref a, .int x1, .int x2] h (Kt 99 71 L st Q)) := V_sp (n := 2) (as := [.int x2, .int x1]) (z := 65) (by decide +kernel : decode (p_c 99) 68 = .ok (.invokespecial 313, 3)) (by decide +kernel) rfl (by decide +kernel) rfl
theorem e99_71 : V 99 71 L [.ref a] h Q = Q (some (.ref a)) h := V_ra (by decide +kernel : decode (p_c 99) 71 = .ok (.areturn, 1)) rfl
theorem e99_71n : V 99 71 L [.null] h Q = Q (some .null) h := V_rn (by decide +kernel : decode (p_c 99) 71 = .ok (.areturn, 1)) rfl
theorem e99_72 : V 99 72 L st h Q = V 99 75 L (.ref h.1 :: st) (p_new h (.inr (1, [.int 0, .int 0, .int 0, .int 0])) 4) Q := V_new (ci := 1) (by decide +kernel : decode (p_c 99) 72 = .ok (.new 30, 3)) (by decide +kernel)
theorem e99_75 : V 99 75 L (.ref a :: st) h Q = V 99 76 L (.ref a :: .ref a :: st) h Q := V_dup (by decide +kernel : decode (p_c 99) 75 = .ok (.dup, 1)) rfl
theorem e99_75i : V 99 75 L (.int x :: st) h Q = V 99 76 L (.int x :: .int x :: st) h Q := V_dup (by decide +kernel : decode (p_c 99) 75 = .ok (.dup, 1)) rfl
theorem e99_76 : V 99 76 [l0, some (.int x), l2] st h Q = V 99 77 [l0, some (.int x), l2] (.int x :: st) h Q := V_nx (by decide +kernel : decode (p_c 99) 76 = .ok (.iload_n 1, 1)) rfl rfl
theorem e99_77 : V 99 77 [l0, l1, some (.int x)] st h Q = V 99 78 [l0, l1, some (.int x)] (.int x :: st) h Q := V_nx (by decide +kernel : decode (p_c 99) 77 = .ok (.iload_n 2, 1)) rfl rfl
theorem e99_78 : V 99 78 L (.int x2 :: .int x1 :: .ref a :: st) h Q = (p_sm st ∧ Vm 3 [.ref a, .int x1, .int x2] h (Kt 99 81 L st Q)) := V_sp (n := 2) (as := [.int x2, .int x1]) (z := 3) (by decide +kernel : decode (p_c 99) 78 = .ok (.invokespecial 314, 3)) (by decide +kernel) rfl (by decide +kernel) rfl
theorem e99_81 : V 99 81 L [.ref a] h Q = Q (some (.ref a)) h := V_ra (by decide +kernel : decode (p_c 99) 81 = .ok (.areturn, 1)) rfl
theorem e99_81n : V 99 81 L [.null] h Q = Q (some .null) h := V_rn (by decide +kernel : decode (p_c 99) 81 = .ok (.areturn, 1)) rfl
theorem m99 : Vm 99 [.int x1, .int x2, .int x3] h Q = V 99 0 [some (.int x1), some (.int x2), some (.int x3)] [] h Q := rfl
theorem e100_0 : V 100 0 [l0, some (.int x)] st h Q = V 100 1 [l0, some (.int x)] (.int x :: st) h Q := V_nx (by decide +kernel : decode (p_c 100) 0 = .ok (.iload_n 1, 1)) rfl rfl
theorem e100_1 : V 100 1 L (.int x :: st) h Q = if x < 0 then V 100 21 L st h Q else V 100 4 L st h Q := (V_ifc (by decide +kernel : decode (p_c 100) 1 = .ok (.ifCond .lt 20, 3)) (by decide)).trans i_lt
theorem e100_4 : V 100 4 [l0, some (.int x)] st h Q = V 100 5 [l0, some (.int x)] (.int x :: st) h Q := V_nx (by decide +kernel : decode (p_c 100) 4 = .ok (.iload_n 1, 1)) rfl rfl
theorem e100_5 : V 100 5 [some (.ref a), l1] st h Q = V 100 6 [some (.ref a), l1] (.ref a :: st) h Q := V_nx (by decide +kernel : decode (p_c 100) 5 = .ok (.aload_n 0, 1)) rfl rfl
theorem e100_6 : V 100 6 L (.ref a :: st) h Q = (p_ok1 [11] 9 (p_get h a) ∧ V 100 9 L (p_fv 9 (p_get h a) :: st) h Q) := V_gf (t := (0, 0, "WaterShoulders")) (by decide +kernel : decode (p_c 100) 6 = .ok (.getfield 92, 3)) (by decide +kernel)
theorem e100_9 : V 100 9 L (.int z :: .int x :: st) h Q = if x < z then V 100 12 L st h Q else V 100 21 L st h Q := (V_icmp (by decide +kernel : decode (p_c 100) 9 = .ok (.if_icmp .ge 12, 3)) (by decide)).trans i_ge
theorem e100_12 : V 100 12 [some (.ref a), l1] st h Q = V 100 13 [some (.ref a), l1] (.ref a :: st) h Q := V_nx (by decide +kernel : decode (p_c 100) 12 = .ok (.aload_n 0, 1)) rfl rfl
theorem e100_13 : V 100 13 L (.ref a :: st) h Q = (p_ok1 [11] 4 (p_get h a) ∧ V 100 16 L (p_fv 4 (p_get h a) :: st) h Q) := V_gf (t := (3, 1, "WaterShoulders")) (by decide +kernel : decode (p_c 100) 13 = .ok (.getfield 32, 3)) (by decide +kernel)
theorem e100_16 : V 100 16 [l0, some (.int x)] st h Q = V 100 17 [l0, some (.int x)] (.int x :: st) h Q := V_nx (by decide +kernel : decode (p_c 100) 16 = .ok (.iload_n 1, 1)) rfl rfl
theorem e100_17 : V 100 17 L (.int i :: .ref a :: st) h Q = (p_qok i (p_get h a) ∧ V 100 18 L (va_rf (p_qvl i (p_get h a)) :: st) h Q) := V_aal (by decide +kernel : decode (p_c 100) 17 = .ok (.aaload, 1))
theorem e100_18 : V 100 18 L st h Q = V 100 22 L st h Q := V_goto (by decide +kernel : decode (p_c 100) 18 = .ok (.goto 4, 3)) (by decide)
theorem e100_21 : V 100 21 L st h Q = V 100 22 L (.null :: st) h Q := V_nx (by decide +kernel : decode (p_c 100) 21 = .ok (.aconst_null, 1)) rfl rfl
theorem e100_22 : V 100 22 L [.ref a] h Q = Q (some (.ref a)) h := V_ra (by decide +kernel : decode (p_c 100) 22 = .ok (.areturn, 1)) rfl
theorem e100_22n : V 100 22 L [.null] h Q = Q (some .null) h := V_rn (by decide +kernel : decode (p_c 100) 22 = .ok (.areturn, 1)) rfl
theorem m100 : Vm 100 [.ref a, .int x1] h Q = V 100 0 [some (.ref a), some (.int x1)] [] h Q := rfl
theorem e101_0 : V 101 0 [some (.ref a), l1, l2] st h Q = V 101 1 [some (.ref a), l1, l2] (.ref a :: st) h Q := V_nx (by decide +kernel : decode (p_c 101) 0 = .ok (.aload_n 0, 1)) rfl rfl
theorem e101_1 : V 101 1 L (.ref a :: st) h Q = (p_ok1 [11] 2 (p_get h a) ∧ V 101 4 L (p_fv 2 (p_get h a) :: st) h Q) := V_gf (t := (3, 1, "WaterShoulders")) (by decide +kernel : decode (p_c 101) 1 = .ok (.getfield 23, 3)) (by decide +kernel)
theorem e101_4 : V 101 4 [l0, some (.int x), l2] st h Q = V 101 5 [l0, some (.int x), l2] (.int x :: st) h Q := V_nx (by decide +kernel : decode (p_c 101) 4 = .ok (.iload_n 1, 1)) rfl rfl
theorem e101_5 : V 101 5 L (.int i :: .ref a :: st) h Q = (p_iok i (p_get h a) ∧ V 101 6 L (.int (p_ivl i (p_get h a)) :: st) h Q) := V_ial (by decide +kernel : decode (p_c 101) 5 = .ok (.iaload, 1))
theorem e101_6 : V 101 6 [l0, l1, some (.int x)] st h Q = V 101 7 [l0, l1, some (.int x)] (.int x :: st) h Q := V_nx (by decide +kernel : decode (p_c 101) 6 = .ok (.iload_n 2, 1)) rfl rfl
theorem e101_7 : V 101 7 [some (.ref a), l1, l2] st h Q = V 101 8 [some (.ref a), l1, l2] (.ref a :: st) h Q := V_nx (by decide +kernel : decode (p_c 101) 7 = .ok (.aload_n 0, 1)) rfl rfl
theorem e101_8 : V 101 8 L (.ref a :: st) h Q = (p_ok1 [11] 1 (p_get h a) ∧ V 101 11 L (p_fv 1 (p_get h a) :: st) h Q) := V_gf (t := (3, 1, "WaterShoulders")) (by decide +kernel : decode (p_c 101) 8 = .ok (.getfield 19, 3)) (by decide +kernel)
theorem e101_11 : V 101 11 L (.ref a :: st) h Q = (p_ok1 [9] 1 (p_get h a) ∧ V 101 14 L (p_fv 1 (p_get h a) :: st) h Q) := V_gf (t := (3, 2, "WaterShoulders$Stair")) (by decide +kernel : decode (p_c 101) 11 = .ok (.getfield 114, 3)) (by decide +kernel)
theorem e101_14 : V 101 14 [l0, some (.int x), l2] st h Q = V 101 15 [l0, some (.int x), l2] (.int x :: st) h Q := V_nx (by decide +kernel : decode (p_c 101) 14 = .ok (.iload_n 1, 1)) rfl rfl
theorem e101_15 : V 101 15 L (.int i :: .ref a :: st) h Q = (p_iok i (p_get h a) ∧ V 101 16 L (.int (p_ivl i (p_get h a)) :: st) h Q) := V_ial (by decide +kernel : decode (p_c 101) 15 = .ok (.iaload, 1))
theorem e101_16 : V 101 16 L (.int z :: .int x :: st) h Q = V 101 17 L (.int (x * z) :: st) h Q := V_nx (by decide +kernel : decode (p_c 101) 16 = .ok (.imul, 1)) rfl rfl
theorem e101_17 : V 101 17 L (.int z :: .int x :: st) h Q = (p_sm st ∧ V 101 20 L (.int (if z < x then z else x) :: st) h Q) := V_mm (by decide +kernel : decode (p_c 101) 17 = .ok (.invokestatic 315, 3)) (by decide +kernel) (by decide +kernel) (by decide +kernel) (Or.inr ⟨rfl, rfl⟩)
theorem e101_20 : V 101 20 L [.int x] h Q = Q (some (.int x)) h := V_ri (by decide +kernel : decode (p_c 101) 20 = .ok (.ireturn, 1)) rfl
theorem m101 : Vm 101 [.ref a, .int x1, .int x2] h Q = V 101 0 [some (.ref a), some (.int x1), some (.int x2)] [] h Q := rfl
theorem e102_0 : V 102 0 L st h Q = V 102 1 L (.int 0 :: st) h Q := V_c (by decide +kernel : decode (p_c 102) 0 = .ok (.iconst 0, 1)) (by decide)
theorem e102_1 : V 102 1 [l0, l1, l2, l3] (.int x :: st) h Q = V 102 2 [l0, p_dl l1, some (.int x), l3] st h Q := V_nx (by decide +kernel : decode (p_c 102) 1 = .ok (.istore_n 2, 1)) rfl rfl
theorem e102_2 : V 102 2 [l0, l1, some (.int x), l3] st h Q = V 102 3 [l0, l1, some (.int x), l3] (.int x :: st) h Q := V_nx (by decide +kernel : decode (p_c 102) 2 = .ok (.iload_n 2, 1)) rfl rfl
theorem e102_3 : V 102 3 L st h Q = V 102 4 L (.int 5 :: st) h Q := V_c (by decide +kernel : decode (p_c 102) 3 = .ok (.iconst 5, 1)) (by decide)
theorem e102_4 : V 102 4 L (.int z :: .int x :: st) h Q = if x < z then V 102 7 L st h Q else V 102 43 L st h Q := (V_icmp (by decide +kernel : decode (p_c 102) 4 = .ok (.if_icmp .ge 39, 3)) (by decide)).trans i_ge
theorem e102_7 : V 102 7 [some (.ref a), l1, l2, l3] st h Q = V 102 8 [some (.ref a), l1, l2, l3] (.ref a :: st) h Q := V_nx (by decide +kernel : decode (p_c 102) 7 = .ok (.aload_n 0, 1)) rfl rfl
theorem e102_8 : V 102 8 [l0, l1, some (.int x), l3] st h Q = V 102 9 [l0, l1, some (.int x), l3] (.int x :: st) h Q := V_nx (by decide +kernel : decode (p_c 102) 8 = .ok (.iload_n 2, 1)) rfl rfl
theorem e102_9 : V 102 9 L (.int x1 :: .ref a :: st) h Q = ((p_cn1 (p_get h a) = 11 ∧ p_sm st) ∧ Vm 100 [.ref a, .int x1] h (Kt 102 12 L st Q)) := V_iv (n := 1) (as := [.int x1]) (ci := 11) (z := 100) (by decide +kernel : decode (p_c 102) 9 = .ok (.invokevirtual 125, 3)) (by decide +kernel) rfl rfl (by decide +kernel) rfl
theorem e102_12 : V 102 12 [l0, l1, l2, l3] (.ref a :: st) h Q = V 102 13 [l0, l1, p_dl l2, some (.ref a)] st h Q := V_nx (by decide +kernel : decode (p_c 102) 12 = .ok (.astore_n 3, 1)) rfl rfl
theorem e102_12n : V 102 12 [l0, l1, l2, l3] (.null :: st) h Q = V 102 13 [l0, l1, p_dl l2, some (.null)] st h Q := V_nx (by decide +kernel : decode (p_c 102) 12 = .ok (.astore_n 3, 1)) rfl rfl
theorem e102_13 : V 102 13 [some (.ref a), l1, l2, l3] st h Q = V 102 14 [some (.ref a), l1, l2, l3] (.ref a :: st) h Q := V_nx (by decide +kernel : decode (p_c 102) 13 = .ok (.aload_n 0, 1)) rfl rfl
theorem e102_14 : V 102 14 L (.ref a :: st) h Q = (p_ok1 [11] 5 (p_get h a) ∧ V 102 17 L (p_fv 5 (p_get h a) :: st) h Q) := V_gf (t := (3, 1, "WaterShoulders")) (by decide +kernel : decode (p_c 102) 14 = .ok (.getfield 39, 3)) (by decide +kernel)
theorem e102_17 : V 102 17 L (.ref a :: st) h Q = (p_ok1 [4] 2 (p_get h a) ∧ V 102 20 L (p_fv 2 (p_get h a) :: st) h Q) := V_gf (t := (3, 2, "WaterShoulders$Mud")) (by decide +kernel : decode (p_c 102) 17 = .ok (.getfield 318, 3)) (by decide +kernel)
theorem e102_20 : V 102 20 [l0, l1, some (.int x), l3] st h Q = V 102 21 [l0, l1, some (.int x), l3] (.int x :: st) h Q := V_nx (by decide +kernel : decode (p_c 102) 20 = .ok (.iload_n 2, 1)) rfl rfl
theorem e102_21 : V 102 21 [l0, l1, l2, some (.ref a)] st h Q = V 102 22 [l0, l1, l2, some (.ref a)] (.ref a :: st) h Q := V_nx (by decide +kernel : decode (p_c 102) 21 = .ok (.aload_n 3, 1)) rfl rfl
theorem e102_21n : V 102 21 [l0, l1, l2, some .null] st h Q = V 102 22 [l0, l1, l2, some .null] (.null :: st) h Q := V_nx (by decide +kernel : decode (p_c 102) 21 = .ok (.aload_n 3, 1)) rfl rfl
theorem e102_22n : V 102 22 L (.null :: st) h Q = V 102 25 L (.int 0 :: st) h Q := V_ioN (by decide +kernel : decode (p_c 102) 22 = .ok (.instanceof 158, 3))
theorem e102_22 : V 102 22 L (.ref a :: st) h Q = (p_bt (p_cn1 (p_get h a)) = true ∧ V 102 25 L (.int (if p_is (p_cn1 (p_get h a)) 2 then 1 else 0) :: st) h Q) := V_ioR (by decide +kernel : decode (p_c 102) 22 = .ok (.instanceof 158, 3)) (by decide +kernel) rfl
theorem e102_25 : V 102 25 L (.int x :: st) h Q = if x = 0 then V 102 35 L st h Q else V 102 28 L st h Q := (V_ifc (by decide +kernel : decode (p_c 102) 25 = .ok (.ifCond .eq 10, 3)) (by decide)).trans i_eq
theorem e102_28 : V 102 28 [l0, l1, l2, some (.ref a)] st h Q = V 102 29 [l0, l1, l2, some (.ref a)] (.ref a :: st) h Q := V_nx (by decide +kernel : decode (p_c 102) 28 = .ok (.aload_n 3, 1)) rfl rfl
theorem e102_28n : V 102 28 [l0, l1, l2, some .null] st h Q = V 102 29 [l0, l1, l2, some .null] (.null :: st) h Q := V_nx (by decide +kernel : decode (p_c 102) 28 = .ok (.aload_n 3, 1)) rfl rfl
theorem e102_29 : V 102 29 L (.ref a :: st) h Q = ((p_bt (p_cn1 (p_get h a)) = true ∧ p_sm st) ∧ Vm (p_tz [(0, 6), (1, 6), (2, 6), (7, 6), (10, 67)] (p_cn1 (p_get h a))) [.ref a] h (Kt 102 32 L st Q)) := V_ib (by decide +kernel : decode (p_c 102) 29 = .ok (.invokevirtual 141, 3)) (by decide +kernel) rfl (by decide +kernel)
theorem e102_32 : V 102 32 L st h Q = V 102 36 L st h Q := V_goto (by decide +kernel : decode (p_c 102) 32 = .ok (.goto 4, 3)) (by decide)
theorem e102_35 : V 102 35 L st h Q = V 102 36 L (.int 0 :: st) h Q := V_c (by decide +kernel : decode (p_c 102) 35 = .ok (.iconst 0, 1)) (by decide)
theorem e102_36 : V 102 36 L (.int x :: .int i :: .ref a :: st) h Q = (p_sok i (p_get h a) ∧ V 102 37 L st (p_set h a (p_ist i x (p_get h a))) Q) := V_ias (by decide +kernel : decode (p_c 102) 36 = .ok (.iastore, 1))
theorem e102_37 : V 102 37 [l0, l1, some (.int x), l3] st h Q = V 102 40 [l0, p_dl l1, some (.int (x + 1)), l3] st h Q := V_iinc (x := x) (by decide +kernel : decode (p_c 102) 37 = .ok (.iinc 2 1, 3)) (by decide) rfl (Nat.le_of_ble_eq_true rfl)
theorem e102_40 : V 102 40 L st h Q = V 102 2 L st h Q := V_goto (by decide +kernel : decode (p_c 102) 40 = .ok (.goto (-38), 3)) (by decide)
theorem e102_43 : V 102 43 [some (.ref a), l1, l2, l3] st h Q = V 102 44 [some (.ref a), l1, l2, l3] (.ref a :: st) h Q := V_nx (by decide +kernel : decode (p_c 102) 43 = .ok (.aload_n 0, 1)) rfl rfl
theorem e102_44 : V 102 44 L (.ref a :: st) h Q = (p_ok1 [11] 5 (p_get h a) ∧ V 102 47 L (p_fv 5 (p_get h a) :: st) h Q) := V_gf (t := (3, 1, "WaterShoulders")) (by decide +kernel : decode (p_c 102) 44 = .ok (.getfield 39, 3)) (by decide +kernel)
theorem e102_47 : V 102 47 [some (.ref a), l1, l2, l3] st h Q = V 102 48 [some (.ref a), l1, l2, l3] (.ref a :: st) h Q := V_nx (by decide +kernel : decode (p_c 102) 47 = .ok (.aload_n 0, 1)) rfl rfl
theorem e102_48 : V 102 48 L (.ref a :: st) h Q = (p_ok1 [11] 1 (p_get h a) ∧ V 102 51 L (p_fv 1 (p_get h a) :: st) h Q) := V_gf (t := (3, 1, "WaterShoulders")) (by decide +kernel : decode (p_c 102) 48 = .ok (.getfield 19, 3)) (by decide +kernel)
theorem e102_51 : V 102 51 [l0, some (.int x), l2, l3] st h Q = V 102 52 [l0, some (.int x), l2, l3] (.int x :: st) h Q := V_nx (by decide +kernel : decode (p_c 102) 51 = .ok (.iload_n 1, 1)) rfl rfl
theorem e102_52 : V 102 52 L (.int x1 :: .ref b1 :: .ref a :: st) h Q = ((p_cn1 (p_get h a) = 4 ∧ p_sm st) ∧ Vm 17 [.ref a, .ref b1, .int x1] h (Kt 102 55 L st Q)) := V_iv (n := 2) (as := [.int x1, .ref b1]) (ci := 4) (z := 17) (by decide +kernel : decode (p_c 102) 52 = .ok (.invokevirtual 321, 3)) (by decide +kernel) rfl rfl (by decide +kernel) rfl
theorem e102_55 : V 102 55 L [] h Q = Q none h := V_rv (by decide +kernel : decode (p_c 102) 55 = .ok (.return_, 1)) rfl
theorem m102 : Vm 102 [.ref a, .int x1] h Q = V 102 0 [some (.ref a), some (.int x1), none, none] [] h Q := rfl
theorem e103_0 : V 103 0 L st h Q = V 103 3 L (.long 1103515245 :: st) h Q := V_ldc2 (by decide +kernel : decode (p_c 103) 0 = .ok (.ldc2_w 325, 3)) (by decide +kernel)
theorem e103_3 : V 103 3 [some (.int x)] st h Q = V 103 4 [some (.int x)] (.int x :: st) h Q := V_nx (by decide +kernel : decode (p_c 103) 3 = .ok (.iload_n 0, 1)) rfl rfl
theorem e103_4 : V 103 4 L (.int x :: st) h Q = V 103 5 L (.long x.toInt64 :: st) h Q := V_nx (by decide +kernel : decode (p_c 103) 4 = .ok (.i2l, 1)) rfl rfl
theorem e103_5 : V 103 5 L (.long w :: .long u :: st) h Q = V 103 6 L (.long (u * w) :: st) h Q := V_nx (by decide +kernel : decode (p_c 103) 5 = .ok (.lmul, 1)) rfl rfl
theorem e103_6 : V 103 6 L st h Q = V 103 9 L (.long 12345 :: st) h Q := V_ldc2 (by decide +kernel : decode (p_c 103) 6 = .ok (.ldc2_w 327, 3)) (by decide +kernel)
theorem e103_9 : V 103 9 L (.long w :: .long u :: st) h Q = V 103 10 L (.long (u + w) :: st) h Q := V_nx (by decide +kernel : decode (p_c 103) 9 = .ok (.ladd, 1)) rfl rfl
theorem e103_10 : V 103 10 L st h Q = V 103 13 L (.long 2147483647 :: st) h Q := V_ldc2 (by decide +kernel : decode (p_c 103) 10 = .ok (.ldc2_w 329, 3)) (by decide +kernel)
theorem e103_13 : V 103 13 L (.long w :: .long u :: st) h Q = V 103 14 L (.long (u &&& w) :: st) h Q := V_nx (by decide +kernel : decode (p_c 103) 13 = .ok (.land, 1)) rfl rfl
theorem e103_14 : V 103 14 L (.long u :: st) h Q = V 103 15 L (.int u.toInt32 :: st) h Q := V_nx (by decide +kernel : decode (p_c 103) 14 = .ok (.l2i, 1)) rfl rfl
theorem e103_15 : V 103 15 L [.int x] h Q = Q (some (.int x)) h := V_ri (by decide +kernel : decode (p_c 103) 15 = .ok (.ireturn, 1)) rfl
theorem m103 : Vm 103 [.int x1] h Q = V 103 0 [some (.int x1)] [] h Q := rfl
theorem e104_0 : V 104 0 L st h Q = V 104 1 L (.int 0 :: st) h Q := V_c (by decide +kernel : decode (p_c 104) 0 = .ok (.iconst 0, 1)) (by decide)
theorem e104_1 : V 104 1 [l0, l1, l2, l3, l4] (.int x :: st) h Q = V 104 2 [l0, p_dl l1, some (.int x), l3, l4] st h Q := V_nx (by decide +kernel : decode (p_c 104) 1 = .ok (.istore_n 2, 1)) rfl rfl
theorem e104_2 : V 104 2 L st h Q = V 104 3 L (.int 0 :: st) h Q := V_c (by decide +kernel : decode (p_c 104) 2 = .ok (.iconst 0, 1)) (by decide)
theorem e104_3 : V 104 3 [l0, l1, l2, l3, l4] (.int x :: st) h Q = V 104 4 [l0, l1, p_dl l2, some (.int x), l4] st h Q := V_nx (by decide +kernel : decode (p_c 104) 3 = .ok (.istore_n 3, 1)) rfl rfl
theorem e104_4 : V 104 4 [l0, l1, l2, some (.int x), l4] st h Q = V 104 5 [l0, l1, l2, some (.int x), l4] (.int x :: st) h Q := V_nx (by decide +kernel : decode (p_c 104) 4 = .ok (.iload_n 3, 1)) rfl rfl
theorem e104_5 : V 104 5 [some (.ref a), l1, l2, l3, l4] st h Q = V 104 6 [some (.ref a), l1, l2, l3, l4] (.ref a :: st) h Q := V_nx (by decide +kernel : decode (p_c 104) 5 = .ok (.aload_n 0, 1)) rfl rfl
theorem e104_6 : V 104 6 L (.ref a :: st) h Q = (p_ok1 [11] 9 (p_get h a) ∧ V 104 9 L (p_fv 9 (p_get h a) :: st) h Q) := V_gf (t := (0, 0, "WaterShoulders")) (by decide +kernel : decode (p_c 104) 6 = .ok (.getfield 92, 3)) (by decide +kernel)
theorem e104_9 : V 104 9 L (.int z :: .int x :: st) h Q = if x < z then V 104 12 L st h Q else V 104 55 L st h Q := (V_icmp (by decide +kernel : decode (p_c 104) 9 = .ok (.if_icmp .ge 46, 3)) (by decide)).trans i_ge
theorem e104_12 : V 104 12 [some (.ref a), l1, l2, l3, l4] st h Q = V 104 13 [some (.ref a), l1, l2, l3, l4] (.ref a :: st) h Q := V_nx (by decide +kernel : decode (p_c 104) 12 = .ok (.aload_n 0, 1)) rfl rfl
theorem e104_13 : V 104 13 L (.ref a :: st) h Q = (p_ok1 [11] 4 (p_get h a) ∧ V 104 16 L (p_fv 4 (p_get h a) :: st) h Q) := V_gf (t := (3, 1, "WaterShoulders")) (by decide +kernel : decode (p_c 104) 13 = .ok (.getfield 32, 3)) (by decide +kernel)
theorem e104_16 : V 104 16 [l0, l1, l2, some (.int x), l4] st h Q = V 104 17 [l0, l1, l2, some (.int x), l4] (.int x :: st) h Q := V_nx (by decide +kernel : decode (p_c 104) 16 = .ok (.iload_n 3, 1)) rfl rfl
theorem e104_17 : V 104 17 L (.int i :: .ref a :: st) h Q = (p_qok i (p_get h a) ∧ V 104 18 L (va_rf (p_qvl i (p_get h a)) :: st) h Q) := V_aal (by decide +kernel : decode (p_c 104) 17 = .ok (.aaload, 1))
theorem e104_18 : V 104 18 [l0, l1, l2, l3, l4] (.ref a :: st) h Q = V 104 20 [l0, l1, l2, p_dl l3, some (.ref a)] st h Q := V_nx (by decide +kernel : decode (p_c 104) 18 = .ok (.astore 4, 2)) rfl rfl
theorem e104_18n : V 104 18 [l0, l1, l2, l3, l4] (.null :: st) h Q = V 104 20 [l0, l1, l2, p_dl l3, some (.null)] st h Q := V_nx (by decide +kernel : decode (p_c 104) 18 = .ok (.astore 4, 2)) rfl rfl
theorem e104_20 : V 104 20 [l0, l1, l2, l3, some (.ref a)] st h Q = V 104 22 [l0, l1, l2, l3, some (.ref a)] (.ref a :: st) h Q := V_nx (by decide +kernel : decode (p_c 104) 20 = .ok (.aload 4, 2)) rfl rfl
theorem e104_20n : V 104 20 [l0, l1, l2, l3, some .null] st h Q = V 104 22 [l0, l1, l2, l3, some .null] (.null :: st) h Q := V_nx (by decide +kernel : decode (p_c 104) 20 = .ok (.aload 4, 2)) rfl rfl
theorem e104_22 : V 104 22 L (.null :: st) h Q = V 104 49 L st h Q := V_nullN (by decide +kernel : decode (p_c 104) 22 = .ok (.ifnull 27, 3)) (by decide)
theorem e104_22r : V 104 22 L (.ref a :: st) h Q = V 104 25 L st h Q := V_nullR (by decide +kernel : decode (p_c 104) 22 = .ok (.ifnull 27, 3))
theorem e104_25 : V 104 25 [some (.ref a), l1, l2, l3, l4] st h Q = V 104 26 [some (.ref a), l1, l2, l3, l4] (.ref a :: st) h Q := V_nx (by decide +kernel : decode (p_c 104) 25 = .ok (.aload_n 0, 1)) rfl rfl
theorem e104_26 : V 104 26 L (.ref a :: st) h Q = (p_ok1 [11] 1 (p_get h a) ∧ V 104 29 L (p_fv 1 (p_get h a) :: st) h Q) := V_gf (t := (3, 1, "WaterShoulders")) (by decide +kernel : decode (p_c 104) 26 = .ok (.getfield 19, 3)) (by decide +kernel)
theorem e104_29 : V 104 29 [l0, some (.ref a), l2, l3, l4] st h Q = V 104 30 [l0, some (.ref a), l2, l3, l4] (.ref a :: st) h Q := V_nx (by decide +kernel : decode (p_c 104) 29 = .ok (.aload_n 1, 1)) rfl rfl
theorem e104_29n : V 104 29 [l0, some .null, l2, l3, l4] st h Q = V 104 30 [l0, some .null, l2, l3, l4] (.null :: st) h Q := V_nx (by decide +kernel : decode (p_c 104) 29 = .ok (.aload_n 1, 1)) rfl rfl
theorem e104_30 : V 104 30 [l0, l1, l2, l3, some (.ref a)] st h Q = V 104 32 [l0, l1, l2, l3, some (.ref a)] (.ref a :: st) h Q := V_nx (by decide +kernel : decode (p_c 104) 30 = .ok (.aload 4, 2)) rfl rfl
theorem e104_30n : V 104 30 [l0, l1, l2, l3, some .null] st h Q = V 104 32 [l0, l1, l2, l3, some .null] (.null :: st) h Q := V_nx (by decide +kernel : decode (p_c 104) 30 = .ok (.aload 4, 2)) rfl rfl
theorem e104_32 : V 104 32 L (.ref a :: st) h Q = (p_ok1 [0, 1, 2, 7, 10] 2 (p_get h a) ∧ V 104 35 L (p_fv 2 (p_get h a) :: st) h Q) := V_gf (t := (0, 0, "WaterShoulders$Boat")) (by decide +kernel : decode (p_c 104) 32 = .ok (.getfield 144, 3)) (by decide +kernel)
theorem e104_35 : V 104 35 [l0, l1, l2, l3, some (.ref a)] st h Q = V 104 37 [l0, l1, l2, l3, some (.ref a)] (.ref a :: st) h Q := V_nx (by decide +kernel : decode (p_c 104) 35 = .ok (.aload 4, 2)) rfl rfl
theorem e104_35n : V 104 35 [l0, l1, l2, l3, some .null] st h Q = V 104 37 [l0, l1, l2, l3, some .null] (.null :: st) h Q := V_nx (by decide +kernel : decode (p_c 104) 35 = .ok (.aload 4, 2)) rfl rfl
theorem e104_37 : V 104 37 L (.ref a :: st) h Q = ((p_bt (p_cn1 (p_get h a)) = true ∧ p_sm st) ∧ Vm (p_tz [(0, 2), (1, 5), (2, 5), (7, 38), (10, 5)] (p_cn1 (p_get h a))) [.ref a] h (Kt 104 40 L st Q)) := V_ib (by decide +kernel : decode (p_c 104) 37 = .ok (.invokevirtual 138, 3)) (by decide +kernel) rfl (by decide +kernel)
theorem e104_40 : V 104 40 L (.int x2 :: .int x1 :: .ref b1 :: .ref a :: st) h Q = ((p_cn1 (p_get h a) = 9 ∧ p_sm st) ∧ Vm 56 [.ref a, .ref b1, .int x1, .int x2] h (Kt 104 43 L st Q)) := V_iv (n := 3) (as := [.int x2, .int x1, .ref b1]) (ci := 9) (z := 56) (by decide +kernel : decode (p_c 104) 40 = .ok (.invokevirtual 150, 3)) (by decide +kernel) rfl rfl (by decide +kernel) rfl
theorem e104_43 : V 104 43 L (.int x :: st) h Q = if x = 0 then V 104 49 L st h Q else V 104 46 L st h Q := (V_ifc (by decide +kernel : decode (p_c 104) 43 = .ok (.ifCond .eq 6, 3)) (by decide)).trans i_eq
theorem e104_46 : V 104 46 [l0, l1, some (.int x), l3, l4] st h Q = V 104 49 [l0, p_dl l1, some (.int (x + 1)), l3, l4] st h Q := V_iinc (x := x) (by decide +kernel : decode (p_c 104) 46 = .ok (.iinc 2 1, 3)) (by decide) rfl (Nat.le_of_ble_eq_true rfl)
theorem e104_49 : V 104 49 [l0, l1, l2, some (.int x), l4] st h Q = V 104 52 [l0, l1, p_dl l2, some (.int (x + 1)), l4] st h Q := V_iinc (x := x) (by decide +kernel : decode (p_c 104) 49 = .ok (.iinc 3 1, 3)) (by decide) rfl (Nat.le_of_ble_eq_true rfl)
theorem e104_52 : V 104 52 L st h Q = V 104 4 L st h Q := V_goto (by decide +kernel : decode (p_c 104) 52 = .ok (.goto (-48), 3)) (by decide)
theorem e104_55 : V 104 55 [l0, l1, some (.int x), l3, l4] st h Q = V 104 56 [l0, l1, some (.int x), l3, l4] (.int x :: st) h Q := V_nx (by decide +kernel : decode (p_c 104) 55 = .ok (.iload_n 2, 1)) rfl rfl
theorem e104_56 : V 104 56 L [.int x] h Q = Q (some (.int x)) h := V_ri (by decide +kernel : decode (p_c 104) 56 = .ok (.ireturn, 1)) rfl
theorem m104 : Vm 104 [.ref a, .ref b1] h Q = V 104 0 [some (.ref a), some (.ref b1), none, none, none] [] h Q := rfl
end EE
