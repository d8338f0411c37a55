section EE
variable {L : pL} {st : List Value} {h : pH} {Q : Option Value → pH → Prop} {l0 l1 l2 l3 l4 l5 l6 l7 l8 l9 l10 l11 l12 : Option Value} {a b b1 b2 b3 b4 : Nat} {i x z x1 x2 x3 x4 x5 : Int32} {u w u1 u2 : Int64}
theorem e105_0 : V 105 0 [some (.ref a)] st h Q = V 105 1 [some (.ref a)] (.ref a :: st) h Q := V_nx (by decide +kernel : decode (p_c 105) 0 = .ok (.aload_n 0, 1)) rfl rfl
theorem e105_1 : V 105 1 L (.ref a :: st) h Q = (p_sm st ∧ V 105 4 L st h Q) := V_oi (by decide +kernel : decode (p_c 105) 1 = .ok (.invokespecial 1, 3)) (by decide +kernel) (by decide +kernel)
theorem e105_4 : V 105 4 [some (.ref a)] st h Q = V 105 5 [some (.ref a)] (.ref a :: st) h Q := V_nx (by decide +kernel : decode (p_c 105) 4 = .ok (.aload_n 0, 1)) rfl rfl
theorem e105_5 : V 105 5 L st h Q = V 105 6 L (.int 4 :: st) h Q := V_c (by decide +kernel : decode (p_c 105) 5 = .ok (.iconst 4, 1)) (by decide)
theorem e105_6 : V 105 6 L (.int 4 :: st) h Q = V 105 8 L (.ref h.1 :: st) (p_new h (.inl (0, 4, .inl (fun _ => 0))) 4) Q := V_nai (by decide +kernel : decode (p_c 105) 6 = .ok (.newarray .int, 2)) (by decide +kernel) (by decide +kernel)
theorem e105_8 : V 105 8 L (.ref b :: .ref a :: st) h Q = (p_ok1 [12] 1 (p_get h a) ∧ V 105 11 L st (p_set h a (p_fs 1 (.ref b) (p_get h a))) Q) := V_pf3 (fin := 1) (ref := "WaterShouldersModel") (by decide +kernel : decode (p_c 105) 8 = .ok (.putfield 7, 3)) (by decide +kernel) (by decide +kernel)
theorem e105_11 : V 105 11 [some (.ref a)] st h Q = V 105 12 [some (.ref a)] (.ref a :: st) h Q := V_nx (by decide +kernel : decode (p_c 105) 11 = .ok (.aload_n 0, 1)) rfl rfl
theorem e105_12 : V 105 12 L st h Q = V 105 13 L (.int 4 :: st) h Q := V_c (by decide +kernel : decode (p_c 105) 12 = .ok (.iconst 4, 1)) (by decide)
theorem e105_13 : V 105 13 L (.int 4 :: st) h Q = V 105 15 L (.ref h.1 :: st) (p_new h (.inl (0, 4, .inl (fun _ => 0))) 4) Q := V_nai (by decide +kernel : decode (p_c 105) 13 = .ok (.newarray .int, 2)) (by decide +kernel) (by decide +kernel)
theorem e105_15 : V 105 15 L (.ref b :: .ref a :: st) h Q = (p_ok1 [12] 2 (p_get h a) ∧ V 105 18 L st (p_set h a (p_fs 2 (.ref b) (p_get h a))) Q) := V_pf3 (fin := 1) (ref := "WaterShouldersModel") (by decide +kernel : decode (p_c 105) 15 = .ok (.putfield 13, 3)) (by decide +kernel) (by decide +kernel)
theorem e105_18 : V 105 18 [some (.ref a)] st h Q = V 105 19 [some (.ref a)] (.ref a :: st) h Q := V_nx (by decide +kernel : decode (p_c 105) 18 = .ok (.aload_n 0, 1)) rfl rfl
theorem e105_19 : V 105 19 L st h Q = V 105 20 L (.int 4 :: st) h Q := V_c (by decide +kernel : decode (p_c 105) 19 = .ok (.iconst 4, 1)) (by decide)
theorem e105_20 : V 105 20 L (.int 4 :: st) h Q = V 105 22 L (.ref h.1 :: st) (p_new h (.inl (0, 4, .inl (fun _ => 0))) 4) Q := V_nai (by decide +kernel : decode (p_c 105) 20 = .ok (.newarray .int, 2)) (by decide +kernel) (by decide +kernel)
theorem e105_22 : V 105 22 L (.ref b :: .ref a :: st) h Q = (p_ok1 [12] 3 (p_get h a) ∧ V 105 25 L st (p_set h a (p_fs 3 (.ref b) (p_get h a))) Q) := V_pf3 (fin := 1) (ref := "WaterShouldersModel") (by decide +kernel : decode (p_c 105) 22 = .ok (.putfield 16, 3)) (by decide +kernel) (by decide +kernel)
theorem e105_25 : V 105 25 [some (.ref a)] st h Q = V 105 26 [some (.ref a)] (.ref a :: st) h Q := V_nx (by decide +kernel : decode (p_c 105) 25 = .ok (.aload_n 0, 1)) rfl rfl
theorem e105_26 : V 105 26 L st h Q = V 105 27 L (.int 5 :: st) h Q := V_c (by decide +kernel : decode (p_c 105) 26 = .ok (.iconst 5, 1)) (by decide)
theorem e105_27 : V 105 27 L (.int 5 :: st) h Q = V 105 29 L (.ref h.1 :: st) (p_new h (.inl (0, 5, .inl (fun _ => 0))) 5) Q := V_nai (by decide +kernel : decode (p_c 105) 27 = .ok (.newarray .int, 2)) (by decide +kernel) (by decide +kernel)
theorem e105_29 : V 105 29 L (.ref b :: .ref a :: st) h Q = (p_ok1 [12] 7 (p_get h a) ∧ V 105 32 L st (p_set h a (p_fs 7 (.ref b) (p_get h a))) Q) := V_pf3 (fin := 1) (ref := "WaterShouldersModel") (by decide +kernel : decode (p_c 105) 29 = .ok (.putfield 19, 3)) (by decide +kernel) (by decide +kernel)
theorem e105_32 : V 105 32 [some (.ref a)] st h Q = V 105 33 [some (.ref a)] (.ref a :: st) h Q := V_nx (by decide +kernel : decode (p_c 105) 32 = .ok (.aload_n 0, 1)) rfl rfl
theorem e105_33 : V 105 33 L st h Q = V 105 34 L (.int 5 :: st) h Q := V_c (by decide +kernel : decode (p_c 105) 33 = .ok (.iconst 5, 1)) (by decide)
theorem e105_34 : V 105 34 L (.int 5 :: st) h Q = V 105 36 L (.ref h.1 :: st) (p_new h (.inl (0, 5, .inl (fun _ => 0))) 5) Q := V_nai (by decide +kernel : decode (p_c 105) 34 = .ok (.newarray .int, 2)) (by decide +kernel) (by decide +kernel)
theorem e105_36 : V 105 36 L (.ref b :: .ref a :: st) h Q = (p_ok1 [12] 8 (p_get h a) ∧ V 105 39 L st (p_set h a (p_fs 8 (.ref b) (p_get h a))) Q) := V_pf3 (fin := 1) (ref := "WaterShouldersModel") (by decide +kernel : decode (p_c 105) 36 = .ok (.putfield 22, 3)) (by decide +kernel) (by decide +kernel)
theorem e105_39 : V 105 39 [some (.ref a)] st h Q = V 105 40 [some (.ref a)] (.ref a :: st) h Q := V_nx (by decide +kernel : decode (p_c 105) 39 = .ok (.aload_n 0, 1)) rfl rfl
theorem e105_40 : V 105 40 L st h Q = V 105 41 L (.int 5 :: st) h Q := V_c (by decide +kernel : decode (p_c 105) 40 = .ok (.iconst 5, 1)) (by decide)
theorem e105_41 : V 105 41 L (.int 5 :: st) h Q = V 105 43 L (.ref h.1 :: st) (p_new h (.inl (0, 5, .inl (fun _ => 0))) 5) Q := V_nai (by decide +kernel : decode (p_c 105) 41 = .ok (.newarray .int, 2)) (by decide +kernel) (by decide +kernel)
theorem e105_43 : V 105 43 L (.ref b :: .ref a :: st) h Q = (p_ok1 [12] 9 (p_get h a) ∧ V 105 46 L st (p_set h a (p_fs 9 (.ref b) (p_get h a))) Q) := V_pf3 (fin := 1) (ref := "WaterShouldersModel") (by decide +kernel : decode (p_c 105) 43 = .ok (.putfield 25, 3)) (by decide +kernel) (by decide +kernel)
theorem e105_46 : V 105 46 [some (.ref a)] st h Q = V 105 47 [some (.ref a)] (.ref a :: st) h Q := V_nx (by decide +kernel : decode (p_c 105) 46 = .ok (.aload_n 0, 1)) rfl rfl
theorem e105_47 : V 105 47 L st h Q = V 105 48 L (.int 5 :: st) h Q := V_c (by decide +kernel : decode (p_c 105) 47 = .ok (.iconst 5, 1)) (by decide)
theorem e105_48 : V 105 48 L (.int 5 :: st) h Q = V 105 50 L (.ref h.1 :: st) (p_new h (.inl (0, 5, .inl (fun _ => 0))) 5) Q := V_nai (by decide +kernel : decode (p_c 105) 48 = .ok (.newarray .int, 2)) (by decide +kernel) (by decide +kernel)
theorem e105_50 : V 105 50 L (.ref b :: .ref a :: st) h Q = (p_ok1 [12] 10 (p_get h a) ∧ V 105 53 L st (p_set h a (p_fs 10 (.ref b) (p_get h a))) Q) := V_pf3 (fin := 1) (ref := "WaterShouldersModel") (by decide +kernel : decode (p_c 105) 50 = .ok (.putfield 28, 3)) (by decide +kernel) (by decide +kernel)
theorem e105_53 : V 105 53 [some (.ref a)] st h Q = V 105 54 [some (.ref a)] (.ref a :: st) h Q := V_nx (by decide +kernel : decode (p_c 105) 53 = .ok (.aload_n 0, 1)) rfl rfl
theorem e105_54 : V 105 54 L st h Q = V 105 55 L (.int 5 :: st) h Q := V_c (by decide +kernel : decode (p_c 105) 54 = .ok (.iconst 5, 1)) (by decide)
theorem e105_55 : V 105 55 L (.int 5 :: st) h Q = V 105 57 L (.ref h.1 :: st) (p_new h (.inl (0, 5, .inl (fun _ => 0))) 5) Q := V_nai (by decide +kernel : decode (p_c 105) 55 = .ok (.newarray .int, 2)) (by decide +kernel) (by decide +kernel)
theorem e105_57 : V 105 57 L (.ref b :: .ref a :: st) h Q = (p_ok1 [12] 11 (p_get h a) ∧ V 105 60 L st (p_set h a (p_fs 11 (.ref b) (p_get h a))) Q) := V_pf3 (fin := 1) (ref := "WaterShouldersModel") (by decide +kernel : decode (p_c 105) 57 = .ok (.putfield 31, 3)) (by decide +kernel) (by decide +kernel)
theorem e105_60 : V 105 60 [some (.ref a)] st h Q = V 105 61 [some (.ref a)] (.ref a :: st) h Q := V_nx (by decide +kernel : decode (p_c 105) 60 = .ok (.aload_n 0, 1)) rfl rfl
theorem e105_61 : V 105 61 L st h Q = V 105 62 L (.int (-1) :: st) h Q := V_c (by decide +kernel : decode (p_c 105) 61 = .ok (.iconst (-1), 1)) (by decide)
theorem e105_62 : V 105 62 L (.int x :: .ref a :: st) h Q = (p_ok1 [12] 13 (p_get h a) ∧ V 105 65 L st (p_set h a (p_fs 13 (.int x) (p_get h a))) Q) := V_pf0 (fin := 0) (ref := "WaterShouldersModel") (by decide +kernel : decode (p_c 105) 62 = .ok (.putfield 34, 3)) (by decide +kernel) (by decide +kernel)
theorem e105_65 : V 105 65 [some (.ref a)] st h Q = V 105 66 [some (.ref a)] (.ref a :: st) h Q := V_nx (by decide +kernel : decode (p_c 105) 65 = .ok (.aload_n 0, 1)) rfl rfl
theorem e105_66 : V 105 66 L st h Q = V 105 68 L (.int 7 :: st) h Q := V_b (by decide +kernel : decode (p_c 105) 66 = .ok (.bipush 7, 2)) (by decide)
theorem e105_68 : V 105 68 L (.int 7 :: st) h Q = V 105 70 L (.ref h.1 :: st) (p_new h (.inl (0, 7, .inl (fun _ => 0))) 7) Q := V_nai (by decide +kernel : decode (p_c 105) 68 = .ok (.newarray .int, 2)) (by decide +kernel) (by decide +kernel)
theorem e105_70 : V 105 70 L (.ref b :: .ref a :: st) h Q = (p_ok1 [12] 16 (p_get h a) ∧ V 105 73 L st (p_set h a (p_fs 16 (.ref b) (p_get h a))) Q) := V_pf3 (fin := 1) (ref := "WaterShouldersModel") (by decide +kernel : decode (p_c 105) 70 = .ok (.putfield 38, 3)) (by decide +kernel) (by decide +kernel)
theorem e105_73 : V 105 73 [some (.ref a)] st h Q = V 105 74 [some (.ref a)] (.ref a :: st) h Q := V_nx (by decide +kernel : decode (p_c 105) 73 = .ok (.aload_n 0, 1)) rfl rfl
theorem e105_74 : V 105 74 L st h Q = V 105 76 L (.int 14 :: st) h Q := V_b (by decide +kernel : decode (p_c 105) 74 = .ok (.bipush 14, 2)) (by decide)
theorem e105_76 : V 105 76 L (.int 14 :: st) h Q = V 105 78 L (.ref h.1 :: st) (p_new h (.inl (1, 14, .inl (fun _ => 0))) 14) Q := V_nab (by decide +kernel : decode (p_c 105) 76 = .ok (.newarray .byte, 2)) (by decide +kernel) (by decide +kernel)
theorem e105_78 : V 105 78 L (.ref b :: .ref a :: st) h Q = (p_ok1 [12] 18 (p_get h a) ∧ V 105 81 L st (p_set h a (p_fs 18 (.ref b) (p_get h a))) Q) := V_pf3 (fin := 1) (ref := "WaterShouldersModel") (by decide +kernel : decode (p_c 105) 78 = .ok (.putfield 41, 3)) (by decide +kernel) (by decide +kernel)
theorem e105_81 : V 105 81 [some (.ref a)] st h Q = V 105 82 [some (.ref a)] (.ref a :: st) h Q := V_nx (by decide +kernel : decode (p_c 105) 81 = .ok (.aload_n 0, 1)) rfl rfl
theorem e105_82 : V 105 82 L st h Q = V 105 83 L (.int 4 :: st) h Q := V_c (by decide +kernel : decode (p_c 105) 82 = .ok (.iconst 4, 1)) (by decide)
theorem e105_83 : V 105 83 L (.int 4 :: st) h Q = V 105 85 L (.ref h.1 :: st) (p_new h (.inl (0, 4, .inl (fun _ => 0))) 4) Q := V_nai (by decide +kernel : decode (p_c 105) 83 = .ok (.newarray .int, 2)) (by decide +kernel) (by decide +kernel)
theorem e105_85 : V 105 85 L (.ref b :: .ref a :: st) h Q = (p_ok1 [12] 22 (p_get h a) ∧ V 105 88 L st (p_set h a (p_fs 22 (.ref b) (p_get h a))) Q) := V_pf3 (fin := 1) (ref := "WaterShouldersModel") (by decide +kernel : decode (p_c 105) 85 = .ok (.putfield 45, 3)) (by decide +kernel) (by decide +kernel)
theorem e105_88 : V 105 88 [some (.ref a)] st h Q = V 105 89 [some (.ref a)] (.ref a :: st) h Q := V_nx (by decide +kernel : decode (p_c 105) 88 = .ok (.aload_n 0, 1)) rfl rfl
theorem e105_89 : V 105 89 L st h Q = V 105 90 L (.int 4 :: st) h Q := V_c (by decide +kernel : decode (p_c 105) 89 = .ok (.iconst 4, 1)) (by decide)
theorem e105_90 : V 105 90 L (.int 4 :: st) h Q = V 105 92 L (.ref h.1 :: st) (p_new h (.inl (0, 4, .inl (fun _ => 0))) 4) Q := V_nai (by decide +kernel : decode (p_c 105) 90 = .ok (.newarray .int, 2)) (by decide +kernel) (by decide +kernel)
theorem e105_92 : V 105 92 L (.ref b :: .ref a :: st) h Q = (p_ok1 [12] 23 (p_get h a) ∧ V 105 95 L st (p_set h a (p_fs 23 (.ref b) (p_get h a))) Q) := V_pf3 (fin := 1) (ref := "WaterShouldersModel") (by decide +kernel : decode (p_c 105) 92 = .ok (.putfield 48, 3)) (by decide +kernel) (by decide +kernel)
theorem e105_95 : V 105 95 [some (.ref a)] st h Q = V 105 96 [some (.ref a)] (.ref a :: st) h Q := V_nx (by decide +kernel : decode (p_c 105) 95 = .ok (.aload_n 0, 1)) rfl rfl
theorem e105_96 : V 105 96 L st h Q = V 105 99 L (.int 24192 :: st) h Q := V_s (by decide +kernel : decode (p_c 105) 96 = .ok (.sipush 24192, 3)) (by decide)
theorem e105_99 : V 105 99 L (.int 24192 :: st) h Q = V 105 101 L (.ref h.1 :: st) (p_new h (.inl (1, 24192, .inl (fun _ => 0))) 24192) Q := V_nab (by decide +kernel : decode (p_c 105) 99 = .ok (.newarray .byte, 2)) (by decide +kernel) (by decide +kernel)
theorem e105_101 : V 105 101 L (.ref b :: .ref a :: st) h Q = (p_ok1 [12] 24 (p_get h a) ∧ V 105 104 L st (p_set h a (p_fs 24 (.ref b) (p_get h a))) Q) := V_pf3 (fin := 1) (ref := "WaterShouldersModel") (by decide +kernel : decode (p_c 105) 101 = .ok (.putfield 51, 3)) (by decide +kernel) (by decide +kernel)
theorem e105_104 : V 105 104 [some (.ref a)] st h Q = V 105 105 [some (.ref a)] (.ref a :: st) h Q := V_nx (by decide +kernel : decode (p_c 105) 104 = .ok (.aload_n 0, 1)) rfl rfl
theorem e105_105 : V 105 105 L st h Q = V 105 108 L (.int 24192 :: st) h Q := V_s (by decide +kernel : decode (p_c 105) 105 = .ok (.sipush 24192, 3)) (by decide)
theorem e105_108 : V 105 108 L (.int 24192 :: st) h Q = V 105 110 L (.ref h.1 :: st) (p_new h (.inl (0, 24192, .inl (fun _ => 0))) 24192) Q := V_nai (by decide +kernel : decode (p_c 105) 108 = .ok (.newarray .int, 2)) (by decide +kernel) (by decide +kernel)
theorem e105_110 : V 105 110 L (.ref b :: .ref a :: st) h Q = (p_ok1 [12] 25 (p_get h a) ∧ V 105 113 L st (p_set h a (p_fs 25 (.ref b) (p_get h a))) Q) := V_pf3 (fin := 1) (ref := "WaterShouldersModel") (by decide +kernel : decode (p_c 105) 110 = .ok (.putfield 54, 3)) (by decide +kernel) (by decide +kernel)
theorem e105_113 : V 105 113 [some (.ref a)] st h Q = V 105 114 [some (.ref a)] (.ref a :: st) h Q := V_nx (by decide +kernel : decode (p_c 105) 113 = .ok (.aload_n 0, 1)) rfl rfl
theorem e105_114 : V 105 114 L st h Q = V 105 116 L (.int 6 :: st) h Q := V_b (by decide +kernel : decode (p_c 105) 114 = .ok (.bipush 6, 2)) (by decide)
theorem e105_116 : V 105 116 L (.int 6 :: st) h Q = V 105 118 L (.ref h.1 :: st) (p_new h (.inl (2, 6, .inr (.inl (fun _ => 0)))) 6) Q := V_nal (by decide +kernel : decode (p_c 105) 116 = .ok (.newarray .long, 2)) (by decide +kernel) (by decide +kernel)
theorem e105_118 : V 105 118 L (.ref b :: .ref a :: st) h Q = (p_ok1 [12] 27 (p_get h a) ∧ V 105 121 L st (p_set h a (p_fs 27 (.ref b) (p_get h a))) Q) := V_pf3 (fin := 1) (ref := "WaterShouldersModel") (by decide +kernel : decode (p_c 105) 118 = .ok (.putfield 57, 3)) (by decide +kernel) (by decide +kernel)
theorem e105_121 : V 105 121 [some (.ref a)] st h Q = V 105 122 [some (.ref a)] (.ref a :: st) h Q := V_nx (by decide +kernel : decode (p_c 105) 121 = .ok (.aload_n 0, 1)) rfl rfl
theorem e105_122 : V 105 122 L st h Q = V 105 124 L (.int 6 :: st) h Q := V_b (by decide +kernel : decode (p_c 105) 122 = .ok (.bipush 6, 2)) (by decide)
theorem e105_124 : V 105 124 L (.int 6 :: st) h Q = V 105 126 L (.ref h.1 :: st) (p_new h (.inl (2, 6, .inr (.inl (fun _ => 0)))) 6) Q := V_nal (by decide +kernel : decode (p_c 105) 124 = .ok (.newarray .long, 2)) (by decide +kernel) (by decide +kernel)
theorem e105_126 : V 105 126 L (.ref b :: .ref a :: st) h Q = (p_ok1 [12] 28 (p_get h a) ∧ V 105 129 L st (p_set h a (p_fs 28 (.ref b) (p_get h a))) Q) := V_pf3 (fin := 1) (ref := "WaterShouldersModel") (by decide +kernel : decode (p_c 105) 126 = .ok (.putfield 61, 3)) (by decide +kernel) (by decide +kernel)
theorem e105_129 : V 105 129 [some (.ref a)] st h Q = V 105 130 [some (.ref a)] (.ref a :: st) h Q := V_nx (by decide +kernel : decode (p_c 105) 129 = .ok (.aload_n 0, 1)) rfl rfl
theorem e105_130 : V 105 130 L st h Q = V 105 131 L (.int 5 :: st) h Q := V_c (by decide +kernel : decode (p_c 105) 130 = .ok (.iconst 5, 1)) (by decide)
theorem e105_131 : V 105 131 L (.int 5 :: st) h Q = V 105 133 L (.ref h.1 :: st) (p_new h (.inl (0, 5, .inl (fun _ => 0))) 5) Q := V_nai (by decide +kernel : decode (p_c 105) 131 = .ok (.newarray .int, 2)) (by decide +kernel) (by decide +kernel)
theorem e105_133 : V 105 133 L (.ref b :: .ref a :: st) h Q = (p_ok1 [12] 29 (p_get h a) ∧ V 105 136 L st (p_set h a (p_fs 29 (.ref b) (p_get h a))) Q) := V_pf3 (fin := 1) (ref := "WaterShouldersModel") (by decide +kernel : decode (p_c 105) 133 = .ok (.putfield 64, 3)) (by decide +kernel) (by decide +kernel)
theorem e105_136 : V 105 136 [some (.ref a)] st h Q = V 105 137 [some (.ref a)] (.ref a :: st) h Q := V_nx (by decide +kernel : decode (p_c 105) 136 = .ok (.aload_n 0, 1)) rfl rfl
theorem e105_137 : V 105 137 L st h Q = V 105 138 L (.int 4 :: st) h Q := V_c (by decide +kernel : decode (p_c 105) 137 = .ok (.iconst 4, 1)) (by decide)
theorem e105_138 : V 105 138 L (.int 4 :: st) h Q = V 105 140 L (.ref h.1 :: st) (p_new h (.inl (0, 4, .inl (fun _ => 0))) 4) Q := V_nai (by decide +kernel : decode (p_c 105) 138 = .ok (.newarray .int, 2)) (by decide +kernel) (by decide +kernel)
theorem e105_140 : V 105 140 L (.ref b :: .ref a :: st) h Q = (p_ok1 [12] 32 (p_get h a) ∧ V 105 143 L st (p_set h a (p_fs 32 (.ref b) (p_get h a))) Q) := V_pf3 (fin := 1) (ref := "WaterShouldersModel") (by decide +kernel : decode (p_c 105) 140 = .ok (.putfield 67, 3)) (by decide +kernel) (by decide +kernel)
theorem e105_143 : V 105 143 [some (.ref a)] st h Q = V 105 144 [some (.ref a)] (.ref a :: st) h Q := V_nx (by decide +kernel : decode (p_c 105) 143 = .ok (.aload_n 0, 1)) rfl rfl
theorem e105_144 : V 105 144 L st h Q = V 105 145 L (.int 4 :: st) h Q := V_c (by decide +kernel : decode (p_c 105) 144 = .ok (.iconst 4, 1)) (by decide)
theorem e105_145 : V 105 145 L (.int 4 :: st) h Q = V 105 147 L (.ref h.1 :: st) (p_new h (.inl (0, 4, .inl (fun _ => 0))) 4) Q := V_nai (by decide +kernel : decode (p_c 105) 145 = .ok (.newarray .int, 2)) (by decide +kernel) (by decide +kernel)
theorem e105_147 : V 105 147 L (.ref b :: .ref a :: st) h Q = (p_ok1 [12] 40 (p_get h a) ∧ V 105 150 L st (p_set h a (p_fs 40 (.ref b) (p_get h a))) Q) := V_pf3 (fin := 1) (ref := "WaterShouldersModel") (by decide +kernel : decode (p_c 105) 147 = .ok (.putfield 70, 3)) (by decide +kernel) (by decide +kernel)
theorem e105_150 : V 105 150 [some (.ref a)] st h Q = V 105 151 [some (.ref a)] (.ref a :: st) h Q := V_nx (by decide +kernel : decode (p_c 105) 150 = .ok (.aload_n 0, 1)) rfl rfl
theorem e105_151 : V 105 151 L st h Q = V 105 152 L (.int 5 :: st) h Q := V_c (by decide +kernel : decode (p_c 105) 151 = .ok (.iconst 5, 1)) (by decide)
theorem e105_152 : V 105 152 L (.int 5 :: st) h Q = V 105 154 L (.ref h.1 :: st) (p_new h (.inl (0, 5, .inl (fun _ => 0))) 5) Q := V_nai (by decide +kernel : decode (p_c 105) 152 = .ok (.newarray .int, 2)) (by decide +kernel) (by decide +kernel)
theorem e105_154 : V 105 154 L (.ref b :: .ref a :: st) h Q = (p_ok1 [12] 41 (p_get h a) ∧ V 105 157 L st (p_set h a (p_fs 41 (.ref b) (p_get h a))) Q) := V_pf3 (fin := 1) (ref := "WaterShouldersModel") (by decide +kernel : decode (p_c 105) 154 = .ok (.putfield 73, 3)) (by decide +kernel) (by decide +kernel)
theorem e105_157 : V 105 157 [some (.ref a)] st h Q = V 105 158 [some (.ref a)] (.ref a :: st) h Q := V_nx (by decide +kernel : decode (p_c 105) 157 = .ok (.aload_n 0, 1)) rfl rfl
theorem e105_158 : V 105 158 L st h Q = V 105 159 L (.int 5 :: st) h Q := V_c (by decide +kernel : decode (p_c 105) 158 = .ok (.iconst 5, 1)) (by decide)
theorem e105_159 : V 105 159 L (.int 5 :: st) h Q = V 105 161 L (.ref h.1 :: st) (p_new h (.inl (0, 5, .inl (fun _ => 0))) 5) Q := V_nai (by decide +kernel : decode (p_c 105) 159 = .ok (.newarray .int, 2)) (by decide +kernel) (by decide +kernel)
theorem e105_161 : V 105 161 L (.ref b :: .ref a :: st) h Q = (p_ok1 [12] 42 (p_get h a) ∧ V 105 164 L st (p_set h a (p_fs 42 (.ref b) (p_get h a))) Q) := V_pf3 (fin := 1) (ref := "WaterShouldersModel") (by decide +kernel : decode (p_c 105) 161 = .ok (.putfield 76, 3)) (by decide +kernel) (by decide +kernel)
theorem e105_164 : V 105 164 [some (.ref a)] st h Q = V 105 165 [some (.ref a)] (.ref a :: st) h Q := V_nx (by decide +kernel : decode (p_c 105) 164 = .ok (.aload_n 0, 1)) rfl rfl
theorem e105_165 : V 105 165 L st h Q = V 105 167 L (.int 7 :: st) h Q := V_b (by decide +kernel : decode (p_c 105) 165 = .ok (.bipush 7, 2)) (by decide)
theorem e105_167 : V 105 167 L (.int 7 :: st) h Q = V 105 169 L (.ref h.1 :: st) (p_new h (.inl (0, 7, .inl (fun _ => 0))) 7) Q := V_nai (by decide +kernel : decode (p_c 105) 167 = .ok (.newarray .int, 2)) (by decide +kernel) (by decide +kernel)
theorem e105_169 : V 105 169 L (.ref b :: .ref a :: st) h Q = (p_ok1 [12] 43 (p_get h a) ∧ V 105 172 L st (p_set h a (p_fs 43 (.ref b) (p_get h a))) Q) := V_pf3 (fin := 1) (ref := "WaterShouldersModel") (by decide +kernel : decode (p_c 105) 169 = .ok (.putfield 79, 3)) (by decide +kernel) (by decide +kernel)
theorem e105_172 : V 105 172 L [] h Q = Q none h := V_rv (by decide +kernel : decode (p_c 105) 172 = .ok (.return_, 1)) rfl
theorem m105 : Vm 105 [.ref a] h Q = V 105 0 [some (.ref a)] [] h Q := rfl
theorem e106_0 : V 106 0 [some (.int x), l1, l2] st h Q = V 106 1 [some (.int x), l1, l2] (.int x :: st) h Q := V_nx (by decide +kernel : decode (p_c 106) 0 = .ok (.iload_n 0, 1)) rfl rfl
theorem e106_1 : V 106 1 [l0, some (.int x), l2] st h Q = V 106 2 [l0, some (.int x), l2] (.int x :: st) h Q := V_nx (by decide +kernel : decode (p_c 106) 1 = .ok (.iload_n 1, 1)) rfl rfl
theorem e106_2 : V 106 2 L (.int z :: .int x :: st) h Q = if x < z then V 106 14 L st h Q else V 106 5 L st h Q := (V_icmp (by decide +kernel : decode (p_c 106) 2 = .ok (.if_icmp .lt 12, 3)) (by decide)).trans i_lt
theorem e106_5 : V 106 5 [some (.int x), l1, l2] st h Q = V 106 6 [some (.int x), l1, l2] (.int x :: st) h Q := V_nx (by decide +kernel : decode (p_c 106) 5 = .ok (.iload_n 0, 1)) rfl rfl
theorem e106_6 : V 106 6 [l0, l1, some (.int x)] st h Q = V 106 7 [l0, l1, some (.int x)] (.int x :: st) h Q := V_nx (by decide +kernel : decode (p_c 106) 6 = .ok (.iload_n 2, 1)) rfl rfl
theorem e106_7 : V 106 7 L (.int z :: .int x :: st) h Q = if z < x then V 106 14 L st h Q else V 106 10 L st h Q := (V_icmp (by decide +kernel : decode (p_c 106) 7 = .ok (.if_icmp .gt 7, 3)) (by decide)).trans i_gt
theorem e106_10 : V 106 10 L st h Q = V 106 11 L (.int 1 :: st) h Q := V_c (by decide +kernel : decode (p_c 106) 10 = .ok (.iconst 1, 1)) (by decide)
theorem e106_11 : V 106 11 L st h Q = V 106 15 L st h Q := V_goto (by decide +kernel : decode (p_c 106) 11 = .ok (.goto 4, 3)) (by decide)
theorem e106_14 : V 106 14 L st h Q = V 106 15 L (.int 0 :: st) h Q := V_c (by decide +kernel : decode (p_c 106) 14 = .ok (.iconst 0, 1)) (by decide)
theorem e106_15 : V 106 15 L [.int x] h Q = ((x = 0 ∨ x = 1) ∧ Q (some (.int x)) h) := V_rz (by decide +kernel : decode (p_c 106) 15 = .ok (.ireturn, 1)) rfl
theorem m106 : Vm 106 [.int x1, .int x2, .int x3] h Q = V 106 0 [some (.int x1), some (.int x2), some (.int x3)] [] h Q := rfl
theorem e107_0 : V 107 0 L st h Q = V 107 1 L (.int 0 :: st) h Q := V_c (by decide +kernel : decode (p_c 107) 0 = .ok (.iconst 0, 1)) (by decide)
theorem e107_1 : V 107 1 [l0, l1, l2, l3, l4, l5, l6] (.int x :: st) h Q = V 107 2 [l0, l1, p_dl l2, some (.int x), l4, l5, l6] st h Q := V_nx (by decide +kernel : decode (p_c 107) 1 = .ok (.istore_n 3, 1)) rfl rfl
theorem e107_2 : V 107 2 L st h Q = V 107 3 L (.int 0 :: st) h Q := V_c (by decide +kernel : decode (p_c 107) 2 = .ok (.iconst 0, 1)) (by decide)
theorem e107_3 : V 107 3 [l0, l1, l2, l3, l4, l5, l6] (.int x :: st) h Q = V 107 5 [l0, l1, l2, p_dl l3, some (.int x), l5, l6] st h Q := V_nx (by decide +kernel : decode (p_c 107) 3 = .ok (.istore 4, 2)) rfl rfl
theorem e107_5 : V 107 5 L st h Q = V 107 6 L (.int 0 :: st) h Q := V_c (by decide +kernel : decode (p_c 107) 5 = .ok (.iconst 0, 1)) (by decide)
theorem e107_6 : V 107 6 [l0, l1, l2, l3, l4, l5, l6] (.int x :: st) h Q = V 107 8 [l0, l1, l2, l3, p_dl l4, some (.int x), l6] st h Q := V_nx (by decide +kernel : decode (p_c 107) 6 = .ok (.istore 5, 2)) rfl rfl
theorem e107_8 : V 107 8 [l0, l1, l2, l3, l4, some (.int x), l6] st h Q = V 107 10 [l0, l1, l2, l3, l4, some (.int x), l6] (.int x :: st) h Q := V_nx (by decide +kernel : decode (p_c 107) 8 = .ok (.iload 5, 2)) rfl rfl
theorem e107_10 : V 107 10 L st h Q = V 107 12 L (.int 8 :: st) h Q := V_b (by decide +kernel : decode (p_c 107) 10 = .ok (.bipush 8, 2)) (by decide)
theorem e107_12 : V 107 12 L (.int z :: .int x :: st) h Q = if x < z then V 107 15 L st h Q else V 107 85 L st h Q := (V_icmp (by decide +kernel : decode (p_c 107) 12 = .ok (.if_icmp .ge 73, 3)) (by decide)).trans i_ge
theorem e107_15 : V 107 15 [l0, some (.long u), l2, l3, l4, l5, l6] st h Q = V 107 16 [l0, some (.long u), l2, l3, l4, l5, l6] (.long u :: st) h Q := V_nx (by decide +kernel : decode (p_c 107) 15 = .ok (.lload_n 1, 1)) rfl rfl
theorem e107_16 : V 107 16 L st h Q = V 107 18 L (.int 8 :: st) h Q := V_b (by decide +kernel : decode (p_c 107) 16 = .ok (.bipush 8, 2)) (by decide)
theorem e107_18 : V 107 18 [l0, l1, l2, l3, l4, some (.int x), l6] st h Q = V 107 20 [l0, l1, l2, l3, l4, some (.int x), l6] (.int x :: st) h Q := V_nx (by decide +kernel : decode (p_c 107) 18 = .ok (.iload 5, 2)) rfl rfl
theorem e107_20 : V 107 20 L (.int z :: .int x :: st) h Q = V 107 21 L (.int (x * z) :: st) h Q := V_nx (by decide +kernel : decode (p_c 107) 20 = .ok (.imul, 1)) rfl rfl
theorem e107_21 : V 107 21 L (.int x :: .long u :: st) h Q = V 107 22 L (.long (u >>> (x.toInt64 &&& 63)) :: st) h Q := V_nx (by decide +kernel : decode (p_c 107) 21 = .ok (.lshr, 1)) rfl rfl
theorem e107_22 : V 107 22 L st h Q = V 107 25 L (.long 255 :: st) h Q := V_ldc2 (by decide +kernel : decode (p_c 107) 22 = .ok (.ldc2_w 82, 3)) (by decide +kernel)
theorem e107_25 : V 107 25 L (.long w :: .long u :: st) h Q = V 107 26 L (.long (u &&& w) :: st) h Q := V_nx (by decide +kernel : decode (p_c 107) 25 = .ok (.land, 1)) rfl rfl
theorem e107_26 : V 107 26 L (.long u :: st) h Q = V 107 27 L (.int u.toInt32 :: st) h Q := V_nx (by decide +kernel : decode (p_c 107) 26 = .ok (.l2i, 1)) rfl rfl
theorem e107_27 : V 107 27 [l0, l1, l2, l3, l4, l5, l6] (.int x :: st) h Q = V 107 29 [l0, l1, l2, l3, l4, p_dl l5, some (.int x)] st h Q := V_nx (by decide +kernel : decode (p_c 107) 27 = .ok (.istore 6, 2)) rfl rfl
theorem e107_29 : V 107 29 [l0, l1, l2, l3, l4, l5, some (.int x)] st h Q = V 107 31 [l0, l1, l2, l3, l4, l5, some (.int x)] (.int x :: st) h Q := V_nx (by decide +kernel : decode (p_c 107) 29 = .ok (.iload 6, 2)) rfl rfl
theorem e107_31 : V 107 31 L st h Q = V 107 33 L (.int 126 :: st) h Q := V_b (by decide +kernel : decode (p_c 107) 31 = .ok (.bipush 126, 2)) (by decide)
theorem e107_33 : V 107 33 L (.int z :: .int x :: st) h Q = if z < x then V 107 46 L st h Q else V 107 36 L st h Q := (V_icmp (by decide +kernel : decode (p_c 107) 33 = .ok (.if_icmp .gt 13, 3)) (by decide)).trans i_gt
theorem e107_36 : V 107 36 [l0, l1, l2, l3, some (.int x), l5, l6] st h Q = V 107 38 [l0, l1, l2, l3, some (.int x), l5, l6] (.int x :: st) h Q := V_nx (by decide +kernel : decode (p_c 107) 36 = .ok (.iload 4, 2)) rfl rfl
theorem e107_38 : V 107 38 L (.int x :: st) h Q = if x = 0 then V 107 49 L st h Q else V 107 41 L st h Q := (V_ifc (by decide +kernel : decode (p_c 107) 38 = .ok (.ifCond .eq 11, 3)) (by decide)).trans i_eq
theorem e107_41 : V 107 41 [l0, l1, l2, l3, l4, l5, some (.int x)] st h Q = V 107 43 [l0, l1, l2, l3, l4, l5, some (.int x)] (.int x :: st) h Q := V_nx (by decide +kernel : decode (p_c 107) 41 = .ok (.iload 6, 2)) rfl rfl
theorem e107_43 : V 107 43 L (.int x :: st) h Q = if x = 0 then V 107 49 L st h Q else V 107 46 L st h Q := (V_ifc (by decide +kernel : decode (p_c 107) 43 = .ok (.ifCond .eq 6, 3)) (by decide)).trans i_eq
theorem e107_46 : V 107 46 L st h Q = V 107 48 L (.int (-102) :: st) h Q := V_b (by decide +kernel : decode (p_c 107) 46 = .ok (.bipush (-102), 2)) (by decide)
theorem e107_48 : V 107 48 L [.int x] h Q = Q (some (.int x)) h := V_ri (by decide +kernel : decode (p_c 107) 48 = .ok (.ireturn, 1)) rfl
theorem e107_49 : V 107 49 [l0, l1, l2, l3, some (.int x), l5, l6] st h Q = V 107 51 [l0, l1, l2, l3, some (.int x), l5, l6] (.int x :: st) h Q := V_nx (by decide +kernel : decode (p_c 107) 49 = .ok (.iload 4, 2)) rfl rfl
theorem e107_51 : V 107 51 L (.int x :: st) h Q = if x = 0 then V 107 54 L st h Q else V 107 59 L st h Q := (V_ifc (by decide +kernel : decode (p_c 107) 51 = .ok (.ifCond .ne 8, 3)) (by decide)).trans i_ne
theorem e107_54 : V 107 54 [l0, l1, l2, l3, l4, l5, some (.int x)] st h Q = V 107 56 [l0, l1, l2, l3, l4, l5, some (.int x)] (.int x :: st) h Q := V_nx (by decide +kernel : decode (p_c 107) 54 = .ok (.iload 6, 2)) rfl rfl
theorem e107_56 : V 107 56 L (.int x :: st) h Q = if x = 0 then V 107 59 L st h Q else V 107 63 L st h Q := (V_ifc (by decide +kernel : decode (p_c 107) 56 = .ok (.ifCond .ne 7, 3)) (by decide)).trans i_ne
theorem e107_59 : V 107 59 L st h Q = V 107 60 L (.int 1 :: st) h Q := V_c (by decide +kernel : decode (p_c 107) 59 = .ok (.iconst 1, 1)) (by decide)
theorem e107_60 : V 107 60 L st h Q = V 107 64 L st h Q := V_goto (by decide +kernel : decode (p_c 107) 60 = .ok (.goto 4, 3)) (by decide)
theorem e107_63 : V 107 63 L st h Q = V 107 64 L (.int 0 :: st) h Q := V_c (by decide +kernel : decode (p_c 107) 63 = .ok (.iconst 0, 1)) (by decide)
theorem e107_64 : V 107 64 [l0, l1, l2, l3, l4, l5, l6] (.int x :: st) h Q = V 107 66 [l0, l1, l2, p_dl l3, some (.int x), l5, l6] st h Q := V_nx (by decide +kernel : decode (p_c 107) 64 = .ok (.istore 4, 2)) rfl rfl
theorem e107_66 : V 107 66 [l0, l1, l2, some (.int x), l4, l5, l6] st h Q = V 107 67 [l0, l1, l2, some (.int x), l4, l5, l6] (.int x :: st) h Q := V_nx (by decide +kernel : decode (p_c 107) 66 = .ok (.iload_n 3, 1)) rfl rfl
theorem e107_67 : V 107 67 [l0, l1, l2, l3, l4, l5, some (.int x)] st h Q = V 107 69 [l0, l1, l2, l3, l4, l5, some (.int x)] (.int x :: st) h Q := V_nx (by decide +kernel : decode (p_c 107) 67 = .ok (.iload 6, 2)) rfl rfl
theorem e107_69 : V 107 69 L (.int x :: st) h Q = if x = 0 then V 107 72 L st h Q else V 107 76 L st h Q := (V_ifc (by decide +kernel : decode (p_c 107) 69 = .ok (.ifCond .ne 7, 3)) (by decide)).trans i_ne
theorem e107_72 : V 107 72 L st h Q = V 107 73 L (.int 0 :: st) h Q := V_c (by decide +kernel : decode (p_c 107) 72 = .ok (.iconst 0, 1)) (by decide)
theorem e107_73 : V 107 73 L st h Q = V 107 77 L st h Q := V_goto (by decide +kernel : decode (p_c 107) 73 = .ok (.goto 4, 3)) (by decide)
theorem e107_76 : V 107 76 L st h Q = V 107 77 L (.int 1 :: st) h Q := V_c (by decide +kernel : decode (p_c 107) 76 = .ok (.iconst 1, 1)) (by decide)
theorem e107_77 : V 107 77 L (.int z :: .int x :: st) h Q = V 107 78 L (.int (x + z) :: st) h Q := V_nx (by decide +kernel : decode (p_c 107) 77 = .ok (.iadd, 1)) rfl rfl
theorem e107_78 : V 107 78 [l0, l1, l2, l3, l4, l5, l6] (.int x :: st) h Q = V 107 79 [l0, l1, p_dl l2, some (.int x), l4, l5, l6] st h Q := V_nx (by decide +kernel : decode (p_c 107) 78 = .ok (.istore_n 3, 1)) rfl rfl
theorem e107_79 : V 107 79 [l0, l1, l2, l3, l4, some (.int x), l6] st h Q = V 107 82 [l0, l1, l2, l3, p_dl l4, some (.int (x + 1)), l6] st h Q := V_iinc (x := x) (by decide +kernel : decode (p_c 107) 79 = .ok (.iinc 5 1, 3)) (by decide) rfl (Nat.le_of_ble_eq_true rfl)
theorem e107_82 : V 107 82 L st h Q = V 107 8 L st h Q := V_goto (by decide +kernel : decode (p_c 107) 82 = .ok (.goto (-74), 3)) (by decide)
theorem e107_85 : V 107 85 [some (.ref a), l1, l2, l3, l4, l5, l6] st h Q = V 107 86 [some (.ref a), l1, l2, l3, l4, l5, l6] (.ref a :: st) h Q := V_nx (by decide +kernel : decode (p_c 107) 85 = .ok (.aload_n 0, 1)) rfl rfl
theorem e107_86 : V 107 86 L (.ref a :: st) h Q = (p_ok1 [12] 17 (p_get h a) ∧ V 107 89 L (p_fv 17 (p_get h a) :: st) h Q) := V_gf (t := (0, 0, "WaterShouldersModel")) (by decide +kernel : decode (p_c 107) 86 = .ok (.getfield 84, 3)) (by decide +kernel)
theorem e107_89 : V 107 89 [l0, l1, l2, some (.int x), l4, l5, l6] st h Q = V 107 90 [l0, l1, l2, some (.int x), l4, l5, l6] (.int x :: st) h Q := V_nx (by decide +kernel : decode (p_c 107) 89 = .ok (.iload_n 3, 1)) rfl rfl
theorem e107_90 : V 107 90 L (.int z :: .int x :: st) h Q = V 107 91 L (.int (x + z) :: st) h Q := V_nx (by decide +kernel : decode (p_c 107) 90 = .ok (.iadd, 1)) rfl rfl
theorem e107_91 : V 107 91 L st h Q = V 107 93 L (.int 14 :: st) h Q := V_b (by decide +kernel : decode (p_c 107) 91 = .ok (.bipush 14, 2)) (by decide)
theorem e107_93 : V 107 93 L (.int z :: .int x :: st) h Q = if z < x then V 107 96 L st h Q else V 107 99 L st h Q := (V_icmp (by decide +kernel : decode (p_c 107) 93 = .ok (.if_icmp .le 6, 3)) (by decide)).trans i_le
theorem e107_96 : V 107 96 L st h Q = V 107 98 L (.int (-104) :: st) h Q := V_b (by decide +kernel : decode (p_c 107) 96 = .ok (.bipush (-104), 2)) (by decide)
theorem e107_98 : V 107 98 L [.int x] h Q = Q (some (.int x)) h := V_ri (by decide +kernel : decode (p_c 107) 98 = .ok (.ireturn, 1)) rfl
theorem e107_99 : V 107 99 L st h Q = V 107 100 L (.int 0 :: st) h Q := V_c (by decide +kernel : decode (p_c 107) 99 = .ok (.iconst 0, 1)) (by decide)
theorem e107_100 : V 107 100 [l0, l1, l2, l3, l4, l5, l6] (.int x :: st) h Q = V 107 102 [l0, l1, l2, l3, p_dl l4, some (.int x), l6] st h Q := V_nx (by decide +kernel : decode (p_c 107) 100 = .ok (.istore 5, 2)) rfl rfl
theorem e107_102 : V 107 102 [l0, l1, l2, l3, l4, some (.int x), l6] st h Q = V 107 104 [l0, l1, l2, l3, l4, some (.int x), l6] (.int x :: st) h Q := V_nx (by decide +kernel : decode (p_c 107) 102 = .ok (.iload 5, 2)) rfl rfl
theorem e107_104 : V 107 104 [l0, l1, l2, some (.int x), l4, l5, l6] st h Q = V 107 105 [l0, l1, l2, some (.int x), l4, l5, l6] (.int x :: st) h Q := V_nx (by decide +kernel : decode (p_c 107) 104 = .ok (.iload_n 3, 1)) rfl rfl
theorem e107_105 : V 107 105 L (.int z :: .int x :: st) h Q = if x < z then V 107 108 L st h Q else V 107 135 L st h Q := (V_icmp (by decide +kernel : decode (p_c 107) 105 = .ok (.if_icmp .ge 30, 3)) (by decide)).trans i_ge
theorem e107_108 : V 107 108 [some (.ref a), l1, l2, l3, l4, l5, l6] st h Q = V 107 109 [some (.ref a), l1, l2, l3, l4, l5, l6] (.ref a :: st) h Q := V_nx (by decide +kernel : decode (p_c 107) 108 = .ok (.aload_n 0, 1)) rfl rfl
theorem e107_109 : V 107 109 L (.ref a :: st) h Q = (p_ok1 [12] 18 (p_get h a) ∧ V 107 112 L (p_fv 18 (p_get h a) :: st) h Q) := V_gf (t := (3, 1, "WaterShouldersModel")) (by decide +kernel : decode (p_c 107) 109 = .ok (.getfield 41, 3)) (by decide +kernel)
theorem e107_112 : V 107 112 [some (.ref a), l1, l2, l3, l4, l5, l6] st h Q = V 107 113 [some (.ref a), l1, l2, l3, l4, l5, l6] (.ref a :: st) h Q := V_nx (by decide +kernel : decode (p_c 107) 112 = .ok (.aload_n 0, 1)) rfl rfl
theorem e107_113 : V 107 113 L (.ref a :: st) h Q = (p_ok1 [12] 17 (p_get h a) ∧ V 107 116 L (p_fv 17 (p_get h a) :: st) h Q) := V_gf (t := (0, 0, "WaterShouldersModel")) (by decide +kernel : decode (p_c 107) 113 = .ok (.getfield 84, 3)) (by decide +kernel)
theorem e107_116 : V 107 116 [l0, l1, l2, l3, l4, some (.int x), l6] st h Q = V 107 118 [l0, l1, l2, l3, l4, some (.int x), l6] (.int x :: st) h Q := V_nx (by decide +kernel : decode (p_c 107) 116 = .ok (.iload 5, 2)) rfl rfl
theorem e107_118 : V 107 118 L (.int z :: .int x :: st) h Q = V 107 119 L (.int (x + z) :: st) h Q := V_nx (by decide +kernel : decode (p_c 107) 118 = .ok (.iadd, 1)) rfl rfl
theorem e107_119 : V 107 119 [l0, some (.long u), l2, l3, l4, l5, l6] st h Q = V 107 120 [l0, some (.long u), l2, l3, l4, l5, l6] (.long u :: st) h Q := V_nx (by decide +kernel : decode (p_c 107) 119 = .ok (.lload_n 1, 1)) rfl rfl
theorem e107_120 : V 107 120 L st h Q = V 107 122 L (.int 8 :: st) h Q := V_b (by decide +kernel : decode (p_c 107) 120 = .ok (.bipush 8, 2)) (by decide)
theorem e107_122 : V 107 122 [l0, l1, l2, l3, l4, some (.int x), l6] st h Q = V 107 124 [l0, l1, l2, l3, l4, some (.int x), l6] (.int x :: st) h Q := V_nx (by decide +kernel : decode (p_c 107) 122 = .ok (.iload 5, 2)) rfl rfl
theorem e107_124 : V 107 124 L (.int z :: .int x :: st) h Q = V 107 125 L (.int (x * z) :: st) h Q := V_nx (by decide +kernel : decode (p_c 107) 124 = .ok (.imul, 1)) rfl rfl
theorem e107_125 : V 107 125 L (.int x :: .long u :: st) h Q = V 107 126 L (.long (u >>> (x.toInt64 &&& 63)) :: st) h Q := V_nx (by decide +kernel : decode (p_c 107) 125 = .ok (.lshr, 1)) rfl rfl
theorem e107_126 : V 107 126 L (.long u :: st) h Q = V 107 127 L (.int u.toInt32 :: st) h Q := V_nx (by decide +kernel : decode (p_c 107) 126 = .ok (.l2i, 1)) rfl rfl
theorem e107_127 : V 107 127 L (.int x :: st) h Q = V 107 128 L (.int x.toInt8.toInt32 :: st) h Q := V_nx (by decide +kernel : decode (p_c 107) 127 = .ok (.i2b, 1)) rfl rfl
theorem e107_128 : V 107 128 L (.int x :: .int i :: .ref a :: st) h Q = (p_bok i (p_get h a) ∧ V 107 129 L st (p_set h a (p_bst i x (p_get h a))) Q) := V_bas (by decide +kernel : decode (p_c 107) 128 = .ok (.bastore, 1))
theorem e107_129 : V 107 129 [l0, l1, l2, l3, l4, some (.int x), l6] st h Q = V 107 132 [l0, l1, l2, l3, p_dl l4, some (.int (x + 1)), l6] st h Q := V_iinc (x := x) (by decide +kernel : decode (p_c 107) 129 = .ok (.iinc 5 1, 3)) (by decide) rfl (Nat.le_of_ble_eq_true rfl)
theorem e107_132 : V 107 132 L st h Q = V 107 102 L st h Q := V_goto (by decide +kernel : decode (p_c 107) 132 = .ok (.goto (-30), 3)) (by decide)
theorem e107_135 : V 107 135 [some (.ref a), l1, l2, l3, l4, l5, l6] st h Q = V 107 136 [some (.ref a), l1, l2, l3, l4, l5, l6] (.ref a :: st) h Q := V_nx (by decide +kernel : decode (p_c 107) 135 = .ok (.aload_n 0, 1)) rfl rfl
theorem e107_136 : V 107 136 L (.ref a :: st) h Q = V 107 137 L (.ref a :: .ref a :: st) h Q := V_dup (by decide +kernel : decode (p_c 107) 136 = .ok (.dup, 1)) rfl
theorem e107_136i : V 107 136 L (.int x :: st) h Q = V 107 137 L (.int x :: .int x :: st) h Q := V_dup (by decide +kernel : decode (p_c 107) 136 = .ok (.dup, 1)) rfl
theorem e107_137 : V 107 137 L (.ref a :: st) h Q = (p_ok1 [12] 17 (p_get h a) ∧ V 107 140 L (p_fv 17 (p_get h a) :: st) h Q) := V_gf (t := (0, 0, "WaterShouldersModel")) (by decide +kernel : decode (p_c 107) 137 = .ok (.getfield 84, 3)) (by decide +kernel)
theorem e107_140 : V 107 140 [l0, l1, l2, some (.int x), l4, l5, l6] st h Q = V 107 141 [l0, l1, l2, some (.int x), l4, l5, l6] (.int x :: st) h Q := V_nx (by decide +kernel : decode (p_c 107) 140 = .ok (.iload_n 3, 1)) rfl rfl
theorem e107_141 : V 107 141 L (.int z :: .int x :: st) h Q = V 107 142 L (.int (x + z) :: st) h Q := V_nx (by decide +kernel : decode (p_c 107) 141 = .ok (.iadd, 1)) rfl rfl
theorem e107_142 : V 107 142 L (.int x :: .ref a :: st) h Q = (p_ok1 [12] 17 (p_get h a) ∧ V 107 145 L st (p_set h a (p_fs 17 (.int x) (p_get h a))) Q) := V_pf0 (fin := 0) (ref := "WaterShouldersModel") (by decide +kernel : decode (p_c 107) 142 = .ok (.putfield 84, 3)) (by decide +kernel) (by decide +kernel)
theorem e107_145 : V 107 145 [some (.ref a), l1, l2, l3, l4, l5, l6] st h Q = V 107 146 [some (.ref a), l1, l2, l3, l4, l5, l6] (.ref a :: st) h Q := V_nx (by decide +kernel : decode (p_c 107) 145 = .ok (.aload_n 0, 1)) rfl rfl
theorem e107_146 : V 107 146 L (.ref a :: st) h Q = (p_ok1 [12] 17 (p_get h a) ∧ V 107 149 L (p_fv 17 (p_get h a) :: st) h Q) := V_gf (t := (0, 0, "WaterShouldersModel")) (by decide +kernel : decode (p_c 107) 146 = .ok (.getfield 84, 3)) (by decide +kernel)
theorem e107_149 : V 107 149 L [.int x] h Q = Q (some (.int x)) h := V_ri (by decide +kernel : decode (p_c 107) 149 = .ok (.ireturn, 1)) rfl
theorem m107 : Vm 107 [.ref a, .long u1] h Q = V 107 0 [some (.ref a), some (.long u1), none, none, none, none, none] [] h Q := rfl
theorem e108_0 : V 108 0 [some (.ref a), l1] st h Q = V 108 1 [some (.ref a), l1] (.ref a :: st) h Q := V_nx (by decide +kernel : decode (p_c 108) 0 = .ok (.aload_n 0, 1)) rfl rfl
theorem e108_1 : V 108 1 L (.ref a :: st) h Q = (p_ok1 [12] 17 (p_get h a) ∧ V 108 4 L (p_fv 17 (p_get h a) :: st) h Q) := V_gf (t := (0, 0, "WaterShouldersModel")) (by decide +kernel : decode (p_c 108) 1 = .ok (.getfield 84, 3)) (by decide +kernel)
theorem e108_4 : V 108 4 [l0, l1] (.int x :: st) h Q = V 108 5 [p_dl l0, some (.int x)] st h Q := V_nx (by decide +kernel : decode (p_c 108) 4 = .ok (.istore_n 1, 1)) rfl rfl
theorem e108_5 : V 108 5 [some (.ref a), l1] st h Q = V 108 6 [some (.ref a), l1] (.ref a :: st) h Q := V_nx (by decide +kernel : decode (p_c 108) 5 = .ok (.aload_n 0, 1)) rfl rfl
theorem e108_6 : V 108 6 L st h Q = V 108 7 L (.int 0 :: st) h Q := V_c (by decide +kernel : decode (p_c 108) 6 = .ok (.iconst 0, 1)) (by decide)
theorem e108_7 : V 108 7 L (.int x :: .ref a :: st) h Q = (p_ok1 [12] 17 (p_get h a) ∧ V 108 10 L st (p_set h a (p_fs 17 (.int x) (p_get h a))) Q) := V_pf0 (fin := 0) (ref := "WaterShouldersModel") (by decide +kernel : decode (p_c 108) 7 = .ok (.putfield 84, 3)) (by decide +kernel) (by decide +kernel)
theorem e108_10 : V 108 10 [l0, some (.int x)] st h Q = V 108 11 [l0, some (.int x)] (.int x :: st) h Q := V_nx (by decide +kernel : decode (p_c 108) 10 = .ok (.iload_n 1, 1)) rfl rfl
theorem e108_11 : V 108 11 L [.int x] h Q = Q (some (.int x)) h := V_ri (by decide +kernel : decode (p_c 108) 11 = .ok (.ireturn, 1)) rfl
theorem m108 : Vm 108 [.ref a] h Q = V 108 0 [some (.ref a), none] [] h Q := rfl
theorem e109_0 : V 109 0 [some (.ref a), l1, l2, l3] st h Q = V 109 1 [some (.ref a), l1, l2, l3] (.ref a :: st) h Q := V_nx (by decide +kernel : decode (p_c 109) 0 = .ok (.aload_n 0, 1)) rfl rfl
theorem e109_1 : V 109 1 L st h Q = V 109 2 L (.int 0 :: st) h Q := V_c (by decide +kernel : decode (p_c 109) 1 = .ok (.iconst 0, 1)) (by decide)
theorem e109_2 : V 109 2 L (.int x :: .ref a :: st) h Q = (p_ok1 [12] 21 (p_get h a) ∧ V 109 5 L st (p_set h a (p_fs 21 (.int x) (p_get h a))) Q) := V_pf0 (fin := 0) (ref := "WaterShouldersModel") (by decide +kernel : decode (p_c 109) 2 = .ok (.putfield 87, 3)) (by decide +kernel) (by decide +kernel)
theorem e109_5 : V 109 5 L st h Q = V 109 6 L (.int 0 :: st) h Q := V_c (by decide +kernel : decode (p_c 109) 5 = .ok (.iconst 0, 1)) (by decide)
theorem e109_6 : V 109 6 [l0, l1, l2, l3] (.int x :: st) h Q = V 109 7 [p_dl l0, some (.int x), l2, l3] st h Q := V_nx (by decide +kernel : decode (p_c 109) 6 = .ok (.istore_n 1, 1)) rfl rfl
theorem e109_7 : V 109 7 L st h Q = V 109 8 L (.int 1 :: st) h Q := V_c (by decide +kernel : decode (p_c 109) 7 = .ok (.iconst 1, 1)) (by decide)
theorem e109_8 : V 109 8 [l0, l1, l2, l3] (.int x :: st) h Q = V 109 9 [l0, p_dl l1, some (.int x), l3] st h Q := V_nx (by decide +kernel : decode (p_c 109) 8 = .ok (.istore_n 2, 1)) rfl rfl
theorem e109_9 : V 109 9 [l0, some (.int x), l2, l3] st h Q = V 109 10 [l0, some (.int x), l2, l3] (.int x :: st) h Q := V_nx (by decide +kernel : decode (p_c 109) 9 = .ok (.iload_n 1, 1)) rfl rfl
theorem e109_10 : V 109 10 [some (.ref a), l1, l2, l3] st h Q = V 109 11 [some (.ref a), l1, l2, l3] (.ref a :: st) h Q := V_nx (by decide +kernel : decode (p_c 109) 10 = .ok (.aload_n 0, 1)) rfl rfl
theorem e109_11 : V 109 11 L (.ref a :: st) h Q = (p_ok1 [12] 17 (p_get h a) ∧ V 109 14 L (p_fv 17 (p_get h a) :: st) h Q) := V_gf (t := (0, 0, "WaterShouldersModel")) (by decide +kernel : decode (p_c 109) 11 = .ok (.getfield 84, 3)) (by decide +kernel)
theorem e109_14 : V 109 14 L (.int z :: .int x :: st) h Q = if x < z then V 109 17 L st h Q else V 109 142 L st h Q := (V_icmp (by decide +kernel : decode (p_c 109) 14 = .ok (.if_icmp .ge 128, 3)) (by decide)).trans i_ge
theorem e109_17 : V 109 17 [l0, l1, some (.int x), l3] st h Q = V 109 18 [l0, l1, some (.int x), l3] (.int x :: st) h Q := V_nx (by decide +kernel : decode (p_c 109) 17 = .ok (.iload_n 2, 1)) rfl rfl
theorem e109_18 : V 109 18 L (.int x :: st) h Q = if x = 0 then V 109 142 L st h Q else V 109 21 L st h Q := (V_ifc (by decide +kernel : decode (p_c 109) 18 = .ok (.ifCond .eq 124, 3)) (by decide)).trans i_eq
theorem e109_21 : V 109 21 [some (.ref a), l1, l2, l3] st h Q = V 109 22 [some (.ref a), l1, l2, l3] (.ref a :: st) h Q := V_nx (by decide +kernel : decode (p_c 109) 21 = .ok (.aload_n 0, 1)) rfl rfl
theorem e109_22 : V 109 22 L (.ref a :: st) h Q = (p_ok1 [12] 18 (p_get h a) ∧ V 109 25 L (p_fv 18 (p_get h a) :: st) h Q) := V_gf (t := (3, 1, "WaterShouldersModel")) (by decide +kernel : decode (p_c 109) 22 = .ok (.getfield 41, 3)) (by decide +kernel)
theorem e109_25 : V 109 25 [l0, some (.int x), l2, l3] st h Q = V 109 26 [l0, some (.int x), l2, l3] (.int x :: st) h Q := V_nx (by decide +kernel : decode (p_c 109) 25 = .ok (.iload_n 1, 1)) rfl rfl
theorem e109_26 : V 109 26 L (.int i :: .ref a :: st) h Q = (p_bok i (p_get h a) ∧ V 109 27 L (.int (p_ivl i (p_get h a)) :: st) h Q) := V_bal (by decide +kernel : decode (p_c 109) 26 = .ok (.baload, 1))
theorem e109_27 : V 109 27 L st h Q = V 109 29 L (.int 48 :: st) h Q := V_b (by decide +kernel : decode (p_c 109) 27 = .ok (.bipush 48, 2)) (by decide)
theorem e109_29 : V 109 29 L (.int z :: .int x :: st) h Q = V 109 30 L (.int (x - z) :: st) h Q := V_nx (by decide +kernel : decode (p_c 109) 29 = .ok (.isub, 1)) rfl rfl
theorem e109_30 : V 109 30 [l0, l1, l2, l3] (.int x :: st) h Q = V 109 31 [l0, l1, p_dl l2, some (.int x)] st h Q := V_nx (by decide +kernel : decode (p_c 109) 30 = .ok (.istore_n 3, 1)) rfl rfl
theorem e109_31 : V 109 31 [l0, some (.int x), l2, l3] st h Q = V 109 32 [l0, some (.int x), l2, l3] (.int x :: st) h Q := V_nx (by decide +kernel : decode (p_c 109) 31 = .ok (.iload_n 1, 1)) rfl rfl
theorem e109_32 : V 109 32 L st h Q = V 109 33 L (.int 3 :: st) h Q := V_c (by decide +kernel : decode (p_c 109) 32 = .ok (.iconst 3, 1)) (by decide)
theorem e109_33 : V 109 33 L (.int z :: .int x :: st) h Q = (¬ z = 0 ∧ V 109 34 L (.int (x - x / z * z) :: st) h Q) := V_irem (by decide +kernel : decode (p_c 109) 33 = .ok (.irem, 1))
theorem e109_34 : V 109 34 L (.int x :: st) h Q = if x = 0 then V 109 37 L st h Q else V 109 57 L st h Q := (V_ifc (by decide +kernel : decode (p_c 109) 34 = .ok (.ifCond .ne 23, 3)) (by decide)).trans i_ne
theorem e109_37 : V 109 37 [l0, l1, l2, some (.int x)] st h Q = V 109 38 [l0, l1, l2, some (.int x)] (.int x :: st) h Q := V_nx (by decide +kernel : decode (p_c 109) 37 = .ok (.iload_n 3, 1)) rfl rfl
theorem e109_38 : V 109 38 L st h Q = V 109 39 L (.int 1 :: st) h Q := V_c (by decide +kernel : decode (p_c 109) 38 = .ok (.iconst 1, 1)) (by decide)
theorem e109_39 : V 109 39 L st h Q = V 109 40 L (.int 5 :: st) h Q := V_c (by decide +kernel : decode (p_c 109) 39 = .ok (.iconst 5, 1)) (by decide)
theorem e109_40 : V 109 40 L (.int x3 :: .int x2 :: .int x1 :: st) h Q = (p_sm st ∧ Vm 106 [.int x1, .int x2, .int x3] h (Kt 109 43 L st Q)) := V_st (n := 3) (as := [.int x3, .int x2, .int x1]) (z := 106) (by decide +kernel : decode (p_c 109) 40 = .ok (.invokestatic 90, 3)) (by decide +kernel) rfl (by decide +kernel) rfl
theorem e109_43 : V 109 43 [l0, l1, l2, l3] (.int x :: st) h Q = V 109 44 [l0, p_dl l1, some (.int x), l3] st h Q := V_nx (by decide +kernel : decode (p_c 109) 43 = .ok (.istore_n 2, 1)) rfl rfl
theorem e109_44 : V 109 44 [some (.ref a), l1, l2, l3] st h Q = V 109 45 [some (.ref a), l1, l2, l3] (.ref a :: st) h Q := V_nx (by decide +kernel : decode (p_c 109) 44 = .ok (.aload_n 0, 1)) rfl rfl
theorem e109_45 : V 109 45 L (.ref a :: st) h Q = (p_ok1 [12] 22 (p_get h a) ∧ V 109 48 L (p_fv 22 (p_get h a) :: st) h Q) := V_gf (t := (3, 1, "WaterShouldersModel")) (by decide +kernel : decode (p_c 109) 45 = .ok (.getfield 45, 3)) (by decide +kernel)
theorem e109_48 : V 109 48 [some (.ref a), l1, l2, l3] st h Q = V 109 49 [some (.ref a), l1, l2, l3] (.ref a :: st) h Q := V_nx (by decide +kernel : decode (p_c 109) 48 = .ok (.aload_n 0, 1)) rfl rfl
theorem e109_49 : V 109 49 L (.ref a :: st) h Q = (p_ok1 [12] 21 (p_get h a) ∧ V 109 52 L (p_fv 21 (p_get h a) :: st) h Q) := V_gf (t := (0, 0, "WaterShouldersModel")) (by decide +kernel : decode (p_c 109) 49 = .ok (.getfield 87, 3)) (by decide +kernel)
theorem e109_52 : V 109 52 [l0, l1, l2, some (.int x)] st h Q = V 109 53 [l0, l1, l2, some (.int x)] (.int x :: st) h Q := V_nx (by decide +kernel : decode (p_c 109) 52 = .ok (.iload_n 3, 1)) rfl rfl
theorem e109_53 : V 109 53 L (.int x :: .int i :: .ref a :: st) h Q = (p_sok i (p_get h a) ∧ V 109 54 L st (p_set h a (p_ist i x (p_get h a))) Q) := V_ias (by decide +kernel : decode (p_c 109) 53 = .ok (.iastore, 1))
theorem e109_54 : V 109 54 L st h Q = V 109 127 L st h Q := V_goto (by decide +kernel : decode (p_c 109) 54 = .ok (.goto 73, 3)) (by decide)
theorem e109_57 : V 109 57 [l0, some (.int x), l2, l3] st h Q = V 109 58 [l0, some (.int x), l2, l3] (.int x :: st) h Q := V_nx (by decide +kernel : decode (p_c 109) 57 = .ok (.iload_n 1, 1)) rfl rfl
theorem e109_58 : V 109 58 L st h Q = V 109 59 L (.int 3 :: st) h Q := V_c (by decide +kernel : decode (p_c 109) 58 = .ok (.iconst 3, 1)) (by decide)
theorem e109_59 : V 109 59 L (.int z :: .int x :: st) h Q = (¬ z = 0 ∧ V 109 60 L (.int (x - x / z * z) :: st) h Q) := V_irem (by decide +kernel : decode (p_c 109) 59 = .ok (.irem, 1))
theorem e109_60 : V 109 60 L st h Q = V 109 61 L (.int 1 :: st) h Q := V_c (by decide +kernel : decode (p_c 109) 60 = .ok (.iconst 1, 1)) (by decide)
theorem e109_61 : V 109 61 L (.int z :: .int x :: st) h Q = if x = z then V 109 64 L st h Q else V 109 102 L st h Q := (V_icmp (by decide +kernel : decode (p_c 109) 61 = .ok (.if_icmp .ne 41, 3)) (by decide)).trans i_ne
theorem e109_64 : V 109 64 [l0, l1, l2, some (.int x)] st h Q = V 109 65 [l0, l1, l2, some (.int x)] (.int x :: st) h Q := V_nx (by decide +kernel : decode (p_c 109) 64 = .ok (.iload_n 3, 1)) rfl rfl
theorem e109_65 : V 109 65 L st h Q = V 109 66 L (.int 0 :: st) h Q := V_c (by decide +kernel : decode (p_c 109) 65 = .ok (.iconst 0, 1)) (by decide)
theorem e109_66 : V 109 66 L st h Q = V 109 67 L (.int 5 :: st) h Q := V_c (by decide +kernel : decode (p_c 109) 66 = .ok (.iconst 5, 1)) (by decide)
theorem e109_67 : V 109 67 L (.int x3 :: .int x2 :: .int x1 :: st) h Q = (p_sm st ∧ Vm 106 [.int x1, .int x2, .int x3] h (Kt 109 70 L st Q)) := V_st (n := 3) (as := [.int x3, .int x2, .int x1]) (z := 106) (by decide +kernel : decode (p_c 109) 67 = .ok (.invokestatic 90, 3)) (by decide +kernel) rfl (by decide +kernel) rfl
theorem e109_70 : V 109 70 [l0, l1, l2, l3] (.int x :: st) h Q = V 109 71 [l0, p_dl l1, some (.int x), l3] st h Q := V_nx (by decide +kernel : decode (p_c 109) 70 = .ok (.istore_n 2, 1)) rfl rfl
theorem e109_71 : V 109 71 [some (.ref a), l1, l2, l3] st h Q = V 109 72 [some (.ref a), l1, l2, l3] (.ref a :: st) h Q := V_nx (by decide +kernel : decode (p_c 109) 71 = .ok (.aload_n 0, 1)) rfl rfl
theorem e109_72 : V 109 72 L (.ref a :: st) h Q = (p_ok1 [12] 23 (p_get h a) ∧ V 109 75 L (p_fv 23 (p_get h a) :: st) h Q) := V_gf (t := (3, 1, "WaterShouldersModel")) (by decide +kernel : decode (p_c 109) 72 = .ok (.getfield 48, 3)) (by decide +kernel)
theorem e109_75 : V 109 75 [some (.ref a), l1, l2, l3] st h Q = V 109 76 [some (.ref a), l1, l2, l3] (.ref a :: st) h Q := V_nx (by decide +kernel : decode (p_c 109) 75 = .ok (.aload_n 0, 1)) rfl rfl
theorem e109_76 : V 109 76 L (.ref a :: st) h Q = (p_ok1 [12] 21 (p_get h a) ∧ V 109 79 L (p_fv 21 (p_get h a) :: st) h Q) := V_gf (t := (0, 0, "WaterShouldersModel")) (by decide +kernel : decode (p_c 109) 76 = .ok (.getfield 87, 3)) (by decide +kernel)
theorem e109_79 : V 109 79 [l0, l1, l2, some (.int x)] st h Q = V 109 80 [l0, l1, l2, some (.int x)] (.int x :: st) h Q := V_nx (by decide +kernel : decode (p_c 109) 79 = .ok (.iload_n 3, 1)) rfl rfl
theorem e109_80 : V 109 80 L (.int x :: .int i :: .ref a :: st) h Q = (p_sok i (p_get h a) ∧ V 109 81 L st (p_set h a (p_ist i x (p_get h a))) Q) := V_ias (by decide +kernel : decode (p_c 109) 80 = .ok (.iastore, 1))
theorem e109_81 : V 109 81 [some (.ref a), l1, l2, l3] st h Q = V 109 82 [some (.ref a), l1, l2, l3] (.ref a :: st) h Q := V_nx (by decide +kernel : decode (p_c 109) 81 = .ok (.aload_n 0, 1)) rfl rfl
theorem e109_82 : V 109 82 L (.ref a :: st) h Q = V 109 83 L (.ref a :: .ref a :: st) h Q := V_dup (by decide +kernel : decode (p_c 109) 82 = .ok (.dup, 1)) rfl
theorem e109_82i : V 109 82 L (.int x :: st) h Q = V 109 83 L (.int x :: .int x :: st) h Q := V_dup (by decide +kernel : decode (p_c 109) 82 = .ok (.dup, 1)) rfl
theorem e109_83 : V 109 83 L (.ref a :: st) h Q = (p_ok1 [12] 21 (p_get h a) ∧ V 109 86 L (p_fv 21 (p_get h a) :: st) h Q) := V_gf (t := (0, 0, "WaterShouldersModel")) (by decide +kernel : decode (p_c 109) 83 = .ok (.getfield 87, 3)) (by decide +kernel)
theorem e109_86 : V 109 86 [l0, l1, some (.int x), l3] st h Q = V 109 87 [l0, l1, some (.int x), l3] (.int x :: st) h Q := V_nx (by decide +kernel : decode (p_c 109) 86 = .ok (.iload_n 2, 1)) rfl rfl
theorem e109_87 : V 109 87 L (.int x :: st) h Q = if x = 0 then V 109 94 L st h Q else V 109 90 L st h Q := (V_ifc (by decide +kernel : decode (p_c 109) 87 = .ok (.ifCond .eq 7, 3)) (by decide)).trans i_eq
theorem e109_90 : V 109 90 L st h Q = V 109 91 L (.int 1 :: st) h Q := V_c (by decide +kernel : decode (p_c 109) 90 = .ok (.iconst 1, 1)) (by decide)
theorem e109_91 : V 109 91 L st h Q = V 109 95 L st h Q := V_goto (by decide +kernel : decode (p_c 109) 91 = .ok (.goto 4, 3)) (by decide)
theorem e109_94 : V 109 94 L st h Q = V 109 95 L (.int 0 :: st) h Q := V_c (by decide +kernel : decode (p_c 109) 94 = .ok (.iconst 0, 1)) (by decide)
theorem e109_95 : V 109 95 L (.int z :: .int x :: st) h Q = V 109 96 L (.int (x + z) :: st) h Q := V_nx (by decide +kernel : decode (p_c 109) 95 = .ok (.iadd, 1)) rfl rfl
theorem e109_96 : V 109 96 L (.int x :: .ref a :: st) h Q = (p_ok1 [12] 21 (p_get h a) ∧ V 109 99 L st (p_set h a (p_fs 21 (.int x) (p_get h a))) Q) := V_pf0 (fin := 0) (ref := "WaterShouldersModel") (by decide +kernel : decode (p_c 109) 96 = .ok (.putfield 87, 3)) (by decide +kernel) (by decide +kernel)
theorem e109_99 : V 109 99 L st h Q = V 109 127 L st h Q := V_goto (by decide +kernel : decode (p_c 109) 99 = .ok (.goto 28, 3)) (by decide)
theorem e109_102 : V 109 102 [some (.ref a), l1, l2, l3] st h Q = V 109 103 [some (.ref a), l1, l2, l3] (.ref a :: st) h Q := V_nx (by decide +kernel : decode (p_c 109) 102 = .ok (.aload_n 0, 1)) rfl rfl
theorem e109_103 : V 109 103 L (.ref a :: st) h Q = (p_ok1 [12] 18 (p_get h a) ∧ V 109 106 L (p_fv 18 (p_get h a) :: st) h Q) := V_gf (t := (3, 1, "WaterShouldersModel")) (by decide +kernel : decode (p_c 109) 103 = .ok (.getfield 41, 3)) (by decide +kernel)
theorem e109_106 : V 109 106 [l0, some (.int x), l2, l3] st h Q = V 109 107 [l0, some (.int x), l2, l3] (.int x :: st) h Q := V_nx (by decide +kernel : decode (p_c 109) 106 = .ok (.iload_n 1, 1)) rfl rfl
theorem e109_107 : V 109 107 L (.int i :: .ref a :: st) h Q = (p_bok i (p_get h a) ∧ V 109 108 L (.int (p_ivl i (p_get h a)) :: st) h Q) := V_bal (by decide +kernel : decode (p_c 109) 107 = .ok (.baload, 1))
theorem e109_108 : V 109 108 L st h Q = V 109 110 L (.int 47 :: st) h Q := V_b (by decide +kernel : decode (p_c 109) 108 = .ok (.bipush 47, 2)) (by decide)
theorem e109_110 : V 109 110 L (.int z :: .int x :: st) h Q = if x = z then V 109 113 L st h Q else V 109 125 L st h Q := (V_icmp (by decide +kernel : decode (p_c 109) 110 = .ok (.if_icmp .ne 15, 3)) (by decide)).trans i_ne
theorem e109_113 : V 109 113 [some (.ref a), l1, l2, l3] st h Q = V 109 114 [some (.ref a), l1, l2, l3] (.ref a :: st) h Q := V_nx (by decide +kernel : decode (p_c 109) 113 = .ok (.aload_n 0, 1)) rfl rfl
theorem e109_114 : V 109 114 L (.ref a :: st) h Q = (p_ok1 [12] 21 (p_get h a) ∧ V 109 117 L (p_fv 21 (p_get h a) :: st) h Q) := V_gf (t := (0, 0, "WaterShouldersModel")) (by decide +kernel : decode (p_c 109) 114 = .ok (.getfield 87, 3)) (by decide +kernel)
theorem e109_117 : V 109 117 L st h Q = V 109 118 L (.int 4 :: st) h Q := V_c (by decide +kernel : decode (p_c 109) 117 = .ok (.iconst 4, 1)) (by decide)
theorem e109_118 : V 109 118 L (.int z :: .int x :: st) h Q = if x < z then V 109 121 L st h Q else V 109 125 L st h Q := (V_icmp (by decide +kernel : decode (p_c 109) 118 = .ok (.if_icmp .ge 7, 3)) (by decide)).trans i_ge
theorem e109_121 : V 109 121 L st h Q = V 109 122 L (.int 1 :: st) h Q := V_c (by decide +kernel : decode (p_c 109) 121 = .ok (.iconst 1, 1)) (by decide)
theorem e109_122 : V 109 122 L st h Q = V 109 126 L st h Q := V_goto (by decide +kernel : decode (p_c 109) 122 = .ok (.goto 4, 3)) (by decide)
theorem e109_125 : V 109 125 L st h Q = V 109 126 L (.int 0 :: st) h Q := V_c (by decide +kernel : decode (p_c 109) 125 = .ok (.iconst 0, 1)) (by decide)
theorem e109_126 : V 109 126 [l0, l1, l2, l3] (.int x :: st) h Q = V 109 127 [l0, p_dl l1, some (.int x), l3] st h Q := V_nx (by decide +kernel : decode (p_c 109) 126 = .ok (.istore_n 2, 1)) rfl rfl
theorem e109_127 : V 109 127 [l0, some (.int x), l2, l3] st h Q = V 109 128 [l0, some (.int x), l2, l3] (.int x :: st) h Q := V_nx (by decide +kernel : decode (p_c 109) 127 = .ok (.iload_n 1, 1)) rfl rfl
theorem e109_128 : V 109 128 [l0, l1, some (.int x), l3] st h Q = V 109 129 [l0, l1, some (.int x), l3] (.int x :: st) h Q := V_nx (by decide +kernel : decode (p_c 109) 128 = .ok (.iload_n 2, 1)) rfl rfl
theorem e109_129 : V 109 129 L (.int x :: st) h Q = if x = 0 then V 109 136 L st h Q else V 109 132 L st h Q := (V_ifc (by decide +kernel : decode (p_c 109) 129 = .ok (.ifCond .eq 7, 3)) (by decide)).trans i_eq
theorem e109_132 : V 109 132 L st h Q = V 109 133 L (.int 1 :: st) h Q := V_c (by decide +kernel : decode (p_c 109) 132 = .ok (.iconst 1, 1)) (by decide)
theorem e109_133 : V 109 133 L st h Q = V 109 137 L st h Q := V_goto (by decide +kernel : decode (p_c 109) 133 = .ok (.goto 4, 3)) (by decide)
theorem e109_136 : V 109 136 L st h Q = V 109 137 L (.int 0 :: st) h Q := V_c (by decide +kernel : decode (p_c 109) 136 = .ok (.iconst 0, 1)) (by decide)
theorem e109_137 : V 109 137 L (.int z :: .int x :: st) h Q = V 109 138 L (.int (x + z) :: st) h Q := V_nx (by decide +kernel : decode (p_c 109) 137 = .ok (.iadd, 1)) rfl rfl
theorem e109_138 : V 109 138 [l0, l1, l2, l3] (.int x :: st) h Q = V 109 139 [p_dl l0, some (.int x), l2, l3] st h Q := V_nx (by decide +kernel : decode (p_c 109) 138 = .ok (.istore_n 1, 1)) rfl rfl
theorem e109_139 : V 109 139 L st h Q = V 109 9 L st h Q := V_goto (by decide +kernel : decode (p_c 109) 139 = .ok (.goto (-130), 3)) (by decide)
theorem e109_142 : V 109 142 [some (.ref a), l1, l2, l3] st h Q = V 109 143 [some (.ref a), l1, l2, l3] (.ref a :: st) h Q := V_nx (by decide +kernel : decode (p_c 109) 142 = .ok (.aload_n 0, 1)) rfl rfl
theorem e109_143 : V 109 143 [l0, some (.int x), l2, l3] st h Q = V 109 144 [l0, some (.int x), l2, l3] (.int x :: st) h Q := V_nx (by decide +kernel : decode (p_c 109) 143 = .ok (.iload_n 1, 1)) rfl rfl
theorem e109_144 : V 109 144 L (.int x :: .ref a :: st) h Q = (p_ok1 [12] 19 (p_get h a) ∧ V 109 147 L st (p_set h a (p_fs 19 (.int x) (p_get h a))) Q) := V_pf0 (fin := 0) (ref := "WaterShouldersModel") (by decide +kernel : decode (p_c 109) 144 = .ok (.putfield 94, 3)) (by decide +kernel) (by decide +kernel)
theorem e109_147 : V 109 147 [some (.ref a), l1, l2, l3] st h Q = V 109 148 [some (.ref a), l1, l2, l3] (.ref a :: st) h Q := V_nx (by decide +kernel : decode (p_c 109) 147 = .ok (.aload_n 0, 1)) rfl rfl
theorem e109_148 : V 109 148 [l0, some (.int x), l2, l3] st h Q = V 109 149 [l0, some (.int x), l2, l3] (.int x :: st) h Q := V_nx (by decide +kernel : decode (p_c 109) 148 = .ok (.iload_n 1, 1)) rfl rfl
theorem e109_149 : V 109 149 [some (.ref a), l1, l2, l3] st h Q = V 109 150 [some (.ref a), l1, l2, l3] (.ref a :: st) h Q := V_nx (by decide +kernel : decode (p_c 109) 149 = .ok (.aload_n 0, 1)) rfl rfl
theorem e109_150 : V 109 150 L (.ref a :: st) h Q = (p_ok1 [12] 17 (p_get h a) ∧ V 109 153 L (p_fv 17 (p_get h a) :: st) h Q) := V_gf (t := (0, 0, "WaterShouldersModel")) (by decide +kernel : decode (p_c 109) 150 = .ok (.getfield 84, 3)) (by decide +kernel)
theorem e109_153 : V 109 153 L (.int z :: .int x :: st) h Q = if x = z then V 109 156 L st h Q else V 109 175 L st h Q := (V_icmp (by decide +kernel : decode (p_c 109) 153 = .ok (.if_icmp .ne 22, 3)) (by decide)).trans i_ne
theorem e109_156 : V 109 156 [l0, some (.int x), l2, l3] st h Q = V 109 157 [l0, some (.int x), l2, l3] (.int x :: st) h Q := V_nx (by decide +kernel : decode (p_c 109) 156 = .ok (.iload_n 1, 1)) rfl rfl
theorem e109_157 : V 109 157 L st h Q = V 109 158 L (.int 3 :: st) h Q := V_c (by decide +kernel : decode (p_c 109) 157 = .ok (.iconst 3, 1)) (by decide)
theorem e109_158 : V 109 158 L (.int z :: .int x :: st) h Q = (¬ z = 0 ∧ V 109 159 L (.int (x - x / z * z) :: st) h Q) := V_irem (by decide +kernel : decode (p_c 109) 158 = .ok (.irem, 1))
theorem e109_159 : V 109 159 L st h Q = V 109 160 L (.int 2 :: st) h Q := V_c (by decide +kernel : decode (p_c 109) 159 = .ok (.iconst 2, 1)) (by decide)
theorem e109_160 : V 109 160 L (.int z :: .int x :: st) h Q = if x = z then V 109 163 L st h Q else V 109 175 L st h Q := (V_icmp (by decide +kernel : decode (p_c 109) 160 = .ok (.if_icmp .ne 15, 3)) (by decide)).trans i_ne
theorem e109_163 : V 109 163 [some (.ref a), l1, l2, l3] st h Q = V 109 164 [some (.ref a), l1, l2, l3] (.ref a :: st) h Q := V_nx (by decide +kernel : decode (p_c 109) 163 = .ok (.aload_n 0, 1)) rfl rfl
theorem e109_164 : V 109 164 L (.ref a :: st) h Q = (p_ok1 [12] 21 (p_get h a) ∧ V 109 167 L (p_fv 21 (p_get h a) :: st) h Q) := V_gf (t := (0, 0, "WaterShouldersModel")) (by decide +kernel : decode (p_c 109) 164 = .ok (.getfield 87, 3)) (by decide +kernel)
theorem e109_167 : V 109 167 L st h Q = V 109 168 L (.int 1 :: st) h Q := V_c (by decide +kernel : decode (p_c 109) 167 = .ok (.iconst 1, 1)) (by decide)
theorem e109_168 : V 109 168 L (.int z :: .int x :: st) h Q = if z < x then V 109 171 L st h Q else V 109 175 L st h Q := (V_icmp (by decide +kernel : decode (p_c 109) 168 = .ok (.if_icmp .le 7, 3)) (by decide)).trans i_le
theorem e109_171 : V 109 171 L st h Q = V 109 172 L (.int 1 :: st) h Q := V_c (by decide +kernel : decode (p_c 109) 171 = .ok (.iconst 1, 1)) (by decide)
theorem e109_172 : V 109 172 L st h Q = V 109 176 L st h Q := V_goto (by decide +kernel : decode (p_c 109) 172 = .ok (.goto 4, 3)) (by decide)
theorem e109_175 : V 109 175 L st h Q = V 109 176 L (.int 0 :: st) h Q := V_c (by decide +kernel : decode (p_c 109) 175 = .ok (.iconst 0, 1)) (by decide)
theorem e109_176 : V 109 176 L (.int x :: .ref a :: st) h Q = ((x = 0 ∨ x = 1) ∧ p_ok1 [12] 20 (p_get h a) ∧ V 109 179 L st (p_set h a (p_fs 20 (.int x) (p_get h a))) Q) := V_pf1 (fin := 0) (ref := "WaterShouldersModel") (by decide +kernel : decode (p_c 109) 176 = .ok (.putfield 97, 3)) (by decide +kernel) (by decide +kernel)
theorem e109_179 : V 109 179 L [] h Q = Q none h := V_rv (by decide +kernel : decode (p_c 109) 179 = .ok (.return_, 1)) rfl
theorem m109 : Vm 109 [.ref a] h Q = V 109 0 [some (.ref a), none, none, none] [] h Q := rfl
theorem e110_0 : V 110 0 [some (.ref a)] st h Q = V 110 1 [some (.ref a)] (.ref a :: st) h Q := V_nx (by decide +kernel : decode (p_c 110) 0 = .ok (.aload_n 0, 1)) rfl rfl
theorem e110_1 : V 110 1 L (.ref a :: st) h Q = ((p_cn1 (p_get h a) = 12 ∧ p_sm st) ∧ Vm 109 [.ref a] h (Kt 110 4 L st Q)) := V_iv (n := 0) (as := []) (ci := 12) (z := 109) (by decide +kernel : decode (p_c 110) 1 = .ok (.invokevirtual 101, 3)) (by decide +kernel) rfl rfl (by decide +kernel) rfl
theorem e110_4 : V 110 4 [some (.ref a)] st h Q = V 110 5 [some (.ref a)] (.ref a :: st) h Q := V_nx (by decide +kernel : decode (p_c 110) 4 = .ok (.aload_n 0, 1)) rfl rfl
theorem e110_5 : V 110 5 L (.ref a :: st) h Q = (p_ok1 [12] 19 (p_get h a) ∧ V 110 8 L (p_fv 19 (p_get h a) :: st) h Q) := V_gf (t := (0, 0, "WaterShouldersModel")) (by decide +kernel : decode (p_c 110) 5 = .ok (.getfield 94, 3)) (by decide +kernel)
theorem e110_8 : V 110 8 L [.int x] h Q = Q (some (.int x)) h := V_ri (by decide +kernel : decode (p_c 110) 8 = .ok (.ireturn, 1)) rfl
theorem m110 : Vm 110 [.ref a] h Q = V 110 0 [some (.ref a)] [] h Q := rfl
theorem e111_0 : V 111 0 [some (.ref a), l1] st h Q = V 111 1 [some (.ref a), l1] (.ref a :: st) h Q := V_nx (by decide +kernel : decode (p_c 111) 0 = .ok (.aload_n 0, 1)) rfl rfl
theorem e111_1 : V 111 1 L (.ref a :: st) h Q = ((p_cn1 (p_get h a) = 12 ∧ p_sm st) ∧ Vm 109 [.ref a] h (Kt 111 4 L st Q)) := V_iv (n := 0) (as := []) (ci := 12) (z := 109) (by decide +kernel : decode (p_c 111) 1 = .ok (.invokevirtual 101, 3)) (by decide +kernel) rfl rfl (by decide +kernel) rfl
theorem e111_4 : V 111 4 [some (.ref a), l1] st h Q = V 111 5 [some (.ref a), l1] (.ref a :: st) h Q := V_nx (by decide +kernel : decode (p_c 111) 4 = .ok (.aload_n 0, 1)) rfl rfl
theorem e111_5 : V 111 5 L (.ref a :: st) h Q = (p_ok1 [12] 20 (p_get h a) ∧ V 111 8 L (p_fv 20 (p_get h a) :: st) h Q) := V_gf (t := (1, 0, "WaterShouldersModel")) (by decide +kernel : decode (p_c 111) 5 = .ok (.getfield 97, 3)) (by decide +kernel)
theorem e111_8 : V 111 8 L (.int x :: st) h Q = if x = 0 then V 111 11 L st h Q else V 111 14 L st h Q := (V_ifc (by decide +kernel : decode (p_c 111) 8 = .ok (.ifCond .ne 6, 3)) (by decide)).trans i_ne
theorem e111_11 : V 111 11 L st h Q = V 111 13 L (.int (-103) :: st) h Q := V_b (by decide +kernel : decode (p_c 111) 11 = .ok (.bipush (-103), 2)) (by decide)
theorem e111_13 : V 111 13 L [.int x] h Q = Q (some (.int x)) h := V_ri (by decide +kernel : decode (p_c 111) 13 = .ok (.ireturn, 1)) rfl
theorem e111_14 : V 111 14 [some (.ref a), l1] st h Q = V 111 15 [some (.ref a), l1] (.ref a :: st) h Q := V_nx (by decide +kernel : decode (p_c 111) 14 = .ok (.aload_n 0, 1)) rfl rfl
theorem e111_15 : V 111 15 [some (.ref a), l1] st h Q = V 111 16 [some (.ref a), l1] (.ref a :: st) h Q := V_nx (by decide +kernel : decode (p_c 111) 15 = .ok (.aload_n 0, 1)) rfl rfl
theorem e111_16 : V 111 16 L (.ref a :: st) h Q = (p_ok1 [12] 21 (p_get h a) ∧ V 111 19 L (p_fv 21 (p_get h a) :: st) h Q) := V_gf (t := (0, 0, "WaterShouldersModel")) (by decide +kernel : decode (p_c 111) 16 = .ok (.getfield 87, 3)) (by decide +kernel)
theorem e111_19 : V 111 19 L (.int x :: .ref a :: st) h Q = (p_ok1 [12] 0 (p_get h a) ∧ V 111 22 L st (p_set h a (p_fs 0 (.int x) (p_get h a))) Q) := V_pf0 (fin := 0) (ref := "WaterShouldersModel") (by decide +kernel : decode (p_c 111) 19 = .ok (.putfield 104, 3)) (by decide +kernel) (by decide +kernel)
theorem e111_22 : V 111 22 L st h Q = V 111 23 L (.int 0 :: st) h Q := V_c (by decide +kernel : decode (p_c 111) 22 = .ok (.iconst 0, 1)) (by decide)
theorem e111_23 : V 111 23 [l0, l1] (.int x :: st) h Q = V 111 24 [p_dl l0, some (.int x)] st h Q := V_nx (by decide +kernel : decode (p_c 111) 23 = .ok (.istore_n 1, 1)) rfl rfl
theorem e111_24 : V 111 24 [l0, some (.int x)] st h Q = V 111 25 [l0, some (.int x)] (.int x :: st) h Q := V_nx (by decide +kernel : decode (p_c 111) 24 = .ok (.iload_n 1, 1)) rfl rfl
theorem e111_25 : V 111 25 [some (.ref a), l1] st h Q = V 111 26 [some (.ref a), l1] (.ref a :: st) h Q := V_nx (by decide +kernel : decode (p_c 111) 25 = .ok (.aload_n 0, 1)) rfl rfl
theorem e111_26 : V 111 26 L (.ref a :: st) h Q = (p_ok1 [12] 0 (p_get h a) ∧ V 111 29 L (p_fv 0 (p_get h a) :: st) h Q) := V_gf (t := (0, 0, "WaterShouldersModel")) (by decide +kernel : decode (p_c 111) 26 = .ok (.getfield 104, 3)) (by decide +kernel)
theorem e111_29 : V 111 29 L (.int z :: .int x :: st) h Q = if x < z then V 111 32 L st h Q else V 111 82 L st h Q := (V_icmp (by decide +kernel : decode (p_c 111) 29 = .ok (.if_icmp .ge 53, 3)) (by decide)).trans i_ge
theorem e111_32 : V 111 32 [some (.ref a), l1] st h Q = V 111 33 [some (.ref a), l1] (.ref a :: st) h Q := V_nx (by decide +kernel : decode (p_c 111) 32 = .ok (.aload_n 0, 1)) rfl rfl
theorem e111_33 : V 111 33 L (.ref a :: st) h Q = (p_ok1 [12] 1 (p_get h a) ∧ V 111 36 L (p_fv 1 (p_get h a) :: st) h Q) := V_gf (t := (3, 1, "WaterShouldersModel")) (by decide +kernel : decode (p_c 111) 33 = .ok (.getfield 7, 3)) (by decide +kernel)
theorem e111_36 : V 111 36 [l0, some (.int x)] st h Q = V 111 37 [l0, some (.int x)] (.int x :: st) h Q := V_nx (by decide +kernel : decode (p_c 111) 36 = .ok (.iload_n 1, 1)) rfl rfl
theorem e111_37 : V 111 37 [some (.ref a), l1] st h Q = V 111 38 [some (.ref a), l1] (.ref a :: st) h Q := V_nx (by decide +kernel : decode (p_c 111) 37 = .ok (.aload_n 0, 1)) rfl rfl
theorem e111_38 : V 111 38 L (.ref a :: st) h Q = (p_ok1 [12] 22 (p_get h a) ∧ V 111 41 L (p_fv 22 (p_get h a) :: st) h Q) := V_gf (t := (3, 1, "WaterShouldersModel")) (by decide +kernel : decode (p_c 111) 38 = .ok (.getfield 45, 3)) (by decide +kernel)
theorem e111_41 : V 111 41 [l0, some (.int x)] st h Q = V 111 42 [l0, some (.int x)] (.int x :: st) h Q := V_nx (by decide +kernel : decode (p_c 111) 41 = .ok (.iload_n 1, 1)) rfl rfl
theorem e111_42 : V 111 42 L (.int i :: .ref a :: st) h Q = (p_iok i (p_get h a) ∧ V 111 43 L (.int (p_ivl i (p_get h a)) :: st) h Q) := V_ial (by decide +kernel : decode (p_c 111) 42 = .ok (.iaload, 1))
theorem e111_43 : V 111 43 L (.int x :: .int i :: .ref a :: st) h Q = (p_sok i (p_get h a) ∧ V 111 44 L st (p_set h a (p_ist i x (p_get h a))) Q) := V_ias (by decide +kernel : decode (p_c 111) 43 = .ok (.iastore, 1))
theorem e111_44 : V 111 44 [some (.ref a), l1] st h Q = V 111 45 [some (.ref a), l1] (.ref a :: st) h Q := V_nx (by decide +kernel : decode (p_c 111) 44 = .ok (.aload_n 0, 1)) rfl rfl
theorem e111_45 : V 111 45 L (.ref a :: st) h Q = (p_ok1 [12] 2 (p_get h a) ∧ V 111 48 L (p_fv 2 (p_get h a) :: st) h Q) := V_gf (t := (3, 1, "WaterShouldersModel")) (by decide +kernel : decode (p_c 111) 45 = .ok (.getfield 13, 3)) (by decide +kernel)
theorem e111_48 : V 111 48 [l0, some (.int x)] st h Q = V 111 49 [l0, some (.int x)] (.int x :: st) h Q := V_nx (by decide +kernel : decode (p_c 111) 48 = .ok (.iload_n 1, 1)) rfl rfl
theorem e111_49 : V 111 49 [some (.ref a), l1] st h Q = V 111 50 [some (.ref a), l1] (.ref a :: st) h Q := V_nx (by decide +kernel : decode (p_c 111) 49 = .ok (.aload_n 0, 1)) rfl rfl
theorem e111_50 : V 111 50 L (.ref a :: st) h Q = (p_ok1 [12] 23 (p_get h a) ∧ V 111 53 L (p_fv 23 (p_get h a) :: st) h Q) := V_gf (t := (3, 1, "WaterShouldersModel")) (by decide +kernel : decode (p_c 111) 50 = .ok (.getfield 48, 3)) (by decide +kernel)
theorem e111_53 : V 111 53 [l0, some (.int x)] st h Q = V 111 54 [l0, some (.int x)] (.int x :: st) h Q := V_nx (by decide +kernel : decode (p_c 111) 53 = .ok (.iload_n 1, 1)) rfl rfl
theorem e111_54 : V 111 54 L (.int i :: .ref a :: st) h Q = (p_iok i (p_get h a) ∧ V 111 55 L (.int (p_ivl i (p_get h a)) :: st) h Q) := V_ial (by decide +kernel : decode (p_c 111) 54 = .ok (.iaload, 1))
theorem e111_55 : V 111 55 L (.int x :: .int i :: .ref a :: st) h Q = (p_sok i (p_get h a) ∧ V 111 56 L st (p_set h a (p_ist i x (p_get h a))) Q) := V_ias (by decide +kernel : decode (p_c 111) 55 = .ok (.iastore, 1))
theorem e111_56 : V 111 56 [some (.ref a), l1] st h Q = V 111 57 [some (.ref a), l1] (.ref a :: st) h Q := V_nx (by decide +kernel : decode (p_c 111) 56 = .ok (.aload_n 0, 1)) rfl rfl
theorem e111_57 : V 111 57 L (.ref a :: st) h Q = (p_ok1 [12] 3 (p_get h a) ∧ V 111 60 L (p_fv 3 (p_get h a) :: st) h Q) := V_gf (t := (3, 1, "WaterShouldersModel")) (by decide +kernel : decode (p_c 111) 57 = .ok (.getfield 16, 3)) (by decide +kernel)
theorem e111_60 : V 111 60 [l0, some (.int x)] st h Q = V 111 61 [l0, some (.int x)] (.int x :: st) h Q := V_nx (by decide +kernel : decode (p_c 111) 60 = .ok (.iload_n 1, 1)) rfl rfl
theorem e111_61 : V 111 61 [l0, some (.int x)] st h Q = V 111 62 [l0, some (.int x)] (.int x :: st) h Q := V_nx (by decide +kernel : decode (p_c 111) 61 = .ok (.iload_n 1, 1)) rfl rfl
theorem e111_62 : V 111 62 L (.int x :: st) h Q = if x = 0 then V 111 65 L st h Q else V 111 74 L st h Q := (V_ifc (by decide +kernel : decode (p_c 111) 62 = .ok (.ifCond .ne 12, 3)) (by decide)).trans i_ne
theorem e111_65 : V 111 65 [some (.ref a), l1] st h Q = V 111 66 [some (.ref a), l1] (.ref a :: st) h Q := V_nx (by decide +kernel : decode (p_c 111) 65 = .ok (.aload_n 0, 1)) rfl rfl
theorem e111_66 : V 111 66 L (.ref a :: st) h Q = (p_ok1 [12] 22 (p_get h a) ∧ V 111 69 L (p_fv 22 (p_get h a) :: st) h Q) := V_gf (t := (3, 1, "WaterShouldersModel")) (by decide +kernel : decode (p_c 111) 66 = .ok (.getfield 45, 3)) (by decide +kernel)
theorem e111_69 : V 111 69 [l0, some (.int x)] st h Q = V 111 70 [l0, some (.int x)] (.int x :: st) h Q := V_nx (by decide +kernel : decode (p_c 111) 69 = .ok (.iload_n 1, 1)) rfl rfl
theorem e111_70 : V 111 70 L (.int i :: .ref a :: st) h Q = (p_iok i (p_get h a) ∧ V 111 71 L (.int (p_ivl i (p_get h a)) :: st) h Q) := V_ial (by decide +kernel : decode (p_c 111) 70 = .ok (.iaload, 1))
theorem e111_71 : V 111 71 L st h Q = V 111 75 L st h Q := V_goto (by decide +kernel : decode (p_c 111) 71 = .ok (.goto 4, 3)) (by decide)
theorem e111_74 : V 111 74 L st h Q = V 111 75 L (.int 0 :: st) h Q := V_c (by decide +kernel : decode (p_c 111) 74 = .ok (.iconst 0, 1)) (by decide)
theorem e111_75 : V 111 75 L (.int x :: .int i :: .ref a :: st) h Q = (p_sok i (p_get h a) ∧ V 111 76 L st (p_set h a (p_ist i x (p_get h a))) Q) := V_ias (by decide +kernel : decode (p_c 111) 75 = .ok (.iastore, 1))
theorem e111_76 : V 111 76 [l0, some (.int x)] st h Q = V 111 79 [p_dl l0, some (.int (x + 1))] st h Q := V_iinc (x := x) (by decide +kernel : decode (p_c 111) 76 = .ok (.iinc 1 1, 3)) (by decide) rfl (Nat.le_of_ble_eq_true rfl)
theorem e111_79 : V 111 79 L st h Q = V 111 24 L st h Q := V_goto (by decide +kernel : decode (p_c 111) 79 = .ok (.goto (-55), 3)) (by decide)
theorem e111_82 : V 111 82 [some (.ref a), l1] st h Q = V 111 83 [some (.ref a), l1] (.ref a :: st) h Q := V_nx (by decide +kernel : decode (p_c 111) 82 = .ok (.aload_n 0, 1)) rfl rfl
theorem e111_83 : V 111 83 L (.ref a :: st) h Q = V 111 84 L (.ref a :: .ref a :: st) h Q := V_dup (by decide +kernel : decode (p_c 111) 83 = .ok (.dup, 1)) rfl
theorem e111_83i : V 111 83 L (.int x :: st) h Q = V 111 84 L (.int x :: .int x :: st) h Q := V_dup (by decide +kernel : decode (p_c 111) 83 = .ok (.dup, 1)) rfl
theorem e111_84 : V 111 84 L (.ref a :: st) h Q = (p_ok1 [12] 4 (p_get h a) ∧ V 111 87 L (p_fv 4 (p_get h a) :: st) h Q) := V_gf (t := (0, 0, "WaterShouldersModel")) (by decide +kernel : decode (p_c 111) 84 = .ok (.getfield 107, 3)) (by decide +kernel)
theorem e111_87 : V 111 87 L st h Q = V 111 88 L (.int 1 :: st) h Q := V_c (by decide +kernel : decode (p_c 111) 87 = .ok (.iconst 1, 1)) (by decide)
theorem e111_88 : V 111 88 L (.int z :: .int x :: st) h Q = V 111 89 L (.int (x + z) :: st) h Q := V_nx (by decide +kernel : decode (p_c 111) 88 = .ok (.iadd, 1)) rfl rfl
theorem e111_89 : V 111 89 L (.int x :: .ref a :: st) h Q = (p_ok1 [12] 4 (p_get h a) ∧ V 111 92 L st (p_set h a (p_fs 4 (.int x) (p_get h a))) Q) := V_pf0 (fin := 0) (ref := "WaterShouldersModel") (by decide +kernel : decode (p_c 111) 89 = .ok (.putfield 107, 3)) (by decide +kernel) (by decide +kernel)
theorem e111_92 : V 111 92 [some (.ref a), l1] st h Q = V 111 93 [some (.ref a), l1] (.ref a :: st) h Q := V_nx (by decide +kernel : decode (p_c 111) 92 = .ok (.aload_n 0, 1)) rfl rfl
theorem e111_93 : V 111 93 L st h Q = V 111 94 L (.int 0 :: st) h Q := V_c (by decide +kernel : decode (p_c 111) 93 = .ok (.iconst 0, 1)) (by decide)
theorem e111_94 : V 111 94 L (.int x :: .ref a :: st) h Q = (p_ok1 [12] 5 (p_get h a) ∧ V 111 97 L st (p_set h a (p_fs 5 (.int x) (p_get h a))) Q) := V_pf0 (fin := 0) (ref := "WaterShouldersModel") (by decide +kernel : decode (p_c 111) 94 = .ok (.putfield 110, 3)) (by decide +kernel) (by decide +kernel)
theorem e111_97 : V 111 97 [some (.ref a), l1] st h Q = V 111 98 [some (.ref a), l1] (.ref a :: st) h Q := V_nx (by decide +kernel : decode (p_c 111) 97 = .ok (.aload_n 0, 1)) rfl rfl
theorem e111_98 : V 111 98 L st h Q = V 111 99 L (.int 0 :: st) h Q := V_c (by decide +kernel : decode (p_c 111) 98 = .ok (.iconst 0, 1)) (by decide)
theorem e111_99 : V 111 99 L (.int x :: .ref a :: st) h Q = (p_ok1 [12] 6 (p_get h a) ∧ V 111 102 L st (p_set h a (p_fs 6 (.int x) (p_get h a))) Q) := V_pf0 (fin := 0) (ref := "WaterShouldersModel") (by decide +kernel : decode (p_c 111) 99 = .ok (.putfield 113, 3)) (by decide +kernel) (by decide +kernel)
theorem e111_102 : V 111 102 [some (.ref a), l1] st h Q = V 111 103 [some (.ref a), l1] (.ref a :: st) h Q := V_nx (by decide +kernel : decode (p_c 111) 102 = .ok (.aload_n 0, 1)) rfl rfl
theorem e111_103 : V 111 103 L st h Q = V 111 104 L (.int (-1) :: st) h Q := V_c (by decide +kernel : decode (p_c 111) 103 = .ok (.iconst (-1), 1)) (by decide)
theorem e111_104 : V 111 104 L (.int x :: .ref a :: st) h Q = (p_ok1 [12] 13 (p_get h a) ∧ V 111 107 L st (p_set h a (p_fs 13 (.int x) (p_get h a))) Q) := V_pf0 (fin := 0) (ref := "WaterShouldersModel") (by decide +kernel : decode (p_c 111) 104 = .ok (.putfield 34, 3)) (by decide +kernel) (by decide +kernel)
theorem e111_107 : V 111 107 [some (.ref a), l1] st h Q = V 111 108 [some (.ref a), l1] (.ref a :: st) h Q := V_nx (by decide +kernel : decode (p_c 111) 107 = .ok (.aload_n 0, 1)) rfl rfl
theorem e111_108 : V 111 108 L st h Q = V 111 109 L (.int 0 :: st) h Q := V_c (by decide +kernel : decode (p_c 111) 108 = .ok (.iconst 0, 1)) (by decide)
theorem e111_109 : V 111 109 L (.int x :: .ref a :: st) h Q = (p_ok1 [12] 15 (p_get h a) ∧ V 111 112 L st (p_set h a (p_fs 15 (.int x) (p_get h a))) Q) := V_pf0 (fin := 0) (ref := "WaterShouldersModel") (by decide +kernel : decode (p_c 111) 109 = .ok (.putfield 116, 3)) (by decide +kernel) (by decide +kernel)
theorem e111_112 : V 111 112 [some (.ref a), l1] st h Q = V 111 113 [some (.ref a), l1] (.ref a :: st) h Q := V_nx (by decide +kernel : decode (p_c 111) 112 = .ok (.aload_n 0, 1)) rfl rfl
theorem e111_113 : V 111 113 L st h Q = V 111 114 L (.int 0 :: st) h Q := V_c (by decide +kernel : decode (p_c 111) 113 = .ok (.iconst 0, 1)) (by decide)
theorem e111_114 : V 111 114 L (.int x :: .ref a :: st) h Q = (p_ok1 [12] 17 (p_get h a) ∧ V 111 117 L st (p_set h a (p_fs 17 (.int x) (p_get h a))) Q) := V_pf0 (fin := 0) (ref := "WaterShouldersModel") (by decide +kernel : decode (p_c 111) 114 = .ok (.putfield 84, 3)) (by decide +kernel) (by decide +kernel)
theorem e111_117 : V 111 117 [some (.ref a), l1] st h Q = V 111 118 [some (.ref a), l1] (.ref a :: st) h Q := V_nx (by decide +kernel : decode (p_c 111) 117 = .ok (.aload_n 0, 1)) rfl rfl
theorem e111_118 : V 111 118 L (.ref a :: st) h Q = (p_ok1 [12] 0 (p_get h a) ∧ V 111 121 L (p_fv 0 (p_get h a) :: st) h Q) := V_gf (t := (0, 0, "WaterShouldersModel")) (by decide +kernel : decode (p_c 111) 118 = .ok (.getfield 104, 3)) (by decide +kernel)
theorem e111_121 : V 111 121 L [.int x] h Q = Q (some (.int x)) h := V_ri (by decide +kernel : decode (p_c 111) 121 = .ok (.ireturn, 1)) rfl
theorem m111 : Vm 111 [.ref a] h Q = V 111 0 [some (.ref a), none] [] h Q := rfl
theorem e112_0 : V 112 0 [l0, some (.int x)] st h Q = V 112 1 [l0, some (.int x)] (.int x :: st) h Q := V_nx (by decide +kernel : decode (p_c 112) 0 = .ok (.iload_n 1, 1)) rfl rfl
theorem e112_1 : V 112 1 L st h Q = V 112 2 L (.int 0 :: st) h Q := V_c (by decide +kernel : decode (p_c 112) 1 = .ok (.iconst 0, 1)) (by decide)
theorem e112_2 : V 112 2 [some (.ref a), l1] st h Q = V 112 3 [some (.ref a), l1] (.ref a :: st) h Q := V_nx (by decide +kernel : decode (p_c 112) 2 = .ok (.aload_n 0, 1)) rfl rfl
theorem e112_3 : V 112 3 L (.ref a :: st) h Q = (p_ok1 [12] 0 (p_get h a) ∧ V 112 6 L (p_fv 0 (p_get h a) :: st) h Q) := V_gf (t := (0, 0, "WaterShouldersModel")) (by decide +kernel : decode (p_c 112) 3 = .ok (.getfield 104, 3)) (by decide +kernel)
theorem e112_6 : V 112 6 L st h Q = V 112 7 L (.int 1 :: st) h Q := V_c (by decide +kernel : decode (p_c 112) 6 = .ok (.iconst 1, 1)) (by decide)
theorem e112_7 : V 112 7 L (.int z :: .int x :: st) h Q = V 112 8 L (.int (x - z) :: st) h Q := V_nx (by decide +kernel : decode (p_c 112) 7 = .ok (.isub, 1)) rfl rfl
theorem e112_8 : V 112 8 L (.int x3 :: .int x2 :: .int x1 :: st) h Q = (p_sm st ∧ Vm 106 [.int x1, .int x2, .int x3] h (Kt 112 11 L st Q)) := V_st (n := 3) (as := [.int x3, .int x2, .int x1]) (z := 106) (by decide +kernel : decode (p_c 112) 8 = .ok (.invokestatic 90, 3)) (by decide +kernel) rfl (by decide +kernel) rfl
theorem e112_11 : V 112 11 L [.int x] h Q = ((x = 0 ∨ x = 1) ∧ Q (some (.int x)) h) := V_rz (by decide +kernel : decode (p_c 112) 11 = .ok (.ireturn, 1)) rfl
theorem m112 : Vm 112 [.ref a, .int x1] h Q = V 112 0 [some (.ref a), some (.int x1)] [] h Q := rfl
theorem e113_0 : V 113 0 [l0, l1, some (.int x)] st h Q = V 113 1 [l0, l1, some (.int x)] (.int x :: st) h Q := V_nx (by decide +kernel : decode (p_c 113) 0 = .ok (.iload_n 2, 1)) rfl rfl
theorem e113_1 : V 113 1 L (.int x :: st) h Q = if x = 0 then V 113 4 L st h Q else V 113 13 L st h Q := (V_ifc (by decide +kernel : decode (p_c 113) 1 = .ok (.ifCond .ne 12, 3)) (by decide)).trans i_ne
theorem e113_4 : V 113 4 [some (.ref a), l1, l2] st h Q = V 113 5 [some (.ref a), l1, l2] (.ref a :: st) h Q := V_nx (by decide +kernel : decode (p_c 113) 4 = .ok (.aload_n 0, 1)) rfl rfl
theorem e113_5 : V 113 5 L (.ref a :: st) h Q = (p_ok1 [12] 1 (p_get h a) ∧ V 113 8 L (p_fv 1 (p_get h a) :: st) h Q) := V_gf (t := (3, 1, "WaterShouldersModel")) (by decide +kernel : decode (p_c 113) 5 = .ok (.getfield 7, 3)) (by decide +kernel)
theorem e113_8 : V 113 8 [l0, some (.int x), l2] st h Q = V 113 9 [l0, some (.int x), l2] (.int x :: st) h Q := V_nx (by decide +kernel : decode (p_c 113) 8 = .ok (.iload_n 1, 1)) rfl rfl
theorem e113_9 : V 113 9 L (.int i :: .ref a :: st) h Q = (p_iok i (p_get h a) ∧ V 113 10 L (.int (p_ivl i (p_get h a)) :: st) h Q) := V_ial (by decide +kernel : decode (p_c 113) 9 = .ok (.iaload, 1))
theorem e113_10 : V 113 10 L st h Q = V 113 33 L st h Q := V_goto (by decide +kernel : decode (p_c 113) 10 = .ok (.goto 23, 3)) (by decide)
theorem e113_13 : V 113 13 [l0, l1, some (.int x)] st h Q = V 113 14 [l0, l1, some (.int x)] (.int x :: st) h Q := V_nx (by decide +kernel : decode (p_c 113) 13 = .ok (.iload_n 2, 1)) rfl rfl
theorem e113_14 : V 113 14 L st h Q = V 113 15 L (.int 1 :: st) h Q := V_c (by decide +kernel : decode (p_c 113) 14 = .ok (.iconst 1, 1)) (by decide)
theorem e113_15 : V 113 15 L (.int z :: .int x :: st) h Q = if x = z then V 113 18 L st h Q else V 113 27 L st h Q := (V_icmp (by decide +kernel : decode (p_c 113) 15 = .ok (.if_icmp .ne 12, 3)) (by decide)).trans i_ne
theorem e113_18 : V 113 18 [some (.ref a), l1, l2] st h Q = V 113 19 [some (.ref a), l1, l2] (.ref a :: st) h Q := V_nx (by decide +kernel : decode (p_c 113) 18 = .ok (.aload_n 0, 1)) rfl rfl
theorem e113_19 : V 113 19 L (.ref a :: st) h Q = (p_ok1 [12] 2 (p_get h a) ∧ V 113 22 L (p_fv 2 (p_get h a) :: st) h Q) := V_gf (t := (3, 1, "WaterShouldersModel")) (by decide +kernel : decode (p_c 113) 19 = .ok (.getfield 13, 3)) (by decide +kernel)
theorem e113_22 : V 113 22 [l0, some (.int x), l2] st h Q = V 113 23 [l0, some (.int x), l2] (.int x :: st) h Q := V_nx (by decide +kernel : decode (p_c 113) 22 = .ok (.iload_n 1, 1)) rfl rfl
theorem e113_23 : V 113 23 L (.int i :: .ref a :: st) h Q = (p_iok i (p_get h a) ∧ V 113 24 L (.int (p_ivl i (p_get h a)) :: st) h Q) := V_ial (by decide +kernel : decode (p_c 113) 23 = .ok (.iaload, 1))
theorem e113_24 : V 113 24 L st h Q = V 113 33 L st h Q := V_goto (by decide +kernel : decode (p_c 113) 24 = .ok (.goto 9, 3)) (by decide)
theorem e113_27 : V 113 27 [some (.ref a), l1, l2] st h Q = V 113 28 [some (.ref a), l1, l2] (.ref a :: st) h Q := V_nx (by decide +kernel : decode (p_c 113) 27 = .ok (.aload_n 0, 1)) rfl rfl
theorem e113_28 : V 113 28 L (.ref a :: st) h Q = (p_ok1 [12] 3 (p_get h a) ∧ V 113 31 L (p_fv 3 (p_get h a) :: st) h Q) := V_gf (t := (3, 1, "WaterShouldersModel")) (by decide +kernel : decode (p_c 113) 28 = .ok (.getfield 16, 3)) (by decide +kernel)
theorem e113_31 : V 113 31 [l0, some (.int x), l2] st h Q = V 113 32 [l0, some (.int x), l2] (.int x :: st) h Q := V_nx (by decide +kernel : decode (p_c 113) 31 = .ok (.iload_n 1, 1)) rfl rfl
theorem e113_32 : V 113 32 L (.int i :: .ref a :: st) h Q = (p_iok i (p_get h a) ∧ V 113 33 L (.int (p_ivl i (p_get h a)) :: st) h Q) := V_ial (by decide +kernel : decode (p_c 113) 32 = .ok (.iaload, 1))
theorem e113_33 : V 113 33 L [.int x] h Q = Q (some (.int x)) h := V_ri (by decide +kernel : decode (p_c 113) 33 = .ok (.ireturn, 1)) rfl
theorem m113 : Vm 113 [.ref a, .int x1, .int x2] h Q = V 113 0 [some (.ref a), some (.int x1), some (.int x2)] [] h Q := rfl
theorem e114_0 : V 114 0 [some (.ref a), l1, l2] st h Q = V 114 1 [some (.ref a), l1, l2] (.ref a :: st) h Q := V_nx (by decide +kernel : decode (p_c 114) 0 = .ok (.aload_n 0, 1)) rfl rfl
theorem e114_1 : V 114 1 [l0, some (.int x), l2] st h Q = V 114 2 [l0, some (.int x), l2] (.int x :: st) h Q := V_nx (by decide +kernel : decode (p_c 114) 1 = .ok (.iload_n 1, 1)) rfl rfl
theorem e114_2 : V 114 2 L (.int x1 :: .ref a :: st) h Q = ((p_cn1 (p_get h a) = 12 ∧ p_sm st) ∧ Vm 112 [.ref a, .int x1] h (Kt 114 5 L st Q)) := V_iv (n := 1) (as := [.int x1]) (ci := 12) (z := 112) (by decide +kernel : decode (p_c 114) 2 = .ok (.invokevirtual 119, 3)) (by decide +kernel) rfl rfl (by decide +kernel) rfl
theorem e114_5 : V 114 5 L (.int x :: st) h Q = if x = 0 then V 114 8 L st h Q else V 114 13 L st h Q := (V_ifc (by decide +kernel : decode (p_c 114) 5 = .ok (.ifCond .ne 8, 3)) (by decide)).trans i_ne
theorem e114_8 : V 114 8 L st h Q = V 114 10 L (.int (-101) :: st) h Q := V_b (by decide +kernel : decode (p_c 114) 8 = .ok (.bipush (-101), 2)) (by decide)
theorem e114_10 : V 114 10 L st h Q = V 114 33 L st h Q := V_goto (by decide +kernel : decode (p_c 114) 10 = .ok (.goto 23, 3)) (by decide)
theorem e114_13 : V 114 13 [l0, l1, some (.int x)] st h Q = V 114 14 [l0, l1, some (.int x)] (.int x :: st) h Q := V_nx (by decide +kernel : decode (p_c 114) 13 = .ok (.iload_n 2, 1)) rfl rfl
theorem e114_14 : V 114 14 L st h Q = V 114 15 L (.int 0 :: st) h Q := V_c (by decide +kernel : decode (p_c 114) 14 = .ok (.iconst 0, 1)) (by decide)
theorem e114_15 : V 114 15 L st h Q = V 114 16 L (.int 2 :: st) h Q := V_c (by decide +kernel : decode (p_c 114) 15 = .ok (.iconst 2, 1)) (by decide)
theorem e114_16 : V 114 16 L (.int x3 :: .int x2 :: .int x1 :: st) h Q = (p_sm st ∧ Vm 106 [.int x1, .int x2, .int x3] h (Kt 114 19 L st Q)) := V_st (n := 3) (as := [.int x3, .int x2, .int x1]) (z := 106) (by decide +kernel : decode (p_c 114) 16 = .ok (.invokestatic 90, 3)) (by decide +kernel) rfl (by decide +kernel) rfl
theorem e114_19 : V 114 19 L (.int x :: st) h Q = if x = 0 then V 114 31 L st h Q else V 114 22 L st h Q := (V_ifc (by decide +kernel : decode (p_c 114) 19 = .ok (.ifCond .eq 12, 3)) (by decide)).trans i_eq
theorem e114_22 : V 114 22 [some (.ref a), l1, l2] st h Q = V 114 23 [some (.ref a), l1, l2] (.ref a :: st) h Q := V_nx (by decide +kernel : decode (p_c 114) 22 = .ok (.aload_n 0, 1)) rfl rfl
theorem e114_23 : V 114 23 [l0, some (.int x), l2] st h Q = V 114 24 [l0, some (.int x), l2] (.int x :: st) h Q := V_nx (by decide +kernel : decode (p_c 114) 23 = .ok (.iload_n 1, 1)) rfl rfl
theorem e114_24 : V 114 24 [l0, l1, some (.int x)] st h Q = V 114 25 [l0, l1, some (.int x)] (.int x :: st) h Q := V_nx (by decide +kernel : decode (p_c 114) 24 = .ok (.iload_n 2, 1)) rfl rfl
theorem e114_25 : V 114 25 L (.int x2 :: .int x1 :: .ref a :: st) h Q = ((p_cn1 (p_get h a) = 12 ∧ p_sm st) ∧ Vm 113 [.ref a, .int x1, .int x2] h (Kt 114 28 L st Q)) := V_iv (n := 2) (as := [.int x2, .int x1]) (ci := 12) (z := 113) (by decide +kernel : decode (p_c 114) 25 = .ok (.invokevirtual 123, 3)) (by decide +kernel) rfl rfl (by decide +kernel) rfl
theorem e114_28 : V 114 28 L st h Q = V 114 33 L st h Q := V_goto (by decide +kernel : decode (p_c 114) 28 = .ok (.goto 5, 3)) (by decide)
theorem e114_31 : V 114 31 L st h Q = V 114 33 L (.int (-102) :: st) h Q := V_b (by decide +kernel : decode (p_c 114) 31 = .ok (.bipush (-102), 2)) (by decide)
theorem e114_33 : V 114 33 L [.int x] h Q = Q (some (.int x)) h := V_ri (by decide +kernel : decode (p_c 114) 33 = .ok (.ireturn, 1)) rfl
theorem m114 : Vm 114 [.ref a, .int x1, .int x2] h Q = V 114 0 [some (.ref a), some (.int x1), some (.int x2)] [] h Q := rfl
theorem e115_0 : V 115 0 [l0, some (.int x)] st h Q = V 115 1 [l0, some (.int x)] (.int x :: st) h Q := V_nx (by decide +kernel : decode (p_c 115) 0 = .ok (.iload_n 1, 1)) rfl rfl
theorem e115_1 : V 115 1 L st h Q = V 115 2 L (.int 0 :: st) h Q := V_c (by decide +kernel : decode (p_c 115) 1 = .ok (.iconst 0, 1)) (by decide)
theorem e115_2 : V 115 2 [some (.ref a), l1] st h Q = V 115 3 [some (.ref a), l1] (.ref a :: st) h Q := V_nx (by decide +kernel : decode (p_c 115) 2 = .ok (.aload_n 0, 1)) rfl rfl
theorem e115_3 : V 115 3 L (.ref a :: st) h Q = (p_ok1 [12] 6 (p_get h a) ∧ V 115 6 L (p_fv 6 (p_get h a) :: st) h Q) := V_gf (t := (0, 0, "WaterShouldersModel")) (by decide +kernel : decode (p_c 115) 3 = .ok (.getfield 113, 3)) (by decide +kernel)
theorem e115_6 : V 115 6 L st h Q = V 115 7 L (.int 1 :: st) h Q := V_c (by decide +kernel : decode (p_c 115) 6 = .ok (.iconst 1, 1)) (by decide)
theorem e115_7 : V 115 7 L (.int z :: .int x :: st) h Q = V 115 8 L (.int (x - z) :: st) h Q := V_nx (by decide +kernel : decode (p_c 115) 7 = .ok (.isub, 1)) rfl rfl
theorem e115_8 : V 115 8 L (.int x3 :: .int x2 :: .int x1 :: st) h Q = (p_sm st ∧ Vm 106 [.int x1, .int x2, .int x3] h (Kt 115 11 L st Q)) := V_st (n := 3) (as := [.int x3, .int x2, .int x1]) (z := 106) (by decide +kernel : decode (p_c 115) 8 = .ok (.invokestatic 90, 3)) (by decide +kernel) rfl (by decide +kernel) rfl
theorem e115_11 : V 115 11 L [.int x] h Q = ((x = 0 ∨ x = 1) ∧ Q (some (.int x)) h) := V_rz (by decide +kernel : decode (p_c 115) 11 = .ok (.ireturn, 1)) rfl
theorem m115 : Vm 115 [.ref a, .int x1] h Q = V 115 0 [some (.ref a), some (.int x1)] [] h Q := rfl
theorem e116_0 : V 116 0 [some (.int x)] st h Q = V 116 1 [some (.int x)] (.int x :: st) h Q := V_nx (by decide +kernel : decode (p_c 116) 0 = .ok (.iload_n 0, 1)) rfl rfl
theorem e116_1 : V 116 1 L st h Q = V 116 2 L (.int 3 :: st) h Q := V_c (by decide +kernel : decode (p_c 116) 1 = .ok (.iconst 3, 1)) (by decide)
theorem e116_2 : V 116 2 L (.int z :: .int x :: st) h Q = if x = z then V 116 10 L st h Q else V 116 5 L st h Q := (V_icmp (by decide +kernel : decode (p_c 116) 2 = .ok (.if_icmp .eq 8, 3)) (by decide)).trans i_eq
theorem e116_5 : V 116 5 [some (.int x)] st h Q = V 116 6 [some (.int x)] (.int x :: st) h Q := V_nx (by decide +kernel : decode (p_c 116) 5 = .ok (.iload_n 0, 1)) rfl rfl
theorem e116_6 : V 116 6 L st h Q = V 116 7 L (.int 4 :: st) h Q := V_c (by decide +kernel : decode (p_c 116) 6 = .ok (.iconst 4, 1)) (by decide)
theorem e116_7 : V 116 7 L (.int z :: .int x :: st) h Q = if x = z then V 116 10 L st h Q else V 116 14 L st h Q := (V_icmp (by decide +kernel : decode (p_c 116) 7 = .ok (.if_icmp .ne 7, 3)) (by decide)).trans i_ne
theorem e116_10 : V 116 10 L st h Q = V 116 11 L (.int 1 :: st) h Q := V_c (by decide +kernel : decode (p_c 116) 10 = .ok (.iconst 1, 1)) (by decide)
theorem e116_11 : V 116 11 L st h Q = V 116 15 L st h Q := V_goto (by decide +kernel : decode (p_c 116) 11 = .ok (.goto 4, 3)) (by decide)
theorem e116_14 : V 116 14 L st h Q = V 116 15 L (.int 0 :: st) h Q := V_c (by decide +kernel : decode (p_c 116) 14 = .ok (.iconst 0, 1)) (by decide)
theorem e116_15 : V 116 15 L [.int x] h Q = ((x = 0 ∨ x = 1) ∧ Q (some (.int x)) h) := V_rz (by decide +kernel : decode (p_c 116) 15 = .ok (.ireturn, 1)) rfl
theorem m116 : Vm 116 [.int x1] h Q = V 116 0 [some (.int x1)] [] h Q := rfl
theorem e117_0 : V 117 0 [l0, some (.int x), l2, l3, l4] st h Q = V 117 1 [l0, some (.int x), l2, l3, l4] (.int x :: st) h Q := V_nx (by decide +kernel : decode (p_c 117) 0 = .ok (.iload_n 1, 1)) rfl rfl
theorem e117_1 : V 117 1 L (.int x1 :: st) h Q = (p_sm st ∧ Vm 116 [.int x1] h (Kt 117 4 L st Q)) := V_st (n := 1) (as := [.int x1]) (z := 116) (by decide +kernel : decode (p_c 117) 1 = .ok (.invokestatic 127, 3)) (by decide +kernel) rfl (by decide +kernel) rfl
theorem e117_4 : V 117 4 [l0, l1, l2, l3, l4] (.int x :: st) h Q = V 117 6 [l0, l1, l2, p_dl l3, some (.int x)] st h Q := V_nx (by decide +kernel : decode (p_c 117) 4 = .ok (.istore 4, 2)) rfl rfl
theorem e117_6 : V 117 6 [l0, some (.int x), l2, l3, l4] st h Q = V 117 7 [l0, some (.int x), l2, l3, l4] (.int x :: st) h Q := V_nx (by decide +kernel : decode (p_c 117) 6 = .ok (.iload_n 1, 1)) rfl rfl
theorem e117_7 : V 117 7 L st h Q = V 117 8 L (.int 0 :: st) h Q := V_c (by decide +kernel : decode (p_c 117) 7 = .ok (.iconst 0, 1)) (by decide)
theorem e117_8 : V 117 8 L st h Q = V 117 9 L (.int 4 :: st) h Q := V_c (by decide +kernel : decode (p_c 117) 8 = .ok (.iconst 4, 1)) (by decide)
theorem e117_9 : V 117 9 L (.int x3 :: .int x2 :: .int x1 :: st) h Q = (p_sm st ∧ Vm 106 [.int x1, .int x2, .int x3] h (Kt 117 12 L st Q)) := V_st (n := 3) (as := [.int x3, .int x2, .int x1]) (z := 106) (by decide +kernel : decode (p_c 117) 9 = .ok (.invokestatic 90, 3)) (by decide +kernel) rfl (by decide +kernel) rfl
theorem e117_12 : V 117 12 L (.int x :: st) h Q = if x = 0 then V 117 51 L st h Q else V 117 15 L st h Q := (V_ifc (by decide +kernel : decode (p_c 117) 12 = .ok (.ifCond .eq 39, 3)) (by decide)).trans i_eq
theorem e117_15 : V 117 15 [l0, l1, some (.int x), l3, l4] st h Q = V 117 16 [l0, l1, some (.int x), l3, l4] (.int x :: st) h Q := V_nx (by decide +kernel : decode (p_c 117) 15 = .ok (.iload_n 2, 1)) rfl rfl
theorem e117_16 : V 117 16 L st h Q = V 117 17 L (.int 0 :: st) h Q := V_c (by decide +kernel : decode (p_c 117) 16 = .ok (.iconst 0, 1)) (by decide)
theorem e117_17 : V 117 17 L st h Q = V 117 18 L (.int 5 :: st) h Q := V_c (by decide +kernel : decode (p_c 117) 17 = .ok (.iconst 5, 1)) (by decide)
theorem e117_18 : V 117 18 L (.int x3 :: .int x2 :: .int x1 :: st) h Q = (p_sm st ∧ Vm 106 [.int x1, .int x2, .int x3] h (Kt 117 21 L st Q)) := V_st (n := 3) (as := [.int x3, .int x2, .int x1]) (z := 106) (by decide +kernel : decode (p_c 117) 18 = .ok (.invokestatic 90, 3)) (by decide +kernel) rfl (by decide +kernel) rfl
theorem e117_21 : V 117 21 L (.int x :: st) h Q = if x = 0 then V 117 51 L st h Q else V 117 24 L st h Q := (V_ifc (by decide +kernel : decode (p_c 117) 21 = .ok (.ifCond .eq 30, 3)) (by decide)).trans i_eq
theorem e117_24 : V 117 24 [l0, l1, l2, some (.int x), l4] st h Q = V 117 25 [l0, l1, l2, some (.int x), l4] (.int x :: st) h Q := V_nx (by decide +kernel : decode (p_c 117) 24 = .ok (.iload_n 3, 1)) rfl rfl
theorem e117_25 : V 117 25 [l0, l1, l2, l3, some (.int x)] st h Q = V 117 27 [l0, l1, l2, l3, some (.int x)] (.int x :: st) h Q := V_nx (by decide +kernel : decode (p_c 117) 25 = .ok (.iload 4, 2)) rfl rfl
theorem e117_27 : V 117 27 L (.int x :: st) h Q = if x = 0 then V 117 34 L st h Q else V 117 30 L st h Q := (V_ifc (by decide +kernel : decode (p_c 117) 27 = .ok (.ifCond .eq 7, 3)) (by decide)).trans i_eq
theorem e117_30 : V 117 30 L st h Q = V 117 31 L (.int 1 :: st) h Q := V_c (by decide +kernel : decode (p_c 117) 30 = .ok (.iconst 1, 1)) (by decide)
theorem e117_31 : V 117 31 L st h Q = V 117 35 L st h Q := V_goto (by decide +kernel : decode (p_c 117) 31 = .ok (.goto 4, 3)) (by decide)
theorem e117_34 : V 117 34 L st h Q = V 117 35 L (.int 0 :: st) h Q := V_c (by decide +kernel : decode (p_c 117) 34 = .ok (.iconst 0, 1)) (by decide)
theorem e117_35 : V 117 35 [l0, l1, l2, l3, some (.int x)] st h Q = V 117 37 [l0, l1, l2, l3, some (.int x)] (.int x :: st) h Q := V_nx (by decide +kernel : decode (p_c 117) 35 = .ok (.iload 4, 2)) rfl rfl
theorem e117_37 : V 117 37 L (.int x :: st) h Q = if x = 0 then V 117 44 L st h Q else V 117 40 L st h Q := (V_ifc (by decide +kernel : decode (p_c 117) 37 = .ok (.ifCond .eq 7, 3)) (by decide)).trans i_eq
theorem e117_40 : V 117 40 L st h Q = V 117 41 L (.int 3 :: st) h Q := V_c (by decide +kernel : decode (p_c 117) 40 = .ok (.iconst 3, 1)) (by decide)
theorem e117_41 : V 117 41 L st h Q = V 117 45 L st h Q := V_goto (by decide +kernel : decode (p_c 117) 41 = .ok (.goto 4, 3)) (by decide)
theorem e117_44 : V 117 44 L st h Q = V 117 45 L (.int 0 :: st) h Q := V_c (by decide +kernel : decode (p_c 117) 44 = .ok (.iconst 0, 1)) (by decide)
theorem e117_45 : V 117 45 L (.int x3 :: .int x2 :: .int x1 :: st) h Q = (p_sm st ∧ Vm 106 [.int x1, .int x2, .int x3] h (Kt 117 48 L st Q)) := V_st (n := 3) (as := [.int x3, .int x2, .int x1]) (z := 106) (by decide +kernel : decode (p_c 117) 45 = .ok (.invokestatic 90, 3)) (by decide +kernel) rfl (by decide +kernel) rfl
theorem e117_48 : V 117 48 L (.int x :: st) h Q = if x = 0 then V 117 51 L st h Q else V 117 54 L st h Q := (V_ifc (by decide +kernel : decode (p_c 117) 48 = .ok (.ifCond .ne 6, 3)) (by decide)).trans i_ne
theorem e117_51 : V 117 51 L st h Q = V 117 53 L (.int (-102) :: st) h Q := V_b (by decide +kernel : decode (p_c 117) 51 = .ok (.bipush (-102), 2)) (by decide)
theorem e117_53 : V 117 53 L [.int x] h Q = Q (some (.int x)) h := V_ri (by decide +kernel : decode (p_c 117) 53 = .ok (.ireturn, 1)) rfl
theorem e117_54 : V 117 54 [some (.ref a), l1, l2, l3, l4] st h Q = V 117 55 [some (.ref a), l1, l2, l3, l4] (.ref a :: st) h Q := V_nx (by decide +kernel : decode (p_c 117) 54 = .ok (.aload_n 0, 1)) rfl rfl
theorem e117_55 : V 117 55 L (.ref a :: st) h Q = (p_ok1 [12] 0 (p_get h a) ∧ V 117 58 L (p_fv 0 (p_get h a) :: st) h Q) := V_gf (t := (0, 0, "WaterShouldersModel")) (by decide +kernel : decode (p_c 117) 55 = .ok (.getfield 104, 3)) (by decide +kernel)
theorem e117_58 : V 117 58 L (.int x :: st) h Q = if x = 0 then V 117 61 L st h Q else V 117 64 L st h Q := (V_ifc (by decide +kernel : decode (p_c 117) 58 = .ok (.ifCond .ne 6, 3)) (by decide)).trans i_ne
theorem e117_61 : V 117 61 L st h Q = V 117 63 L (.int (-103) :: st) h Q := V_b (by decide +kernel : decode (p_c 117) 61 = .ok (.bipush (-103), 2)) (by decide)
theorem e117_63 : V 117 63 L [.int x] h Q = Q (some (.int x)) h := V_ri (by decide +kernel : decode (p_c 117) 63 = .ok (.ireturn, 1)) rfl
theorem e117_64 : V 117 64 [some (.ref a), l1, l2, l3, l4] st h Q = V 117 65 [some (.ref a), l1, l2, l3, l4] (.ref a :: st) h Q := V_nx (by decide +kernel : decode (p_c 117) 64 = .ok (.aload_n 0, 1)) rfl rfl
theorem e117_65 : V 117 65 L (.ref a :: st) h Q = (p_ok1 [12] 6 (p_get h a) ∧ V 117 68 L (p_fv 6 (p_get h a) :: st) h Q) := V_gf (t := (0, 0, "WaterShouldersModel")) (by decide +kernel : decode (p_c 117) 65 = .ok (.getfield 113, 3)) (by decide +kernel)
theorem e117_68 : V 117 68 L st h Q = V 117 69 L (.int 5 :: st) h Q := V_c (by decide +kernel : decode (p_c 117) 68 = .ok (.iconst 5, 1)) (by decide)
theorem e117_69 : V 117 69 L (.int z :: .int x :: st) h Q = if x = z then V 117 72 L st h Q else V 117 75 L st h Q := (V_icmp (by decide +kernel : decode (p_c 117) 69 = .ok (.if_icmp .ne 6, 3)) (by decide)).trans i_ne
theorem e117_72 : V 117 72 L st h Q = V 117 74 L (.int (-104) :: st) h Q := V_b (by decide +kernel : decode (p_c 117) 72 = .ok (.bipush (-104), 2)) (by decide)
theorem e117_74 : V 117 74 L [.int x] h Q = Q (some (.int x)) h := V_ri (by decide +kernel : decode (p_c 117) 74 = .ok (.ireturn, 1)) rfl
theorem e117_75 : V 117 75 [some (.ref a), l1, l2, l3, l4] st h Q = V 117 76 [some (.ref a), l1, l2, l3, l4] (.ref a :: st) h Q := V_nx (by decide +kernel : decode (p_c 117) 75 = .ok (.aload_n 0, 1)) rfl rfl
theorem e117_76 : V 117 76 L (.ref a :: st) h Q = (p_ok1 [12] 7 (p_get h a) ∧ V 117 79 L (p_fv 7 (p_get h a) :: st) h Q) := V_gf (t := (3, 1, "WaterShouldersModel")) (by decide +kernel : decode (p_c 117) 76 = .ok (.getfield 19, 3)) (by decide +kernel)
theorem e117_79 : V 117 79 [some (.ref a), l1, l2, l3, l4] st h Q = V 117 80 [some (.ref a), l1, l2, l3, l4] (.ref a :: st) h Q := V_nx (by decide +kernel : decode (p_c 117) 79 = .ok (.aload_n 0, 1)) rfl rfl
theorem e117_80 : V 117 80 L (.ref a :: st) h Q = (p_ok1 [12] 6 (p_get h a) ∧ V 117 83 L (p_fv 6 (p_get h a) :: st) h Q) := V_gf (t := (0, 0, "WaterShouldersModel")) (by decide +kernel : decode (p_c 117) 80 = .ok (.getfield 113, 3)) (by decide +kernel)
theorem e117_83 : V 117 83 [l0, some (.int x), l2, l3, l4] st h Q = V 117 84 [l0, some (.int x), l2, l3, l4] (.int x :: st) h Q := V_nx (by decide +kernel : decode (p_c 117) 83 = .ok (.iload_n 1, 1)) rfl rfl
theorem e117_84 : V 117 84 L (.int x :: .int i :: .ref a :: st) h Q = (p_sok i (p_get h a) ∧ V 117 85 L st (p_set h a (p_ist i x (p_get h a))) Q) := V_ias (by decide +kernel : decode (p_c 117) 84 = .ok (.iastore, 1))
theorem e117_85 : V 117 85 [some (.ref a), l1, l2, l3, l4] st h Q = V 117 86 [some (.ref a), l1, l2, l3, l4] (.ref a :: st) h Q := V_nx (by decide +kernel : decode (p_c 117) 85 = .ok (.aload_n 0, 1)) rfl rfl
theorem e117_86 : V 117 86 L (.ref a :: st) h Q = (p_ok1 [12] 8 (p_get h a) ∧ V 117 89 L (p_fv 8 (p_get h a) :: st) h Q) := V_gf (t := (3, 1, "WaterShouldersModel")) (by decide +kernel : decode (p_c 117) 86 = .ok (.getfield 22, 3)) (by decide +kernel)
theorem e117_89 : V 117 89 [some (.ref a), l1, l2, l3, l4] st h Q = V 117 90 [some (.ref a), l1, l2, l3, l4] (.ref a :: st) h Q := V_nx (by decide +kernel : decode (p_c 117) 89 = .ok (.aload_n 0, 1)) rfl rfl
theorem e117_90 : V 117 90 L (.ref a :: st) h Q = (p_ok1 [12] 6 (p_get h a) ∧ V 117 93 L (p_fv 6 (p_get h a) :: st) h Q) := V_gf (t := (0, 0, "WaterShouldersModel")) (by decide +kernel : decode (p_c 117) 90 = .ok (.getfield 113, 3)) (by decide +kernel)
theorem e117_93 : V 117 93 [l0, l1, some (.int x), l3, l4] st h Q = V 117 94 [l0, l1, some (.int x), l3, l4] (.int x :: st) h Q := V_nx (by decide +kernel : decode (p_c 117) 93 = .ok (.iload_n 2, 1)) rfl rfl
theorem e117_94 : V 117 94 L (.int x :: .int i :: .ref a :: st) h Q = (p_sok i (p_get h a) ∧ V 117 95 L st (p_set h a (p_ist i x (p_get h a))) Q) := V_ias (by decide +kernel : decode (p_c 117) 94 = .ok (.iastore, 1))
theorem e117_95 : V 117 95 [some (.ref a), l1, l2, l3, l4] st h Q = V 117 96 [some (.ref a), l1, l2, l3, l4] (.ref a :: st) h Q := V_nx (by decide +kernel : decode (p_c 117) 95 = .ok (.aload_n 0, 1)) rfl rfl
theorem e117_96 : V 117 96 L (.ref a :: st) h Q = (p_ok1 [12] 9 (p_get h a) ∧ V 117 99 L (p_fv 9 (p_get h a) :: st) h Q) := V_gf (t := (3, 1, "WaterShouldersModel")) (by decide +kernel : decode (p_c 117) 96 = .ok (.getfield 25, 3)) (by decide +kernel)
theorem e117_99 : V 117 99 [some (.ref a), l1, l2, l3, l4] st h Q = V 117 100 [some (.ref a), l1, l2, l3, l4] (.ref a :: st) h Q := V_nx (by decide +kernel : decode (p_c 117) 99 = .ok (.aload_n 0, 1)) rfl rfl
theorem e117_100 : V 117 100 L (.ref a :: st) h Q = (p_ok1 [12] 6 (p_get h a) ∧ V 117 103 L (p_fv 6 (p_get h a) :: st) h Q) := V_gf (t := (0, 0, "WaterShouldersModel")) (by decide +kernel : decode (p_c 117) 100 = .ok (.getfield 113, 3)) (by decide +kernel)
theorem e117_103 : V 117 103 [l0, l1, l2, some (.int x), l4] st h Q = V 117 104 [l0, l1, l2, some (.int x), l4] (.int x :: st) h Q := V_nx (by decide +kernel : decode (p_c 117) 103 = .ok (.iload_n 3, 1)) rfl rfl
theorem e117_104 : V 117 104 L (.int x :: .int i :: .ref a :: st) h Q = (p_sok i (p_get h a) ∧ V 117 105 L st (p_set h a (p_ist i x (p_get h a))) Q) := V_ias (by decide +kernel : decode (p_c 117) 104 = .ok (.iastore, 1))
theorem e117_105 : V 117 105 [some (.ref a), l1, l2, l3, l4] st h Q = V 117 106 [some (.ref a), l1, l2, l3, l4] (.ref a :: st) h Q := V_nx (by decide +kernel : decode (p_c 117) 105 = .ok (.aload_n 0, 1)) rfl rfl
theorem e117_106 : V 117 106 L (.ref a :: st) h Q = (p_ok1 [12] 10 (p_get h a) ∧ V 117 109 L (p_fv 10 (p_get h a) :: st) h Q) := V_gf (t := (3, 1, "WaterShouldersModel")) (by decide +kernel : decode (p_c 117) 106 = .ok (.getfield 28, 3)) (by decide +kernel)
theorem e117_109 : V 117 109 [some (.ref a), l1, l2, l3, l4] st h Q = V 117 110 [some (.ref a), l1, l2, l3, l4] (.ref a :: st) h Q := V_nx (by decide +kernel : decode (p_c 117) 109 = .ok (.aload_n 0, 1)) rfl rfl
theorem e117_110 : V 117 110 L (.ref a :: st) h Q = (p_ok1 [12] 6 (p_get h a) ∧ V 117 113 L (p_fv 6 (p_get h a) :: st) h Q) := V_gf (t := (0, 0, "WaterShouldersModel")) (by decide +kernel : decode (p_c 117) 110 = .ok (.getfield 113, 3)) (by decide +kernel)
theorem e117_113 : V 117 113 L st h Q = V 117 114 L (.int 0 :: st) h Q := V_c (by decide +kernel : decode (p_c 117) 113 = .ok (.iconst 0, 1)) (by decide)
theorem e117_114 : V 117 114 L (.int x :: .int i :: .ref a :: st) h Q = (p_sok i (p_get h a) ∧ V 117 115 L st (p_set h a (p_ist i x (p_get h a))) Q) := V_ias (by decide +kernel : decode (p_c 117) 114 = .ok (.iastore, 1))
theorem e117_115 : V 117 115 [some (.ref a), l1, l2, l3, l4] st h Q = V 117 116 [some (.ref a), l1, l2, l3, l4] (.ref a :: st) h Q := V_nx (by decide +kernel : decode (p_c 117) 115 = .ok (.aload_n 0, 1)) rfl rfl
theorem e117_116 : V 117 116 L (.ref a :: st) h Q = (p_ok1 [12] 11 (p_get h a) ∧ V 117 119 L (p_fv 11 (p_get h a) :: st) h Q) := V_gf (t := (3, 1, "WaterShouldersModel")) (by decide +kernel : decode (p_c 117) 116 = .ok (.getfield 31, 3)) (by decide +kernel)
theorem e117_119 : V 117 119 [some (.ref a), l1, l2, l3, l4] st h Q = V 117 120 [some (.ref a), l1, l2, l3, l4] (.ref a :: st) h Q := V_nx (by decide +kernel : decode (p_c 117) 119 = .ok (.aload_n 0, 1)) rfl rfl
theorem e117_120 : V 117 120 L (.ref a :: st) h Q = (p_ok1 [12] 6 (p_get h a) ∧ V 117 123 L (p_fv 6 (p_get h a) :: st) h Q) := V_gf (t := (0, 0, "WaterShouldersModel")) (by decide +kernel : decode (p_c 117) 120 = .ok (.getfield 113, 3)) (by decide +kernel)
theorem e117_123 : V 117 123 L st h Q = V 117 124 L (.int 0 :: st) h Q := V_c (by decide +kernel : decode (p_c 117) 123 = .ok (.iconst 0, 1)) (by decide)
theorem e117_124 : V 117 124 L (.int x :: .int i :: .ref a :: st) h Q = (p_sok i (p_get h a) ∧ V 117 125 L st (p_set h a (p_ist i x (p_get h a))) Q) := V_ias (by decide +kernel : decode (p_c 117) 124 = .ok (.iastore, 1))
theorem e117_125 : V 117 125 [some (.ref a), l1, l2, l3, l4] st h Q = V 117 126 [some (.ref a), l1, l2, l3, l4] (.ref a :: st) h Q := V_nx (by decide +kernel : decode (p_c 117) 125 = .ok (.aload_n 0, 1)) rfl rfl
theorem e117_126 : V 117 126 L (.ref a :: st) h Q = V 117 127 L (.ref a :: .ref a :: st) h Q := V_dup (by decide +kernel : decode (p_c 117) 126 = .ok (.dup, 1)) rfl
theorem e117_126i : V 117 126 L (.int x :: st) h Q = V 117 127 L (.int x :: .int x :: st) h Q := V_dup (by decide +kernel : decode (p_c 117) 126 = .ok (.dup, 1)) rfl
theorem e117_127 : V 117 127 L (.ref a :: st) h Q = (p_ok1 [12] 6 (p_get h a) ∧ V 117 130 L (p_fv 6 (p_get h a) :: st) h Q) := V_gf (t := (0, 0, "WaterShouldersModel")) (by decide +kernel : decode (p_c 117) 127 = .ok (.getfield 113, 3)) (by decide +kernel)
theorem e117_130 : V 117 130 L st h Q = V 117 131 L (.int 1 :: st) h Q := V_c (by decide +kernel : decode (p_c 117) 130 = .ok (.iconst 1, 1)) (by decide)
theorem e117_131 : V 117 131 L (.int z :: .int x :: st) h Q = V 117 132 L (.int (x + z) :: st) h Q := V_nx (by decide +kernel : decode (p_c 117) 131 = .ok (.iadd, 1)) rfl rfl
theorem e117_132 : V 117 132 L (.int x :: .ref a :: st) h Q = (p_ok1 [12] 6 (p_get h a) ∧ V 117 135 L st (p_set h a (p_fs 6 (.int x) (p_get h a))) Q) := V_pf0 (fin := 0) (ref := "WaterShouldersModel") (by decide +kernel : decode (p_c 117) 132 = .ok (.putfield 113, 3)) (by decide +kernel) (by decide +kernel)
theorem e117_135 : V 117 135 [some (.ref a), l1, l2, l3, l4] st h Q = V 117 136 [some (.ref a), l1, l2, l3, l4] (.ref a :: st) h Q := V_nx (by decide +kernel : decode (p_c 117) 135 = .ok (.aload_n 0, 1)) rfl rfl
theorem e117_136 : V 117 136 L (.ref a :: st) h Q = (p_ok1 [12] 6 (p_get h a) ∧ V 117 139 L (p_fv 6 (p_get h a) :: st) h Q) := V_gf (t := (0, 0, "WaterShouldersModel")) (by decide +kernel : decode (p_c 117) 136 = .ok (.getfield 113, 3)) (by decide +kernel)
theorem e117_139 : V 117 139 L st h Q = V 117 140 L (.int 1 :: st) h Q := V_c (by decide +kernel : decode (p_c 117) 139 = .ok (.iconst 1, 1)) (by decide)
theorem e117_140 : V 117 140 L (.int z :: .int x :: st) h Q = V 117 141 L (.int (x - z) :: st) h Q := V_nx (by decide +kernel : decode (p_c 117) 140 = .ok (.isub, 1)) rfl rfl
theorem e117_141 : V 117 141 L [.int x] h Q = Q (some (.int x)) h := V_ri (by decide +kernel : decode (p_c 117) 141 = .ok (.ireturn, 1)) rfl
theorem m117 : Vm 117 [.ref a, .int x1, .int x2, .int x3] h Q = V 117 0 [some (.ref a), some (.int x1), some (.int x2), some (.int x3), none] [] h Q := rfl
theorem e118_0 : V 118 0 [some (.ref a), l1, l2] st h Q = V 118 1 [some (.ref a), l1, l2] (.ref a :: st) h Q := V_nx (by decide +kernel : decode (p_c 118) 0 = .ok (.aload_n 0, 1)) rfl rfl
theorem e118_1 : V 118 1 L (.ref a :: st) h Q = (p_ok1 [12] 8 (p_get h a) ∧ V 118 4 L (p_fv 8 (p_get h a) :: st) h Q) := V_gf (t := (3, 1, "WaterShouldersModel")) (by decide +kernel : decode (p_c 118) 1 = .ok (.getfield 22, 3)) (by decide +kernel)
theorem e118_4 : V 118 4 [l0, some (.int x), l2] st h Q = V 118 5 [l0, some (.int x), l2] (.int x :: st) h Q := V_nx (by decide +kernel : decode (p_c 118) 4 = .ok (.iload_n 1, 1)) rfl rfl
theorem e118_5 : V 118 5 L (.int i :: .ref a :: st) h Q = (p_iok i (p_get h a) ∧ V 118 6 L (.int (p_ivl i (p_get h a)) :: st) h Q) := V_ial (by decide +kernel : decode (p_c 118) 5 = .ok (.iaload, 1))
theorem e118_6 : V 118 6 [l0, l1, l2] (.int x :: st) h Q = V 118 7 [l0, p_dl l1, some (.int x)] st h Q := V_nx (by decide +kernel : decode (p_c 118) 6 = .ok (.istore_n 2, 1)) rfl rfl
theorem e118_7 : V 118 7 [some (.ref a), l1, l2] st h Q = V 118 8 [some (.ref a), l1, l2] (.ref a :: st) h Q := V_nx (by decide +kernel : decode (p_c 118) 7 = .ok (.aload_n 0, 1)) rfl rfl
theorem e118_8 : V 118 8 L (.ref a :: st) h Q = (p_ok1 [12] 7 (p_get h a) ∧ V 118 11 L (p_fv 7 (p_get h a) :: st) h Q) := V_gf (t := (3, 1, "WaterShouldersModel")) (by decide +kernel : decode (p_c 118) 8 = .ok (.getfield 19, 3)) (by decide +kernel)
theorem e118_11 : V 118 11 [l0, some (.int x), l2] st h Q = V 118 12 [l0, some (.int x), l2] (.int x :: st) h Q := V_nx (by decide +kernel : decode (p_c 118) 11 = .ok (.iload_n 1, 1)) rfl rfl
theorem e118_12 : V 118 12 L (.int i :: .ref a :: st) h Q = (p_iok i (p_get h a) ∧ V 118 13 L (.int (p_ivl i (p_get h a)) :: st) h Q) := V_ial (by decide +kernel : decode (p_c 118) 12 = .ok (.iaload, 1))
theorem e118_13 : V 118 13 L st h Q = V 118 14 L (.int 1 :: st) h Q := V_c (by decide +kernel : decode (p_c 118) 13 = .ok (.iconst 1, 1)) (by decide)
theorem e118_14 : V 118 14 L (.int z :: .int x :: st) h Q = if x = z then V 118 17 L st h Q else V 118 25 L st h Q := (V_icmp (by decide +kernel : decode (p_c 118) 14 = .ok (.if_icmp .ne 11, 3)) (by decide)).trans i_ne
theorem e118_17 : V 118 17 [l0, l1, some (.int x)] st h Q = V 118 18 [l0, l1, some (.int x)] (.int x :: st) h Q := V_nx (by decide +kernel : decode (p_c 118) 17 = .ok (.iload_n 2, 1)) rfl rfl
theorem e118_18 : V 118 18 L st h Q = V 118 19 L (.int 1 :: st) h Q := V_c (by decide +kernel : decode (p_c 118) 18 = .ok (.iconst 1, 1)) (by decide)
theorem e118_19 : V 118 19 L (.int z :: .int x :: st) h Q = V 118 20 L (.int (x + z) :: st) h Q := V_nx (by decide +kernel : decode (p_c 118) 19 = .ok (.iadd, 1)) rfl rfl
theorem e118_20 : V 118 20 L st h Q = V 118 21 L (.int 2 :: st) h Q := V_c (by decide +kernel : decode (p_c 118) 20 = .ok (.iconst 2, 1)) (by decide)
theorem e118_21 : V 118 21 L (.int z :: .int x :: st) h Q = (¬ z = 0 ∧ V 118 22 L (.int (x / z) :: st) h Q) := V_idiv (by decide +kernel : decode (p_c 118) 21 = .ok (.idiv, 1))
theorem e118_22 : V 118 22 L st h Q = V 118 42 L st h Q := V_goto (by decide +kernel : decode (p_c 118) 22 = .ok (.goto 20, 3)) (by decide)
theorem e118_25 : V 118 25 [some (.ref a), l1, l2] st h Q = V 118 26 [some (.ref a), l1, l2] (.ref a :: st) h Q := V_nx (by decide +kernel : decode (p_c 118) 25 = .ok (.aload_n 0, 1)) rfl rfl
theorem e118_26 : V 118 26 L (.ref a :: st) h Q = (p_ok1 [12] 7 (p_get h a) ∧ V 118 29 L (p_fv 7 (p_get h a) :: st) h Q) := V_gf (t := (3, 1, "WaterShouldersModel")) (by decide +kernel : decode (p_c 118) 26 = .ok (.getfield 19, 3)) (by decide +kernel)
theorem e118_29 : V 118 29 [l0, some (.int x), l2] st h Q = V 118 30 [l0, some (.int x), l2] (.int x :: st) h Q := V_nx (by decide +kernel : decode (p_c 118) 29 = .ok (.iload_n 1, 1)) rfl rfl
theorem e118_30 : V 118 30 L (.int i :: .ref a :: st) h Q = (p_iok i (p_get h a) ∧ V 118 31 L (.int (p_ivl i (p_get h a)) :: st) h Q) := V_ial (by decide +kernel : decode (p_c 118) 30 = .ok (.iaload, 1))
theorem e118_31 : V 118 31 L st h Q = V 118 32 L (.int 2 :: st) h Q := V_c (by decide +kernel : decode (p_c 118) 31 = .ok (.iconst 2, 1)) (by decide)
theorem e118_32 : V 118 32 L (.int z :: .int x :: st) h Q = if x = z then V 118 35 L st h Q else V 118 41 L st h Q := (V_icmp (by decide +kernel : decode (p_c 118) 32 = .ok (.if_icmp .ne 9, 3)) (by decide)).trans i_ne
theorem e118_35 : V 118 35 [l0, l1, some (.int x)] st h Q = V 118 36 [l0, l1, some (.int x)] (.int x :: st) h Q := V_nx (by decide +kernel : decode (p_c 118) 35 = .ok (.iload_n 2, 1)) rfl rfl
theorem e118_36 : V 118 36 L st h Q = V 118 37 L (.int 1 :: st) h Q := V_c (by decide +kernel : decode (p_c 118) 36 = .ok (.iconst 1, 1)) (by decide)
theorem e118_37 : V 118 37 L (.int z :: .int x :: st) h Q = V 118 38 L (.int (x + z) :: st) h Q := V_nx (by decide +kernel : decode (p_c 118) 37 = .ok (.iadd, 1)) rfl rfl
theorem e118_38 : V 118 38 L st h Q = V 118 42 L st h Q := V_goto (by decide +kernel : decode (p_c 118) 38 = .ok (.goto 4, 3)) (by decide)
theorem e118_41 : V 118 41 [l0, l1, some (.int x)] st h Q = V 118 42 [l0, l1, some (.int x)] (.int x :: st) h Q := V_nx (by decide +kernel : decode (p_c 118) 41 = .ok (.iload_n 2, 1)) rfl rfl
theorem e118_42 : V 118 42 L [.int x] h Q = Q (some (.int x)) h := V_ri (by decide +kernel : decode (p_c 118) 42 = .ok (.ireturn, 1)) rfl
theorem m118 : Vm 118 [.ref a, .int x1] h Q = V 118 0 [some (.ref a), some (.int x1), none] [] h Q := rfl
theorem e119_0 : V 119 0 [some (.ref a), l1] st h Q = V 119 1 [some (.ref a), l1] (.ref a :: st) h Q := V_nx (by decide +kernel : decode (p_c 119) 0 = .ok (.aload_n 0, 1)) rfl rfl
theorem e119_1 : V 119 1 L (.ref a :: st) h Q = (p_ok1 [12] 7 (p_get h a) ∧ V 119 4 L (p_fv 7 (p_get h a) :: st) h Q) := V_gf (t := (3, 1, "WaterShouldersModel")) (by decide +kernel : decode (p_c 119) 1 = .ok (.getfield 19, 3)) (by decide +kernel)
theorem e119_4 : V 119 4 [l0, some (.int x)] st h Q = V 119 5 [l0, some (.int x)] (.int x :: st) h Q := V_nx (by decide +kernel : decode (p_c 119) 4 = .ok (.iload_n 1, 1)) rfl rfl
theorem e119_5 : V 119 5 L (.int i :: .ref a :: st) h Q = (p_iok i (p_get h a) ∧ V 119 6 L (.int (p_ivl i (p_get h a)) :: st) h Q) := V_ial (by decide +kernel : decode (p_c 119) 5 = .ok (.iaload, 1))
theorem e119_6 : V 119 6 L st h Q = V 119 7 L (.int 4 :: st) h Q := V_c (by decide +kernel : decode (p_c 119) 6 = .ok (.iconst 4, 1)) (by decide)
theorem e119_7 : V 119 7 L (.int z :: .int x :: st) h Q = if x = z then V 119 10 L st h Q else V 119 21 L st h Q := (V_icmp (by decide +kernel : decode (p_c 119) 7 = .ok (.if_icmp .ne 14, 3)) (by decide)).trans i_ne
theorem e119_10 : V 119 10 L st h Q = V 119 11 L (.int 2 :: st) h Q := V_c (by decide +kernel : decode (p_c 119) 10 = .ok (.iconst 2, 1)) (by decide)
theorem e119_11 : V 119 11 [some (.ref a), l1] st h Q = V 119 12 [some (.ref a), l1] (.ref a :: st) h Q := V_nx (by decide +kernel : decode (p_c 119) 11 = .ok (.aload_n 0, 1)) rfl rfl
theorem e119_12 : V 119 12 L (.ref a :: st) h Q = (p_ok1 [12] 9 (p_get h a) ∧ V 119 15 L (p_fv 9 (p_get h a) :: st) h Q) := V_gf (t := (3, 1, "WaterShouldersModel")) (by decide +kernel : decode (p_c 119) 12 = .ok (.getfield 25, 3)) (by decide +kernel)
theorem e119_15 : V 119 15 [l0, some (.int x)] st h Q = V 119 16 [l0, some (.int x)] (.int x :: st) h Q := V_nx (by decide +kernel : decode (p_c 119) 15 = .ok (.iload_n 1, 1)) rfl rfl
theorem e119_16 : V 119 16 L (.int i :: .ref a :: st) h Q = (p_iok i (p_get h a) ∧ V 119 17 L (.int (p_ivl i (p_get h a)) :: st) h Q) := V_ial (by decide +kernel : decode (p_c 119) 16 = .ok (.iaload, 1))
theorem e119_17 : V 119 17 L (.int z :: .int x :: st) h Q = V 119 18 L (.int (x * z) :: st) h Q := V_nx (by decide +kernel : decode (p_c 119) 17 = .ok (.imul, 1)) rfl rfl
theorem e119_18 : V 119 18 L st h Q = V 119 27 L st h Q := V_goto (by decide +kernel : decode (p_c 119) 18 = .ok (.goto 9, 3)) (by decide)
theorem e119_21 : V 119 21 [some (.ref a), l1] st h Q = V 119 22 [some (.ref a), l1] (.ref a :: st) h Q := V_nx (by decide +kernel : decode (p_c 119) 21 = .ok (.aload_n 0, 1)) rfl rfl
theorem e119_22 : V 119 22 L (.ref a :: st) h Q = (p_ok1 [12] 9 (p_get h a) ∧ V 119 25 L (p_fv 9 (p_get h a) :: st) h Q) := V_gf (t := (3, 1, "WaterShouldersModel")) (by decide +kernel : decode (p_c 119) 22 = .ok (.getfield 25, 3)) (by decide +kernel)
theorem e119_25 : V 119 25 [l0, some (.int x)] st h Q = V 119 26 [l0, some (.int x)] (.int x :: st) h Q := V_nx (by decide +kernel : decode (p_c 119) 25 = .ok (.iload_n 1, 1)) rfl rfl
theorem e119_26 : V 119 26 L (.int i :: .ref a :: st) h Q = (p_iok i (p_get h a) ∧ V 119 27 L (.int (p_ivl i (p_get h a)) :: st) h Q) := V_ial (by decide +kernel : decode (p_c 119) 26 = .ok (.iaload, 1))
theorem e119_27 : V 119 27 L [.int x] h Q = Q (some (.int x)) h := V_ri (by decide +kernel : decode (p_c 119) 27 = .ok (.ireturn, 1)) rfl
theorem m119 : Vm 119 [.ref a, .int x1] h Q = V 119 0 [some (.ref a), some (.int x1)] [] h Q := rfl
theorem e120_0 : V 120 0 [some (.ref a), l1] st h Q = V 120 1 [some (.ref a), l1] (.ref a :: st) h Q := V_nx (by decide +kernel : decode (p_c 120) 0 = .ok (.aload_n 0, 1)) rfl rfl
theorem e120_1 : V 120 1 L (.ref a :: st) h Q = (p_ok1 [12] 3 (p_get h a) ∧ V 120 4 L (p_fv 3 (p_get h a) :: st) h Q) := V_gf (t := (3, 1, "WaterShouldersModel")) (by decide +kernel : decode (p_c 120) 1 = .ok (.getfield 16, 3)) (by decide +kernel)
theorem e120_4 : V 120 4 [some (.ref a), l1] st h Q = V 120 5 [some (.ref a), l1] (.ref a :: st) h Q := V_nx (by decide +kernel : decode (p_c 120) 4 = .ok (.aload_n 0, 1)) rfl rfl
theorem e120_5 : V 120 5 L (.ref a :: st) h Q = (p_ok1 [12] 10 (p_get h a) ∧ V 120 8 L (p_fv 10 (p_get h a) :: st) h Q) := V_gf (t := (3, 1, "WaterShouldersModel")) (by decide +kernel : decode (p_c 120) 5 = .ok (.getfield 28, 3)) (by decide +kernel)
theorem e120_8 : V 120 8 [l0, some (.int x)] st h Q = V 120 9 [l0, some (.int x)] (.int x :: st) h Q := V_nx (by decide +kernel : decode (p_c 120) 8 = .ok (.iload_n 1, 1)) rfl rfl
theorem e120_9 : V 120 9 L (.int i :: .ref a :: st) h Q = (p_iok i (p_get h a) ∧ V 120 10 L (.int (p_ivl i (p_get h a)) :: st) h Q) := V_ial (by decide +kernel : decode (p_c 120) 9 = .ok (.iaload, 1))
theorem e120_10 : V 120 10 L (.int i :: .ref a :: st) h Q = (p_iok i (p_get h a) ∧ V 120 11 L (.int (p_ivl i (p_get h a)) :: st) h Q) := V_ial (by decide +kernel : decode (p_c 120) 10 = .ok (.iaload, 1))
theorem e120_11 : V 120 11 [some (.ref a), l1] st h Q = V 120 12 [some (.ref a), l1] (.ref a :: st) h Q := V_nx (by decide +kernel : decode (p_c 120) 11 = .ok (.aload_n 0, 1)) rfl rfl
theorem e120_12 : V 120 12 [l0, some (.int x)] st h Q = V 120 13 [l0, some (.int x)] (.int x :: st) h Q := V_nx (by decide +kernel : decode (p_c 120) 12 = .ok (.iload_n 1, 1)) rfl rfl
theorem e120_13 : V 120 13 L (.int x1 :: .ref a :: st) h Q = ((p_cn1 (p_get h a) = 12 ∧ p_sm st) ∧ Vm 118 [.ref a, .int x1] h (Kt 120 16 L st Q)) := V_iv (n := 1) (as := [.int x1]) (ci := 12) (z := 118) (by decide +kernel : decode (p_c 120) 13 = .ok (.invokevirtual 130, 3)) (by decide +kernel) rfl rfl (by decide +kernel) rfl
theorem e120_16 : V 120 16 L (.int z :: .int x :: st) h Q = if x < z then V 120 23 L st h Q else V 120 19 L st h Q := (V_icmp (by decide +kernel : decode (p_c 120) 16 = .ok (.if_icmp .lt 7, 3)) (by decide)).trans i_lt
theorem e120_19 : V 120 19 L st h Q = V 120 20 L (.int 1 :: st) h Q := V_c (by decide +kernel : decode (p_c 120) 19 = .ok (.iconst 1, 1)) (by decide)
theorem e120_20 : V 120 20 L st h Q = V 120 24 L st h Q := V_goto (by decide +kernel : decode (p_c 120) 20 = .ok (.goto 4, 3)) (by decide)
theorem e120_23 : V 120 23 L st h Q = V 120 24 L (.int 0 :: st) h Q := V_c (by decide +kernel : decode (p_c 120) 23 = .ok (.iconst 0, 1)) (by decide)
theorem e120_24 : V 120 24 L [.int x] h Q = ((x = 0 ∨ x = 1) ∧ Q (some (.int x)) h) := V_rz (by decide +kernel : decode (p_c 120) 24 = .ok (.ireturn, 1)) rfl
theorem m120 : Vm 120 [.ref a, .int x1] h Q = V 120 0 [some (.ref a), some (.int x1)] [] h Q := rfl
theorem e121_0 : V 121 0 [l0, l1, some (.int x)] st h Q = V 121 1 [l0, l1, some (.int x)] (.int x :: st) h Q := V_nx (by decide +kernel : decode (p_c 121) 0 = .ok (.iload_n 2, 1)) rfl rfl
theorem e121_1 : V 121 1 L (.int x :: st) h Q = V 121 (if x = 0 then 44 else if x = 1 then 51 else if x = 2 then 58 else if x = 3 then 65 else if x = 4 then 71 else if x = 5 then 77 else if x = 6 then 84 else 91) L st h Q := V_ts (fun z => if z = 0 then 44 else if z = 1 then 51 else if z = 2 then 58 else if z = 3 then 65 else if z = 4 then 71 else if z = 5 then 77 else if z = 6 then 84 else 91) (by decide +kernel : decode (p_c 121) 1 = .ok (.tableswitch 90 0 6 #[43, 50, 57, 64, 70, 76, 83], 43)) (by decide) (by
  intro z
  refine ⟨fun hz => ?_, fun hz => ?_⟩
  · have h_0 : ¬ z = 0 := by intro q; subst q; revert hz; decide
    have h_1 : ¬ z = 1 := by intro q; subst q; revert hz; decide
    have h_2 : ¬ z = 2 := by intro q; subst q; revert hz; decide
    have h_3 : ¬ z = 3 := by intro q; subst q; revert hz; decide
    have h_4 : ¬ z = 4 := by intro q; subst q; revert hz; decide
    have h_5 : ¬ z = 5 := by intro q; subst q; revert hz; decide
    have h_6 : ¬ z = 6 := by intro q; subst q; revert hz; decide
    simp only [h_0, h_1, h_2, h_3, h_4, h_5, h_6, if_false]
    rfl
  · have hc : z.toInt = 0 ∨ z.toInt = 1 ∨ z.toInt = 2 ∨ z.toInt = 3 ∨ z.toInt = 4 ∨ z.toInt = 5 ∨ z.toInt = 6 := by omega
    rcases hc with hc | hc | hc | hc | hc | hc | hc
    · have e : z = 0 := Int32.toInt_inj.mp (by rw [hc]; rfl)
      subst e
      exact ⟨43, rfl, by decide, rfl⟩
    · have e : z = 1 := Int32.toInt_inj.mp (by rw [hc]; rfl)
      subst e
      exact ⟨50, rfl, by decide, rfl⟩
    · have e : z = 2 := Int32.toInt_inj.mp (by rw [hc]; rfl)
      subst e
      exact ⟨57, rfl, by decide, rfl⟩
    · have e : z = 3 := Int32.toInt_inj.mp (by rw [hc]; rfl)
      subst e
      exact ⟨64, rfl, by decide, rfl⟩
    · have e : z = 4 := Int32.toInt_inj.mp (by rw [hc]; rfl)
      subst e
      exact ⟨70, rfl, by decide, rfl⟩
    · have e : z = 5 := Int32.toInt_inj.mp (by rw [hc]; rfl)
      subst e
      exact ⟨76, rfl, by decide, rfl⟩
    · have e : z = 6 := Int32.toInt_inj.mp (by rw [hc]; rfl)
      subst e
      exact ⟨83, rfl, by decide, rfl⟩)
theorem e121_44 : V 121 44 [some (.ref a), l1, l2] st h Q = V 121 45 [some (.ref a), l1, l2] (.ref a :: st) h Q := V_nx (by decide +kernel : decode (p_c 121) 44 = .ok (.aload_n 0, 1)) rfl rfl
theorem e121_45 : V 121 45 L (.ref a :: st) h Q = (p_ok1 [12] 7 (p_get h a) ∧ V 121 48 L (p_fv 7 (p_get h a) :: st) h Q) := V_gf (t := (3, 1, "WaterShouldersModel")) (by decide +kernel : decode (p_c 121) 45 = .ok (.getfield 19, 3)) (by decide +kernel)
theorem e121_48 : V 121 48 [l0, some (.int x), l2] st h Q = V 121 49 [l0, some (.int x), l2] (.int x :: st) h Q := V_nx (by decide +kernel : decode (p_c 121) 48 = .ok (.iload_n 1, 1)) rfl rfl
theorem e121_49 : V 121 49 L (.int i :: .ref a :: st) h Q = (p_iok i (p_get h a) ∧ V 121 50 L (.int (p_ivl i (p_get h a)) :: st) h Q) := V_ial (by decide +kernel : decode (p_c 121) 49 = .ok (.iaload, 1))
theorem e121_50 : V 121 50 L [.int x] h Q = Q (some (.int x)) h := V_ri (by decide +kernel : decode (p_c 121) 50 = .ok (.ireturn, 1)) rfl
theorem e121_51 : V 121 51 [some (.ref a), l1, l2] st h Q = V 121 52 [some (.ref a), l1, l2] (.ref a :: st) h Q := V_nx (by decide +kernel : decode (p_c 121) 51 = .ok (.aload_n 0, 1)) rfl rfl
theorem e121_52 : V 121 52 L (.ref a :: st) h Q = (p_ok1 [12] 8 (p_get h a) ∧ V 121 55 L (p_fv 8 (p_get h a) :: st) h Q) := V_gf (t := (3, 1, "WaterShouldersModel")) (by decide +kernel : decode (p_c 121) 52 = .ok (.getfield 22, 3)) (by decide +kernel)
theorem e121_55 : V 121 55 [l0, some (.int x), l2] st h Q = V 121 56 [l0, some (.int x), l2] (.int x :: st) h Q := V_nx (by decide +kernel : decode (p_c 121) 55 = .ok (.iload_n 1, 1)) rfl rfl
theorem e121_56 : V 121 56 L (.int i :: .ref a :: st) h Q = (p_iok i (p_get h a) ∧ V 121 57 L (.int (p_ivl i (p_get h a)) :: st) h Q) := V_ial (by decide +kernel : decode (p_c 121) 56 = .ok (.iaload, 1))
theorem e121_57 : V 121 57 L [.int x] h Q = Q (some (.int x)) h := V_ri (by decide +kernel : decode (p_c 121) 57 = .ok (.ireturn, 1)) rfl
theorem e121_58 : V 121 58 [some (.ref a), l1, l2] st h Q = V 121 59 [some (.ref a), l1, l2] (.ref a :: st) h Q := V_nx (by decide +kernel : decode (p_c 121) 58 = .ok (.aload_n 0, 1)) rfl rfl
theorem e121_59 : V 121 59 L (.ref a :: st) h Q = (p_ok1 [12] 9 (p_get h a) ∧ V 121 62 L (p_fv 9 (p_get h a) :: st) h Q) := V_gf (t := (3, 1, "WaterShouldersModel")) (by decide +kernel : decode (p_c 121) 59 = .ok (.getfield 25, 3)) (by decide +kernel)
theorem e121_62 : V 121 62 [l0, some (.int x), l2] st h Q = V 121 63 [l0, some (.int x), l2] (.int x :: st) h Q := V_nx (by decide +kernel : decode (p_c 121) 62 = .ok (.iload_n 1, 1)) rfl rfl
theorem e121_63 : V 121 63 L (.int i :: .ref a :: st) h Q = (p_iok i (p_get h a) ∧ V 121 64 L (.int (p_ivl i (p_get h a)) :: st) h Q) := V_ial (by decide +kernel : decode (p_c 121) 63 = .ok (.iaload, 1))
theorem e121_64 : V 121 64 L [.int x] h Q = Q (some (.int x)) h := V_ri (by decide +kernel : decode (p_c 121) 64 = .ok (.ireturn, 1)) rfl
theorem e121_65 : V 121 65 [some (.ref a), l1, l2] st h Q = V 121 66 [some (.ref a), l1, l2] (.ref a :: st) h Q := V_nx (by decide +kernel : decode (p_c 121) 65 = .ok (.aload_n 0, 1)) rfl rfl
theorem e121_66 : V 121 66 [l0, some (.int x), l2] st h Q = V 121 67 [l0, some (.int x), l2] (.int x :: st) h Q := V_nx (by decide +kernel : decode (p_c 121) 66 = .ok (.iload_n 1, 1)) rfl rfl
theorem e121_67 : V 121 67 L (.int x1 :: .ref a :: st) h Q = ((p_cn1 (p_get h a) = 12 ∧ p_sm st) ∧ Vm 118 [.ref a, .int x1] h (Kt 121 70 L st Q)) := V_iv (n := 1) (as := [.int x1]) (ci := 12) (z := 118) (by decide +kernel : decode (p_c 121) 67 = .ok (.invokevirtual 130, 3)) (by decide +kernel) rfl rfl (by decide +kernel) rfl
theorem e121_70 : V 121 70 L [.int x] h Q = Q (some (.int x)) h := V_ri (by decide +kernel : decode (p_c 121) 70 = .ok (.ireturn, 1)) rfl
theorem e121_71 : V 121 71 [some (.ref a), l1, l2] st h Q = V 121 72 [some (.ref a), l1, l2] (.ref a :: st) h Q := V_nx (by decide +kernel : decode (p_c 121) 71 = .ok (.aload_n 0, 1)) rfl rfl
theorem e121_72 : V 121 72 [l0, some (.int x), l2] st h Q = V 121 73 [l0, some (.int x), l2] (.int x :: st) h Q := V_nx (by decide +kernel : decode (p_c 121) 72 = .ok (.iload_n 1, 1)) rfl rfl
theorem e121_73 : V 121 73 L (.int x1 :: .ref a :: st) h Q = ((p_cn1 (p_get h a) = 12 ∧ p_sm st) ∧ Vm 119 [.ref a, .int x1] h (Kt 121 76 L st Q)) := V_iv (n := 1) (as := [.int x1]) (ci := 12) (z := 119) (by decide +kernel : decode (p_c 121) 73 = .ok (.invokevirtual 134, 3)) (by decide +kernel) rfl rfl (by decide +kernel) rfl
theorem e121_76 : V 121 76 L [.int x] h Q = Q (some (.int x)) h := V_ri (by decide +kernel : decode (p_c 121) 76 = .ok (.ireturn, 1)) rfl
theorem e121_77 : V 121 77 [some (.ref a), l1, l2] st h Q = V 121 78 [some (.ref a), l1, l2] (.ref a :: st) h Q := V_nx (by decide +kernel : decode (p_c 121) 77 = .ok (.aload_n 0, 1)) rfl rfl
theorem e121_78 : V 121 78 L (.ref a :: st) h Q = (p_ok1 [12] 10 (p_get h a) ∧ V 121 81 L (p_fv 10 (p_get h a) :: st) h Q) := V_gf (t := (3, 1, "WaterShouldersModel")) (by decide +kernel : decode (p_c 121) 78 = .ok (.getfield 28, 3)) (by decide +kernel)
theorem e121_81 : V 121 81 [l0, some (.int x), l2] st h Q = V 121 82 [l0, some (.int x), l2] (.int x :: st) h Q := V_nx (by decide +kernel : decode (p_c 121) 81 = .ok (.iload_n 1, 1)) rfl rfl
theorem e121_82 : V 121 82 L (.int i :: .ref a :: st) h Q = (p_iok i (p_get h a) ∧ V 121 83 L (.int (p_ivl i (p_get h a)) :: st) h Q) := V_ial (by decide +kernel : decode (p_c 121) 82 = .ok (.iaload, 1))
theorem e121_83 : V 121 83 L [.int x] h Q = Q (some (.int x)) h := V_ri (by decide +kernel : decode (p_c 121) 83 = .ok (.ireturn, 1)) rfl
theorem e121_84 : V 121 84 [some (.ref a), l1, l2] st h Q = V 121 85 [some (.ref a), l1, l2] (.ref a :: st) h Q := V_nx (by decide +kernel : decode (p_c 121) 84 = .ok (.aload_n 0, 1)) rfl rfl
theorem e121_85 : V 121 85 L (.ref a :: st) h Q = (p_ok1 [12] 11 (p_get h a) ∧ V 121 88 L (p_fv 11 (p_get h a) :: st) h Q) := V_gf (t := (3, 1, "WaterShouldersModel")) (by decide +kernel : decode (p_c 121) 85 = .ok (.getfield 31, 3)) (by decide +kernel)
theorem e121_88 : V 121 88 [l0, some (.int x), l2] st h Q = V 121 89 [l0, some (.int x), l2] (.int x :: st) h Q := V_nx (by decide +kernel : decode (p_c 121) 88 = .ok (.iload_n 1, 1)) rfl rfl
theorem e121_89 : V 121 89 L (.int i :: .ref a :: st) h Q = (p_iok i (p_get h a) ∧ V 121 90 L (.int (p_ivl i (p_get h a)) :: st) h Q) := V_ial (by decide +kernel : decode (p_c 121) 89 = .ok (.iaload, 1))
theorem e121_90 : V 121 90 L [.int x] h Q = Q (some (.int x)) h := V_ri (by decide +kernel : decode (p_c 121) 90 = .ok (.ireturn, 1)) rfl
theorem e121_91 : V 121 91 [some (.ref a), l1, l2] st h Q = V 121 92 [some (.ref a), l1, l2] (.ref a :: st) h Q := V_nx (by decide +kernel : decode (p_c 121) 91 = .ok (.aload_n 0, 1)) rfl rfl
theorem e121_92 : V 121 92 [l0, some (.int x), l2] st h Q = V 121 93 [l0, some (.int x), l2] (.int x :: st) h Q := V_nx (by decide +kernel : decode (p_c 121) 92 = .ok (.iload_n 1, 1)) rfl rfl
theorem e121_93 : V 121 93 L (.int x1 :: .ref a :: st) h Q = ((p_cn1 (p_get h a) = 12 ∧ p_sm st) ∧ Vm 120 [.ref a, .int x1] h (Kt 121 96 L st Q)) := V_iv (n := 1) (as := [.int x1]) (ci := 12) (z := 120) (by decide +kernel : decode (p_c 121) 93 = .ok (.invokevirtual 137, 3)) (by decide +kernel) rfl rfl (by decide +kernel) rfl
theorem e121_96 : V 121 96 L (.int x :: st) h Q = if x = 0 then V 121 103 L st h Q else V 121 99 L st h Q := (V_ifc (by decide +kernel : decode (p_c 121) 96 = .ok (.ifCond .eq 7, 3)) (by decide)).trans i_eq
theorem e121_99 : V 121 99 L st h Q = V 121 100 L (.int 1 :: st) h Q := V_c (by decide +kernel : decode (p_c 121) 99 = .ok (.iconst 1, 1)) (by decide)
theorem e121_100 : V 121 100 L st h Q = V 121 104 L st h Q := V_goto (by decide +kernel : decode (p_c 121) 100 = .ok (.goto 4, 3)) (by decide)
theorem e121_103 : V 121 103 L st h Q = V 121 104 L (.int 0 :: st) h Q := V_c (by decide +kernel : decode (p_c 121) 103 = .ok (.iconst 0, 1)) (by decide)
theorem e121_104 : V 121 104 L [.int x] h Q = Q (some (.int x)) h := V_ri (by decide +kernel : decode (p_c 121) 104 = .ok (.ireturn, 1)) rfl
theorem m121 : Vm 121 [.ref a, .int x1, .int x2] h Q = V 121 0 [some (.ref a), some (.int x1), some (.int x2)] [] h Q := rfl
theorem e122_0 : V 122 0 [some (.ref a), l1, l2] st h Q = V 122 1 [some (.ref a), l1, l2] (.ref a :: st) h Q := V_nx (by decide +kernel : decode (p_c 122) 0 = .ok (.aload_n 0, 1)) rfl rfl
theorem e122_1 : V 122 1 [l0, some (.int x), l2] st h Q = V 122 2 [l0, some (.int x), l2] (.int x :: st) h Q := V_nx (by decide +kernel : decode (p_c 122) 1 = .ok (.iload_n 1, 1)) rfl rfl
theorem e122_2 : V 122 2 L (.int x1 :: .ref a :: st) h Q = ((p_cn1 (p_get h a) = 12 ∧ p_sm st) ∧ Vm 115 [.ref a, .int x1] h (Kt 122 5 L st Q)) := V_iv (n := 1) (as := [.int x1]) (ci := 12) (z := 115) (by decide +kernel : decode (p_c 122) 2 = .ok (.invokevirtual 140, 3)) (by decide +kernel) rfl rfl (by decide +kernel) rfl
theorem e122_5 : V 122 5 L (.int x :: st) h Q = if x = 0 then V 122 8 L st h Q else V 122 13 L st h Q := (V_ifc (by decide +kernel : decode (p_c 122) 5 = .ok (.ifCond .ne 8, 3)) (by decide)).trans i_ne
theorem e122_8 : V 122 8 L st h Q = V 122 10 L (.int (-101) :: st) h Q := V_b (by decide +kernel : decode (p_c 122) 8 = .ok (.bipush (-101), 2)) (by decide)
theorem e122_10 : V 122 10 L st h Q = V 122 34 L st h Q := V_goto (by decide +kernel : decode (p_c 122) 10 = .ok (.goto 24, 3)) (by decide)
theorem e122_13 : V 122 13 [l0, l1, some (.int x)] st h Q = V 122 14 [l0, l1, some (.int x)] (.int x :: st) h Q := V_nx (by decide +kernel : decode (p_c 122) 13 = .ok (.iload_n 2, 1)) rfl rfl
theorem e122_14 : V 122 14 L st h Q = V 122 15 L (.int 0 :: st) h Q := V_c (by decide +kernel : decode (p_c 122) 14 = .ok (.iconst 0, 1)) (by decide)
theorem e122_15 : V 122 15 L st h Q = V 122 17 L (.int 7 :: st) h Q := V_b (by decide +kernel : decode (p_c 122) 15 = .ok (.bipush 7, 2)) (by decide)
theorem e122_17 : V 122 17 L (.int x3 :: .int x2 :: .int x1 :: st) h Q = (p_sm st ∧ Vm 106 [.int x1, .int x2, .int x3] h (Kt 122 20 L st Q)) := V_st (n := 3) (as := [.int x3, .int x2, .int x1]) (z := 106) (by decide +kernel : decode (p_c 122) 17 = .ok (.invokestatic 90, 3)) (by decide +kernel) rfl (by decide +kernel) rfl
theorem e122_20 : V 122 20 L (.int x :: st) h Q = if x = 0 then V 122 32 L st h Q else V 122 23 L st h Q := (V_ifc (by decide +kernel : decode (p_c 122) 20 = .ok (.ifCond .eq 12, 3)) (by decide)).trans i_eq
theorem e122_23 : V 122 23 [some (.ref a), l1, l2] st h Q = V 122 24 [some (.ref a), l1, l2] (.ref a :: st) h Q := V_nx (by decide +kernel : decode (p_c 122) 23 = .ok (.aload_n 0, 1)) rfl rfl
theorem e122_24 : V 122 24 [l0, some (.int x), l2] st h Q = V 122 25 [l0, some (.int x), l2] (.int x :: st) h Q := V_nx (by decide +kernel : decode (p_c 122) 24 = .ok (.iload_n 1, 1)) rfl rfl
theorem e122_25 : V 122 25 [l0, l1, some (.int x)] st h Q = V 122 26 [l0, l1, some (.int x)] (.int x :: st) h Q := V_nx (by decide +kernel : decode (p_c 122) 25 = .ok (.iload_n 2, 1)) rfl rfl
theorem e122_26 : V 122 26 L (.int x2 :: .int x1 :: .ref a :: st) h Q = ((p_cn1 (p_get h a) = 12 ∧ p_sm st) ∧ Vm 121 [.ref a, .int x1, .int x2] h (Kt 122 29 L st Q)) := V_iv (n := 2) (as := [.int x2, .int x1]) (ci := 12) (z := 121) (by decide +kernel : decode (p_c 122) 26 = .ok (.invokevirtual 143, 3)) (by decide +kernel) rfl rfl (by decide +kernel) rfl
theorem e122_29 : V 122 29 L st h Q = V 122 34 L st h Q := V_goto (by decide +kernel : decode (p_c 122) 29 = .ok (.goto 5, 3)) (by decide)
theorem e122_32 : V 122 32 L st h Q = V 122 34 L (.int (-102) :: st) h Q := V_b (by decide +kernel : decode (p_c 122) 32 = .ok (.bipush (-102), 2)) (by decide)
theorem e122_34 : V 122 34 L [.int x] h Q = Q (some (.int x)) h := V_ri (by decide +kernel : decode (p_c 122) 34 = .ok (.ireturn, 1)) rfl
theorem m122 : Vm 122 [.ref a, .int x1, .int x2] h Q = V 122 0 [some (.ref a), some (.int x1), some (.int x2)] [] h Q := rfl
theorem e123_0 : V 123 0 [some (.ref a), l1, l2, l3] st h Q = V 123 1 [some (.ref a), l1, l2, l3] (.ref a :: st) h Q := V_nx (by decide +kernel : decode (p_c 123) 0 = .ok (.aload_n 0, 1)) rfl rfl
theorem e123_1 : V 123 1 [l0, some (.int x), l2, l3] st h Q = V 123 2 [l0, some (.int x), l2, l3] (.int x :: st) h Q := V_nx (by decide +kernel : decode (p_c 123) 1 = .ok (.iload_n 1, 1)) rfl rfl
theorem e123_2 : V 123 2 L (.int x1 :: .ref a :: st) h Q = ((p_cn1 (p_get h a) = 12 ∧ p_sm st) ∧ Vm 115 [.ref a, .int x1] h (Kt 123 5 L st Q)) := V_iv (n := 1) (as := [.int x1]) (ci := 12) (z := 115) (by decide +kernel : decode (p_c 123) 2 = .ok (.invokevirtual 140, 3)) (by decide +kernel) rfl rfl (by decide +kernel) rfl
theorem e123_5 : V 123 5 L (.int x :: st) h Q = if x = 0 then V 123 8 L st h Q else V 123 11 L st h Q := (V_ifc (by decide +kernel : decode (p_c 123) 5 = .ok (.ifCond .ne 6, 3)) (by decide)).trans i_ne
theorem e123_8 : V 123 8 L st h Q = V 123 10 L (.int (-101) :: st) h Q := V_b (by decide +kernel : decode (p_c 123) 8 = .ok (.bipush (-101), 2)) (by decide)
theorem e123_10 : V 123 10 L [.int x] h Q = Q (some (.int x)) h := V_ri (by decide +kernel : decode (p_c 123) 10 = .ok (.ireturn, 1)) rfl
theorem e123_11 : V 123 11 [l0, l1, some (.int x), l3] st h Q = V 123 12 [l0, l1, some (.int x), l3] (.int x :: st) h Q := V_nx (by decide +kernel : decode (p_c 123) 11 = .ok (.iload_n 2, 1)) rfl rfl
theorem e123_12 : V 123 12 L st h Q = V 123 13 L (.int 0 :: st) h Q := V_c (by decide +kernel : decode (p_c 123) 12 = .ok (.iconst 0, 1)) (by decide)
theorem e123_13 : V 123 13 L st h Q = V 123 14 L (.int 4 :: st) h Q := V_c (by decide +kernel : decode (p_c 123) 13 = .ok (.iconst 4, 1)) (by decide)
theorem e123_14 : V 123 14 L (.int x3 :: .int x2 :: .int x1 :: st) h Q = (p_sm st ∧ Vm 106 [.int x1, .int x2, .int x3] h (Kt 123 17 L st Q)) := V_st (n := 3) (as := [.int x3, .int x2, .int x1]) (z := 106) (by decide +kernel : decode (p_c 123) 14 = .ok (.invokestatic 90, 3)) (by decide +kernel) rfl (by decide +kernel) rfl
theorem e123_17 : V 123 17 L (.int x :: st) h Q = if x = 0 then V 123 20 L st h Q else V 123 23 L st h Q := (V_ifc (by decide +kernel : decode (p_c 123) 17 = .ok (.ifCond .ne 6, 3)) (by decide)).trans i_ne
theorem e123_20 : V 123 20 L st h Q = V 123 22 L (.int (-102) :: st) h Q := V_b (by decide +kernel : decode (p_c 123) 20 = .ok (.bipush (-102), 2)) (by decide)
theorem e123_22 : V 123 22 L [.int x] h Q = Q (some (.int x)) h := V_ri (by decide +kernel : decode (p_c 123) 22 = .ok (.ireturn, 1)) rfl
theorem e123_23 : V 123 23 [some (.ref a), l1, l2, l3] st h Q = V 123 24 [some (.ref a), l1, l2, l3] (.ref a :: st) h Q := V_nx (by decide +kernel : decode (p_c 123) 23 = .ok (.aload_n 0, 1)) rfl rfl
theorem e123_24 : V 123 24 L (.ref a :: st) h Q = (p_ok1 [12] 7 (p_get h a) ∧ V 123 27 L (p_fv 7 (p_get h a) :: st) h Q) := V_gf (t := (3, 1, "WaterShouldersModel")) (by decide +kernel : decode (p_c 123) 24 = .ok (.getfield 19, 3)) (by decide +kernel)
theorem e123_27 : V 123 27 [l0, some (.int x), l2, l3] st h Q = V 123 28 [l0, some (.int x), l2, l3] (.int x :: st) h Q := V_nx (by decide +kernel : decode (p_c 123) 27 = .ok (.iload_n 1, 1)) rfl rfl
theorem e123_28 : V 123 28 L (.int i :: .ref a :: st) h Q = (p_iok i (p_get h a) ∧ V 123 29 L (.int (p_ivl i (p_get h a)) :: st) h Q) := V_ial (by decide +kernel : decode (p_c 123) 28 = .ok (.iaload, 1))
theorem e123_29 : V 123 29 [l0, l1, l2, l3] (.int x :: st) h Q = V 123 30 [l0, l1, p_dl l2, some (.int x)] st h Q := V_nx (by decide +kernel : decode (p_c 123) 29 = .ok (.istore_n 3, 1)) rfl rfl
theorem e123_30 : V 123 30 [l0, l1, some (.int x), l3] st h Q = V 123 31 [l0, l1, some (.int x), l3] (.int x :: st) h Q := V_nx (by decide +kernel : decode (p_c 123) 30 = .ok (.iload_n 2, 1)) rfl rfl
theorem e123_31 : V 123 31 L (.int x :: st) h Q = if x = 0 then V 123 49 L st h Q else V 123 34 L st h Q := (V_ifc (by decide +kernel : decode (p_c 123) 31 = .ok (.ifCond .eq 18, 3)) (by decide)).trans i_eq
theorem e123_34 : V 123 34 [l0, l1, l2, some (.int x)] st h Q = V 123 35 [l0, l1, l2, some (.int x)] (.int x :: st) h Q := V_nx (by decide +kernel : decode (p_c 123) 34 = .ok (.iload_n 3, 1)) rfl rfl
theorem e123_35 : V 123 35 [l0, l1, some (.int x), l3] st h Q = V 123 36 [l0, l1, some (.int x), l3] (.int x :: st) h Q := V_nx (by decide +kernel : decode (p_c 123) 35 = .ok (.iload_n 2, 1)) rfl rfl
theorem e123_36 : V 123 36 L (.int z :: .int x :: st) h Q = if x = z then V 123 49 L st h Q else V 123 39 L st h Q := (V_icmp (by decide +kernel : decode (p_c 123) 36 = .ok (.if_icmp .eq 13, 3)) (by decide)).trans i_eq
theorem e123_39 : V 123 39 [l0, l1, some (.int x), l3] st h Q = V 123 40 [l0, l1, some (.int x), l3] (.int x :: st) h Q := V_nx (by decide +kernel : decode (p_c 123) 39 = .ok (.iload_n 2, 1)) rfl rfl
theorem e123_40 : V 123 40 L st h Q = V 123 41 L (.int 3 :: st) h Q := V_c (by decide +kernel : decode (p_c 123) 40 = .ok (.iconst 3, 1)) (by decide)
theorem e123_41 : V 123 41 L (.int z :: .int x :: st) h Q = if x = z then V 123 44 L st h Q else V 123 53 L st h Q := (V_icmp (by decide +kernel : decode (p_c 123) 41 = .ok (.if_icmp .ne 12, 3)) (by decide)).trans i_ne
theorem e123_44 : V 123 44 [l0, l1, l2, some (.int x)] st h Q = V 123 45 [l0, l1, l2, some (.int x)] (.int x :: st) h Q := V_nx (by decide +kernel : decode (p_c 123) 44 = .ok (.iload_n 3, 1)) rfl rfl
theorem e123_45 : V 123 45 L st h Q = V 123 46 L (.int 4 :: st) h Q := V_c (by decide +kernel : decode (p_c 123) 45 = .ok (.iconst 4, 1)) (by decide)
theorem e123_46 : V 123 46 L (.int z :: .int x :: st) h Q = if x = z then V 123 49 L st h Q else V 123 53 L st h Q := (V_icmp (by decide +kernel : decode (p_c 123) 46 = .ok (.if_icmp .ne 7, 3)) (by decide)).trans i_ne
theorem e123_49 : V 123 49 [l0, some (.int x), l2, l3] st h Q = V 123 50 [l0, some (.int x), l2, l3] (.int x :: st) h Q := V_nx (by decide +kernel : decode (p_c 123) 49 = .ok (.iload_n 1, 1)) rfl rfl
theorem e123_50 : V 123 50 L st h Q = V 123 54 L st h Q := V_goto (by decide +kernel : decode (p_c 123) 50 = .ok (.goto 4, 3)) (by decide)
theorem e123_53 : V 123 53 L st h Q = V 123 54 L (.int (-1) :: st) h Q := V_c (by decide +kernel : decode (p_c 123) 53 = .ok (.iconst (-1), 1)) (by decide)
theorem e123_54 : V 123 54 L [.int x] h Q = Q (some (.int x)) h := V_ri (by decide +kernel : decode (p_c 123) 54 = .ok (.ireturn, 1)) rfl
theorem m123 : Vm 123 [.ref a, .int x1, .int x2] h Q = V 123 0 [some (.ref a), some (.int x1), some (.int x2), none] [] h Q := rfl
theorem e124_0 : V 124 0 [some (.ref a), l1, l2] st h Q = V 124 1 [some (.ref a), l1, l2] (.ref a :: st) h Q := V_nx (by decide +kernel : decode (p_c 124) 0 = .ok (.aload_n 0, 1)) rfl rfl
theorem e124_1 : V 124 1 L (.ref a :: st) h Q = (p_ok1 [12] 10 (p_get h a) ∧ V 124 4 L (p_fv 10 (p_get h a) :: st) h Q) := V_gf (t := (3, 1, "WaterShouldersModel")) (by decide +kernel : decode (p_c 124) 1 = .ok (.getfield 28, 3)) (by decide +kernel)
theorem e124_4 : V 124 4 [l0, some (.int x), l2] st h Q = V 124 5 [l0, some (.int x), l2] (.int x :: st) h Q := V_nx (by decide +kernel : decode (p_c 124) 4 = .ok (.iload_n 1, 1)) rfl rfl
theorem e124_5 : V 124 5 L (.int i :: .ref a :: st) h Q = (p_iok i (p_get h a) ∧ V 124 6 L (.int (p_ivl i (p_get h a)) :: st) h Q) := V_ial (by decide +kernel : decode (p_c 124) 5 = .ok (.iaload, 1))
theorem e124_6 : V 124 6 [l0, l1, l2] (.int x :: st) h Q = V 124 7 [l0, p_dl l1, some (.int x)] st h Q := V_nx (by decide +kernel : decode (p_c 124) 6 = .ok (.istore_n 2, 1)) rfl rfl
theorem e124_7 : V 124 7 [l0, l1, some (.int x)] st h Q = V 124 8 [l0, l1, some (.int x)] (.int x :: st) h Q := V_nx (by decide +kernel : decode (p_c 124) 7 = .ok (.iload_n 2, 1)) rfl rfl
theorem e124_8 : V 124 8 [some (.ref a), l1, l2] st h Q = V 124 9 [some (.ref a), l1, l2] (.ref a :: st) h Q := V_nx (by decide +kernel : decode (p_c 124) 8 = .ok (.aload_n 0, 1)) rfl rfl
theorem e124_9 : V 124 9 L (.ref a :: st) h Q = (p_ok1 [12] 0 (p_get h a) ∧ V 124 12 L (p_fv 0 (p_get h a) :: st) h Q) := V_gf (t := (0, 0, "WaterShouldersModel")) (by decide +kernel : decode (p_c 124) 9 = .ok (.getfield 104, 3)) (by decide +kernel)
theorem e124_12 : V 124 12 L st h Q = V 124 13 L (.int 1 :: st) h Q := V_c (by decide +kernel : decode (p_c 124) 12 = .ok (.iconst 1, 1)) (by decide)
theorem e124_13 : V 124 13 L (.int z :: .int x :: st) h Q = V 124 14 L (.int (x - z) :: st) h Q := V_nx (by decide +kernel : decode (p_c 124) 13 = .ok (.isub, 1)) rfl rfl
theorem e124_14 : V 124 14 L (.int z :: .int x :: st) h Q = if x < z then V 124 17 L st h Q else V 124 45 L st h Q := (V_icmp (by decide +kernel : decode (p_c 124) 14 = .ok (.if_icmp .ge 31, 3)) (by decide)).trans i_ge
theorem e124_17 : V 124 17 [some (.ref a), l1, l2] st h Q = V 124 18 [some (.ref a), l1, l2] (.ref a :: st) h Q := V_nx (by decide +kernel : decode (p_c 124) 17 = .ok (.aload_n 0, 1)) rfl rfl
theorem e124_18 : V 124 18 [l0, some (.int x), l2] st h Q = V 124 19 [l0, some (.int x), l2] (.int x :: st) h Q := V_nx (by decide +kernel : decode (p_c 124) 18 = .ok (.iload_n 1, 1)) rfl rfl
theorem e124_19 : V 124 19 L (.int x1 :: .ref a :: st) h Q = ((p_cn1 (p_get h a) = 12 ∧ p_sm st) ∧ Vm 120 [.ref a, .int x1] h (Kt 124 22 L st Q)) := V_iv (n := 1) (as := [.int x1]) (ci := 12) (z := 120) (by decide +kernel : decode (p_c 124) 19 = .ok (.invokevirtual 137, 3)) (by decide +kernel) rfl rfl (by decide +kernel) rfl
theorem e124_22 : V 124 22 L (.int x :: st) h Q = if x = 0 then V 124 45 L st h Q else V 124 25 L st h Q := (V_ifc (by decide +kernel : decode (p_c 124) 22 = .ok (.ifCond .eq 23, 3)) (by decide)).trans i_eq
theorem e124_25 : V 124 25 [some (.ref a), l1, l2] st h Q = V 124 26 [some (.ref a), l1, l2] (.ref a :: st) h Q := V_nx (by decide +kernel : decode (p_c 124) 25 = .ok (.aload_n 0, 1)) rfl rfl
theorem e124_26 : V 124 26 L (.ref a :: st) h Q = (p_ok1 [12] 3 (p_get h a) ∧ V 124 29 L (p_fv 3 (p_get h a) :: st) h Q) := V_gf (t := (3, 1, "WaterShouldersModel")) (by decide +kernel : decode (p_c 124) 26 = .ok (.getfield 16, 3)) (by decide +kernel)
theorem e124_29 : V 124 29 [l0, l1, some (.int x)] st h Q = V 124 30 [l0, l1, some (.int x)] (.int x :: st) h Q := V_nx (by decide +kernel : decode (p_c 124) 29 = .ok (.iload_n 2, 1)) rfl rfl
theorem e124_30 : V 124 30 L st h Q = V 124 31 L (.int 1 :: st) h Q := V_c (by decide +kernel : decode (p_c 124) 30 = .ok (.iconst 1, 1)) (by decide)
theorem e124_31 : V 124 31 L (.int z :: .int x :: st) h Q = V 124 32 L (.int (x + z) :: st) h Q := V_nx (by decide +kernel : decode (p_c 124) 31 = .ok (.iadd, 1)) rfl rfl
theorem e124_32 : V 124 32 L (.int i :: .ref a :: st) h Q = (p_iok i (p_get h a) ∧ V 124 33 L (.int (p_ivl i (p_get h a)) :: st) h Q) := V_ial (by decide +kernel : decode (p_c 124) 32 = .ok (.iaload, 1))
theorem e124_33 : V 124 33 [some (.ref a), l1, l2] st h Q = V 124 34 [some (.ref a), l1, l2] (.ref a :: st) h Q := V_nx (by decide +kernel : decode (p_c 124) 33 = .ok (.aload_n 0, 1)) rfl rfl
theorem e124_34 : V 124 34 [l0, some (.int x), l2] st h Q = V 124 35 [l0, some (.int x), l2] (.int x :: st) h Q := V_nx (by decide +kernel : decode (p_c 124) 34 = .ok (.iload_n 1, 1)) rfl rfl
theorem e124_35 : V 124 35 L (.int x1 :: .ref a :: st) h Q = ((p_cn1 (p_get h a) = 12 ∧ p_sm st) ∧ Vm 118 [.ref a, .int x1] h (Kt 124 38 L st Q)) := V_iv (n := 1) (as := [.int x1]) (ci := 12) (z := 118) (by decide +kernel : decode (p_c 124) 35 = .ok (.invokevirtual 130, 3)) (by decide +kernel) rfl rfl (by decide +kernel) rfl
theorem e124_38 : V 124 38 L (.int z :: .int x :: st) h Q = if x < z then V 124 45 L st h Q else V 124 41 L st h Q := (V_icmp (by decide +kernel : decode (p_c 124) 38 = .ok (.if_icmp .lt 7, 3)) (by decide)).trans i_lt
theorem e124_41 : V 124 41 L st h Q = V 124 42 L (.int 1 :: st) h Q := V_c (by decide +kernel : decode (p_c 124) 41 = .ok (.iconst 1, 1)) (by decide)
theorem e124_42 : V 124 42 L st h Q = V 124 46 L st h Q := V_goto (by decide +kernel : decode (p_c 124) 42 = .ok (.goto 4, 3)) (by decide)
theorem e124_45 : V 124 45 L st h Q = V 124 46 L (.int 0 :: st) h Q := V_c (by decide +kernel : decode (p_c 124) 45 = .ok (.iconst 0, 1)) (by decide)
theorem e124_46 : V 124 46 L [.int x] h Q = ((x = 0 ∨ x = 1) ∧ Q (some (.int x)) h) := V_rz (by decide +kernel : decode (p_c 124) 46 = .ok (.ireturn, 1)) rfl
theorem m124 : Vm 124 [.ref a, .int x1] h Q = V 124 0 [some (.ref a), some (.int x1), none] [] h Q := rfl
theorem e125_0 : V 125 0 [some (.ref a), l1, l2] st h Q = V 125 1 [some (.ref a), l1, l2] (.ref a :: st) h Q := V_nx (by decide +kernel : decode (p_c 125) 0 = .ok (.aload_n 0, 1)) rfl rfl
theorem e125_1 : V 125 1 L (.ref a :: st) h Q = (p_ok1 [12] 3 (p_get h a) ∧ V 125 4 L (p_fv 3 (p_get h a) :: st) h Q) := V_gf (t := (3, 1, "WaterShouldersModel")) (by decide +kernel : decode (p_c 125) 1 = .ok (.getfield 16, 3)) (by decide +kernel)
theorem e125_4 : V 125 4 [some (.ref a), l1, l2] st h Q = V 125 5 [some (.ref a), l1, l2] (.ref a :: st) h Q := V_nx (by decide +kernel : decode (p_c 125) 4 = .ok (.aload_n 0, 1)) rfl rfl
theorem e125_5 : V 125 5 L (.ref a :: st) h Q = (p_ok1 [12] 10 (p_get h a) ∧ V 125 8 L (p_fv 10 (p_get h a) :: st) h Q) := V_gf (t := (3, 1, "WaterShouldersModel")) (by decide +kernel : decode (p_c 125) 5 = .ok (.getfield 28, 3)) (by decide +kernel)
theorem e125_8 : V 125 8 [l0, some (.int x), l2] st h Q = V 125 9 [l0, some (.int x), l2] (.int x :: st) h Q := V_nx (by decide +kernel : decode (p_c 125) 8 = .ok (.iload_n 1, 1)) rfl rfl
theorem e125_9 : V 125 9 L (.int i :: .ref a :: st) h Q = (p_iok i (p_get h a) ∧ V 125 10 L (.int (p_ivl i (p_get h a)) :: st) h Q) := V_ial (by decide +kernel : decode (p_c 125) 9 = .ok (.iaload, 1))
theorem e125_10 : V 125 10 L (.int i :: .ref a :: st) h Q = (p_iok i (p_get h a) ∧ V 125 11 L (.int (p_ivl i (p_get h a)) :: st) h Q) := V_ial (by decide +kernel : decode (p_c 125) 10 = .ok (.iaload, 1))
theorem e125_11 : V 125 11 [l0, l1, some (.int x)] st h Q = V 125 12 [l0, l1, some (.int x)] (.int x :: st) h Q := V_nx (by decide +kernel : decode (p_c 125) 11 = .ok (.iload_n 2, 1)) rfl rfl
theorem e125_12 : V 125 12 L (.int z :: .int x :: st) h Q = if x < z then V 125 35 L st h Q else V 125 15 L st h Q := (V_icmp (by decide +kernel : decode (p_c 125) 12 = .ok (.if_icmp .lt 23, 3)) (by decide)).trans i_lt
theorem e125_15 : V 125 15 [some (.ref a), l1, l2] st h Q = V 125 16 [some (.ref a), l1, l2] (.ref a :: st) h Q := V_nx (by decide +kernel : decode (p_c 125) 15 = .ok (.aload_n 0, 1)) rfl rfl
theorem e125_16 : V 125 16 L (.ref a :: st) h Q = (p_ok1 [12] 11 (p_get h a) ∧ V 125 19 L (p_fv 11 (p_get h a) :: st) h Q) := V_gf (t := (3, 1, "WaterShouldersModel")) (by decide +kernel : decode (p_c 125) 16 = .ok (.getfield 31, 3)) (by decide +kernel)
theorem e125_19 : V 125 19 [l0, some (.int x), l2] st h Q = V 125 20 [l0, some (.int x), l2] (.int x :: st) h Q := V_nx (by decide +kernel : decode (p_c 125) 19 = .ok (.iload_n 1, 1)) rfl rfl
theorem e125_20 : V 125 20 L (.int i :: .ref a :: st) h Q = (p_iok i (p_get h a) ∧ V 125 21 L (.int (p_ivl i (p_get h a)) :: st) h Q) := V_ial (by decide +kernel : decode (p_c 125) 20 = .ok (.iaload, 1))
theorem e125_21 : V 125 21 [l0, l1, some (.int x)] st h Q = V 125 22 [l0, l1, some (.int x)] (.int x :: st) h Q := V_nx (by decide +kernel : decode (p_c 125) 21 = .ok (.iload_n 2, 1)) rfl rfl
theorem e125_22 : V 125 22 L (.int z :: .int x :: st) h Q = V 125 23 L (.int (x + z) :: st) h Q := V_nx (by decide +kernel : decode (p_c 125) 22 = .ok (.iadd, 1)) rfl rfl
theorem e125_23 : V 125 23 [some (.ref a), l1, l2] st h Q = V 125 24 [some (.ref a), l1, l2] (.ref a :: st) h Q := V_nx (by decide +kernel : decode (p_c 125) 23 = .ok (.aload_n 0, 1)) rfl rfl
theorem e125_24 : V 125 24 [l0, some (.int x), l2] st h Q = V 125 25 [l0, some (.int x), l2] (.int x :: st) h Q := V_nx (by decide +kernel : decode (p_c 125) 24 = .ok (.iload_n 1, 1)) rfl rfl
theorem e125_25 : V 125 25 L (.int x1 :: .ref a :: st) h Q = ((p_cn1 (p_get h a) = 12 ∧ p_sm st) ∧ Vm 119 [.ref a, .int x1] h (Kt 125 28 L st Q)) := V_iv (n := 1) (as := [.int x1]) (ci := 12) (z := 119) (by decide +kernel : decode (p_c 125) 25 = .ok (.invokevirtual 134, 3)) (by decide +kernel) rfl rfl (by decide +kernel) rfl
theorem e125_28 : V 125 28 L (.int z :: .int x :: st) h Q = if z < x then V 125 35 L st h Q else V 125 31 L st h Q := (V_icmp (by decide +kernel : decode (p_c 125) 28 = .ok (.if_icmp .gt 7, 3)) (by decide)).trans i_gt
theorem e125_31 : V 125 31 L st h Q = V 125 32 L (.int 1 :: st) h Q := V_c (by decide +kernel : decode (p_c 125) 31 = .ok (.iconst 1, 1)) (by decide)
theorem e125_32 : V 125 32 L st h Q = V 125 36 L st h Q := V_goto (by decide +kernel : decode (p_c 125) 32 = .ok (.goto 4, 3)) (by decide)
theorem e125_35 : V 125 35 L st h Q = V 125 36 L (.int 0 :: st) h Q := V_c (by decide +kernel : decode (p_c 125) 35 = .ok (.iconst 0, 1)) (by decide)
theorem e125_36 : V 125 36 L [.int x] h Q = ((x = 0 ∨ x = 1) ∧ Q (some (.int x)) h) := V_rz (by decide +kernel : decode (p_c 125) 36 = .ok (.ireturn, 1)) rfl
theorem m125 : Vm 125 [.ref a, .int x1, .int x2] h Q = V 125 0 [some (.ref a), some (.int x1), some (.int x2)] [] h Q := rfl
theorem e126_0 : V 126 0 [some (.ref a), l1, l2] st h Q = V 126 1 [some (.ref a), l1, l2] (.ref a :: st) h Q := V_nx (by decide +kernel : decode (p_c 126) 0 = .ok (.aload_n 0, 1)) rfl rfl
theorem e126_1 : V 126 1 L (.ref a :: st) h Q = (p_ok1 [12] 11 (p_get h a) ∧ V 126 4 L (p_fv 11 (p_get h a) :: st) h Q) := V_gf (t := (3, 1, "WaterShouldersModel")) (by decide +kernel : decode (p_c 126) 1 = .ok (.getfield 31, 3)) (by decide +kernel)
theorem e126_4 : V 126 4 [l0, some (.int x), l2] st h Q = V 126 5 [l0, some (.int x), l2] (.int x :: st) h Q := V_nx (by decide +kernel : decode (p_c 126) 4 = .ok (.iload_n 1, 1)) rfl rfl
theorem e126_5 : V 126 5 L (.int i :: .ref a :: st) h Q = (p_iok i (p_get h a) ∧ V 126 6 L (.int (p_ivl i (p_get h a)) :: st) h Q) := V_ial (by decide +kernel : decode (p_c 126) 5 = .ok (.iaload, 1))
theorem e126_6 : V 126 6 L (.int x :: st) h Q = if 0 < x then V 126 9 L st h Q else V 126 28 L st h Q := (V_ifc (by decide +kernel : decode (p_c 126) 6 = .ok (.ifCond .le 22, 3)) (by decide)).trans i_le
theorem e126_9 : V 126 9 [some (.ref a), l1, l2] st h Q = V 126 10 [some (.ref a), l1, l2] (.ref a :: st) h Q := V_nx (by decide +kernel : decode (p_c 126) 9 = .ok (.aload_n 0, 1)) rfl rfl
theorem e126_10 : V 126 10 L (.ref a :: st) h Q = (p_ok1 [12] 10 (p_get h a) ∧ V 126 13 L (p_fv 10 (p_get h a) :: st) h Q) := V_gf (t := (3, 1, "WaterShouldersModel")) (by decide +kernel : decode (p_c 126) 10 = .ok (.getfield 28, 3)) (by decide +kernel)
theorem e126_13 : V 126 13 [l0, some (.int x), l2] st h Q = V 126 14 [l0, some (.int x), l2] (.int x :: st) h Q := V_nx (by decide +kernel : decode (p_c 126) 13 = .ok (.iload_n 1, 1)) rfl rfl
theorem e126_14 : V 126 14 L (.int i :: .ref a :: st) h Q = (p_iok i (p_get h a) ∧ V 126 15 L (.int (p_ivl i (p_get h a)) :: st) h Q) := V_ial (by decide +kernel : decode (p_c 126) 14 = .ok (.iaload, 1))
theorem e126_15 : V 126 15 [l0, l1, some (.int x)] st h Q = V 126 16 [l0, l1, some (.int x)] (.int x :: st) h Q := V_nx (by decide +kernel : decode (p_c 126) 15 = .ok (.iload_n 2, 1)) rfl rfl
theorem e126_16 : V 126 16 L (.int z :: .int x :: st) h Q = V 126 17 L (.int (x + z) :: st) h Q := V_nx (by decide +kernel : decode (p_c 126) 16 = .ok (.iadd, 1)) rfl rfl
theorem e126_17 : V 126 17 [some (.ref a), l1, l2] st h Q = V 126 18 [some (.ref a), l1, l2] (.ref a :: st) h Q := V_nx (by decide +kernel : decode (p_c 126) 17 = .ok (.aload_n 0, 1)) rfl rfl
theorem e126_18 : V 126 18 L (.ref a :: st) h Q = (p_ok1 [12] 0 (p_get h a) ∧ V 126 21 L (p_fv 0 (p_get h a) :: st) h Q) := V_gf (t := (0, 0, "WaterShouldersModel")) (by decide +kernel : decode (p_c 126) 18 = .ok (.getfield 104, 3)) (by decide +kernel)
theorem e126_21 : V 126 21 L (.int z :: .int x :: st) h Q = if x < z then V 126 24 L st h Q else V 126 28 L st h Q := (V_icmp (by decide +kernel : decode (p_c 126) 21 = .ok (.if_icmp .ge 7, 3)) (by decide)).trans i_ge
theorem e126_24 : V 126 24 L st h Q = V 126 25 L (.int 1 :: st) h Q := V_c (by decide +kernel : decode (p_c 126) 24 = .ok (.iconst 1, 1)) (by decide)
theorem e126_25 : V 126 25 L st h Q = V 126 29 L st h Q := V_goto (by decide +kernel : decode (p_c 126) 25 = .ok (.goto 4, 3)) (by decide)
theorem e126_28 : V 126 28 L st h Q = V 126 29 L (.int 0 :: st) h Q := V_c (by decide +kernel : decode (p_c 126) 28 = .ok (.iconst 0, 1)) (by decide)
theorem e126_29 : V 126 29 L [.int x] h Q = ((x = 0 ∨ x = 1) ∧ Q (some (.int x)) h) := V_rz (by decide +kernel : decode (p_c 126) 29 = .ok (.ireturn, 1)) rfl
theorem m126 : Vm 126 [.ref a, .int x1, .int x2] h Q = V 126 0 [some (.ref a), some (.int x1), some (.int x2)] [] h Q := rfl
theorem e127_0 : V 127 0 [some (.ref a), l1] st h Q = V 127 1 [some (.ref a), l1] (.ref a :: st) h Q := V_nx (by decide +kernel : decode (p_c 127) 0 = .ok (.aload_n 0, 1)) rfl rfl
theorem e127_1 : V 127 1 L (.ref a :: st) h Q = (p_ok1 [12] 11 (p_get h a) ∧ V 127 4 L (p_fv 11 (p_get h a) :: st) h Q) := V_gf (t := (3, 1, "WaterShouldersModel")) (by decide +kernel : decode (p_c 127) 1 = .ok (.getfield 31, 3)) (by decide +kernel)
theorem e127_4 : V 127 4 [l0, some (.int x)] st h Q = V 127 5 [l0, some (.int x)] (.int x :: st) h Q := V_nx (by decide +kernel : decode (p_c 127) 4 = .ok (.iload_n 1, 1)) rfl rfl
theorem e127_5 : V 127 5 L (.int i :: .ref a :: st) h Q = (p_iok i (p_get h a) ∧ V 127 6 L (.int (p_ivl i (p_get h a)) :: st) h Q) := V_ial (by decide +kernel : decode (p_c 127) 5 = .ok (.iaload, 1))
theorem e127_6 : V 127 6 L (.int x :: st) h Q = if x = 0 then V 127 9 L st h Q else V 127 22 L st h Q := (V_ifc (by decide +kernel : decode (p_c 127) 6 = .ok (.ifCond .ne 16, 3)) (by decide)).trans i_ne
theorem e127_9 : V 127 9 [some (.ref a), l1] st h Q = V 127 10 [some (.ref a), l1] (.ref a :: st) h Q := V_nx (by decide +kernel : decode (p_c 127) 9 = .ok (.aload_n 0, 1)) rfl rfl
theorem e127_10 : V 127 10 L (.ref a :: st) h Q = (p_ok1 [12] 10 (p_get h a) ∧ V 127 13 L (p_fv 10 (p_get h a) :: st) h Q) := V_gf (t := (3, 1, "WaterShouldersModel")) (by decide +kernel : decode (p_c 127) 10 = .ok (.getfield 28, 3)) (by decide +kernel)
theorem e127_13 : V 127 13 [l0, some (.int x)] st h Q = V 127 14 [l0, some (.int x)] (.int x :: st) h Q := V_nx (by decide +kernel : decode (p_c 127) 13 = .ok (.iload_n 1, 1)) rfl rfl
theorem e127_14 : V 127 14 L (.int i :: .ref a :: st) h Q = (p_iok i (p_get h a) ∧ V 127 15 L (.int (p_ivl i (p_get h a)) :: st) h Q) := V_ial (by decide +kernel : decode (p_c 127) 14 = .ok (.iaload, 1))
theorem e127_15 : V 127 15 L (.int x :: st) h Q = if 0 < x then V 127 18 L st h Q else V 127 22 L st h Q := (V_ifc (by decide +kernel : decode (p_c 127) 15 = .ok (.ifCond .le 7, 3)) (by decide)).trans i_le
theorem e127_18 : V 127 18 L st h Q = V 127 19 L (.int 1 :: st) h Q := V_c (by decide +kernel : decode (p_c 127) 18 = .ok (.iconst 1, 1)) (by decide)
theorem e127_19 : V 127 19 L st h Q = V 127 23 L st h Q := V_goto (by decide +kernel : decode (p_c 127) 19 = .ok (.goto 4, 3)) (by decide)
theorem e127_22 : V 127 22 L st h Q = V 127 23 L (.int 0 :: st) h Q := V_c (by decide +kernel : decode (p_c 127) 22 = .ok (.iconst 0, 1)) (by decide)
theorem e127_23 : V 127 23 L [.int x] h Q = ((x = 0 ∨ x = 1) ∧ Q (some (.int x)) h) := V_rz (by decide +kernel : decode (p_c 127) 23 = .ok (.ireturn, 1)) rfl
theorem m127 : Vm 127 [.ref a, .int x1] h Q = V 127 0 [some (.ref a), some (.int x1)] [] h Q := rfl
theorem e128_0 : V 128 0 [l0, l1, some (.int x), l3, l4, l5, l6] st h Q = V 128 1 [l0, l1, some (.int x), l3, l4, l5, l6] (.int x :: st) h Q := V_nx (by decide +kernel : decode (p_c 128) 0 = .ok (.iload_n 2, 1)) rfl rfl
theorem e128_1 : V 128 1 [l0, l1, l2, l3, l4, l5, l6] (.int x :: st) h Q = V 128 2 [l0, l1, p_dl l2, some (.int x), l4, l5, l6] st h Q := V_nx (by decide +kernel : decode (p_c 128) 1 = .ok (.istore_n 3, 1)) rfl rfl
theorem e128_2 : V 128 2 [l0, some (.int x), l2, l3, l4, l5, l6] st h Q = V 128 3 [l0, some (.int x), l2, l3, l4, l5, l6] (.int x :: st) h Q := V_nx (by decide +kernel : decode (p_c 128) 2 = .ok (.iload_n 1, 1)) rfl rfl
theorem e128_3 : V 128 3 [l0, l1, l2, l3, l4, l5, l6] (.int x :: st) h Q = V 128 5 [l0, l1, l2, p_dl l3, some (.int x), l5, l6] st h Q := V_nx (by decide +kernel : decode (p_c 128) 3 = .ok (.istore 4, 2)) rfl rfl
theorem e128_5 : V 128 5 [l0, l1, l2, l3, some (.int x), l5, l6] st h Q = V 128 7 [l0, l1, l2, l3, some (.int x), l5, l6] (.int x :: st) h Q := V_nx (by decide +kernel : decode (p_c 128) 5 = .ok (.iload 4, 2)) rfl rfl
theorem e128_7 : V 128 7 L (.int x :: st) h Q = if 0 < x then V 128 10 L st h Q else V 128 68 L st h Q := (V_ifc (by decide +kernel : decode (p_c 128) 7 = .ok (.ifCond .le 61, 3)) (by decide)).trans i_le
theorem e128_10 : V 128 10 [l0, l1, l2, some (.int x), l4, l5, l6] st h Q = V 128 11 [l0, l1, l2, some (.int x), l4, l5, l6] (.int x :: st) h Q := V_nx (by decide +kernel : decode (p_c 128) 10 = .ok (.iload_n 3, 1)) rfl rfl
theorem e128_11 : V 128 11 L (.int x :: st) h Q = if 0 < x then V 128 14 L st h Q else V 128 68 L st h Q := (V_ifc (by decide +kernel : decode (p_c 128) 11 = .ok (.ifCond .le 57, 3)) (by decide)).trans i_le
theorem e128_14 : V 128 14 [some (.ref a), l1, l2, l3, l4, l5, l6] st h Q = V 128 15 [some (.ref a), l1, l2, l3, l4, l5, l6] (.ref a :: st) h Q := V_nx (by decide +kernel : decode (p_c 128) 14 = .ok (.aload_n 0, 1)) rfl rfl
theorem e128_15 : V 128 15 L (.ref a :: st) h Q = (p_ok1 [12] 1 (p_get h a) ∧ V 128 18 L (p_fv 1 (p_get h a) :: st) h Q) := V_gf (t := (3, 1, "WaterShouldersModel")) (by decide +kernel : decode (p_c 128) 15 = .ok (.getfield 7, 3)) (by decide +kernel)
theorem e128_18 : V 128 18 [l0, l1, l2, l3, some (.int x), l5, l6] st h Q = V 128 20 [l0, l1, l2, l3, some (.int x), l5, l6] (.int x :: st) h Q := V_nx (by decide +kernel : decode (p_c 128) 18 = .ok (.iload 4, 2)) rfl rfl
theorem e128_20 : V 128 20 L (.int i :: .ref a :: st) h Q = (p_iok i (p_get h a) ∧ V 128 21 L (.int (p_ivl i (p_get h a)) :: st) h Q) := V_ial (by decide +kernel : decode (p_c 128) 20 = .ok (.iaload, 1))
theorem e128_21 : V 128 21 [some (.ref a), l1, l2, l3, l4, l5, l6] st h Q = V 128 22 [some (.ref a), l1, l2, l3, l4, l5, l6] (.ref a :: st) h Q := V_nx (by decide +kernel : decode (p_c 128) 21 = .ok (.aload_n 0, 1)) rfl rfl
theorem e128_22 : V 128 22 L (.ref a :: st) h Q = (p_ok1 [12] 3 (p_get h a) ∧ V 128 25 L (p_fv 3 (p_get h a) :: st) h Q) := V_gf (t := (3, 1, "WaterShouldersModel")) (by decide +kernel : decode (p_c 128) 22 = .ok (.getfield 16, 3)) (by decide +kernel)
theorem e128_25 : V 128 25 [l0, l1, l2, l3, some (.int x), l5, l6] st h Q = V 128 27 [l0, l1, l2, l3, some (.int x), l5, l6] (.int x :: st) h Q := V_nx (by decide +kernel : decode (p_c 128) 25 = .ok (.iload 4, 2)) rfl rfl
theorem e128_27 : V 128 27 L (.int i :: .ref a :: st) h Q = (p_iok i (p_get h a) ∧ V 128 28 L (.int (p_ivl i (p_get h a)) :: st) h Q) := V_ial (by decide +kernel : decode (p_c 128) 27 = .ok (.iaload, 1))
theorem e128_28 : V 128 28 L (.int z :: .int x :: st) h Q = V 128 29 L (.int (x - z) :: st) h Q := V_nx (by decide +kernel : decode (p_c 128) 28 = .ok (.isub, 1)) rfl rfl
theorem e128_29 : V 128 29 [l0, l1, l2, l3, l4, l5, l6] (.int x :: st) h Q = V 128 31 [l0, l1, l2, l3, p_dl l4, some (.int x), l6] st h Q := V_nx (by decide +kernel : decode (p_c 128) 29 = .ok (.istore 5, 2)) rfl rfl
theorem e128_31 : V 128 31 [l0, l1, l2, some (.int x), l4, l5, l6] st h Q = V 128 32 [l0, l1, l2, some (.int x), l4, l5, l6] (.int x :: st) h Q := V_nx (by decide +kernel : decode (p_c 128) 31 = .ok (.iload_n 3, 1)) rfl rfl
theorem e128_32 : V 128 32 [l0, l1, l2, l3, l4, some (.int x), l6] st h Q = V 128 34 [l0, l1, l2, l3, l4, some (.int x), l6] (.int x :: st) h Q := V_nx (by decide +kernel : decode (p_c 128) 32 = .ok (.iload 5, 2)) rfl rfl
theorem e128_34 : V 128 34 L (.int z :: .int x :: st) h Q = if x < z then V 128 37 L st h Q else V 128 41 L st h Q := (V_icmp (by decide +kernel : decode (p_c 128) 34 = .ok (.if_icmp .ge 7, 3)) (by decide)).trans i_ge
theorem e128_37 : V 128 37 [l0, l1, l2, some (.int x), l4, l5, l6] st h Q = V 128 38 [l0, l1, l2, some (.int x), l4, l5, l6] (.int x :: st) h Q := V_nx (by decide +kernel : decode (p_c 128) 37 = .ok (.iload_n 3, 1)) rfl rfl
theorem e128_38 : V 128 38 L st h Q = V 128 43 L st h Q := V_goto (by decide +kernel : decode (p_c 128) 38 = .ok (.goto 5, 3)) (by decide)
theorem e128_41 : V 128 41 [l0, l1, l2, l3, l4, some (.int x), l6] st h Q = V 128 43 [l0, l1, l2, l3, l4, some (.int x), l6] (.int x :: st) h Q := V_nx (by decide +kernel : decode (p_c 128) 41 = .ok (.iload 5, 2)) rfl rfl
theorem e128_43 : V 128 43 [l0, l1, l2, l3, l4, l5, l6] (.int x :: st) h Q = V 128 45 [l0, l1, l2, l3, l4, p_dl l5, some (.int x)] st h Q := V_nx (by decide +kernel : decode (p_c 128) 43 = .ok (.istore 6, 2)) rfl rfl
theorem e128_45 : V 128 45 [some (.ref a), l1, l2, l3, l4, l5, l6] st h Q = V 128 46 [some (.ref a), l1, l2, l3, l4, l5, l6] (.ref a :: st) h Q := V_nx (by decide +kernel : decode (p_c 128) 45 = .ok (.aload_n 0, 1)) rfl rfl
theorem e128_46 : V 128 46 L (.ref a :: st) h Q = (p_ok1 [12] 3 (p_get h a) ∧ V 128 49 L (p_fv 3 (p_get h a) :: st) h Q) := V_gf (t := (3, 1, "WaterShouldersModel")) (by decide +kernel : decode (p_c 128) 46 = .ok (.getfield 16, 3)) (by decide +kernel)
theorem e128_49 : V 128 49 [l0, l1, l2, l3, some (.int x), l5, l6] st h Q = V 128 51 [l0, l1, l2, l3, some (.int x), l5, l6] (.int x :: st) h Q := V_nx (by decide +kernel : decode (p_c 128) 49 = .ok (.iload 4, 2)) rfl rfl
theorem e128_51 : V 128 51 L (.int x :: .ref a :: st) h Q = V 128 52 L (.int x :: .ref a :: .int x :: .ref a :: st) h Q := V_nx (by decide +kernel : decode (p_c 128) 51 = .ok (.dup2, 1)) rfl rfl
theorem e128_52 : V 128 52 L (.int i :: .ref a :: st) h Q = (p_iok i (p_get h a) ∧ V 128 53 L (.int (p_ivl i (p_get h a)) :: st) h Q) := V_ial (by decide +kernel : decode (p_c 128) 52 = .ok (.iaload, 1))
theorem e128_53 : V 128 53 [l0, l1, l2, l3, l4, l5, some (.int x)] st h Q = V 128 55 [l0, l1, l2, l3, l4, l5, some (.int x)] (.int x :: st) h Q := V_nx (by decide +kernel : decode (p_c 128) 53 = .ok (.iload 6, 2)) rfl rfl
theorem e128_55 : V 128 55 L (.int z :: .int x :: st) h Q = V 128 56 L (.int (x + z) :: st) h Q := V_nx (by decide +kernel : decode (p_c 128) 55 = .ok (.iadd, 1)) rfl rfl
theorem e128_56 : V 128 56 L (.int x :: .int i :: .ref a :: st) h Q = (p_sok i (p_get h a) ∧ V 128 57 L st (p_set h a (p_ist i x (p_get h a))) Q) := V_ias (by decide +kernel : decode (p_c 128) 56 = .ok (.iastore, 1))
theorem e128_57 : V 128 57 [l0, l1, l2, some (.int x), l4, l5, l6] st h Q = V 128 58 [l0, l1, l2, some (.int x), l4, l5, l6] (.int x :: st) h Q := V_nx (by decide +kernel : decode (p_c 128) 57 = .ok (.iload_n 3, 1)) rfl rfl
theorem e128_58 : V 128 58 [l0, l1, l2, l3, l4, l5, some (.int x)] st h Q = V 128 60 [l0, l1, l2, l3, l4, l5, some (.int x)] (.int x :: st) h Q := V_nx (by decide +kernel : decode (p_c 128) 58 = .ok (.iload 6, 2)) rfl rfl
theorem e128_60 : V 128 60 L (.int z :: .int x :: st) h Q = V 128 61 L (.int (x - z) :: st) h Q := V_nx (by decide +kernel : decode (p_c 128) 60 = .ok (.isub, 1)) rfl rfl
theorem e128_61 : V 128 61 [l0, l1, l2, l3, l4, l5, l6] (.int x :: st) h Q = V 128 62 [l0, l1, p_dl l2, some (.int x), l4, l5, l6] st h Q := V_nx (by decide +kernel : decode (p_c 128) 61 = .ok (.istore_n 3, 1)) rfl rfl
theorem e128_62 : V 128 62 [l0, l1, l2, l3, some (.int x), l5, l6] st h Q = V 128 65 [l0, l1, l2, p_dl l3, some (.int (x + (-1))), l5, l6] st h Q := V_iinc (x := x) (by decide +kernel : decode (p_c 128) 62 = .ok (.iinc 4 (-1), 3)) (by decide) rfl (Nat.le_of_ble_eq_true rfl)
theorem e128_65 : V 128 65 L st h Q = V 128 5 L st h Q := V_goto (by decide +kernel : decode (p_c 128) 65 = .ok (.goto (-60), 3)) (by decide)
theorem e128_68 : V 128 68 [l0, l1, l2, some (.int x), l4, l5, l6] st h Q = V 128 69 [l0, l1, l2, some (.int x), l4, l5, l6] (.int x :: st) h Q := V_nx (by decide +kernel : decode (p_c 128) 68 = .ok (.iload_n 3, 1)) rfl rfl
theorem e128_69 : V 128 69 L [.int x] h Q = Q (some (.int x)) h := V_ri (by decide +kernel : decode (p_c 128) 69 = .ok (.ireturn, 1)) rfl
theorem m128 : Vm 128 [.ref a, .int x1, .int x2] h Q = V 128 0 [some (.ref a), some (.int x1), some (.int x2), none, none, none, none] [] h Q := rfl
theorem e129_0 : V 129 0 [some (.ref a), l1, l2] st h Q = V 129 1 [some (.ref a), l1, l2] (.ref a :: st) h Q := V_nx (by decide +kernel : decode (p_c 129) 0 = .ok (.aload_n 0, 1)) rfl rfl
theorem e129_1 : V 129 1 L (.ref a :: st) h Q = (p_ok1 [12] 11 (p_get h a) ∧ V 129 4 L (p_fv 11 (p_get h a) :: st) h Q) := V_gf (t := (3, 1, "WaterShouldersModel")) (by decide +kernel : decode (p_c 129) 1 = .ok (.getfield 31, 3)) (by decide +kernel)
theorem e129_4 : V 129 4 [l0, some (.int x), l2] st h Q = V 129 5 [l0, some (.int x), l2] (.int x :: st) h Q := V_nx (by decide +kernel : decode (p_c 129) 4 = .ok (.iload_n 1, 1)) rfl rfl
theorem e129_5 : V 129 5 L (.int x :: .ref a :: st) h Q = V 129 6 L (.int x :: .ref a :: .int x :: .ref a :: st) h Q := V_nx (by decide +kernel : decode (p_c 129) 5 = .ok (.dup2, 1)) rfl rfl
theorem e129_6 : V 129 6 L (.int i :: .ref a :: st) h Q = (p_iok i (p_get h a) ∧ V 129 7 L (.int (p_ivl i (p_get h a)) :: st) h Q) := V_ial (by decide +kernel : decode (p_c 129) 6 = .ok (.iaload, 1))
theorem e129_7 : V 129 7 [l0, l1, some (.int x)] st h Q = V 129 8 [l0, l1, some (.int x)] (.int x :: st) h Q := V_nx (by decide +kernel : decode (p_c 129) 7 = .ok (.iload_n 2, 1)) rfl rfl
theorem e129_8 : V 129 8 L (.int z :: .int x :: st) h Q = V 129 9 L (.int (x + z) :: st) h Q := V_nx (by decide +kernel : decode (p_c 129) 8 = .ok (.iadd, 1)) rfl rfl
theorem e129_9 : V 129 9 L (.int x :: .int i :: .ref a :: st) h Q = (p_sok i (p_get h a) ∧ V 129 10 L st (p_set h a (p_ist i x (p_get h a))) Q) := V_ias (by decide +kernel : decode (p_c 129) 9 = .ok (.iastore, 1))
theorem e129_10 : V 129 10 [some (.ref a), l1, l2] st h Q = V 129 11 [some (.ref a), l1, l2] (.ref a :: st) h Q := V_nx (by decide +kernel : decode (p_c 129) 10 = .ok (.aload_n 0, 1)) rfl rfl
theorem e129_11 : V 129 11 L (.ref a :: st) h Q = (p_ok1 [12] 3 (p_get h a) ∧ V 129 14 L (p_fv 3 (p_get h a) :: st) h Q) := V_gf (t := (3, 1, "WaterShouldersModel")) (by decide +kernel : decode (p_c 129) 11 = .ok (.getfield 16, 3)) (by decide +kernel)
theorem e129_14 : V 129 14 [some (.ref a), l1, l2] st h Q = V 129 15 [some (.ref a), l1, l2] (.ref a :: st) h Q := V_nx (by decide +kernel : decode (p_c 129) 14 = .ok (.aload_n 0, 1)) rfl rfl
theorem e129_15 : V 129 15 L (.ref a :: st) h Q = (p_ok1 [12] 10 (p_get h a) ∧ V 129 18 L (p_fv 10 (p_get h a) :: st) h Q) := V_gf (t := (3, 1, "WaterShouldersModel")) (by decide +kernel : decode (p_c 129) 15 = .ok (.getfield 28, 3)) (by decide +kernel)
theorem e129_18 : V 129 18 [l0, some (.int x), l2] st h Q = V 129 19 [l0, some (.int x), l2] (.int x :: st) h Q := V_nx (by decide +kernel : decode (p_c 129) 18 = .ok (.iload_n 1, 1)) rfl rfl
theorem e129_19 : V 129 19 L (.int i :: .ref a :: st) h Q = (p_iok i (p_get h a) ∧ V 129 20 L (.int (p_ivl i (p_get h a)) :: st) h Q) := V_ial (by decide +kernel : decode (p_c 129) 19 = .ok (.iaload, 1))
theorem e129_20 : V 129 20 L (.int x :: .ref a :: st) h Q = V 129 21 L (.int x :: .ref a :: .int x :: .ref a :: st) h Q := V_nx (by decide +kernel : decode (p_c 129) 20 = .ok (.dup2, 1)) rfl rfl
theorem e129_21 : V 129 21 L (.int i :: .ref a :: st) h Q = (p_iok i (p_get h a) ∧ V 129 22 L (.int (p_ivl i (p_get h a)) :: st) h Q) := V_ial (by decide +kernel : decode (p_c 129) 21 = .ok (.iaload, 1))
theorem e129_22 : V 129 22 [some (.ref a), l1, l2] st h Q = V 129 23 [some (.ref a), l1, l2] (.ref a :: st) h Q := V_nx (by decide +kernel : decode (p_c 129) 22 = .ok (.aload_n 0, 1)) rfl rfl
theorem e129_23 : V 129 23 L (.ref a :: st) h Q = (p_ok1 [12] 10 (p_get h a) ∧ V 129 26 L (p_fv 10 (p_get h a) :: st) h Q) := V_gf (t := (3, 1, "WaterShouldersModel")) (by decide +kernel : decode (p_c 129) 23 = .ok (.getfield 28, 3)) (by decide +kernel)
theorem e129_26 : V 129 26 [l0, some (.int x), l2] st h Q = V 129 27 [l0, some (.int x), l2] (.int x :: st) h Q := V_nx (by decide +kernel : decode (p_c 129) 26 = .ok (.iload_n 1, 1)) rfl rfl
theorem e129_27 : V 129 27 L (.int i :: .ref a :: st) h Q = (p_iok i (p_get h a) ∧ V 129 28 L (.int (p_ivl i (p_get h a)) :: st) h Q) := V_ial (by decide +kernel : decode (p_c 129) 27 = .ok (.iaload, 1))
theorem e129_28 : V 129 28 L (.int x :: st) h Q = if x = 0 then V 129 31 L st h Q else V 129 35 L st h Q := (V_ifc (by decide +kernel : decode (p_c 129) 28 = .ok (.ifCond .ne 7, 3)) (by decide)).trans i_ne
theorem e129_31 : V 129 31 L st h Q = V 129 32 L (.int 0 :: st) h Q := V_c (by decide +kernel : decode (p_c 129) 31 = .ok (.iconst 0, 1)) (by decide)
theorem e129_32 : V 129 32 L st h Q = V 129 36 L st h Q := V_goto (by decide +kernel : decode (p_c 129) 32 = .ok (.goto 4, 3)) (by decide)
theorem e129_35 : V 129 35 [l0, l1, some (.int x)] st h Q = V 129 36 [l0, l1, some (.int x)] (.int x :: st) h Q := V_nx (by decide +kernel : decode (p_c 129) 35 = .ok (.iload_n 2, 1)) rfl rfl
theorem e129_36 : V 129 36 L (.int z :: .int x :: st) h Q = V 129 37 L (.int (x - z) :: st) h Q := V_nx (by decide +kernel : decode (p_c 129) 36 = .ok (.isub, 1)) rfl rfl
theorem e129_37 : V 129 37 L (.int x :: .int i :: .ref a :: st) h Q = (p_sok i (p_get h a) ∧ V 129 38 L st (p_set h a (p_ist i x (p_get h a))) Q) := V_ias (by decide +kernel : decode (p_c 129) 37 = .ok (.iastore, 1))
theorem e129_38 : V 129 38 L [] h Q = Q none h := V_rv (by decide +kernel : decode (p_c 129) 38 = .ok (.return_, 1)) rfl
theorem m129 : Vm 129 [.ref a, .int x1, .int x2] h Q = V 129 0 [some (.ref a), some (.int x1), some (.int x2)] [] h Q := rfl
theorem e130_0 : V 130 0 [some (.ref a), l1, l2, l3] st h Q = V 130 1 [some (.ref a), l1, l2, l3] (.ref a :: st) h Q := V_nx (by decide +kernel : decode (p_c 130) 0 = .ok (.aload_n 0, 1)) rfl rfl
theorem e130_1 : V 130 1 L (.ref a :: st) h Q = (p_ok1 [12] 11 (p_get h a) ∧ V 130 4 L (p_fv 11 (p_get h a) :: st) h Q) := V_gf (t := (3, 1, "WaterShouldersModel")) (by decide +kernel : decode (p_c 130) 1 = .ok (.getfield 31, 3)) (by decide +kernel)
theorem e130_4 : V 130 4 [l0, some (.int x), l2, l3] st h Q = V 130 5 [l0, some (.int x), l2, l3] (.int x :: st) h Q := V_nx (by decide +kernel : decode (p_c 130) 4 = .ok (.iload_n 1, 1)) rfl rfl
theorem e130_5 : V 130 5 L (.int i :: .ref a :: st) h Q = (p_iok i (p_get h a) ∧ V 130 6 L (.int (p_ivl i (p_get h a)) :: st) h Q) := V_ial (by decide +kernel : decode (p_c 130) 5 = .ok (.iaload, 1))
theorem e130_6 : V 130 6 [l0, l1, l2, l3] (.int x :: st) h Q = V 130 7 [l0, l1, p_dl l2, some (.int x)] st h Q := V_nx (by decide +kernel : decode (p_c 130) 6 = .ok (.istore_n 3, 1)) rfl rfl
theorem e130_7 : V 130 7 [some (.ref a), l1, l2, l3] st h Q = V 130 8 [some (.ref a), l1, l2, l3] (.ref a :: st) h Q := V_nx (by decide +kernel : decode (p_c 130) 7 = .ok (.aload_n 0, 1)) rfl rfl
theorem e130_8 : V 130 8 L (.ref a :: st) h Q = (p_ok1 [12] 11 (p_get h a) ∧ V 130 11 L (p_fv 11 (p_get h a) :: st) h Q) := V_gf (t := (3, 1, "WaterShouldersModel")) (by decide +kernel : decode (p_c 130) 8 = .ok (.getfield 31, 3)) (by decide +kernel)
theorem e130_11 : V 130 11 [l0, some (.int x), l2, l3] st h Q = V 130 12 [l0, some (.int x), l2, l3] (.int x :: st) h Q := V_nx (by decide +kernel : decode (p_c 130) 11 = .ok (.iload_n 1, 1)) rfl rfl
theorem e130_12 : V 130 12 L st h Q = V 130 13 L (.int 0 :: st) h Q := V_c (by decide +kernel : decode (p_c 130) 12 = .ok (.iconst 0, 1)) (by decide)
theorem e130_13 : V 130 13 L (.int x :: .int i :: .ref a :: st) h Q = (p_sok i (p_get h a) ∧ V 130 14 L st (p_set h a (p_ist i x (p_get h a))) Q) := V_ias (by decide +kernel : decode (p_c 130) 13 = .ok (.iastore, 1))
theorem e130_14 : V 130 14 [some (.ref a), l1, l2, l3] st h Q = V 130 15 [some (.ref a), l1, l2, l3] (.ref a :: st) h Q := V_nx (by decide +kernel : decode (p_c 130) 14 = .ok (.aload_n 0, 1)) rfl rfl
theorem e130_15 : V 130 15 [some (.ref a), l1, l2, l3] st h Q = V 130 16 [some (.ref a), l1, l2, l3] (.ref a :: st) h Q := V_nx (by decide +kernel : decode (p_c 130) 15 = .ok (.aload_n 0, 1)) rfl rfl
theorem e130_16 : V 130 16 L (.ref a :: st) h Q = (p_ok1 [12] 10 (p_get h a) ∧ V 130 19 L (p_fv 10 (p_get h a) :: st) h Q) := V_gf (t := (3, 1, "WaterShouldersModel")) (by decide +kernel : decode (p_c 130) 16 = .ok (.getfield 28, 3)) (by decide +kernel)
theorem e130_19 : V 130 19 [l0, some (.int x), l2, l3] st h Q = V 130 20 [l0, some (.int x), l2, l3] (.int x :: st) h Q := V_nx (by decide +kernel : decode (p_c 130) 19 = .ok (.iload_n 1, 1)) rfl rfl
theorem e130_20 : V 130 20 L (.int i :: .ref a :: st) h Q = (p_iok i (p_get h a) ∧ V 130 21 L (.int (p_ivl i (p_get h a)) :: st) h Q) := V_ial (by decide +kernel : decode (p_c 130) 20 = .ok (.iaload, 1))
theorem e130_21 : V 130 21 [l0, l1, some (.int x), l3] st h Q = V 130 22 [l0, l1, some (.int x), l3] (.int x :: st) h Q := V_nx (by decide +kernel : decode (p_c 130) 21 = .ok (.iload_n 2, 1)) rfl rfl
theorem e130_22 : V 130 22 L (.int z :: .int x :: st) h Q = V 130 23 L (.int (x + z) :: st) h Q := V_nx (by decide +kernel : decode (p_c 130) 22 = .ok (.iadd, 1)) rfl rfl
theorem e130_23 : V 130 23 [l0, l1, l2, some (.int x)] st h Q = V 130 24 [l0, l1, l2, some (.int x)] (.int x :: st) h Q := V_nx (by decide +kernel : decode (p_c 130) 23 = .ok (.iload_n 3, 1)) rfl rfl
theorem e130_24 : V 130 24 L (.int x2 :: .int x1 :: .ref a :: st) h Q = ((p_cn1 (p_get h a) = 12 ∧ p_sm st) ∧ Vm 128 [.ref a, .int x1, .int x2] h (Kt 130 27 L st Q)) := V_iv (n := 2) (as := [.int x2, .int x1]) (ci := 12) (z := 128) (by decide +kernel : decode (p_c 130) 24 = .ok (.invokevirtual 146, 3)) (by decide +kernel) rfl rfl (by decide +kernel) rfl
theorem e130_27 : V 130 27 L [.int x] h Q = Q (some (.int x)) h := V_ri (by decide +kernel : decode (p_c 130) 27 = .ok (.ireturn, 1)) rfl
theorem m130 : Vm 130 [.ref a, .int x1, .int x2] h Q = V 130 0 [some (.ref a), some (.int x1), some (.int x2), none] [] h Q := rfl
theorem e131_0 : V 131 0 [some (.ref a), l1] st h Q = V 131 1 [some (.ref a), l1] (.ref a :: st) h Q := V_nx (by decide +kernel : decode (p_c 131) 0 = .ok (.aload_n 0, 1)) rfl rfl
theorem e131_1 : V 131 1 [l0, some (.int x)] st h Q = V 131 2 [l0, some (.int x)] (.int x :: st) h Q := V_nx (by decide +kernel : decode (p_c 131) 1 = .ok (.iload_n 1, 1)) rfl rfl
theorem e131_2 : V 131 2 L (.int x1 :: .ref a :: st) h Q = ((p_cn1 (p_get h a) = 12 ∧ p_sm st) ∧ Vm 115 [.ref a, .int x1] h (Kt 131 5 L st Q)) := V_iv (n := 1) (as := [.int x1]) (ci := 12) (z := 115) (by decide +kernel : decode (p_c 131) 2 = .ok (.invokevirtual 140, 3)) (by decide +kernel) rfl rfl (by decide +kernel) rfl
theorem e131_5 : V 131 5 L (.int x :: st) h Q = if x = 0 then V 131 8 L st h Q else V 131 11 L st h Q := (V_ifc (by decide +kernel : decode (p_c 131) 5 = .ok (.ifCond .ne 6, 3)) (by decide)).trans i_ne
theorem e131_8 : V 131 8 L st h Q = V 131 10 L (.int (-101) :: st) h Q := V_b (by decide +kernel : decode (p_c 131) 8 = .ok (.bipush (-101), 2)) (by decide)
theorem e131_10 : V 131 10 L [.int x] h Q = Q (some (.int x)) h := V_ri (by decide +kernel : decode (p_c 131) 10 = .ok (.ireturn, 1)) rfl
theorem e131_11 : V 131 11 [some (.ref a), l1] st h Q = V 131 12 [some (.ref a), l1] (.ref a :: st) h Q := V_nx (by decide +kernel : decode (p_c 131) 11 = .ok (.aload_n 0, 1)) rfl rfl
theorem e131_12 : V 131 12 [l0, some (.int x)] st h Q = V 131 13 [l0, some (.int x)] (.int x :: st) h Q := V_nx (by decide +kernel : decode (p_c 131) 12 = .ok (.iload_n 1, 1)) rfl rfl
theorem e131_13 : V 131 13 L (.int x1 :: .ref a :: st) h Q = ((p_cn1 (p_get h a) = 12 ∧ p_sm st) ∧ Vm 124 [.ref a, .int x1] h (Kt 131 16 L st Q)) := V_iv (n := 1) (as := [.int x1]) (ci := 12) (z := 124) (by decide +kernel : decode (p_c 131) 13 = .ok (.invokevirtual 149, 3)) (by decide +kernel) rfl rfl (by decide +kernel) rfl
theorem e131_16 : V 131 16 L (.int x :: st) h Q = if x = 0 then V 131 19 L st h Q else V 131 22 L st h Q := (V_ifc (by decide +kernel : decode (p_c 131) 16 = .ok (.ifCond .ne 6, 3)) (by decide)).trans i_ne
theorem e131_19 : V 131 19 L st h Q = V 131 21 L (.int (-103) :: st) h Q := V_b (by decide +kernel : decode (p_c 131) 19 = .ok (.bipush (-103), 2)) (by decide)
theorem e131_21 : V 131 21 L [.int x] h Q = Q (some (.int x)) h := V_ri (by decide +kernel : decode (p_c 131) 21 = .ok (.ireturn, 1)) rfl
theorem e131_22 : V 131 22 [some (.ref a), l1] st h Q = V 131 23 [some (.ref a), l1] (.ref a :: st) h Q := V_nx (by decide +kernel : decode (p_c 131) 22 = .ok (.aload_n 0, 1)) rfl rfl
theorem e131_23 : V 131 23 L (.ref a :: st) h Q = (p_ok1 [12] 10 (p_get h a) ∧ V 131 26 L (p_fv 10 (p_get h a) :: st) h Q) := V_gf (t := (3, 1, "WaterShouldersModel")) (by decide +kernel : decode (p_c 131) 23 = .ok (.getfield 28, 3)) (by decide +kernel)
theorem e131_26 : V 131 26 [l0, some (.int x)] st h Q = V 131 27 [l0, some (.int x)] (.int x :: st) h Q := V_nx (by decide +kernel : decode (p_c 131) 26 = .ok (.iload_n 1, 1)) rfl rfl
theorem e131_27 : V 131 27 L (.int x :: .ref a :: st) h Q = V 131 28 L (.int x :: .ref a :: .int x :: .ref a :: st) h Q := V_nx (by decide +kernel : decode (p_c 131) 27 = .ok (.dup2, 1)) rfl rfl
theorem e131_28 : V 131 28 L (.int i :: .ref a :: st) h Q = (p_iok i (p_get h a) ∧ V 131 29 L (.int (p_ivl i (p_get h a)) :: st) h Q) := V_ial (by decide +kernel : decode (p_c 131) 28 = .ok (.iaload, 1))
theorem e131_29 : V 131 29 L st h Q = V 131 30 L (.int 1 :: st) h Q := V_c (by decide +kernel : decode (p_c 131) 29 = .ok (.iconst 1, 1)) (by decide)
theorem e131_30 : V 131 30 L (.int z :: .int x :: st) h Q = V 131 31 L (.int (x + z) :: st) h Q := V_nx (by decide +kernel : decode (p_c 131) 30 = .ok (.iadd, 1)) rfl rfl
theorem e131_31 : V 131 31 L (.int x :: .int i :: .ref a :: st) h Q = (p_sok i (p_get h a) ∧ V 131 32 L st (p_set h a (p_ist i x (p_get h a))) Q) := V_ias (by decide +kernel : decode (p_c 131) 31 = .ok (.iastore, 1))
theorem e131_32 : V 131 32 [some (.ref a), l1] st h Q = V 131 33 [some (.ref a), l1] (.ref a :: st) h Q := V_nx (by decide +kernel : decode (p_c 131) 32 = .ok (.aload_n 0, 1)) rfl rfl
theorem e131_33 : V 131 33 L (.ref a :: st) h Q = (p_ok1 [12] 10 (p_get h a) ∧ V 131 36 L (p_fv 10 (p_get h a) :: st) h Q) := V_gf (t := (3, 1, "WaterShouldersModel")) (by decide +kernel : decode (p_c 131) 33 = .ok (.getfield 28, 3)) (by decide +kernel)
theorem e131_36 : V 131 36 [l0, some (.int x)] st h Q = V 131 37 [l0, some (.int x)] (.int x :: st) h Q := V_nx (by decide +kernel : decode (p_c 131) 36 = .ok (.iload_n 1, 1)) rfl rfl
theorem e131_37 : V 131 37 L (.int i :: .ref a :: st) h Q = (p_iok i (p_get h a) ∧ V 131 38 L (.int (p_ivl i (p_get h a)) :: st) h Q) := V_ial (by decide +kernel : decode (p_c 131) 37 = .ok (.iaload, 1))
theorem e131_38 : V 131 38 L [.int x] h Q = Q (some (.int x)) h := V_ri (by decide +kernel : decode (p_c 131) 38 = .ok (.ireturn, 1)) rfl
theorem m131 : Vm 131 [.ref a, .int x1] h Q = V 131 0 [some (.ref a), some (.int x1)] [] h Q := rfl
theorem e132_0 : V 132 0 [some (.ref a), l1, l2] st h Q = V 132 1 [some (.ref a), l1, l2] (.ref a :: st) h Q := V_nx (by decide +kernel : decode (p_c 132) 0 = .ok (.aload_n 0, 1)) rfl rfl
theorem e132_1 : V 132 1 [l0, some (.int x), l2] st h Q = V 132 2 [l0, some (.int x), l2] (.int x :: st) h Q := V_nx (by decide +kernel : decode (p_c 132) 1 = .ok (.iload_n 1, 1)) rfl rfl
theorem e132_2 : V 132 2 L (.int x1 :: .ref a :: st) h Q = ((p_cn1 (p_get h a) = 12 ∧ p_sm st) ∧ Vm 115 [.ref a, .int x1] h (Kt 132 5 L st Q)) := V_iv (n := 1) (as := [.int x1]) (ci := 12) (z := 115) (by decide +kernel : decode (p_c 132) 2 = .ok (.invokevirtual 140, 3)) (by decide +kernel) rfl rfl (by decide +kernel) rfl
theorem e132_5 : V 132 5 L (.int x :: st) h Q = if x = 0 then V 132 8 L st h Q else V 132 11 L st h Q := (V_ifc (by decide +kernel : decode (p_c 132) 5 = .ok (.ifCond .ne 6, 3)) (by decide)).trans i_ne
theorem e132_8 : V 132 8 L st h Q = V 132 10 L (.int (-101) :: st) h Q := V_b (by decide +kernel : decode (p_c 132) 8 = .ok (.bipush (-101), 2)) (by decide)
theorem e132_10 : V 132 10 L [.int x] h Q = Q (some (.int x)) h := V_ri (by decide +kernel : decode (p_c 132) 10 = .ok (.ireturn, 1)) rfl
theorem e132_11 : V 132 11 [l0, l1, some (.int x)] st h Q = V 132 12 [l0, l1, some (.int x)] (.int x :: st) h Q := V_nx (by decide +kernel : decode (p_c 132) 11 = .ok (.iload_n 2, 1)) rfl rfl
theorem e132_12 : V 132 12 L st h Q = V 132 13 L (.int 1 :: st) h Q := V_c (by decide +kernel : decode (p_c 132) 12 = .ok (.iconst 1, 1)) (by decide)
theorem e132_13 : V 132 13 L st h Q = V 132 15 L (.int 6 :: st) h Q := V_b (by decide +kernel : decode (p_c 132) 13 = .ok (.bipush 6, 2)) (by decide)
theorem e132_15 : V 132 15 L (.int x3 :: .int x2 :: .int x1 :: st) h Q = (p_sm st ∧ Vm 106 [.int x1, .int x2, .int x3] h (Kt 132 18 L st Q)) := V_st (n := 3) (as := [.int x3, .int x2, .int x1]) (z := 106) (by decide +kernel : decode (p_c 132) 15 = .ok (.invokestatic 90, 3)) (by decide +kernel) rfl (by decide +kernel) rfl
theorem e132_18 : V 132 18 L (.int x :: st) h Q = if x = 0 then V 132 21 L st h Q else V 132 24 L st h Q := (V_ifc (by decide +kernel : decode (p_c 132) 18 = .ok (.ifCond .ne 6, 3)) (by decide)).trans i_ne
theorem e132_21 : V 132 21 L st h Q = V 132 23 L (.int (-102) :: st) h Q := V_b (by decide +kernel : decode (p_c 132) 21 = .ok (.bipush (-102), 2)) (by decide)
theorem e132_23 : V 132 23 L [.int x] h Q = Q (some (.int x)) h := V_ri (by decide +kernel : decode (p_c 132) 23 = .ok (.ireturn, 1)) rfl
theorem e132_24 : V 132 24 [some (.ref a), l1, l2] st h Q = V 132 25 [some (.ref a), l1, l2] (.ref a :: st) h Q := V_nx (by decide +kernel : decode (p_c 132) 24 = .ok (.aload_n 0, 1)) rfl rfl
theorem e132_25 : V 132 25 [l0, some (.int x), l2] st h Q = V 132 26 [l0, some (.int x), l2] (.int x :: st) h Q := V_nx (by decide +kernel : decode (p_c 132) 25 = .ok (.iload_n 1, 1)) rfl rfl
theorem e132_26 : V 132 26 [l0, l1, some (.int x)] st h Q = V 132 27 [l0, l1, some (.int x)] (.int x :: st) h Q := V_nx (by decide +kernel : decode (p_c 132) 26 = .ok (.iload_n 2, 1)) rfl rfl
theorem e132_27 : V 132 27 L (.int x2 :: .int x1 :: .ref a :: st) h Q = ((p_cn1 (p_get h a) = 12 ∧ p_sm st) ∧ Vm 125 [.ref a, .int x1, .int x2] h (Kt 132 30 L st Q)) := V_iv (n := 2) (as := [.int x2, .int x1]) (ci := 12) (z := 125) (by decide +kernel : decode (p_c 132) 27 = .ok (.invokevirtual 152, 3)) (by decide +kernel) rfl rfl (by decide +kernel) rfl
theorem e132_30 : V 132 30 L (.int x :: st) h Q = if x = 0 then V 132 33 L st h Q else V 132 36 L st h Q := (V_ifc (by decide +kernel : decode (p_c 132) 30 = .ok (.ifCond .ne 6, 3)) (by decide)).trans i_ne
theorem e132_33 : V 132 33 L st h Q = V 132 35 L (.int (-103) :: st) h Q := V_b (by decide +kernel : decode (p_c 132) 33 = .ok (.bipush (-103), 2)) (by decide)
theorem e132_35 : V 132 35 L [.int x] h Q = Q (some (.int x)) h := V_ri (by decide +kernel : decode (p_c 132) 35 = .ok (.ireturn, 1)) rfl
theorem e132_36 : V 132 36 [some (.ref a), l1, l2] st h Q = V 132 37 [some (.ref a), l1, l2] (.ref a :: st) h Q := V_nx (by decide +kernel : decode (p_c 132) 36 = .ok (.aload_n 0, 1)) rfl rfl
theorem e132_37 : V 132 37 [l0, some (.int x), l2] st h Q = V 132 38 [l0, some (.int x), l2] (.int x :: st) h Q := V_nx (by decide +kernel : decode (p_c 132) 37 = .ok (.iload_n 1, 1)) rfl rfl
theorem e132_38 : V 132 38 [l0, l1, some (.int x)] st h Q = V 132 39 [l0, l1, some (.int x)] (.int x :: st) h Q := V_nx (by decide +kernel : decode (p_c 132) 38 = .ok (.iload_n 2, 1)) rfl rfl
theorem e132_39 : V 132 39 L (.int x2 :: .int x1 :: .ref a :: st) h Q = ((p_cn1 (p_get h a) = 12 ∧ p_sm st) ∧ Vm 129 [.ref a, .int x1, .int x2] h (Kt 132 42 L st Q)) := V_iv (n := 2) (as := [.int x2, .int x1]) (ci := 12) (z := 129) (by decide +kernel : decode (p_c 132) 39 = .ok (.invokevirtual 156, 3)) (by decide +kernel) rfl rfl (by decide +kernel) rfl
theorem e132_42 : V 132 42 [some (.ref a), l1, l2] st h Q = V 132 43 [some (.ref a), l1, l2] (.ref a :: st) h Q := V_nx (by decide +kernel : decode (p_c 132) 42 = .ok (.aload_n 0, 1)) rfl rfl
theorem e132_43 : V 132 43 L (.ref a :: st) h Q = (p_ok1 [12] 11 (p_get h a) ∧ V 132 46 L (p_fv 11 (p_get h a) :: st) h Q) := V_gf (t := (3, 1, "WaterShouldersModel")) (by decide +kernel : decode (p_c 132) 43 = .ok (.getfield 31, 3)) (by decide +kernel)
theorem e132_46 : V 132 46 [l0, some (.int x), l2] st h Q = V 132 47 [l0, some (.int x), l2] (.int x :: st) h Q := V_nx (by decide +kernel : decode (p_c 132) 46 = .ok (.iload_n 1, 1)) rfl rfl
theorem e132_47 : V 132 47 L (.int i :: .ref a :: st) h Q = (p_iok i (p_get h a) ∧ V 132 48 L (.int (p_ivl i (p_get h a)) :: st) h Q) := V_ial (by decide +kernel : decode (p_c 132) 47 = .ok (.iaload, 1))
theorem e132_48 : V 132 48 L [.int x] h Q = Q (some (.int x)) h := V_ri (by decide +kernel : decode (p_c 132) 48 = .ok (.ireturn, 1)) rfl
theorem m132 : Vm 132 [.ref a, .int x1, .int x2] h Q = V 132 0 [some (.ref a), some (.int x1), some (.int x2)] [] h Q := rfl
theorem e133_0 : V 133 0 [some (.ref a), l1, l2] st h Q = V 133 1 [some (.ref a), l1, l2] (.ref a :: st) h Q := V_nx (by decide +kernel : decode (p_c 133) 0 = .ok (.aload_n 0, 1)) rfl rfl
theorem e133_1 : V 133 1 [l0, some (.int x), l2] st h Q = V 133 2 [l0, some (.int x), l2] (.int x :: st) h Q := V_nx (by decide +kernel : decode (p_c 133) 1 = .ok (.iload_n 1, 1)) rfl rfl
theorem e133_2 : V 133 2 L (.int x1 :: .ref a :: st) h Q = ((p_cn1 (p_get h a) = 12 ∧ p_sm st) ∧ Vm 115 [.ref a, .int x1] h (Kt 133 5 L st Q)) := V_iv (n := 1) (as := [.int x1]) (ci := 12) (z := 115) (by decide +kernel : decode (p_c 133) 2 = .ok (.invokevirtual 140, 3)) (by decide +kernel) rfl rfl (by decide +kernel) rfl
theorem e133_5 : V 133 5 L (.int x :: st) h Q = if x = 0 then V 133 8 L st h Q else V 133 11 L st h Q := (V_ifc (by decide +kernel : decode (p_c 133) 5 = .ok (.ifCond .ne 6, 3)) (by decide)).trans i_ne
theorem e133_8 : V 133 8 L st h Q = V 133 10 L (.int (-101) :: st) h Q := V_b (by decide +kernel : decode (p_c 133) 8 = .ok (.bipush (-101), 2)) (by decide)
theorem e133_10 : V 133 10 L [.int x] h Q = Q (some (.int x)) h := V_ri (by decide +kernel : decode (p_c 133) 10 = .ok (.ireturn, 1)) rfl
theorem e133_11 : V 133 11 [l0, l1, some (.int x)] st h Q = V 133 12 [l0, l1, some (.int x)] (.int x :: st) h Q := V_nx (by decide +kernel : decode (p_c 133) 11 = .ok (.iload_n 2, 1)) rfl rfl
theorem e133_12 : V 133 12 L st h Q = V 133 13 L (.int 0 :: st) h Q := V_c (by decide +kernel : decode (p_c 133) 12 = .ok (.iconst 0, 1)) (by decide)
theorem e133_13 : V 133 13 L st h Q = V 133 14 L (.int 1 :: st) h Q := V_c (by decide +kernel : decode (p_c 133) 13 = .ok (.iconst 1, 1)) (by decide)
theorem e133_14 : V 133 14 L (.int x3 :: .int x2 :: .int x1 :: st) h Q = (p_sm st ∧ Vm 106 [.int x1, .int x2, .int x3] h (Kt 133 17 L st Q)) := V_st (n := 3) (as := [.int x3, .int x2, .int x1]) (z := 106) (by decide +kernel : decode (p_c 133) 14 = .ok (.invokestatic 90, 3)) (by decide +kernel) rfl (by decide +kernel) rfl
theorem e133_17 : V 133 17 L (.int x :: st) h Q = if x = 0 then V 133 20 L st h Q else V 133 23 L st h Q := (V_ifc (by decide +kernel : decode (p_c 133) 17 = .ok (.ifCond .ne 6, 3)) (by decide)).trans i_ne
theorem e133_20 : V 133 20 L st h Q = V 133 22 L (.int (-102) :: st) h Q := V_b (by decide +kernel : decode (p_c 133) 20 = .ok (.bipush (-102), 2)) (by decide)
theorem e133_22 : V 133 22 L [.int x] h Q = Q (some (.int x)) h := V_ri (by decide +kernel : decode (p_c 133) 22 = .ok (.ireturn, 1)) rfl
theorem e133_23 : V 133 23 [some (.ref a), l1, l2] st h Q = V 133 24 [some (.ref a), l1, l2] (.ref a :: st) h Q := V_nx (by decide +kernel : decode (p_c 133) 23 = .ok (.aload_n 0, 1)) rfl rfl
theorem e133_24 : V 133 24 [l0, some (.int x), l2] st h Q = V 133 25 [l0, some (.int x), l2] (.int x :: st) h Q := V_nx (by decide +kernel : decode (p_c 133) 24 = .ok (.iload_n 1, 1)) rfl rfl
theorem e133_25 : V 133 25 [l0, l1, some (.int x)] st h Q = V 133 26 [l0, l1, some (.int x)] (.int x :: st) h Q := V_nx (by decide +kernel : decode (p_c 133) 25 = .ok (.iload_n 2, 1)) rfl rfl
theorem e133_26 : V 133 26 L (.int x2 :: .int x1 :: .ref a :: st) h Q = ((p_cn1 (p_get h a) = 12 ∧ p_sm st) ∧ Vm 126 [.ref a, .int x1, .int x2] h (Kt 133 29 L st Q)) := V_iv (n := 2) (as := [.int x2, .int x1]) (ci := 12) (z := 126) (by decide +kernel : decode (p_c 133) 26 = .ok (.invokevirtual 160, 3)) (by decide +kernel) rfl rfl (by decide +kernel) rfl
theorem e133_29 : V 133 29 L (.int x :: st) h Q = if x = 0 then V 133 41 L st h Q else V 133 32 L st h Q := (V_ifc (by decide +kernel : decode (p_c 133) 29 = .ok (.ifCond .eq 12, 3)) (by decide)).trans i_eq
theorem e133_32 : V 133 32 [some (.ref a), l1, l2] st h Q = V 133 33 [some (.ref a), l1, l2] (.ref a :: st) h Q := V_nx (by decide +kernel : decode (p_c 133) 32 = .ok (.aload_n 0, 1)) rfl rfl
theorem e133_33 : V 133 33 [l0, some (.int x), l2] st h Q = V 133 34 [l0, some (.int x), l2] (.int x :: st) h Q := V_nx (by decide +kernel : decode (p_c 133) 33 = .ok (.iload_n 1, 1)) rfl rfl
theorem e133_34 : V 133 34 [l0, l1, some (.int x)] st h Q = V 133 35 [l0, l1, some (.int x)] (.int x :: st) h Q := V_nx (by decide +kernel : decode (p_c 133) 34 = .ok (.iload_n 2, 1)) rfl rfl
theorem e133_35 : V 133 35 L (.int x2 :: .int x1 :: .ref a :: st) h Q = ((p_cn1 (p_get h a) = 12 ∧ p_sm st) ∧ Vm 130 [.ref a, .int x1, .int x2] h (Kt 133 38 L st Q)) := V_iv (n := 2) (as := [.int x2, .int x1]) (ci := 12) (z := 130) (by decide +kernel : decode (p_c 133) 35 = .ok (.invokevirtual 163, 3)) (by decide +kernel) rfl rfl (by decide +kernel) rfl
theorem e133_38 : V 133 38 L st h Q = V 133 43 L st h Q := V_goto (by decide +kernel : decode (p_c 133) 38 = .ok (.goto 5, 3)) (by decide)
theorem e133_41 : V 133 41 L st h Q = V 133 43 L (.int (-103) :: st) h Q := V_b (by decide +kernel : decode (p_c 133) 41 = .ok (.bipush (-103), 2)) (by decide)
theorem e133_43 : V 133 43 L [.int x] h Q = Q (some (.int x)) h := V_ri (by decide +kernel : decode (p_c 133) 43 = .ok (.ireturn, 1)) rfl
theorem m133 : Vm 133 [.ref a, .int x1, .int x2] h Q = V 133 0 [some (.ref a), some (.int x1), some (.int x2)] [] h Q := rfl
theorem e134_0 : V 134 0 [some (.ref a), l1, l2] st h Q = V 134 1 [some (.ref a), l1, l2] (.ref a :: st) h Q := V_nx (by decide +kernel : decode (p_c 134) 0 = .ok (.aload_n 0, 1)) rfl rfl
theorem e134_1 : V 134 1 [l0, some (.int x), l2] st h Q = V 134 2 [l0, some (.int x), l2] (.int x :: st) h Q := V_nx (by decide +kernel : decode (p_c 134) 1 = .ok (.iload_n 1, 1)) rfl rfl
theorem e134_2 : V 134 2 L (.int x1 :: .ref a :: st) h Q = ((p_cn1 (p_get h a) = 12 ∧ p_sm st) ∧ Vm 115 [.ref a, .int x1] h (Kt 134 5 L st Q)) := V_iv (n := 1) (as := [.int x1]) (ci := 12) (z := 115) (by decide +kernel : decode (p_c 134) 2 = .ok (.invokevirtual 140, 3)) (by decide +kernel) rfl rfl (by decide +kernel) rfl
theorem e134_5 : V 134 5 L (.int x :: st) h Q = if x = 0 then V 134 8 L st h Q else V 134 11 L st h Q := (V_ifc (by decide +kernel : decode (p_c 134) 5 = .ok (.ifCond .ne 6, 3)) (by decide)).trans i_ne
theorem e134_8 : V 134 8 L st h Q = V 134 10 L (.int (-101) :: st) h Q := V_b (by decide +kernel : decode (p_c 134) 8 = .ok (.bipush (-101), 2)) (by decide)
theorem e134_10 : V 134 10 L [.int x] h Q = Q (some (.int x)) h := V_ri (by decide +kernel : decode (p_c 134) 10 = .ok (.ireturn, 1)) rfl
theorem e134_11 : V 134 11 [some (.ref a), l1, l2] st h Q = V 134 12 [some (.ref a), l1, l2] (.ref a :: st) h Q := V_nx (by decide +kernel : decode (p_c 134) 11 = .ok (.aload_n 0, 1)) rfl rfl
theorem e134_12 : V 134 12 [l0, some (.int x), l2] st h Q = V 134 13 [l0, some (.int x), l2] (.int x :: st) h Q := V_nx (by decide +kernel : decode (p_c 134) 12 = .ok (.iload_n 1, 1)) rfl rfl
theorem e134_13 : V 134 13 L (.int x1 :: .ref a :: st) h Q = ((p_cn1 (p_get h a) = 12 ∧ p_sm st) ∧ Vm 127 [.ref a, .int x1] h (Kt 134 16 L st Q)) := V_iv (n := 1) (as := [.int x1]) (ci := 12) (z := 127) (by decide +kernel : decode (p_c 134) 13 = .ok (.invokevirtual 166, 3)) (by decide +kernel) rfl rfl (by decide +kernel) rfl
theorem e134_16 : V 134 16 L (.int x :: st) h Q = if x = 0 then V 134 19 L st h Q else V 134 22 L st h Q := (V_ifc (by decide +kernel : decode (p_c 134) 16 = .ok (.ifCond .ne 6, 3)) (by decide)).trans i_ne
theorem e134_19 : V 134 19 L st h Q = V 134 21 L (.int (-103) :: st) h Q := V_b (by decide +kernel : decode (p_c 134) 19 = .ok (.bipush (-103), 2)) (by decide)
theorem e134_21 : V 134 21 L [.int x] h Q = Q (some (.int x)) h := V_ri (by decide +kernel : decode (p_c 134) 21 = .ok (.ireturn, 1)) rfl
theorem e134_22 : V 134 22 [some (.ref a), l1, l2] st h Q = V 134 23 [some (.ref a), l1, l2] (.ref a :: st) h Q := V_nx (by decide +kernel : decode (p_c 134) 22 = .ok (.aload_n 0, 1)) rfl rfl
theorem e134_23 : V 134 23 L (.ref a :: st) h Q = (p_ok1 [12] 10 (p_get h a) ∧ V 134 26 L (p_fv 10 (p_get h a) :: st) h Q) := V_gf (t := (3, 1, "WaterShouldersModel")) (by decide +kernel : decode (p_c 134) 23 = .ok (.getfield 28, 3)) (by decide +kernel)
theorem e134_26 : V 134 26 [l0, some (.int x), l2] st h Q = V 134 27 [l0, some (.int x), l2] (.int x :: st) h Q := V_nx (by decide +kernel : decode (p_c 134) 26 = .ok (.iload_n 1, 1)) rfl rfl
theorem e134_27 : V 134 27 L (.int i :: .ref a :: st) h Q = (p_iok i (p_get h a) ∧ V 134 28 L (.int (p_ivl i (p_get h a)) :: st) h Q) := V_ial (by decide +kernel : decode (p_c 134) 27 = .ok (.iaload, 1))
theorem e134_28 : V 134 28 [l0, l1, l2] (.int x :: st) h Q = V 134 29 [l0, p_dl l1, some (.int x)] st h Q := V_nx (by decide +kernel : decode (p_c 134) 28 = .ok (.istore_n 2, 1)) rfl rfl
theorem e134_29 : V 134 29 [some (.ref a), l1, l2] st h Q = V 134 30 [some (.ref a), l1, l2] (.ref a :: st) h Q := V_nx (by decide +kernel : decode (p_c 134) 29 = .ok (.aload_n 0, 1)) rfl rfl
theorem e134_30 : V 134 30 L (.ref a :: st) h Q = (p_ok1 [12] 10 (p_get h a) ∧ V 134 33 L (p_fv 10 (p_get h a) :: st) h Q) := V_gf (t := (3, 1, "WaterShouldersModel")) (by decide +kernel : decode (p_c 134) 30 = .ok (.getfield 28, 3)) (by decide +kernel)
theorem e134_33 : V 134 33 [l0, some (.int x), l2] st h Q = V 134 34 [l0, some (.int x), l2] (.int x :: st) h Q := V_nx (by decide +kernel : decode (p_c 134) 33 = .ok (.iload_n 1, 1)) rfl rfl
theorem e134_34 : V 134 34 L st h Q = V 134 35 L (.int 0 :: st) h Q := V_c (by decide +kernel : decode (p_c 134) 34 = .ok (.iconst 0, 1)) (by decide)
theorem e134_35 : V 134 35 L (.int x :: .int i :: .ref a :: st) h Q = (p_sok i (p_get h a) ∧ V 134 36 L st (p_set h a (p_ist i x (p_get h a))) Q) := V_ias (by decide +kernel : decode (p_c 134) 35 = .ok (.iastore, 1))
theorem e134_36 : V 134 36 [l0, l1, some (.int x)] st h Q = V 134 37 [l0, l1, some (.int x)] (.int x :: st) h Q := V_nx (by decide +kernel : decode (p_c 134) 36 = .ok (.iload_n 2, 1)) rfl rfl
theorem e134_37 : V 134 37 L [.int x] h Q = Q (some (.int x)) h := V_ri (by decide +kernel : decode (p_c 134) 37 = .ok (.ireturn, 1)) rfl
theorem m134 : Vm 134 [.ref a, .int x1] h Q = V 134 0 [some (.ref a), some (.int x1), none] [] h Q := rfl
theorem e135_0 : V 135 0 L st h Q = V 135 1 L (.int 0 :: st) h Q := V_c (by decide +kernel : decode (p_c 135) 0 = .ok (.iconst 0, 1)) (by decide)
theorem e135_1 : V 135 1 [l0, l1, l2] (.int x :: st) h Q = V 135 2 [p_dl l0, some (.int x), l2] st h Q := V_nx (by decide +kernel : decode (p_c 135) 1 = .ok (.istore_n 1, 1)) rfl rfl
theorem e135_2 : V 135 2 L st h Q = V 135 3 L (.int 1 :: st) h Q := V_c (by decide +kernel : decode (p_c 135) 2 = .ok (.iconst 1, 1)) (by decide)
theorem e135_3 : V 135 3 [l0, l1, l2] (.int x :: st) h Q = V 135 4 [l0, p_dl l1, some (.int x)] st h Q := V_nx (by decide +kernel : decode (p_c 135) 3 = .ok (.istore_n 2, 1)) rfl rfl
theorem e135_4 : V 135 4 [l0, l1, some (.int x)] st h Q = V 135 5 [l0, l1, some (.int x)] (.int x :: st) h Q := V_nx (by decide +kernel : decode (p_c 135) 4 = .ok (.iload_n 2, 1)) rfl rfl
theorem e135_5 : V 135 5 [some (.ref a), l1, l2] st h Q = V 135 6 [some (.ref a), l1, l2] (.ref a :: st) h Q := V_nx (by decide +kernel : decode (p_c 135) 5 = .ok (.aload_n 0, 1)) rfl rfl
theorem e135_6 : V 135 6 L (.ref a :: st) h Q = (p_ok1 [12] 0 (p_get h a) ∧ V 135 9 L (p_fv 0 (p_get h a) :: st) h Q) := V_gf (t := (0, 0, "WaterShouldersModel")) (by decide +kernel : decode (p_c 135) 6 = .ok (.getfield 104, 3)) (by decide +kernel)
theorem e135_9 : V 135 9 L (.int z :: .int x :: st) h Q = if x < z then V 135 12 L st h Q else V 135 27 L st h Q := (V_icmp (by decide +kernel : decode (p_c 135) 9 = .ok (.if_icmp .ge 18, 3)) (by decide)).trans i_ge
theorem e135_12 : V 135 12 [l0, some (.int x), l2] st h Q = V 135 13 [l0, some (.int x), l2] (.int x :: st) h Q := V_nx (by decide +kernel : decode (p_c 135) 12 = .ok (.iload_n 1, 1)) rfl rfl
theorem e135_13 : V 135 13 [some (.ref a), l1, l2] st h Q = V 135 14 [some (.ref a), l1, l2] (.ref a :: st) h Q := V_nx (by decide +kernel : decode (p_c 135) 13 = .ok (.aload_n 0, 1)) rfl rfl
theorem e135_14 : V 135 14 L (.ref a :: st) h Q = (p_ok1 [12] 3 (p_get h a) ∧ V 135 17 L (p_fv 3 (p_get h a) :: st) h Q) := V_gf (t := (3, 1, "WaterShouldersModel")) (by decide +kernel : decode (p_c 135) 14 = .ok (.getfield 16, 3)) (by decide +kernel)
theorem e135_17 : V 135 17 [l0, l1, some (.int x)] st h Q = V 135 18 [l0, l1, some (.int x)] (.int x :: st) h Q := V_nx (by decide +kernel : decode (p_c 135) 17 = .ok (.iload_n 2, 1)) rfl rfl
theorem e135_18 : V 135 18 L (.int i :: .ref a :: st) h Q = (p_iok i (p_get h a) ∧ V 135 19 L (.int (p_ivl i (p_get h a)) :: st) h Q) := V_ial (by decide +kernel : decode (p_c 135) 18 = .ok (.iaload, 1))
theorem e135_19 : V 135 19 L (.int z :: .int x :: st) h Q = V 135 20 L (.int (x + z) :: st) h Q := V_nx (by decide +kernel : decode (p_c 135) 19 = .ok (.iadd, 1)) rfl rfl
theorem e135_20 : V 135 20 [l0, l1, l2] (.int x :: st) h Q = V 135 21 [p_dl l0, some (.int x), l2] st h Q := V_nx (by decide +kernel : decode (p_c 135) 20 = .ok (.istore_n 1, 1)) rfl rfl
theorem e135_21 : V 135 21 [l0, l1, some (.int x)] st h Q = V 135 24 [l0, p_dl l1, some (.int (x + 1))] st h Q := V_iinc (x := x) (by decide +kernel : decode (p_c 135) 21 = .ok (.iinc 2 1, 3)) (by decide) rfl (Nat.le_of_ble_eq_true rfl)
theorem e135_24 : V 135 24 L st h Q = V 135 4 L st h Q := V_goto (by decide +kernel : decode (p_c 135) 24 = .ok (.goto (-20), 3)) (by decide)
theorem e135_27 : V 135 27 [l0, some (.int x), l2] st h Q = V 135 28 [l0, some (.int x), l2] (.int x :: st) h Q := V_nx (by decide +kernel : decode (p_c 135) 27 = .ok (.iload_n 1, 1)) rfl rfl
theorem e135_28 : V 135 28 L [.int x] h Q = Q (some (.int x)) h := V_ri (by decide +kernel : decode (p_c 135) 28 = .ok (.ireturn, 1)) rfl
theorem m135 : Vm 135 [.ref a] h Q = V 135 0 [some (.ref a), none, none] [] h Q := rfl
theorem e136_0 : V 136 0 [some (.ref a), l1, l2] st h Q = V 136 1 [some (.ref a), l1, l2] (.ref a :: st) h Q := V_nx (by decide +kernel : decode (p_c 136) 0 = .ok (.aload_n 0, 1)) rfl rfl
theorem e136_1 : V 136 1 [some (.ref a), l1, l2] st h Q = V 136 2 [some (.ref a), l1, l2] (.ref a :: st) h Q := V_nx (by decide +kernel : decode (p_c 136) 1 = .ok (.aload_n 0, 1)) rfl rfl
theorem e136_2 : V 136 2 L (.ref a :: st) h Q = (p_ok1 [12] 0 (p_get h a) ∧ V 136 5 L (p_fv 0 (p_get h a) :: st) h Q) := V_gf (t := (0, 0, "WaterShouldersModel")) (by decide +kernel : decode (p_c 136) 2 = .ok (.getfield 104, 3)) (by decide +kernel)
theorem e136_5 : V 136 5 L st h Q = V 136 6 L (.int 1 :: st) h Q := V_c (by decide +kernel : decode (p_c 136) 5 = .ok (.iconst 1, 1)) (by decide)
theorem e136_6 : V 136 6 L (.int z :: .int x :: st) h Q = V 136 7 L (.int (x - z) :: st) h Q := V_nx (by decide +kernel : decode (p_c 136) 6 = .ok (.isub, 1)) rfl rfl
theorem e136_7 : V 136 7 [l0, some (.int x), l2] st h Q = V 136 8 [l0, some (.int x), l2] (.int x :: st) h Q := V_nx (by decide +kernel : decode (p_c 136) 7 = .ok (.iload_n 1, 1)) rfl rfl
theorem e136_8 : V 136 8 L (.int x2 :: .int x1 :: .ref a :: st) h Q = ((p_cn1 (p_get h a) = 12 ∧ p_sm st) ∧ Vm 128 [.ref a, .int x1, .int x2] h (Kt 136 11 L st Q)) := V_iv (n := 2) (as := [.int x2, .int x1]) (ci := 12) (z := 128) (by decide +kernel : decode (p_c 136) 8 = .ok (.invokevirtual 146, 3)) (by decide +kernel) rfl rfl (by decide +kernel) rfl
theorem e136_11 : V 136 11 L (.int x :: st) h Q = V 136 12 L st h Q := V_nx (by decide +kernel : decode (p_c 136) 11 = .ok (.pop, 1)) rfl rfl
theorem e136_12 : V 136 12 L st h Q = V 136 13 L (.int 1 :: st) h Q := V_c (by decide +kernel : decode (p_c 136) 12 = .ok (.iconst 1, 1)) (by decide)
theorem e136_13 : V 136 13 [l0, l1, l2] (.int x :: st) h Q = V 136 14 [l0, p_dl l1, some (.int x)] st h Q := V_nx (by decide +kernel : decode (p_c 136) 13 = .ok (.istore_n 2, 1)) rfl rfl
theorem e136_14 : V 136 14 [l0, l1, some (.int x)] st h Q = V 136 15 [l0, l1, some (.int x)] (.int x :: st) h Q := V_nx (by decide +kernel : decode (p_c 136) 14 = .ok (.iload_n 2, 1)) rfl rfl
theorem e136_15 : V 136 15 [some (.ref a), l1, l2] st h Q = V 136 16 [some (.ref a), l1, l2] (.ref a :: st) h Q := V_nx (by decide +kernel : decode (p_c 136) 15 = .ok (.aload_n 0, 1)) rfl rfl
theorem e136_16 : V 136 16 L (.ref a :: st) h Q = (p_ok1 [12] 0 (p_get h a) ∧ V 136 19 L (p_fv 0 (p_get h a) :: st) h Q) := V_gf (t := (0, 0, "WaterShouldersModel")) (by decide +kernel : decode (p_c 136) 16 = .ok (.getfield 104, 3)) (by decide +kernel)
theorem e136_19 : V 136 19 L (.int z :: .int x :: st) h Q = if x < z then V 136 22 L st h Q else V 136 66 L st h Q := (V_icmp (by decide +kernel : decode (p_c 136) 19 = .ok (.if_icmp .ge 47, 3)) (by decide)).trans i_ge
theorem e136_22 : V 136 22 [some (.ref a), l1, l2] st h Q = V 136 23 [some (.ref a), l1, l2] (.ref a :: st) h Q := V_nx (by decide +kernel : decode (p_c 136) 22 = .ok (.aload_n 0, 1)) rfl rfl
theorem e136_23 : V 136 23 L (.ref a :: st) h Q = (p_ok1 [12] 3 (p_get h a) ∧ V 136 26 L (p_fv 3 (p_get h a) :: st) h Q) := V_gf (t := (3, 1, "WaterShouldersModel")) (by decide +kernel : decode (p_c 136) 23 = .ok (.getfield 16, 3)) (by decide +kernel)
theorem e136_26 : V 136 26 [l0, l1, some (.int x)] st h Q = V 136 27 [l0, l1, some (.int x)] (.int x :: st) h Q := V_nx (by decide +kernel : decode (p_c 136) 26 = .ok (.iload_n 2, 1)) rfl rfl
theorem e136_27 : V 136 27 [some (.ref a), l1, l2] st h Q = V 136 28 [some (.ref a), l1, l2] (.ref a :: st) h Q := V_nx (by decide +kernel : decode (p_c 136) 27 = .ok (.aload_n 0, 1)) rfl rfl
theorem e136_28 : V 136 28 L (.ref a :: st) h Q = (p_ok1 [12] 3 (p_get h a) ∧ V 136 31 L (p_fv 3 (p_get h a) :: st) h Q) := V_gf (t := (3, 1, "WaterShouldersModel")) (by decide +kernel : decode (p_c 136) 28 = .ok (.getfield 16, 3)) (by decide +kernel)
theorem e136_31 : V 136 31 [l0, l1, some (.int x)] st h Q = V 136 32 [l0, l1, some (.int x)] (.int x :: st) h Q := V_nx (by decide +kernel : decode (p_c 136) 31 = .ok (.iload_n 2, 1)) rfl rfl
theorem e136_32 : V 136 32 L (.int i :: .ref a :: st) h Q = (p_iok i (p_get h a) ∧ V 136 33 L (.int (p_ivl i (p_get h a)) :: st) h Q) := V_ial (by decide +kernel : decode (p_c 136) 32 = .ok (.iaload, 1))
theorem e136_33 : V 136 33 [some (.ref a), l1, l2] st h Q = V 136 34 [some (.ref a), l1, l2] (.ref a :: st) h Q := V_nx (by decide +kernel : decode (p_c 136) 33 = .ok (.aload_n 0, 1)) rfl rfl
theorem e136_34 : V 136 34 L (.ref a :: st) h Q = (p_ok1 [12] 2 (p_get h a) ∧ V 136 37 L (p_fv 2 (p_get h a) :: st) h Q) := V_gf (t := (3, 1, "WaterShouldersModel")) (by decide +kernel : decode (p_c 136) 34 = .ok (.getfield 13, 3)) (by decide +kernel)
theorem e136_37 : V 136 37 [l0, l1, some (.int x)] st h Q = V 136 38 [l0, l1, some (.int x)] (.int x :: st) h Q := V_nx (by decide +kernel : decode (p_c 136) 37 = .ok (.iload_n 2, 1)) rfl rfl
theorem e136_38 : V 136 38 L (.int i :: .ref a :: st) h Q = (p_iok i (p_get h a) ∧ V 136 39 L (.int (p_ivl i (p_get h a)) :: st) h Q) := V_ial (by decide +kernel : decode (p_c 136) 38 = .ok (.iaload, 1))
theorem e136_39 : V 136 39 L (.int z :: .int x :: st) h Q = if z < x then V 136 42 L st h Q else V 136 58 L st h Q := (V_icmp (by decide +kernel : decode (p_c 136) 39 = .ok (.if_icmp .le 19, 3)) (by decide)).trans i_le
theorem e136_42 : V 136 42 [some (.ref a), l1, l2] st h Q = V 136 43 [some (.ref a), l1, l2] (.ref a :: st) h Q := V_nx (by decide +kernel : decode (p_c 136) 42 = .ok (.aload_n 0, 1)) rfl rfl
theorem e136_43 : V 136 43 L (.ref a :: st) h Q = (p_ok1 [12] 3 (p_get h a) ∧ V 136 46 L (p_fv 3 (p_get h a) :: st) h Q) := V_gf (t := (3, 1, "WaterShouldersModel")) (by decide +kernel : decode (p_c 136) 43 = .ok (.getfield 16, 3)) (by decide +kernel)
theorem e136_46 : V 136 46 [l0, l1, some (.int x)] st h Q = V 136 47 [l0, l1, some (.int x)] (.int x :: st) h Q := V_nx (by decide +kernel : decode (p_c 136) 46 = .ok (.iload_n 2, 1)) rfl rfl
theorem e136_47 : V 136 47 L (.int i :: .ref a :: st) h Q = (p_iok i (p_get h a) ∧ V 136 48 L (.int (p_ivl i (p_get h a)) :: st) h Q) := V_ial (by decide +kernel : decode (p_c 136) 47 = .ok (.iaload, 1))
theorem e136_48 : V 136 48 [some (.ref a), l1, l2] st h Q = V 136 49 [some (.ref a), l1, l2] (.ref a :: st) h Q := V_nx (by decide +kernel : decode (p_c 136) 48 = .ok (.aload_n 0, 1)) rfl rfl
theorem e136_49 : V 136 49 L (.ref a :: st) h Q = (p_ok1 [12] 2 (p_get h a) ∧ V 136 52 L (p_fv 2 (p_get h a) :: st) h Q) := V_gf (t := (3, 1, "WaterShouldersModel")) (by decide +kernel : decode (p_c 136) 49 = .ok (.getfield 13, 3)) (by decide +kernel)
theorem e136_52 : V 136 52 [l0, l1, some (.int x)] st h Q = V 136 53 [l0, l1, some (.int x)] (.int x :: st) h Q := V_nx (by decide +kernel : decode (p_c 136) 52 = .ok (.iload_n 2, 1)) rfl rfl
theorem e136_53 : V 136 53 L (.int i :: .ref a :: st) h Q = (p_iok i (p_get h a) ∧ V 136 54 L (.int (p_ivl i (p_get h a)) :: st) h Q) := V_ial (by decide +kernel : decode (p_c 136) 53 = .ok (.iaload, 1))
theorem e136_54 : V 136 54 L (.int z :: .int x :: st) h Q = V 136 55 L (.int (x - z) :: st) h Q := V_nx (by decide +kernel : decode (p_c 136) 54 = .ok (.isub, 1)) rfl rfl
theorem e136_55 : V 136 55 L st h Q = V 136 59 L st h Q := V_goto (by decide +kernel : decode (p_c 136) 55 = .ok (.goto 4, 3)) (by decide)
theorem e136_58 : V 136 58 L st h Q = V 136 59 L (.int 0 :: st) h Q := V_c (by decide +kernel : decode (p_c 136) 58 = .ok (.iconst 0, 1)) (by decide)
theorem e136_59 : V 136 59 L (.int x :: .int i :: .ref a :: st) h Q = (p_sok i (p_get h a) ∧ V 136 60 L st (p_set h a (p_ist i x (p_get h a))) Q) := V_ias (by decide +kernel : decode (p_c 136) 59 = .ok (.iastore, 1))
theorem e136_60 : V 136 60 [l0, l1, some (.int x)] st h Q = V 136 63 [l0, p_dl l1, some (.int (x + 1))] st h Q := V_iinc (x := x) (by decide +kernel : decode (p_c 136) 60 = .ok (.iinc 2 1, 3)) (by decide) rfl (Nat.le_of_ble_eq_true rfl)
theorem e136_63 : V 136 63 L st h Q = V 136 14 L st h Q := V_goto (by decide +kernel : decode (p_c 136) 63 = .ok (.goto (-49), 3)) (by decide)
theorem e136_66 : V 136 66 L [] h Q = Q none h := V_rv (by decide +kernel : decode (p_c 136) 66 = .ok (.return_, 1)) rfl
theorem m136 : Vm 136 [.ref a, .int x1] h Q = V 136 0 [some (.ref a), some (.int x1), none] [] h Q := rfl
theorem e137_0 : V 137 0 [l0, some (.int x)] st h Q = V 137 1 [l0, some (.int x)] (.int x :: st) h Q := V_nx (by decide +kernel : decode (p_c 137) 0 = .ok (.iload_n 1, 1)) rfl rfl
theorem e137_1 : V 137 1 L st h Q = V 137 2 L (.int 0 :: st) h Q := V_c (by decide +kernel : decode (p_c 137) 1 = .ok (.iconst 0, 1)) (by decide)
theorem e137_2 : V 137 2 L st h Q = V 137 4 L (.int 9 :: st) h Q := V_b (by decide +kernel : decode (p_c 137) 2 = .ok (.bipush 9, 2)) (by decide)
theorem e137_4 : V 137 4 L (.int x3 :: .int x2 :: .int x1 :: st) h Q = (p_sm st ∧ Vm 106 [.int x1, .int x2, .int x3] h (Kt 137 7 L st Q)) := V_st (n := 3) (as := [.int x3, .int x2, .int x1]) (z := 106) (by decide +kernel : decode (p_c 137) 4 = .ok (.invokestatic 90, 3)) (by decide +kernel) rfl (by decide +kernel) rfl
theorem e137_7 : V 137 7 L (.int x :: st) h Q = if x = 0 then V 137 10 L st h Q else V 137 13 L st h Q := (V_ifc (by decide +kernel : decode (p_c 137) 7 = .ok (.ifCond .ne 6, 3)) (by decide)).trans i_ne
theorem e137_10 : V 137 10 L st h Q = V 137 12 L (.int (-102) :: st) h Q := V_b (by decide +kernel : decode (p_c 137) 10 = .ok (.bipush (-102), 2)) (by decide)
theorem e137_12 : V 137 12 L [.int x] h Q = Q (some (.int x)) h := V_ri (by decide +kernel : decode (p_c 137) 12 = .ok (.ireturn, 1)) rfl
theorem e137_13 : V 137 13 [some (.ref a), l1] st h Q = V 137 14 [some (.ref a), l1] (.ref a :: st) h Q := V_nx (by decide +kernel : decode (p_c 137) 13 = .ok (.aload_n 0, 1)) rfl rfl
theorem e137_14 : V 137 14 L (.ref a :: st) h Q = (p_ok1 [12] 0 (p_get h a) ∧ V 137 17 L (p_fv 0 (p_get h a) :: st) h Q) := V_gf (t := (0, 0, "WaterShouldersModel")) (by decide +kernel : decode (p_c 137) 14 = .ok (.getfield 104, 3)) (by decide +kernel)
theorem e137_17 : V 137 17 L (.int x :: st) h Q = if x = 0 then V 137 20 L st h Q else V 137 23 L st h Q := (V_ifc (by decide +kernel : decode (p_c 137) 17 = .ok (.ifCond .ne 6, 3)) (by decide)).trans i_ne
theorem e137_20 : V 137 20 L st h Q = V 137 22 L (.int (-103) :: st) h Q := V_b (by decide +kernel : decode (p_c 137) 20 = .ok (.bipush (-103), 2)) (by decide)
theorem e137_22 : V 137 22 L [.int x] h Q = Q (some (.int x)) h := V_ri (by decide +kernel : decode (p_c 137) 22 = .ok (.ireturn, 1)) rfl
theorem e137_23 : V 137 23 [some (.ref a), l1] st h Q = V 137 24 [some (.ref a), l1] (.ref a :: st) h Q := V_nx (by decide +kernel : decode (p_c 137) 23 = .ok (.aload_n 0, 1)) rfl rfl
theorem e137_24 : V 137 24 [l0, some (.int x)] st h Q = V 137 25 [l0, some (.int x)] (.int x :: st) h Q := V_nx (by decide +kernel : decode (p_c 137) 24 = .ok (.iload_n 1, 1)) rfl rfl
theorem e137_25 : V 137 25 L (.int x1 :: .ref a :: st) h Q = ((p_cn1 (p_get h a) = 12 ∧ p_sm st) ∧ Vm 136 [.ref a, .int x1] h (Kt 137 28 L st Q)) := V_iv (n := 1) (as := [.int x1]) (ci := 12) (z := 136) (by decide +kernel : decode (p_c 137) 25 = .ok (.invokevirtual 169, 3)) (by decide +kernel) rfl rfl (by decide +kernel) rfl
theorem e137_28 : V 137 28 [some (.ref a), l1] st h Q = V 137 29 [some (.ref a), l1] (.ref a :: st) h Q := V_nx (by decide +kernel : decode (p_c 137) 28 = .ok (.aload_n 0, 1)) rfl rfl
theorem e137_29 : V 137 29 L (.ref a :: st) h Q = V 137 30 L (.ref a :: .ref a :: st) h Q := V_dup (by decide +kernel : decode (p_c 137) 29 = .ok (.dup, 1)) rfl
theorem e137_29i : V 137 29 L (.int x :: st) h Q = V 137 30 L (.int x :: .int x :: st) h Q := V_dup (by decide +kernel : decode (p_c 137) 29 = .ok (.dup, 1)) rfl
theorem e137_30 : V 137 30 L (.ref a :: st) h Q = (p_ok1 [12] 5 (p_get h a) ∧ V 137 33 L (p_fv 5 (p_get h a) :: st) h Q) := V_gf (t := (0, 0, "WaterShouldersModel")) (by decide +kernel : decode (p_c 137) 30 = .ok (.getfield 110, 3)) (by decide +kernel)
theorem e137_33 : V 137 33 L st h Q = V 137 34 L (.int 1 :: st) h Q := V_c (by decide +kernel : decode (p_c 137) 33 = .ok (.iconst 1, 1)) (by decide)
theorem e137_34 : V 137 34 L (.int z :: .int x :: st) h Q = V 137 35 L (.int (x + z) :: st) h Q := V_nx (by decide +kernel : decode (p_c 137) 34 = .ok (.iadd, 1)) rfl rfl
theorem e137_35 : V 137 35 L (.int x :: .ref a :: st) h Q = (p_ok1 [12] 5 (p_get h a) ∧ V 137 38 L st (p_set h a (p_fs 5 (.int x) (p_get h a))) Q) := V_pf0 (fin := 0) (ref := "WaterShouldersModel") (by decide +kernel : decode (p_c 137) 35 = .ok (.putfield 110, 3)) (by decide +kernel) (by decide +kernel)
theorem e137_38 : V 137 38 [some (.ref a), l1] st h Q = V 137 39 [some (.ref a), l1] (.ref a :: st) h Q := V_nx (by decide +kernel : decode (p_c 137) 38 = .ok (.aload_n 0, 1)) rfl rfl
theorem e137_39 : V 137 39 L (.ref a :: st) h Q = ((p_cn1 (p_get h a) = 12 ∧ p_sm st) ∧ Vm 135 [.ref a] h (Kt 137 42 L st Q)) := V_iv (n := 0) (as := []) (ci := 12) (z := 135) (by decide +kernel : decode (p_c 137) 39 = .ok (.invokevirtual 173, 3)) (by decide +kernel) rfl rfl (by decide +kernel) rfl
theorem e137_42 : V 137 42 L [.int x] h Q = Q (some (.int x)) h := V_ri (by decide +kernel : decode (p_c 137) 42 = .ok (.ireturn, 1)) rfl
theorem m137 : Vm 137 [.ref a, .int x1] h Q = V 137 0 [some (.ref a), some (.int x1)] [] h Q := rfl
theorem e138_0 : V 138 0 [some (.ref a), l1, l2, l3, l4, l5] st h Q = V 138 1 [some (.ref a), l1, l2, l3, l4, l5] (.ref a :: st) h Q := V_nx (by decide +kernel : decode (p_c 138) 0 = .ok (.aload_n 0, 1)) rfl rfl
theorem e138_1 : V 138 1 L (.ref a :: st) h Q = (p_ok1 [12] 10 (p_get h a) ∧ V 138 4 L (p_fv 10 (p_get h a) :: st) h Q) := V_gf (t := (3, 1, "WaterShouldersModel")) (by decide +kernel : decode (p_c 138) 1 = .ok (.getfield 28, 3)) (by decide +kernel)
theorem e138_4 : V 138 4 [l0, some (.int x), l2, l3, l4, l5] st h Q = V 138 5 [l0, some (.int x), l2, l3, l4, l5] (.int x :: st) h Q := V_nx (by decide +kernel : decode (p_c 138) 4 = .ok (.iload_n 1, 1)) rfl rfl
theorem e138_5 : V 138 5 L (.int i :: .ref a :: st) h Q = (p_iok i (p_get h a) ∧ V 138 6 L (.int (p_ivl i (p_get h a)) :: st) h Q) := V_ial (by decide +kernel : decode (p_c 138) 5 = .ok (.iaload, 1))
theorem e138_6 : V 138 6 L st h Q = V 138 7 L (.int 4 :: st) h Q := V_c (by decide +kernel : decode (p_c 138) 6 = .ok (.iconst 4, 1)) (by decide)
theorem e138_7 : V 138 7 [some (.ref a), l1, l2, l3, l4, l5] st h Q = V 138 8 [some (.ref a), l1, l2, l3, l4, l5] (.ref a :: st) h Q := V_nx (by decide +kernel : decode (p_c 138) 7 = .ok (.aload_n 0, 1)) rfl rfl
theorem e138_8 : V 138 8 L (.ref a :: st) h Q = (p_ok1 [12] 10 (p_get h a) ∧ V 138 11 L (p_fv 10 (p_get h a) :: st) h Q) := V_gf (t := (3, 1, "WaterShouldersModel")) (by decide +kernel : decode (p_c 138) 8 = .ok (.getfield 28, 3)) (by decide +kernel)
theorem e138_11 : V 138 11 [l0, l1, some (.int x), l3, l4, l5] st h Q = V 138 12 [l0, l1, some (.int x), l3, l4, l5] (.int x :: st) h Q := V_nx (by decide +kernel : decode (p_c 138) 11 = .ok (.iload_n 2, 1)) rfl rfl
theorem e138_12 : V 138 12 L (.int i :: .ref a :: st) h Q = (p_iok i (p_get h a) ∧ V 138 13 L (.int (p_ivl i (p_get h a)) :: st) h Q) := V_ial (by decide +kernel : decode (p_c 138) 12 = .ok (.iaload, 1))
theorem e138_13 : V 138 13 L (.int z :: .int x :: st) h Q = V 138 14 L (.int (x * z) :: st) h Q := V_nx (by decide +kernel : decode (p_c 138) 13 = .ok (.imul, 1)) rfl rfl
theorem e138_14 : V 138 14 L (.int z :: .int x :: st) h Q = V 138 15 L (.int (x + z) :: st) h Q := V_nx (by decide +kernel : decode (p_c 138) 14 = .ok (.iadd, 1)) rfl rfl
theorem e138_15 : V 138 15 L st h Q = V 138 17 L (.int 16 :: st) h Q := V_b (by decide +kernel : decode (p_c 138) 15 = .ok (.bipush 16, 2)) (by decide)
theorem e138_17 : V 138 17 [some (.ref a), l1, l2, l3, l4, l5] st h Q = V 138 18 [some (.ref a), l1, l2, l3, l4, l5] (.ref a :: st) h Q := V_nx (by decide +kernel : decode (p_c 138) 17 = .ok (.aload_n 0, 1)) rfl rfl
theorem e138_18 : V 138 18 L (.ref a :: st) h Q = (p_ok1 [12] 11 (p_get h a) ∧ V 138 21 L (p_fv 11 (p_get h a) :: st) h Q) := V_gf (t := (3, 1, "WaterShouldersModel")) (by decide +kernel : decode (p_c 138) 18 = .ok (.getfield 31, 3)) (by decide +kernel)
theorem e138_21 : V 138 21 [l0, l1, some (.int x), l3, l4, l5] st h Q = V 138 22 [l0, l1, some (.int x), l3, l4, l5] (.int x :: st) h Q := V_nx (by decide +kernel : decode (p_c 138) 21 = .ok (.iload_n 2, 1)) rfl rfl
theorem e138_22 : V 138 22 L (.int i :: .ref a :: st) h Q = (p_iok i (p_get h a) ∧ V 138 23 L (.int (p_ivl i (p_get h a)) :: st) h Q) := V_ial (by decide +kernel : decode (p_c 138) 22 = .ok (.iaload, 1))
theorem e138_23 : V 138 23 L (.int z :: .int x :: st) h Q = V 138 24 L (.int (x * z) :: st) h Q := V_nx (by decide +kernel : decode (p_c 138) 23 = .ok (.imul, 1)) rfl rfl
theorem e138_24 : V 138 24 L (.int z :: .int x :: st) h Q = V 138 25 L (.int (x + z) :: st) h Q := V_nx (by decide +kernel : decode (p_c 138) 24 = .ok (.iadd, 1)) rfl rfl
theorem e138_25 : V 138 25 [l0, l1, l2, l3, l4, l5] (.int x :: st) h Q = V 138 26 [l0, l1, p_dl l2, some (.int x), l4, l5] st h Q := V_nx (by decide +kernel : decode (p_c 138) 25 = .ok (.istore_n 3, 1)) rfl rfl
theorem e138_26 : V 138 26 L st h Q = V 138 28 L (.int 112 :: st) h Q := V_b (by decide +kernel : decode (p_c 138) 26 = .ok (.bipush 112, 2)) (by decide)
theorem e138_28 : V 138 28 [l0, l1, l2, l3, l4, l5] (.int x :: st) h Q = V 138 30 [l0, l1, l2, p_dl l3, some (.int x), l5] st h Q := V_nx (by decide +kernel : decode (p_c 138) 28 = .ok (.istore 4, 2)) rfl rfl
theorem e138_30 : V 138 30 L st h Q = V 138 31 L (.int 1 :: st) h Q := V_c (by decide +kernel : decode (p_c 138) 30 = .ok (.iconst 1, 1)) (by decide)
theorem e138_31 : V 138 31 [l0, l1, l2, l3, l4, l5] (.int x :: st) h Q = V 138 33 [l0, l1, l2, l3, p_dl l4, some (.int x)] st h Q := V_nx (by decide +kernel : decode (p_c 138) 31 = .ok (.istore 5, 2)) rfl rfl
theorem e138_33 : V 138 33 [l0, l1, l2, l3, l4, some (.int x)] st h Q = V 138 35 [l0, l1, l2, l3, l4, some (.int x)] (.int x :: st) h Q := V_nx (by decide +kernel : decode (p_c 138) 33 = .ok (.iload 5, 2)) rfl rfl
theorem e138_35 : V 138 35 L st h Q = V 138 36 L (.int 4 :: st) h Q := V_c (by decide +kernel : decode (p_c 138) 35 = .ok (.iconst 4, 1)) (by decide)
theorem e138_36 : V 138 36 L (.int z :: .int x :: st) h Q = if x < z then V 138 39 L st h Q else V 138 78 L st h Q := (V_icmp (by decide +kernel : decode (p_c 138) 36 = .ok (.if_icmp .ge 42, 3)) (by decide)).trans i_ge
theorem e138_39 : V 138 39 [l0, l1, l2, some (.int x), l4, l5] st h Q = V 138 40 [l0, l1, l2, some (.int x), l4, l5] (.int x :: st) h Q := V_nx (by decide +kernel : decode (p_c 138) 39 = .ok (.iload_n 3, 1)) rfl rfl
theorem e138_40 : V 138 40 [l0, l1, l2, l3, some (.int x), l5] st h Q = V 138 42 [l0, l1, l2, l3, some (.int x), l5] (.int x :: st) h Q := V_nx (by decide +kernel : decode (p_c 138) 40 = .ok (.iload 4, 2)) rfl rfl
theorem e138_42 : V 138 42 [l0, l1, l2, l3, l4, some (.int x)] st h Q = V 138 44 [l0, l1, l2, l3, l4, some (.int x)] (.int x :: st) h Q := V_nx (by decide +kernel : decode (p_c 138) 42 = .ok (.iload 5, 2)) rfl rfl
theorem e138_44 : V 138 44 [some (.ref a), l1, l2, l3, l4, l5] st h Q = V 138 45 [some (.ref a), l1, l2, l3, l4, l5] (.ref a :: st) h Q := V_nx (by decide +kernel : decode (p_c 138) 44 = .ok (.aload_n 0, 1)) rfl rfl
theorem e138_45 : V 138 45 L (.ref a :: st) h Q = (p_ok1 [12] 0 (p_get h a) ∧ V 138 48 L (p_fv 0 (p_get h a) :: st) h Q) := V_gf (t := (0, 0, "WaterShouldersModel")) (by decide +kernel : decode (p_c 138) 45 = .ok (.getfield 104, 3)) (by decide +kernel)
theorem e138_48 : V 138 48 L (.int z :: .int x :: st) h Q = if x < z then V 138 51 L st h Q else V 138 61 L st h Q := (V_icmp (by decide +kernel : decode (p_c 138) 48 = .ok (.if_icmp .ge 13, 3)) (by decide)).trans i_ge
theorem e138_51 : V 138 51 [some (.ref a), l1, l2, l3, l4, l5] st h Q = V 138 52 [some (.ref a), l1, l2, l3, l4, l5] (.ref a :: st) h Q := V_nx (by decide +kernel : decode (p_c 138) 51 = .ok (.aload_n 0, 1)) rfl rfl
theorem e138_52 : V 138 52 L (.ref a :: st) h Q = (p_ok1 [12] 3 (p_get h a) ∧ V 138 55 L (p_fv 3 (p_get h a) :: st) h Q) := V_gf (t := (3, 1, "WaterShouldersModel")) (by decide +kernel : decode (p_c 138) 52 = .ok (.getfield 16, 3)) (by decide +kernel)
theorem e138_55 : V 138 55 [l0, l1, l2, l3, l4, some (.int x)] st h Q = V 138 57 [l0, l1, l2, l3, l4, some (.int x)] (.int x :: st) h Q := V_nx (by decide +kernel : decode (p_c 138) 55 = .ok (.iload 5, 2)) rfl rfl
theorem e138_57 : V 138 57 L (.int i :: .ref a :: st) h Q = (p_iok i (p_get h a) ∧ V 138 58 L (.int (p_ivl i (p_get h a)) :: st) h Q) := V_ial (by decide +kernel : decode (p_c 138) 57 = .ok (.iaload, 1))
theorem e138_58 : V 138 58 L st h Q = V 138 62 L st h Q := V_goto (by decide +kernel : decode (p_c 138) 58 = .ok (.goto 4, 3)) (by decide)
theorem e138_61 : V 138 61 L st h Q = V 138 62 L (.int 0 :: st) h Q := V_c (by decide +kernel : decode (p_c 138) 61 = .ok (.iconst 0, 1)) (by decide)
theorem e138_62 : V 138 62 L (.int z :: .int x :: st) h Q = V 138 63 L (.int (x * z) :: st) h Q := V_nx (by decide +kernel : decode (p_c 138) 62 = .ok (.imul, 1)) rfl rfl
theorem e138_63 : V 138 63 L (.int z :: .int x :: st) h Q = V 138 64 L (.int (x + z) :: st) h Q := V_nx (by decide +kernel : decode (p_c 138) 63 = .ok (.iadd, 1)) rfl rfl
theorem e138_64 : V 138 64 [l0, l1, l2, l3, l4, l5] (.int x :: st) h Q = V 138 65 [l0, l1, p_dl l2, some (.int x), l4, l5] st h Q := V_nx (by decide +kernel : decode (p_c 138) 64 = .ok (.istore_n 3, 1)) rfl rfl
theorem e138_65 : V 138 65 [l0, l1, l2, l3, some (.int x), l5] st h Q = V 138 67 [l0, l1, l2, l3, some (.int x), l5] (.int x :: st) h Q := V_nx (by decide +kernel : decode (p_c 138) 65 = .ok (.iload 4, 2)) rfl rfl
theorem e138_67 : V 138 67 L st h Q = V 138 69 L (.int 6 :: st) h Q := V_b (by decide +kernel : decode (p_c 138) 67 = .ok (.bipush 6, 2)) (by decide)
theorem e138_69 : V 138 69 L (.int z :: .int x :: st) h Q = V 138 70 L (.int (x * z) :: st) h Q := V_nx (by decide +kernel : decode (p_c 138) 69 = .ok (.imul, 1)) rfl rfl
theorem e138_70 : V 138 70 [l0, l1, l2, l3, l4, l5] (.int x :: st) h Q = V 138 72 [l0, l1, l2, p_dl l3, some (.int x), l5] st h Q := V_nx (by decide +kernel : decode (p_c 138) 70 = .ok (.istore 4, 2)) rfl rfl
theorem e138_72 : V 138 72 [l0, l1, l2, l3, l4, some (.int x)] st h Q = V 138 75 [l0, l1, l2, l3, p_dl l4, some (.int (x + 1))] st h Q := V_iinc (x := x) (by decide +kernel : decode (p_c 138) 72 = .ok (.iinc 5 1, 3)) (by decide) rfl (Nat.le_of_ble_eq_true rfl)
theorem e138_75 : V 138 75 L st h Q = V 138 33 L st h Q := V_goto (by decide +kernel : decode (p_c 138) 75 = .ok (.goto (-42), 3)) (by decide)
theorem e138_78 : V 138 78 [l0, l1, l2, some (.int x), l4, l5] st h Q = V 138 79 [l0, l1, l2, some (.int x), l4, l5] (.int x :: st) h Q := V_nx (by decide +kernel : decode (p_c 138) 78 = .ok (.iload_n 3, 1)) rfl rfl
theorem e138_79 : V 138 79 L [.int x] h Q = Q (some (.int x)) h := V_ri (by decide +kernel : decode (p_c 138) 79 = .ok (.ireturn, 1)) rfl
theorem m138 : Vm 138 [.ref a, .int x1, .int x2] h Q = V 138 0 [some (.ref a), some (.int x1), some (.int x2), none, none, none] [] h Q := rfl
theorem e139_0 : V 139 0 [some (.ref a), l1, l2, l3, l4, l5] st h Q = V 139 1 [some (.ref a), l1, l2, l3, l4, l5] (.ref a :: st) h Q := V_nx (by decide +kernel : decode (p_c 139) 0 = .ok (.aload_n 0, 1)) rfl rfl
theorem e139_1 : V 139 1 L (.ref a :: st) h Q = (p_ok1 [12] 10 (p_get h a) ∧ V 139 4 L (p_fv 10 (p_get h a) :: st) h Q) := V_gf (t := (3, 1, "WaterShouldersModel")) (by decide +kernel : decode (p_c 139) 1 = .ok (.getfield 28, 3)) (by decide +kernel)
theorem e139_4 : V 139 4 [l0, l1, some (.int x), l3, l4, l5] st h Q = V 139 5 [l0, l1, some (.int x), l3, l4, l5] (.int x :: st) h Q := V_nx (by decide +kernel : decode (p_c 139) 4 = .ok (.iload_n 2, 1)) rfl rfl
theorem e139_5 : V 139 5 [l0, some (.int x), l2, l3, l4, l5] st h Q = V 139 6 [l0, some (.int x), l2, l3, l4, l5] (.int x :: st) h Q := V_nx (by decide +kernel : decode (p_c 139) 5 = .ok (.iload_n 1, 1)) rfl rfl
theorem e139_6 : V 139 6 L st h Q = V 139 7 L (.int 4 :: st) h Q := V_c (by decide +kernel : decode (p_c 139) 6 = .ok (.iconst 4, 1)) (by decide)
theorem e139_7 : V 139 7 L (.int z :: .int x :: st) h Q = (¬ z = 0 ∧ V 139 8 L (.int (x - x / z * z) :: st) h Q) := V_irem (by decide +kernel : decode (p_c 139) 7 = .ok (.irem, 1))
theorem e139_8 : V 139 8 L (.int x :: .int i :: .ref a :: st) h Q = (p_sok i (p_get h a) ∧ V 139 9 L st (p_set h a (p_ist i x (p_get h a))) Q) := V_ias (by decide +kernel : decode (p_c 139) 8 = .ok (.iastore, 1))
theorem e139_9 : V 139 9 [some (.ref a), l1, l2, l3, l4, l5] st h Q = V 139 10 [some (.ref a), l1, l2, l3, l4, l5] (.ref a :: st) h Q := V_nx (by decide +kernel : decode (p_c 139) 9 = .ok (.aload_n 0, 1)) rfl rfl
theorem e139_10 : V 139 10 L (.ref a :: st) h Q = (p_ok1 [12] 10 (p_get h a) ∧ V 139 13 L (p_fv 10 (p_get h a) :: st) h Q) := V_gf (t := (3, 1, "WaterShouldersModel")) (by decide +kernel : decode (p_c 139) 10 = .ok (.getfield 28, 3)) (by decide +kernel)
theorem e139_13 : V 139 13 [l0, l1, l2, some (.int x), l4, l5] st h Q = V 139 14 [l0, l1, l2, some (.int x), l4, l5] (.int x :: st) h Q := V_nx (by decide +kernel : decode (p_c 139) 13 = .ok (.iload_n 3, 1)) rfl rfl
theorem e139_14 : V 139 14 [l0, some (.int x), l2, l3, l4, l5] st h Q = V 139 15 [l0, some (.int x), l2, l3, l4, l5] (.int x :: st) h Q := V_nx (by decide +kernel : decode (p_c 139) 14 = .ok (.iload_n 1, 1)) rfl rfl
theorem e139_15 : V 139 15 L st h Q = V 139 16 L (.int 4 :: st) h Q := V_c (by decide +kernel : decode (p_c 139) 15 = .ok (.iconst 4, 1)) (by decide)
theorem e139_16 : V 139 16 L (.int z :: .int x :: st) h Q = (¬ z = 0 ∧ V 139 17 L (.int (x / z) :: st) h Q) := V_idiv (by decide +kernel : decode (p_c 139) 16 = .ok (.idiv, 1))
theorem e139_17 : V 139 17 L st h Q = V 139 18 L (.int 4 :: st) h Q := V_c (by decide +kernel : decode (p_c 139) 17 = .ok (.iconst 4, 1)) (by decide)
theorem e139_18 : V 139 18 L (.int z :: .int x :: st) h Q = (¬ z = 0 ∧ V 139 19 L (.int (x - x / z * z) :: st) h Q) := V_irem (by decide +kernel : decode (p_c 139) 18 = .ok (.irem, 1))
theorem e139_19 : V 139 19 L (.int x :: .int i :: .ref a :: st) h Q = (p_sok i (p_get h a) ∧ V 139 20 L st (p_set h a (p_ist i x (p_get h a))) Q) := V_ias (by decide +kernel : decode (p_c 139) 19 = .ok (.iastore, 1))
theorem e139_20 : V 139 20 [some (.ref a), l1, l2, l3, l4, l5] st h Q = V 139 21 [some (.ref a), l1, l2, l3, l4, l5] (.ref a :: st) h Q := V_nx (by decide +kernel : decode (p_c 139) 20 = .ok (.aload_n 0, 1)) rfl rfl
theorem e139_21 : V 139 21 L (.ref a :: st) h Q = (p_ok1 [12] 11 (p_get h a) ∧ V 139 24 L (p_fv 11 (p_get h a) :: st) h Q) := V_gf (t := (3, 1, "WaterShouldersModel")) (by decide +kernel : decode (p_c 139) 21 = .ok (.getfield 31, 3)) (by decide +kernel)
theorem e139_24 : V 139 24 [l0, l1, l2, some (.int x), l4, l5] st h Q = V 139 25 [l0, l1, l2, some (.int x), l4, l5] (.int x :: st) h Q := V_nx (by decide +kernel : decode (p_c 139) 24 = .ok (.iload_n 3, 1)) rfl rfl
theorem e139_25 : V 139 25 [l0, some (.int x), l2, l3, l4, l5] st h Q = V 139 26 [l0, some (.int x), l2, l3, l4, l5] (.int x :: st) h Q := V_nx (by decide +kernel : decode (p_c 139) 25 = .ok (.iload_n 1, 1)) rfl rfl
theorem e139_26 : V 139 26 L st h Q = V 139 28 L (.int 16 :: st) h Q := V_b (by decide +kernel : decode (p_c 139) 26 = .ok (.bipush 16, 2)) (by decide)
theorem e139_28 : V 139 28 L (.int z :: .int x :: st) h Q = (¬ z = 0 ∧ V 139 29 L (.int (x / z) :: st) h Q) := V_idiv (by decide +kernel : decode (p_c 139) 28 = .ok (.idiv, 1))
theorem e139_29 : V 139 29 L st h Q = V 139 31 L (.int 7 :: st) h Q := V_b (by decide +kernel : decode (p_c 139) 29 = .ok (.bipush 7, 2)) (by decide)
theorem e139_31 : V 139 31 L (.int z :: .int x :: st) h Q = (¬ z = 0 ∧ V 139 32 L (.int (x - x / z * z) :: st) h Q) := V_irem (by decide +kernel : decode (p_c 139) 31 = .ok (.irem, 1))
theorem e139_32 : V 139 32 L (.int x :: .int i :: .ref a :: st) h Q = (p_sok i (p_get h a) ∧ V 139 33 L st (p_set h a (p_ist i x (p_get h a))) Q) := V_ias (by decide +kernel : decode (p_c 139) 32 = .ok (.iastore, 1))
theorem e139_33 : V 139 33 [l0, some (.int x), l2, l3, l4, l5] st h Q = V 139 34 [l0, some (.int x), l2, l3, l4, l5] (.int x :: st) h Q := V_nx (by decide +kernel : decode (p_c 139) 33 = .ok (.iload_n 1, 1)) rfl rfl
theorem e139_34 : V 139 34 L st h Q = V 139 36 L (.int 112 :: st) h Q := V_b (by decide +kernel : decode (p_c 139) 34 = .ok (.bipush 112, 2)) (by decide)
theorem e139_36 : V 139 36 L (.int z :: .int x :: st) h Q = (¬ z = 0 ∧ V 139 37 L (.int (x / z) :: st) h Q) := V_idiv (by decide +kernel : decode (p_c 139) 36 = .ok (.idiv, 1))
theorem e139_37 : V 139 37 [l0, l1, l2, l3, l4, l5] (.int x :: st) h Q = V 139 39 [l0, l1, l2, p_dl l3, some (.int x), l5] st h Q := V_nx (by decide +kernel : decode (p_c 139) 37 = .ok (.istore 4, 2)) rfl rfl
theorem e139_39 : V 139 39 L st h Q = V 139 40 L (.int 1 :: st) h Q := V_c (by decide +kernel : decode (p_c 139) 39 = .ok (.iconst 1, 1)) (by decide)
theorem e139_40 : V 139 40 [l0, l1, l2, l3, l4, l5] (.int x :: st) h Q = V 139 42 [l0, l1, l2, l3, p_dl l4, some (.int x)] st h Q := V_nx (by decide +kernel : decode (p_c 139) 40 = .ok (.istore 5, 2)) rfl rfl
theorem e139_42 : V 139 42 [l0, l1, l2, l3, l4, some (.int x)] st h Q = V 139 44 [l0, l1, l2, l3, l4, some (.int x)] (.int x :: st) h Q := V_nx (by decide +kernel : decode (p_c 139) 42 = .ok (.iload 5, 2)) rfl rfl
theorem e139_44 : V 139 44 [some (.ref a), l1, l2, l3, l4, l5] st h Q = V 139 45 [some (.ref a), l1, l2, l3, l4, l5] (.ref a :: st) h Q := V_nx (by decide +kernel : decode (p_c 139) 44 = .ok (.aload_n 0, 1)) rfl rfl
theorem e139_45 : V 139 45 L (.ref a :: st) h Q = (p_ok1 [12] 0 (p_get h a) ∧ V 139 48 L (p_fv 0 (p_get h a) :: st) h Q) := V_gf (t := (0, 0, "WaterShouldersModel")) (by decide +kernel : decode (p_c 139) 45 = .ok (.getfield 104, 3)) (by decide +kernel)
theorem e139_48 : V 139 48 L (.int z :: .int x :: st) h Q = if x < z then V 139 51 L st h Q else V 139 76 L st h Q := (V_icmp (by decide +kernel : decode (p_c 139) 48 = .ok (.if_icmp .ge 28, 3)) (by decide)).trans i_ge
theorem e139_51 : V 139 51 [some (.ref a), l1, l2, l3, l4, l5] st h Q = V 139 52 [some (.ref a), l1, l2, l3, l4, l5] (.ref a :: st) h Q := V_nx (by decide +kernel : decode (p_c 139) 51 = .ok (.aload_n 0, 1)) rfl rfl
theorem e139_52 : V 139 52 L (.ref a :: st) h Q = (p_ok1 [12] 3 (p_get h a) ∧ V 139 55 L (p_fv 3 (p_get h a) :: st) h Q) := V_gf (t := (3, 1, "WaterShouldersModel")) (by decide +kernel : decode (p_c 139) 52 = .ok (.getfield 16, 3)) (by decide +kernel)
theorem e139_55 : V 139 55 [l0, l1, l2, l3, l4, some (.int x)] st h Q = V 139 57 [l0, l1, l2, l3, l4, some (.int x)] (.int x :: st) h Q := V_nx (by decide +kernel : decode (p_c 139) 55 = .ok (.iload 5, 2)) rfl rfl
theorem e139_57 : V 139 57 [l0, l1, l2, l3, some (.int x), l5] st h Q = V 139 59 [l0, l1, l2, l3, some (.int x), l5] (.int x :: st) h Q := V_nx (by decide +kernel : decode (p_c 139) 57 = .ok (.iload 4, 2)) rfl rfl
theorem e139_59 : V 139 59 L st h Q = V 139 61 L (.int 6 :: st) h Q := V_b (by decide +kernel : decode (p_c 139) 59 = .ok (.bipush 6, 2)) (by decide)
theorem e139_61 : V 139 61 L (.int z :: .int x :: st) h Q = (¬ z = 0 ∧ V 139 62 L (.int (x - x / z * z) :: st) h Q) := V_irem (by decide +kernel : decode (p_c 139) 61 = .ok (.irem, 1))
theorem e139_62 : V 139 62 L (.int x :: .int i :: .ref a :: st) h Q = (p_sok i (p_get h a) ∧ V 139 63 L st (p_set h a (p_ist i x (p_get h a))) Q) := V_ias (by decide +kernel : decode (p_c 139) 62 = .ok (.iastore, 1))
theorem e139_63 : V 139 63 [l0, l1, l2, l3, some (.int x), l5] st h Q = V 139 65 [l0, l1, l2, l3, some (.int x), l5] (.int x :: st) h Q := V_nx (by decide +kernel : decode (p_c 139) 63 = .ok (.iload 4, 2)) rfl rfl
theorem e139_65 : V 139 65 L st h Q = V 139 67 L (.int 6 :: st) h Q := V_b (by decide +kernel : decode (p_c 139) 65 = .ok (.bipush 6, 2)) (by decide)
theorem e139_67 : V 139 67 L (.int z :: .int x :: st) h Q = (¬ z = 0 ∧ V 139 68 L (.int (x / z) :: st) h Q) := V_idiv (by decide +kernel : decode (p_c 139) 67 = .ok (.idiv, 1))
theorem e139_68 : V 139 68 [l0, l1, l2, l3, l4, l5] (.int x :: st) h Q = V 139 70 [l0, l1, l2, p_dl l3, some (.int x), l5] st h Q := V_nx (by decide +kernel : decode (p_c 139) 68 = .ok (.istore 4, 2)) rfl rfl
theorem e139_70 : V 139 70 [l0, l1, l2, l3, l4, some (.int x)] st h Q = V 139 73 [l0, l1, l2, l3, p_dl l4, some (.int (x + 1))] st h Q := V_iinc (x := x) (by decide +kernel : decode (p_c 139) 70 = .ok (.iinc 5 1, 3)) (by decide) rfl (Nat.le_of_ble_eq_true rfl)
theorem e139_73 : V 139 73 L st h Q = V 139 42 L st h Q := V_goto (by decide +kernel : decode (p_c 139) 73 = .ok (.goto (-31), 3)) (by decide)
theorem e139_76 : V 139 76 L [] h Q = Q none h := V_rv (by decide +kernel : decode (p_c 139) 76 = .ok (.return_, 1)) rfl
theorem m139 : Vm 139 [.ref a, .int x1, .int x2, .int x3] h Q = V 139 0 [some (.ref a), some (.int x1), some (.int x2), some (.int x3), none, none] [] h Q := rfl
theorem e140_0 : V 140 0 [l0, some (.int x), l2, l3, l4] st h Q = V 140 1 [l0, some (.int x), l2, l3, l4] (.int x :: st) h Q := V_nx (by decide +kernel : decode (p_c 140) 0 = .ok (.iload_n 1, 1)) rfl rfl
theorem e140_1 : V 140 1 L (.int x :: st) h Q = V 140 (if x = 0 then 36 else if x = 1 then 65 else if x = 2 then 94 else if x = 3 then 125 else if x = 4 then 125 else 152) L st h Q := V_ts (fun z => if z = 0 then 36 else if z = 1 then 65 else if z = 2 then 94 else if z = 3 then 125 else if z = 4 then 125 else 152) (by decide +kernel : decode (p_c 140) 1 = .ok (.tableswitch 151 0 4 #[35, 64, 93, 124, 124], 35)) (by decide) (by
  intro z
  refine ⟨fun hz => ?_, fun hz => ?_⟩
  · have h_0 : ¬ z = 0 := by intro q; subst q; revert hz; decide
    have h_1 : ¬ z = 1 := by intro q; subst q; revert hz; decide
    have h_2 : ¬ z = 2 := by intro q; subst q; revert hz; decide
    have h_3 : ¬ z = 3 := by intro q; subst q; revert hz; decide
    have h_4 : ¬ z = 4 := by intro q; subst q; revert hz; decide
    simp only [h_0, h_1, h_2, h_3, h_4, if_false]
    rfl
  · have hc : z.toInt = 0 ∨ z.toInt = 1 ∨ z.toInt = 2 ∨ z.toInt = 3 ∨ z.toInt = 4 := by omega
    rcases hc with hc | hc | hc | hc | hc
    · have e : z = 0 := Int32.toInt_inj.mp (by rw [hc]; rfl)
      subst e
      exact ⟨35, rfl, by decide, rfl⟩
    · have e : z = 1 := Int32.toInt_inj.mp (by rw [hc]; rfl)
      subst e
      exact ⟨64, rfl, by decide, rfl⟩
    · have e : z = 2 := Int32.toInt_inj.mp (by rw [hc]; rfl)
      subst e
      exact ⟨93, rfl, by decide, rfl⟩
    · have e : z = 3 := Int32.toInt_inj.mp (by rw [hc]; rfl)
      subst e
      exact ⟨124, rfl, by decide, rfl⟩
    · have e : z = 4 := Int32.toInt_inj.mp (by rw [hc]; rfl)
      subst e
      exact ⟨124, rfl, by decide, rfl⟩)
theorem e140_36 : V 140 36 [some (.ref a), l1, l2, l3, l4] st h Q = V 140 37 [some (.ref a), l1, l2, l3, l4] (.ref a :: st) h Q := V_nx (by decide +kernel : decode (p_c 140) 36 = .ok (.aload_n 0, 1)) rfl rfl
theorem e140_37 : V 140 37 [l0, l1, some (.int x), l3, l4] st h Q = V 140 38 [l0, l1, some (.int x), l3, l4] (.int x :: st) h Q := V_nx (by decide +kernel : decode (p_c 140) 37 = .ok (.iload_n 2, 1)) rfl rfl
theorem e140_38 : V 140 38 L (.int x1 :: .ref a :: st) h Q = ((p_cn1 (p_get h a) = 12 ∧ p_sm st) ∧ Vm 124 [.ref a, .int x1] h (Kt 140 41 L st Q)) := V_iv (n := 1) (as := [.int x1]) (ci := 12) (z := 124) (by decide +kernel : decode (p_c 140) 38 = .ok (.invokevirtual 149, 3)) (by decide +kernel) rfl rfl (by decide +kernel) rfl
theorem e140_41 : V 140 41 [l0, l1, l2, l3, l4] (.int x :: st) h Q = V 140 43 [l0, l1, l2, p_dl l3, some (.int x)] st h Q := V_nx (by decide +kernel : decode (p_c 140) 41 = .ok (.istore 4, 2)) rfl rfl
theorem e140_43 : V 140 43 [some (.ref a), l1, l2, l3, l4] st h Q = V 140 44 [some (.ref a), l1, l2, l3, l4] (.ref a :: st) h Q := V_nx (by decide +kernel : decode (p_c 140) 43 = .ok (.aload_n 0, 1)) rfl rfl
theorem e140_44 : V 140 44 L (.ref a :: st) h Q = (p_ok1 [12] 10 (p_get h a) ∧ V 140 47 L (p_fv 10 (p_get h a) :: st) h Q) := V_gf (t := (3, 1, "WaterShouldersModel")) (by decide +kernel : decode (p_c 140) 44 = .ok (.getfield 28, 3)) (by decide +kernel)
theorem e140_47 : V 140 47 [l0, l1, some (.int x), l3, l4] st h Q = V 140 48 [l0, l1, some (.int x), l3, l4] (.int x :: st) h Q := V_nx (by decide +kernel : decode (p_c 140) 47 = .ok (.iload_n 2, 1)) rfl rfl
theorem e140_48 : V 140 48 L (.int x :: .ref a :: st) h Q = V 140 49 L (.int x :: .ref a :: .int x :: .ref a :: st) h Q := V_nx (by decide +kernel : decode (p_c 140) 48 = .ok (.dup2, 1)) rfl rfl
theorem e140_49 : V 140 49 L (.int i :: .ref a :: st) h Q = (p_iok i (p_get h a) ∧ V 140 50 L (.int (p_ivl i (p_get h a)) :: st) h Q) := V_ial (by decide +kernel : decode (p_c 140) 49 = .ok (.iaload, 1))
theorem e140_50 : V 140 50 [l0, l1, l2, l3, some (.int x)] st h Q = V 140 52 [l0, l1, l2, l3, some (.int x)] (.int x :: st) h Q := V_nx (by decide +kernel : decode (p_c 140) 50 = .ok (.iload 4, 2)) rfl rfl
theorem e140_52 : V 140 52 L (.int x :: st) h Q = if x = 0 then V 140 59 L st h Q else V 140 55 L st h Q := (V_ifc (by decide +kernel : decode (p_c 140) 52 = .ok (.ifCond .eq 7, 3)) (by decide)).trans i_eq
theorem e140_55 : V 140 55 L st h Q = V 140 56 L (.int 1 :: st) h Q := V_c (by decide +kernel : decode (p_c 140) 55 = .ok (.iconst 1, 1)) (by decide)
theorem e140_56 : V 140 56 L st h Q = V 140 60 L st h Q := V_goto (by decide +kernel : decode (p_c 140) 56 = .ok (.goto 4, 3)) (by decide)
theorem e140_59 : V 140 59 L st h Q = V 140 60 L (.int 0 :: st) h Q := V_c (by decide +kernel : decode (p_c 140) 59 = .ok (.iconst 0, 1)) (by decide)
theorem e140_60 : V 140 60 L (.int z :: .int x :: st) h Q = V 140 61 L (.int (x + z) :: st) h Q := V_nx (by decide +kernel : decode (p_c 140) 60 = .ok (.iadd, 1)) rfl rfl
theorem e140_61 : V 140 61 L (.int x :: .int i :: .ref a :: st) h Q = (p_sok i (p_get h a) ∧ V 140 62 L st (p_set h a (p_ist i x (p_get h a))) Q) := V_ias (by decide +kernel : decode (p_c 140) 61 = .ok (.iastore, 1))
theorem e140_62 : V 140 62 [l0, l1, l2, l3, some (.int x)] st h Q = V 140 64 [l0, l1, l2, l3, some (.int x)] (.int x :: st) h Q := V_nx (by decide +kernel : decode (p_c 140) 62 = .ok (.iload 4, 2)) rfl rfl
theorem e140_64 : V 140 64 L [.int x] h Q = ((x = 0 ∨ x = 1) ∧ Q (some (.int x)) h) := V_rz (by decide +kernel : decode (p_c 140) 64 = .ok (.ireturn, 1)) rfl
theorem e140_65 : V 140 65 [some (.ref a), l1, l2, l3, l4] st h Q = V 140 66 [some (.ref a), l1, l2, l3, l4] (.ref a :: st) h Q := V_nx (by decide +kernel : decode (p_c 140) 65 = .ok (.aload_n 0, 1)) rfl rfl
theorem e140_66 : V 140 66 [l0, l1, l2, some (.int x), l4] st h Q = V 140 67 [l0, l1, l2, some (.int x), l4] (.int x :: st) h Q := V_nx (by decide +kernel : decode (p_c 140) 66 = .ok (.iload_n 3, 1)) rfl rfl
theorem e140_67 : V 140 67 L (.int x1 :: .ref a :: st) h Q = ((p_cn1 (p_get h a) = 12 ∧ p_sm st) ∧ Vm 124 [.ref a, .int x1] h (Kt 140 70 L st Q)) := V_iv (n := 1) (as := [.int x1]) (ci := 12) (z := 124) (by decide +kernel : decode (p_c 140) 67 = .ok (.invokevirtual 149, 3)) (by decide +kernel) rfl rfl (by decide +kernel) rfl
theorem e140_70 : V 140 70 [l0, l1, l2, l3, l4] (.int x :: st) h Q = V 140 72 [l0, l1, l2, p_dl l3, some (.int x)] st h Q := V_nx (by decide +kernel : decode (p_c 140) 70 = .ok (.istore 4, 2)) rfl rfl
theorem e140_72 : V 140 72 [some (.ref a), l1, l2, l3, l4] st h Q = V 140 73 [some (.ref a), l1, l2, l3, l4] (.ref a :: st) h Q := V_nx (by decide +kernel : decode (p_c 140) 72 = .ok (.aload_n 0, 1)) rfl rfl
theorem e140_73 : V 140 73 L (.ref a :: st) h Q = (p_ok1 [12] 10 (p_get h a) ∧ V 140 76 L (p_fv 10 (p_get h a) :: st) h Q) := V_gf (t := (3, 1, "WaterShouldersModel")) (by decide +kernel : decode (p_c 140) 73 = .ok (.getfield 28, 3)) (by decide +kernel)
theorem e140_76 : V 140 76 [l0, l1, l2, some (.int x), l4] st h Q = V 140 77 [l0, l1, l2, some (.int x), l4] (.int x :: st) h Q := V_nx (by decide +kernel : decode (p_c 140) 76 = .ok (.iload_n 3, 1)) rfl rfl
theorem e140_77 : V 140 77 L (.int x :: .ref a :: st) h Q = V 140 78 L (.int x :: .ref a :: .int x :: .ref a :: st) h Q := V_nx (by decide +kernel : decode (p_c 140) 77 = .ok (.dup2, 1)) rfl rfl
theorem e140_78 : V 140 78 L (.int i :: .ref a :: st) h Q = (p_iok i (p_get h a) ∧ V 140 79 L (.int (p_ivl i (p_get h a)) :: st) h Q) := V_ial (by decide +kernel : decode (p_c 140) 78 = .ok (.iaload, 1))
theorem e140_79 : V 140 79 [l0, l1, l2, l3, some (.int x)] st h Q = V 140 81 [l0, l1, l2, l3, some (.int x)] (.int x :: st) h Q := V_nx (by decide +kernel : decode (p_c 140) 79 = .ok (.iload 4, 2)) rfl rfl
theorem e140_81 : V 140 81 L (.int x :: st) h Q = if x = 0 then V 140 88 L st h Q else V 140 84 L st h Q := (V_ifc (by decide +kernel : decode (p_c 140) 81 = .ok (.ifCond .eq 7, 3)) (by decide)).trans i_eq
theorem e140_84 : V 140 84 L st h Q = V 140 85 L (.int 1 :: st) h Q := V_c (by decide +kernel : decode (p_c 140) 84 = .ok (.iconst 1, 1)) (by decide)
theorem e140_85 : V 140 85 L st h Q = V 140 89 L st h Q := V_goto (by decide +kernel : decode (p_c 140) 85 = .ok (.goto 4, 3)) (by decide)
theorem e140_88 : V 140 88 L st h Q = V 140 89 L (.int 0 :: st) h Q := V_c (by decide +kernel : decode (p_c 140) 88 = .ok (.iconst 0, 1)) (by decide)
theorem e140_89 : V 140 89 L (.int z :: .int x :: st) h Q = V 140 90 L (.int (x + z) :: st) h Q := V_nx (by decide +kernel : decode (p_c 140) 89 = .ok (.iadd, 1)) rfl rfl
theorem e140_90 : V 140 90 L (.int x :: .int i :: .ref a :: st) h Q = (p_sok i (p_get h a) ∧ V 140 91 L st (p_set h a (p_ist i x (p_get h a))) Q) := V_ias (by decide +kernel : decode (p_c 140) 90 = .ok (.iastore, 1))
theorem e140_91 : V 140 91 [l0, l1, l2, l3, some (.int x)] st h Q = V 140 93 [l0, l1, l2, l3, some (.int x)] (.int x :: st) h Q := V_nx (by decide +kernel : decode (p_c 140) 91 = .ok (.iload 4, 2)) rfl rfl
theorem e140_93 : V 140 93 L [.int x] h Q = ((x = 0 ∨ x = 1) ∧ Q (some (.int x)) h) := V_rz (by decide +kernel : decode (p_c 140) 93 = .ok (.ireturn, 1)) rfl
theorem e140_94 : V 140 94 [some (.ref a), l1, l2, l3, l4] st h Q = V 140 95 [some (.ref a), l1, l2, l3, l4] (.ref a :: st) h Q := V_nx (by decide +kernel : decode (p_c 140) 94 = .ok (.aload_n 0, 1)) rfl rfl
theorem e140_95 : V 140 95 [l0, l1, l2, some (.int x), l4] st h Q = V 140 96 [l0, l1, l2, some (.int x), l4] (.int x :: st) h Q := V_nx (by decide +kernel : decode (p_c 140) 95 = .ok (.iload_n 3, 1)) rfl rfl
theorem e140_96 : V 140 96 L (.int x1 :: .ref a :: st) h Q = ((p_cn1 (p_get h a) = 12 ∧ p_sm st) ∧ Vm 127 [.ref a, .int x1] h (Kt 140 99 L st Q)) := V_iv (n := 1) (as := [.int x1]) (ci := 12) (z := 127) (by decide +kernel : decode (p_c 140) 96 = .ok (.invokevirtual 166, 3)) (by decide +kernel) rfl rfl (by decide +kernel) rfl
theorem e140_99 : V 140 99 [l0, l1, l2, l3, l4] (.int x :: st) h Q = V 140 101 [l0, l1, l2, p_dl l3, some (.int x)] st h Q := V_nx (by decide +kernel : decode (p_c 140) 99 = .ok (.istore 4, 2)) rfl rfl
theorem e140_101 : V 140 101 [some (.ref a), l1, l2, l3, l4] st h Q = V 140 102 [some (.ref a), l1, l2, l3, l4] (.ref a :: st) h Q := V_nx (by decide +kernel : decode (p_c 140) 101 = .ok (.aload_n 0, 1)) rfl rfl
theorem e140_102 : V 140 102 L (.ref a :: st) h Q = (p_ok1 [12] 10 (p_get h a) ∧ V 140 105 L (p_fv 10 (p_get h a) :: st) h Q) := V_gf (t := (3, 1, "WaterShouldersModel")) (by decide +kernel : decode (p_c 140) 102 = .ok (.getfield 28, 3)) (by decide +kernel)
theorem e140_105 : V 140 105 [l0, l1, l2, some (.int x), l4] st h Q = V 140 106 [l0, l1, l2, some (.int x), l4] (.int x :: st) h Q := V_nx (by decide +kernel : decode (p_c 140) 105 = .ok (.iload_n 3, 1)) rfl rfl
theorem e140_106 : V 140 106 [l0, l1, l2, l3, some (.int x)] st h Q = V 140 108 [l0, l1, l2, l3, some (.int x)] (.int x :: st) h Q := V_nx (by decide +kernel : decode (p_c 140) 106 = .ok (.iload 4, 2)) rfl rfl
theorem e140_108 : V 140 108 L (.int x :: st) h Q = if x = 0 then V 140 115 L st h Q else V 140 111 L st h Q := (V_ifc (by decide +kernel : decode (p_c 140) 108 = .ok (.ifCond .eq 7, 3)) (by decide)).trans i_eq
theorem e140_111 : V 140 111 L st h Q = V 140 112 L (.int 0 :: st) h Q := V_c (by decide +kernel : decode (p_c 140) 111 = .ok (.iconst 0, 1)) (by decide)
theorem e140_112 : V 140 112 L st h Q = V 140 121 L st h Q := V_goto (by decide +kernel : decode (p_c 140) 112 = .ok (.goto 9, 3)) (by decide)
theorem e140_115 : V 140 115 [some (.ref a), l1, l2, l3, l4] st h Q = V 140 116 [some (.ref a), l1, l2, l3, l4] (.ref a :: st) h Q := V_nx (by decide +kernel : decode (p_c 140) 115 = .ok (.aload_n 0, 1)) rfl rfl
theorem e140_116 : V 140 116 L (.ref a :: st) h Q = (p_ok1 [12] 10 (p_get h a) ∧ V 140 119 L (p_fv 10 (p_get h a) :: st) h Q) := V_gf (t := (3, 1, "WaterShouldersModel")) (by decide +kernel : decode (p_c 140) 116 = .ok (.getfield 28, 3)) (by decide +kernel)
theorem e140_119 : V 140 119 [l0, l1, l2, some (.int x), l4] st h Q = V 140 120 [l0, l1, l2, some (.int x), l4] (.int x :: st) h Q := V_nx (by decide +kernel : decode (p_c 140) 119 = .ok (.iload_n 3, 1)) rfl rfl
theorem e140_120 : V 140 120 L (.int i :: .ref a :: st) h Q = (p_iok i (p_get h a) ∧ V 140 121 L (.int (p_ivl i (p_get h a)) :: st) h Q) := V_ial (by decide +kernel : decode (p_c 140) 120 = .ok (.iaload, 1))
theorem e140_121 : V 140 121 L (.int x :: .int i :: .ref a :: st) h Q = (p_sok i (p_get h a) ∧ V 140 122 L st (p_set h a (p_ist i x (p_get h a))) Q) := V_ias (by decide +kernel : decode (p_c 140) 121 = .ok (.iastore, 1))
theorem e140_122 : V 140 122 [l0, l1, l2, l3, some (.int x)] st h Q = V 140 124 [l0, l1, l2, l3, some (.int x)] (.int x :: st) h Q := V_nx (by decide +kernel : decode (p_c 140) 122 = .ok (.iload 4, 2)) rfl rfl
theorem e140_124 : V 140 124 L [.int x] h Q = ((x = 0 ∨ x = 1) ∧ Q (some (.int x)) h) := V_rz (by decide +kernel : decode (p_c 140) 124 = .ok (.ireturn, 1)) rfl
theorem e140_125 : V 140 125 [some (.ref a), l1, l2, l3, l4] st h Q = V 140 126 [some (.ref a), l1, l2, l3, l4] (.ref a :: st) h Q := V_nx (by decide +kernel : decode (p_c 140) 125 = .ok (.aload_n 0, 1)) rfl rfl
theorem e140_126 : V 140 126 [l0, l1, l2, some (.int x), l4] st h Q = V 140 127 [l0, l1, l2, some (.int x), l4] (.int x :: st) h Q := V_nx (by decide +kernel : decode (p_c 140) 126 = .ok (.iload_n 3, 1)) rfl rfl
theorem e140_127 : V 140 127 [l0, some (.int x), l2, l3, l4] st h Q = V 140 128 [l0, some (.int x), l2, l3, l4] (.int x :: st) h Q := V_nx (by decide +kernel : decode (p_c 140) 127 = .ok (.iload_n 1, 1)) rfl rfl
theorem e140_128 : V 140 128 L st h Q = V 140 129 L (.int 3 :: st) h Q := V_c (by decide +kernel : decode (p_c 140) 128 = .ok (.iconst 3, 1)) (by decide)
theorem e140_129 : V 140 129 L (.int z :: .int x :: st) h Q = V 140 130 L (.int (x - z) :: st) h Q := V_nx (by decide +kernel : decode (p_c 140) 129 = .ok (.isub, 1)) rfl rfl
theorem e140_130 : V 140 130 L (.int x2 :: .int x1 :: .ref a :: st) h Q = ((p_cn1 (p_get h a) = 12 ∧ p_sm st) ∧ Vm 126 [.ref a, .int x1, .int x2] h (Kt 140 133 L st Q)) := V_iv (n := 2) (as := [.int x2, .int x1]) (ci := 12) (z := 126) (by decide +kernel : decode (p_c 140) 130 = .ok (.invokevirtual 160, 3)) (by decide +kernel) rfl rfl (by decide +kernel) rfl
theorem e140_133 : V 140 133 [l0, l1, l2, l3, l4] (.int x :: st) h Q = V 140 135 [l0, l1, l2, p_dl l3, some (.int x)] st h Q := V_nx (by decide +kernel : decode (p_c 140) 133 = .ok (.istore 4, 2)) rfl rfl
theorem e140_135 : V 140 135 [l0, l1, l2, l3, some (.int x)] st h Q = V 140 137 [l0, l1, l2, l3, some (.int x)] (.int x :: st) h Q := V_nx (by decide +kernel : decode (p_c 140) 135 = .ok (.iload 4, 2)) rfl rfl
theorem e140_137 : V 140 137 L (.int x :: st) h Q = if x = 0 then V 140 149 L st h Q else V 140 140 L st h Q := (V_ifc (by decide +kernel : decode (p_c 140) 137 = .ok (.ifCond .eq 12, 3)) (by decide)).trans i_eq
theorem e140_140 : V 140 140 [some (.ref a), l1, l2, l3, l4] st h Q = V 140 141 [some (.ref a), l1, l2, l3, l4] (.ref a :: st) h Q := V_nx (by decide +kernel : decode (p_c 140) 140 = .ok (.aload_n 0, 1)) rfl rfl
theorem e140_141 : V 140 141 [l0, l1, l2, some (.int x), l4] st h Q = V 140 142 [l0, l1, l2, some (.int x), l4] (.int x :: st) h Q := V_nx (by decide +kernel : decode (p_c 140) 141 = .ok (.iload_n 3, 1)) rfl rfl
theorem e140_142 : V 140 142 [l0, some (.int x), l2, l3, l4] st h Q = V 140 143 [l0, some (.int x), l2, l3, l4] (.int x :: st) h Q := V_nx (by decide +kernel : decode (p_c 140) 142 = .ok (.iload_n 1, 1)) rfl rfl
theorem e140_143 : V 140 143 L st h Q = V 140 144 L (.int 3 :: st) h Q := V_c (by decide +kernel : decode (p_c 140) 143 = .ok (.iconst 3, 1)) (by decide)
theorem e140_144 : V 140 144 L (.int z :: .int x :: st) h Q = V 140 145 L (.int (x - z) :: st) h Q := V_nx (by decide +kernel : decode (p_c 140) 144 = .ok (.isub, 1)) rfl rfl
theorem e140_145 : V 140 145 L (.int x2 :: .int x1 :: .ref a :: st) h Q = ((p_cn1 (p_get h a) = 12 ∧ p_sm st) ∧ Vm 130 [.ref a, .int x1, .int x2] h (Kt 140 148 L st Q)) := V_iv (n := 2) (as := [.int x2, .int x1]) (ci := 12) (z := 130) (by decide +kernel : decode (p_c 140) 145 = .ok (.invokevirtual 163, 3)) (by decide +kernel) rfl rfl (by decide +kernel) rfl
theorem e140_148 : V 140 148 L (.int x :: st) h Q = V 140 149 L st h Q := V_nx (by decide +kernel : decode (p_c 140) 148 = .ok (.pop, 1)) rfl rfl
theorem e140_149 : V 140 149 [l0, l1, l2, l3, some (.int x)] st h Q = V 140 151 [l0, l1, l2, l3, some (.int x)] (.int x :: st) h Q := V_nx (by decide +kernel : decode (p_c 140) 149 = .ok (.iload 4, 2)) rfl rfl
theorem e140_151 : V 140 151 L [.int x] h Q = ((x = 0 ∨ x = 1) ∧ Q (some (.int x)) h) := V_rz (by decide +kernel : decode (p_c 140) 151 = .ok (.ireturn, 1)) rfl
theorem e140_152 : V 140 152 [l0, some (.int x), l2, l3, l4] st h Q = V 140 153 [l0, some (.int x), l2, l3, l4] (.int x :: st) h Q := V_nx (by decide +kernel : decode (p_c 140) 152 = .ok (.iload_n 1, 1)) rfl rfl
theorem e140_153 : V 140 153 L st h Q = V 140 155 L (.int 10 :: st) h Q := V_b (by decide +kernel : decode (p_c 140) 153 = .ok (.bipush 10, 2)) (by decide)
theorem e140_155 : V 140 155 L (.int z :: .int x :: st) h Q = if z < x then V 140 158 L st h Q else V 140 174 L st h Q := (V_icmp (by decide +kernel : decode (p_c 140) 155 = .ok (.if_icmp .le 19, 3)) (by decide)).trans i_le
theorem e140_158 : V 140 158 [some (.ref a), l1, l2, l3, l4] st h Q = V 140 159 [some (.ref a), l1, l2, l3, l4] (.ref a :: st) h Q := V_nx (by decide +kernel : decode (p_c 140) 158 = .ok (.aload_n 0, 1)) rfl rfl
theorem e140_159 : V 140 159 [l0, l1, l2, some (.int x), l4] st h Q = V 140 160 [l0, l1, l2, some (.int x), l4] (.int x :: st) h Q := V_nx (by decide +kernel : decode (p_c 140) 159 = .ok (.iload_n 3, 1)) rfl rfl
theorem e140_160 : V 140 160 [l0, some (.int x), l2, l3, l4] st h Q = V 140 161 [l0, some (.int x), l2, l3, l4] (.int x :: st) h Q := V_nx (by decide +kernel : decode (p_c 140) 160 = .ok (.iload_n 1, 1)) rfl rfl
theorem e140_161 : V 140 161 L st h Q = V 140 163 L (.int 10 :: st) h Q := V_b (by decide +kernel : decode (p_c 140) 161 = .ok (.bipush 10, 2)) (by decide)
theorem e140_163 : V 140 163 L (.int z :: .int x :: st) h Q = V 140 164 L (.int (x - z) :: st) h Q := V_nx (by decide +kernel : decode (p_c 140) 163 = .ok (.isub, 1)) rfl rfl
theorem e140_164 : V 140 164 L (.int x2 :: .int x1 :: .ref a :: st) h Q = ((p_cn1 (p_get h a) = 12 ∧ p_sm st) ∧ Vm 125 [.ref a, .int x1, .int x2] h (Kt 140 167 L st Q)) := V_iv (n := 2) (as := [.int x2, .int x1]) (ci := 12) (z := 125) (by decide +kernel : decode (p_c 140) 164 = .ok (.invokevirtual 152, 3)) (by decide +kernel) rfl rfl (by decide +kernel) rfl
theorem e140_167 : V 140 167 L (.int x :: st) h Q = if x = 0 then V 140 174 L st h Q else V 140 170 L st h Q := (V_ifc (by decide +kernel : decode (p_c 140) 167 = .ok (.ifCond .eq 7, 3)) (by decide)).trans i_eq
theorem e140_170 : V 140 170 L st h Q = V 140 171 L (.int 1 :: st) h Q := V_c (by decide +kernel : decode (p_c 140) 170 = .ok (.iconst 1, 1)) (by decide)
theorem e140_171 : V 140 171 L st h Q = V 140 175 L st h Q := V_goto (by decide +kernel : decode (p_c 140) 171 = .ok (.goto 4, 3)) (by decide)
theorem e140_174 : V 140 174 L st h Q = V 140 175 L (.int 0 :: st) h Q := V_c (by decide +kernel : decode (p_c 140) 174 = .ok (.iconst 0, 1)) (by decide)
theorem e140_175 : V 140 175 [l0, l1, l2, l3, l4] (.int x :: st) h Q = V 140 177 [l0, l1, l2, p_dl l3, some (.int x)] st h Q := V_nx (by decide +kernel : decode (p_c 140) 175 = .ok (.istore 4, 2)) rfl rfl
theorem e140_177 : V 140 177 [l0, l1, l2, l3, some (.int x)] st h Q = V 140 179 [l0, l1, l2, l3, some (.int x)] (.int x :: st) h Q := V_nx (by decide +kernel : decode (p_c 140) 177 = .ok (.iload 4, 2)) rfl rfl
theorem e140_179 : V 140 179 L (.int x :: st) h Q = if x = 0 then V 140 191 L st h Q else V 140 182 L st h Q := (V_ifc (by decide +kernel : decode (p_c 140) 179 = .ok (.ifCond .eq 12, 3)) (by decide)).trans i_eq
theorem e140_182 : V 140 182 [some (.ref a), l1, l2, l3, l4] st h Q = V 140 183 [some (.ref a), l1, l2, l3, l4] (.ref a :: st) h Q := V_nx (by decide +kernel : decode (p_c 140) 182 = .ok (.aload_n 0, 1)) rfl rfl
theorem e140_183 : V 140 183 [l0, l1, l2, some (.int x), l4] st h Q = V 140 184 [l0, l1, l2, some (.int x), l4] (.int x :: st) h Q := V_nx (by decide +kernel : decode (p_c 140) 183 = .ok (.iload_n 3, 1)) rfl rfl
theorem e140_184 : V 140 184 [l0, some (.int x), l2, l3, l4] st h Q = V 140 185 [l0, some (.int x), l2, l3, l4] (.int x :: st) h Q := V_nx (by decide +kernel : decode (p_c 140) 184 = .ok (.iload_n 1, 1)) rfl rfl
theorem e140_185 : V 140 185 L st h Q = V 140 187 L (.int 10 :: st) h Q := V_b (by decide +kernel : decode (p_c 140) 185 = .ok (.bipush 10, 2)) (by decide)
theorem e140_187 : V 140 187 L (.int z :: .int x :: st) h Q = V 140 188 L (.int (x - z) :: st) h Q := V_nx (by decide +kernel : decode (p_c 140) 187 = .ok (.isub, 1)) rfl rfl
theorem e140_188 : V 140 188 L (.int x2 :: .int x1 :: .ref a :: st) h Q = ((p_cn1 (p_get h a) = 12 ∧ p_sm st) ∧ Vm 129 [.ref a, .int x1, .int x2] h (Kt 140 191 L st Q)) := V_iv (n := 2) (as := [.int x2, .int x1]) (ci := 12) (z := 129) (by decide +kernel : decode (p_c 140) 188 = .ok (.invokevirtual 156, 3)) (by decide +kernel) rfl rfl (by decide +kernel) rfl
theorem e140_191 : V 140 191 [l0, l1, l2, l3, some (.int x)] st h Q = V 140 193 [l0, l1, l2, l3, some (.int x)] (.int x :: st) h Q := V_nx (by decide +kernel : decode (p_c 140) 191 = .ok (.iload 4, 2)) rfl rfl
theorem e140_193 : V 140 193 L [.int x] h Q = ((x = 0 ∨ x = 1) ∧ Q (some (.int x)) h) := V_rz (by decide +kernel : decode (p_c 140) 193 = .ok (.ireturn, 1)) rfl
theorem m140 : Vm 140 [.ref a, .int x1, .int x2, .int x3] h Q = V 140 0 [some (.ref a), some (.int x1), some (.int x2), some (.int x3), none] [] h Q := rfl
theorem e141_0 : V 141 0 [some (.ref a), l1, l2, l3, l4, l5, l6, l7, l8] st h Q = V 141 1 [some (.ref a), l1, l2, l3, l4, l5, l6, l7, l8] (.ref a :: st) h Q := V_nx (by decide +kernel : decode (p_c 141) 0 = .ok (.aload_n 0, 1)) rfl rfl
theorem e141_1 : V 141 1 [l0, some (.int x), l2, l3, l4, l5, l6, l7, l8] st h Q = V 141 2 [l0, some (.int x), l2, l3, l4, l5, l6, l7, l8] (.int x :: st) h Q := V_nx (by decide +kernel : decode (p_c 141) 1 = .ok (.iload_n 1, 1)) rfl rfl
theorem e141_2 : V 141 2 [l0, l1, some (.int x), l3, l4, l5, l6, l7, l8] st h Q = V 141 3 [l0, l1, some (.int x), l3, l4, l5, l6, l7, l8] (.int x :: st) h Q := V_nx (by decide +kernel : decode (p_c 141) 2 = .ok (.iload_n 2, 1)) rfl rfl
theorem e141_3 : V 141 3 L (.int x2 :: .int x1 :: .ref a :: st) h Q = ((p_cn1 (p_get h a) = 12 ∧ p_sm st) ∧ Vm 138 [.ref a, .int x1, .int x2] h (Kt 141 6 L st Q)) := V_iv (n := 2) (as := [.int x2, .int x1]) (ci := 12) (z := 138) (by decide +kernel : decode (p_c 141) 3 = .ok (.invokevirtual 177, 3)) (by decide +kernel) rfl rfl (by decide +kernel) rfl
theorem e141_6 : V 141 6 [l0, l1, l2, l3, l4, l5, l6, l7, l8] (.int x :: st) h Q = V 141 8 [l0, l1, l2, p_dl l3, some (.int x), l5, l6, l7, l8] st h Q := V_nx (by decide +kernel : decode (p_c 141) 6 = .ok (.istore 4, 2)) rfl rfl
theorem e141_8 : V 141 8 [l0, l1, l2, l3, some (.int x), l5, l6, l7, l8] st h Q = V 141 10 [l0, l1, l2, l3, some (.int x), l5, l6, l7, l8] (.int x :: st) h Q := V_nx (by decide +kernel : decode (p_c 141) 8 = .ok (.iload 4, 2)) rfl rfl
theorem e141_10 : V 141 10 L st h Q = V 141 11 L (.int 4 :: st) h Q := V_c (by decide +kernel : decode (p_c 141) 10 = .ok (.iconst 4, 1)) (by decide)
theorem e141_11 : V 141 11 L (.int z :: .int x :: st) h Q = (¬ z = 0 ∧ V 141 12 L (.int (x - x / z * z) :: st) h Q) := V_irem (by decide +kernel : decode (p_c 141) 11 = .ok (.irem, 1))
theorem e141_12 : V 141 12 [some (.ref a), l1, l2, l3, l4, l5, l6, l7, l8] st h Q = V 141 13 [some (.ref a), l1, l2, l3, l4, l5, l6, l7, l8] (.ref a :: st) h Q := V_nx (by decide +kernel : decode (p_c 141) 12 = .ok (.aload_n 0, 1)) rfl rfl
theorem e141_13 : V 141 13 L (.ref a :: st) h Q = (p_ok1 [12] 0 (p_get h a) ∧ V 141 16 L (p_fv 0 (p_get h a) :: st) h Q) := V_gf (t := (0, 0, "WaterShouldersModel")) (by decide +kernel : decode (p_c 141) 13 = .ok (.getfield 104, 3)) (by decide +kernel)
theorem e141_16 : V 141 16 L st h Q = V 141 17 L (.int 1 :: st) h Q := V_c (by decide +kernel : decode (p_c 141) 16 = .ok (.iconst 1, 1)) (by decide)
theorem e141_17 : V 141 17 L (.int z :: .int x :: st) h Q = V 141 18 L (.int (x - z) :: st) h Q := V_nx (by decide +kernel : decode (p_c 141) 17 = .ok (.isub, 1)) rfl rfl
theorem e141_18 : V 141 18 L (.int z :: .int x :: st) h Q = if x = z then V 141 21 L st h Q else V 141 31 L st h Q := (V_icmp (by decide +kernel : decode (p_c 141) 18 = .ok (.if_icmp .ne 13, 3)) (by decide)).trans i_ne
theorem e141_21 : V 141 21 [l0, l1, l2, some (.int x), l4, l5, l6, l7, l8] st h Q = V 141 22 [l0, l1, l2, some (.int x), l4, l5, l6, l7, l8] (.int x :: st) h Q := V_nx (by decide +kernel : decode (p_c 141) 21 = .ok (.iload_n 3, 1)) rfl rfl
theorem e141_22 : V 141 22 L (.int x :: st) h Q = if x = 0 then V 141 25 L st h Q else V 141 29 L st h Q := (V_ifc (by decide +kernel : decode (p_c 141) 22 = .ok (.ifCond .ne 7, 3)) (by decide)).trans i_ne
theorem e141_25 : V 141 25 L st h Q = V 141 26 L (.int 0 :: st) h Q := V_c (by decide +kernel : decode (p_c 141) 25 = .ok (.iconst 0, 1)) (by decide)
theorem e141_26 : V 141 26 L st h Q = V 141 30 L st h Q := V_goto (by decide +kernel : decode (p_c 141) 26 = .ok (.goto 4, 3)) (by decide)
theorem e141_29 : V 141 29 L st h Q = V 141 30 L (.int (-1) :: st) h Q := V_c (by decide +kernel : decode (p_c 141) 29 = .ok (.iconst (-1), 1)) (by decide)
theorem e141_30 : V 141 30 L [.int x] h Q = Q (some (.int x)) h := V_ri (by decide +kernel : decode (p_c 141) 30 = .ok (.ireturn, 1)) rfl
theorem e141_31 : V 141 31 L st h Q = V 141 32 L (.int 0 :: st) h Q := V_c (by decide +kernel : decode (p_c 141) 31 = .ok (.iconst 0, 1)) (by decide)
theorem e141_32 : V 141 32 [l0, l1, l2, l3, l4, l5, l6, l7, l8] (.int x :: st) h Q = V 141 34 [l0, l1, l2, l3, p_dl l4, some (.int x), l6, l7, l8] st h Q := V_nx (by decide +kernel : decode (p_c 141) 32 = .ok (.istore 5, 2)) rfl rfl
theorem e141_34 : V 141 34 [l0, l1, l2, l3, l4, some (.int x), l6, l7, l8] st h Q = V 141 36 [l0, l1, l2, l3, l4, some (.int x), l6, l7, l8] (.int x :: st) h Q := V_nx (by decide +kernel : decode (p_c 141) 34 = .ok (.iload 5, 2)) rfl rfl
theorem e141_36 : V 141 36 L st h Q = V 141 39 L (.int 24192 :: st) h Q := V_s (by decide +kernel : decode (p_c 141) 36 = .ok (.sipush 24192, 3)) (by decide)
theorem e141_39 : V 141 39 L (.int z :: .int x :: st) h Q = if x < z then V 141 42 L st h Q else V 141 56 L st h Q := (V_icmp (by decide +kernel : decode (p_c 141) 39 = .ok (.if_icmp .ge 17, 3)) (by decide)).trans i_ge
theorem e141_42 : V 141 42 [some (.ref a), l1, l2, l3, l4, l5, l6, l7, l8] st h Q = V 141 43 [some (.ref a), l1, l2, l3, l4, l5, l6, l7, l8] (.ref a :: st) h Q := V_nx (by decide +kernel : decode (p_c 141) 42 = .ok (.aload_n 0, 1)) rfl rfl
theorem e141_43 : V 141 43 L (.ref a :: st) h Q = (p_ok1 [12] 24 (p_get h a) ∧ V 141 46 L (p_fv 24 (p_get h a) :: st) h Q) := V_gf (t := (3, 1, "WaterShouldersModel")) (by decide +kernel : decode (p_c 141) 43 = .ok (.getfield 51, 3)) (by decide +kernel)
theorem e141_46 : V 141 46 [l0, l1, l2, l3, l4, some (.int x), l6, l7, l8] st h Q = V 141 48 [l0, l1, l2, l3, l4, some (.int x), l6, l7, l8] (.int x :: st) h Q := V_nx (by decide +kernel : decode (p_c 141) 46 = .ok (.iload 5, 2)) rfl rfl
theorem e141_48 : V 141 48 L st h Q = V 141 49 L (.int 0 :: st) h Q := V_c (by decide +kernel : decode (p_c 141) 48 = .ok (.iconst 0, 1)) (by decide)
theorem e141_49 : V 141 49 L (.int x :: .int i :: .ref a :: st) h Q = (p_bok i (p_get h a) ∧ V 141 50 L st (p_set h a (p_bst i x (p_get h a))) Q) := V_bas (by decide +kernel : decode (p_c 141) 49 = .ok (.bastore, 1))
theorem e141_50 : V 141 50 [l0, l1, l2, l3, l4, some (.int x), l6, l7, l8] st h Q = V 141 53 [l0, l1, l2, l3, p_dl l4, some (.int (x + 1)), l6, l7, l8] st h Q := V_iinc (x := x) (by decide +kernel : decode (p_c 141) 50 = .ok (.iinc 5 1, 3)) (by decide) rfl (Nat.le_of_ble_eq_true rfl)
theorem e141_53 : V 141 53 L st h Q = V 141 34 L st h Q := V_goto (by decide +kernel : decode (p_c 141) 53 = .ok (.goto (-19), 3)) (by decide)
theorem e141_56 : V 141 56 [some (.ref a), l1, l2, l3, l4, l5, l6, l7, l8] st h Q = V 141 57 [some (.ref a), l1, l2, l3, l4, l5, l6, l7, l8] (.ref a :: st) h Q := V_nx (by decide +kernel : decode (p_c 141) 56 = .ok (.aload_n 0, 1)) rfl rfl
theorem e141_57 : V 141 57 L (.ref a :: st) h Q = (p_ok1 [12] 24 (p_get h a) ∧ V 141 60 L (p_fv 24 (p_get h a) :: st) h Q) := V_gf (t := (3, 1, "WaterShouldersModel")) (by decide +kernel : decode (p_c 141) 57 = .ok (.getfield 51, 3)) (by decide +kernel)
theorem e141_60 : V 141 60 [l0, l1, l2, l3, some (.int x), l5, l6, l7, l8] st h Q = V 141 62 [l0, l1, l2, l3, some (.int x), l5, l6, l7, l8] (.int x :: st) h Q := V_nx (by decide +kernel : decode (p_c 141) 60 = .ok (.iload 4, 2)) rfl rfl
theorem e141_62 : V 141 62 L st h Q = V 141 64 L (.int 99 :: st) h Q := V_b (by decide +kernel : decode (p_c 141) 62 = .ok (.bipush 99, 2)) (by decide)
theorem e141_64 : V 141 64 L (.int x :: .int i :: .ref a :: st) h Q = (p_bok i (p_get h a) ∧ V 141 65 L st (p_set h a (p_bst i x (p_get h a))) Q) := V_bas (by decide +kernel : decode (p_c 141) 64 = .ok (.bastore, 1))
theorem e141_65 : V 141 65 [some (.ref a), l1, l2, l3, l4, l5, l6, l7, l8] st h Q = V 141 66 [some (.ref a), l1, l2, l3, l4, l5, l6, l7, l8] (.ref a :: st) h Q := V_nx (by decide +kernel : decode (p_c 141) 65 = .ok (.aload_n 0, 1)) rfl rfl
theorem e141_66 : V 141 66 L (.ref a :: st) h Q = (p_ok1 [12] 25 (p_get h a) ∧ V 141 69 L (p_fv 25 (p_get h a) :: st) h Q) := V_gf (t := (3, 1, "WaterShouldersModel")) (by decide +kernel : decode (p_c 141) 66 = .ok (.getfield 54, 3)) (by decide +kernel)
theorem e141_69 : V 141 69 L st h Q = V 141 70 L (.int 0 :: st) h Q := V_c (by decide +kernel : decode (p_c 141) 69 = .ok (.iconst 0, 1)) (by decide)
theorem e141_70 : V 141 70 [l0, l1, l2, l3, some (.int x), l5, l6, l7, l8] st h Q = V 141 72 [l0, l1, l2, l3, some (.int x), l5, l6, l7, l8] (.int x :: st) h Q := V_nx (by decide +kernel : decode (p_c 141) 70 = .ok (.iload 4, 2)) rfl rfl
theorem e141_72 : V 141 72 L (.int x :: .int i :: .ref a :: st) h Q = (p_sok i (p_get h a) ∧ V 141 73 L st (p_set h a (p_ist i x (p_get h a))) Q) := V_ias (by decide +kernel : decode (p_c 141) 72 = .ok (.iastore, 1))
theorem e141_73 : V 141 73 [some (.ref a), l1, l2, l3, l4, l5, l6, l7, l8] st h Q = V 141 74 [some (.ref a), l1, l2, l3, l4, l5, l6, l7, l8] (.ref a :: st) h Q := V_nx (by decide +kernel : decode (p_c 141) 73 = .ok (.aload_n 0, 1)) rfl rfl
theorem e141_74 : V 141 74 L st h Q = V 141 75 L (.int 1 :: st) h Q := V_c (by decide +kernel : decode (p_c 141) 74 = .ok (.iconst 1, 1)) (by decide)
theorem e141_75 : V 141 75 L (.int x :: .ref a :: st) h Q = (p_ok1 [12] 26 (p_get h a) ∧ V 141 78 L st (p_set h a (p_fs 26 (.int x) (p_get h a))) Q) := V_pf0 (fin := 0) (ref := "WaterShouldersModel") (by decide +kernel : decode (p_c 141) 75 = .ok (.putfield 180, 3)) (by decide +kernel) (by decide +kernel)
theorem e141_78 : V 141 78 L st h Q = V 141 79 L (.int 0 :: st) h Q := V_c (by decide +kernel : decode (p_c 141) 78 = .ok (.iconst 0, 1)) (by decide)
theorem e141_79 : V 141 79 [l0, l1, l2, l3, l4, l5, l6, l7, l8] (.int x :: st) h Q = V 141 81 [l0, l1, l2, l3, p_dl l4, some (.int x), l6, l7, l8] st h Q := V_nx (by decide +kernel : decode (p_c 141) 79 = .ok (.istore 5, 2)) rfl rfl
theorem e141_81 : V 141 81 L st h Q = V 141 82 L (.int (-1) :: st) h Q := V_c (by decide +kernel : decode (p_c 141) 81 = .ok (.iconst (-1), 1)) (by decide)
theorem e141_82 : V 141 82 [l0, l1, l2, l3, l4, l5, l6, l7, l8] (.int x :: st) h Q = V 141 84 [l0, l1, l2, l3, l4, p_dl l5, some (.int x), l7, l8] st h Q := V_nx (by decide +kernel : decode (p_c 141) 82 = .ok (.istore 6, 2)) rfl rfl
theorem e141_84 : V 141 84 L st h Q = V 141 85 L (.int 0 :: st) h Q := V_c (by decide +kernel : decode (p_c 141) 84 = .ok (.iconst 0, 1)) (by decide)
theorem e141_85 : V 141 85 [l0, l1, l2, l3, l4, l5, l6, l7, l8] (.int x :: st) h Q = V 141 87 [l0, l1, l2, l3, l4, l5, p_dl l6, some (.int x), l8] st h Q := V_nx (by decide +kernel : decode (p_c 141) 85 = .ok (.istore 7, 2)) rfl rfl
theorem e141_87 : V 141 87 [l0, l1, l2, l3, l4, some (.int x), l6, l7, l8] st h Q = V 141 89 [l0, l1, l2, l3, l4, some (.int x), l6, l7, l8] (.int x :: st) h Q := V_nx (by decide +kernel : decode (p_c 141) 87 = .ok (.iload 5, 2)) rfl rfl
theorem e141_89 : V 141 89 [some (.ref a), l1, l2, l3, l4, l5, l6, l7, l8] st h Q = V 141 90 [some (.ref a), l1, l2, l3, l4, l5, l6, l7, l8] (.ref a :: st) h Q := V_nx (by decide +kernel : decode (p_c 141) 89 = .ok (.aload_n 0, 1)) rfl rfl
theorem e141_90 : V 141 90 L (.ref a :: st) h Q = (p_ok1 [12] 26 (p_get h a) ∧ V 141 93 L (p_fv 26 (p_get h a) :: st) h Q) := V_gf (t := (0, 0, "WaterShouldersModel")) (by decide +kernel : decode (p_c 141) 90 = .ok (.getfield 180, 3)) (by decide +kernel)
theorem e141_93 : V 141 93 L (.int z :: .int x :: st) h Q = if x < z then V 141 96 L st h Q else V 141 148 L st h Q := (V_icmp (by decide +kernel : decode (p_c 141) 93 = .ok (.if_icmp .ge 55, 3)) (by decide)).trans i_ge
theorem e141_96 : V 141 96 [l0, l1, l2, l3, l4, l5, some (.int x), l7, l8] st h Q = V 141 98 [l0, l1, l2, l3, l4, l5, some (.int x), l7, l8] (.int x :: st) h Q := V_nx (by decide +kernel : decode (p_c 141) 96 = .ok (.iload 6, 2)) rfl rfl
theorem e141_98 : V 141 98 L st h Q = V 141 99 L (.int (-1) :: st) h Q := V_c (by decide +kernel : decode (p_c 141) 98 = .ok (.iconst (-1), 1)) (by decide)
theorem e141_99 : V 141 99 L (.int z :: .int x :: st) h Q = if x = z then V 141 102 L st h Q else V 141 148 L st h Q := (V_icmp (by decide +kernel : decode (p_c 141) 99 = .ok (.if_icmp .ne 49, 3)) (by decide)).trans i_ne
theorem e141_102 : V 141 102 [some (.ref a), l1, l2, l3, l4, l5, l6, l7, l8] st h Q = V 141 103 [some (.ref a), l1, l2, l3, l4, l5, l6, l7, l8] (.ref a :: st) h Q := V_nx (by decide +kernel : decode (p_c 141) 102 = .ok (.aload_n 0, 1)) rfl rfl
theorem e141_103 : V 141 103 L (.ref a :: st) h Q = (p_ok1 [12] 26 (p_get h a) ∧ V 141 106 L (p_fv 26 (p_get h a) :: st) h Q) := V_gf (t := (0, 0, "WaterShouldersModel")) (by decide +kernel : decode (p_c 141) 103 = .ok (.getfield 180, 3)) (by decide +kernel)
theorem e141_106 : V 141 106 [l0, l1, l2, l3, l4, l5, l6, l7, l8] (.int x :: st) h Q = V 141 108 [l0, l1, l2, l3, l4, l5, l6, p_dl l7, some (.int x)] st h Q := V_nx (by decide +kernel : decode (p_c 141) 106 = .ok (.istore 8, 2)) rfl rfl
theorem e141_108 : V 141 108 [l0, l1, l2, l3, l4, l5, l6, some (.int x), l8] st h Q = V 141 111 [l0, l1, l2, l3, l4, l5, p_dl l6, some (.int (x + 1)), l8] st h Q := V_iinc (x := x) (by decide +kernel : decode (p_c 141) 108 = .ok (.iinc 7 1, 3)) (by decide) rfl (Nat.le_of_ble_eq_true rfl)
theorem e141_111 : V 141 111 [l0, l1, l2, l3, l4, some (.int x), l6, l7, l8] st h Q = V 141 113 [l0, l1, l2, l3, l4, some (.int x), l6, l7, l8] (.int x :: st) h Q := V_nx (by decide +kernel : decode (p_c 141) 111 = .ok (.iload 5, 2)) rfl rfl
theorem e141_113 : V 141 113 [l0, l1, l2, l3, l4, l5, l6, l7, some (.int x)] st h Q = V 141 115 [l0, l1, l2, l3, l4, l5, l6, l7, some (.int x)] (.int x :: st) h Q := V_nx (by decide +kernel : decode (p_c 141) 113 = .ok (.iload 8, 2)) rfl rfl
theorem e141_115 : V 141 115 L (.int z :: .int x :: st) h Q = if x < z then V 141 118 L st h Q else V 141 145 L st h Q := (V_icmp (by decide +kernel : decode (p_c 141) 115 = .ok (.if_icmp .ge 30, 3)) (by decide)).trans i_ge
theorem e141_118 : V 141 118 [l0, l1, l2, l3, l4, l5, some (.int x), l7, l8] st h Q = V 141 120 [l0, l1, l2, l3, l4, l5, some (.int x), l7, l8] (.int x :: st) h Q := V_nx (by decide +kernel : decode (p_c 141) 118 = .ok (.iload 6, 2)) rfl rfl
theorem e141_120 : V 141 120 L st h Q = V 141 121 L (.int (-1) :: st) h Q := V_c (by decide +kernel : decode (p_c 141) 120 = .ok (.iconst (-1), 1)) (by decide)
theorem e141_121 : V 141 121 L (.int z :: .int x :: st) h Q = if x = z then V 141 124 L st h Q else V 141 145 L st h Q := (V_icmp (by decide +kernel : decode (p_c 141) 121 = .ok (.if_icmp .ne 24, 3)) (by decide)).trans i_ne
theorem e141_124 : V 141 124 [some (.ref a), l1, l2, l3, l4, l5, l6, l7, l8] st h Q = V 141 125 [some (.ref a), l1, l2, l3, l4, l5, l6, l7, l8] (.ref a :: st) h Q := V_nx (by decide +kernel : decode (p_c 141) 124 = .ok (.aload_n 0, 1)) rfl rfl
theorem e141_125 : V 141 125 [some (.ref a), l1, l2, l3, l4, l5, l6, l7, l8] st h Q = V 141 126 [some (.ref a), l1, l2, l3, l4, l5, l6, l7, l8] (.ref a :: st) h Q := V_nx (by decide +kernel : decode (p_c 141) 125 = .ok (.aload_n 0, 1)) rfl rfl
theorem e141_126 : V 141 126 L (.ref a :: st) h Q = (p_ok1 [12] 25 (p_get h a) ∧ V 141 129 L (p_fv 25 (p_get h a) :: st) h Q) := V_gf (t := (3, 1, "WaterShouldersModel")) (by decide +kernel : decode (p_c 141) 126 = .ok (.getfield 54, 3)) (by decide +kernel)
theorem e141_129 : V 141 129 [l0, l1, l2, l3, l4, some (.int x), l6, l7, l8] st h Q = V 141 131 [l0, l1, l2, l3, l4, some (.int x), l6, l7, l8] (.int x :: st) h Q := V_nx (by decide +kernel : decode (p_c 141) 129 = .ok (.iload 5, 2)) rfl rfl
theorem e141_131 : V 141 131 L (.int i :: .ref a :: st) h Q = (p_iok i (p_get h a) ∧ V 141 132 L (.int (p_ivl i (p_get h a)) :: st) h Q) := V_ial (by decide +kernel : decode (p_c 141) 131 = .ok (.iaload, 1))
theorem e141_132 : V 141 132 [l0, some (.int x), l2, l3, l4, l5, l6, l7, l8] st h Q = V 141 133 [l0, some (.int x), l2, l3, l4, l5, l6, l7, l8] (.int x :: st) h Q := V_nx (by decide +kernel : decode (p_c 141) 132 = .ok (.iload_n 1, 1)) rfl rfl
theorem e141_133 : V 141 133 [l0, l1, some (.int x), l3, l4, l5, l6, l7, l8] st h Q = V 141 134 [l0, l1, some (.int x), l3, l4, l5, l6, l7, l8] (.int x :: st) h Q := V_nx (by decide +kernel : decode (p_c 141) 133 = .ok (.iload_n 2, 1)) rfl rfl
theorem e141_134 : V 141 134 L (.int x3 :: .int x2 :: .int x1 :: .ref a :: st) h Q = ((p_cn1 (p_get h a) = 12 ∧ p_sm st) ∧ Vm 142 [.ref a, .int x1, .int x2, .int x3] h (Kt 141 137 L st Q)) := V_iv (n := 3) (as := [.int x3, .int x2, .int x1]) (ci := 12) (z := 142) (by decide +kernel : decode (p_c 141) 134 = .ok (.invokevirtual 183, 3)) (by decide +kernel) rfl rfl (by decide +kernel) rfl
theorem e141_137 : V 141 137 [l0, l1, l2, l3, l4, l5, l6, l7, l8] (.int x :: st) h Q = V 141 139 [l0, l1, l2, l3, l4, p_dl l5, some (.int x), l7, l8] st h Q := V_nx (by decide +kernel : decode (p_c 141) 137 = .ok (.istore 6, 2)) rfl rfl
theorem e141_139 : V 141 139 [l0, l1, l2, l3, l4, some (.int x), l6, l7, l8] st h Q = V 141 142 [l0, l1, l2, l3, p_dl l4, some (.int (x + 1)), l6, l7, l8] st h Q := V_iinc (x := x) (by decide +kernel : decode (p_c 141) 139 = .ok (.iinc 5 1, 3)) (by decide) rfl (Nat.le_of_ble_eq_true rfl)
theorem e141_142 : V 141 142 L st h Q = V 141 111 L st h Q := V_goto (by decide +kernel : decode (p_c 141) 142 = .ok (.goto (-31), 3)) (by decide)
theorem e141_145 : V 141 145 L st h Q = V 141 87 L st h Q := V_goto (by decide +kernel : decode (p_c 141) 145 = .ok (.goto (-58), 3)) (by decide)
theorem e141_148 : V 141 148 [some (.ref a), l1, l2, l3, l4, l5, l6, l7, l8] st h Q = V 141 149 [some (.ref a), l1, l2, l3, l4, l5, l6, l7, l8] (.ref a :: st) h Q := V_nx (by decide +kernel : decode (p_c 141) 148 = .ok (.aload_n 0, 1)) rfl rfl
theorem e141_149 : V 141 149 [l0, l1, l2, l3, some (.int x), l5, l6, l7, l8] st h Q = V 141 151 [l0, l1, l2, l3, some (.int x), l5, l6, l7, l8] (.int x :: st) h Q := V_nx (by decide +kernel : decode (p_c 141) 149 = .ok (.iload 4, 2)) rfl rfl
theorem e141_151 : V 141 151 [l0, some (.int x), l2, l3, l4, l5, l6, l7, l8] st h Q = V 141 152 [l0, some (.int x), l2, l3, l4, l5, l6, l7, l8] (.int x :: st) h Q := V_nx (by decide +kernel : decode (p_c 141) 151 = .ok (.iload_n 1, 1)) rfl rfl
theorem e141_152 : V 141 152 [l0, l1, some (.int x), l3, l4, l5, l6, l7, l8] st h Q = V 141 153 [l0, l1, some (.int x), l3, l4, l5, l6, l7, l8] (.int x :: st) h Q := V_nx (by decide +kernel : decode (p_c 141) 152 = .ok (.iload_n 2, 1)) rfl rfl
theorem e141_153 : V 141 153 L (.int x3 :: .int x2 :: .int x1 :: .ref a :: st) h Q = ((p_cn1 (p_get h a) = 12 ∧ p_sm st) ∧ Vm 139 [.ref a, .int x1, .int x2, .int x3] h (Kt 141 156 L st Q)) := V_iv (n := 3) (as := [.int x3, .int x2, .int x1]) (ci := 12) (z := 139) (by decide +kernel : decode (p_c 141) 153 = .ok (.invokevirtual 187, 3)) (by decide +kernel) rfl rfl (by decide +kernel) rfl
theorem e141_156 : V 141 156 [l0, l1, l2, l3, l4, l5, some (.int x), l7, l8] st h Q = V 141 158 [l0, l1, l2, l3, l4, l5, some (.int x), l7, l8] (.int x :: st) h Q := V_nx (by decide +kernel : decode (p_c 141) 156 = .ok (.iload 6, 2)) rfl rfl
theorem e141_158 : V 141 158 L st h Q = V 141 159 L (.int (-1) :: st) h Q := V_c (by decide +kernel : decode (p_c 141) 158 = .ok (.iconst (-1), 1)) (by decide)
theorem e141_159 : V 141 159 L (.int z :: .int x :: st) h Q = if x = z then V 141 167 L st h Q else V 141 162 L st h Q := (V_icmp (by decide +kernel : decode (p_c 141) 159 = .ok (.if_icmp .eq 8, 3)) (by decide)).trans i_eq
theorem e141_162 : V 141 162 [l0, l1, l2, some (.int x), l4, l5, l6, l7, l8] st h Q = V 141 163 [l0, l1, l2, some (.int x), l4, l5, l6, l7, l8] (.int x :: st) h Q := V_nx (by decide +kernel : decode (p_c 141) 162 = .ok (.iload_n 3, 1)) rfl rfl
theorem e141_163 : V 141 163 L st h Q = V 141 164 L (.int 1 :: st) h Q := V_c (by decide +kernel : decode (p_c 141) 163 = .ok (.iconst 1, 1)) (by decide)
theorem e141_164 : V 141 164 L (.int z :: .int x :: st) h Q = if x = z then V 141 167 L st h Q else V 141 172 L st h Q := (V_icmp (by decide +kernel : decode (p_c 141) 164 = .ok (.if_icmp .ne 8, 3)) (by decide)).trans i_ne
theorem e141_167 : V 141 167 [l0, l1, l2, l3, l4, l5, some (.int x), l7, l8] st h Q = V 141 169 [l0, l1, l2, l3, l4, l5, some (.int x), l7, l8] (.int x :: st) h Q := V_nx (by decide +kernel : decode (p_c 141) 167 = .ok (.iload 6, 2)) rfl rfl
theorem e141_169 : V 141 169 L st h Q = V 141 174 L st h Q := V_goto (by decide +kernel : decode (p_c 141) 169 = .ok (.goto 5, 3)) (by decide)
theorem e141_172 : V 141 172 [l0, l1, l2, l3, l4, l5, l6, some (.int x), l8] st h Q = V 141 174 [l0, l1, l2, l3, l4, l5, l6, some (.int x), l8] (.int x :: st) h Q := V_nx (by decide +kernel : decode (p_c 141) 172 = .ok (.iload 7, 2)) rfl rfl
theorem e141_174 : V 141 174 L [.int x] h Q = Q (some (.int x)) h := V_ri (by decide +kernel : decode (p_c 141) 174 = .ok (.ireturn, 1)) rfl
theorem m141 : Vm 141 [.ref a, .int x1, .int x2, .int x3] h Q = V 141 0 [some (.ref a), some (.int x1), some (.int x2), some (.int x3), none, none, none, none, none] [] h Q := rfl
theorem e142_0 : V 142 0 L st h Q = V 142 1 L (.int 0 :: st) h Q := V_c (by decide +kernel : decode (p_c 142) 0 = .ok (.iconst 0, 1)) (by decide)
theorem e142_1 : V 142 1 [l0, l1, l2, l3, l4, l5] (.int x :: st) h Q = V 142 3 [l0, l1, l2, p_dl l3, some (.int x), l5] st h Q := V_nx (by decide +kernel : decode (p_c 142) 1 = .ok (.istore 4, 2)) rfl rfl
theorem e142_3 : V 142 3 [l0, l1, l2, l3, some (.int x), l5] st h Q = V 142 5 [l0, l1, l2, l3, some (.int x), l5] (.int x :: st) h Q := V_nx (by decide +kernel : decode (p_c 142) 3 = .ok (.iload 4, 2)) rfl rfl
theorem e142_5 : V 142 5 L st h Q = V 142 7 L (.int 17 :: st) h Q := V_b (by decide +kernel : decode (p_c 142) 5 = .ok (.bipush 17, 2)) (by decide)
theorem e142_7 : V 142 7 L (.int z :: .int x :: st) h Q = if x < z then V 142 10 L st h Q else V 142 128 L st h Q := (V_icmp (by decide +kernel : decode (p_c 142) 7 = .ok (.if_icmp .ge 121, 3)) (by decide)).trans i_ge
theorem e142_10 : V 142 10 [some (.ref a), l1, l2, l3, l4, l5] st h Q = V 142 11 [some (.ref a), l1, l2, l3, l4, l5] (.ref a :: st) h Q := V_nx (by decide +kernel : decode (p_c 142) 10 = .ok (.aload_n 0, 1)) rfl rfl
theorem e142_11 : V 142 11 [l0, some (.int x), l2, l3, l4, l5] st h Q = V 142 12 [l0, some (.int x), l2, l3, l4, l5] (.int x :: st) h Q := V_nx (by decide +kernel : decode (p_c 142) 11 = .ok (.iload_n 1, 1)) rfl rfl
theorem e142_12 : V 142 12 [l0, l1, some (.int x), l3, l4, l5] st h Q = V 142 13 [l0, l1, some (.int x), l3, l4, l5] (.int x :: st) h Q := V_nx (by decide +kernel : decode (p_c 142) 12 = .ok (.iload_n 2, 1)) rfl rfl
theorem e142_13 : V 142 13 [l0, l1, l2, some (.int x), l4, l5] st h Q = V 142 14 [l0, l1, l2, some (.int x), l4, l5] (.int x :: st) h Q := V_nx (by decide +kernel : decode (p_c 142) 13 = .ok (.iload_n 3, 1)) rfl rfl
theorem e142_14 : V 142 14 L (.int x3 :: .int x2 :: .int x1 :: .ref a :: st) h Q = ((p_cn1 (p_get h a) = 12 ∧ p_sm st) ∧ Vm 139 [.ref a, .int x1, .int x2, .int x3] h (Kt 142 17 L st Q)) := V_iv (n := 3) (as := [.int x3, .int x2, .int x1]) (ci := 12) (z := 139) (by decide +kernel : decode (p_c 142) 14 = .ok (.invokevirtual 187, 3)) (by decide +kernel) rfl rfl (by decide +kernel) rfl
theorem e142_17 : V 142 17 [some (.ref a), l1, l2, l3, l4, l5] st h Q = V 142 18 [some (.ref a), l1, l2, l3, l4, l5] (.ref a :: st) h Q := V_nx (by decide +kernel : decode (p_c 142) 17 = .ok (.aload_n 0, 1)) rfl rfl
theorem e142_18 : V 142 18 [l0, l1, l2, l3, some (.int x), l5] st h Q = V 142 20 [l0, l1, l2, l3, some (.int x), l5] (.int x :: st) h Q := V_nx (by decide +kernel : decode (p_c 142) 18 = .ok (.iload 4, 2)) rfl rfl
theorem e142_20 : V 142 20 [l0, l1, some (.int x), l3, l4, l5] st h Q = V 142 21 [l0, l1, some (.int x), l3, l4, l5] (.int x :: st) h Q := V_nx (by decide +kernel : decode (p_c 142) 20 = .ok (.iload_n 2, 1)) rfl rfl
theorem e142_21 : V 142 21 [l0, l1, l2, some (.int x), l4, l5] st h Q = V 142 22 [l0, l1, l2, some (.int x), l4, l5] (.int x :: st) h Q := V_nx (by decide +kernel : decode (p_c 142) 21 = .ok (.iload_n 3, 1)) rfl rfl
theorem e142_22 : V 142 22 L (.int x3 :: .int x2 :: .int x1 :: .ref a :: st) h Q = ((p_cn1 (p_get h a) = 12 ∧ p_sm st) ∧ Vm 140 [.ref a, .int x1, .int x2, .int x3] h (Kt 142 25 L st Q)) := V_iv (n := 3) (as := [.int x3, .int x2, .int x1]) (ci := 12) (z := 140) (by decide +kernel : decode (p_c 142) 22 = .ok (.invokevirtual 191, 3)) (by decide +kernel) rfl rfl (by decide +kernel) rfl
theorem e142_25 : V 142 25 L (.int x :: st) h Q = if x = 0 then V 142 122 L st h Q else V 142 28 L st h Q := (V_ifc (by decide +kernel : decode (p_c 142) 25 = .ok (.ifCond .eq 97, 3)) (by decide)).trans i_eq
theorem e142_28 : V 142 28 [some (.ref a), l1, l2, l3, l4, l5] st h Q = V 142 29 [some (.ref a), l1, l2, l3, l4, l5] (.ref a :: st) h Q := V_nx (by decide +kernel : decode (p_c 142) 28 = .ok (.aload_n 0, 1)) rfl rfl
theorem e142_29 : V 142 29 [l0, l1, some (.int x), l3, l4, l5] st h Q = V 142 30 [l0, l1, some (.int x), l3, l4, l5] (.int x :: st) h Q := V_nx (by decide +kernel : decode (p_c 142) 29 = .ok (.iload_n 2, 1)) rfl rfl
theorem e142_30 : V 142 30 [l0, l1, l2, some (.int x), l4, l5] st h Q = V 142 31 [l0, l1, l2, some (.int x), l4, l5] (.int x :: st) h Q := V_nx (by decide +kernel : decode (p_c 142) 30 = .ok (.iload_n 3, 1)) rfl rfl
theorem e142_31 : V 142 31 L (.int x2 :: .int x1 :: .ref a :: st) h Q = ((p_cn1 (p_get h a) = 12 ∧ p_sm st) ∧ Vm 138 [.ref a, .int x1, .int x2] h (Kt 142 34 L st Q)) := V_iv (n := 2) (as := [.int x2, .int x1]) (ci := 12) (z := 138) (by decide +kernel : decode (p_c 142) 31 = .ok (.invokevirtual 177, 3)) (by decide +kernel) rfl rfl (by decide +kernel) rfl
theorem e142_34 : V 142 34 [l0, l1, l2, l3, l4, l5] (.int x :: st) h Q = V 142 36 [l0, l1, l2, l3, p_dl l4, some (.int x)] st h Q := V_nx (by decide +kernel : decode (p_c 142) 34 = .ok (.istore 5, 2)) rfl rfl
theorem e142_36 : V 142 36 [some (.ref a), l1, l2, l3, l4, l5] st h Q = V 142 37 [some (.ref a), l1, l2, l3, l4, l5] (.ref a :: st) h Q := V_nx (by decide +kernel : decode (p_c 142) 36 = .ok (.aload_n 0, 1)) rfl rfl
theorem e142_37 : V 142 37 L (.ref a :: st) h Q = (p_ok1 [12] 24 (p_get h a) ∧ V 142 40 L (p_fv 24 (p_get h a) :: st) h Q) := V_gf (t := (3, 1, "WaterShouldersModel")) (by decide +kernel : decode (p_c 142) 37 = .ok (.getfield 51, 3)) (by decide +kernel)
theorem e142_40 : V 142 40 [l0, l1, l2, l3, l4, some (.int x)] st h Q = V 142 42 [l0, l1, l2, l3, l4, some (.int x)] (.int x :: st) h Q := V_nx (by decide +kernel : decode (p_c 142) 40 = .ok (.iload 5, 2)) rfl rfl
theorem e142_42 : V 142 42 L (.int i :: .ref a :: st) h Q = (p_bok i (p_get h a) ∧ V 142 43 L (.int (p_ivl i (p_get h a)) :: st) h Q) := V_bal (by decide +kernel : decode (p_c 142) 42 = .ok (.baload, 1))
theorem e142_43 : V 142 43 L (.int x :: st) h Q = if x = 0 then V 142 46 L st h Q else V 142 122 L st h Q := (V_ifc (by decide +kernel : decode (p_c 142) 43 = .ok (.ifCond .ne 79, 3)) (by decide)).trans i_ne
theorem e142_46 : V 142 46 [some (.ref a), l1, l2, l3, l4, l5] st h Q = V 142 47 [some (.ref a), l1, l2, l3, l4, l5] (.ref a :: st) h Q := V_nx (by decide +kernel : decode (p_c 142) 46 = .ok (.aload_n 0, 1)) rfl rfl
theorem e142_47 : V 142 47 L (.ref a :: st) h Q = (p_ok1 [12] 24 (p_get h a) ∧ V 142 50 L (p_fv 24 (p_get h a) :: st) h Q) := V_gf (t := (3, 1, "WaterShouldersModel")) (by decide +kernel : decode (p_c 142) 47 = .ok (.getfield 51, 3)) (by decide +kernel)
theorem e142_50 : V 142 50 [l0, l1, l2, l3, l4, some (.int x)] st h Q = V 142 52 [l0, l1, l2, l3, l4, some (.int x)] (.int x :: st) h Q := V_nx (by decide +kernel : decode (p_c 142) 50 = .ok (.iload 5, 2)) rfl rfl
theorem e142_52 : V 142 52 [some (.ref a), l1, l2, l3, l4, l5] st h Q = V 142 53 [some (.ref a), l1, l2, l3, l4, l5] (.ref a :: st) h Q := V_nx (by decide +kernel : decode (p_c 142) 52 = .ok (.aload_n 0, 1)) rfl rfl
theorem e142_53 : V 142 53 L (.ref a :: st) h Q = (p_ok1 [12] 24 (p_get h a) ∧ V 142 56 L (p_fv 24 (p_get h a) :: st) h Q) := V_gf (t := (3, 1, "WaterShouldersModel")) (by decide +kernel : decode (p_c 142) 53 = .ok (.getfield 51, 3)) (by decide +kernel)
theorem e142_56 : V 142 56 [l0, some (.int x), l2, l3, l4, l5] st h Q = V 142 57 [l0, some (.int x), l2, l3, l4, l5] (.int x :: st) h Q := V_nx (by decide +kernel : decode (p_c 142) 56 = .ok (.iload_n 1, 1)) rfl rfl
theorem e142_57 : V 142 57 L (.int i :: .ref a :: st) h Q = (p_bok i (p_get h a) ∧ V 142 58 L (.int (p_ivl i (p_get h a)) :: st) h Q) := V_bal (by decide +kernel : decode (p_c 142) 57 = .ok (.baload, 1))
theorem e142_58 : V 142 58 L st h Q = V 142 60 L (.int 99 :: st) h Q := V_b (by decide +kernel : decode (p_c 142) 58 = .ok (.bipush 99, 2)) (by decide)
theorem e142_60 : V 142 60 L (.int z :: .int x :: st) h Q = if x = z then V 142 63 L st h Q else V 142 71 L st h Q := (V_icmp (by decide +kernel : decode (p_c 142) 60 = .ok (.if_icmp .ne 11, 3)) (by decide)).trans i_ne
theorem e142_63 : V 142 63 [l0, l1, l2, l3, some (.int x), l5] st h Q = V 142 65 [l0, l1, l2, l3, some (.int x), l5] (.int x :: st) h Q := V_nx (by decide +kernel : decode (p_c 142) 63 = .ok (.iload 4, 2)) rfl rfl
theorem e142_65 : V 142 65 L st h Q = V 142 66 L (.int 1 :: st) h Q := V_c (by decide +kernel : decode (p_c 142) 65 = .ok (.iconst 1, 1)) (by decide)
theorem e142_66 : V 142 66 L (.int z :: .int x :: st) h Q = V 142 67 L (.int (x + z) :: st) h Q := V_nx (by decide +kernel : decode (p_c 142) 66 = .ok (.iadd, 1)) rfl rfl
theorem e142_67 : V 142 67 L (.int x :: st) h Q = V 142 68 L (.int x.toInt8.toInt32 :: st) h Q := V_nx (by decide +kernel : decode (p_c 142) 67 = .ok (.i2b, 1)) rfl rfl
theorem e142_68 : V 142 68 L st h Q = V 142 77 L st h Q := V_goto (by decide +kernel : decode (p_c 142) 68 = .ok (.goto 9, 3)) (by decide)
theorem e142_71 : V 142 71 [some (.ref a), l1, l2, l3, l4, l5] st h Q = V 142 72 [some (.ref a), l1, l2, l3, l4, l5] (.ref a :: st) h Q := V_nx (by decide +kernel : decode (p_c 142) 71 = .ok (.aload_n 0, 1)) rfl rfl
theorem e142_72 : V 142 72 L (.ref a :: st) h Q = (p_ok1 [12] 24 (p_get h a) ∧ V 142 75 L (p_fv 24 (p_get h a) :: st) h Q) := V_gf (t := (3, 1, "WaterShouldersModel")) (by decide +kernel : decode (p_c 142) 72 = .ok (.getfield 51, 3)) (by decide +kernel)
theorem e142_75 : V 142 75 [l0, some (.int x), l2, l3, l4, l5] st h Q = V 142 76 [l0, some (.int x), l2, l3, l4, l5] (.int x :: st) h Q := V_nx (by decide +kernel : decode (p_c 142) 75 = .ok (.iload_n 1, 1)) rfl rfl
theorem e142_76 : V 142 76 L (.int i :: .ref a :: st) h Q = (p_bok i (p_get h a) ∧ V 142 77 L (.int (p_ivl i (p_get h a)) :: st) h Q) := V_bal (by decide +kernel : decode (p_c 142) 76 = .ok (.baload, 1))
theorem e142_77 : V 142 77 L (.int x :: .int i :: .ref a :: st) h Q = (p_bok i (p_get h a) ∧ V 142 78 L st (p_set h a (p_bst i x (p_get h a))) Q) := V_bas (by decide +kernel : decode (p_c 142) 77 = .ok (.bastore, 1))
theorem e142_78 : V 142 78 [some (.ref a), l1, l2, l3, l4, l5] st h Q = V 142 79 [some (.ref a), l1, l2, l3, l4, l5] (.ref a :: st) h Q := V_nx (by decide +kernel : decode (p_c 142) 78 = .ok (.aload_n 0, 1)) rfl rfl
theorem e142_79 : V 142 79 L (.ref a :: st) h Q = (p_ok1 [12] 25 (p_get h a) ∧ V 142 82 L (p_fv 25 (p_get h a) :: st) h Q) := V_gf (t := (3, 1, "WaterShouldersModel")) (by decide +kernel : decode (p_c 142) 79 = .ok (.getfield 54, 3)) (by decide +kernel)
theorem e142_82 : V 142 82 [some (.ref a), l1, l2, l3, l4, l5] st h Q = V 142 83 [some (.ref a), l1, l2, l3, l4, l5] (.ref a :: st) h Q := V_nx (by decide +kernel : decode (p_c 142) 82 = .ok (.aload_n 0, 1)) rfl rfl
theorem e142_83 : V 142 83 L (.ref a :: st) h Q = (p_ok1 [12] 26 (p_get h a) ∧ V 142 86 L (p_fv 26 (p_get h a) :: st) h Q) := V_gf (t := (0, 0, "WaterShouldersModel")) (by decide +kernel : decode (p_c 142) 83 = .ok (.getfield 180, 3)) (by decide +kernel)
theorem e142_86 : V 142 86 [l0, l1, l2, l3, l4, some (.int x)] st h Q = V 142 88 [l0, l1, l2, l3, l4, some (.int x)] (.int x :: st) h Q := V_nx (by decide +kernel : decode (p_c 142) 86 = .ok (.iload 5, 2)) rfl rfl
theorem e142_88 : V 142 88 L (.int x :: .int i :: .ref a :: st) h Q = (p_sok i (p_get h a) ∧ V 142 89 L st (p_set h a (p_ist i x (p_get h a))) Q) := V_ias (by decide +kernel : decode (p_c 142) 88 = .ok (.iastore, 1))
theorem e142_89 : V 142 89 [some (.ref a), l1, l2, l3, l4, l5] st h Q = V 142 90 [some (.ref a), l1, l2, l3, l4, l5] (.ref a :: st) h Q := V_nx (by decide +kernel : decode (p_c 142) 89 = .ok (.aload_n 0, 1)) rfl rfl
theorem e142_90 : V 142 90 L (.ref a :: st) h Q = V 142 91 L (.ref a :: .ref a :: st) h Q := V_dup (by decide +kernel : decode (p_c 142) 90 = .ok (.dup, 1)) rfl
theorem e142_90i : V 142 90 L (.int x :: st) h Q = V 142 91 L (.int x :: .int x :: st) h Q := V_dup (by decide +kernel : decode (p_c 142) 90 = .ok (.dup, 1)) rfl
theorem e142_91 : V 142 91 L (.ref a :: st) h Q = (p_ok1 [12] 26 (p_get h a) ∧ V 142 94 L (p_fv 26 (p_get h a) :: st) h Q) := V_gf (t := (0, 0, "WaterShouldersModel")) (by decide +kernel : decode (p_c 142) 91 = .ok (.getfield 180, 3)) (by decide +kernel)
theorem e142_94 : V 142 94 L st h Q = V 142 95 L (.int 1 :: st) h Q := V_c (by decide +kernel : decode (p_c 142) 94 = .ok (.iconst 1, 1)) (by decide)
theorem e142_95 : V 142 95 L (.int z :: .int x :: st) h Q = V 142 96 L (.int (x + z) :: st) h Q := V_nx (by decide +kernel : decode (p_c 142) 95 = .ok (.iadd, 1)) rfl rfl
theorem e142_96 : V 142 96 L (.int x :: .ref a :: st) h Q = (p_ok1 [12] 26 (p_get h a) ∧ V 142 99 L st (p_set h a (p_fs 26 (.int x) (p_get h a))) Q) := V_pf0 (fin := 0) (ref := "WaterShouldersModel") (by decide +kernel : decode (p_c 142) 96 = .ok (.putfield 180, 3)) (by decide +kernel) (by decide +kernel)
theorem e142_99 : V 142 99 [l0, l1, l2, l3, l4, some (.int x)] st h Q = V 142 101 [l0, l1, l2, l3, l4, some (.int x)] (.int x :: st) h Q := V_nx (by decide +kernel : decode (p_c 142) 99 = .ok (.iload 5, 2)) rfl rfl
theorem e142_101 : V 142 101 L st h Q = V 142 102 L (.int 4 :: st) h Q := V_c (by decide +kernel : decode (p_c 142) 101 = .ok (.iconst 4, 1)) (by decide)
theorem e142_102 : V 142 102 L (.int z :: .int x :: st) h Q = (¬ z = 0 ∧ V 142 103 L (.int (x - x / z * z) :: st) h Q) := V_irem (by decide +kernel : decode (p_c 142) 102 = .ok (.irem, 1))
theorem e142_103 : V 142 103 [some (.ref a), l1, l2, l3, l4, l5] st h Q = V 142 104 [some (.ref a), l1, l2, l3, l4, l5] (.ref a :: st) h Q := V_nx (by decide +kernel : decode (p_c 142) 103 = .ok (.aload_n 0, 1)) rfl rfl
theorem e142_104 : V 142 104 L (.ref a :: st) h Q = (p_ok1 [12] 0 (p_get h a) ∧ V 142 107 L (p_fv 0 (p_get h a) :: st) h Q) := V_gf (t := (0, 0, "WaterShouldersModel")) (by decide +kernel : decode (p_c 142) 104 = .ok (.getfield 104, 3)) (by decide +kernel)
theorem e142_107 : V 142 107 L st h Q = V 142 108 L (.int 1 :: st) h Q := V_c (by decide +kernel : decode (p_c 142) 107 = .ok (.iconst 1, 1)) (by decide)
theorem e142_108 : V 142 108 L (.int z :: .int x :: st) h Q = V 142 109 L (.int (x - z) :: st) h Q := V_nx (by decide +kernel : decode (p_c 142) 108 = .ok (.isub, 1)) rfl rfl
theorem e142_109 : V 142 109 L (.int z :: .int x :: st) h Q = if x = z then V 142 112 L st h Q else V 142 122 L st h Q := (V_icmp (by decide +kernel : decode (p_c 142) 109 = .ok (.if_icmp .ne 13, 3)) (by decide)).trans i_ne
theorem e142_112 : V 142 112 [some (.ref a), l1, l2, l3, l4, l5] st h Q = V 142 113 [some (.ref a), l1, l2, l3, l4, l5] (.ref a :: st) h Q := V_nx (by decide +kernel : decode (p_c 142) 112 = .ok (.aload_n 0, 1)) rfl rfl
theorem e142_113 : V 142 113 L (.ref a :: st) h Q = (p_ok1 [12] 24 (p_get h a) ∧ V 142 116 L (p_fv 24 (p_get h a) :: st) h Q) := V_gf (t := (3, 1, "WaterShouldersModel")) (by decide +kernel : decode (p_c 142) 113 = .ok (.getfield 51, 3)) (by decide +kernel)
theorem e142_116 : V 142 116 [l0, l1, l2, l3, l4, some (.int x)] st h Q = V 142 118 [l0, l1, l2, l3, l4, some (.int x)] (.int x :: st) h Q := V_nx (by decide +kernel : decode (p_c 142) 116 = .ok (.iload 5, 2)) rfl rfl
theorem e142_118 : V 142 118 L (.int i :: .ref a :: st) h Q = (p_bok i (p_get h a) ∧ V 142 119 L (.int (p_ivl i (p_get h a)) :: st) h Q) := V_bal (by decide +kernel : decode (p_c 142) 118 = .ok (.baload, 1))
theorem e142_119 : V 142 119 L st h Q = V 142 120 L (.int 1 :: st) h Q := V_c (by decide +kernel : decode (p_c 142) 119 = .ok (.iconst 1, 1)) (by decide)
theorem e142_120 : V 142 120 L (.int z :: .int x :: st) h Q = V 142 121 L (.int (x - z) :: st) h Q := V_nx (by decide +kernel : decode (p_c 142) 120 = .ok (.isub, 1)) rfl rfl
theorem e142_121 : V 142 121 L [.int x] h Q = Q (some (.int x)) h := V_ri (by decide +kernel : decode (p_c 142) 121 = .ok (.ireturn, 1)) rfl
theorem e142_122 : V 142 122 [l0, l1, l2, l3, some (.int x), l5] st h Q = V 142 125 [l0, l1, l2, p_dl l3, some (.int (x + 1)), l5] st h Q := V_iinc (x := x) (by decide +kernel : decode (p_c 142) 122 = .ok (.iinc 4 1, 3)) (by decide) rfl (Nat.le_of_ble_eq_true rfl)
theorem e142_125 : V 142 125 L st h Q = V 142 3 L st h Q := V_goto (by decide +kernel : decode (p_c 142) 125 = .ok (.goto (-122), 3)) (by decide)
theorem e142_128 : V 142 128 L st h Q = V 142 129 L (.int (-1) :: st) h Q := V_c (by decide +kernel : decode (p_c 142) 128 = .ok (.iconst (-1), 1)) (by decide)
theorem e142_129 : V 142 129 L [.int x] h Q = Q (some (.int x)) h := V_ri (by decide +kernel : decode (p_c 142) 129 = .ok (.ireturn, 1)) rfl
theorem m142 : Vm 142 [.ref a, .int x1, .int x2, .int x3] h Q = V 142 0 [some (.ref a), some (.int x1), some (.int x2), some (.int x3), none, none] [] h Q := rfl
theorem e143_0 : V 143 0 [some (.ref a), l1, l2, l3] st h Q = V 143 1 [some (.ref a), l1, l2, l3] (.ref a :: st) h Q := V_nx (by decide +kernel : decode (p_c 143) 0 = .ok (.aload_n 0, 1)) rfl rfl
theorem e143_1 : V 143 1 [l0, some (.int x), l2, l3] st h Q = V 143 2 [l0, some (.int x), l2, l3] (.int x :: st) h Q := V_nx (by decide +kernel : decode (p_c 143) 1 = .ok (.iload_n 1, 1)) rfl rfl
theorem e143_2 : V 143 2 L (.int x1 :: .ref a :: st) h Q = ((p_cn1 (p_get h a) = 12 ∧ p_sm st) ∧ Vm 115 [.ref a, .int x1] h (Kt 143 5 L st Q)) := V_iv (n := 1) (as := [.int x1]) (ci := 12) (z := 115) (by decide +kernel : decode (p_c 143) 2 = .ok (.invokevirtual 140, 3)) (by decide +kernel) rfl rfl (by decide +kernel) rfl
theorem e143_5 : V 143 5 L (.int x :: st) h Q = if x = 0 then V 143 21 L st h Q else V 143 8 L st h Q := (V_ifc (by decide +kernel : decode (p_c 143) 5 = .ok (.ifCond .eq 16, 3)) (by decide)).trans i_eq
theorem e143_8 : V 143 8 [some (.ref a), l1, l2, l3] st h Q = V 143 9 [some (.ref a), l1, l2, l3] (.ref a :: st) h Q := V_nx (by decide +kernel : decode (p_c 143) 8 = .ok (.aload_n 0, 1)) rfl rfl
theorem e143_9 : V 143 9 [l0, l1, some (.int x), l3] st h Q = V 143 10 [l0, l1, some (.int x), l3] (.int x :: st) h Q := V_nx (by decide +kernel : decode (p_c 143) 9 = .ok (.iload_n 2, 1)) rfl rfl
theorem e143_10 : V 143 10 L (.int x1 :: .ref a :: st) h Q = ((p_cn1 (p_get h a) = 12 ∧ p_sm st) ∧ Vm 115 [.ref a, .int x1] h (Kt 143 13 L st Q)) := V_iv (n := 1) (as := [.int x1]) (ci := 12) (z := 115) (by decide +kernel : decode (p_c 143) 10 = .ok (.invokevirtual 140, 3)) (by decide +kernel) rfl rfl (by decide +kernel) rfl
theorem e143_13 : V 143 13 L (.int x :: st) h Q = if x = 0 then V 143 21 L st h Q else V 143 16 L st h Q := (V_ifc (by decide +kernel : decode (p_c 143) 13 = .ok (.ifCond .eq 8, 3)) (by decide)).trans i_eq
theorem e143_16 : V 143 16 [l0, some (.int x), l2, l3] st h Q = V 143 17 [l0, some (.int x), l2, l3] (.int x :: st) h Q := V_nx (by decide +kernel : decode (p_c 143) 16 = .ok (.iload_n 1, 1)) rfl rfl
theorem e143_17 : V 143 17 [l0, l1, some (.int x), l3] st h Q = V 143 18 [l0, l1, some (.int x), l3] (.int x :: st) h Q := V_nx (by decide +kernel : decode (p_c 143) 17 = .ok (.iload_n 2, 1)) rfl rfl
theorem e143_18 : V 143 18 L (.int z :: .int x :: st) h Q = if x = z then V 143 21 L st h Q else V 143 24 L st h Q := (V_icmp (by decide +kernel : decode (p_c 143) 18 = .ok (.if_icmp .ne 6, 3)) (by decide)).trans i_ne
theorem e143_21 : V 143 21 L st h Q = V 143 23 L (.int (-101) :: st) h Q := V_b (by decide +kernel : decode (p_c 143) 21 = .ok (.bipush (-101), 2)) (by decide)
theorem e143_23 : V 143 23 L [.int x] h Q = Q (some (.int x)) h := V_ri (by decide +kernel : decode (p_c 143) 23 = .ok (.ireturn, 1)) rfl
theorem e143_24 : V 143 24 [l0, l1, l2, some (.int x)] st h Q = V 143 25 [l0, l1, l2, some (.int x)] (.int x :: st) h Q := V_nx (by decide +kernel : decode (p_c 143) 24 = .ok (.iload_n 3, 1)) rfl rfl
theorem e143_25 : V 143 25 L st h Q = V 143 26 L (.int 0 :: st) h Q := V_c (by decide +kernel : decode (p_c 143) 25 = .ok (.iconst 0, 1)) (by decide)
theorem e143_26 : V 143 26 L st h Q = V 143 27 L (.int 1 :: st) h Q := V_c (by decide +kernel : decode (p_c 143) 26 = .ok (.iconst 1, 1)) (by decide)
theorem e143_27 : V 143 27 L (.int x3 :: .int x2 :: .int x1 :: st) h Q = (p_sm st ∧ Vm 106 [.int x1, .int x2, .int x3] h (Kt 143 30 L st Q)) := V_st (n := 3) (as := [.int x3, .int x2, .int x1]) (z := 106) (by decide +kernel : decode (p_c 143) 27 = .ok (.invokestatic 90, 3)) (by decide +kernel) rfl (by decide +kernel) rfl
theorem e143_30 : V 143 30 L (.int x :: st) h Q = if x = 0 then V 143 33 L st h Q else V 143 36 L st h Q := (V_ifc (by decide +kernel : decode (p_c 143) 30 = .ok (.ifCond .ne 6, 3)) (by decide)).trans i_ne
theorem e143_33 : V 143 33 L st h Q = V 143 35 L (.int (-102) :: st) h Q := V_b (by decide +kernel : decode (p_c 143) 33 = .ok (.bipush (-102), 2)) (by decide)
theorem e143_35 : V 143 35 L [.int x] h Q = Q (some (.int x)) h := V_ri (by decide +kernel : decode (p_c 143) 35 = .ok (.ireturn, 1)) rfl
theorem e143_36 : V 143 36 [some (.ref a), l1, l2, l3] st h Q = V 143 37 [some (.ref a), l1, l2, l3] (.ref a :: st) h Q := V_nx (by decide +kernel : decode (p_c 143) 36 = .ok (.aload_n 0, 1)) rfl rfl
theorem e143_37 : V 143 37 L (.ref a :: st) h Q = (p_ok1 [12] 7 (p_get h a) ∧ V 143 40 L (p_fv 7 (p_get h a) :: st) h Q) := V_gf (t := (3, 1, "WaterShouldersModel")) (by decide +kernel : decode (p_c 143) 37 = .ok (.getfield 19, 3)) (by decide +kernel)
theorem e143_40 : V 143 40 [l0, l1, some (.int x), l3] st h Q = V 143 41 [l0, l1, some (.int x), l3] (.int x :: st) h Q := V_nx (by decide +kernel : decode (p_c 143) 40 = .ok (.iload_n 2, 1)) rfl rfl
theorem e143_41 : V 143 41 L (.int i :: .ref a :: st) h Q = (p_iok i (p_get h a) ∧ V 143 42 L (.int (p_ivl i (p_get h a)) :: st) h Q) := V_ial (by decide +kernel : decode (p_c 143) 41 = .ok (.iaload, 1))
theorem e143_42 : V 143 42 L (.int x1 :: st) h Q = (p_sm st ∧ Vm 116 [.int x1] h (Kt 143 45 L st Q)) := V_st (n := 1) (as := [.int x1]) (z := 116) (by decide +kernel : decode (p_c 143) 42 = .ok (.invokestatic 127, 3)) (by decide +kernel) rfl (by decide +kernel) rfl
theorem e143_45 : V 143 45 L (.int x :: st) h Q = if x = 0 then V 143 57 L st h Q else V 143 48 L st h Q := (V_ifc (by decide +kernel : decode (p_c 143) 45 = .ok (.ifCond .eq 12, 3)) (by decide)).trans i_eq
theorem e143_48 : V 143 48 [some (.ref a), l1, l2, l3] st h Q = V 143 49 [some (.ref a), l1, l2, l3] (.ref a :: st) h Q := V_nx (by decide +kernel : decode (p_c 143) 48 = .ok (.aload_n 0, 1)) rfl rfl
theorem e143_49 : V 143 49 L (.ref a :: st) h Q = (p_ok1 [12] 12 (p_get h a) ∧ V 143 52 L (p_fv 12 (p_get h a) :: st) h Q) := V_gf (t := (0, 0, "WaterShouldersModel")) (by decide +kernel : decode (p_c 143) 49 = .ok (.getfield 194, 3)) (by decide +kernel)
theorem e143_52 : V 143 52 L st h Q = V 143 54 L (.int 40 :: st) h Q := V_b (by decide +kernel : decode (p_c 143) 52 = .ok (.bipush 40, 2)) (by decide)
theorem e143_54 : V 143 54 L (.int z :: .int x :: st) h Q = if x = z then V 143 57 L st h Q else V 143 60 L st h Q := (V_icmp (by decide +kernel : decode (p_c 143) 54 = .ok (.if_icmp .ne 6, 3)) (by decide)).trans i_ne
theorem e143_57 : V 143 57 L st h Q = V 143 59 L (.int (-103) :: st) h Q := V_b (by decide +kernel : decode (p_c 143) 57 = .ok (.bipush (-103), 2)) (by decide)
theorem e143_59 : V 143 59 L [.int x] h Q = Q (some (.int x)) h := V_ri (by decide +kernel : decode (p_c 143) 59 = .ok (.ireturn, 1)) rfl
theorem e143_60 : V 143 60 [some (.ref a), l1, l2, l3] st h Q = V 143 61 [some (.ref a), l1, l2, l3] (.ref a :: st) h Q := V_nx (by decide +kernel : decode (p_c 143) 60 = .ok (.aload_n 0, 1)) rfl rfl
theorem e143_61 : V 143 61 L (.ref a :: st) h Q = V 143 62 L (.ref a :: .ref a :: st) h Q := V_dup (by decide +kernel : decode (p_c 143) 61 = .ok (.dup, 1)) rfl
theorem e143_61i : V 143 61 L (.int x :: st) h Q = V 143 62 L (.int x :: .int x :: st) h Q := V_dup (by decide +kernel : decode (p_c 143) 61 = .ok (.dup, 1)) rfl
theorem e143_62 : V 143 62 L (.ref a :: st) h Q = (p_ok1 [12] 12 (p_get h a) ∧ V 143 65 L (p_fv 12 (p_get h a) :: st) h Q) := V_gf (t := (0, 0, "WaterShouldersModel")) (by decide +kernel : decode (p_c 143) 62 = .ok (.getfield 194, 3)) (by decide +kernel)
theorem e143_65 : V 143 65 L st h Q = V 143 66 L (.int 1 :: st) h Q := V_c (by decide +kernel : decode (p_c 143) 65 = .ok (.iconst 1, 1)) (by decide)
theorem e143_66 : V 143 66 L (.int z :: .int x :: st) h Q = V 143 67 L (.int (x + z) :: st) h Q := V_nx (by decide +kernel : decode (p_c 143) 66 = .ok (.iadd, 1)) rfl rfl
theorem e143_67 : V 143 67 L (.int x :: .ref a :: st) h Q = (p_ok1 [12] 12 (p_get h a) ∧ V 143 70 L st (p_set h a (p_fs 12 (.int x) (p_get h a))) Q) := V_pf0 (fin := 0) (ref := "WaterShouldersModel") (by decide +kernel : decode (p_c 143) 67 = .ok (.putfield 194, 3)) (by decide +kernel) (by decide +kernel)
theorem e143_70 : V 143 70 [some (.ref a), l1, l2, l3] st h Q = V 143 71 [some (.ref a), l1, l2, l3] (.ref a :: st) h Q := V_nx (by decide +kernel : decode (p_c 143) 70 = .ok (.aload_n 0, 1)) rfl rfl
theorem e143_71 : V 143 71 [l0, some (.int x), l2, l3] st h Q = V 143 72 [l0, some (.int x), l2, l3] (.int x :: st) h Q := V_nx (by decide +kernel : decode (p_c 143) 71 = .ok (.iload_n 1, 1)) rfl rfl
theorem e143_72 : V 143 72 [l0, l1, some (.int x), l3] st h Q = V 143 73 [l0, l1, some (.int x), l3] (.int x :: st) h Q := V_nx (by decide +kernel : decode (p_c 143) 72 = .ok (.iload_n 2, 1)) rfl rfl
theorem e143_73 : V 143 73 [l0, l1, l2, some (.int x)] st h Q = V 143 74 [l0, l1, l2, some (.int x)] (.int x :: st) h Q := V_nx (by decide +kernel : decode (p_c 143) 73 = .ok (.iload_n 3, 1)) rfl rfl
theorem e143_74 : V 143 74 L (.int x3 :: .int x2 :: .int x1 :: .ref a :: st) h Q = ((p_cn1 (p_get h a) = 12 ∧ p_sm st) ∧ Vm 141 [.ref a, .int x1, .int x2, .int x3] h (Kt 143 77 L st Q)) := V_iv (n := 3) (as := [.int x3, .int x2, .int x1]) (ci := 12) (z := 141) (by decide +kernel : decode (p_c 143) 74 = .ok (.invokevirtual 197, 3)) (by decide +kernel) rfl rfl (by decide +kernel) rfl
theorem e143_77 : V 143 77 L [.int x] h Q = Q (some (.int x)) h := V_ri (by decide +kernel : decode (p_c 143) 77 = .ok (.ireturn, 1)) rfl
theorem m143 : Vm 143 [.ref a, .int x1, .int x2, .int x3] h Q = V 143 0 [some (.ref a), some (.int x1), some (.int x2), some (.int x3)] [] h Q := rfl
theorem e144_0 : V 144 0 [some (.ref a), l1, l2] st h Q = V 144 1 [some (.ref a), l1, l2] (.ref a :: st) h Q := V_nx (by decide +kernel : decode (p_c 144) 0 = .ok (.aload_n 0, 1)) rfl rfl
theorem e144_1 : V 144 1 L (.ref a :: st) h Q = (p_ok1 [12] 10 (p_get h a) ∧ V 144 4 L (p_fv 10 (p_get h a) :: st) h Q) := V_gf (t := (3, 1, "WaterShouldersModel")) (by decide +kernel : decode (p_c 144) 1 = .ok (.getfield 28, 3)) (by decide +kernel)
theorem e144_4 : V 144 4 [l0, some (.int x), l2] st h Q = V 144 5 [l0, some (.int x), l2] (.int x :: st) h Q := V_nx (by decide +kernel : decode (p_c 144) 4 = .ok (.iload_n 1, 1)) rfl rfl
theorem e144_5 : V 144 5 L (.int i :: .ref a :: st) h Q = (p_iok i (p_get h a) ∧ V 144 6 L (.int (p_ivl i (p_get h a)) :: st) h Q) := V_ial (by decide +kernel : decode (p_c 144) 5 = .ok (.iaload, 1))
theorem e144_6 : V 144 6 L st h Q = V 144 7 L (.int 1 :: st) h Q := V_c (by decide +kernel : decode (p_c 144) 6 = .ok (.iconst 1, 1)) (by decide)
theorem e144_7 : V 144 7 L (.int z :: .int x :: st) h Q = V 144 8 L (.int (x + z) :: st) h Q := V_nx (by decide +kernel : decode (p_c 144) 7 = .ok (.iadd, 1)) rfl rfl
theorem e144_8 : V 144 8 [l0, l1, l2] (.int x :: st) h Q = V 144 9 [l0, p_dl l1, some (.int x)] st h Q := V_nx (by decide +kernel : decode (p_c 144) 8 = .ok (.istore_n 2, 1)) rfl rfl
theorem e144_9 : V 144 9 [l0, l1, some (.int x)] st h Q = V 144 10 [l0, l1, some (.int x)] (.int x :: st) h Q := V_nx (by decide +kernel : decode (p_c 144) 9 = .ok (.iload_n 2, 1)) rfl rfl
theorem e144_10 : V 144 10 [some (.ref a), l1, l2] st h Q = V 144 11 [some (.ref a), l1, l2] (.ref a :: st) h Q := V_nx (by decide +kernel : decode (p_c 144) 10 = .ok (.aload_n 0, 1)) rfl rfl
theorem e144_11 : V 144 11 L (.ref a :: st) h Q = (p_ok1 [12] 0 (p_get h a) ∧ V 144 14 L (p_fv 0 (p_get h a) :: st) h Q) := V_gf (t := (0, 0, "WaterShouldersModel")) (by decide +kernel : decode (p_c 144) 11 = .ok (.getfield 104, 3)) (by decide +kernel)
theorem e144_14 : V 144 14 L (.int z :: .int x :: st) h Q = if x = z then V 144 31 L st h Q else V 144 17 L st h Q := (V_icmp (by decide +kernel : decode (p_c 144) 14 = .ok (.if_icmp .eq 17, 3)) (by decide)).trans i_eq
theorem e144_17 : V 144 17 [some (.ref a), l1, l2] st h Q = V 144 18 [some (.ref a), l1, l2] (.ref a :: st) h Q := V_nx (by decide +kernel : decode (p_c 144) 17 = .ok (.aload_n 0, 1)) rfl rfl
theorem e144_18 : V 144 18 [l0, some (.int x), l2] st h Q = V 144 19 [l0, some (.int x), l2] (.int x :: st) h Q := V_nx (by decide +kernel : decode (p_c 144) 18 = .ok (.iload_n 1, 1)) rfl rfl
theorem e144_19 : V 144 19 L (.int x1 :: .ref a :: st) h Q = ((p_cn1 (p_get h a) = 12 ∧ p_sm st) ∧ Vm 118 [.ref a, .int x1] h (Kt 144 22 L st Q)) := V_iv (n := 1) (as := [.int x1]) (ci := 12) (z := 118) (by decide +kernel : decode (p_c 144) 19 = .ok (.invokevirtual 130, 3)) (by decide +kernel) rfl rfl (by decide +kernel) rfl
theorem e144_22 : V 144 22 [some (.ref a), l1, l2] st h Q = V 144 23 [some (.ref a), l1, l2] (.ref a :: st) h Q := V_nx (by decide +kernel : decode (p_c 144) 22 = .ok (.aload_n 0, 1)) rfl rfl
theorem e144_23 : V 144 23 L (.ref a :: st) h Q = (p_ok1 [12] 1 (p_get h a) ∧ V 144 26 L (p_fv 1 (p_get h a) :: st) h Q) := V_gf (t := (3, 1, "WaterShouldersModel")) (by decide +kernel : decode (p_c 144) 23 = .ok (.getfield 7, 3)) (by decide +kernel)
theorem e144_26 : V 144 26 [l0, l1, some (.int x)] st h Q = V 144 27 [l0, l1, some (.int x)] (.int x :: st) h Q := V_nx (by decide +kernel : decode (p_c 144) 26 = .ok (.iload_n 2, 1)) rfl rfl
theorem e144_27 : V 144 27 L (.int i :: .ref a :: st) h Q = (p_iok i (p_get h a) ∧ V 144 28 L (.int (p_ivl i (p_get h a)) :: st) h Q) := V_ial (by decide +kernel : decode (p_c 144) 27 = .ok (.iaload, 1))
theorem e144_28 : V 144 28 L (.int z :: .int x :: st) h Q = if z < x then V 144 31 L st h Q else V 144 33 L st h Q := (V_icmp (by decide +kernel : decode (p_c 144) 28 = .ok (.if_icmp .le 5, 3)) (by decide)).trans i_le
theorem e144_31 : V 144 31 L st h Q = V 144 32 L (.int (-1) :: st) h Q := V_c (by decide +kernel : decode (p_c 144) 31 = .ok (.iconst (-1), 1)) (by decide)
theorem e144_32 : V 144 32 L [.int x] h Q = Q (some (.int x)) h := V_ri (by decide +kernel : decode (p_c 144) 32 = .ok (.ireturn, 1)) rfl
theorem e144_33 : V 144 33 [some (.ref a), l1, l2] st h Q = V 144 34 [some (.ref a), l1, l2] (.ref a :: st) h Q := V_nx (by decide +kernel : decode (p_c 144) 33 = .ok (.aload_n 0, 1)) rfl rfl
theorem e144_34 : V 144 34 [l0, some (.int x), l2] st h Q = V 144 35 [l0, some (.int x), l2] (.int x :: st) h Q := V_nx (by decide +kernel : decode (p_c 144) 34 = .ok (.iload_n 1, 1)) rfl rfl
theorem e144_35 : V 144 35 L (.int x1 :: .ref a :: st) h Q = ((p_cn1 (p_get h a) = 12 ∧ p_sm st) ∧ Vm 118 [.ref a, .int x1] h (Kt 144 38 L st Q)) := V_iv (n := 1) (as := [.int x1]) (ci := 12) (z := 118) (by decide +kernel : decode (p_c 144) 35 = .ok (.invokevirtual 130, 3)) (by decide +kernel) rfl rfl (by decide +kernel) rfl
theorem e144_38 : V 144 38 [some (.ref a), l1, l2] st h Q = V 144 39 [some (.ref a), l1, l2] (.ref a :: st) h Q := V_nx (by decide +kernel : decode (p_c 144) 38 = .ok (.aload_n 0, 1)) rfl rfl
theorem e144_39 : V 144 39 L (.ref a :: st) h Q = (p_ok1 [12] 3 (p_get h a) ∧ V 144 42 L (p_fv 3 (p_get h a) :: st) h Q) := V_gf (t := (3, 1, "WaterShouldersModel")) (by decide +kernel : decode (p_c 144) 39 = .ok (.getfield 16, 3)) (by decide +kernel)
theorem e144_42 : V 144 42 [l0, l1, some (.int x)] st h Q = V 144 43 [l0, l1, some (.int x)] (.int x :: st) h Q := V_nx (by decide +kernel : decode (p_c 144) 42 = .ok (.iload_n 2, 1)) rfl rfl
theorem e144_43 : V 144 43 L (.int i :: .ref a :: st) h Q = (p_iok i (p_get h a) ∧ V 144 44 L (.int (p_ivl i (p_get h a)) :: st) h Q) := V_ial (by decide +kernel : decode (p_c 144) 43 = .ok (.iaload, 1))
theorem e144_44 : V 144 44 L (.int z :: .int x :: st) h Q = if z < x then V 144 47 L st h Q else V 144 62 L st h Q := (V_icmp (by decide +kernel : decode (p_c 144) 44 = .ok (.if_icmp .le 18, 3)) (by decide)).trans i_le
theorem e144_47 : V 144 47 [some (.ref a), l1, l2] st h Q = V 144 48 [some (.ref a), l1, l2] (.ref a :: st) h Q := V_nx (by decide +kernel : decode (p_c 144) 47 = .ok (.aload_n 0, 1)) rfl rfl
theorem e144_48 : V 144 48 [l0, some (.int x), l2] st h Q = V 144 49 [l0, some (.int x), l2] (.int x :: st) h Q := V_nx (by decide +kernel : decode (p_c 144) 48 = .ok (.iload_n 1, 1)) rfl rfl
theorem e144_49 : V 144 49 L (.int x1 :: .ref a :: st) h Q = ((p_cn1 (p_get h a) = 12 ∧ p_sm st) ∧ Vm 118 [.ref a, .int x1] h (Kt 144 52 L st Q)) := V_iv (n := 1) (as := [.int x1]) (ci := 12) (z := 118) (by decide +kernel : decode (p_c 144) 49 = .ok (.invokevirtual 130, 3)) (by decide +kernel) rfl rfl (by decide +kernel) rfl
theorem e144_52 : V 144 52 [some (.ref a), l1, l2] st h Q = V 144 53 [some (.ref a), l1, l2] (.ref a :: st) h Q := V_nx (by decide +kernel : decode (p_c 144) 52 = .ok (.aload_n 0, 1)) rfl rfl
theorem e144_53 : V 144 53 L (.ref a :: st) h Q = (p_ok1 [12] 3 (p_get h a) ∧ V 144 56 L (p_fv 3 (p_get h a) :: st) h Q) := V_gf (t := (3, 1, "WaterShouldersModel")) (by decide +kernel : decode (p_c 144) 53 = .ok (.getfield 16, 3)) (by decide +kernel)
theorem e144_56 : V 144 56 [l0, l1, some (.int x)] st h Q = V 144 57 [l0, l1, some (.int x)] (.int x :: st) h Q := V_nx (by decide +kernel : decode (p_c 144) 56 = .ok (.iload_n 2, 1)) rfl rfl
theorem e144_57 : V 144 57 L (.int i :: .ref a :: st) h Q = (p_iok i (p_get h a) ∧ V 144 58 L (.int (p_ivl i (p_get h a)) :: st) h Q) := V_ial (by decide +kernel : decode (p_c 144) 57 = .ok (.iaload, 1))
theorem e144_58 : V 144 58 L (.int z :: .int x :: st) h Q = V 144 59 L (.int (x - z) :: st) h Q := V_nx (by decide +kernel : decode (p_c 144) 58 = .ok (.isub, 1)) rfl rfl
theorem e144_59 : V 144 59 L st h Q = V 144 63 L st h Q := V_goto (by decide +kernel : decode (p_c 144) 59 = .ok (.goto 4, 3)) (by decide)
theorem e144_62 : V 144 62 L st h Q = V 144 63 L (.int 0 :: st) h Q := V_c (by decide +kernel : decode (p_c 144) 62 = .ok (.iconst 0, 1)) (by decide)
theorem e144_63 : V 144 63 L [.int x] h Q = Q (some (.int x)) h := V_ri (by decide +kernel : decode (p_c 144) 63 = .ok (.ireturn, 1)) rfl
theorem m144 : Vm 144 [.ref a, .int x1] h Q = V 144 0 [some (.ref a), some (.int x1), none] [] h Q := rfl
theorem e145_0 : V 145 0 [some (.ref a), l1] st h Q = V 145 1 [some (.ref a), l1] (.ref a :: st) h Q := V_nx (by decide +kernel : decode (p_c 145) 0 = .ok (.aload_n 0, 1)) rfl rfl
theorem e145_1 : V 145 1 [l0, some (.int x)] st h Q = V 145 2 [l0, some (.int x)] (.int x :: st) h Q := V_nx (by decide +kernel : decode (p_c 145) 1 = .ok (.iload_n 1, 1)) rfl rfl
theorem e145_2 : V 145 2 L (.int x1 :: .ref a :: st) h Q = ((p_cn1 (p_get h a) = 12 ∧ p_sm st) ∧ Vm 115 [.ref a, .int x1] h (Kt 145 5 L st Q)) := V_iv (n := 1) (as := [.int x1]) (ci := 12) (z := 115) (by decide +kernel : decode (p_c 145) 2 = .ok (.invokevirtual 140, 3)) (by decide +kernel) rfl rfl (by decide +kernel) rfl
theorem e145_5 : V 145 5 L (.int x :: st) h Q = if x = 0 then V 145 16 L st h Q else V 145 8 L st h Q := (V_ifc (by decide +kernel : decode (p_c 145) 5 = .ok (.ifCond .eq 11, 3)) (by decide)).trans i_eq
theorem e145_8 : V 145 8 [some (.ref a), l1] st h Q = V 145 9 [some (.ref a), l1] (.ref a :: st) h Q := V_nx (by decide +kernel : decode (p_c 145) 8 = .ok (.aload_n 0, 1)) rfl rfl
theorem e145_9 : V 145 9 [l0, some (.int x)] st h Q = V 145 10 [l0, some (.int x)] (.int x :: st) h Q := V_nx (by decide +kernel : decode (p_c 145) 9 = .ok (.iload_n 1, 1)) rfl rfl
theorem e145_10 : V 145 10 L (.int x1 :: .ref a :: st) h Q = ((p_cn1 (p_get h a) = 12 ∧ p_sm st) ∧ Vm 144 [.ref a, .int x1] h (Kt 145 13 L st Q)) := V_iv (n := 1) (as := [.int x1]) (ci := 12) (z := 144) (by decide +kernel : decode (p_c 145) 10 = .ok (.invokevirtual 200, 3)) (by decide +kernel) rfl rfl (by decide +kernel) rfl
theorem e145_13 : V 145 13 L st h Q = V 145 18 L st h Q := V_goto (by decide +kernel : decode (p_c 145) 13 = .ok (.goto 5, 3)) (by decide)
theorem e145_16 : V 145 16 L st h Q = V 145 18 L (.int (-101) :: st) h Q := V_b (by decide +kernel : decode (p_c 145) 16 = .ok (.bipush (-101), 2)) (by decide)
theorem e145_18 : V 145 18 L [.int x] h Q = Q (some (.int x)) h := V_ri (by decide +kernel : decode (p_c 145) 18 = .ok (.ireturn, 1)) rfl
theorem m145 : Vm 145 [.ref a, .int x1] h Q = V 145 0 [some (.ref a), some (.int x1)] [] h Q := rfl
theorem e146_0 : V 146 0 [l0, some (.int x)] st h Q = V 146 1 [l0, some (.int x)] (.int x :: st) h Q := V_nx (by decide +kernel : decode (p_c 146) 0 = .ok (.iload_n 1, 1)) rfl rfl
theorem e146_1 : V 146 1 L (.int x :: st) h Q = if 0 < x then V 146 4 L st h Q else V 146 15 L st h Q := (V_ifc (by decide +kernel : decode (p_c 146) 1 = .ok (.ifCond .le 14, 3)) (by decide)).trans i_le
theorem e146_4 : V 146 4 [some (.ref a), l1] st h Q = V 146 5 [some (.ref a), l1] (.ref a :: st) h Q := V_nx (by decide +kernel : decode (p_c 146) 4 = .ok (.aload_n 0, 1)) rfl rfl
theorem e146_5 : V 146 5 L (.ref a :: st) h Q = (p_ok1 [12] 3 (p_get h a) ∧ V 146 8 L (p_fv 3 (p_get h a) :: st) h Q) := V_gf (t := (3, 1, "WaterShouldersModel")) (by decide +kernel : decode (p_c 146) 5 = .ok (.getfield 16, 3)) (by decide +kernel)
theorem e146_8 : V 146 8 [l0, some (.int x)] st h Q = V 146 9 [l0, some (.int x)] (.int x :: st) h Q := V_nx (by decide +kernel : decode (p_c 146) 8 = .ok (.iload_n 1, 1)) rfl rfl
theorem e146_9 : V 146 9 L (.int i :: .ref a :: st) h Q = (p_iok i (p_get h a) ∧ V 146 10 L (.int (p_ivl i (p_get h a)) :: st) h Q) := V_ial (by decide +kernel : decode (p_c 146) 9 = .ok (.iaload, 1))
theorem e146_10 : V 146 10 L (.int x :: st) h Q = if x = 0 then V 146 13 L st h Q else V 146 15 L st h Q := (V_ifc (by decide +kernel : decode (p_c 146) 10 = .ok (.ifCond .ne 5, 3)) (by decide)).trans i_ne
theorem e146_13 : V 146 13 L st h Q = V 146 14 L (.int 0 :: st) h Q := V_c (by decide +kernel : decode (p_c 146) 13 = .ok (.iconst 0, 1)) (by decide)
theorem e146_14 : V 146 14 L [.int x] h Q = Q (some (.int x)) h := V_ri (by decide +kernel : decode (p_c 146) 14 = .ok (.ireturn, 1)) rfl
theorem e146_15 : V 146 15 [l0, some (.int x)] st h Q = V 146 16 [l0, some (.int x)] (.int x :: st) h Q := V_nx (by decide +kernel : decode (p_c 146) 15 = .ok (.iload_n 1, 1)) rfl rfl
theorem e146_16 : V 146 16 L (.int x :: st) h Q = if x = 0 then V 146 28 L st h Q else V 146 19 L st h Q := (V_ifc (by decide +kernel : decode (p_c 146) 16 = .ok (.ifCond .eq 12, 3)) (by decide)).trans i_eq
theorem e146_19 : V 146 19 [some (.ref a), l1] st h Q = V 146 20 [some (.ref a), l1] (.ref a :: st) h Q := V_nx (by decide +kernel : decode (p_c 146) 19 = .ok (.aload_n 0, 1)) rfl rfl
theorem e146_20 : V 146 20 L (.ref a :: st) h Q = (p_ok1 [12] 2 (p_get h a) ∧ V 146 23 L (p_fv 2 (p_get h a) :: st) h Q) := V_gf (t := (3, 1, "WaterShouldersModel")) (by decide +kernel : decode (p_c 146) 20 = .ok (.getfield 13, 3)) (by decide +kernel)
theorem e146_23 : V 146 23 [l0, some (.int x)] st h Q = V 146 24 [l0, some (.int x)] (.int x :: st) h Q := V_nx (by decide +kernel : decode (p_c 146) 23 = .ok (.iload_n 1, 1)) rfl rfl
theorem e146_24 : V 146 24 L (.int i :: .ref a :: st) h Q = (p_iok i (p_get h a) ∧ V 146 25 L (.int (p_ivl i (p_get h a)) :: st) h Q) := V_ial (by decide +kernel : decode (p_c 146) 24 = .ok (.iaload, 1))
theorem e146_25 : V 146 25 L (.int x :: st) h Q = if x = 0 then V 146 28 L st h Q else V 146 32 L st h Q := (V_ifc (by decide +kernel : decode (p_c 146) 25 = .ok (.ifCond .ne 7, 3)) (by decide)).trans i_ne
theorem e146_28 : V 146 28 L st h Q = V 146 29 L (.int (-1) :: st) h Q := V_c (by decide +kernel : decode (p_c 146) 28 = .ok (.iconst (-1), 1)) (by decide)
theorem e146_29 : V 146 29 L st h Q = V 146 54 L st h Q := V_goto (by decide +kernel : decode (p_c 146) 29 = .ok (.goto 25, 3)) (by decide)
theorem e146_32 : V 146 32 [some (.ref a), l1] st h Q = V 146 33 [some (.ref a), l1] (.ref a :: st) h Q := V_nx (by decide +kernel : decode (p_c 146) 32 = .ok (.aload_n 0, 1)) rfl rfl
theorem e146_33 : V 146 33 L (.ref a :: st) h Q = (p_ok1 [12] 3 (p_get h a) ∧ V 146 36 L (p_fv 3 (p_get h a) :: st) h Q) := V_gf (t := (3, 1, "WaterShouldersModel")) (by decide +kernel : decode (p_c 146) 33 = .ok (.getfield 16, 3)) (by decide +kernel)
theorem e146_36 : V 146 36 [l0, some (.int x)] st h Q = V 146 37 [l0, some (.int x)] (.int x :: st) h Q := V_nx (by decide +kernel : decode (p_c 146) 36 = .ok (.iload_n 1, 1)) rfl rfl
theorem e146_37 : V 146 37 L (.int i :: .ref a :: st) h Q = (p_iok i (p_get h a) ∧ V 146 38 L (.int (p_ivl i (p_get h a)) :: st) h Q) := V_ial (by decide +kernel : decode (p_c 146) 37 = .ok (.iaload, 1))
theorem e146_38 : V 146 38 [some (.ref a), l1] st h Q = V 146 39 [some (.ref a), l1] (.ref a :: st) h Q := V_nx (by decide +kernel : decode (p_c 146) 38 = .ok (.aload_n 0, 1)) rfl rfl
theorem e146_39 : V 146 39 L (.ref a :: st) h Q = (p_ok1 [12] 2 (p_get h a) ∧ V 146 42 L (p_fv 2 (p_get h a) :: st) h Q) := V_gf (t := (3, 1, "WaterShouldersModel")) (by decide +kernel : decode (p_c 146) 39 = .ok (.getfield 13, 3)) (by decide +kernel)
theorem e146_42 : V 146 42 [l0, some (.int x)] st h Q = V 146 43 [l0, some (.int x)] (.int x :: st) h Q := V_nx (by decide +kernel : decode (p_c 146) 42 = .ok (.iload_n 1, 1)) rfl rfl
theorem e146_43 : V 146 43 L (.int i :: .ref a :: st) h Q = (p_iok i (p_get h a) ∧ V 146 44 L (.int (p_ivl i (p_get h a)) :: st) h Q) := V_ial (by decide +kernel : decode (p_c 146) 43 = .ok (.iaload, 1))
theorem e146_44 : V 146 44 L (.int z :: .int x :: st) h Q = V 146 45 L (.int (x + z) :: st) h Q := V_nx (by decide +kernel : decode (p_c 146) 44 = .ok (.iadd, 1)) rfl rfl
theorem e146_45 : V 146 45 L st h Q = V 146 46 L (.int 1 :: st) h Q := V_c (by decide +kernel : decode (p_c 146) 45 = .ok (.iconst 1, 1)) (by decide)
theorem e146_46 : V 146 46 L (.int z :: .int x :: st) h Q = V 146 47 L (.int (x - z) :: st) h Q := V_nx (by decide +kernel : decode (p_c 146) 46 = .ok (.isub, 1)) rfl rfl
theorem e146_47 : V 146 47 [some (.ref a), l1] st h Q = V 146 48 [some (.ref a), l1] (.ref a :: st) h Q := V_nx (by decide +kernel : decode (p_c 146) 47 = .ok (.aload_n 0, 1)) rfl rfl
theorem e146_48 : V 146 48 L (.ref a :: st) h Q = (p_ok1 [12] 2 (p_get h a) ∧ V 146 51 L (p_fv 2 (p_get h a) :: st) h Q) := V_gf (t := (3, 1, "WaterShouldersModel")) (by decide +kernel : decode (p_c 146) 48 = .ok (.getfield 13, 3)) (by decide +kernel)
theorem e146_51 : V 146 51 [l0, some (.int x)] st h Q = V 146 52 [l0, some (.int x)] (.int x :: st) h Q := V_nx (by decide +kernel : decode (p_c 146) 51 = .ok (.iload_n 1, 1)) rfl rfl
theorem e146_52 : V 146 52 L (.int i :: .ref a :: st) h Q = (p_iok i (p_get h a) ∧ V 146 53 L (.int (p_ivl i (p_get h a)) :: st) h Q) := V_ial (by decide +kernel : decode (p_c 146) 52 = .ok (.iaload, 1))
theorem e146_53 : V 146 53 L (.int z :: .int x :: st) h Q = (¬ z = 0 ∧ V 146 54 L (.int (x / z) :: st) h Q) := V_idiv (by decide +kernel : decode (p_c 146) 53 = .ok (.idiv, 1))
theorem e146_54 : V 146 54 L [.int x] h Q = Q (some (.int x)) h := V_ri (by decide +kernel : decode (p_c 146) 54 = .ok (.ireturn, 1)) rfl
theorem m146 : Vm 146 [.ref a, .int x1] h Q = V 146 0 [some (.ref a), some (.int x1)] [] h Q := rfl
theorem e147_0 : V 147 0 [some (.ref a), l1] st h Q = V 147 1 [some (.ref a), l1] (.ref a :: st) h Q := V_nx (by decide +kernel : decode (p_c 147) 0 = .ok (.aload_n 0, 1)) rfl rfl
theorem e147_1 : V 147 1 [l0, some (.int x)] st h Q = V 147 2 [l0, some (.int x)] (.int x :: st) h Q := V_nx (by decide +kernel : decode (p_c 147) 1 = .ok (.iload_n 1, 1)) rfl rfl
theorem e147_2 : V 147 2 L (.int x1 :: .ref a :: st) h Q = ((p_cn1 (p_get h a) = 12 ∧ p_sm st) ∧ Vm 112 [.ref a, .int x1] h (Kt 147 5 L st Q)) := V_iv (n := 1) (as := [.int x1]) (ci := 12) (z := 112) (by decide +kernel : decode (p_c 147) 2 = .ok (.invokevirtual 119, 3)) (by decide +kernel) rfl rfl (by decide +kernel) rfl
theorem e147_5 : V 147 5 L (.int x :: st) h Q = if x = 0 then V 147 16 L st h Q else V 147 8 L st h Q := (V_ifc (by decide +kernel : decode (p_c 147) 5 = .ok (.ifCond .eq 11, 3)) (by decide)).trans i_eq
theorem e147_8 : V 147 8 [some (.ref a), l1] st h Q = V 147 9 [some (.ref a), l1] (.ref a :: st) h Q := V_nx (by decide +kernel : decode (p_c 147) 8 = .ok (.aload_n 0, 1)) rfl rfl
theorem e147_9 : V 147 9 [l0, some (.int x)] st h Q = V 147 10 [l0, some (.int x)] (.int x :: st) h Q := V_nx (by decide +kernel : decode (p_c 147) 9 = .ok (.iload_n 1, 1)) rfl rfl
theorem e147_10 : V 147 10 L (.int x1 :: .ref a :: st) h Q = ((p_cn1 (p_get h a) = 12 ∧ p_sm st) ∧ Vm 146 [.ref a, .int x1] h (Kt 147 13 L st Q)) := V_iv (n := 1) (as := [.int x1]) (ci := 12) (z := 146) (by decide +kernel : decode (p_c 147) 10 = .ok (.invokevirtual 203, 3)) (by decide +kernel) rfl rfl (by decide +kernel) rfl
theorem e147_13 : V 147 13 L st h Q = V 147 18 L st h Q := V_goto (by decide +kernel : decode (p_c 147) 13 = .ok (.goto 5, 3)) (by decide)
theorem e147_16 : V 147 16 L st h Q = V 147 18 L (.int (-101) :: st) h Q := V_b (by decide +kernel : decode (p_c 147) 16 = .ok (.bipush (-101), 2)) (by decide)
theorem e147_18 : V 147 18 L [.int x] h Q = Q (some (.int x)) h := V_ri (by decide +kernel : decode (p_c 147) 18 = .ok (.ireturn, 1)) rfl
theorem m147 : Vm 147 [.ref a, .int x1] h Q = V 147 0 [some (.ref a), some (.int x1)] [] h Q := rfl
theorem e148_0 : V 148 0 L st h Q = V 148 1 L (.int (-1) :: st) h Q := V_c (by decide +kernel : decode (p_c 148) 0 = .ok (.iconst (-1), 1)) (by decide)
theorem e148_1 : V 148 1 [l0, l1, l2, l3, l4, l5, l6, l7] (.int x :: st) h Q = V 148 2 [l0, p_dl l1, some (.int x), l3, l4, l5, l6, l7] st h Q := V_nx (by decide +kernel : decode (p_c 148) 1 = .ok (.istore_n 2, 1)) rfl rfl
theorem e148_2 : V 148 2 L st h Q = V 148 3 L (.int (-1) :: st) h Q := V_c (by decide +kernel : decode (p_c 148) 2 = .ok (.iconst (-1), 1)) (by decide)
theorem e148_3 : V 148 3 [l0, l1, l2, l3, l4, l5, l6, l7] (.int x :: st) h Q = V 148 4 [l0, l1, p_dl l2, some (.int x), l4, l5, l6, l7] st h Q := V_nx (by decide +kernel : decode (p_c 148) 3 = .ok (.istore_n 3, 1)) rfl rfl
theorem e148_4 : V 148 4 L st h Q = V 148 5 L (.int 1 :: st) h Q := V_c (by decide +kernel : decode (p_c 148) 4 = .ok (.iconst 1, 1)) (by decide)
theorem e148_5 : V 148 5 [l0, l1, l2, l3, l4, l5, l6, l7] (.int x :: st) h Q = V 148 7 [l0, l1, l2, p_dl l3, some (.int x), l5, l6, l7] st h Q := V_nx (by decide +kernel : decode (p_c 148) 5 = .ok (.istore 4, 2)) rfl rfl
theorem e148_7 : V 148 7 [l0, l1, l2, l3, some (.int x), l5, l6, l7] st h Q = V 148 9 [l0, l1, l2, l3, some (.int x), l5, l6, l7] (.int x :: st) h Q := V_nx (by decide +kernel : decode (p_c 148) 7 = .ok (.iload 4, 2)) rfl rfl
theorem e148_9 : V 148 9 [some (.ref a), l1, l2, l3, l4, l5, l6, l7] st h Q = V 148 10 [some (.ref a), l1, l2, l3, l4, l5, l6, l7] (.ref a :: st) h Q := V_nx (by decide +kernel : decode (p_c 148) 9 = .ok (.aload_n 0, 1)) rfl rfl
theorem e148_10 : V 148 10 L (.ref a :: st) h Q = (p_ok1 [12] 0 (p_get h a) ∧ V 148 13 L (p_fv 0 (p_get h a) :: st) h Q) := V_gf (t := (0, 0, "WaterShouldersModel")) (by decide +kernel : decode (p_c 148) 10 = .ok (.getfield 104, 3)) (by decide +kernel)
theorem e148_13 : V 148 13 L (.int z :: .int x :: st) h Q = if x < z then V 148 16 L st h Q else V 148 115 L st h Q := (V_icmp (by decide +kernel : decode (p_c 148) 13 = .ok (.if_icmp .ge 102, 3)) (by decide)).trans i_ge
theorem e148_16 : V 148 16 L st h Q = V 148 17 L (.int 0 :: st) h Q := V_c (by decide +kernel : decode (p_c 148) 16 = .ok (.iconst 0, 1)) (by decide)
theorem e148_17 : V 148 17 [l0, l1, l2, l3, l4, l5, l6, l7] (.int x :: st) h Q = V 148 19 [l0, l1, l2, l3, p_dl l4, some (.int x), l6, l7] st h Q := V_nx (by decide +kernel : decode (p_c 148) 17 = .ok (.istore 5, 2)) rfl rfl
theorem e148_19 : V 148 19 L st h Q = V 148 20 L (.int 1 :: st) h Q := V_c (by decide +kernel : decode (p_c 148) 19 = .ok (.iconst 1, 1)) (by decide)
theorem e148_20 : V 148 20 [l0, l1, l2, l3, l4, l5, l6, l7] (.int x :: st) h Q = V 148 22 [l0, l1, l2, l3, l4, p_dl l5, some (.int x), l7] st h Q := V_nx (by decide +kernel : decode (p_c 148) 20 = .ok (.istore 6, 2)) rfl rfl
theorem e148_22 : V 148 22 [l0, l1, l2, l3, l4, l5, some (.int x), l7] st h Q = V 148 24 [l0, l1, l2, l3, l4, l5, some (.int x), l7] (.int x :: st) h Q := V_nx (by decide +kernel : decode (p_c 148) 22 = .ok (.iload 6, 2)) rfl rfl
theorem e148_24 : V 148 24 [some (.ref a), l1, l2, l3, l4, l5, l6, l7] st h Q = V 148 25 [some (.ref a), l1, l2, l3, l4, l5, l6, l7] (.ref a :: st) h Q := V_nx (by decide +kernel : decode (p_c 148) 24 = .ok (.aload_n 0, 1)) rfl rfl
theorem e148_25 : V 148 25 L (.ref a :: st) h Q = (p_ok1 [12] 0 (p_get h a) ∧ V 148 28 L (p_fv 0 (p_get h a) :: st) h Q) := V_gf (t := (0, 0, "WaterShouldersModel")) (by decide +kernel : decode (p_c 148) 25 = .ok (.getfield 104, 3)) (by decide +kernel)
theorem e148_28 : V 148 28 L (.int z :: .int x :: st) h Q = if x < z then V 148 31 L st h Q else V 148 83 L st h Q := (V_icmp (by decide +kernel : decode (p_c 148) 28 = .ok (.if_icmp .ge 55, 3)) (by decide)).trans i_ge
theorem e148_31 : V 148 31 [some (.ref a), l1, l2, l3, l4, l5, l6, l7] st h Q = V 148 32 [some (.ref a), l1, l2, l3, l4, l5, l6, l7] (.ref a :: st) h Q := V_nx (by decide +kernel : decode (p_c 148) 31 = .ok (.aload_n 0, 1)) rfl rfl
theorem e148_32 : V 148 32 L (.ref a :: st) h Q = (p_ok1 [12] 3 (p_get h a) ∧ V 148 35 L (p_fv 3 (p_get h a) :: st) h Q) := V_gf (t := (3, 1, "WaterShouldersModel")) (by decide +kernel : decode (p_c 148) 32 = .ok (.getfield 16, 3)) (by decide +kernel)
theorem e148_35 : V 148 35 [l0, l1, l2, l3, l4, l5, some (.int x), l7] st h Q = V 148 37 [l0, l1, l2, l3, l4, l5, some (.int x), l7] (.int x :: st) h Q := V_nx (by decide +kernel : decode (p_c 148) 35 = .ok (.iload 6, 2)) rfl rfl
theorem e148_37 : V 148 37 L (.int i :: .ref a :: st) h Q = (p_iok i (p_get h a) ∧ V 148 38 L (.int (p_ivl i (p_get h a)) :: st) h Q) := V_ial (by decide +kernel : decode (p_c 148) 37 = .ok (.iaload, 1))
theorem e148_38 : V 148 38 [l0, l1, l2, l3, l4, l5, some (.int x), l7] st h Q = V 148 40 [l0, l1, l2, l3, l4, l5, some (.int x), l7] (.int x :: st) h Q := V_nx (by decide +kernel : decode (p_c 148) 38 = .ok (.iload 6, 2)) rfl rfl
theorem e148_40 : V 148 40 [l0, l1, l2, l3, some (.int x), l5, l6, l7] st h Q = V 148 42 [l0, l1, l2, l3, some (.int x), l5, l6, l7] (.int x :: st) h Q := V_nx (by decide +kernel : decode (p_c 148) 40 = .ok (.iload 4, 2)) rfl rfl
theorem e148_42 : V 148 42 L (.int z :: .int x :: st) h Q = if x = z then V 148 45 L st h Q else V 148 49 L st h Q := (V_icmp (by decide +kernel : decode (p_c 148) 42 = .ok (.if_icmp .ne 7, 3)) (by decide)).trans i_ne
theorem e148_45 : V 148 45 L st h Q = V 148 46 L (.int 0 :: st) h Q := V_c (by decide +kernel : decode (p_c 148) 45 = .ok (.iconst 0, 1)) (by decide)
theorem e148_46 : V 148 46 L st h Q = V 148 58 L st h Q := V_goto (by decide +kernel : decode (p_c 148) 46 = .ok (.goto 12, 3)) (by decide)
theorem e148_49 : V 148 49 [l0, some (.int x), l2, l3, l4, l5, l6, l7] st h Q = V 148 50 [l0, some (.int x), l2, l3, l4, l5, l6, l7] (.int x :: st) h Q := V_nx (by decide +kernel : decode (p_c 148) 49 = .ok (.iload_n 1, 1)) rfl rfl
theorem e148_50 : V 148 50 [some (.ref a), l1, l2, l3, l4, l5, l6, l7] st h Q = V 148 51 [some (.ref a), l1, l2, l3, l4, l5, l6, l7] (.ref a :: st) h Q := V_nx (by decide +kernel : decode (p_c 148) 50 = .ok (.aload_n 0, 1)) rfl rfl
theorem e148_51 : V 148 51 L (.ref a :: st) h Q = (p_ok1 [12] 2 (p_get h a) ∧ V 148 54 L (p_fv 2 (p_get h a) :: st) h Q) := V_gf (t := (3, 1, "WaterShouldersModel")) (by decide +kernel : decode (p_c 148) 51 = .ok (.getfield 13, 3)) (by decide +kernel)
theorem e148_54 : V 148 54 [l0, l1, l2, l3, l4, l5, some (.int x), l7] st h Q = V 148 56 [l0, l1, l2, l3, l4, l5, some (.int x), l7] (.int x :: st) h Q := V_nx (by decide +kernel : decode (p_c 148) 54 = .ok (.iload 6, 2)) rfl rfl
theorem e148_56 : V 148 56 L (.int i :: .ref a :: st) h Q = (p_iok i (p_get h a) ∧ V 148 57 L (.int (p_ivl i (p_get h a)) :: st) h Q) := V_ial (by decide +kernel : decode (p_c 148) 56 = .ok (.iaload, 1))
theorem e148_57 : V 148 57 L (.int z :: .int x :: st) h Q = V 148 58 L (.int (x * z) :: st) h Q := V_nx (by decide +kernel : decode (p_c 148) 57 = .ok (.imul, 1)) rfl rfl
theorem e148_58 : V 148 58 L (.int z :: .int x :: st) h Q = V 148 59 L (.int (x - z) :: st) h Q := V_nx (by decide +kernel : decode (p_c 148) 58 = .ok (.isub, 1)) rfl rfl
theorem e148_59 : V 148 59 [l0, l1, l2, l3, l4, l5, l6, l7] (.int x :: st) h Q = V 148 61 [l0, l1, l2, l3, l4, l5, p_dl l6, some (.int x)] st h Q := V_nx (by decide +kernel : decode (p_c 148) 59 = .ok (.istore 7, 2)) rfl rfl
theorem e148_61 : V 148 61 [l0, l1, l2, l3, l4, some (.int x), l6, l7] st h Q = V 148 63 [l0, l1, l2, l3, l4, some (.int x), l6, l7] (.int x :: st) h Q := V_nx (by decide +kernel : decode (p_c 148) 61 = .ok (.iload 5, 2)) rfl rfl
theorem e148_63 : V 148 63 [l0, l1, l2, l3, l4, l5, l6, some (.int x)] st h Q = V 148 65 [l0, l1, l2, l3, l4, l5, l6, some (.int x)] (.int x :: st) h Q := V_nx (by decide +kernel : decode (p_c 148) 63 = .ok (.iload 7, 2)) rfl rfl
theorem e148_65 : V 148 65 L (.int x :: st) h Q = if 0 < x then V 148 68 L st h Q else V 148 73 L st h Q := (V_ifc (by decide +kernel : decode (p_c 148) 65 = .ok (.ifCond .le 8, 3)) (by decide)).trans i_le
theorem e148_68 : V 148 68 [l0, l1, l2, l3, l4, l5, l6, some (.int x)] st h Q = V 148 70 [l0, l1, l2, l3, l4, l5, l6, some (.int x)] (.int x :: st) h Q := V_nx (by decide +kernel : decode (p_c 148) 68 = .ok (.iload 7, 2)) rfl rfl
theorem e148_70 : V 148 70 L st h Q = V 148 74 L st h Q := V_goto (by decide +kernel : decode (p_c 148) 70 = .ok (.goto 4, 3)) (by decide)
theorem e148_73 : V 148 73 L st h Q = V 148 74 L (.int 0 :: st) h Q := V_c (by decide +kernel : decode (p_c 148) 73 = .ok (.iconst 0, 1)) (by decide)
theorem e148_74 : V 148 74 L (.int z :: .int x :: st) h Q = V 148 75 L (.int (x + z) :: st) h Q := V_nx (by decide +kernel : decode (p_c 148) 74 = .ok (.iadd, 1)) rfl rfl
theorem e148_75 : V 148 75 [l0, l1, l2, l3, l4, l5, l6, l7] (.int x :: st) h Q = V 148 77 [l0, l1, l2, l3, p_dl l4, some (.int x), l6, l7] st h Q := V_nx (by decide +kernel : decode (p_c 148) 75 = .ok (.istore 5, 2)) rfl rfl
theorem e148_77 : V 148 77 [l0, l1, l2, l3, l4, l5, some (.int x), l7] st h Q = V 148 80 [l0, l1, l2, l3, l4, p_dl l5, some (.int (x + 1)), l7] st h Q := V_iinc (x := x) (by decide +kernel : decode (p_c 148) 77 = .ok (.iinc 6 1, 3)) (by decide) rfl (Nat.le_of_ble_eq_true rfl)
theorem e148_80 : V 148 80 L st h Q = V 148 22 L st h Q := V_goto (by decide +kernel : decode (p_c 148) 80 = .ok (.goto (-58), 3)) (by decide)
theorem e148_83 : V 148 83 [l0, l1, l2, l3, l4, some (.int x), l6, l7] st h Q = V 148 85 [l0, l1, l2, l3, l4, some (.int x), l6, l7] (.int x :: st) h Q := V_nx (by decide +kernel : decode (p_c 148) 83 = .ok (.iload 5, 2)) rfl rfl
theorem e148_85 : V 148 85 [l0, l1, l2, some (.int x), l4, l5, l6, l7] st h Q = V 148 86 [l0, l1, l2, some (.int x), l4, l5, l6, l7] (.int x :: st) h Q := V_nx (by decide +kernel : decode (p_c 148) 85 = .ok (.iload_n 3, 1)) rfl rfl
theorem e148_86 : V 148 86 L (.int z :: .int x :: st) h Q = if z < x then V 148 89 L st h Q else V 148 94 L st h Q := (V_icmp (by decide +kernel : decode (p_c 148) 86 = .ok (.if_icmp .le 8, 3)) (by decide)).trans i_le
theorem e148_89 : V 148 89 [l0, l1, l2, l3, some (.int x), l5, l6, l7] st h Q = V 148 91 [l0, l1, l2, l3, some (.int x), l5, l6, l7] (.int x :: st) h Q := V_nx (by decide +kernel : decode (p_c 148) 89 = .ok (.iload 4, 2)) rfl rfl
theorem e148_91 : V 148 91 L st h Q = V 148 95 L st h Q := V_goto (by decide +kernel : decode (p_c 148) 91 = .ok (.goto 4, 3)) (by decide)
theorem e148_94 : V 148 94 [l0, l1, some (.int x), l3, l4, l5, l6, l7] st h Q = V 148 95 [l0, l1, some (.int x), l3, l4, l5, l6, l7] (.int x :: st) h Q := V_nx (by decide +kernel : decode (p_c 148) 94 = .ok (.iload_n 2, 1)) rfl rfl
theorem e148_95 : V 148 95 [l0, l1, l2, l3, l4, l5, l6, l7] (.int x :: st) h Q = V 148 96 [l0, p_dl l1, some (.int x), l3, l4, l5, l6, l7] st h Q := V_nx (by decide +kernel : decode (p_c 148) 95 = .ok (.istore_n 2, 1)) rfl rfl
theorem e148_96 : V 148 96 [l0, l1, l2, l3, l4, some (.int x), l6, l7] st h Q = V 148 98 [l0, l1, l2, l3, l4, some (.int x), l6, l7] (.int x :: st) h Q := V_nx (by decide +kernel : decode (p_c 148) 96 = .ok (.iload 5, 2)) rfl rfl
theorem e148_98 : V 148 98 [l0, l1, l2, some (.int x), l4, l5, l6, l7] st h Q = V 148 99 [l0, l1, l2, some (.int x), l4, l5, l6, l7] (.int x :: st) h Q := V_nx (by decide +kernel : decode (p_c 148) 98 = .ok (.iload_n 3, 1)) rfl rfl
theorem e148_99 : V 148 99 L (.int z :: .int x :: st) h Q = if z < x then V 148 102 L st h Q else V 148 107 L st h Q := (V_icmp (by decide +kernel : decode (p_c 148) 99 = .ok (.if_icmp .le 8, 3)) (by decide)).trans i_le
theorem e148_102 : V 148 102 [l0, l1, l2, l3, l4, some (.int x), l6, l7] st h Q = V 148 104 [l0, l1, l2, l3, l4, some (.int x), l6, l7] (.int x :: st) h Q := V_nx (by decide +kernel : decode (p_c 148) 102 = .ok (.iload 5, 2)) rfl rfl
theorem e148_104 : V 148 104 L st h Q = V 148 108 L st h Q := V_goto (by decide +kernel : decode (p_c 148) 104 = .ok (.goto 4, 3)) (by decide)
theorem e148_107 : V 148 107 [l0, l1, l2, some (.int x), l4, l5, l6, l7] st h Q = V 148 108 [l0, l1, l2, some (.int x), l4, l5, l6, l7] (.int x :: st) h Q := V_nx (by decide +kernel : decode (p_c 148) 107 = .ok (.iload_n 3, 1)) rfl rfl
theorem e148_108 : V 148 108 [l0, l1, l2, l3, l4, l5, l6, l7] (.int x :: st) h Q = V 148 109 [l0, l1, p_dl l2, some (.int x), l4, l5, l6, l7] st h Q := V_nx (by decide +kernel : decode (p_c 148) 108 = .ok (.istore_n 3, 1)) rfl rfl
theorem e148_109 : V 148 109 [l0, l1, l2, l3, some (.int x), l5, l6, l7] st h Q = V 148 112 [l0, l1, l2, p_dl l3, some (.int (x + 1)), l5, l6, l7] st h Q := V_iinc (x := x) (by decide +kernel : decode (p_c 148) 109 = .ok (.iinc 4 1, 3)) (by decide) rfl (Nat.le_of_ble_eq_true rfl)
theorem e148_112 : V 148 112 L st h Q = V 148 7 L st h Q := V_goto (by decide +kernel : decode (p_c 148) 112 = .ok (.goto (-105), 3)) (by decide)
theorem e148_115 : V 148 115 [l0, l1, some (.int x), l3, l4, l5, l6, l7] st h Q = V 148 116 [l0, l1, some (.int x), l3, l4, l5, l6, l7] (.int x :: st) h Q := V_nx (by decide +kernel : decode (p_c 148) 115 = .ok (.iload_n 2, 1)) rfl rfl
theorem e148_116 : V 148 116 L [.int x] h Q = Q (some (.int x)) h := V_ri (by decide +kernel : decode (p_c 148) 116 = .ok (.ireturn, 1)) rfl
theorem m148 : Vm 148 [.ref a, .int x1] h Q = V 148 0 [some (.ref a), some (.int x1), none, none, none, none, none, none] [] h Q := rfl
theorem e149_0 : V 149 0 [l0, some (.int x)] st h Q = V 149 1 [l0, some (.int x)] (.int x :: st) h Q := V_nx (by decide +kernel : decode (p_c 149) 0 = .ok (.iload_n 1, 1)) rfl rfl
theorem e149_1 : V 149 1 L st h Q = V 149 2 L (.int 1 :: st) h Q := V_c (by decide +kernel : decode (p_c 149) 1 = .ok (.iconst 1, 1)) (by decide)
theorem e149_2 : V 149 2 L st h Q = V 149 4 L (.int 9 :: st) h Q := V_b (by decide +kernel : decode (p_c 149) 2 = .ok (.bipush 9, 2)) (by decide)
theorem e149_4 : V 149 4 L (.int x3 :: .int x2 :: .int x1 :: st) h Q = (p_sm st ∧ Vm 106 [.int x1, .int x2, .int x3] h (Kt 149 7 L st Q)) := V_st (n := 3) (as := [.int x3, .int x2, .int x1]) (z := 106) (by decide +kernel : decode (p_c 149) 4 = .ok (.invokestatic 90, 3)) (by decide +kernel) rfl (by decide +kernel) rfl
theorem e149_7 : V 149 7 L (.int x :: st) h Q = if x = 0 then V 149 10 L st h Q else V 149 13 L st h Q := (V_ifc (by decide +kernel : decode (p_c 149) 7 = .ok (.ifCond .ne 6, 3)) (by decide)).trans i_ne
theorem e149_10 : V 149 10 L st h Q = V 149 12 L (.int (-102) :: st) h Q := V_b (by decide +kernel : decode (p_c 149) 10 = .ok (.bipush (-102), 2)) (by decide)
theorem e149_12 : V 149 12 L [.int x] h Q = Q (some (.int x)) h := V_ri (by decide +kernel : decode (p_c 149) 12 = .ok (.ireturn, 1)) rfl
theorem e149_13 : V 149 13 [some (.ref a), l1] st h Q = V 149 14 [some (.ref a), l1] (.ref a :: st) h Q := V_nx (by decide +kernel : decode (p_c 149) 13 = .ok (.aload_n 0, 1)) rfl rfl
theorem e149_14 : V 149 14 L (.ref a :: st) h Q = (p_ok1 [12] 0 (p_get h a) ∧ V 149 17 L (p_fv 0 (p_get h a) :: st) h Q) := V_gf (t := (0, 0, "WaterShouldersModel")) (by decide +kernel : decode (p_c 149) 14 = .ok (.getfield 104, 3)) (by decide +kernel)
theorem e149_17 : V 149 17 L (.int x :: st) h Q = if x = 0 then V 149 20 L st h Q else V 149 25 L st h Q := (V_ifc (by decide +kernel : decode (p_c 149) 17 = .ok (.ifCond .ne 8, 3)) (by decide)).trans i_ne
theorem e149_20 : V 149 20 L st h Q = V 149 22 L (.int (-103) :: st) h Q := V_b (by decide +kernel : decode (p_c 149) 20 = .ok (.bipush (-103), 2)) (by decide)
theorem e149_22 : V 149 22 L st h Q = V 149 30 L st h Q := V_goto (by decide +kernel : decode (p_c 149) 22 = .ok (.goto 8, 3)) (by decide)
theorem e149_25 : V 149 25 [some (.ref a), l1] st h Q = V 149 26 [some (.ref a), l1] (.ref a :: st) h Q := V_nx (by decide +kernel : decode (p_c 149) 25 = .ok (.aload_n 0, 1)) rfl rfl
theorem e149_26 : V 149 26 [l0, some (.int x)] st h Q = V 149 27 [l0, some (.int x)] (.int x :: st) h Q := V_nx (by decide +kernel : decode (p_c 149) 26 = .ok (.iload_n 1, 1)) rfl rfl
theorem e149_27 : V 149 27 L (.int x1 :: .ref a :: st) h Q = ((p_cn1 (p_get h a) = 12 ∧ p_sm st) ∧ Vm 148 [.ref a, .int x1] h (Kt 149 30 L st Q)) := V_iv (n := 1) (as := [.int x1]) (ci := 12) (z := 148) (by decide +kernel : decode (p_c 149) 27 = .ok (.invokevirtual 206, 3)) (by decide +kernel) rfl rfl (by decide +kernel) rfl
theorem e149_30 : V 149 30 L [.int x] h Q = Q (some (.int x)) h := V_ri (by decide +kernel : decode (p_c 149) 30 = .ok (.ireturn, 1)) rfl
theorem m149 : Vm 149 [.ref a, .int x1] h Q = V 149 0 [some (.ref a), some (.int x1)] [] h Q := rfl
theorem e150_0 : V 150 0 L st h Q = V 150 1 L (.int 0 :: st) h Q := V_c (by decide +kernel : decode (p_c 150) 0 = .ok (.iconst 0, 1)) (by decide)
theorem e150_1 : V 150 1 [l0, l1, l2, l3, l4, l5, l6, l7, l8, l9] (.int x :: st) h Q = V 150 3 [l0, l1, l2, l3, p_dl l4, some (.int x), l6, l7, l8, l9] st h Q := V_nx (by decide +kernel : decode (p_c 150) 1 = .ok (.istore 5, 2)) rfl rfl
theorem e150_3 : V 150 3 [l0, l1, l2, l3, l4, some (.int x), l6, l7, l8, l9] st h Q = V 150 5 [l0, l1, l2, l3, l4, some (.int x), l6, l7, l8, l9] (.int x :: st) h Q := V_nx (by decide +kernel : decode (p_c 150) 3 = .ok (.iload 5, 2)) rfl rfl
theorem e150_5 : V 150 5 L st h Q = V 150 7 L (.int 6 :: st) h Q := V_b (by decide +kernel : decode (p_c 150) 5 = .ok (.bipush 6, 2)) (by decide)
theorem e150_7 : V 150 7 L (.int z :: .int x :: st) h Q = if x < z then V 150 10 L st h Q else V 150 39 L st h Q := (V_icmp (by decide +kernel : decode (p_c 150) 7 = .ok (.if_icmp .ge 32, 3)) (by decide)).trans i_ge
theorem e150_10 : V 150 10 [some (.ref a), l1, l2, l3, l4, l5, l6, l7, l8, l9] st h Q = V 150 11 [some (.ref a), l1, l2, l3, l4, l5, l6, l7, l8, l9] (.ref a :: st) h Q := V_nx (by decide +kernel : decode (p_c 150) 10 = .ok (.aload_n 0, 1)) rfl rfl
theorem e150_11 : V 150 11 L (.ref a :: st) h Q = (p_ok1 [12] 27 (p_get h a) ∧ V 150 14 L (p_fv 27 (p_get h a) :: st) h Q) := V_gf (t := (3, 1, "WaterShouldersModel")) (by decide +kernel : decode (p_c 150) 11 = .ok (.getfield 57, 3)) (by decide +kernel)
theorem e150_14 : V 150 14 [l0, l1, l2, l3, l4, some (.int x), l6, l7, l8, l9] st h Q = V 150 16 [l0, l1, l2, l3, l4, some (.int x), l6, l7, l8, l9] (.int x :: st) h Q := V_nx (by decide +kernel : decode (p_c 150) 14 = .ok (.iload 5, 2)) rfl rfl
theorem e150_16 : V 150 16 [l0, l1, l2, l3, l4, some (.int x), l6, l7, l8, l9] st h Q = V 150 18 [l0, l1, l2, l3, l4, some (.int x), l6, l7, l8, l9] (.int x :: st) h Q := V_nx (by decide +kernel : decode (p_c 150) 16 = .ok (.iload 5, 2)) rfl rfl
theorem e150_18 : V 150 18 [some (.ref a), l1, l2, l3, l4, l5, l6, l7, l8, l9] st h Q = V 150 19 [some (.ref a), l1, l2, l3, l4, l5, l6, l7, l8, l9] (.ref a :: st) h Q := V_nx (by decide +kernel : decode (p_c 150) 18 = .ok (.aload_n 0, 1)) rfl rfl
theorem e150_19 : V 150 19 L (.ref a :: st) h Q = (p_ok1 [12] 3 (p_get h a) ∧ V 150 22 L (p_fv 3 (p_get h a) :: st) h Q) := V_gf (t := (3, 1, "WaterShouldersModel")) (by decide +kernel : decode (p_c 150) 19 = .ok (.getfield 16, 3)) (by decide +kernel)
theorem e150_22 : V 150 22 [l0, some (.int x), l2, l3, l4, l5, l6, l7, l8, l9] st h Q = V 150 23 [l0, some (.int x), l2, l3, l4, l5, l6, l7, l8, l9] (.int x :: st) h Q := V_nx (by decide +kernel : decode (p_c 150) 22 = .ok (.iload_n 1, 1)) rfl rfl
theorem e150_23 : V 150 23 L (.int i :: .ref a :: st) h Q = (p_iok i (p_get h a) ∧ V 150 24 L (.int (p_ivl i (p_get h a)) :: st) h Q) := V_ial (by decide +kernel : decode (p_c 150) 23 = .ok (.iaload, 1))
theorem e150_24 : V 150 24 L (.int z :: .int x :: st) h Q = if x = z then V 150 27 L st h Q else V 150 31 L st h Q := (V_icmp (by decide +kernel : decode (p_c 150) 24 = .ok (.if_icmp .ne 7, 3)) (by decide)).trans i_ne
theorem e150_27 : V 150 27 L st h Q = V 150 28 L (.long 1 :: st) h Q := V_lc (by decide +kernel : decode (p_c 150) 27 = .ok (.lconst 1, 1)) (by decide)
theorem e150_28 : V 150 28 L st h Q = V 150 32 L st h Q := V_goto (by decide +kernel : decode (p_c 150) 28 = .ok (.goto 4, 3)) (by decide)
theorem e150_31 : V 150 31 L st h Q = V 150 32 L (.long 0 :: st) h Q := V_lc (by decide +kernel : decode (p_c 150) 31 = .ok (.lconst 0, 1)) (by decide)
theorem e150_32 : V 150 32 L (.long u :: .int i :: .ref a :: st) h Q = (p_jok i (p_get h a) ∧ V 150 33 L st (p_set h a (p_jst i u (p_get h a))) Q) := V_las (by decide +kernel : decode (p_c 150) 32 = .ok (.lastore, 1))
theorem e150_33 : V 150 33 [l0, l1, l2, l3, l4, some (.int x), l6, l7, l8, l9] st h Q = V 150 36 [l0, l1, l2, l3, p_dl l4, some (.int (x + 1)), l6, l7, l8, l9] st h Q := V_iinc (x := x) (by decide +kernel : decode (p_c 150) 33 = .ok (.iinc 5 1, 3)) (by decide) rfl (Nat.le_of_ble_eq_true rfl)
theorem e150_36 : V 150 36 L st h Q = V 150 3 L st h Q := V_goto (by decide +kernel : decode (p_c 150) 36 = .ok (.goto (-33), 3)) (by decide)
theorem e150_39 : V 150 39 L st h Q = V 150 40 L (.int 0 :: st) h Q := V_c (by decide +kernel : decode (p_c 150) 39 = .ok (.iconst 0, 1)) (by decide)
theorem e150_40 : V 150 40 [l0, l1, l2, l3, l4, l5, l6, l7, l8, l9] (.int x :: st) h Q = V 150 42 [l0, l1, l2, l3, p_dl l4, some (.int x), l6, l7, l8, l9] st h Q := V_nx (by decide +kernel : decode (p_c 150) 40 = .ok (.istore 5, 2)) rfl rfl
theorem e150_42 : V 150 42 [l0, l1, l2, l3, l4, some (.int x), l6, l7, l8, l9] st h Q = V 150 44 [l0, l1, l2, l3, l4, some (.int x), l6, l7, l8, l9] (.int x :: st) h Q := V_nx (by decide +kernel : decode (p_c 150) 42 = .ok (.iload 5, 2)) rfl rfl
theorem e150_44 : V 150 44 [l0, l1, some (.int x), l3, l4, l5, l6, l7, l8, l9] st h Q = V 150 45 [l0, l1, some (.int x), l3, l4, l5, l6, l7, l8, l9] (.int x :: st) h Q := V_nx (by decide +kernel : decode (p_c 150) 44 = .ok (.iload_n 2, 1)) rfl rfl
theorem e150_45 : V 150 45 L (.int z :: .int x :: st) h Q = if x < z then V 150 48 L st h Q else V 150 241 L st h Q := (V_icmp (by decide +kernel : decode (p_c 150) 45 = .ok (.if_icmp .ge 196, 3)) (by decide)).trans i_ge
theorem e150_48 : V 150 48 L st h Q = V 150 49 L (.int 0 :: st) h Q := V_c (by decide +kernel : decode (p_c 150) 48 = .ok (.iconst 0, 1)) (by decide)
theorem e150_49 : V 150 49 [l0, l1, l2, l3, l4, l5, l6, l7, l8, l9] (.int x :: st) h Q = V 150 51 [l0, l1, l2, l3, l4, p_dl l5, some (.int x), l7, l8, l9] st h Q := V_nx (by decide +kernel : decode (p_c 150) 49 = .ok (.istore 6, 2)) rfl rfl
theorem e150_51 : V 150 51 [l0, l1, l2, l3, l4, l5, some (.int x), l7, l8, l9] st h Q = V 150 53 [l0, l1, l2, l3, l4, l5, some (.int x), l7, l8, l9] (.int x :: st) h Q := V_nx (by decide +kernel : decode (p_c 150) 51 = .ok (.iload 6, 2)) rfl rfl
theorem e150_53 : V 150 53 L st h Q = V 150 55 L (.int 6 :: st) h Q := V_b (by decide +kernel : decode (p_c 150) 53 = .ok (.bipush 6, 2)) (by decide)
theorem e150_55 : V 150 55 L (.int z :: .int x :: st) h Q = if x < z then V 150 58 L st h Q else V 150 72 L st h Q := (V_icmp (by decide +kernel : decode (p_c 150) 55 = .ok (.if_icmp .ge 17, 3)) (by decide)).trans i_ge
theorem e150_58 : V 150 58 [some (.ref a), l1, l2, l3, l4, l5, l6, l7, l8, l9] st h Q = V 150 59 [some (.ref a), l1, l2, l3, l4, l5, l6, l7, l8, l9] (.ref a :: st) h Q := V_nx (by decide +kernel : decode (p_c 150) 58 = .ok (.aload_n 0, 1)) rfl rfl
theorem e150_59 : V 150 59 L (.ref a :: st) h Q = (p_ok1 [12] 28 (p_get h a) ∧ V 150 62 L (p_fv 28 (p_get h a) :: st) h Q) := V_gf (t := (3, 1, "WaterShouldersModel")) (by decide +kernel : decode (p_c 150) 59 = .ok (.getfield 61, 3)) (by decide +kernel)
theorem e150_62 : V 150 62 [l0, l1, l2, l3, l4, l5, some (.int x), l7, l8, l9] st h Q = V 150 64 [l0, l1, l2, l3, l4, l5, some (.int x), l7, l8, l9] (.int x :: st) h Q := V_nx (by decide +kernel : decode (p_c 150) 62 = .ok (.iload 6, 2)) rfl rfl
theorem e150_64 : V 150 64 L st h Q = V 150 65 L (.long 0 :: st) h Q := V_lc (by decide +kernel : decode (p_c 150) 64 = .ok (.lconst 0, 1)) (by decide)
theorem e150_65 : V 150 65 L (.long u :: .int i :: .ref a :: st) h Q = (p_jok i (p_get h a) ∧ V 150 66 L st (p_set h a (p_jst i u (p_get h a))) Q) := V_las (by decide +kernel : decode (p_c 150) 65 = .ok (.lastore, 1))
theorem e150_66 : V 150 66 [l0, l1, l2, l3, l4, l5, some (.int x), l7, l8, l9] st h Q = V 150 69 [l0, l1, l2, l3, l4, p_dl l5, some (.int (x + 1)), l7, l8, l9] st h Q := V_iinc (x := x) (by decide +kernel : decode (p_c 150) 66 = .ok (.iinc 6 1, 3)) (by decide) rfl (Nat.le_of_ble_eq_true rfl)
theorem e150_69 : V 150 69 L st h Q = V 150 51 L st h Q := V_goto (by decide +kernel : decode (p_c 150) 69 = .ok (.goto (-18), 3)) (by decide)
theorem e150_72 : V 150 72 L st h Q = V 150 73 L (.int 0 :: st) h Q := V_c (by decide +kernel : decode (p_c 150) 72 = .ok (.iconst 0, 1)) (by decide)
theorem e150_73 : V 150 73 [l0, l1, l2, l3, l4, l5, l6, l7, l8, l9] (.int x :: st) h Q = V 150 75 [l0, l1, l2, l3, l4, p_dl l5, some (.int x), l7, l8, l9] st h Q := V_nx (by decide +kernel : decode (p_c 150) 73 = .ok (.istore 6, 2)) rfl rfl
theorem e150_75 : V 150 75 [l0, l1, l2, l3, l4, l5, some (.int x), l7, l8, l9] st h Q = V 150 77 [l0, l1, l2, l3, l4, l5, some (.int x), l7, l8, l9] (.int x :: st) h Q := V_nx (by decide +kernel : decode (p_c 150) 75 = .ok (.iload 6, 2)) rfl rfl
theorem e150_77 : V 150 77 L st h Q = V 150 79 L (.int 6 :: st) h Q := V_b (by decide +kernel : decode (p_c 150) 77 = .ok (.bipush 6, 2)) (by decide)
theorem e150_79 : V 150 79 L (.int z :: .int x :: st) h Q = if x < z then V 150 82 L st h Q else V 150 205 L st h Q := (V_icmp (by decide +kernel : decode (p_c 150) 79 = .ok (.if_icmp .ge 126, 3)) (by decide)).trans i_ge
theorem e150_82 : V 150 82 [l0, l1, l2, l3, l4, l5, some (.int x), l7, l8, l9] st h Q = V 150 84 [l0, l1, l2, l3, l4, l5, some (.int x), l7, l8, l9] (.int x :: st) h Q := V_nx (by decide +kernel : decode (p_c 150) 82 = .ok (.iload 6, 2)) rfl rfl
theorem e150_84 : V 150 84 [some (.ref a), l1, l2, l3, l4, l5, l6, l7, l8, l9] st h Q = V 150 85 [some (.ref a), l1, l2, l3, l4, l5, l6, l7, l8, l9] (.ref a :: st) h Q := V_nx (by decide +kernel : decode (p_c 150) 84 = .ok (.aload_n 0, 1)) rfl rfl
theorem e150_85 : V 150 85 L (.ref a :: st) h Q = (p_ok1 [12] 1 (p_get h a) ∧ V 150 88 L (p_fv 1 (p_get h a) :: st) h Q) := V_gf (t := (3, 1, "WaterShouldersModel")) (by decide +kernel : decode (p_c 150) 85 = .ok (.getfield 7, 3)) (by decide +kernel)
theorem e150_88 : V 150 88 [l0, some (.int x), l2, l3, l4, l5, l6, l7, l8, l9] st h Q = V 150 89 [l0, some (.int x), l2, l3, l4, l5, l6, l7, l8, l9] (.int x :: st) h Q := V_nx (by decide +kernel : decode (p_c 150) 88 = .ok (.iload_n 1, 1)) rfl rfl
theorem e150_89 : V 150 89 L (.int i :: .ref a :: st) h Q = (p_iok i (p_get h a) ∧ V 150 90 L (.int (p_ivl i (p_get h a)) :: st) h Q) := V_ial (by decide +kernel : decode (p_c 150) 89 = .ok (.iaload, 1))
theorem e150_90 : V 150 90 L (.int z :: .int x :: st) h Q = if x < z then V 150 93 L st h Q else V 150 100 L st h Q := (V_icmp (by decide +kernel : decode (p_c 150) 90 = .ok (.if_icmp .ge 10, 3)) (by decide)).trans i_ge
theorem e150_93 : V 150 93 [l0, l1, l2, l3, l4, l5, some (.int x), l7, l8, l9] st h Q = V 150 95 [l0, l1, l2, l3, l4, l5, some (.int x), l7, l8, l9] (.int x :: st) h Q := V_nx (by decide +kernel : decode (p_c 150) 93 = .ok (.iload 6, 2)) rfl rfl
theorem e150_95 : V 150 95 L st h Q = V 150 96 L (.int 1 :: st) h Q := V_c (by decide +kernel : decode (p_c 150) 95 = .ok (.iconst 1, 1)) (by decide)
theorem e150_96 : V 150 96 L (.int z :: .int x :: st) h Q = V 150 97 L (.int (x + z) :: st) h Q := V_nx (by decide +kernel : decode (p_c 150) 96 = .ok (.iadd, 1)) rfl rfl
theorem e150_97 : V 150 97 L st h Q = V 150 102 L st h Q := V_goto (by decide +kernel : decode (p_c 150) 97 = .ok (.goto 5, 3)) (by decide)
theorem e150_100 : V 150 100 [l0, l1, l2, l3, l4, l5, some (.int x), l7, l8, l9] st h Q = V 150 102 [l0, l1, l2, l3, l4, l5, some (.int x), l7, l8, l9] (.int x :: st) h Q := V_nx (by decide +kernel : decode (p_c 150) 100 = .ok (.iload 6, 2)) rfl rfl
theorem e150_102 : V 150 102 [l0, l1, l2, l3, l4, l5, l6, l7, l8, l9] (.int x :: st) h Q = V 150 104 [l0, l1, l2, l3, l4, l5, p_dl l6, some (.int x), l8, l9] st h Q := V_nx (by decide +kernel : decode (p_c 150) 102 = .ok (.istore 7, 2)) rfl rfl
theorem e150_104 : V 150 104 [l0, l1, l2, l3, l4, l5, l6, some (.int x), l8, l9] st h Q = V 150 106 [l0, l1, l2, l3, l4, l5, l6, some (.int x), l8, l9] (.int x :: st) h Q := V_nx (by decide +kernel : decode (p_c 150) 104 = .ok (.iload 7, 2)) rfl rfl
theorem e150_106 : V 150 106 [some (.ref a), l1, l2, l3, l4, l5, l6, l7, l8, l9] st h Q = V 150 107 [some (.ref a), l1, l2, l3, l4, l5, l6, l7, l8, l9] (.ref a :: st) h Q := V_nx (by decide +kernel : decode (p_c 150) 106 = .ok (.aload_n 0, 1)) rfl rfl
theorem e150_107 : V 150 107 L (.ref a :: st) h Q = (p_ok1 [12] 2 (p_get h a) ∧ V 150 110 L (p_fv 2 (p_get h a) :: st) h Q) := V_gf (t := (3, 1, "WaterShouldersModel")) (by decide +kernel : decode (p_c 150) 107 = .ok (.getfield 13, 3)) (by decide +kernel)
theorem e150_110 : V 150 110 [l0, some (.int x), l2, l3, l4, l5, l6, l7, l8, l9] st h Q = V 150 111 [l0, some (.int x), l2, l3, l4, l5, l6, l7, l8, l9] (.int x :: st) h Q := V_nx (by decide +kernel : decode (p_c 150) 110 = .ok (.iload_n 1, 1)) rfl rfl
theorem e150_111 : V 150 111 L (.int i :: .ref a :: st) h Q = (p_iok i (p_get h a) ∧ V 150 112 L (.int (p_ivl i (p_get h a)) :: st) h Q) := V_ial (by decide +kernel : decode (p_c 150) 111 = .ok (.iaload, 1))
theorem e150_112 : V 150 112 L (.int z :: .int x :: st) h Q = if z < x then V 150 115 L st h Q else V 150 127 L st h Q := (V_icmp (by decide +kernel : decode (p_c 150) 112 = .ok (.if_icmp .le 15, 3)) (by decide)).trans i_le
theorem e150_115 : V 150 115 [l0, l1, l2, l3, l4, l5, l6, some (.int x), l8, l9] st h Q = V 150 117 [l0, l1, l2, l3, l4, l5, l6, some (.int x), l8, l9] (.int x :: st) h Q := V_nx (by decide +kernel : decode (p_c 150) 115 = .ok (.iload 7, 2)) rfl rfl
theorem e150_117 : V 150 117 [some (.ref a), l1, l2, l3, l4, l5, l6, l7, l8, l9] st h Q = V 150 118 [some (.ref a), l1, l2, l3, l4, l5, l6, l7, l8, l9] (.ref a :: st) h Q := V_nx (by decide +kernel : decode (p_c 150) 117 = .ok (.aload_n 0, 1)) rfl rfl
theorem e150_118 : V 150 118 L (.ref a :: st) h Q = (p_ok1 [12] 2 (p_get h a) ∧ V 150 121 L (p_fv 2 (p_get h a) :: st) h Q) := V_gf (t := (3, 1, "WaterShouldersModel")) (by decide +kernel : decode (p_c 150) 118 = .ok (.getfield 13, 3)) (by decide +kernel)
theorem e150_121 : V 150 121 [l0, some (.int x), l2, l3, l4, l5, l6, l7, l8, l9] st h Q = V 150 122 [l0, some (.int x), l2, l3, l4, l5, l6, l7, l8, l9] (.int x :: st) h Q := V_nx (by decide +kernel : decode (p_c 150) 121 = .ok (.iload_n 1, 1)) rfl rfl
theorem e150_122 : V 150 122 L (.int i :: .ref a :: st) h Q = (p_iok i (p_get h a) ∧ V 150 123 L (.int (p_ivl i (p_get h a)) :: st) h Q) := V_ial (by decide +kernel : decode (p_c 150) 122 = .ok (.iaload, 1))
theorem e150_123 : V 150 123 L (.int z :: .int x :: st) h Q = V 150 124 L (.int (x - z) :: st) h Q := V_nx (by decide +kernel : decode (p_c 150) 123 = .ok (.isub, 1)) rfl rfl
theorem e150_124 : V 150 124 L st h Q = V 150 128 L st h Q := V_goto (by decide +kernel : decode (p_c 150) 124 = .ok (.goto 4, 3)) (by decide)
theorem e150_127 : V 150 127 L st h Q = V 150 128 L (.int 0 :: st) h Q := V_c (by decide +kernel : decode (p_c 150) 127 = .ok (.iconst 0, 1)) (by decide)
theorem e150_128 : V 150 128 [l0, l1, l2, l3, l4, l5, l6, l7, l8, l9] (.int x :: st) h Q = V 150 130 [l0, l1, l2, l3, l4, l5, l6, p_dl l7, some (.int x), l9] st h Q := V_nx (by decide +kernel : decode (p_c 150) 128 = .ok (.istore 8, 2)) rfl rfl
theorem e150_130 : V 150 130 [l0, l1, l2, l3, l4, l5, some (.int x), l7, l8, l9] st h Q = V 150 132 [l0, l1, l2, l3, l4, l5, some (.int x), l7, l8, l9] (.int x :: st) h Q := V_nx (by decide +kernel : decode (p_c 150) 130 = .ok (.iload 6, 2)) rfl rfl
theorem e150_132 : V 150 132 [some (.ref a), l1, l2, l3, l4, l5, l6, l7, l8, l9] st h Q = V 150 133 [some (.ref a), l1, l2, l3, l4, l5, l6, l7, l8, l9] (.ref a :: st) h Q := V_nx (by decide +kernel : decode (p_c 150) 132 = .ok (.aload_n 0, 1)) rfl rfl
theorem e150_133 : V 150 133 L (.ref a :: st) h Q = (p_ok1 [12] 2 (p_get h a) ∧ V 150 136 L (p_fv 2 (p_get h a) :: st) h Q) := V_gf (t := (3, 1, "WaterShouldersModel")) (by decide +kernel : decode (p_c 150) 133 = .ok (.getfield 13, 3)) (by decide +kernel)
theorem e150_136 : V 150 136 [l0, some (.int x), l2, l3, l4, l5, l6, l7, l8, l9] st h Q = V 150 137 [l0, some (.int x), l2, l3, l4, l5, l6, l7, l8, l9] (.int x :: st) h Q := V_nx (by decide +kernel : decode (p_c 150) 136 = .ok (.iload_n 1, 1)) rfl rfl
theorem e150_137 : V 150 137 L (.int i :: .ref a :: st) h Q = (p_iok i (p_get h a) ∧ V 150 138 L (.int (p_ivl i (p_get h a)) :: st) h Q) := V_ial (by decide +kernel : decode (p_c 150) 137 = .ok (.iaload, 1))
theorem e150_138 : V 150 138 L (.int z :: .int x :: st) h Q = if z < x then V 150 141 L st h Q else V 150 153 L st h Q := (V_icmp (by decide +kernel : decode (p_c 150) 138 = .ok (.if_icmp .le 15, 3)) (by decide)).trans i_le
theorem e150_141 : V 150 141 [l0, l1, l2, l3, l4, l5, some (.int x), l7, l8, l9] st h Q = V 150 143 [l0, l1, l2, l3, l4, l5, some (.int x), l7, l8, l9] (.int x :: st) h Q := V_nx (by decide +kernel : decode (p_c 150) 141 = .ok (.iload 6, 2)) rfl rfl
theorem e150_143 : V 150 143 [some (.ref a), l1, l2, l3, l4, l5, l6, l7, l8, l9] st h Q = V 150 144 [some (.ref a), l1, l2, l3, l4, l5, l6, l7, l8, l9] (.ref a :: st) h Q := V_nx (by decide +kernel : decode (p_c 150) 143 = .ok (.aload_n 0, 1)) rfl rfl
theorem e150_144 : V 150 144 L (.ref a :: st) h Q = (p_ok1 [12] 2 (p_get h a) ∧ V 150 147 L (p_fv 2 (p_get h a) :: st) h Q) := V_gf (t := (3, 1, "WaterShouldersModel")) (by decide +kernel : decode (p_c 150) 144 = .ok (.getfield 13, 3)) (by decide +kernel)
theorem e150_147 : V 150 147 [l0, some (.int x), l2, l3, l4, l5, l6, l7, l8, l9] st h Q = V 150 148 [l0, some (.int x), l2, l3, l4, l5, l6, l7, l8, l9] (.int x :: st) h Q := V_nx (by decide +kernel : decode (p_c 150) 147 = .ok (.iload_n 1, 1)) rfl rfl
theorem e150_148 : V 150 148 L (.int i :: .ref a :: st) h Q = (p_iok i (p_get h a) ∧ V 150 149 L (.int (p_ivl i (p_get h a)) :: st) h Q) := V_ial (by decide +kernel : decode (p_c 150) 148 = .ok (.iaload, 1))
theorem e150_149 : V 150 149 L (.int z :: .int x :: st) h Q = V 150 150 L (.int (x - z) :: st) h Q := V_nx (by decide +kernel : decode (p_c 150) 149 = .ok (.isub, 1)) rfl rfl
theorem e150_150 : V 150 150 L st h Q = V 150 154 L st h Q := V_goto (by decide +kernel : decode (p_c 150) 150 = .ok (.goto 4, 3)) (by decide)
theorem e150_153 : V 150 153 L st h Q = V 150 154 L (.int 0 :: st) h Q := V_c (by decide +kernel : decode (p_c 150) 153 = .ok (.iconst 0, 1)) (by decide)
theorem e150_154 : V 150 154 [l0, l1, l2, l3, l4, l5, l6, l7, l8, l9] (.int x :: st) h Q = V 150 156 [l0, l1, l2, l3, l4, l5, l6, l7, p_dl l8, some (.int x)] st h Q := V_nx (by decide +kernel : decode (p_c 150) 154 = .ok (.istore 9, 2)) rfl rfl
theorem e150_156 : V 150 156 [some (.ref a), l1, l2, l3, l4, l5, l6, l7, l8, l9] st h Q = V 150 157 [some (.ref a), l1, l2, l3, l4, l5, l6, l7, l8, l9] (.ref a :: st) h Q := V_nx (by decide +kernel : decode (p_c 150) 156 = .ok (.aload_n 0, 1)) rfl rfl
theorem e150_157 : V 150 157 L (.ref a :: st) h Q = (p_ok1 [12] 28 (p_get h a) ∧ V 150 160 L (p_fv 28 (p_get h a) :: st) h Q) := V_gf (t := (3, 1, "WaterShouldersModel")) (by decide +kernel : decode (p_c 150) 157 = .ok (.getfield 61, 3)) (by decide +kernel)
theorem e150_160 : V 150 160 [l0, l1, l2, l3, l4, l5, l6, l7, some (.int x), l9] st h Q = V 150 162 [l0, l1, l2, l3, l4, l5, l6, l7, some (.int x), l9] (.int x :: st) h Q := V_nx (by decide +kernel : decode (p_c 150) 160 = .ok (.iload 8, 2)) rfl rfl
theorem e150_162 : V 150 162 L (.int x :: .ref a :: st) h Q = V 150 163 L (.int x :: .ref a :: .int x :: .ref a :: st) h Q := V_nx (by decide +kernel : decode (p_c 150) 162 = .ok (.dup2, 1)) rfl rfl
theorem e150_163 : V 150 163 L (.int i :: .ref a :: st) h Q = (p_jok i (p_get h a) ∧ V 150 164 L (.long (p_jvl i (p_get h a)) :: st) h Q) := V_lal (by decide +kernel : decode (p_c 150) 163 = .ok (.laload, 1))
theorem e150_164 : V 150 164 [some (.ref a), l1, l2, l3, l4, l5, l6, l7, l8, l9] st h Q = V 150 165 [some (.ref a), l1, l2, l3, l4, l5, l6, l7, l8, l9] (.ref a :: st) h Q := V_nx (by decide +kernel : decode (p_c 150) 164 = .ok (.aload_n 0, 1)) rfl rfl
theorem e150_165 : V 150 165 L (.ref a :: st) h Q = (p_ok1 [12] 27 (p_get h a) ∧ V 150 168 L (p_fv 27 (p_get h a) :: st) h Q) := V_gf (t := (3, 1, "WaterShouldersModel")) (by decide +kernel : decode (p_c 150) 165 = .ok (.getfield 57, 3)) (by decide +kernel)
theorem e150_168 : V 150 168 [l0, l1, l2, l3, l4, l5, some (.int x), l7, l8, l9] st h Q = V 150 170 [l0, l1, l2, l3, l4, l5, some (.int x), l7, l8, l9] (.int x :: st) h Q := V_nx (by decide +kernel : decode (p_c 150) 168 = .ok (.iload 6, 2)) rfl rfl
theorem e150_170 : V 150 170 L (.int i :: .ref a :: st) h Q = (p_jok i (p_get h a) ∧ V 150 171 L (.long (p_jvl i (p_get h a)) :: st) h Q) := V_lal (by decide +kernel : decode (p_c 150) 170 = .ok (.laload, 1))
theorem e150_171 : V 150 171 [l0, l1, l2, some (.int x), l4, l5, l6, l7, l8, l9] st h Q = V 150 172 [l0, l1, l2, some (.int x), l4, l5, l6, l7, l8, l9] (.int x :: st) h Q := V_nx (by decide +kernel : decode (p_c 150) 171 = .ok (.iload_n 3, 1)) rfl rfl
theorem e150_172 : V 150 172 L (.int x :: st) h Q = V 150 173 L (.long x.toInt64 :: st) h Q := V_nx (by decide +kernel : decode (p_c 150) 172 = .ok (.i2l, 1)) rfl rfl
theorem e150_173 : V 150 173 L (.long w :: .long u :: st) h Q = V 150 174 L (.long (u * w) :: st) h Q := V_nx (by decide +kernel : decode (p_c 150) 173 = .ok (.lmul, 1)) rfl rfl
theorem e150_174 : V 150 174 L (.long w :: .long u :: st) h Q = V 150 175 L (.long (u + w) :: st) h Q := V_nx (by decide +kernel : decode (p_c 150) 174 = .ok (.ladd, 1)) rfl rfl
theorem e150_175 : V 150 175 L (.long u :: .int i :: .ref a :: st) h Q = (p_jok i (p_get h a) ∧ V 150 176 L st (p_set h a (p_jst i u (p_get h a))) Q) := V_las (by decide +kernel : decode (p_c 150) 175 = .ok (.lastore, 1))
theorem e150_176 : V 150 176 [some (.ref a), l1, l2, l3, l4, l5, l6, l7, l8, l9] st h Q = V 150 177 [some (.ref a), l1, l2, l3, l4, l5, l6, l7, l8, l9] (.ref a :: st) h Q := V_nx (by decide +kernel : decode (p_c 150) 176 = .ok (.aload_n 0, 1)) rfl rfl
theorem e150_177 : V 150 177 L (.ref a :: st) h Q = (p_ok1 [12] 28 (p_get h a) ∧ V 150 180 L (p_fv 28 (p_get h a) :: st) h Q) := V_gf (t := (3, 1, "WaterShouldersModel")) (by decide +kernel : decode (p_c 150) 177 = .ok (.getfield 61, 3)) (by decide +kernel)
theorem e150_180 : V 150 180 [l0, l1, l2, l3, l4, l5, l6, l7, l8, some (.int x)] st h Q = V 150 182 [l0, l1, l2, l3, l4, l5, l6, l7, l8, some (.int x)] (.int x :: st) h Q := V_nx (by decide +kernel : decode (p_c 150) 180 = .ok (.iload 9, 2)) rfl rfl
theorem e150_182 : V 150 182 L (.int x :: .ref a :: st) h Q = V 150 183 L (.int x :: .ref a :: .int x :: .ref a :: st) h Q := V_nx (by decide +kernel : decode (p_c 150) 182 = .ok (.dup2, 1)) rfl rfl
theorem e150_183 : V 150 183 L (.int i :: .ref a :: st) h Q = (p_jok i (p_get h a) ∧ V 150 184 L (.long (p_jvl i (p_get h a)) :: st) h Q) := V_lal (by decide +kernel : decode (p_c 150) 183 = .ok (.laload, 1))
theorem e150_184 : V 150 184 [some (.ref a), l1, l2, l3, l4, l5, l6, l7, l8, l9] st h Q = V 150 185 [some (.ref a), l1, l2, l3, l4, l5, l6, l7, l8, l9] (.ref a :: st) h Q := V_nx (by decide +kernel : decode (p_c 150) 184 = .ok (.aload_n 0, 1)) rfl rfl
theorem e150_185 : V 150 185 L (.ref a :: st) h Q = (p_ok1 [12] 27 (p_get h a) ∧ V 150 188 L (p_fv 27 (p_get h a) :: st) h Q) := V_gf (t := (3, 1, "WaterShouldersModel")) (by decide +kernel : decode (p_c 150) 185 = .ok (.getfield 57, 3)) (by decide +kernel)
theorem e150_188 : V 150 188 [l0, l1, l2, l3, l4, l5, some (.int x), l7, l8, l9] st h Q = V 150 190 [l0, l1, l2, l3, l4, l5, some (.int x), l7, l8, l9] (.int x :: st) h Q := V_nx (by decide +kernel : decode (p_c 150) 188 = .ok (.iload 6, 2)) rfl rfl
theorem e150_190 : V 150 190 L (.int i :: .ref a :: st) h Q = (p_jok i (p_get h a) ∧ V 150 191 L (.long (p_jvl i (p_get h a)) :: st) h Q) := V_lal (by decide +kernel : decode (p_c 150) 190 = .ok (.laload, 1))
theorem e150_191 : V 150 191 L st h Q = V 150 193 L (.int 10 :: st) h Q := V_b (by decide +kernel : decode (p_c 150) 191 = .ok (.bipush 10, 2)) (by decide)
theorem e150_193 : V 150 193 [l0, l1, l2, some (.int x), l4, l5, l6, l7, l8, l9] st h Q = V 150 194 [l0, l1, l2, some (.int x), l4, l5, l6, l7, l8, l9] (.int x :: st) h Q := V_nx (by decide +kernel : decode (p_c 150) 193 = .ok (.iload_n 3, 1)) rfl rfl
theorem e150_194 : V 150 194 L (.int z :: .int x :: st) h Q = V 150 195 L (.int (x - z) :: st) h Q := V_nx (by decide +kernel : decode (p_c 150) 194 = .ok (.isub, 1)) rfl rfl
theorem e150_195 : V 150 195 L (.int x :: st) h Q = V 150 196 L (.long x.toInt64 :: st) h Q := V_nx (by decide +kernel : decode (p_c 150) 195 = .ok (.i2l, 1)) rfl rfl
theorem e150_196 : V 150 196 L (.long w :: .long u :: st) h Q = V 150 197 L (.long (u * w) :: st) h Q := V_nx (by decide +kernel : decode (p_c 150) 196 = .ok (.lmul, 1)) rfl rfl
theorem e150_197 : V 150 197 L (.long w :: .long u :: st) h Q = V 150 198 L (.long (u + w) :: st) h Q := V_nx (by decide +kernel : decode (p_c 150) 197 = .ok (.ladd, 1)) rfl rfl
theorem e150_198 : V 150 198 L (.long u :: .int i :: .ref a :: st) h Q = (p_jok i (p_get h a) ∧ V 150 199 L st (p_set h a (p_jst i u (p_get h a))) Q) := V_las (by decide +kernel : decode (p_c 150) 198 = .ok (.lastore, 1))
theorem e150_199 : V 150 199 [l0, l1, l2, l3, l4, l5, some (.int x), l7, l8, l9] st h Q = V 150 202 [l0, l1, l2, l3, l4, p_dl l5, some (.int (x + 1)), l7, l8, l9] st h Q := V_iinc (x := x) (by decide +kernel : decode (p_c 150) 199 = .ok (.iinc 6 1, 3)) (by decide) rfl (Nat.le_of_ble_eq_true rfl)
theorem e150_202 : V 150 202 L st h Q = V 150 75 L st h Q := V_goto (by decide +kernel : decode (p_c 150) 202 = .ok (.goto (-127), 3)) (by decide)
theorem e150_205 : V 150 205 L st h Q = V 150 206 L (.int 0 :: st) h Q := V_c (by decide +kernel : decode (p_c 150) 205 = .ok (.iconst 0, 1)) (by decide)
theorem e150_206 : V 150 206 [l0, l1, l2, l3, l4, l5, l6, l7, l8, l9] (.int x :: st) h Q = V 150 208 [l0, l1, l2, l3, l4, p_dl l5, some (.int x), l7, l8, l9] st h Q := V_nx (by decide +kernel : decode (p_c 150) 206 = .ok (.istore 6, 2)) rfl rfl
theorem e150_208 : V 150 208 [l0, l1, l2, l3, l4, l5, some (.int x), l7, l8, l9] st h Q = V 150 210 [l0, l1, l2, l3, l4, l5, some (.int x), l7, l8, l9] (.int x :: st) h Q := V_nx (by decide +kernel : decode (p_c 150) 208 = .ok (.iload 6, 2)) rfl rfl
theorem e150_210 : V 150 210 L st h Q = V 150 212 L (.int 6 :: st) h Q := V_b (by decide +kernel : decode (p_c 150) 210 = .ok (.bipush 6, 2)) (by decide)
theorem e150_212 : V 150 212 L (.int z :: .int x :: st) h Q = if x < z then V 150 215 L st h Q else V 150 235 L st h Q := (V_icmp (by decide +kernel : decode (p_c 150) 212 = .ok (.if_icmp .ge 23, 3)) (by decide)).trans i_ge
theorem e150_215 : V 150 215 [some (.ref a), l1, l2, l3, l4, l5, l6, l7, l8, l9] st h Q = V 150 216 [some (.ref a), l1, l2, l3, l4, l5, l6, l7, l8, l9] (.ref a :: st) h Q := V_nx (by decide +kernel : decode (p_c 150) 215 = .ok (.aload_n 0, 1)) rfl rfl
theorem e150_216 : V 150 216 L (.ref a :: st) h Q = (p_ok1 [12] 27 (p_get h a) ∧ V 150 219 L (p_fv 27 (p_get h a) :: st) h Q) := V_gf (t := (3, 1, "WaterShouldersModel")) (by decide +kernel : decode (p_c 150) 216 = .ok (.getfield 57, 3)) (by decide +kernel)
theorem e150_219 : V 150 219 [l0, l1, l2, l3, l4, l5, some (.int x), l7, l8, l9] st h Q = V 150 221 [l0, l1, l2, l3, l4, l5, some (.int x), l7, l8, l9] (.int x :: st) h Q := V_nx (by decide +kernel : decode (p_c 150) 219 = .ok (.iload 6, 2)) rfl rfl
theorem e150_221 : V 150 221 [some (.ref a), l1, l2, l3, l4, l5, l6, l7, l8, l9] st h Q = V 150 222 [some (.ref a), l1, l2, l3, l4, l5, l6, l7, l8, l9] (.ref a :: st) h Q := V_nx (by decide +kernel : decode (p_c 150) 221 = .ok (.aload_n 0, 1)) rfl rfl
theorem e150_222 : V 150 222 L (.ref a :: st) h Q = (p_ok1 [12] 28 (p_get h a) ∧ V 150 225 L (p_fv 28 (p_get h a) :: st) h Q) := V_gf (t := (3, 1, "WaterShouldersModel")) (by decide +kernel : decode (p_c 150) 222 = .ok (.getfield 61, 3)) (by decide +kernel)
theorem e150_225 : V 150 225 [l0, l1, l2, l3, l4, l5, some (.int x), l7, l8, l9] st h Q = V 150 227 [l0, l1, l2, l3, l4, l5, some (.int x), l7, l8, l9] (.int x :: st) h Q := V_nx (by decide +kernel : decode (p_c 150) 225 = .ok (.iload 6, 2)) rfl rfl
theorem e150_227 : V 150 227 L (.int i :: .ref a :: st) h Q = (p_jok i (p_get h a) ∧ V 150 228 L (.long (p_jvl i (p_get h a)) :: st) h Q) := V_lal (by decide +kernel : decode (p_c 150) 227 = .ok (.laload, 1))
theorem e150_228 : V 150 228 L (.long u :: .int i :: .ref a :: st) h Q = (p_jok i (p_get h a) ∧ V 150 229 L st (p_set h a (p_jst i u (p_get h a))) Q) := V_las (by decide +kernel : decode (p_c 150) 228 = .ok (.lastore, 1))
theorem e150_229 : V 150 229 [l0, l1, l2, l3, l4, l5, some (.int x), l7, l8, l9] st h Q = V 150 232 [l0, l1, l2, l3, l4, p_dl l5, some (.int (x + 1)), l7, l8, l9] st h Q := V_iinc (x := x) (by decide +kernel : decode (p_c 150) 229 = .ok (.iinc 6 1, 3)) (by decide) rfl (Nat.le_of_ble_eq_true rfl)
theorem e150_232 : V 150 232 L st h Q = V 150 208 L st h Q := V_goto (by decide +kernel : decode (p_c 150) 232 = .ok (.goto (-24), 3)) (by decide)
theorem e150_235 : V 150 235 [l0, l1, l2, l3, l4, some (.int x), l6, l7, l8, l9] st h Q = V 150 238 [l0, l1, l2, l3, p_dl l4, some (.int (x + 1)), l6, l7, l8, l9] st h Q := V_iinc (x := x) (by decide +kernel : decode (p_c 150) 235 = .ok (.iinc 5 1, 3)) (by decide) rfl (Nat.le_of_ble_eq_true rfl)
theorem e150_238 : V 150 238 L st h Q = V 150 42 L st h Q := V_goto (by decide +kernel : decode (p_c 150) 238 = .ok (.goto (-196), 3)) (by decide)
theorem e150_241 : V 150 241 L st h Q = V 150 242 L (.long 0 :: st) h Q := V_lc (by decide +kernel : decode (p_c 150) 241 = .ok (.lconst 0, 1)) (by decide)
theorem e150_242 : V 150 242 [l0, l1, l2, l3, l4, l5, l6, l7, l8, l9] (.long u :: st) h Q = V 150 244 [l0, l1, l2, l3, p_dl l4, some (.long u), none, l7, l8, l9] st h Q := V_nx (by decide +kernel : decode (p_c 150) 242 = .ok (.lstore 5, 2)) rfl rfl
theorem e150_244 : V 150 244 [l0, l1, l2, l3, some (.int x), l5, l6, l7, l8, l9] st h Q = V 150 246 [l0, l1, l2, l3, some (.int x), l5, l6, l7, l8, l9] (.int x :: st) h Q := V_nx (by decide +kernel : decode (p_c 150) 244 = .ok (.iload 4, 2)) rfl rfl
theorem e150_246 : V 150 246 [l0, l1, l2, l3, l4, l5, l6, l7, l8, l9] (.int x :: st) h Q = V 150 248 [l0, l1, l2, l3, l4, l5, p_dl l6, some (.int x), l8, l9] st h Q := V_nx (by decide +kernel : decode (p_c 150) 246 = .ok (.istore 7, 2)) rfl rfl
theorem e150_248 : V 150 248 [l0, l1, l2, l3, l4, l5, l6, some (.int x), l8, l9] st h Q = V 150 250 [l0, l1, l2, l3, l4, l5, l6, some (.int x), l8, l9] (.int x :: st) h Q := V_nx (by decide +kernel : decode (p_c 150) 248 = .ok (.iload 7, 2)) rfl rfl
theorem e150_250 : V 150 250 L st h Q = V 150 252 L (.int 6 :: st) h Q := V_b (by decide +kernel : decode (p_c 150) 250 = .ok (.bipush 6, 2)) (by decide)
theorem e150_252 : V 150 252 L (.int z :: .int x :: st) h Q = if x < z then V 150 255 L st h Q else V 150 273 L st h Q := (V_icmp (by decide +kernel : decode (p_c 150) 252 = .ok (.if_icmp .ge 21, 3)) (by decide)).trans i_ge
theorem e150_255 : V 150 255 [l0, l1, l2, l3, l4, some (.long u), l6, l7, l8, l9] st h Q = V 150 257 [l0, l1, l2, l3, l4, some (.long u), l6, l7, l8, l9] (.long u :: st) h Q := V_nx (by decide +kernel : decode (p_c 150) 255 = .ok (.lload 5, 2)) rfl rfl
theorem e150_257 : V 150 257 [some (.ref a), l1, l2, l3, l4, l5, l6, l7, l8, l9] st h Q = V 150 258 [some (.ref a), l1, l2, l3, l4, l5, l6, l7, l8, l9] (.ref a :: st) h Q := V_nx (by decide +kernel : decode (p_c 150) 257 = .ok (.aload_n 0, 1)) rfl rfl
theorem e150_258 : V 150 258 L (.ref a :: st) h Q = (p_ok1 [12] 27 (p_get h a) ∧ V 150 261 L (p_fv 27 (p_get h a) :: st) h Q) := V_gf (t := (3, 1, "WaterShouldersModel")) (by decide +kernel : decode (p_c 150) 258 = .ok (.getfield 57, 3)) (by decide +kernel)
theorem e150_261 : V 150 261 [l0, l1, l2, l3, l4, l5, l6, some (.int x), l8, l9] st h Q = V 150 263 [l0, l1, l2, l3, l4, l5, l6, some (.int x), l8, l9] (.int x :: st) h Q := V_nx (by decide +kernel : decode (p_c 150) 261 = .ok (.iload 7, 2)) rfl rfl
theorem e150_263 : V 150 263 L (.int i :: .ref a :: st) h Q = (p_jok i (p_get h a) ∧ V 150 264 L (.long (p_jvl i (p_get h a)) :: st) h Q) := V_lal (by decide +kernel : decode (p_c 150) 263 = .ok (.laload, 1))
theorem e150_264 : V 150 264 L (.long w :: .long u :: st) h Q = V 150 265 L (.long (u + w) :: st) h Q := V_nx (by decide +kernel : decode (p_c 150) 264 = .ok (.ladd, 1)) rfl rfl
theorem e150_265 : V 150 265 [l0, l1, l2, l3, l4, l5, l6, l7, l8, l9] (.long u :: st) h Q = V 150 267 [l0, l1, l2, l3, p_dl l4, some (.long u), none, l7, l8, l9] st h Q := V_nx (by decide +kernel : decode (p_c 150) 265 = .ok (.lstore 5, 2)) rfl rfl
theorem e150_267 : V 150 267 [l0, l1, l2, l3, l4, l5, l6, some (.int x), l8, l9] st h Q = V 150 270 [l0, l1, l2, l3, l4, l5, p_dl l6, some (.int (x + 1)), l8, l9] st h Q := V_iinc (x := x) (by decide +kernel : decode (p_c 150) 267 = .ok (.iinc 7 1, 3)) (by decide) rfl (Nat.le_of_ble_eq_true rfl)
theorem e150_270 : V 150 270 L st h Q = V 150 248 L st h Q := V_goto (by decide +kernel : decode (p_c 150) 270 = .ok (.goto (-22), 3)) (by decide)
theorem e150_273 : V 150 273 [l0, l1, l2, l3, l4, some (.long u), l6, l7, l8, l9] st h Q = V 150 275 [l0, l1, l2, l3, l4, some (.long u), l6, l7, l8, l9] (.long u :: st) h Q := V_nx (by decide +kernel : decode (p_c 150) 273 = .ok (.lload 5, 2)) rfl rfl
theorem e150_275 : V 150 275 L [.long u] h Q = Q (some (.long u)) h := V_rl (by decide +kernel : decode (p_c 150) 275 = .ok (.lreturn, 1)) rfl
theorem m150 : Vm 150 [.ref a, .int x1, .int x2, .int x3, .int x4] h Q = V 150 0 [some (.ref a), some (.int x1), some (.int x2), some (.int x3), some (.int x4), none, none, none, none, none] [] h Q := rfl
theorem e151_0 : V 151 0 [some (.long u), l1, l2, l3, l4, l5, l6, l7, l8, l9, l10] st h Q = V 151 1 [some (.long u), l1, l2, l3, l4, l5, l6, l7, l8, l9, l10] (.long u :: st) h Q := V_nx (by decide +kernel : decode (p_c 151) 0 = .ok (.lload_n 0, 1)) rfl rfl
theorem e151_1 : V 151 1 [l0, l1, l2, l3, l4, l5, l6, l7, l8, l9, l10] (.long u :: st) h Q = V 151 3 [l0, l1, l2, l3, p_dl l4, some (.long u), none, l7, l8, l9, l10] st h Q := V_nx (by decide +kernel : decode (p_c 151) 1 = .ok (.lstore 5, 2)) rfl rfl
theorem e151_3 : V 151 3 [l0, l1, some (.long u), l3, l4, l5, l6, l7, l8, l9, l10] st h Q = V 151 4 [l0, l1, some (.long u), l3, l4, l5, l6, l7, l8, l9, l10] (.long u :: st) h Q := V_nx (by decide +kernel : decode (p_c 151) 3 = .ok (.lload_n 2, 1)) rfl rfl
theorem e151_4 : V 151 4 [l0, l1, l2, l3, l4, l5, l6, l7, l8, l9, l10] (.long u :: st) h Q = V 151 6 [l0, l1, l2, l3, l4, l5, p_dl l6, some (.long u), none, l9, l10] st h Q := V_nx (by decide +kernel : decode (p_c 151) 4 = .ok (.lstore 7, 2)) rfl rfl
theorem e151_6 : V 151 6 [l0, l1, l2, l3, l4, l5, l6, some (.long u), l8, l9, l10] st h Q = V 151 8 [l0, l1, l2, l3, l4, l5, l6, some (.long u), l8, l9, l10] (.long u :: st) h Q := V_nx (by decide +kernel : decode (p_c 151) 6 = .ok (.lload 7, 2)) rfl rfl
theorem e151_8 : V 151 8 L st h Q = V 151 9 L (.long 0 :: st) h Q := V_lc (by decide +kernel : decode (p_c 151) 8 = .ok (.lconst 0, 1)) (by decide)
theorem e151_9 : V 151 9 L (.long w :: .long u :: st) h Q = V 151 10 L (.int (lg_cmp u w) :: st) h Q := V_nx (by decide +kernel : decode (p_c 151) 9 = .ok (.lcmp, 1)) rfl rfl
theorem e151_10 : V 151 10 L (.int x :: st) h Q = if x = 0 then V 151 31 L st h Q else V 151 13 L st h Q := (V_ifc (by decide +kernel : decode (p_c 151) 10 = .ok (.ifCond .eq 21, 3)) (by decide)).trans i_eq
theorem e151_13 : V 151 13 [l0, l1, l2, l3, l4, some (.long u), l6, l7, l8, l9, l10] st h Q = V 151 15 [l0, l1, l2, l3, l4, some (.long u), l6, l7, l8, l9, l10] (.long u :: st) h Q := V_nx (by decide +kernel : decode (p_c 151) 13 = .ok (.lload 5, 2)) rfl rfl
theorem e151_15 : V 151 15 [l0, l1, l2, l3, l4, l5, l6, some (.long u), l8, l9, l10] st h Q = V 151 17 [l0, l1, l2, l3, l4, l5, l6, some (.long u), l8, l9, l10] (.long u :: st) h Q := V_nx (by decide +kernel : decode (p_c 151) 15 = .ok (.lload 7, 2)) rfl rfl
theorem e151_17 : V 151 17 L (.long w :: .long u :: st) h Q = (¬ w = 0 ∧ V 151 18 L (.long (u - u / w * w) :: st) h Q) := V_lrem (by decide +kernel : decode (p_c 151) 17 = .ok (.lrem, 1))
theorem e151_18 : V 151 18 [l0, l1, l2, l3, l4, l5, l6, l7, l8, l9, l10] (.long u :: st) h Q = V 151 20 [l0, l1, l2, l3, l4, l5, l6, l7, p_dl l8, some (.long u), none] st h Q := V_nx (by decide +kernel : decode (p_c 151) 18 = .ok (.lstore 9, 2)) rfl rfl
theorem e151_20 : V 151 20 [l0, l1, l2, l3, l4, l5, l6, some (.long u), l8, l9, l10] st h Q = V 151 22 [l0, l1, l2, l3, l4, l5, l6, some (.long u), l8, l9, l10] (.long u :: st) h Q := V_nx (by decide +kernel : decode (p_c 151) 20 = .ok (.lload 7, 2)) rfl rfl
theorem e151_22 : V 151 22 [l0, l1, l2, l3, l4, l5, l6, l7, l8, l9, l10] (.long u :: st) h Q = V 151 24 [l0, l1, l2, l3, p_dl l4, some (.long u), none, l7, l8, l9, l10] st h Q := V_nx (by decide +kernel : decode (p_c 151) 22 = .ok (.lstore 5, 2)) rfl rfl
theorem e151_24 : V 151 24 [l0, l1, l2, l3, l4, l5, l6, l7, l8, some (.long u), l10] st h Q = V 151 26 [l0, l1, l2, l3, l4, l5, l6, l7, l8, some (.long u), l10] (.long u :: st) h Q := V_nx (by decide +kernel : decode (p_c 151) 24 = .ok (.lload 9, 2)) rfl rfl
theorem e151_26 : V 151 26 [l0, l1, l2, l3, l4, l5, l6, l7, l8, l9, l10] (.long u :: st) h Q = V 151 28 [l0, l1, l2, l3, l4, l5, p_dl l6, some (.long u), none, l9, l10] st h Q := V_nx (by decide +kernel : decode (p_c 151) 26 = .ok (.lstore 7, 2)) rfl rfl
theorem e151_28 : V 151 28 L st h Q = V 151 6 L st h Q := V_goto (by decide +kernel : decode (p_c 151) 28 = .ok (.goto (-22), 3)) (by decide)
theorem e151_31 : V 151 31 [l0, l1, l2, l3, some (.int x), l5, l6, l7, l8, l9, l10] st h Q = V 151 33 [l0, l1, l2, l3, some (.int x), l5, l6, l7, l8, l9, l10] (.int x :: st) h Q := V_nx (by decide +kernel : decode (p_c 151) 31 = .ok (.iload 4, 2)) rfl rfl
theorem e151_33 : V 151 33 L (.int x :: st) h Q = if x = 0 then V 151 36 L st h Q else V 151 43 L st h Q := (V_ifc (by decide +kernel : decode (p_c 151) 33 = .ok (.ifCond .ne 10, 3)) (by decide)).trans i_ne
theorem e151_36 : V 151 36 [some (.long u), l1, l2, l3, l4, l5, l6, l7, l8, l9, l10] st h Q = V 151 37 [some (.long u), l1, l2, l3, l4, l5, l6, l7, l8, l9, l10] (.long u :: st) h Q := V_nx (by decide +kernel : decode (p_c 151) 36 = .ok (.lload_n 0, 1)) rfl rfl
theorem e151_37 : V 151 37 [l0, l1, l2, l3, l4, some (.long u), l6, l7, l8, l9, l10] st h Q = V 151 39 [l0, l1, l2, l3, l4, some (.long u), l6, l7, l8, l9, l10] (.long u :: st) h Q := V_nx (by decide +kernel : decode (p_c 151) 37 = .ok (.lload 5, 2)) rfl rfl
theorem e151_39 : V 151 39 L (.long w :: .long u :: st) h Q = (¬ w = 0 ∧ V 151 40 L (.long (u / w) :: st) h Q) := V_ldiv (by decide +kernel : decode (p_c 151) 39 = .ok (.ldiv, 1))
theorem e151_40 : V 151 40 L st h Q = V 151 47 L st h Q := V_goto (by decide +kernel : decode (p_c 151) 40 = .ok (.goto 7, 3)) (by decide)
theorem e151_43 : V 151 43 [l0, l1, some (.long u), l3, l4, l5, l6, l7, l8, l9, l10] st h Q = V 151 44 [l0, l1, some (.long u), l3, l4, l5, l6, l7, l8, l9, l10] (.long u :: st) h Q := V_nx (by decide +kernel : decode (p_c 151) 43 = .ok (.lload_n 2, 1)) rfl rfl
theorem e151_44 : V 151 44 [l0, l1, l2, l3, l4, some (.long u), l6, l7, l8, l9, l10] st h Q = V 151 46 [l0, l1, l2, l3, l4, some (.long u), l6, l7, l8, l9, l10] (.long u :: st) h Q := V_nx (by decide +kernel : decode (p_c 151) 44 = .ok (.lload 5, 2)) rfl rfl
theorem e151_46 : V 151 46 L (.long w :: .long u :: st) h Q = (¬ w = 0 ∧ V 151 47 L (.long (u / w) :: st) h Q) := V_ldiv (by decide +kernel : decode (p_c 151) 46 = .ok (.ldiv, 1))
theorem e151_47 : V 151 47 L [.long u] h Q = Q (some (.long u)) h := V_rl (by decide +kernel : decode (p_c 151) 47 = .ok (.lreturn, 1)) rfl
theorem m151 : Vm 151 [.long u1, .long u2, .int x1] h Q = V 151 0 [some (.long u1), none, some (.long u2), none, some (.int x1), none, none, none, none, none, none] [] h Q := rfl
theorem e152_0 : V 152 0 [some (.ref a), l1, l2, l3, l4, l5, l6, l7, l8] st h Q = V 152 1 [some (.ref a), l1, l2, l3, l4, l5, l6, l7, l8] (.ref a :: st) h Q := V_nx (by decide +kernel : decode (p_c 152) 0 = .ok (.aload_n 0, 1)) rfl rfl
theorem e152_1 : V 152 1 [l0, some (.int x), l2, l3, l4, l5, l6, l7, l8] st h Q = V 152 2 [l0, some (.int x), l2, l3, l4, l5, l6, l7, l8] (.int x :: st) h Q := V_nx (by decide +kernel : decode (p_c 152) 1 = .ok (.iload_n 1, 1)) rfl rfl
theorem e152_2 : V 152 2 L (.int x1 :: .ref a :: st) h Q = ((p_cn1 (p_get h a) = 12 ∧ p_sm st) ∧ Vm 112 [.ref a, .int x1] h (Kt 152 5 L st Q)) := V_iv (n := 1) (as := [.int x1]) (ci := 12) (z := 112) (by decide +kernel : decode (p_c 152) 2 = .ok (.invokevirtual 119, 3)) (by decide +kernel) rfl rfl (by decide +kernel) rfl
theorem e152_5 : V 152 5 L (.int x :: st) h Q = if x = 0 then V 152 12 L st h Q else V 152 8 L st h Q := (V_ifc (by decide +kernel : decode (p_c 152) 5 = .ok (.ifCond .eq 7, 3)) (by decide)).trans i_eq
theorem e152_8 : V 152 8 [l0, some (.int x), l2, l3, l4, l5, l6, l7, l8] st h Q = V 152 9 [l0, some (.int x), l2, l3, l4, l5, l6, l7, l8] (.int x :: st) h Q := V_nx (by decide +kernel : decode (p_c 152) 8 = .ok (.iload_n 1, 1)) rfl rfl
theorem e152_9 : V 152 9 L (.int x :: st) h Q = if x = 0 then V 152 12 L st h Q else V 152 16 L st h Q := (V_ifc (by decide +kernel : decode (p_c 152) 9 = .ok (.ifCond .ne 7, 3)) (by decide)).trans i_ne
theorem e152_12 : V 152 12 L st h Q = V 152 15 L (.long (-101) :: st) h Q := V_ldc2 (by decide +kernel : decode (p_c 152) 12 = .ok (.ldc2_w 209, 3)) (by decide +kernel)
theorem e152_15 : V 152 15 L [.long u] h Q = Q (some (.long u)) h := V_rl (by decide +kernel : decode (p_c 152) 15 = .ok (.lreturn, 1)) rfl
theorem e152_16 : V 152 16 [l0, l1, some (.int x), l3, l4, l5, l6, l7, l8] st h Q = V 152 17 [l0, l1, some (.int x), l3, l4, l5, l6, l7, l8] (.int x :: st) h Q := V_nx (by decide +kernel : decode (p_c 152) 16 = .ok (.iload_n 2, 1)) rfl rfl
theorem e152_17 : V 152 17 L st h Q = V 152 18 L (.int 1 :: st) h Q := V_c (by decide +kernel : decode (p_c 152) 17 = .ok (.iconst 1, 1)) (by decide)
theorem e152_18 : V 152 18 L st h Q = V 152 20 L (.int 9 :: st) h Q := V_b (by decide +kernel : decode (p_c 152) 18 = .ok (.bipush 9, 2)) (by decide)
theorem e152_20 : V 152 20 L (.int x3 :: .int x2 :: .int x1 :: st) h Q = (p_sm st ∧ Vm 106 [.int x1, .int x2, .int x3] h (Kt 152 23 L st Q)) := V_st (n := 3) (as := [.int x3, .int x2, .int x1]) (z := 106) (by decide +kernel : decode (p_c 152) 20 = .ok (.invokestatic 90, 3)) (by decide +kernel) rfl (by decide +kernel) rfl
theorem e152_23 : V 152 23 L (.int x :: st) h Q = if x = 0 then V 152 56 L st h Q else V 152 26 L st h Q := (V_ifc (by decide +kernel : decode (p_c 152) 23 = .ok (.ifCond .eq 33, 3)) (by decide)).trans i_eq
theorem e152_26 : V 152 26 [l0, l1, l2, some (.int x), l4, l5, l6, l7, l8] st h Q = V 152 27 [l0, l1, l2, some (.int x), l4, l5, l6, l7, l8] (.int x :: st) h Q := V_nx (by decide +kernel : decode (p_c 152) 26 = .ok (.iload_n 3, 1)) rfl rfl
theorem e152_27 : V 152 27 L st h Q = V 152 28 L (.int 0 :: st) h Q := V_c (by decide +kernel : decode (p_c 152) 27 = .ok (.iconst 0, 1)) (by decide)
theorem e152_28 : V 152 28 L st h Q = V 152 30 L (.int 10 :: st) h Q := V_b (by decide +kernel : decode (p_c 152) 28 = .ok (.bipush 10, 2)) (by decide)
theorem e152_30 : V 152 30 L (.int x3 :: .int x2 :: .int x1 :: st) h Q = (p_sm st ∧ Vm 106 [.int x1, .int x2, .int x3] h (Kt 152 33 L st Q)) := V_st (n := 3) (as := [.int x3, .int x2, .int x1]) (z := 106) (by decide +kernel : decode (p_c 152) 30 = .ok (.invokestatic 90, 3)) (by decide +kernel) rfl (by decide +kernel) rfl
theorem e152_33 : V 152 33 L (.int x :: st) h Q = if x = 0 then V 152 56 L st h Q else V 152 36 L st h Q := (V_ifc (by decide +kernel : decode (p_c 152) 33 = .ok (.ifCond .eq 23, 3)) (by decide)).trans i_eq
theorem e152_36 : V 152 36 [l0, l1, l2, l3, some (.int x), l5, l6, l7, l8] st h Q = V 152 38 [l0, l1, l2, l3, some (.int x), l5, l6, l7, l8] (.int x :: st) h Q := V_nx (by decide +kernel : decode (p_c 152) 36 = .ok (.iload 4, 2)) rfl rfl
theorem e152_38 : V 152 38 L st h Q = V 152 39 L (.int 0 :: st) h Q := V_c (by decide +kernel : decode (p_c 152) 38 = .ok (.iconst 0, 1)) (by decide)
theorem e152_39 : V 152 39 L st h Q = V 152 40 L (.int 5 :: st) h Q := V_c (by decide +kernel : decode (p_c 152) 39 = .ok (.iconst 5, 1)) (by decide)
theorem e152_40 : V 152 40 L (.int x3 :: .int x2 :: .int x1 :: st) h Q = (p_sm st ∧ Vm 106 [.int x1, .int x2, .int x3] h (Kt 152 43 L st Q)) := V_st (n := 3) (as := [.int x3, .int x2, .int x1]) (z := 106) (by decide +kernel : decode (p_c 152) 40 = .ok (.invokestatic 90, 3)) (by decide +kernel) rfl (by decide +kernel) rfl
theorem e152_43 : V 152 43 L (.int x :: st) h Q = if x = 0 then V 152 56 L st h Q else V 152 46 L st h Q := (V_ifc (by decide +kernel : decode (p_c 152) 43 = .ok (.ifCond .eq 13, 3)) (by decide)).trans i_eq
theorem e152_46 : V 152 46 [l0, l1, l2, l3, l4, some (.int x), l6, l7, l8] st h Q = V 152 48 [l0, l1, l2, l3, l4, some (.int x), l6, l7, l8] (.int x :: st) h Q := V_nx (by decide +kernel : decode (p_c 152) 46 = .ok (.iload 5, 2)) rfl rfl
theorem e152_48 : V 152 48 L st h Q = V 152 49 L (.int 0 :: st) h Q := V_c (by decide +kernel : decode (p_c 152) 48 = .ok (.iconst 0, 1)) (by decide)
theorem e152_49 : V 152 49 L st h Q = V 152 50 L (.int 1 :: st) h Q := V_c (by decide +kernel : decode (p_c 152) 49 = .ok (.iconst 1, 1)) (by decide)
theorem e152_50 : V 152 50 L (.int x3 :: .int x2 :: .int x1 :: st) h Q = (p_sm st ∧ Vm 106 [.int x1, .int x2, .int x3] h (Kt 152 53 L st Q)) := V_st (n := 3) (as := [.int x3, .int x2, .int x1]) (z := 106) (by decide +kernel : decode (p_c 152) 50 = .ok (.invokestatic 90, 3)) (by decide +kernel) rfl (by decide +kernel) rfl
theorem e152_53 : V 152 53 L (.int x :: st) h Q = if x = 0 then V 152 56 L st h Q else V 152 60 L st h Q := (V_ifc (by decide +kernel : decode (p_c 152) 53 = .ok (.ifCond .ne 7, 3)) (by decide)).trans i_ne
theorem e152_56 : V 152 56 L st h Q = V 152 59 L (.long (-102) :: st) h Q := V_ldc2 (by decide +kernel : decode (p_c 152) 56 = .ok (.ldc2_w 211, 3)) (by decide +kernel)
theorem e152_59 : V 152 59 L [.long u] h Q = Q (some (.long u)) h := V_rl (by decide +kernel : decode (p_c 152) 59 = .ok (.lreturn, 1)) rfl
theorem e152_60 : V 152 60 L st h Q = V 152 61 L (.long 1 :: st) h Q := V_lc (by decide +kernel : decode (p_c 152) 60 = .ok (.lconst 1, 1)) (by decide)
theorem e152_61 : V 152 61 [l0, l1, l2, l3, l4, l5, l6, l7, l8] (.long u :: st) h Q = V 152 63 [l0, l1, l2, l3, l4, p_dl l5, some (.long u), none, l8] st h Q := V_nx (by decide +kernel : decode (p_c 152) 61 = .ok (.lstore 6, 2)) rfl rfl
theorem e152_63 : V 152 63 L st h Q = V 152 64 L (.int 0 :: st) h Q := V_c (by decide +kernel : decode (p_c 152) 63 = .ok (.iconst 0, 1)) (by decide)
theorem e152_64 : V 152 64 [l0, l1, l2, l3, l4, l5, l6, l7, l8] (.int x :: st) h Q = V 152 66 [l0, l1, l2, l3, l4, l5, l6, p_dl l7, some (.int x)] st h Q := V_nx (by decide +kernel : decode (p_c 152) 64 = .ok (.istore 8, 2)) rfl rfl
theorem e152_66 : V 152 66 [l0, l1, l2, l3, l4, l5, l6, l7, some (.int x)] st h Q = V 152 68 [l0, l1, l2, l3, l4, l5, l6, l7, some (.int x)] (.int x :: st) h Q := V_nx (by decide +kernel : decode (p_c 152) 66 = .ok (.iload 8, 2)) rfl rfl
theorem e152_68 : V 152 68 [l0, l1, some (.int x), l3, l4, l5, l6, l7, l8] st h Q = V 152 69 [l0, l1, some (.int x), l3, l4, l5, l6, l7, l8] (.int x :: st) h Q := V_nx (by decide +kernel : decode (p_c 152) 68 = .ok (.iload_n 2, 1)) rfl rfl
theorem e152_69 : V 152 69 L (.int z :: .int x :: st) h Q = if x < z then V 152 72 L st h Q else V 152 86 L st h Q := (V_icmp (by decide +kernel : decode (p_c 152) 69 = .ok (.if_icmp .ge 17, 3)) (by decide)).trans i_ge
theorem e152_72 : V 152 72 [l0, l1, l2, l3, l4, l5, some (.long u), l7, l8] st h Q = V 152 74 [l0, l1, l2, l3, l4, l5, some (.long u), l7, l8] (.long u :: st) h Q := V_nx (by decide +kernel : decode (p_c 152) 72 = .ok (.lload 6, 2)) rfl rfl
theorem e152_74 : V 152 74 L st h Q = V 152 77 L (.long 10 :: st) h Q := V_ldc2 (by decide +kernel : decode (p_c 152) 74 = .ok (.ldc2_w 213, 3)) (by decide +kernel)
theorem e152_77 : V 152 77 L (.long w :: .long u :: st) h Q = V 152 78 L (.long (u * w) :: st) h Q := V_nx (by decide +kernel : decode (p_c 152) 77 = .ok (.lmul, 1)) rfl rfl
theorem e152_78 : V 152 78 [l0, l1, l2, l3, l4, l5, l6, l7, l8] (.long u :: st) h Q = V 152 80 [l0, l1, l2, l3, l4, p_dl l5, some (.long u), none, l8] st h Q := V_nx (by decide +kernel : decode (p_c 152) 78 = .ok (.lstore 6, 2)) rfl rfl
theorem e152_80 : V 152 80 [l0, l1, l2, l3, l4, l5, l6, l7, some (.int x)] st h Q = V 152 83 [l0, l1, l2, l3, l4, l5, l6, p_dl l7, some (.int (x + 1))] st h Q := V_iinc (x := x) (by decide +kernel : decode (p_c 152) 80 = .ok (.iinc 8 1, 3)) (by decide) rfl (Nat.le_of_ble_eq_true rfl)
theorem e152_83 : V 152 83 L st h Q = V 152 66 L st h Q := V_goto (by decide +kernel : decode (p_c 152) 83 = .ok (.goto (-17), 3)) (by decide)
theorem e152_86 : V 152 86 [some (.ref a), l1, l2, l3, l4, l5, l6, l7, l8] st h Q = V 152 87 [some (.ref a), l1, l2, l3, l4, l5, l6, l7, l8] (.ref a :: st) h Q := V_nx (by decide +kernel : decode (p_c 152) 86 = .ok (.aload_n 0, 1)) rfl rfl
theorem e152_87 : V 152 87 [l0, some (.int x), l2, l3, l4, l5, l6, l7, l8] st h Q = V 152 88 [l0, some (.int x), l2, l3, l4, l5, l6, l7, l8] (.int x :: st) h Q := V_nx (by decide +kernel : decode (p_c 152) 87 = .ok (.iload_n 1, 1)) rfl rfl
theorem e152_88 : V 152 88 [l0, l1, some (.int x), l3, l4, l5, l6, l7, l8] st h Q = V 152 89 [l0, l1, some (.int x), l3, l4, l5, l6, l7, l8] (.int x :: st) h Q := V_nx (by decide +kernel : decode (p_c 152) 88 = .ok (.iload_n 2, 1)) rfl rfl
theorem e152_89 : V 152 89 [l0, l1, l2, some (.int x), l4, l5, l6, l7, l8] st h Q = V 152 90 [l0, l1, l2, some (.int x), l4, l5, l6, l7, l8] (.int x :: st) h Q := V_nx (by decide +kernel : decode (p_c 152) 89 = .ok (.iload_n 3, 1)) rfl rfl
theorem e152_90 : V 152 90 [l0, l1, l2, l3, some (.int x), l5, l6, l7, l8] st h Q = V 152 92 [l0, l1, l2, l3, some (.int x), l5, l6, l7, l8] (.int x :: st) h Q := V_nx (by decide +kernel : decode (p_c 152) 90 = .ok (.iload 4, 2)) rfl rfl
theorem e152_92 : V 152 92 L (.int x4 :: .int x3 :: .int x2 :: .int x1 :: .ref a :: st) h Q = ((p_cn1 (p_get h a) = 12 ∧ p_sm st) ∧ Vm 150 [.ref a, .int x1, .int x2, .int x3, .int x4] h (Kt 152 95 L st Q)) := V_iv (n := 4) (as := [.int x4, .int x3, .int x2, .int x1]) (ci := 12) (z := 150) (by decide +kernel : decode (p_c 152) 92 = .ok (.invokevirtual 215, 3)) (by decide +kernel) rfl rfl (by decide +kernel) rfl
theorem e152_95 : V 152 95 [l0, l1, l2, l3, l4, l5, some (.long u), l7, l8] st h Q = V 152 97 [l0, l1, l2, l3, l4, l5, some (.long u), l7, l8] (.long u :: st) h Q := V_nx (by decide +kernel : decode (p_c 152) 95 = .ok (.lload 6, 2)) rfl rfl
theorem e152_97 : V 152 97 [l0, l1, l2, l3, l4, some (.int x), l6, l7, l8] st h Q = V 152 99 [l0, l1, l2, l3, l4, some (.int x), l6, l7, l8] (.int x :: st) h Q := V_nx (by decide +kernel : decode (p_c 152) 97 = .ok (.iload 5, 2)) rfl rfl
theorem e152_99 : V 152 99 L (.int x1 :: .long u2 :: .long u1 :: st) h Q = (p_sm st ∧ Vm 151 [.long u1, .long u2, .int x1] h (Kt 152 102 L st Q)) := V_st (n := 3) (as := [.int x1, .long u2, .long u1]) (z := 151) (by decide +kernel : decode (p_c 152) 99 = .ok (.invokestatic 219, 3)) (by decide +kernel) rfl (by decide +kernel) rfl
theorem e152_102 : V 152 102 L [.long u] h Q = Q (some (.long u)) h := V_rl (by decide +kernel : decode (p_c 152) 102 = .ok (.lreturn, 1)) rfl
theorem m152 : Vm 152 [.ref a, .int x1, .int x2, .int x3, .int x4, .int x5] h Q = V 152 0 [some (.ref a), some (.int x1), some (.int x2), some (.int x3), some (.int x4), some (.int x5), none, none, none] [] h Q := rfl
theorem e153_0 : V 153 0 [some (.ref a), l1, l2] st h Q = V 153 1 [some (.ref a), l1, l2] (.ref a :: st) h Q := V_nx (by decide +kernel : decode (p_c 153) 0 = .ok (.aload_n 0, 1)) rfl rfl
theorem e153_1 : V 153 1 [l0, some (.int x), l2] st h Q = V 153 2 [l0, some (.int x), l2] (.int x :: st) h Q := V_nx (by decide +kernel : decode (p_c 153) 1 = .ok (.iload_n 1, 1)) rfl rfl
theorem e153_2 : V 153 2 L (.int x1 :: .ref a :: st) h Q = ((p_cn1 (p_get h a) = 12 ∧ p_sm st) ∧ Vm 112 [.ref a, .int x1] h (Kt 153 5 L st Q)) := V_iv (n := 1) (as := [.int x1]) (ci := 12) (z := 112) (by decide +kernel : decode (p_c 153) 2 = .ok (.invokevirtual 119, 3)) (by decide +kernel) rfl rfl (by decide +kernel) rfl
theorem e153_5 : V 153 5 L (.int x :: st) h Q = if x = 0 then V 153 12 L st h Q else V 153 8 L st h Q := (V_ifc (by decide +kernel : decode (p_c 153) 5 = .ok (.ifCond .eq 7, 3)) (by decide)).trans i_eq
theorem e153_8 : V 153 8 [l0, some (.int x), l2] st h Q = V 153 9 [l0, some (.int x), l2] (.int x :: st) h Q := V_nx (by decide +kernel : decode (p_c 153) 8 = .ok (.iload_n 1, 1)) rfl rfl
theorem e153_9 : V 153 9 L (.int x :: st) h Q = if x = 0 then V 153 12 L st h Q else V 153 15 L st h Q := (V_ifc (by decide +kernel : decode (p_c 153) 9 = .ok (.ifCond .ne 6, 3)) (by decide)).trans i_ne
theorem e153_12 : V 153 12 L st h Q = V 153 14 L (.int (-101) :: st) h Q := V_b (by decide +kernel : decode (p_c 153) 12 = .ok (.bipush (-101), 2)) (by decide)
theorem e153_14 : V 153 14 L [.int x] h Q = Q (some (.int x)) h := V_ri (by decide +kernel : decode (p_c 153) 14 = .ok (.ireturn, 1)) rfl
theorem e153_15 : V 153 15 [l0, l1, some (.int x)] st h Q = V 153 16 [l0, l1, some (.int x)] (.int x :: st) h Q := V_nx (by decide +kernel : decode (p_c 153) 15 = .ok (.iload_n 2, 1)) rfl rfl
theorem e153_16 : V 153 16 L st h Q = V 153 17 L (.int 0 :: st) h Q := V_c (by decide +kernel : decode (p_c 153) 16 = .ok (.iconst 0, 1)) (by decide)
theorem e153_17 : V 153 17 [some (.ref a), l1, l2] st h Q = V 153 18 [some (.ref a), l1, l2] (.ref a :: st) h Q := V_nx (by decide +kernel : decode (p_c 153) 17 = .ok (.aload_n 0, 1)) rfl rfl
theorem e153_18 : V 153 18 L (.ref a :: st) h Q = (p_ok1 [12] 1 (p_get h a) ∧ V 153 21 L (p_fv 1 (p_get h a) :: st) h Q) := V_gf (t := (3, 1, "WaterShouldersModel")) (by decide +kernel : decode (p_c 153) 18 = .ok (.getfield 7, 3)) (by decide +kernel)
theorem e153_21 : V 153 21 [l0, some (.int x), l2] st h Q = V 153 22 [l0, some (.int x), l2] (.int x :: st) h Q := V_nx (by decide +kernel : decode (p_c 153) 21 = .ok (.iload_n 1, 1)) rfl rfl
theorem e153_22 : V 153 22 L (.int i :: .ref a :: st) h Q = (p_iok i (p_get h a) ∧ V 153 23 L (.int (p_ivl i (p_get h a)) :: st) h Q) := V_ial (by decide +kernel : decode (p_c 153) 22 = .ok (.iaload, 1))
theorem e153_23 : V 153 23 L (.int x3 :: .int x2 :: .int x1 :: st) h Q = (p_sm st ∧ Vm 106 [.int x1, .int x2, .int x3] h (Kt 153 26 L st Q)) := V_st (n := 3) (as := [.int x3, .int x2, .int x1]) (z := 106) (by decide +kernel : decode (p_c 153) 23 = .ok (.invokestatic 90, 3)) (by decide +kernel) rfl (by decide +kernel) rfl
theorem e153_26 : V 153 26 L (.int x :: st) h Q = if x = 0 then V 153 29 L st h Q else V 153 32 L st h Q := (V_ifc (by decide +kernel : decode (p_c 153) 26 = .ok (.ifCond .ne 6, 3)) (by decide)).trans i_ne
theorem e153_29 : V 153 29 L st h Q = V 153 31 L (.int (-102) :: st) h Q := V_b (by decide +kernel : decode (p_c 153) 29 = .ok (.bipush (-102), 2)) (by decide)
theorem e153_31 : V 153 31 L [.int x] h Q = Q (some (.int x)) h := V_ri (by decide +kernel : decode (p_c 153) 31 = .ok (.ireturn, 1)) rfl
theorem e153_32 : V 153 32 [some (.ref a), l1, l2] st h Q = V 153 33 [some (.ref a), l1, l2] (.ref a :: st) h Q := V_nx (by decide +kernel : decode (p_c 153) 32 = .ok (.aload_n 0, 1)) rfl rfl
theorem e153_33 : V 153 33 [l0, some (.int x), l2] st h Q = V 153 34 [l0, some (.int x), l2] (.int x :: st) h Q := V_nx (by decide +kernel : decode (p_c 153) 33 = .ok (.iload_n 1, 1)) rfl rfl
theorem e153_34 : V 153 34 L (.int x :: .ref a :: st) h Q = (p_ok1 [12] 13 (p_get h a) ∧ V 153 37 L st (p_set h a (p_fs 13 (.int x) (p_get h a))) Q) := V_pf0 (fin := 0) (ref := "WaterShouldersModel") (by decide +kernel : decode (p_c 153) 34 = .ok (.putfield 34, 3)) (by decide +kernel) (by decide +kernel)
theorem e153_37 : V 153 37 [some (.ref a), l1, l2] st h Q = V 153 38 [some (.ref a), l1, l2] (.ref a :: st) h Q := V_nx (by decide +kernel : decode (p_c 153) 37 = .ok (.aload_n 0, 1)) rfl rfl
theorem e153_38 : V 153 38 [l0, l1, some (.int x)] st h Q = V 153 39 [l0, l1, some (.int x)] (.int x :: st) h Q := V_nx (by decide +kernel : decode (p_c 153) 38 = .ok (.iload_n 2, 1)) rfl rfl
theorem e153_39 : V 153 39 L (.int x :: .ref a :: st) h Q = (p_ok1 [12] 14 (p_get h a) ∧ V 153 42 L st (p_set h a (p_fs 14 (.int x) (p_get h a))) Q) := V_pf0 (fin := 0) (ref := "WaterShouldersModel") (by decide +kernel : decode (p_c 153) 39 = .ok (.putfield 223, 3)) (by decide +kernel) (by decide +kernel)
theorem e153_42 : V 153 42 [some (.ref a), l1, l2] st h Q = V 153 43 [some (.ref a), l1, l2] (.ref a :: st) h Q := V_nx (by decide +kernel : decode (p_c 153) 42 = .ok (.aload_n 0, 1)) rfl rfl
theorem e153_43 : V 153 43 L st h Q = V 153 44 L (.int 0 :: st) h Q := V_c (by decide +kernel : decode (p_c 153) 43 = .ok (.iconst 0, 1)) (by decide)
theorem e153_44 : V 153 44 L (.int x :: .ref a :: st) h Q = (p_ok1 [12] 15 (p_get h a) ∧ V 153 47 L st (p_set h a (p_fs 15 (.int x) (p_get h a))) Q) := V_pf0 (fin := 0) (ref := "WaterShouldersModel") (by decide +kernel : decode (p_c 153) 44 = .ok (.putfield 116, 3)) (by decide +kernel) (by decide +kernel)
theorem e153_47 : V 153 47 [some (.ref a), l1, l2] st h Q = V 153 48 [some (.ref a), l1, l2] (.ref a :: st) h Q := V_nx (by decide +kernel : decode (p_c 153) 47 = .ok (.aload_n 0, 1)) rfl rfl
theorem e153_48 : V 153 48 L (.ref a :: st) h Q = (p_ok1 [12] 1 (p_get h a) ∧ V 153 51 L (p_fv 1 (p_get h a) :: st) h Q) := V_gf (t := (3, 1, "WaterShouldersModel")) (by decide +kernel : decode (p_c 153) 48 = .ok (.getfield 7, 3)) (by decide +kernel)
theorem e153_51 : V 153 51 [l0, some (.int x), l2] st h Q = V 153 52 [l0, some (.int x), l2] (.int x :: st) h Q := V_nx (by decide +kernel : decode (p_c 153) 51 = .ok (.iload_n 1, 1)) rfl rfl
theorem e153_52 : V 153 52 L (.int i :: .ref a :: st) h Q = (p_iok i (p_get h a) ∧ V 153 53 L (.int (p_ivl i (p_get h a)) :: st) h Q) := V_ial (by decide +kernel : decode (p_c 153) 52 = .ok (.iaload, 1))
theorem e153_53 : V 153 53 L [.int x] h Q = Q (some (.int x)) h := V_ri (by decide +kernel : decode (p_c 153) 53 = .ok (.ireturn, 1)) rfl
theorem m153 : Vm 153 [.ref a, .int x1, .int x2] h Q = V 153 0 [some (.ref a), some (.int x1), some (.int x2)] [] h Q := rfl
theorem e154_0 : V 154 0 [some (.ref a), l1] st h Q = V 154 1 [some (.ref a), l1] (.ref a :: st) h Q := V_nx (by decide +kernel : decode (p_c 154) 0 = .ok (.aload_n 0, 1)) rfl rfl
theorem e154_1 : V 154 1 L (.ref a :: st) h Q = (p_ok1 [12] 13 (p_get h a) ∧ V 154 4 L (p_fv 13 (p_get h a) :: st) h Q) := V_gf (t := (0, 0, "WaterShouldersModel")) (by decide +kernel : decode (p_c 154) 1 = .ok (.getfield 34, 3)) (by decide +kernel)
theorem e154_4 : V 154 4 L st h Q = V 154 5 L (.int (-1) :: st) h Q := V_c (by decide +kernel : decode (p_c 154) 4 = .ok (.iconst (-1), 1)) (by decide)
theorem e154_5 : V 154 5 L (.int z :: .int x :: st) h Q = if x = z then V 154 8 L st h Q else V 154 11 L st h Q := (V_icmp (by decide +kernel : decode (p_c 154) 5 = .ok (.if_icmp .ne 6, 3)) (by decide)).trans i_ne
theorem e154_8 : V 154 8 L st h Q = V 154 10 L (.int (-103) :: st) h Q := V_b (by decide +kernel : decode (p_c 154) 8 = .ok (.bipush (-103), 2)) (by decide)
theorem e154_10 : V 154 10 L [.int x] h Q = Q (some (.int x)) h := V_ri (by decide +kernel : decode (p_c 154) 10 = .ok (.ireturn, 1)) rfl
theorem e154_11 : V 154 11 [l0, some (.int x)] st h Q = V 154 12 [l0, some (.int x)] (.int x :: st) h Q := V_nx (by decide +kernel : decode (p_c 154) 11 = .ok (.iload_n 1, 1)) rfl rfl
theorem e154_12 : V 154 12 L st h Q = V 154 13 L (.int 0 :: st) h Q := V_c (by decide +kernel : decode (p_c 154) 12 = .ok (.iconst 0, 1)) (by decide)
theorem e154_13 : V 154 13 L st h Q = V 154 14 L (.int 5 :: st) h Q := V_c (by decide +kernel : decode (p_c 154) 13 = .ok (.iconst 5, 1)) (by decide)
theorem e154_14 : V 154 14 L (.int x3 :: .int x2 :: .int x1 :: st) h Q = (p_sm st ∧ Vm 106 [.int x1, .int x2, .int x3] h (Kt 154 17 L st Q)) := V_st (n := 3) (as := [.int x3, .int x2, .int x1]) (z := 106) (by decide +kernel : decode (p_c 154) 14 = .ok (.invokestatic 90, 3)) (by decide +kernel) rfl (by decide +kernel) rfl
theorem e154_17 : V 154 17 L (.int x :: st) h Q = if x = 0 then V 154 20 L st h Q else V 154 23 L st h Q := (V_ifc (by decide +kernel : decode (p_c 154) 17 = .ok (.ifCond .ne 6, 3)) (by decide)).trans i_ne
theorem e154_20 : V 154 20 L st h Q = V 154 22 L (.int (-102) :: st) h Q := V_b (by decide +kernel : decode (p_c 154) 20 = .ok (.bipush (-102), 2)) (by decide)
theorem e154_22 : V 154 22 L [.int x] h Q = Q (some (.int x)) h := V_ri (by decide +kernel : decode (p_c 154) 22 = .ok (.ireturn, 1)) rfl
theorem e154_23 : V 154 23 [some (.ref a), l1] st h Q = V 154 24 [some (.ref a), l1] (.ref a :: st) h Q := V_nx (by decide +kernel : decode (p_c 154) 23 = .ok (.aload_n 0, 1)) rfl rfl
theorem e154_24 : V 154 24 L (.ref a :: st) h Q = (p_ok1 [12] 15 (p_get h a) ∧ V 154 27 L (p_fv 15 (p_get h a) :: st) h Q) := V_gf (t := (0, 0, "WaterShouldersModel")) (by decide +kernel : decode (p_c 154) 24 = .ok (.getfield 116, 3)) (by decide +kernel)
theorem e154_27 : V 154 27 L st h Q = V 154 29 L (.int 7 :: st) h Q := V_b (by decide +kernel : decode (p_c 154) 27 = .ok (.bipush 7, 2)) (by decide)
theorem e154_29 : V 154 29 L (.int z :: .int x :: st) h Q = if x = z then V 154 32 L st h Q else V 154 35 L st h Q := (V_icmp (by decide +kernel : decode (p_c 154) 29 = .ok (.if_icmp .ne 6, 3)) (by decide)).trans i_ne
theorem e154_32 : V 154 32 L st h Q = V 154 34 L (.int (-104) :: st) h Q := V_b (by decide +kernel : decode (p_c 154) 32 = .ok (.bipush (-104), 2)) (by decide)
theorem e154_34 : V 154 34 L [.int x] h Q = Q (some (.int x)) h := V_ri (by decide +kernel : decode (p_c 154) 34 = .ok (.ireturn, 1)) rfl
theorem e154_35 : V 154 35 [some (.ref a), l1] st h Q = V 154 36 [some (.ref a), l1] (.ref a :: st) h Q := V_nx (by decide +kernel : decode (p_c 154) 35 = .ok (.aload_n 0, 1)) rfl rfl
theorem e154_36 : V 154 36 L (.ref a :: st) h Q = (p_ok1 [12] 16 (p_get h a) ∧ V 154 39 L (p_fv 16 (p_get h a) :: st) h Q) := V_gf (t := (3, 1, "WaterShouldersModel")) (by decide +kernel : decode (p_c 154) 36 = .ok (.getfield 38, 3)) (by decide +kernel)
theorem e154_39 : V 154 39 [some (.ref a), l1] st h Q = V 154 40 [some (.ref a), l1] (.ref a :: st) h Q := V_nx (by decide +kernel : decode (p_c 154) 39 = .ok (.aload_n 0, 1)) rfl rfl
theorem e154_40 : V 154 40 L (.ref a :: st) h Q = (p_ok1 [12] 15 (p_get h a) ∧ V 154 43 L (p_fv 15 (p_get h a) :: st) h Q) := V_gf (t := (0, 0, "WaterShouldersModel")) (by decide +kernel : decode (p_c 154) 40 = .ok (.getfield 116, 3)) (by decide +kernel)
theorem e154_43 : V 154 43 [l0, some (.int x)] st h Q = V 154 44 [l0, some (.int x)] (.int x :: st) h Q := V_nx (by decide +kernel : decode (p_c 154) 43 = .ok (.iload_n 1, 1)) rfl rfl
theorem e154_44 : V 154 44 L (.int x :: .int i :: .ref a :: st) h Q = (p_sok i (p_get h a) ∧ V 154 45 L st (p_set h a (p_ist i x (p_get h a))) Q) := V_ias (by decide +kernel : decode (p_c 154) 44 = .ok (.iastore, 1))
theorem e154_45 : V 154 45 [some (.ref a), l1] st h Q = V 154 46 [some (.ref a), l1] (.ref a :: st) h Q := V_nx (by decide +kernel : decode (p_c 154) 45 = .ok (.aload_n 0, 1)) rfl rfl
theorem e154_46 : V 154 46 L (.ref a :: st) h Q = V 154 47 L (.ref a :: .ref a :: st) h Q := V_dup (by decide +kernel : decode (p_c 154) 46 = .ok (.dup, 1)) rfl
theorem e154_46i : V 154 46 L (.int x :: st) h Q = V 154 47 L (.int x :: .int x :: st) h Q := V_dup (by decide +kernel : decode (p_c 154) 46 = .ok (.dup, 1)) rfl
theorem e154_47 : V 154 47 L (.ref a :: st) h Q = (p_ok1 [12] 15 (p_get h a) ∧ V 154 50 L (p_fv 15 (p_get h a) :: st) h Q) := V_gf (t := (0, 0, "WaterShouldersModel")) (by decide +kernel : decode (p_c 154) 47 = .ok (.getfield 116, 3)) (by decide +kernel)
theorem e154_50 : V 154 50 L st h Q = V 154 51 L (.int 1 :: st) h Q := V_c (by decide +kernel : decode (p_c 154) 50 = .ok (.iconst 1, 1)) (by decide)
theorem e154_51 : V 154 51 L (.int z :: .int x :: st) h Q = V 154 52 L (.int (x + z) :: st) h Q := V_nx (by decide +kernel : decode (p_c 154) 51 = .ok (.iadd, 1)) rfl rfl
theorem e154_52 : V 154 52 L (.int x :: .ref a :: st) h Q = (p_ok1 [12] 15 (p_get h a) ∧ V 154 55 L st (p_set h a (p_fs 15 (.int x) (p_get h a))) Q) := V_pf0 (fin := 0) (ref := "WaterShouldersModel") (by decide +kernel : decode (p_c 154) 52 = .ok (.putfield 116, 3)) (by decide +kernel) (by decide +kernel)
theorem e154_55 : V 154 55 [some (.ref a), l1] st h Q = V 154 56 [some (.ref a), l1] (.ref a :: st) h Q := V_nx (by decide +kernel : decode (p_c 154) 55 = .ok (.aload_n 0, 1)) rfl rfl
theorem e154_56 : V 154 56 L (.ref a :: st) h Q = (p_ok1 [12] 15 (p_get h a) ∧ V 154 59 L (p_fv 15 (p_get h a) :: st) h Q) := V_gf (t := (0, 0, "WaterShouldersModel")) (by decide +kernel : decode (p_c 154) 56 = .ok (.getfield 116, 3)) (by decide +kernel)
theorem e154_59 : V 154 59 L [.int x] h Q = Q (some (.int x)) h := V_ri (by decide +kernel : decode (p_c 154) 59 = .ok (.ireturn, 1)) rfl
theorem m154 : Vm 154 [.ref a, .int x1] h Q = V 154 0 [some (.ref a), some (.int x1)] [] h Q := rfl
theorem e155_0 : V 155 0 [some (.ref a), l1, l2, l3] st h Q = V 155 1 [some (.ref a), l1, l2, l3] (.ref a :: st) h Q := V_nx (by decide +kernel : decode (p_c 155) 0 = .ok (.aload_n 0, 1)) rfl rfl
theorem e155_1 : V 155 1 L (.ref a :: st) h Q = (p_ok1 [12] 14 (p_get h a) ∧ V 155 4 L (p_fv 14 (p_get h a) :: st) h Q) := V_gf (t := (0, 0, "WaterShouldersModel")) (by decide +kernel : decode (p_c 155) 1 = .ok (.getfield 223, 3)) (by decide +kernel)
theorem e155_4 : V 155 4 [l0, l1, l2, l3] (.int x :: st) h Q = V 155 5 [p_dl l0, some (.int x), l2, l3] st h Q := V_nx (by decide +kernel : decode (p_c 155) 4 = .ok (.istore_n 1, 1)) rfl rfl
theorem e155_5 : V 155 5 L st h Q = V 155 6 L (.int 1 :: st) h Q := V_c (by decide +kernel : decode (p_c 155) 5 = .ok (.iconst 1, 1)) (by decide)
theorem e155_6 : V 155 6 [l0, l1, l2, l3] (.int x :: st) h Q = V 155 7 [l0, p_dl l1, some (.int x), l3] st h Q := V_nx (by decide +kernel : decode (p_c 155) 6 = .ok (.istore_n 2, 1)) rfl rfl
theorem e155_7 : V 155 7 [l0, l1, some (.int x), l3] st h Q = V 155 8 [l0, l1, some (.int x), l3] (.int x :: st) h Q := V_nx (by decide +kernel : decode (p_c 155) 7 = .ok (.iload_n 2, 1)) rfl rfl
theorem e155_8 : V 155 8 [some (.ref a), l1, l2, l3] st h Q = V 155 9 [some (.ref a), l1, l2, l3] (.ref a :: st) h Q := V_nx (by decide +kernel : decode (p_c 155) 8 = .ok (.aload_n 0, 1)) rfl rfl
theorem e155_9 : V 155 9 L (.ref a :: st) h Q = (p_ok1 [12] 15 (p_get h a) ∧ V 155 12 L (p_fv 15 (p_get h a) :: st) h Q) := V_gf (t := (0, 0, "WaterShouldersModel")) (by decide +kernel : decode (p_c 155) 9 = .ok (.getfield 116, 3)) (by decide +kernel)
theorem e155_12 : V 155 12 L (.int z :: .int x :: st) h Q = if z < x then V 155 129 L st h Q else V 155 15 L st h Q := (V_icmp (by decide +kernel : decode (p_c 155) 12 = .ok (.if_icmp .gt 117, 3)) (by decide)).trans i_gt
theorem e155_15 : V 155 15 L st h Q = V 155 16 L (.int 0 :: st) h Q := V_c (by decide +kernel : decode (p_c 155) 15 = .ok (.iconst 0, 1)) (by decide)
theorem e155_16 : V 155 16 [l0, l1, l2, l3] (.int x :: st) h Q = V 155 17 [l0, l1, p_dl l2, some (.int x)] st h Q := V_nx (by decide +kernel : decode (p_c 155) 16 = .ok (.istore_n 3, 1)) rfl rfl
theorem e155_17 : V 155 17 [l0, l1, l2, some (.int x)] st h Q = V 155 18 [l0, l1, l2, some (.int x)] (.int x :: st) h Q := V_nx (by decide +kernel : decode (p_c 155) 17 = .ok (.iload_n 3, 1)) rfl rfl
theorem e155_18 : V 155 18 [some (.ref a), l1, l2, l3] st h Q = V 155 19 [some (.ref a), l1, l2, l3] (.ref a :: st) h Q := V_nx (by decide +kernel : decode (p_c 155) 18 = .ok (.aload_n 0, 1)) rfl rfl
theorem e155_19 : V 155 19 L (.ref a :: st) h Q = (p_ok1 [12] 6 (p_get h a) ∧ V 155 22 L (p_fv 6 (p_get h a) :: st) h Q) := V_gf (t := (0, 0, "WaterShouldersModel")) (by decide +kernel : decode (p_c 155) 19 = .ok (.getfield 113, 3)) (by decide +kernel)
theorem e155_22 : V 155 22 L (.int z :: .int x :: st) h Q = if x < z then V 155 25 L st h Q else V 155 53 L st h Q := (V_icmp (by decide +kernel : decode (p_c 155) 22 = .ok (.if_icmp .ge 31, 3)) (by decide)).trans i_ge
theorem e155_25 : V 155 25 [l0, some (.int x), l2, l3] st h Q = V 155 26 [l0, some (.int x), l2, l3] (.int x :: st) h Q := V_nx (by decide +kernel : decode (p_c 155) 25 = .ok (.iload_n 1, 1)) rfl rfl
theorem e155_26 : V 155 26 [some (.ref a), l1, l2, l3] st h Q = V 155 27 [some (.ref a), l1, l2, l3] (.ref a :: st) h Q := V_nx (by decide +kernel : decode (p_c 155) 26 = .ok (.aload_n 0, 1)) rfl rfl
theorem e155_27 : V 155 27 L (.ref a :: st) h Q = (p_ok1 [12] 29 (p_get h a) ∧ V 155 30 L (p_fv 29 (p_get h a) :: st) h Q) := V_gf (t := (3, 1, "WaterShouldersModel")) (by decide +kernel : decode (p_c 155) 27 = .ok (.getfield 64, 3)) (by decide +kernel)
theorem e155_30 : V 155 30 [l0, l1, l2, some (.int x)] st h Q = V 155 31 [l0, l1, l2, some (.int x)] (.int x :: st) h Q := V_nx (by decide +kernel : decode (p_c 155) 30 = .ok (.iload_n 3, 1)) rfl rfl
theorem e155_31 : V 155 31 L (.int i :: .ref a :: st) h Q = (p_iok i (p_get h a) ∧ V 155 32 L (.int (p_ivl i (p_get h a)) :: st) h Q) := V_ial (by decide +kernel : decode (p_c 155) 31 = .ok (.iaload, 1))
theorem e155_32 : V 155 32 [l0, l1, some (.int x), l3] st h Q = V 155 33 [l0, l1, some (.int x), l3] (.int x :: st) h Q := V_nx (by decide +kernel : decode (p_c 155) 32 = .ok (.iload_n 2, 1)) rfl rfl
theorem e155_33 : V 155 33 L (.int z :: .int x :: st) h Q = if x = z then V 155 36 L st h Q else V 155 44 L st h Q := (V_icmp (by decide +kernel : decode (p_c 155) 33 = .ok (.if_icmp .ne 11, 3)) (by decide)).trans i_ne
theorem e155_36 : V 155 36 [some (.ref a), l1, l2, l3] st h Q = V 155 37 [some (.ref a), l1, l2, l3] (.ref a :: st) h Q := V_nx (by decide +kernel : decode (p_c 155) 36 = .ok (.aload_n 0, 1)) rfl rfl
theorem e155_37 : V 155 37 [l0, l1, l2, some (.int x)] st h Q = V 155 38 [l0, l1, l2, some (.int x)] (.int x :: st) h Q := V_nx (by decide +kernel : decode (p_c 155) 37 = .ok (.iload_n 3, 1)) rfl rfl
theorem e155_38 : V 155 38 L (.int x1 :: .ref a :: st) h Q = ((p_cn1 (p_get h a) = 12 ∧ p_sm st) ∧ Vm 119 [.ref a, .int x1] h (Kt 155 41 L st Q)) := V_iv (n := 1) (as := [.int x1]) (ci := 12) (z := 119) (by decide +kernel : decode (p_c 155) 38 = .ok (.invokevirtual 134, 3)) (by decide +kernel) rfl rfl (by decide +kernel) rfl
theorem e155_41 : V 155 41 L st h Q = V 155 45 L st h Q := V_goto (by decide +kernel : decode (p_c 155) 41 = .ok (.goto 4, 3)) (by decide)
theorem e155_44 : V 155 44 L st h Q = V 155 45 L (.int 0 :: st) h Q := V_c (by decide +kernel : decode (p_c 155) 44 = .ok (.iconst 0, 1)) (by decide)
theorem e155_45 : V 155 45 L (.int z :: .int x :: st) h Q = V 155 46 L (.int (x + z) :: st) h Q := V_nx (by decide +kernel : decode (p_c 155) 45 = .ok (.iadd, 1)) rfl rfl
theorem e155_46 : V 155 46 [l0, l1, l2, l3] (.int x :: st) h Q = V 155 47 [p_dl l0, some (.int x), l2, l3] st h Q := V_nx (by decide +kernel : decode (p_c 155) 46 = .ok (.istore_n 1, 1)) rfl rfl
theorem e155_47 : V 155 47 [l0, l1, l2, some (.int x)] st h Q = V 155 50 [l0, l1, p_dl l2, some (.int (x + 1))] st h Q := V_iinc (x := x) (by decide +kernel : decode (p_c 155) 47 = .ok (.iinc 3 1, 3)) (by decide) rfl (Nat.le_of_ble_eq_true rfl)
theorem e155_50 : V 155 50 L st h Q = V 155 17 L st h Q := V_goto (by decide +kernel : decode (p_c 155) 50 = .ok (.goto (-33), 3)) (by decide)
theorem e155_53 : V 155 53 [l0, some (.int x), l2, l3] st h Q = V 155 54 [l0, some (.int x), l2, l3] (.int x :: st) h Q := V_nx (by decide +kernel : decode (p_c 155) 53 = .ok (.iload_n 1, 1)) rfl rfl
theorem e155_54 : V 155 54 [some (.ref a), l1, l2, l3] st h Q = V 155 55 [some (.ref a), l1, l2, l3] (.ref a :: st) h Q := V_nx (by decide +kernel : decode (p_c 155) 54 = .ok (.aload_n 0, 1)) rfl rfl
theorem e155_55 : V 155 55 L (.ref a :: st) h Q = (p_ok1 [12] 1 (p_get h a) ∧ V 155 58 L (p_fv 1 (p_get h a) :: st) h Q) := V_gf (t := (3, 1, "WaterShouldersModel")) (by decide +kernel : decode (p_c 155) 55 = .ok (.getfield 7, 3)) (by decide +kernel)
theorem e155_58 : V 155 58 [some (.ref a), l1, l2, l3] st h Q = V 155 59 [some (.ref a), l1, l2, l3] (.ref a :: st) h Q := V_nx (by decide +kernel : decode (p_c 155) 58 = .ok (.aload_n 0, 1)) rfl rfl
theorem e155_59 : V 155 59 L (.ref a :: st) h Q = (p_ok1 [12] 13 (p_get h a) ∧ V 155 62 L (p_fv 13 (p_get h a) :: st) h Q) := V_gf (t := (0, 0, "WaterShouldersModel")) (by decide +kernel : decode (p_c 155) 59 = .ok (.getfield 34, 3)) (by decide +kernel)
theorem e155_62 : V 155 62 L (.int i :: .ref a :: st) h Q = (p_iok i (p_get h a) ∧ V 155 63 L (.int (p_ivl i (p_get h a)) :: st) h Q) := V_ial (by decide +kernel : decode (p_c 155) 62 = .ok (.iaload, 1))
theorem e155_63 : V 155 63 L (.int z :: .int x :: st) h Q = if x < z then V 155 66 L st h Q else V 155 70 L st h Q := (V_icmp (by decide +kernel : decode (p_c 155) 63 = .ok (.if_icmp .ge 7, 3)) (by decide)).trans i_ge
theorem e155_66 : V 155 66 [l0, some (.int x), l2, l3] st h Q = V 155 67 [l0, some (.int x), l2, l3] (.int x :: st) h Q := V_nx (by decide +kernel : decode (p_c 155) 66 = .ok (.iload_n 1, 1)) rfl rfl
theorem e155_67 : V 155 67 L st h Q = V 155 79 L st h Q := V_goto (by decide +kernel : decode (p_c 155) 67 = .ok (.goto 12, 3)) (by decide)
theorem e155_70 : V 155 70 [some (.ref a), l1, l2, l3] st h Q = V 155 71 [some (.ref a), l1, l2, l3] (.ref a :: st) h Q := V_nx (by decide +kernel : decode (p_c 155) 70 = .ok (.aload_n 0, 1)) rfl rfl
theorem e155_71 : V 155 71 L (.ref a :: st) h Q = (p_ok1 [12] 1 (p_get h a) ∧ V 155 74 L (p_fv 1 (p_get h a) :: st) h Q) := V_gf (t := (3, 1, "WaterShouldersModel")) (by decide +kernel : decode (p_c 155) 71 = .ok (.getfield 7, 3)) (by decide +kernel)
theorem e155_74 : V 155 74 [some (.ref a), l1, l2, l3] st h Q = V 155 75 [some (.ref a), l1, l2, l3] (.ref a :: st) h Q := V_nx (by decide +kernel : decode (p_c 155) 74 = .ok (.aload_n 0, 1)) rfl rfl
theorem e155_75 : V 155 75 L (.ref a :: st) h Q = (p_ok1 [12] 13 (p_get h a) ∧ V 155 78 L (p_fv 13 (p_get h a) :: st) h Q) := V_gf (t := (0, 0, "WaterShouldersModel")) (by decide +kernel : decode (p_c 155) 75 = .ok (.getfield 34, 3)) (by decide +kernel)
theorem e155_78 : V 155 78 L (.int i :: .ref a :: st) h Q = (p_iok i (p_get h a) ∧ V 155 79 L (.int (p_ivl i (p_get h a)) :: st) h Q) := V_ial (by decide +kernel : decode (p_c 155) 78 = .ok (.iaload, 1))
theorem e155_79 : V 155 79 [l0, l1, l2, l3] (.int x :: st) h Q = V 155 80 [p_dl l0, some (.int x), l2, l3] st h Q := V_nx (by decide +kernel : decode (p_c 155) 79 = .ok (.istore_n 1, 1)) rfl rfl
theorem e155_80 : V 155 80 [l0, some (.int x), l2, l3] st h Q = V 155 81 [l0, some (.int x), l2, l3] (.int x :: st) h Q := V_nx (by decide +kernel : decode (p_c 155) 80 = .ok (.iload_n 1, 1)) rfl rfl
theorem e155_81 : V 155 81 [some (.ref a), l1, l2, l3] st h Q = V 155 82 [some (.ref a), l1, l2, l3] (.ref a :: st) h Q := V_nx (by decide +kernel : decode (p_c 155) 81 = .ok (.aload_n 0, 1)) rfl rfl
theorem e155_82 : V 155 82 L (.ref a :: st) h Q = (p_ok1 [12] 2 (p_get h a) ∧ V 155 85 L (p_fv 2 (p_get h a) :: st) h Q) := V_gf (t := (3, 1, "WaterShouldersModel")) (by decide +kernel : decode (p_c 155) 82 = .ok (.getfield 13, 3)) (by decide +kernel)
theorem e155_85 : V 155 85 [some (.ref a), l1, l2, l3] st h Q = V 155 86 [some (.ref a), l1, l2, l3] (.ref a :: st) h Q := V_nx (by decide +kernel : decode (p_c 155) 85 = .ok (.aload_n 0, 1)) rfl rfl
theorem e155_86 : V 155 86 L (.ref a :: st) h Q = (p_ok1 [12] 13 (p_get h a) ∧ V 155 89 L (p_fv 13 (p_get h a) :: st) h Q) := V_gf (t := (0, 0, "WaterShouldersModel")) (by decide +kernel : decode (p_c 155) 86 = .ok (.getfield 34, 3)) (by decide +kernel)
theorem e155_89 : V 155 89 L (.int i :: .ref a :: st) h Q = (p_iok i (p_get h a) ∧ V 155 90 L (.int (p_ivl i (p_get h a)) :: st) h Q) := V_ial (by decide +kernel : decode (p_c 155) 89 = .ok (.iaload, 1))
theorem e155_90 : V 155 90 L (.int z :: .int x :: st) h Q = if z < x then V 155 93 L st h Q else V 155 107 L st h Q := (V_icmp (by decide +kernel : decode (p_c 155) 90 = .ok (.if_icmp .le 17, 3)) (by decide)).trans i_le
theorem e155_93 : V 155 93 [l0, some (.int x), l2, l3] st h Q = V 155 94 [l0, some (.int x), l2, l3] (.int x :: st) h Q := V_nx (by decide +kernel : decode (p_c 155) 93 = .ok (.iload_n 1, 1)) rfl rfl
theorem e155_94 : V 155 94 [some (.ref a), l1, l2, l3] st h Q = V 155 95 [some (.ref a), l1, l2, l3] (.ref a :: st) h Q := V_nx (by decide +kernel : decode (p_c 155) 94 = .ok (.aload_n 0, 1)) rfl rfl
theorem e155_95 : V 155 95 L (.ref a :: st) h Q = (p_ok1 [12] 2 (p_get h a) ∧ V 155 98 L (p_fv 2 (p_get h a) :: st) h Q) := V_gf (t := (3, 1, "WaterShouldersModel")) (by decide +kernel : decode (p_c 155) 95 = .ok (.getfield 13, 3)) (by decide +kernel)
theorem e155_98 : V 155 98 [some (.ref a), l1, l2, l3] st h Q = V 155 99 [some (.ref a), l1, l2, l3] (.ref a :: st) h Q := V_nx (by decide +kernel : decode (p_c 155) 98 = .ok (.aload_n 0, 1)) rfl rfl
theorem e155_99 : V 155 99 L (.ref a :: st) h Q = (p_ok1 [12] 13 (p_get h a) ∧ V 155 102 L (p_fv 13 (p_get h a) :: st) h Q) := V_gf (t := (0, 0, "WaterShouldersModel")) (by decide +kernel : decode (p_c 155) 99 = .ok (.getfield 34, 3)) (by decide +kernel)
theorem e155_102 : V 155 102 L (.int i :: .ref a :: st) h Q = (p_iok i (p_get h a) ∧ V 155 103 L (.int (p_ivl i (p_get h a)) :: st) h Q) := V_ial (by decide +kernel : decode (p_c 155) 102 = .ok (.iaload, 1))
theorem e155_103 : V 155 103 L (.int z :: .int x :: st) h Q = V 155 104 L (.int (x - z) :: st) h Q := V_nx (by decide +kernel : decode (p_c 155) 103 = .ok (.isub, 1)) rfl rfl
theorem e155_104 : V 155 104 L st h Q = V 155 108 L st h Q := V_goto (by decide +kernel : decode (p_c 155) 104 = .ok (.goto 4, 3)) (by decide)
theorem e155_107 : V 155 107 L st h Q = V 155 108 L (.int 0 :: st) h Q := V_c (by decide +kernel : decode (p_c 155) 107 = .ok (.iconst 0, 1)) (by decide)
theorem e155_108 : V 155 108 [l0, l1, l2, l3] (.int x :: st) h Q = V 155 109 [p_dl l0, some (.int x), l2, l3] st h Q := V_nx (by decide +kernel : decode (p_c 155) 108 = .ok (.istore_n 1, 1)) rfl rfl
theorem e155_109 : V 155 109 [l0, some (.int x), l2, l3] st h Q = V 155 110 [l0, some (.int x), l2, l3] (.int x :: st) h Q := V_nx (by decide +kernel : decode (p_c 155) 109 = .ok (.iload_n 1, 1)) rfl rfl
theorem e155_110 : V 155 110 [some (.ref a), l1, l2, l3] st h Q = V 155 111 [some (.ref a), l1, l2, l3] (.ref a :: st) h Q := V_nx (by decide +kernel : decode (p_c 155) 110 = .ok (.aload_n 0, 1)) rfl rfl
theorem e155_111 : V 155 111 L (.ref a :: st) h Q = (p_ok1 [12] 16 (p_get h a) ∧ V 155 114 L (p_fv 16 (p_get h a) :: st) h Q) := V_gf (t := (3, 1, "WaterShouldersModel")) (by decide +kernel : decode (p_c 155) 111 = .ok (.getfield 38, 3)) (by decide +kernel)
theorem e155_114 : V 155 114 [l0, l1, some (.int x), l3] st h Q = V 155 115 [l0, l1, some (.int x), l3] (.int x :: st) h Q := V_nx (by decide +kernel : decode (p_c 155) 114 = .ok (.iload_n 2, 1)) rfl rfl
theorem e155_115 : V 155 115 L st h Q = V 155 116 L (.int 1 :: st) h Q := V_c (by decide +kernel : decode (p_c 155) 115 = .ok (.iconst 1, 1)) (by decide)
theorem e155_116 : V 155 116 L (.int z :: .int x :: st) h Q = V 155 117 L (.int (x - z) :: st) h Q := V_nx (by decide +kernel : decode (p_c 155) 116 = .ok (.isub, 1)) rfl rfl
theorem e155_117 : V 155 117 L (.int i :: .ref a :: st) h Q = (p_iok i (p_get h a) ∧ V 155 118 L (.int (p_ivl i (p_get h a)) :: st) h Q) := V_ial (by decide +kernel : decode (p_c 155) 117 = .ok (.iaload, 1))
theorem e155_118 : V 155 118 L (.int z :: .int x :: st) h Q = if x = z then V 155 123 L st h Q else V 155 121 L st h Q := (V_icmp (by decide +kernel : decode (p_c 155) 118 = .ok (.if_icmp .eq 5, 3)) (by decide)).trans i_eq
theorem e155_121 : V 155 121 L st h Q = V 155 122 L (.int 0 :: st) h Q := V_c (by decide +kernel : decode (p_c 155) 121 = .ok (.iconst 0, 1)) (by decide)
theorem e155_122 : V 155 122 L [.int x] h Q = ((x = 0 ∨ x = 1) ∧ Q (some (.int x)) h) := V_rz (by decide +kernel : decode (p_c 155) 122 = .ok (.ireturn, 1)) rfl
theorem e155_123 : V 155 123 [l0, l1, some (.int x), l3] st h Q = V 155 126 [l0, p_dl l1, some (.int (x + 1)), l3] st h Q := V_iinc (x := x) (by decide +kernel : decode (p_c 155) 123 = .ok (.iinc 2 1, 3)) (by decide) rfl (Nat.le_of_ble_eq_true rfl)
theorem e155_126 : V 155 126 L st h Q = V 155 7 L st h Q := V_goto (by decide +kernel : decode (p_c 155) 126 = .ok (.goto (-119), 3)) (by decide)
theorem e155_129 : V 155 129 L st h Q = V 155 130 L (.int 1 :: st) h Q := V_c (by decide +kernel : decode (p_c 155) 129 = .ok (.iconst 1, 1)) (by decide)
theorem e155_130 : V 155 130 L [.int x] h Q = ((x = 0 ∨ x = 1) ∧ Q (some (.int x)) h) := V_rz (by decide +kernel : decode (p_c 155) 130 = .ok (.ireturn, 1)) rfl
theorem m155 : Vm 155 [.ref a] h Q = V 155 0 [some (.ref a), none, none, none] [] h Q := rfl
theorem e156_0 : V 156 0 L st h Q = V 156 1 L (.int 1 :: st) h Q := V_c (by decide +kernel : decode (p_c 156) 0 = .ok (.iconst 1, 1)) (by decide)
theorem e156_1 : V 156 1 [l0, l1, l2, l3, l4, l5, l6, l7] (.int x :: st) h Q = V 156 2 [l0, p_dl l1, some (.int x), l3, l4, l5, l6, l7] st h Q := V_nx (by decide +kernel : decode (p_c 156) 1 = .ok (.istore_n 2, 1)) rfl rfl
theorem e156_2 : V 156 2 L st h Q = V 156 3 L (.int 0 :: st) h Q := V_c (by decide +kernel : decode (p_c 156) 2 = .ok (.iconst 0, 1)) (by decide)
theorem e156_3 : V 156 3 [l0, l1, l2, l3, l4, l5, l6, l7] (.int x :: st) h Q = V 156 4 [l0, l1, p_dl l2, some (.int x), l4, l5, l6, l7] st h Q := V_nx (by decide +kernel : decode (p_c 156) 3 = .ok (.istore_n 3, 1)) rfl rfl
theorem e156_4 : V 156 4 [l0, l1, l2, some (.int x), l4, l5, l6, l7] st h Q = V 156 5 [l0, l1, l2, some (.int x), l4, l5, l6, l7] (.int x :: st) h Q := V_nx (by decide +kernel : decode (p_c 156) 4 = .ok (.iload_n 3, 1)) rfl rfl
theorem e156_5 : V 156 5 [some (.ref a), l1, l2, l3, l4, l5, l6, l7] st h Q = V 156 6 [some (.ref a), l1, l2, l3, l4, l5, l6, l7] (.ref a :: st) h Q := V_nx (by decide +kernel : decode (p_c 156) 5 = .ok (.aload_n 0, 1)) rfl rfl
theorem e156_6 : V 156 6 L (.ref a :: st) h Q = (p_ok1 [12] 6 (p_get h a) ∧ V 156 9 L (p_fv 6 (p_get h a) :: st) h Q) := V_gf (t := (0, 0, "WaterShouldersModel")) (by decide +kernel : decode (p_c 156) 6 = .ok (.getfield 113, 3)) (by decide +kernel)
theorem e156_9 : V 156 9 L (.int z :: .int x :: st) h Q = if x < z then V 156 12 L st h Q else V 156 43 L st h Q := (V_icmp (by decide +kernel : decode (p_c 156) 9 = .ok (.if_icmp .ge 34, 3)) (by decide)).trans i_ge
theorem e156_12 : V 156 12 [l0, l1, some (.int x), l3, l4, l5, l6, l7] st h Q = V 156 13 [l0, l1, some (.int x), l3, l4, l5, l6, l7] (.int x :: st) h Q := V_nx (by decide +kernel : decode (p_c 156) 12 = .ok (.iload_n 2, 1)) rfl rfl
theorem e156_13 : V 156 13 [some (.ref a), l1, l2, l3, l4, l5, l6, l7] st h Q = V 156 14 [some (.ref a), l1, l2, l3, l4, l5, l6, l7] (.ref a :: st) h Q := V_nx (by decide +kernel : decode (p_c 156) 13 = .ok (.aload_n 0, 1)) rfl rfl
theorem e156_14 : V 156 14 L (.ref a :: st) h Q = (p_ok1 [12] 7 (p_get h a) ∧ V 156 17 L (p_fv 7 (p_get h a) :: st) h Q) := V_gf (t := (3, 1, "WaterShouldersModel")) (by decide +kernel : decode (p_c 156) 14 = .ok (.getfield 19, 3)) (by decide +kernel)
theorem e156_17 : V 156 17 [l0, l1, l2, some (.int x), l4, l5, l6, l7] st h Q = V 156 18 [l0, l1, l2, some (.int x), l4, l5, l6, l7] (.int x :: st) h Q := V_nx (by decide +kernel : decode (p_c 156) 17 = .ok (.iload_n 3, 1)) rfl rfl
theorem e156_18 : V 156 18 L (.int i :: .ref a :: st) h Q = (p_iok i (p_get h a) ∧ V 156 19 L (.int (p_ivl i (p_get h a)) :: st) h Q) := V_ial (by decide +kernel : decode (p_c 156) 18 = .ok (.iaload, 1))
theorem e156_19 : V 156 19 L (.int x1 :: st) h Q = (p_sm st ∧ Vm 116 [.int x1] h (Kt 156 22 L st Q)) := V_st (n := 1) (as := [.int x1]) (z := 116) (by decide +kernel : decode (p_c 156) 19 = .ok (.invokestatic 127, 3)) (by decide +kernel) rfl (by decide +kernel) rfl
theorem e156_22 : V 156 22 L (.int x :: st) h Q = if x = 0 then V 156 34 L st h Q else V 156 25 L st h Q := (V_ifc (by decide +kernel : decode (p_c 156) 22 = .ok (.ifCond .eq 12, 3)) (by decide)).trans i_eq
theorem e156_25 : V 156 25 [some (.ref a), l1, l2, l3, l4, l5, l6, l7] st h Q = V 156 26 [some (.ref a), l1, l2, l3, l4, l5, l6, l7] (.ref a :: st) h Q := V_nx (by decide +kernel : decode (p_c 156) 25 = .ok (.aload_n 0, 1)) rfl rfl
theorem e156_26 : V 156 26 L (.ref a :: st) h Q = (p_ok1 [12] 15 (p_get h a) ∧ V 156 29 L (p_fv 15 (p_get h a) :: st) h Q) := V_gf (t := (0, 0, "WaterShouldersModel")) (by decide +kernel : decode (p_c 156) 26 = .ok (.getfield 116, 3)) (by decide +kernel)
theorem e156_29 : V 156 29 L st h Q = V 156 30 L (.int 1 :: st) h Q := V_c (by decide +kernel : decode (p_c 156) 29 = .ok (.iconst 1, 1)) (by decide)
theorem e156_30 : V 156 30 L (.int z :: .int x :: st) h Q = V 156 31 L (.int (x + z) :: st) h Q := V_nx (by decide +kernel : decode (p_c 156) 30 = .ok (.iadd, 1)) rfl rfl
theorem e156_31 : V 156 31 L st h Q = V 156 35 L st h Q := V_goto (by decide +kernel : decode (p_c 156) 31 = .ok (.goto 4, 3)) (by decide)
theorem e156_34 : V 156 34 L st h Q = V 156 35 L (.int 1 :: st) h Q := V_c (by decide +kernel : decode (p_c 156) 34 = .ok (.iconst 1, 1)) (by decide)
theorem e156_35 : V 156 35 L (.int z :: .int x :: st) h Q = V 156 36 L (.int (x * z) :: st) h Q := V_nx (by decide +kernel : decode (p_c 156) 35 = .ok (.imul, 1)) rfl rfl
theorem e156_36 : V 156 36 [l0, l1, l2, l3, l4, l5, l6, l7] (.int x :: st) h Q = V 156 37 [l0, p_dl l1, some (.int x), l3, l4, l5, l6, l7] st h Q := V_nx (by decide +kernel : decode (p_c 156) 36 = .ok (.istore_n 2, 1)) rfl rfl
theorem e156_37 : V 156 37 [l0, l1, l2, some (.int x), l4, l5, l6, l7] st h Q = V 156 40 [l0, l1, p_dl l2, some (.int (x + 1)), l4, l5, l6, l7] st h Q := V_iinc (x := x) (by decide +kernel : decode (p_c 156) 37 = .ok (.iinc 3 1, 3)) (by decide) rfl (Nat.le_of_ble_eq_true rfl)
theorem e156_40 : V 156 40 L st h Q = V 156 4 L st h Q := V_goto (by decide +kernel : decode (p_c 156) 40 = .ok (.goto (-36), 3)) (by decide)
theorem e156_43 : V 156 43 L st h Q = V 156 44 L (.int 0 :: st) h Q := V_c (by decide +kernel : decode (p_c 156) 43 = .ok (.iconst 0, 1)) (by decide)
theorem e156_44 : V 156 44 [l0, l1, l2, l3, l4, l5, l6, l7] (.int x :: st) h Q = V 156 45 [l0, l1, p_dl l2, some (.int x), l4, l5, l6, l7] st h Q := V_nx (by decide +kernel : decode (p_c 156) 44 = .ok (.istore_n 3, 1)) rfl rfl
theorem e156_45 : V 156 45 [some (.ref a), l1, l2, l3, l4, l5, l6, l7] st h Q = V 156 46 [some (.ref a), l1, l2, l3, l4, l5, l6, l7] (.ref a :: st) h Q := V_nx (by decide +kernel : decode (p_c 156) 45 = .ok (.aload_n 0, 1)) rfl rfl
theorem e156_46 : V 156 46 L st h Q = V 156 47 L (.int (-1) :: st) h Q := V_c (by decide +kernel : decode (p_c 156) 46 = .ok (.iconst (-1), 1)) (by decide)
theorem e156_47 : V 156 47 L (.int x :: .ref a :: st) h Q = (p_ok1 [12] 30 (p_get h a) ∧ V 156 50 L st (p_set h a (p_fs 30 (.int x) (p_get h a))) Q) := V_pf0 (fin := 0) (ref := "WaterShouldersModel") (by decide +kernel : decode (p_c 156) 47 = .ok (.putfield 226, 3)) (by decide +kernel) (by decide +kernel)
theorem e156_50 : V 156 50 L st h Q = V 156 51 L (.int 1 :: st) h Q := V_c (by decide +kernel : decode (p_c 156) 50 = .ok (.iconst 1, 1)) (by decide)
theorem e156_51 : V 156 51 [l0, l1, l2, l3, l4, l5, l6, l7] (.int x :: st) h Q = V 156 53 [l0, l1, l2, p_dl l3, some (.int x), l5, l6, l7] st h Q := V_nx (by decide +kernel : decode (p_c 156) 51 = .ok (.istore 4, 2)) rfl rfl
theorem e156_53 : V 156 53 L st h Q = V 156 54 L (.int 0 :: st) h Q := V_c (by decide +kernel : decode (p_c 156) 53 = .ok (.iconst 0, 1)) (by decide)
theorem e156_54 : V 156 54 [l0, l1, l2, l3, l4, l5, l6, l7] (.int x :: st) h Q = V 156 56 [l0, l1, l2, l3, p_dl l4, some (.int x), l6, l7] st h Q := V_nx (by decide +kernel : decode (p_c 156) 54 = .ok (.istore 5, 2)) rfl rfl
theorem e156_56 : V 156 56 [l0, l1, l2, l3, l4, some (.int x), l6, l7] st h Q = V 156 58 [l0, l1, l2, l3, l4, some (.int x), l6, l7] (.int x :: st) h Q := V_nx (by decide +kernel : decode (p_c 156) 56 = .ok (.iload 5, 2)) rfl rfl
theorem e156_58 : V 156 58 [l0, l1, some (.int x), l3, l4, l5, l6, l7] st h Q = V 156 59 [l0, l1, some (.int x), l3, l4, l5, l6, l7] (.int x :: st) h Q := V_nx (by decide +kernel : decode (p_c 156) 58 = .ok (.iload_n 2, 1)) rfl rfl
theorem e156_59 : V 156 59 L (.int z :: .int x :: st) h Q = if x < z then V 156 62 L st h Q else V 156 201 L st h Q := (V_icmp (by decide +kernel : decode (p_c 156) 59 = .ok (.if_icmp .ge 142, 3)) (by decide)).trans i_ge
theorem e156_62 : V 156 62 [l0, l1, l2, l3, l4, some (.int x), l6, l7] st h Q = V 156 64 [l0, l1, l2, l3, l4, some (.int x), l6, l7] (.int x :: st) h Q := V_nx (by decide +kernel : decode (p_c 156) 62 = .ok (.iload 5, 2)) rfl rfl
theorem e156_64 : V 156 64 [l0, l1, l2, l3, l4, l5, l6, l7] (.int x :: st) h Q = V 156 66 [l0, l1, l2, l3, l4, p_dl l5, some (.int x), l7] st h Q := V_nx (by decide +kernel : decode (p_c 156) 64 = .ok (.istore 6, 2)) rfl rfl
theorem e156_66 : V 156 66 L st h Q = V 156 67 L (.int 0 :: st) h Q := V_c (by decide +kernel : decode (p_c 156) 66 = .ok (.iconst 0, 1)) (by decide)
theorem e156_67 : V 156 67 [l0, l1, l2, l3, l4, l5, l6, l7] (.int x :: st) h Q = V 156 69 [l0, l1, l2, l3, l4, l5, p_dl l6, some (.int x)] st h Q := V_nx (by decide +kernel : decode (p_c 156) 67 = .ok (.istore 7, 2)) rfl rfl
theorem e156_69 : V 156 69 [l0, l1, l2, l3, l4, l5, l6, some (.int x)] st h Q = V 156 71 [l0, l1, l2, l3, l4, l5, l6, some (.int x)] (.int x :: st) h Q := V_nx (by decide +kernel : decode (p_c 156) 69 = .ok (.iload 7, 2)) rfl rfl
theorem e156_71 : V 156 71 [some (.ref a), l1, l2, l3, l4, l5, l6, l7] st h Q = V 156 72 [some (.ref a), l1, l2, l3, l4, l5, l6, l7] (.ref a :: st) h Q := V_nx (by decide +kernel : decode (p_c 156) 71 = .ok (.aload_n 0, 1)) rfl rfl
theorem e156_72 : V 156 72 L (.ref a :: st) h Q = (p_ok1 [12] 6 (p_get h a) ∧ V 156 75 L (p_fv 6 (p_get h a) :: st) h Q) := V_gf (t := (0, 0, "WaterShouldersModel")) (by decide +kernel : decode (p_c 156) 72 = .ok (.getfield 113, 3)) (by decide +kernel)
theorem e156_75 : V 156 75 L (.int z :: .int x :: st) h Q = if x < z then V 156 78 L st h Q else V 156 146 L st h Q := (V_icmp (by decide +kernel : decode (p_c 156) 75 = .ok (.if_icmp .ge 71, 3)) (by decide)).trans i_ge
theorem e156_78 : V 156 78 [some (.ref a), l1, l2, l3, l4, l5, l6, l7] st h Q = V 156 79 [some (.ref a), l1, l2, l3, l4, l5, l6, l7] (.ref a :: st) h Q := V_nx (by decide +kernel : decode (p_c 156) 78 = .ok (.aload_n 0, 1)) rfl rfl
theorem e156_79 : V 156 79 L (.ref a :: st) h Q = (p_ok1 [12] 29 (p_get h a) ∧ V 156 82 L (p_fv 29 (p_get h a) :: st) h Q) := V_gf (t := (3, 1, "WaterShouldersModel")) (by decide +kernel : decode (p_c 156) 79 = .ok (.getfield 64, 3)) (by decide +kernel)
theorem e156_82 : V 156 82 [l0, l1, l2, l3, l4, l5, l6, some (.int x)] st h Q = V 156 84 [l0, l1, l2, l3, l4, l5, l6, some (.int x)] (.int x :: st) h Q := V_nx (by decide +kernel : decode (p_c 156) 82 = .ok (.iload 7, 2)) rfl rfl
theorem e156_84 : V 156 84 [some (.ref a), l1, l2, l3, l4, l5, l6, l7] st h Q = V 156 85 [some (.ref a), l1, l2, l3, l4, l5, l6, l7] (.ref a :: st) h Q := V_nx (by decide +kernel : decode (p_c 156) 84 = .ok (.aload_n 0, 1)) rfl rfl
theorem e156_85 : V 156 85 L (.ref a :: st) h Q = (p_ok1 [12] 7 (p_get h a) ∧ V 156 88 L (p_fv 7 (p_get h a) :: st) h Q) := V_gf (t := (3, 1, "WaterShouldersModel")) (by decide +kernel : decode (p_c 156) 85 = .ok (.getfield 19, 3)) (by decide +kernel)
theorem e156_88 : V 156 88 [l0, l1, l2, l3, l4, l5, l6, some (.int x)] st h Q = V 156 90 [l0, l1, l2, l3, l4, l5, l6, some (.int x)] (.int x :: st) h Q := V_nx (by decide +kernel : decode (p_c 156) 88 = .ok (.iload 7, 2)) rfl rfl
theorem e156_90 : V 156 90 L (.int i :: .ref a :: st) h Q = (p_iok i (p_get h a) ∧ V 156 91 L (.int (p_ivl i (p_get h a)) :: st) h Q) := V_ial (by decide +kernel : decode (p_c 156) 90 = .ok (.iaload, 1))
theorem e156_91 : V 156 91 L (.int x1 :: st) h Q = (p_sm st ∧ Vm 116 [.int x1] h (Kt 156 94 L st Q)) := V_st (n := 1) (as := [.int x1]) (z := 116) (by decide +kernel : decode (p_c 156) 91 = .ok (.invokestatic 127, 3)) (by decide +kernel) rfl (by decide +kernel) rfl
theorem e156_94 : V 156 94 L (.int x :: st) h Q = if x = 0 then V 156 109 L st h Q else V 156 97 L st h Q := (V_ifc (by decide +kernel : decode (p_c 156) 94 = .ok (.ifCond .eq 15, 3)) (by decide)).trans i_eq
theorem e156_97 : V 156 97 [l0, l1, l2, l3, l4, l5, some (.int x), l7] st h Q = V 156 99 [l0, l1, l2, l3, l4, l5, some (.int x), l7] (.int x :: st) h Q := V_nx (by decide +kernel : decode (p_c 156) 97 = .ok (.iload 6, 2)) rfl rfl
theorem e156_99 : V 156 99 [some (.ref a), l1, l2, l3, l4, l5, l6, l7] st h Q = V 156 100 [some (.ref a), l1, l2, l3, l4, l5, l6, l7] (.ref a :: st) h Q := V_nx (by decide +kernel : decode (p_c 156) 99 = .ok (.aload_n 0, 1)) rfl rfl
theorem e156_100 : V 156 100 L (.ref a :: st) h Q = (p_ok1 [12] 15 (p_get h a) ∧ V 156 103 L (p_fv 15 (p_get h a) :: st) h Q) := V_gf (t := (0, 0, "WaterShouldersModel")) (by decide +kernel : decode (p_c 156) 100 = .ok (.getfield 116, 3)) (by decide +kernel)
theorem e156_103 : V 156 103 L st h Q = V 156 104 L (.int 1 :: st) h Q := V_c (by decide +kernel : decode (p_c 156) 103 = .ok (.iconst 1, 1)) (by decide)
theorem e156_104 : V 156 104 L (.int z :: .int x :: st) h Q = V 156 105 L (.int (x + z) :: st) h Q := V_nx (by decide +kernel : decode (p_c 156) 104 = .ok (.iadd, 1)) rfl rfl
theorem e156_105 : V 156 105 L (.int z :: .int x :: st) h Q = (¬ z = 0 ∧ V 156 106 L (.int (x - x / z * z) :: st) h Q) := V_irem (by decide +kernel : decode (p_c 156) 105 = .ok (.irem, 1))
theorem e156_106 : V 156 106 L st h Q = V 156 110 L st h Q := V_goto (by decide +kernel : decode (p_c 156) 106 = .ok (.goto 4, 3)) (by decide)
theorem e156_109 : V 156 109 L st h Q = V 156 110 L (.int 0 :: st) h Q := V_c (by decide +kernel : decode (p_c 156) 109 = .ok (.iconst 0, 1)) (by decide)
theorem e156_110 : V 156 110 L (.int x :: .int i :: .ref a :: st) h Q = (p_sok i (p_get h a) ∧ V 156 111 L st (p_set h a (p_ist i x (p_get h a))) Q) := V_ias (by decide +kernel : decode (p_c 156) 110 = .ok (.iastore, 1))
theorem e156_111 : V 156 111 [some (.ref a), l1, l2, l3, l4, l5, l6, l7] st h Q = V 156 112 [some (.ref a), l1, l2, l3, l4, l5, l6, l7] (.ref a :: st) h Q := V_nx (by decide +kernel : decode (p_c 156) 111 = .ok (.aload_n 0, 1)) rfl rfl
theorem e156_112 : V 156 112 L (.ref a :: st) h Q = (p_ok1 [12] 7 (p_get h a) ∧ V 156 115 L (p_fv 7 (p_get h a) :: st) h Q) := V_gf (t := (3, 1, "WaterShouldersModel")) (by decide +kernel : decode (p_c 156) 112 = .ok (.getfield 19, 3)) (by decide +kernel)
theorem e156_115 : V 156 115 [l0, l1, l2, l3, l4, l5, l6, some (.int x)] st h Q = V 156 117 [l0, l1, l2, l3, l4, l5, l6, some (.int x)] (.int x :: st) h Q := V_nx (by decide +kernel : decode (p_c 156) 115 = .ok (.iload 7, 2)) rfl rfl
theorem e156_117 : V 156 117 L (.int i :: .ref a :: st) h Q = (p_iok i (p_get h a) ∧ V 156 118 L (.int (p_ivl i (p_get h a)) :: st) h Q) := V_ial (by decide +kernel : decode (p_c 156) 117 = .ok (.iaload, 1))
theorem e156_118 : V 156 118 L (.int x1 :: st) h Q = (p_sm st ∧ Vm 116 [.int x1] h (Kt 156 121 L st Q)) := V_st (n := 1) (as := [.int x1]) (z := 116) (by decide +kernel : decode (p_c 156) 118 = .ok (.invokestatic 127, 3)) (by decide +kernel) rfl (by decide +kernel) rfl
theorem e156_121 : V 156 121 L (.int x :: st) h Q = if x = 0 then V 156 136 L st h Q else V 156 124 L st h Q := (V_ifc (by decide +kernel : decode (p_c 156) 121 = .ok (.ifCond .eq 15, 3)) (by decide)).trans i_eq
theorem e156_124 : V 156 124 [l0, l1, l2, l3, l4, l5, some (.int x), l7] st h Q = V 156 126 [l0, l1, l2, l3, l4, l5, some (.int x), l7] (.int x :: st) h Q := V_nx (by decide +kernel : decode (p_c 156) 124 = .ok (.iload 6, 2)) rfl rfl
theorem e156_126 : V 156 126 [some (.ref a), l1, l2, l3, l4, l5, l6, l7] st h Q = V 156 127 [some (.ref a), l1, l2, l3, l4, l5, l6, l7] (.ref a :: st) h Q := V_nx (by decide +kernel : decode (p_c 156) 126 = .ok (.aload_n 0, 1)) rfl rfl
theorem e156_127 : V 156 127 L (.ref a :: st) h Q = (p_ok1 [12] 15 (p_get h a) ∧ V 156 130 L (p_fv 15 (p_get h a) :: st) h Q) := V_gf (t := (0, 0, "WaterShouldersModel")) (by decide +kernel : decode (p_c 156) 127 = .ok (.getfield 116, 3)) (by decide +kernel)
theorem e156_130 : V 156 130 L st h Q = V 156 131 L (.int 1 :: st) h Q := V_c (by decide +kernel : decode (p_c 156) 130 = .ok (.iconst 1, 1)) (by decide)
theorem e156_131 : V 156 131 L (.int z :: .int x :: st) h Q = V 156 132 L (.int (x + z) :: st) h Q := V_nx (by decide +kernel : decode (p_c 156) 131 = .ok (.iadd, 1)) rfl rfl
theorem e156_132 : V 156 132 L (.int z :: .int x :: st) h Q = (¬ z = 0 ∧ V 156 133 L (.int (x / z) :: st) h Q) := V_idiv (by decide +kernel : decode (p_c 156) 132 = .ok (.idiv, 1))
theorem e156_133 : V 156 133 L st h Q = V 156 138 L st h Q := V_goto (by decide +kernel : decode (p_c 156) 133 = .ok (.goto 5, 3)) (by decide)
theorem e156_136 : V 156 136 [l0, l1, l2, l3, l4, l5, some (.int x), l7] st h Q = V 156 138 [l0, l1, l2, l3, l4, l5, some (.int x), l7] (.int x :: st) h Q := V_nx (by decide +kernel : decode (p_c 156) 136 = .ok (.iload 6, 2)) rfl rfl
theorem e156_138 : V 156 138 [l0, l1, l2, l3, l4, l5, l6, l7] (.int x :: st) h Q = V 156 140 [l0, l1, l2, l3, l4, p_dl l5, some (.int x), l7] st h Q := V_nx (by decide +kernel : decode (p_c 156) 138 = .ok (.istore 6, 2)) rfl rfl
theorem e156_140 : V 156 140 [l0, l1, l2, l3, l4, l5, l6, some (.int x)] st h Q = V 156 143 [l0, l1, l2, l3, l4, l5, p_dl l6, some (.int (x + 1))] st h Q := V_iinc (x := x) (by decide +kernel : decode (p_c 156) 140 = .ok (.iinc 7 1, 3)) (by decide) rfl (Nat.le_of_ble_eq_true rfl)
theorem e156_143 : V 156 143 L st h Q = V 156 69 L st h Q := V_goto (by decide +kernel : decode (p_c 156) 143 = .ok (.goto (-74), 3)) (by decide)
theorem e156_146 : V 156 146 [some (.ref a), l1, l2, l3, l4, l5, l6, l7] st h Q = V 156 147 [some (.ref a), l1, l2, l3, l4, l5, l6, l7] (.ref a :: st) h Q := V_nx (by decide +kernel : decode (p_c 156) 146 = .ok (.aload_n 0, 1)) rfl rfl
theorem e156_147 : V 156 147 L (.ref a :: st) h Q = ((p_cn1 (p_get h a) = 12 ∧ p_sm st) ∧ Vm 155 [.ref a] h (Kt 156 150 L st Q)) := V_iv (n := 0) (as := []) (ci := 12) (z := 155) (by decide +kernel : decode (p_c 156) 147 = .ok (.invokevirtual 229, 3)) (by decide +kernel) rfl rfl (by decide +kernel) rfl
theorem e156_150 : V 156 150 L (.int x :: st) h Q = if x = 0 then V 156 195 L st h Q else V 156 153 L st h Q := (V_ifc (by decide +kernel : decode (p_c 156) 150 = .ok (.ifCond .eq 45, 3)) (by decide)).trans i_eq
theorem e156_153 : V 156 153 [l0, l1, l2, l3, some (.int x), l5, l6, l7] st h Q = V 156 155 [l0, l1, l2, l3, some (.int x), l5, l6, l7] (.int x :: st) h Q := V_nx (by decide +kernel : decode (p_c 156) 153 = .ok (.iload 4, 2)) rfl rfl
theorem e156_155 : V 156 155 L (.int x :: st) h Q = if x = 0 then V 156 179 L st h Q else V 156 158 L st h Q := (V_ifc (by decide +kernel : decode (p_c 156) 155 = .ok (.ifCond .eq 24, 3)) (by decide)).trans i_eq
theorem e156_158 : V 156 158 [l0, l1, l2, some (.int x), l4, l5, l6, l7] st h Q = V 156 159 [l0, l1, l2, some (.int x), l4, l5, l6, l7] (.int x :: st) h Q := V_nx (by decide +kernel : decode (p_c 156) 158 = .ok (.iload_n 3, 1)) rfl rfl
theorem e156_159 : V 156 159 L (.int x :: st) h Q = if x = 0 then V 156 175 L st h Q else V 156 162 L st h Q := (V_ifc (by decide +kernel : decode (p_c 156) 159 = .ok (.ifCond .eq 16, 3)) (by decide)).trans i_eq
theorem e156_162 : V 156 162 [some (.ref a), l1, l2, l3, l4, l5, l6, l7] st h Q = V 156 163 [some (.ref a), l1, l2, l3, l4, l5, l6, l7] (.ref a :: st) h Q := V_nx (by decide +kernel : decode (p_c 156) 162 = .ok (.aload_n 0, 1)) rfl rfl
theorem e156_163 : V 156 163 L (.ref a :: st) h Q = (p_ok1 [12] 30 (p_get h a) ∧ V 156 166 L (p_fv 30 (p_get h a) :: st) h Q) := V_gf (t := (0, 0, "WaterShouldersModel")) (by decide +kernel : decode (p_c 156) 163 = .ok (.getfield 226, 3)) (by decide +kernel)
theorem e156_166 : V 156 166 [some (.ref a), l1, l2, l3, l4, l5, l6, l7] st h Q = V 156 167 [some (.ref a), l1, l2, l3, l4, l5, l6, l7] (.ref a :: st) h Q := V_nx (by decide +kernel : decode (p_c 156) 166 = .ok (.aload_n 0, 1)) rfl rfl
theorem e156_167 : V 156 167 L (.ref a :: st) h Q = (p_ok1 [12] 29 (p_get h a) ∧ V 156 170 L (p_fv 29 (p_get h a) :: st) h Q) := V_gf (t := (3, 1, "WaterShouldersModel")) (by decide +kernel : decode (p_c 156) 167 = .ok (.getfield 64, 3)) (by decide +kernel)
theorem e156_170 : V 156 170 [l0, some (.int x), l2, l3, l4, l5, l6, l7] st h Q = V 156 171 [l0, some (.int x), l2, l3, l4, l5, l6, l7] (.int x :: st) h Q := V_nx (by decide +kernel : decode (p_c 156) 170 = .ok (.iload_n 1, 1)) rfl rfl
theorem e156_171 : V 156 171 L (.int i :: .ref a :: st) h Q = (p_iok i (p_get h a) ∧ V 156 172 L (.int (p_ivl i (p_get h a)) :: st) h Q) := V_ial (by decide +kernel : decode (p_c 156) 171 = .ok (.iaload, 1))
theorem e156_172 : V 156 172 L (.int z :: .int x :: st) h Q = if x = z then V 156 175 L st h Q else V 156 179 L st h Q := (V_icmp (by decide +kernel : decode (p_c 156) 172 = .ok (.if_icmp .ne 7, 3)) (by decide)).trans i_ne
theorem e156_175 : V 156 175 L st h Q = V 156 176 L (.int 1 :: st) h Q := V_c (by decide +kernel : decode (p_c 156) 175 = .ok (.iconst 1, 1)) (by decide)
theorem e156_176 : V 156 176 L st h Q = V 156 180 L st h Q := V_goto (by decide +kernel : decode (p_c 156) 176 = .ok (.goto 4, 3)) (by decide)
theorem e156_179 : V 156 179 L st h Q = V 156 180 L (.int 0 :: st) h Q := V_c (by decide +kernel : decode (p_c 156) 179 = .ok (.iconst 0, 1)) (by decide)
theorem e156_180 : V 156 180 [l0, l1, l2, l3, l4, l5, l6, l7] (.int x :: st) h Q = V 156 182 [l0, l1, l2, p_dl l3, some (.int x), l5, l6, l7] st h Q := V_nx (by decide +kernel : decode (p_c 156) 180 = .ok (.istore 4, 2)) rfl rfl
theorem e156_182 : V 156 182 [some (.ref a), l1, l2, l3, l4, l5, l6, l7] st h Q = V 156 183 [some (.ref a), l1, l2, l3, l4, l5, l6, l7] (.ref a :: st) h Q := V_nx (by decide +kernel : decode (p_c 156) 182 = .ok (.aload_n 0, 1)) rfl rfl
theorem e156_183 : V 156 183 [some (.ref a), l1, l2, l3, l4, l5, l6, l7] st h Q = V 156 184 [some (.ref a), l1, l2, l3, l4, l5, l6, l7] (.ref a :: st) h Q := V_nx (by decide +kernel : decode (p_c 156) 183 = .ok (.aload_n 0, 1)) rfl rfl
theorem e156_184 : V 156 184 L (.ref a :: st) h Q = (p_ok1 [12] 29 (p_get h a) ∧ V 156 187 L (p_fv 29 (p_get h a) :: st) h Q) := V_gf (t := (3, 1, "WaterShouldersModel")) (by decide +kernel : decode (p_c 156) 184 = .ok (.getfield 64, 3)) (by decide +kernel)
theorem e156_187 : V 156 187 [l0, some (.int x), l2, l3, l4, l5, l6, l7] st h Q = V 156 188 [l0, some (.int x), l2, l3, l4, l5, l6, l7] (.int x :: st) h Q := V_nx (by decide +kernel : decode (p_c 156) 187 = .ok (.iload_n 1, 1)) rfl rfl
theorem e156_188 : V 156 188 L (.int i :: .ref a :: st) h Q = (p_iok i (p_get h a) ∧ V 156 189 L (.int (p_ivl i (p_get h a)) :: st) h Q) := V_ial (by decide +kernel : decode (p_c 156) 188 = .ok (.iaload, 1))
theorem e156_189 : V 156 189 L (.int x :: .ref a :: st) h Q = (p_ok1 [12] 30 (p_get h a) ∧ V 156 192 L st (p_set h a (p_fs 30 (.int x) (p_get h a))) Q) := V_pf0 (fin := 0) (ref := "WaterShouldersModel") (by decide +kernel : decode (p_c 156) 189 = .ok (.putfield 226, 3)) (by decide +kernel) (by decide +kernel)
theorem e156_192 : V 156 192 [l0, l1, l2, some (.int x), l4, l5, l6, l7] st h Q = V 156 195 [l0, l1, p_dl l2, some (.int (x + 1)), l4, l5, l6, l7] st h Q := V_iinc (x := x) (by decide +kernel : decode (p_c 156) 192 = .ok (.iinc 3 1, 3)) (by decide) rfl (Nat.le_of_ble_eq_true rfl)
theorem e156_195 : V 156 195 [l0, l1, l2, l3, l4, some (.int x), l6, l7] st h Q = V 156 198 [l0, l1, l2, l3, p_dl l4, some (.int (x + 1)), l6, l7] st h Q := V_iinc (x := x) (by decide +kernel : decode (p_c 156) 195 = .ok (.iinc 5 1, 3)) (by decide) rfl (Nat.le_of_ble_eq_true rfl)
theorem e156_198 : V 156 198 L st h Q = V 156 56 L st h Q := V_goto (by decide +kernel : decode (p_c 156) 198 = .ok (.goto (-142), 3)) (by decide)
theorem e156_201 : V 156 201 [some (.ref a), l1, l2, l3, l4, l5, l6, l7] st h Q = V 156 202 [some (.ref a), l1, l2, l3, l4, l5, l6, l7] (.ref a :: st) h Q := V_nx (by decide +kernel : decode (p_c 156) 201 = .ok (.aload_n 0, 1)) rfl rfl
theorem e156_202 : V 156 202 [l0, l1, l2, l3, some (.int x), l5, l6, l7] st h Q = V 156 204 [l0, l1, l2, l3, some (.int x), l5, l6, l7] (.int x :: st) h Q := V_nx (by decide +kernel : decode (p_c 156) 202 = .ok (.iload 4, 2)) rfl rfl
theorem e156_204 : V 156 204 L (.int x :: st) h Q = if x = 0 then V 156 214 L st h Q else V 156 207 L st h Q := (V_ifc (by decide +kernel : decode (p_c 156) 204 = .ok (.ifCond .eq 10, 3)) (by decide)).trans i_eq
theorem e156_207 : V 156 207 [some (.ref a), l1, l2, l3, l4, l5, l6, l7] st h Q = V 156 208 [some (.ref a), l1, l2, l3, l4, l5, l6, l7] (.ref a :: st) h Q := V_nx (by decide +kernel : decode (p_c 156) 207 = .ok (.aload_n 0, 1)) rfl rfl
theorem e156_208 : V 156 208 L (.ref a :: st) h Q = (p_ok1 [12] 30 (p_get h a) ∧ V 156 211 L (p_fv 30 (p_get h a) :: st) h Q) := V_gf (t := (0, 0, "WaterShouldersModel")) (by decide +kernel : decode (p_c 156) 208 = .ok (.getfield 226, 3)) (by decide +kernel)
theorem e156_211 : V 156 211 L st h Q = V 156 215 L st h Q := V_goto (by decide +kernel : decode (p_c 156) 211 = .ok (.goto 4, 3)) (by decide)
theorem e156_214 : V 156 214 L st h Q = V 156 215 L (.int (-1) :: st) h Q := V_c (by decide +kernel : decode (p_c 156) 214 = .ok (.iconst (-1), 1)) (by decide)
theorem e156_215 : V 156 215 L (.int x :: .ref a :: st) h Q = (p_ok1 [12] 30 (p_get h a) ∧ V 156 218 L st (p_set h a (p_fs 30 (.int x) (p_get h a))) Q) := V_pf0 (fin := 0) (ref := "WaterShouldersModel") (by decide +kernel : decode (p_c 156) 215 = .ok (.putfield 226, 3)) (by decide +kernel) (by decide +kernel)
theorem e156_218 : V 156 218 [l0, l1, l2, some (.int x), l4, l5, l6, l7] st h Q = V 156 219 [l0, l1, l2, some (.int x), l4, l5, l6, l7] (.int x :: st) h Q := V_nx (by decide +kernel : decode (p_c 156) 218 = .ok (.iload_n 3, 1)) rfl rfl
theorem e156_219 : V 156 219 L [.int x] h Q = Q (some (.int x)) h := V_ri (by decide +kernel : decode (p_c 156) 219 = .ok (.ireturn, 1)) rfl
theorem m156 : Vm 156 [.ref a, .int x1] h Q = V 156 0 [some (.ref a), some (.int x1), none, none, none, none, none, none] [] h Q := rfl
theorem e157_0 : V 157 0 [some (.ref a)] st h Q = V 157 1 [some (.ref a)] (.ref a :: st) h Q := V_nx (by decide +kernel : decode (p_c 157) 0 = .ok (.aload_n 0, 1)) rfl rfl
theorem e157_1 : V 157 1 L (.ref a :: st) h Q = (p_ok1 [12] 13 (p_get h a) ∧ V 157 4 L (p_fv 13 (p_get h a) :: st) h Q) := V_gf (t := (0, 0, "WaterShouldersModel")) (by decide +kernel : decode (p_c 157) 1 = .ok (.getfield 34, 3)) (by decide +kernel)
theorem e157_4 : V 157 4 L st h Q = V 157 5 L (.int (-1) :: st) h Q := V_c (by decide +kernel : decode (p_c 157) 4 = .ok (.iconst (-1), 1)) (by decide)
theorem e157_5 : V 157 5 L (.int z :: .int x :: st) h Q = if x = z then V 157 8 L st h Q else V 157 13 L st h Q := (V_icmp (by decide +kernel : decode (p_c 157) 5 = .ok (.if_icmp .ne 8, 3)) (by decide)).trans i_ne
theorem e157_8 : V 157 8 L st h Q = V 157 10 L (.int (-103) :: st) h Q := V_b (by decide +kernel : decode (p_c 157) 8 = .ok (.bipush (-103), 2)) (by decide)
theorem e157_10 : V 157 10 L st h Q = V 157 18 L st h Q := V_goto (by decide +kernel : decode (p_c 157) 10 = .ok (.goto 8, 3)) (by decide)
theorem e157_13 : V 157 13 [some (.ref a)] st h Q = V 157 14 [some (.ref a)] (.ref a :: st) h Q := V_nx (by decide +kernel : decode (p_c 157) 13 = .ok (.aload_n 0, 1)) rfl rfl
theorem e157_14 : V 157 14 L st h Q = V 157 15 L (.int 0 :: st) h Q := V_c (by decide +kernel : decode (p_c 157) 14 = .ok (.iconst 0, 1)) (by decide)
theorem e157_15 : V 157 15 L (.int x1 :: .ref a :: st) h Q = ((p_cn1 (p_get h a) = 12 ∧ p_sm st) ∧ Vm 156 [.ref a, .int x1] h (Kt 157 18 L st Q)) := V_iv (n := 1) (as := [.int x1]) (ci := 12) (z := 156) (by decide +kernel : decode (p_c 157) 15 = .ok (.invokevirtual 233, 3)) (by decide +kernel) rfl rfl (by decide +kernel) rfl
theorem e157_18 : V 157 18 L [.int x] h Q = Q (some (.int x)) h := V_ri (by decide +kernel : decode (p_c 157) 18 = .ok (.ireturn, 1)) rfl
theorem m157 : Vm 157 [.ref a] h Q = V 157 0 [some (.ref a)] [] h Q := rfl
theorem e158_0 : V 158 0 [some (.ref a), l1] st h Q = V 158 1 [some (.ref a), l1] (.ref a :: st) h Q := V_nx (by decide +kernel : decode (p_c 158) 0 = .ok (.aload_n 0, 1)) rfl rfl
theorem e158_1 : V 158 1 [l0, some (.int x)] st h Q = V 158 2 [l0, some (.int x)] (.int x :: st) h Q := V_nx (by decide +kernel : decode (p_c 158) 1 = .ok (.iload_n 1, 1)) rfl rfl
theorem e158_2 : V 158 2 L (.int x1 :: .ref a :: st) h Q = ((p_cn1 (p_get h a) = 12 ∧ p_sm st) ∧ Vm 115 [.ref a, .int x1] h (Kt 158 5 L st Q)) := V_iv (n := 1) (as := [.int x1]) (ci := 12) (z := 115) (by decide +kernel : decode (p_c 158) 2 = .ok (.invokevirtual 140, 3)) (by decide +kernel) rfl rfl (by decide +kernel) rfl
theorem e158_5 : V 158 5 L (.int x :: st) h Q = if x = 0 then V 158 8 L st h Q else V 158 11 L st h Q := (V_ifc (by decide +kernel : decode (p_c 158) 5 = .ok (.ifCond .ne 6, 3)) (by decide)).trans i_ne
theorem e158_8 : V 158 8 L st h Q = V 158 10 L (.int (-101) :: st) h Q := V_b (by decide +kernel : decode (p_c 158) 8 = .ok (.bipush (-101), 2)) (by decide)
theorem e158_10 : V 158 10 L [.int x] h Q = Q (some (.int x)) h := V_ri (by decide +kernel : decode (p_c 158) 10 = .ok (.ireturn, 1)) rfl
theorem e158_11 : V 158 11 [some (.ref a), l1] st h Q = V 158 12 [some (.ref a), l1] (.ref a :: st) h Q := V_nx (by decide +kernel : decode (p_c 158) 11 = .ok (.aload_n 0, 1)) rfl rfl
theorem e158_12 : V 158 12 L (.ref a :: st) h Q = (p_ok1 [12] 13 (p_get h a) ∧ V 158 15 L (p_fv 13 (p_get h a) :: st) h Q) := V_gf (t := (0, 0, "WaterShouldersModel")) (by decide +kernel : decode (p_c 158) 12 = .ok (.getfield 34, 3)) (by decide +kernel)
theorem e158_15 : V 158 15 L st h Q = V 158 16 L (.int (-1) :: st) h Q := V_c (by decide +kernel : decode (p_c 158) 15 = .ok (.iconst (-1), 1)) (by decide)
theorem e158_16 : V 158 16 L (.int z :: .int x :: st) h Q = if x = z then V 158 31 L st h Q else V 158 19 L st h Q := (V_icmp (by decide +kernel : decode (p_c 158) 16 = .ok (.if_icmp .eq 15, 3)) (by decide)).trans i_eq
theorem e158_19 : V 158 19 [some (.ref a), l1] st h Q = V 158 20 [some (.ref a), l1] (.ref a :: st) h Q := V_nx (by decide +kernel : decode (p_c 158) 19 = .ok (.aload_n 0, 1)) rfl rfl
theorem e158_20 : V 158 20 L (.ref a :: st) h Q = (p_ok1 [12] 7 (p_get h a) ∧ V 158 23 L (p_fv 7 (p_get h a) :: st) h Q) := V_gf (t := (3, 1, "WaterShouldersModel")) (by decide +kernel : decode (p_c 158) 20 = .ok (.getfield 19, 3)) (by decide +kernel)
theorem e158_23 : V 158 23 [l0, some (.int x)] st h Q = V 158 24 [l0, some (.int x)] (.int x :: st) h Q := V_nx (by decide +kernel : decode (p_c 158) 23 = .ok (.iload_n 1, 1)) rfl rfl
theorem e158_24 : V 158 24 L (.int i :: .ref a :: st) h Q = (p_iok i (p_get h a) ∧ V 158 25 L (.int (p_ivl i (p_get h a)) :: st) h Q) := V_ial (by decide +kernel : decode (p_c 158) 24 = .ok (.iaload, 1))
theorem e158_25 : V 158 25 L (.int x1 :: st) h Q = (p_sm st ∧ Vm 116 [.int x1] h (Kt 158 28 L st Q)) := V_st (n := 1) (as := [.int x1]) (z := 116) (by decide +kernel : decode (p_c 158) 25 = .ok (.invokestatic 127, 3)) (by decide +kernel) rfl (by decide +kernel) rfl
theorem e158_28 : V 158 28 L (.int x :: st) h Q = if x = 0 then V 158 31 L st h Q else V 158 34 L st h Q := (V_ifc (by decide +kernel : decode (p_c 158) 28 = .ok (.ifCond .ne 6, 3)) (by decide)).trans i_ne
theorem e158_31 : V 158 31 L st h Q = V 158 33 L (.int (-103) :: st) h Q := V_b (by decide +kernel : decode (p_c 158) 31 = .ok (.bipush (-103), 2)) (by decide)
theorem e158_33 : V 158 33 L [.int x] h Q = Q (some (.int x)) h := V_ri (by decide +kernel : decode (p_c 158) 33 = .ok (.ireturn, 1)) rfl
theorem e158_34 : V 158 34 [some (.ref a), l1] st h Q = V 158 35 [some (.ref a), l1] (.ref a :: st) h Q := V_nx (by decide +kernel : decode (p_c 158) 34 = .ok (.aload_n 0, 1)) rfl rfl
theorem e158_35 : V 158 35 [l0, some (.int x)] st h Q = V 158 36 [l0, some (.int x)] (.int x :: st) h Q := V_nx (by decide +kernel : decode (p_c 158) 35 = .ok (.iload_n 1, 1)) rfl rfl
theorem e158_36 : V 158 36 L (.int x1 :: .ref a :: st) h Q = ((p_cn1 (p_get h a) = 12 ∧ p_sm st) ∧ Vm 156 [.ref a, .int x1] h (Kt 158 39 L st Q)) := V_iv (n := 1) (as := [.int x1]) (ci := 12) (z := 156) (by decide +kernel : decode (p_c 158) 36 = .ok (.invokevirtual 233, 3)) (by decide +kernel) rfl rfl (by decide +kernel) rfl
theorem e158_39 : V 158 39 L (.int x :: st) h Q = V 158 40 L st h Q := V_nx (by decide +kernel : decode (p_c 158) 39 = .ok (.pop, 1)) rfl rfl
theorem e158_40 : V 158 40 [some (.ref a), l1] st h Q = V 158 41 [some (.ref a), l1] (.ref a :: st) h Q := V_nx (by decide +kernel : decode (p_c 158) 40 = .ok (.aload_n 0, 1)) rfl rfl
theorem e158_41 : V 158 41 L (.ref a :: st) h Q = (p_ok1 [12] 30 (p_get h a) ∧ V 158 44 L (p_fv 30 (p_get h a) :: st) h Q) := V_gf (t := (0, 0, "WaterShouldersModel")) (by decide +kernel : decode (p_c 158) 41 = .ok (.getfield 226, 3)) (by decide +kernel)
theorem e158_44 : V 158 44 L [.int x] h Q = Q (some (.int x)) h := V_ri (by decide +kernel : decode (p_c 158) 44 = .ok (.ireturn, 1)) rfl
theorem m158 : Vm 158 [.ref a, .int x1] h Q = V 158 0 [some (.ref a), some (.int x1)] [] h Q := rfl
theorem e159_0 : V 159 0 [some (.ref a), l1] st h Q = V 159 1 [some (.ref a), l1] (.ref a :: st) h Q := V_nx (by decide +kernel : decode (p_c 159) 0 = .ok (.aload_n 0, 1)) rfl rfl
theorem e159_1 : V 159 1 L st h Q = V 159 4 L (.long 1103515245 :: st) h Q := V_ldc2 (by decide +kernel : decode (p_c 159) 1 = .ok (.ldc2_w 236, 3)) (by decide +kernel)
theorem e159_4 : V 159 4 [some (.ref a), l1] st h Q = V 159 5 [some (.ref a), l1] (.ref a :: st) h Q := V_nx (by decide +kernel : decode (p_c 159) 4 = .ok (.aload_n 0, 1)) rfl rfl
theorem e159_5 : V 159 5 L (.ref a :: st) h Q = (p_ok1 [12] 31 (p_get h a) ∧ V 159 8 L (p_fv 31 (p_get h a) :: st) h Q) := V_gf (t := (2, 0, "WaterShouldersModel")) (by decide +kernel : decode (p_c 159) 5 = .ok (.getfield 238, 3)) (by decide +kernel)
theorem e159_8 : V 159 8 L (.long w :: .long u :: st) h Q = V 159 9 L (.long (u * w) :: st) h Q := V_nx (by decide +kernel : decode (p_c 159) 8 = .ok (.lmul, 1)) rfl rfl
theorem e159_9 : V 159 9 L st h Q = V 159 12 L (.long 12345 :: st) h Q := V_ldc2 (by decide +kernel : decode (p_c 159) 9 = .ok (.ldc2_w 242, 3)) (by decide +kernel)
theorem e159_12 : V 159 12 L (.long w :: .long u :: st) h Q = V 159 13 L (.long (u + w) :: st) h Q := V_nx (by decide +kernel : decode (p_c 159) 12 = .ok (.ladd, 1)) rfl rfl
theorem e159_13 : V 159 13 L st h Q = V 159 16 L (.long 2147483647 :: st) h Q := V_ldc2 (by decide +kernel : decode (p_c 159) 13 = .ok (.ldc2_w 244, 3)) (by decide +kernel)
theorem e159_16 : V 159 16 L (.long w :: .long u :: st) h Q = V 159 17 L (.long (u &&& w) :: st) h Q := V_nx (by decide +kernel : decode (p_c 159) 16 = .ok (.land, 1)) rfl rfl
theorem e159_17 : V 159 17 L (.long u :: .ref a :: st) h Q = (p_ok1 [12] 31 (p_get h a) ∧ V 159 20 L st (p_set h a (p_fs 31 (.long u) (p_get h a))) Q) := V_pf2 (fin := 0) (ref := "WaterShouldersModel") (by decide +kernel : decode (p_c 159) 17 = .ok (.putfield 238, 3)) (by decide +kernel) (by decide +kernel)
theorem e159_20 : V 159 20 [some (.ref a), l1] st h Q = V 159 21 [some (.ref a), l1] (.ref a :: st) h Q := V_nx (by decide +kernel : decode (p_c 159) 20 = .ok (.aload_n 0, 1)) rfl rfl
theorem e159_21 : V 159 21 L (.ref a :: st) h Q = (p_ok1 [12] 31 (p_get h a) ∧ V 159 24 L (p_fv 31 (p_get h a) :: st) h Q) := V_gf (t := (2, 0, "WaterShouldersModel")) (by decide +kernel : decode (p_c 159) 21 = .ok (.getfield 238, 3)) (by decide +kernel)
theorem e159_24 : V 159 24 L st h Q = V 159 27 L (.long 65536 :: st) h Q := V_ldc2 (by decide +kernel : decode (p_c 159) 24 = .ok (.ldc2_w 246, 3)) (by decide +kernel)
theorem e159_27 : V 159 27 L (.long w :: .long u :: st) h Q = (¬ w = 0 ∧ V 159 28 L (.long (u / w) :: st) h Q) := V_ldiv (by decide +kernel : decode (p_c 159) 27 = .ok (.ldiv, 1))
theorem e159_28 : V 159 28 [l0, some (.int x)] st h Q = V 159 29 [l0, some (.int x)] (.int x :: st) h Q := V_nx (by decide +kernel : decode (p_c 159) 28 = .ok (.iload_n 1, 1)) rfl rfl
theorem e159_29 : V 159 29 L (.int x :: st) h Q = V 159 30 L (.long x.toInt64 :: st) h Q := V_nx (by decide +kernel : decode (p_c 159) 29 = .ok (.i2l, 1)) rfl rfl
theorem e159_30 : V 159 30 L (.long w :: .long u :: st) h Q = (¬ w = 0 ∧ V 159 31 L (.long (u - u / w * w) :: st) h Q) := V_lrem (by decide +kernel : decode (p_c 159) 30 = .ok (.lrem, 1))
theorem e159_31 : V 159 31 L (.long u :: st) h Q = V 159 32 L (.int u.toInt32 :: st) h Q := V_nx (by decide +kernel : decode (p_c 159) 31 = .ok (.l2i, 1)) rfl rfl
theorem e159_32 : V 159 32 L [.int x] h Q = Q (some (.int x)) h := V_ri (by decide +kernel : decode (p_c 159) 32 = .ok (.ireturn, 1)) rfl
theorem m159 : Vm 159 [.ref a, .int x1] h Q = V 159 0 [some (.ref a), some (.int x1)] [] h Q := rfl
theorem e160_0 : V 160 0 L st h Q = V 160 1 L (.int 0 :: st) h Q := V_c (by decide +kernel : decode (p_c 160) 0 = .ok (.iconst 0, 1)) (by decide)
theorem e160_1 : V 160 1 [l0, l1, l2, l3, l4, l5, l6] (.int x :: st) h Q = V 160 3 [l0, l1, l2, p_dl l3, some (.int x), l5, l6] st h Q := V_nx (by decide +kernel : decode (p_c 160) 1 = .ok (.istore 4, 2)) rfl rfl
theorem e160_3 : V 160 3 [l0, l1, l2, l3, some (.int x), l5, l6] st h Q = V 160 5 [l0, l1, l2, l3, some (.int x), l5, l6] (.int x :: st) h Q := V_nx (by decide +kernel : decode (p_c 160) 3 = .ok (.iload 4, 2)) rfl rfl
theorem e160_5 : V 160 5 L st h Q = V 160 6 L (.int 4 :: st) h Q := V_c (by decide +kernel : decode (p_c 160) 5 = .ok (.iconst 4, 1)) (by decide)
theorem e160_6 : V 160 6 L (.int z :: .int x :: st) h Q = if x < z then V 160 9 L st h Q else V 160 29 L st h Q := (V_icmp (by decide +kernel : decode (p_c 160) 6 = .ok (.if_icmp .ge 23, 3)) (by decide)).trans i_ge
theorem e160_9 : V 160 9 [some (.ref a), l1, l2, l3, l4, l5, l6] st h Q = V 160 10 [some (.ref a), l1, l2, l3, l4, l5, l6] (.ref a :: st) h Q := V_nx (by decide +kernel : decode (p_c 160) 9 = .ok (.aload_n 0, 1)) rfl rfl
theorem e160_10 : V 160 10 L (.ref a :: st) h Q = (p_ok1 [12] 32 (p_get h a) ∧ V 160 13 L (p_fv 32 (p_get h a) :: st) h Q) := V_gf (t := (3, 1, "WaterShouldersModel")) (by decide +kernel : decode (p_c 160) 10 = .ok (.getfield 67, 3)) (by decide +kernel)
theorem e160_13 : V 160 13 [l0, l1, l2, l3, some (.int x), l5, l6] st h Q = V 160 15 [l0, l1, l2, l3, some (.int x), l5, l6] (.int x :: st) h Q := V_nx (by decide +kernel : decode (p_c 160) 13 = .ok (.iload 4, 2)) rfl rfl
theorem e160_15 : V 160 15 [some (.ref a), l1, l2, l3, l4, l5, l6] st h Q = V 160 16 [some (.ref a), l1, l2, l3, l4, l5, l6] (.ref a :: st) h Q := V_nx (by decide +kernel : decode (p_c 160) 15 = .ok (.aload_n 0, 1)) rfl rfl
theorem e160_16 : V 160 16 L (.ref a :: st) h Q = (p_ok1 [12] 3 (p_get h a) ∧ V 160 19 L (p_fv 3 (p_get h a) :: st) h Q) := V_gf (t := (3, 1, "WaterShouldersModel")) (by decide +kernel : decode (p_c 160) 16 = .ok (.getfield 16, 3)) (by decide +kernel)
theorem e160_19 : V 160 19 [l0, l1, l2, l3, some (.int x), l5, l6] st h Q = V 160 21 [l0, l1, l2, l3, some (.int x), l5, l6] (.int x :: st) h Q := V_nx (by decide +kernel : decode (p_c 160) 19 = .ok (.iload 4, 2)) rfl rfl
theorem e160_21 : V 160 21 L (.int i :: .ref a :: st) h Q = (p_iok i (p_get h a) ∧ V 160 22 L (.int (p_ivl i (p_get h a)) :: st) h Q) := V_ial (by decide +kernel : decode (p_c 160) 21 = .ok (.iaload, 1))
theorem e160_22 : V 160 22 L (.int x :: .int i :: .ref a :: st) h Q = (p_sok i (p_get h a) ∧ V 160 23 L st (p_set h a (p_ist i x (p_get h a))) Q) := V_ias (by decide +kernel : decode (p_c 160) 22 = .ok (.iastore, 1))
theorem e160_23 : V 160 23 [l0, l1, l2, l3, some (.int x), l5, l6] st h Q = V 160 26 [l0, l1, l2, p_dl l3, some (.int (x + 1)), l5, l6] st h Q := V_iinc (x := x) (by decide +kernel : decode (p_c 160) 23 = .ok (.iinc 4 1, 3)) (by decide) rfl (Nat.le_of_ble_eq_true rfl)
theorem e160_26 : V 160 26 L st h Q = V 160 3 L st h Q := V_goto (by decide +kernel : decode (p_c 160) 26 = .ok (.goto (-23), 3)) (by decide)
theorem e160_29 : V 160 29 [some (.ref a), l1, l2, l3, l4, l5, l6] st h Q = V 160 30 [some (.ref a), l1, l2, l3, l4, l5, l6] (.ref a :: st) h Q := V_nx (by decide +kernel : decode (p_c 160) 29 = .ok (.aload_n 0, 1)) rfl rfl
theorem e160_30 : V 160 30 [l0, l1, some (.int x), l3, l4, l5, l6] st h Q = V 160 31 [l0, l1, some (.int x), l3, l4, l5, l6] (.int x :: st) h Q := V_nx (by decide +kernel : decode (p_c 160) 30 = .ok (.iload_n 2, 1)) rfl rfl
theorem e160_31 : V 160 31 L (.int x :: st) h Q = V 160 32 L (.long x.toInt64 :: st) h Q := V_nx (by decide +kernel : decode (p_c 160) 31 = .ok (.i2l, 1)) rfl rfl
theorem e160_32 : V 160 32 L (.long u :: .ref a :: st) h Q = (p_ok1 [12] 31 (p_get h a) ∧ V 160 35 L st (p_set h a (p_fs 31 (.long u) (p_get h a))) Q) := V_pf2 (fin := 0) (ref := "WaterShouldersModel") (by decide +kernel : decode (p_c 160) 32 = .ok (.putfield 238, 3)) (by decide +kernel) (by decide +kernel)
theorem e160_35 : V 160 35 L st h Q = V 160 36 L (.int 0 :: st) h Q := V_c (by decide +kernel : decode (p_c 160) 35 = .ok (.iconst 0, 1)) (by decide)
theorem e160_36 : V 160 36 [l0, l1, l2, l3, l4, l5, l6] (.int x :: st) h Q = V 160 38 [l0, l1, l2, p_dl l3, some (.int x), l5, l6] st h Q := V_nx (by decide +kernel : decode (p_c 160) 36 = .ok (.istore 4, 2)) rfl rfl
theorem e160_38 : V 160 38 [l0, l1, l2, l3, some (.int x), l5, l6] st h Q = V 160 40 [l0, l1, l2, l3, some (.int x), l5, l6] (.int x :: st) h Q := V_nx (by decide +kernel : decode (p_c 160) 38 = .ok (.iload 4, 2)) rfl rfl
theorem e160_40 : V 160 40 [l0, some (.int x), l2, l3, l4, l5, l6] st h Q = V 160 41 [l0, some (.int x), l2, l3, l4, l5, l6] (.int x :: st) h Q := V_nx (by decide +kernel : decode (p_c 160) 40 = .ok (.iload_n 1, 1)) rfl rfl
theorem e160_41 : V 160 41 L (.int z :: .int x :: st) h Q = if x < z then V 160 44 L st h Q else V 160 59 L st h Q := (V_icmp (by decide +kernel : decode (p_c 160) 41 = .ok (.if_icmp .ge 18, 3)) (by decide)).trans i_ge
theorem e160_44 : V 160 44 [some (.ref a), l1, l2, l3, l4, l5, l6] st h Q = V 160 45 [some (.ref a), l1, l2, l3, l4, l5, l6] (.ref a :: st) h Q := V_nx (by decide +kernel : decode (p_c 160) 44 = .ok (.aload_n 0, 1)) rfl rfl
theorem e160_45 : V 160 45 [some (.ref a), l1, l2, l3, l4, l5, l6] st h Q = V 160 46 [some (.ref a), l1, l2, l3, l4, l5, l6] (.ref a :: st) h Q := V_nx (by decide +kernel : decode (p_c 160) 45 = .ok (.aload_n 0, 1)) rfl rfl
theorem e160_46 : V 160 46 L st h Q = V 160 47 L (.int 4 :: st) h Q := V_c (by decide +kernel : decode (p_c 160) 46 = .ok (.iconst 4, 1)) (by decide)
theorem e160_47 : V 160 47 L (.int x1 :: .ref a :: st) h Q = ((p_cn1 (p_get h a) = 12 ∧ p_sm st) ∧ Vm 159 [.ref a, .int x1] h (Kt 160 50 L st Q)) := V_iv (n := 1) (as := [.int x1]) (ci := 12) (z := 159) (by decide +kernel : decode (p_c 160) 47 = .ok (.invokevirtual 248, 3)) (by decide +kernel) rfl rfl (by decide +kernel) rfl
theorem e160_50 : V 160 50 L (.int x1 :: .ref a :: st) h Q = ((p_cn1 (p_get h a) = 12 ∧ p_sm st) ∧ Vm 136 [.ref a, .int x1] h (Kt 160 53 L st Q)) := V_iv (n := 1) (as := [.int x1]) (ci := 12) (z := 136) (by decide +kernel : decode (p_c 160) 50 = .ok (.invokevirtual 169, 3)) (by decide +kernel) rfl rfl (by decide +kernel) rfl
theorem e160_53 : V 160 53 [l0, l1, l2, l3, some (.int x), l5, l6] st h Q = V 160 56 [l0, l1, l2, p_dl l3, some (.int (x + 1)), l5, l6] st h Q := V_iinc (x := x) (by decide +kernel : decode (p_c 160) 53 = .ok (.iinc 4 1, 3)) (by decide) rfl (Nat.le_of_ble_eq_true rfl)
theorem e160_56 : V 160 56 L st h Q = V 160 38 L st h Q := V_goto (by decide +kernel : decode (p_c 160) 56 = .ok (.goto (-18), 3)) (by decide)
theorem e160_59 : V 160 59 L st h Q = V 160 60 L (.int 0 :: st) h Q := V_c (by decide +kernel : decode (p_c 160) 59 = .ok (.iconst 0, 1)) (by decide)
theorem e160_60 : V 160 60 [l0, l1, l2, l3, l4, l5, l6] (.int x :: st) h Q = V 160 62 [l0, l1, l2, p_dl l3, some (.int x), l5, l6] st h Q := V_nx (by decide +kernel : decode (p_c 160) 60 = .ok (.istore 4, 2)) rfl rfl
theorem e160_62 : V 160 62 L st h Q = V 160 63 L (.int 0 :: st) h Q := V_c (by decide +kernel : decode (p_c 160) 62 = .ok (.iconst 0, 1)) (by decide)
theorem e160_63 : V 160 63 [l0, l1, l2, l3, l4, l5, l6] (.int x :: st) h Q = V 160 65 [l0, l1, l2, l3, p_dl l4, some (.int x), l6] st h Q := V_nx (by decide +kernel : decode (p_c 160) 63 = .ok (.istore 5, 2)) rfl rfl
theorem e160_65 : V 160 65 [l0, l1, l2, l3, l4, some (.int x), l6] st h Q = V 160 67 [l0, l1, l2, l3, l4, some (.int x), l6] (.int x :: st) h Q := V_nx (by decide +kernel : decode (p_c 160) 65 = .ok (.iload 5, 2)) rfl rfl
theorem e160_67 : V 160 67 [some (.ref a), l1, l2, l3, l4, l5, l6] st h Q = V 160 68 [some (.ref a), l1, l2, l3, l4, l5, l6] (.ref a :: st) h Q := V_nx (by decide +kernel : decode (p_c 160) 67 = .ok (.aload_n 0, 1)) rfl rfl
theorem e160_68 : V 160 68 L (.ref a :: st) h Q = (p_ok1 [12] 6 (p_get h a) ∧ V 160 71 L (p_fv 6 (p_get h a) :: st) h Q) := V_gf (t := (0, 0, "WaterShouldersModel")) (by decide +kernel : decode (p_c 160) 68 = .ok (.getfield 113, 3)) (by decide +kernel)
theorem e160_71 : V 160 71 L (.int z :: .int x :: st) h Q = if x < z then V 160 74 L st h Q else V 160 99 L st h Q := (V_icmp (by decide +kernel : decode (p_c 160) 71 = .ok (.if_icmp .ge 28, 3)) (by decide)).trans i_ge
theorem e160_74 : V 160 74 [l0, l1, l2, l3, some (.int x), l5, l6] st h Q = V 160 76 [l0, l1, l2, l3, some (.int x), l5, l6] (.int x :: st) h Q := V_nx (by decide +kernel : decode (p_c 160) 74 = .ok (.iload 4, 2)) rfl rfl
theorem e160_76 : V 160 76 [some (.ref a), l1, l2, l3, l4, l5, l6] st h Q = V 160 77 [some (.ref a), l1, l2, l3, l4, l5, l6] (.ref a :: st) h Q := V_nx (by decide +kernel : decode (p_c 160) 76 = .ok (.aload_n 0, 1)) rfl rfl
theorem e160_77 : V 160 77 [l0, l1, l2, l3, l4, some (.int x), l6] st h Q = V 160 79 [l0, l1, l2, l3, l4, some (.int x), l6] (.int x :: st) h Q := V_nx (by decide +kernel : decode (p_c 160) 77 = .ok (.iload 5, 2)) rfl rfl
theorem e160_79 : V 160 79 L (.int x1 :: .ref a :: st) h Q = ((p_cn1 (p_get h a) = 12 ∧ p_sm st) ∧ Vm 120 [.ref a, .int x1] h (Kt 160 82 L st Q)) := V_iv (n := 1) (as := [.int x1]) (ci := 12) (z := 120) (by decide +kernel : decode (p_c 160) 79 = .ok (.invokevirtual 137, 3)) (by decide +kernel) rfl rfl (by decide +kernel) rfl
theorem e160_82 : V 160 82 L (.int x :: st) h Q = if x = 0 then V 160 89 L st h Q else V 160 85 L st h Q := (V_ifc (by decide +kernel : decode (p_c 160) 82 = .ok (.ifCond .eq 7, 3)) (by decide)).trans i_eq
theorem e160_85 : V 160 85 L st h Q = V 160 86 L (.int 1 :: st) h Q := V_c (by decide +kernel : decode (p_c 160) 85 = .ok (.iconst 1, 1)) (by decide)
theorem e160_86 : V 160 86 L st h Q = V 160 90 L st h Q := V_goto (by decide +kernel : decode (p_c 160) 86 = .ok (.goto 4, 3)) (by decide)
theorem e160_89 : V 160 89 L st h Q = V 160 90 L (.int 0 :: st) h Q := V_c (by decide +kernel : decode (p_c 160) 89 = .ok (.iconst 0, 1)) (by decide)
theorem e160_90 : V 160 90 L (.int z :: .int x :: st) h Q = V 160 91 L (.int (x + z) :: st) h Q := V_nx (by decide +kernel : decode (p_c 160) 90 = .ok (.iadd, 1)) rfl rfl
theorem e160_91 : V 160 91 [l0, l1, l2, l3, l4, l5, l6] (.int x :: st) h Q = V 160 93 [l0, l1, l2, p_dl l3, some (.int x), l5, l6] st h Q := V_nx (by decide +kernel : decode (p_c 160) 91 = .ok (.istore 4, 2)) rfl rfl
theorem e160_93 : V 160 93 [l0, l1, l2, l3, l4, some (.int x), l6] st h Q = V 160 96 [l0, l1, l2, l3, p_dl l4, some (.int (x + 1)), l6] st h Q := V_iinc (x := x) (by decide +kernel : decode (p_c 160) 93 = .ok (.iinc 5 1, 3)) (by decide) rfl (Nat.le_of_ble_eq_true rfl)
theorem e160_96 : V 160 96 L st h Q = V 160 65 L st h Q := V_goto (by decide +kernel : decode (p_c 160) 96 = .ok (.goto (-31), 3)) (by decide)
theorem e160_99 : V 160 99 [l0, l1, l2, some (.int x), l4, l5, l6] st h Q = V 160 100 [l0, l1, l2, some (.int x), l4, l5, l6] (.int x :: st) h Q := V_nx (by decide +kernel : decode (p_c 160) 99 = .ok (.iload_n 3, 1)) rfl rfl
theorem e160_100 : V 160 100 L (.int x :: st) h Q = if x = 0 then V 160 103 L st h Q else V 160 110 L st h Q := (V_ifc (by decide +kernel : decode (p_c 160) 100 = .ok (.ifCond .ne 10, 3)) (by decide)).trans i_ne
theorem e160_103 : V 160 103 [some (.ref a), l1, l2, l3, l4, l5, l6] st h Q = V 160 104 [some (.ref a), l1, l2, l3, l4, l5, l6] (.ref a :: st) h Q := V_nx (by decide +kernel : decode (p_c 160) 103 = .ok (.aload_n 0, 1)) rfl rfl
theorem e160_104 : V 160 104 L (.ref a :: st) h Q = ((p_cn1 (p_get h a) = 12 ∧ p_sm st) ∧ Vm 135 [.ref a] h (Kt 160 107 L st Q)) := V_iv (n := 0) (as := []) (ci := 12) (z := 135) (by decide +kernel : decode (p_c 160) 104 = .ok (.invokevirtual 173, 3)) (by decide +kernel) rfl rfl (by decide +kernel) rfl
theorem e160_107 : V 160 107 L st h Q = V 160 125 L st h Q := V_goto (by decide +kernel : decode (p_c 160) 107 = .ok (.goto 18, 3)) (by decide)
theorem e160_110 : V 160 110 [l0, l1, l2, some (.int x), l4, l5, l6] st h Q = V 160 111 [l0, l1, l2, some (.int x), l4, l5, l6] (.int x :: st) h Q := V_nx (by decide +kernel : decode (p_c 160) 110 = .ok (.iload_n 3, 1)) rfl rfl
theorem e160_111 : V 160 111 L st h Q = V 160 112 L (.int 1 :: st) h Q := V_c (by decide +kernel : decode (p_c 160) 111 = .ok (.iconst 1, 1)) (by decide)
theorem e160_112 : V 160 112 L (.int z :: .int x :: st) h Q = if x = z then V 160 115 L st h Q else V 160 120 L st h Q := (V_icmp (by decide +kernel : decode (p_c 160) 112 = .ok (.if_icmp .ne 8, 3)) (by decide)).trans i_ne
theorem e160_115 : V 160 115 [l0, l1, l2, l3, some (.int x), l5, l6] st h Q = V 160 117 [l0, l1, l2, l3, some (.int x), l5, l6] (.int x :: st) h Q := V_nx (by decide +kernel : decode (p_c 160) 115 = .ok (.iload 4, 2)) rfl rfl
theorem e160_117 : V 160 117 L st h Q = V 160 125 L st h Q := V_goto (by decide +kernel : decode (p_c 160) 117 = .ok (.goto 8, 3)) (by decide)
theorem e160_120 : V 160 120 [some (.ref a), l1, l2, l3, l4, l5, l6] st h Q = V 160 121 [some (.ref a), l1, l2, l3, l4, l5, l6] (.ref a :: st) h Q := V_nx (by decide +kernel : decode (p_c 160) 120 = .ok (.aload_n 0, 1)) rfl rfl
theorem e160_121 : V 160 121 L (.ref a :: st) h Q = (p_ok1 [12] 31 (p_get h a) ∧ V 160 124 L (p_fv 31 (p_get h a) :: st) h Q) := V_gf (t := (2, 0, "WaterShouldersModel")) (by decide +kernel : decode (p_c 160) 121 = .ok (.getfield 238, 3)) (by decide +kernel)
theorem e160_124 : V 160 124 L (.long u :: st) h Q = V 160 125 L (.int u.toInt32 :: st) h Q := V_nx (by decide +kernel : decode (p_c 160) 124 = .ok (.l2i, 1)) rfl rfl
theorem e160_125 : V 160 125 [l0, l1, l2, l3, l4, l5, l6] (.int x :: st) h Q = V 160 127 [l0, l1, l2, l3, p_dl l4, some (.int x), l6] st h Q := V_nx (by decide +kernel : decode (p_c 160) 125 = .ok (.istore 5, 2)) rfl rfl
theorem e160_127 : V 160 127 L st h Q = V 160 128 L (.int 0 :: st) h Q := V_c (by decide +kernel : decode (p_c 160) 127 = .ok (.iconst 0, 1)) (by decide)
theorem e160_128 : V 160 128 [l0, l1, l2, l3, l4, l5, l6] (.int x :: st) h Q = V 160 130 [l0, l1, l2, l3, l4, p_dl l5, some (.int x)] st h Q := V_nx (by decide +kernel : decode (p_c 160) 128 = .ok (.istore 6, 2)) rfl rfl
theorem e160_130 : V 160 130 [l0, l1, l2, l3, l4, l5, some (.int x)] st h Q = V 160 132 [l0, l1, l2, l3, l4, l5, some (.int x)] (.int x :: st) h Q := V_nx (by decide +kernel : decode (p_c 160) 130 = .ok (.iload 6, 2)) rfl rfl
theorem e160_132 : V 160 132 L st h Q = V 160 133 L (.int 4 :: st) h Q := V_c (by decide +kernel : decode (p_c 160) 132 = .ok (.iconst 4, 1)) (by decide)
theorem e160_133 : V 160 133 L (.int z :: .int x :: st) h Q = if x < z then V 160 136 L st h Q else V 160 156 L st h Q := (V_icmp (by decide +kernel : decode (p_c 160) 133 = .ok (.if_icmp .ge 23, 3)) (by decide)).trans i_ge
theorem e160_136 : V 160 136 [some (.ref a), l1, l2, l3, l4, l5, l6] st h Q = V 160 137 [some (.ref a), l1, l2, l3, l4, l5, l6] (.ref a :: st) h Q := V_nx (by decide +kernel : decode (p_c 160) 136 = .ok (.aload_n 0, 1)) rfl rfl
theorem e160_137 : V 160 137 L (.ref a :: st) h Q = (p_ok1 [12] 3 (p_get h a) ∧ V 160 140 L (p_fv 3 (p_get h a) :: st) h Q) := V_gf (t := (3, 1, "WaterShouldersModel")) (by decide +kernel : decode (p_c 160) 137 = .ok (.getfield 16, 3)) (by decide +kernel)
theorem e160_140 : V 160 140 [l0, l1, l2, l3, l4, l5, some (.int x)] st h Q = V 160 142 [l0, l1, l2, l3, l4, l5, some (.int x)] (.int x :: st) h Q := V_nx (by decide +kernel : decode (p_c 160) 140 = .ok (.iload 6, 2)) rfl rfl
theorem e160_142 : V 160 142 [some (.ref a), l1, l2, l3, l4, l5, l6] st h Q = V 160 143 [some (.ref a), l1, l2, l3, l4, l5, l6] (.ref a :: st) h Q := V_nx (by decide +kernel : decode (p_c 160) 142 = .ok (.aload_n 0, 1)) rfl rfl
theorem e160_143 : V 160 143 L (.ref a :: st) h Q = (p_ok1 [12] 32 (p_get h a) ∧ V 160 146 L (p_fv 32 (p_get h a) :: st) h Q) := V_gf (t := (3, 1, "WaterShouldersModel")) (by decide +kernel : decode (p_c 160) 143 = .ok (.getfield 67, 3)) (by decide +kernel)
theorem e160_146 : V 160 146 [l0, l1, l2, l3, l4, l5, some (.int x)] st h Q = V 160 148 [l0, l1, l2, l3, l4, l5, some (.int x)] (.int x :: st) h Q := V_nx (by decide +kernel : decode (p_c 160) 146 = .ok (.iload 6, 2)) rfl rfl
theorem e160_148 : V 160 148 L (.int i :: .ref a :: st) h Q = (p_iok i (p_get h a) ∧ V 160 149 L (.int (p_ivl i (p_get h a)) :: st) h Q) := V_ial (by decide +kernel : decode (p_c 160) 148 = .ok (.iaload, 1))
theorem e160_149 : V 160 149 L (.int x :: .int i :: .ref a :: st) h Q = (p_sok i (p_get h a) ∧ V 160 150 L st (p_set h a (p_ist i x (p_get h a))) Q) := V_ias (by decide +kernel : decode (p_c 160) 149 = .ok (.iastore, 1))
theorem e160_150 : V 160 150 [l0, l1, l2, l3, l4, l5, some (.int x)] st h Q = V 160 153 [l0, l1, l2, l3, l4, p_dl l5, some (.int (x + 1))] st h Q := V_iinc (x := x) (by decide +kernel : decode (p_c 160) 150 = .ok (.iinc 6 1, 3)) (by decide) rfl (Nat.le_of_ble_eq_true rfl)
theorem e160_153 : V 160 153 L st h Q = V 160 130 L st h Q := V_goto (by decide +kernel : decode (p_c 160) 153 = .ok (.goto (-23), 3)) (by decide)
theorem e160_156 : V 160 156 [l0, l1, l2, l3, l4, some (.int x), l6] st h Q = V 160 158 [l0, l1, l2, l3, l4, some (.int x), l6] (.int x :: st) h Q := V_nx (by decide +kernel : decode (p_c 160) 156 = .ok (.iload 5, 2)) rfl rfl
theorem e160_158 : V 160 158 L [.int x] h Q = Q (some (.int x)) h := V_ri (by decide +kernel : decode (p_c 160) 158 = .ok (.ireturn, 1)) rfl
theorem m160 : Vm 160 [.ref a, .int x1, .int x2, .int x3] h Q = V 160 0 [some (.ref a), some (.int x1), some (.int x2), some (.int x3), none, none, none] [] h Q := rfl
theorem e161_0 : V 161 0 [l0, some (.int x), l2, l3] st h Q = V 161 1 [l0, some (.int x), l2, l3] (.int x :: st) h Q := V_nx (by decide +kernel : decode (p_c 161) 0 = .ok (.iload_n 1, 1)) rfl rfl
theorem e161_1 : V 161 1 L st h Q = V 161 2 L (.int 1 :: st) h Q := V_c (by decide +kernel : decode (p_c 161) 1 = .ok (.iconst 1, 1)) (by decide)
theorem e161_2 : V 161 2 L st h Q = V 161 4 L (.int 60 :: st) h Q := V_b (by decide +kernel : decode (p_c 161) 2 = .ok (.bipush 60, 2)) (by decide)
theorem e161_4 : V 161 4 L (.int x3 :: .int x2 :: .int x1 :: st) h Q = (p_sm st ∧ Vm 106 [.int x1, .int x2, .int x3] h (Kt 161 7 L st Q)) := V_st (n := 3) (as := [.int x3, .int x2, .int x1]) (z := 106) (by decide +kernel : decode (p_c 161) 4 = .ok (.invokestatic 90, 3)) (by decide +kernel) rfl (by decide +kernel) rfl
theorem e161_7 : V 161 7 L (.int x :: st) h Q = if x = 0 then V 161 23 L st h Q else V 161 10 L st h Q := (V_ifc (by decide +kernel : decode (p_c 161) 7 = .ok (.ifCond .eq 16, 3)) (by decide)).trans i_eq
theorem e161_10 : V 161 10 [l0, l1, some (.int x), l3] st h Q = V 161 11 [l0, l1, some (.int x), l3] (.int x :: st) h Q := V_nx (by decide +kernel : decode (p_c 161) 10 = .ok (.iload_n 2, 1)) rfl rfl
theorem e161_11 : V 161 11 L (.int x :: st) h Q = if x < 0 then V 161 23 L st h Q else V 161 14 L st h Q := (V_ifc (by decide +kernel : decode (p_c 161) 11 = .ok (.ifCond .lt 12, 3)) (by decide)).trans i_lt
theorem e161_14 : V 161 14 [l0, l1, l2, some (.int x)] st h Q = V 161 15 [l0, l1, l2, some (.int x)] (.int x :: st) h Q := V_nx (by decide +kernel : decode (p_c 161) 14 = .ok (.iload_n 3, 1)) rfl rfl
theorem e161_15 : V 161 15 L st h Q = V 161 16 L (.int 0 :: st) h Q := V_c (by decide +kernel : decode (p_c 161) 15 = .ok (.iconst 0, 1)) (by decide)
theorem e161_16 : V 161 16 L st h Q = V 161 17 L (.int 2 :: st) h Q := V_c (by decide +kernel : decode (p_c 161) 16 = .ok (.iconst 2, 1)) (by decide)
theorem e161_17 : V 161 17 L (.int x3 :: .int x2 :: .int x1 :: st) h Q = (p_sm st ∧ Vm 106 [.int x1, .int x2, .int x3] h (Kt 161 20 L st Q)) := V_st (n := 3) (as := [.int x3, .int x2, .int x1]) (z := 106) (by decide +kernel : decode (p_c 161) 17 = .ok (.invokestatic 90, 3)) (by decide +kernel) rfl (by decide +kernel) rfl
theorem e161_20 : V 161 20 L (.int x :: st) h Q = if x = 0 then V 161 23 L st h Q else V 161 26 L st h Q := (V_ifc (by decide +kernel : decode (p_c 161) 20 = .ok (.ifCond .ne 6, 3)) (by decide)).trans i_ne
theorem e161_23 : V 161 23 L st h Q = V 161 25 L (.int (-102) :: st) h Q := V_b (by decide +kernel : decode (p_c 161) 23 = .ok (.bipush (-102), 2)) (by decide)
theorem e161_25 : V 161 25 L [.int x] h Q = Q (some (.int x)) h := V_ri (by decide +kernel : decode (p_c 161) 25 = .ok (.ireturn, 1)) rfl
theorem e161_26 : V 161 26 [some (.ref a), l1, l2, l3] st h Q = V 161 27 [some (.ref a), l1, l2, l3] (.ref a :: st) h Q := V_nx (by decide +kernel : decode (p_c 161) 26 = .ok (.aload_n 0, 1)) rfl rfl
theorem e161_27 : V 161 27 L (.ref a :: st) h Q = (p_ok1 [12] 0 (p_get h a) ∧ V 161 30 L (p_fv 0 (p_get h a) :: st) h Q) := V_gf (t := (0, 0, "WaterShouldersModel")) (by decide +kernel : decode (p_c 161) 27 = .ok (.getfield 104, 3)) (by decide +kernel)
theorem e161_30 : V 161 30 L (.int x :: st) h Q = if x = 0 then V 161 33 L st h Q else V 161 38 L st h Q := (V_ifc (by decide +kernel : decode (p_c 161) 30 = .ok (.ifCond .ne 8, 3)) (by decide)).trans i_ne
theorem e161_33 : V 161 33 L st h Q = V 161 35 L (.int (-103) :: st) h Q := V_b (by decide +kernel : decode (p_c 161) 33 = .ok (.bipush (-103), 2)) (by decide)
theorem e161_35 : V 161 35 L st h Q = V 161 45 L st h Q := V_goto (by decide +kernel : decode (p_c 161) 35 = .ok (.goto 10, 3)) (by decide)
theorem e161_38 : V 161 38 [some (.ref a), l1, l2, l3] st h Q = V 161 39 [some (.ref a), l1, l2, l3] (.ref a :: st) h Q := V_nx (by decide +kernel : decode (p_c 161) 38 = .ok (.aload_n 0, 1)) rfl rfl
theorem e161_39 : V 161 39 [l0, some (.int x), l2, l3] st h Q = V 161 40 [l0, some (.int x), l2, l3] (.int x :: st) h Q := V_nx (by decide +kernel : decode (p_c 161) 39 = .ok (.iload_n 1, 1)) rfl rfl
theorem e161_40 : V 161 40 [l0, l1, some (.int x), l3] st h Q = V 161 41 [l0, l1, some (.int x), l3] (.int x :: st) h Q := V_nx (by decide +kernel : decode (p_c 161) 40 = .ok (.iload_n 2, 1)) rfl rfl
theorem e161_41 : V 161 41 [l0, l1, l2, some (.int x)] st h Q = V 161 42 [l0, l1, l2, some (.int x)] (.int x :: st) h Q := V_nx (by decide +kernel : decode (p_c 161) 41 = .ok (.iload_n 3, 1)) rfl rfl
theorem e161_42 : V 161 42 L (.int x3 :: .int x2 :: .int x1 :: .ref a :: st) h Q = ((p_cn1 (p_get h a) = 12 ∧ p_sm st) ∧ Vm 160 [.ref a, .int x1, .int x2, .int x3] h (Kt 161 45 L st Q)) := V_iv (n := 3) (as := [.int x3, .int x2, .int x1]) (ci := 12) (z := 160) (by decide +kernel : decode (p_c 161) 42 = .ok (.invokevirtual 251, 3)) (by decide +kernel) rfl rfl (by decide +kernel) rfl
theorem e161_45 : V 161 45 L [.int x] h Q = Q (some (.int x)) h := V_ri (by decide +kernel : decode (p_c 161) 45 = .ok (.ireturn, 1)) rfl
theorem m161 : Vm 161 [.ref a, .int x1, .int x2, .int x3] h Q = V 161 0 [some (.ref a), some (.int x1), some (.int x2), some (.int x3)] [] h Q := rfl
theorem e162_0 : V 162 0 [some (.ref a), l1] st h Q = V 162 1 [some (.ref a), l1] (.ref a :: st) h Q := V_nx (by decide +kernel : decode (p_c 162) 0 = .ok (.aload_n 0, 1)) rfl rfl
theorem e162_1 : V 162 1 L (.ref a :: st) h Q = (p_ok1 [12] 0 (p_get h a) ∧ V 162 4 L (p_fv 0 (p_get h a) :: st) h Q) := V_gf (t := (0, 0, "WaterShouldersModel")) (by decide +kernel : decode (p_c 162) 1 = .ok (.getfield 104, 3)) (by decide +kernel)
theorem e162_4 : V 162 4 L (.int x :: st) h Q = if x = 0 then V 162 7 L st h Q else V 162 10 L st h Q := (V_ifc (by decide +kernel : decode (p_c 162) 4 = .ok (.ifCond .ne 6, 3)) (by decide)).trans i_ne
theorem e162_7 : V 162 7 L st h Q = V 162 9 L (.int (-103) :: st) h Q := V_b (by decide +kernel : decode (p_c 162) 7 = .ok (.bipush (-103), 2)) (by decide)
theorem e162_9 : V 162 9 L [.int x] h Q = Q (some (.int x)) h := V_ri (by decide +kernel : decode (p_c 162) 9 = .ok (.ireturn, 1)) rfl
theorem e162_10 : V 162 10 [some (.ref a), l1] st h Q = V 162 11 [some (.ref a), l1] (.ref a :: st) h Q := V_nx (by decide +kernel : decode (p_c 162) 10 = .ok (.aload_n 0, 1)) rfl rfl
theorem e162_11 : V 162 11 L st h Q = V 162 12 L (.int 1 :: st) h Q := V_c (by decide +kernel : decode (p_c 162) 11 = .ok (.iconst 1, 1)) (by decide)
theorem e162_12 : V 162 12 L (.int x :: .ref a :: st) h Q = ((x = 0 ∨ x = 1) ∧ p_ok1 [12] 33 (p_get h a) ∧ V 162 15 L st (p_set h a (p_fs 33 (.int x) (p_get h a))) Q) := V_pf1 (fin := 0) (ref := "WaterShouldersModel") (by decide +kernel : decode (p_c 162) 12 = .ok (.putfield 254, 3)) (by decide +kernel) (by decide +kernel)
theorem e162_15 : V 162 15 [some (.ref a), l1] st h Q = V 162 16 [some (.ref a), l1] (.ref a :: st) h Q := V_nx (by decide +kernel : decode (p_c 162) 15 = .ok (.aload_n 0, 1)) rfl rfl
theorem e162_16 : V 162 16 [some (.ref a), l1] st h Q = V 162 17 [some (.ref a), l1] (.ref a :: st) h Q := V_nx (by decide +kernel : decode (p_c 162) 16 = .ok (.aload_n 0, 1)) rfl rfl
theorem e162_17 : V 162 17 L (.ref a :: st) h Q = (p_ok1 [12] 4 (p_get h a) ∧ V 162 20 L (p_fv 4 (p_get h a) :: st) h Q) := V_gf (t := (0, 0, "WaterShouldersModel")) (by decide +kernel : decode (p_c 162) 17 = .ok (.getfield 107, 3)) (by decide +kernel)
theorem e162_20 : V 162 20 L (.int x :: .ref a :: st) h Q = (p_ok1 [12] 34 (p_get h a) ∧ V 162 23 L st (p_set h a (p_fs 34 (.int x) (p_get h a))) Q) := V_pf0 (fin := 0) (ref := "WaterShouldersModel") (by decide +kernel : decode (p_c 162) 20 = .ok (.putfield 257, 3)) (by decide +kernel) (by decide +kernel)
theorem e162_23 : V 162 23 [some (.ref a), l1] st h Q = V 162 24 [some (.ref a), l1] (.ref a :: st) h Q := V_nx (by decide +kernel : decode (p_c 162) 23 = .ok (.aload_n 0, 1)) rfl rfl
theorem e162_24 : V 162 24 [some (.ref a), l1] st h Q = V 162 25 [some (.ref a), l1] (.ref a :: st) h Q := V_nx (by decide +kernel : decode (p_c 162) 24 = .ok (.aload_n 0, 1)) rfl rfl
theorem e162_25 : V 162 25 L (.ref a :: st) h Q = (p_ok1 [12] 6 (p_get h a) ∧ V 162 28 L (p_fv 6 (p_get h a) :: st) h Q) := V_gf (t := (0, 0, "WaterShouldersModel")) (by decide +kernel : decode (p_c 162) 25 = .ok (.getfield 113, 3)) (by decide +kernel)
theorem e162_28 : V 162 28 L (.int x :: .ref a :: st) h Q = (p_ok1 [12] 35 (p_get h a) ∧ V 162 31 L st (p_set h a (p_fs 35 (.int x) (p_get h a))) Q) := V_pf0 (fin := 0) (ref := "WaterShouldersModel") (by decide +kernel : decode (p_c 162) 28 = .ok (.putfield 260, 3)) (by decide +kernel) (by decide +kernel)
theorem e162_31 : V 162 31 [some (.ref a), l1] st h Q = V 162 32 [some (.ref a), l1] (.ref a :: st) h Q := V_nx (by decide +kernel : decode (p_c 162) 31 = .ok (.aload_n 0, 1)) rfl rfl
theorem e162_32 : V 162 32 [some (.ref a), l1] st h Q = V 162 33 [some (.ref a), l1] (.ref a :: st) h Q := V_nx (by decide +kernel : decode (p_c 162) 32 = .ok (.aload_n 0, 1)) rfl rfl
theorem e162_33 : V 162 33 L (.ref a :: st) h Q = (p_ok1 [12] 5 (p_get h a) ∧ V 162 36 L (p_fv 5 (p_get h a) :: st) h Q) := V_gf (t := (0, 0, "WaterShouldersModel")) (by decide +kernel : decode (p_c 162) 33 = .ok (.getfield 110, 3)) (by decide +kernel)
theorem e162_36 : V 162 36 L (.int x :: .ref a :: st) h Q = (p_ok1 [12] 36 (p_get h a) ∧ V 162 39 L st (p_set h a (p_fs 36 (.int x) (p_get h a))) Q) := V_pf0 (fin := 0) (ref := "WaterShouldersModel") (by decide +kernel : decode (p_c 162) 36 = .ok (.putfield 263, 3)) (by decide +kernel) (by decide +kernel)
theorem e162_39 : V 162 39 [some (.ref a), l1] st h Q = V 162 40 [some (.ref a), l1] (.ref a :: st) h Q := V_nx (by decide +kernel : decode (p_c 162) 39 = .ok (.aload_n 0, 1)) rfl rfl
theorem e162_40 : V 162 40 [some (.ref a), l1] st h Q = V 162 41 [some (.ref a), l1] (.ref a :: st) h Q := V_nx (by decide +kernel : decode (p_c 162) 40 = .ok (.aload_n 0, 1)) rfl rfl
theorem e162_41 : V 162 41 L (.ref a :: st) h Q = (p_ok1 [12] 13 (p_get h a) ∧ V 162 44 L (p_fv 13 (p_get h a) :: st) h Q) := V_gf (t := (0, 0, "WaterShouldersModel")) (by decide +kernel : decode (p_c 162) 41 = .ok (.getfield 34, 3)) (by decide +kernel)
theorem e162_44 : V 162 44 L (.int x :: .ref a :: st) h Q = (p_ok1 [12] 37 (p_get h a) ∧ V 162 47 L st (p_set h a (p_fs 37 (.int x) (p_get h a))) Q) := V_pf0 (fin := 0) (ref := "WaterShouldersModel") (by decide +kernel : decode (p_c 162) 44 = .ok (.putfield 266, 3)) (by decide +kernel) (by decide +kernel)
theorem e162_47 : V 162 47 [some (.ref a), l1] st h Q = V 162 48 [some (.ref a), l1] (.ref a :: st) h Q := V_nx (by decide +kernel : decode (p_c 162) 47 = .ok (.aload_n 0, 1)) rfl rfl
theorem e162_48 : V 162 48 [some (.ref a), l1] st h Q = V 162 49 [some (.ref a), l1] (.ref a :: st) h Q := V_nx (by decide +kernel : decode (p_c 162) 48 = .ok (.aload_n 0, 1)) rfl rfl
theorem e162_49 : V 162 49 L (.ref a :: st) h Q = (p_ok1 [12] 14 (p_get h a) ∧ V 162 52 L (p_fv 14 (p_get h a) :: st) h Q) := V_gf (t := (0, 0, "WaterShouldersModel")) (by decide +kernel : decode (p_c 162) 49 = .ok (.getfield 223, 3)) (by decide +kernel)
theorem e162_52 : V 162 52 L (.int x :: .ref a :: st) h Q = (p_ok1 [12] 38 (p_get h a) ∧ V 162 55 L st (p_set h a (p_fs 38 (.int x) (p_get h a))) Q) := V_pf0 (fin := 0) (ref := "WaterShouldersModel") (by decide +kernel : decode (p_c 162) 52 = .ok (.putfield 269, 3)) (by decide +kernel) (by decide +kernel)
theorem e162_55 : V 162 55 [some (.ref a), l1] st h Q = V 162 56 [some (.ref a), l1] (.ref a :: st) h Q := V_nx (by decide +kernel : decode (p_c 162) 55 = .ok (.aload_n 0, 1)) rfl rfl
theorem e162_56 : V 162 56 [some (.ref a), l1] st h Q = V 162 57 [some (.ref a), l1] (.ref a :: st) h Q := V_nx (by decide +kernel : decode (p_c 162) 56 = .ok (.aload_n 0, 1)) rfl rfl
theorem e162_57 : V 162 57 L (.ref a :: st) h Q = (p_ok1 [12] 15 (p_get h a) ∧ V 162 60 L (p_fv 15 (p_get h a) :: st) h Q) := V_gf (t := (0, 0, "WaterShouldersModel")) (by decide +kernel : decode (p_c 162) 57 = .ok (.getfield 116, 3)) (by decide +kernel)
theorem e162_60 : V 162 60 L (.int x :: .ref a :: st) h Q = (p_ok1 [12] 39 (p_get h a) ∧ V 162 63 L st (p_set h a (p_fs 39 (.int x) (p_get h a))) Q) := V_pf0 (fin := 0) (ref := "WaterShouldersModel") (by decide +kernel : decode (p_c 162) 60 = .ok (.putfield 272, 3)) (by decide +kernel) (by decide +kernel)
theorem e162_63 : V 162 63 L st h Q = V 162 64 L (.int 0 :: st) h Q := V_c (by decide +kernel : decode (p_c 162) 63 = .ok (.iconst 0, 1)) (by decide)
theorem e162_64 : V 162 64 [l0, l1] (.int x :: st) h Q = V 162 65 [p_dl l0, some (.int x)] st h Q := V_nx (by decide +kernel : decode (p_c 162) 64 = .ok (.istore_n 1, 1)) rfl rfl
theorem e162_65 : V 162 65 [l0, some (.int x)] st h Q = V 162 66 [l0, some (.int x)] (.int x :: st) h Q := V_nx (by decide +kernel : decode (p_c 162) 65 = .ok (.iload_n 1, 1)) rfl rfl
theorem e162_66 : V 162 66 L st h Q = V 162 67 L (.int 4 :: st) h Q := V_c (by decide +kernel : decode (p_c 162) 66 = .ok (.iconst 4, 1)) (by decide)
theorem e162_67 : V 162 67 L (.int z :: .int x :: st) h Q = if x < z then V 162 70 L st h Q else V 162 88 L st h Q := (V_icmp (by decide +kernel : decode (p_c 162) 67 = .ok (.if_icmp .ge 21, 3)) (by decide)).trans i_ge
theorem e162_70 : V 162 70 [some (.ref a), l1] st h Q = V 162 71 [some (.ref a), l1] (.ref a :: st) h Q := V_nx (by decide +kernel : decode (p_c 162) 70 = .ok (.aload_n 0, 1)) rfl rfl
theorem e162_71 : V 162 71 L (.ref a :: st) h Q = (p_ok1 [12] 40 (p_get h a) ∧ V 162 74 L (p_fv 40 (p_get h a) :: st) h Q) := V_gf (t := (3, 1, "WaterShouldersModel")) (by decide +kernel : decode (p_c 162) 71 = .ok (.getfield 70, 3)) (by decide +kernel)
theorem e162_74 : V 162 74 [l0, some (.int x)] st h Q = V 162 75 [l0, some (.int x)] (.int x :: st) h Q := V_nx (by decide +kernel : decode (p_c 162) 74 = .ok (.iload_n 1, 1)) rfl rfl
theorem e162_75 : V 162 75 [some (.ref a), l1] st h Q = V 162 76 [some (.ref a), l1] (.ref a :: st) h Q := V_nx (by decide +kernel : decode (p_c 162) 75 = .ok (.aload_n 0, 1)) rfl rfl
theorem e162_76 : V 162 76 L (.ref a :: st) h Q = (p_ok1 [12] 3 (p_get h a) ∧ V 162 79 L (p_fv 3 (p_get h a) :: st) h Q) := V_gf (t := (3, 1, "WaterShouldersModel")) (by decide +kernel : decode (p_c 162) 76 = .ok (.getfield 16, 3)) (by decide +kernel)
theorem e162_79 : V 162 79 [l0, some (.int x)] st h Q = V 162 80 [l0, some (.int x)] (.int x :: st) h Q := V_nx (by decide +kernel : decode (p_c 162) 79 = .ok (.iload_n 1, 1)) rfl rfl
theorem e162_80 : V 162 80 L (.int i :: .ref a :: st) h Q = (p_iok i (p_get h a) ∧ V 162 81 L (.int (p_ivl i (p_get h a)) :: st) h Q) := V_ial (by decide +kernel : decode (p_c 162) 80 = .ok (.iaload, 1))
theorem e162_81 : V 162 81 L (.int x :: .int i :: .ref a :: st) h Q = (p_sok i (p_get h a) ∧ V 162 82 L st (p_set h a (p_ist i x (p_get h a))) Q) := V_ias (by decide +kernel : decode (p_c 162) 81 = .ok (.iastore, 1))
theorem e162_82 : V 162 82 [l0, some (.int x)] st h Q = V 162 85 [p_dl l0, some (.int (x + 1))] st h Q := V_iinc (x := x) (by decide +kernel : decode (p_c 162) 82 = .ok (.iinc 1 1, 3)) (by decide) rfl (Nat.le_of_ble_eq_true rfl)
theorem e162_85 : V 162 85 L st h Q = V 162 65 L st h Q := V_goto (by decide +kernel : decode (p_c 162) 85 = .ok (.goto (-20), 3)) (by decide)
theorem e162_88 : V 162 88 L st h Q = V 162 89 L (.int 0 :: st) h Q := V_c (by decide +kernel : decode (p_c 162) 88 = .ok (.iconst 0, 1)) (by decide)
theorem e162_89 : V 162 89 [l0, l1] (.int x :: st) h Q = V 162 90 [p_dl l0, some (.int x)] st h Q := V_nx (by decide +kernel : decode (p_c 162) 89 = .ok (.istore_n 1, 1)) rfl rfl
theorem e162_90 : V 162 90 [l0, some (.int x)] st h Q = V 162 91 [l0, some (.int x)] (.int x :: st) h Q := V_nx (by decide +kernel : decode (p_c 162) 90 = .ok (.iload_n 1, 1)) rfl rfl
theorem e162_91 : V 162 91 L st h Q = V 162 92 L (.int 5 :: st) h Q := V_c (by decide +kernel : decode (p_c 162) 91 = .ok (.iconst 5, 1)) (by decide)
theorem e162_92 : V 162 92 L (.int z :: .int x :: st) h Q = if x < z then V 162 95 L st h Q else V 162 125 L st h Q := (V_icmp (by decide +kernel : decode (p_c 162) 92 = .ok (.if_icmp .ge 33, 3)) (by decide)).trans i_ge
theorem e162_95 : V 162 95 [some (.ref a), l1] st h Q = V 162 96 [some (.ref a), l1] (.ref a :: st) h Q := V_nx (by decide +kernel : decode (p_c 162) 95 = .ok (.aload_n 0, 1)) rfl rfl
theorem e162_96 : V 162 96 L (.ref a :: st) h Q = (p_ok1 [12] 41 (p_get h a) ∧ V 162 99 L (p_fv 41 (p_get h a) :: st) h Q) := V_gf (t := (3, 1, "WaterShouldersModel")) (by decide +kernel : decode (p_c 162) 96 = .ok (.getfield 73, 3)) (by decide +kernel)
theorem e162_99 : V 162 99 [l0, some (.int x)] st h Q = V 162 100 [l0, some (.int x)] (.int x :: st) h Q := V_nx (by decide +kernel : decode (p_c 162) 99 = .ok (.iload_n 1, 1)) rfl rfl
theorem e162_100 : V 162 100 [some (.ref a), l1] st h Q = V 162 101 [some (.ref a), l1] (.ref a :: st) h Q := V_nx (by decide +kernel : decode (p_c 162) 100 = .ok (.aload_n 0, 1)) rfl rfl
theorem e162_101 : V 162 101 L (.ref a :: st) h Q = (p_ok1 [12] 10 (p_get h a) ∧ V 162 104 L (p_fv 10 (p_get h a) :: st) h Q) := V_gf (t := (3, 1, "WaterShouldersModel")) (by decide +kernel : decode (p_c 162) 101 = .ok (.getfield 28, 3)) (by decide +kernel)
theorem e162_104 : V 162 104 [l0, some (.int x)] st h Q = V 162 105 [l0, some (.int x)] (.int x :: st) h Q := V_nx (by decide +kernel : decode (p_c 162) 104 = .ok (.iload_n 1, 1)) rfl rfl
theorem e162_105 : V 162 105 L (.int i :: .ref a :: st) h Q = (p_iok i (p_get h a) ∧ V 162 106 L (.int (p_ivl i (p_get h a)) :: st) h Q) := V_ial (by decide +kernel : decode (p_c 162) 105 = .ok (.iaload, 1))
theorem e162_106 : V 162 106 L (.int x :: .int i :: .ref a :: st) h Q = (p_sok i (p_get h a) ∧ V 162 107 L st (p_set h a (p_ist i x (p_get h a))) Q) := V_ias (by decide +kernel : decode (p_c 162) 106 = .ok (.iastore, 1))
theorem e162_107 : V 162 107 [some (.ref a), l1] st h Q = V 162 108 [some (.ref a), l1] (.ref a :: st) h Q := V_nx (by decide +kernel : decode (p_c 162) 107 = .ok (.aload_n 0, 1)) rfl rfl
theorem e162_108 : V 162 108 L (.ref a :: st) h Q = (p_ok1 [12] 42 (p_get h a) ∧ V 162 111 L (p_fv 42 (p_get h a) :: st) h Q) := V_gf (t := (3, 1, "WaterShouldersModel")) (by decide +kernel : decode (p_c 162) 108 = .ok (.getfield 76, 3)) (by decide +kernel)
theorem e162_111 : V 162 111 [l0, some (.int x)] st h Q = V 162 112 [l0, some (.int x)] (.int x :: st) h Q := V_nx (by decide +kernel : decode (p_c 162) 111 = .ok (.iload_n 1, 1)) rfl rfl
theorem e162_112 : V 162 112 [some (.ref a), l1] st h Q = V 162 113 [some (.ref a), l1] (.ref a :: st) h Q := V_nx (by decide +kernel : decode (p_c 162) 112 = .ok (.aload_n 0, 1)) rfl rfl
theorem e162_113 : V 162 113 L (.ref a :: st) h Q = (p_ok1 [12] 11 (p_get h a) ∧ V 162 116 L (p_fv 11 (p_get h a) :: st) h Q) := V_gf (t := (3, 1, "WaterShouldersModel")) (by decide +kernel : decode (p_c 162) 113 = .ok (.getfield 31, 3)) (by decide +kernel)
theorem e162_116 : V 162 116 [l0, some (.int x)] st h Q = V 162 117 [l0, some (.int x)] (.int x :: st) h Q := V_nx (by decide +kernel : decode (p_c 162) 116 = .ok (.iload_n 1, 1)) rfl rfl
theorem e162_117 : V 162 117 L (.int i :: .ref a :: st) h Q = (p_iok i (p_get h a) ∧ V 162 118 L (.int (p_ivl i (p_get h a)) :: st) h Q) := V_ial (by decide +kernel : decode (p_c 162) 117 = .ok (.iaload, 1))
theorem e162_118 : V 162 118 L (.int x :: .int i :: .ref a :: st) h Q = (p_sok i (p_get h a) ∧ V 162 119 L st (p_set h a (p_ist i x (p_get h a))) Q) := V_ias (by decide +kernel : decode (p_c 162) 118 = .ok (.iastore, 1))
theorem e162_119 : V 162 119 [l0, some (.int x)] st h Q = V 162 122 [p_dl l0, some (.int (x + 1))] st h Q := V_iinc (x := x) (by decide +kernel : decode (p_c 162) 119 = .ok (.iinc 1 1, 3)) (by decide) rfl (Nat.le_of_ble_eq_true rfl)
theorem e162_122 : V 162 122 L st h Q = V 162 90 L st h Q := V_goto (by decide +kernel : decode (p_c 162) 122 = .ok (.goto (-32), 3)) (by decide)
theorem e162_125 : V 162 125 L st h Q = V 162 126 L (.int 0 :: st) h Q := V_c (by decide +kernel : decode (p_c 162) 125 = .ok (.iconst 0, 1)) (by decide)
theorem e162_126 : V 162 126 [l0, l1] (.int x :: st) h Q = V 162 127 [p_dl l0, some (.int x)] st h Q := V_nx (by decide +kernel : decode (p_c 162) 126 = .ok (.istore_n 1, 1)) rfl rfl
theorem e162_127 : V 162 127 [l0, some (.int x)] st h Q = V 162 128 [l0, some (.int x)] (.int x :: st) h Q := V_nx (by decide +kernel : decode (p_c 162) 127 = .ok (.iload_n 1, 1)) rfl rfl
theorem e162_128 : V 162 128 L st h Q = V 162 130 L (.int 7 :: st) h Q := V_b (by decide +kernel : decode (p_c 162) 128 = .ok (.bipush 7, 2)) (by decide)
theorem e162_130 : V 162 130 L (.int z :: .int x :: st) h Q = if x < z then V 162 133 L st h Q else V 162 151 L st h Q := (V_icmp (by decide +kernel : decode (p_c 162) 130 = .ok (.if_icmp .ge 21, 3)) (by decide)).trans i_ge
theorem e162_133 : V 162 133 [some (.ref a), l1] st h Q = V 162 134 [some (.ref a), l1] (.ref a :: st) h Q := V_nx (by decide +kernel : decode (p_c 162) 133 = .ok (.aload_n 0, 1)) rfl rfl
theorem e162_134 : V 162 134 L (.ref a :: st) h Q = (p_ok1 [12] 43 (p_get h a) ∧ V 162 137 L (p_fv 43 (p_get h a) :: st) h Q) := V_gf (t := (3, 1, "WaterShouldersModel")) (by decide +kernel : decode (p_c 162) 134 = .ok (.getfield 79, 3)) (by decide +kernel)
theorem e162_137 : V 162 137 [l0, some (.int x)] st h Q = V 162 138 [l0, some (.int x)] (.int x :: st) h Q := V_nx (by decide +kernel : decode (p_c 162) 137 = .ok (.iload_n 1, 1)) rfl rfl
theorem e162_138 : V 162 138 [some (.ref a), l1] st h Q = V 162 139 [some (.ref a), l1] (.ref a :: st) h Q := V_nx (by decide +kernel : decode (p_c 162) 138 = .ok (.aload_n 0, 1)) rfl rfl
theorem e162_139 : V 162 139 L (.ref a :: st) h Q = (p_ok1 [12] 16 (p_get h a) ∧ V 162 142 L (p_fv 16 (p_get h a) :: st) h Q) := V_gf (t := (3, 1, "WaterShouldersModel")) (by decide +kernel : decode (p_c 162) 139 = .ok (.getfield 38, 3)) (by decide +kernel)
theorem e162_142 : V 162 142 [l0, some (.int x)] st h Q = V 162 143 [l0, some (.int x)] (.int x :: st) h Q := V_nx (by decide +kernel : decode (p_c 162) 142 = .ok (.iload_n 1, 1)) rfl rfl
theorem e162_143 : V 162 143 L (.int i :: .ref a :: st) h Q = (p_iok i (p_get h a) ∧ V 162 144 L (.int (p_ivl i (p_get h a)) :: st) h Q) := V_ial (by decide +kernel : decode (p_c 162) 143 = .ok (.iaload, 1))
theorem e162_144 : V 162 144 L (.int x :: .int i :: .ref a :: st) h Q = (p_sok i (p_get h a) ∧ V 162 145 L st (p_set h a (p_ist i x (p_get h a))) Q) := V_ias (by decide +kernel : decode (p_c 162) 144 = .ok (.iastore, 1))
theorem e162_145 : V 162 145 [l0, some (.int x)] st h Q = V 162 148 [p_dl l0, some (.int (x + 1))] st h Q := V_iinc (x := x) (by decide +kernel : decode (p_c 162) 145 = .ok (.iinc 1 1, 3)) (by decide) rfl (Nat.le_of_ble_eq_true rfl)
theorem e162_148 : V 162 148 L st h Q = V 162 127 L st h Q := V_goto (by decide +kernel : decode (p_c 162) 148 = .ok (.goto (-21), 3)) (by decide)
theorem e162_151 : V 162 151 [some (.ref a), l1] st h Q = V 162 152 [some (.ref a), l1] (.ref a :: st) h Q := V_nx (by decide +kernel : decode (p_c 162) 151 = .ok (.aload_n 0, 1)) rfl rfl
theorem e162_152 : V 162 152 L (.ref a :: st) h Q = (p_ok1 [12] 6 (p_get h a) ∧ V 162 155 L (p_fv 6 (p_get h a) :: st) h Q) := V_gf (t := (0, 0, "WaterShouldersModel")) (by decide +kernel : decode (p_c 162) 152 = .ok (.getfield 113, 3)) (by decide +kernel)
theorem e162_155 : V 162 155 L [.int x] h Q = Q (some (.int x)) h := V_ri (by decide +kernel : decode (p_c 162) 155 = .ok (.ireturn, 1)) rfl
theorem m162 : Vm 162 [.ref a] h Q = V 162 0 [some (.ref a), none] [] h Q := rfl
theorem e163_0 : V 163 0 [some (.ref a), l1] st h Q = V 163 1 [some (.ref a), l1] (.ref a :: st) h Q := V_nx (by decide +kernel : decode (p_c 163) 0 = .ok (.aload_n 0, 1)) rfl rfl
theorem e163_1 : V 163 1 L (.ref a :: st) h Q = (p_ok1 [12] 33 (p_get h a) ∧ V 163 4 L (p_fv 33 (p_get h a) :: st) h Q) := V_gf (t := (1, 0, "WaterShouldersModel")) (by decide +kernel : decode (p_c 163) 1 = .ok (.getfield 254, 3)) (by decide +kernel)
theorem e163_4 : V 163 4 L (.int x :: st) h Q = if x = 0 then V 163 18 L st h Q else V 163 7 L st h Q := (V_ifc (by decide +kernel : decode (p_c 163) 4 = .ok (.ifCond .eq 14, 3)) (by decide)).trans i_eq
theorem e163_7 : V 163 7 [some (.ref a), l1] st h Q = V 163 8 [some (.ref a), l1] (.ref a :: st) h Q := V_nx (by decide +kernel : decode (p_c 163) 7 = .ok (.aload_n 0, 1)) rfl rfl
theorem e163_8 : V 163 8 L (.ref a :: st) h Q = (p_ok1 [12] 34 (p_get h a) ∧ V 163 11 L (p_fv 34 (p_get h a) :: st) h Q) := V_gf (t := (0, 0, "WaterShouldersModel")) (by decide +kernel : decode (p_c 163) 8 = .ok (.getfield 257, 3)) (by decide +kernel)
theorem e163_11 : V 163 11 [some (.ref a), l1] st h Q = V 163 12 [some (.ref a), l1] (.ref a :: st) h Q := V_nx (by decide +kernel : decode (p_c 163) 11 = .ok (.aload_n 0, 1)) rfl rfl
theorem e163_12 : V 163 12 L (.ref a :: st) h Q = (p_ok1 [12] 4 (p_get h a) ∧ V 163 15 L (p_fv 4 (p_get h a) :: st) h Q) := V_gf (t := (0, 0, "WaterShouldersModel")) (by decide +kernel : decode (p_c 163) 12 = .ok (.getfield 107, 3)) (by decide +kernel)
theorem e163_15 : V 163 15 L (.int z :: .int x :: st) h Q = if x = z then V 163 21 L st h Q else V 163 18 L st h Q := (V_icmp (by decide +kernel : decode (p_c 163) 15 = .ok (.if_icmp .eq 6, 3)) (by decide)).trans i_eq
theorem e163_18 : V 163 18 L st h Q = V 163 20 L (.int (-103) :: st) h Q := V_b (by decide +kernel : decode (p_c 163) 18 = .ok (.bipush (-103), 2)) (by decide)
theorem e163_20 : V 163 20 L [.int x] h Q = Q (some (.int x)) h := V_ri (by decide +kernel : decode (p_c 163) 20 = .ok (.ireturn, 1)) rfl
theorem e163_21 : V 163 21 [some (.ref a), l1] st h Q = V 163 22 [some (.ref a), l1] (.ref a :: st) h Q := V_nx (by decide +kernel : decode (p_c 163) 21 = .ok (.aload_n 0, 1)) rfl rfl
theorem e163_22 : V 163 22 [some (.ref a), l1] st h Q = V 163 23 [some (.ref a), l1] (.ref a :: st) h Q := V_nx (by decide +kernel : decode (p_c 163) 22 = .ok (.aload_n 0, 1)) rfl rfl
theorem e163_23 : V 163 23 L (.ref a :: st) h Q = (p_ok1 [12] 35 (p_get h a) ∧ V 163 26 L (p_fv 35 (p_get h a) :: st) h Q) := V_gf (t := (0, 0, "WaterShouldersModel")) (by decide +kernel : decode (p_c 163) 23 = .ok (.getfield 260, 3)) (by decide +kernel)
theorem e163_26 : V 163 26 L (.int x :: .ref a :: st) h Q = (p_ok1 [12] 6 (p_get h a) ∧ V 163 29 L st (p_set h a (p_fs 6 (.int x) (p_get h a))) Q) := V_pf0 (fin := 0) (ref := "WaterShouldersModel") (by decide +kernel : decode (p_c 163) 26 = .ok (.putfield 113, 3)) (by decide +kernel) (by decide +kernel)
theorem e163_29 : V 163 29 [some (.ref a), l1] st h Q = V 163 30 [some (.ref a), l1] (.ref a :: st) h Q := V_nx (by decide +kernel : decode (p_c 163) 29 = .ok (.aload_n 0, 1)) rfl rfl
theorem e163_30 : V 163 30 [some (.ref a), l1] st h Q = V 163 31 [some (.ref a), l1] (.ref a :: st) h Q := V_nx (by decide +kernel : decode (p_c 163) 30 = .ok (.aload_n 0, 1)) rfl rfl
theorem e163_31 : V 163 31 L (.ref a :: st) h Q = (p_ok1 [12] 36 (p_get h a) ∧ V 163 34 L (p_fv 36 (p_get h a) :: st) h Q) := V_gf (t := (0, 0, "WaterShouldersModel")) (by decide +kernel : decode (p_c 163) 31 = .ok (.getfield 263, 3)) (by decide +kernel)
theorem e163_34 : V 163 34 L (.int x :: .ref a :: st) h Q = (p_ok1 [12] 5 (p_get h a) ∧ V 163 37 L st (p_set h a (p_fs 5 (.int x) (p_get h a))) Q) := V_pf0 (fin := 0) (ref := "WaterShouldersModel") (by decide +kernel : decode (p_c 163) 34 = .ok (.putfield 110, 3)) (by decide +kernel) (by decide +kernel)
theorem e163_37 : V 163 37 [some (.ref a), l1] st h Q = V 163 38 [some (.ref a), l1] (.ref a :: st) h Q := V_nx (by decide +kernel : decode (p_c 163) 37 = .ok (.aload_n 0, 1)) rfl rfl
theorem e163_38 : V 163 38 [some (.ref a), l1] st h Q = V 163 39 [some (.ref a), l1] (.ref a :: st) h Q := V_nx (by decide +kernel : decode (p_c 163) 38 = .ok (.aload_n 0, 1)) rfl rfl
theorem e163_39 : V 163 39 L (.ref a :: st) h Q = (p_ok1 [12] 37 (p_get h a) ∧ V 163 42 L (p_fv 37 (p_get h a) :: st) h Q) := V_gf (t := (0, 0, "WaterShouldersModel")) (by decide +kernel : decode (p_c 163) 39 = .ok (.getfield 266, 3)) (by decide +kernel)
theorem e163_42 : V 163 42 L (.int x :: .ref a :: st) h Q = (p_ok1 [12] 13 (p_get h a) ∧ V 163 45 L st (p_set h a (p_fs 13 (.int x) (p_get h a))) Q) := V_pf0 (fin := 0) (ref := "WaterShouldersModel") (by decide +kernel : decode (p_c 163) 42 = .ok (.putfield 34, 3)) (by decide +kernel) (by decide +kernel)
theorem e163_45 : V 163 45 [some (.ref a), l1] st h Q = V 163 46 [some (.ref a), l1] (.ref a :: st) h Q := V_nx (by decide +kernel : decode (p_c 163) 45 = .ok (.aload_n 0, 1)) rfl rfl
theorem e163_46 : V 163 46 [some (.ref a), l1] st h Q = V 163 47 [some (.ref a), l1] (.ref a :: st) h Q := V_nx (by decide +kernel : decode (p_c 163) 46 = .ok (.aload_n 0, 1)) rfl rfl
theorem e163_47 : V 163 47 L (.ref a :: st) h Q = (p_ok1 [12] 38 (p_get h a) ∧ V 163 50 L (p_fv 38 (p_get h a) :: st) h Q) := V_gf (t := (0, 0, "WaterShouldersModel")) (by decide +kernel : decode (p_c 163) 47 = .ok (.getfield 269, 3)) (by decide +kernel)
theorem e163_50 : V 163 50 L (.int x :: .ref a :: st) h Q = (p_ok1 [12] 14 (p_get h a) ∧ V 163 53 L st (p_set h a (p_fs 14 (.int x) (p_get h a))) Q) := V_pf0 (fin := 0) (ref := "WaterShouldersModel") (by decide +kernel : decode (p_c 163) 50 = .ok (.putfield 223, 3)) (by decide +kernel) (by decide +kernel)
theorem e163_53 : V 163 53 [some (.ref a), l1] st h Q = V 163 54 [some (.ref a), l1] (.ref a :: st) h Q := V_nx (by decide +kernel : decode (p_c 163) 53 = .ok (.aload_n 0, 1)) rfl rfl
theorem e163_54 : V 163 54 [some (.ref a), l1] st h Q = V 163 55 [some (.ref a), l1] (.ref a :: st) h Q := V_nx (by decide +kernel : decode (p_c 163) 54 = .ok (.aload_n 0, 1)) rfl rfl
theorem e163_55 : V 163 55 L (.ref a :: st) h Q = (p_ok1 [12] 39 (p_get h a) ∧ V 163 58 L (p_fv 39 (p_get h a) :: st) h Q) := V_gf (t := (0, 0, "WaterShouldersModel")) (by decide +kernel : decode (p_c 163) 55 = .ok (.getfield 272, 3)) (by decide +kernel)
theorem e163_58 : V 163 58 L (.int x :: .ref a :: st) h Q = (p_ok1 [12] 15 (p_get h a) ∧ V 163 61 L st (p_set h a (p_fs 15 (.int x) (p_get h a))) Q) := V_pf0 (fin := 0) (ref := "WaterShouldersModel") (by decide +kernel : decode (p_c 163) 58 = .ok (.putfield 116, 3)) (by decide +kernel) (by decide +kernel)
theorem e163_61 : V 163 61 L st h Q = V 163 62 L (.int 0 :: st) h Q := V_c (by decide +kernel : decode (p_c 163) 61 = .ok (.iconst 0, 1)) (by decide)
theorem e163_62 : V 163 62 [l0, l1] (.int x :: st) h Q = V 163 63 [p_dl l0, some (.int x)] st h Q := V_nx (by decide +kernel : decode (p_c 163) 62 = .ok (.istore_n 1, 1)) rfl rfl
theorem e163_63 : V 163 63 [l0, some (.int x)] st h Q = V 163 64 [l0, some (.int x)] (.int x :: st) h Q := V_nx (by decide +kernel : decode (p_c 163) 63 = .ok (.iload_n 1, 1)) rfl rfl
theorem e163_64 : V 163 64 L st h Q = V 163 65 L (.int 4 :: st) h Q := V_c (by decide +kernel : decode (p_c 163) 64 = .ok (.iconst 4, 1)) (by decide)
theorem e163_65 : V 163 65 L (.int z :: .int x :: st) h Q = if x < z then V 163 68 L st h Q else V 163 86 L st h Q := (V_icmp (by decide +kernel : decode (p_c 163) 65 = .ok (.if_icmp .ge 21, 3)) (by decide)).trans i_ge
theorem e163_68 : V 163 68 [some (.ref a), l1] st h Q = V 163 69 [some (.ref a), l1] (.ref a :: st) h Q := V_nx (by decide +kernel : decode (p_c 163) 68 = .ok (.aload_n 0, 1)) rfl rfl
theorem e163_69 : V 163 69 L (.ref a :: st) h Q = (p_ok1 [12] 3 (p_get h a) ∧ V 163 72 L (p_fv 3 (p_get h a) :: st) h Q) := V_gf (t := (3, 1, "WaterShouldersModel")) (by decide +kernel : decode (p_c 163) 69 = .ok (.getfield 16, 3)) (by decide +kernel)
theorem e163_72 : V 163 72 [l0, some (.int x)] st h Q = V 163 73 [l0, some (.int x)] (.int x :: st) h Q := V_nx (by decide +kernel : decode (p_c 163) 72 = .ok (.iload_n 1, 1)) rfl rfl
theorem e163_73 : V 163 73 [some (.ref a), l1] st h Q = V 163 74 [some (.ref a), l1] (.ref a :: st) h Q := V_nx (by decide +kernel : decode (p_c 163) 73 = .ok (.aload_n 0, 1)) rfl rfl
theorem e163_74 : V 163 74 L (.ref a :: st) h Q = (p_ok1 [12] 40 (p_get h a) ∧ V 163 77 L (p_fv 40 (p_get h a) :: st) h Q) := V_gf (t := (3, 1, "WaterShouldersModel")) (by decide +kernel : decode (p_c 163) 74 = .ok (.getfield 70, 3)) (by decide +kernel)
theorem e163_77 : V 163 77 [l0, some (.int x)] st h Q = V 163 78 [l0, some (.int x)] (.int x :: st) h Q := V_nx (by decide +kernel : decode (p_c 163) 77 = .ok (.iload_n 1, 1)) rfl rfl
theorem e163_78 : V 163 78 L (.int i :: .ref a :: st) h Q = (p_iok i (p_get h a) ∧ V 163 79 L (.int (p_ivl i (p_get h a)) :: st) h Q) := V_ial (by decide +kernel : decode (p_c 163) 78 = .ok (.iaload, 1))
theorem e163_79 : V 163 79 L (.int x :: .int i :: .ref a :: st) h Q = (p_sok i (p_get h a) ∧ V 163 80 L st (p_set h a (p_ist i x (p_get h a))) Q) := V_ias (by decide +kernel : decode (p_c 163) 79 = .ok (.iastore, 1))
theorem e163_80 : V 163 80 [l0, some (.int x)] st h Q = V 163 83 [p_dl l0, some (.int (x + 1))] st h Q := V_iinc (x := x) (by decide +kernel : decode (p_c 163) 80 = .ok (.iinc 1 1, 3)) (by decide) rfl (Nat.le_of_ble_eq_true rfl)
theorem e163_83 : V 163 83 L st h Q = V 163 63 L st h Q := V_goto (by decide +kernel : decode (p_c 163) 83 = .ok (.goto (-20), 3)) (by decide)
theorem e163_86 : V 163 86 L st h Q = V 163 87 L (.int 0 :: st) h Q := V_c (by decide +kernel : decode (p_c 163) 86 = .ok (.iconst 0, 1)) (by decide)
theorem e163_87 : V 163 87 [l0, l1] (.int x :: st) h Q = V 163 88 [p_dl l0, some (.int x)] st h Q := V_nx (by decide +kernel : decode (p_c 163) 87 = .ok (.istore_n 1, 1)) rfl rfl
theorem e163_88 : V 163 88 [l0, some (.int x)] st h Q = V 163 89 [l0, some (.int x)] (.int x :: st) h Q := V_nx (by decide +kernel : decode (p_c 163) 88 = .ok (.iload_n 1, 1)) rfl rfl
theorem e163_89 : V 163 89 L st h Q = V 163 90 L (.int 5 :: st) h Q := V_c (by decide +kernel : decode (p_c 163) 89 = .ok (.iconst 5, 1)) (by decide)
theorem e163_90 : V 163 90 L (.int z :: .int x :: st) h Q = if x < z then V 163 93 L st h Q else V 163 123 L st h Q := (V_icmp (by decide +kernel : decode (p_c 163) 90 = .ok (.if_icmp .ge 33, 3)) (by decide)).trans i_ge
theorem e163_93 : V 163 93 [some (.ref a), l1] st h Q = V 163 94 [some (.ref a), l1] (.ref a :: st) h Q := V_nx (by decide +kernel : decode (p_c 163) 93 = .ok (.aload_n 0, 1)) rfl rfl
theorem e163_94 : V 163 94 L (.ref a :: st) h Q = (p_ok1 [12] 10 (p_get h a) ∧ V 163 97 L (p_fv 10 (p_get h a) :: st) h Q) := V_gf (t := (3, 1, "WaterShouldersModel")) (by decide +kernel : decode (p_c 163) 94 = .ok (.getfield 28, 3)) (by decide +kernel)
theorem e163_97 : V 163 97 [l0, some (.int x)] st h Q = V 163 98 [l0, some (.int x)] (.int x :: st) h Q := V_nx (by decide +kernel : decode (p_c 163) 97 = .ok (.iload_n 1, 1)) rfl rfl
theorem e163_98 : V 163 98 [some (.ref a), l1] st h Q = V 163 99 [some (.ref a), l1] (.ref a :: st) h Q := V_nx (by decide +kernel : decode (p_c 163) 98 = .ok (.aload_n 0, 1)) rfl rfl
theorem e163_99 : V 163 99 L (.ref a :: st) h Q = (p_ok1 [12] 41 (p_get h a) ∧ V 163 102 L (p_fv 41 (p_get h a) :: st) h Q) := V_gf (t := (3, 1, "WaterShouldersModel")) (by decide +kernel : decode (p_c 163) 99 = .ok (.getfield 73, 3)) (by decide +kernel)
theorem e163_102 : V 163 102 [l0, some (.int x)] st h Q = V 163 103 [l0, some (.int x)] (.int x :: st) h Q := V_nx (by decide +kernel : decode (p_c 163) 102 = .ok (.iload_n 1, 1)) rfl rfl
theorem e163_103 : V 163 103 L (.int i :: .ref a :: st) h Q = (p_iok i (p_get h a) ∧ V 163 104 L (.int (p_ivl i (p_get h a)) :: st) h Q) := V_ial (by decide +kernel : decode (p_c 163) 103 = .ok (.iaload, 1))
theorem e163_104 : V 163 104 L (.int x :: .int i :: .ref a :: st) h Q = (p_sok i (p_get h a) ∧ V 163 105 L st (p_set h a (p_ist i x (p_get h a))) Q) := V_ias (by decide +kernel : decode (p_c 163) 104 = .ok (.iastore, 1))
theorem e163_105 : V 163 105 [some (.ref a), l1] st h Q = V 163 106 [some (.ref a), l1] (.ref a :: st) h Q := V_nx (by decide +kernel : decode (p_c 163) 105 = .ok (.aload_n 0, 1)) rfl rfl
theorem e163_106 : V 163 106 L (.ref a :: st) h Q = (p_ok1 [12] 11 (p_get h a) ∧ V 163 109 L (p_fv 11 (p_get h a) :: st) h Q) := V_gf (t := (3, 1, "WaterShouldersModel")) (by decide +kernel : decode (p_c 163) 106 = .ok (.getfield 31, 3)) (by decide +kernel)
theorem e163_109 : V 163 109 [l0, some (.int x)] st h Q = V 163 110 [l0, some (.int x)] (.int x :: st) h Q := V_nx (by decide +kernel : decode (p_c 163) 109 = .ok (.iload_n 1, 1)) rfl rfl
theorem e163_110 : V 163 110 [some (.ref a), l1] st h Q = V 163 111 [some (.ref a), l1] (.ref a :: st) h Q := V_nx (by decide +kernel : decode (p_c 163) 110 = .ok (.aload_n 0, 1)) rfl rfl
theorem e163_111 : V 163 111 L (.ref a :: st) h Q = (p_ok1 [12] 42 (p_get h a) ∧ V 163 114 L (p_fv 42 (p_get h a) :: st) h Q) := V_gf (t := (3, 1, "WaterShouldersModel")) (by decide +kernel : decode (p_c 163) 111 = .ok (.getfield 76, 3)) (by decide +kernel)
theorem e163_114 : V 163 114 [l0, some (.int x)] st h Q = V 163 115 [l0, some (.int x)] (.int x :: st) h Q := V_nx (by decide +kernel : decode (p_c 163) 114 = .ok (.iload_n 1, 1)) rfl rfl
theorem e163_115 : V 163 115 L (.int i :: .ref a :: st) h Q = (p_iok i (p_get h a) ∧ V 163 116 L (.int (p_ivl i (p_get h a)) :: st) h Q) := V_ial (by decide +kernel : decode (p_c 163) 115 = .ok (.iaload, 1))
theorem e163_116 : V 163 116 L (.int x :: .int i :: .ref a :: st) h Q = (p_sok i (p_get h a) ∧ V 163 117 L st (p_set h a (p_ist i x (p_get h a))) Q) := V_ias (by decide +kernel : decode (p_c 163) 116 = .ok (.iastore, 1))
theorem e163_117 : V 163 117 [l0, some (.int x)] st h Q = V 163 120 [p_dl l0, some (.int (x + 1))] st h Q := V_iinc (x := x) (by decide +kernel : decode (p_c 163) 117 = .ok (.iinc 1 1, 3)) (by decide) rfl (Nat.le_of_ble_eq_true rfl)
theorem e163_120 : V 163 120 L st h Q = V 163 88 L st h Q := V_goto (by decide +kernel : decode (p_c 163) 120 = .ok (.goto (-32), 3)) (by decide)
theorem e163_123 : V 163 123 L st h Q = V 163 124 L (.int 0 :: st) h Q := V_c (by decide +kernel : decode (p_c 163) 123 = .ok (.iconst 0, 1)) (by decide)
theorem e163_124 : V 163 124 [l0, l1] (.int x :: st) h Q = V 163 125 [p_dl l0, some (.int x)] st h Q := V_nx (by decide +kernel : decode (p_c 163) 124 = .ok (.istore_n 1, 1)) rfl rfl
theorem e163_125 : V 163 125 [l0, some (.int x)] st h Q = V 163 126 [l0, some (.int x)] (.int x :: st) h Q := V_nx (by decide +kernel : decode (p_c 163) 125 = .ok (.iload_n 1, 1)) rfl rfl
theorem e163_126 : V 163 126 L st h Q = V 163 128 L (.int 7 :: st) h Q := V_b (by decide +kernel : decode (p_c 163) 126 = .ok (.bipush 7, 2)) (by decide)
theorem e163_128 : V 163 128 L (.int z :: .int x :: st) h Q = if x < z then V 163 131 L st h Q else V 163 149 L st h Q := (V_icmp (by decide +kernel : decode (p_c 163) 128 = .ok (.if_icmp .ge 21, 3)) (by decide)).trans i_ge
theorem e163_131 : V 163 131 [some (.ref a), l1] st h Q = V 163 132 [some (.ref a), l1] (.ref a :: st) h Q := V_nx (by decide +kernel : decode (p_c 163) 131 = .ok (.aload_n 0, 1)) rfl rfl
theorem e163_132 : V 163 132 L (.ref a :: st) h Q = (p_ok1 [12] 16 (p_get h a) ∧ V 163 135 L (p_fv 16 (p_get h a) :: st) h Q) := V_gf (t := (3, 1, "WaterShouldersModel")) (by decide +kernel : decode (p_c 163) 132 = .ok (.getfield 38, 3)) (by decide +kernel)
theorem e163_135 : V 163 135 [l0, some (.int x)] st h Q = V 163 136 [l0, some (.int x)] (.int x :: st) h Q := V_nx (by decide +kernel : decode (p_c 163) 135 = .ok (.iload_n 1, 1)) rfl rfl
theorem e163_136 : V 163 136 [some (.ref a), l1] st h Q = V 163 137 [some (.ref a), l1] (.ref a :: st) h Q := V_nx (by decide +kernel : decode (p_c 163) 136 = .ok (.aload_n 0, 1)) rfl rfl
theorem e163_137 : V 163 137 L (.ref a :: st) h Q = (p_ok1 [12] 43 (p_get h a) ∧ V 163 140 L (p_fv 43 (p_get h a) :: st) h Q) := V_gf (t := (3, 1, "WaterShouldersModel")) (by decide +kernel : decode (p_c 163) 137 = .ok (.getfield 79, 3)) (by decide +kernel)
theorem e163_140 : V 163 140 [l0, some (.int x)] st h Q = V 163 141 [l0, some (.int x)] (.int x :: st) h Q := V_nx (by decide +kernel : decode (p_c 163) 140 = .ok (.iload_n 1, 1)) rfl rfl
theorem e163_141 : V 163 141 L (.int i :: .ref a :: st) h Q = (p_iok i (p_get h a) ∧ V 163 142 L (.int (p_ivl i (p_get h a)) :: st) h Q) := V_ial (by decide +kernel : decode (p_c 163) 141 = .ok (.iaload, 1))
theorem e163_142 : V 163 142 L (.int x :: .int i :: .ref a :: st) h Q = (p_sok i (p_get h a) ∧ V 163 143 L st (p_set h a (p_ist i x (p_get h a))) Q) := V_ias (by decide +kernel : decode (p_c 163) 142 = .ok (.iastore, 1))
theorem e163_143 : V 163 143 [l0, some (.int x)] st h Q = V 163 146 [p_dl l0, some (.int (x + 1))] st h Q := V_iinc (x := x) (by decide +kernel : decode (p_c 163) 143 = .ok (.iinc 1 1, 3)) (by decide) rfl (Nat.le_of_ble_eq_true rfl)
theorem e163_146 : V 163 146 L st h Q = V 163 125 L st h Q := V_goto (by decide +kernel : decode (p_c 163) 146 = .ok (.goto (-21), 3)) (by decide)
theorem e163_149 : V 163 149 [some (.ref a), l1] st h Q = V 163 150 [some (.ref a), l1] (.ref a :: st) h Q := V_nx (by decide +kernel : decode (p_c 163) 149 = .ok (.aload_n 0, 1)) rfl rfl
theorem e163_150 : V 163 150 L (.ref a :: st) h Q = (p_ok1 [12] 6 (p_get h a) ∧ V 163 153 L (p_fv 6 (p_get h a) :: st) h Q) := V_gf (t := (0, 0, "WaterShouldersModel")) (by decide +kernel : decode (p_c 163) 150 = .ok (.getfield 113, 3)) (by decide +kernel)
theorem e163_153 : V 163 153 L [.int x] h Q = Q (some (.int x)) h := V_ri (by decide +kernel : decode (p_c 163) 153 = .ok (.ireturn, 1)) rfl
theorem m163 : Vm 163 [.ref a] h Q = V 163 0 [some (.ref a), none] [] h Q := rfl
theorem e164_0 : V 164 0 [l0, some (.int x)] st h Q = V 164 1 [l0, some (.int x)] (.int x :: st) h Q := V_nx (by decide +kernel : decode (p_c 164) 0 = .ok (.iload_n 1, 1)) rfl rfl
theorem e164_1 : V 164 1 L (.int x :: st) h Q = V 164 (if x = 0 then 48 else if x = 1 then 53 else if x = 2 then 58 else if x = 3 then 63 else if x = 4 then 68 else if x = 5 then 73 else if x = 6 then 78 else if x = 7 then 83 else 88) L st h Q := V_ts (fun z => if z = 0 then 48 else if z = 1 then 53 else if z = 2 then 58 else if z = 3 then 63 else if z = 4 then 68 else if z = 5 then 73 else if z = 6 then 78 else if z = 7 then 83 else 88) (by decide +kernel : decode (p_c 164) 1 = .ok (.tableswitch 87 0 7 #[47, 52, 57, 62, 67, 72, 77, 82], 47)) (by decide) (by
  intro z
  refine ⟨fun hz => ?_, fun hz => ?_⟩
  · have h_0 : ¬ z = 0 := by intro q; subst q; revert hz; decide
    have h_1 : ¬ z = 1 := by intro q; subst q; revert hz; decide
    have h_2 : ¬ z = 2 := by intro q; subst q; revert hz; decide
    have h_3 : ¬ z = 3 := by intro q; subst q; revert hz; decide
    have h_4 : ¬ z = 4 := by intro q; subst q; revert hz; decide
    have h_5 : ¬ z = 5 := by intro q; subst q; revert hz; decide
    have h_6 : ¬ z = 6 := by intro q; subst q; revert hz; decide
    have h_7 : ¬ z = 7 := by intro q; subst q; revert hz; decide
    simp only [h_0, h_1, h_2, h_3, h_4, h_5, h_6, h_7, if_false]
    rfl
  · have hc : z.toInt = 0 ∨ z.toInt = 1 ∨ z.toInt = 2 ∨ z.toInt = 3 ∨ z.toInt = 4 ∨ z.toInt = 5 ∨ z.toInt = 6 ∨ z.toInt = 7 := by omega
    rcases hc with hc | hc | hc | hc | hc | hc | hc | hc
    · have e : z = 0 := Int32.toInt_inj.mp (by rw [hc]; rfl)
      subst e
      exact ⟨47, rfl, by decide, rfl⟩
    · have e : z = 1 := Int32.toInt_inj.mp (by rw [hc]; rfl)
      subst e
      exact ⟨52, rfl, by decide, rfl⟩
    · have e : z = 2 := Int32.toInt_inj.mp (by rw [hc]; rfl)
      subst e
      exact ⟨57, rfl, by decide, rfl⟩
    · have e : z = 3 := Int32.toInt_inj.mp (by rw [hc]; rfl)
      subst e
      exact ⟨62, rfl, by decide, rfl⟩
    · have e : z = 4 := Int32.toInt_inj.mp (by rw [hc]; rfl)
      subst e
      exact ⟨67, rfl, by decide, rfl⟩
    · have e : z = 5 := Int32.toInt_inj.mp (by rw [hc]; rfl)
      subst e
      exact ⟨72, rfl, by decide, rfl⟩
    · have e : z = 6 := Int32.toInt_inj.mp (by rw [hc]; rfl)
      subst e
      exact ⟨77, rfl, by decide, rfl⟩
    · have e : z = 7 := Int32.toInt_inj.mp (by rw [hc]; rfl)
      subst e
      exact ⟨82, rfl, by decide, rfl⟩)
theorem e164_48 : V 164 48 [some (.ref a), l1] st h Q = V 164 49 [some (.ref a), l1] (.ref a :: st) h Q := V_nx (by decide +kernel : decode (p_c 164) 48 = .ok (.aload_n 0, 1)) rfl rfl
theorem e164_49 : V 164 49 L (.ref a :: st) h Q = (p_ok1 [12] 0 (p_get h a) ∧ V 164 52 L (p_fv 0 (p_get h a) :: st) h Q) := V_gf (t := (0, 0, "WaterShouldersModel")) (by decide +kernel : decode (p_c 164) 49 = .ok (.getfield 104, 3)) (by decide +kernel)
theorem e164_52 : V 164 52 L [.int x] h Q = Q (some (.int x)) h := V_ri (by decide +kernel : decode (p_c 164) 52 = .ok (.ireturn, 1)) rfl
theorem e164_53 : V 164 53 [some (.ref a), l1] st h Q = V 164 54 [some (.ref a), l1] (.ref a :: st) h Q := V_nx (by decide +kernel : decode (p_c 164) 53 = .ok (.aload_n 0, 1)) rfl rfl
theorem e164_54 : V 164 54 L (.ref a :: st) h Q = (p_ok1 [12] 6 (p_get h a) ∧ V 164 57 L (p_fv 6 (p_get h a) :: st) h Q) := V_gf (t := (0, 0, "WaterShouldersModel")) (by decide +kernel : decode (p_c 164) 54 = .ok (.getfield 113, 3)) (by decide +kernel)
theorem e164_57 : V 164 57 L [.int x] h Q = Q (some (.int x)) h := V_ri (by decide +kernel : decode (p_c 164) 57 = .ok (.ireturn, 1)) rfl
theorem e164_58 : V 164 58 [some (.ref a), l1] st h Q = V 164 59 [some (.ref a), l1] (.ref a :: st) h Q := V_nx (by decide +kernel : decode (p_c 164) 58 = .ok (.aload_n 0, 1)) rfl rfl
theorem e164_59 : V 164 59 L (.ref a :: st) h Q = ((p_cn1 (p_get h a) = 12 ∧ p_sm st) ∧ Vm 135 [.ref a] h (Kt 164 62 L st Q)) := V_iv (n := 0) (as := []) (ci := 12) (z := 135) (by decide +kernel : decode (p_c 164) 59 = .ok (.invokevirtual 173, 3)) (by decide +kernel) rfl rfl (by decide +kernel) rfl
theorem e164_62 : V 164 62 L [.int x] h Q = Q (some (.int x)) h := V_ri (by decide +kernel : decode (p_c 164) 62 = .ok (.ireturn, 1)) rfl
theorem e164_63 : V 164 63 [some (.ref a), l1] st h Q = V 164 64 [some (.ref a), l1] (.ref a :: st) h Q := V_nx (by decide +kernel : decode (p_c 164) 63 = .ok (.aload_n 0, 1)) rfl rfl
theorem e164_64 : V 164 64 L (.ref a :: st) h Q = (p_ok1 [12] 5 (p_get h a) ∧ V 164 67 L (p_fv 5 (p_get h a) :: st) h Q) := V_gf (t := (0, 0, "WaterShouldersModel")) (by decide +kernel : decode (p_c 164) 64 = .ok (.getfield 110, 3)) (by decide +kernel)
theorem e164_67 : V 164 67 L [.int x] h Q = Q (some (.int x)) h := V_ri (by decide +kernel : decode (p_c 164) 67 = .ok (.ireturn, 1)) rfl
theorem e164_68 : V 164 68 [some (.ref a), l1] st h Q = V 164 69 [some (.ref a), l1] (.ref a :: st) h Q := V_nx (by decide +kernel : decode (p_c 164) 68 = .ok (.aload_n 0, 1)) rfl rfl
theorem e164_69 : V 164 69 L (.ref a :: st) h Q = (p_ok1 [12] 15 (p_get h a) ∧ V 164 72 L (p_fv 15 (p_get h a) :: st) h Q) := V_gf (t := (0, 0, "WaterShouldersModel")) (by decide +kernel : decode (p_c 164) 69 = .ok (.getfield 116, 3)) (by decide +kernel)
theorem e164_72 : V 164 72 L [.int x] h Q = Q (some (.int x)) h := V_ri (by decide +kernel : decode (p_c 164) 72 = .ok (.ireturn, 1)) rfl
theorem e164_73 : V 164 73 [some (.ref a), l1] st h Q = V 164 74 [some (.ref a), l1] (.ref a :: st) h Q := V_nx (by decide +kernel : decode (p_c 164) 73 = .ok (.aload_n 0, 1)) rfl rfl
theorem e164_74 : V 164 74 L (.ref a :: st) h Q = (p_ok1 [12] 17 (p_get h a) ∧ V 164 77 L (p_fv 17 (p_get h a) :: st) h Q) := V_gf (t := (0, 0, "WaterShouldersModel")) (by decide +kernel : decode (p_c 164) 74 = .ok (.getfield 84, 3)) (by decide +kernel)
theorem e164_77 : V 164 77 L [.int x] h Q = Q (some (.int x)) h := V_ri (by decide +kernel : decode (p_c 164) 77 = .ok (.ireturn, 1)) rfl
theorem e164_78 : V 164 78 [some (.ref a), l1] st h Q = V 164 79 [some (.ref a), l1] (.ref a :: st) h Q := V_nx (by decide +kernel : decode (p_c 164) 78 = .ok (.aload_n 0, 1)) rfl rfl
theorem e164_79 : V 164 79 L (.ref a :: st) h Q = (p_ok1 [12] 4 (p_get h a) ∧ V 164 82 L (p_fv 4 (p_get h a) :: st) h Q) := V_gf (t := (0, 0, "WaterShouldersModel")) (by decide +kernel : decode (p_c 164) 79 = .ok (.getfield 107, 3)) (by decide +kernel)
theorem e164_82 : V 164 82 L [.int x] h Q = Q (some (.int x)) h := V_ri (by decide +kernel : decode (p_c 164) 82 = .ok (.ireturn, 1)) rfl
theorem e164_83 : V 164 83 [some (.ref a), l1] st h Q = V 164 84 [some (.ref a), l1] (.ref a :: st) h Q := V_nx (by decide +kernel : decode (p_c 164) 83 = .ok (.aload_n 0, 1)) rfl rfl
theorem e164_84 : V 164 84 L (.ref a :: st) h Q = (p_ok1 [12] 12 (p_get h a) ∧ V 164 87 L (p_fv 12 (p_get h a) :: st) h Q) := V_gf (t := (0, 0, "WaterShouldersModel")) (by decide +kernel : decode (p_c 164) 84 = .ok (.getfield 194, 3)) (by decide +kernel)
theorem e164_87 : V 164 87 L [.int x] h Q = Q (some (.int x)) h := V_ri (by decide +kernel : decode (p_c 164) 87 = .ok (.ireturn, 1)) rfl
theorem e164_88 : V 164 88 L st h Q = V 164 90 L (.int (-102) :: st) h Q := V_b (by decide +kernel : decode (p_c 164) 88 = .ok (.bipush (-102), 2)) (by decide)
theorem e164_90 : V 164 90 L [.int x] h Q = Q (some (.int x)) h := V_ri (by decide +kernel : decode (p_c 164) 90 = .ok (.ireturn, 1)) rfl
theorem m164 : Vm 164 [.ref a, .int x1] h Q = V 164 0 [some (.ref a), some (.int x1)] [] h Q := rfl
theorem e165_0 : V 165 0 [some (.ref a), l1] st h Q = V 165 1 [some (.ref a), l1] (.ref a :: st) h Q := V_nx (by decide +kernel : decode (p_c 165) 0 = .ok (.aload_n 0, 1)) rfl rfl
theorem e165_1 : V 165 1 [l0, some (.int x)] st h Q = V 165 2 [l0, some (.int x)] (.int x :: st) h Q := V_nx (by decide +kernel : decode (p_c 165) 1 = .ok (.iload_n 1, 1)) rfl rfl
theorem e165_2 : V 165 2 L (.int x1 :: .ref a :: st) h Q = ((p_cn1 (p_get h a) = 12 ∧ p_sm st) ∧ Vm 164 [.ref a, .int x1] h (Kt 165 5 L st Q)) := V_iv (n := 1) (as := [.int x1]) (ci := 12) (z := 164) (by decide +kernel : decode (p_c 165) 2 = .ok (.invokevirtual 275, 3)) (by decide +kernel) rfl rfl (by decide +kernel) rfl
theorem e165_5 : V 165 5 L [.int x] h Q = Q (some (.int x)) h := V_ri (by decide +kernel : decode (p_c 165) 5 = .ok (.ireturn, 1)) rfl
theorem m165 : Vm 165 [.ref a, .int x1] h Q = V 165 0 [some (.ref a), some (.int x1)] [] h Q := rfl
theorem e166_0 : V 166 0 [some (.ref a), l1, l2] st h Q = V 166 1 [some (.ref a), l1, l2] (.ref a :: st) h Q := V_nx (by decide +kernel : decode (p_c 166) 0 = .ok (.aload_n 0, 1)) rfl rfl
theorem e166_1 : V 166 1 L st h Q = V 166 4 L (.long 31 :: st) h Q := V_ldc2 (by decide +kernel : decode (p_c 166) 1 = .ok (.ldc2_w 278, 3)) (by decide +kernel)
theorem e166_4 : V 166 4 [some (.ref a), l1, l2] st h Q = V 166 5 [some (.ref a), l1, l2] (.ref a :: st) h Q := V_nx (by decide +kernel : decode (p_c 166) 4 = .ok (.aload_n 0, 1)) rfl rfl
theorem e166_5 : V 166 5 L (.ref a :: st) h Q = (p_ok1 [12] 44 (p_get h a) ∧ V 166 8 L (p_fv 44 (p_get h a) :: st) h Q) := V_gf (t := (2, 0, "WaterShouldersModel")) (by decide +kernel : decode (p_c 166) 5 = .ok (.getfield 280, 3)) (by decide +kernel)
theorem e166_8 : V 166 8 L (.long w :: .long u :: st) h Q = V 166 9 L (.long (u * w) :: st) h Q := V_nx (by decide +kernel : decode (p_c 166) 8 = .ok (.lmul, 1)) rfl rfl
theorem e166_9 : V 166 9 [l0, some (.long u), l2] st h Q = V 166 10 [l0, some (.long u), l2] (.long u :: st) h Q := V_nx (by decide +kernel : decode (p_c 166) 9 = .ok (.lload_n 1, 1)) rfl rfl
theorem e166_10 : V 166 10 L (.long w :: .long u :: st) h Q = V 166 11 L (.long (u + w) :: st) h Q := V_nx (by decide +kernel : decode (p_c 166) 10 = .ok (.ladd, 1)) rfl rfl
theorem e166_11 : V 166 11 L (.long u :: .ref a :: st) h Q = (p_ok1 [12] 44 (p_get h a) ∧ V 166 14 L st (p_set h a (p_fs 44 (.long u) (p_get h a))) Q) := V_pf2 (fin := 0) (ref := "WaterShouldersModel") (by decide +kernel : decode (p_c 166) 11 = .ok (.putfield 280, 3)) (by decide +kernel) (by decide +kernel)
theorem e166_14 : V 166 14 L [] h Q = Q none h := V_rv (by decide +kernel : decode (p_c 166) 14 = .ok (.return_, 1)) rfl
theorem m166 : Vm 166 [.ref a, .long u1] h Q = V 166 0 [some (.ref a), some (.long u1), none] [] h Q := rfl
theorem e167_0 : V 167 0 [some (.ref a), l1, l2] st h Q = V 167 1 [some (.ref a), l1, l2] (.ref a :: st) h Q := V_nx (by decide +kernel : decode (p_c 167) 0 = .ok (.aload_n 0, 1)) rfl rfl
theorem e167_1 : V 167 1 L st h Q = V 167 4 L (.long 653 :: st) h Q := V_ldc2 (by decide +kernel : decode (p_c 167) 1 = .ok (.ldc2_w 283, 3)) (by decide +kernel)
theorem e167_4 : V 167 4 L (.long u :: .ref a :: st) h Q = (p_ok1 [12] 44 (p_get h a) ∧ V 167 7 L st (p_set h a (p_fs 44 (.long u) (p_get h a))) Q) := V_pf2 (fin := 0) (ref := "WaterShouldersModel") (by decide +kernel : decode (p_c 167) 4 = .ok (.putfield 280, 3)) (by decide +kernel) (by decide +kernel)
theorem e167_7 : V 167 7 L st h Q = V 167 8 L (.int 0 :: st) h Q := V_c (by decide +kernel : decode (p_c 167) 7 = .ok (.iconst 0, 1)) (by decide)
theorem e167_8 : V 167 8 [l0, l1, l2] (.int x :: st) h Q = V 167 9 [p_dl l0, some (.int x), l2] st h Q := V_nx (by decide +kernel : decode (p_c 167) 8 = .ok (.istore_n 1, 1)) rfl rfl
theorem e167_9 : V 167 9 [l0, some (.int x), l2] st h Q = V 167 10 [l0, some (.int x), l2] (.int x :: st) h Q := V_nx (by decide +kernel : decode (p_c 167) 9 = .ok (.iload_n 1, 1)) rfl rfl
theorem e167_10 : V 167 10 [some (.ref a), l1, l2] st h Q = V 167 11 [some (.ref a), l1, l2] (.ref a :: st) h Q := V_nx (by decide +kernel : decode (p_c 167) 10 = .ok (.aload_n 0, 1)) rfl rfl
theorem e167_11 : V 167 11 L (.ref a :: st) h Q = (p_ok1 [12] 0 (p_get h a) ∧ V 167 14 L (p_fv 0 (p_get h a) :: st) h Q) := V_gf (t := (0, 0, "WaterShouldersModel")) (by decide +kernel : decode (p_c 167) 11 = .ok (.getfield 104, 3)) (by decide +kernel)
theorem e167_14 : V 167 14 L (.int z :: .int x :: st) h Q = if x < z then V 167 17 L st h Q else V 167 57 L st h Q := (V_icmp (by decide +kernel : decode (p_c 167) 14 = .ok (.if_icmp .ge 43, 3)) (by decide)).trans i_ge
theorem e167_17 : V 167 17 L st h Q = V 167 18 L (.int 0 :: st) h Q := V_c (by decide +kernel : decode (p_c 167) 17 = .ok (.iconst 0, 1)) (by decide)
theorem e167_18 : V 167 18 [l0, l1, l2] (.int x :: st) h Q = V 167 19 [l0, p_dl l1, some (.int x)] st h Q := V_nx (by decide +kernel : decode (p_c 167) 18 = .ok (.istore_n 2, 1)) rfl rfl
theorem e167_19 : V 167 19 [l0, l1, some (.int x)] st h Q = V 167 20 [l0, l1, some (.int x)] (.int x :: st) h Q := V_nx (by decide +kernel : decode (p_c 167) 19 = .ok (.iload_n 2, 1)) rfl rfl
theorem e167_20 : V 167 20 L st h Q = V 167 21 L (.int 3 :: st) h Q := V_c (by decide +kernel : decode (p_c 167) 20 = .ok (.iconst 3, 1)) (by decide)
theorem e167_21 : V 167 21 L (.int z :: .int x :: st) h Q = if x < z then V 167 24 L st h Q else V 167 41 L st h Q := (V_icmp (by decide +kernel : decode (p_c 167) 21 = .ok (.if_icmp .ge 20, 3)) (by decide)).trans i_ge
theorem e167_24 : V 167 24 [some (.ref a), l1, l2] st h Q = V 167 25 [some (.ref a), l1, l2] (.ref a :: st) h Q := V_nx (by decide +kernel : decode (p_c 167) 24 = .ok (.aload_n 0, 1)) rfl rfl
theorem e167_25 : V 167 25 [some (.ref a), l1, l2] st h Q = V 167 26 [some (.ref a), l1, l2] (.ref a :: st) h Q := V_nx (by decide +kernel : decode (p_c 167) 25 = .ok (.aload_n 0, 1)) rfl rfl
theorem e167_26 : V 167 26 [l0, some (.int x), l2] st h Q = V 167 27 [l0, some (.int x), l2] (.int x :: st) h Q := V_nx (by decide +kernel : decode (p_c 167) 26 = .ok (.iload_n 1, 1)) rfl rfl
theorem e167_27 : V 167 27 [l0, l1, some (.int x)] st h Q = V 167 28 [l0, l1, some (.int x)] (.int x :: st) h Q := V_nx (by decide +kernel : decode (p_c 167) 27 = .ok (.iload_n 2, 1)) rfl rfl
theorem e167_28 : V 167 28 L (.int x2 :: .int x1 :: .ref a :: st) h Q = ((p_cn1 (p_get h a) = 12 ∧ p_sm st) ∧ Vm 113 [.ref a, .int x1, .int x2] h (Kt 167 31 L st Q)) := V_iv (n := 2) (as := [.int x2, .int x1]) (ci := 12) (z := 113) (by decide +kernel : decode (p_c 167) 28 = .ok (.invokevirtual 123, 3)) (by decide +kernel) rfl rfl (by decide +kernel) rfl
theorem e167_31 : V 167 31 L (.int x :: st) h Q = V 167 32 L (.long x.toInt64 :: st) h Q := V_nx (by decide +kernel : decode (p_c 167) 31 = .ok (.i2l, 1)) rfl rfl
theorem e167_32 : V 167 32 L (.long u1 :: .ref a :: st) h Q = ((p_cn1 (p_get h a) = 12 ∧ p_sm st) ∧ Vm 166 [.ref a, .long u1] h (Kt 167 35 L st Q)) := V_iv (n := 1) (as := [.long u1]) (ci := 12) (z := 166) (by decide +kernel : decode (p_c 167) 32 = .ok (.invokevirtual 285, 3)) (by decide +kernel) rfl rfl (by decide +kernel) rfl
theorem e167_35 : V 167 35 [l0, l1, some (.int x)] st h Q = V 167 38 [l0, p_dl l1, some (.int (x + 1))] st h Q := V_iinc (x := x) (by decide +kernel : decode (p_c 167) 35 = .ok (.iinc 2 1, 3)) (by decide) rfl (Nat.le_of_ble_eq_true rfl)
theorem e167_38 : V 167 38 L st h Q = V 167 19 L st h Q := V_goto (by decide +kernel : decode (p_c 167) 38 = .ok (.goto (-19), 3)) (by decide)
theorem e167_41 : V 167 41 [some (.ref a), l1, l2] st h Q = V 167 42 [some (.ref a), l1, l2] (.ref a :: st) h Q := V_nx (by decide +kernel : decode (p_c 167) 41 = .ok (.aload_n 0, 1)) rfl rfl
theorem e167_42 : V 167 42 [some (.ref a), l1, l2] st h Q = V 167 43 [some (.ref a), l1, l2] (.ref a :: st) h Q := V_nx (by decide +kernel : decode (p_c 167) 42 = .ok (.aload_n 0, 1)) rfl rfl
theorem e167_43 : V 167 43 [l0, some (.int x), l2] st h Q = V 167 44 [l0, some (.int x), l2] (.int x :: st) h Q := V_nx (by decide +kernel : decode (p_c 167) 43 = .ok (.iload_n 1, 1)) rfl rfl
theorem e167_44 : V 167 44 L (.int x1 :: .ref a :: st) h Q = ((p_cn1 (p_get h a) = 12 ∧ p_sm st) ∧ Vm 146 [.ref a, .int x1] h (Kt 167 47 L st Q)) := V_iv (n := 1) (as := [.int x1]) (ci := 12) (z := 146) (by decide +kernel : decode (p_c 167) 44 = .ok (.invokevirtual 203, 3)) (by decide +kernel) rfl rfl (by decide +kernel) rfl
theorem e167_47 : V 167 47 L (.int x :: st) h Q = V 167 48 L (.long x.toInt64 :: st) h Q := V_nx (by decide +kernel : decode (p_c 167) 47 = .ok (.i2l, 1)) rfl rfl
theorem e167_48 : V 167 48 L (.long u1 :: .ref a :: st) h Q = ((p_cn1 (p_get h a) = 12 ∧ p_sm st) ∧ Vm 166 [.ref a, .long u1] h (Kt 167 51 L st Q)) := V_iv (n := 1) (as := [.long u1]) (ci := 12) (z := 166) (by decide +kernel : decode (p_c 167) 48 = .ok (.invokevirtual 285, 3)) (by decide +kernel) rfl rfl (by decide +kernel) rfl
theorem e167_51 : V 167 51 [l0, some (.int x), l2] st h Q = V 167 54 [p_dl l0, some (.int (x + 1)), l2] st h Q := V_iinc (x := x) (by decide +kernel : decode (p_c 167) 51 = .ok (.iinc 1 1, 3)) (by decide) rfl (Nat.le_of_ble_eq_true rfl)
theorem e167_54 : V 167 54 L st h Q = V 167 9 L st h Q := V_goto (by decide +kernel : decode (p_c 167) 54 = .ok (.goto (-45), 3)) (by decide)
theorem e167_57 : V 167 57 L st h Q = V 167 58 L (.int 0 :: st) h Q := V_c (by decide +kernel : decode (p_c 167) 57 = .ok (.iconst 0, 1)) (by decide)
theorem e167_58 : V 167 58 [l0, l1, l2] (.int x :: st) h Q = V 167 59 [p_dl l0, some (.int x), l2] st h Q := V_nx (by decide +kernel : decode (p_c 167) 58 = .ok (.istore_n 1, 1)) rfl rfl
theorem e167_59 : V 167 59 [l0, some (.int x), l2] st h Q = V 167 60 [l0, some (.int x), l2] (.int x :: st) h Q := V_nx (by decide +kernel : decode (p_c 167) 59 = .ok (.iload_n 1, 1)) rfl rfl
theorem e167_60 : V 167 60 [some (.ref a), l1, l2] st h Q = V 167 61 [some (.ref a), l1, l2] (.ref a :: st) h Q := V_nx (by decide +kernel : decode (p_c 167) 60 = .ok (.aload_n 0, 1)) rfl rfl
theorem e167_61 : V 167 61 L (.ref a :: st) h Q = (p_ok1 [12] 6 (p_get h a) ∧ V 167 64 L (p_fv 6 (p_get h a) :: st) h Q) := V_gf (t := (0, 0, "WaterShouldersModel")) (by decide +kernel : decode (p_c 167) 61 = .ok (.getfield 113, 3)) (by decide +kernel)
theorem e167_64 : V 167 64 L (.int z :: .int x :: st) h Q = if x < z then V 167 67 L st h Q else V 167 108 L st h Q := (V_icmp (by decide +kernel : decode (p_c 167) 64 = .ok (.if_icmp .ge 44, 3)) (by decide)).trans i_ge
theorem e167_67 : V 167 67 L st h Q = V 167 68 L (.int 0 :: st) h Q := V_c (by decide +kernel : decode (p_c 167) 67 = .ok (.iconst 0, 1)) (by decide)
theorem e167_68 : V 167 68 [l0, l1, l2] (.int x :: st) h Q = V 167 69 [l0, p_dl l1, some (.int x)] st h Q := V_nx (by decide +kernel : decode (p_c 167) 68 = .ok (.istore_n 2, 1)) rfl rfl
theorem e167_69 : V 167 69 [l0, l1, some (.int x)] st h Q = V 167 70 [l0, l1, some (.int x)] (.int x :: st) h Q := V_nx (by decide +kernel : decode (p_c 167) 69 = .ok (.iload_n 2, 1)) rfl rfl
theorem e167_70 : V 167 70 L st h Q = V 167 72 L (.int 8 :: st) h Q := V_b (by decide +kernel : decode (p_c 167) 70 = .ok (.bipush 8, 2)) (by decide)
theorem e167_72 : V 167 72 L (.int z :: .int x :: st) h Q = if x < z then V 167 75 L st h Q else V 167 92 L st h Q := (V_icmp (by decide +kernel : decode (p_c 167) 72 = .ok (.if_icmp .ge 20, 3)) (by decide)).trans i_ge
theorem e167_75 : V 167 75 [some (.ref a), l1, l2] st h Q = V 167 76 [some (.ref a), l1, l2] (.ref a :: st) h Q := V_nx (by decide +kernel : decode (p_c 167) 75 = .ok (.aload_n 0, 1)) rfl rfl
theorem e167_76 : V 167 76 [some (.ref a), l1, l2] st h Q = V 167 77 [some (.ref a), l1, l2] (.ref a :: st) h Q := V_nx (by decide +kernel : decode (p_c 167) 76 = .ok (.aload_n 0, 1)) rfl rfl
theorem e167_77 : V 167 77 [l0, some (.int x), l2] st h Q = V 167 78 [l0, some (.int x), l2] (.int x :: st) h Q := V_nx (by decide +kernel : decode (p_c 167) 77 = .ok (.iload_n 1, 1)) rfl rfl
theorem e167_78 : V 167 78 [l0, l1, some (.int x)] st h Q = V 167 79 [l0, l1, some (.int x)] (.int x :: st) h Q := V_nx (by decide +kernel : decode (p_c 167) 78 = .ok (.iload_n 2, 1)) rfl rfl
theorem e167_79 : V 167 79 L (.int x2 :: .int x1 :: .ref a :: st) h Q = ((p_cn1 (p_get h a) = 12 ∧ p_sm st) ∧ Vm 121 [.ref a, .int x1, .int x2] h (Kt 167 82 L st Q)) := V_iv (n := 2) (as := [.int x2, .int x1]) (ci := 12) (z := 121) (by decide +kernel : decode (p_c 167) 79 = .ok (.invokevirtual 143, 3)) (by decide +kernel) rfl rfl (by decide +kernel) rfl
theorem e167_82 : V 167 82 L (.int x :: st) h Q = V 167 83 L (.long x.toInt64 :: st) h Q := V_nx (by decide +kernel : decode (p_c 167) 82 = .ok (.i2l, 1)) rfl rfl
theorem e167_83 : V 167 83 L (.long u1 :: .ref a :: st) h Q = ((p_cn1 (p_get h a) = 12 ∧ p_sm st) ∧ Vm 166 [.ref a, .long u1] h (Kt 167 86 L st Q)) := V_iv (n := 1) (as := [.long u1]) (ci := 12) (z := 166) (by decide +kernel : decode (p_c 167) 83 = .ok (.invokevirtual 285, 3)) (by decide +kernel) rfl rfl (by decide +kernel) rfl
theorem e167_86 : V 167 86 [l0, l1, some (.int x)] st h Q = V 167 89 [l0, p_dl l1, some (.int (x + 1))] st h Q := V_iinc (x := x) (by decide +kernel : decode (p_c 167) 86 = .ok (.iinc 2 1, 3)) (by decide) rfl (Nat.le_of_ble_eq_true rfl)
theorem e167_89 : V 167 89 L st h Q = V 167 69 L st h Q := V_goto (by decide +kernel : decode (p_c 167) 89 = .ok (.goto (-20), 3)) (by decide)
theorem e167_92 : V 167 92 [some (.ref a), l1, l2] st h Q = V 167 93 [some (.ref a), l1, l2] (.ref a :: st) h Q := V_nx (by decide +kernel : decode (p_c 167) 92 = .ok (.aload_n 0, 1)) rfl rfl
theorem e167_93 : V 167 93 [some (.ref a), l1, l2] st h Q = V 167 94 [some (.ref a), l1, l2] (.ref a :: st) h Q := V_nx (by decide +kernel : decode (p_c 167) 93 = .ok (.aload_n 0, 1)) rfl rfl
theorem e167_94 : V 167 94 [l0, some (.int x), l2] st h Q = V 167 95 [l0, some (.int x), l2] (.int x :: st) h Q := V_nx (by decide +kernel : decode (p_c 167) 94 = .ok (.iload_n 1, 1)) rfl rfl
theorem e167_95 : V 167 95 L (.int x1 :: .ref a :: st) h Q = ((p_cn1 (p_get h a) = 12 ∧ p_sm st) ∧ Vm 144 [.ref a, .int x1] h (Kt 167 98 L st Q)) := V_iv (n := 1) (as := [.int x1]) (ci := 12) (z := 144) (by decide +kernel : decode (p_c 167) 95 = .ok (.invokevirtual 200, 3)) (by decide +kernel) rfl rfl (by decide +kernel) rfl
theorem e167_98 : V 167 98 L (.int x :: st) h Q = V 167 99 L (.long x.toInt64 :: st) h Q := V_nx (by decide +kernel : decode (p_c 167) 98 = .ok (.i2l, 1)) rfl rfl
theorem e167_99 : V 167 99 L (.long u1 :: .ref a :: st) h Q = ((p_cn1 (p_get h a) = 12 ∧ p_sm st) ∧ Vm 166 [.ref a, .long u1] h (Kt 167 102 L st Q)) := V_iv (n := 1) (as := [.long u1]) (ci := 12) (z := 166) (by decide +kernel : decode (p_c 167) 99 = .ok (.invokevirtual 285, 3)) (by decide +kernel) rfl rfl (by decide +kernel) rfl
theorem e167_102 : V 167 102 [l0, some (.int x), l2] st h Q = V 167 105 [p_dl l0, some (.int (x + 1)), l2] st h Q := V_iinc (x := x) (by decide +kernel : decode (p_c 167) 102 = .ok (.iinc 1 1, 3)) (by decide) rfl (Nat.le_of_ble_eq_true rfl)
theorem e167_105 : V 167 105 L st h Q = V 167 59 L st h Q := V_goto (by decide +kernel : decode (p_c 167) 105 = .ok (.goto (-46), 3)) (by decide)
theorem e167_108 : V 167 108 [some (.ref a), l1, l2] st h Q = V 167 109 [some (.ref a), l1, l2] (.ref a :: st) h Q := V_nx (by decide +kernel : decode (p_c 167) 108 = .ok (.aload_n 0, 1)) rfl rfl
theorem e167_109 : V 167 109 L (.ref a :: st) h Q = (p_ok1 [12] 0 (p_get h a) ∧ V 167 112 L (p_fv 0 (p_get h a) :: st) h Q) := V_gf (t := (0, 0, "WaterShouldersModel")) (by decide +kernel : decode (p_c 167) 109 = .ok (.getfield 104, 3)) (by decide +kernel)
theorem e167_112 : V 167 112 L (.int x :: st) h Q = if 0 < x then V 167 115 L st h Q else V 167 125 L st h Q := (V_ifc (by decide +kernel : decode (p_c 167) 112 = .ok (.ifCond .le 13, 3)) (by decide)).trans i_le
theorem e167_115 : V 167 115 [some (.ref a), l1, l2] st h Q = V 167 116 [some (.ref a), l1, l2] (.ref a :: st) h Q := V_nx (by decide +kernel : decode (p_c 167) 115 = .ok (.aload_n 0, 1)) rfl rfl
theorem e167_116 : V 167 116 [some (.ref a), l1, l2] st h Q = V 167 117 [some (.ref a), l1, l2] (.ref a :: st) h Q := V_nx (by decide +kernel : decode (p_c 167) 116 = .ok (.aload_n 0, 1)) rfl rfl
theorem e167_117 : V 167 117 L st h Q = V 167 118 L (.int 3 :: st) h Q := V_c (by decide +kernel : decode (p_c 167) 117 = .ok (.iconst 3, 1)) (by decide)
theorem e167_118 : V 167 118 L (.int x1 :: .ref a :: st) h Q = ((p_cn1 (p_get h a) = 12 ∧ p_sm st) ∧ Vm 148 [.ref a, .int x1] h (Kt 167 121 L st Q)) := V_iv (n := 1) (as := [.int x1]) (ci := 12) (z := 148) (by decide +kernel : decode (p_c 167) 118 = .ok (.invokevirtual 206, 3)) (by decide +kernel) rfl rfl (by decide +kernel) rfl
theorem e167_121 : V 167 121 L (.int x :: st) h Q = V 167 122 L (.long x.toInt64 :: st) h Q := V_nx (by decide +kernel : decode (p_c 167) 121 = .ok (.i2l, 1)) rfl rfl
theorem e167_122 : V 167 122 L (.long u1 :: .ref a :: st) h Q = ((p_cn1 (p_get h a) = 12 ∧ p_sm st) ∧ Vm 166 [.ref a, .long u1] h (Kt 167 125 L st Q)) := V_iv (n := 1) (as := [.long u1]) (ci := 12) (z := 166) (by decide +kernel : decode (p_c 167) 122 = .ok (.invokevirtual 285, 3)) (by decide +kernel) rfl rfl (by decide +kernel) rfl
theorem e167_125 : V 167 125 L st h Q = V 167 126 L (.int 0 :: st) h Q := V_c (by decide +kernel : decode (p_c 167) 125 = .ok (.iconst 0, 1)) (by decide)
theorem e167_126 : V 167 126 [l0, l1, l2] (.int x :: st) h Q = V 167 127 [p_dl l0, some (.int x), l2] st h Q := V_nx (by decide +kernel : decode (p_c 167) 126 = .ok (.istore_n 1, 1)) rfl rfl
theorem e167_127 : V 167 127 [l0, some (.int x), l2] st h Q = V 167 128 [l0, some (.int x), l2] (.int x :: st) h Q := V_nx (by decide +kernel : decode (p_c 167) 127 = .ok (.iload_n 1, 1)) rfl rfl
theorem e167_128 : V 167 128 [some (.ref a), l1, l2] st h Q = V 167 129 [some (.ref a), l1, l2] (.ref a :: st) h Q := V_nx (by decide +kernel : decode (p_c 167) 128 = .ok (.aload_n 0, 1)) rfl rfl
theorem e167_129 : V 167 129 L (.ref a :: st) h Q = (p_ok1 [12] 15 (p_get h a) ∧ V 167 132 L (p_fv 15 (p_get h a) :: st) h Q) := V_gf (t := (0, 0, "WaterShouldersModel")) (by decide +kernel : decode (p_c 167) 129 = .ok (.getfield 116, 3)) (by decide +kernel)
theorem e167_132 : V 167 132 L (.int z :: .int x :: st) h Q = if x < z then V 167 135 L st h Q else V 167 152 L st h Q := (V_icmp (by decide +kernel : decode (p_c 167) 132 = .ok (.if_icmp .ge 20, 3)) (by decide)).trans i_ge
theorem e167_135 : V 167 135 [some (.ref a), l1, l2] st h Q = V 167 136 [some (.ref a), l1, l2] (.ref a :: st) h Q := V_nx (by decide +kernel : decode (p_c 167) 135 = .ok (.aload_n 0, 1)) rfl rfl
theorem e167_136 : V 167 136 [some (.ref a), l1, l2] st h Q = V 167 137 [some (.ref a), l1, l2] (.ref a :: st) h Q := V_nx (by decide +kernel : decode (p_c 167) 136 = .ok (.aload_n 0, 1)) rfl rfl
theorem e167_137 : V 167 137 L (.ref a :: st) h Q = (p_ok1 [12] 16 (p_get h a) ∧ V 167 140 L (p_fv 16 (p_get h a) :: st) h Q) := V_gf (t := (3, 1, "WaterShouldersModel")) (by decide +kernel : decode (p_c 167) 137 = .ok (.getfield 38, 3)) (by decide +kernel)
theorem e167_140 : V 167 140 [l0, some (.int x), l2] st h Q = V 167 141 [l0, some (.int x), l2] (.int x :: st) h Q := V_nx (by decide +kernel : decode (p_c 167) 140 = .ok (.iload_n 1, 1)) rfl rfl
theorem e167_141 : V 167 141 L (.int i :: .ref a :: st) h Q = (p_iok i (p_get h a) ∧ V 167 142 L (.int (p_ivl i (p_get h a)) :: st) h Q) := V_ial (by decide +kernel : decode (p_c 167) 141 = .ok (.iaload, 1))
theorem e167_142 : V 167 142 L (.int x :: st) h Q = V 167 143 L (.long x.toInt64 :: st) h Q := V_nx (by decide +kernel : decode (p_c 167) 142 = .ok (.i2l, 1)) rfl rfl
theorem e167_143 : V 167 143 L (.long u1 :: .ref a :: st) h Q = ((p_cn1 (p_get h a) = 12 ∧ p_sm st) ∧ Vm 166 [.ref a, .long u1] h (Kt 167 146 L st Q)) := V_iv (n := 1) (as := [.long u1]) (ci := 12) (z := 166) (by decide +kernel : decode (p_c 167) 143 = .ok (.invokevirtual 285, 3)) (by decide +kernel) rfl rfl (by decide +kernel) rfl
theorem e167_146 : V 167 146 [l0, some (.int x), l2] st h Q = V 167 149 [p_dl l0, some (.int (x + 1)), l2] st h Q := V_iinc (x := x) (by decide +kernel : decode (p_c 167) 146 = .ok (.iinc 1 1, 3)) (by decide) rfl (Nat.le_of_ble_eq_true rfl)
theorem e167_149 : V 167 149 L st h Q = V 167 127 L st h Q := V_goto (by decide +kernel : decode (p_c 167) 149 = .ok (.goto (-22), 3)) (by decide)
theorem e167_152 : V 167 152 [some (.ref a), l1, l2] st h Q = V 167 153 [some (.ref a), l1, l2] (.ref a :: st) h Q := V_nx (by decide +kernel : decode (p_c 167) 152 = .ok (.aload_n 0, 1)) rfl rfl
theorem e167_153 : V 167 153 L (.ref a :: st) h Q = (p_ok1 [12] 13 (p_get h a) ∧ V 167 156 L (p_fv 13 (p_get h a) :: st) h Q) := V_gf (t := (0, 0, "WaterShouldersModel")) (by decide +kernel : decode (p_c 167) 153 = .ok (.getfield 34, 3)) (by decide +kernel)
theorem e167_156 : V 167 156 L st h Q = V 167 157 L (.int (-1) :: st) h Q := V_c (by decide +kernel : decode (p_c 167) 156 = .ok (.iconst (-1), 1)) (by decide)
theorem e167_157 : V 167 157 L (.int z :: .int x :: st) h Q = if x = z then V 167 170 L st h Q else V 167 160 L st h Q := (V_icmp (by decide +kernel : decode (p_c 167) 157 = .ok (.if_icmp .eq 13, 3)) (by decide)).trans i_eq
theorem e167_160 : V 167 160 [some (.ref a), l1, l2] st h Q = V 167 161 [some (.ref a), l1, l2] (.ref a :: st) h Q := V_nx (by decide +kernel : decode (p_c 167) 160 = .ok (.aload_n 0, 1)) rfl rfl
theorem e167_161 : V 167 161 [some (.ref a), l1, l2] st h Q = V 167 162 [some (.ref a), l1, l2] (.ref a :: st) h Q := V_nx (by decide +kernel : decode (p_c 167) 161 = .ok (.aload_n 0, 1)) rfl rfl
theorem e167_162 : V 167 162 L st h Q = V 167 163 L (.int 0 :: st) h Q := V_c (by decide +kernel : decode (p_c 167) 162 = .ok (.iconst 0, 1)) (by decide)
theorem e167_163 : V 167 163 L (.int x1 :: .ref a :: st) h Q = ((p_cn1 (p_get h a) = 12 ∧ p_sm st) ∧ Vm 156 [.ref a, .int x1] h (Kt 167 166 L st Q)) := V_iv (n := 1) (as := [.int x1]) (ci := 12) (z := 156) (by decide +kernel : decode (p_c 167) 163 = .ok (.invokevirtual 233, 3)) (by decide +kernel) rfl rfl (by decide +kernel) rfl
theorem e167_166 : V 167 166 L (.int x :: st) h Q = V 167 167 L (.long x.toInt64 :: st) h Q := V_nx (by decide +kernel : decode (p_c 167) 166 = .ok (.i2l, 1)) rfl rfl
theorem e167_167 : V 167 167 L (.long u1 :: .ref a :: st) h Q = ((p_cn1 (p_get h a) = 12 ∧ p_sm st) ∧ Vm 166 [.ref a, .long u1] h (Kt 167 170 L st Q)) := V_iv (n := 1) (as := [.long u1]) (ci := 12) (z := 166) (by decide +kernel : decode (p_c 167) 167 = .ok (.invokevirtual 285, 3)) (by decide +kernel) rfl rfl (by decide +kernel) rfl
theorem e167_170 : V 167 170 L st h Q = V 167 171 L (.int 0 :: st) h Q := V_c (by decide +kernel : decode (p_c 167) 170 = .ok (.iconst 0, 1)) (by decide)
theorem e167_171 : V 167 171 [l0, l1, l2] (.int x :: st) h Q = V 167 172 [p_dl l0, some (.int x), l2] st h Q := V_nx (by decide +kernel : decode (p_c 167) 171 = .ok (.istore_n 1, 1)) rfl rfl
theorem e167_172 : V 167 172 [l0, some (.int x), l2] st h Q = V 167 173 [l0, some (.int x), l2] (.int x :: st) h Q := V_nx (by decide +kernel : decode (p_c 167) 172 = .ok (.iload_n 1, 1)) rfl rfl
theorem e167_173 : V 167 173 [some (.ref a), l1, l2] st h Q = V 167 174 [some (.ref a), l1, l2] (.ref a :: st) h Q := V_nx (by decide +kernel : decode (p_c 167) 173 = .ok (.aload_n 0, 1)) rfl rfl
theorem e167_174 : V 167 174 L (.ref a :: st) h Q = (p_ok1 [12] 17 (p_get h a) ∧ V 167 177 L (p_fv 17 (p_get h a) :: st) h Q) := V_gf (t := (0, 0, "WaterShouldersModel")) (by decide +kernel : decode (p_c 167) 174 = .ok (.getfield 84, 3)) (by decide +kernel)
theorem e167_177 : V 167 177 L (.int z :: .int x :: st) h Q = if x < z then V 167 180 L st h Q else V 167 197 L st h Q := (V_icmp (by decide +kernel : decode (p_c 167) 177 = .ok (.if_icmp .ge 20, 3)) (by decide)).trans i_ge
theorem e167_180 : V 167 180 [some (.ref a), l1, l2] st h Q = V 167 181 [some (.ref a), l1, l2] (.ref a :: st) h Q := V_nx (by decide +kernel : decode (p_c 167) 180 = .ok (.aload_n 0, 1)) rfl rfl
theorem e167_181 : V 167 181 [some (.ref a), l1, l2] st h Q = V 167 182 [some (.ref a), l1, l2] (.ref a :: st) h Q := V_nx (by decide +kernel : decode (p_c 167) 181 = .ok (.aload_n 0, 1)) rfl rfl
theorem e167_182 : V 167 182 L (.ref a :: st) h Q = (p_ok1 [12] 18 (p_get h a) ∧ V 167 185 L (p_fv 18 (p_get h a) :: st) h Q) := V_gf (t := (3, 1, "WaterShouldersModel")) (by decide +kernel : decode (p_c 167) 182 = .ok (.getfield 41, 3)) (by decide +kernel)
theorem e167_185 : V 167 185 [l0, some (.int x), l2] st h Q = V 167 186 [l0, some (.int x), l2] (.int x :: st) h Q := V_nx (by decide +kernel : decode (p_c 167) 185 = .ok (.iload_n 1, 1)) rfl rfl
theorem e167_186 : V 167 186 L (.int i :: .ref a :: st) h Q = (p_bok i (p_get h a) ∧ V 167 187 L (.int (p_ivl i (p_get h a)) :: st) h Q) := V_bal (by decide +kernel : decode (p_c 167) 186 = .ok (.baload, 1))
theorem e167_187 : V 167 187 L (.int x :: st) h Q = V 167 188 L (.long x.toInt64 :: st) h Q := V_nx (by decide +kernel : decode (p_c 167) 187 = .ok (.i2l, 1)) rfl rfl
theorem e167_188 : V 167 188 L (.long u1 :: .ref a :: st) h Q = ((p_cn1 (p_get h a) = 12 ∧ p_sm st) ∧ Vm 166 [.ref a, .long u1] h (Kt 167 191 L st Q)) := V_iv (n := 1) (as := [.long u1]) (ci := 12) (z := 166) (by decide +kernel : decode (p_c 167) 188 = .ok (.invokevirtual 285, 3)) (by decide +kernel) rfl rfl (by decide +kernel) rfl
theorem e167_191 : V 167 191 [l0, some (.int x), l2] st h Q = V 167 194 [p_dl l0, some (.int (x + 1)), l2] st h Q := V_iinc (x := x) (by decide +kernel : decode (p_c 167) 191 = .ok (.iinc 1 1, 3)) (by decide) rfl (Nat.le_of_ble_eq_true rfl)
theorem e167_194 : V 167 194 L st h Q = V 167 172 L st h Q := V_goto (by decide +kernel : decode (p_c 167) 194 = .ok (.goto (-22), 3)) (by decide)
theorem e167_197 : V 167 197 L st h Q = V 167 198 L (.int 0 :: st) h Q := V_c (by decide +kernel : decode (p_c 167) 197 = .ok (.iconst 0, 1)) (by decide)
theorem e167_198 : V 167 198 [l0, l1, l2] (.int x :: st) h Q = V 167 199 [p_dl l0, some (.int x), l2] st h Q := V_nx (by decide +kernel : decode (p_c 167) 198 = .ok (.istore_n 1, 1)) rfl rfl
theorem e167_199 : V 167 199 [l0, some (.int x), l2] st h Q = V 167 200 [l0, some (.int x), l2] (.int x :: st) h Q := V_nx (by decide +kernel : decode (p_c 167) 199 = .ok (.iload_n 1, 1)) rfl rfl
theorem e167_200 : V 167 200 L st h Q = V 167 202 L (.int 8 :: st) h Q := V_b (by decide +kernel : decode (p_c 167) 200 = .ok (.bipush 8, 2)) (by decide)
theorem e167_202 : V 167 202 L (.int z :: .int x :: st) h Q = if x < z then V 167 205 L st h Q else V 167 221 L st h Q := (V_icmp (by decide +kernel : decode (p_c 167) 202 = .ok (.if_icmp .ge 19, 3)) (by decide)).trans i_ge
theorem e167_205 : V 167 205 [some (.ref a), l1, l2] st h Q = V 167 206 [some (.ref a), l1, l2] (.ref a :: st) h Q := V_nx (by decide +kernel : decode (p_c 167) 205 = .ok (.aload_n 0, 1)) rfl rfl
theorem e167_206 : V 167 206 [some (.ref a), l1, l2] st h Q = V 167 207 [some (.ref a), l1, l2] (.ref a :: st) h Q := V_nx (by decide +kernel : decode (p_c 167) 206 = .ok (.aload_n 0, 1)) rfl rfl
theorem e167_207 : V 167 207 [l0, some (.int x), l2] st h Q = V 167 208 [l0, some (.int x), l2] (.int x :: st) h Q := V_nx (by decide +kernel : decode (p_c 167) 207 = .ok (.iload_n 1, 1)) rfl rfl
theorem e167_208 : V 167 208 L (.int x1 :: .ref a :: st) h Q = ((p_cn1 (p_get h a) = 12 ∧ p_sm st) ∧ Vm 164 [.ref a, .int x1] h (Kt 167 211 L st Q)) := V_iv (n := 1) (as := [.int x1]) (ci := 12) (z := 164) (by decide +kernel : decode (p_c 167) 208 = .ok (.invokevirtual 275, 3)) (by decide +kernel) rfl rfl (by decide +kernel) rfl
theorem e167_211 : V 167 211 L (.int x :: st) h Q = V 167 212 L (.long x.toInt64 :: st) h Q := V_nx (by decide +kernel : decode (p_c 167) 211 = .ok (.i2l, 1)) rfl rfl
theorem e167_212 : V 167 212 L (.long u1 :: .ref a :: st) h Q = ((p_cn1 (p_get h a) = 12 ∧ p_sm st) ∧ Vm 166 [.ref a, .long u1] h (Kt 167 215 L st Q)) := V_iv (n := 1) (as := [.long u1]) (ci := 12) (z := 166) (by decide +kernel : decode (p_c 167) 212 = .ok (.invokevirtual 285, 3)) (by decide +kernel) rfl rfl (by decide +kernel) rfl
theorem e167_215 : V 167 215 [l0, some (.int x), l2] st h Q = V 167 218 [p_dl l0, some (.int (x + 1)), l2] st h Q := V_iinc (x := x) (by decide +kernel : decode (p_c 167) 215 = .ok (.iinc 1 1, 3)) (by decide) rfl (Nat.le_of_ble_eq_true rfl)
theorem e167_218 : V 167 218 L st h Q = V 167 199 L st h Q := V_goto (by decide +kernel : decode (p_c 167) 218 = .ok (.goto (-19), 3)) (by decide)
theorem e167_221 : V 167 221 [some (.ref a), l1, l2] st h Q = V 167 222 [some (.ref a), l1, l2] (.ref a :: st) h Q := V_nx (by decide +kernel : decode (p_c 167) 221 = .ok (.aload_n 0, 1)) rfl rfl
theorem e167_222 : V 167 222 L (.ref a :: st) h Q = (p_ok1 [12] 44 (p_get h a) ∧ V 167 225 L (p_fv 44 (p_get h a) :: st) h Q) := V_gf (t := (2, 0, "WaterShouldersModel")) (by decide +kernel : decode (p_c 167) 222 = .ok (.getfield 280, 3)) (by decide +kernel)
theorem e167_225 : V 167 225 L [.long u] h Q = Q (some (.long u)) h := V_rl (by decide +kernel : decode (p_c 167) 225 = .ok (.lreturn, 1)) rfl
theorem m167 : Vm 167 [.ref a] h Q = V 167 0 [some (.ref a), none, none] [] h Q := rfl
end EE
