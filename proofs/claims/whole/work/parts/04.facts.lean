def p_ch : Nat → List Cond
  | 0 => k2_sels lw_privs
  | 1 => tables_1_1
  | 2 => tables_1_2
  | 3 => tables_1_3
  | 4 => tables_1_4
  | 5 => tables_1_5
  | _ => []
def p_w (i : Nat) (w : Cond) : Bool := decide ((p_ch (i / 1000))[i % 1000]? = some w) && goodWord w
def pT : List Cond := lw_tbl.filter goodWord
theorem p_chT (c : Nat) : ∀ w ∈ p_ch c, w ∈ lw_tbl := by
  intro w hw
  have e : lw_tbl = k2_sels lw_privs ++ (tables_1_1 ++ (tables_1_2 ++ (tables_1_3 ++ (tables_1_4 ++ tables_1_5)))) := rfl
  rw [e]
  simp only [List.mem_append]
  match c, hw with
  | 0, h => exact Or.inl h
  | 1, h => exact Or.inr (Or.inl h)
  | 2, h => exact Or.inr (Or.inr (Or.inl h))
  | 3, h => exact Or.inr (Or.inr (Or.inr (Or.inl h)))
  | 4, h => exact Or.inr (Or.inr (Or.inr (Or.inr (Or.inl h))))
  | 5, h => exact Or.inr (Or.inr (Or.inr (Or.inr (Or.inr h))))
  | _ + 6, h => cases h
theorem p_wT {i : Nat} {w : Cond} (h : p_w i w = true) : w ∈ pT := by
  rw [p_w, Bool.and_eq_true, decide_eq_true_eq] at h
  exact List.mem_filter.mpr ⟨p_chT _ _ (List.mem_of_getElem? h.1), h.2⟩
theorem p_goodT : ∀ w ∈ pT, (w.onTables && w.keeps) = true ∨ ∃ ty, w = .arrayClass ty := fun w h => good_of_word (List.mem_filter.mp h).2
/-- one line for a field of a class -/
def p_fo (own : String) (idx : Nat) (ref : String) (k tc fin : Nat) (ci i j : Nat) : Bool := match vwCl[ci]? with
  | some (_, T, N) => decide (k < N) && p_w i (.fieldLink own idx ref (T k).2.1 (T k).2.2.1) && ((T k).1 == ref || p_w j (.sameField ref (T k).1 (T k).2.1 (T k).2.2.1)) && (match parseFieldDescriptor (T k).2.2.1 with
      | some .int => tc == 0
      | some .boolean => tc == 1
      | some .long => tc == 2
      | some (.object _) => tc == 3
      | some (.array _) => tc == 3
      | _ => false) && (fin != 0 || (T k).2.2.2 == false) && (fin != 1 || ((T k).2.2.2 == true && (T k).1 == own))
  | none => false
abbrev p_Fe : Type := Nat × Nat × List Nat × Nat × Nat × String
abbrev p_Ve : Type := Nat × Nat × List (Nat × Nat)
def p_fo1 (e : p_Fe × Nat × Nat) : Bool := e.1.2.2.1.all (fun ci => p_fo (p_on1 (e.1.1 / 1000)) (e.1.1 % 1000) e.1.2.2.2.2.2 e.1.2.1 e.1.2.2.2.1 e.1.2.2.2.2.1 ci e.2.1 e.2.2)
def p_nm (y : MethodName) (n : Nat) : Bool := decide (y.cls ≠ "java/lang/invoke/MethodHandle") && decide (y.cls ≠ "java/lang/invoke/VarHandle") && decide ((parseMethodDescriptor y.desc).map (fun d => d.parameters.length) = some n)
def p_cn (ci : Nat) : String := ((vwCl[ci]?).map (fun q => q.1)).getD ""
def p_vA (own : String) (idx : Nat) (C : String) (y : MethodName) (a b c d : Nat) : Bool := p_w a (.methodLink own idx y) && (y.cls == C) && p_w b (.instanceMethod y) && p_w c (.selects C y y) && p_w d (.initialized C)
def p_bx (y : MethodName) : MethodName := ⟨"WaterShoulders$Boat", y.name, y.desc⟩
def p_vB (own : String) (idx : Nat) (C : String) (y : MethodName) (a b c d e f : Nat) : Bool := p_w a (.methodLink own idx (p_bx y)) && p_w b (.sameMethod "WaterShoulders$Boat" "WaterShoulders$Boat" y.name y.desc) && p_w c (.instanceMethod (p_bx y)) && (decide (p_bx y = p_y 4) || decide (p_bx y = p_y 5) || decide (p_bx y = p_y 6)) && p_w d (.selects C (p_bx y) y) && p_w e (.instanceMethod y) && p_w f (.initialized y.cls)
def p_vo1 (own : String) (idx n : Nat) (q : (Nat × Nat) × List Nat) : Bool := p_nm (p_y q.1.2) n && decide (q.1.1 < 13) && decide (q.1.2 < 170) && (match q.2 with
  | [a, b, c, d] => p_vA own idx (p_cn q.1.1) (p_y q.1.2) a b c d
  | [a, b, c, d, e, f] => p_vB own idx (p_cn q.1.1) (p_y q.1.2) a b c d e f
  | _ => false)
def p_vo (e : p_Ve × List (List Nat)) : Bool := (e.1.2.2.length == e.2.length) && (e.1.2.2.zip e.2).all (p_vo1 (p_on1 (e.1.1 / 1000)) (e.1.1 % 1000) e.1.2.1)
def p_so (e : (Nat × Nat × Nat) × Nat × Nat × Nat) : Bool := p_nm (p_y e.1.2.2) e.1.2.1 && decide (e.1.2.2 < 170) && p_w e.2.1 (.methodLink (p_on1 (e.1.1 / 1000)) (e.1.1 % 1000) (p_y e.1.2.2)) && p_w e.2.2.1 (.static (p_y e.1.2.2)) && p_w e.2.2.2 (.initialized (p_y e.1.2.2).cls)
def p_qo (e : (Nat × Nat × Nat) × Nat × Nat × Nat) : Bool := p_nm (p_y e.1.2.2) e.1.2.1 && decide (e.1.2.2 < 170) && p_w e.2.1 (.methodLink (p_on1 (e.1.1 / 1000)) (e.1.1 % 1000) (p_y e.1.2.2)) && p_w e.2.2.1 (.instanceMethod (p_y e.1.2.2)) && p_w e.2.2.2 (.initialized (p_y e.1.2.2).cls) && ((p_y e.1.2.2).name == "<init>") && decide (p_r e.1.2.2 = none)
def p_oo (e : Nat × Nat) : Bool := p_w e.2 (.methodLink (p_on1 (e.1 / 1000)) (e.1 % 1000) objectInit)
def p_ao (e : Nat × Nat) : Bool := p_w e.2 (.methodLink (p_on1 (e.1 / 1000)) (e.1 % 1000) arraycopyName)
def p_gm : Nat → MethodName
  | 0 => Lib.Math.max.name
  | 1 => Lib.Math.min.name
  | _ => Lib.MathLoose.max_long.x
def p_go (e : (Nat × Nat) × Nat) : Bool := decide (e.1.2 < 3) && p_w e.2 (.methodLink (p_on1 (e.1.1 / 1000)) (e.1.1 % 1000) (p_gm e.1.2))
def p_no (e : (Nat × Nat) × Nat) : Bool := decide (e.1.2 < 13) && p_w e.2 (.classLink (p_on1 (e.1.1 / 1000)) (e.1.1 % 1000) (p_cn e.1.2))
def p_ko (e : (Nat × Int32) × Nat) : Bool := p_w e.2 (.constant (p_on1 (e.1.1 / 1000)) (e.1.1 % 1000) e.1.2)
def p_lo (e : (Nat × Int64) × Nat) : Bool := p_w e.2 (.constantLong (p_on1 (e.1.1 / 1000)) (e.1.1 % 1000) e.1.2)
def fH_1 : List (p_Fe × Nat × Nat) := [((6011, 0, [6], 3, 1, "WaterShoulders$Page"), (1031, 0)), ((9033, 0, [6], 3, 2, "WaterShoulders$Page"), (1032, 0)), ((11291, 0, [6], 3, 2, "WaterShoulders$Page"), (1033, 0)), ((9018, 1, [6], 0, 0, "WaterShoulders$Page"), (1034, 0)), ((11068, 1, [6], 0, 0, "WaterShoulders$Page"), (1035, 0)), ((6019, 1, [6], 0, 0, "WaterShoulders$Page"), (1036, 0)), ((9009, 0, [9], 3, 1, "WaterShoulders$Stair"), (1049, 0)), ((8106, 0, [9], 3, 2, "WaterShoulders$Stair"), (1050, 0)), ((11111, 0, [9], 3, 2, "WaterShoulders$Stair"), (1051, 0)), ((9015, 1, [9], 3, 1, "WaterShoulders$Stair"), (1052, 0)), ((11114, 1, [9], 3, 2, "WaterShoulders$Stair"), (1053, 0)), ((9030, 2, [9], 0, 0, "WaterShoulders$Stair"), (1054, 0)), ((11104, 2, [9], 0, 0, "WaterShoulders$Stair"), (1055, 0)), ((4011, 0, [4], 3, 1, "WaterShoulders$Mud"), (1071, 0)), ((11232, 0, [4], 3, 2, "WaterShoulders$Mud"), (1072, 0)), ((4034, 1, [4], 0, 0, "WaterShoulders$Mud"), (1073, 0)), ((11231, 1, [4], 0, 0, "WaterShoulders$Mud"), (1074, 0)), ((4015, 2, [4], 3, 1, "WaterShoulders$Mud"), (1075, 0)), ((11318, 2, [4], 3, 2, "WaterShoulders$Mud"), (1076, 0)), ((4027, 3, [4], 0, 0, "WaterShoulders$Mud"), (1077, 0)), ((4031, 4, [4], 0, 0, "WaterShoulders$Mud"), (1078, 0)), ((4018, 5, [4], 3, 1, "WaterShoulders$Mud"), (1079, 0)), ((4021, 6, [4], 3, 1, "WaterShoulders$Mud"), (1080, 0)), ((4024, 7, [4], 3, 1, "WaterShoulders$Mud"), (1081, 0)), ((4060, 8, [4], 0, 0, "WaterShoulders$Mud"), (1082, 0)), ((3009, 0, [3], 3, 1, "WaterShoulders$Image"), (1110, 0)), ((11261, 0, [3], 3, 2, "WaterShoulders$Image"), (1111, 0)), ((3018, 1, [3], 3, 1, "WaterShoulders$Image"), (1112, 0)), ((11262, 1, [3], 3, 2, "WaterShoulders$Image"), (1113, 0)), ((11258, 2, [3], 0, 0, "WaterShoulders$Image"), (1114, 0)), ((11259, 3, [3], 0, 0, "WaterShoulders$Image"), (1115, 0)), ((11260, 4, [3], 0, 0, "WaterShoulders$Image"), (1116, 0)), ((3022, 5, [3], 3, 1, "WaterShoulders$Image"), (1117, 0)), ((3025, 6, [3], 3, 1, "WaterShoulders$Image"), (1118, 0)), ((5009, 0, [5], 3, 1, "WaterShoulders$Odds"), (1140, 0)), ((5015, 1, [5], 3, 1, "WaterShoulders$Odds"), (1141, 0)), ((8037, 0, [8], 0, 0, "WaterShoulders$Search"), (1154, 0)), ((11188, 0, [8], 0, 0, "WaterShoulders$Search"), (1155, 0)), ((8040, 1, [8], 0, 0, "WaterShoulders$Search"), (1156, 0)), ((11191, 1, [8], 0, 0, "WaterShoulders$Search"), (1157, 0))]
set_option maxRecDepth 100000 in
theorem fH_1_ok : fH_1.all p_fo1 = true := by decide +kernel
def fH_2 : List (p_Fe × Nat × Nat) := [((8011, 2, [8], 3, 1, "WaterShoulders$Search"), (1158, 0)), ((8015, 3, [8], 3, 1, "WaterShoulders$Search"), (1159, 0)), ((8018, 4, [8], 3, 0, "WaterShoulders$Search"), (1160, 0)), ((8021, 5, [8], 3, 0, "WaterShoulders$Search"), (1161, 0)), ((8054, 6, [8], 0, 0, "WaterShoulders$Search"), (1162, 0)), ((8090, 7, [8], 0, 0, "WaterShoulders$Search"), (1163, 0)), ((8110, 8, [8], 0, 0, "WaterShoulders$Search"), (1164, 0)), ((8113, 9, [8], 0, 0, "WaterShoulders$Search"), (1165, 0)), ((8109, 10, [8], 0, 0, "WaterShoulders$Search"), (1166, 0)), ((8078, 11, [8], 0, 0, "WaterShoulders$Search"), (1167, 0)), ((8081, 12, [8], 0, 0, "WaterShoulders$Search"), (1168, 0)), ((8087, 13, [8], 0, 0, "WaterShoulders$Search"), (1169, 0)), ((11010, 0, [11], 3, 1, "WaterShoulders"), (1199, 0)), ((11019, 1, [11], 3, 1, "WaterShoulders"), (1200, 0)), ((11023, 2, [11], 3, 1, "WaterShoulders"), (1201, 0)), ((11027, 3, [11], 3, 1, "WaterShoulders"), (1202, 0)), ((11032, 4, [11], 3, 1, "WaterShoulders"), (1203, 0)), ((11039, 5, [11], 3, 1, "WaterShoulders"), (1204, 0)), ((11046, 6, [11], 3, 1, "WaterShoulders"), (1205, 0)), ((11053, 7, [11], 3, 1, "WaterShoulders"), (1206, 0)), ((11060, 8, [11], 3, 1, "WaterShoulders"), (1207, 0)), ((11092, 9, [11], 0, 0, "WaterShoulders"), (1208, 0)), ((11095, 10, [11], 0, 0, "WaterShoulders"), (1209, 0)), ((11101, 11, [11], 0, 0, "WaterShoulders"), (1210, 0)), ((11181, 12, [11], 0, 0, "WaterShoulders"), (1211, 0)), ((1007, 0, [0, 1, 2, 7, 10], 0, 1, "WaterShoulders$Boat"), (2082, 0)), ((7, 0, [0], 0, 2, "WaterShoulders$Barge"), (2083, 2084)), ((7007, 0, [7], 0, 2, "WaterShoulders$Punt"), (2085, 2086)), ((11132, 0, [0, 1, 2, 7, 10], 0, 2, "WaterShoulders$Boat"), (2087, 0)), ((1013, 1, [0, 1, 2, 7, 10], 0, 1, "WaterShoulders$Boat"), (2088, 0)), ((10007, 1, [10], 0, 2, "WaterShoulders$Tub"), (2089, 2090)), ((11135, 1, [0, 1, 2, 7, 10], 0, 2, "WaterShoulders$Boat"), (2091, 0)), ((8025, 2, [0, 1, 2, 7, 10], 0, 0, "WaterShoulders$Boat"), (2092, 0)), ((3028, 2, [0, 1, 2, 7, 10], 0, 0, "WaterShoulders$Boat"), (2093, 0)), ((11144, 2, [0, 1, 2, 7, 10], 0, 0, "WaterShoulders$Boat"), (2094, 0)), ((3034, 3, [0, 1, 2, 7, 10], 0, 0, "WaterShoulders$Boat"), (2095, 0)), ((8093, 3, [0, 1, 2, 7, 10], 0, 0, "WaterShoulders$Boat"), (2096, 0)), ((11147, 3, [0, 1, 2, 7, 10], 0, 0, "WaterShoulders$Boat"), (2097, 0)), ((12104, 0, [12], 0, 0, "WaterShouldersModel"), (4022, 0)), ((12007, 1, [12], 3, 1, "WaterShouldersModel"), (4023, 0))]
set_option maxRecDepth 100000 in
theorem fH_2_ok : fH_2.all p_fo1 = true := by decide +kernel
def fH_3 : List (p_Fe × Nat × Nat) := [((12013, 2, [12], 3, 1, "WaterShouldersModel"), (4024, 0)), ((12016, 3, [12], 3, 1, "WaterShouldersModel"), (4025, 0)), ((12107, 4, [12], 0, 0, "WaterShouldersModel"), (4026, 0)), ((12110, 5, [12], 0, 0, "WaterShouldersModel"), (4027, 0)), ((12113, 6, [12], 0, 0, "WaterShouldersModel"), (4028, 0)), ((12019, 7, [12], 3, 1, "WaterShouldersModel"), (4029, 0)), ((12022, 8, [12], 3, 1, "WaterShouldersModel"), (4030, 0)), ((12025, 9, [12], 3, 1, "WaterShouldersModel"), (4031, 0)), ((12028, 10, [12], 3, 1, "WaterShouldersModel"), (4032, 0)), ((12031, 11, [12], 3, 1, "WaterShouldersModel"), (4033, 0)), ((12194, 12, [12], 0, 0, "WaterShouldersModel"), (4034, 0)), ((12034, 13, [12], 0, 0, "WaterShouldersModel"), (4035, 0)), ((12223, 14, [12], 0, 0, "WaterShouldersModel"), (4036, 0)), ((12116, 15, [12], 0, 0, "WaterShouldersModel"), (4037, 0)), ((12038, 16, [12], 3, 1, "WaterShouldersModel"), (4038, 0)), ((12084, 17, [12], 0, 0, "WaterShouldersModel"), (4039, 0)), ((12041, 18, [12], 3, 1, "WaterShouldersModel"), (4040, 0)), ((12094, 19, [12], 0, 0, "WaterShouldersModel"), (4041, 0)), ((12097, 20, [12], 1, 0, "WaterShouldersModel"), (4042, 0)), ((12087, 21, [12], 0, 0, "WaterShouldersModel"), (4043, 0)), ((12045, 22, [12], 3, 1, "WaterShouldersModel"), (4044, 0)), ((12048, 23, [12], 3, 1, "WaterShouldersModel"), (4045, 0)), ((12051, 24, [12], 3, 1, "WaterShouldersModel"), (4046, 0)), ((12054, 25, [12], 3, 1, "WaterShouldersModel"), (4047, 0)), ((12180, 26, [12], 0, 0, "WaterShouldersModel"), (4048, 0)), ((12057, 27, [12], 3, 1, "WaterShouldersModel"), (4049, 0)), ((12061, 28, [12], 3, 1, "WaterShouldersModel"), (4050, 0)), ((12064, 29, [12], 3, 1, "WaterShouldersModel"), (4051, 0)), ((12226, 30, [12], 0, 0, "WaterShouldersModel"), (4052, 0)), ((12238, 31, [12], 2, 0, "WaterShouldersModel"), (4053, 0)), ((12067, 32, [12], 3, 1, "WaterShouldersModel"), (4054, 0)), ((12254, 33, [12], 1, 0, "WaterShouldersModel"), (4055, 0)), ((12257, 34, [12], 0, 0, "WaterShouldersModel"), (4056, 0)), ((12260, 35, [12], 0, 0, "WaterShouldersModel"), (4057, 0)), ((12263, 36, [12], 0, 0, "WaterShouldersModel"), (4058, 0)), ((12266, 37, [12], 0, 0, "WaterShouldersModel"), (4059, 0)), ((12269, 38, [12], 0, 0, "WaterShouldersModel"), (4060, 0)), ((12272, 39, [12], 0, 0, "WaterShouldersModel"), (4061, 0)), ((12070, 40, [12], 3, 1, "WaterShouldersModel"), (4062, 0)), ((12073, 41, [12], 3, 1, "WaterShouldersModel"), (4063, 0))]
set_option maxRecDepth 100000 in
theorem fH_3_ok : fH_3.all p_fo1 = true := by decide +kernel
def fH_4 : List (p_Fe × Nat × Nat) := [((12076, 42, [12], 3, 1, "WaterShouldersModel"), (4064, 0)), ((12079, 43, [12], 3, 1, "WaterShouldersModel"), (4065, 0)), ((12280, 44, [12], 2, 0, "WaterShouldersModel"), (4066, 0))]
set_option maxRecDepth 100000 in
theorem fH_4_ok : fH_4.all p_fo1 = true := by decide +kernel
def fH : List (p_Fe × Nat × Nat) := fH_1 ++ (fH_2 ++ (fH_3 ++ (fH_4)))
theorem fH_ok : ∀ e ∈ fH, p_fo1 e = true := by
  intro e he
  simp only [fH, List.mem_append] at he
  rcases he with he | he | he | he
  · exact List.all_eq_true.mp fH_1_ok e he
  · exact List.all_eq_true.mp fH_2_ok e he
  · exact List.all_eq_true.mp fH_3_ok e he
  · exact List.all_eq_true.mp fH_4_ok e he
set_option maxRecDepth 100000 in
theorem fH_eq : fH.map Prod.fst = fT := by first | rfl | decide +kernel
theorem fT_in : ∀ x ∈ fT, ∃ t, p_fo1 (x, t) = true := by
  intro x hx
  rw [← fH_eq] at hx
  obtain ⟨⟨x1, t⟩, h1, rfl⟩ := List.mem_map.mp hx
  exact ⟨t, fH_ok _ h1⟩
def vH_1 : List (p_Ve × List (List Nat)) := [((13015, 1, [(11, 69)]), [[1239, 2000, 2001, 1001]]), ((11072, 2, [(6, 32)]), [[2009, 2010, 2011, 1002]]), ((13020, 0, [(11, 70)]), [[2013, 2014, 2015, 1001]]), ((13025, 0, [(11, 71)]), [[2017, 2018, 2019, 1001]]), ((11076, 0, [(6, 33)]), [[2021, 2022, 2023, 1002]]), ((13029, 0, [(11, 72)]), [[2028, 2029, 2030, 1001]]), ((11080, 0, [(6, 35)]), [[2032, 2033, 2034, 1002]]), ((6027, 0, [(6, 33)]), [[2036, 2022, 2023, 1002]]), ((11084, 1, [(9, 52)]), [[2037, 2038, 2039, 1003]]), ((11088, 1, [(9, 55)]), [[2044, 2045, 2046, 1003]]), ((11098, 0, [(4, 14)]), [[2051, 2052, 2053, 1004]]), ((13033, 2, [(11, 73)]), [[2055, 2056, 2057, 1001]]), ((11107, 1, [(9, 53)]), [[2059, 2060, 2061, 1003]]), ((13038, 3, [(11, 74)]), [[2063, 2064, 2065, 1001]]), ((13043, 2, [(11, 75)]), [[2147, 2148, 2149, 1001]]), ((11125, 1, [(11, 100)]), [[2151, 2153, 0, 1001]]), ((11129, 0, [(0, 1), (1, 4), (2, 8), (7, 37), (10, 66)]), [[2155, 2158, 2156, 2159, 2160, 1013], [2155, 2156, 2157, 1011], [2155, 2158, 2156, 2162, 2163, 1014], [2155, 2158, 2156, 2165, 2166, 1012], [2155, 2158, 2156, 2168, 2169, 1015]]), ((11138, 0, [(0, 2), (1, 5), (2, 5), (7, 38), (10, 5)]), [[2172, 2175, 2173, 2176, 2177, 1013], [2172, 2173, 2174, 1011], [2172, 2175, 2173, 2179, 2173, 1011], [2172, 2175, 2173, 2180, 2181, 1012], [2172, 2175, 2173, 2183, 2173, 1011]]), ((11141, 0, [(0, 6), (1, 6), (2, 6), (7, 6), (10, 67)]), [[2185, 2188, 2186, 2189, 2186, 1011], [2185, 2186, 2187, 1011], [2185, 2188, 2186, 2190, 2186, 1011], [2185, 2188, 2186, 2191, 2186, 1011], [2185, 2188, 2186, 2192, 2193, 1015]]), ((11150, 3, [(9, 56)]), [[2196, 2197, 2198, 1003]]), ((9042, 1, [(9, 53)]), [[2200, 2060, 2061, 1003]]), ((13047, 2, [(11, 76)]), [[2201, 2202, 2203, 1001]]), ((13051, 1, [(11, 77)]), [[2205, 2206, 2207, 1001]]), ((11162, 3, [(9, 58)]), [[2209, 2210, 2211, 1003]]), ((9049, 3, [(9, 56)]), [[2213, 2197, 2198, 1003]]), ((13056, 2, [(11, 78)]), [[2214, 2215, 2216, 1001]]), ((11165, 3, [(9, 59)]), [[2218, 2219, 2220, 1003]]), ((13060, 2, [(11, 79)]), [[2222, 2223, 2224, 1001]]), ((11169, 3, [(9, 60)]), [[2226, 2227, 2228, 1003]]), ((9053, 0, [(9, 54)]), [[2230, 2231, 2232, 1003]])]
set_option maxRecDepth 100000 in
theorem vH_1_ok : vH_1.all p_vo = true := by decide +kernel
def vH_2 : List (p_Ve × List (List Nat)) := [((13064, 1, [(11, 80)]), [[2234, 2235, 2236, 1001]]), ((13068, 1, [(11, 81)]), [[2238, 2239, 3000, 1001]]), ((11173, 2, [(9, 61)]), [[3002, 3003, 3004, 1003]]), ((9057, 3, [(9, 60)]), [[3006, 2227, 2228, 1003]]), ((9060, 2, [(9, 62)]), [[3007, 3008, 3009, 1003]]), ((11177, 1, [(9, 64)]), [[3014, 3015, 3016, 1003]]), ((13072, 3, [(11, 82)]), [[3018, 3019, 3020, 1001]]), ((11184, 4, [(8, 40)]), [[3022, 3023, 3024, 1007]]), ((8031, 0, [(9, 54)]), [[3026, 2231, 2232, 1003]]), ((8043, 0, [(0, 2), (1, 5), (2, 5), (7, 38), (10, 5)]), [[3027, 2175, 2173, 2176, 2177, 1013], [3027, 2173, 2174, 1011], [3027, 2175, 2173, 2179, 2173, 1011], [3027, 2175, 2173, 2180, 2181, 1012], [3027, 2175, 2173, 2183, 2173, 1011]]), ((8046, 2, [(9, 57)]), [[3028, 3029, 3030, 1003]]), ((8050, 4, [(8, 41)]), [[3032, 3034, 1, 1007]]), ((8075, 0, [(8, 42)]), [[3036, 3038, 2, 1007]]), ((8084, 0, [(0, 6), (1, 6), (2, 6), (7, 6), (10, 67)]), [[3043, 2188, 2186, 2189, 2186, 1011], [3043, 2186, 2187, 1011], [3043, 2188, 2186, 2190, 2186, 1011], [3043, 2188, 2186, 2191, 2186, 1011], [3043, 2188, 2186, 2192, 2193, 1015]]), ((8096, 5, [(8, 44)]), [[3044, 3046, 3, 1007]]), ((8117, 1, [(8, 45)]), [[3049, 3051, 4, 1007]]), ((8057, 2, [(8, 43)]), [[3053, 3055, 5, 1007]]), ((8061, 1, [(8, 46)]), [[3057, 3059, 6, 1007]]), ((8121, 3, [(9, 58)]), [[3061, 2210, 2211, 1003]]), ((8065, 1, [(8, 47)]), [[3062, 3064, 7, 1007]]), ((8069, 1, [(8, 48)]), [[3066, 3068, 8, 1007]]), ((8125, 3, [(8, 49)]), [[3070, 3072, 9, 1007]]), ((8139, 3, [(9, 60)]), [[3077, 2227, 2228, 1003]]), ((8129, 1, [(9, 53)]), [[3078, 2060, 2061, 1003]]), ((8072, 1, [(8, 50)]), [[3079, 3081, 10, 1007]]), ((8148, 3, [(9, 59)]), [[3084, 2219, 2220, 1003]]), ((13076, 1, [(11, 83)]), [[3085, 3086, 3087, 1001]]), ((13080, 1, [(11, 84)]), [[3090, 3091, 3092, 1001]]), ((13084, 1, [(11, 85)]), [[3094, 3095, 3096, 1001]]), ((11200, 2, [(11, 101)]), [[3098, 3100, 11, 1001]])]
set_option maxRecDepth 100000 in
theorem vH_2_ok : vH_2.all p_vo = true := by decide +kernel
def vH_3 : List (p_Ve × List (List Nat)) := [((13088, 5, [(11, 86)]), [[3103, 3104, 3105, 1001]]), ((11207, 1, [(5, 25)]), [[3109, 3110, 3111, 1006]]), ((11211, 3, [(5, 26)]), [[3114, 3115, 3116, 1006]]), ((5024, 2, [(9, 63)]), [[3118, 3119, 3120, 1003]]), ((5030, 2, [(9, 62)]), [[3122, 3008, 3009, 1003]]), ((11214, 1, [(5, 27)]), [[3124, 3125, 3126, 1006]]), ((13093, 2, [(11, 87)]), [[3135, 3136, 3137, 1001]]), ((11224, 2, [(4, 15)]), [[3139, 3140, 3141, 1004]]), ((13097, 1, [(11, 88)]), [[3143, 3144, 3145, 1001]]), ((11228, 0, [(4, 13)]), [[3147, 3148, 3149, 1004]]), ((13101, 0, [(11, 89)]), [[3151, 3152, 3153, 1001]]), ((11235, 1, [(11, 102)]), [[3155, 3157, 12, 1001]]), ((11321, 2, [(4, 17)]), [[3159, 3160, 3161, 1004]]), ((4043, 0, [(4, 18)]), [[3163, 3165, 13, 1004]]), ((4052, 3, [(4, 19)]), [[3168, 3170, 14, 1004]]), ((4063, 2, [(9, 63)]), [[3172, 3119, 3120, 1003]]), ((4069, 2, [(9, 62)]), [[3173, 3008, 3009, 1003]]), ((4056, 3, [(4, 20)]), [[3174, 3176, 15, 1004]]), ((4072, 4, [(4, 21)]), [[3178, 3180, 16, 1004]]), ((11238, 0, [(4, 22)]), [[3182, 3183, 3184, 1004]]), ((13105, 1, [(11, 90)]), [[3186, 3187, 3188, 1001]]), ((11241, 0, [(4, 23)]), [[3190, 3191, 3192, 1004]]), ((13109, 3, [(11, 91)]), [[3194, 3195, 3196, 1001]]), ((11255, 1, [(11, 104)]), [[3206, 3208, 17, 1001]]), ((13113, 0, [(11, 92)]), [[3210, 3211, 3212, 1001]]), ((11263, 1, [(4, 16)]), [[3214, 3215, 3216, 1004]]), ((11267, 2, [(3, 10)]), [[3219, 3220, 3221, 1005]]), ((13117, 0, [(11, 93)]), [[3223, 3224, 3225, 1001]]), ((11271, 2, [(3, 11)]), [[3227, 3228, 3229, 1005]]), ((13121, 1, [(11, 94)]), [[3231, 3232, 3233, 1001]])]
set_option maxRecDepth 100000 in
theorem vH_3_ok : vH_3.all p_vo = true := by decide +kernel
def vH_4 : List (p_Ve × List (List Nat)) := [((13125, 0, [(11, 95)]), [[3235, 3236, 3237, 1001]]), ((11276, 1, [(11, 96)]), [[4000, 4002, 18, 1001]]), ((11297, 2, [(11, 73)]), [[4005, 2056, 2057, 1001]]), ((11300, 1, [(11, 84)]), [[4006, 3091, 3092, 1001]]), ((11280, 1, [(11, 97)]), [[4007, 4009, 19, 1001]]), ((11303, 2, [(11, 75)]), [[4011, 2148, 2149, 1001]]), ((11306, 1, [(11, 83)]), [[4012, 3086, 3087, 1001]]), ((11285, 1, [(11, 85)]), [[4013, 3095, 3096, 1001]]), ((11288, 0, [(11, 89)]), [[4014, 3152, 3153, 1001]]), ((11294, 1, [(11, 94)]), [[4015, 3232, 3233, 1001]]), ((13019, 1, [(12, 107)]), [[4159, 4160, 4161, 1008]]), ((13024, 0, [(12, 108)]), [[4164, 4165, 4166, 1008]]), ((13028, 0, [(12, 110)]), [[4168, 4169, 4170, 1008]]), ((12101, 0, [(12, 109)]), [[4172, 4174, 20, 1008]]), ((13032, 0, [(12, 111)]), [[4179, 4180, 4181, 1008]]), ((13037, 2, [(12, 114)]), [[4183, 4184, 4185, 1008]]), ((12119, 1, [(12, 112)]), [[4187, 4189, 21, 1008]]), ((12123, 2, [(12, 113)]), [[4191, 4193, 22, 1008]]), ((13042, 3, [(12, 117)]), [[4195, 4196, 4197, 1008]]), ((13046, 2, [(12, 122)]), [[4202, 4203, 4204, 1008]]), ((12140, 1, [(12, 115)]), [[4206, 4208, 23, 1008]]), ((12143, 2, [(12, 121)]), [[4210, 4212, 24, 1008]]), ((12130, 1, [(12, 118)]), [[4214, 4216, 25, 1008]]), ((12134, 1, [(12, 119)]), [[4218, 4220, 26, 1008]]), ((12137, 1, [(12, 120)]), [[4222, 4224, 27, 1008]]), ((13050, 2, [(12, 123)]), [[4226, 4227, 4228, 1008]]), ((13055, 1, [(12, 131)]), [[4230, 4231, 4232, 1008]]), ((12149, 1, [(12, 124)]), [[4234, 4236, 28, 1008]]), ((13059, 2, [(12, 132)]), [[4238, 4239, 5000, 1008]]), ((12152, 2, [(12, 125)]), [[5002, 5004, 29, 1008]])]
set_option maxRecDepth 100000 in
theorem vH_4_ok : vH_4.all p_vo = true := by decide +kernel
def vH_5 : List (p_Ve × List (List Nat)) := [((12156, 2, [(12, 129)]), [[5006, 5008, 30, 1008]]), ((13063, 2, [(12, 133)]), [[5010, 5011, 5012, 1008]]), ((12160, 2, [(12, 126)]), [[5014, 5016, 31, 1008]]), ((12163, 2, [(12, 130)]), [[5018, 5020, 32, 1008]]), ((12146, 2, [(12, 128)]), [[5022, 5024, 33, 1008]]), ((13067, 1, [(12, 134)]), [[5026, 5027, 5028, 1008]]), ((12166, 1, [(12, 127)]), [[5030, 5032, 34, 1008]]), ((13071, 1, [(12, 137)]), [[5034, 5035, 5036, 1008]]), ((12169, 1, [(12, 136)]), [[5038, 5040, 35, 1008]]), ((12173, 0, [(12, 135)]), [[5042, 5044, 36, 1008]]), ((13075, 3, [(12, 143)]), [[5046, 5047, 5048, 1008]]), ((12197, 3, [(12, 141)]), [[5050, 5052, 37, 1008]]), ((12177, 2, [(12, 138)]), [[5054, 5056, 38, 1008]]), ((12183, 3, [(12, 142)]), [[5058, 5060, 39, 1008]]), ((12187, 3, [(12, 139)]), [[5062, 5064, 40, 1008]]), ((12191, 3, [(12, 140)]), [[5066, 5068, 41, 1008]]), ((13079, 1, [(12, 145)]), [[5070, 5071, 5072, 1008]]), ((12200, 1, [(12, 144)]), [[5074, 5076, 42, 1008]]), ((13083, 1, [(12, 147)]), [[5078, 5079, 5080, 1008]]), ((12203, 1, [(12, 146)]), [[5082, 5084, 43, 1008]]), ((13087, 1, [(12, 149)]), [[5086, 5087, 5088, 1008]]), ((12206, 1, [(12, 148)]), [[5090, 5092, 44, 1008]]), ((13092, 5, [(12, 152)]), [[5094, 5095, 5096, 1008]]), ((12215, 4, [(12, 150)]), [[5101, 5103, 45, 1008]]), ((13096, 2, [(12, 153)]), [[5108, 5109, 5110, 1008]]), ((13100, 1, [(12, 154)]), [[5112, 5113, 5114, 1008]]), ((13104, 0, [(12, 157)]), [[5116, 5117, 5118, 1008]]), ((12233, 1, [(12, 156)]), [[5120, 5122, 46, 1008]]), ((12229, 0, [(12, 155)]), [[5124, 5126, 47, 1008]]), ((13108, 1, [(12, 158)]), [[5128, 5129, 5130, 1008]])]
set_option maxRecDepth 100000 in
theorem vH_5_ok : vH_5.all p_vo = true := by decide +kernel
def vH_6 : List (p_Ve × List (List Nat)) := [((13112, 3, [(12, 161)]), [[5132, 5133, 5134, 1008]]), ((12251, 3, [(12, 160)]), [[5136, 5138, 48, 1008]]), ((12248, 1, [(12, 159)]), [[5140, 5142, 49, 1008]]), ((13116, 0, [(12, 162)]), [[5148, 5149, 5150, 1008]]), ((13120, 0, [(12, 163)]), [[5152, 5153, 5154, 1008]]), ((13124, 1, [(12, 165)]), [[5156, 5157, 5158, 1008]]), ((12275, 1, [(12, 164)]), [[5160, 5162, 50, 1008]]), ((13129, 0, [(12, 167)]), [[5164, 5165, 5166, 1008]]), ((12285, 1, [(12, 166)]), [[5169, 5171, 51, 1008]])]
set_option maxRecDepth 100000 in
theorem vH_6_ok : vH_6.all p_vo = true := by decide +kernel
def vH : List (p_Ve × List (List Nat)) := vH_1 ++ (vH_2 ++ (vH_3 ++ (vH_4 ++ (vH_5 ++ (vH_6)))))
theorem vH_ok : ∀ e ∈ vH, p_vo e = true := by
  intro e he
  simp only [vH, List.mem_append] at he
  rcases he with he | he | he | he | he | he
  · exact List.all_eq_true.mp vH_1_ok e he
  · exact List.all_eq_true.mp vH_2_ok e he
  · exact List.all_eq_true.mp vH_3_ok e he
  · exact List.all_eq_true.mp vH_4_ok e he
  · exact List.all_eq_true.mp vH_5_ok e he
  · exact List.all_eq_true.mp vH_6_ok e he
set_option maxRecDepth 100000 in
theorem vH_eq : vH.map Prod.fst = vT := by first | rfl | decide +kernel
theorem vT_in : ∀ x ∈ vT, ∃ t, p_vo (x, t) = true := by
  intro x hx
  rw [← vH_eq] at hx
  obtain ⟨⟨x1, t⟩, h1, rfl⟩ := List.mem_map.mp hx
  exact ⟨t, vH_ok _ h1⟩
def sH_1 : List ((Nat × Nat × Nat) × Nat × Nat × Nat) := [((11064, 1, 30), (2003, 2004, 1002)), ((6015, 2, 31), (2006, 2007, 1002)), ((6023, 2, 34), (2025, 2026, 1002)), ((9036, 2, 169), (2048, 2049, 1010)), ((11117, 2, 98), (2067, 2068, 1001)), ((11121, 3, 99), (2070, 2071, 1001)), ((8100, 2, 168), (3040, 3041, 1010)), ((5018, 2, 168), (3113, 3041, 1010)), ((11218, 2, 28), (3129, 3130, 1006)), ((4046, 2, 169), (3167, 2049, 1010)), ((11250, 1, 103), (3199, 3200, 1001)), ((12090, 3, 106), (4176, 4177, 1008)), ((12127, 1, 116), (4199, 4200, 1008)), ((12219, 3, 151), (5105, 5106, 1008))]
set_option maxRecDepth 100000 in
theorem sH_1_ok : sH_1.all p_so = true := by decide +kernel
def sH : List ((Nat × Nat × Nat) × Nat × Nat × Nat) := sH_1
theorem sH_ok : ∀ e ∈ sH, p_so e = true := by
  intro e he
  simp only [sH, List.mem_append] at he
  exact List.all_eq_true.mp sH_1_ok e he
set_option maxRecDepth 100000 in
theorem sH_eq : sH.map Prod.fst = sT := by first | rfl | decide +kernel
theorem sT_in : ∀ x ∈ sT, ∃ t, p_so (x, t) = true := by
  intro x hx
  rw [← sH_eq] at hx
  obtain ⟨⟨x1, t⟩, h1, rfl⟩ := List.mem_map.mp hx
  exact ⟨t, sH_ok _ h1⟩
def qH_1 : List ((Nat × Nat × Nat) × Nat × Nat × Nat) := [((13009, 0, 68), (1019, 1020, 1001)), ((11009, 0, 29), (1027, 1028, 1002)), ((11018, 0, 51), (1045, 1046, 1003)), ((11038, 0, 12), (1067, 1068, 1004)), ((11045, 0, 9), (1104, 1105, 1005)), ((3017, 0, 12), (1109, 1068, 1004)), ((11052, 0, 24), (1136, 1137, 1006)), ((11059, 0, 39), (1150, 1151, 1007)), ((11309, 2, 36), (2075, 2076, 1012)), ((7001, 2, 3), (2078, 2079, 1011)), ((11311, 2, 0), (2109, 2110, 1013)), ((1, 2, 3), (2112, 2079, 1011)), ((11312, 2, 7), (2120, 2121, 1014)), ((2001, 2, 3), (2123, 2079, 1011)), ((11313, 2, 65), (2131, 2132, 1015)), ((10001, 2, 7), (2134, 2121, 1014)), ((11314, 2, 3), (2141, 2079, 1011)), ((13012, 0, 105), (4018, 4019, 1008))]
set_option maxRecDepth 100000 in
theorem qH_1_ok : qH_1.all p_qo = true := by decide +kernel
def qH : List ((Nat × Nat × Nat) × Nat × Nat × Nat) := qH_1
theorem qH_ok : ∀ e ∈ qH, p_qo e = true := by
  intro e he
  simp only [qH, List.mem_append] at he
  exact List.all_eq_true.mp qH_1_ok e he
set_option maxRecDepth 100000 in
theorem qH_eq : qH.map Prod.fst = qT := by first | rfl | decide +kernel
theorem qT_in : ∀ x ∈ qT, ∃ t, p_qo (x, t) = true := by
  intro x hx
  rw [← qH_eq] at hx
  obtain ⟨⟨x1, t⟩, h1, rfl⟩ := List.mem_map.mp hx
  exact ⟨t, qH_ok _ h1⟩
def oH_1 : List (Nat × Nat) := [(11001, 1022), (6003, 1030), (9003, 1048), (4003, 1070), (3003, 1107), (5003, 1139), (8005, 1153), (1001, 2081), (12001, 4021)]
set_option maxRecDepth 100000 in
theorem oH_1_ok : oH_1.all p_oo = true := by decide +kernel
def oH : List (Nat × Nat) := oH_1
theorem oH_ok : ∀ e ∈ oH, p_oo e = true := by
  intro e he
  simp only [oH, List.mem_append] at he
  exact List.all_eq_true.mp oH_1_ok e he
set_option maxRecDepth 100000 in
theorem oH_eq : oH.map Prod.fst = oT := by first | rfl | decide +kernel
theorem oT_in : ∀ x ∈ oT, ∃ t, p_oo (x, t) = true := by
  intro x hx
  rw [← oH_eq] at hx
  obtain ⟨⟨x1, t⟩, h1, rfl⟩ := List.mem_map.mp hx
  exact ⟨t, oH_ok _ h1⟩
def aH_1 : List (Nat × Nat) := [(8133, 3074), (5033, 3123), (11244, 3198), (4037, 3218)]
set_option maxRecDepth 100000 in
theorem aH_1_ok : aH_1.all p_ao = true := by decide +kernel
def aH : List (Nat × Nat) := aH_1
theorem aH_ok : ∀ e ∈ aH, p_ao e = true := by
  intro e he
  simp only [aH, List.mem_append] at he
  exact List.all_eq_true.mp aH_1_ok e he
set_option maxRecDepth 100000 in
theorem aH_eq : aH.map Prod.fst = aT := by first | rfl | decide +kernel
theorem aT_in : ∀ x ∈ aT, ∃ t, p_ao (x, t) = true := by
  intro x hx
  rw [← aH_eq] at hx
  obtain ⟨⟨x1, t⟩, h1, rfl⟩ := List.mem_map.mp hx
  exact ⟨t, aH_ok _ h1⟩
def gH_1 : List ((Nat × Nat) × Nat) := [((9024, 1), 2041), ((9046, 0), 3011), ((8142, 1), 3083), ((11194, 0), 3089), ((11315, 1), 3102), ((5039, 0), 3128), ((11222, 2), 3132)]
set_option maxRecDepth 100000 in
theorem gH_1_ok : gH_1.all p_go = true := by decide +kernel
def gH : List ((Nat × Nat) × Nat) := gH_1
theorem gH_ok : ∀ e ∈ gH, p_go e = true := by
  intro e he
  simp only [gH, List.mem_append] at he
  exact List.all_eq_true.mp gH_1_ok e he
set_option maxRecDepth 100000 in
theorem gH_eq : gH.map Prod.fst = gT := by first | rfl | decide +kernel
theorem gT_in : ∀ x ∈ gT, ∃ t, p_go (x, t) = true := by
  intro x hx
  rw [← gH_eq] at hx
  obtain ⟨⟨x1, t⟩, h1, rfl⟩ := List.mem_map.mp hx
  exact ⟨t, gH_ok _ h1⟩
def nH_1 : List ((Nat × Nat) × Nat) := [((13007, 11), 1017), ((11007, 6), 1025), ((11016, 9), 1043), ((11030, 1), 1063), ((11036, 4), 1065), ((11043, 3), 1102), ((3015, 4), 1108), ((11050, 5), 1134), ((11057, 8), 1148), ((11154, 7), 2073), ((11156, 0), 2107), ((11158, 2), 2118), ((11160, 10), 2129), ((13010, 12), 4016)]
set_option maxRecDepth 100000 in
theorem nH_1_ok : nH_1.all p_no = true := by decide +kernel
def nH : List ((Nat × Nat) × Nat) := nH_1
theorem nH_ok : ∀ e ∈ nH, p_no e = true := by
  intro e he
  simp only [nH, List.mem_append] at he
  exact List.all_eq_true.mp nH_1_ok e he
set_option maxRecDepth 100000 in
theorem nH_eq : nH.map Prod.fst = nT := by first | rfl | decide +kernel
theorem nT_in : ∀ x ∈ nT, ∃ t, p_no (x, t) = true := by
  intro x hx
  rw [← nH_eq] at hx
  obtain ⟨⟨x1, t⟩, h1, rfl⟩ := List.mem_map.mp hx
  exact ⟨t, nH_ok _ h1⟩
def kH_1 : List ((Nat × Int32) × Nat) := [((8116, 65535), 3048), ((11254, 65536), 3205)]
set_option maxRecDepth 100000 in
theorem kH_1_ok : kH_1.all p_ko = true := by decide +kernel
def kH : List ((Nat × Int32) × Nat) := kH_1
theorem kH_ok : ∀ e ∈ kH, p_ko e = true := by
  intro e he
  simp only [kH, List.mem_append] at he
  exact List.all_eq_true.mp kH_1_ok e he
set_option maxRecDepth 100000 in
theorem kH_eq : kH.map Prod.fst = kT := by first | rfl | decide +kernel
theorem kT_in : ∀ x ∈ kT, ∃ t, p_ko (x, t) = true := by
  intro x hx
  rw [← kH_eq] at hx
  obtain ⟨⟨x1, t⟩, h1, rfl⟩ := List.mem_map.mp hx
  exact ⟨t, kH_ok _ h1⟩
def lH_1 : List ((Nat × Int64) × Nat) := [((11203, -101), 3107), ((11205, -102), 3108), ((11325, 1103515245), 3202), ((11327, 12345), 3203), ((11329, 2147483647), 3204), ((11274, 653), 3239), ((11283, 31), 4004), ((12082, 255), 4163), ((12209, -101), 5098), ((12211, -102), 5099), ((12213, 10), 5100), ((12236, 1103515245), 5144), ((12242, 12345), 5145), ((12244, 2147483647), 5146), ((12246, 65536), 5147), ((12283, 653), 5168), ((12278, 31), 5173), ((13013, 4294967295), 5174)]
set_option maxRecDepth 100000 in
theorem lH_1_ok : lH_1.all p_lo = true := by decide +kernel
def lH : List ((Nat × Int64) × Nat) := lH_1
theorem lH_ok : ∀ e ∈ lH, p_lo e = true := by
  intro e he
  simp only [lH, List.mem_append] at he
  exact List.all_eq_true.mp lH_1_ok e he
set_option maxRecDepth 100000 in
theorem lH_eq : lH.map Prod.fst = lT := by first | rfl | decide +kernel
theorem lT_in : ∀ x ∈ lT, ∃ t, p_lo (x, t) = true := by
  intro x hx
  rw [← lH_eq] at hx
  obtain ⟨⟨x1, t⟩, h1, rfl⟩ := List.mem_map.mp hx
  exact ⟨t, lH_ok _ h1⟩
theorem j_oi : Cond.instanceMethod objectInit ∈ pT := p_wT (i := 1023) (by decide +kernel)
theorem j_an : Cond.native arraycopyName ∈ pT := p_wT (i := 3076) (by decide +kernel)
theorem j_as : Cond.static arraycopyName ∈ pT := p_wT (i := 3075) (by decide +kernel)
theorem j_ai : Cond.initialized "java/lang/System" ∈ pT := p_wT (i := 1016) (by decide +kernel)
theorem j_mi : Cond.initialized "java/lang/Math" ∈ pT := p_wT (i := 1009) (by decide +kernel)
theorem j_m0 : Cond.static (p_gm 0) ∈ pT := p_wT (i := 3012) (by decide +kernel)
theorem j_m1 : Cond.static (p_gm 1) ∈ pT := p_wT (i := 2042) (by decide +kernel)
theorem j_m2 : Cond.static (p_gm 2) ∈ pT := p_wT (i := 3133) (by decide +kernel)
theorem j_cI : Cond.arrayClass .int ∈ pT := p_wT (i := 1042) (by decide +kernel)
theorem j_cB : Cond.arrayClass .byte ∈ pT := p_wT (i := 4158) (by decide +kernel)
theorem j_cJ : Cond.arrayClass .long ∈ pT := p_wT (i := 1147) (by decide +kernel)
set_option maxRecDepth 100000 in
theorem y_0 : ((u_ws RX0 TX0 4).zip [2113, 2114, 2115, 2116]).all (fun q => p_w q.2 q.1) = true := by decide +kernel
theorem y_0_in : ∀ w ∈ u_ws RX0 TX0 4, w ∈ pT := by
  intro w hw
  obtain ⟨i, hi⟩ := List.getElem?_of_mem hw
  have hl : (u_ws RX0 TX0 4).length = ([2113, 2114, 2115, 2116] : List Nat).length := rfl
  have hlt : i < (u_ws RX0 TX0 4).length := (List.getElem?_eq_some_iff.mp hi).1
  have h2 : ((u_ws RX0 TX0 4).zip [2113, 2114, 2115, 2116])[i]? = some (w, ([2113, 2114, 2115, 2116] : List Nat)[i]) := by
    rw [List.getElem?_zip_eq_some]
    exact ⟨hi, List.getElem?_eq_getElem _⟩
  exact p_wT (List.all_eq_true.mp y_0 _ (List.mem_of_getElem? h2))
theorem y_0_t : Cond.instantiable RX0 4 ∈ pT := p_wT (i := 2108) (by decide +kernel)
theorem y_0_z : Cond.initialized RX0 ∈ pT := p_wT (i := 1013) (by decide +kernel)
set_option maxRecDepth 100000 in
theorem y_1 : ((u_ws RX1 TX1 4).zip [2142, 2143, 2144, 2145]).all (fun q => p_w q.2 q.1) = true := by decide +kernel
theorem y_1_in : ∀ w ∈ u_ws RX1 TX1 4, w ∈ pT := by
  intro w hw
  obtain ⟨i, hi⟩ := List.getElem?_of_mem hw
  have hl : (u_ws RX1 TX1 4).length = ([2142, 2143, 2144, 2145] : List Nat).length := rfl
  have hlt : i < (u_ws RX1 TX1 4).length := (List.getElem?_eq_some_iff.mp hi).1
  have h2 : ((u_ws RX1 TX1 4).zip [2142, 2143, 2144, 2145])[i]? = some (w, ([2142, 2143, 2144, 2145] : List Nat)[i]) := by
    rw [List.getElem?_zip_eq_some]
    exact ⟨hi, List.getElem?_eq_getElem _⟩
  exact p_wT (List.all_eq_true.mp y_1 _ (List.mem_of_getElem? h2))
theorem y_1_t : Cond.instantiable RX1 4 ∈ pT := p_wT (i := 2140) (by decide +kernel)
theorem y_1_z : Cond.initialized RX1 ∈ pT := p_wT (i := 1011) (by decide +kernel)
set_option maxRecDepth 100000 in
theorem y_2 : ((u_ws RX2 TX2 4).zip [2124, 2125, 2126, 2127]).all (fun q => p_w q.2 q.1) = true := by decide +kernel
theorem y_2_in : ∀ w ∈ u_ws RX2 TX2 4, w ∈ pT := by
  intro w hw
  obtain ⟨i, hi⟩ := List.getElem?_of_mem hw
  have hl : (u_ws RX2 TX2 4).length = ([2124, 2125, 2126, 2127] : List Nat).length := rfl
  have hlt : i < (u_ws RX2 TX2 4).length := (List.getElem?_eq_some_iff.mp hi).1
  have h2 : ((u_ws RX2 TX2 4).zip [2124, 2125, 2126, 2127])[i]? = some (w, ([2124, 2125, 2126, 2127] : List Nat)[i]) := by
    rw [List.getElem?_zip_eq_some]
    exact ⟨hi, List.getElem?_eq_getElem _⟩
  exact p_wT (List.all_eq_true.mp y_2 _ (List.mem_of_getElem? h2))
theorem y_2_t : Cond.instantiable RX2 4 ∈ pT := p_wT (i := 2119) (by decide +kernel)
theorem y_2_z : Cond.initialized RX2 ∈ pT := p_wT (i := 1014) (by decide +kernel)
set_option maxRecDepth 100000 in
theorem y_3 : ((u_ws RX3 TX3 7).zip [1119, 1121, 1123, 1125, 1127, 1129, 1131]).all (fun q => p_w q.2 q.1) = true := by decide +kernel
theorem y_3_in : ∀ w ∈ u_ws RX3 TX3 7, w ∈ pT := by
  intro w hw
  obtain ⟨i, hi⟩ := List.getElem?_of_mem hw
  have hl : (u_ws RX3 TX3 7).length = ([1119, 1121, 1123, 1125, 1127, 1129, 1131] : List Nat).length := rfl
  have hlt : i < (u_ws RX3 TX3 7).length := (List.getElem?_eq_some_iff.mp hi).1
  have h2 : ((u_ws RX3 TX3 7).zip [1119, 1121, 1123, 1125, 1127, 1129, 1131])[i]? = some (w, ([1119, 1121, 1123, 1125, 1127, 1129, 1131] : List Nat)[i]) := by
    rw [List.getElem?_zip_eq_some]
    exact ⟨hi, List.getElem?_eq_getElem _⟩
  exact p_wT (List.all_eq_true.mp y_3 _ (List.mem_of_getElem? h2))
theorem y_3_t : Cond.instantiable RX3 7 ∈ pT := p_wT (i := 1103) (by decide +kernel)
theorem y_3_z : Cond.initialized RX3 ∈ pT := p_wT (i := 1005) (by decide +kernel)
set_option maxRecDepth 100000 in
theorem y_4 : ((u_ws RX4 TX4 9).zip [1083, 1085, 1087, 1089, 1091, 1093, 1095, 1097, 1099]).all (fun q => p_w q.2 q.1) = true := by decide +kernel
theorem y_4_in : ∀ w ∈ u_ws RX4 TX4 9, w ∈ pT := by
  intro w hw
  obtain ⟨i, hi⟩ := List.getElem?_of_mem hw
  have hl : (u_ws RX4 TX4 9).length = ([1083, 1085, 1087, 1089, 1091, 1093, 1095, 1097, 1099] : List Nat).length := rfl
  have hlt : i < (u_ws RX4 TX4 9).length := (List.getElem?_eq_some_iff.mp hi).1
  have h2 : ((u_ws RX4 TX4 9).zip [1083, 1085, 1087, 1089, 1091, 1093, 1095, 1097, 1099])[i]? = some (w, ([1083, 1085, 1087, 1089, 1091, 1093, 1095, 1097, 1099] : List Nat)[i]) := by
    rw [List.getElem?_zip_eq_some]
    exact ⟨hi, List.getElem?_eq_getElem _⟩
  exact p_wT (List.all_eq_true.mp y_4 _ (List.mem_of_getElem? h2))
theorem y_4_t : Cond.instantiable RX4 9 ∈ pT := p_wT (i := 1066) (by decide +kernel)
theorem y_4_z : Cond.initialized RX4 ∈ pT := p_wT (i := 1004) (by decide +kernel)
set_option maxRecDepth 100000 in
theorem y_5 : ((u_ws RX5 TX5 2).zip [1142, 1144]).all (fun q => p_w q.2 q.1) = true := by decide +kernel
theorem y_5_in : ∀ w ∈ u_ws RX5 TX5 2, w ∈ pT := by
  intro w hw
  obtain ⟨i, hi⟩ := List.getElem?_of_mem hw
  have hl : (u_ws RX5 TX5 2).length = ([1142, 1144] : List Nat).length := rfl
  have hlt : i < (u_ws RX5 TX5 2).length := (List.getElem?_eq_some_iff.mp hi).1
  have h2 : ((u_ws RX5 TX5 2).zip [1142, 1144])[i]? = some (w, ([1142, 1144] : List Nat)[i]) := by
    rw [List.getElem?_zip_eq_some]
    exact ⟨hi, List.getElem?_eq_getElem _⟩
  exact p_wT (List.all_eq_true.mp y_5 _ (List.mem_of_getElem? h2))
theorem y_5_t : Cond.instantiable RX5 2 ∈ pT := p_wT (i := 1135) (by decide +kernel)
theorem y_5_z : Cond.initialized RX5 ∈ pT := p_wT (i := 1006) (by decide +kernel)
set_option maxRecDepth 100000 in
theorem y_6 : ((u_ws RX6 TX6 2).zip [1037, 1039]).all (fun q => p_w q.2 q.1) = true := by decide +kernel
theorem y_6_in : ∀ w ∈ u_ws RX6 TX6 2, w ∈ pT := by
  intro w hw
  obtain ⟨i, hi⟩ := List.getElem?_of_mem hw
  have hl : (u_ws RX6 TX6 2).length = ([1037, 1039] : List Nat).length := rfl
  have hlt : i < (u_ws RX6 TX6 2).length := (List.getElem?_eq_some_iff.mp hi).1
  have h2 : ((u_ws RX6 TX6 2).zip [1037, 1039])[i]? = some (w, ([1037, 1039] : List Nat)[i]) := by
    rw [List.getElem?_zip_eq_some]
    exact ⟨hi, List.getElem?_eq_getElem _⟩
  exact p_wT (List.all_eq_true.mp y_6 _ (List.mem_of_getElem? h2))
theorem y_6_t : Cond.instantiable RX6 2 ∈ pT := p_wT (i := 1026) (by decide +kernel)
theorem y_6_z : Cond.initialized RX6 ∈ pT := p_wT (i := 1002) (by decide +kernel)
set_option maxRecDepth 100000 in
theorem y_7 : ((u_ws RX7 TX7 4).zip [2098, 2100, 2102, 2104]).all (fun q => p_w q.2 q.1) = true := by decide +kernel
theorem y_7_in : ∀ w ∈ u_ws RX7 TX7 4, w ∈ pT := by
  intro w hw
  obtain ⟨i, hi⟩ := List.getElem?_of_mem hw
  have hl : (u_ws RX7 TX7 4).length = ([2098, 2100, 2102, 2104] : List Nat).length := rfl
  have hlt : i < (u_ws RX7 TX7 4).length := (List.getElem?_eq_some_iff.mp hi).1
  have h2 : ((u_ws RX7 TX7 4).zip [2098, 2100, 2102, 2104])[i]? = some (w, ([2098, 2100, 2102, 2104] : List Nat)[i]) := by
    rw [List.getElem?_zip_eq_some]
    exact ⟨hi, List.getElem?_eq_getElem _⟩
  exact p_wT (List.all_eq_true.mp y_7 _ (List.mem_of_getElem? h2))
theorem y_7_t : Cond.instantiable RX7 4 ∈ pT := p_wT (i := 2074) (by decide +kernel)
theorem y_7_z : Cond.initialized RX7 ∈ pT := p_wT (i := 1012) (by decide +kernel)
set_option maxRecDepth 100000 in
theorem y_8 : ((u_ws RX8 TX8 14).zip [1170, 1172, 1174, 1176, 1178, 1180, 1182, 1184, 1186, 1188, 1190, 1192, 1194, 1196]).all (fun q => p_w q.2 q.1) = true := by decide +kernel
theorem y_8_in : ∀ w ∈ u_ws RX8 TX8 14, w ∈ pT := by
  intro w hw
  obtain ⟨i, hi⟩ := List.getElem?_of_mem hw
  have hl : (u_ws RX8 TX8 14).length = ([1170, 1172, 1174, 1176, 1178, 1180, 1182, 1184, 1186, 1188, 1190, 1192, 1194, 1196] : List Nat).length := rfl
  have hlt : i < (u_ws RX8 TX8 14).length := (List.getElem?_eq_some_iff.mp hi).1
  have h2 : ((u_ws RX8 TX8 14).zip [1170, 1172, 1174, 1176, 1178, 1180, 1182, 1184, 1186, 1188, 1190, 1192, 1194, 1196])[i]? = some (w, ([1170, 1172, 1174, 1176, 1178, 1180, 1182, 1184, 1186, 1188, 1190, 1192, 1194, 1196] : List Nat)[i]) := by
    rw [List.getElem?_zip_eq_some]
    exact ⟨hi, List.getElem?_eq_getElem _⟩
  exact p_wT (List.all_eq_true.mp y_8 _ (List.mem_of_getElem? h2))
theorem y_8_t : Cond.instantiable RX8 14 ∈ pT := p_wT (i := 1149) (by decide +kernel)
theorem y_8_z : Cond.initialized RX8 ∈ pT := p_wT (i := 1007) (by decide +kernel)
set_option maxRecDepth 100000 in
theorem y_9 : ((u_ws RX9 TX9 3).zip [1056, 1058, 1060]).all (fun q => p_w q.2 q.1) = true := by decide +kernel
theorem y_9_in : ∀ w ∈ u_ws RX9 TX9 3, w ∈ pT := by
  intro w hw
  obtain ⟨i, hi⟩ := List.getElem?_of_mem hw
  have hl : (u_ws RX9 TX9 3).length = ([1056, 1058, 1060] : List Nat).length := rfl
  have hlt : i < (u_ws RX9 TX9 3).length := (List.getElem?_eq_some_iff.mp hi).1
  have h2 : ((u_ws RX9 TX9 3).zip [1056, 1058, 1060])[i]? = some (w, ([1056, 1058, 1060] : List Nat)[i]) := by
    rw [List.getElem?_zip_eq_some]
    exact ⟨hi, List.getElem?_eq_getElem _⟩
  exact p_wT (List.all_eq_true.mp y_9 _ (List.mem_of_getElem? h2))
theorem y_9_t : Cond.instantiable RX9 3 ∈ pT := p_wT (i := 1044) (by decide +kernel)
theorem y_9_z : Cond.initialized RX9 ∈ pT := p_wT (i := 1003) (by decide +kernel)
set_option maxRecDepth 100000 in
theorem y_10 : ((u_ws RX10 TX10 4).zip [2135, 2136, 2137, 2138]).all (fun q => p_w q.2 q.1) = true := by decide +kernel
theorem y_10_in : ∀ w ∈ u_ws RX10 TX10 4, w ∈ pT := by
  intro w hw
  obtain ⟨i, hi⟩ := List.getElem?_of_mem hw
  have hl : (u_ws RX10 TX10 4).length = ([2135, 2136, 2137, 2138] : List Nat).length := rfl
  have hlt : i < (u_ws RX10 TX10 4).length := (List.getElem?_eq_some_iff.mp hi).1
  have h2 : ((u_ws RX10 TX10 4).zip [2135, 2136, 2137, 2138])[i]? = some (w, ([2135, 2136, 2137, 2138] : List Nat)[i]) := by
    rw [List.getElem?_zip_eq_some]
    exact ⟨hi, List.getElem?_eq_getElem _⟩
  exact p_wT (List.all_eq_true.mp y_10 _ (List.mem_of_getElem? h2))
theorem y_10_t : Cond.instantiable RX10 4 ∈ pT := p_wT (i := 2130) (by decide +kernel)
theorem y_10_z : Cond.initialized RX10 ∈ pT := p_wT (i := 1015) (by decide +kernel)
set_option maxRecDepth 100000 in
theorem y_11 : ((u_ws RX11 TX11 13).zip [1212, 1214, 1216, 1218, 1220, 1222, 1224, 1226, 1228, 1230, 1232, 1234, 1236]).all (fun q => p_w q.2 q.1) = true := by decide +kernel
theorem y_11_in : ∀ w ∈ u_ws RX11 TX11 13, w ∈ pT := by
  intro w hw
  obtain ⟨i, hi⟩ := List.getElem?_of_mem hw
  have hl : (u_ws RX11 TX11 13).length = ([1212, 1214, 1216, 1218, 1220, 1222, 1224, 1226, 1228, 1230, 1232, 1234, 1236] : List Nat).length := rfl
  have hlt : i < (u_ws RX11 TX11 13).length := (List.getElem?_eq_some_iff.mp hi).1
  have h2 : ((u_ws RX11 TX11 13).zip [1212, 1214, 1216, 1218, 1220, 1222, 1224, 1226, 1228, 1230, 1232, 1234, 1236])[i]? = some (w, ([1212, 1214, 1216, 1218, 1220, 1222, 1224, 1226, 1228, 1230, 1232, 1234, 1236] : List Nat)[i]) := by
    rw [List.getElem?_zip_eq_some]
    exact ⟨hi, List.getElem?_eq_getElem _⟩
  exact p_wT (List.all_eq_true.mp y_11 _ (List.mem_of_getElem? h2))
theorem y_11_t : Cond.instantiable RX11 13 ∈ pT := p_wT (i := 1018) (by decide +kernel)
theorem y_11_z : Cond.initialized RX11 ∈ pT := p_wT (i := 1001) (by decide +kernel)
set_option maxRecDepth 100000 in
theorem y_12 : ((u_ws RX12 TX12 45).zip [4067, 4069, 4071, 4073, 4075, 4077, 4079, 4081, 4083, 4085, 4087, 4089, 4091, 4093, 4095, 4097, 4099, 4101, 4103, 4105, 4107, 4109, 4111, 4113, 4115, 4117, 4119, 4121, 4123, 4125, 4127, 4129, 4131, 4133, 4135, 4137, 4139, 4141, 4143, 4145, 4147, 4149, 4151, 4153, 4155]).all (fun q => p_w q.2 q.1) = true := by decide +kernel
theorem y_12_in : ∀ w ∈ u_ws RX12 TX12 45, w ∈ pT := by
  intro w hw
  obtain ⟨i, hi⟩ := List.getElem?_of_mem hw
  have hl : (u_ws RX12 TX12 45).length = ([4067, 4069, 4071, 4073, 4075, 4077, 4079, 4081, 4083, 4085, 4087, 4089, 4091, 4093, 4095, 4097, 4099, 4101, 4103, 4105, 4107, 4109, 4111, 4113, 4115, 4117, 4119, 4121, 4123, 4125, 4127, 4129, 4131, 4133, 4135, 4137, 4139, 4141, 4143, 4145, 4147, 4149, 4151, 4153, 4155] : List Nat).length := rfl
  have hlt : i < (u_ws RX12 TX12 45).length := (List.getElem?_eq_some_iff.mp hi).1
  have h2 : ((u_ws RX12 TX12 45).zip [4067, 4069, 4071, 4073, 4075, 4077, 4079, 4081, 4083, 4085, 4087, 4089, 4091, 4093, 4095, 4097, 4099, 4101, 4103, 4105, 4107, 4109, 4111, 4113, 4115, 4117, 4119, 4121, 4123, 4125, 4127, 4129, 4131, 4133, 4135, 4137, 4139, 4141, 4143, 4145, 4147, 4149, 4151, 4153, 4155])[i]? = some (w, ([4067, 4069, 4071, 4073, 4075, 4077, 4079, 4081, 4083, 4085, 4087, 4089, 4091, 4093, 4095, 4097, 4099, 4101, 4103, 4105, 4107, 4109, 4111, 4113, 4115, 4117, 4119, 4121, 4123, 4125, 4127, 4129, 4131, 4133, 4135, 4137, 4139, 4141, 4143, 4145, 4147, 4149, 4151, 4153, 4155] : List Nat)[i]) := by
    rw [List.getElem?_zip_eq_some]
    exact ⟨hi, List.getElem?_eq_getElem _⟩
  exact p_wT (List.all_eq_true.mp y_12 _ (List.mem_of_getElem? h2))
theorem y_12_t : Cond.instantiable RX12 45 ∈ pT := p_wT (i := 4017) (by decide +kernel)
theorem y_12_z : Cond.initialized RX12 ∈ pT := p_wT (i := 1008) (by decide +kernel)
set_option maxRecDepth 100000 in
theorem p_own : (List.range 170).all (fun z => decide ((p_y z).cls = p_on1 (p_o z)) && plainName (p_y z).cls) = true := by decide +kernel
set_option maxRecDepth 100000 in
theorem j_oc : Cond.code objectInit ⟨#[0xb1]⟩ 1 none ∈ pT := List.mem_filter.mpr ⟨p_chT 1 _ (List.mem_of_getElem? (i := 24) rfl), rfl⟩
set_option maxRecDepth 100000 in
theorem j_c0 : Cond.code Lib.Math.max.name Lib.Math.max.code 2 (some .int) ∈ pT := List.mem_filter.mpr ⟨p_chT 3 _ (List.mem_of_getElem? (i := 13) rfl), rfl⟩
set_option maxRecDepth 100000 in
theorem j_c1 : Cond.code Lib.Math.min.name Lib.Math.min.code 2 (some .int) ∈ pT := List.mem_filter.mpr ⟨p_chT 2 _ (List.mem_of_getElem? (i := 43) rfl), rfl⟩
set_option maxRecDepth 100000 in
theorem j_c2 : Cond.code Lib.MathLoose.max_long.x Lib.MathLoose.max_long.code 4 (some .long) ∈ pT := List.mem_filter.mpr ⟨p_chT 3 _ (List.mem_of_getElem? (i := 134) rfl), rfl⟩
set_option maxRecDepth 100000 in
theorem k_0 : Cond.code (p_y 0) (p_c 0) (p_x 0) (p_r 0) ∈ pT := List.mem_filter.mpr ⟨p_chT 2 _ (List.mem_of_getElem? (i := 111) rfl), rfl⟩
set_option maxRecDepth 100000 in
theorem k_1 : Cond.code (p_y 1) (p_c 1) (p_x 1) (p_r 1) ∈ pT := List.mem_filter.mpr ⟨p_chT 2 _ (List.mem_of_getElem? (i := 161) rfl), rfl⟩
set_option maxRecDepth 100000 in
theorem k_2 : Cond.code (p_y 2) (p_c 2) (p_x 2) (p_r 2) ∈ pT := List.mem_filter.mpr ⟨p_chT 2 _ (List.mem_of_getElem? (i := 178) rfl), rfl⟩
set_option maxRecDepth 100000 in
theorem k_3 : Cond.code (p_y 3) (p_c 3) (p_x 3) (p_r 3) ∈ pT := List.mem_filter.mpr ⟨p_chT 2 _ (List.mem_of_getElem? (i := 80) rfl), rfl⟩
set_option maxRecDepth 100000 in
theorem k_4 : Cond.code (p_y 4) (p_c 4) (p_x 4) (p_r 4) ∈ pT := List.mem_filter.mpr ⟨p_chT 2 _ (List.mem_of_getElem? (i := 171) rfl), rfl⟩
set_option maxRecDepth 100000 in
theorem k_5 : Cond.code (p_y 5) (p_c 5) (p_x 5) (p_r 5) ∈ pT := List.mem_filter.mpr ⟨p_chT 2 _ (List.mem_of_getElem? (i := 184) rfl), rfl⟩
set_option maxRecDepth 100000 in
theorem k_6 : Cond.code (p_y 6) (p_c 6) (p_x 6) (p_r 6) ∈ pT := List.mem_filter.mpr ⟨p_chT 2 _ (List.mem_of_getElem? (i := 195) rfl), rfl⟩
set_option maxRecDepth 100000 in
theorem k_7 : Cond.code (p_y 7) (p_c 7) (p_x 7) (p_r 7) ∈ pT := List.mem_filter.mpr ⟨p_chT 2 _ (List.mem_of_getElem? (i := 122) rfl), rfl⟩
set_option maxRecDepth 100000 in
theorem k_8 : Cond.code (p_y 8) (p_c 8) (p_x 8) (p_r 8) ∈ pT := List.mem_filter.mpr ⟨p_chT 2 _ (List.mem_of_getElem? (i := 164) rfl), rfl⟩
set_option maxRecDepth 100000 in
theorem k_9 : Cond.code (p_y 9) (p_c 9) (p_x 9) (p_r 9) ∈ pT := List.mem_filter.mpr ⟨p_chT 1 _ (List.mem_of_getElem? (i := 106) rfl), rfl⟩
set_option maxRecDepth 100000 in
theorem k_10 : Cond.code (p_y 10) (p_c 10) (p_x 10) (p_r 10) ∈ pT := List.mem_filter.mpr ⟨p_chT 3 _ (List.mem_of_getElem? (i := 222) rfl), rfl⟩
set_option maxRecDepth 100000 in
theorem k_11 : Cond.code (p_y 11) (p_c 11) (p_x 11) (p_r 11) ∈ pT := List.mem_filter.mpr ⟨p_chT 3 _ (List.mem_of_getElem? (i := 230) rfl), rfl⟩
set_option maxRecDepth 100000 in
theorem k_12 : Cond.code (p_y 12) (p_c 12) (p_x 12) (p_r 12) ∈ pT := List.mem_filter.mpr ⟨p_chT 1 _ (List.mem_of_getElem? (i := 69) rfl), rfl⟩
set_option maxRecDepth 100000 in
theorem k_13 : Cond.code (p_y 13) (p_c 13) (p_x 13) (p_r 13) ∈ pT := List.mem_filter.mpr ⟨p_chT 3 _ (List.mem_of_getElem? (i := 150) rfl), rfl⟩
set_option maxRecDepth 100000 in
theorem k_14 : Cond.code (p_y 14) (p_c 14) (p_x 14) (p_r 14) ∈ pT := List.mem_filter.mpr ⟨p_chT 2 _ (List.mem_of_getElem? (i := 54) rfl), rfl⟩
set_option maxRecDepth 100000 in
theorem k_15 : Cond.code (p_y 15) (p_c 15) (p_x 15) (p_r 15) ∈ pT := List.mem_filter.mpr ⟨p_chT 3 _ (List.mem_of_getElem? (i := 142) rfl), rfl⟩
set_option maxRecDepth 100000 in
theorem k_16 : Cond.code (p_y 16) (p_c 16) (p_x 16) (p_r 16) ∈ pT := List.mem_filter.mpr ⟨p_chT 3 _ (List.mem_of_getElem? (i := 217) rfl), rfl⟩
set_option maxRecDepth 100000 in
theorem k_17 : Cond.code (p_y 17) (p_c 17) (p_x 17) (p_r 17) ∈ pT := List.mem_filter.mpr ⟨p_chT 3 _ (List.mem_of_getElem? (i := 162) rfl), rfl⟩
set_option maxRecDepth 100000 in
theorem k_18 : Cond.code (p_y 18) (p_c 18) (p_x 18) (p_r 18) ∈ pT := List.mem_filter.mpr ⟨p_chT 3 _ (List.mem_of_getElem? (i := 166) rfl), rfl⟩
set_option maxRecDepth 100000 in
theorem k_19 : Cond.code (p_y 19) (p_c 19) (p_x 19) (p_r 19) ∈ pT := List.mem_filter.mpr ⟨p_chT 3 _ (List.mem_of_getElem? (i := 171) rfl), rfl⟩
set_option maxRecDepth 100000 in
theorem k_20 : Cond.code (p_y 20) (p_c 20) (p_x 20) (p_r 20) ∈ pT := List.mem_filter.mpr ⟨p_chT 3 _ (List.mem_of_getElem? (i := 177) rfl), rfl⟩
set_option maxRecDepth 100000 in
theorem k_21 : Cond.code (p_y 21) (p_c 21) (p_x 21) (p_r 21) ∈ pT := List.mem_filter.mpr ⟨p_chT 3 _ (List.mem_of_getElem? (i := 181) rfl), rfl⟩
set_option maxRecDepth 100000 in
theorem k_22 : Cond.code (p_y 22) (p_c 22) (p_x 22) (p_r 22) ∈ pT := List.mem_filter.mpr ⟨p_chT 3 _ (List.mem_of_getElem? (i := 185) rfl), rfl⟩
set_option maxRecDepth 100000 in
theorem k_23 : Cond.code (p_y 23) (p_c 23) (p_x 23) (p_r 23) ∈ pT := List.mem_filter.mpr ⟨p_chT 3 _ (List.mem_of_getElem? (i := 193) rfl), rfl⟩
set_option maxRecDepth 100000 in
theorem k_24 : Cond.code (p_y 24) (p_c 24) (p_x 24) (p_r 24) ∈ pT := List.mem_filter.mpr ⟨p_chT 1 _ (List.mem_of_getElem? (i := 138) rfl), rfl⟩
set_option maxRecDepth 100000 in
theorem k_25 : Cond.code (p_y 25) (p_c 25) (p_x 25) (p_r 25) ∈ pT := List.mem_filter.mpr ⟨p_chT 3 _ (List.mem_of_getElem? (i := 112) rfl), rfl⟩
set_option maxRecDepth 100000 in
theorem k_26 : Cond.code (p_y 26) (p_c 26) (p_x 26) (p_r 26) ∈ pT := List.mem_filter.mpr ⟨p_chT 3 _ (List.mem_of_getElem? (i := 117) rfl), rfl⟩
set_option maxRecDepth 100000 in
theorem k_27 : Cond.code (p_y 27) (p_c 27) (p_x 27) (p_r 27) ∈ pT := List.mem_filter.mpr ⟨p_chT 3 _ (List.mem_of_getElem? (i := 127) rfl), rfl⟩
set_option maxRecDepth 100000 in
theorem k_28 : Cond.code (p_y 28) (p_c 28) (p_x 28) (p_r 28) ∈ pT := List.mem_filter.mpr ⟨p_chT 3 _ (List.mem_of_getElem? (i := 131) rfl), rfl⟩
set_option maxRecDepth 100000 in
theorem k_29 : Cond.code (p_y 29) (p_c 29) (p_x 29) (p_r 29) ∈ pT := List.mem_filter.mpr ⟨p_chT 1 _ (List.mem_of_getElem? (i := 29) rfl), rfl⟩
set_option maxRecDepth 100000 in
theorem k_30 : Cond.code (p_y 30) (p_c 30) (p_x 30) (p_r 30) ∈ pT := List.mem_filter.mpr ⟨p_chT 2 _ (List.mem_of_getElem? (i := 5) rfl), rfl⟩
set_option maxRecDepth 100000 in
theorem k_31 : Cond.code (p_y 31) (p_c 31) (p_x 31) (p_r 31) ∈ pT := List.mem_filter.mpr ⟨p_chT 2 _ (List.mem_of_getElem? (i := 8) rfl), rfl⟩
set_option maxRecDepth 100000 in
theorem k_32 : Cond.code (p_y 32) (p_c 32) (p_x 32) (p_r 32) ∈ pT := List.mem_filter.mpr ⟨p_chT 2 _ (List.mem_of_getElem? (i := 12) rfl), rfl⟩
set_option maxRecDepth 100000 in
theorem k_33 : Cond.code (p_y 33) (p_c 33) (p_x 33) (p_r 33) ∈ pT := List.mem_filter.mpr ⟨p_chT 2 _ (List.mem_of_getElem? (i := 24) rfl), rfl⟩
set_option maxRecDepth 100000 in
theorem k_34 : Cond.code (p_y 34) (p_c 34) (p_x 34) (p_r 34) ∈ pT := List.mem_filter.mpr ⟨p_chT 2 _ (List.mem_of_getElem? (i := 27) rfl), rfl⟩
set_option maxRecDepth 100000 in
theorem k_35 : Cond.code (p_y 35) (p_c 35) (p_x 35) (p_r 35) ∈ pT := List.mem_filter.mpr ⟨p_chT 2 _ (List.mem_of_getElem? (i := 35) rfl), rfl⟩
set_option maxRecDepth 100000 in
theorem k_36 : Cond.code (p_y 36) (p_c 36) (p_x 36) (p_r 36) ∈ pT := List.mem_filter.mpr ⟨p_chT 2 _ (List.mem_of_getElem? (i := 77) rfl), rfl⟩
set_option maxRecDepth 100000 in
theorem k_37 : Cond.code (p_y 37) (p_c 37) (p_x 37) (p_r 37) ∈ pT := List.mem_filter.mpr ⟨p_chT 2 _ (List.mem_of_getElem? (i := 167) rfl), rfl⟩
set_option maxRecDepth 100000 in
theorem k_38 : Cond.code (p_y 38) (p_c 38) (p_x 38) (p_r 38) ∈ pT := List.mem_filter.mpr ⟨p_chT 2 _ (List.mem_of_getElem? (i := 182) rfl), rfl⟩
set_option maxRecDepth 100000 in
theorem k_39 : Cond.code (p_y 39) (p_c 39) (p_x 39) (p_r 39) ∈ pT := List.mem_filter.mpr ⟨p_chT 1 _ (List.mem_of_getElem? (i := 152) rfl), rfl⟩
set_option maxRecDepth 100000 in
theorem k_40 : Cond.code (p_y 40) (p_c 40) (p_x 40) (p_r 40) ∈ pT := List.mem_filter.mpr ⟨p_chT 3 _ (List.mem_of_getElem? (i := 25) rfl), rfl⟩
set_option maxRecDepth 100000 in
theorem k_41 : Cond.code (p_y 41) (p_c 41) (p_x 41) (p_r 41) ∈ pT := List.mem_filter.mpr ⟨p_chT 3 _ (List.mem_of_getElem? (i := 35) rfl), rfl⟩
set_option maxRecDepth 100000 in
theorem k_42 : Cond.code (p_y 42) (p_c 42) (p_x 42) (p_r 42) ∈ pT := List.mem_filter.mpr ⟨p_chT 3 _ (List.mem_of_getElem? (i := 39) rfl), rfl⟩
set_option maxRecDepth 100000 in
theorem k_43 : Cond.code (p_y 43) (p_c 43) (p_x 43) (p_r 43) ∈ pT := List.mem_filter.mpr ⟨p_chT 3 _ (List.mem_of_getElem? (i := 56) rfl), rfl⟩
set_option maxRecDepth 100000 in
theorem k_44 : Cond.code (p_y 44) (p_c 44) (p_x 44) (p_r 44) ∈ pT := List.mem_filter.mpr ⟨p_chT 3 _ (List.mem_of_getElem? (i := 47) rfl), rfl⟩
set_option maxRecDepth 100000 in
theorem k_45 : Cond.code (p_y 45) (p_c 45) (p_x 45) (p_r 45) ∈ pT := List.mem_filter.mpr ⟨p_chT 3 _ (List.mem_of_getElem? (i := 52) rfl), rfl⟩
set_option maxRecDepth 100000 in
theorem k_46 : Cond.code (p_y 46) (p_c 46) (p_x 46) (p_r 46) ∈ pT := List.mem_filter.mpr ⟨p_chT 3 _ (List.mem_of_getElem? (i := 60) rfl), rfl⟩
set_option maxRecDepth 100000 in
theorem k_47 : Cond.code (p_y 47) (p_c 47) (p_x 47) (p_r 47) ∈ pT := List.mem_filter.mpr ⟨p_chT 3 _ (List.mem_of_getElem? (i := 65) rfl), rfl⟩
set_option maxRecDepth 100000 in
theorem k_48 : Cond.code (p_y 48) (p_c 48) (p_x 48) (p_r 48) ∈ pT := List.mem_filter.mpr ⟨p_chT 3 _ (List.mem_of_getElem? (i := 69) rfl), rfl⟩
set_option maxRecDepth 100000 in
theorem k_49 : Cond.code (p_y 49) (p_c 49) (p_x 49) (p_r 49) ∈ pT := List.mem_filter.mpr ⟨p_chT 3 _ (List.mem_of_getElem? (i := 73) rfl), rfl⟩
set_option maxRecDepth 100000 in
theorem k_50 : Cond.code (p_y 50) (p_c 50) (p_x 50) (p_r 50) ∈ pT := List.mem_filter.mpr ⟨p_chT 3 _ (List.mem_of_getElem? (i := 82) rfl), rfl⟩
set_option maxRecDepth 100000 in
theorem k_51 : Cond.code (p_y 51) (p_c 51) (p_x 51) (p_r 51) ∈ pT := List.mem_filter.mpr ⟨p_chT 1 _ (List.mem_of_getElem? (i := 47) rfl), rfl⟩
set_option maxRecDepth 100000 in
theorem k_52 : Cond.code (p_y 52) (p_c 52) (p_x 52) (p_r 52) ∈ pT := List.mem_filter.mpr ⟨p_chT 2 _ (List.mem_of_getElem? (i := 40) rfl), rfl⟩
set_option maxRecDepth 100000 in
theorem k_53 : Cond.code (p_y 53) (p_c 53) (p_x 53) (p_r 53) ∈ pT := List.mem_filter.mpr ⟨p_chT 2 _ (List.mem_of_getElem? (i := 62) rfl), rfl⟩
set_option maxRecDepth 100000 in
theorem k_54 : Cond.code (p_y 54) (p_c 54) (p_x 54) (p_r 54) ∈ pT := List.mem_filter.mpr ⟨p_chT 2 _ (List.mem_of_getElem? (i := 233) rfl), rfl⟩
set_option maxRecDepth 100000 in
theorem k_55 : Cond.code (p_y 55) (p_c 55) (p_x 55) (p_r 55) ∈ pT := List.mem_filter.mpr ⟨p_chT 2 _ (List.mem_of_getElem? (i := 47) rfl), rfl⟩
set_option maxRecDepth 100000 in
theorem k_56 : Cond.code (p_y 56) (p_c 56) (p_x 56) (p_r 56) ∈ pT := List.mem_filter.mpr ⟨p_chT 2 _ (List.mem_of_getElem? (i := 199) rfl), rfl⟩
set_option maxRecDepth 100000 in
theorem k_57 : Cond.code (p_y 57) (p_c 57) (p_x 57) (p_r 57) ∈ pT := List.mem_filter.mpr ⟨p_chT 3 _ (List.mem_of_getElem? (i := 31) rfl), rfl⟩
set_option maxRecDepth 100000 in
theorem k_58 : Cond.code (p_y 58) (p_c 58) (p_x 58) (p_r 58) ∈ pT := List.mem_filter.mpr ⟨p_chT 2 _ (List.mem_of_getElem? (i := 212) rfl), rfl⟩
set_option maxRecDepth 100000 in
theorem k_59 : Cond.code (p_y 59) (p_c 59) (p_x 59) (p_r 59) ∈ pT := List.mem_filter.mpr ⟨p_chT 2 _ (List.mem_of_getElem? (i := 221) rfl), rfl⟩
set_option maxRecDepth 100000 in
theorem k_60 : Cond.code (p_y 60) (p_c 60) (p_x 60) (p_r 60) ∈ pT := List.mem_filter.mpr ⟨p_chT 2 _ (List.mem_of_getElem? (i := 229) rfl), rfl⟩
set_option maxRecDepth 100000 in
theorem k_61 : Cond.code (p_y 61) (p_c 61) (p_x 61) (p_r 61) ∈ pT := List.mem_filter.mpr ⟨p_chT 3 _ (List.mem_of_getElem? (i := 5) rfl), rfl⟩
set_option maxRecDepth 100000 in
theorem k_62 : Cond.code (p_y 62) (p_c 62) (p_x 62) (p_r 62) ∈ pT := List.mem_filter.mpr ⟨p_chT 3 _ (List.mem_of_getElem? (i := 10) rfl), rfl⟩
set_option maxRecDepth 100000 in
theorem k_63 : Cond.code (p_y 63) (p_c 63) (p_x 63) (p_r 63) ∈ pT := List.mem_filter.mpr ⟨p_chT 3 _ (List.mem_of_getElem? (i := 121) rfl), rfl⟩
set_option maxRecDepth 100000 in
theorem k_64 : Cond.code (p_y 64) (p_c 64) (p_x 64) (p_r 64) ∈ pT := List.mem_filter.mpr ⟨p_chT 3 _ (List.mem_of_getElem? (i := 17) rfl), rfl⟩
set_option maxRecDepth 100000 in
theorem k_65 : Cond.code (p_y 65) (p_c 65) (p_x 65) (p_r 65) ∈ pT := List.mem_filter.mpr ⟨p_chT 2 _ (List.mem_of_getElem? (i := 133) rfl), rfl⟩
set_option maxRecDepth 100000 in
theorem k_66 : Cond.code (p_y 66) (p_c 66) (p_x 66) (p_r 66) ∈ pT := List.mem_filter.mpr ⟨p_chT 2 _ (List.mem_of_getElem? (i := 170) rfl), rfl⟩
set_option maxRecDepth 100000 in
theorem k_67 : Cond.code (p_y 67) (p_c 67) (p_x 67) (p_r 67) ∈ pT := List.mem_filter.mpr ⟨p_chT 2 _ (List.mem_of_getElem? (i := 194) rfl), rfl⟩
set_option maxRecDepth 100000 in
theorem k_68 : Cond.code (p_y 68) (p_c 68) (p_x 68) (p_r 68) ∈ pT := List.mem_filter.mpr ⟨p_chT 1 _ (List.mem_of_getElem? (i := 21) rfl), rfl⟩
set_option maxRecDepth 100000 in
theorem k_69 : Cond.code (p_y 69) (p_c 69) (p_x 69) (p_r 69) ∈ pT := List.mem_filter.mpr ⟨p_chT 2 _ (List.mem_of_getElem? (i := 2) rfl), rfl⟩
set_option maxRecDepth 100000 in
theorem k_70 : Cond.code (p_y 70) (p_c 70) (p_x 70) (p_r 70) ∈ pT := List.mem_filter.mpr ⟨p_chT 2 _ (List.mem_of_getElem? (i := 16) rfl), rfl⟩
set_option maxRecDepth 100000 in
theorem k_71 : Cond.code (p_y 71) (p_c 71) (p_x 71) (p_r 71) ∈ pT := List.mem_filter.mpr ⟨p_chT 2 _ (List.mem_of_getElem? (i := 20) rfl), rfl⟩
set_option maxRecDepth 100000 in
theorem k_72 : Cond.code (p_y 72) (p_c 72) (p_x 72) (p_r 72) ∈ pT := List.mem_filter.mpr ⟨p_chT 2 _ (List.mem_of_getElem? (i := 31) rfl), rfl⟩
set_option maxRecDepth 100000 in
theorem k_73 : Cond.code (p_y 73) (p_c 73) (p_x 73) (p_r 73) ∈ pT := List.mem_filter.mpr ⟨p_chT 2 _ (List.mem_of_getElem? (i := 58) rfl), rfl⟩
set_option maxRecDepth 100000 in
theorem k_74 : Cond.code (p_y 74) (p_c 74) (p_x 74) (p_r 74) ∈ pT := List.mem_filter.mpr ⟨p_chT 2 _ (List.mem_of_getElem? (i := 66) rfl), rfl⟩
set_option maxRecDepth 100000 in
theorem k_75 : Cond.code (p_y 75) (p_c 75) (p_x 75) (p_r 75) ∈ pT := List.mem_filter.mpr ⟨p_chT 2 _ (List.mem_of_getElem? (i := 150) rfl), rfl⟩
set_option maxRecDepth 100000 in
theorem k_76 : Cond.code (p_y 76) (p_c 76) (p_x 76) (p_r 76) ∈ pT := List.mem_filter.mpr ⟨p_chT 2 _ (List.mem_of_getElem? (i := 204) rfl), rfl⟩
set_option maxRecDepth 100000 in
theorem k_77 : Cond.code (p_y 77) (p_c 77) (p_x 77) (p_r 77) ∈ pT := List.mem_filter.mpr ⟨p_chT 2 _ (List.mem_of_getElem? (i := 208) rfl), rfl⟩
set_option maxRecDepth 100000 in
theorem k_78 : Cond.code (p_y 78) (p_c 78) (p_x 78) (p_r 78) ∈ pT := List.mem_filter.mpr ⟨p_chT 2 _ (List.mem_of_getElem? (i := 217) rfl), rfl⟩
set_option maxRecDepth 100000 in
theorem k_79 : Cond.code (p_y 79) (p_c 79) (p_x 79) (p_r 79) ∈ pT := List.mem_filter.mpr ⟨p_chT 2 _ (List.mem_of_getElem? (i := 225) rfl), rfl⟩
set_option maxRecDepth 100000 in
theorem k_80 : Cond.code (p_y 80) (p_c 80) (p_x 80) (p_r 80) ∈ pT := List.mem_filter.mpr ⟨p_chT 2 _ (List.mem_of_getElem? (i := 237) rfl), rfl⟩
set_option maxRecDepth 100000 in
theorem k_81 : Cond.code (p_y 81) (p_c 81) (p_x 81) (p_r 81) ∈ pT := List.mem_filter.mpr ⟨p_chT 3 _ (List.mem_of_getElem? (i := 1) rfl), rfl⟩
set_option maxRecDepth 100000 in
theorem k_82 : Cond.code (p_y 82) (p_c 82) (p_x 82) (p_r 82) ∈ pT := List.mem_filter.mpr ⟨p_chT 3 _ (List.mem_of_getElem? (i := 21) rfl), rfl⟩
set_option maxRecDepth 100000 in
theorem k_83 : Cond.code (p_y 83) (p_c 83) (p_x 83) (p_r 83) ∈ pT := List.mem_filter.mpr ⟨p_chT 3 _ (List.mem_of_getElem? (i := 88) rfl), rfl⟩
set_option maxRecDepth 100000 in
theorem k_84 : Cond.code (p_y 84) (p_c 84) (p_x 84) (p_r 84) ∈ pT := List.mem_filter.mpr ⟨p_chT 3 _ (List.mem_of_getElem? (i := 93) rfl), rfl⟩
set_option maxRecDepth 100000 in
theorem k_85 : Cond.code (p_y 85) (p_c 85) (p_x 85) (p_r 85) ∈ pT := List.mem_filter.mpr ⟨p_chT 3 _ (List.mem_of_getElem? (i := 97) rfl), rfl⟩
set_option maxRecDepth 100000 in
theorem k_86 : Cond.code (p_y 86) (p_c 86) (p_x 86) (p_r 86) ∈ pT := List.mem_filter.mpr ⟨p_chT 3 _ (List.mem_of_getElem? (i := 106) rfl), rfl⟩
set_option maxRecDepth 100000 in
theorem k_87 : Cond.code (p_y 87) (p_c 87) (p_x 87) (p_r 87) ∈ pT := List.mem_filter.mpr ⟨p_chT 3 _ (List.mem_of_getElem? (i := 138) rfl), rfl⟩
set_option maxRecDepth 100000 in
theorem k_88 : Cond.code (p_y 88) (p_c 88) (p_x 88) (p_r 88) ∈ pT := List.mem_filter.mpr ⟨p_chT 3 _ (List.mem_of_getElem? (i := 146) rfl), rfl⟩
set_option maxRecDepth 100000 in
theorem k_89 : Cond.code (p_y 89) (p_c 89) (p_x 89) (p_r 89) ∈ pT := List.mem_filter.mpr ⟨p_chT 3 _ (List.mem_of_getElem? (i := 154) rfl), rfl⟩
set_option maxRecDepth 100000 in
theorem k_90 : Cond.code (p_y 90) (p_c 90) (p_x 90) (p_r 90) ∈ pT := List.mem_filter.mpr ⟨p_chT 3 _ (List.mem_of_getElem? (i := 189) rfl), rfl⟩
set_option maxRecDepth 100000 in
theorem k_91 : Cond.code (p_y 91) (p_c 91) (p_x 91) (p_r 91) ∈ pT := List.mem_filter.mpr ⟨p_chT 3 _ (List.mem_of_getElem? (i := 197) rfl), rfl⟩
set_option maxRecDepth 100000 in
theorem k_92 : Cond.code (p_y 92) (p_c 92) (p_x 92) (p_r 92) ∈ pT := List.mem_filter.mpr ⟨p_chT 3 _ (List.mem_of_getElem? (i := 213) rfl), rfl⟩
set_option maxRecDepth 100000 in
theorem k_93 : Cond.code (p_y 93) (p_c 93) (p_x 93) (p_r 93) ∈ pT := List.mem_filter.mpr ⟨p_chT 3 _ (List.mem_of_getElem? (i := 226) rfl), rfl⟩
set_option maxRecDepth 100000 in
theorem k_94 : Cond.code (p_y 94) (p_c 94) (p_x 94) (p_r 94) ∈ pT := List.mem_filter.mpr ⟨p_chT 3 _ (List.mem_of_getElem? (i := 234) rfl), rfl⟩
set_option maxRecDepth 100000 in
theorem k_95 : Cond.code (p_y 95) (p_c 95) (p_x 95) (p_r 95) ∈ pT := List.mem_filter.mpr ⟨p_chT 3 _ (List.mem_of_getElem? (i := 238) rfl), rfl⟩
set_option maxRecDepth 100000 in
theorem k_96 : Cond.code (p_y 96) (p_c 96) (p_x 96) (p_r 96) ∈ pT := List.mem_filter.mpr ⟨p_chT 4 _ (List.mem_of_getElem? (i := 3) rfl), rfl⟩
set_option maxRecDepth 100000 in
theorem k_97 : Cond.code (p_y 97) (p_c 97) (p_x 97) (p_r 97) ∈ pT := List.mem_filter.mpr ⟨p_chT 4 _ (List.mem_of_getElem? (i := 10) rfl), rfl⟩
set_option maxRecDepth 100000 in
theorem k_98 : Cond.code (p_y 98) (p_c 98) (p_x 98) (p_r 98) ∈ pT := List.mem_filter.mpr ⟨p_chT 2 _ (List.mem_of_getElem? (i := 69) rfl), rfl⟩
set_option maxRecDepth 100000 in
theorem k_99 : Cond.code (p_y 99) (p_c 99) (p_x 99) (p_r 99) ∈ pT := List.mem_filter.mpr ⟨p_chT 2 _ (List.mem_of_getElem? (i := 72) rfl), rfl⟩
set_option maxRecDepth 100000 in
theorem k_100 : Cond.code (p_y 100) (p_c 100) (p_x 100) (p_r 100) ∈ pT := List.mem_filter.mpr ⟨p_chT 2 _ (List.mem_of_getElem? (i := 154) rfl), rfl⟩
set_option maxRecDepth 100000 in
theorem k_101 : Cond.code (p_y 101) (p_c 101) (p_x 101) (p_r 101) ∈ pT := List.mem_filter.mpr ⟨p_chT 3 _ (List.mem_of_getElem? (i := 101) rfl), rfl⟩
set_option maxRecDepth 100000 in
theorem k_102 : Cond.code (p_y 102) (p_c 102) (p_x 102) (p_r 102) ∈ pT := List.mem_filter.mpr ⟨p_chT 3 _ (List.mem_of_getElem? (i := 158) rfl), rfl⟩
set_option maxRecDepth 100000 in
theorem k_103 : Cond.code (p_y 103) (p_c 103) (p_x 103) (p_r 103) ∈ pT := List.mem_filter.mpr ⟨p_chT 3 _ (List.mem_of_getElem? (i := 201) rfl), rfl⟩
set_option maxRecDepth 100000 in
theorem k_104 : Cond.code (p_y 104) (p_c 104) (p_x 104) (p_r 104) ∈ pT := List.mem_filter.mpr ⟨p_chT 3 _ (List.mem_of_getElem? (i := 209) rfl), rfl⟩
set_option maxRecDepth 100000 in
theorem k_105 : Cond.code (p_y 105) (p_c 105) (p_x 105) (p_r 105) ∈ pT := List.mem_filter.mpr ⟨p_chT 4 _ (List.mem_of_getElem? (i := 20) rfl), rfl⟩
set_option maxRecDepth 100000 in
theorem k_106 : Cond.code (p_y 106) (p_c 106) (p_x 106) (p_r 106) ∈ pT := List.mem_filter.mpr ⟨p_chT 4 _ (List.mem_of_getElem? (i := 178) rfl), rfl⟩
set_option maxRecDepth 100000 in
theorem k_107 : Cond.code (p_y 107) (p_c 107) (p_x 107) (p_r 107) ∈ pT := List.mem_filter.mpr ⟨p_chT 4 _ (List.mem_of_getElem? (i := 162) rfl), rfl⟩
set_option maxRecDepth 100000 in
theorem k_108 : Cond.code (p_y 108) (p_c 108) (p_x 108) (p_r 108) ∈ pT := List.mem_filter.mpr ⟨p_chT 4 _ (List.mem_of_getElem? (i := 167) rfl), rfl⟩
set_option maxRecDepth 100000 in
theorem k_109 : Cond.code (p_y 109) (p_c 109) (p_x 109) (p_r 109) ∈ pT := List.mem_filter.mpr ⟨p_chT 4 _ (List.mem_of_getElem? (i := 175) rfl), rfl⟩
set_option maxRecDepth 100000 in
theorem k_110 : Cond.code (p_y 110) (p_c 110) (p_x 110) (p_r 110) ∈ pT := List.mem_filter.mpr ⟨p_chT 4 _ (List.mem_of_getElem? (i := 171) rfl), rfl⟩
set_option maxRecDepth 100000 in
theorem k_111 : Cond.code (p_y 111) (p_c 111) (p_x 111) (p_r 111) ∈ pT := List.mem_filter.mpr ⟨p_chT 4 _ (List.mem_of_getElem? (i := 182) rfl), rfl⟩
set_option maxRecDepth 100000 in
theorem k_112 : Cond.code (p_y 112) (p_c 112) (p_x 112) (p_r 112) ∈ pT := List.mem_filter.mpr ⟨p_chT 4 _ (List.mem_of_getElem? (i := 190) rfl), rfl⟩
set_option maxRecDepth 100000 in
theorem k_113 : Cond.code (p_y 113) (p_c 113) (p_x 113) (p_r 113) ∈ pT := List.mem_filter.mpr ⟨p_chT 4 _ (List.mem_of_getElem? (i := 194) rfl), rfl⟩
set_option maxRecDepth 100000 in
theorem k_114 : Cond.code (p_y 114) (p_c 114) (p_x 114) (p_r 114) ∈ pT := List.mem_filter.mpr ⟨p_chT 4 _ (List.mem_of_getElem? (i := 186) rfl), rfl⟩
set_option maxRecDepth 100000 in
theorem k_115 : Cond.code (p_y 115) (p_c 115) (p_x 115) (p_r 115) ∈ pT := List.mem_filter.mpr ⟨p_chT 4 _ (List.mem_of_getElem? (i := 209) rfl), rfl⟩
set_option maxRecDepth 100000 in
theorem k_116 : Cond.code (p_y 116) (p_c 116) (p_x 116) (p_r 116) ∈ pT := List.mem_filter.mpr ⟨p_chT 4 _ (List.mem_of_getElem? (i := 201) rfl), rfl⟩
set_option maxRecDepth 100000 in
theorem k_117 : Cond.code (p_y 117) (p_c 117) (p_x 117) (p_r 117) ∈ pT := List.mem_filter.mpr ⟨p_chT 4 _ (List.mem_of_getElem? (i := 198) rfl), rfl⟩
set_option maxRecDepth 100000 in
theorem k_118 : Cond.code (p_y 118) (p_c 118) (p_x 118) (p_r 118) ∈ pT := List.mem_filter.mpr ⟨p_chT 4 _ (List.mem_of_getElem? (i := 217) rfl), rfl⟩
set_option maxRecDepth 100000 in
theorem k_119 : Cond.code (p_y 119) (p_c 119) (p_x 119) (p_r 119) ∈ pT := List.mem_filter.mpr ⟨p_chT 4 _ (List.mem_of_getElem? (i := 221) rfl), rfl⟩
set_option maxRecDepth 100000 in
theorem k_120 : Cond.code (p_y 120) (p_c 120) (p_x 120) (p_r 120) ∈ pT := List.mem_filter.mpr ⟨p_chT 4 _ (List.mem_of_getElem? (i := 225) rfl), rfl⟩
set_option maxRecDepth 100000 in
theorem k_121 : Cond.code (p_y 121) (p_c 121) (p_x 121) (p_r 121) ∈ pT := List.mem_filter.mpr ⟨p_chT 4 _ (List.mem_of_getElem? (i := 213) rfl), rfl⟩
set_option maxRecDepth 100000 in
theorem k_122 : Cond.code (p_y 122) (p_c 122) (p_x 122) (p_r 122) ∈ pT := List.mem_filter.mpr ⟨p_chT 4 _ (List.mem_of_getElem? (i := 205) rfl), rfl⟩
set_option maxRecDepth 100000 in
theorem k_123 : Cond.code (p_y 123) (p_c 123) (p_x 123) (p_r 123) ∈ pT := List.mem_filter.mpr ⟨p_chT 4 _ (List.mem_of_getElem? (i := 229) rfl), rfl⟩
set_option maxRecDepth 100000 in
theorem k_124 : Cond.code (p_y 124) (p_c 124) (p_x 124) (p_r 124) ∈ pT := List.mem_filter.mpr ⟨p_chT 4 _ (List.mem_of_getElem? (i := 237) rfl), rfl⟩
set_option maxRecDepth 100000 in
theorem k_125 : Cond.code (p_y 125) (p_c 125) (p_x 125) (p_r 125) ∈ pT := List.mem_filter.mpr ⟨p_chT 5 _ (List.mem_of_getElem? (i := 5) rfl), rfl⟩
set_option maxRecDepth 100000 in
theorem k_126 : Cond.code (p_y 126) (p_c 126) (p_x 126) (p_r 126) ∈ pT := List.mem_filter.mpr ⟨p_chT 5 _ (List.mem_of_getElem? (i := 17) rfl), rfl⟩
set_option maxRecDepth 100000 in
theorem k_127 : Cond.code (p_y 127) (p_c 127) (p_x 127) (p_r 127) ∈ pT := List.mem_filter.mpr ⟨p_chT 5 _ (List.mem_of_getElem? (i := 33) rfl), rfl⟩
set_option maxRecDepth 100000 in
theorem k_128 : Cond.code (p_y 128) (p_c 128) (p_x 128) (p_r 128) ∈ pT := List.mem_filter.mpr ⟨p_chT 5 _ (List.mem_of_getElem? (i := 25) rfl), rfl⟩
set_option maxRecDepth 100000 in
theorem k_129 : Cond.code (p_y 129) (p_c 129) (p_x 129) (p_r 129) ∈ pT := List.mem_filter.mpr ⟨p_chT 5 _ (List.mem_of_getElem? (i := 9) rfl), rfl⟩
set_option maxRecDepth 100000 in
theorem k_130 : Cond.code (p_y 130) (p_c 130) (p_x 130) (p_r 130) ∈ pT := List.mem_filter.mpr ⟨p_chT 5 _ (List.mem_of_getElem? (i := 21) rfl), rfl⟩
set_option maxRecDepth 100000 in
theorem k_131 : Cond.code (p_y 131) (p_c 131) (p_x 131) (p_r 131) ∈ pT := List.mem_filter.mpr ⟨p_chT 4 _ (List.mem_of_getElem? (i := 233) rfl), rfl⟩
set_option maxRecDepth 100000 in
theorem k_132 : Cond.code (p_y 132) (p_c 132) (p_x 132) (p_r 132) ∈ pT := List.mem_filter.mpr ⟨p_chT 5 _ (List.mem_of_getElem? (i := 1) rfl), rfl⟩
set_option maxRecDepth 100000 in
theorem k_133 : Cond.code (p_y 133) (p_c 133) (p_x 133) (p_r 133) ∈ pT := List.mem_filter.mpr ⟨p_chT 5 _ (List.mem_of_getElem? (i := 13) rfl), rfl⟩
set_option maxRecDepth 100000 in
theorem k_134 : Cond.code (p_y 134) (p_c 134) (p_x 134) (p_r 134) ∈ pT := List.mem_filter.mpr ⟨p_chT 5 _ (List.mem_of_getElem? (i := 29) rfl), rfl⟩
set_option maxRecDepth 100000 in
theorem k_135 : Cond.code (p_y 135) (p_c 135) (p_x 135) (p_r 135) ∈ pT := List.mem_filter.mpr ⟨p_chT 5 _ (List.mem_of_getElem? (i := 45) rfl), rfl⟩
set_option maxRecDepth 100000 in
theorem k_136 : Cond.code (p_y 136) (p_c 136) (p_x 136) (p_r 136) ∈ pT := List.mem_filter.mpr ⟨p_chT 5 _ (List.mem_of_getElem? (i := 41) rfl), rfl⟩
set_option maxRecDepth 100000 in
theorem k_137 : Cond.code (p_y 137) (p_c 137) (p_x 137) (p_r 137) ∈ pT := List.mem_filter.mpr ⟨p_chT 5 _ (List.mem_of_getElem? (i := 37) rfl), rfl⟩
set_option maxRecDepth 100000 in
theorem k_138 : Cond.code (p_y 138) (p_c 138) (p_x 138) (p_r 138) ∈ pT := List.mem_filter.mpr ⟨p_chT 5 _ (List.mem_of_getElem? (i := 57) rfl), rfl⟩
set_option maxRecDepth 100000 in
theorem k_139 : Cond.code (p_y 139) (p_c 139) (p_x 139) (p_r 139) ∈ pT := List.mem_filter.mpr ⟨p_chT 5 _ (List.mem_of_getElem? (i := 65) rfl), rfl⟩
set_option maxRecDepth 100000 in
theorem k_140 : Cond.code (p_y 140) (p_c 140) (p_x 140) (p_r 140) ∈ pT := List.mem_filter.mpr ⟨p_chT 5 _ (List.mem_of_getElem? (i := 69) rfl), rfl⟩
set_option maxRecDepth 100000 in
theorem k_141 : Cond.code (p_y 141) (p_c 141) (p_x 141) (p_r 141) ∈ pT := List.mem_filter.mpr ⟨p_chT 5 _ (List.mem_of_getElem? (i := 53) rfl), rfl⟩
set_option maxRecDepth 100000 in
theorem k_142 : Cond.code (p_y 142) (p_c 142) (p_x 142) (p_r 142) ∈ pT := List.mem_filter.mpr ⟨p_chT 5 _ (List.mem_of_getElem? (i := 61) rfl), rfl⟩
set_option maxRecDepth 100000 in
theorem k_143 : Cond.code (p_y 143) (p_c 143) (p_x 143) (p_r 143) ∈ pT := List.mem_filter.mpr ⟨p_chT 5 _ (List.mem_of_getElem? (i := 49) rfl), rfl⟩
set_option maxRecDepth 100000 in
theorem k_144 : Cond.code (p_y 144) (p_c 144) (p_x 144) (p_r 144) ∈ pT := List.mem_filter.mpr ⟨p_chT 5 _ (List.mem_of_getElem? (i := 77) rfl), rfl⟩
set_option maxRecDepth 100000 in
theorem k_145 : Cond.code (p_y 145) (p_c 145) (p_x 145) (p_r 145) ∈ pT := List.mem_filter.mpr ⟨p_chT 5 _ (List.mem_of_getElem? (i := 73) rfl), rfl⟩
set_option maxRecDepth 100000 in
theorem k_146 : Cond.code (p_y 146) (p_c 146) (p_x 146) (p_r 146) ∈ pT := List.mem_filter.mpr ⟨p_chT 5 _ (List.mem_of_getElem? (i := 85) rfl), rfl⟩
set_option maxRecDepth 100000 in
theorem k_147 : Cond.code (p_y 147) (p_c 147) (p_x 147) (p_r 147) ∈ pT := List.mem_filter.mpr ⟨p_chT 5 _ (List.mem_of_getElem? (i := 81) rfl), rfl⟩
set_option maxRecDepth 100000 in
theorem k_148 : Cond.code (p_y 148) (p_c 148) (p_x 148) (p_r 148) ∈ pT := List.mem_filter.mpr ⟨p_chT 5 _ (List.mem_of_getElem? (i := 93) rfl), rfl⟩
set_option maxRecDepth 100000 in
theorem k_149 : Cond.code (p_y 149) (p_c 149) (p_x 149) (p_r 149) ∈ pT := List.mem_filter.mpr ⟨p_chT 5 _ (List.mem_of_getElem? (i := 89) rfl), rfl⟩
set_option maxRecDepth 100000 in
theorem k_150 : Cond.code (p_y 150) (p_c 150) (p_x 150) (p_r 150) ∈ pT := List.mem_filter.mpr ⟨p_chT 5 _ (List.mem_of_getElem? (i := 104) rfl), rfl⟩
set_option maxRecDepth 100000 in
theorem k_151 : Cond.code (p_y 151) (p_c 151) (p_x 151) (p_r 151) ∈ pT := List.mem_filter.mpr ⟨p_chT 5 _ (List.mem_of_getElem? (i := 107) rfl), rfl⟩
set_option maxRecDepth 100000 in
theorem k_152 : Cond.code (p_y 152) (p_c 152) (p_x 152) (p_r 152) ∈ pT := List.mem_filter.mpr ⟨p_chT 5 _ (List.mem_of_getElem? (i := 97) rfl), rfl⟩
set_option maxRecDepth 100000 in
theorem k_153 : Cond.code (p_y 153) (p_c 153) (p_x 153) (p_r 153) ∈ pT := List.mem_filter.mpr ⟨p_chT 5 _ (List.mem_of_getElem? (i := 111) rfl), rfl⟩
set_option maxRecDepth 100000 in
theorem k_154 : Cond.code (p_y 154) (p_c 154) (p_x 154) (p_r 154) ∈ pT := List.mem_filter.mpr ⟨p_chT 5 _ (List.mem_of_getElem? (i := 115) rfl), rfl⟩
set_option maxRecDepth 100000 in
theorem k_155 : Cond.code (p_y 155) (p_c 155) (p_x 155) (p_r 155) ∈ pT := List.mem_filter.mpr ⟨p_chT 5 _ (List.mem_of_getElem? (i := 127) rfl), rfl⟩
set_option maxRecDepth 100000 in
theorem k_156 : Cond.code (p_y 156) (p_c 156) (p_x 156) (p_r 156) ∈ pT := List.mem_filter.mpr ⟨p_chT 5 _ (List.mem_of_getElem? (i := 123) rfl), rfl⟩
set_option maxRecDepth 100000 in
theorem k_157 : Cond.code (p_y 157) (p_c 157) (p_x 157) (p_r 157) ∈ pT := List.mem_filter.mpr ⟨p_chT 5 _ (List.mem_of_getElem? (i := 119) rfl), rfl⟩
set_option maxRecDepth 100000 in
theorem k_158 : Cond.code (p_y 158) (p_c 158) (p_x 158) (p_r 158) ∈ pT := List.mem_filter.mpr ⟨p_chT 5 _ (List.mem_of_getElem? (i := 131) rfl), rfl⟩
set_option maxRecDepth 100000 in
theorem k_159 : Cond.code (p_y 159) (p_c 159) (p_x 159) (p_r 159) ∈ pT := List.mem_filter.mpr ⟨p_chT 5 _ (List.mem_of_getElem? (i := 143) rfl), rfl⟩
set_option maxRecDepth 100000 in
theorem k_160 : Cond.code (p_y 160) (p_c 160) (p_x 160) (p_r 160) ∈ pT := List.mem_filter.mpr ⟨p_chT 5 _ (List.mem_of_getElem? (i := 139) rfl), rfl⟩
set_option maxRecDepth 100000 in
theorem k_161 : Cond.code (p_y 161) (p_c 161) (p_x 161) (p_r 161) ∈ pT := List.mem_filter.mpr ⟨p_chT 5 _ (List.mem_of_getElem? (i := 135) rfl), rfl⟩
set_option maxRecDepth 100000 in
theorem k_162 : Cond.code (p_y 162) (p_c 162) (p_x 162) (p_r 162) ∈ pT := List.mem_filter.mpr ⟨p_chT 5 _ (List.mem_of_getElem? (i := 151) rfl), rfl⟩
set_option maxRecDepth 100000 in
theorem k_163 : Cond.code (p_y 163) (p_c 163) (p_x 163) (p_r 163) ∈ pT := List.mem_filter.mpr ⟨p_chT 5 _ (List.mem_of_getElem? (i := 155) rfl), rfl⟩
set_option maxRecDepth 100000 in
theorem k_164 : Cond.code (p_y 164) (p_c 164) (p_x 164) (p_r 164) ∈ pT := List.mem_filter.mpr ⟨p_chT 5 _ (List.mem_of_getElem? (i := 163) rfl), rfl⟩
set_option maxRecDepth 100000 in
theorem k_165 : Cond.code (p_y 165) (p_c 165) (p_x 165) (p_r 165) ∈ pT := List.mem_filter.mpr ⟨p_chT 5 _ (List.mem_of_getElem? (i := 159) rfl), rfl⟩
set_option maxRecDepth 100000 in
theorem k_166 : Cond.code (p_y 166) (p_c 166) (p_x 166) (p_r 166) ∈ pT := List.mem_filter.mpr ⟨p_chT 5 _ (List.mem_of_getElem? (i := 172) rfl), rfl⟩
set_option maxRecDepth 100000 in
theorem k_167 : Cond.code (p_y 167) (p_c 167) (p_x 167) (p_r 167) ∈ pT := List.mem_filter.mpr ⟨p_chT 5 _ (List.mem_of_getElem? (i := 167) rfl), rfl⟩
set_option maxRecDepth 100000 in
theorem k_168 : Cond.code (p_y 168) (p_c 168) (p_x 168) (p_r 168) ∈ pT := List.mem_filter.mpr ⟨p_chT 3 _ (List.mem_of_getElem? (i := 42) rfl), rfl⟩
set_option maxRecDepth 100000 in
theorem k_169 : Cond.code (p_y 169) (p_c 169) (p_x 169) (p_r 169) ∈ pT := List.mem_filter.mpr ⟨p_chT 2 _ (List.mem_of_getElem? (i := 50) rfl), rfl⟩
theorem k_all : ∀ z, z < 170 → Cond.code (p_y z) (p_c z) (p_x z) (p_r z) ∈ pT := by
  intro z hz
  match z, hz with
  | 0, _ => exact k_0
  | 1, _ => exact k_1
  | 2, _ => exact k_2
  | 3, _ => exact k_3
  | 4, _ => exact k_4
  | 5, _ => exact k_5
  | 6, _ => exact k_6
  | 7, _ => exact k_7
  | 8, _ => exact k_8
  | 9, _ => exact k_9
  | 10, _ => exact k_10
  | 11, _ => exact k_11
  | 12, _ => exact k_12
  | 13, _ => exact k_13
  | 14, _ => exact k_14
  | 15, _ => exact k_15
  | 16, _ => exact k_16
  | 17, _ => exact k_17
  | 18, _ => exact k_18
  | 19, _ => exact k_19
  | 20, _ => exact k_20
  | 21, _ => exact k_21
  | 22, _ => exact k_22
  | 23, _ => exact k_23
  | 24, _ => exact k_24
  | 25, _ => exact k_25
  | 26, _ => exact k_26
  | 27, _ => exact k_27
  | 28, _ => exact k_28
  | 29, _ => exact k_29
  | 30, _ => exact k_30
  | 31, _ => exact k_31
  | 32, _ => exact k_32
  | 33, _ => exact k_33
  | 34, _ => exact k_34
  | 35, _ => exact k_35
  | 36, _ => exact k_36
  | 37, _ => exact k_37
  | 38, _ => exact k_38
  | 39, _ => exact k_39
  | 40, _ => exact k_40
  | 41, _ => exact k_41
  | 42, _ => exact k_42
  | 43, _ => exact k_43
  | 44, _ => exact k_44
  | 45, _ => exact k_45
  | 46, _ => exact k_46
  | 47, _ => exact k_47
  | 48, _ => exact k_48
  | 49, _ => exact k_49
  | 50, _ => exact k_50
  | 51, _ => exact k_51
  | 52, _ => exact k_52
  | 53, _ => exact k_53
  | 54, _ => exact k_54
  | 55, _ => exact k_55
  | 56, _ => exact k_56
  | 57, _ => exact k_57
  | 58, _ => exact k_58
  | 59, _ => exact k_59
  | 60, _ => exact k_60
  | 61, _ => exact k_61
  | 62, _ => exact k_62
  | 63, _ => exact k_63
  | 64, _ => exact k_64
  | 65, _ => exact k_65
  | 66, _ => exact k_66
  | 67, _ => exact k_67
  | 68, _ => exact k_68
  | 69, _ => exact k_69
  | 70, _ => exact k_70
  | 71, _ => exact k_71
  | 72, _ => exact k_72
  | 73, _ => exact k_73
  | 74, _ => exact k_74
  | 75, _ => exact k_75
  | 76, _ => exact k_76
  | 77, _ => exact k_77
  | 78, _ => exact k_78
  | 79, _ => exact k_79
  | 80, _ => exact k_80
  | 81, _ => exact k_81
  | 82, _ => exact k_82
  | 83, _ => exact k_83
  | 84, _ => exact k_84
  | 85, _ => exact k_85
  | 86, _ => exact k_86
  | 87, _ => exact k_87
  | 88, _ => exact k_88
  | 89, _ => exact k_89
  | 90, _ => exact k_90
  | 91, _ => exact k_91
  | 92, _ => exact k_92
  | 93, _ => exact k_93
  | 94, _ => exact k_94
  | 95, _ => exact k_95
  | 96, _ => exact k_96
  | 97, _ => exact k_97
  | 98, _ => exact k_98
  | 99, _ => exact k_99
  | 100, _ => exact k_100
  | 101, _ => exact k_101
  | 102, _ => exact k_102
  | 103, _ => exact k_103
  | 104, _ => exact k_104
  | 105, _ => exact k_105
  | 106, _ => exact k_106
  | 107, _ => exact k_107
  | 108, _ => exact k_108
  | 109, _ => exact k_109
  | 110, _ => exact k_110
  | 111, _ => exact k_111
  | 112, _ => exact k_112
  | 113, _ => exact k_113
  | 114, _ => exact k_114
  | 115, _ => exact k_115
  | 116, _ => exact k_116
  | 117, _ => exact k_117
  | 118, _ => exact k_118
  | 119, _ => exact k_119
  | 120, _ => exact k_120
  | 121, _ => exact k_121
  | 122, _ => exact k_122
  | 123, _ => exact k_123
  | 124, _ => exact k_124
  | 125, _ => exact k_125
  | 126, _ => exact k_126
  | 127, _ => exact k_127
  | 128, _ => exact k_128
  | 129, _ => exact k_129
  | 130, _ => exact k_130
  | 131, _ => exact k_131
  | 132, _ => exact k_132
  | 133, _ => exact k_133
  | 134, _ => exact k_134
  | 135, _ => exact k_135
  | 136, _ => exact k_136
  | 137, _ => exact k_137
  | 138, _ => exact k_138
  | 139, _ => exact k_139
  | 140, _ => exact k_140
  | 141, _ => exact k_141
  | 142, _ => exact k_142
  | 143, _ => exact k_143
  | 144, _ => exact k_144
  | 145, _ => exact k_145
  | 146, _ => exact k_146
  | 147, _ => exact k_147
  | 148, _ => exact k_148
  | 149, _ => exact k_149
  | 150, _ => exact k_150
  | 151, _ => exact k_151
  | 152, _ => exact k_152
  | 153, _ => exact k_153
  | 154, _ => exact k_154
  | 155, _ => exact k_155
  | 156, _ => exact k_156
  | 157, _ => exact k_157
  | 158, _ => exact k_158
  | 159, _ => exact k_159
  | 160, _ => exact k_160
  | 161, _ => exact k_161
  | 162, _ => exact k_162
  | 163, _ => exact k_163
  | 164, _ => exact k_164
  | 165, _ => exact k_165
  | 166, _ => exact k_166
  | 167, _ => exact k_167
  | 168, _ => exact k_168
  | 169, _ => exact k_169
  | _ + 170, h => exact absurd h (by omega)
