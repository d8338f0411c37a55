-- ===== PART A: goes FIRST, ahead of the names: the tables' words, and 'selects' of the private methods out of them =====
/-- a private method of a class that the tables say can be made, by its rows of tables_1 -/
def lw_okq (q : MethodName × Nat) : Prop := (q.1.cls ≠ "java/lang/invoke/MethodHandle" ∧ q.1.cls ≠ "java/lang/invoke/VarHandle") ∧ Cond.instantiable q.1.cls q.2 ∈ tables_1 ∧ Cond.privateMethod q.1 ∈ tables_1 ∧ Cond.instanceMethod q.1 ∈ tables_1
theorem lw_p0 : lw_okq (⟨"WaterShoulders", "boatOf", "(I)LWaterShoulders$Boat;"⟩, 13) := ⟨⟨by decide +kernel, by decide +kernel⟩, List.mem_of_getElem? (i := 18) (by decide +kernel), List.mem_of_getElem? (i := 392) (by decide +kernel), List.mem_of_getElem? (i := 393) (by decide +kernel)⟩
theorem lw_p1 : lw_okq (⟨"WaterShoulders$Search", "begin", "(LWaterShoulders$Stair;[ILWaterShoulders$Boat;LWaterShoulders$Boat;)V"⟩, 14) := ⟨⟨by decide +kernel, by decide +kernel⟩, List.mem_of_getElem? (i := 149) (by decide +kernel), List.mem_of_getElem? (i := 513) (by decide +kernel), List.mem_of_getElem? (i := 514) (by decide +kernel)⟩
theorem lw_p2 : lw_okq (⟨"WaterShoulders$Search", "makeRows", "()V"⟩, 14) := ⟨⟨by decide +kernel, by decide +kernel⟩, List.mem_of_getElem? (i := 149) (by decide +kernel), List.mem_of_getElem? (i := 517) (by decide +kernel), List.mem_of_getElem? (i := 518) (by decide +kernel)⟩
theorem lw_p3 : lw_okq (⟨"WaterShoulders$Search", "reach", "([IIIII)V"⟩, 14) := ⟨⟨by decide +kernel, by decide +kernel⟩, List.mem_of_getElem? (i := 149) (by decide +kernel), List.mem_of_getElem? (i := 525) (by decide +kernel), List.mem_of_getElem? (i := 526) (by decide +kernel)⟩
theorem lw_p4 : lw_okq (⟨"WaterShoulders$Search", "firstAct", "(I)I"⟩, 14) := ⟨⟨by decide +kernel, by decide +kernel⟩, List.mem_of_getElem? (i := 149) (by decide +kernel), List.mem_of_getElem? (i := 530) (by decide +kernel), List.mem_of_getElem? (i := 531) (by decide +kernel)⟩
theorem lw_p5 : lw_okq (⟨"WaterShoulders$Search", "unpack", "(LWaterShoulders$Stair;I)V"⟩, 14) := ⟨⟨by decide +kernel, by decide +kernel⟩, List.mem_of_getElem? (i := 149) (by decide +kernel), List.mem_of_getElem? (i := 534) (by decide +kernel), List.mem_of_getElem? (i := 535) (by decide +kernel)⟩
theorem lw_p6 : lw_okq (⟨"WaterShoulders$Search", "tryBoat", "(LWaterShoulders$Stair;)Z"⟩, 14) := ⟨⟨by decide +kernel, by decide +kernel⟩, List.mem_of_getElem? (i := 149) (by decide +kernel), List.mem_of_getElem? (i := 538) (by decide +kernel), List.mem_of_getElem? (i := 539) (by decide +kernel)⟩
theorem lw_p7 : lw_okq (⟨"WaterShoulders$Search", "tryCarrierMoves", "(LWaterShoulders$Stair;)V"⟩, 14) := ⟨⟨by decide +kernel, by decide +kernel⟩, List.mem_of_getElem? (i := 149) (by decide +kernel), List.mem_of_getElem? (i := 543) (by decide +kernel), List.mem_of_getElem? (i := 544) (by decide +kernel)⟩
theorem lw_p8 : lw_okq (⟨"WaterShoulders$Search", "tryPours", "(LWaterShoulders$Stair;)V"⟩, 14) := ⟨⟨by decide +kernel, by decide +kernel⟩, List.mem_of_getElem? (i := 149) (by decide +kernel), List.mem_of_getElem? (i := 547) (by decide +kernel), List.mem_of_getElem? (i := 548) (by decide +kernel)⟩
theorem lw_p9 : lw_okq (⟨"WaterShoulders$Search", "pourInto", "(LWaterShoulders$Stair;II)V"⟩, 14) := ⟨⟨by decide +kernel, by decide +kernel⟩, List.mem_of_getElem? (i := 149) (by decide +kernel), List.mem_of_getElem? (i := 551) (by decide +kernel), List.mem_of_getElem? (i := 552) (by decide +kernel)⟩
theorem lw_p10 : lw_okq (⟨"WaterShoulders$Search", "tryTakes", "(LWaterShoulders$Stair;)V"⟩, 14) := ⟨⟨by decide +kernel, by decide +kernel⟩, List.mem_of_getElem? (i := 149) (by decide +kernel), List.mem_of_getElem? (i := 560) (by decide +kernel), List.mem_of_getElem? (i := 561) (by decide +kernel)⟩
theorem lw_p11 : lw_okq (⟨"WaterShoulders", "savedBy", "(II)I"⟩, 13) := ⟨⟨by decide +kernel, by decide +kernel⟩, List.mem_of_getElem? (i := 18) (by decide +kernel), List.mem_of_getElem? (i := 579) (by decide +kernel), List.mem_of_getElem? (i := 580) (by decide +kernel)⟩
theorem lw_p12 : lw_okq (⟨"WaterShoulders", "followMarks", "(I)V"⟩, 13) := ⟨⟨by decide +kernel, by decide +kernel⟩, List.mem_of_getElem? (i := 18) (by decide +kernel), List.mem_of_getElem? (i := 636) (by decide +kernel), List.mem_of_getElem? (i := 637) (by decide +kernel)⟩
theorem lw_p13 : lw_okq (⟨"WaterShoulders$Mud", "addUp", "()V"⟩, 9) := ⟨⟨by decide +kernel, by decide +kernel⟩, List.mem_of_getElem? (i := 66) (by decide +kernel), List.mem_of_getElem? (i := 644) (by decide +kernel), List.mem_of_getElem? (i := 645) (by decide +kernel)⟩
theorem lw_p14 : lw_okq (⟨"WaterShoulders$Mud", "fittingCrews", "(LWaterShoulders$Stair;II)I"⟩, 9) := ⟨⟨by decide +kernel, by decide +kernel⟩, List.mem_of_getElem? (i := 66) (by decide +kernel), List.mem_of_getElem? (i := 649) (by decide +kernel), List.mem_of_getElem? (i := 650) (by decide +kernel)⟩
theorem lw_p15 : lw_okq (⟨"WaterShoulders$Mud", "passDay", "(III)V"⟩, 9) := ⟨⟨by decide +kernel, by decide +kernel⟩, List.mem_of_getElem? (i := 66) (by decide +kernel), List.mem_of_getElem? (i := 655) (by decide +kernel), List.mem_of_getElem? (i := 656) (by decide +kernel)⟩
def lw_privs_1 : List (MethodName × Nat) := [(⟨"WaterShoulders", "boatOf", "(I)LWaterShoulders$Boat;"⟩, 13), (⟨"WaterShoulders$Search", "begin", "(LWaterShoulders$Stair;[ILWaterShoulders$Boat;LWaterShoulders$Boat;)V"⟩, 14), (⟨"WaterShoulders$Search", "makeRows", "()V"⟩, 14), (⟨"WaterShoulders$Search", "reach", "([IIIII)V"⟩, 14), (⟨"WaterShoulders$Search", "firstAct", "(I)I"⟩, 14), (⟨"WaterShoulders$Search", "unpack", "(LWaterShoulders$Stair;I)V"⟩, 14), (⟨"WaterShoulders$Search", "tryBoat", "(LWaterShoulders$Stair;)Z"⟩, 14), (⟨"WaterShoulders$Search", "tryCarrierMoves", "(LWaterShoulders$Stair;)V"⟩, 14), (⟨"WaterShoulders$Search", "tryPours", "(LWaterShoulders$Stair;)V"⟩, 14), (⟨"WaterShoulders$Search", "pourInto", "(LWaterShoulders$Stair;II)V"⟩, 14), (⟨"WaterShoulders$Search", "tryTakes", "(LWaterShoulders$Stair;)V"⟩, 14), (⟨"WaterShoulders", "savedBy", "(II)I"⟩, 13), (⟨"WaterShoulders", "followMarks", "(I)V"⟩, 13), (⟨"WaterShoulders$Mud", "addUp", "()V"⟩, 9), (⟨"WaterShoulders$Mud", "fittingCrews", "(LWaterShoulders$Stair;II)I"⟩, 9), (⟨"WaterShoulders$Mud", "passDay", "(III)V"⟩, 9)]
theorem lw_r1 : ∀ q ∈ lw_privs_1, lw_okq q := List.forall_mem_cons.mpr ⟨lw_p0, List.forall_mem_cons.mpr ⟨lw_p1, List.forall_mem_cons.mpr ⟨lw_p2, List.forall_mem_cons.mpr ⟨lw_p3, List.forall_mem_cons.mpr ⟨lw_p4, List.forall_mem_cons.mpr ⟨lw_p5, List.forall_mem_cons.mpr ⟨lw_p6, List.forall_mem_cons.mpr ⟨lw_p7, List.forall_mem_cons.mpr ⟨lw_p8, List.forall_mem_cons.mpr ⟨lw_p9, List.forall_mem_cons.mpr ⟨lw_p10, List.forall_mem_cons.mpr ⟨lw_p11, List.forall_mem_cons.mpr ⟨lw_p12, List.forall_mem_cons.mpr ⟨lw_p13, List.forall_mem_cons.mpr ⟨lw_p14, List.forall_mem_cons.mpr ⟨lw_p15, fun _ h => absurd h List.not_mem_nil⟩⟩⟩⟩⟩⟩⟩⟩⟩⟩⟩⟩⟩⟩⟩⟩
theorem lw_p16 : lw_okq (⟨"WaterShoulders$Mud", "passDayOf", "(IIII)V"⟩, 9) := ⟨⟨by decide +kernel, by decide +kernel⟩, List.mem_of_getElem? (i := 66) (by decide +kernel), List.mem_of_getElem? (i := 659) (by decide +kernel), List.mem_of_getElem? (i := 660) (by decide +kernel)⟩
theorem lw_p17 : lw_okq (⟨"WaterShoulders", "afloat", "([I)I"⟩, 13) := ⟨⟨by decide +kernel, by decide +kernel⟩, List.mem_of_getElem? (i := 18) (by decide +kernel), List.mem_of_getElem? (i := 687) (by decide +kernel), List.mem_of_getElem? (i := 688) (by decide +kernel)⟩
theorem lw_p18 : lw_okq (⟨"WaterShoulders", "digestOfStair", "(J)J"⟩, 13) := ⟨⟨by decide +kernel, by decide +kernel⟩, List.mem_of_getElem? (i := 18) (by decide +kernel), List.mem_of_getElem? (i := 721) (by decide +kernel), List.mem_of_getElem? (i := 722) (by decide +kernel)⟩
theorem lw_p19 : lw_okq (⟨"WaterShoulders", "digestOfBoats", "(J)J"⟩, 13) := ⟨⟨by decide +kernel, by decide +kernel⟩, List.mem_of_getElem? (i := 18) (by decide +kernel), List.mem_of_getElem? (i := 728) (by decide +kernel), List.mem_of_getElem? (i := 729) (by decide +kernel)⟩
theorem lw_p20 : lw_okq (⟨"WaterShouldersModel", "readStair", "()V"⟩, 45) := ⟨⟨by decide +kernel, by decide +kernel⟩, List.mem_of_getElem? (i := 737) (by decide +kernel), List.mem_of_getElem? (i := 893) (by decide +kernel), List.mem_of_getElem? (i := 894) (by decide +kernel)⟩
theorem lw_p21 : lw_okq (⟨"WaterShouldersModel", "isBasin", "(I)Z"⟩, 45) := ⟨⟨by decide +kernel, by decide +kernel⟩, List.mem_of_getElem? (i := 737) (by decide +kernel), List.mem_of_getElem? (i := 908) (by decide +kernel), List.mem_of_getElem? (i := 909) (by decide +kernel)⟩
theorem lw_p22 : lw_okq (⟨"WaterShouldersModel", "basinNow", "(II)I"⟩, 45) := ⟨⟨by decide +kernel, by decide +kernel⟩, List.mem_of_getElem? (i := 737) (by decide +kernel), List.mem_of_getElem? (i := 912) (by decide +kernel), List.mem_of_getElem? (i := 913) (by decide +kernel)⟩
theorem lw_p23 : lw_okq (⟨"WaterShouldersModel", "isBoat", "(I)Z"⟩, 45) := ⟨⟨by decide +kernel, by decide +kernel⟩, List.mem_of_getElem? (i := 737) (by decide +kernel), List.mem_of_getElem? (i := 927) (by decide +kernel), List.mem_of_getElem? (i := 928) (by decide +kernel)⟩
theorem lw_p24 : lw_okq (⟨"WaterShouldersModel", "boatNow", "(II)I"⟩, 45) := ⟨⟨by decide +kernel, by decide +kernel⟩, List.mem_of_getElem? (i := 737) (by decide +kernel), List.mem_of_getElem? (i := 931) (by decide +kernel), List.mem_of_getElem? (i := 932) (by decide +kernel)⟩
theorem lw_p25 : lw_okq (⟨"WaterShouldersModel", "needs", "(I)I"⟩, 45) := ⟨⟨by decide +kernel, by decide +kernel⟩, List.mem_of_getElem? (i := 737) (by decide +kernel), List.mem_of_getElem? (i := 935) (by decide +kernel), List.mem_of_getElem? (i := 936) (by decide +kernel)⟩
theorem lw_p26 : lw_okq (⟨"WaterShouldersModel", "carries", "(I)I"⟩, 45) := ⟨⟨by decide +kernel, by decide +kernel⟩, List.mem_of_getElem? (i := 737) (by decide +kernel), List.mem_of_getElem? (i := 939) (by decide +kernel), List.mem_of_getElem? (i := 940) (by decide +kernel)⟩
theorem lw_p27 : lw_okq (⟨"WaterShouldersModel", "floats", "(I)Z"⟩, 45) := ⟨⟨by decide +kernel, by decide +kernel⟩, List.mem_of_getElem? (i := 737) (by decide +kernel), List.mem_of_getElem? (i := 943) (by decide +kernel), List.mem_of_getElem? (i := 944) (by decide +kernel)⟩
theorem lw_p28 : lw_okq (⟨"WaterShouldersModel", "canRise", "(I)Z"⟩, 45) := ⟨⟨by decide +kernel, by decide +kernel⟩, List.mem_of_getElem? (i := 737) (by decide +kernel), List.mem_of_getElem? (i := 955) (by decide +kernel), List.mem_of_getElem? (i := 956) (by decide +kernel)⟩
theorem lw_p29 : lw_okq (⟨"WaterShouldersModel", "canTake", "(II)Z"⟩, 45) := ⟨⟨by decide +kernel, by decide +kernel⟩, List.mem_of_getElem? (i := 737) (by decide +kernel), List.mem_of_getElem? (i := 963) (by decide +kernel), List.mem_of_getElem? (i := 964) (by decide +kernel)⟩
theorem lw_p30 : lw_okq (⟨"WaterShouldersModel", "takeOut", "(II)V"⟩, 45) := ⟨⟨by decide +kernel, by decide +kernel⟩, List.mem_of_getElem? (i := 737) (by decide +kernel), List.mem_of_getElem? (i := 967) (by decide +kernel), List.mem_of_getElem? (i := 968) (by decide +kernel)⟩
theorem lw_p31 : lw_okq (⟨"WaterShouldersModel", "canPour", "(II)Z"⟩, 45) := ⟨⟨by decide +kernel, by decide +kernel⟩, List.mem_of_getElem? (i := 737) (by decide +kernel), List.mem_of_getElem? (i := 975) (by decide +kernel), List.mem_of_getElem? (i := 976) (by decide +kernel)⟩
def lw_privs_2 : List (MethodName × Nat) := [(⟨"WaterShoulders$Mud", "passDayOf", "(IIII)V"⟩, 9), (⟨"WaterShoulders", "afloat", "([I)I"⟩, 13), (⟨"WaterShoulders", "digestOfStair", "(J)J"⟩, 13), (⟨"WaterShoulders", "digestOfBoats", "(J)J"⟩, 13), (⟨"WaterShouldersModel", "readStair", "()V"⟩, 45), (⟨"WaterShouldersModel", "isBasin", "(I)Z"⟩, 45), (⟨"WaterShouldersModel", "basinNow", "(II)I"⟩, 45), (⟨"WaterShouldersModel", "isBoat", "(I)Z"⟩, 45), (⟨"WaterShouldersModel", "boatNow", "(II)I"⟩, 45), (⟨"WaterShouldersModel", "needs", "(I)I"⟩, 45), (⟨"WaterShouldersModel", "carries", "(I)I"⟩, 45), (⟨"WaterShouldersModel", "floats", "(I)Z"⟩, 45), (⟨"WaterShouldersModel", "canRise", "(I)Z"⟩, 45), (⟨"WaterShouldersModel", "canTake", "(II)Z"⟩, 45), (⟨"WaterShouldersModel", "takeOut", "(II)V"⟩, 45), (⟨"WaterShouldersModel", "canPour", "(II)Z"⟩, 45)]
theorem lw_r2 : ∀ q ∈ lw_privs_2, lw_okq q := List.forall_mem_cons.mpr ⟨lw_p16, List.forall_mem_cons.mpr ⟨lw_p17, List.forall_mem_cons.mpr ⟨lw_p18, List.forall_mem_cons.mpr ⟨lw_p19, List.forall_mem_cons.mpr ⟨lw_p20, List.forall_mem_cons.mpr ⟨lw_p21, List.forall_mem_cons.mpr ⟨lw_p22, List.forall_mem_cons.mpr ⟨lw_p23, List.forall_mem_cons.mpr ⟨lw_p24, List.forall_mem_cons.mpr ⟨lw_p25, List.forall_mem_cons.mpr ⟨lw_p26, List.forall_mem_cons.mpr ⟨lw_p27, List.forall_mem_cons.mpr ⟨lw_p28, List.forall_mem_cons.mpr ⟨lw_p29, List.forall_mem_cons.mpr ⟨lw_p30, List.forall_mem_cons.mpr ⟨lw_p31, fun _ h => absurd h List.not_mem_nil⟩⟩⟩⟩⟩⟩⟩⟩⟩⟩⟩⟩⟩⟩⟩⟩
theorem lw_p32 : lw_okq (⟨"WaterShouldersModel", "pourOut", "(II)I"⟩, 45) := ⟨⟨by decide +kernel, by decide +kernel⟩, List.mem_of_getElem? (i := 737) (by decide +kernel), List.mem_of_getElem? (i := 979) (by decide +kernel), List.mem_of_getElem? (i := 980) (by decide +kernel)⟩
theorem lw_p33 : lw_okq (⟨"WaterShouldersModel", "runInto", "(II)I"⟩, 45) := ⟨⟨by decide +kernel, by decide +kernel⟩, List.mem_of_getElem? (i := 737) (by decide +kernel), List.mem_of_getElem? (i := 983) (by decide +kernel), List.mem_of_getElem? (i := 984) (by decide +kernel)⟩
theorem lw_p34 : lw_okq (⟨"WaterShouldersModel", "canDown", "(I)Z"⟩, 45) := ⟨⟨by decide +kernel, by decide +kernel⟩, List.mem_of_getElem? (i := 737) (by decide +kernel), List.mem_of_getElem? (i := 991) (by decide +kernel), List.mem_of_getElem? (i := 992) (by decide +kernel)⟩
theorem lw_p35 : lw_okq (⟨"WaterShouldersModel", "goDay", "(I)V"⟩, 45) := ⟨⟨by decide +kernel, by decide +kernel⟩, List.mem_of_getElem? (i := 737) (by decide +kernel), List.mem_of_getElem? (i := 999) (by decide +kernel), List.mem_of_getElem? (i := 1000) (by decide +kernel)⟩
theorem lw_p36 : lw_okq (⟨"WaterShouldersModel", "above", "()I"⟩, 45) := ⟨⟨by decide +kernel, by decide +kernel⟩, List.mem_of_getElem? (i := 737) (by decide +kernel), List.mem_of_getElem? (i := 1003) (by decide +kernel), List.mem_of_getElem? (i := 1004) (by decide +kernel)⟩
theorem lw_p37 : lw_okq (⟨"WaterShouldersModel", "fewestNow", "(III)I"⟩, 45) := ⟨⟨by decide +kernel, by decide +kernel⟩, List.mem_of_getElem? (i := 737) (by decide +kernel), List.mem_of_getElem? (i := 1011) (by decide +kernel), List.mem_of_getElem? (i := 1012) (by decide +kernel)⟩
theorem lw_p38 : lw_okq (⟨"WaterShouldersModel", "codeOf", "(II)I"⟩, 45) := ⟨⟨by decide +kernel, by decide +kernel⟩, List.mem_of_getElem? (i := 737) (by decide +kernel), List.mem_of_getElem? (i := 1015) (by decide +kernel), List.mem_of_getElem? (i := 1016) (by decide +kernel)⟩
theorem lw_p39 : lw_okq (⟨"WaterShouldersModel", "actsOf", "(III)I"⟩, 45) := ⟨⟨by decide +kernel, by decide +kernel⟩, List.mem_of_getElem? (i := 737) (by decide +kernel), List.mem_of_getElem? (i := 1019) (by decide +kernel), List.mem_of_getElem? (i := 1020) (by decide +kernel)⟩
theorem lw_p40 : lw_okq (⟨"WaterShouldersModel", "layCode", "(III)V"⟩, 45) := ⟨⟨by decide +kernel, by decide +kernel⟩, List.mem_of_getElem? (i := 737) (by decide +kernel), List.mem_of_getElem? (i := 1023) (by decide +kernel), List.mem_of_getElem? (i := 1024) (by decide +kernel)⟩
theorem lw_p41 : lw_okq (⟨"WaterShouldersModel", "act", "(III)Z"⟩, 45) := ⟨⟨by decide +kernel, by decide +kernel⟩, List.mem_of_getElem? (i := 737) (by decide +kernel), List.mem_of_getElem? (i := 1027) (by decide +kernel), List.mem_of_getElem? (i := 1028) (by decide +kernel)⟩
theorem lw_p42 : lw_okq (⟨"WaterShouldersModel", "lacksNow", "(I)I"⟩, 45) := ⟨⟨by decide +kernel, by decide +kernel⟩, List.mem_of_getElem? (i := 737) (by decide +kernel), List.mem_of_getElem? (i := 1035) (by decide +kernel), List.mem_of_getElem? (i := 1036) (by decide +kernel)⟩
theorem lw_p43 : lw_okq (⟨"WaterShouldersModel", "lastsNow", "(I)I"⟩, 45) := ⟨⟨by decide +kernel, by decide +kernel⟩, List.mem_of_getElem? (i := 737) (by decide +kernel), List.mem_of_getElem? (i := 1043) (by decide +kernel), List.mem_of_getElem? (i := 1044) (by decide +kernel)⟩
theorem lw_p44 : lw_okq (⟨"WaterShouldersModel", "linedNow", "(I)I"⟩, 45) := ⟨⟨by decide +kernel, by decide +kernel⟩, List.mem_of_getElem? (i := 737) (by decide +kernel), List.mem_of_getElem? (i := 1051) (by decide +kernel), List.mem_of_getElem? (i := 1052) (by decide +kernel)⟩
theorem lw_p45 : lw_okq (⟨"WaterShouldersModel", "chanceNow", "(IIII)J"⟩, 45) := ⟨⟨by decide +kernel, by decide +kernel⟩, List.mem_of_getElem? (i := 737) (by decide +kernel), List.mem_of_getElem? (i := 1062) (by decide +kernel), List.mem_of_getElem? (i := 1063) (by decide +kernel)⟩
theorem lw_p46 : lw_okq (⟨"WaterShouldersModel", "pouredNow", "(I)I"⟩, 45) := ⟨⟨by decide +kernel, by decide +kernel⟩, List.mem_of_getElem? (i := 737) (by decide +kernel), List.mem_of_getElem? (i := 1081) (by decide +kernel), List.mem_of_getElem? (i := 1082) (by decide +kernel)⟩
theorem lw_p47 : lw_okq (⟨"WaterShouldersModel", "holdsLines", "()Z"⟩, 45) := ⟨⟨by decide +kernel, by decide +kernel⟩, List.mem_of_getElem? (i := 737) (by decide +kernel), List.mem_of_getElem? (i := 1085) (by decide +kernel), List.mem_of_getElem? (i := 1086) (by decide +kernel)⟩
def lw_privs_3 : List (MethodName × Nat) := [(⟨"WaterShouldersModel", "pourOut", "(II)I"⟩, 45), (⟨"WaterShouldersModel", "runInto", "(II)I"⟩, 45), (⟨"WaterShouldersModel", "canDown", "(I)Z"⟩, 45), (⟨"WaterShouldersModel", "goDay", "(I)V"⟩, 45), (⟨"WaterShouldersModel", "above", "()I"⟩, 45), (⟨"WaterShouldersModel", "fewestNow", "(III)I"⟩, 45), (⟨"WaterShouldersModel", "codeOf", "(II)I"⟩, 45), (⟨"WaterShouldersModel", "actsOf", "(III)I"⟩, 45), (⟨"WaterShouldersModel", "layCode", "(III)V"⟩, 45), (⟨"WaterShouldersModel", "act", "(III)Z"⟩, 45), (⟨"WaterShouldersModel", "lacksNow", "(I)I"⟩, 45), (⟨"WaterShouldersModel", "lastsNow", "(I)I"⟩, 45), (⟨"WaterShouldersModel", "linedNow", "(I)I"⟩, 45), (⟨"WaterShouldersModel", "chanceNow", "(IIII)J"⟩, 45), (⟨"WaterShouldersModel", "pouredNow", "(I)I"⟩, 45), (⟨"WaterShouldersModel", "holdsLines", "()Z"⟩, 45)]
theorem lw_r3 : ∀ q ∈ lw_privs_3, lw_okq q := List.forall_mem_cons.mpr ⟨lw_p32, List.forall_mem_cons.mpr ⟨lw_p33, List.forall_mem_cons.mpr ⟨lw_p34, List.forall_mem_cons.mpr ⟨lw_p35, List.forall_mem_cons.mpr ⟨lw_p36, List.forall_mem_cons.mpr ⟨lw_p37, List.forall_mem_cons.mpr ⟨lw_p38, List.forall_mem_cons.mpr ⟨lw_p39, List.forall_mem_cons.mpr ⟨lw_p40, List.forall_mem_cons.mpr ⟨lw_p41, List.forall_mem_cons.mpr ⟨lw_p42, List.forall_mem_cons.mpr ⟨lw_p43, List.forall_mem_cons.mpr ⟨lw_p44, List.forall_mem_cons.mpr ⟨lw_p45, List.forall_mem_cons.mpr ⟨lw_p46, List.forall_mem_cons.mpr ⟨lw_p47, fun _ h => absurd h List.not_mem_nil⟩⟩⟩⟩⟩⟩⟩⟩⟩⟩⟩⟩⟩⟩⟩⟩
theorem lw_p48 : lw_okq (⟨"WaterShouldersModel", "weeksNow", "(III)I"⟩, 45) := ⟨⟨by decide +kernel, by decide +kernel⟩, List.mem_of_getElem? (i := 737) (by decide +kernel), List.mem_of_getElem? (i := 1097) (by decide +kernel), List.mem_of_getElem? (i := 1098) (by decide +kernel)⟩
theorem lw_p49 : lw_okq (⟨"WaterShouldersModel", "draw", "(I)I"⟩, 45) := ⟨⟨by decide +kernel, by decide +kernel⟩, List.mem_of_getElem? (i := 737) (by decide +kernel), List.mem_of_getElem? (i := 1101) (by decide +kernel), List.mem_of_getElem? (i := 1102) (by decide +kernel)⟩
theorem lw_p50 : lw_okq (⟨"WaterShouldersModel", "howMany", "(I)I"⟩, 45) := ⟨⟨by decide +kernel, by decide +kernel⟩, List.mem_of_getElem? (i := 737) (by decide +kernel), List.mem_of_getElem? (i := 1121) (by decide +kernel), List.mem_of_getElem? (i := 1122) (by decide +kernel)⟩
theorem lw_p51 : lw_okq (⟨"WaterShouldersModel", "mix", "(J)V"⟩, 45) := ⟨⟨by decide +kernel, by decide +kernel⟩, List.mem_of_getElem? (i := 737) (by decide +kernel), List.mem_of_getElem? (i := 1130) (by decide +kernel), List.mem_of_getElem? (i := 1131) (by decide +kernel)⟩
def lw_privs_4 : List (MethodName × Nat) := [(⟨"WaterShouldersModel", "weeksNow", "(III)I"⟩, 45), (⟨"WaterShouldersModel", "draw", "(I)I"⟩, 45), (⟨"WaterShouldersModel", "howMany", "(I)I"⟩, 45), (⟨"WaterShouldersModel", "mix", "(J)V"⟩, 45)]
theorem lw_r4 : ∀ q ∈ lw_privs_4, lw_okq q := List.forall_mem_cons.mpr ⟨lw_p48, List.forall_mem_cons.mpr ⟨lw_p49, List.forall_mem_cons.mpr ⟨lw_p50, List.forall_mem_cons.mpr ⟨lw_p51, fun _ h => absurd h List.not_mem_nil⟩⟩⟩⟩
def lw_privs : List (MethodName × Nat) := lw_privs_1 ++ (lw_privs_2 ++ (lw_privs_3 ++ (lw_privs_4)))
def lw_tbl : List Cond := k2_sels lw_privs ++ tables_1
theorem lw_privs_ok : ∀ q ∈ lw_privs, lw_okq q := by
  show ∀ q ∈ lw_privs_1 ++ (lw_privs_2 ++ (lw_privs_3 ++ (lw_privs_4))), lw_okq q
  exact List.forall_mem_append.mpr ⟨lw_r1, List.forall_mem_append.mpr ⟨lw_r2, List.forall_mem_append.mpr ⟨lw_r3, lw_r4⟩⟩⟩

def RX0 : String := "WaterShoulders$Barge"
def TX0 : u_T := fun k => match k with
  | 0 => ("WaterShoulders$Boat", "draught", "I", true)
  | 1 => ("WaterShoulders$Boat", "can", "I", true)
  | 2 => ("WaterShoulders$Boat", "place", "I", false)
  | _ => ("WaterShoulders$Boat", "load", "I", false)
def tyX0 : Nat → FieldType := fun k => match k with
  | 0 => .int
  | 1 => .int
  | 2 => .int
  | _ => .int
abbrev wsX00 : List Cond := u_ws RX0 TX0 4
theorem nmX0 : ∀ a, a < 4 → ∀ b, b < 4 → a ≠ b → (TX0 a).2.1 ≠ (TX0 b).2.1 := by decide +kernel
theorem tyX0_ok : ∀ k, k < 4 → parseFieldDescriptor (TX0 k).2.2.1 = some (tyX0 k) := by decide +kernel
abbrev cX0_init : ByteArray := prog_2_method_1_code
def yX0_init : MethodName := ⟨RX0, "<init>", "(II)V"⟩
abbrev cX0_kind : ByteArray := prog_2_method_2_code
def yX0_kind : MethodName := ⟨RX0, "kind", "()I"⟩
abbrev cX0_needs : ByteArray := prog_2_method_3_code
def yX0_needs : MethodName := ⟨RX0, "needs", "()I"⟩
def RX1 : String := "WaterShoulders$Boat"
def TX1 : u_T := fun k => match k with
  | 0 => ("WaterShoulders$Boat", "draught", "I", true)
  | 1 => ("WaterShoulders$Boat", "can", "I", true)
  | 2 => ("WaterShoulders$Boat", "place", "I", false)
  | _ => ("WaterShoulders$Boat", "load", "I", false)
def tyX1 : Nat → FieldType := fun k => match k with
  | 0 => .int
  | 1 => .int
  | 2 => .int
  | _ => .int
abbrev wsX10 : List Cond := u_ws RX1 TX1 4
theorem nmX1 : ∀ a, a < 4 → ∀ b, b < 4 → a ≠ b → (TX1 a).2.1 ≠ (TX1 b).2.1 := by decide +kernel
theorem tyX1_ok : ∀ k, k < 4 → parseFieldDescriptor (TX1 k).2.2.1 = some (tyX1 k) := by decide +kernel
abbrev cX1_init : ByteArray := prog_3_method_1_code
def yX1_init : MethodName := ⟨RX1, "<init>", "(II)V"⟩
abbrev cX1_kind : ByteArray := prog_3_method_2_code
def yX1_kind : MethodName := ⟨RX1, "kind", "()I"⟩
abbrev cX1_needs : ByteArray := prog_3_method_3_code
def yX1_needs : MethodName := ⟨RX1, "needs", "()I"⟩
abbrev cX1_carries : ByteArray := prog_3_method_4_code
def yX1_carries : MethodName := ⟨RX1, "carries", "()I"⟩
def RX2 : String := "WaterShoulders$Carrier"
def TX2 : u_T := fun k => match k with
  | 0 => ("WaterShoulders$Boat", "draught", "I", true)
  | 1 => ("WaterShoulders$Boat", "can", "I", true)
  | 2 => ("WaterShoulders$Boat", "place", "I", false)
  | _ => ("WaterShoulders$Boat", "load", "I", false)
def tyX2 : Nat → FieldType := fun k => match k with
  | 0 => .int
  | 1 => .int
  | 2 => .int
  | _ => .int
abbrev wsX20 : List Cond := u_ws RX2 TX2 4
theorem nmX2 : ∀ a, a < 4 → ∀ b, b < 4 → a ≠ b → (TX2 a).2.1 ≠ (TX2 b).2.1 := by decide +kernel
theorem tyX2_ok : ∀ k, k < 4 → parseFieldDescriptor (TX2 k).2.2.1 = some (tyX2 k) := by decide +kernel
abbrev cX2_init : ByteArray := prog_4_method_1_code
def yX2_init : MethodName := ⟨RX2, "<init>", "(II)V"⟩
abbrev cX2_kind : ByteArray := prog_4_method_2_code
def yX2_kind : MethodName := ⟨RX2, "kind", "()I"⟩
def RX3 : String := "WaterShoulders$Image"
def TX3 : u_T := fun k => match k with
  | 0 => ("WaterShoulders$Image", "water", "[I", true)
  | 1 => ("WaterShoulders$Image", "marks", "LWaterShoulders$Mud;", true)
  | 2 => ("WaterShoulders$Image", "stairsRead", "I", false)
  | 3 => ("WaterShoulders$Image", "boatsThere", "I", false)
  | 4 => ("WaterShoulders$Image", "daysGone", "I", false)
  | 5 => ("WaterShoulders$Image", "places", "[I", true)
  | _ => ("WaterShoulders$Image", "loads", "[I", true)
def tyX3 : Nat → FieldType := fun k => match k with
  | 0 => .array .int
  | 1 => .object "WaterShoulders$Mud"
  | 2 => .int
  | 3 => .int
  | 4 => .int
  | 5 => .array .int
  | _ => .array .int
abbrev wsX30 : List Cond := u_ws RX3 TX3 7
theorem nmX3 : ∀ a, a < 7 → ∀ b, b < 7 → a ≠ b → (TX3 a).2.1 ≠ (TX3 b).2.1 := by decide +kernel
theorem tyX3_ok : ∀ k, k < 7 → parseFieldDescriptor (TX3 k).2.2.1 = some (tyX3 k) := by decide +kernel
abbrev cX3_init : ByteArray := prog_5_method_1_code
def yX3_init : MethodName := ⟨RX3, "<init>", "()V"⟩
abbrev cX3_keepBoat : ByteArray := prog_5_method_2_code
def yX3_keepBoat : MethodName := ⟨RX3, "keepBoat", "(ILWaterShoulders$Boat;)V"⟩
abbrev cX3_putBack : ByteArray := prog_5_method_3_code
def yX3_putBack : MethodName := ⟨RX3, "putBack", "(ILWaterShoulders$Boat;)V"⟩
def RX4 : String := "WaterShoulders$Mud"
def TX4 : u_T := fun k => match k with
  | 0 => ("WaterShoulders$Mud", "lines", "[I", true)
  | 1 => ("WaterShoulders$Mud", "size", "I", false)
  | 2 => ("WaterShoulders$Mud", "carried", "[I", true)
  | 3 => ("WaterShoulders$Mud", "basin", "I", false)
  | 4 => ("WaterShoulders$Mud", "from", "I", false)
  | 5 => ("WaterShoulders$Mud", "together", "[I", true)
  | 6 => ("WaterShoulders$Mud", "ways", "[I", true)
  | 7 => ("WaterShoulders$Mud", "markedDays", "[I", true)
  | _ => ("WaterShoulders$Mud", "carriers", "I", false)
def tyX4 : Nat → FieldType := fun k => match k with
  | 0 => .array .int
  | 1 => .int
  | 2 => .array .int
  | 3 => .int
  | 4 => .int
  | 5 => .array .int
  | 6 => .array .int
  | 7 => .array .int
  | _ => .int
abbrev wsX40 : List Cond := u_ws RX4 TX4 9
theorem nmX4 : ∀ a, a < 9 → ∀ b, b < 9 → a ≠ b → (TX4 a).2.1 ≠ (TX4 b).2.1 := by decide +kernel
theorem tyX4_ok : ∀ k, k < 9 → parseFieldDescriptor (TX4 k).2.2.1 = some (tyX4 k) := by decide +kernel
abbrev cX4_init : ByteArray := prog_6_method_1_code
def yX4_init : MethodName := ⟨RX4, "<init>", "()V"⟩
abbrev cX4_isThere : ByteArray := prog_6_method_2_code
def yX4_isThere : MethodName := ⟨RX4, "isThere", "()Z"⟩
abbrev cX4_wipe : ByteArray := prog_6_method_3_code
def yX4_wipe : MethodName := ⟨RX4, "wipe", "()V"⟩
abbrev cX4_start : ByteArray := prog_6_method_4_code
def yX4_start : MethodName := ⟨RX4, "start", "(II)V"⟩
abbrev cX4_copy : ByteArray := prog_6_method_5_code
def yX4_copy : MethodName := ⟨RX4, "copy", "(LWaterShoulders$Mud;)V"⟩
abbrev cX4_follow : ByteArray := prog_6_method_6_code
def yX4_follow : MethodName := ⟨RX4, "follow", "(LWaterShoulders$Stair;I)V"⟩
abbrev cX4_addUp : ByteArray := prog_6_method_7_code
def yX4_addUp : MethodName := ⟨RX4, "addUp", "()V"⟩
abbrev cX4_fittingCrews : ByteArray := prog_6_method_8_code
def yX4_fittingCrews : MethodName := ⟨RX4, "fittingCrews", "(LWaterShoulders$Stair;II)I"⟩
abbrev cX4_passDay : ByteArray := prog_6_method_9_code
def yX4_passDay : MethodName := ⟨RX4, "passDay", "(III)V"⟩
abbrev cX4_passDayOf : ByteArray := prog_6_method_10_code
def yX4_passDayOf : MethodName := ⟨RX4, "passDayOf", "(IIII)V"⟩
abbrev cX4_allWays : ByteArray := prog_6_method_11_code
def yX4_allWays : MethodName := ⟨RX4, "allWays", "()I"⟩
abbrev cX4_onlyDay : ByteArray := prog_6_method_12_code
def yX4_onlyDay : MethodName := ⟨RX4, "onlyDay", "()I"⟩
def RX5 : String := "WaterShoulders$Odds"
def TX5 : u_T := fun k => match k with
  | 0 => ("WaterShoulders$Odds", "weights", "[J", true)
  | _ => ("WaterShoulders$Odds", "weightsThen", "[J", true)
def tyX5 : Nat → FieldType := fun k => match k with
  | 0 => .array .long
  | _ => .array .long
abbrev wsX50 : List Cond := u_ws RX5 TX5 2
theorem nmX5 : ∀ a, a < 2 → ∀ b, b < 2 → a ≠ b → (TX5 a).2.1 ≠ (TX5 b).2.1 := by decide +kernel
theorem tyX5_ok : ∀ k, k < 2 → parseFieldDescriptor (TX5 k).2.2.1 = some (tyX5 k) := by decide +kernel
abbrev cX5_init : ByteArray := prog_7_method_1_code
def yX5_init : MethodName := ⟨RX5, "<init>", "()V"⟩
abbrev cX5_begin : ByteArray := prog_7_method_2_code
def yX5_begin : MethodName := ⟨RX5, "begin", "(I)V"⟩
abbrev cX5_passDay : ByteArray := prog_7_method_3_code
def yX5_passDay : MethodName := ⟨RX5, "passDay", "(LWaterShoulders$Stair;II)V"⟩
abbrev cX5_atLeast : ByteArray := prog_7_method_4_code
def yX5_atLeast : MethodName := ⟨RX5, "atLeast", "(I)J"⟩
abbrev cX5_commonPart : ByteArray := prog_7_method_5_code
def yX5_commonPart : MethodName := ⟨RX5, "commonPart", "(JJ)J"⟩
def RX6 : String := "WaterShoulders$Page"
def TX6 : u_T := fun k => match k with
  | 0 => ("WaterShoulders$Page", "codes", "[I", true)
  | _ => ("WaterShoulders$Page", "size", "I", false)
def tyX6 : Nat → FieldType := fun k => match k with
  | 0 => .array .int
  | _ => .int
abbrev wsX60 : List Cond := u_ws RX6 TX6 2
theorem nmX6 : ∀ a, a < 2 → ∀ b, b < 2 → a ≠ b → (TX6 a).2.1 ≠ (TX6 b).2.1 := by decide +kernel
theorem tyX6_ok : ∀ k, k < 2 → parseFieldDescriptor (TX6 k).2.2.1 = some (tyX6 k) := by decide +kernel
abbrev cX6_init : ByteArray := prog_8_method_1_code
def yX6_init : MethodName := ⟨RX6, "<init>", "()V"⟩
abbrev cX6_lettersIn : ByteArray := prog_8_method_2_code
def yX6_lettersIn : MethodName := ⟨RX6, "lettersIn", "(J)I"⟩
abbrev cX6_byteOf : ByteArray := prog_8_method_3_code
def yX6_byteOf : MethodName := ⟨RX6, "byteOf", "(JI)I"⟩
abbrev cX6_append : ByteArray := prog_8_method_4_code
def yX6_append : MethodName := ⟨RX6, "append", "(JI)V"⟩
abbrev cX6_firstFault : ByteArray := prog_8_method_5_code
def yX6_firstFault : MethodName := ⟨RX6, "firstFault", "()I"⟩
abbrev cX6_fits : ByteArray := prog_8_method_6_code
def yX6_fits : MethodName := ⟨RX6, "fits", "(II)Z"⟩
abbrev cX6_isStair : ByteArray := prog_8_method_7_code
def yX6_isStair : MethodName := ⟨RX6, "isStair", "()Z"⟩
def RX7 : String := "WaterShoulders$Punt"
def TX7 : u_T := fun k => match k with
  | 0 => ("WaterShoulders$Boat", "draught", "I", true)
  | 1 => ("WaterShoulders$Boat", "can", "I", true)
  | 2 => ("WaterShoulders$Boat", "place", "I", false)
  | _ => ("WaterShoulders$Boat", "load", "I", false)
def tyX7 : Nat → FieldType := fun k => match k with
  | 0 => .int
  | 1 => .int
  | 2 => .int
  | _ => .int
abbrev wsX70 : List Cond := u_ws RX7 TX7 4
theorem nmX7 : ∀ a, a < 4 → ∀ b, b < 4 → a ≠ b → (TX7 a).2.1 ≠ (TX7 b).2.1 := by decide +kernel
theorem tyX7_ok : ∀ k, k < 4 → parseFieldDescriptor (TX7 k).2.2.1 = some (tyX7 k) := by decide +kernel
abbrev cX7_init : ByteArray := prog_9_method_1_code
def yX7_init : MethodName := ⟨RX7, "<init>", "(II)V"⟩
abbrev cX7_kind : ByteArray := prog_9_method_2_code
def yX7_kind : MethodName := ⟨RX7, "kind", "()I"⟩
abbrev cX7_needs : ByteArray := prog_9_method_3_code
def yX7_needs : MethodName := ⟨RX7, "needs", "()I"⟩
def RX8 : String := "WaterShoulders$Search"
def TX8 : u_T := fun k => match k with
  | 0 => ("WaterShoulders$Search", "acts", "I", false)
  | 1 => ("WaterShoulders$Search", "first", "I", false)
  | 2 => ("WaterShoulders$Search", "row", "[I", true)
  | 3 => ("WaterShoulders$Search", "rowThen", "[I", true)
  | 4 => ("WaterShoulders$Search", "queue", "[I", false)
  | 5 => ("WaterShoulders$Search", "seen", "[J", false)
  | 6 => ("WaterShoulders$Search", "tail", "I", false)
  | 7 => ("WaterShoulders$Search", "begun", "I", false)
  | 8 => ("WaterShoulders$Search", "carrierPlace", "I", false)
  | 9 => ("WaterShoulders$Search", "boatPlace", "I", false)
  | 10 => ("WaterShoulders$Search", "load", "I", false)
  | 11 => ("WaterShoulders$Search", "boatNeeds", "I", false)
  | 12 => ("WaterShoulders$Search", "carrierNeeds", "I", false)
  | _ => ("WaterShoulders$Search", "carrierCarries", "I", false)
def tyX8 : Nat → FieldType := fun k => match k with
  | 0 => .int
  | 1 => .int
  | 2 => .array .int
  | 3 => .array .int
  | 4 => .array .int
  | 5 => .array .long
  | 6 => .int
  | 7 => .int
  | 8 => .int
  | 9 => .int
  | 10 => .int
  | 11 => .int
  | 12 => .int
  | _ => .int
abbrev wsX80 : List Cond := u_ws RX8 TX8 14
theorem nmX8 : ∀ a, a < 14 → ∀ b, b < 14 → a ≠ b → (TX8 a).2.1 ≠ (TX8 b).2.1 := by decide +kernel
theorem tyX8_ok : ∀ k, k < 14 → parseFieldDescriptor (TX8 k).2.2.1 = some (tyX8 k) := by decide +kernel
abbrev cX8_init : ByteArray := prog_10_method_1_code
def yX8_init : MethodName := ⟨RX8, "<init>", "()V"⟩
abbrev cX8_find : ByteArray := prog_10_method_2_code
def yX8_find : MethodName := ⟨RX8, "find", "(LWaterShoulders$Stair;[ILWaterShoulders$Boat;LWaterShoulders$Boat;)V"⟩
abbrev cX8_begin : ByteArray := prog_10_method_3_code
def yX8_begin : MethodName := ⟨RX8, "begin", "(LWaterShoulders$Stair;[ILWaterShoulders$Boat;LWaterShoulders$Boat;)V"⟩
abbrev cX8_makeRows : ByteArray := prog_10_method_4_code
def yX8_makeRows : MethodName := ⟨RX8, "makeRows", "()V"⟩
abbrev cX8_unpack : ByteArray := prog_10_method_5_code
def yX8_unpack : MethodName := ⟨RX8, "unpack", "(LWaterShoulders$Stair;I)V"⟩
abbrev cX8_reach : ByteArray := prog_10_method_6_code
def yX8_reach : MethodName := ⟨RX8, "reach", "([IIIII)V"⟩
abbrev cX8_firstAct : ByteArray := prog_10_method_7_code
def yX8_firstAct : MethodName := ⟨RX8, "firstAct", "(I)I"⟩
abbrev cX8_tryBoat : ByteArray := prog_10_method_8_code
def yX8_tryBoat : MethodName := ⟨RX8, "tryBoat", "(LWaterShoulders$Stair;)Z"⟩
abbrev cX8_tryCarrierMoves : ByteArray := prog_10_method_9_code
def yX8_tryCarrierMoves : MethodName := ⟨RX8, "tryCarrierMoves", "(LWaterShoulders$Stair;)V"⟩
abbrev cX8_tryPours : ByteArray := prog_10_method_10_code
def yX8_tryPours : MethodName := ⟨RX8, "tryPours", "(LWaterShoulders$Stair;)V"⟩
abbrev cX8_pourInto : ByteArray := prog_10_method_11_code
def yX8_pourInto : MethodName := ⟨RX8, "pourInto", "(LWaterShoulders$Stair;II)V"⟩
abbrev cX8_tryTakes : ByteArray := prog_10_method_12_code
def yX8_tryTakes : MethodName := ⟨RX8, "tryTakes", "(LWaterShoulders$Stair;)V"⟩
def RX9 : String := "WaterShoulders$Stair"
def TX9 : u_T := fun k => match k with
  | 0 => ("WaterShoulders$Stair", "holds", "[I", true)
  | 1 => ("WaterShoulders$Stair", "leaks", "[I", true)
  | _ => ("WaterShoulders$Stair", "basins", "I", false)
def tyX9 : Nat → FieldType := fun k => match k with
  | 0 => .array .int
  | 1 => .array .int
  | _ => .int
abbrev wsX90 : List Cond := u_ws RX9 TX9 3
theorem nmX9 : ∀ a, a < 3 → ∀ b, b < 3 → a ≠ b → (TX9 a).2.1 ≠ (TX9 b).2.1 := by decide +kernel
theorem tyX9_ok : ∀ k, k < 3 → parseFieldDescriptor (TX9 k).2.2.1 = some (tyX9 k) := by decide +kernel
abbrev cX9_init : ByteArray := prog_11_method_1_code
def yX9_init : MethodName := ⟨RX9, "<init>", "()V"⟩
abbrev cX9_read : ByteArray := prog_11_method_2_code
def yX9_read : MethodName := ⟨RX9, "read", "(LWaterShoulders$Page;)V"⟩
abbrev cX9_has : ByteArray := prog_11_method_3_code
def yX9_has : MethodName := ⟨RX9, "has", "(I)Z"⟩
abbrev cX9_top : ByteArray := prog_11_method_4_code
def yX9_top : MethodName := ⟨RX9, "top", "()I"⟩
abbrev cX9_empty : ByteArray := prog_11_method_5_code
def yX9_empty : MethodName := ⟨RX9, "empty", "([I)V"⟩
abbrev cX9_floats : ByteArray := prog_11_method_6_code
def yX9_floats : MethodName := ⟨RX9, "floats", "([III)Z"⟩
abbrev cX9_couldFloat : ByteArray := prog_11_method_7_code
def yX9_couldFloat : MethodName := ⟨RX9, "couldFloat", "(II)Z"⟩
abbrev cX9_letsRise : ByteArray := prog_11_method_8_code
def yX9_letsRise : MethodName := ⟨RX9, "letsRise", "([III)Z"⟩
abbrev cX9_draw : ByteArray := prog_11_method_9_code
def yX9_draw : MethodName := ⟨RX9, "draw", "([III)V"⟩
abbrev cX9_fill : ByteArray := prog_11_method_10_code
def yX9_fill : MethodName := ⟨RX9, "fill", "([III)I"⟩
abbrev cX9_passDay : ByteArray := prog_11_method_11_code
def yX9_passDay : MethodName := ⟨RX9, "passDay", "([II)V"⟩
abbrev cX9_leaked : ByteArray := prog_11_method_12_code
def yX9_leaked : MethodName := ⟨RX9, "leaked", "(II)I"⟩
abbrev cX9_capped : ByteArray := prog_11_method_13_code
def yX9_capped : MethodName := ⟨RX9, "capped", "(II)I"⟩
abbrev cX9_inAll : ByteArray := prog_11_method_14_code
def yX9_inAll : MethodName := ⟨RX9, "inAll", "([I)I"⟩
def RX10 : String := "WaterShoulders$Tub"
def TX10 : u_T := fun k => match k with
  | 0 => ("WaterShoulders$Boat", "draught", "I", true)
  | 1 => ("WaterShoulders$Boat", "can", "I", true)
  | 2 => ("WaterShoulders$Boat", "place", "I", false)
  | _ => ("WaterShoulders$Boat", "load", "I", false)
def tyX10 : Nat → FieldType := fun k => match k with
  | 0 => .int
  | 1 => .int
  | 2 => .int
  | _ => .int
abbrev wsX100 : List Cond := u_ws RX10 TX10 4
theorem nmX10 : ∀ a, a < 4 → ∀ b, b < 4 → a ≠ b → (TX10 a).2.1 ≠ (TX10 b).2.1 := by decide +kernel
theorem tyX10_ok : ∀ k, k < 4 → parseFieldDescriptor (TX10 k).2.2.1 = some (tyX10 k) := by decide +kernel
abbrev cX10_init : ByteArray := prog_12_method_1_code
def yX10_init : MethodName := ⟨RX10, "<init>", "(II)V"⟩
abbrev cX10_kind : ByteArray := prog_12_method_2_code
def yX10_kind : MethodName := ⟨RX10, "kind", "()I"⟩
abbrev cX10_carries : ByteArray := prog_12_method_3_code
def yX10_carries : MethodName := ⟨RX10, "carries", "()I"⟩
def RX11 : String := "WaterShoulders"
def TX11 : u_T := fun k => match k with
  | 0 => ("WaterShoulders", "page", "LWaterShoulders$Page;", true)
  | 1 => ("WaterShoulders", "hill", "LWaterShoulders$Stair;", true)
  | 2 => ("WaterShoulders", "water", "[I", true)
  | 3 => ("WaterShoulders", "waterThen", "[I", true)
  | 4 => ("WaterShoulders", "boats", "[LWaterShoulders$Boat;", true)
  | 5 => ("WaterShoulders", "marks", "LWaterShoulders$Mud;", true)
  | 6 => ("WaterShoulders", "kept", "LWaterShoulders$Image;", true)
  | 7 => ("WaterShoulders", "odds", "LWaterShoulders$Odds;", true)
  | 8 => ("WaterShoulders", "search", "LWaterShoulders$Search;", true)
  | 9 => ("WaterShoulders", "boatsThere", "I", false)
  | 10 => ("WaterShoulders", "daysGone", "I", false)
  | 11 => ("WaterShoulders", "stairsRead", "I", false)
  | _ => ("WaterShoulders", "fewestDone", "I", false)
def tyX11 : Nat → FieldType := fun k => match k with
  | 0 => .object "WaterShoulders$Page"
  | 1 => .object "WaterShoulders$Stair"
  | 2 => .array .int
  | 3 => .array .int
  | 4 => .array (.object "WaterShoulders$Boat")
  | 5 => .object "WaterShoulders$Mud"
  | 6 => .object "WaterShoulders$Image"
  | 7 => .object "WaterShoulders$Odds"
  | 8 => .object "WaterShoulders$Search"
  | 9 => .int
  | 10 => .int
  | 11 => .int
  | _ => .int
abbrev wsX110 : List Cond := u_ws RX11 TX11 13
theorem nmX11 : ∀ a, a < 13 → ∀ b, b < 13 → a ≠ b → (TX11 a).2.1 ≠ (TX11 b).2.1 := by decide +kernel
theorem tyX11_ok : ∀ k, k < 13 → parseFieldDescriptor (TX11 k).2.2.1 = some (tyX11 k) := by decide +kernel
abbrev cX11_init : ByteArray := prog_1_method_1_code
def yX11_init : MethodName := ⟨RX11, "<init>", "()V"⟩
abbrev cX11_letters : ByteArray := prog_1_method_2_code
def yX11_letters : MethodName := ⟨RX11, "letters", "(J)I"⟩
abbrev cX11_blank : ByteArray := prog_1_method_3_code
def yX11_blank : MethodName := ⟨RX11, "blank", "()I"⟩
abbrev cX11_fault : ByteArray := prog_1_method_4_code
def yX11_fault : MethodName := ⟨RX11, "fault", "()I"⟩
abbrev cX11_stair : ByteArray := prog_1_method_5_code
def yX11_stair : MethodName := ⟨RX11, "stair", "()I"⟩
abbrev cX11_basin : ByteArray := prog_1_method_6_code
def yX11_basin : MethodName := ⟨RX11, "basin", "(II)I"⟩
abbrev cX11_boat : ByteArray := prog_1_method_7_code
def yX11_boat : MethodName := ⟨RX11, "boat", "(III)I"⟩
abbrev cX11_about : ByteArray := prog_1_method_8_code
def yX11_about : MethodName := ⟨RX11, "about", "(II)I"⟩
abbrev cX11_as : ByteArray := prog_1_method_9_code
def yX11_as : MethodName := ⟨RX11, "as", "(II)I"⟩
abbrev cX11_rise : ByteArray := prog_1_method_10_code
def yX11_rise : MethodName := ⟨RX11, "rise", "(I)I"⟩
abbrev cX11_take : ByteArray := prog_1_method_11_code
def yX11_take : MethodName := ⟨RX11, "take", "(II)I"⟩
abbrev cX11_pour : ByteArray := prog_1_method_12_code
def yX11_pour : MethodName := ⟨RX11, "pour", "(II)I"⟩
abbrev cX11_down : ByteArray := prog_1_method_13_code
def yX11_down : MethodName := ⟨RX11, "down", "(I)I"⟩
abbrev cX11_day : ByteArray := prog_1_method_14_code
def yX11_day : MethodName := ⟨RX11, "day", "(I)I"⟩
abbrev cX11_fewest : ByteArray := prog_1_method_15_code
def yX11_fewest : MethodName := ⟨RX11, "fewest", "(III)I"⟩
abbrev cX11_lacks : ByteArray := prog_1_method_16_code
def yX11_lacks : MethodName := ⟨RX11, "lacks", "(I)I"⟩
abbrev cX11_lasts : ByteArray := prog_1_method_17_code
def yX11_lasts : MethodName := ⟨RX11, "lasts", "(I)I"⟩
abbrev cX11_lined : ByteArray := prog_1_method_18_code
def yX11_lined : MethodName := ⟨RX11, "lined", "(I)I"⟩
abbrev cX11_chance : ByteArray := prog_1_method_19_code
def yX11_chance : MethodName := ⟨RX11, "chance", "(IIIII)J"⟩
abbrev cX11_mud : ByteArray := prog_1_method_20_code
def yX11_mud : MethodName := ⟨RX11, "mud", "(II)I"⟩
abbrev cX11_line : ByteArray := prog_1_method_21_code
def yX11_line : MethodName := ⟨RX11, "line", "(I)I"⟩
abbrev cX11_poured : ByteArray := prog_1_method_22_code
def yX11_poured : MethodName := ⟨RX11, "poured", "()I"⟩
abbrev cX11_sure : ByteArray := prog_1_method_23_code
def yX11_sure : MethodName := ⟨RX11, "sure", "(I)I"⟩
abbrev cX11_weeks : ByteArray := prog_1_method_24_code
def yX11_weeks : MethodName := ⟨RX11, "weeks", "(III)I"⟩
abbrev cX11_image : ByteArray := prog_1_method_25_code
def yX11_image : MethodName := ⟨RX11, "image", "()I"⟩
abbrev cX11_restore : ByteArray := prog_1_method_26_code
def yX11_restore : MethodName := ⟨RX11, "restore", "()I"⟩
abbrev cX11_count : ByteArray := prog_1_method_27_code
def yX11_count : MethodName := ⟨RX11, "count", "(I)I"⟩
abbrev cX11_digest : ByteArray := prog_1_method_28_code
def yX11_digest : MethodName := ⟨RX11, "digest", "()J"⟩
abbrev cX11_digestOfStair : ByteArray := prog_1_method_29_code
def yX11_digestOfStair : MethodName := ⟨RX11, "digestOfStair", "(J)J"⟩
abbrev cX11_digestOfBoats : ByteArray := prog_1_method_30_code
def yX11_digestOfBoats : MethodName := ⟨RX11, "digestOfBoats", "(J)J"⟩
abbrev cX11_isCan : ByteArray := prog_1_method_31_code
def yX11_isCan : MethodName := ⟨RX11, "isCan", "(II)Z"⟩
abbrev cX11_newBoat : ByteArray := prog_1_method_32_code
def yX11_newBoat : MethodName := ⟨RX11, "newBoat", "(III)LWaterShoulders$Boat;"⟩
abbrev cX11_boatOf : ByteArray := prog_1_method_33_code
def yX11_boatOf : MethodName := ⟨RX11, "boatOf", "(I)LWaterShoulders$Boat;"⟩
abbrev cX11_savedBy : ByteArray := prog_1_method_34_code
def yX11_savedBy : MethodName := ⟨RX11, "savedBy", "(II)I"⟩
abbrev cX11_followMarks : ByteArray := prog_1_method_35_code
def yX11_followMarks : MethodName := ⟨RX11, "followMarks", "(I)V"⟩
abbrev cX11_nextSeed : ByteArray := prog_1_method_36_code
def yX11_nextSeed : MethodName := ⟨RX11, "nextSeed", "(I)I"⟩
abbrev cX11_afloat : ByteArray := prog_1_method_37_code
def yX11_afloat : MethodName := ⟨RX11, "afloat", "([I)I"⟩
def RX12 : String := "WaterShouldersModel"
def TX12 : u_T := fun k => match k with
  | 0 => ("WaterShouldersModel", "basins", "I", false)
  | 1 => ("WaterShouldersModel", "holdsOf", "[I", true)
  | 2 => ("WaterShouldersModel", "leaksOf", "[I", true)
  | 3 => ("WaterShouldersModel", "bucketsIn", "[I", true)
  | 4 => ("WaterShouldersModel", "stairs", "I", false)
  | 5 => ("WaterShouldersModel", "days", "I", false)
  | 6 => ("WaterShouldersModel", "boats", "I", false)
  | 7 => ("WaterShouldersModel", "kindOf", "[I", true)
  | 8 => ("WaterShouldersModel", "draughtOf", "[I", true)
  | 9 => ("WaterShouldersModel", "canOf", "[I", true)
  | 10 => ("WaterShouldersModel", "basinOf", "[I", true)
  | 11 => ("WaterShouldersModel", "loadOf", "[I", true)
  | 12 => ("WaterShouldersModel", "asks", "I", false)
  | 13 => ("WaterShouldersModel", "mudBasin", "I", false)
  | 14 => ("WaterShouldersModel", "mudFrom", "I", false)
  | 15 => ("WaterShouldersModel", "lines", "I", false)
  | 16 => ("WaterShouldersModel", "lineOf", "[I", true)
  | 17 => ("WaterShouldersModel", "pageLength", "I", false)
  | 18 => ("WaterShouldersModel", "page", "[B", true)
  | 19 => ("WaterShouldersModel", "faultAt", "I", false)
  | 20 => ("WaterShouldersModel", "isWhole", "Z", false)
  | 21 => ("WaterShouldersModel", "newMany", "I", false)
  | 22 => ("WaterShouldersModel", "newHolds", "[I", true)
  | 23 => ("WaterShouldersModel", "newLeaks", "[I", true)
  | 24 => ("WaterShouldersModel", "firstOf", "[B", true)
  | 25 => ("WaterShouldersModel", "queue", "[I", true)
  | 26 => ("WaterShouldersModel", "queueEnd", "I", false)
  | 27 => ("WaterShouldersModel", "chanceOf", "[J", true)
  | 28 => ("WaterShouldersModel", "chanceThen", "[J", true)
  | 29 => ("WaterShouldersModel", "pouredOn", "[I", true)
  | 30 => ("WaterShouldersModel", "sureDay", "I", false)
  | 31 => ("WaterShouldersModel", "seedNow", "J", false)
  | 32 => ("WaterShouldersModel", "savedIn", "[I", true)
  | 33 => ("WaterShouldersModel", "isKept", "Z", false)
  | 34 => ("WaterShouldersModel", "keptStair", "I", false)
  | 35 => ("WaterShouldersModel", "keptBoats", "I", false)
  | 36 => ("WaterShouldersModel", "keptDays", "I", false)
  | 37 => ("WaterShouldersModel", "keptMud", "I", false)
  | 38 => ("WaterShouldersModel", "keptFrom", "I", false)
  | 39 => ("WaterShouldersModel", "keptLines", "I", false)
  | 40 => ("WaterShouldersModel", "keptIn", "[I", true)
  | 41 => ("WaterShouldersModel", "keptBasin", "[I", true)
  | 42 => ("WaterShouldersModel", "keptLoad", "[I", true)
  | 43 => ("WaterShouldersModel", "keptLine", "[I", true)
  | _ => ("WaterShouldersModel", "h", "J", false)
def tyX12 : Nat → FieldType := fun k => match k with
  | 0 => .int
  | 1 => .array .int
  | 2 => .array .int
  | 3 => .array .int
  | 4 => .int
  | 5 => .int
  | 6 => .int
  | 7 => .array .int
  | 8 => .array .int
  | 9 => .array .int
  | 10 => .array .int
  | 11 => .array .int
  | 12 => .int
  | 13 => .int
  | 14 => .int
  | 15 => .int
  | 16 => .array .int
  | 17 => .int
  | 18 => .array .byte
  | 19 => .int
  | 20 => .boolean
  | 21 => .int
  | 22 => .array .int
  | 23 => .array .int
  | 24 => .array .byte
  | 25 => .array .int
  | 26 => .int
  | 27 => .array .long
  | 28 => .array .long
  | 29 => .array .int
  | 30 => .int
  | 31 => .long
  | 32 => .array .int
  | 33 => .boolean
  | 34 => .int
  | 35 => .int
  | 36 => .int
  | 37 => .int
  | 38 => .int
  | 39 => .int
  | 40 => .array .int
  | 41 => .array .int
  | 42 => .array .int
  | 43 => .array .int
  | _ => .long
abbrev wsX120 : List Cond := u_ws RX12 TX12 45
theorem nmX12 : ∀ a, a < 45 → ∀ b, b < 45 → a ≠ b → (TX12 a).2.1 ≠ (TX12 b).2.1 := by decide +kernel
theorem tyX12_ok : ∀ k, k < 45 → parseFieldDescriptor (TX12 k).2.2.1 = some (tyX12 k) := by decide +kernel
abbrev cX12_init : ByteArray := prog_14_method_1_code
def yX12_init : MethodName := ⟨RX12, "<init>", "()V"⟩
abbrev cX12_within : ByteArray := prog_14_method_3_code
def yX12_within : MethodName := ⟨RX12, "within", "(III)Z"⟩
abbrev cX12_letters : ByteArray := prog_14_method_4_code
def yX12_letters : MethodName := ⟨RX12, "letters", "(J)I"⟩
abbrev cX12_blank : ByteArray := prog_14_method_5_code
def yX12_blank : MethodName := ⟨RX12, "blank", "()I"⟩
abbrev cX12_readStair : ByteArray := prog_14_method_6_code
def yX12_readStair : MethodName := ⟨RX12, "readStair", "()V"⟩
abbrev cX12_fault : ByteArray := prog_14_method_7_code
def yX12_fault : MethodName := ⟨RX12, "fault", "()I"⟩
abbrev cX12_stair : ByteArray := prog_14_method_8_code
def yX12_stair : MethodName := ⟨RX12, "stair", "()I"⟩
abbrev cX12_isBasin : ByteArray := prog_14_method_9_code
def yX12_isBasin : MethodName := ⟨RX12, "isBasin", "(I)Z"⟩
abbrev cX12_basinNow : ByteArray := prog_14_method_10_code
def yX12_basinNow : MethodName := ⟨RX12, "basinNow", "(II)I"⟩
abbrev cX12_basin : ByteArray := prog_14_method_11_code
def yX12_basin : MethodName := ⟨RX12, "basin", "(II)I"⟩
abbrev cX12_isBoat : ByteArray := prog_14_method_12_code
def yX12_isBoat : MethodName := ⟨RX12, "isBoat", "(I)Z"⟩
abbrev cX12_carriesKind : ByteArray := prog_14_method_13_code
def yX12_carriesKind : MethodName := ⟨RX12, "carriesKind", "(I)Z"⟩
abbrev cX12_boat : ByteArray := prog_14_method_14_code
def yX12_boat : MethodName := ⟨RX12, "boat", "(III)I"⟩
abbrev cX12_needs : ByteArray := prog_14_method_15_code
def yX12_needs : MethodName := ⟨RX12, "needs", "(I)I"⟩
abbrev cX12_carries : ByteArray := prog_14_method_16_code
def yX12_carries : MethodName := ⟨RX12, "carries", "(I)I"⟩
abbrev cX12_floats : ByteArray := prog_14_method_17_code
def yX12_floats : MethodName := ⟨RX12, "floats", "(I)Z"⟩
abbrev cX12_boatNow : ByteArray := prog_14_method_18_code
def yX12_boatNow : MethodName := ⟨RX12, "boatNow", "(II)I"⟩
abbrev cX12_about : ByteArray := prog_14_method_19_code
def yX12_about : MethodName := ⟨RX12, "about", "(II)I"⟩
abbrev cX12_as : ByteArray := prog_14_method_20_code
def yX12_as : MethodName := ⟨RX12, "as", "(II)I"⟩
abbrev cX12_canRise : ByteArray := prog_14_method_21_code
def yX12_canRise : MethodName := ⟨RX12, "canRise", "(I)Z"⟩
abbrev cX12_canTake : ByteArray := prog_14_method_22_code
def yX12_canTake : MethodName := ⟨RX12, "canTake", "(II)Z"⟩
abbrev cX12_canPour : ByteArray := prog_14_method_23_code
def yX12_canPour : MethodName := ⟨RX12, "canPour", "(II)Z"⟩
abbrev cX12_canDown : ByteArray := prog_14_method_24_code
def yX12_canDown : MethodName := ⟨RX12, "canDown", "(I)Z"⟩
abbrev cX12_runInto : ByteArray := prog_14_method_25_code
def yX12_runInto : MethodName := ⟨RX12, "runInto", "(II)I"⟩
abbrev cX12_takeOut : ByteArray := prog_14_method_26_code
def yX12_takeOut : MethodName := ⟨RX12, "takeOut", "(II)V"⟩
abbrev cX12_pourOut : ByteArray := prog_14_method_27_code
def yX12_pourOut : MethodName := ⟨RX12, "pourOut", "(II)I"⟩
abbrev cX12_rise : ByteArray := prog_14_method_28_code
def yX12_rise : MethodName := ⟨RX12, "rise", "(I)I"⟩
abbrev cX12_take : ByteArray := prog_14_method_29_code
def yX12_take : MethodName := ⟨RX12, "take", "(II)I"⟩
abbrev cX12_pour : ByteArray := prog_14_method_30_code
def yX12_pour : MethodName := ⟨RX12, "pour", "(II)I"⟩
abbrev cX12_down : ByteArray := prog_14_method_31_code
def yX12_down : MethodName := ⟨RX12, "down", "(I)I"⟩
abbrev cX12_above : ByteArray := prog_14_method_32_code
def yX12_above : MethodName := ⟨RX12, "above", "()I"⟩
abbrev cX12_goDay : ByteArray := prog_14_method_33_code
def yX12_goDay : MethodName := ⟨RX12, "goDay", "(I)V"⟩
abbrev cX12_day : ByteArray := prog_14_method_34_code
def yX12_day : MethodName := ⟨RX12, "day", "(I)I"⟩
abbrev cX12_codeOf : ByteArray := prog_14_method_35_code
def yX12_codeOf : MethodName := ⟨RX12, "codeOf", "(II)I"⟩
abbrev cX12_layCode : ByteArray := prog_14_method_36_code
def yX12_layCode : MethodName := ⟨RX12, "layCode", "(III)V"⟩
abbrev cX12_act : ByteArray := prog_14_method_37_code
def yX12_act : MethodName := ⟨RX12, "act", "(III)Z"⟩
abbrev cX12_fewestNow : ByteArray := prog_14_method_38_code
def yX12_fewestNow : MethodName := ⟨RX12, "fewestNow", "(III)I"⟩
abbrev cX12_actsOf : ByteArray := prog_14_method_39_code
def yX12_actsOf : MethodName := ⟨RX12, "actsOf", "(III)I"⟩
abbrev cX12_fewest : ByteArray := prog_14_method_40_code
def yX12_fewest : MethodName := ⟨RX12, "fewest", "(III)I"⟩
abbrev cX12_lacksNow : ByteArray := prog_14_method_41_code
def yX12_lacksNow : MethodName := ⟨RX12, "lacksNow", "(I)I"⟩
abbrev cX12_lacks : ByteArray := prog_14_method_42_code
def yX12_lacks : MethodName := ⟨RX12, "lacks", "(I)I"⟩
abbrev cX12_lastsNow : ByteArray := prog_14_method_43_code
def yX12_lastsNow : MethodName := ⟨RX12, "lastsNow", "(I)I"⟩
abbrev cX12_lasts : ByteArray := prog_14_method_44_code
def yX12_lasts : MethodName := ⟨RX12, "lasts", "(I)I"⟩
abbrev cX12_linedNow : ByteArray := prog_14_method_45_code
def yX12_linedNow : MethodName := ⟨RX12, "linedNow", "(I)I"⟩
abbrev cX12_lined : ByteArray := prog_14_method_46_code
def yX12_lined : MethodName := ⟨RX12, "lined", "(I)I"⟩
abbrev cX12_chanceNow : ByteArray := prog_14_method_47_code
def yX12_chanceNow : MethodName := ⟨RX12, "chanceNow", "(IIII)J"⟩
abbrev cX12_lowest : ByteArray := prog_14_method_48_code
def yX12_lowest : MethodName := ⟨RX12, "lowest", "(JJI)J"⟩
abbrev cX12_chance : ByteArray := prog_14_method_49_code
def yX12_chance : MethodName := ⟨RX12, "chance", "(IIIII)J"⟩
abbrev cX12_mud : ByteArray := prog_14_method_50_code
def yX12_mud : MethodName := ⟨RX12, "mud", "(II)I"⟩
abbrev cX12_line : ByteArray := prog_14_method_51_code
def yX12_line : MethodName := ⟨RX12, "line", "(I)I"⟩
abbrev cX12_holdsLines : ByteArray := prog_14_method_52_code
def yX12_holdsLines : MethodName := ⟨RX12, "holdsLines", "()Z"⟩
abbrev cX12_pouredNow : ByteArray := prog_14_method_53_code
def yX12_pouredNow : MethodName := ⟨RX12, "pouredNow", "(I)I"⟩
abbrev cX12_poured : ByteArray := prog_14_method_54_code
def yX12_poured : MethodName := ⟨RX12, "poured", "()I"⟩
abbrev cX12_sure : ByteArray := prog_14_method_55_code
def yX12_sure : MethodName := ⟨RX12, "sure", "(I)I"⟩
abbrev cX12_draw : ByteArray := prog_14_method_56_code
def yX12_draw : MethodName := ⟨RX12, "draw", "(I)I"⟩
abbrev cX12_weeksNow : ByteArray := prog_14_method_57_code
def yX12_weeksNow : MethodName := ⟨RX12, "weeksNow", "(III)I"⟩
abbrev cX12_weeks : ByteArray := prog_14_method_58_code
def yX12_weeks : MethodName := ⟨RX12, "weeks", "(III)I"⟩
abbrev cX12_image : ByteArray := prog_14_method_59_code
def yX12_image : MethodName := ⟨RX12, "image", "()I"⟩
abbrev cX12_restore : ByteArray := prog_14_method_60_code
def yX12_restore : MethodName := ⟨RX12, "restore", "()I"⟩
abbrev cX12_howMany : ByteArray := prog_14_method_61_code
def yX12_howMany : MethodName := ⟨RX12, "howMany", "(I)I"⟩
abbrev cX12_count : ByteArray := prog_14_method_62_code
def yX12_count : MethodName := ⟨RX12, "count", "(I)I"⟩
abbrev cX12_mix : ByteArray := prog_14_method_63_code
def yX12_mix : MethodName := ⟨RX12, "mix", "(J)V"⟩
abbrev cX12_digest : ByteArray := prog_14_method_64_code
def yX12_digest : MethodName := ⟨RX12, "digest", "()J"⟩
def RJ9 : String := "java/lang/Math"
def TJ9 : u_T := fun k => match k with
  | _ => ("", "", "", false)
def tyJ9 : Nat → FieldType := fun k => match k with
  | _ => .int
abbrev wsJ90 : List Cond := u_ws RJ9 TJ9 0
theorem nmJ9 : ∀ a, a < 0 → ∀ b, b < 0 → a ≠ b → (TJ9 a).2.1 ≠ (TJ9 b).2.1 := by decide +kernel
theorem tyJ9_ok : ∀ k, k < 0 → parseFieldDescriptor (TJ9 k).2.2.1 = some (tyJ9 k) := by decide +kernel
abbrev cJ9_max_7cf53 : ByteArray := prog_15_method_65_code
def yJ9_max_7cf53 : MethodName := ⟨RJ9, "max", "(II)I"⟩
abbrev cJ9_max_f86c9 : ByteArray := prog_15_method_66_code
def yJ9_max_f86c9 : MethodName := ⟨RJ9, "max", "(JJ)J"⟩
abbrev cJ9_min_7cf53 : ByteArray := prog_15_method_69_code
def yJ9_min_7cf53 : MethodName := ⟨RJ9, "min", "(II)I"⟩
def RJ10 : String := "java/lang/System"
def TJ10 : u_T := fun k => match k with
  | _ => ("", "", "", false)
def tyJ10 : Nat → FieldType := fun k => match k with
  | _ => .int
abbrev wsJ100 : List Cond := u_ws RJ10 TJ10 0
theorem nmJ10 : ∀ a, a < 0 → ∀ b, b < 0 → a ≠ b → (TJ10 a).2.1 ≠ (TJ10 b).2.1 := by decide +kernel
theorem tyJ10_ok : ∀ k, k < 0 → parseFieldDescriptor (TJ10 k).2.2.1 = some (tyJ10 k) := by decide +kernel
def RJ7 : String := "java/util/Arrays"
def TJ7 : u_T := fun k => match k with
  | _ => ("", "", "", false)
def tyJ7 : Nat → FieldType := fun k => match k with
  | _ => .int
abbrev wsJ70 : List Cond := u_ws RJ7 TJ7 0
theorem nmJ7 : ∀ a, a < 0 → ∀ b, b < 0 → a ≠ b → (TJ7 a).2.1 ≠ (TJ7 b).2.1 := by decide +kernel
theorem tyJ7_ok : ∀ k, k < 0 → parseFieldDescriptor (TJ7 k).2.2.1 = some (tyJ7 k) := by decide +kernel
abbrev cJ7_fill_d0a16 : ByteArray := prog_17_method_101_code
def yJ7_fill_d0a16 : MethodName := ⟨RJ7, "fill", "([JJ)V"⟩
abbrev cJ7_fill_53178 : ByteArray := prog_17_method_103_code
def yJ7_fill_53178 : MethodName := ⟨RJ7, "fill", "([II)V"⟩
def RL : String := "WaterShouldersLaw"
abbrev cL_law : ByteArray := code
def yL_law : MethodName := ⟨RL, "law", "([I)Z"⟩
abbrev vwCl : List vw_C := [(RX0, TX0, 4), (RX1, TX1, 4), (RX2, TX2, 4), (RX3, TX3, 7), (RX4, TX4, 9), (RX5, TX5, 2), (RX6, TX6, 2), (RX7, TX7, 4), (RX8, TX8, 14), (RX9, TX9, 3), (RX10, TX10, 4), (RX11, TX11, 13), (RX12, TX12, 45)]
