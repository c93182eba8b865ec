section
-- ===== PART A: goes FIRST, ahead of the names: the tables' words, and 'selects' of the private methods out of them =====
/-- a private method of a class that the tables say can be made, by its rows of tables_1 -/
def lw_okq (q : MethodName × Nat) : Prop := (q.1.cls ≠ "java/lang/invoke/MethodHandle" ∧ q.1.cls ≠ "java/lang/invoke/VarHandle") ∧ Cond.instantiable q.1.cls q.2 ∈ tables_1 ∧ Cond.privateMethod q.1 ∈ tables_1 ∧ Cond.instanceMethod q.1 ∈ tables_1
theorem lw_p0 : lw_okq (⟨"MeterRooms$Reader", "moveIf", "(Z)V"⟩, 7) := ⟨⟨by decide +kernel, by decide +kernel⟩, List.mem_of_getElem? (i := 26) (by decide +kernel), List.mem_of_getElem? (i := 281) (by decide +kernel), List.mem_of_getElem? (i := 282) (by decide +kernel)⟩
theorem lw_p1 : lw_okq (⟨"MeterRooms$Reader", "readNumber", "(III)I"⟩, 7) := ⟨⟨by decide +kernel, by decide +kernel⟩, List.mem_of_getElem? (i := 26) (by decide +kernel), List.mem_of_getElem? (i := 292) (by decide +kernel), List.mem_of_getElem? (i := 293) (by decide +kernel)⟩
theorem lw_p2 : lw_okq (⟨"MeterRooms$Reader", "readTemperature", "()I"⟩, 7) := ⟨⟨by decide +kernel, by decide +kernel⟩, List.mem_of_getElem? (i := 26) (by decide +kernel), List.mem_of_getElem? (i := 299) (by decide +kernel), List.mem_of_getElem? (i := 300) (by decide +kernel)⟩
theorem lw_p3 : lw_okq (⟨"MeterRooms", "warmthIfShut", "(I)I"⟩, 7) := ⟨⟨by decide +kernel, by decide +kernel⟩, List.mem_of_getElem? (i := 18) (by decide +kernel), List.mem_of_getElem? (i := 330) (by decide +kernel), List.mem_of_getElem? (i := 331) (by decide +kernel)⟩
theorem lw_p4 : lw_okq (⟨"MeterRooms$State", "planMusts", "()I"⟩, 11) := ⟨⟨by decide +kernel, by decide +kernel⟩, List.mem_of_getElem? (i := 73) (by decide +kernel), List.mem_of_getElem? (i := 367) (by decide +kernel), List.mem_of_getElem? (i := 368) (by decide +kernel)⟩
theorem lw_p5 : lw_okq (⟨"MeterRooms$State", "planCompressors", "(II)I"⟩, 11) := ⟨⟨by decide +kernel, by decide +kernel⟩, List.mem_of_getElem? (i := 73) (by decide +kernel), List.mem_of_getElem? (i := 383) (by decide +kernel), List.mem_of_getElem? (i := 384) (by decide +kernel)⟩
theorem lw_p6 : lw_okq (⟨"MeterRooms$State", "nextToCool", "()LMeterRooms$Room;"⟩, 11) := ⟨⟨by decide +kernel, by decide +kernel⟩, List.mem_of_getElem? (i := 73) (by decide +kernel), List.mem_of_getElem? (i := 387) (by decide +kernel), List.mem_of_getElem? (i := 388) (by decide +kernel)⟩
theorem lw_p7 : lw_okq (⟨"MeterRooms$State", "planDefrosts", "(II)I"⟩, 11) := ⟨⟨by decide +kernel, by decide +kernel⟩, List.mem_of_getElem? (i := 73) (by decide +kernel), List.mem_of_getElem? (i := 391) (by decide +kernel), List.mem_of_getElem? (i := 392) (by decide +kernel)⟩
theorem lw_p8 : lw_okq (⟨"MeterRooms$State", "nextToDefrost", "()LMeterRooms$Room;"⟩, 11) := ⟨⟨by decide +kernel, by decide +kernel⟩, List.mem_of_getElem? (i := 73) (by decide +kernel), List.mem_of_getElem? (i := 395) (by decide +kernel), List.mem_of_getElem? (i := 396) (by decide +kernel)⟩
theorem lw_p9 : lw_okq (⟨"MeterRooms$State", "takeUnits", "(I)V"⟩, 11) := ⟨⟨by decide +kernel, by decide +kernel⟩, List.mem_of_getElem? (i := 73) (by decide +kernel), List.mem_of_getElem? (i := 399) (by decide +kernel), List.mem_of_getElem? (i := 400) (by decide +kernel)⟩
theorem lw_p10 : lw_okq (⟨"MeterRooms$State", "beginDefrost", "(LMeterRooms$Room;)V"⟩, 11) := ⟨⟨by decide +kernel, by decide +kernel⟩, List.mem_of_getElem? (i := 73) (by decide +kernel), List.mem_of_getElem? (i := 406) (by decide +kernel), List.mem_of_getElem? (i := 407) (by decide +kernel)⟩
theorem lw_p11 : lw_okq (⟨"MeterRooms$State", "countMinute", "(LMeterRooms$Room;)V"⟩, 11) := ⟨⟨by decide +kernel, by decide +kernel⟩, List.mem_of_getElem? (i := 73) (by decide +kernel), List.mem_of_getElem? (i := 422) (by decide +kernel), List.mem_of_getElem? (i := 423) (by decide +kernel)⟩
theorem lw_p12 : lw_okq (⟨"java/lang/Throwable", "fillInStackTrace", "(I)Ljava/lang/Throwable;"⟩, 6) := ⟨⟨by decide +kernel, by decide +kernel⟩, List.mem_of_getElem? (i := 481) (by decide +kernel), List.mem_of_getElem? (i := 479) (by decide +kernel), List.mem_of_getElem? (i := 480) (by decide +kernel)⟩
theorem lw_p13 : lw_okq (⟨"MeterRooms", "doCommand", "()Z"⟩, 7) := ⟨⟨by decide +kernel, by decide +kernel⟩, List.mem_of_getElem? (i := 18) (by decide +kernel), List.mem_of_getElem? (i := 553) (by decide +kernel), List.mem_of_getElem? (i := 554) (by decide +kernel)⟩
theorem lw_p14 : lw_okq (⟨"MeterRooms$State", "countRooms", "()I"⟩, 11) := ⟨⟨by decide +kernel, by decide +kernel⟩, List.mem_of_getElem? (i := 73) (by decide +kernel), List.mem_of_getElem? (i := 602) (by decide +kernel), List.mem_of_getElem? (i := 603) (by decide +kernel)⟩
theorem lw_p15 : lw_okq (⟨"MeterRooms$Memory", "forgetOldest", "()V"⟩, 2) := ⟨⟨by decide +kernel, by decide +kernel⟩, List.mem_of_getElem? (i := 201) (by decide +kernel), List.mem_of_getElem? (i := 671) (by decide +kernel), List.mem_of_getElem? (i := 672) (by decide +kernel)⟩
def lw_privs_1 : List (MethodName × Nat) := [(⟨"MeterRooms$Reader", "moveIf", "(Z)V"⟩, 7), (⟨"MeterRooms$Reader", "readNumber", "(III)I"⟩, 7), (⟨"MeterRooms$Reader", "readTemperature", "()I"⟩, 7), (⟨"MeterRooms", "warmthIfShut", "(I)I"⟩, 7), (⟨"MeterRooms$State", "planMusts", "()I"⟩, 11), (⟨"MeterRooms$State", "planCompressors", "(II)I"⟩, 11), (⟨"MeterRooms$State", "nextToCool", "()LMeterRooms$Room;"⟩, 11), (⟨"MeterRooms$State", "planDefrosts", "(II)I"⟩, 11), (⟨"MeterRooms$State", "nextToDefrost", "()LMeterRooms$Room;"⟩, 11), (⟨"MeterRooms$State", "takeUnits", "(I)V"⟩, 11), (⟨"MeterRooms$State", "beginDefrost", "(LMeterRooms$Room;)V"⟩, 11), (⟨"MeterRooms$State", "countMinute", "(LMeterRooms$Room;)V"⟩, 11), (⟨"java/lang/Throwable", "fillInStackTrace", "(I)Ljava/lang/Throwable;"⟩, 6), (⟨"MeterRooms", "doCommand", "()Z"⟩, 7), (⟨"MeterRooms$State", "countRooms", "()I"⟩, 11), (⟨"MeterRooms$Memory", "forgetOldest", "()V"⟩, 2)]
theorem lw_r1 : ∀ q ∈ lw_privs_1, lw_okq q := List.forall_mem_cons.mpr ⟨lw_p0, List.forall_mem_cons.mpr ⟨lw_p1, List.forall_mem_cons.mpr ⟨lw_p2, List.forall_mem_cons.mpr ⟨lw_p3, List.forall_mem_cons.mpr ⟨lw_p4, List.forall_mem_cons.mpr ⟨lw_p5, List.forall_mem_cons.mpr ⟨lw_p6, List.forall_mem_cons.mpr ⟨lw_p7, List.forall_mem_cons.mpr ⟨lw_p8, List.forall_mem_cons.mpr ⟨lw_p9, List.forall_mem_cons.mpr ⟨lw_p10, List.forall_mem_cons.mpr ⟨lw_p11, List.forall_mem_cons.mpr ⟨lw_p12, List.forall_mem_cons.mpr ⟨lw_p13, List.forall_mem_cons.mpr ⟨lw_p14, List.forall_mem_cons.mpr ⟨lw_p15, fun _ h => absurd h List.not_mem_nil⟩⟩⟩⟩⟩⟩⟩⟩⟩⟩⟩⟩⟩⟩⟩⟩
theorem lw_p16 : lw_okq (⟨"MeterRooms", "isKept", "(II)Z"⟩, 7) := ⟨⟨by decide +kernel, by decide +kernel⟩, List.mem_of_getElem? (i := 18) (by decide +kernel), List.mem_of_getElem? (i := 766) (by decide +kernel), List.mem_of_getElem? (i := 767) (by decide +kernel)⟩
theorem lw_p17 : lw_okq (⟨"MeterRooms", "doGroup", "(I)Z"⟩, 7) := ⟨⟨by decide +kernel, by decide +kernel⟩, List.mem_of_getElem? (i := 18) (by decide +kernel), List.mem_of_getElem? (i := 782) (by decide +kernel), List.mem_of_getElem? (i := 783) (by decide +kernel)⟩
theorem lw_p18 : lw_okq (⟨"MeterRooms", "isSo", "(ILMeterRooms$Room;I)Z"⟩, 7) := ⟨⟨by decide +kernel, by decide +kernel⟩, List.mem_of_getElem? (i := 18) (by decide +kernel), List.mem_of_getElem? (i := 786) (by decide +kernel), List.mem_of_getElem? (i := 787) (by decide +kernel)⟩
theorem lw_p19 : lw_okq (⟨"MeterRooms", "doTurn", "(I)V"⟩, 7) := ⟨⟨by decide +kernel, by decide +kernel⟩, List.mem_of_getElem? (i := 18) (by decide +kernel), List.mem_of_getElem? (i := 800) (by decide +kernel), List.mem_of_getElem? (i := 801) (by decide +kernel)⟩
theorem lw_p20 : lw_okq (⟨"MeterRooms", "slotAt", "(I)LMeterRooms$Slot;"⟩, 7) := ⟨⟨by decide +kernel, by decide +kernel⟩, List.mem_of_getElem? (i := 18) (by decide +kernel), List.mem_of_getElem? (i := 811) (by decide +kernel), List.mem_of_getElem? (i := 812) (by decide +kernel)⟩
theorem lw_p21 : lw_okq (⟨"MeterRoomsModel", "refused", "(I)Z"⟩, 14) := ⟨⟨by decide +kernel, by decide +kernel⟩, List.mem_of_getElem? (i := 829) (by decide +kernel), List.mem_of_getElem? (i := 895) (by decide +kernel), List.mem_of_getElem? (i := 896) (by decide +kernel)⟩
theorem lw_p22 : lw_okq (⟨"MeterRoomsModel", "readText", "([I)I"⟩, 14) := ⟨⟨by decide +kernel, by decide +kernel⟩, List.mem_of_getElem? (i := 829) (by decide +kernel), List.mem_of_getElem? (i := 907) (by decide +kernel), List.mem_of_getElem? (i := 908) (by decide +kernel)⟩
theorem lw_p23 : lw_okq (⟨"MeterRoomsModel", "at", "(I)I"⟩, 14) := ⟨⟨by decide +kernel, by decide +kernel⟩, List.mem_of_getElem? (i := 829) (by decide +kernel), List.mem_of_getElem? (i := 911) (by decide +kernel), List.mem_of_getElem? (i := 912) (by decide +kernel)⟩
theorem lw_p24 : lw_okq (⟨"MeterRoomsModel", "readCommand", "([I)Z"⟩, 14) := ⟨⟨by decide +kernel, by decide +kernel⟩, List.mem_of_getElem? (i := 829) (by decide +kernel), List.mem_of_getElem? (i := 915) (by decide +kernel), List.mem_of_getElem? (i := 916) (by decide +kernel)⟩
theorem lw_p25 : lw_okq (⟨"MeterRoomsModel", "figures", "(III)I"⟩, 14) := ⟨⟨by decide +kernel, by decide +kernel⟩, List.mem_of_getElem? (i := 829) (by decide +kernel), List.mem_of_getElem? (i := 919) (by decide +kernel), List.mem_of_getElem? (i := 920) (by decide +kernel)⟩
theorem lw_p26 : lw_okq (⟨"MeterRoomsModel", "temperature", "()I"⟩, 14) := ⟨⟨by decide +kernel, by decide +kernel⟩, List.mem_of_getElem? (i := 829) (by decide +kernel), List.mem_of_getElem? (i := 924) (by decide +kernel), List.mem_of_getElem? (i := 925) (by decide +kernel)⟩
theorem lw_p27 : lw_okq (⟨"MeterRoomsModel", "done", "(Z)Z"⟩, 14) := ⟨⟨by decide +kernel, by decide +kernel⟩, List.mem_of_getElem? (i := 829) (by decide +kernel), List.mem_of_getElem? (i := 940) (by decide +kernel), List.mem_of_getElem? (i := 941) (by decide +kernel)⟩
theorem lw_p28 : lw_okq (⟨"MeterRoomsModel", "runOn", "([II)I"⟩, 14) := ⟨⟨by decide +kernel, by decide +kernel⟩, List.mem_of_getElem? (i := 829) (by decide +kernel), List.mem_of_getElem? (i := 953) (by decide +kernel), List.mem_of_getElem? (i := 954) (by decide +kernel)⟩
theorem lw_p29 : lw_okq (⟨"MeterRoomsModel", "minuteOn", "([I)V"⟩, 14) := ⟨⟨by decide +kernel, by decide +kernel⟩, List.mem_of_getElem? (i := 829) (by decide +kernel), List.mem_of_getElem? (i := 957) (by decide +kernel), List.mem_of_getElem? (i := 958) (by decide +kernel)⟩
theorem lw_p30 : lw_okq (⟨"MeterRoomsModel", "find", "([I)V"⟩, 14) := ⟨⟨by decide +kernel, by decide +kernel⟩, List.mem_of_getElem? (i := 829) (by decide +kernel), List.mem_of_getElem? (i := 961) (by decide +kernel), List.mem_of_getElem? (i := 962) (by decide +kernel)⟩
theorem lw_p31 : lw_okq (⟨"MeterRoomsModel", "must", "([I)V"⟩, 14) := ⟨⟨by decide +kernel, by decide +kernel⟩, List.mem_of_getElem? (i := 829) (by decide +kernel), List.mem_of_getElem? (i := 965) (by decide +kernel), List.mem_of_getElem? (i := 966) (by decide +kernel)⟩
def lw_privs_2 : List (MethodName × Nat) := [(⟨"MeterRooms", "isKept", "(II)Z"⟩, 7), (⟨"MeterRooms", "doGroup", "(I)Z"⟩, 7), (⟨"MeterRooms", "isSo", "(ILMeterRooms$Room;I)Z"⟩, 7), (⟨"MeterRooms", "doTurn", "(I)V"⟩, 7), (⟨"MeterRooms", "slotAt", "(I)LMeterRooms$Slot;"⟩, 7), (⟨"MeterRoomsModel", "refused", "(I)Z"⟩, 14), (⟨"MeterRoomsModel", "readText", "([I)I"⟩, 14), (⟨"MeterRoomsModel", "at", "(I)I"⟩, 14), (⟨"MeterRoomsModel", "readCommand", "([I)Z"⟩, 14), (⟨"MeterRoomsModel", "figures", "(III)I"⟩, 14), (⟨"MeterRoomsModel", "temperature", "()I"⟩, 14), (⟨"MeterRoomsModel", "done", "(Z)Z"⟩, 14), (⟨"MeterRoomsModel", "runOn", "([II)I"⟩, 14), (⟨"MeterRoomsModel", "minuteOn", "([I)V"⟩, 14), (⟨"MeterRoomsModel", "find", "([I)V"⟩, 14), (⟨"MeterRoomsModel", "must", "([I)V"⟩, 14)]
theorem lw_r2 : ∀ q ∈ lw_privs_2, lw_okq q := List.forall_mem_cons.mpr ⟨lw_p16, List.forall_mem_cons.mpr ⟨lw_p17, List.forall_mem_cons.mpr ⟨lw_p18, List.forall_mem_cons.mpr ⟨lw_p19, List.forall_mem_cons.mpr ⟨lw_p20, List.forall_mem_cons.mpr ⟨lw_p21, List.forall_mem_cons.mpr ⟨lw_p22, List.forall_mem_cons.mpr ⟨lw_p23, List.forall_mem_cons.mpr ⟨lw_p24, List.forall_mem_cons.mpr ⟨lw_p25, List.forall_mem_cons.mpr ⟨lw_p26, List.forall_mem_cons.mpr ⟨lw_p27, List.forall_mem_cons.mpr ⟨lw_p28, List.forall_mem_cons.mpr ⟨lw_p29, List.forall_mem_cons.mpr ⟨lw_p30, List.forall_mem_cons.mpr ⟨lw_p31, fun _ h => absurd h List.not_mem_nil⟩⟩⟩⟩⟩⟩⟩⟩⟩⟩⟩⟩⟩⟩⟩⟩
theorem lw_p32 : lw_okq (⟨"MeterRoomsModel", "nextWarm", "([I)I"⟩, 14) := ⟨⟨by decide +kernel, by decide +kernel⟩, List.mem_of_getElem? (i := 829) (by decide +kernel), List.mem_of_getElem? (i := 972) (by decide +kernel), List.mem_of_getElem? (i := 973) (by decide +kernel)⟩
theorem lw_p33 : lw_okq (⟨"MeterRoomsModel", "fits", "([II)Z"⟩, 14) := ⟨⟨by decide +kernel, by decide +kernel⟩, List.mem_of_getElem? (i := 829) (by decide +kernel), List.mem_of_getElem? (i := 979) (by decide +kernel), List.mem_of_getElem? (i := 980) (by decide +kernel)⟩
theorem lw_p34 : lw_okq (⟨"MeterRoomsModel", "nextFrost", "([I)I"⟩, 14) := ⟨⟨by decide +kernel, by decide +kernel⟩, List.mem_of_getElem? (i := 829) (by decide +kernel), List.mem_of_getElem? (i := 986) (by decide +kernel), List.mem_of_getElem? (i := 987) (by decide +kernel)⟩
theorem lw_p35 : lw_okq (⟨"MeterRoomsModel", "roomOn", "([II)V"⟩, 14) := ⟨⟨by decide +kernel, by decide +kernel⟩, List.mem_of_getElem? (i := 829) (by decide +kernel), List.mem_of_getElem? (i := 993) (by decide +kernel), List.mem_of_getElem? (i := 994) (by decide +kernel)⟩
theorem lw_p36 : lw_okq (⟨"MeterRoomsModel", "remember", "()V"⟩, 14) := ⟨⟨by decide +kernel, by decide +kernel⟩, List.mem_of_getElem? (i := 829) (by decide +kernel), List.mem_of_getElem? (i := 1030) (by decide +kernel), List.mem_of_getElem? (i := 1031) (by decide +kernel)⟩
theorem lw_p37 : lw_okq (⟨"MeterRoomsModel", "command", "(II)Z"⟩, 14) := ⟨⟨by decide +kernel, by decide +kernel⟩, List.mem_of_getElem? (i := 829) (by decide +kernel), List.mem_of_getElem? (i := 1099) (by decide +kernel), List.mem_of_getElem? (i := 1100) (by decide +kernel)⟩
theorem lw_p38 : lw_okq (⟨"MeterRoomsModel", "doesIt", "(II)Z"⟩, 14) := ⟨⟨by decide +kernel, by decide +kernel⟩, List.mem_of_getElem? (i := 829) (by decide +kernel), List.mem_of_getElem? (i := 1103) (by decide +kernel), List.mem_of_getElem? (i := 1104) (by decide +kernel)⟩
theorem lw_p39 : lw_okq (⟨"MeterRoomsModel", "turn", "(I)V"⟩, 14) := ⟨⟨by decide +kernel, by decide +kernel⟩, List.mem_of_getElem? (i := 829) (by decide +kernel), List.mem_of_getElem? (i := 1113) (by decide +kernel), List.mem_of_getElem? (i := 1114) (by decide +kernel)⟩
def lw_privs_3 : List (MethodName × Nat) := [(⟨"MeterRoomsModel", "nextWarm", "([I)I"⟩, 14), (⟨"MeterRoomsModel", "fits", "([II)Z"⟩, 14), (⟨"MeterRoomsModel", "nextFrost", "([I)I"⟩, 14), (⟨"MeterRoomsModel", "roomOn", "([II)V"⟩, 14), (⟨"MeterRoomsModel", "remember", "()V"⟩, 14), (⟨"MeterRoomsModel", "command", "(II)Z"⟩, 14), (⟨"MeterRoomsModel", "doesIt", "(II)Z"⟩, 14), (⟨"MeterRoomsModel", "turn", "(I)V"⟩, 14)]
theorem lw_r3 : ∀ q ∈ lw_privs_3, lw_okq q := List.forall_mem_cons.mpr ⟨lw_p32, List.forall_mem_cons.mpr ⟨lw_p33, List.forall_mem_cons.mpr ⟨lw_p34, List.forall_mem_cons.mpr ⟨lw_p35, List.forall_mem_cons.mpr ⟨lw_p36, List.forall_mem_cons.mpr ⟨lw_p37, List.forall_mem_cons.mpr ⟨lw_p38, List.forall_mem_cons.mpr ⟨lw_p39, fun _ h => absurd h List.not_mem_nil⟩⟩⟩⟩⟩⟩⟩⟩
def lw_privs : List (MethodName × Nat) := lw_privs_1 ++ (lw_privs_2 ++ (lw_privs_3))
def lw_tbl : List Cond := k2_sels lw_privs ++ tables_1
theorem lw_privs_ok : ∀ q ∈ lw_privs, lw_okq q := by
  show ∀ q ∈ lw_privs_1 ++ (lw_privs_2 ++ (lw_privs_3)), lw_okq q
  exact List.forall_mem_append.mpr ⟨lw_r1, List.forall_mem_append.mpr ⟨lw_r2, lw_r3⟩⟩
/-! ===== BEGIN words of one list among another's, by their places ===== -/
theorem goodIn_r {big : List Cond} (ws : List Cond) (ps : List Nat) (hp : ws = ps.filterMap (fun i => big[i]?)) (h : ws.all goodWord = true) : GoodIn big ws := by
  intro w hw
  have h1 := List.all_eq_true.mp h w hw
  rw [hp] at hw
  obtain ⟨i, -, hi⟩ := List.mem_filterMap.mp hw
  have hm : w ∈ big := by first | exact List.mem_of_getElem? hi | exact List.getElem?_mem hi
  exact ⟨hm, good_of_word h1⟩
theorem goodIn_app {big a b : List Cond} (ha : GoodIn big a) (hb : GoodIn big b) : GoodIn big (a ++ b) := fun w h => (List.mem_append.mp h).elim (ha w) (hb w)
theorem goodIn_ca {big a b : List Cond} {c : Cond} (ha : GoodIn big (c :: a)) (hb : GoodIn big b) : GoodIn big (c :: (a ++ b)) := fun w h => (List.mem_cons.mp h).elim (fun e => ha w (List.mem_cons.mpr (Or.inl e))) (fun h => (List.mem_append.mp h).elim (fun h => ha w (List.mem_cons.mpr (Or.inr h))) (hb w))
theorem goodIn_sub {big ws : List Cond} (hm : ∀ w ∈ ws, w ∈ big) (h : ws.all goodWord = true) : GoodIn big ws := fun w hw => ⟨hm w hw, good_of_word (List.all_eq_true.mp h w hw)⟩
/-! ===== END ===== -/

/-! ===== BEGIN exceptions that leave a method, and their catching by the caller (launches without stack traces) ===== -/
section VXA
/-! The laws vx_back, vx_callV, vx_callS, vx_callSW, vx_throw0, vx_throwS follow proofs of the library, with one case more: JvmDerived/Free/Laws.lean (Back.of_free), Shelf42/LK1.lean (callV, callS), Shelf/KitTraced.lean (throwNew0V, throwNewS). -/
/-- where a method has thrown q: the class by its name, the cell, what was written, the world -/
def vx_T (XC : String → State → State → Prop) (st : State) (q : Addr) (t : State) (mc ms : Nat) (free : Addr → Prop) : Prop :=
  ∃ (E : String) (ce : Cell) (L : List Loc), XC E st t ∧ t.heap[q]? = some ce ∧ ce.vm = .none ∧ st.vm.findClass E = some ce.cls ∧ st.WarmedH t.vm ∧ st.sameButNew ({ t with vm := st.vm } : State) L mc ms ∧ ∀ z ∈ L, free z.base
def vx_Q (Qc : Array Value → State → Outcome → State → Prop) (XC : String → State → State → Prop) (mc ms : Nat) (free : Addr → Prop) : Array Value → State → Outcome → State → Prop := fun a st o t =>
  (Qc a st o t ∧ ∃ L, FrameEnd st o t L mc ms ∧ ∀ q ∈ L, free q.base) ∨ ∃ q, o = .threw q ∧ vx_T XC st q t mc ms free
/-- a callee that returns or throws -/
def vx_Met (l : Launch) (y : MethodName) (ws : List Cond) (rm : Room) (Pc : Array Value → State → Prop) (Qc : Array Value → State → Outcome → State → Prop) (XC : String → State → State → Prop) (mc ms : Nat) (free : Addr → Prop) : Prop :=
  MetFree l y (headSpec ws rm) Pc (fun _ _ _ _ _ => True) (vx_Q Qc XC mc ms free)
def vx_Post (XC : String → State → State → Prop) (mc ms : Nat) (free : Addr → Prop) : Pt → Array Value → Addr → Pt → Prop := fun A a q B =>
  ∃ (g : JFrame) (mk : MethodId) (t : State) (L : List Loc) (E : String) (ce : Cell), B.U.heap = t.heap ∧ B.U.vm = t.vm ∧ XC E (A.U.calling g mk a) t ∧ t.heap[q]? = some ce ∧ ce.vm = .none ∧ A.U.vm.findClass E = some ce.cls ∧ B.locs = A.locs ++ L ∧ (∀ z ∈ L, free z.base) ∧ B.cells = A.cells + mc ∧ B.slots = A.slots + ms
def vx_Back (l : Launch) (R : Room) (p : Program) (e : Env) (below : List Frame) (s : State) (sargs : Array Value) (y : MethodName) (len W9 : Nat)
    (Pre : Pt → Array Value → Prop) (Post : Pt → Array Value → Option Value → Pt → Prop) (PostX : Pt → Array Value → Addr → Pt → Prop) : Prop :=
  ∀ (m : MethodId) (meth : Method) (c : Code) (A : Pt) (g : JFrame) (ig : Instr) (mk : MethodId) (a : Array Value),
    Stand p l e R s m sargs below meth c A.U A.locs A.cells A.slots → g.method = m → g.locals.size = c.maxLocals → decode c.code g.pc = .ok (ig, len) →
    2 * g.monitorRoom + (g.stack.map fun v => v.category).sum ≤ W9 → A.U.methodNamed? y = some mk → Pre A a →
    (∃ (v : Option Value) (B : Pt), Stand p l e R s m sargs below meth c B.U B.locs B.cells B.slots ∧ Post A a v B ∧
      Steps p.tables e below (doInvoke e (A.U.setTop g) [] mk a).1 (B.U.setTop { g with pc := g.pc + len, stack := v.toList ++ g.stack })) ∨
    (∃ (q : Addr) (B : Pt), Stand p l e R s m sargs below meth c B.U B.locs B.cells B.slots ∧ PostX A a q B ∧
      Steps p.tables e below (doInvoke e (A.U.setTop g) [] mk a).1 ((B.U.setTop g).pushFrame (.throwing q)))
section Payer
variable {l : Launch} {R : Room} {p : Program} {e : Env} {below : List Frame} {s : State} {sargs : Array Value} {y : MethodName} {len W9 : Nat}
theorem vx_back {ws : List Cond} {rm : Room} {Pc : Array Value → State → Prop} {Qc : Array Value → State → Outcome → State → Prop} {XC : String → State → State → Prop} {mc ms : Nat} {free : Addr → Prop} {bytes : ByteArray} {maxL : Nat} {ret : Option FieldType}
    (hM : vx_Met l y ws rm Pc Qc XC mc ms free) (hblind : FrameBlind Pc) (hrc : rm.cells = mc) (hrs : rm.slots = ms)
    (hframes : rm.frames + 1 ≤ R.frames) (hlocals : W9 + (maxL + 11) + rm.locals ≤ R.locals)
    (hws : ∀ w ∈ ws, ∀ a' U, s.WarmedH U.vm → w.before a' U = true) (hcode : Cond.code y bytes maxL ret ∈ ws) (hinit : ∀ a' U, s.WarmedH U.vm → (Cond.initialized y.cls).before a' U = true) :
    vx_Back l R p e below s sargs y len W9 (PreOf R mc ms Pc) (PostOf Qc mc ms free) (vx_Post XC mc ms free) := by
  intro m meth c A g ig mk a X hg hsize hdg hW hn hp
  have h1 : (headSpec ws rm).pre.before a A.U = true := atoms_intro fun w hw => hws w hw _ _ X.warmed
  have h2 : (Cond.code y bytes maxL ret).before a A.U = true := hws _ hcode _ _ X.warmed
  have h3 : (Cond.initialized y.cls).before a A.U = true := hinit _ _ X.warmed
  have h4 : A.cells + (headSpec ws rm).room.cells ≤ R.cells := by rw [show (headSpec ws rm).room.cells = mc from hrc]; exact hp.1
  have h5 : A.slots + (headSpec ws rm).room.slots ≤ R.slots := by rw [show (headSpec ws rm).room.slots = ms from hrs]; exact hp.2.1
  have hPc : Pc a (A.U.calling g mk a) := hblind _ _ _ _ hp.2.2
  obtain ⟨U, Ls, c0, s0⟩ := A
  dsimp only [Pt.U, Pt.locs, Pt.cells, Pt.slots] at h1 h2 h3 h4 h5 X hn hPc ⊢
  obtain ⟨methY, cY, hmY, hcY, -, hlY, -, -, -, -⟩ := Cond.code_spec hn h2
  obtain ⟨kY, hkY, -⟩ := className_of_methodNamed hn
  have hinitY : kY.init = .initialized := Cond.initialized_spec (findClass_of_methodNamed hn) hkY h3
  have h : At U g.method c below := by rw [hg]; exact X.here
  have hlocals9 : W9 + (maxL + 11) + (headSpec ws rm).room.locals ≤ R.locals := hlocals
  have happ : (headSpec ws rm).appliesLoose y e.platform (U.calling g mk a) = true :=
    Spec.appliesLoose_calling (g := g) h hdg hn hkY hinitY
      (X.room_calling (g := g) (R' := (headSpec ws rm).room) hsize hmY hcY hframes (by rw [hlY]; omega) h4 h5) h1
  obtain ⟨mid, hmid⟩ := h.above
  have hfr : (U.setTop g).frames = (.java g :: mid) ++ below := by rw [State.frames_setTop' g h.top, hmid]; rfl
  obtain ⟨o, s₂, hsteps, -, hend, hq⟩ := Steps.callFree hM p X.admits X.cas X.clock (acts := []) hfr happ hPc trivial
  have hq' : vx_Q Qc XC mc ms free a (U.calling g mk a) o s₂ := hq
  rw [State.frames_setTop' g h.top] at hend
  obtain ⟨g₀, hg0⟩ := Option.isSome_iff_exists.mp h.top
  obtain ⟨r, hr⟩ := State.topJava?_eq_some.mp hg0
  have hr' : (({ U with heap := s₂.heap, slotsUsed := s₂.slotsUsed } : State).setVm s₂.vm).frames = .java g₀ :: r := hr
  rcases hq' with ⟨hqc, L, hfe, hL⟩ | ⟨q, rfl, E, ce, L, hx, hce, hcv, hcl, hW₂, hsm, hL⟩
  · obtain ⟨⟨v, rfl⟩, hW₂, e2, q2, q3, q4, q5, q6⟩ := id hfe
    have e3 : s₂ = ({ (U.calling g mk a).setFrames s₂.frames with heap := s₂.heap, slotsUsed := s₂.slotsUsed } : State).setVm s₂.vm := by
      have : s₂ = ({ s₂ with vm := (U.calling g mk a).vm } : State).setVm s₂.vm := rfl
      rw [e2] at this
      exact this
    obtain ⟨c₂, i₂, len₂, hc₂, hd₂, hf₂⟩ := hend
    have hW' : U.WarmedH s₂.vm := hW₂
    have hcc : c₂ = c := by
      have h1 : s₂.code? g.method = U.code? g.method := by
        rw [State.code?_eq, State.code?_eq, hW'.alike.method?]
      exact Option.some.inj (hc₂.symm.trans (h1.trans h.code))
    subst hcc
    have hlen : len₂ = len := by rw [hdg] at hd₂; cases hd₂; rfl
    subst hlen
    have hs₂ : s₂ = (({ U with heap := s₂.heap, slotsUsed := s₂.slotsUsed } : State).setVm s₂.vm).setTop { g with pc := g.pc + len₂, stack := v.toList ++ g.stack } := by
      refine e3.trans ?_
      rw [hf₂, State.calling_eq h.top, State.setFrames_setFrames, State.setTop_of_frames _ hr', hr]
      rfl
    have hsame : U.sameButNew ({ U with heap := s₂.heap, slotsUsed := s₂.slotsUsed } : State) L mc ms := by
      refine ⟨?_, q2, q3, q4, q5, q6⟩
      obtain ⟨t, ht, -⟩ := State.frames_cons hr
      show ({ U with heap := s₂.heap, slotsUsed := s₂.slotsUsed } : State) = { U.setFrames U.frames with heap := s₂.heap, slotsUsed := s₂.slotsUsed }
      rw [State.setFrames_self ht]
    subst hg
    refine Or.inl ⟨v, ⟨(({ U with heap := s₂.heap, slotsUsed := s₂.slotsUsed } : State).setVm s₂.vm), Ls ++ L, c0 + mc, s0 + ms⟩,
      ⟨X.admits, X.cas, X.clock, X.frames, X.room, X.hears, X.method, X.code, (X.here.setHeapUsed s₂.heap s₂.slotsUsed).setVm hW'.alike, X.tail, State.WarmedH.trans X.warmed hW', X.limits, X.bytes, X.same.trans (hsame.setVm s.vm)⟩,
      ⟨g, mk, s₂, L, rfl, rfl, hqc, rfl, hL, rfl, rfl⟩, ?_⟩
    show Steps p.tables e below _ ((({ U with heap := s₂.heap, slotsUsed := s₂.slotsUsed } : State).setVm s₂.vm).setTop { g with pc := g.pc + len₂, stack := v.toList ++ g.stack })
    rw [← hs₂]
    exact hsteps
  · obtain ⟨e2, q2, q3, q4, q5, q6⟩ := id hsm
    have e3 : s₂ = ({ (U.calling g mk a).setFrames s₂.frames with heap := s₂.heap, slotsUsed := s₂.slotsUsed } : State).setVm s₂.vm := by
      have : s₂ = ({ s₂ with vm := (U.calling g mk a).vm } : State).setVm s₂.vm := rfl
      rw [e2] at this
      exact this
    have hf₂ : s₂.frames = .throwing q :: .java g :: U.frames.tail := hend
    have hW' : U.WarmedH s₂.vm := hW₂
    have hs₂ : s₂ = ((({ U with heap := s₂.heap, slotsUsed := s₂.slotsUsed } : State).setVm s₂.vm).setTop g).pushFrame (.throwing q) := by
      refine e3.trans ?_
      rw [hf₂, State.calling_eq h.top, State.setFrames_setFrames, State.pushFrame, State.frames_setTop _ hr', State.setTop_of_frames _ hr', State.setFrames_setFrames, hr]
      rfl
    have hsame : U.sameButNew ({ U with heap := s₂.heap, slotsUsed := s₂.slotsUsed } : State) L mc ms := by
      refine ⟨?_, q2, q3, q4, q5, q6⟩
      obtain ⟨t, ht, -⟩ := State.frames_cons hr
      show ({ U with heap := s₂.heap, slotsUsed := s₂.slotsUsed } : State) = { U.setFrames U.frames with heap := s₂.heap, slotsUsed := s₂.slotsUsed }
      rw [State.setFrames_self ht]
    subst hg
    refine Or.inr ⟨q, ⟨(({ U with heap := s₂.heap, slotsUsed := s₂.slotsUsed } : State).setVm s₂.vm), Ls ++ L, c0 + mc, s0 + ms⟩,
      ⟨X.admits, X.cas, X.clock, X.frames, X.room, X.hears, X.method, X.code, (X.here.setHeapUsed s₂.heap s₂.slotsUsed).setVm hW'.alike, X.tail, State.WarmedH.trans X.warmed hW', X.limits, X.bytes, X.same.trans (hsame.setVm s.vm)⟩,
      ⟨g, mk, s₂, L, E, ce, rfl, rfl, hx, hce, hcv, hcl, rfl, hL, rfl, rfl⟩, ?_⟩
    show Steps p.tables e below _ (((({ U with heap := s₂.heap, slotsUsed := s₂.slotsUsed } : State).setVm s₂.vm).setTop g).pushFrame (.throwing q))
    rw [← hs₂]
    exact hsteps
end Payer
section Calls
variable {p : Program} {l : Launch} {e : Env} {R : Room} {s : State} {m : MethodId} {args : Array Value} {below : List Frame} {meth : Method} {c : Code} {T : State} {locs : List Loc} {cells slots : Nat}
theorem vx_callV (X : Stand p l e R s m args below meth c T locs cells slots) (hexec : p.tables.exec = Jvm.exec) {own C : String} {index : Nat} {y : MethodName} {bytes : ByteArray} {maxL : Nat} {ret : Option FieldType}
    (hown : s.vm.findClass own = some m.cls) (hlink : (Cond.methodLink own index y).before args s = true) (hinst : (Cond.instanceMethod y).before args s = true) (hsel : (Cond.selects C y y).before args s = true)
    (hcode : (Cond.code y bytes maxL ret).before args s = true) (hy : y.cls ≠ "java/lang/invoke/MethodHandle" ∧ y.cls ≠ "java/lang/invoke/VarHandle")
    {W9 : Nat} {Pre : Pt → Array Value → Prop} {Post : Pt → Array Value → Option Value → Pt → Prop} {PostX : Pt → Array Value → Addr → Pt → Prop} (hK : vx_Back l R p e below s args y 3 W9 Pre Post PostX)
    {b : Addr} {cellB : Cell} (hcell : T.heap[b]? = some cellB) (hobj : cellB.vm.isStatics = false) (hcls : s.vm.findClass C = some cellB.cls)
    {g : JFrame} (hg : g.method = m) (hsize : g.locals.size = c.maxLocals) {argsL rest : List Value} (hlen : ∀ sig, parseMethodDescriptor y.desc = some sig → argsL.length = sig.parameters.length)
    (hstack : g.stack = argsL.reverse ++ .ref b :: rest) (hW : 2 * g.monitorRoom + (rest.map fun v => v.category).sum ≤ W9) (hdg : decode c.code g.pc = .ok (.invokevirtual index, 3))
    (hpre : ∀ vm₁, s.WarmedH vm₁ → Pre ⟨T.setVm vm₁, locs, cells, slots⟩ (Value.ref b :: argsL).toArray) :
    (∃ (v : Option Value) (vm₁ : Vm) (B : Pt), s.WarmedH vm₁ ∧ Stand p l e R s m args below meth c B.U B.locs B.cells B.slots ∧ Post ⟨T.setVm vm₁, locs, cells, slots⟩ (Value.ref b :: argsL).toArray v B ∧
      ∀ target, Steps p.tables e below (B.U.setTop { g with pc := g.pc + 3, stack := v.toList ++ rest }) target → Steps p.tables e below (T.setTop g) target) ∨
    (∃ (q : Addr) (vm₁ : Vm) (B : Pt), s.WarmedH vm₁ ∧ Stand p l e R s m args below meth c B.U B.locs B.cells B.slots ∧ PostX ⟨T.setVm vm₁, locs, cells, slots⟩ (Value.ref b :: argsL).toArray q B ∧
      Steps p.tables e below (T.setTop g) ((B.U.setTop { g with stack := rest }).pushFrame (.throwing q))) := by
  obtain ⟨mk, methM, hnamed, hmethM, hstM, habM⟩ := Cond.instanceMethod_spec hinst
  obtain ⟨methM', cM, hmethM', -, -, -, -, -, -, hsigM⟩ := Cond.code_spec hnamed hcode
  cases hmethM.symm.trans hmethM'
  obtain ⟨c2, r2, m2, q1, q2, q3, q4, kP, hkP, hkPi⟩ := Cond.selects_spec hsel
  cases hcls.symm.trans q1
  cases (State.methodFound?_of_named hnamed hy).symm.trans q2
  cases hnamed.symm.trans q3
  have hselP : selectMethod e.platform s.vm cellB.cls mk = .method mk := by rw [Launch.admits_selectMethod X.admits]; exact q4
  obtain ⟨vm₁, X₁, hstep₁⟩ := X.invokevirtual hexec hown hlink hnamed hmethM hstM hkP hkPi hy (a := b) (cell := cellB) hcell
    (fun z h => by rw [h] at hobj; cases hobj) hselP hmethM habM hkP hkPi (g := g) hg (argsL := argsL) (rest := rest) (hlen _ hsigM) hstack hdg
  rcases hK m meth c ⟨T.setVm vm₁, locs, cells, slots⟩ { g with stack := rest } (.invokevirtual index) mk (Value.ref b :: argsL).toArray X₁ hg hsize hdg hW (X₁.named hnamed) (hpre vm₁ X₁.warmed) with ⟨v, B, X', hpost, hsteps⟩ | ⟨q, B, X', hpost, hsteps⟩
  · exact Or.inl ⟨v, vm₁, B, X₁.warmed, X', hpost, fun target h => hstep₁ _ fun acts => by rw [doInvoke_state]; exact hsteps.trans h⟩
  · exact Or.inr ⟨q, vm₁, B, X₁.warmed, X', hpost, hstep₁ _ fun acts => by rw [doInvoke_state]; exact hsteps⟩
theorem vx_callS (X : Stand p l e R s m args below meth c T locs cells slots) (hexec : p.tables.exec = Jvm.exec) {own : String} {index : Nat} {y : MethodName} {bytes : ByteArray} {maxL : Nat} {ret : Option FieldType}
    (hown : s.vm.findClass own = some m.cls) (hlink : (Cond.methodLink own index y).before args s = true) (hstat : (Cond.static y).before args s = true) (hinit : (Cond.initialized y.cls).before args s = true)
    (hcode : (Cond.code y bytes maxL ret).before args s = true) (hy : y.cls ≠ "java/lang/invoke/MethodHandle" ∧ y.cls ≠ "java/lang/invoke/VarHandle")
    {W9 : Nat} {Pre : Pt → Array Value → Prop} {Post : Pt → Array Value → Option Value → Pt → Prop} {PostX : Pt → Array Value → Addr → Pt → Prop} (hK : vx_Back l R p e below s args y 3 W9 Pre Post PostX)
    {g : JFrame} (hg : g.method = m) (hsize : g.locals.size = c.maxLocals) {argsL rest : List Value} (hlen : ∀ sig, parseMethodDescriptor y.desc = some sig → argsL.length = sig.parameters.length)
    (hstack : g.stack = argsL.reverse ++ rest) (hW : 2 * g.monitorRoom + (rest.map fun v => v.category).sum ≤ W9) (hdg : decode c.code g.pc = .ok (.invokestatic index, 3))
    (hpre : ∀ vm₁, s.WarmedH vm₁ → Pre ⟨T.setVm vm₁, locs, cells, slots⟩ argsL.toArray) :
    (∃ (v : Option Value) (vm₁ : Vm) (B : Pt), s.WarmedH vm₁ ∧ Stand p l e R s m args below meth c B.U B.locs B.cells B.slots ∧ Post ⟨T.setVm vm₁, locs, cells, slots⟩ argsL.toArray v B ∧
      ∀ target, Steps p.tables e below (B.U.setTop { g with pc := g.pc + 3, stack := v.toList ++ rest }) target → Steps p.tables e below (T.setTop g) target) ∨
    (∃ (q : Addr) (vm₁ : Vm) (B : Pt), s.WarmedH vm₁ ∧ Stand p l e R s m args below meth c B.U B.locs B.cells B.slots ∧ PostX ⟨T.setVm vm₁, locs, cells, slots⟩ argsL.toArray q B ∧
      Steps p.tables e below (T.setTop g) ((B.U.setTop { g with stack := rest }).pushFrame (.throwing q))) := by
  obtain ⟨mk, hnamed⟩ := Cond.code_named hcode
  obtain ⟨methM, cM, hmethM, -, -, -, -, -, -, hsigM⟩ := Cond.code_spec hnamed hcode
  have hstatic : methM.isStatic = true := Cond.static_spec hnamed hmethM hstat
  obtain ⟨kP, hkP, -⟩ := className_of_methodNamed hnamed
  have hinitP : kP.init = .initialized := Cond.initialized_spec (findClass_of_methodNamed hnamed) hkP hinit
  obtain ⟨vm₁, X₁, hstep₁⟩ := X.invokestatic hexec hown hlink hnamed hmethM hstatic hkP hinitP hy (g := g) hg (argsL := argsL) (rest := rest) (hlen _ hsigM) hstack hdg
  rcases hK m meth c ⟨T.setVm vm₁, locs, cells, slots⟩ { g with stack := rest } (.invokestatic index) mk argsL.toArray X₁ hg hsize hdg hW (X₁.named hnamed) (hpre vm₁ X₁.warmed) with ⟨v, B, X', hpost, hsteps⟩ | ⟨q, B, X', hpost, hsteps⟩
  · exact Or.inl ⟨v, vm₁, B, X₁.warmed, X', hpost, fun target h => hstep₁ _ fun acts => by rw [doInvoke_state]; exact hsteps.trans h⟩
  · exact Or.inr ⟨q, vm₁, B, X₁.warmed, X', hpost, hstep₁ _ fun acts => by rw [doInvoke_state]; exact hsteps⟩
end Calls
theorem vx_cls {s : State} {T : State} {vm₁ : Vm} {E : String} {k : ClassId} (hW : s.WarmedH vm₁) (h : (T.setVm vm₁).vm.findClass E = some k) : s.vm.findClass E = some k := by
  have h1 : vm₁.findClass E = some k := h
  rw [hW.alike.findClass] at h1
  exact h1
/-- the method's frame g, with q thrown over it -/
def vx_W (p : Program) (l : Launch) (e : Env) (R : Room) (s : State) (m : MethodId) (args : Array Value) (below : List Frame) (meth : Method) (c : Code) (H : Heap) (locs : List Loc) (cells slots : Nat) (Q : State → Prop) (g : JFrame) (q : Addr) : Prop :=
  ∀ T : State, T.heap = H → Stand p l e R s m args below meth c T locs cells slots → ∃ t, Steps p.tables e below ((T.setTop g).pushFrame (.throwing q)) t ∧ Q t
def vx_Run (p : Program) (l : Launch) (e : Env) (R : Room) (s : State) (m : MethodId) (args : Array Value) (below : List Frame) (meth : Method) (c : Code) (H : Heap) (locs : List Loc) (cells slots mc ms : Nat) (g : JFrame) (rest : List Value) (Qa : State → Outcome → State → Prop) (XC : String → State → State → Prop) (free : Addr → Prop) : Prop :=
  ∀ T : State, T.heap = H → Stand p l e R s m args below meth c T locs cells slots →
    (∃ (v : Option Value) (st₀ t T' : State) (L : List Loc), st₀.heap = H ∧ Stand p l e R s m args below meth c T' (locs ++ L) (cells + mc) (slots + ms) ∧ (∀ q ∈ L, free q.base) ∧ T'.heap = t.heap ∧ T'.vm = t.vm ∧ Qa st₀ (.returned v) t ∧
      Goes p e below T g T' { g with pc := g.pc + 3, stack := v.toList ++ rest }) ∨
    (∃ (q : Addr) (st₀ t T' : State) (L : List Loc) (E : String) (ce : Cell), st₀.heap = H ∧ Stand p l e R s m args below meth c T' (locs ++ L) (cells + mc) (slots + ms) ∧ (∀ z ∈ L, free z.base) ∧ T'.heap = t.heap ∧ T'.vm = t.vm ∧ XC E st₀ t ∧ t.heap[q]? = some ce ∧ ce.vm = .none ∧ s.vm.findClass E = some ce.cls ∧
      Steps p.tables e below (T.setTop g) ((T'.setTop { g with stack := rest }).pushFrame (.throwing q)))
def vx_X {S : Type} (px : S → Prop) (B : String → S → State → Prop) (A : Nat → Prop) : String → State → State → Prop := fun E st t => ∃ u : S, px u ∧ B E u t ∧ va_F A st t
section Runs
variable {p : Program} {l : Launch} {e : Env} {R : Room} {s : State} {m : MethodId} {args : Array Value} {below : List Frame} {meth : Method} {c : Code} {H : Heap} {locs : List Loc} {cells slots : Nat}
variable {y : MethodName} {bytes cc : ByteArray} {maxL nL mc ms n index : Nat} {ret : Option FieldType} {ws : List Cond} {rm : Room} {Pc : Array Value → State → Prop} {Qc : Array Value → State → Outcome → State → Prop} {XC : String → State → State → Prop} {free : Addr → Prop} {Ts : List Cond} {own C : String} {b : Addr} {As rest : List Value} {g : JFrame}
theorem vx_callBack (cb : CallB R s args own index y bytes maxL ret ws rm mc ms n) (hM : vx_Met l y ws rm Pc Qc XC mc ms free) (hbl : FrameBlind Pc) : vx_Back l R p e below s args y 3 8 (PreOf R mc ms Pc) (PostOf Qc mc ms free) (vx_Post XC mc ms free) := by
  obtain ⟨hrc, hrs, hfr, hlo, hws, hcw, -, hini, -⟩ := cb
  exact vx_back (bytes := bytes) (maxL := maxL) (ret := ret) hM hbl hrc hrs hfr hlo hws hcw (fun a' U hW => word_at hW (Or.inl (by first | rfl | simp [Cond.onTables, Cond.keeps, Cond.steady])) hini)
theorem vx_runV (S : CallFix p m c cc nL s args Ts own) (hM : vx_Met l y ws rm Pc Qc XC mc ms free) (cw : CallW R s args own C index y bytes maxL ret ws rm mc ms n) (hp : PreV s H C b Pc As)
    (hg : g.method = m) (hn : As.length = n) (hsize : g.locals.size = nL) (hstack : g.stack = As.reverse ++ .ref b :: rest) (hW : 2 * g.monitorRoom + (rest.map fun v => v.category).sum ≤ 8) (hdg : decode cc g.pc = .ok (.invokevirtual index, 3)) (hf : cells + mc ≤ R.cells ∧ slots + ms ≤ R.slots) :
    vx_Run p l e R s m args below meth c H locs cells slots mc ms g rest (Qc (Value.ref b :: As).toArray) XC free := by
  have hK : vx_Back l R p e below s args y 3 8 (PreOf R mc ms Pc) (PostOf Qc mc ms free) (vx_Post XC mc ms free) := vx_callBack cw.1 hM hp.1
  obtain ⟨⟨-, -, -, -, -, -, hcode, -, hy, hlen, hl⟩, hin, hse⟩ := cw
  obtain ⟨hx, hb, hml, ho, -⟩ := S
  obtain ⟨-, ⟨cellB, hcB, hoB, hclB⟩, hPc⟩ := hp
  intro T hT X
  rcases vx_callV X hx (C := C) (bytes := bytes) (maxL := maxL) (ret := ret) ho hl hin hse hcode hy hK (by rw [hT]; exact hcB) hoB hclB hg (hsize.trans hml.symm) (argsL := As) (rest := rest) (fun sig h => hn.trans (hlen sig h)) hstack hW (by rw [hb]; exact hdg)
    (fun vm₁ hW₁ => ⟨hf.1, hf.2, hPc (T.setVm vm₁) hT hW₁⟩) with ⟨v, vm₁, ⟨U', l2, c2, s2⟩, hW₁, X', ⟨g', mk, t, L, e1, e2, hq, h1, hL, h2, h3⟩, st⟩ | ⟨q, vm₁, ⟨U', l2, c2, s2⟩, hW₁, X', ⟨g', mk, t, L, E, ce, e1, e2, hq, hce, hcv, hcl, h1, hL, h2, h3⟩, st⟩
  · dsimp only [Pt.U, Pt.locs, Pt.cells, Pt.slots] at X' e1 e2 h1 h2 h3 st
    subst h1; subst h2; subst h3
    exact Or.inl ⟨v, (T.setVm vm₁).calling g' mk (Value.ref b :: As).toArray, t, U', L, hT, X', hL, e1, e2, hq, st⟩
  · dsimp only [Pt.U, Pt.locs, Pt.cells, Pt.slots] at X' e1 e2 h1 h2 h3 st hcl
    subst h1; subst h2; subst h3
    exact Or.inr ⟨q, (T.setVm vm₁).calling g' mk (Value.ref b :: As).toArray, t, U', L, E, ce, hT, X', hL, e1, e2, hq, hce, hcv, vx_cls hW₁ hcl, st⟩
theorem vx_runS (S : CallFix p m c cc nL s args Ts own) (hM : vx_Met l y ws rm Pc Qc XC mc ms free) (cw : CallB R s args own index y bytes maxL ret ws rm mc ms n ∧ (Cond.static y).before args s = true) (hp : PreS s H Pc As)
    (hg : g.method = m) (hn : As.length = n) (hsize : g.locals.size = nL) (hstack : g.stack = As.reverse ++ rest) (hW : 2 * g.monitorRoom + (rest.map fun v => v.category).sum ≤ 8) (hdg : decode cc g.pc = .ok (.invokestatic index, 3)) (hf : cells + mc ≤ R.cells ∧ slots + ms ≤ R.slots) :
    vx_Run p l e R s m args below meth c H locs cells slots mc ms g rest (Qc As.toArray) XC free := by
  have hK : vx_Back l R p e below s args y 3 8 (PreOf R mc ms Pc) (PostOf Qc mc ms free) (vx_Post XC mc ms free) := vx_callBack cw.1 hM hp.1
  obtain ⟨⟨-, -, -, -, -, -, hcode, hini, hy, hlen, hl⟩, hstt⟩ := cw
  obtain ⟨hx, hb, hml, ho, -⟩ := S
  intro T hT X
  rcases vx_callS X hx (bytes := bytes) (maxL := maxL) (ret := ret) ho hl hstt hini hcode hy hK hg (hsize.trans hml.symm) (argsL := As) (rest := rest) (fun sig h => hn.trans (hlen sig h)) hstack hW (by rw [hb]; exact hdg)
    (fun vm₁ hW₁ => ⟨hf.1, hf.2, hp.2 (T.setVm vm₁) hT hW₁⟩) with ⟨v, vm₁, ⟨U', l2, c2, s2⟩, hW₁, X', ⟨g', mk, t, L, e1, e2, hq, h1, hL, h2, h3⟩, st⟩ | ⟨q, vm₁, ⟨U', l2, c2, s2⟩, hW₁, X', ⟨g', mk, t, L, E, ce, e1, e2, hq, hce, hcv, hcl, h1, hL, h2, h3⟩, st⟩
  · dsimp only [Pt.U, Pt.locs, Pt.cells, Pt.slots] at X' e1 e2 h1 h2 h3 st
    subst h1; subst h2; subst h3
    exact Or.inl ⟨v, (T.setVm vm₁).calling g' mk As.toArray, t, U', L, hT, X', hL, e1, e2, hq, st⟩
  · dsimp only [Pt.U, Pt.locs, Pt.cells, Pt.slots] at X' e1 e2 h1 h2 h3 st hcl
    subst h1; subst h2; subst h3
    exact Or.inr ⟨q, (T.setVm vm₁).calling g' mk As.toArray, t, U', L, E, ce, hT, X', hL, e1, e2, hq, hce, hcv, vx_cls hW₁ hcl, st⟩
end Runs
section Rows
variable {p : Program} {l : Launch} {e : Env} {R : Room} {s : State} {m : MethodId} {args : Array Value} {below : List Frame} {meth : Method} {c : Code} {H : Heap} {locs : List Loc} {cells slots : Nat} {Q : State → Prop}
variable {mc ms : Nat} {free : Addr → Prop} {A0 A1 : Nat → Prop} {H0 : Heap} {a : Array Value} {pc : Nat} {ls : Array Slot} {st0 rest : List Value}
theorem vx_keep {st₀ t T' : State} {L : List Loc} (h0 : st₀.heap = H) (e1 : T'.heap = t.heap) (hS : va_S A0 H0 H locs) (hA : ∀ q, q < H.size → A1 q → A0 q) (hf : ∀ q, free q → A0 q) (hL : ∀ q ∈ L, free q.base) (hF : va_F A1 st₀ t) :
    H.size ≤ T'.heap.size ∧ (∀ q : Nat, q < H.size → ¬ A1 q → T'.heap[q]? = H[q]?) ∧ va_S A0 H0 T'.heap (locs ++ L) := by
  obtain ⟨hz, hk⟩ := hF
  rw [h0] at hz hk
  exact ⟨by rw [e1]; exact hz, fun q h1 h2 => by rw [e1]; exact hk q h1 h2,
    ⟨Nat.le_trans hS.1 (by rw [e1]; exact hz), fun q h1 h2 => by rw [e1, hk q (Nat.lt_of_lt_of_le h1 hS.1) (fun z => h2 (hA q (Nat.lt_of_lt_of_le h1 hS.1) z))]; exact hS.2.1 q h1 h2, fun q hq => by
      rcases List.mem_append.mp hq with h | h
      · exact hS.2.2 q h
      · exact hf _ (hL q h)⟩⟩
theorem vx_calli {S SX : Type} {post : Int32 → S → Prop} {px : SX → Prop} {B : S → State → Prop} {BX : String → SX → State → Prop} {AX : Nat → Prop} (hr : vx_Run p l e R s m args below meth c H locs cells slots mc ms (F0 m pc ls st0) rest (va_Qi post B A1 a) (vx_X px BX AX) free) (hS : va_S A0 H0 H locs) (hA : ∀ q, q < H.size → A1 q → A0 q) (hf : ∀ q, free q → A0 q) (hAX : ∀ q, q < H.size → AX q → A0 q)
    (kx : ∀ (E : String) (ce : Cell) (q9 : Addr) (u : SX) (t : State) (H1 : Heap) (locs1 : List Loc), t.heap = H1 → s.vm.Alike t.vm → px u → BX E u t → H.size ≤ H1.size → (∀ q : Nat, q < H.size → ¬ AX q → H1[q]? = H[q]?) → va_S A0 H0 H1 locs1 → H1[q9]? = some ce → ce.vm = .none → s.vm.findClass E = some ce.cls → vx_W p l e R s m args below meth c H1 locs1 (cells + mc) (slots + ms) Q (F0 m pc ls rest) q9)
    (kk : ∀ (r : Int32) (u : S) (t : State) (H1 : Heap) (locs1 : List Loc), t.heap = H1 → s.vm.Alike t.vm → post r u → B u t → H.size ≤ H1.size → (∀ q : Nat, q < H.size → ¬ A1 q → H1[q]? = H[q]?) → va_S A0 H0 H1 locs1 → W p l e R s m args below meth c H1 locs1 (cells + mc) (slots + ms) Q (F0 m (pc + 3) ls (.int r :: rest))) : W p l e R s m args below meth c H locs cells slots Q (F0 m pc ls st0) := by
  intro T hT X
  rcases hr T hT X with ⟨v, st₀, t, T', L, h0, X', hL, e1, e2, ⟨⟨r, u, hv, hp, hb⟩, hF⟩, st⟩ | ⟨q, st₀, t, T', L, E, ce, h0, X', hL, e1, e2, ⟨u, hp, hb, hF⟩, hce, hcv, hcl, st⟩
  · cases hv
    obtain ⟨k1, k2, k3⟩ := vx_keep h0 e1 hS hA hf hL hF
    obtain ⟨t2, a1, b1⟩ := kk r u t T'.heap (locs ++ L) e1.symm (by rw [← e2]; exact X'.warmed.alike) hp hb k1 k2 k3 T' rfl X'
    exact ⟨t2, st t2 a1, b1⟩
  · obtain ⟨k1, k2, k3⟩ := vx_keep h0 e1 hS hAX hf hL hF
    obtain ⟨t2, a1, b1⟩ := kx E ce q u t T'.heap (locs ++ L) e1.symm (by rw [← e2]; exact X'.warmed.alike) hp hb k1 k2 k3 (by rw [e1]; exact hce) hcv hcl T' rfl X'
    exact ⟨t2, st.trans a1, b1⟩
theorem vx_calll {S SX : Type} {post : Int64 → S → Prop} {px : SX → Prop} {B : S → State → Prop} {BX : String → SX → State → Prop} {AX : Nat → Prop} (hr : vx_Run p l e R s m args below meth c H locs cells slots mc ms (F0 m pc ls st0) rest (va_Ql post B A1 a) (vx_X px BX AX) free) (hS : va_S A0 H0 H locs) (hA : ∀ q, q < H.size → A1 q → A0 q) (hf : ∀ q, free q → A0 q) (hAX : ∀ q, q < H.size → AX q → A0 q)
    (kx : ∀ (E : String) (ce : Cell) (q9 : Addr) (u : SX) (t : State) (H1 : Heap) (locs1 : List Loc), t.heap = H1 → s.vm.Alike t.vm → px u → BX E u t → H.size ≤ H1.size → (∀ q : Nat, q < H.size → ¬ AX q → H1[q]? = H[q]?) → va_S A0 H0 H1 locs1 → H1[q9]? = some ce → ce.vm = .none → s.vm.findClass E = some ce.cls → vx_W p l e R s m args below meth c H1 locs1 (cells + mc) (slots + ms) Q (F0 m pc ls rest) q9)
    (kk : ∀ (r : Int64) (u : S) (t : State) (H1 : Heap) (locs1 : List Loc), t.heap = H1 → s.vm.Alike t.vm → post r u → B u t → H.size ≤ H1.size → (∀ q : Nat, q < H.size → ¬ A1 q → H1[q]? = H[q]?) → va_S A0 H0 H1 locs1 → W p l e R s m args below meth c H1 locs1 (cells + mc) (slots + ms) Q (F0 m (pc + 3) ls (.long r :: rest))) : W p l e R s m args below meth c H locs cells slots Q (F0 m pc ls st0) := by
  intro T hT X
  rcases hr T hT X with ⟨v, st₀, t, T', L, h0, X', hL, e1, e2, ⟨⟨r, u, hv, hp, hb⟩, hF⟩, st⟩ | ⟨q, st₀, t, T', L, E, ce, h0, X', hL, e1, e2, ⟨u, hp, hb, hF⟩, hce, hcv, hcl, st⟩
  · cases hv
    obtain ⟨k1, k2, k3⟩ := vx_keep h0 e1 hS hA hf hL hF
    obtain ⟨t2, a1, b1⟩ := kk r u t T'.heap (locs ++ L) e1.symm (by rw [← e2]; exact X'.warmed.alike) hp hb k1 k2 k3 T' rfl X'
    exact ⟨t2, st t2 a1, b1⟩
  · obtain ⟨k1, k2, k3⟩ := vx_keep h0 e1 hS hAX hf hL hF
    obtain ⟨t2, a1, b1⟩ := kx E ce q u t T'.heap (locs ++ L) e1.symm (by rw [← e2]; exact X'.warmed.alike) hp hb k1 k2 k3 (by rw [e1]; exact hce) hcv hcl T' rfl X'
    exact ⟨t2, st.trans a1, b1⟩
theorem vx_callf {S SX : Type} {post : UInt32 → S → Prop} {px : SX → Prop} {B : S → State → Prop} {BX : String → SX → State → Prop} {AX : Nat → Prop} (hr : vx_Run p l e R s m args below meth c H locs cells slots mc ms (F0 m pc ls st0) rest (va_Qf post B A1 a) (vx_X px BX AX) free) (hS : va_S A0 H0 H locs) (hA : ∀ q, q < H.size → A1 q → A0 q) (hf : ∀ q, free q → A0 q) (hAX : ∀ q, q < H.size → AX q → A0 q)
    (kx : ∀ (E : String) (ce : Cell) (q9 : Addr) (u : SX) (t : State) (H1 : Heap) (locs1 : List Loc), t.heap = H1 → s.vm.Alike t.vm → px u → BX E u t → H.size ≤ H1.size → (∀ q : Nat, q < H.size → ¬ AX q → H1[q]? = H[q]?) → va_S A0 H0 H1 locs1 → H1[q9]? = some ce → ce.vm = .none → s.vm.findClass E = some ce.cls → vx_W p l e R s m args below meth c H1 locs1 (cells + mc) (slots + ms) Q (F0 m pc ls rest) q9)
    (kk : ∀ (r : UInt32) (u : S) (t : State) (H1 : Heap) (locs1 : List Loc), t.heap = H1 → s.vm.Alike t.vm → post r u → B u t → H.size ≤ H1.size → (∀ q : Nat, q < H.size → ¬ A1 q → H1[q]? = H[q]?) → va_S A0 H0 H1 locs1 → W p l e R s m args below meth c H1 locs1 (cells + mc) (slots + ms) Q (F0 m (pc + 3) ls (.float r :: rest))) : W p l e R s m args below meth c H locs cells slots Q (F0 m pc ls st0) := by
  intro T hT X
  rcases hr T hT X with ⟨v, st₀, t, T', L, h0, X', hL, e1, e2, ⟨⟨r, u, hv, hp, hb⟩, hF⟩, st⟩ | ⟨q, st₀, t, T', L, E, ce, h0, X', hL, e1, e2, ⟨u, hp, hb, hF⟩, hce, hcv, hcl, st⟩
  · cases hv
    obtain ⟨k1, k2, k3⟩ := vx_keep h0 e1 hS hA hf hL hF
    obtain ⟨t2, a1, b1⟩ := kk r u t T'.heap (locs ++ L) e1.symm (by rw [← e2]; exact X'.warmed.alike) hp hb k1 k2 k3 T' rfl X'
    exact ⟨t2, st t2 a1, b1⟩
  · obtain ⟨k1, k2, k3⟩ := vx_keep h0 e1 hS hAX hf hL hF
    obtain ⟨t2, a1, b1⟩ := kx E ce q u t T'.heap (locs ++ L) e1.symm (by rw [← e2]; exact X'.warmed.alike) hp hb k1 k2 k3 (by rw [e1]; exact hce) hcv hcl T' rfl X'
    exact ⟨t2, st.trans a1, b1⟩
theorem vx_calld {S SX : Type} {post : UInt64 → S → Prop} {px : SX → Prop} {B : S → State → Prop} {BX : String → SX → State → Prop} {AX : Nat → Prop} (hr : vx_Run p l e R s m args below meth c H locs cells slots mc ms (F0 m pc ls st0) rest (va_Qd post B A1 a) (vx_X px BX AX) free) (hS : va_S A0 H0 H locs) (hA : ∀ q, q < H.size → A1 q → A0 q) (hf : ∀ q, free q → A0 q) (hAX : ∀ q, q < H.size → AX q → A0 q)
    (kx : ∀ (E : String) (ce : Cell) (q9 : Addr) (u : SX) (t : State) (H1 : Heap) (locs1 : List Loc), t.heap = H1 → s.vm.Alike t.vm → px u → BX E u t → H.size ≤ H1.size → (∀ q : Nat, q < H.size → ¬ AX q → H1[q]? = H[q]?) → va_S A0 H0 H1 locs1 → H1[q9]? = some ce → ce.vm = .none → s.vm.findClass E = some ce.cls → vx_W p l e R s m args below meth c H1 locs1 (cells + mc) (slots + ms) Q (F0 m pc ls rest) q9)
    (kk : ∀ (r : UInt64) (u : S) (t : State) (H1 : Heap) (locs1 : List Loc), t.heap = H1 → s.vm.Alike t.vm → post r u → B u t → H.size ≤ H1.size → (∀ q : Nat, q < H.size → ¬ A1 q → H1[q]? = H[q]?) → va_S A0 H0 H1 locs1 → W p l e R s m args below meth c H1 locs1 (cells + mc) (slots + ms) Q (F0 m (pc + 3) ls (.double r :: rest))) : W p l e R s m args below meth c H locs cells slots Q (F0 m pc ls st0) := by
  intro T hT X
  rcases hr T hT X with ⟨v, st₀, t, T', L, h0, X', hL, e1, e2, ⟨⟨r, u, hv, hp, hb⟩, hF⟩, st⟩ | ⟨q, st₀, t, T', L, E, ce, h0, X', hL, e1, e2, ⟨u, hp, hb, hF⟩, hce, hcv, hcl, st⟩
  · cases hv
    obtain ⟨k1, k2, k3⟩ := vx_keep h0 e1 hS hA hf hL hF
    obtain ⟨t2, a1, b1⟩ := kk r u t T'.heap (locs ++ L) e1.symm (by rw [← e2]; exact X'.warmed.alike) hp hb k1 k2 k3 T' rfl X'
    exact ⟨t2, st t2 a1, b1⟩
  · obtain ⟨k1, k2, k3⟩ := vx_keep h0 e1 hS hAX hf hL hF
    obtain ⟨t2, a1, b1⟩ := kx E ce q u t T'.heap (locs ++ L) e1.symm (by rw [← e2]; exact X'.warmed.alike) hp hb k1 k2 k3 (by rw [e1]; exact hce) hcv hcl T' rfl X'
    exact ⟨t2, st.trans a1, b1⟩
theorem vx_callv {S SX : Type} {post : S → Prop} {px : SX → Prop} {B : S → State → Prop} {BX : String → SX → State → Prop} {AX : Nat → Prop} (hr : vx_Run p l e R s m args below meth c H locs cells slots mc ms (F0 m pc ls st0) rest (va_Qv post B A1 a) (vx_X px BX AX) free) (hS : va_S A0 H0 H locs) (hA : ∀ q, q < H.size → A1 q → A0 q) (hf : ∀ q, free q → A0 q) (hAX : ∀ q, q < H.size → AX q → A0 q)
    (kx : ∀ (E : String) (ce : Cell) (q9 : Addr) (u : SX) (t : State) (H1 : Heap) (locs1 : List Loc), t.heap = H1 → s.vm.Alike t.vm → px u → BX E u t → H.size ≤ H1.size → (∀ q : Nat, q < H.size → ¬ AX q → H1[q]? = H[q]?) → va_S A0 H0 H1 locs1 → H1[q9]? = some ce → ce.vm = .none → s.vm.findClass E = some ce.cls → vx_W p l e R s m args below meth c H1 locs1 (cells + mc) (slots + ms) Q (F0 m pc ls rest) q9)
    (kk : ∀ (u : S) (t : State) (H1 : Heap) (locs1 : List Loc), t.heap = H1 → s.vm.Alike t.vm → post u → B u t → H.size ≤ H1.size → (∀ q : Nat, q < H.size → ¬ A1 q → H1[q]? = H[q]?) → va_S A0 H0 H1 locs1 → W p l e R s m args below meth c H1 locs1 (cells + mc) (slots + ms) Q (F0 m (pc + 3) ls (rest))) : W p l e R s m args below meth c H locs cells slots Q (F0 m pc ls st0) := by
  intro T hT X
  rcases hr T hT X with ⟨v, st₀, t, T', L, h0, X', hL, e1, e2, ⟨⟨u, hv, hp, hb⟩, hF⟩, st⟩ | ⟨q, st₀, t, T', L, E, ce, h0, X', hL, e1, e2, ⟨u, hp, hb, hF⟩, hce, hcv, hcl, st⟩
  · cases hv
    obtain ⟨k1, k2, k3⟩ := vx_keep h0 e1 hS hA hf hL hF
    obtain ⟨t2, a1, b1⟩ := kk u t T'.heap (locs ++ L) e1.symm (by rw [← e2]; exact X'.warmed.alike) hp hb k1 k2 k3 T' rfl X'
    exact ⟨t2, st t2 a1, b1⟩
  · obtain ⟨k1, k2, k3⟩ := vx_keep h0 e1 hS hAX hf hL hF
    obtain ⟨t2, a1, b1⟩ := kx E ce q u t T'.heap (locs ++ L) e1.symm (by rw [← e2]; exact X'.warmed.alike) hp hb k1 k2 k3 (by rw [e1]; exact hce) hcv hcl T' rfl X'
    exact ⟨t2, st.trans a1, b1⟩
/-- caught by the row x of this method's table; the rows ahead don't take it -/
theorem vx_catch {own name : String} {E : String} {ce : Cell} {q : Addr} (hown : s.vm.findClass own = some m.cls) (pre : List ExceptionTableEntry) (x : ExceptionTableEntry) (suf : List ExceptionTableEntry) (hsplit : c.exceptionTable.toList = pre ++ x :: suf)
    (hpass : ∀ z ∈ pre, covers z pc = false ∨ (z.catchType ≠ 0 ∧ ∃ nm : String, (Cond.classLink own z.catchType nm).before args s = true ∧ va_Nc E nm s)) (hx : covers x pc = true) (h0 : x.catchType ≠ 0)
    (hlink : (Cond.classLink own x.catchType name).before args s = true) (hcast : (Cond.castable E name).before args s = true) (hcell : H[q]? = some ce) (hv : ce.vm = .none) (hcl : s.vm.findClass E = some ce.cls)
    (kk : W p l e R s m args below meth c H locs cells slots Q (F0 m x.handlerPc ls [.ref q])) : vx_W p l e R s m args below meth c H locs cells slots Q (F0 m pc ls rest) q := by
  intro T hT X
  have hpl : e.platform.magicAccessors = ({} : Platform).magicAccessors := by rw [X.admits.platform]
  obtain ⟨c3, c4, hc3, hc4, hasg⟩ := Cond.castable_spec hcast
  cases Option.some.inj (hc3.symm.trans hcl)
  obtain ⟨c5, hc5, hcl5⟩ := Cond.classLink_spec hown hlink e.platform hpl
  cases Option.some.inj (hc4.symm.trans hc5)
  obtain ⟨vm', X', st⟩ := X.thenCaughtThrough q (g := F0 m pc ls rest) rfl (Steps.refl _) (by rw [hT]; exact hcell) (by rw [hv]; rfl) (by obtain ⟨k9, h9, -⟩ := Vm.findClass_spec hcl; exact ⟨k9, h9⟩) pre x suf hsplit
    (fun z hz => by
      rcases hpass z hz with h | ⟨hz0, nm, hl1, hn1⟩
      · exact Or.inl h
      · obtain ⟨c6, hc6, hcl6⟩ := Cond.classLink_spec hown hl1 e.platform hpl
        obtain ⟨a8, b8, h1, h2, h3⟩ := hn1
        cases Option.some.inj (h1.symm.trans hcl)
        cases Option.some.inj (h2.symm.trans hc6)
        exact Or.inr ⟨hz0, _, hcl6, h3⟩) hx (Or.inr ⟨h0, c4, hcl5, hasg⟩)
  obtain ⟨t, a1, b1⟩ := kk (T.setVm vm') hT X'
  exact ⟨t, st.trans a1, b1⟩
end Rows
section Ends
variable {p : Program} {l : Launch} {e : Env} {R : Room} {s : State} {m : MethodId} {args : Array Value} {below : List Frame} {meth : Method} {c : Code} {H : Heap} {locs : List Loc} {cells slots : Nat} {Q : State → Prop}
variable {mc ms : Nat} {free : Addr → Prop} {A0 A1 : Nat → Prop} {H0 : Heap} {a : Array Value} {ls : Array Slot} {st0 rest : List Value}
variable {Qc : Array Value → State → Outcome → State → Prop} {XC : String → State → State → Prop}
/-- what a body that may throw owes at its end -/
def vx_MQ (below : List Frame) (Qc : Array Value → State → Outcome → State → Prop) (XC : String → State → State → Prop) (a : Array Value) (s : State) (mc ms : Nat) (free : Addr → Prop) : State → Prop := fun t =>
  ∃ o, t.status = .running ∧ Ended t below o ∧ vx_Q Qc XC mc ms free a s o t
theorem vx_ret {g : JFrame} {mc ms : Nat} (k : W p l e R s m args below meth c H locs cells slots (MQ below Qc args s mc ms free) g) : W p l e R s m args below meth c H locs cells slots (vx_MQ below Qc XC args s mc ms free) g := by
  intro T hT X
  obtain ⟨t, a1, o, b1, b2, b3, b4⟩ := k T hT X
  exact ⟨t, a1, o, b1, b2, Or.inl ⟨b3, b4⟩⟩
/-- not caught here: it goes on to the caller -/
theorem vx_widen {g : JFrame} {q : Addr} {k n : Nat} (h1 : cells ≤ k) (h2 : slots ≤ n) (kk : vx_W p l e R s m args below meth c H locs k n Q g q) : vx_W p l e R s m args below meth c H locs cells slots Q g q := fun T hT X => kk T hT (stand_widen X h1 h2)
theorem vx_out {pc : Nat} {E : String} {ce : Cell} {q : Addr} {mc ms : Nat} (hout : ∀ x ∈ c.exceptionTable.toList, covers x pc = false) (hlocks : meth.locks = false) (hcell : H[q]? = some ce) (hv : ce.vm = .none) (hcl : s.vm.findClass E = some ce.cls)
    (hx : ∀ t : State, t.heap = H → s.vm.Alike t.vm → XC E s t) (hf : ∀ z ∈ locs, free z.base) (hc : cells ≤ mc) (hs : slots ≤ ms) :
    vx_W p l e R s m args below meth c H locs cells slots (vx_MQ below Qc XC args s mc ms free) (F0 m pc ls rest) q := by
  intro T hT X
  obtain ⟨st1, hrun, hend, hW, hsm⟩ := X.leaveThrown q (g := F0 m pc ls rest) rfl rfl rfl hout hlocks
  have hcell9 : (T.setFrames (.throwing q :: below)).heap[q]? = some ce := by
    show T.heap[q]? = some ce
    rw [hT]; exact hcell
  exact ⟨_, st1, .threw q, hrun, hend, Or.inr ⟨q, rfl, E, ce, locs, hx _ hT hW.alike, hcell9, hv, hcl, hW, hsm.mono hc hs, hf⟩⟩
theorem vx_frame {U : State} {k n : Nat} (h : s.sameButNew ({ U with vm := s.vm } : State) locs k n) : s.heap.size ≤ U.heap.size ∧ ∀ q : Nat, q < s.heap.size → (∀ z ∈ locs, z.base ≠ q) → U.heap[q]? = s.heap[q]? := by
  obtain ⟨-, h2, -, -, -, h6⟩ := h
  refine ⟨h2, fun q hq hz => ?_⟩
  obtain ⟨c9, e1, e2, e3, e4⟩ := h6 q _ (Array.getElem?_eq_getElem hq)
  have hs : c9.slots = (s.heap[q]).slots := Array.ext_getElem? fun i => e4 i fun hm => hz _ hm rfl
  have h9 : c9 = s.heap[q] := by
    rw [hs] at e2
    exact e2
  have e5 : U.heap[q]? = some c9 := e1
  rw [e5, h9, Array.getElem?_eq_getElem hq]
/-- the words of a throw but the four that speak of the heap -/
def vx_no (w : Cond) : Bool := decide (w ≠ .isRef (.static Bundle.tN "UNASSIGNED_STACK" Bundle.steD)) && decide (w ≠ .isRef (.static Bundle.tN "SUPPRESSED_SENTINEL" Bundle.listD)) && decide (w ≠ .laysStatic Bundle.tN "UNASSIGNED_STACK" Bundle.steD) && decide (w ≠ .laysStatic Bundle.tN "SUPPRESSED_SENTINEL" Bundle.listD)
def vx_at0 (own : String) (ic : Nat) (X : String) (names : List String) : List Cond := (Bundle.ownAtoms0 own ic X names).filter vx_no
def vx_atS (own : String) (ic : Nat) (X : String) (names : List String) : List Cond := (Bundle.ownAtoms own ic X names).filter vx_no
/-- a word that the tables alone decide, or a good one -/
def vx_ot (w : Cond) : Bool := w.onTables || goodWord w
theorem vx_ot_at {args a' : Array Value} {s U : State} {w : Cond} (hW : s.WarmedH U.vm) (hvm : s.vm = U.vm) (hg : vx_ot w = true) (h : w.before args s = true) : w.before a' U = true := by
  simp only [vx_ot, Bool.or_eq_true] at hg
  rcases hg with hg | hg
  · exact va_tabs hg hvm h
  · exact word_at hW (good_of_word hg) h
/-- a list's words: the good ones out of the method's own list, the others by premises of their own -/
theorem vx_hat {args : Array Value} {s : State} {L B : List Cond} (h1 : ∀ w ∈ L.filter goodWord, w.before args s = true) (h2 : ∀ w ∈ L.filter (fun w => !goodWord w), w ∈ B) (h3 : ∀ w ∈ B, w.before args s = true) : ∀ w ∈ L, w.before args s = true := by
  intro w hw
  by_cases g : goodWord w = true
  · exact h1 w (List.mem_filter.mpr ⟨hw, g⟩)
  · refine h3 w (h2 w (List.mem_filter.mpr ⟨hw, ?_⟩))
    show (!goodWord w) = true
    cases hgw : goodWord w
    · rfl
    · exact absurd hgw g
theorem vx_c {args : Array Value} {s : State} {w : Cond} {B : List Cond} (h : w.before args s = true) (t : ∀ w ∈ B, w.before args s = true) : ∀ w' ∈ w :: B, w'.before args s = true := fun w' h' => (List.mem_cons.mp h').elim (fun e => by rw [e]; exact h) (t w')
theorem vx_n {args : Array Value} {s : State} : ∀ w ∈ ([] : List Cond), w.before args s = true := fun _ h => nomatch h
theorem vx_own {args : Array Value} {s : State} {L : List Cond} (h1 : ∀ w ∈ L.filter vx_no, w.before args s = true)
    (hU : (Cond.isRef (.static Bundle.tN "UNASSIGNED_STACK" Bundle.steD)).before args s = true) (hN : (Cond.isRef (.static Bundle.tN "SUPPRESSED_SENTINEL" Bundle.listD)).before args s = true)
    (lU : (Cond.laysStatic Bundle.tN "UNASSIGNED_STACK" Bundle.steD).before args s = true) (lN : (Cond.laysStatic Bundle.tN "SUPPRESSED_SENTINEL" Bundle.listD).before args s = true) : ∀ w ∈ L, w.before args s = true := by
  intro w hw
  by_cases e1 : w = .isRef (.static Bundle.tN "UNASSIGNED_STACK" Bundle.steD)
  · rw [e1]; exact hU
  · by_cases e2 : w = .isRef (.static Bundle.tN "SUPPRESSED_SENTINEL" Bundle.listD)
    · rw [e2]; exact hN
    · by_cases e3 : w = .laysStatic Bundle.tN "UNASSIGNED_STACK" Bundle.steD
      · rw [e3]; exact lU
      · by_cases e4 : w = .laysStatic Bundle.tN "SUPPRESSED_SENTINEL" Bundle.listD
        · rw [e4]; exact lN
        · exact h1 w (List.mem_filter.mpr ⟨hw, by unfold vx_no; rw [decide_eq_true e1, decide_eq_true e2, decide_eq_true e3, decide_eq_true e4]; rfl⟩)
/-- where a static field lies, its class's statics cell in H -/
def vx_L (C n d : String) (A : Nat → Prop) (U : State) (H : Heap) : Prop := ∃ (c : ClassId) (k : Class) (i : Nat) (f : Field) (a : Nat) (cell : Cell), U.vm.findClass C = some c ∧ U.fieldFound? C n d = some (c, k, i, f) ∧ f.isStatic = true ∧ k.statics = some a ∧ H[a]? = some cell ∧ cell.vm.isStatics = true ∧ cell.cls = c ∧ f.slot < cell.slots.size ∧ k.staticTypes[f.slot]? = some f.type ∧ ¬ A a
theorem vx_L.moved {C n d : String} {A : Nat → Prop} {u U : State} {H : Heap} (hvm : u.vm.Alike U.vm) (h : vx_L C n d A u H) : vx_L C n d A U H := by
  obtain ⟨c, k, i, f, a, cell, h1, h2, h3, h4, h5, h6, h7, h8, h9, h10⟩ := h
  obtain ⟨k', hi', he⟩ := State.fieldFound?_setVm hvm h2
  exact ⟨c, k', i, f, a, cell, by rw [hvm.findClass]; exact h1, hi', h3, by rw [he]; exact h4, h5, h6, h7, h8, by rw [he]; exact h9, h10⟩
theorem vx_L.kept {C n d : String} {A : Nat → Prop} {U : State} {H H1 : Heap} (h : vx_L C n d A U H) (hq : ∀ a : Nat, a < H.size → ¬ A a → H1[a]? = H[a]?) : vx_L C n d A U H1 := by
  obtain ⟨c, k, i, f, a, cell, h1, h2, h3, h4, h5, h6, h7, h8, h9, h10⟩ := h
  exact ⟨c, k, i, f, a, cell, h1, h2, h3, h4, by rw [hq a (Array.getElem?_eq_some_iff.mp h5).1 h10]; exact h5, h6, h7, h8, h9, h10⟩
theorem vx_L.narrow {C n d : String} {A B : Nat → Prop} {U : State} {H : Heap} (h : vx_L C n d A U H) (hAB : ∀ q, B q → A q) : vx_L C n d B U H := by
  obtain ⟨c, k, i, f, a, cell, h1, h2, h3, h4, h5, h6, h7, h8, h9, h10⟩ := h
  exact ⟨c, k, i, f, a, cell, h1, h2, h3, h4, h5, h6, h7, h8, h9, fun z => h10 (hAB _ z)⟩
theorem vx_L.word {C n d : String} {A : Nat → Prop} {s : State} {args : Array Value} (h : vx_L C n d A s s.heap) : (Cond.laysStatic C n d).before args s = true := by
  obtain ⟨c, k, i, f, a, cell, h1, h2, h3, h4, h5, h6, h7, h8, h9, -⟩ := h
  show (Cond.laysStatic C n d).holds args s none s [] = true
  exact Cond.laysStatic_of h1 h2 h3 h4 h5 h6 h7 h8 h9
/-- .. and what it holds: null or some reference -/
def vx_Zq (C n d : String) (A : Nat → Prop) (U : State) (H : Heap) : Prop := va_Zq C n d A U H ∧ vx_L C n d A U H
theorem vx_Zq.moved {C n d : String} {A : Nat → Prop} {u U : State} {H : Heap} (hvm : u.vm.Alike U.vm) (h : vx_Zq C n d A u H) : vx_Zq C n d A U H := ⟨va_Zq.moved hvm h.1, vx_L.moved hvm h.2⟩
theorem vx_Zq.kept {C n d : String} {A : Nat → Prop} {U : State} {H H1 : Heap} (h : vx_Zq C n d A U H) (hq : ∀ a : Nat, a < H.size → ¬ A a → H1[a]? = H[a]?) : vx_Zq C n d A U H1 := ⟨va_Zq.kept h.1 hq, vx_L.kept h.2 hq⟩
theorem vx_Zq.narrow {C n d : String} {A B : Nat → Prop} {U : State} {H : Heap} (h : vx_Zq C n d A U H) (hAB : ∀ q, B q → A q) : vx_Zq C n d B U H := ⟨va_Zq.narrow h.1 hAB, vx_L.narrow h.2 hAB⟩
theorem vx_Zqof {args : Array Value} {s : State} {C n d : String} {A : Nat → Prop} (hl : (Cond.laysStatic C n d).before args s = true) (hini : (Cond.initialized C).before args s = true) (h : (Cond.isRef (.static C n d)).before args s = true) (hA : ∀ a : Nat, a < s.heap.size → ¬ A a) : vx_Zq C n d A s s.heap := by
  refine ⟨va_Zqof hl hini h hA, ?_⟩
  obtain ⟨c, k, i, f, a, cell, h1, h2, h3, h4, h5, h6, h7, h8, h9⟩ := Cond.laysStatic_spec hl
  exact ⟨c, k, i, f, a, cell, h1, h2, h3, h4, h5, h6, h7, h8, h9, hA a (Array.getElem?_eq_some_iff.mp h5).1⟩
theorem vx_isRef {C n d : String} {v : Value} {A : Nat → Prop} {s : State} {args : Array Value} (h : va_Z C n d v A s s.heap) (hv : v.isRef = true) : (Cond.isRef (.static C n d)).before args s = true := by
  obtain ⟨cf, kf, fi, f, a, cell, h1, h2, h3, h4, h5, h6, h7, -⟩ := h
  have he : (Term.static C n d).eval args s none [] s = some v := by
    simp [Term.eval, State.fieldNamed?, h1, h2, h4, h5, h6, h7]
  simp only [Cond.before, Cond.holds, Cond.value, he]
  cases v <;> simp_all [Value.isRef]
theorem vx_isRefq {C n d : String} {A : Nat → Prop} {s : State} {args : Array Value} (h : va_Zq C n d A s s.heap) : (Cond.isRef (.static C n d)).before args s = true := by
  rcases h with h | ⟨t, h⟩
  · exact vx_isRef h rfl
  · exact vx_isRef h rfl
/-- the same frame, seen from here: as if the method were called anew in this heap -/
theorem vx_rebase {T : State} (X : Stand p l e R s m args below meth c T locs cells slots) {R' : Room} (hf : R'.frames ≤ R.frames) (hl : R'.locals ≤ R.locals) (hc : cells + R'.cells ≤ R.cells) (hs : slots + R'.slots ≤ R.slots) :
    Stand p l e R' ((T.setVm s.vm).setFrames (.invoking m args :: below)) m args below meth c T [] 0 0 := by
  have htop : (T.setVm s.vm).topJava?.isSome := X.here.top
  have hF : ((T.setVm s.vm).setFrames (.invoking m args :: below)).frames = .invoking m args :: below := State.frames_setFrames _ (State.cur_lt_of_top htop)
  obtain ⟨g₀, hg0⟩ := Option.isSome_iff_exists.mp htop
  obtain ⟨r, hr⟩ := State.topJava?_eq_some.mp hg0
  have hl9 : e.platform.stackLimits (T.setVm s.vm).me = e.platform.stackLimits s.me := X.limits
  have hb9 : (T.setVm s.vm).me.stackBytes = s.me.stackBytes := X.bytes
  refine ⟨X.admits, X.cas, X.clock, hF, ?_, X.hears, X.method, X.code, X.here, X.tail, X.warmed, ?_, ?_, ?_⟩
  · have h := X.room
    have hU : ((T.setVm s.vm).setFrames (.invoking m args :: below)).localsInUse = s.localsInUse := by
      rw [State.localsInUse_invoking hF (meth := meth) (c := c) X.method X.code, State.localsInUse_invoking X.frames X.method X.code]
    simp only [State.hasRoom, Bool.and_eq_true, decide_eq_true_eq] at h ⊢
    obtain ⟨⟨⟨⟨h1, h2, h3, h4, h5, h6⟩, h7⟩, h8⟩, h9⟩ := h
    rw [X.frames, List.length_cons] at h2 h3
    have q1 := X.heapSize
    have q2 := X.used
    simp only [hF, hU, List.length_cons, State.stackLimits_setFrames, State.stackBytes_setFrames, hl9, hb9]
    refine ⟨⟨⟨⟨by omega, by omega, by omega, by omega, by omega, h6⟩, ?_⟩, ?_⟩, X.book⟩
    · show T.heap.size + R'.cells ≤ e.platform.maxCells
      omega
    · show T.slotsUsed + R'.slots ≤ e.platform.maxSlots
      omega
  · rw [State.stackLimits_setFrames]; rfl
  · rw [State.stackBytes_setFrames]; rfl
  · refine ⟨?_, Nat.le_refl _, Nat.le_refl _, ?_, ?_, fun a c9 h9 => ⟨c9, h9, rfl, rfl, fun _ _ => rfl⟩⟩
    · obtain ⟨t, ht, -⟩ := State.frames_cons hr
      show T.setVm s.vm = { ((T.setVm s.vm).setFrames (.invoking m args :: below)).setFrames (T.setVm s.vm).frames with heap := T.heap, slotsUsed := T.slotsUsed }
      rw [State.setFrames_setFrames, State.setFrames_self ht]
      rfl
    · show T.slotsUsed = T.slotsUsed + ((T.heap.toList.drop T.heap.size).map (·.slots.size)).sum
      rw [List.drop_eq_nil_of_le (Nat.le_of_eq Array.length_toList)]
      rfl
    · show ((T.heap.toList.drop T.heap.size).map (·.slots.size)).sum ≤ 0
      rw [List.drop_eq_nil_of_le (Nat.le_of_eq Array.length_toList)]
      exact Nat.le_refl _
/-- 'throw new E()': new; dup; invokespecial; athrow -/
theorem vx_throw0 {cc : ByteArray} {pc : Nat} (hexec : p.tables.exec = Jvm.exec) (hb : c.code = cc) (hl : l.stackTraces = false) {own cls : String} {names : List String} {ik ic mc ms : Nat} {A : Nat → Prop}
    (hown : s.vm.findClass own = some m.cls) (hcls : Bundle.fit cls = true) (hnames : ∀ n ∈ names, Bundle.fit n = true)
    (hk : (Cond.classLink own ik cls).before args s = true) (hini : (Cond.initialized cls).before args s = true) (hat : ∀ w ∈ vx_at0 own ic cls names, w.before args s = true)
    (hgood : ∀ w ∈ Cond.classLink own ik cls :: Cond.initialized cls :: vx_at0 own ic cls names, vx_ot w = true)
    (hU : vx_Zq Bundle.tN "UNASSIGNED_STACK" Bundle.steD A s s.heap) (hN : vx_Zq Bundle.tN "SUPPRESSED_SENTINEL" Bundle.listD A s s.heap) (hS : va_S A s.heap H locs) (hsize : ls.size = c.maxLocals)
    (d0 : decode cc pc = .ok (.new ik, 3)) (d3 : decode cc (pc + 3) = .ok (.dup, 1)) (d4 : decode cc (pc + 4) = .ok (.invokespecial ic, 3)) (d7 : decode cc (pc + 7) = .ok (.athrow, 1))
    (hout : ∀ x ∈ c.exceptionTable.toList, covers x (pc + 7) = false)
    (hRframes : names.length + 3 < R.frames) (hRlocals : (rest.map fun v => v.category).sum + (13 * (names.length + 1) + 42) ≤ R.locals) (hRcells : cells + 1 ≤ R.cells) (hRslots : slots + 6 ≤ R.slots) (hlocks : meth.locks = false)
    (hx : ∀ t : State, s.vm.Alike t.vm → H.size ≤ t.heap.size → (∀ q : Nat, q < H.size → t.heap[q]? = H[q]?) → XC cls s t)
    (hf : ∀ z ∈ locs, free z.base) (hc : cells + 1 ≤ mc) (hs : slots + 6 ≤ ms) :
    W p l e R s m args below meth c H locs cells slots (vx_MQ below Qc XC args s mc ms free) (F0 m pc ls rest) := by
  intro T hT X
  have htr : e.platform.stackTraces = false := (show e.platform.stackTraces = l.stackTraces by rw [X.admits.platform]).trans hl
  have Y := vx_rebase X (R' := { frames := R.frames, locals := R.locals, cells := 1, slots := 6 }) (Nat.le_refl _) (Nat.le_refl _) hRcells hRslots
  obtain ⟨s', hA⟩ : ∃ z, z = (T.setVm s.vm).setFrames (.invoking m args :: below) := ⟨_, rfl⟩
  rw [← hA] at Y
  have hvm : s'.vm = s.vm := by rw [hA]; rfl
  have hhp : s'.heap = H := by rw [hA]; exact hT
  have hW0 : s.WarmedH s'.vm := by rw [hvm]; exact State.WarmedH.refl s
  have hat' : ∀ w ∈ vx_at0 own ic cls names, w.before args s' = true := fun w hw => vx_ot_at hW0 hvm.symm (hgood w (List.mem_cons_of_mem _ (List.mem_cons_of_mem _ hw))) (hat w hw)
  have hk' : (Cond.classLink own ik cls).before args s' = true := vx_ot_at hW0 hvm.symm (hgood _ List.mem_cons_self) hk
  have hini' : (Cond.initialized cls).before args s' = true := vx_ot_at hW0 hvm.symm (hgood _ (List.mem_cons_of_mem _ List.mem_cons_self)) hini
  have hU' : vx_Zq Bundle.tN "UNASSIGNED_STACK" Bundle.steD A s' s'.heap := by rw [hhp]; exact vx_Zq.moved hW0.alike (hU.kept hS.2.1)
  have hN' : vx_Zq Bundle.tN "SUPPRESSED_SENTINEL" Bundle.listD A s' s'.heap := by rw [hhp]; exact vx_Zq.moved hW0.alike (hN.kept hS.2.1)
  have h : ∀ w ∈ Bundle.ownAtoms0 own ic cls names, w.before args s' = true := vx_own hat' (vx_isRefq hU'.1) (vx_isRefq hN'.1) hU'.2.word hN'.2.word
  have hown' : s'.vm.findClass own = some m.cls := by rw [hvm]; exact hown
  have hins : (Cond.instantiable cls 6).before args s' = true := h _ (by simp [Bundle.ownAtoms0])
  obtain ⟨vm₁, cX, kX, hfX, hkX, -, -, X₁, st1⟩ := Y.newCold hexec (own := own) (C := cls) (index := ik) (n := 6) hown' hk' hins hini'
    (g := F0 m pc ls rest) rfl (by rw [hb]; exact d0) (Nat.le_refl _) (Nat.le_refl _)
  generalize hT1 : (T.setVm vm₁).pushCell { cls := cX, slots := kX.instanceTypes.map defaultValue, vm := .none } = T1 at X₁ st1
  have hcat : (Value.ref T.heap.size).category = 1 := rfl
  have hcellA : T1.heap[T.heap.size]? = some (freshCell cX kX) := by rw [← hT1]; exact State.heap_pushCell_size _ _
  have d3' : decode c.code (pc + 3) = .ok (.dup, 1) := by rw [hb]; exact d3
  obtain ⟨U, hsteps, hrun, hend, hW, hsame, ce, hce, hO⟩ := X₁.ctorThrow0 hexec htr (own := own) (cls := cls) (names := names) (ic := ic) hown' hcls hnames h (fun x hx => nomatch hx) hfX hkX hcellA (by rw [hhp, hT]; exact Nat.le_refl _)
    (g := { method := m, pc := pc + 4, locals := ls, stack := .ref T.heap.size :: .ref T.heap.size :: rest, locked := none }) rfl hsize rfl rfl (rest := rest) rfl
    (by rw [hb]; exact d4) (by rw [hb]; exact d7) hout hRframes (by simp only [List.map_cons, List.sum_cons, hcat]; omega) hlocks
  obtain ⟨f1, f2⟩ := vx_frame hsame
  rw [hhp] at f1 f2
  have hWs : s.WarmedH U.vm := State.WarmedH.trans hW0 hW
  have hcl : s.vm.findClass cls = some ce.cls := by
    have h9 := hO.cls
    rw [hvm] at h9
    exact h9
  have hall : s.sameButNew ({ U with vm := s.vm } : State) locs mc ms := by
    subst hA
    obtain ⟨e1, e2⟩ := hsame
    rw [State.setFrames_setFrames] at e1
    have h2 : (T.setVm s.vm).sameButNew ({ U with vm := s.vm } : State) [] (0 + 1) (0 + 6) := ⟨e1, e2⟩
    have h3 := X.same.trans h2
    rw [List.append_nil] at h3
    exact h3.mono hc hs
  refine ⟨U, ?_, .threw T.heap.size, hrun, hend, Or.inr ⟨T.heap.size, rfl, cls, ce, locs, hx U hWs.alike f1 (fun q hq => f2 q hq (fun z hz => nomatch hz)), hce, hO.vm, hcl, hWs, hall, hf⟩⟩
  refine st1 _ ?_
  show Steps p.tables e below (T1.setTop { method := m, pc := pc + 3, locals := ls, stack := .ref T.heap.size :: rest, locked := none }) _
  jvm_step X₁.here [X₁.here.top, hexec, d3', Value.category]
  exact hsteps
/-- 'throw new E("text")': new; dup; ldc; invokespecial; athrow -/
theorem vx_throwS {cc : ByteArray} {pc : Nat} (hexec : p.tables.exec = Jvm.exec) (hb : c.code = cc) (hl : l.stackTraces = false) {own cls text : String} {names : List String} {ik is ic mc ms sa : Nat} {A : Nat → Prop}
    (hown : s.vm.findClass own = some m.cls) (hcls : Bundle.fit cls = true) (hnames : ∀ n ∈ names, Bundle.fit n = true)
    (hk : (Cond.classLink own ik cls).before args s = true) (hini : (Cond.initialized cls).before args s = true) (hstr : vk_R own is text sa s) (hat : ∀ w ∈ vx_atS own ic cls names, w.before args s = true)
    (hgood : ∀ w ∈ Cond.classLink own ik cls :: Cond.initialized cls :: vx_atS own ic cls names, vx_ot w = true)
    (hU : vx_Zq Bundle.tN "UNASSIGNED_STACK" Bundle.steD A s s.heap) (hN : vx_Zq Bundle.tN "SUPPRESSED_SENTINEL" Bundle.listD A s s.heap) (hS : va_S A s.heap H locs) (hsize : ls.size = c.maxLocals)
    (d0 : decode cc pc = .ok (.new ik, 3)) (d3 : decode cc (pc + 3) = .ok (.dup, 1)) (d4 : decode cc (pc + 4) = .ok (.ldc is, 2)) (d6 : decode cc (pc + 6) = .ok (.invokespecial ic, 3)) (d9 : decode cc (pc + 9) = .ok (.athrow, 1))
    (hout : ∀ x ∈ c.exceptionTable.toList, covers x (pc + 9) = false)
    (hRframes : names.length + 3 < R.frames) (hRlocals : (rest.map fun v => v.category).sum + (13 * (names.length + 1) + 43) ≤ R.locals) (hRcells : cells + 1 ≤ R.cells) (hRslots : slots + 6 ≤ R.slots) (hlocks : meth.locks = false)
    (hx : ∀ t : State, s.vm.Alike t.vm → H.size ≤ t.heap.size → (∀ q : Nat, q < H.size → t.heap[q]? = H[q]?) → XC cls s t)
    (hf : ∀ z ∈ locs, free z.base) (hc : cells + 1 ≤ mc) (hs : slots + 6 ≤ ms) :
    W p l e R s m args below meth c H locs cells slots (vx_MQ below Qc XC args s mc ms free) (F0 m pc ls rest) := by
  intro T hT X
  have htr : e.platform.stackTraces = false := (show e.platform.stackTraces = l.stackTraces by rw [X.admits.platform]).trans hl
  have Y := vx_rebase X (R' := { frames := R.frames, locals := R.locals, cells := 1, slots := 6 }) (Nat.le_refl _) (Nat.le_refl _) hRcells hRslots
  obtain ⟨s', hA⟩ : ∃ z, z = (T.setVm s.vm).setFrames (.invoking m args :: below) := ⟨_, rfl⟩
  rw [← hA] at Y
  have hvm : s'.vm = s.vm := by rw [hA]; rfl
  have hhp : s'.heap = H := by rw [hA]; exact hT
  have hW0 : s.WarmedH s'.vm := by rw [hvm]; exact State.WarmedH.refl s
  have hat' : ∀ w ∈ vx_atS own ic cls names, w.before args s' = true := fun w hw => vx_ot_at hW0 hvm.symm (hgood w (List.mem_cons_of_mem _ (List.mem_cons_of_mem _ hw))) (hat w hw)
  have hk' : (Cond.classLink own ik cls).before args s' = true := vx_ot_at hW0 hvm.symm (hgood _ List.mem_cons_self) hk
  have hini' : (Cond.initialized cls).before args s' = true := vx_ot_at hW0 hvm.symm (hgood _ (List.mem_cons_of_mem _ List.mem_cons_self)) hini
  have hU' : vx_Zq Bundle.tN "UNASSIGNED_STACK" Bundle.steD A s' s'.heap := by rw [hhp]; exact vx_Zq.moved hW0.alike (hU.kept hS.2.1)
  have hN' : vx_Zq Bundle.tN "SUPPRESSED_SENTINEL" Bundle.listD A s' s'.heap := by rw [hhp]; exact vx_Zq.moved hW0.alike (hN.kept hS.2.1)
  have h : ∀ w ∈ Bundle.ownAtoms own ic cls names, w.before args s' = true := vx_own hat' (vx_isRefq hU'.1) (vx_isRefq hN'.1) hU'.2.word hN'.2.word
  have hown' : s'.vm.findClass own = some m.cls := by rw [hvm]; exact hown
  have hins : (Cond.instantiable cls 6).before args s' = true := h _ (by simp [Bundle.ownAtoms])
  obtain ⟨vm₁, cX, kX, hfX, hkX, -, -, X₁, st1⟩ := Y.newCold hexec (own := own) (C := cls) (index := ik) (n := 6) hown' hk' hins hini'
    (g := F0 m pc ls rest) rfl (by rw [hb]; exact d0) (Nat.le_refl _) (Nat.le_refl _)
  generalize hT1 : (T.setVm vm₁).pushCell { cls := cX, slots := kX.instanceTypes.map defaultValue, vm := .none } = T1 at X₁ st1
  have hcat : (Value.ref T.heap.size).category = 1 := rfl
  have hcellA : T1.heap[T.heap.size]? = some (freshCell cX kX) := by rw [← hT1]; exact State.heap_pushCell_size _ _
  have d3' : decode c.code (pc + 3) = .ok (.dup, 1) := by rw [hb]; exact d3
  have d4' : decode c.code (pc + 4) = .ok (.ldc is, 2) := by rw [hb]; exact d4
  have hstr' : vk_R own is text sa s' := vk_R.warm hW0 hstr
  obtain ⟨U, hsteps, hrun, hend, hW, hsame, ce, hce, hO⟩ := X₁.ctorThrowS hexec htr (own := own) (cls := cls) (names := names) (ic := ic) hown' hcls hnames h (fun x hx => nomatch hx) hfX hkX hcellA (by rw [hhp, hT]; exact Nat.le_refl _) (msg := .ref sa) rfl
    (g := { method := m, pc := pc + 6, locals := ls, stack := .ref sa :: .ref T.heap.size :: .ref T.heap.size :: rest, locked := none }) rfl hsize rfl rfl (rest := rest) rfl
    (by rw [hb]; exact d6) (by rw [hb]; exact d9) hout hRframes (by simp only [List.map_cons, List.sum_cons, hcat]; omega) hlocks
  obtain ⟨f1, f2⟩ := vx_frame hsame
  rw [hhp] at f1 f2
  have hWs : s.WarmedH U.vm := State.WarmedH.trans hW0 hW
  have hcl : s.vm.findClass cls = some ce.cls := by
    have h9 := hO.cls
    rw [hvm] at h9
    exact h9
  have hall : s.sameButNew ({ U with vm := s.vm } : State) locs mc ms := by
    subst hA
    obtain ⟨e1, e2⟩ := hsame
    rw [State.setFrames_setFrames] at e1
    have h2 : (T.setVm s.vm).sameButNew ({ U with vm := s.vm } : State) [] (0 + 1) (0 + 6) := ⟨e1, e2⟩
    have h3 := X.same.trans h2
    rw [List.append_nil] at h3
    exact h3.mono hc hs
  refine ⟨U, ?_, .threw T.heap.size, hrun, hend, Or.inr ⟨T.heap.size, rfl, cls, ce, locs, hx U hWs.alike f1 (fun q hq => f2 q hq (fun z hz => nomatch hz)), hce, hO.vm, hcl, hWs, hall, hf⟩⟩
  refine st1 _ ?_
  show Steps p.tables e below (T1.setTop { method := m, pc := pc + 3, locals := ls, stack := .ref T.heap.size :: rest, locked := none }) _
  jvm_step X₁.here [X₁.here.top, hexec, d3', Value.category]
  exact X₁.ldcString hexec (own := own) (text := text) (index := is) (a := sa) hown' hstr'.1 hstr'.2
    (g := { method := m, pc := pc + 4, locals := ls, stack := .ref T.heap.size :: .ref T.heap.size :: rest, locked := none }) rfl d4' _ hsteps
/-- 'throw new E("text")', the text by a wide index -/
theorem vx_throwSW {cc : ByteArray} {pc : Nat} (hexec : p.tables.exec = Jvm.exec) (hb : c.code = cc) (hl : l.stackTraces = false) {own cls text : String} {names : List String} {ik is ic mc ms sa : Nat} {A : Nat → Prop}
    (hown : s.vm.findClass own = some m.cls) (hcls : Bundle.fit cls = true) (hnames : ∀ n ∈ names, Bundle.fit n = true)
    (hk : (Cond.classLink own ik cls).before args s = true) (hini : (Cond.initialized cls).before args s = true) (hstr : vk_R own is text sa s) (hat : ∀ w ∈ vx_atS own ic cls names, w.before args s = true)
    (hgood : ∀ w ∈ Cond.classLink own ik cls :: Cond.initialized cls :: vx_atS own ic cls names, vx_ot w = true)
    (hU : vx_Zq Bundle.tN "UNASSIGNED_STACK" Bundle.steD A s s.heap) (hN : vx_Zq Bundle.tN "SUPPRESSED_SENTINEL" Bundle.listD A s s.heap) (hS : va_S A s.heap H locs) (hsize : ls.size = c.maxLocals)
    (d0 : decode cc pc = .ok (.new ik, 3)) (d3 : decode cc (pc + 3) = .ok (.dup, 1)) (d4 : decode cc (pc + 4) = .ok (.ldc_w is, 3)) (d7 : decode cc (pc + 7) = .ok (.invokespecial ic, 3)) (d10 : decode cc (pc + 10) = .ok (.athrow, 1))
    (hout : ∀ x ∈ c.exceptionTable.toList, covers x (pc + 10) = false)
    (hRframes : names.length + 3 < R.frames) (hRlocals : (rest.map fun v => v.category).sum + (13 * (names.length + 1) + 43) ≤ R.locals) (hRcells : cells + 1 ≤ R.cells) (hRslots : slots + 6 ≤ R.slots) (hlocks : meth.locks = false)
    (hx : ∀ t : State, s.vm.Alike t.vm → H.size ≤ t.heap.size → (∀ q : Nat, q < H.size → t.heap[q]? = H[q]?) → XC cls s t)
    (hf : ∀ z ∈ locs, free z.base) (hc : cells + 1 ≤ mc) (hs : slots + 6 ≤ ms) :
    W p l e R s m args below meth c H locs cells slots (vx_MQ below Qc XC args s mc ms free) (F0 m pc ls rest) := by
  intro T hT X
  have htr : e.platform.stackTraces = false := (show e.platform.stackTraces = l.stackTraces by rw [X.admits.platform]).trans hl
  have Y := vx_rebase X (R' := { frames := R.frames, locals := R.locals, cells := 1, slots := 6 }) (Nat.le_refl _) (Nat.le_refl _) hRcells hRslots
  obtain ⟨s', hA⟩ : ∃ z, z = (T.setVm s.vm).setFrames (.invoking m args :: below) := ⟨_, rfl⟩
  rw [← hA] at Y
  have hvm : s'.vm = s.vm := by rw [hA]; rfl
  have hhp : s'.heap = H := by rw [hA]; exact hT
  have hW0 : s.WarmedH s'.vm := by rw [hvm]; exact State.WarmedH.refl s
  have hat' : ∀ w ∈ vx_atS own ic cls names, w.before args s' = true := fun w hw => vx_ot_at hW0 hvm.symm (hgood w (List.mem_cons_of_mem _ (List.mem_cons_of_mem _ hw))) (hat w hw)
  have hk' : (Cond.classLink own ik cls).before args s' = true := vx_ot_at hW0 hvm.symm (hgood _ List.mem_cons_self) hk
  have hini' : (Cond.initialized cls).before args s' = true := vx_ot_at hW0 hvm.symm (hgood _ (List.mem_cons_of_mem _ List.mem_cons_self)) hini
  have hU' : vx_Zq Bundle.tN "UNASSIGNED_STACK" Bundle.steD A s' s'.heap := by rw [hhp]; exact vx_Zq.moved hW0.alike (hU.kept hS.2.1)
  have hN' : vx_Zq Bundle.tN "SUPPRESSED_SENTINEL" Bundle.listD A s' s'.heap := by rw [hhp]; exact vx_Zq.moved hW0.alike (hN.kept hS.2.1)
  have h : ∀ w ∈ Bundle.ownAtoms own ic cls names, w.before args s' = true := vx_own hat' (vx_isRefq hU'.1) (vx_isRefq hN'.1) hU'.2.word hN'.2.word
  have hown' : s'.vm.findClass own = some m.cls := by rw [hvm]; exact hown
  have hins : (Cond.instantiable cls 6).before args s' = true := h _ (by simp [Bundle.ownAtoms])
  obtain ⟨vm₁, cX, kX, hfX, hkX, -, -, X₁, st1⟩ := Y.newCold hexec (own := own) (C := cls) (index := ik) (n := 6) hown' hk' hins hini'
    (g := F0 m pc ls rest) rfl (by rw [hb]; exact d0) (Nat.le_refl _) (Nat.le_refl _)
  generalize hT1 : (T.setVm vm₁).pushCell { cls := cX, slots := kX.instanceTypes.map defaultValue, vm := .none } = T1 at X₁ st1
  have hcat : (Value.ref T.heap.size).category = 1 := rfl
  have hcellA : T1.heap[T.heap.size]? = some (freshCell cX kX) := by rw [← hT1]; exact State.heap_pushCell_size _ _
  have d3' : decode c.code (pc + 3) = .ok (.dup, 1) := by rw [hb]; exact d3
  have d4' : decode c.code (pc + 4) = .ok (.ldc_w is, 3) := by rw [hb]; exact d4
  have hstr' : vk_R own is text sa s' := vk_R.warm hW0 hstr
  obtain ⟨U, hsteps, hrun, hend, hW, hsame, ce, hce, hO⟩ := X₁.ctorThrowS hexec htr (own := own) (cls := cls) (names := names) (ic := ic) hown' hcls hnames h (fun x hx => nomatch hx) hfX hkX hcellA (by rw [hhp, hT]; exact Nat.le_refl _) (msg := .ref sa) rfl
    (g := { method := m, pc := pc + 7, locals := ls, stack := .ref sa :: .ref T.heap.size :: .ref T.heap.size :: rest, locked := none }) rfl hsize rfl rfl (rest := rest) rfl
    (by rw [hb]; exact d7) (by rw [hb]; exact d10) hout hRframes (by simp only [List.map_cons, List.sum_cons, hcat]; omega) hlocks
  obtain ⟨f1, f2⟩ := vx_frame hsame
  rw [hhp] at f1 f2
  have hWs : s.WarmedH U.vm := State.WarmedH.trans hW0 hW
  have hcl : s.vm.findClass cls = some ce.cls := by
    have h9 := hO.cls
    rw [hvm] at h9
    exact h9
  have hall : s.sameButNew ({ U with vm := s.vm } : State) locs mc ms := by
    subst hA
    obtain ⟨e1, e2⟩ := hsame
    rw [State.setFrames_setFrames] at e1
    have h2 : (T.setVm s.vm).sameButNew ({ U with vm := s.vm } : State) [] (0 + 1) (0 + 6) := ⟨e1, e2⟩
    have h3 := X.same.trans h2
    rw [List.append_nil] at h3
    exact h3.mono hc hs
  refine ⟨U, ?_, .threw T.heap.size, hrun, hend, Or.inr ⟨T.heap.size, rfl, cls, ce, locs, hx U hWs.alike f1 (fun q hq => f2 q hq (fun z hz => nomatch hz)), hce, hO.vm, hcl, hWs, hall, hf⟩⟩
  refine st1 _ ?_
  show Steps p.tables e below (T1.setTop { method := m, pc := pc + 3, locals := ls, stack := .ref T.heap.size :: rest, locked := none }) _
  jvm_step X₁.here [X₁.here.top, hexec, d3', Value.category]
  exact X₁.ldcStringW hexec (own := own) (text := text) (index := is) (a := sa) hown' hstr'.1 hstr'.2
    (g := { method := m, pc := pc + 4, locals := ls, stack := .ref T.heap.size :: .ref T.heap.size :: rest, locked := none }) rfl d4' _ hsteps
end Ends
section Bodies
variable {l : Launch}
theorem vx_ofW {y : MethodName} {ws ws' : List Cond} {rm : Room} {Pc : Array Value → State → Prop} {Qc : Array Value → State → Outcome → State → Prop} {XC : String → State → State → Prop} {mc ms : Nat} {free : Addr → Prop} {cc : ByteArray} {maxL : Nat} {ret : Option FieldType}
    (hy : plainName y.cls = true) (hw : ws = Cond.code y cc maxL ret :: ws')
    (body : ∀ p e s m args below meth c s₁, BodyLoose p l y (headSpec ws rm) cc maxL ret e s m args below meth c s₁ → c.maxLocals = maxL → (∀ x ∈ c.exceptionTable.toList, False) → Pc args s →
      W p l e (headSpec ws rm).room s m args below meth c s.heap [] 0 0 (vx_MQ below Qc XC args s mc ms free) (entryFrame m args maxL)) : vx_Met l y ws rm Pc Qc XC mc ms free := by
  refine MetFree.of_bodyS (code := cc) (maxLocals := maxL) (ret := ret) hy ?_ ?_
  · intro args s m h hn
    obtain ⟨meth, c, h1, h2, h3, h4, h5, h6, -, -⟩ := Cond.code_spec hn (atoms_spec (ws := ws) h _ (by rw [hw]; exact List.mem_cons_self))
    exact ⟨meth, c, h1, h2, h3, h4, h5, h6⟩
  · intro p e s m args below meth c s₁ B hml hP _
    have hh0 : s₁.heap = s.heap := by rw [B.state]; rfl
    have ht : ∀ x ∈ c.exceptionTable.toList, False := by
      obtain ⟨meth9, c9, h1, h2, -, -, -, -, h7, -⟩ := Cond.code_spec B.named (atoms_spec (ws := ws) B.pre _ (by rw [hw]; exact List.mem_cons_self))
      cases Option.some.inj (h1.symm.trans B.method)
      cases Option.some.inj (h2.symm.trans (Stand.of_body B).code)
      intro x hx
      rw [Array.isEmpty_iff.mp h7] at hx
      cases hx
    obtain ⟨t, a1, o, b1, b2, b3⟩ := body p e s m args below meth c s₁ B hml ht hP s₁ hh0 (Stand.of_body B)
    exact ⟨t, o, a1, b1, b2, b3⟩
/-- the table of a body with handlers -/
theorem vx_table {p : Program} {x y : MethodName} {S : Spec} {cc bytes : ByteArray} {maxL maxL' : Nat} {ret ret' : Option FieldType} {e : Env} {s s₁ : State} {m : MethodId} {args : Array Value} {below : List Frame} {meth : Method} {c : Code} {hh : List (Nat × Nat × Nat × Nat)}
    (B : BodyLoose p l y S cc maxL ret e s m args below meth c s₁) (h : (Cond.codeWith y bytes maxL' ret' hh).before args s = true) : c.exceptionTable.toList = tableOf hh := by
  obtain ⟨m9, meth9, c9, hn9, h1, h2, -, -, h6, -⟩ := Cond.codeWith_spec h
  cases Option.some.inj (hn9.symm.trans B.named)
  cases Option.some.inj (h1.symm.trans B.method)
  cases Option.some.inj (h2.symm.trans (Stand.of_body B).code)
  rw [← h6, table_eq]
end Bodies
end VXA
/-! ===== END ===== -/
/-! ===== BEGIN a static call of a method with an exception table ===== -/
section VXS
variable {p : Program} {l : Launch} {e : Env} {R : Room} {s : State} {m : MethodId} {args : Array Value} {below : List Frame} {meth : Method} {c : Code} {T : State} {H : Heap} {locs : List Loc} {cells slots : Nat}
abbrev vx_CSW (R : Room) (s : State) (args : Array Value) (own : String) (index : Nat) (y : MethodName) (bytes : ByteArray) (maxL : Nat) (ret : Option FieldType) (hh : List (Nat × Nat × Nat × Nat)) (ws : List Cond) (rm : Room) (mc ms n : Nat) : Prop :=
  (rm.cells = mc ∧ rm.slots = ms ∧ rm.frames + 1 ≤ R.frames ∧ 8 + (maxL + 11) + rm.locals ≤ R.locals ∧ (∀ w ∈ ws, ∀ (a' : Array Value) (U : State), s.WarmedH U.vm → w.before a' U = true) ∧ Cond.codeWith y bytes maxL ret hh ∈ ws) ∧
  (Cond.codeWith y bytes maxL ret hh).before args s = true ∧ (Cond.initialized y.cls).before args s = true ∧ (y.cls ≠ "java/lang/invoke/MethodHandle" ∧ y.cls ≠ "java/lang/invoke/VarHandle") ∧
  (∀ sig, parseMethodDescriptor y.desc = some sig → n = sig.parameters.length) ∧ (Cond.methodLink own index y).before args s = true ∧ (Cond.static y).before args s = true
theorem vx_cwSW {own : String} {index maxL mc ms : Nat} {y : MethodName} {bytes : ByteArray} {ret : Option FieldType} {hh : List (Nat × Nat × Nat × Nat)} {Ts ws ws' : List Cond} {rm : Room} (n : Nat) (ht : ∀ w ∈ Ts, w.before args s = true) (hT : GoodIn Ts (va_wsS own index y ws)) (hw : ws = Cond.codeWith y bytes maxL ret hh :: ws') (hrc : rm.cells = mc) (hrs : rm.slots = ms)
    (hd : y.cls ≠ "java/lang/invoke/MethodHandle" ∧ y.cls ≠ "java/lang/invoke/VarHandle" ∧ (parseMethodDescriptor y.desc).map (fun d => d.parameters.length) = some n) (hR : rm.frames + 1 ≤ R.frames ∧ 8 + (maxL + 11) + rm.locals ≤ R.locals) :
    vx_CSW R s args own index y bytes maxL ret hh ws rm mc ms n := by
  have ok : ∀ w ∈ va_wsS own index y ws, w.before args s = true := fun w h => ht w (hT w h).1
  have hG : GoodIn Ts ws := fun w h => hT w (by unfold va_wsS; exact List.mem_append_right _ h)
  have hc : Cond.codeWith y bytes maxL ret hh ∈ ws := by rw [hw]; exact List.mem_cons_self
  refine ⟨⟨hrc, hrs, hR.1, hR.2, pay_in ht hG, hc⟩, ht _ (hG _ hc).1, ok _ (by simp [va_wsS]), ⟨hd.1, hd.2.1⟩, fun sig h => ?_, ok _ (by simp [va_wsS]), ok _ (by simp [va_wsS])⟩
  have h2 := hd.2.2
  rw [h] at h2
  exact (Option.some.inj h2).symm
theorem vx_callSW (X : Stand p l e R s m args below meth c T locs cells slots) (hexec : p.tables.exec = Jvm.exec) {own : String} {index : Nat} {y : MethodName} {bytes : ByteArray} {maxL : Nat} {ret : Option FieldType} {hh : List (Nat × Nat × Nat × Nat)}
    (hown : s.vm.findClass own = some m.cls) (hlink : (Cond.methodLink own index y).before args s = true) (hstat : (Cond.static y).before args s = true) (hinit : (Cond.initialized y.cls).before args s = true)
    (hcode : (Cond.codeWith y bytes maxL ret hh).before args s = true) (hy : y.cls ≠ "java/lang/invoke/MethodHandle" ∧ y.cls ≠ "java/lang/invoke/VarHandle")
    {W9 : Nat} {Pre : Pt → Array Value → Prop} {Post : Pt → Array Value → Option Value → Pt → Prop} (hK : Back l R p e below s args y 3 W9 Pre Post)
    {g : JFrame} (hg : g.method = m) (hsize : g.locals.size = c.maxLocals) {argsL rest : List Value} (hlen : ∀ sig, parseMethodDescriptor y.desc = some sig → argsL.length = sig.parameters.length)
    (hstack : g.stack = argsL.reverse ++ rest) (hW : 2 * g.monitorRoom + (rest.map fun v => v.category).sum ≤ W9) (hdg : decode c.code g.pc = .ok (.invokestatic index, 3))
    (hpre : ∀ vm₁, s.WarmedH vm₁ → Pre ⟨T.setVm vm₁, locs, cells, slots⟩ argsL.toArray) :
    ∃ (v : Option Value) (vm₁ : Vm) (B : Pt), s.WarmedH vm₁ ∧ Stand p l e R s m args below meth c B.U B.locs B.cells B.slots ∧ Post ⟨T.setVm vm₁, locs, cells, slots⟩ argsL.toArray v B ∧
      ∀ target, Steps p.tables e below (B.U.setTop { g with pc := g.pc + 3, stack := v.toList ++ rest }) target → Steps p.tables e below (T.setTop g) target := by
  obtain ⟨mk, methM, cM, hnamed, hmethM, -, -, -, -, -, -, hsigM⟩ := Cond.codeWith_spec hcode
  have hstatic : methM.isStatic = true := Cond.static_spec hnamed hmethM hstat
  obtain ⟨kP, hkP, -⟩ := className_of_methodNamed hnamed
  have hinitP : kP.init = .initialized := Cond.initialized_spec (findClass_of_methodNamed hnamed) hkP hinit
  obtain ⟨vm₁, X₁, hstep₁⟩ := X.invokestatic hexec hown hlink hnamed hmethM hstatic hkP hinitP hy (g := g) hg (argsL := argsL) (rest := rest) (hlen _ hsigM) hstack hdg
  obtain ⟨v, B, X', hpost, hsteps⟩ := hK m meth c ⟨T.setVm vm₁, locs, cells, slots⟩ { g with stack := rest } (.invokestatic index) mk argsL.toArray X₁ hg hsize hdg hW (X₁.named hnamed) (hpre vm₁ X₁.warmed)
  exact ⟨v, vm₁, B, X₁.warmed, X', hpost, fun target h => hstep₁ _ fun acts => by rw [doInvoke_state]; exact hsteps.trans h⟩
theorem vx_runSW {y : MethodName} {bytes cc : ByteArray} {maxL nL mc ms n index : Nat} {ret : Option FieldType} {hh : List (Nat × Nat × Nat × Nat)} {ws : List Cond} {rm : Room} {Pc : Array Value → State → Prop} {Qc : Array Value → State → Outcome → State → Prop} {free : Addr → Prop} {Ts : List Cond} {own : String} {As rest : List Value} {g : JFrame}
    (S : CallFix p m c cc nL s args Ts own) (hM : Met l y ws rm Pc Qc mc ms free) (cw : vx_CSW R s args own index y bytes maxL ret hh ws rm mc ms n) (hp : PreS s H Pc As)
    (hg : g.method = m) (hn : As.length = n) (hsize : g.locals.size = nL) (hstack : g.stack = As.reverse ++ rest) (hW : 2 * g.monitorRoom + (rest.map fun v => v.category).sum ≤ 8) (hdg : decode cc g.pc = .ok (.invokestatic index, 3)) (hf : cells + mc ≤ R.cells ∧ slots + ms ≤ R.slots) :
    va_Run p l e R s m args below meth c H locs cells slots mc ms g rest (Qc As.toArray) (free) := by
  obtain ⟨⟨hrc, hrs, hfr, hlo, hws, hcw⟩, hcode, hini, hy, hlen, hl, hstt⟩ := cw
  have hK : Back l R p e below s args y 3 8 (PreOf R mc ms Pc) (PostOf Qc mc ms free) := va_backW (hh := hh) (bytes := bytes) (maxL := maxL) (ret := ret) hM hp.1 hrc hrs hfr hlo hws hcw (fun a' U hW => word_at hW (Or.inl (by first | rfl | simp [Cond.onTables, Cond.keeps, Cond.steady])) hini)
  obtain ⟨hx, hb, hml, ho, -⟩ := S
  intro T hT X
  obtain ⟨v, vm₁, ⟨U', l2, c2, s2⟩, hW₁, X', ⟨g', mk, t, L, e1, e2, hq, h1, hL, h2, h3⟩, st⟩ := vx_callSW X hx (hh := hh) (bytes := bytes) (maxL := maxL) (ret := ret) ho hl hstt hini hcode hy hK hg (hsize.trans hml.symm) (argsL := As) (rest := rest) (fun sig h => hn.trans (hlen sig h)) hstack hW (by rw [hb]; exact hdg)
    (fun vm₁ hW₁ => ⟨hf.1, hf.2, hp.2 (T.setVm vm₁) hT hW₁⟩)
  dsimp only [Pt.U, Pt.locs, Pt.cells, Pt.slots] at X' e1 e2 h1 h2 h3 st
  subst h1; subst h2; subst h3
  exact ⟨v, (T.setVm vm₁).calling g' mk As.toArray, t, U', L, hT, X', hL, e1, e2, hq, st⟩
/-- not caught here, past rows that name other classes: it goes on to the caller -/
theorem vx_outP {p : Program} {l : Launch} {e : Env} {R : Room} {s : State} {m : MethodId} {args : Array Value} {below : List Frame} {meth : Method} {c : Code} {H : Heap} {locs : List Loc} {cells slots : Nat} {free : Addr → Prop} {ls : Array Slot} {rest : List Value} {Qc : Array Value → State → Outcome → State → Prop} {XC : String → State → State → Prop}
    {pc : Nat} {own E : String} {ce : Cell} {q : Addr} {mc ms : Nat} (hown : s.vm.findClass own = some m.cls) (hlocks : meth.locks = false)
    (hpass : ∀ z ∈ c.exceptionTable.toList, covers z pc = false ∨ (z.catchType ≠ 0 ∧ ∃ nm : String, (Cond.classLink own z.catchType nm).before args s = true ∧ va_Nc E nm s)) (hcell : H[q]? = some ce) (hv : ce.vm = .none) (hcl : s.vm.findClass E = some ce.cls)
    (hx : ∀ t : State, t.heap = H → s.vm.Alike t.vm → XC E s t) (hf : ∀ z ∈ locs, free z.base) (hc : cells ≤ mc) (hs : slots ≤ ms) :
    vx_W p l e R s m args below meth c H locs cells slots (vx_MQ below Qc XC args s mc ms free) (F0 m pc ls rest) q := by
  intro T hT X
  have hpl : e.platform.magicAccessors = ({} : Platform).magicAccessors := by rw [X.admits.platform]
  obtain ⟨vm', hW', X', st⟩ := X.outThrough hlocks q (g := F0 m pc ls rest) rfl rfl rfl (cell := ce) (by rw [hT]; exact hcell) (by rw [hv]; rfl)
    (by obtain ⟨k9, h9, -⟩ := Vm.findClass_spec hcl; exact ⟨k9, h9⟩) (fun z hz => by
      rcases hpass z hz with h | ⟨hz0, nm, hl1, hn1⟩
      · exact Or.inl h
      · obtain ⟨c6, hc6, hcl6⟩ := Cond.classLink_spec hown hl1 e.platform hpl
        obtain ⟨a8, b8, h1, h2, h3⟩ := hn1
        cases Option.some.inj (h1.symm.trans hcl)
        cases Option.some.inj (h2.symm.trans hc6)
        exact Or.inr ⟨hz0, _, hcl6, h3⟩)
  obtain ⟨g₀, hfr⟩ := X'.frames_eq
  have hcell9 : ((T.setVm vm').setFrames (.throwing q :: below)).heap[q]? = some ce := by
    show T.heap[q]? = some ce
    rw [hT]; exact hcell
  have hend : Ended ((T.setVm vm').setFrames (.throwing q :: below)) below (.threw q) := State.frames_setFrames _ (State.cur_lt_of_frames hfr)
  refine ⟨(T.setVm vm').setFrames (.throwing q :: below), ?_, .threw q, X'.here.running, hend, Or.inr ⟨q, rfl, E, ce, locs, hx _ hT (X'.ends _).1.alike, hcell9, hv, hcl, (X'.ends _).1, (X'.ends _).2.mono hc hs, hf⟩⟩
  rw [X.pushThrowing_eq]
  exact st
/-- a thing of a world lies in the heap -/
theorem vx_lt {D : va_G} {cl : List vw_C} {ws : va_W} {H1 : Heap} (h : va_P D cl ws H1) {k : Nat} {q : Nat × va_E} (hk : ws[k]? = some q) : q.1 < H1.size := (h k q hk).lt
end VXS
/-! ===== END ===== -/
/-! ===== BEGIN methods with a table of their own: called by a name, returning or throwing ===== -/
section VXH
/-! vx_backW, vx_callVX, vx_callSX, vx_callVW, vx_runVW, vx_runVX, vx_runSX, vx_ofWH follow the same proofs as their sisters above (Free/Laws.lean, Shelf42/LK1.lean); vx_outP calls Shelf42/NT130.lean (outThrough). -/
section
variable {l : Launch} {R : Room} {p : Program} {e : Env} {below : List Frame} {s : State} {sargs : Array Value} {y : MethodName} {len W9 : Nat}
theorem vx_backW {ws : List Cond} {rm : Room} {Pc : Array Value → State → Prop} {Qc : Array Value → State → Outcome → State → Prop} {XC : String → State → State → Prop} {mc ms : Nat} {free : Addr → Prop} {bytes : ByteArray} {maxL : Nat} {ret : Option FieldType} {hh : List (Nat × Nat × Nat × Nat)}
    (hM : vx_Met l y ws rm Pc Qc XC mc ms free) (hblind : FrameBlind Pc) (hrc : rm.cells = mc) (hrs : rm.slots = ms)
    (hframes : rm.frames + 1 ≤ R.frames) (hlocals : W9 + (maxL + 11) + rm.locals ≤ R.locals)
    (hws : ∀ w ∈ ws, ∀ a' U, s.WarmedH U.vm → w.before a' U = true) (hcode : Cond.codeWith y bytes maxL ret hh ∈ ws) (hinit : ∀ a' U, s.WarmedH U.vm → (Cond.initialized y.cls).before a' U = true) :
    vx_Back l R p e below s sargs y len W9 (PreOf R mc ms Pc) (PostOf Qc mc ms free) (vx_Post XC mc ms free) := by
  intro m meth c A g ig mk a X hg hsize hdg hW hn hp
  have h1 : (headSpec ws rm).pre.before a A.U = true := atoms_intro fun w hw => hws w hw _ _ X.warmed
  have h2 : (Cond.codeWith y bytes maxL ret hh).before a A.U = true := hws _ hcode _ _ X.warmed
  have h3 : (Cond.initialized y.cls).before a A.U = true := hinit _ _ X.warmed
  have h4 : A.cells + (headSpec ws rm).room.cells ≤ R.cells := by rw [show (headSpec ws rm).room.cells = mc from hrc]; exact hp.1
  have h5 : A.slots + (headSpec ws rm).room.slots ≤ R.slots := by rw [show (headSpec ws rm).room.slots = ms from hrs]; exact hp.2.1
  have hPc : Pc a (A.U.calling g mk a) := hblind _ _ _ _ hp.2.2
  obtain ⟨U, Ls, c0, s0⟩ := A
  dsimp only [Pt.U, Pt.locs, Pt.cells, Pt.slots] at h1 h2 h3 h4 h5 X hn hPc ⊢
  obtain ⟨m9, methY, cY, hn9, hmY, hcY, -, hlY, -⟩ := Cond.codeWith_spec h2
  cases Option.some.inj (hn9.symm.trans hn)
  obtain ⟨kY, hkY, -⟩ := className_of_methodNamed hn
  have hinitY : kY.init = .initialized := Cond.initialized_spec (findClass_of_methodNamed hn) hkY h3
  have h : At U g.method c below := by rw [hg]; exact X.here
  have hlocals9 : W9 + (maxL + 11) + (headSpec ws rm).room.locals ≤ R.locals := hlocals
  have happ : (headSpec ws rm).appliesLoose y e.platform (U.calling g mk a) = true :=
    Spec.appliesLoose_calling (g := g) h hdg hn hkY hinitY
      (X.room_calling (g := g) (R' := (headSpec ws rm).room) hsize hmY hcY hframes (by rw [hlY]; omega) h4 h5) h1
  obtain ⟨mid, hmid⟩ := h.above
  have hfr : (U.setTop g).frames = (.java g :: mid) ++ below := by rw [State.frames_setTop' g h.top, hmid]; rfl
  obtain ⟨o, s₂, hsteps, -, hend, hq⟩ := Steps.callFree hM p X.admits X.cas X.clock (acts := []) hfr happ hPc trivial
  have hq' : vx_Q Qc XC mc ms free a (U.calling g mk a) o s₂ := hq
  rw [State.frames_setTop' g h.top] at hend
  obtain ⟨g₀, hg0⟩ := Option.isSome_iff_exists.mp h.top
  obtain ⟨r, hr⟩ := State.topJava?_eq_some.mp hg0
  have hr' : (({ U with heap := s₂.heap, slotsUsed := s₂.slotsUsed } : State).setVm s₂.vm).frames = .java g₀ :: r := hr
  rcases hq' with ⟨hqc, L, hfe, hL⟩ | ⟨q, rfl, E, ce, L, hx, hce, hcv, hcl, hW₂, hsm, hL⟩
  · obtain ⟨⟨v, rfl⟩, hW₂, e2, q2, q3, q4, q5, q6⟩ := id hfe
    have e3 : s₂ = ({ (U.calling g mk a).setFrames s₂.frames with heap := s₂.heap, slotsUsed := s₂.slotsUsed } : State).setVm s₂.vm := by
      have : s₂ = ({ s₂ with vm := (U.calling g mk a).vm } : State).setVm s₂.vm := rfl
      rw [e2] at this
      exact this
    obtain ⟨c₂, i₂, len₂, hc₂, hd₂, hf₂⟩ := hend
    have hW' : U.WarmedH s₂.vm := hW₂
    have hcc : c₂ = c := by
      have h1 : s₂.code? g.method = U.code? g.method := by
        rw [State.code?_eq, State.code?_eq, hW'.alike.method?]
      exact Option.some.inj (hc₂.symm.trans (h1.trans h.code))
    subst hcc
    have hlen : len₂ = len := by rw [hdg] at hd₂; cases hd₂; rfl
    subst hlen
    have hs₂ : s₂ = (({ U with heap := s₂.heap, slotsUsed := s₂.slotsUsed } : State).setVm s₂.vm).setTop { g with pc := g.pc + len₂, stack := v.toList ++ g.stack } := by
      refine e3.trans ?_
      rw [hf₂, State.calling_eq h.top, State.setFrames_setFrames, State.setTop_of_frames _ hr', hr]
      rfl
    have hsame : U.sameButNew ({ U with heap := s₂.heap, slotsUsed := s₂.slotsUsed } : State) L mc ms := by
      refine ⟨?_, q2, q3, q4, q5, q6⟩
      obtain ⟨t, ht, -⟩ := State.frames_cons hr
      show ({ U with heap := s₂.heap, slotsUsed := s₂.slotsUsed } : State) = { U.setFrames U.frames with heap := s₂.heap, slotsUsed := s₂.slotsUsed }
      rw [State.setFrames_self ht]
    subst hg
    refine Or.inl ⟨v, ⟨(({ U with heap := s₂.heap, slotsUsed := s₂.slotsUsed } : State).setVm s₂.vm), Ls ++ L, c0 + mc, s0 + ms⟩,
      ⟨X.admits, X.cas, X.clock, X.frames, X.room, X.hears, X.method, X.code, (X.here.setHeapUsed s₂.heap s₂.slotsUsed).setVm hW'.alike, X.tail, State.WarmedH.trans X.warmed hW', X.limits, X.bytes, X.same.trans (hsame.setVm s.vm)⟩,
      ⟨g, mk, s₂, L, rfl, rfl, hqc, rfl, hL, rfl, rfl⟩, ?_⟩
    show Steps p.tables e below _ ((({ U with heap := s₂.heap, slotsUsed := s₂.slotsUsed } : State).setVm s₂.vm).setTop { g with pc := g.pc + len₂, stack := v.toList ++ g.stack })
    rw [← hs₂]
    exact hsteps
  · obtain ⟨e2, q2, q3, q4, q5, q6⟩ := id hsm
    have e3 : s₂ = ({ (U.calling g mk a).setFrames s₂.frames with heap := s₂.heap, slotsUsed := s₂.slotsUsed } : State).setVm s₂.vm := by
      have : s₂ = ({ s₂ with vm := (U.calling g mk a).vm } : State).setVm s₂.vm := rfl
      rw [e2] at this
      exact this
    have hf₂ : s₂.frames = .throwing q :: .java g :: U.frames.tail := hend
    have hW' : U.WarmedH s₂.vm := hW₂
    have hs₂ : s₂ = ((({ U with heap := s₂.heap, slotsUsed := s₂.slotsUsed } : State).setVm s₂.vm).setTop g).pushFrame (.throwing q) := by
      refine e3.trans ?_
      rw [hf₂, State.calling_eq h.top, State.setFrames_setFrames, State.pushFrame, State.frames_setTop _ hr', State.setTop_of_frames _ hr', State.setFrames_setFrames, hr]
      rfl
    have hsame : U.sameButNew ({ U with heap := s₂.heap, slotsUsed := s₂.slotsUsed } : State) L mc ms := by
      refine ⟨?_, q2, q3, q4, q5, q6⟩
      obtain ⟨t, ht, -⟩ := State.frames_cons hr
      show ({ U with heap := s₂.heap, slotsUsed := s₂.slotsUsed } : State) = { U.setFrames U.frames with heap := s₂.heap, slotsUsed := s₂.slotsUsed }
      rw [State.setFrames_self ht]
    subst hg
    refine Or.inr ⟨q, ⟨(({ U with heap := s₂.heap, slotsUsed := s₂.slotsUsed } : State).setVm s₂.vm), Ls ++ L, c0 + mc, s0 + ms⟩,
      ⟨X.admits, X.cas, X.clock, X.frames, X.room, X.hears, X.method, X.code, (X.here.setHeapUsed s₂.heap s₂.slotsUsed).setVm hW'.alike, X.tail, State.WarmedH.trans X.warmed hW', X.limits, X.bytes, X.same.trans (hsame.setVm s.vm)⟩,
      ⟨g, mk, s₂, L, E, ce, rfl, rfl, hx, hce, hcv, hcl, rfl, hL, rfl, rfl⟩, ?_⟩
    show Steps p.tables e below _ (((({ U with heap := s₂.heap, slotsUsed := s₂.slotsUsed } : State).setVm s₂.vm).setTop g).pushFrame (.throwing q))
    rw [← hs₂]
    exact hsteps
end
variable {p : Program} {l : Launch} {e : Env} {R : Room} {s : State} {m : MethodId} {args : Array Value} {below : List Frame} {meth : Method} {c : Code} {T : State} {H : Heap} {locs : List Loc} {cells slots : Nat}
theorem vx_callVX (X : Stand p l e R s m args below meth c T locs cells slots) (hexec : p.tables.exec = Jvm.exec) {own C : String} {index : Nat} {y : MethodName} {bytes : ByteArray} {maxL : Nat} {ret : Option FieldType} {hh : List (Nat × Nat × Nat × Nat)}
    (hown : s.vm.findClass own = some m.cls) (hlink : (Cond.methodLink own index y).before args s = true) (hinst : (Cond.instanceMethod y).before args s = true) (hsel : (Cond.selects C y y).before args s = true)
    (hcode : (Cond.codeWith y bytes maxL ret hh).before args s = true) (hy : y.cls ≠ "java/lang/invoke/MethodHandle" ∧ y.cls ≠ "java/lang/invoke/VarHandle")
    {W9 : Nat} {Pre : Pt → Array Value → Prop} {Post : Pt → Array Value → Option Value → Pt → Prop} {PostX : Pt → Array Value → Addr → Pt → Prop} (hK : vx_Back l R p e below s args y 3 W9 Pre Post PostX)
    {b : Addr} {cellB : Cell} (hcell : T.heap[b]? = some cellB) (hobj : cellB.vm.isStatics = false) (hcls : s.vm.findClass C = some cellB.cls)
    {g : JFrame} (hg : g.method = m) (hsize : g.locals.size = c.maxLocals) {argsL rest : List Value} (hlen : ∀ sig, parseMethodDescriptor y.desc = some sig → argsL.length = sig.parameters.length)
    (hstack : g.stack = argsL.reverse ++ .ref b :: rest) (hW : 2 * g.monitorRoom + (rest.map fun v => v.category).sum ≤ W9) (hdg : decode c.code g.pc = .ok (.invokevirtual index, 3))
    (hpre : ∀ vm₁, s.WarmedH vm₁ → Pre ⟨T.setVm vm₁, locs, cells, slots⟩ (Value.ref b :: argsL).toArray) :
    (∃ (v : Option Value) (vm₁ : Vm) (B : Pt), s.WarmedH vm₁ ∧ Stand p l e R s m args below meth c B.U B.locs B.cells B.slots ∧ Post ⟨T.setVm vm₁, locs, cells, slots⟩ (Value.ref b :: argsL).toArray v B ∧
      ∀ target, Steps p.tables e below (B.U.setTop { g with pc := g.pc + 3, stack := v.toList ++ rest }) target → Steps p.tables e below (T.setTop g) target) ∨
    (∃ (q : Addr) (vm₁ : Vm) (B : Pt), s.WarmedH vm₁ ∧ Stand p l e R s m args below meth c B.U B.locs B.cells B.slots ∧ PostX ⟨T.setVm vm₁, locs, cells, slots⟩ (Value.ref b :: argsL).toArray q B ∧
      Steps p.tables e below (T.setTop g) ((B.U.setTop { g with stack := rest }).pushFrame (.throwing q))) := by
  obtain ⟨mk, methM, hnamed, hmethM, hstM, habM⟩ := Cond.instanceMethod_spec hinst
  obtain ⟨m8, methM', cM, hn8, hmethM', -, -, -, -, -, -, hsigM⟩ := Cond.codeWith_spec hcode
  cases Option.some.inj (hn8.symm.trans hnamed)
  cases hmethM.symm.trans hmethM'
  obtain ⟨c2, r2, m2, q1, q2, q3, q4, kP, hkP, hkPi⟩ := Cond.selects_spec hsel
  cases hcls.symm.trans q1
  cases (State.methodFound?_of_named hnamed hy).symm.trans q2
  cases hnamed.symm.trans q3
  have hselP : selectMethod e.platform s.vm cellB.cls mk = .method mk := by rw [Launch.admits_selectMethod X.admits]; exact q4
  obtain ⟨vm₁, X₁, hstep₁⟩ := X.invokevirtual hexec hown hlink hnamed hmethM hstM hkP hkPi hy (a := b) (cell := cellB) hcell
    (fun z h => by rw [h] at hobj; cases hobj) hselP hmethM habM hkP hkPi (g := g) hg (argsL := argsL) (rest := rest) (hlen _ hsigM) hstack hdg
  rcases hK m meth c ⟨T.setVm vm₁, locs, cells, slots⟩ { g with stack := rest } (.invokevirtual index) mk (Value.ref b :: argsL).toArray X₁ hg hsize hdg hW (X₁.named hnamed) (hpre vm₁ X₁.warmed) with ⟨v, B, X', hpost, hsteps⟩ | ⟨q, B, X', hpost, hsteps⟩
  · exact Or.inl ⟨v, vm₁, B, X₁.warmed, X', hpost, fun target h => hstep₁ _ fun acts => by rw [doInvoke_state]; exact hsteps.trans h⟩
  · exact Or.inr ⟨q, vm₁, B, X₁.warmed, X', hpost, hstep₁ _ fun acts => by rw [doInvoke_state]; exact hsteps⟩
theorem vx_callSX (X : Stand p l e R s m args below meth c T locs cells slots) (hexec : p.tables.exec = Jvm.exec) {own : String} {index : Nat} {y : MethodName} {bytes : ByteArray} {maxL : Nat} {ret : Option FieldType} {hh : List (Nat × Nat × Nat × Nat)}
    (hown : s.vm.findClass own = some m.cls) (hlink : (Cond.methodLink own index y).before args s = true) (hstat : (Cond.static y).before args s = true) (hinit : (Cond.initialized y.cls).before args s = true)
    (hcode : (Cond.codeWith y bytes maxL ret hh).before args s = true) (hy : y.cls ≠ "java/lang/invoke/MethodHandle" ∧ y.cls ≠ "java/lang/invoke/VarHandle")
    {W9 : Nat} {Pre : Pt → Array Value → Prop} {Post : Pt → Array Value → Option Value → Pt → Prop} {PostX : Pt → Array Value → Addr → Pt → Prop} (hK : vx_Back l R p e below s args y 3 W9 Pre Post PostX)
    {g : JFrame} (hg : g.method = m) (hsize : g.locals.size = c.maxLocals) {argsL rest : List Value} (hlen : ∀ sig, parseMethodDescriptor y.desc = some sig → argsL.length = sig.parameters.length)
    (hstack : g.stack = argsL.reverse ++ rest) (hW : 2 * g.monitorRoom + (rest.map fun v => v.category).sum ≤ W9) (hdg : decode c.code g.pc = .ok (.invokestatic index, 3))
    (hpre : ∀ vm₁, s.WarmedH vm₁ → Pre ⟨T.setVm vm₁, locs, cells, slots⟩ argsL.toArray) :
    (∃ (v : Option Value) (vm₁ : Vm) (B : Pt), s.WarmedH vm₁ ∧ Stand p l e R s m args below meth c B.U B.locs B.cells B.slots ∧ Post ⟨T.setVm vm₁, locs, cells, slots⟩ argsL.toArray v B ∧
      ∀ target, Steps p.tables e below (B.U.setTop { g with pc := g.pc + 3, stack := v.toList ++ rest }) target → Steps p.tables e below (T.setTop g) target) ∨
    (∃ (q : Addr) (vm₁ : Vm) (B : Pt), s.WarmedH vm₁ ∧ Stand p l e R s m args below meth c B.U B.locs B.cells B.slots ∧ PostX ⟨T.setVm vm₁, locs, cells, slots⟩ argsL.toArray q B ∧
      Steps p.tables e below (T.setTop g) ((B.U.setTop { g with stack := rest }).pushFrame (.throwing q))) := by
  obtain ⟨mk, methM, cM, hnamed, hmethM, -, -, -, -, -, -, hsigM⟩ := Cond.codeWith_spec hcode
  have hstatic : methM.isStatic = true := Cond.static_spec hnamed hmethM hstat
  obtain ⟨kP, hkP, -⟩ := className_of_methodNamed hnamed
  have hinitP : kP.init = .initialized := Cond.initialized_spec (findClass_of_methodNamed hnamed) hkP hinit
  obtain ⟨vm₁, X₁, hstep₁⟩ := X.invokestatic hexec hown hlink hnamed hmethM hstatic hkP hinitP hy (g := g) hg (argsL := argsL) (rest := rest) (hlen _ hsigM) hstack hdg
  rcases hK m meth c ⟨T.setVm vm₁, locs, cells, slots⟩ { g with stack := rest } (.invokestatic index) mk argsL.toArray X₁ hg hsize hdg hW (X₁.named hnamed) (hpre vm₁ X₁.warmed) with ⟨v, B, X', hpost, hsteps⟩ | ⟨q, B, X', hpost, hsteps⟩
  · exact Or.inl ⟨v, vm₁, B, X₁.warmed, X', hpost, fun target h => hstep₁ _ fun acts => by rw [doInvoke_state]; exact hsteps.trans h⟩
  · exact Or.inr ⟨q, vm₁, B, X₁.warmed, X', hpost, hstep₁ _ fun acts => by rw [doInvoke_state]; exact hsteps⟩
theorem vx_callVW (X : Stand p l e R s m args below meth c T locs cells slots) (hexec : p.tables.exec = Jvm.exec) {own C : String} {index : Nat} {y : MethodName} {bytes : ByteArray} {maxL : Nat} {ret : Option FieldType} {hh : List (Nat × Nat × Nat × Nat)}
    (hown : s.vm.findClass own = some m.cls) (hlink : (Cond.methodLink own index y).before args s = true) (hinst : (Cond.instanceMethod y).before args s = true) (hsel : (Cond.selects C y y).before args s = true)
    (hcode : (Cond.codeWith y bytes maxL ret hh).before args s = true) (hy : y.cls ≠ "java/lang/invoke/MethodHandle" ∧ y.cls ≠ "java/lang/invoke/VarHandle")
    {W9 : Nat} {Pre : Pt → Array Value → Prop} {Post : Pt → Array Value → Option Value → Pt → Prop} (hK : Back l R p e below s args y 3 W9 Pre Post)
    {b : Addr} {cellB : Cell} (hcell : T.heap[b]? = some cellB) (hobj : cellB.vm.isStatics = false) (hcls : s.vm.findClass C = some cellB.cls)
    {g : JFrame} (hg : g.method = m) (hsize : g.locals.size = c.maxLocals) {argsL rest : List Value} (hlen : ∀ sig, parseMethodDescriptor y.desc = some sig → argsL.length = sig.parameters.length)
    (hstack : g.stack = argsL.reverse ++ .ref b :: rest) (hW : 2 * g.monitorRoom + (rest.map fun v => v.category).sum ≤ W9) (hdg : decode c.code g.pc = .ok (.invokevirtual index, 3))
    (hpre : ∀ vm₁, s.WarmedH vm₁ → Pre ⟨T.setVm vm₁, locs, cells, slots⟩ (Value.ref b :: argsL).toArray) :
    ∃ (v : Option Value) (vm₁ : Vm) (B : Pt), s.WarmedH vm₁ ∧ Stand p l e R s m args below meth c B.U B.locs B.cells B.slots ∧ Post ⟨T.setVm vm₁, locs, cells, slots⟩ (Value.ref b :: argsL).toArray v B ∧
      ∀ target, Steps p.tables e below (B.U.setTop { g with pc := g.pc + 3, stack := v.toList ++ rest }) target → Steps p.tables e below (T.setTop g) target := by
  obtain ⟨mk, methM, hnamed, hmethM, hstM, habM⟩ := Cond.instanceMethod_spec hinst
  obtain ⟨m8, methM', cM, hn8, hmethM', -, -, -, -, -, -, hsigM⟩ := Cond.codeWith_spec hcode
  cases Option.some.inj (hn8.symm.trans hnamed)
  cases hmethM.symm.trans hmethM'
  obtain ⟨c2, r2, m2, q1, q2, q3, q4, kP, hkP, hkPi⟩ := Cond.selects_spec hsel
  cases hcls.symm.trans q1
  cases (State.methodFound?_of_named hnamed hy).symm.trans q2
  cases hnamed.symm.trans q3
  have hselP : selectMethod e.platform s.vm cellB.cls mk = .method mk := by rw [Launch.admits_selectMethod X.admits]; exact q4
  obtain ⟨vm₁, X₁, hstep₁⟩ := X.invokevirtual hexec hown hlink hnamed hmethM hstM hkP hkPi hy (a := b) (cell := cellB) hcell
    (fun z h => by rw [h] at hobj; cases hobj) hselP hmethM habM hkP hkPi (g := g) hg (argsL := argsL) (rest := rest) (hlen _ hsigM) hstack hdg
  obtain ⟨v, B, X', hpost, hsteps⟩ := hK m meth c ⟨T.setVm vm₁, locs, cells, slots⟩ { g with stack := rest } (.invokevirtual index) mk (Value.ref b :: argsL).toArray X₁ hg hsize hdg hW (X₁.named hnamed) (hpre vm₁ X₁.warmed)
  exact ⟨v, vm₁, B, X₁.warmed, X', hpost, fun target h => hstep₁ _ fun acts => by rw [doInvoke_state]; exact hsteps.trans h⟩
abbrev vx_CVW (R : Room) (s : State) (args : Array Value) (own C : String) (index : Nat) (y : MethodName) (bytes : ByteArray) (maxL : Nat) (ret : Option FieldType) (hh : List (Nat × Nat × Nat × Nat)) (ws : List Cond) (rm : Room) (mc ms n : Nat) : Prop :=
  (rm.cells = mc ∧ rm.slots = ms ∧ rm.frames + 1 ≤ R.frames ∧ 8 + (maxL + 11) + rm.locals ≤ R.locals ∧ (∀ w ∈ ws, ∀ (a' : Array Value) (U : State), s.WarmedH U.vm → w.before a' U = true) ∧ Cond.codeWith y bytes maxL ret hh ∈ ws) ∧
  (Cond.codeWith y bytes maxL ret hh).before args s = true ∧ (Cond.initialized y.cls).before args s = true ∧ (y.cls ≠ "java/lang/invoke/MethodHandle" ∧ y.cls ≠ "java/lang/invoke/VarHandle") ∧
  (∀ sig, parseMethodDescriptor y.desc = some sig → n = sig.parameters.length) ∧ (Cond.methodLink own index y).before args s = true ∧ (Cond.instanceMethod y).before args s = true ∧ (Cond.selects C y y).before args s = true
theorem vx_cwVW {own C : String} {index maxL mc ms : Nat} {y : MethodName} {bytes : ByteArray} {ret : Option FieldType} {hh : List (Nat × Nat × Nat × Nat)} {Ts ws ws' : List Cond} {rm : Room} (n : Nat) (ht : ∀ w ∈ Ts, w.before args s = true) (hT : GoodIn Ts (wsV own index C y ws)) (hw : ws = Cond.codeWith y bytes maxL ret hh :: ws') (hrc : rm.cells = mc) (hrs : rm.slots = ms)
    (hd : y.cls = C ∧ y.cls ≠ "java/lang/invoke/MethodHandle" ∧ y.cls ≠ "java/lang/invoke/VarHandle" ∧ (parseMethodDescriptor y.desc).map (fun d => d.parameters.length) = some n) (hR : rm.frames + 1 ≤ R.frames ∧ 8 + (maxL + 11) + rm.locals ≤ R.locals) :
    vx_CVW R s args own C index y bytes maxL ret hh ws rm mc ms n := by
  obtain ⟨hC, hd⟩ := hd
  subst hC
  have ok : ∀ w ∈ wsV own index y.cls y ws, w.before args s = true := fun w h => ht w (hT w h).1
  have hG : GoodIn Ts ws := fun w h => hT w (by unfold wsV; exact List.mem_append_right _ h)
  have hc : Cond.codeWith y bytes maxL ret hh ∈ ws := by rw [hw]; exact List.mem_cons_self
  refine ⟨⟨hrc, hrs, hR.1, hR.2, pay_in ht hG, hc⟩, ht _ (hG _ hc).1, ok _ (by simp [wsV]), ⟨hd.1, hd.2.1⟩, fun sig h => ?_, ok _ (by simp [wsV]), ok _ (by simp [wsV]), ok _ (by simp [wsV])⟩
  have h2 := hd.2.2
  rw [h] at h2
  exact (Option.some.inj h2).symm
theorem vx_runVW {y : MethodName} {bytes cc : ByteArray} {maxL nL mc ms n index : Nat} {ret : Option FieldType} {hh : List (Nat × Nat × Nat × Nat)} {ws : List Cond} {rm : Room} {Pc : Array Value → State → Prop} {Qc : Array Value → State → Outcome → State → Prop} {free : Addr → Prop} {Ts : List Cond} {own C : String} {b : Addr} {As rest : List Value} {g : JFrame}
    (S : CallFix p m c cc nL s args Ts own) (hM : Met l y ws rm Pc Qc mc ms free) (cw : vx_CVW R s args own C index y bytes maxL ret hh ws rm mc ms n) (hp : PreV s H C b Pc As)
    (hg : g.method = m) (hn : As.length = n) (hsize : g.locals.size = nL) (hstack : g.stack = As.reverse ++ .ref b :: rest) (hW : 2 * g.monitorRoom + (rest.map fun v => v.category).sum ≤ 8) (hdg : decode cc g.pc = .ok (.invokevirtual index, 3)) (hf : cells + mc ≤ R.cells ∧ slots + ms ≤ R.slots) :
    va_Run p l e R s m args below meth c H locs cells slots mc ms g rest (Qc (Value.ref b :: As).toArray) free := by
  obtain ⟨⟨hrc, hrs, hfr, hlo, hws, hcw⟩, hcode, hini, hy, hlen, hl, hin, hse⟩ := cw
  have hK : Back l R p e below s args y 3 8 (PreOf R mc ms Pc) (PostOf Qc mc ms free) := va_backW (hh := hh) (bytes := bytes) (maxL := maxL) (ret := ret) hM hp.1 hrc hrs hfr hlo hws hcw (fun a' U hW => word_at hW (Or.inl (by first | rfl | simp [Cond.onTables, Cond.keeps, Cond.steady])) hini)
  obtain ⟨hx, hb, hml, ho, -⟩ := S
  obtain ⟨-, ⟨cellB, hcB, hoB, hclB⟩, hPc⟩ := hp
  intro T hT X
  obtain ⟨v, vm₁, ⟨U', l2, c2, s2⟩, hW₁, X', ⟨g', mk, t, L, e1, e2, hq, h1, hL, h2, h3⟩, st⟩ := vx_callVW X hx (C := C) (hh := hh) (bytes := bytes) (maxL := maxL) (ret := ret) ho hl hin hse hcode hy hK (by rw [hT]; exact hcB) hoB hclB hg (hsize.trans hml.symm) (argsL := As) (rest := rest) (fun sig h => hn.trans (hlen sig h)) hstack hW (by rw [hb]; exact hdg)
    (fun vm₁ hW₁ => ⟨hf.1, hf.2, hPc (T.setVm vm₁) hT hW₁⟩)
  dsimp only [Pt.U, Pt.locs, Pt.cells, Pt.slots] at X' e1 e2 h1 h2 h3 st
  subst h1; subst h2; subst h3
  exact ⟨v, (T.setVm vm₁).calling g' mk (Value.ref b :: As).toArray, t, U', L, hT, X', hL, e1, e2, hq, st⟩
section
variable {y : MethodName} {bytes cc : ByteArray} {maxL nL mc ms n index : Nat} {ret : Option FieldType} {ws : List Cond} {rm : Room} {Pc : Array Value → State → Prop} {Qc : Array Value → State → Outcome → State → Prop} {XC : String → State → State → Prop} {free : Addr → Prop} {Ts : List Cond} {own C : String} {b : Addr} {As rest : List Value} {g : JFrame}
theorem vx_runVX {hh : List (Nat × Nat × Nat × Nat)} (S : CallFix p m c cc nL s args Ts own) (hM : vx_Met l y ws rm Pc Qc XC mc ms free) (cw : vx_CVW R s args own C index y bytes maxL ret hh ws rm mc ms n) (hp : PreV s H C b Pc As)
    (hg : g.method = m) (hn : As.length = n) (hsize : g.locals.size = nL) (hstack : g.stack = As.reverse ++ .ref b :: rest) (hW : 2 * g.monitorRoom + (rest.map fun v => v.category).sum ≤ 8) (hdg : decode cc g.pc = .ok (.invokevirtual index, 3)) (hf : cells + mc ≤ R.cells ∧ slots + ms ≤ R.slots) :
    vx_Run p l e R s m args below meth c H locs cells slots mc ms g rest (Qc (Value.ref b :: As).toArray) XC free := by
  obtain ⟨⟨hrc, hrs, hfr, hlo, hws, hcw⟩, hcode, hini, hy, hlen, hl, hin, hse⟩ := cw
  have hK : vx_Back l R p e below s args y 3 8 (PreOf R mc ms Pc) (PostOf Qc mc ms free) (vx_Post XC mc ms free) := vx_backW (hh := hh) (bytes := bytes) (maxL := maxL) (ret := ret) hM hp.1 hrc hrs hfr hlo hws hcw (fun a' U hW => word_at hW (Or.inl (by first | rfl | simp [Cond.onTables, Cond.keeps, Cond.steady])) hini)
  obtain ⟨hx, hb, hml, ho, -⟩ := S
  obtain ⟨-, ⟨cellB, hcB, hoB, hclB⟩, hPc⟩ := hp
  intro T hT X
  rcases vx_callVX X hx (C := C) (hh := hh) (bytes := bytes) (maxL := maxL) (ret := ret) ho hl hin hse hcode hy hK (by rw [hT]; exact hcB) hoB hclB hg (hsize.trans hml.symm) (argsL := As) (rest := rest) (fun sig h => hn.trans (hlen sig h)) hstack hW (by rw [hb]; exact hdg)
    (fun vm₁ hW₁ => ⟨hf.1, hf.2, hPc (T.setVm vm₁) hT hW₁⟩) with ⟨v, vm₁, ⟨U', l2, c2, s2⟩, hW₁, X', ⟨g', mk, t, L, e1, e2, hq, h1, hL, h2, h3⟩, st⟩ | ⟨q, vm₁, ⟨U', l2, c2, s2⟩, hW₁, X', ⟨g', mk, t, L, E, ce, e1, e2, hq, hce, hcv, hcl, h1, hL, h2, h3⟩, st⟩
  · dsimp only [Pt.U, Pt.locs, Pt.cells, Pt.slots] at X' e1 e2 h1 h2 h3 st
    subst h1; subst h2; subst h3
    exact Or.inl ⟨v, (T.setVm vm₁).calling g' mk (Value.ref b :: As).toArray, t, U', L, hT, X', hL, e1, e2, hq, st⟩
  · dsimp only [Pt.U, Pt.locs, Pt.cells, Pt.slots] at X' e1 e2 h1 h2 h3 st hcl
    subst h1; subst h2; subst h3
    exact Or.inr ⟨q, (T.setVm vm₁).calling g' mk (Value.ref b :: As).toArray, t, U', L, E, ce, hT, X', hL, e1, e2, hq, hce, hcv, vx_cls hW₁ hcl, st⟩
theorem vx_runSX {hh : List (Nat × Nat × Nat × Nat)} (S : CallFix p m c cc nL s args Ts own) (hM : vx_Met l y ws rm Pc Qc XC mc ms free) (cw : vx_CSW R s args own index y bytes maxL ret hh ws rm mc ms n) (hp : PreS s H Pc As)
    (hg : g.method = m) (hn : As.length = n) (hsize : g.locals.size = nL) (hstack : g.stack = As.reverse ++ rest) (hW : 2 * g.monitorRoom + (rest.map fun v => v.category).sum ≤ 8) (hdg : decode cc g.pc = .ok (.invokestatic index, 3)) (hf : cells + mc ≤ R.cells ∧ slots + ms ≤ R.slots) :
    vx_Run p l e R s m args below meth c H locs cells slots mc ms g rest (Qc As.toArray) XC free := by
  obtain ⟨⟨hrc, hrs, hfr, hlo, hws, hcw⟩, hcode, hini, hy, hlen, hl, hstt⟩ := cw
  have hK : vx_Back l R p e below s args y 3 8 (PreOf R mc ms Pc) (PostOf Qc mc ms free) (vx_Post XC mc ms free) := vx_backW (hh := hh) (bytes := bytes) (maxL := maxL) (ret := ret) hM hp.1 hrc hrs hfr hlo hws hcw (fun a' U hW => word_at hW (Or.inl (by first | rfl | simp [Cond.onTables, Cond.keeps, Cond.steady])) hini)
  obtain ⟨hx, hb, hml, ho, -⟩ := S
  intro T hT X
  rcases vx_callSX X hx (hh := hh) (bytes := bytes) (maxL := maxL) (ret := ret) ho hl hstt hini hcode hy hK hg (hsize.trans hml.symm) (argsL := As) (rest := rest) (fun sig h => hn.trans (hlen sig h)) hstack hW (by rw [hb]; exact hdg)
    (fun vm₁ hW₁ => ⟨hf.1, hf.2, hp.2 (T.setVm vm₁) hT hW₁⟩) with ⟨v, vm₁, ⟨U', l2, c2, s2⟩, hW₁, X', ⟨g', mk, t, L, e1, e2, hq, h1, hL, h2, h3⟩, st⟩ | ⟨q, vm₁, ⟨U', l2, c2, s2⟩, hW₁, X', ⟨g', mk, t, L, E, ce, e1, e2, hq, hce, hcv, hcl, h1, hL, h2, h3⟩, st⟩
  · dsimp only [Pt.U, Pt.locs, Pt.cells, Pt.slots] at X' e1 e2 h1 h2 h3 st
    subst h1; subst h2; subst h3
    exact Or.inl ⟨v, (T.setVm vm₁).calling g' mk As.toArray, t, U', L, hT, X', hL, e1, e2, hq, st⟩
  · dsimp only [Pt.U, Pt.locs, Pt.cells, Pt.slots] at X' e1 e2 h1 h2 h3 st hcl
    subst h1; subst h2; subst h3
    exact Or.inr ⟨q, (T.setVm vm₁).calling g' mk As.toArray, t, U', L, E, ce, hT, X', hL, e1, e2, hq, hce, hcv, vx_cls hW₁ hcl, st⟩
end
end VXH
theorem vx_ofWH {l : Launch} {y : MethodName} {ws ws' : List Cond} {rm : Room} {Pc : Array Value → State → Prop} {Qc : Array Value → State → Outcome → State → Prop} {XC : String → State → State → Prop} {mc ms : Nat} {free : Addr → Prop} {cc : ByteArray} {maxL : Nat} {ret : Option FieldType} {hh : List (Nat × Nat × Nat × Nat)}
    (hy : plainName y.cls = true) (hw : ws = Cond.codeWith y cc maxL ret hh :: ws')
    (body : ∀ p e s m args below meth c s₁, BodyLoose p l y (headSpec ws rm) cc maxL ret e s m args below meth c s₁ → c.maxLocals = maxL → Pc args s →
      W p l e (headSpec ws rm).room s m args below meth c s.heap [] 0 0 (vx_MQ below Qc XC args s mc ms free) (entryFrame m args maxL)) : vx_Met l y ws rm Pc Qc XC mc ms free := by
  refine MetFree.of_bodyS (code := cc) (maxLocals := maxL) (ret := ret) hy ?_ ?_
  · intro args s m h hn
    obtain ⟨m9, meth, c, hn9, h1, h2, h3, h4, -, h5, h6, -⟩ := Cond.codeWith_spec (atoms_spec (ws := ws) h _ (by rw [hw]; exact List.mem_cons_self))
    cases hn.symm.trans hn9
    exact ⟨meth, c, h1, h2, h3, h4, h5, h6⟩
  · intro p e s m args below meth c s₁ B hml hP _
    have hh0 : s₁.heap = s.heap := by rw [B.state]; rfl
    obtain ⟨t, a1, o, b1, b2, b3⟩ := body p e s m args below meth c s₁ B hml hP s₁ hh0 (Stand.of_body B)
    exact ⟨t, o, a1, b1, b2, b3⟩
/-! ===== END ===== -/
end
section
/-! ===== BEGIN printed: names, fields, word lists, decode rows ===== -/
def RX0 : String := "MeterRooms$Memory"
def TX0 : u_T := fun k => match k with
  | 0 => ("MeterRooms$Memory", "states", "[LMeterRooms$State;", true)
  | _ => ("MeterRooms$Memory", "count", "I", false)
def tyX0 : Nat → FieldType := fun k => match k with
  | 0 => .array (.object "MeterRooms$State")
  | _ => .int
abbrev wsX00 : List Cond := u_ws RX0 TX0 2
theorem nmX0 : ∀ a, a < 2 → ∀ b, b < 2 → a ≠ b → (TX0 a).2.1 ≠ (TX0 b).2.1 := by decide +kernel
theorem tyX0_ok : ∀ k, k < 2 → parseFieldDescriptor (TX0 k).2.2.1 = some (tyX0 k) := by decide +kernel
abbrev cX0_init : ByteArray := prog_2_method_1_code
def yX0_init : MethodName := ⟨RX0, "<init>", "()V"⟩
abbrev cX0_isEmpty : ByteArray := prog_2_method_2_code
def yX0_isEmpty : MethodName := ⟨RX0, "isEmpty", "()Z"⟩
abbrev cX0_forgetAll : ByteArray := prog_2_method_3_code
def yX0_forgetAll : MethodName := ⟨RX0, "forgetAll", "()V"⟩
abbrev cX0_remember : ByteArray := prog_2_method_4_code
def yX0_remember : MethodName := ⟨RX0, "remember", "(LMeterRooms$State;)V"⟩
abbrev cX0_forgetOldest : ByteArray := prog_2_method_5_code
def yX0_forgetOldest : MethodName := ⟨RX0, "forgetOldest", "()V"⟩
abbrev cX0_takeBack : ByteArray := prog_2_method_6_code
def yX0_takeBack : MethodName := ⟨RX0, "takeBack", "(LMeterRooms$State;)V"⟩
def RX1 : String := "MeterRooms$Reader"
def TX1 : u_T := fun k => match k with
  | 0 => ("MeterRooms$Reader", "text", "LMeterRooms$Text;", true)
  | 1 => ("MeterRooms$Reader", "position", "I", false)
  | 2 => ("MeterRooms$Reader", "isStuck", "Z", false)
  | 3 => ("MeterRooms$Reader", "command", "I", false)
  | 4 => ("MeterRooms$Reader", "number", "I", false)
  | 5 => ("MeterRooms$Reader", "wish", "I", false)
  | _ => ("MeterRooms$Reader", "bound", "I", false)
def tyX1 : Nat → FieldType := fun k => match k with
  | 0 => .object "MeterRooms$Text"
  | 1 => .int
  | 2 => .boolean
  | 3 => .int
  | 4 => .int
  | 5 => .int
  | _ => .int
abbrev wsX10 : List Cond := u_ws RX1 TX1 7
theorem nmX1 : ∀ a, a < 7 → ∀ b, b < 7 → a ≠ b → (TX1 a).2.1 ≠ (TX1 b).2.1 := by decide +kernel
theorem tyX1_ok : ∀ k, k < 7 → parseFieldDescriptor (TX1 k).2.2.1 = some (tyX1 k) := by decide +kernel
abbrev cX1_init : ByteArray := prog_3_method_1_code
def yX1_init : MethodName := ⟨RX1, "<init>", "()V"⟩
abbrev cX1_firstError : ByteArray := prog_3_method_2_code
def yX1_firstError : MethodName := ⟨RX1, "firstError", "()I"⟩
abbrev cX1_start : ByteArray := prog_3_method_3_code
def yX1_start : MethodName := ⟨RX1, "start", "()V"⟩
abbrev cX1_readsCommand : ByteArray := prog_3_method_4_code
def yX1_readsCommand : MethodName := ⟨RX1, "readsCommand", "()Z"⟩
abbrev cX1_isCommand : ByteArray := prog_3_method_5_code
def yX1_isCommand : MethodName := ⟨RX1, "isCommand", "(I)Z"⟩
abbrev cX1_moveIf : ByteArray := prog_3_method_6_code
def yX1_moveIf : MethodName := ⟨RX1, "moveIf", "(Z)V"⟩
abbrev cX1_readTemperature : ByteArray := prog_3_method_7_code
def yX1_readTemperature : MethodName := ⟨RX1, "readTemperature", "()I"⟩
abbrev cX1_readNumber : ByteArray := prog_3_method_8_code
def yX1_readNumber : MethodName := ⟨RX1, "readNumber", "(III)I"⟩
abbrev cX1_isBegun : ByteArray := prog_3_method_9_code
def yX1_isBegun : MethodName := ⟨RX1, "isBegun", "(IIII)Z"⟩
def RX2 : String := "MeterRooms$Room"
def TX2 : u_T := fun k => match k with
  | 0 => ("MeterRooms$Room", "number", "I", true)
  | 1 => ("MeterRooms$Room", "load", "I", false)
  | 2 => ("MeterRooms$Room", "wish", "I", false)
  | 3 => ("MeterRooms$Room", "bound", "I", false)
  | 4 => ("MeterRooms$Room", "temperature", "I", false)
  | 5 => ("MeterRooms$Room", "open", "Z", false)
  | 6 => ("MeterRooms$Room", "frost", "I", false)
  | 7 => ("MeterRooms$Room", "defrostLeft", "I", false)
  | 8 => ("MeterRooms$Room", "ran", "I", false)
  | _ => ("MeterRooms$Room", "plan", "I", false)
def tyX2 : Nat → FieldType := fun k => match k with
  | 0 => .int
  | 1 => .int
  | 2 => .int
  | 3 => .int
  | 4 => .int
  | 5 => .boolean
  | 6 => .int
  | 7 => .int
  | 8 => .int
  | _ => .int
abbrev wsX20 : List Cond := u_ws RX2 TX2 10
theorem nmX2 : ∀ a, a < 10 → ∀ b, b < 10 → a ≠ b → (TX2 a).2.1 ≠ (TX2 b).2.1 := by decide +kernel
theorem tyX2_ok : ∀ k, k < 10 → parseFieldDescriptor (TX2 k).2.2.1 = some (tyX2 k) := by decide +kernel
abbrev cX2_init : ByteArray := prog_4_method_1_code
def yX2_init : MethodName := ⟨RX2, "<init>", "(I)V"⟩
abbrev cX2_isThere : ByteArray := prog_4_method_2_code
def yX2_isThere : MethodName := ⟨RX2, "isThere", "()Z"⟩
abbrev cX2_fill : ByteArray := prog_4_method_3_code
def yX2_fill : MethodName := ⟨RX2, "fill", "(III)V"⟩
abbrev cX2_copyFrom : ByteArray := prog_4_method_4_code
def yX2_copyFrom : MethodName := ⟨RX2, "copyFrom", "(LMeterRooms$Room;)V"⟩
abbrev cX2_property : ByteArray := prog_4_method_5_code
def yX2_property : MethodName := ⟨RX2, "property", "(I)I"⟩
abbrev cX2_warmth : ByteArray := prog_4_method_6_code
def yX2_warmth : MethodName := ⟨RX2, "warmth", "()I"⟩
abbrev cX2_isWarm : ByteArray := prog_4_method_7_code
def yX2_isWarm : MethodName := ⟨RX2, "isWarm", "()Z"⟩
abbrev cX2_planMust : ByteArray := prog_4_method_8_code
def yX2_planMust : MethodName := ⟨RX2, "planMust", "()I"⟩
abbrev cX2_isHeated : ByteArray := prog_4_method_9_code
def yX2_isHeated : MethodName := ⟨RX2, "isHeated", "()Z"⟩
abbrev cX2_isCooled : ByteArray := prog_4_method_10_code
def yX2_isCooled : MethodName := ⟨RX2, "isCooled", "()Z"⟩
abbrev cX2_changeTemperature : ByteArray := prog_4_method_11_code
def yX2_changeTemperature : MethodName := ⟨RX2, "changeTemperature", "()V"⟩
abbrev cX2_changeFrost : ByteArray := prog_4_method_12_code
def yX2_changeFrost : MethodName := ⟨RX2, "changeFrost", "()V"⟩
def RX3 : String := "MeterRooms$Settings"
def TX3 : u_T := fun k => match k with
  | 0 => ("MeterRooms$Settings", "limit", "I", false)
  | 1 => ("MeterRooms$Settings", "ahead", "I", false)
  | 2 => ("MeterRooms$Settings", "others", "I", false)
  | 3 => ("MeterRooms$Settings", "heater", "I", false)
  | 4 => ("MeterRooms$Settings", "frostToDefrost", "I", false)
  | _ => ("MeterRooms$Settings", "defrostMinutes", "I", false)
def tyX3 : Nat → FieldType := fun k => match k with
  | 0 => .int
  | 1 => .int
  | 2 => .int
  | 3 => .int
  | 4 => .int
  | _ => .int
abbrev wsX30 : List Cond := u_ws RX3 TX3 6
theorem nmX3 : ∀ a, a < 6 → ∀ b, b < 6 → a ≠ b → (TX3 a).2.1 ≠ (TX3 b).2.1 := by decide +kernel
theorem tyX3_ok : ∀ k, k < 6 → parseFieldDescriptor (TX3 k).2.2.1 = some (tyX3 k) := by decide +kernel
abbrev cX3_init : ByteArray := prog_5_method_1_code
def yX3_init : MethodName := ⟨RX3, "<init>", "()V"⟩
abbrev cX3_copyFrom : ByteArray := prog_5_method_2_code
def yX3_copyFrom : MethodName := ⟨RX3, "copyFrom", "(LMeterRooms$Settings;)V"⟩
abbrev cX3_isSetting : ByteArray := prog_5_method_3_code
def yX3_isSetting : MethodName := ⟨RX3, "isSetting", "(I)Z"⟩
abbrev cX3_isAllowed : ByteArray := prog_5_method_4_code
def yX3_isAllowed : MethodName := ⟨RX3, "isAllowed", "(II)Z"⟩
abbrev cX3_value : ByteArray := prog_5_method_5_code
def yX3_value : MethodName := ⟨RX3, "value", "(I)I"⟩
abbrev cX3_change : ByteArray := prog_5_method_6_code
def yX3_change : MethodName := ⟨RX3, "change", "(II)V"⟩
def RX4 : String := "MeterRooms$Slot"
def TX4 : u_T := fun k => match k with
  | 0 => ("MeterRooms$Slot", "state", "LMeterRooms$State;", true)
  | _ => ("MeterRooms$Slot", "isFilled", "Z", false)
def tyX4 : Nat → FieldType := fun k => match k with
  | 0 => .object "MeterRooms$State"
  | _ => .boolean
abbrev wsX40 : List Cond := u_ws RX4 TX4 2
theorem nmX4 : ∀ a, a < 2 → ∀ b, b < 2 → a ≠ b → (TX4 a).2.1 ≠ (TX4 b).2.1 := by decide +kernel
theorem tyX4_ok : ∀ k, k < 2 → parseFieldDescriptor (TX4 k).2.2.1 = some (tyX4 k) := by decide +kernel
abbrev cX4_init : ByteArray := prog_6_method_1_code
def yX4_init : MethodName := ⟨RX4, "<init>", "()V"⟩
abbrev cX4_empty : ByteArray := prog_6_method_2_code
def yX4_empty : MethodName := ⟨RX4, "empty", "()V"⟩
abbrev cX4_keep : ByteArray := prog_6_method_3_code
def yX4_keep : MethodName := ⟨RX4, "keep", "(LMeterRooms$State;)V"⟩
def RX5 : String := "MeterRooms$State"
def TX5 : u_T := fun k => match k with
  | 0 => ("MeterRooms$State", "settings", "LMeterRooms$Settings;", true)
  | 1 => ("MeterRooms$State", "rooms", "[LMeterRooms$Room;", true)
  | 2 => ("MeterRooms$State", "minutes", "I", false)
  | 3 => ("MeterRooms$State", "sum", "I", false)
  | 4 => ("MeterRooms$State", "passed", "I", false)
  | 5 => ("MeterRooms$State", "greatestSum", "I", false)
  | 6 => ("MeterRooms$State", "units", "I", false)
  | 7 => ("MeterRooms$State", "begun", "I", false)
  | 8 => ("MeterRooms$State", "waited", "I", false)
  | 9 => ("MeterRooms$State", "putOff", "I", false)
  | _ => ("MeterRooms$State", "warmMinutes", "I", false)
def tyX5 : Nat → FieldType := fun k => match k with
  | 0 => .object "MeterRooms$Settings"
  | 1 => .array (.object "MeterRooms$Room")
  | 2 => .int
  | 3 => .int
  | 4 => .int
  | 5 => .int
  | 6 => .int
  | 7 => .int
  | 8 => .int
  | 9 => .int
  | _ => .int
abbrev wsX50 : List Cond := u_ws RX5 TX5 11
theorem nmX5 : ∀ a, a < 11 → ∀ b, b < 11 → a ≠ b → (TX5 a).2.1 ≠ (TX5 b).2.1 := by decide +kernel
theorem tyX5_ok : ∀ k, k < 11 → parseFieldDescriptor (TX5 k).2.2.1 = some (tyX5 k) := by decide +kernel
abbrev cX5_init : ByteArray := prog_7_method_1_code
def yX5_init : MethodName := ⟨RX5, "<init>", "()V"⟩
abbrev cX5_copyFrom : ByteArray := prog_7_method_2_code
def yX5_copyFrom : MethodName := ⟨RX5, "copyFrom", "(LMeterRooms$State;)V"⟩
abbrev cX5_account : ByteArray := prog_7_method_3_code
def yX5_account : MethodName := ⟨RX5, "account", "(I)I"⟩
abbrev cX5_roomAt : ByteArray := prog_7_method_4_code
def yX5_roomAt : MethodName := ⟨RX5, "roomAt", "(I)LMeterRooms$Room;"⟩
abbrev cX5_firstFree : ByteArray := prog_7_method_5_code
def yX5_firstFree : MethodName := ⟨RX5, "firstFree", "()LMeterRooms$Room;"⟩
abbrev cX5_countRooms : ByteArray := prog_7_method_6_code
def yX5_countRooms : MethodName := ⟨RX5, "countRooms", "()I"⟩
abbrev cX5_openDoors : ByteArray := prog_7_method_7_code
def yX5_openDoors : MethodName := ⟨RX5, "openDoors", "()I"⟩
abbrev cX5_warmestRoom : ByteArray := prog_7_method_8_code
def yX5_warmestRoom : MethodName := ⟨RX5, "warmestRoom", "()I"⟩
abbrev cX5_canBeRoom : ByteArray := prog_7_method_9_code
def yX5_canBeRoom : MethodName := ⟨RX5, "canBeRoom", "(III)Z"⟩
abbrev cX5_canPass : ByteArray := prog_7_method_10_code
def yX5_canPass : MethodName := ⟨RX5, "canPass", "(I)Z"⟩
abbrev cX5_canBeTemperature : ByteArray := prog_7_method_11_code
def yX5_canBeTemperature : MethodName := ⟨RX5, "canBeTemperature", "(I)Z"⟩
abbrev cX5_takeRoom : ByteArray := prog_7_method_12_code
def yX5_takeRoom : MethodName := ⟨RX5, "takeRoom", "(III)I"⟩
abbrev cX5_moveDoor : ByteArray := prog_7_method_13_code
def yX5_moveDoor : MethodName := ⟨RX5, "moveDoor", "(IZ)Z"⟩
abbrev cX5_takeGoods : ByteArray := prog_7_method_14_code
def yX5_takeGoods : MethodName := ⟨RX5, "takeGoods", "(II)Z"⟩
abbrev cX5_changeSetting : ByteArray := prog_7_method_15_code
def yX5_changeSetting : MethodName := ⟨RX5, "changeSetting", "(II)Z"⟩
abbrev cX5_passMinutes : ByteArray := prog_7_method_16_code
def yX5_passMinutes : MethodName := ⟨RX5, "passMinutes", "(I)Z"⟩
abbrev cX5_passMinute : ByteArray := prog_7_method_17_code
def yX5_passMinute : MethodName := ⟨RX5, "passMinute", "()V"⟩
abbrev cX5_beginDefrost : ByteArray := prog_7_method_18_code
def yX5_beginDefrost : MethodName := ⟨RX5, "beginDefrost", "(LMeterRooms$Room;)V"⟩
abbrev cX5_countMinute : ByteArray := prog_7_method_19_code
def yX5_countMinute : MethodName := ⟨RX5, "countMinute", "(LMeterRooms$Room;)V"⟩
abbrev cX5_takeUnits : ByteArray := prog_7_method_20_code
def yX5_takeUnits : MethodName := ⟨RX5, "takeUnits", "(I)V"⟩
abbrev cX5_minutesLeft : ByteArray := prog_7_method_21_code
def yX5_minutesLeft : MethodName := ⟨RX5, "minutesLeft", "()I"⟩
abbrev cX5_spareKilowatts : ByteArray := prog_7_method_22_code
def yX5_spareKilowatts : MethodName := ⟨RX5, "spareKilowatts", "()I"⟩
abbrev cX5_planMinute : ByteArray := prog_7_method_23_code
def yX5_planMinute : MethodName := ⟨RX5, "planMinute", "()I"⟩
abbrev cX5_planMusts : ByteArray := prog_7_method_24_code
def yX5_planMusts : MethodName := ⟨RX5, "planMusts", "()I"⟩
abbrev cX5_planCompressors : ByteArray := prog_7_method_25_code
def yX5_planCompressors : MethodName := ⟨RX5, "planCompressors", "(II)I"⟩
abbrev cX5_planDefrosts : ByteArray := prog_7_method_26_code
def yX5_planDefrosts : MethodName := ⟨RX5, "planDefrosts", "(II)I"⟩
abbrev cX5_nextToCool : ByteArray := prog_7_method_27_code
def yX5_nextToCool : MethodName := ⟨RX5, "nextToCool", "()LMeterRooms$Room;"⟩
abbrev cX5_nextToDefrost : ByteArray := prog_7_method_28_code
def yX5_nextToDefrost : MethodName := ⟨RX5, "nextToDefrost", "()LMeterRooms$Room;"⟩
def RX6 : String := "MeterRooms$Text"
def TX6 : u_T := fun k => match k with
  | 0 => ("MeterRooms$Text", "signs", "[C", true)
  | _ => ("MeterRooms$Text", "length", "I", false)
def tyX6 : Nat → FieldType := fun k => match k with
  | 0 => .array .char
  | _ => .int
abbrev wsX60 : List Cond := u_ws RX6 TX6 2
theorem nmX6 : ∀ a, a < 2 → ∀ b, b < 2 → a ≠ b → (TX6 a).2.1 ≠ (TX6 b).2.1 := by decide +kernel
theorem tyX6_ok : ∀ k, k < 2 → parseFieldDescriptor (TX6 k).2.2.1 = some (tyX6 k) := by decide +kernel
abbrev cX6_init : ByteArray := prog_8_method_1_code
def yX6_init : MethodName := ⟨RX6, "<init>", "()V"⟩
abbrev cX6_isFull : ByteArray := prog_8_method_2_code
def yX6_isFull : MethodName := ⟨RX6, "isFull", "()Z"⟩
abbrev cX6_lengthen : ByteArray := prog_8_method_3_code
def yX6_lengthen : MethodName := ⟨RX6, "lengthen", "(I)I"⟩
abbrev cX6_empty : ByteArray := prog_8_method_4_code
def yX6_empty : MethodName := ⟨RX6, "empty", "()I"⟩
abbrev cX6_signAt : ByteArray := prog_8_method_5_code
def yX6_signAt : MethodName := ⟨RX6, "signAt", "(I)I"⟩
def RX7 : String := "MeterRooms"
def TX7 : u_T := fun k => match k with
  | 0 => ("MeterRooms", "reader", "LMeterRooms$Reader;", true)
  | 1 => ("MeterRooms", "fresh", "LMeterRooms$State;", true)
  | 2 => ("MeterRooms", "present", "LMeterRooms$State;", true)
  | 3 => ("MeterRooms", "trial", "LMeterRooms$State;", true)
  | 4 => ("MeterRooms", "memory", "LMeterRooms$Memory;", true)
  | 5 => ("MeterRooms", "slot0", "LMeterRooms$Slot;", true)
  | _ => ("MeterRooms", "slot1", "LMeterRooms$Slot;", true)
def tyX7 : Nat → FieldType := fun k => match k with
  | 0 => .object "MeterRooms$Reader"
  | 1 => .object "MeterRooms$State"
  | 2 => .object "MeterRooms$State"
  | 3 => .object "MeterRooms$State"
  | 4 => .object "MeterRooms$Memory"
  | 5 => .object "MeterRooms$Slot"
  | _ => .object "MeterRooms$Slot"
abbrev wsX70 : List Cond := u_ws RX7 TX7 7
theorem nmX7 : ∀ a, a < 7 → ∀ b, b < 7 → a ≠ b → (TX7 a).2.1 ≠ (TX7 b).2.1 := by decide +kernel
theorem tyX7_ok : ∀ k, k < 7 → parseFieldDescriptor (TX7 k).2.2.1 = some (tyX7 k) := by decide +kernel
abbrev cX7_init : ByteArray := prog_1_method_1_code
def yX7_init : MethodName := ⟨RX7, "<init>", "()V"⟩
abbrev cX7_append : ByteArray := prog_1_method_2_code
def yX7_append : MethodName := ⟨RX7, "append", "(I)I"⟩
abbrev cX7_clearText : ByteArray := prog_1_method_3_code
def yX7_clearText : MethodName := ⟨RX7, "clearText", "()I"⟩
abbrev cX7_errorPosition : ByteArray := prog_1_method_4_code
def yX7_errorPosition : MethodName := ⟨RX7, "errorPosition", "()I"⟩
abbrev cX7_load : ByteArray := prog_1_method_5_code
def yX7_load : MethodName := ⟨RX7, "load", "()I"⟩
abbrev cX7_doCommand : ByteArray := prog_1_method_6_code
def yX7_doCommand : MethodName := ⟨RX7, "doCommand", "()Z"⟩
abbrev cX7_about : ByteArray := prog_1_method_7_code
def yX7_about : MethodName := ⟨RX7, "about", "(I)I"⟩
abbrev cX7_room : ByteArray := prog_1_method_8_code
def yX7_room : MethodName := ⟨RX7, "room", "(II)I"⟩
abbrev cX7_does : ByteArray := prog_1_method_9_code
def yX7_does : MethodName := ⟨RX7, "does", "(I)I"⟩
abbrev cX7_setting : ByteArray := prog_1_method_10_code
def yX7_setting : MethodName := ⟨RX7, "setting", "(I)I"⟩
abbrev cX7_add : ByteArray := prog_1_method_11_code
def yX7_add : MethodName := ⟨RX7, "add", "(III)I"⟩
abbrev cX7_door : ByteArray := prog_1_method_12_code
def yX7_door : MethodName := ⟨RX7, "door", "(IZ)I"⟩
abbrev cX7_goods : ByteArray := prog_1_method_13_code
def yX7_goods : MethodName := ⟨RX7, "goods", "(II)I"⟩
abbrev cX7_run : ByteArray := prog_1_method_14_code
def yX7_run : MethodName := ⟨RX7, "run", "(I)I"⟩
abbrev cX7_set : ByteArray := prog_1_method_15_code
def yX7_set : MethodName := ⟨RX7, "set", "(II)I"⟩
abbrev cX7_undo : ByteArray := prog_1_method_16_code
def yX7_undo : MethodName := ⟨RX7, "undo", "()I"⟩
abbrev cX7_spare : ByteArray := prog_1_method_17_code
def yX7_spare : MethodName := ⟨RX7, "spare", "()I"⟩
abbrev cX7_warmIn : ByteArray := prog_1_method_18_code
def yX7_warmIn : MethodName := ⟨RX7, "warmIn", "(I)I"⟩
abbrev cX7_coming : ByteArray := prog_1_method_19_code
def yX7_coming : MethodName := ⟨RX7, "coming", "(II)I"⟩
abbrev cX7_leastLimit : ByteArray := prog_1_method_20_code
def yX7_leastLimit : MethodName := ⟨RX7, "leastLimit", "(I)I"⟩
abbrev cX7_isKept : ByteArray := prog_1_method_21_code
def yX7_isKept : MethodName := ⟨RX7, "isKept", "(II)Z"⟩
abbrev cX7_bestShut : ByteArray := prog_1_method_22_code
def yX7_bestShut : MethodName := ⟨RX7, "bestShut", "()I"⟩
abbrev cX7_warmthIfShut : ByteArray := prog_1_method_23_code
def yX7_warmthIfShut : MethodName := ⟨RX7, "warmthIfShut", "(I)I"⟩
abbrev cX7_runScript : ByteArray := prog_1_method_24_code
def yX7_runScript : MethodName := ⟨RX7, "runScript", "(IJ)I"⟩
abbrev cX7_withoutGroups : ByteArray := prog_1_method_25_code
def yX7_withoutGroups : MethodName := ⟨RX7, "withoutGroups", "(JI)J"⟩
abbrev cX7_doGroup : ByteArray := prog_1_method_26_code
def yX7_doGroup : MethodName := ⟨RX7, "doGroup", "(I)Z"⟩
abbrev cX7_isSo : ByteArray := prog_1_method_27_code
def yX7_isSo : MethodName := ⟨RX7, "isSo", "(ILMeterRooms$Room;I)Z"⟩
abbrev cX7_simulate : ByteArray := prog_1_method_28_code
def yX7_simulate : MethodName := ⟨RX7, "simulate", "(JI)I"⟩
abbrev cX7_doTurn : ByteArray := prog_1_method_29_code
def yX7_doTurn : MethodName := ⟨RX7, "doTurn", "(I)V"⟩
abbrev cX7_save : ByteArray := prog_1_method_30_code
def yX7_save : MethodName := ⟨RX7, "save", "(I)I"⟩
abbrev cX7_restore : ByteArray := prog_1_method_31_code
def yX7_restore : MethodName := ⟨RX7, "restore", "(I)I"⟩
abbrev cX7_slotAt : ByteArray := prog_1_method_32_code
def yX7_slotAt : MethodName := ⟨RX7, "slotAt", "(I)LMeterRooms$Slot;"⟩
def RX8 : String := "MeterRoomsModel"
def TX8 : u_T := fun k => match k with
  | 0 => ("MeterRoomsModel", "refusal", "I", false)
  | 1 => ("MeterRoomsModel", "text", "[I", true)
  | 2 => ("MeterRoomsModel", "size", "I", false)
  | 3 => ("MeterRoomsModel", "now", "[I", true)
  | 4 => ("MeterRoomsModel", "trial", "[I", true)
  | 5 => ("MeterRoomsModel", "diary", "[I", true)
  | 6 => ("MeterRoomsModel", "acts", "I", false)
  | 7 => ("MeterRoomsModel", "kept", "[I", true)
  | 8 => ("MeterRoomsModel", "isKept", "[Z", true)
  | 9 => ("MeterRoomsModel", "job", "[I", true)
  | 10 => ("MeterRoomsModel", "taken", "I", false)
  | 11 => ("MeterRoomsModel", "spot", "I", false)
  | 12 => ("MeterRoomsModel", "out", "I", false)
  | _ => ("MeterRoomsModel", "isRight", "Z", false)
def tyX8 : Nat → FieldType := fun k => match k with
  | 0 => .int
  | 1 => .array .int
  | 2 => .int
  | 3 => .array .int
  | 4 => .array .int
  | 5 => .array .int
  | 6 => .int
  | 7 => .array .int
  | 8 => .array .boolean
  | 9 => .array .int
  | 10 => .int
  | 11 => .int
  | 12 => .int
  | _ => .boolean
abbrev wsX80 : List Cond := u_ws RX8 TX8 14
theorem nmX8 : ∀ a, a < 14 → ∀ b, b < 14 → a ≠ b → (TX8 a).2.1 ≠ (TX8 b).2.1 := by decide +kernel
theorem tyX8_ok : ∀ k, k < 14 → parseFieldDescriptor (TX8 k).2.2.1 = some (tyX8 k) := by decide +kernel
abbrev cX8_init : ByteArray := prog_10_method_1_code
def yX8_init : MethodName := ⟨RX8, "<init>", "()V"⟩
abbrev cX8_thrown : ByteArray := prog_10_method_2_code
def yX8_thrown : MethodName := ⟨RX8, "thrown", "()I"⟩
abbrev cX8_refused : ByteArray := prog_10_method_3_code
def yX8_refused : MethodName := ⟨RX8, "refused", "(I)Z"⟩
abbrev cX8_in : ByteArray := prog_10_method_4_code
def yX8_in : MethodName := ⟨RX8, "in", "(JJJ)Z"⟩
abbrev cX8_copyState : ByteArray := prog_10_method_5_code
def yX8_copyState : MethodName := ⟨RX8, "copyState", "([II[II)V"⟩
abbrev cX8_clear : ByteArray := prog_10_method_6_code
def yX8_clear : MethodName := ⟨RX8, "clear", "([I)V"⟩
abbrev cX8_isRoom : ByteArray := prog_10_method_7_code
def yX8_isRoom : MethodName := ⟨RX8, "isRoom", "([II)Z"⟩
abbrev cX8_of : ByteArray := prog_10_method_8_code
def yX8_of : MethodName := ⟨RX8, "of", "([III)I"⟩
abbrev cX8_lay : ByteArray := prog_10_method_9_code
def yX8_lay : MethodName := ⟨RX8, "lay", "([IIII)V"⟩
abbrev cX8_isWarm : ByteArray := prog_10_method_10_code
def yX8_isWarm : MethodName := ⟨RX8, "isWarm", "([II)Z"⟩
abbrev cX8_over : ByteArray := prog_10_method_11_code
def yX8_over : MethodName := ⟨RX8, "over", "([II)I"⟩
abbrev cX8_minutesLeft : ByteArray := prog_10_method_12_code
def yX8_minutesLeft : MethodName := ⟨RX8, "minutesLeft", "([I)I"⟩
abbrev cX8_fits : ByteArray := prog_10_method_13_code
def yX8_fits : MethodName := ⟨RX8, "fits", "([II)Z"⟩
abbrev cX8_measure : ByteArray := prog_10_method_14_code
def yX8_measure : MethodName := ⟨RX8, "measure", "([II)V"⟩
abbrev cX8_must : ByteArray := prog_10_method_15_code
def yX8_must : MethodName := ⟨RX8, "must", "([I)V"⟩
abbrev cX8_nextWarm : ByteArray := prog_10_method_16_code
def yX8_nextWarm : MethodName := ⟨RX8, "nextWarm", "([I)I"⟩
abbrev cX8_nextFrost : ByteArray := prog_10_method_17_code
def yX8_nextFrost : MethodName := ⟨RX8, "nextFrost", "([I)I"⟩
abbrev cX8_find : ByteArray := prog_10_method_18_code
def yX8_find : MethodName := ⟨RX8, "find", "([I)V"⟩
abbrev cX8_clamp : ByteArray := prog_10_method_19_code
def yX8_clamp : MethodName := ⟨RX8, "clamp", "(III)I"⟩
abbrev cX8_roomOn : ByteArray := prog_10_method_20_code
def yX8_roomOn : MethodName := ⟨RX8, "roomOn", "([II)V"⟩
abbrev cX8_minuteOn : ByteArray := prog_10_method_21_code
def yX8_minuteOn : MethodName := ⟨RX8, "minuteOn", "([I)V"⟩
abbrev cX8_runOn : ByteArray := prog_10_method_22_code
def yX8_runOn : MethodName := ⟨RX8, "runOn", "([II)I"⟩
abbrev cX8_isNew : ByteArray := prog_10_method_23_code
def yX8_isNew : MethodName := ⟨RX8, "isNew", "(III)Z"⟩
abbrev cX8_addOn : ByteArray := prog_10_method_24_code
def yX8_addOn : MethodName := ⟨RX8, "addOn", "([IIII)I"⟩
abbrev cX8_doorOn : ByteArray := prog_10_method_25_code
def yX8_doorOn : MethodName := ⟨RX8, "doorOn", "([IIZ)I"⟩
abbrev cX8_goodsOn : ByteArray := prog_10_method_26_code
def yX8_goodsOn : MethodName := ⟨RX8, "goodsOn", "([III)I"⟩
abbrev cX8_isSetting : ByteArray := prog_10_method_27_code
def yX8_isSetting : MethodName := ⟨RX8, "isSetting", "(II)Z"⟩
abbrev cX8_append : ByteArray := prog_10_method_28_code
def yX8_append : MethodName := ⟨RX8, "append", "(I)I"⟩
abbrev cX8_clearText : ByteArray := prog_10_method_29_code
def yX8_clearText : MethodName := ⟨RX8, "clearText", "()I"⟩
abbrev cX8_at : ByteArray := prog_10_method_30_code
def yX8_at : MethodName := ⟨RX8, "at", "(I)I"⟩
abbrev cX8_figures : ByteArray := prog_10_method_31_code
def yX8_figures : MethodName := ⟨RX8, "figures", "(III)I"⟩
abbrev cX8_temperature : ByteArray := prog_10_method_32_code
def yX8_temperature : MethodName := ⟨RX8, "temperature", "()I"⟩
abbrev cX8_done : ByteArray := prog_10_method_33_code
def yX8_done : MethodName := ⟨RX8, "done", "(Z)Z"⟩
abbrev cX8_readCommand : ByteArray := prog_10_method_34_code
def yX8_readCommand : MethodName := ⟨RX8, "readCommand", "([I)Z"⟩
abbrev cX8_readText : ByteArray := prog_10_method_35_code
def yX8_readText : MethodName := ⟨RX8, "readText", "([I)I"⟩
abbrev cX8_errorPosition : ByteArray := prog_10_method_36_code
def yX8_errorPosition : MethodName := ⟨RX8, "errorPosition", "()I"⟩
abbrev cX8_load : ByteArray := prog_10_method_37_code
def yX8_load : MethodName := ⟨RX8, "load", "()I"⟩
abbrev cX8_about : ByteArray := prog_10_method_38_code
def yX8_about : MethodName := ⟨RX8, "about", "(I)I"⟩
abbrev cX8_room : ByteArray := prog_10_method_39_code
def yX8_room : MethodName := ⟨RX8, "room", "(II)I"⟩
abbrev cX8_does : ByteArray := prog_10_method_40_code
def yX8_does : MethodName := ⟨RX8, "does", "(I)I"⟩
abbrev cX8_setting : ByteArray := prog_10_method_41_code
def yX8_setting : MethodName := ⟨RX8, "setting", "(I)I"⟩
abbrev cX8_remember : ByteArray := prog_10_method_42_code
def yX8_remember : MethodName := ⟨RX8, "remember", "()V"⟩
abbrev cX8_add : ByteArray := prog_10_method_43_code
def yX8_add : MethodName := ⟨RX8, "add", "(III)I"⟩
abbrev cX8_door : ByteArray := prog_10_method_44_code
def yX8_door : MethodName := ⟨RX8, "door", "(IZ)I"⟩
abbrev cX8_goods : ByteArray := prog_10_method_45_code
def yX8_goods : MethodName := ⟨RX8, "goods", "(II)I"⟩
abbrev cX8_run : ByteArray := prog_10_method_46_code
def yX8_run : MethodName := ⟨RX8, "run", "(I)I"⟩
abbrev cX8_set : ByteArray := prog_10_method_47_code
def yX8_set : MethodName := ⟨RX8, "set", "(II)I"⟩
abbrev cX8_undo : ByteArray := prog_10_method_48_code
def yX8_undo : MethodName := ⟨RX8, "undo", "()I"⟩
abbrev cX8_spare : ByteArray := prog_10_method_49_code
def yX8_spare : MethodName := ⟨RX8, "spare", "()I"⟩
abbrev cX8_warmIn : ByteArray := prog_10_method_50_code
def yX8_warmIn : MethodName := ⟨RX8, "warmIn", "(I)I"⟩
abbrev cX8_warmest : ByteArray := prog_10_method_51_code
def yX8_warmest : MethodName := ⟨RX8, "warmest", "([I)I"⟩
abbrev cX8_coming : ByteArray := prog_10_method_52_code
def yX8_coming : MethodName := ⟨RX8, "coming", "(II)I"⟩
abbrev cX8_leastLimit : ByteArray := prog_10_method_53_code
def yX8_leastLimit : MethodName := ⟨RX8, "leastLimit", "(I)I"⟩
abbrev cX8_bestShut : ByteArray := prog_10_method_54_code
def yX8_bestShut : MethodName := ⟨RX8, "bestShut", "()I"⟩
abbrev cX8_doesIt : ByteArray := prog_10_method_55_code
def yX8_doesIt : MethodName := ⟨RX8, "doesIt", "(II)Z"⟩
abbrev cX8_command : ByteArray := prog_10_method_56_code
def yX8_command : MethodName := ⟨RX8, "command", "(II)Z"⟩
abbrev cX8_runScript : ByteArray := prog_10_method_57_code
def yX8_runScript : MethodName := ⟨RX8, "runScript", "(IJ)I"⟩
abbrev cX8_turn : ByteArray := prog_10_method_58_code
def yX8_turn : MethodName := ⟨RX8, "turn", "(I)V"⟩
abbrev cX8_simulate : ByteArray := prog_10_method_59_code
def yX8_simulate : MethodName := ⟨RX8, "simulate", "(JI)I"⟩
abbrev cX8_save : ByteArray := prog_10_method_60_code
def yX8_save : MethodName := ⟨RX8, "save", "(I)I"⟩
abbrev cX8_restore : ByteArray := prog_10_method_61_code
def yX8_restore : MethodName := ⟨RX8, "restore", "(I)I"⟩
def RJ9 : String := "java/lang/Math"
def TJ9 : u_T := fun k => match k with
  | _ => ("", "", "", false)
def tyJ9 : Nat → FieldType := fun k => match k with
  | _ => .int
abbrev wsJ90 : List Cond := u_ws RJ9 TJ9 0
theorem nmJ9 : ∀ a, a < 0 → ∀ b, b < 0 → a ≠ b → (TJ9 a).2.1 ≠ (TJ9 b).2.1 := by decide +kernel
theorem tyJ9_ok : ∀ k, k < 0 → parseFieldDescriptor (TJ9 k).2.2.1 = some (tyJ9 k) := by decide +kernel
abbrev cJ9_max_7cf53 : ByteArray := prog_15_method_65_code
def yJ9_max_7cf53 : MethodName := ⟨RJ9, "max", "(II)I"⟩
abbrev cJ9_min_7cf53 : ByteArray := prog_15_method_69_code
def yJ9_min_7cf53 : MethodName := ⟨RJ9, "min", "(II)I"⟩
def RJ0 : String := "java/lang/String"
def TJ0 : u_T := fun k => match k with
  | _ => ("", "", "", false)
def tyJ0 : Nat → FieldType := fun k => match k with
  | _ => .int
abbrev wsJ00 : List Cond := u_ws RJ0 TJ0 0
theorem nmJ0 : ∀ a, a < 0 → ∀ b, b < 0 → a ≠ b → (TJ0 a).2.1 ≠ (TJ0 b).2.1 := by decide +kernel
theorem tyJ0_ok : ∀ k, k < 0 → parseFieldDescriptor (TJ0 k).2.2.1 = some (tyJ0 k) := by decide +kernel
def RL : String := "MeterRoomsLaw"
abbrev cL_append : ByteArray := method_3_code
def yL_append : MethodName := ⟨RL, "append", "(LMeterRooms;I[J)I"⟩
abbrev cL_load : ByteArray := method_4_code
def yL_load : MethodName := ⟨RL, "load", "(LMeterRooms;[J)I"⟩
abbrev cL_about : ByteArray := method_5_code
def yL_about : MethodName := ⟨RL, "about", "(LMeterRooms;I[J)I"⟩
abbrev cL_room : ByteArray := method_6_code
def yL_room : MethodName := ⟨RL, "room", "(LMeterRooms;II[J)I"⟩
abbrev cL_does : ByteArray := method_7_code
def yL_does : MethodName := ⟨RL, "does", "(LMeterRooms;I[J)I"⟩
abbrev cL_setting : ByteArray := method_8_code
def yL_setting : MethodName := ⟨RL, "setting", "(LMeterRooms;I[J)I"⟩
abbrev cL_add : ByteArray := method_9_code
def yL_add : MethodName := ⟨RL, "add", "(LMeterRooms;III[J)I"⟩
abbrev cL_door : ByteArray := method_10_code
def yL_door : MethodName := ⟨RL, "door", "(LMeterRooms;IZ[J)I"⟩
abbrev cL_goods : ByteArray := method_11_code
def yL_goods : MethodName := ⟨RL, "goods", "(LMeterRooms;II[J)I"⟩
abbrev cL_run : ByteArray := method_12_code
def yL_run : MethodName := ⟨RL, "run", "(LMeterRooms;I[J)I"⟩
abbrev cL_set : ByteArray := method_13_code
def yL_set : MethodName := ⟨RL, "set", "(LMeterRooms;II[J)I"⟩
abbrev cL_undo : ByteArray := method_14_code
def yL_undo : MethodName := ⟨RL, "undo", "(LMeterRooms;[J)I"⟩
abbrev cL_warmIn : ByteArray := method_15_code
def yL_warmIn : MethodName := ⟨RL, "warmIn", "(LMeterRooms;I[J)I"⟩
abbrev cL_coming : ByteArray := method_16_code
def yL_coming : MethodName := ⟨RL, "coming", "(LMeterRooms;II[J)I"⟩
abbrev cL_leastLimit : ByteArray := method_17_code
def yL_leastLimit : MethodName := ⟨RL, "leastLimit", "(LMeterRooms;I[J)I"⟩
abbrev cL_runScript : ByteArray := method_18_code
def yL_runScript : MethodName := ⟨RL, "runScript", "(LMeterRooms;IJ[J)I"⟩
abbrev cL_simulate : ByteArray := method_19_code
def yL_simulate : MethodName := ⟨RL, "simulate", "(LMeterRooms;JI[J)I"⟩
abbrev cL_save : ByteArray := method_20_code
def yL_save : MethodName := ⟨RL, "save", "(LMeterRooms;I[J)I"⟩
abbrev cL_restore : ByteArray := method_21_code
def yL_restore : MethodName := ⟨RL, "restore", "(LMeterRooms;I[J)I"⟩
abbrev cL_law : ByteArray := code
def yL_law : MethodName := ⟨RL, "law", "([I)Z"⟩
end
section
/-! My own layer: one list of words for all methods, contracts by their result, calls that keep a world's order -/
abbrev vwCl : List vw_C := [(RX0, TX0, 2), (RX1, TX1, 7), (RX2, TX2, 10), (RX3, TX3, 6), (RX4, TX4, 2), (RX5, TX5, 11), (RX6, TX6, 2), (RX7, TX7, 7), (RX8, TX8, 14)]
def WG : List Cond := lw_tbl.filter goodWord
theorem wg_of {w : Cond} (i : Nat) (h : lw_tbl[i]? = some w) (g : goodWord w = true) : w ∈ WG := List.mem_filter.mpr ⟨List.mem_of_getElem? h, g⟩
theorem wg_good {w : Cond} (h : w ∈ WG) : (w.onTables && w.keeps) = true ∨ ∃ ty, w = .arrayClass ty := good_of_word (List.mem_filter.mp h).2
theorem wg_goodIn {ws : List Cond} (h : ∀ w ∈ ws, w ∈ WG) : GoodIn WG ws := fun w hw => ⟨h w hw, wg_good (h w hw)⟩
theorem wg_all {ws : List Cond} (h : ∀ w ∈ ws, w ∈ lw_tbl) (g : ∀ w ∈ ws, goodWord w = true) : ∀ w ∈ ws, w ∈ WG := fun w hw => List.mem_filter.mpr ⟨h w hw, g w hw⟩
/-- words of nest mates, casts, declarations: they go on by laws of their own -/
def isNest : Cond → Bool
  | .fieldLinkNest .. => true
  | .methodLinkNest .. => true
  | .castable .. => true
  | .declares _ => true
  | _ => false
def NWL : List Cond := lw_tbl.filter isNest
theorem nw_of {w : Cond} (i : Nat) (h : lw_tbl[i]? = some w) (g : isNest w = true) : w ∈ NWL := List.mem_filter.mpr ⟨List.mem_of_getElem? h, g⟩
def NW (U : State) : Prop := ∀ w ∈ NWL, va_Nw w U
theorem NW.warm {s U : State} (hW : s.WarmedH U.vm) (h : NW s) : NW U := fun w hw => by
  have h1 := h w hw
  have h2 := (List.mem_filter.mp hw).2
  cases w <;> first | (simp [isNest] at h2; done) | exact va_Nw.warmF hW h1 | exact va_Nw.warmM hW h1 | exact va_Nw.warmC hW h1 | exact va_Nw.warmD hW h1
theorem NW.same {u U : State} (e : u.vm = U.vm) (h : NW u) : NW U := fun w hw => by
  have h1 := h w hw
  have h2 := (List.mem_filter.mp hw).2
  refine va_Nw.same ?_ e h1
  cases w <;> first | (simp [isNest] at h2; done) | rfl
theorem NW.use {U : State} (h : NW U) {w : Cond} (hw : w ∈ NWL) (args : Array Value) : w.before args U = true := by
  have h2 := (List.mem_filter.mp hw).2
  refine va_Nw.use ?_ (h w hw)
  cases w <;> first | (simp [isNest] at h2; done) | rfl
/-- the two tables of settings' ends -/
def lsF : Nat → Value := fun j => .int (if j < 3 then 0 else 1)
def msF : Nat → Value := fun j => .int (if j = 0 then 9999 else if j = 1 then 14 else if j = 2 then 99 else if j = 3 then 50 else if j = 4 then 100 else 30)
def ZS (A : Nat → Prop) (U : State) (H : Heap) : Prop :=
  (∃ t : Nat, va_Z "MeterRooms" "LEAST_SETTING" "[I" (.ref t) A U H ∧ va_T .int t 6 lsF A U H) ∧ (∃ t : Nat, va_Z "MeterRooms" "MOST_SETTING" "[I" (.ref t) A U H ∧ va_T .int t 6 msF A U H) ∧ vx_Zq Bundle.tN "UNASSIGNED_STACK" Bundle.steD A U H ∧ vx_Zq Bundle.tN "SUPPRESSED_SENTINEL" Bundle.listD A U H
theorem ZS.moved {A : Nat → Prop} {u U : State} {H : Heap} (hvm : u.vm.Alike U.vm) (h : ZS A u H) : ZS A U H := by
  obtain ⟨⟨t, a1, a2⟩, ⟨t2, a3, a4⟩, a5, a6⟩ := h
  exact ⟨⟨t, a1.moved hvm, a2.moved hvm⟩, ⟨t2, a3.moved hvm, a4.moved hvm⟩, a5.moved hvm, a6.moved hvm⟩
theorem ZS.kept {A : Nat → Prop} {U : State} {H H1 : Heap} (h : ZS A U H) (hq : ∀ a : Nat, a < H.size → ¬ A a → H1[a]? = H[a]?) : ZS A U H1 := by
  obtain ⟨⟨t, a1, a2⟩, ⟨t2, a3, a4⟩, a5, a6⟩ := h
  exact ⟨⟨t, a1.kept hq, a2.kept hq⟩, ⟨t2, a3.kept hq, a4.kept hq⟩, a5.kept hq, a6.kept hq⟩
theorem ZS.narrow {A B : Nat → Prop} {U : State} {H : Heap} (h : ZS A U H) (hq : ∀ q, B q → A q) : ZS B U H := by
  obtain ⟨⟨t, a1, a2⟩, ⟨t2, a3, a4⟩, a5, a6⟩ := h
  exact ⟨⟨t, a1.narrow hq, a2.narrow hq⟩, ⟨t2, a3.narrow hq, a4.narrow hq⟩, a5.narrow hq, a6.narrow hq⟩
/-- the strings of the throws -/
def STL : List (Nat × String) := [(48, "c is not 0 to 255"), (65, "the text is full"), (79, "the text is not a store"), (128, "what is not 0 to 10"), (139, "there is no such room"), (142, "what is not 0 to 7"), (160, "what is not 0 to 5"), (173, "load, wish or bound is out of its range"), (179, "there are 6 rooms"), (190, "v is not -400 to 400"), (201, "n is not 1 to 60"), (209, "what or v is out of its range"), (214, "no state is remembered"), (231, "n is not 1 to 240, or what is not 0 to 4"), (262, "n is not 1 to 3, or script has not 1 to 5 * n digits"), (276, "m is not 1 to 60"), (290, "there is no such save slot"), (301, "nothing is saved in this slot")]
def SR (U : State) : Prop := ∀ q ∈ STL, ∃ a : Nat, vk_R "MeterRooms" q.1 q.2 a U
theorem SR.warm {s U : State} (hW : s.WarmedH U.vm) (h : SR s) : SR U := fun q hq => by
  obtain ⟨a, ha⟩ := h q hq
  exact ⟨a, ha.warm hW⟩
theorem SR.same {u U : State} (e : U.vm = u.vm) (h : SR u) : SR U := fun q hq => by
  obtain ⟨a, ha⟩ := h q hq
  exact ⟨a, ha.same e⟩
def AO (U : State) : Prop := va_AO "MeterRooms$Room" U ∧ va_AO "MeterRooms$State" U
/-- what every method of the class stands on besides its cells -/
def ENV (A : Nat → Prop) (U : State) : Prop := NW U ∧ ZS A U U.heap ∧ SR U ∧ AO U
theorem ENV.go {A B : Nat → Prop} {s U : State} {H : Heap} {locs : List Loc} (h : ENV A s) (hS : va_S A s.heap H locs) (hAB : ∀ q, B q → A q) (hU : U.heap = H) (hW : s.WarmedH U.vm) : ENV B U := by
  obtain ⟨h1, h2, h3, h4⟩ := h
  refine ⟨h1.warm hW, ?_, h3.warm hW, ⟨h4.1.moved hW.alike, h4.2.moved hW.alike⟩⟩
  rw [hU]
  exact ((h2.kept hS.2.1).narrow hAB).moved hW.alike
theorem ENV.calling {A : Nat → Prop} {U : State} (h : ENV A U) (g : JFrame) (mk : MethodId) (a : Array Value) : ENV A (U.calling g mk a) := by
  obtain ⟨h1, h2, h3, h4⟩ := h
  exact ⟨NW.same (u := U) (U := U.calling g mk a) rfl h1, ZS.moved (U := U.calling g mk a) (Vm.Alike.refl U.vm) h2, SR.same (u := U) (U := U.calling g mk a) rfl h3, ⟨va_AO.moved (U := U.calling g mk a) (Vm.Alike.refl U.vm) h4.1, va_AO.moved (U := U.calling g mk a) (Vm.Alike.refl U.vm) h4.2⟩⟩
/-- the arrays' classes -/
def TYS (kk : Nat → ClassId) : List (ClassId × FieldType) := [(kk 0, .int), (kk 1, .char), (kk 2, .boolean), (kk 3, .object "MeterRooms$Room"), (kk 4, .object "MeterRooms$State"), (kk 5, .long)]
/-- a field's link out of class 'own' at 'index': field k of kind ci -/
def FL (own : String) (index ci k : Nat) (C : String) (T : u_T) (N : Nat) : Prop := vwCl[ci]? = some (C, T, N) ∧ k < N ∧ (∀ w ∈ u_ws C T N, w ∈ WG) ∧ Cond.fieldLink own index C (T k).2.1 (T k).2.2.1 ∈ WG ∧ (T k).1 = C
def FN (own : String) (index ci k : Nat) (C : String) (T : u_T) (N : Nat) (host : String) : Prop := vwCl[ci]? = some (C, T, N) ∧ k < N ∧ (∀ w ∈ u_ws C T N, w ∈ WG) ∧ Cond.fieldLinkNest own index C (T k).2.1 (T k).2.2.1 host ∈ NWL ∧ (T k).1 = C
/-- what a write asks of a field besides -/
def FW (ci k : Nat) (C : String) (T : u_T) (N : Nat) (ty0 : Nat → FieldType) (ty : FieldType) : Prop := (∀ k, k < N → parseFieldDescriptor (T k).2.2.1 = some (ty0 k)) ∧ (∀ a, a < N → ∀ b, b < N → a ≠ b → (T a).2.1 ≠ (T b).2.1) ∧ (T k).2.2.2 = false ∧ parseFieldDescriptor (T k).2.2.1 = some ty
/-- a virtual call's words, a static call's words -/
def VL (own : String) (index : Nat) (y : MethodName) (b : ByteArray) (n : Nat) (ret : Option FieldType) (np : Nat) : Prop := Cond.methodLink own index y ∈ WG ∧ Cond.instanceMethod y ∈ WG ∧ Cond.selects y.cls y y ∈ WG ∧ Cond.initialized y.cls ∈ WG ∧ Cond.code y b n ret ∈ WG ∧ (y.cls ≠ "java/lang/invoke/MethodHandle" ∧ y.cls ≠ "java/lang/invoke/VarHandle" ∧ (parseMethodDescriptor y.desc).map (fun d => d.parameters.length) = some np)
def SL (own : String) (index : Nat) (y : MethodName) (b : ByteArray) (n : Nat) (ret : Option FieldType) (np : Nat) : Prop := Cond.methodLink own index y ∈ WG ∧ Cond.static y ∈ WG ∧ Cond.initialized y.cls ∈ WG ∧ Cond.code y b n ret ∈ WG ∧ (y.cls ≠ "java/lang/invoke/MethodHandle" ∧ y.cls ≠ "java/lang/invoke/VarHandle" ∧ (parseMethodDescriptor y.desc).map (fun d => d.parameters.length) = some np)
/-- a world before a call and behind it -/
def mP (G : va_G) (kk : Nat → ClassId) (sz : Nat) (ws : va_W) : State → Prop := fun U => U.heap.size = sz ∧ va_P G vwCl ws U.heap ∧ va_K G vwCl (TYS kk) U ∧ va_D (fun _ => True) ws ∧ ENV (va_A ws sz) U
def mB (G : va_G) (kk : Nat → ClassId) (ws : va_W) (A : Nat → Prop) : State → Prop := fun t => va_P G vwCl ws t.heap ∧ va_K G vwCl (TYS kk) t ∧ va_D A ws
def QI (G : va_G) (kk : Nat → ClassId) (w1 : va_W) (r : Int32) (A : Nat → Prop) : Array Value → State → Outcome → State → Prop := va_Qi (S := Unit) (fun x _ => x = r) (fun _ t => mB G kk w1 A t) A
def QL (G : va_G) (kk : Nat → ClassId) (w1 : va_W) (r : Int64) (A : Nat → Prop) : Array Value → State → Outcome → State → Prop := va_Ql (S := Unit) (fun x _ => x = r) (fun _ t => mB G kk w1 A t) A
def QV (G : va_G) (kk : Nat → ClassId) (w1 : va_W) (A : Nat → Prop) : Array Value → State → Outcome → State → Prop := va_Qv (S := Unit) (fun _ => True) (fun _ t => mB G kk w1 A t) A
def QQ (G : va_G) (kk : Nat → ClassId) (w1 : va_W) (r : Option Nat) (A : Nat → Prop) : Array Value → State → Outcome → State → Prop := va_Qq (S := Unit) (fun x _ => x = r) (fun _ t => mB G kk w1 A t) A
/-- a contract: from the cells wc with the arguments 'as' the method comes to Qk -/
def CC (l : Launch) (y : MethodName) (b : ByteArray) (n : Nat) (ret : Option FieldType) (rm : Room) (as : List Value) (G : va_G) (kk : Nat → ClassId) (wc : va_W) (Qk : (Nat → Prop) → Array Value → State → Outcome → State → Prop) : Prop :=
  ∀ sz : Nat, Met l y (.code y b n ret :: WG) rm (va_Pc as (mP G kk sz wc)) (Qk (va_A wc sz)) 0 0 (va_A wc sz)
theorem cc_start {l : Launch} {y : MethodName} {b : ByteArray} {n : Nat} {ret : Option FieldType} {rm : Room} {as : List Value} {G : va_G} {kk : Nat → ClassId} {wc : va_W} {Qk : (Nat → Prop) → Array Value → State → Outcome → State → Prop} (hy : plainName y.cls = true) (hn : (lg_sl as).length ≤ n)
    (body : ∀ (p : Program) (e : Env) (s : State) (m : MethodId) (below : List Frame) (meth : Method) (c : Code) (A : Nat → Prop) (ls : Array Slot), p.tables.exec = Jvm.exec → c.code = b → meth.sig.returnType = ret → c.maxLocals = n → s.vm.findClass y.cls = some m.cls → (∀ w ∈ WG, w.before as.toArray s = true) → meth.locks = false → (∀ q : Nat, s.heap.size ≤ q → A q) → ENV A s → va_K G vwCl (TYS kk) s → va_P G vwCl wc s.heap → va_D A wc → va_S A s.heap s.heap [] → lv_has ls n (lv_args 0 as) →
      W p l e rm s m as.toArray below meth c s.heap [] 0 0 (MQ below (Qk A) as.toArray s 0 0 A) (F0 m 0 ls [])) : CC l y b n ret rm as G kk wc Qk := by
  intro sz
  refine Met.ofW (cc := b) (maxL := n) (ret := ret) hy rfl ?_
  intro p e s m args below meth c s₁ B hml hv
  obtain ⟨rfl, hsz, hP, hK, hD0, hE⟩ := hv
  have hts := atoms_spec (ws := .code y b n ret :: WG) B.pre
  subst hsz
  have hD := hD0.self (sz := s.heap.size)
  rw [lg_entry_eq]
  exact body p e s m below meth c _ _ B.exec B.bytes B.returns hml (findClass_of_methodNamed B.named) (fun w hw => hts w (List.mem_cons_of_mem _ hw)) B.notSynchronized (fun q h => Or.inr h) hE hK hP hD va_S.rf (lv_entry as hn)
section FIN
variable {p : Program} {l : Launch} {e : Env} {R : Room} {s : State} {m : MethodId} {args : Array Value} {below : List Frame} {meth : Method} {c : Code} {H : Heap} {locs : List Loc} {cells slots : Nat} {Q : State → Prop}
variable {cc : ByteArray} {pc : Nat} {ls : Array Slot} {rest : List Value} {G : va_G} {kk : Nat → ClassId} {A : Nat → Prop} {ws wf wc w1 : va_W}
theorem fin_i {r v : Int32} (hx : p.tables.exec = Jvm.exec) (hb : c.code = cc) (hr : meth.sig.returnType = some .int) (hlocks : meth.locks = false) (hK : va_K G vwCl (TYS kk) s) (hP : va_P G vwCl wf H) (hD : va_D A wf) (hS : va_S A s.heap H locs) (e1 : r = v) (hdg : decode cc pc = .ok (.ireturn, 1)) :
    W p l e R s m args below meth c H locs 0 0 (MQ below (QI G kk wf r A) args s 0 0 A) (F0 m pc ls [.int v]) :=
  W.iret hx hb hr (fun t ht hW => ⟨⟨v, (), rfl, e1.symm, by rw [ht]; exact hP, va_K.moved hW.alike hK, hD⟩, hS.F ht⟩) hS.2.2 hdg hlocks
theorem fin_z {r v : Int32} (hx : p.tables.exec = Jvm.exec) (hb : c.code = cc) (hr : meth.sig.returnType = some .boolean) (hlocks : meth.locks = false) (hK : va_K G vwCl (TYS kk) s) (hP : va_P G vwCl wf H) (hD : va_D A wf) (hS : va_S A s.heap H locs) (e1 : r = v) (hn : narrow .boolean (.int v) = .int v) (hdg : decode cc pc = .ok (.ireturn, 1)) :
    W p l e R s m args below meth c H locs 0 0 (MQ below (QI G kk wf r A) args s 0 0 A) (F0 m pc ls [.int v]) :=
  W.zret hx hb hr hn (fun t ht hW => ⟨⟨v, (), rfl, e1.symm, by rw [ht]; exact hP, va_K.moved hW.alike hK, hD⟩, hS.F ht⟩) hS.2.2 hdg hlocks
theorem fin_l {r v : Int64} (hx : p.tables.exec = Jvm.exec) (hb : c.code = cc) (hr : meth.sig.returnType = some .long) (hlocks : meth.locks = false) (hK : va_K G vwCl (TYS kk) s) (hP : va_P G vwCl wf H) (hD : va_D A wf) (hS : va_S A s.heap H locs) (e1 : r = v) (hdg : decode cc pc = .ok (.lreturn, 1)) :
    W p l e R s m args below meth c H locs 0 0 (MQ below (QL G kk wf r A) args s 0 0 A) (F0 m pc ls [.long v]) :=
  W.lret hx hb hr (fun t ht hW => ⟨⟨v, (), rfl, e1.symm, by rw [ht]; exact hP, va_K.moved hW.alike hK, hD⟩, hS.F ht⟩) hS.2.2 hdg hlocks
theorem fin_v (hx : p.tables.exec = Jvm.exec) (hb : c.code = cc) (hr : meth.sig.returnType = none) (hlocks : meth.locks = false) (hK : va_K G vwCl (TYS kk) s) (hP : va_P G vwCl wf H) (hD : va_D A wf) (hS : va_S A s.heap H locs) (hdg : decode cc pc = .ok (.return_, 1)) :
    W p l e R s m args below meth c H locs 0 0 (MQ below (QV G kk wf A) args s 0 0 A) (F0 m pc ls []) :=
  W.vret hx hb hr (fun t ht hW => ⟨⟨(), rfl, trivial, by rw [ht]; exact hP, va_K.moved hW.alike hK, hD⟩, hS.F ht⟩) hS.2.2 hdg hlocks
theorem fin_q {r v : Option Nat} {rt : String} (hx : p.tables.exec = Jvm.exec) (hb : c.code = cc) (hr : meth.sig.returnType = some (.object rt)) (hlocks : meth.locks = false) (hK : va_K G vwCl (TYS kk) s) (hP : va_P G vwCl wf H) (hD : va_D A wf) (hS : va_S A s.heap H locs) (e1 : r = v) (hdg : decode cc pc = .ok (.areturn, 1)) :
    W p l e R s m args below meth c H locs 0 0 (MQ below (QQ G kk wf r A) args s 0 0 A) (F0 m pc ls [va_rf v]) :=
  W.aret hx hb hr (Or.inl ⟨_, rfl⟩) (va_rf_or v) (fun t ht hW => ⟨⟨v, (), rfl, e1.symm, by rw [ht]; exact hP, va_K.moved hW.alike hK, hD⟩, hS.F ht⟩) hS.2.2 hdg hlocks
/-- the world, by an equation -/
theorem vP_eq {w w' : va_W} (h : w = w') (hP : va_P G vwCl w H) : va_P G vwCl w' H := h ▸ hP
theorem vD_eq {w w' : va_W} (h : w = w') (hD : va_D A w) : va_D A w' := h ▸ hD
-- fields
theorem r_get {own C : String} {T : u_T} {N ci index a k : Nat} {fs : List Value} {v : Value} (hx : p.tables.exec = Jvm.exec) (hb : c.code = cc) (hts : ∀ w ∈ WG, w.before args s = true) (hown : s.vm.findClass own = some m.cls) (hK : va_K G vwCl (TYS kk) s) (hP : va_P G vwCl ws H) (fl : FL own index ci k C T N) (q0 : Nat) (he : ws[q0]? = some (a, .inr (ci, fs))) (hv : fs[k]? = some v) (hdg : decode cc pc = .ok (.getfield index, 3))
    (kk1 : W p l e R s m args below meth c H locs cells slots Q (F0 m (pc + 3) ls (v :: rest))) : W p l e R s m args below meth c H locs cells slots Q (F0 m pc ls (.ref a :: rest)) :=
  va_get hx hb hts fl.2.2.1 hown hK hP q0 he fl.1 k fl.2.1 (hts _ fl.2.2.2.1) (fun x h9 => by rw [fl.2.2.2.2] at h9; exact h9) hv hdg kk1
theorem r_getN {own C host : String} {T : u_T} {N ci index a k : Nat} {fs : List Value} {v : Value} {AE : Nat → Prop} (hE : ENV AE s) (hx : p.tables.exec = Jvm.exec) (hb : c.code = cc) (hts : ∀ w ∈ WG, w.before args s = true) (hown : s.vm.findClass own = some m.cls) (hK : va_K G vwCl (TYS kk) s) (hP : va_P G vwCl ws H) (fl : FN own index ci k C T N host) (q0 : Nat) (he : ws[q0]? = some (a, .inr (ci, fs))) (hv : fs[k]? = some v) (hdg : decode cc pc = .ok (.getfield index, 3))
    (kk1 : W p l e R s m args below meth c H locs cells slots Q (F0 m (pc + 3) ls (v :: rest))) : W p l e R s m args below meth c H locs cells slots Q (F0 m pc ls (.ref a :: rest)) :=
  va_getN hx hb hts fl.2.2.1 hown hK hP q0 he fl.1 k fl.2.1 (hE.1.use fl.2.2.2.1 _) (fun x h9 => by rw [fl.2.2.2.2] at h9; exact h9) hv hdg kk1
theorem r_put {own C : String} {T : u_T} {N ci index a k : Nat} {fs : List Value} {v : Value} {ty0 : Nat → FieldType} {ty : FieldType} (hx : p.tables.exec = Jvm.exec) (hb : c.code = cc) (hts : ∀ w ∈ WG, w.before args s = true) (hown : s.vm.findClass own = some m.cls) (hK : va_K G vwCl (TYS kk) s) (hP : va_P G vwCl ws H) (hD : va_D A ws) {H0 : Heap} (hS : va_S A H0 H locs) (fl : FL own index ci k C T N) (fw : FW ci k C T N ty0 ty) (q0 : Nat) (he : ws[q0]? = some (a, .inr (ci, fs))) (hn : narrow ty v = v) (hfit : fits ty v = true) (hl : k < fs.length) (hdg : decode cc pc = .ok (.putfield index, 3))
    (kk1 : ∀ (H1 : Heap) (locs1 : List Loc), va_P G vwCl (ws.set q0 (a, .inr (ci, fs.set k v))) H1 → va_D A (ws.set q0 (a, .inr (ci, fs.set k v))) → va_S A H0 H1 locs1 → W p l e R s m args below meth c H1 locs1 cells slots Q (F0 m (pc + 3) ls rest)) : W p l e R s m args below meth c H locs cells slots Q (F0 m pc ls (v :: .ref a :: rest)) :=
  va_put hx hb hts fl.2.2.1 ty0 fw.1 fw.2.1 hown hK hP hD hS q0 he fl.1 k fl.2.1 (hts _ fl.2.2.2.1) (fun x h9 => by rw [fl.2.2.2.2] at h9; exact h9) fw.2.2.1 fw.2.2.2 hn hfit hl hdg kk1
theorem r_putN {own C host : String} {T : u_T} {N ci index a k : Nat} {fs : List Value} {v : Value} {ty0 : Nat → FieldType} {ty : FieldType} {AE : Nat → Prop} (hE : ENV AE s) (hx : p.tables.exec = Jvm.exec) (hb : c.code = cc) (hts : ∀ w ∈ WG, w.before args s = true) (hown : s.vm.findClass own = some m.cls) (hK : va_K G vwCl (TYS kk) s) (hP : va_P G vwCl ws H) (hD : va_D A ws) {H0 : Heap} (hS : va_S A H0 H locs) (fl : FN own index ci k C T N host) (fw : FW ci k C T N ty0 ty) (q0 : Nat) (he : ws[q0]? = some (a, .inr (ci, fs))) (hn : narrow ty v = v) (hfit : fits ty v = true) (hl : k < fs.length) (hdg : decode cc pc = .ok (.putfield index, 3))
    (kk1 : ∀ (H1 : Heap) (locs1 : List Loc), va_P G vwCl (ws.set q0 (a, .inr (ci, fs.set k v))) H1 → va_D A (ws.set q0 (a, .inr (ci, fs.set k v))) → va_S A H0 H1 locs1 → W p l e R s m args below meth c H1 locs1 cells slots Q (F0 m (pc + 3) ls rest)) : W p l e R s m args below meth c H locs cells slots Q (F0 m pc ls (v :: .ref a :: rest)) :=
  va_putN hx hb hts fl.2.2.1 ty0 fw.1 fw.2.1 hown hK hP hD hS q0 he fl.1 k fl.2.1 (hE.1.use fl.2.2.2.1 _) (fun x h9 => by rw [fl.2.2.2.2] at h9; exact h9) fw.2.2.1 fw.2.2.2 hn hfit hl hdg kk1
-- arrays, their places as numbers
theorem ix_in {i : Int32} {k n : Nat} (e1 : i = nI k) (h : k < n) (hn : n < 2 ^ 31) : vp_in i n := by rw [e1]; exact vp_in_nI h hn
theorem ix_cl {i : Int32} {k n : Nat} (e1 : i = nI k) (h : k < n) (hn : n < 2 ^ 31) : i.toNatClampNeg = k := by rw [e1]; exact nI_clamp (Nat.lt_trans h hn)
theorem r_iald {a n : Nat} {f : Nat → Int32} {i : Int32} (hx : p.tables.exec = Jvm.exec) (hb : c.code = cc) (hK : va_K G vwCl (TYS kk) s) (hP : va_P G vwCl ws H) (q0 : Nat) (ha : ws[q0]? = some (a, .inl (kk 0, n, .inl f))) (k : Nat) (e1 : i = nI k) (h : k < n) (hn : n < 2 ^ 31) (hdg : decode cc pc = .ok (.iaload, 1))
    (kk1 : W p l e R s m args below meth c H locs cells slots Q (F0 m (pc + 1) ls (.int (f k) :: rest))) : W p l e R s m args below meth c H locs cells slots Q (F0 m pc ls (.int i :: .ref a :: rest)) :=
  va_iald hx hb hK hP q0 0 ha rfl (ix_in e1 h hn) hdg (by rw [ix_cl e1 h hn]; exact kk1)
theorem r_cald {a n : Nat} {f : Nat → Int32} {i : Int32} (hx : p.tables.exec = Jvm.exec) (hb : c.code = cc) (hK : va_K G vwCl (TYS kk) s) (hP : va_P G vwCl ws H) (q0 : Nat) (ha : ws[q0]? = some (a, .inl (kk 1, n, .inl f))) (k : Nat) (e1 : i = nI k) (h : k < n) (hn : n < 2 ^ 31) (hdg : decode cc pc = .ok (.caload, 1))
    (kk1 : W p l e R s m args below meth c H locs cells slots Q (F0 m (pc + 1) ls (.int (f k) :: rest))) : W p l e R s m args below meth c H locs cells slots Q (F0 m pc ls (.int i :: .ref a :: rest)) :=
  va_cald hx hb hK hP q0 1 ha rfl (ix_in e1 h hn) hdg (by rw [ix_cl e1 h hn]; exact kk1)
theorem r_zald {a n : Nat} {f : Nat → Int32} {i : Int32} (hx : p.tables.exec = Jvm.exec) (hb : c.code = cc) (hK : va_K G vwCl (TYS kk) s) (hP : va_P G vwCl ws H) (q0 : Nat) (ha : ws[q0]? = some (a, .inl (kk 2, n, .inl f))) (k : Nat) (e1 : i = nI k) (h : k < n) (hn : n < 2 ^ 31) (hdg : decode cc pc = .ok (.baload, 1))
    (kk1 : W p l e R s m args below meth c H locs cells slots Q (F0 m (pc + 1) ls (.int (f k) :: rest))) : W p l e R s m args below meth c H locs cells slots Q (F0 m pc ls (.int i :: .ref a :: rest)) :=
  va_zald hx hb hK hP q0 2 ha rfl (ix_in e1 h hn) hdg (by rw [ix_cl e1 h hn]; exact kk1)
theorem r_aald {a n : Nat} {f : Nat → Option Nat} {i : Int32} {C : String} (hx : p.tables.exec = Jvm.exec) (hb : c.code = cc) (hK : va_K G vwCl (TYS kk) s) (hP : va_P G vwCl ws H) (q0 t0 : Nat) (ha : ws[q0]? = some (a, .inl (kk t0, n, .inr (.inr (.inr (.inr f)))))) (ht : (TYS kk)[t0]? = some (kk t0, .object C)) (k g : Nat) (e1 : i = nI k) (h : k < n) (hn : n < 2 ^ 31) (hg : f k = some g) (hdg : decode cc pc = .ok (.aaload, 1))
    (kk1 : W p l e R s m args below meth c H locs cells slots Q (F0 m (pc + 1) ls (.ref g :: rest))) : W p l e R s m args below meth c H locs cells slots Q (F0 m pc ls (.int i :: .ref a :: rest)) :=
  va_aldq hx hb hK hP q0 t0 ha ht (ix_in e1 h hn) hdg (by rw [ix_cl e1 h hn, hg]; exact kk1)
theorem r_iast {a n : Nat} {f : Nat → Int32} {i x : Int32} {H0 : Heap} (hx : p.tables.exec = Jvm.exec) (hb : c.code = cc) (hK : va_K G vwCl (TYS kk) s) (hP : va_P G vwCl ws H) (hD : va_D A ws) (hS : va_S A H0 H locs) (q0 : Nat) (ha : ws[q0]? = some (a, .inl (kk 0, n, .inl f))) (k : Nat) (e1 : i = nI k) (h : k < n) (hn : n < 2 ^ 31) (hdg : decode cc pc = .ok (.iastore, 1))
    (kk1 : ∀ (H1 : Heap) (locs1 : List Loc), va_P G vwCl (ws.set q0 (a, .inl (kk 0, n, .inl (upd f k x)))) H1 → va_D A (ws.set q0 (a, .inl (kk 0, n, .inl (upd f k x)))) → va_S A H0 H1 locs1 → W p l e R s m args below meth c H1 locs1 cells slots Q (F0 m (pc + 1) ls rest)) : W p l e R s m args below meth c H locs cells slots Q (F0 m pc ls (.int x :: .int i :: .ref a :: rest)) :=
  va_iast hx hb hK hP hD hS q0 0 ha rfl (ix_in e1 h hn) hdg (by rw [ix_cl e1 h hn]; exact kk1)
theorem r_alen {a n t0 : Nat} {x : (Nat → Int32) ⊕ (Nat → Int64) ⊕ (Nat → UInt32) ⊕ (Nat → UInt64) ⊕ (Nat → Option Nat)} {ty : FieldType} (hx : p.tables.exec = Jvm.exec) (hb : c.code = cc) (hK : va_K G vwCl (TYS kk) s) (hP : va_P G vwCl ws H) (q0 : Nat) (ha : ws[q0]? = some (a, .inl (kk t0, n, x))) (ht : (TYS kk)[t0]? = some (kk t0, ty)) (hdg : decode cc pc = .ok (.arraylength, 1))
    (kk1 : W p l e R s m args below meth c H locs cells slots Q (F0 m (pc + 1) ls (.int (nI n) :: rest))) : W p l e R s m args below meth c H locs cells slots Q (F0 m pc ls (.ref a :: rest)) :=
  va_alen hx hb hK hP q0 t0 ha ht rfl hdg kk1
end FIN
/-- cells put back at their places -/
def setMany (ws : va_W) : List Nat → va_W → va_W
  | i :: is, x :: xs => setMany (ws.set i x) is xs
  | _, _ => ws
theorem setMany_at : ∀ (is : List Nat) (ws w1 : va_W) (k : Nat) (q : Nat × va_E), is.length = w1.length → (setMany ws is w1)[k]? = some q → (∃ j : Nat, is[j]? = some k ∧ w1[j]? = some q) ∨ (k ∉ is ∧ ws[k]? = some q)
  | [], ws, w1, k, q, _, h => Or.inr ⟨List.not_mem_nil, by simpa [setMany] using h⟩
  | i :: is, ws, [], k, q, hl, h => by simp at hl
  | i :: is, ws, x :: xs, k, q, hl, h => by
    have hl' : is.length = xs.length := by simpa using hl
    rcases setMany_at is (ws.set i x) xs k q hl' h with ⟨j, h1, h2⟩ | ⟨h1, h2⟩
    · exact Or.inl ⟨j + 1, by simpa using h1, by simpa using h2⟩
    · by_cases hk : k = i
      · subst hk
        have hlt : k < ws.length := by
          have := (List.getElem?_eq_some_iff.mp h2).1
          simpa using this
        rw [List.getElem?_set_self hlt] at h2
        exact Or.inl ⟨0, by simp, by simpa using h2⟩
      · rw [List.getElem?_set_ne (Ne.symm hk)] at h2
        exact Or.inr ⟨by simp [hk, h1], h2⟩
theorem keep_set {A0 : Nat → Prop} {D : va_G} {cl : List vw_C} {ws wc w1 : va_W} {H H1 : Heap} (hP : va_P D cl ws H) (hD : va_D A0 ws) (isC : List Nat) (hC : isC.map (fun i => ws[i]?) = wc.map some) (ha : w1.map (fun q => q.1) = wc.map (fun q => q.1))
    (hk : ∀ q : Nat, q < H.size → ¬ va_A wc H.size q → H1[q]? = H[q]?) (hP1 : va_P D cl w1 H1) : va_P D cl (setMany ws isC w1) H1 ∧ va_D A0 (setMany ws isC w1) := by
  have hlen : isC.length = w1.length := by
    have h1 := congrArg List.length hC
    have h2 := congrArg List.length ha
    simp at h1 h2
    omega
  have atC : ∀ (j k : Nat) (q : Nat × va_E), isC[j]? = some k → w1[j]? = some q → ∃ q0 : Nat × va_E, ws[k]? = some q0 ∧ q0.1 = q.1 := by
    intro j k q h1 h2
    have h3 : (isC.map (fun i => ws[i]?))[j]? = some (ws[k]?) := by rw [List.getElem?_map, h1]; rfl
    rw [hC, List.getElem?_map] at h3
    have h4 : (w1.map (fun q => q.1))[j]? = some q.1 := by rw [List.getElem?_map, h2]; rfl
    rw [ha, List.getElem?_map] at h4
    cases hw : wc[j]? with
    | none => rw [hw] at h4; cases h4
    | some q0 =>
      rw [hw] at h3 h4
      exact ⟨q0, (Option.some.inj h3).symm, Option.some.inj h4⟩
  have key : ∀ (k : Nat) (q : Nat × va_E), (setMany ws isC w1)[k]? = some q → ∃ q0 : Nat × va_E, ws[k]? = some q0 ∧ q0.1 = q.1 := by
    intro k q hq
    rcases setMany_at isC ws w1 k q hlen hq with ⟨j, h1, h2⟩ | ⟨-, h2⟩
    · exact atC j k q h1 h2
    · exact ⟨q, h2, rfl⟩
  refine ⟨fun k q hq => ?_, fun i j x y hi hj hxy => ?_, fun k q hq => ?_⟩
  · rcases setMany_at isC ws w1 k q hlen hq with ⟨j, h1, h2⟩ | ⟨h1, h2⟩
    · exact hP1 j q h2
    · have hlt := (hP k q h2).lt
      refine (hP k q h2).kept (hk q.1 hlt ?_)
      rintro (⟨j, e, h3⟩ | h3)
      · have h4 : (wc.map some)[j]? = some (some (q.1, e)) := by rw [List.getElem?_map, h3]; rfl
        rw [← hC, List.getElem?_map] at h4
        cases hi : isC[j]? with
        | none => rw [hi] at h4; cases h4
        | some i =>
          rw [hi] at h4
          have h5 : ws[i]? = some (q.1, e) := Option.some.inj h4
          have h6 := hD.1 k i q (q.1, e) h2 h5 rfl
          subst h6
          exact h1 (List.mem_of_getElem? hi)
      · omega
  · obtain ⟨x0, h1, h2⟩ := key i x hi
    obtain ⟨y0, h3, h4⟩ := key j y hj
    exact hD.1 i j x0 y0 h1 h3 (h2.trans (hxy.trans h4.symm))
  · obtain ⟨q0, h1, h2⟩ := key k q hq
    rw [← h2]
    exact hD.2 k q0 h1
theorem free_of {A0 : Nat → Prop} {ws wc : va_W} {H0 H : Heap} {locs : List Loc} (hD : va_D A0 ws) (hS : va_S A0 H0 H locs) (hA : ∀ q, H0.size ≤ q → A0 q) (isC : List Nat) (hC : isC.map (fun i => ws[i]?) = wc.map some) : ∀ q, va_A wc H.size q → A0 q := va_free hD hS hA isC hC
theorem sub_P {D : va_G} {cl : List vw_C} {ws wc : va_W} {H : Heap} (h : va_P D cl ws H) (isC : List Nat) (hC : isC.map (fun i => ws[i]?) = wc.map some) : va_P D cl wc H := by
  intro k q hk
  have h1 : (wc.map some)[k]? = some (some q) := by rw [List.getElem?_map, hk]; rfl
  rw [← hC, List.getElem?_map] at h1
  cases hi : isC[k]? with
  | none => rw [hi] at h1; cases h1
  | some i => rw [hi] at h1; exact h i q (Option.some.inj h1)
theorem blind_mP {as : List Value} {G : va_G} {kk : Nat → ClassId} {sz : Nat} {wc : va_W} : FrameBlind (va_Pc as (mP G kk sz wc)) := fun a U g mk q => by
  obtain ⟨q0, q1, qP, qK, qD, qE⟩ := q
  exact ⟨q0, q1, qP, va_K.moved (u := U) (U := U.calling g mk a) (Vm.Alike.refl U.vm) qK, qD, qE.calling g mk a⟩
section CALLS
variable {p : Program} {l : Launch} {e : Env} {R : Room} {s : State} {m : MethodId} {args : Array Value} {below : List Frame} {meth : Method} {c : Code} {H : Heap} {locs : List Loc} {cells slots : Nat} {Q : State → Prop}
variable {cc : ByteArray} {pc nL : Nat} {ls : Array Slot} {rest st0 : List Value} {G : va_G} {kk : Nat → ClassId} {A : Nat → Prop} {ws wc w1 : va_W} {own : String} {index a n ci q0 : Nat} {y : MethodName} {b : ByteArray} {ret : Option FieldType} {rm : Room} {As : List Value} {fs : List Value} {qc : vw_C} {H0 : Heap}
variable {Qk : (Nat → Prop) → Array Value → State → Outcome → State → Prop}
/-- what fits of the callee's room -/
def RF (rm R : Room) (n : Nat) : Prop := rm.frames + 1 ≤ R.frames ∧ 8 + (n + 11) + rm.locals ≤ R.locals ∧ rm.cells = 0 ∧ rm.slots = 0
theorem k_runV (hx : p.tables.exec = Jvm.exec) (hb : c.code = cc) (hml : c.maxLocals = nL) (hown : s.vm.findClass own = some m.cls) (hts : ∀ w ∈ WG, w.before args s = true) (hK : va_K G vwCl (TYS kk) s) (hP : va_P G vwCl ws H) (hD : va_D A ws) (hS : va_S A s.heap H locs) (hA : ∀ q : Nat, s.heap.size ≤ q → A q) (hE : ENV A s) (hl : ls.size = nL)
    (hc : CC l y b n ret rm (.ref a :: As) G kk wc Qk) (vl : VL own index y b n ret As.length) (hcl : vwCl[ci]? = some qc) (hcn : y.cls = qc.1) (he : wc[0]? = some (a, .inr (ci, fs))) (hrm : RF rm R n)
    (isC : List Nat) (hnd : va_nd isC = true) (hC : isC.map (fun i => ws[i]?) = wc.map some) (hcs : cells ≤ R.cells ∧ slots ≤ R.slots) (hst : st0 = As.reverse ++ .ref a :: rest) (hWr : (rest.map fun v => v.category).sum ≤ 8) (hdg : decode cc pc = .ok (.invokevirtual index, 3)) :
    va_Run p l e R s m args below meth c H locs cells slots 0 0 (F0 m pc ls st0) rest (Qk (va_A wc H.size) (Value.ref a :: As).toArray) (va_A wc H.size) := by
  subst hst
  obtain ⟨v1, v2, v3, v4, v5, v6, v7, v8⟩ := vl
  have hPc := sub_P hP isC hC
  have hDc := hD.sub isC hnd hC
  refine va_runV (Ts := WG) (C := y.cls) (ws := .code y b n ret :: WG) (rm := rm) (bytes := b) (maxL := n) (ret := ret) (n := As.length) (As := As) (rest := rest) (b := a) ⟨hx, hb, hml, hown, hts⟩ (hc H.size) ?_ ⟨blind_mP, ?_, fun U hU hW => ⟨rfl, by rw [hU], by rw [hU]; exact hPc, va_K.moved hW.alike hK, hDc.weaken (fun _ _ _ _ => trivial), hE.go hS (va_free hD hS hA isC hC) hU hW⟩⟩ rfl rfl hl rfl (lv_room hWr) hdg hcs
  · refine cwV (ws' := WG) As.length hts (wg_goodIn ?_) rfl hrm.2.2.1 hrm.2.2.2 ⟨rfl, v6, v7, v8⟩ ⟨hrm.1, hrm.2.1⟩
    intro w hw
    simp only [wsV, List.cons_append, List.nil_append, List.mem_cons] at hw
    rcases hw with rfl | rfl | rfl | rfl | rfl | hw
    · exact v1
    · exact v2
    · exact v3
    · exact v4
    · exact v5
    · exact hw
  · rw [hcn]
    exact va_recv hK hPc hcl he
theorem k_runS (hx : p.tables.exec = Jvm.exec) (hb : c.code = cc) (hml : c.maxLocals = nL) (hown : s.vm.findClass own = some m.cls) (hts : ∀ w ∈ WG, w.before args s = true) (hK : va_K G vwCl (TYS kk) s) (hP : va_P G vwCl ws H) (hD : va_D A ws) (hS : va_S A s.heap H locs) (hA : ∀ q : Nat, s.heap.size ≤ q → A q) (hE : ENV A s) (hl : ls.size = nL)
    (hc : CC l y b n ret rm As G kk wc Qk) (vl : SL own index y b n ret As.length) (hrm : RF rm R n)
    (isC : List Nat) (hnd : va_nd isC = true) (hC : isC.map (fun i => ws[i]?) = wc.map some) (hcs : cells ≤ R.cells ∧ slots ≤ R.slots) (hst : st0 = As.reverse ++ rest) (hWr : (rest.map fun v => v.category).sum ≤ 8) (hdg : decode cc pc = .ok (.invokestatic index, 3)) :
    va_Run p l e R s m args below meth c H locs cells slots 0 0 (F0 m pc ls st0) rest (Qk (va_A wc H.size) As.toArray) (va_A wc H.size) := by
  subst hst
  obtain ⟨v1, v2, v4, v5, v6, v7, v8⟩ := vl
  have hPc := sub_P hP isC hC
  have hDc := hD.sub isC hnd hC
  refine va_runS (Ts := WG) (ws := .code y b n ret :: WG) (rm := rm) (bytes := b) (maxL := n) (ret := ret) (n := As.length) (As := As) (rest := rest) ⟨hx, hb, hml, hown, hts⟩ (hc H.size) ?_ ⟨blind_mP, fun U hU hW => ⟨rfl, by rw [hU], by rw [hU]; exact hPc, va_K.moved hW.alike hK, hDc.weaken (fun _ _ _ _ => trivial), hE.go hS (va_free hD hS hA isC hC) hU hW⟩⟩ rfl rfl hl rfl (lv_room hWr) hdg hcs
  refine va_cwS (ws' := WG) As.length hts (wg_goodIn ?_) rfl hrm.2.2.1 hrm.2.2.2 ⟨v6, v7, v8⟩ ⟨hrm.1, hrm.2.1⟩
  intro w hw
  simp only [va_wsS, List.cons_append, List.nil_append, List.mem_cons] at hw
  rcases hw with rfl | rfl | rfl | rfl | hw
  · exact v1
  · exact v2
  · exact v4
  · exact v5
  · exact hw
theorem k_goI {r : Int32} {ar : Array Value} (hr : va_Run p l e R s m args below meth c H locs cells slots 0 0 (F0 m pc ls st0) rest (QI G kk w1 r (va_A wc H.size) ar) (va_A wc H.size)) (hP : va_P G vwCl ws H) (hD : va_D A ws) (hS : va_S A H0 H locs) (hA : ∀ q : Nat, H0.size ≤ q → A q) (isC : List Nat) (hC : isC.map (fun i => ws[i]?) = wc.map some) (ha : w1.map (fun q => q.1) = wc.map (fun q => q.1))
    (k : ∀ (H1 : Heap) (locs1 : List Loc), va_P G vwCl (setMany ws isC w1) H1 → va_D A (setMany ws isC w1) → va_S A H0 H1 locs1 → W p l e R s m args below meth c H1 locs1 cells slots Q (F0 m (pc + 3) ls (.int r :: rest))) : W p l e R s m args below meth c H locs cells slots Q (F0 m pc ls st0) := by
  have hF := va_free hD hS hA isC hC
  refine va_calli hr hS (fun q _ h => hF q h) hF (fun r1 u t H1 locs1 ht hvm hw hB hz hk hS1 => ?_)
  subst hw
  obtain ⟨hP1, -, -⟩ := hB
  rw [ht] at hP1
  obtain ⟨h1, h2⟩ := keep_set hP hD isC hC ha hk hP1
  exact k H1 locs1 h1 h2 hS1
theorem k_goL {r : Int64} {ar : Array Value} (hr : va_Run p l e R s m args below meth c H locs cells slots 0 0 (F0 m pc ls st0) rest (QL G kk w1 r (va_A wc H.size) ar) (va_A wc H.size)) (hP : va_P G vwCl ws H) (hD : va_D A ws) (hS : va_S A H0 H locs) (hA : ∀ q : Nat, H0.size ≤ q → A q) (isC : List Nat) (hC : isC.map (fun i => ws[i]?) = wc.map some) (ha : w1.map (fun q => q.1) = wc.map (fun q => q.1))
    (k : ∀ (H1 : Heap) (locs1 : List Loc), va_P G vwCl (setMany ws isC w1) H1 → va_D A (setMany ws isC w1) → va_S A H0 H1 locs1 → W p l e R s m args below meth c H1 locs1 cells slots Q (F0 m (pc + 3) ls (.long r :: rest))) : W p l e R s m args below meth c H locs cells slots Q (F0 m pc ls st0) := by
  have hF := va_free hD hS hA isC hC
  refine va_calll hr hS (fun q _ h => hF q h) hF (fun r1 u t H1 locs1 ht hvm hw hB hz hk hS1 => ?_)
  subst hw
  obtain ⟨hP1, -, -⟩ := hB
  rw [ht] at hP1
  obtain ⟨h1, h2⟩ := keep_set hP hD isC hC ha hk hP1
  exact k H1 locs1 h1 h2 hS1
theorem k_goQ {r : Option Nat} {ar : Array Value} (hr : va_Run p l e R s m args below meth c H locs cells slots 0 0 (F0 m pc ls st0) rest (QQ G kk w1 r (va_A wc H.size) ar) (va_A wc H.size)) (hP : va_P G vwCl ws H) (hD : va_D A ws) (hS : va_S A H0 H locs) (hA : ∀ q : Nat, H0.size ≤ q → A q) (isC : List Nat) (hC : isC.map (fun i => ws[i]?) = wc.map some) (ha : w1.map (fun q => q.1) = wc.map (fun q => q.1))
    (k : ∀ (H1 : Heap) (locs1 : List Loc), va_P G vwCl (setMany ws isC w1) H1 → va_D A (setMany ws isC w1) → va_S A H0 H1 locs1 → W p l e R s m args below meth c H1 locs1 cells slots Q (F0 m (pc + 3) ls (va_rf r :: rest))) : W p l e R s m args below meth c H locs cells slots Q (F0 m pc ls st0) := by
  have hF := va_free hD hS hA isC hC
  refine va_callq hr hS (fun q _ h => hF q h) hF (fun r1 u t H1 locs1 ht hvm hw hB hz hk hS1 => ?_)
  subst hw
  obtain ⟨hP1, -, -⟩ := hB
  rw [ht] at hP1
  obtain ⟨h1, h2⟩ := keep_set hP hD isC hC ha hk hP1
  exact k H1 locs1 h1 h2 hS1
theorem k_goV {ar : Array Value} (hr : va_Run p l e R s m args below meth c H locs cells slots 0 0 (F0 m pc ls st0) rest (QV G kk w1 (va_A wc H.size) ar) (va_A wc H.size)) (hP : va_P G vwCl ws H) (hD : va_D A ws) (hS : va_S A H0 H locs) (hA : ∀ q : Nat, H0.size ≤ q → A q) (isC : List Nat) (hC : isC.map (fun i => ws[i]?) = wc.map some) (ha : w1.map (fun q => q.1) = wc.map (fun q => q.1))
    (k : ∀ (H1 : Heap) (locs1 : List Loc), va_P G vwCl (setMany ws isC w1) H1 → va_D A (setMany ws isC w1) → va_S A H0 H1 locs1 → W p l e R s m args below meth c H1 locs1 cells slots Q (F0 m (pc + 3) ls rest)) : W p l e R s m args below meth c H locs cells slots Q (F0 m pc ls st0) := by
  have hF := va_free hD hS hA isC hC
  refine va_callv hr hS (fun q _ h => hF q h) hF (fun u t H1 locs1 ht hvm hw hB hz hk hS1 => ?_)
  obtain ⟨hP1, -, -⟩ := hB
  rw [ht] at hP1
  obtain ⟨h1, h2⟩ := keep_set hP hD isC hC ha hk hP1
  exact k H1 locs1 h1 h2 hS1
end CALLS
end
section
theorem in_X0 : ∀ w ∈ u_ws RX0 TX0 2, w ∈ WG := wg_all (by decide +kernel) (by decide +kernel)
theorem fw_0_1 : FW 0 1 RX0 TX0 2 tyX0 .int := ⟨tyX0_ok, nmX0, rfl, tyX0_ok 1 (by decide)⟩
theorem in_X1 : ∀ w ∈ u_ws RX1 TX1 7, w ∈ WG := wg_all (by decide +kernel) (by decide +kernel)
theorem fw_1_1 : FW 1 1 RX1 TX1 7 tyX1 .int := ⟨tyX1_ok, nmX1, rfl, tyX1_ok 1 (by decide)⟩
theorem fw_1_2 : FW 1 2 RX1 TX1 7 tyX1 .boolean := ⟨tyX1_ok, nmX1, rfl, tyX1_ok 2 (by decide)⟩
theorem fw_1_3 : FW 1 3 RX1 TX1 7 tyX1 .int := ⟨tyX1_ok, nmX1, rfl, tyX1_ok 3 (by decide)⟩
theorem fw_1_4 : FW 1 4 RX1 TX1 7 tyX1 .int := ⟨tyX1_ok, nmX1, rfl, tyX1_ok 4 (by decide)⟩
theorem fw_1_5 : FW 1 5 RX1 TX1 7 tyX1 .int := ⟨tyX1_ok, nmX1, rfl, tyX1_ok 5 (by decide)⟩
theorem fw_1_6 : FW 1 6 RX1 TX1 7 tyX1 .int := ⟨tyX1_ok, nmX1, rfl, tyX1_ok 6 (by decide)⟩
theorem in_X2 : ∀ w ∈ u_ws RX2 TX2 10, w ∈ WG := wg_all (by decide +kernel) (by decide +kernel)
theorem fw_2_1 : FW 2 1 RX2 TX2 10 tyX2 .int := ⟨tyX2_ok, nmX2, rfl, tyX2_ok 1 (by decide)⟩
theorem fw_2_2 : FW 2 2 RX2 TX2 10 tyX2 .int := ⟨tyX2_ok, nmX2, rfl, tyX2_ok 2 (by decide)⟩
theorem fw_2_3 : FW 2 3 RX2 TX2 10 tyX2 .int := ⟨tyX2_ok, nmX2, rfl, tyX2_ok 3 (by decide)⟩
theorem fw_2_4 : FW 2 4 RX2 TX2 10 tyX2 .int := ⟨tyX2_ok, nmX2, rfl, tyX2_ok 4 (by decide)⟩
theorem fw_2_5 : FW 2 5 RX2 TX2 10 tyX2 .boolean := ⟨tyX2_ok, nmX2, rfl, tyX2_ok 5 (by decide)⟩
theorem fw_2_6 : FW 2 6 RX2 TX2 10 tyX2 .int := ⟨tyX2_ok, nmX2, rfl, tyX2_ok 6 (by decide)⟩
theorem fw_2_7 : FW 2 7 RX2 TX2 10 tyX2 .int := ⟨tyX2_ok, nmX2, rfl, tyX2_ok 7 (by decide)⟩
theorem fw_2_8 : FW 2 8 RX2 TX2 10 tyX2 .int := ⟨tyX2_ok, nmX2, rfl, tyX2_ok 8 (by decide)⟩
theorem fw_2_9 : FW 2 9 RX2 TX2 10 tyX2 .int := ⟨tyX2_ok, nmX2, rfl, tyX2_ok 9 (by decide)⟩
theorem in_X3 : ∀ w ∈ u_ws RX3 TX3 6, w ∈ WG := wg_all (by decide +kernel) (by decide +kernel)
theorem fw_3_0 : FW 3 0 RX3 TX3 6 tyX3 .int := ⟨tyX3_ok, nmX3, rfl, tyX3_ok 0 (by decide)⟩
theorem fw_3_1 : FW 3 1 RX3 TX3 6 tyX3 .int := ⟨tyX3_ok, nmX3, rfl, tyX3_ok 1 (by decide)⟩
theorem fw_3_2 : FW 3 2 RX3 TX3 6 tyX3 .int := ⟨tyX3_ok, nmX3, rfl, tyX3_ok 2 (by decide)⟩
theorem fw_3_3 : FW 3 3 RX3 TX3 6 tyX3 .int := ⟨tyX3_ok, nmX3, rfl, tyX3_ok 3 (by decide)⟩
theorem fw_3_4 : FW 3 4 RX3 TX3 6 tyX3 .int := ⟨tyX3_ok, nmX3, rfl, tyX3_ok 4 (by decide)⟩
theorem fw_3_5 : FW 3 5 RX3 TX3 6 tyX3 .int := ⟨tyX3_ok, nmX3, rfl, tyX3_ok 5 (by decide)⟩
theorem in_X4 : ∀ w ∈ u_ws RX4 TX4 2, w ∈ WG := wg_all (by decide +kernel) (by decide +kernel)
theorem fw_4_1 : FW 4 1 RX4 TX4 2 tyX4 .boolean := ⟨tyX4_ok, nmX4, rfl, tyX4_ok 1 (by decide)⟩
theorem in_X5 : ∀ w ∈ u_ws RX5 TX5 11, w ∈ WG := wg_all (by decide +kernel) (by decide +kernel)
theorem fw_5_2 : FW 5 2 RX5 TX5 11 tyX5 .int := ⟨tyX5_ok, nmX5, rfl, tyX5_ok 2 (by decide)⟩
theorem fw_5_3 : FW 5 3 RX5 TX5 11 tyX5 .int := ⟨tyX5_ok, nmX5, rfl, tyX5_ok 3 (by decide)⟩
theorem fw_5_4 : FW 5 4 RX5 TX5 11 tyX5 .int := ⟨tyX5_ok, nmX5, rfl, tyX5_ok 4 (by decide)⟩
theorem fw_5_5 : FW 5 5 RX5 TX5 11 tyX5 .int := ⟨tyX5_ok, nmX5, rfl, tyX5_ok 5 (by decide)⟩
theorem fw_5_6 : FW 5 6 RX5 TX5 11 tyX5 .int := ⟨tyX5_ok, nmX5, rfl, tyX5_ok 6 (by decide)⟩
theorem fw_5_7 : FW 5 7 RX5 TX5 11 tyX5 .int := ⟨tyX5_ok, nmX5, rfl, tyX5_ok 7 (by decide)⟩
theorem fw_5_8 : FW 5 8 RX5 TX5 11 tyX5 .int := ⟨tyX5_ok, nmX5, rfl, tyX5_ok 8 (by decide)⟩
theorem fw_5_9 : FW 5 9 RX5 TX5 11 tyX5 .int := ⟨tyX5_ok, nmX5, rfl, tyX5_ok 9 (by decide)⟩
theorem fw_5_10 : FW 5 10 RX5 TX5 11 tyX5 .int := ⟨tyX5_ok, nmX5, rfl, tyX5_ok 10 (by decide)⟩
theorem in_X6 : ∀ w ∈ u_ws RX6 TX6 2, w ∈ WG := wg_all (by decide +kernel) (by decide +kernel)
theorem fw_6_1 : FW 6 1 RX6 TX6 2 tyX6 .int := ⟨tyX6_ok, nmX6, rfl, tyX6_ok 1 (by decide)⟩
theorem in_X7 : ∀ w ∈ u_ws RX7 TX7 7, w ∈ WG := wg_all (by decide +kernel) (by decide +kernel)
theorem in_X8 : ∀ w ∈ u_ws RX8 TX8 14, w ∈ WG := wg_all (by decide +kernel) (by decide +kernel)
theorem fw_8_0 : FW 8 0 RX8 TX8 14 tyX8 .int := ⟨tyX8_ok, nmX8, rfl, tyX8_ok 0 (by decide)⟩
theorem fw_8_2 : FW 8 2 RX8 TX8 14 tyX8 .int := ⟨tyX8_ok, nmX8, rfl, tyX8_ok 2 (by decide)⟩
theorem fw_8_6 : FW 8 6 RX8 TX8 14 tyX8 .int := ⟨tyX8_ok, nmX8, rfl, tyX8_ok 6 (by decide)⟩
theorem fw_8_10 : FW 8 10 RX8 TX8 14 tyX8 .int := ⟨tyX8_ok, nmX8, rfl, tyX8_ok 10 (by decide)⟩
theorem fw_8_11 : FW 8 11 RX8 TX8 14 tyX8 .int := ⟨tyX8_ok, nmX8, rfl, tyX8_ok 11 (by decide)⟩
theorem fw_8_12 : FW 8 12 RX8 TX8 14 tyX8 .int := ⟨tyX8_ok, nmX8, rfl, tyX8_ok 12 (by decide)⟩
theorem fw_8_13 : FW 8 13 RX8 TX8 14 tyX8 .boolean := ⟨tyX8_ok, nmX8, rfl, tyX8_ok 13 (by decide)⟩
theorem fl_X7_10 : FL RX7 10 7 0 RX7 TX7 7 := ⟨rfl, by decide, in_X7, wg_of 274 (by decide +kernel) rfl, rfl⟩
theorem fl_X7_19 : FL RX7 19 7 1 RX7 TX7 7 := ⟨rfl, by decide, in_X7, wg_of 275 (by decide +kernel) rfl, rfl⟩
theorem fl_X7_23 : FL RX7 23 7 2 RX7 TX7 7 := ⟨rfl, by decide, in_X7, wg_of 276 (by decide +kernel) rfl, rfl⟩
theorem fl_X7_26 : FL RX7 26 7 3 RX7 TX7 7 := ⟨rfl, by decide, in_X7, wg_of 277 (by decide +kernel) rfl, rfl⟩
theorem fl_X7_32 : FL RX7 32 7 4 RX7 TX7 7 := ⟨rfl, by decide, in_X7, wg_of 278 (by decide +kernel) rfl, rfl⟩
theorem fl_X7_39 : FL RX7 39 7 5 RX7 TX7 7 := ⟨rfl, by decide, in_X7, wg_of 279 (by decide +kernel) rfl, rfl⟩
theorem fl_X7_43 : FL RX7 43 7 6 RX7 TX7 7 := ⟨rfl, by decide, in_X7, wg_of 280 (by decide +kernel) rfl, rfl⟩
theorem fl_X0_11 : FL RX0 11 0 0 RX0 TX0 2 := ⟨rfl, by decide, in_X0, wg_of 249 (by decide +kernel) rfl, rfl⟩
theorem fl_X0_18 : FL RX0 18 0 1 RX0 TX0 2 := ⟨rfl, by decide, in_X0, wg_of 250 (by decide +kernel) rfl, rfl⟩
theorem fl_X1_12 : FL RX1 12 1 0 RX1 TX1 7 := ⟨rfl, by decide, in_X1, wg_of 85 (by decide +kernel) rfl, rfl⟩
theorem fl_X1_25 : FL RX1 25 1 2 RX1 TX1 7 := ⟨rfl, by decide, in_X1, wg_of 88 (by decide +kernel) rfl, rfl⟩
theorem fl_X1_29 : FL RX1 29 1 1 RX1 TX1 7 := ⟨rfl, by decide, in_X1, wg_of 87 (by decide +kernel) rfl, rfl⟩
theorem fl_X1_41 : FL RX1 41 1 3 RX1 TX1 7 := ⟨rfl, by decide, in_X1, wg_of 89 (by decide +kernel) rfl, rfl⟩
theorem fl_X1_52 : FL RX1 52 1 4 RX1 TX1 7 := ⟨rfl, by decide, in_X1, wg_of 91 (by decide +kernel) rfl, rfl⟩
theorem fl_X1_59 : FL RX1 59 1 5 RX1 TX1 7 := ⟨rfl, by decide, in_X1, wg_of 93 (by decide +kernel) rfl, rfl⟩
theorem fl_X1_62 : FL RX1 62 1 6 RX1 TX1 7 := ⟨rfl, by decide, in_X1, wg_of 95 (by decide +kernel) rfl, rfl⟩
theorem fl_X2_9 : FL RX2 9 2 0 RX2 TX2 10 := ⟨rfl, by decide, in_X2, wg_of 156 (by decide +kernel) rfl, rfl⟩
theorem fl_X2_15 : FL RX2 15 2 1 RX2 TX2 10 := ⟨rfl, by decide, in_X2, wg_of 158 (by decide +kernel) rfl, rfl⟩
theorem fl_X2_18 : FL RX2 18 2 2 RX2 TX2 10 := ⟨rfl, by decide, in_X2, wg_of 160 (by decide +kernel) rfl, rfl⟩
theorem fl_X2_21 : FL RX2 21 2 3 RX2 TX2 10 := ⟨rfl, by decide, in_X2, wg_of 162 (by decide +kernel) rfl, rfl⟩
theorem fl_X2_24 : FL RX2 24 2 4 RX2 TX2 10 := ⟨rfl, by decide, in_X2, wg_of 163 (by decide +kernel) rfl, rfl⟩
theorem fl_X2_27 : FL RX2 27 2 5 RX2 TX2 10 := ⟨rfl, by decide, in_X2, wg_of 166 (by decide +kernel) rfl, rfl⟩
theorem fl_X2_31 : FL RX2 31 2 6 RX2 TX2 10 := ⟨rfl, by decide, in_X2, wg_of 169 (by decide +kernel) rfl, rfl⟩
theorem fl_X2_34 : FL RX2 34 2 7 RX2 TX2 10 := ⟨rfl, by decide, in_X2, wg_of 172 (by decide +kernel) rfl, rfl⟩
theorem fl_X2_37 : FL RX2 37 2 8 RX2 TX2 10 := ⟨rfl, by decide, in_X2, wg_of 174 (by decide +kernel) rfl, rfl⟩
theorem fl_X2_40 : FL RX2 40 2 9 RX2 TX2 10 := ⟨rfl, by decide, in_X2, wg_of 176 (by decide +kernel) rfl, rfl⟩
theorem fl_X3_7 : FL RX3 7 3 0 RX3 TX3 6 := ⟨rfl, by decide, in_X3, wg_of 124 (by decide +kernel) rfl, rfl⟩
theorem fl_X3_13 : FL RX3 13 3 1 RX3 TX3 6 := ⟨rfl, by decide, in_X3, wg_of 126 (by decide +kernel) rfl, rfl⟩
theorem fl_X3_16 : FL RX3 16 3 2 RX3 TX3 6 := ⟨rfl, by decide, in_X3, wg_of 128 (by decide +kernel) rfl, rfl⟩
theorem fl_X3_19 : FL RX3 19 3 3 RX3 TX3 6 := ⟨rfl, by decide, in_X3, wg_of 130 (by decide +kernel) rfl, rfl⟩
theorem fl_X3_22 : FL RX3 22 3 4 RX3 TX3 6 := ⟨rfl, by decide, in_X3, wg_of 132 (by decide +kernel) rfl, rfl⟩
theorem fl_X3_25 : FL RX3 25 3 5 RX3 TX3 6 := ⟨rfl, by decide, in_X3, wg_of 134 (by decide +kernel) rfl, rfl⟩
theorem fl_X4_10 : FL RX4 10 4 0 RX4 TX4 2 := ⟨rfl, by decide, in_X4, wg_of 265 (by decide +kernel) rfl, rfl⟩
theorem fl_X4_16 : FL RX4 16 4 1 RX4 TX4 2 := ⟨rfl, by decide, in_X4, wg_of 267 (by decide +kernel) rfl, rfl⟩
theorem fl_X5_12 : FL RX5 12 5 0 RX5 TX5 11 := ⟨rfl, by decide, in_X5, wg_of 200 (by decide +kernel) rfl, rfl⟩
theorem fl_X5_20 : FL RX5 20 5 1 RX5 TX5 11 := ⟨rfl, by decide, in_X5, wg_of 202 (by decide +kernel) rfl, rfl⟩
theorem fl_X5_34 : FL RX5 34 5 2 RX5 TX5 11 := ⟨rfl, by decide, in_X5, wg_of 203 (by decide +kernel) rfl, rfl⟩
theorem fl_X5_38 : FL RX5 38 5 3 RX5 TX5 11 := ⟨rfl, by decide, in_X5, wg_of 205 (by decide +kernel) rfl, rfl⟩
theorem fl_X5_41 : FL RX5 41 5 4 RX5 TX5 11 := ⟨rfl, by decide, in_X5, wg_of 206 (by decide +kernel) rfl, rfl⟩
theorem fl_X5_44 : FL RX5 44 5 5 RX5 TX5 11 := ⟨rfl, by decide, in_X5, wg_of 208 (by decide +kernel) rfl, rfl⟩
theorem fl_X5_47 : FL RX5 47 5 6 RX5 TX5 11 := ⟨rfl, by decide, in_X5, wg_of 209 (by decide +kernel) rfl, rfl⟩
theorem fl_X5_50 : FL RX5 50 5 7 RX5 TX5 11 := ⟨rfl, by decide, in_X5, wg_of 211 (by decide +kernel) rfl, rfl⟩
theorem fl_X5_53 : FL RX5 53 5 8 RX5 TX5 11 := ⟨rfl, by decide, in_X5, wg_of 213 (by decide +kernel) rfl, rfl⟩
theorem fl_X5_56 : FL RX5 56 5 9 RX5 TX5 11 := ⟨rfl, by decide, in_X5, wg_of 215 (by decide +kernel) rfl, rfl⟩
theorem fl_X5_59 : FL RX5 59 5 10 RX5 TX5 11 := ⟨rfl, by decide, in_X5, wg_of 216 (by decide +kernel) rfl, rfl⟩
theorem fl_X6_9 : FL RX6 9 6 0 RX6 TX6 2 := ⟨rfl, by decide, in_X6, wg_of 77 (by decide +kernel) rfl, rfl⟩
theorem fl_X6_15 : FL RX6 15 6 1 RX6 TX6 2 := ⟨rfl, by decide, in_X6, wg_of 78 (by decide +kernel) rfl, rfl⟩
theorem fl_X8_7 : FL RX8 7 8 1 RX8 TX8 14 := ⟨rfl, by decide, in_X8, wg_of 878 (by decide +kernel) rfl, rfl⟩
theorem fl_X8_13 : FL RX8 13 8 3 RX8 TX8 14 := ⟨rfl, by decide, in_X8, wg_of 880 (by decide +kernel) rfl, rfl⟩
theorem fl_X8_16 : FL RX8 16 8 4 RX8 TX8 14 := ⟨rfl, by decide, in_X8, wg_of 881 (by decide +kernel) rfl, rfl⟩
theorem fl_X8_19 : FL RX8 19 8 5 RX8 TX8 14 := ⟨rfl, by decide, in_X8, wg_of 882 (by decide +kernel) rfl, rfl⟩
theorem fl_X8_22 : FL RX8 22 8 7 RX8 TX8 14 := ⟨rfl, by decide, in_X8, wg_of 884 (by decide +kernel) rfl, rfl⟩
theorem fl_X8_25 : FL RX8 25 8 8 RX8 TX8 14 := ⟨rfl, by decide, in_X8, wg_of 885 (by decide +kernel) rfl, rfl⟩
theorem fl_X8_29 : FL RX8 29 8 9 RX8 TX8 14 := ⟨rfl, by decide, in_X8, wg_of 886 (by decide +kernel) rfl, rfl⟩
theorem fl_X8_36 : FL RX8 36 8 0 RX8 TX8 14 := ⟨rfl, by decide, in_X8, wg_of 877 (by decide +kernel) rfl, rfl⟩
theorem fl_X8_48 : FL RX8 48 8 10 RX8 TX8 14 := ⟨rfl, by decide, in_X8, wg_of 887 (by decide +kernel) rfl, rfl⟩
theorem fl_X8_116 : FL RX8 116 8 2 RX8 TX8 14 := ⟨rfl, by decide, in_X8, wg_of 879 (by decide +kernel) rfl, rfl⟩
theorem fl_X8_123 : FL RX8 123 8 13 RX8 TX8 14 := ⟨rfl, by decide, in_X8, wg_of 890 (by decide +kernel) rfl, rfl⟩
theorem fl_X8_127 : FL RX8 127 8 11 RX8 TX8 14 := ⟨rfl, by decide, in_X8, wg_of 888 (by decide +kernel) rfl, rfl⟩
theorem fl_X8_139 : FL RX8 139 8 12 RX8 TX8 14 := ⟨rfl, by decide, in_X8, wg_of 889 (by decide +kernel) rfl, rfl⟩
theorem fl_X8_179 : FL RX8 179 8 6 RX8 TX8 14 := ⟨rfl, by decide, in_X8, wg_of 883 (by decide +kernel) rfl, rfl⟩
theorem fn_X7_53 : FN RX7 53 1 0 RX1 TX1 7 "MeterRooms" := ⟨rfl, by decide, in_X1, nw_of 86 (by decide +kernel) rfl, rfl⟩
theorem fn_X7_99 : FN RX7 99 1 3 RX1 TX1 7 "MeterRooms" := ⟨rfl, by decide, in_X1, nw_of 90 (by decide +kernel) rfl, rfl⟩
theorem fn_X7_103 : FN RX7 103 1 4 RX1 TX1 7 "MeterRooms" := ⟨rfl, by decide, in_X1, nw_of 92 (by decide +kernel) rfl, rfl⟩
theorem fn_X7_106 : FN RX7 106 1 5 RX1 TX1 7 "MeterRooms" := ⟨rfl, by decide, in_X1, nw_of 94 (by decide +kernel) rfl, rfl⟩
theorem fn_X7_109 : FN RX7 109 1 6 RX1 TX1 7 "MeterRooms" := ⟨rfl, by decide, in_X1, nw_of 96 (by decide +kernel) rfl, rfl⟩
theorem fn_X7_152 : FN RX7 152 2 9 RX2 TX2 10 "MeterRooms" := ⟨rfl, by decide, in_X2, nw_of 177 (by decide +kernel) rfl, rfl⟩
theorem fn_X7_162 : FN RX7 162 5 0 RX5 TX5 11 "MeterRooms" := ⟨rfl, by decide, in_X5, nw_of 201 (by decide +kernel) rfl, rfl⟩
theorem fn_X7_192 : FN RX7 192 2 4 RX2 TX2 10 "MeterRooms" := ⟨rfl, by decide, in_X2, nw_of 164 (by decide +kernel) rfl, rfl⟩
theorem fn_X7_203 : FN RX7 203 5 6 RX5 TX5 11 "MeterRooms" := ⟨rfl, by decide, in_X5, nw_of 210 (by decide +kernel) rfl, rfl⟩
theorem fn_X7_219 : FN RX7 219 0 1 RX0 TX0 2 "MeterRooms" := ⟨rfl, by decide, in_X0, nw_of 251 (by decide +kernel) rfl, rfl⟩
theorem fn_X7_233 : FN RX7 233 5 4 RX5 TX5 11 "MeterRooms" := ⟨rfl, by decide, in_X5, nw_of 207 (by decide +kernel) rfl, rfl⟩
theorem fn_X7_236 : FN RX7 236 5 7 RX5 TX5 11 "MeterRooms" := ⟨rfl, by decide, in_X5, nw_of 212 (by decide +kernel) rfl, rfl⟩
theorem fn_X7_239 : FN RX7 239 5 8 RX5 TX5 11 "MeterRooms" := ⟨rfl, by decide, in_X5, nw_of 214 (by decide +kernel) rfl, rfl⟩
theorem fn_X7_248 : FN RX7 248 2 5 RX2 TX2 10 "MeterRooms" := ⟨rfl, by decide, in_X2, nw_of 168 (by decide +kernel) rfl, rfl⟩
theorem fn_X7_273 : FN RX7 273 2 6 RX2 TX2 10 "MeterRooms" := ⟨rfl, by decide, in_X2, nw_of 170 (by decide +kernel) rfl, rfl⟩
theorem fn_X7_295 : FN RX7 295 5 2 RX5 TX5 11 "MeterRooms" := ⟨rfl, by decide, in_X5, nw_of 204 (by decide +kernel) rfl, rfl⟩
theorem fn_X7_298 : FN RX7 298 4 1 RX4 TX4 2 "MeterRooms" := ⟨rfl, by decide, in_X4, nw_of 268 (by decide +kernel) rfl, rfl⟩
theorem fn_X7_303 : FN RX7 303 4 0 RX4 TX4 2 "MeterRooms" := ⟨rfl, by decide, in_X4, nw_of 266 (by decide +kernel) rfl, rfl⟩
theorem fn_X5_77 : FN RX5 77 2 0 RX2 TX2 10 "MeterRooms" := ⟨rfl, by decide, in_X2, nw_of 157 (by decide +kernel) rfl, rfl⟩
theorem fn_X5_80 : FN RX5 80 2 5 RX2 TX2 10 "MeterRooms" := ⟨rfl, by decide, in_X2, nw_of 167 (by decide +kernel) rfl, rfl⟩
theorem fn_X5_103 : FN RX5 103 2 4 RX2 TX2 10 "MeterRooms" := ⟨rfl, by decide, in_X2, nw_of 165 (by decide +kernel) rfl, rfl⟩
theorem fn_X5_123 : FN RX5 123 3 2 RX3 TX3 6 "MeterRooms" := ⟨rfl, by decide, in_X3, nw_of 129 (by decide +kernel) rfl, rfl⟩
theorem fn_X5_141 : FN RX5 141 2 9 RX2 TX2 10 "MeterRooms" := ⟨rfl, by decide, in_X2, nw_of 178 (by decide +kernel) rfl, rfl⟩
theorem fn_X5_144 : FN RX5 144 3 5 RX3 TX3 6 "MeterRooms" := ⟨rfl, by decide, in_X3, nw_of 135 (by decide +kernel) rfl, rfl⟩
theorem fn_X5_147 : FN RX5 147 2 7 RX2 TX2 10 "MeterRooms" := ⟨rfl, by decide, in_X2, nw_of 173 (by decide +kernel) rfl, rfl⟩
theorem fn_X5_150 : FN RX5 150 2 8 RX2 TX2 10 "MeterRooms" := ⟨rfl, by decide, in_X2, nw_of 175 (by decide +kernel) rfl, rfl⟩
theorem fn_X5_159 : FN RX5 159 3 0 RX3 TX3 6 "MeterRooms" := ⟨rfl, by decide, in_X3, nw_of 125 (by decide +kernel) rfl, rfl⟩
theorem fn_X5_168 : FN RX5 168 3 1 RX3 TX3 6 "MeterRooms" := ⟨rfl, by decide, in_X3, nw_of 127 (by decide +kernel) rfl, rfl⟩
theorem fn_X5_192 : FN RX5 192 3 3 RX3 TX3 6 "MeterRooms" := ⟨rfl, by decide, in_X3, nw_of 131 (by decide +kernel) rfl, rfl⟩
theorem fn_X5_195 : FN RX5 195 2 1 RX2 TX2 10 "MeterRooms" := ⟨rfl, by decide, in_X2, nw_of 159 (by decide +kernel) rfl, rfl⟩
theorem fn_X5_204 : FN RX5 204 2 2 RX2 TX2 10 "MeterRooms" := ⟨rfl, by decide, in_X2, nw_of 161 (by decide +kernel) rfl, rfl⟩
theorem fn_X5_207 : FN RX5 207 3 4 RX3 TX3 6 "MeterRooms" := ⟨rfl, by decide, in_X3, nw_of 133 (by decide +kernel) rfl, rfl⟩
theorem fn_X5_210 : FN RX5 210 2 6 RX2 TX2 10 "MeterRooms" := ⟨rfl, by decide, in_X2, nw_of 171 (by decide +kernel) rfl, rfl⟩
theorem vl_X7_57 : VL RX7 57 yX6_isFull cX6_isFull 1 (some .boolean) 0 := ⟨wg_of 550 (by decide +kernel) rfl, wg_of 551 (by decide +kernel) rfl, wg_of 552 (by decide +kernel) rfl, wg_of 43 (by decide +kernel) rfl, wg_of 553 (by decide +kernel) rfl, by decide +kernel⟩
theorem vl_X7_68 : VL RX7 68 yX6_lengthen cX6_lengthen 2 (some .int) 1 := ⟨wg_of 570 (by decide +kernel) rfl, wg_of 571 (by decide +kernel) rfl, wg_of 572 (by decide +kernel) rfl, wg_of 43 (by decide +kernel) rfl, wg_of 573 (by decide +kernel) rfl, by decide +kernel⟩
theorem vl_X7_72 : VL RX7 72 yX6_empty cX6_empty 2 (some .int) 0 := ⟨wg_of 300 (by decide +kernel) rfl, wg_of 301 (by decide +kernel) rfl, wg_of 302 (by decide +kernel) rfl, wg_of 43 (by decide +kernel) rfl, wg_of 303 (by decide +kernel) rfl, by decide +kernel⟩
theorem vl_X7_76 : VL RX7 76 yX1_firstError cX1_firstError 3 (some .int) 0 := ⟨wg_of 308 (by decide +kernel) rfl, wg_of 309 (by decide +kernel) rfl, wg_of 310 (by decide +kernel) rfl, wg_of 42 (by decide +kernel) rfl, wg_of 311 (by decide +kernel) rfl, by decide +kernel⟩
theorem vl_X7_81 : VL RX7 81 yX5_copyFrom cX5_copyFrom 3 none 1 := ⟨wg_of 373 (by decide +kernel) rfl, wg_of 374 (by decide +kernel) rfl, wg_of 375 (by decide +kernel) rfl, wg_of 44 (by decide +kernel) rfl, wg_of 376 (by decide +kernel) rfl, by decide +kernel⟩
theorem vl_X7_85 : VL RX7 85 yX0_forgetAll cX0_forgetAll 1 none 0 := ⟨wg_of 582 (by decide +kernel) rfl, wg_of 583 (by decide +kernel) rfl, wg_of 584 (by decide +kernel) rfl, wg_of 47 (by decide +kernel) rfl, wg_of 585 (by decide +kernel) rfl, by decide +kernel⟩
theorem vl_X7_88 : VL RX7 88 yX4_empty cX4_empty 1 none 0 := ⟨wg_of 586 (by decide +kernel) rfl, wg_of 587 (by decide +kernel) rfl, wg_of 588 (by decide +kernel) rfl, wg_of 48 (by decide +kernel) rfl, wg_of 589 (by decide +kernel) rfl, by decide +kernel⟩
theorem vl_X7_90 : VL RX7 90 yX1_start cX1_start 1 none 0 := ⟨wg_of 590 (by decide +kernel) rfl, wg_of 313 (by decide +kernel) rfl, wg_of 314 (by decide +kernel) rfl, wg_of 42 (by decide +kernel) rfl, wg_of 315 (by decide +kernel) rfl, by decide +kernel⟩
theorem vl_X7_93 : VL RX7 93 yX1_readsCommand cX1_readsCommand 1 (some .boolean) 0 := ⟨wg_of 591 (by decide +kernel) rfl, wg_of 325 (by decide +kernel) rfl, wg_of 326 (by decide +kernel) rfl, wg_of 42 (by decide +kernel) rfl, wg_of 327 (by decide +kernel) rfl, by decide +kernel⟩
theorem vl_X7_96 : VL RX7 96 yX7_doCommand cX7_doCommand 1 (some .boolean) 0 := ⟨wg_of 592 (by decide +kernel) rfl, wg_of 594 (by decide +kernel) rfl, wg_of 13 (by decide +kernel) rfl, wg_of 41 (by decide +kernel) rfl, wg_of 595 (by decide +kernel) rfl, by decide +kernel⟩
theorem vl_X7_112 : VL RX7 112 yX5_takeRoom cX5_takeRoom 5 (some .int) 3 := ⟨wg_of 596 (by decide +kernel) rfl, wg_of 597 (by decide +kernel) rfl, wg_of 598 (by decide +kernel) rfl, wg_of 44 (by decide +kernel) rfl, wg_of 599 (by decide +kernel) rfl, by decide +kernel⟩
theorem vl_X7_116 : VL RX7 116 yX5_moveDoor cX5_moveDoor 4 (some .boolean) 2 := ⟨wg_of 385 (by decide +kernel) rfl, wg_of 386 (by decide +kernel) rfl, wg_of 387 (by decide +kernel) rfl, wg_of 44 (by decide +kernel) rfl, wg_of 388 (by decide +kernel) rfl, by decide +kernel⟩
theorem vl_X7_120 : VL RX7 120 yX5_passMinutes cX5_passMinutes 3 (some .boolean) 1 := ⟨wg_of 390 (by decide +kernel) rfl, wg_of 391 (by decide +kernel) rfl, wg_of 392 (by decide +kernel) rfl, wg_of 44 (by decide +kernel) rfl, wg_of 393 (by decide +kernel) rfl, by decide +kernel⟩
theorem vl_X7_124 : VL RX7 124 yX5_changeSetting cX5_changeSetting 3 (some .boolean) 2 := ⟨wg_of 611 (by decide +kernel) rfl, wg_of 612 (by decide +kernel) rfl, wg_of 613 (by decide +kernel) rfl, wg_of 44 (by decide +kernel) rfl, wg_of 614 (by decide +kernel) rfl, by decide +kernel⟩
theorem vl_X7_130 : VL RX7 130 yX5_account cX5_account 2 (some .int) 1 := ⟨wg_of 637 (by decide +kernel) rfl, wg_of 638 (by decide +kernel) rfl, wg_of 639 (by decide +kernel) rfl, wg_of 44 (by decide +kernel) rfl, wg_of 640 (by decide +kernel) rfl, by decide +kernel⟩
theorem vl_X7_133 : VL RX7 133 yX5_roomAt cX5_roomAt 3 (some (.object "MeterRooms$Room")) 1 := ⟨wg_of 361 (by decide +kernel) rfl, wg_of 362 (by decide +kernel) rfl, wg_of 363 (by decide +kernel) rfl, wg_of 44 (by decide +kernel) rfl, wg_of 364 (by decide +kernel) rfl, by decide +kernel⟩
theorem vl_X7_144 : VL RX7 144 yX2_property cX2_property 2 (some .int) 1 := ⟨wg_of 670 (by decide +kernel) rfl, wg_of 671 (by decide +kernel) rfl, wg_of 672 (by decide +kernel) rfl, wg_of 46 (by decide +kernel) rfl, wg_of 673 (by decide +kernel) rfl, by decide +kernel⟩
theorem vl_X7_149 : VL RX7 149 yX5_planMinute cX5_planMinute 3 (some .int) 0 := ⟨wg_of 681 (by decide +kernel) rfl, wg_of 402 (by decide +kernel) rfl, wg_of 403 (by decide +kernel) rfl, wg_of 44 (by decide +kernel) rfl, wg_of 404 (by decide +kernel) rfl, by decide +kernel⟩
theorem sl_X7_155 : SL RX7 155 yX3_isSetting cX3_isSetting 1 (some .boolean) 1 := ⟨wg_of 689 (by decide +kernel) rfl, wg_of 619 (by decide +kernel) rfl, wg_of 45 (by decide +kernel) rfl, wg_of 620 (by decide +kernel) rfl, by decide +kernel⟩
theorem vl_X7_166 : VL RX7 166 yX3_value cX3_value 2 (some .int) 1 := ⟨wg_of 691 (by decide +kernel) rfl, wg_of 692 (by decide +kernel) rfl, wg_of 693 (by decide +kernel) rfl, wg_of 45 (by decide +kernel) rfl, wg_of 694 (by decide +kernel) rfl, by decide +kernel⟩
theorem sl_X7_169 : SL RX7 169 yX5_canBeRoom cX5_canBeRoom 3 (some .boolean) 3 := ⟨wg_of 702 (by decide +kernel) rfl, wg_of 605 (by decide +kernel) rfl, wg_of 44 (by decide +kernel) rfl, wg_of 606 (by decide +kernel) rfl, by decide +kernel⟩
theorem vl_X7_175 : VL RX7 175 yX5_firstFree cX5_firstFree 5 (some (.object "MeterRooms$Room")) 0 := ⟨wg_of 704 (by decide +kernel) rfl, wg_of 601 (by decide +kernel) rfl, wg_of 602 (by decide +kernel) rfl, wg_of 44 (by decide +kernel) rfl, wg_of 603 (by decide +kernel) rfl, by decide +kernel⟩
theorem vl_X7_181 : VL RX7 181 yX0_remember cX0_remember 2 none 1 := ⟨wg_of 706 (by decide +kernel) rfl, wg_of 707 (by decide +kernel) rfl, wg_of 708 (by decide +kernel) rfl, wg_of 47 (by decide +kernel) rfl, wg_of 709 (by decide +kernel) rfl, by decide +kernel⟩
theorem vl_X7_184 : VL RX7 184 yX5_openDoors cX5_openDoors 6 (some .int) 0 := ⟨wg_of 722 (by decide +kernel) rfl, wg_of 723 (by decide +kernel) rfl, wg_of 724 (by decide +kernel) rfl, wg_of 44 (by decide +kernel) rfl, wg_of 725 (by decide +kernel) rfl, by decide +kernel⟩
theorem sl_X7_187 : SL RX7 187 yX5_canBeTemperature cX5_canBeTemperature 1 (some .boolean) 1 := ⟨wg_of 733 (by decide +kernel) rfl, wg_of 734 (by decide +kernel) rfl, wg_of 44 (by decide +kernel) rfl, wg_of 735 (by decide +kernel) rfl, by decide +kernel⟩
theorem vl_X7_195 : VL RX7 195 yX5_takeGoods cX5_takeGoods 4 (some .boolean) 2 := ⟨wg_of 737 (by decide +kernel) rfl, wg_of 738 (by decide +kernel) rfl, wg_of 739 (by decide +kernel) rfl, wg_of 44 (by decide +kernel) rfl, wg_of 740 (by decide +kernel) rfl, by decide +kernel⟩
theorem sl_X7_198 : SL RX7 198 yX5_canPass cX5_canPass 1 (some .boolean) 1 := ⟨wg_of 749 (by decide +kernel) rfl, wg_of 395 (by decide +kernel) rfl, wg_of 44 (by decide +kernel) rfl, wg_of 396 (by decide +kernel) rfl, by decide +kernel⟩
theorem sl_X7_206 : SL RX7 206 yX3_isAllowed cX3_isAllowed 2 (some .boolean) 2 := ⟨wg_of 758 (by decide +kernel) rfl, wg_of 616 (by decide +kernel) rfl, wg_of 45 (by decide +kernel) rfl, wg_of 617 (by decide +kernel) rfl, by decide +kernel⟩
theorem vl_X7_211 : VL RX7 211 yX0_isEmpty cX0_isEmpty 1 (some .boolean) 0 := ⟨wg_of 767 (by decide +kernel) rfl, wg_of 768 (by decide +kernel) rfl, wg_of 769 (by decide +kernel) rfl, wg_of 47 (by decide +kernel) rfl, wg_of 770 (by decide +kernel) rfl, by decide +kernel⟩
theorem vl_X7_216 : VL RX7 216 yX0_takeBack cX0_takeBack 2 none 1 := ⟨wg_of 772 (by decide +kernel) rfl, wg_of 773 (by decide +kernel) rfl, wg_of 774 (by decide +kernel) rfl, wg_of 47 (by decide +kernel) rfl, wg_of 775 (by decide +kernel) rfl, by decide +kernel⟩
theorem vl_X7_222 : VL RX7 222 yX5_spareKilowatts cX5_spareKilowatts 4 (some .int) 0 := ⟨wg_of 346 (by decide +kernel) rfl, wg_of 347 (by decide +kernel) rfl, wg_of 348 (by decide +kernel) rfl, wg_of 44 (by decide +kernel) rfl, wg_of 349 (by decide +kernel) rfl, by decide +kernel⟩
theorem vl_X7_225 : VL RX7 225 yX2_isWarm cX2_isWarm 1 (some .boolean) 0 := ⟨wg_of 783 (by decide +kernel) rfl, wg_of 466 (by decide +kernel) rfl, wg_of 467 (by decide +kernel) rfl, wg_of 46 (by decide +kernel) rfl, wg_of 468 (by decide +kernel) rfl, by decide +kernel⟩
theorem vl_X7_228 : VL RX7 228 yX5_passMinute cX5_passMinute 5 none 0 := ⟨wg_of 784 (by decide +kernel) rfl, wg_of 398 (by decide +kernel) rfl, wg_of 399 (by decide +kernel) rfl, wg_of 44 (by decide +kernel) rfl, wg_of 400 (by decide +kernel) rfl, by decide +kernel⟩
theorem vl_X7_242 : VL RX7 242 yX5_warmestRoom cX5_warmestRoom 6 (some .int) 0 := ⟨wg_of 793 (by decide +kernel) rfl, wg_of 794 (by decide +kernel) rfl, wg_of 795 (by decide +kernel) rfl, wg_of 44 (by decide +kernel) rfl, wg_of 796 (by decide +kernel) rfl, by decide +kernel⟩
theorem vl_X7_245 : VL RX7 245 yX7_isKept cX7_isKept 4 (some .boolean) 2 := ⟨wg_of 805 (by decide +kernel) rfl, wg_of 807 (by decide +kernel) rfl, wg_of 16 (by decide +kernel) rfl, wg_of 41 (by decide +kernel) rfl, wg_of 808 (by decide +kernel) rfl, by decide +kernel⟩
theorem vl_X7_252 : VL RX7 252 yX7_warmthIfShut cX7_warmthIfShut 3 (some .int) 1 := ⟨wg_of 369 (by decide +kernel) rfl, wg_of 371 (by decide +kernel) rfl, wg_of 3 (by decide +kernel) rfl, wg_of 41 (by decide +kernel) rfl, wg_of 372 (by decide +kernel) rfl, by decide +kernel⟩
theorem vl_X7_255 : VL RX7 255 yX2_warmth cX2_warmth 1 (some .int) 0 := ⟨wg_of 469 (by decide +kernel) rfl, wg_of 470 (by decide +kernel) rfl, wg_of 471 (by decide +kernel) rfl, wg_of 46 (by decide +kernel) rfl, wg_of 472 (by decide +kernel) rfl, by decide +kernel⟩
theorem sl_X7_258 : SL RX7 258 yX7_withoutGroups cX7_withoutGroups 6 (some .long) 2 := ⟨wg_of 816 (by decide +kernel) rfl, wg_of 817 (by decide +kernel) rfl, wg_of 41 (by decide +kernel) rfl, wg_of 818 (by decide +kernel) rfl, by decide +kernel⟩
theorem vl_X7_266 : VL RX7 266 yX7_doGroup cX7_doGroup 4 (some .boolean) 1 := ⟨wg_of 821 (by decide +kernel) rfl, wg_of 823 (by decide +kernel) rfl, wg_of 17 (by decide +kernel) rfl, wg_of 41 (by decide +kernel) rfl, wg_of 824 (by decide +kernel) rfl, by decide +kernel⟩
theorem vl_X7_269 : VL RX7 269 yX7_isSo cX7_isSo 4 (some .boolean) 3 := ⟨wg_of 825 (by decide +kernel) rfl, wg_of 827 (by decide +kernel) rfl, wg_of 18 (by decide +kernel) rfl, wg_of 41 (by decide +kernel) rfl, wg_of 828 (by decide +kernel) rfl, by decide +kernel⟩
theorem vl_X7_282 : VL RX7 282 yX7_doTurn cX7_doTurn 3 none 1 := ⟨wg_of 839 (by decide +kernel) rfl, wg_of 841 (by decide +kernel) rfl, wg_of 19 (by decide +kernel) rfl, wg_of 41 (by decide +kernel) rfl, wg_of 842 (by decide +kernel) rfl, by decide +kernel⟩
theorem vl_X7_286 : VL RX7 286 yX7_slotAt cX7_slotAt 2 (some (.object "MeterRooms$Slot")) 1 := ⟨wg_of 850 (by decide +kernel) rfl, wg_of 852 (by decide +kernel) rfl, wg_of 20 (by decide +kernel) rfl, wg_of 41 (by decide +kernel) rfl, wg_of 853 (by decide +kernel) rfl, by decide +kernel⟩
theorem vl_X7_292 : VL RX7 292 yX4_keep cX4_keep 2 none 1 := ⟨wg_of 855 (by decide +kernel) rfl, wg_of 856 (by decide +kernel) rfl, wg_of 857 (by decide +kernel) rfl, wg_of 48 (by decide +kernel) rfl, wg_of 858 (by decide +kernel) rfl, by decide +kernel⟩
theorem vl_X0_22 : VL RX0 22 yX0_forgetOldest cX0_forgetOldest 3 none 0 := ⟨wg_of 710 (by decide +kernel) rfl, wg_of 712 (by decide +kernel) rfl, wg_of 15 (by decide +kernel) rfl, wg_of 47 (by decide +kernel) rfl, wg_of 713 (by decide +kernel) rfl, by decide +kernel⟩
theorem vl_X0_25 : VL RX0 25 yX5_copyFrom cX5_copyFrom 3 none 1 := ⟨wg_of 714 (by decide +kernel) rfl, wg_of 374 (by decide +kernel) rfl, wg_of 375 (by decide +kernel) rfl, wg_of 44 (by decide +kernel) rfl, wg_of 376 (by decide +kernel) rfl, by decide +kernel⟩
theorem vl_X1_18 : VL RX1 18 yX1_start cX1_start 1 none 0 := ⟨wg_of 312 (by decide +kernel) rfl, wg_of 313 (by decide +kernel) rfl, wg_of 314 (by decide +kernel) rfl, wg_of 42 (by decide +kernel) rfl, wg_of 315 (by decide +kernel) rfl, by decide +kernel⟩
theorem vl_X1_21 : VL RX1 21 yX1_readsCommand cX1_readsCommand 1 (some .boolean) 0 := ⟨wg_of 324 (by decide +kernel) rfl, wg_of 325 (by decide +kernel) rfl, wg_of 326 (by decide +kernel) rfl, wg_of 42 (by decide +kernel) rfl, wg_of 327 (by decide +kernel) rfl, by decide +kernel⟩
theorem vl_X1_33 : VL RX1 33 yX6_signAt cX6_signAt 2 (some .int) 1 := ⟨wg_of 316 (by decide +kernel) rfl, wg_of 317 (by decide +kernel) rfl, wg_of 318 (by decide +kernel) rfl, wg_of 43 (by decide +kernel) rfl, wg_of 319 (by decide +kernel) rfl, by decide +kernel⟩
theorem vl_X1_37 : VL RX1 37 yX1_moveIf cX1_moveIf 2 none 1 := ⟨wg_of 320 (by decide +kernel) rfl, wg_of 322 (by decide +kernel) rfl, wg_of 0 (by decide +kernel) rfl, wg_of 42 (by decide +kernel) rfl, wg_of 323 (by decide +kernel) rfl, by decide +kernel⟩
theorem sl_X1_44 : SL RX1 44 yX1_isCommand cX1_isCommand 1 (some .boolean) 1 := ⟨wg_of 328 (by decide +kernel) rfl, wg_of 329 (by decide +kernel) rfl, wg_of 42 (by decide +kernel) rfl, wg_of 330 (by decide +kernel) rfl, by decide +kernel⟩
theorem vl_X1_48 : VL RX1 48 yX1_readNumber cX1_readNumber 8 (some .int) 3 := ⟨wg_of 331 (by decide +kernel) rfl, wg_of 333 (by decide +kernel) rfl, wg_of 1 (by decide +kernel) rfl, wg_of 42 (by decide +kernel) rfl, wg_of 334 (by decide +kernel) rfl, by decide +kernel⟩
theorem vl_X1_55 : VL RX1 55 yX1_readTemperature cX1_readTemperature 2 (some .int) 0 := ⟨wg_of 338 (by decide +kernel) rfl, wg_of 340 (by decide +kernel) rfl, wg_of 2 (by decide +kernel) rfl, wg_of 42 (by decide +kernel) rfl, wg_of 341 (by decide +kernel) rfl, by decide +kernel⟩
theorem sl_X1_65 : SL RX1 65 yX1_isBegun cX1_isBegun 7 (some .boolean) 4 := ⟨wg_of 335 (by decide +kernel) rfl, wg_of 336 (by decide +kernel) rfl, wg_of 42 (by decide +kernel) rfl, wg_of 337 (by decide +kernel) rfl, by decide +kernel⟩
theorem vl_X2_43 : VL RX2 43 yX2_isHeated cX2_isHeated 1 (some .boolean) 0 := ⟨wg_of 453 (by decide +kernel) rfl, wg_of 415 (by decide +kernel) rfl, wg_of 416 (by decide +kernel) rfl, wg_of 46 (by decide +kernel) rfl, wg_of 417 (by decide +kernel) rfl, by decide +kernel⟩
theorem vl_X2_47 : VL RX2 47 yX2_isCooled cX2_isCooled 1 (some .boolean) 0 := ⟨wg_of 454 (by decide +kernel) rfl, wg_of 419 (by decide +kernel) rfl, wg_of 420 (by decide +kernel) rfl, wg_of 46 (by decide +kernel) rfl, wg_of 421 (by decide +kernel) rfl, by decide +kernel⟩
theorem sl_X3_37 : SL RX3 37 yX3_isSetting cX3_isSetting 1 (some .boolean) 1 := ⟨wg_of 618 (by decide +kernel) rfl, wg_of 619 (by decide +kernel) rfl, wg_of 45 (by decide +kernel) rfl, wg_of 620 (by decide +kernel) rfl, by decide +kernel⟩
theorem vl_X4_20 : VL RX4 20 yX5_copyFrom cX5_copyFrom 3 none 1 := ⟨wg_of 859 (by decide +kernel) rfl, wg_of 374 (by decide +kernel) rfl, wg_of 375 (by decide +kernel) rfl, wg_of 44 (by decide +kernel) rfl, wg_of 376 (by decide +kernel) rfl, by decide +kernel⟩
theorem vl_X5_27 : VL RX5 27 yX3_copyFrom cX3_copyFrom 2 none 1 := ⟨wg_of 377 (by decide +kernel) rfl, wg_of 378 (by decide +kernel) rfl, wg_of 379 (by decide +kernel) rfl, wg_of 45 (by decide +kernel) rfl, wg_of 380 (by decide +kernel) rfl, by decide +kernel⟩
theorem vl_X5_31 : VL RX5 31 yX2_copyFrom cX2_copyFrom 2 none 1 := ⟨wg_of 381 (by decide +kernel) rfl, wg_of 382 (by decide +kernel) rfl, wg_of 383 (by decide +kernel) rfl, wg_of 46 (by decide +kernel) rfl, wg_of 384 (by decide +kernel) rfl, by decide +kernel⟩
theorem vl_X5_62 : VL RX5 62 yX5_countRooms cX5_countRooms 2 (some .int) 0 := ⟨wg_of 641 (by decide +kernel) rfl, wg_of 643 (by decide +kernel) rfl, wg_of 14 (by decide +kernel) rfl, wg_of 44 (by decide +kernel) rfl, wg_of 644 (by decide +kernel) rfl, by decide +kernel⟩
theorem vl_X5_66 : VL RX5 66 yX5_minutesLeft cX5_minutesLeft 1 (some .int) 0 := ⟨wg_of 350 (by decide +kernel) rfl, wg_of 351 (by decide +kernel) rfl, wg_of 352 (by decide +kernel) rfl, wg_of 44 (by decide +kernel) rfl, wg_of 353 (by decide +kernel) rfl, by decide +kernel⟩
theorem vl_X5_69 : VL RX5 69 yX2_isThere cX2_isThere 1 (some .boolean) 0 := ⟨wg_of 365 (by decide +kernel) rfl, wg_of 366 (by decide +kernel) rfl, wg_of 367 (by decide +kernel) rfl, wg_of 46 (by decide +kernel) rfl, wg_of 368 (by decide +kernel) rfl, by decide +kernel⟩
theorem vl_X5_73 : VL RX5 73 yX5_firstFree cX5_firstFree 5 (some (.object "MeterRooms$Room")) 0 := ⟨wg_of 600 (by decide +kernel) rfl, wg_of 601 (by decide +kernel) rfl, wg_of 602 (by decide +kernel) rfl, wg_of 44 (by decide +kernel) rfl, wg_of 603 (by decide +kernel) rfl, by decide +kernel⟩
theorem vl_X5_84 : VL RX5 84 yX2_warmth cX2_warmth 1 (some .int) 0 := ⟨wg_of 797 (by decide +kernel) rfl, wg_of 470 (by decide +kernel) rfl, wg_of 471 (by decide +kernel) rfl, wg_of 46 (by decide +kernel) rfl, wg_of 472 (by decide +kernel) rfl, by decide +kernel⟩
theorem sl_X5_87 : SL RX5 87 yX5_canBeRoom cX5_canBeRoom 3 (some .boolean) 3 := ⟨wg_of 604 (by decide +kernel) rfl, wg_of 605 (by decide +kernel) rfl, wg_of 44 (by decide +kernel) rfl, wg_of 606 (by decide +kernel) rfl, by decide +kernel⟩
theorem vl_X5_91 : VL RX5 91 yX2_fill cX2_fill 4 none 3 := ⟨wg_of 607 (by decide +kernel) rfl, wg_of 608 (by decide +kernel) rfl, wg_of 609 (by decide +kernel) rfl, wg_of 46 (by decide +kernel) rfl, wg_of 610 (by decide +kernel) rfl, by decide +kernel⟩
theorem vl_X5_95 : VL RX5 95 yX5_roomAt cX5_roomAt 3 (some (.object "MeterRooms$Room")) 1 := ⟨wg_of 389 (by decide +kernel) rfl, wg_of 362 (by decide +kernel) rfl, wg_of 363 (by decide +kernel) rfl, wg_of 44 (by decide +kernel) rfl, wg_of 364 (by decide +kernel) rfl, by decide +kernel⟩
theorem sl_X5_99 : SL RX5 99 yX5_canBeTemperature cX5_canBeTemperature 1 (some .boolean) 1 := ⟨wg_of 741 (by decide +kernel) rfl, wg_of 734 (by decide +kernel) rfl, wg_of 44 (by decide +kernel) rfl, wg_of 735 (by decide +kernel) rfl, by decide +kernel⟩
theorem sl_X5_106 : SL RX5 106 yX3_isAllowed cX3_isAllowed 2 (some .boolean) 2 := ⟨wg_of 615 (by decide +kernel) rfl, wg_of 616 (by decide +kernel) rfl, wg_of 45 (by decide +kernel) rfl, wg_of 617 (by decide +kernel) rfl, by decide +kernel⟩
theorem vl_X5_110 : VL RX5 110 yX3_change cX3_change 3 none 2 := ⟨wg_of 625 (by decide +kernel) rfl, wg_of 626 (by decide +kernel) rfl, wg_of 627 (by decide +kernel) rfl, wg_of 45 (by decide +kernel) rfl, wg_of 628 (by decide +kernel) rfl, by decide +kernel⟩
theorem sl_X5_114 : SL RX5 114 yX5_canPass cX5_canPass 1 (some .boolean) 1 := ⟨wg_of 394 (by decide +kernel) rfl, wg_of 395 (by decide +kernel) rfl, wg_of 44 (by decide +kernel) rfl, wg_of 396 (by decide +kernel) rfl, by decide +kernel⟩
theorem vl_X5_117 : VL RX5 117 yX5_passMinute cX5_passMinute 5 none 0 := ⟨wg_of 397 (by decide +kernel) rfl, wg_of 398 (by decide +kernel) rfl, wg_of 399 (by decide +kernel) rfl, wg_of 44 (by decide +kernel) rfl, wg_of 400 (by decide +kernel) rfl, by decide +kernel⟩
theorem vl_X5_120 : VL RX5 120 yX5_planMinute cX5_planMinute 3 (some .int) 0 := ⟨wg_of 401 (by decide +kernel) rfl, wg_of 402 (by decide +kernel) rfl, wg_of 403 (by decide +kernel) rfl, wg_of 44 (by decide +kernel) rfl, wg_of 404 (by decide +kernel) rfl, by decide +kernel⟩
theorem vl_X5_126 : VL RX5 126 yX5_takeUnits cX5_takeUnits 2 none 1 := ⟨wg_of 438 (by decide +kernel) rfl, wg_of 440 (by decide +kernel) rfl, wg_of 9 (by decide +kernel) rfl, wg_of 44 (by decide +kernel) rfl, wg_of 441 (by decide +kernel) rfl, by decide +kernel⟩
theorem vl_X5_129 : VL RX5 129 yX5_beginDefrost cX5_beginDefrost 2 none 1 := ⟨wg_of 445 (by decide +kernel) rfl, wg_of 447 (by decide +kernel) rfl, wg_of 10 (by decide +kernel) rfl, wg_of 44 (by decide +kernel) rfl, wg_of 448 (by decide +kernel) rfl, by decide +kernel⟩
theorem vl_X5_132 : VL RX5 132 yX2_changeTemperature cX2_changeTemperature 2 none 0 := ⟨wg_of 449 (by decide +kernel) rfl, wg_of 450 (by decide +kernel) rfl, wg_of 451 (by decide +kernel) rfl, wg_of 46 (by decide +kernel) rfl, wg_of 452 (by decide +kernel) rfl, by decide +kernel⟩
theorem vl_X5_135 : VL RX5 135 yX2_changeFrost cX2_changeFrost 2 none 0 := ⟨wg_of 457 (by decide +kernel) rfl, wg_of 458 (by decide +kernel) rfl, wg_of 459 (by decide +kernel) rfl, wg_of 46 (by decide +kernel) rfl, wg_of 460 (by decide +kernel) rfl, by decide +kernel⟩
theorem vl_X5_138 : VL RX5 138 yX5_countMinute cX5_countMinute 2 none 1 := ⟨wg_of 461 (by decide +kernel) rfl, wg_of 463 (by decide +kernel) rfl, wg_of 11 (by decide +kernel) rfl, wg_of 44 (by decide +kernel) rfl, wg_of 464 (by decide +kernel) rfl, by decide +kernel⟩
theorem vl_X5_153 : VL RX5 153 yX2_isCooled cX2_isCooled 1 (some .boolean) 0 := ⟨wg_of 418 (by decide +kernel) rfl, wg_of 419 (by decide +kernel) rfl, wg_of 420 (by decide +kernel) rfl, wg_of 46 (by decide +kernel) rfl, wg_of 421 (by decide +kernel) rfl, by decide +kernel⟩
theorem vl_X5_156 : VL RX5 156 yX2_isWarm cX2_isWarm 1 (some .boolean) 0 := ⟨wg_of 465 (by decide +kernel) rfl, wg_of 466 (by decide +kernel) rfl, wg_of 467 (by decide +kernel) rfl, wg_of 46 (by decide +kernel) rfl, wg_of 468 (by decide +kernel) rfl, by decide +kernel⟩
theorem vl_X5_174 : VL RX5 174 yX5_spareKilowatts cX5_spareKilowatts 4 (some .int) 0 := ⟨wg_of 405 (by decide +kernel) rfl, wg_of 347 (by decide +kernel) rfl, wg_of 348 (by decide +kernel) rfl, wg_of 44 (by decide +kernel) rfl, wg_of 349 (by decide +kernel) rfl, by decide +kernel⟩
theorem vl_X5_177 : VL RX5 177 yX5_planMusts cX5_planMusts 6 (some .int) 0 := ⟨wg_of 406 (by decide +kernel) rfl, wg_of 408 (by decide +kernel) rfl, wg_of 4 (by decide +kernel) rfl, wg_of 44 (by decide +kernel) rfl, wg_of 409 (by decide +kernel) rfl, by decide +kernel⟩
theorem vl_X5_180 : VL RX5 180 yX5_planCompressors cX5_planCompressors 6 (some .int) 2 := ⟨wg_of 422 (by decide +kernel) rfl, wg_of 424 (by decide +kernel) rfl, wg_of 5 (by decide +kernel) rfl, wg_of 44 (by decide +kernel) rfl, wg_of 425 (by decide +kernel) rfl, by decide +kernel⟩
theorem vl_X5_183 : VL RX5 183 yX5_planDefrosts cX5_planDefrosts 6 (some .int) 2 := ⟨wg_of 430 (by decide +kernel) rfl, wg_of 432 (by decide +kernel) rfl, wg_of 7 (by decide +kernel) rfl, wg_of 44 (by decide +kernel) rfl, wg_of 433 (by decide +kernel) rfl, by decide +kernel⟩
theorem vl_X5_186 : VL RX5 186 yX2_planMust cX2_planMust 1 (some .int) 0 := ⟨wg_of 410 (by decide +kernel) rfl, wg_of 411 (by decide +kernel) rfl, wg_of 412 (by decide +kernel) rfl, wg_of 46 (by decide +kernel) rfl, wg_of 413 (by decide +kernel) rfl, by decide +kernel⟩
theorem vl_X5_189 : VL RX5 189 yX2_isHeated cX2_isHeated 1 (some .boolean) 0 := ⟨wg_of 414 (by decide +kernel) rfl, wg_of 415 (by decide +kernel) rfl, wg_of 416 (by decide +kernel) rfl, wg_of 46 (by decide +kernel) rfl, wg_of 417 (by decide +kernel) rfl, by decide +kernel⟩
theorem vl_X5_198 : VL RX5 198 yX5_nextToCool cX5_nextToCool 8 (some (.object "MeterRooms$Room")) 0 := ⟨wg_of 426 (by decide +kernel) rfl, wg_of 428 (by decide +kernel) rfl, wg_of 6 (by decide +kernel) rfl, wg_of 44 (by decide +kernel) rfl, wg_of 429 (by decide +kernel) rfl, by decide +kernel⟩
theorem vl_X5_201 : VL RX5 201 yX5_nextToDefrost cX5_nextToDefrost 7 (some (.object "MeterRooms$Room")) 0 := ⟨wg_of 434 (by decide +kernel) rfl, wg_of 436 (by decide +kernel) rfl, wg_of 8 (by decide +kernel) rfl, wg_of 44 (by decide +kernel) rfl, wg_of 437 (by decide +kernel) rfl, by decide +kernel⟩
theorem vl_L_7 : VL RL 7 yX7_append cX7_append 2 (some .int) 1 := ⟨wg_of 478 (by decide +kernel) rfl, wg_of 479 (by decide +kernel) rfl, wg_of 480 (by decide +kernel) rfl, wg_of 41 (by decide +kernel) rfl, wg_of 481 (by decide +kernel) rfl, by decide +kernel⟩
theorem vl_L_17 : VL RL 17 yX7_load cX7_load 3 (some .int) 0 := ⟨wg_of 577 (by decide +kernel) rfl, wg_of 578 (by decide +kernel) rfl, wg_of 579 (by decide +kernel) rfl, wg_of 41 (by decide +kernel) rfl, wg_of 580 (by decide +kernel) rfl, by decide +kernel⟩
theorem vl_L_21 : VL RL 21 yX7_about cX7_about 2 (some .int) 1 := ⟨wg_of 632 (by decide +kernel) rfl, wg_of 633 (by decide +kernel) rfl, wg_of 634 (by decide +kernel) rfl, wg_of 41 (by decide +kernel) rfl, wg_of 635 (by decide +kernel) rfl, by decide +kernel⟩
theorem vl_L_24 : VL RL 24 yX7_room cX7_room 4 (some .int) 2 := ⟨wg_of 649 (by decide +kernel) rfl, wg_of 650 (by decide +kernel) rfl, wg_of 651 (by decide +kernel) rfl, wg_of 41 (by decide +kernel) rfl, wg_of 652 (by decide +kernel) rfl, by decide +kernel⟩
theorem vl_L_30 : VL RL 30 yX7_does cX7_does 3 (some .int) 1 := ⟨wg_of 677 (by decide +kernel) rfl, wg_of 678 (by decide +kernel) rfl, wg_of 679 (by decide +kernel) rfl, wg_of 41 (by decide +kernel) rfl, wg_of 680 (by decide +kernel) rfl, by decide +kernel⟩
theorem vl_L_33 : VL RL 33 yX7_setting cX7_setting 2 (some .int) 1 := ⟨wg_of 685 (by decide +kernel) rfl, wg_of 686 (by decide +kernel) rfl, wg_of 687 (by decide +kernel) rfl, wg_of 41 (by decide +kernel) rfl, wg_of 688 (by decide +kernel) rfl, by decide +kernel⟩
theorem vl_L_36 : VL RL 36 yX7_add cX7_add 4 (some .int) 3 := ⟨wg_of 698 (by decide +kernel) rfl, wg_of 699 (by decide +kernel) rfl, wg_of 700 (by decide +kernel) rfl, wg_of 41 (by decide +kernel) rfl, wg_of 701 (by decide +kernel) rfl, by decide +kernel⟩
theorem vl_L_40 : VL RL 40 yX7_door cX7_door 3 (some .int) 2 := ⟨wg_of 718 (by decide +kernel) rfl, wg_of 719 (by decide +kernel) rfl, wg_of 720 (by decide +kernel) rfl, wg_of 41 (by decide +kernel) rfl, wg_of 721 (by decide +kernel) rfl, by decide +kernel⟩
theorem vl_L_44 : VL RL 44 yX7_goods cX7_goods 5 (some .int) 2 := ⟨wg_of 729 (by decide +kernel) rfl, wg_of 730 (by decide +kernel) rfl, wg_of 731 (by decide +kernel) rfl, wg_of 41 (by decide +kernel) rfl, wg_of 732 (by decide +kernel) rfl, by decide +kernel⟩
theorem vl_L_47 : VL RL 47 yX7_run cX7_run 3 (some .int) 1 := ⟨wg_of 745 (by decide +kernel) rfl, wg_of 746 (by decide +kernel) rfl, wg_of 747 (by decide +kernel) rfl, wg_of 41 (by decide +kernel) rfl, wg_of 748 (by decide +kernel) rfl, by decide +kernel⟩
theorem vl_L_50 : VL RL 50 yX7_set cX7_set 4 (some .int) 2 := ⟨wg_of 754 (by decide +kernel) rfl, wg_of 755 (by decide +kernel) rfl, wg_of 756 (by decide +kernel) rfl, wg_of 41 (by decide +kernel) rfl, wg_of 757 (by decide +kernel) rfl, by decide +kernel⟩
theorem vl_L_53 : VL RL 53 yX7_undo cX7_undo 1 (some .int) 0 := ⟨wg_of 763 (by decide +kernel) rfl, wg_of 764 (by decide +kernel) rfl, wg_of 765 (by decide +kernel) rfl, wg_of 41 (by decide +kernel) rfl, wg_of 766 (by decide +kernel) rfl, by decide +kernel⟩
theorem vl_L_56 : VL RL 56 yX7_warmIn cX7_warmIn 4 (some .int) 1 := ⟨wg_of 779 (by decide +kernel) rfl, wg_of 780 (by decide +kernel) rfl, wg_of 781 (by decide +kernel) rfl, wg_of 41 (by decide +kernel) rfl, wg_of 782 (by decide +kernel) rfl, by decide +kernel⟩
theorem vl_L_59 : VL RL 59 yX7_coming cX7_coming 4 (some .int) 2 := ⟨wg_of 788 (by decide +kernel) rfl, wg_of 789 (by decide +kernel) rfl, wg_of 790 (by decide +kernel) rfl, wg_of 41 (by decide +kernel) rfl, wg_of 791 (by decide +kernel) rfl, by decide +kernel⟩
theorem vl_L_62 : VL RL 62 yX7_leastLimit cX7_leastLimit 3 (some .int) 1 := ⟨wg_of 801 (by decide +kernel) rfl, wg_of 802 (by decide +kernel) rfl, wg_of 803 (by decide +kernel) rfl, wg_of 41 (by decide +kernel) rfl, wg_of 804 (by decide +kernel) rfl, by decide +kernel⟩
theorem vl_L_65 : VL RL 65 yX7_runScript cX7_runScript 5 (some .int) 2 := ⟨wg_of 812 (by decide +kernel) rfl, wg_of 813 (by decide +kernel) rfl, wg_of 814 (by decide +kernel) rfl, wg_of 41 (by decide +kernel) rfl, wg_of 815 (by decide +kernel) rfl, by decide +kernel⟩
theorem vl_L_69 : VL RL 69 yX7_simulate cX7_simulate 7 (some .int) 2 := ⟨wg_of 832 (by decide +kernel) rfl, wg_of 833 (by decide +kernel) rfl, wg_of 834 (by decide +kernel) rfl, wg_of 41 (by decide +kernel) rfl, wg_of 835 (by decide +kernel) rfl, by decide +kernel⟩
theorem vl_L_73 : VL RL 73 yX7_save cX7_save 3 (some .int) 1 := ⟨wg_of 846 (by decide +kernel) rfl, wg_of 847 (by decide +kernel) rfl, wg_of 848 (by decide +kernel) rfl, wg_of 41 (by decide +kernel) rfl, wg_of 849 (by decide +kernel) rfl, by decide +kernel⟩
theorem vl_L_76 : VL RL 76 yX7_restore cX7_restore 3 (some .int) 1 := ⟨wg_of 863 (by decide +kernel) rfl, wg_of 864 (by decide +kernel) rfl, wg_of 865 (by decide +kernel) rfl, wg_of 41 (by decide +kernel) rfl, wg_of 866 (by decide +kernel) rfl, by decide +kernel⟩
theorem vl_L_88 : VL RL 88 yX8_append cX8_append 2 (some .int) 1 := ⟨wg_of 926 (by decide +kernel) rfl, wg_of 927 (by decide +kernel) rfl, wg_of 928 (by decide +kernel) rfl, wg_of 49 (by decide +kernel) rfl, wg_of 929 (by decide +kernel) rfl, by decide +kernel⟩
theorem vl_L_89 : VL RL 89 yX8_thrown cX8_thrown 1 (some .int) 0 := ⟨wg_of 922 (by decide +kernel) rfl, wg_of 923 (by decide +kernel) rfl, wg_of 924 (by decide +kernel) rfl, wg_of 49 (by decide +kernel) rfl, wg_of 925 (by decide +kernel) rfl, by decide +kernel⟩
theorem vl_L_92 : VL RL 92 yX7_clearText cX7_clearText 1 (some .int) 0 := ⟨wg_of 296 (by decide +kernel) rfl, wg_of 297 (by decide +kernel) rfl, wg_of 298 (by decide +kernel) rfl, wg_of 41 (by decide +kernel) rfl, wg_of 299 (by decide +kernel) rfl, by decide +kernel⟩
theorem vl_L_95 : VL RL 95 yX8_clearText cX8_clearText 2 (some .int) 0 := ⟨wg_of 938 (by decide +kernel) rfl, wg_of 939 (by decide +kernel) rfl, wg_of 940 (by decide +kernel) rfl, wg_of 49 (by decide +kernel) rfl, wg_of 941 (by decide +kernel) rfl, by decide +kernel⟩
theorem vl_L_96 : VL RL 96 yX7_errorPosition cX7_errorPosition 1 (some .int) 0 := ⟨wg_of 304 (by decide +kernel) rfl, wg_of 305 (by decide +kernel) rfl, wg_of 306 (by decide +kernel) rfl, wg_of 41 (by decide +kernel) rfl, wg_of 307 (by decide +kernel) rfl, by decide +kernel⟩
theorem vl_L_99 : VL RL 99 yX8_errorPosition cX8_errorPosition 1 (some .int) 0 := ⟨wg_of 942 (by decide +kernel) rfl, wg_of 943 (by decide +kernel) rfl, wg_of 944 (by decide +kernel) rfl, wg_of 49 (by decide +kernel) rfl, wg_of 945 (by decide +kernel) rfl, by decide +kernel⟩
theorem vl_L_103 : VL RL 103 yX8_load cX8_load 1 (some .int) 0 := ⟨wg_of 1039 (by decide +kernel) rfl, wg_of 1040 (by decide +kernel) rfl, wg_of 1041 (by decide +kernel) rfl, wg_of 49 (by decide +kernel) rfl, wg_of 1042 (by decide +kernel) rfl, by decide +kernel⟩
theorem vl_L_106 : VL RL 106 yX8_about cX8_about 2 (some .int) 1 := ⟨wg_of 1046 (by decide +kernel) rfl, wg_of 1047 (by decide +kernel) rfl, wg_of 1048 (by decide +kernel) rfl, wg_of 49 (by decide +kernel) rfl, wg_of 1049 (by decide +kernel) rfl, by decide +kernel⟩
theorem vl_L_110 : VL RL 110 yX8_room cX8_room 3 (some .int) 2 := ⟨wg_of 1051 (by decide +kernel) rfl, wg_of 1052 (by decide +kernel) rfl, wg_of 1053 (by decide +kernel) rfl, wg_of 49 (by decide +kernel) rfl, wg_of 1054 (by decide +kernel) rfl, by decide +kernel⟩
theorem vl_L_113 : VL RL 113 yX8_does cX8_does 2 (some .int) 1 := ⟨wg_of 1056 (by decide +kernel) rfl, wg_of 1057 (by decide +kernel) rfl, wg_of 1058 (by decide +kernel) rfl, wg_of 49 (by decide +kernel) rfl, wg_of 1059 (by decide +kernel) rfl, by decide +kernel⟩
theorem vl_L_116 : VL RL 116 yX8_setting cX8_setting 2 (some .int) 1 := ⟨wg_of 1060 (by decide +kernel) rfl, wg_of 1061 (by decide +kernel) rfl, wg_of 1062 (by decide +kernel) rfl, wg_of 49 (by decide +kernel) rfl, wg_of 1063 (by decide +kernel) rfl, by decide +kernel⟩
theorem vl_L_120 : VL RL 120 yX8_add cX8_add 4 (some .int) 3 := ⟨wg_of 1065 (by decide +kernel) rfl, wg_of 1066 (by decide +kernel) rfl, wg_of 1067 (by decide +kernel) rfl, wg_of 49 (by decide +kernel) rfl, wg_of 1068 (by decide +kernel) rfl, by decide +kernel⟩
theorem vl_L_124 : VL RL 124 yX8_door cX8_door 3 (some .int) 2 := ⟨wg_of 1073 (by decide +kernel) rfl, wg_of 1074 (by decide +kernel) rfl, wg_of 1075 (by decide +kernel) rfl, wg_of 49 (by decide +kernel) rfl, wg_of 1076 (by decide +kernel) rfl, by decide +kernel⟩
theorem vl_L_127 : VL RL 127 yX8_goods cX8_goods 3 (some .int) 2 := ⟨wg_of 1077 (by decide +kernel) rfl, wg_of 1078 (by decide +kernel) rfl, wg_of 1079 (by decide +kernel) rfl, wg_of 49 (by decide +kernel) rfl, wg_of 1080 (by decide +kernel) rfl, by decide +kernel⟩
theorem vl_L_130 : VL RL 130 yX8_run cX8_run 2 (some .int) 1 := ⟨wg_of 1086 (by decide +kernel) rfl, wg_of 1087 (by decide +kernel) rfl, wg_of 1088 (by decide +kernel) rfl, wg_of 49 (by decide +kernel) rfl, wg_of 1089 (by decide +kernel) rfl, by decide +kernel⟩
theorem vl_L_133 : VL RL 133 yX8_set cX8_set 4 (some .int) 2 := ⟨wg_of 1091 (by decide +kernel) rfl, wg_of 1092 (by decide +kernel) rfl, wg_of 1093 (by decide +kernel) rfl, wg_of 49 (by decide +kernel) rfl, wg_of 1094 (by decide +kernel) rfl, by decide +kernel⟩
theorem vl_L_136 : VL RL 136 yX8_undo cX8_undo 1 (some .int) 0 := ⟨wg_of 1103 (by decide +kernel) rfl, wg_of 1104 (by decide +kernel) rfl, wg_of 1105 (by decide +kernel) rfl, wg_of 49 (by decide +kernel) rfl, wg_of 1106 (by decide +kernel) rfl, by decide +kernel⟩
theorem vl_L_137 : VL RL 137 yX7_spare cX7_spare 1 (some .int) 0 := ⟨wg_of 342 (by decide +kernel) rfl, wg_of 343 (by decide +kernel) rfl, wg_of 344 (by decide +kernel) rfl, wg_of 41 (by decide +kernel) rfl, wg_of 345 (by decide +kernel) rfl, by decide +kernel⟩
theorem vl_L_140 : VL RL 140 yX8_spare cX8_spare 3 (some .int) 0 := ⟨wg_of 1107 (by decide +kernel) rfl, wg_of 1108 (by decide +kernel) rfl, wg_of 1109 (by decide +kernel) rfl, wg_of 49 (by decide +kernel) rfl, wg_of 1110 (by decide +kernel) rfl, by decide +kernel⟩
theorem vl_L_143 : VL RL 143 yX8_warmIn cX8_warmIn 3 (some .int) 1 := ⟨wg_of 1111 (by decide +kernel) rfl, wg_of 1112 (by decide +kernel) rfl, wg_of 1113 (by decide +kernel) rfl, wg_of 49 (by decide +kernel) rfl, wg_of 1114 (by decide +kernel) rfl, by decide +kernel⟩
theorem vl_L_146 : VL RL 146 yX8_coming cX8_coming 4 (some .int) 2 := ⟨wg_of 1115 (by decide +kernel) rfl, wg_of 1116 (by decide +kernel) rfl, wg_of 1117 (by decide +kernel) rfl, wg_of 49 (by decide +kernel) rfl, wg_of 1118 (by decide +kernel) rfl, by decide +kernel⟩
theorem vl_L_149 : VL RL 149 yX8_leastLimit cX8_leastLimit 3 (some .int) 1 := ⟨wg_of 1124 (by decide +kernel) rfl, wg_of 1125 (by decide +kernel) rfl, wg_of 1126 (by decide +kernel) rfl, wg_of 49 (by decide +kernel) rfl, wg_of 1127 (by decide +kernel) rfl, by decide +kernel⟩
theorem vl_L_150 : VL RL 150 yX7_bestShut cX7_bestShut 6 (some .int) 0 := ⟨wg_of 357 (by decide +kernel) rfl, wg_of 358 (by decide +kernel) rfl, wg_of 359 (by decide +kernel) rfl, wg_of 41 (by decide +kernel) rfl, wg_of 360 (by decide +kernel) rfl, by decide +kernel⟩
theorem vl_L_153 : VL RL 153 yX8_bestShut cX8_bestShut 6 (some .int) 0 := ⟨wg_of 1128 (by decide +kernel) rfl, wg_of 1129 (by decide +kernel) rfl, wg_of 1130 (by decide +kernel) rfl, wg_of 49 (by decide +kernel) rfl, wg_of 1131 (by decide +kernel) rfl, by decide +kernel⟩
theorem vl_L_159 : VL RL 159 yX8_runScript cX8_runScript 8 (some .int) 2 := ⟨wg_of 1132 (by decide +kernel) rfl, wg_of 1133 (by decide +kernel) rfl, wg_of 1134 (by decide +kernel) rfl, wg_of 49 (by decide +kernel) rfl, wg_of 1135 (by decide +kernel) rfl, by decide +kernel⟩
theorem vl_L_163 : VL RL 163 yX8_simulate cX8_simulate 7 (some .int) 2 := ⟨wg_of 1146 (by decide +kernel) rfl, wg_of 1147 (by decide +kernel) rfl, wg_of 1148 (by decide +kernel) rfl, wg_of 49 (by decide +kernel) rfl, wg_of 1149 (by decide +kernel) rfl, by decide +kernel⟩
theorem vl_L_166 : VL RL 166 yX8_save cX8_save 2 (some .int) 1 := ⟨wg_of 1156 (by decide +kernel) rfl, wg_of 1157 (by decide +kernel) rfl, wg_of 1158 (by decide +kernel) rfl, wg_of 49 (by decide +kernel) rfl, wg_of 1159 (by decide +kernel) rfl, by decide +kernel⟩
theorem vl_L_169 : VL RL 169 yX8_restore cX8_restore 2 (some .int) 1 := ⟨wg_of 1160 (by decide +kernel) rfl, wg_of 1161 (by decide +kernel) rfl, wg_of 1162 (by decide +kernel) rfl, wg_of 49 (by decide +kernel) rfl, wg_of 1163 (by decide +kernel) rfl, by decide +kernel⟩
theorem sl_X8_32 : SL RX8 32 yX8_clear cX8_clear 2 none 1 := ⟨wg_of 874 (by decide +kernel) rfl, wg_of 875 (by decide +kernel) rfl, wg_of 49 (by decide +kernel) rfl, wg_of 876 (by decide +kernel) rfl, by decide +kernel⟩
theorem sl_X8_40 : SL RX8 40 yX8_in cX8_in 6 (some .boolean) 3 := ⟨wg_of 931 (by decide +kernel) rfl, wg_of 932 (by decide +kernel) rfl, wg_of 49 (by decide +kernel) rfl, wg_of 933 (by decide +kernel) rfl, by decide +kernel⟩
theorem sl_X8_44 : SL RX8 44 yX8_of cX8_of 3 (some .int) 3 := ⟨wg_of 989 (by decide +kernel) rfl, wg_of 990 (by decide +kernel) rfl, wg_of 49 (by decide +kernel) rfl, wg_of 991 (by decide +kernel) rfl, by decide +kernel⟩
theorem sl_X8_51 : SL RX8 51 yX8_minutesLeft cX8_minutesLeft 1 (some .int) 1 := ⟨wg_of 1022 (by decide +kernel) rfl, wg_of 1023 (by decide +kernel) rfl, wg_of 49 (by decide +kernel) rfl, wg_of 1024 (by decide +kernel) rfl, by decide +kernel⟩
theorem sl_X8_55 : SL RX8 55 yX8_isWarm cX8_isWarm 2 (some .boolean) 2 := ⟨wg_of 1008 (by decide +kernel) rfl, wg_of 1009 (by decide +kernel) rfl, wg_of 49 (by decide +kernel) rfl, wg_of 1010 (by decide +kernel) rfl, by decide +kernel⟩
theorem sl_X8_59 : SL RX8 59 yX8_over cX8_over 2 (some .int) 2 := ⟨wg_of 1015 (by decide +kernel) rfl, wg_of 1016 (by decide +kernel) rfl, wg_of 49 (by decide +kernel) rfl, wg_of 1017 (by decide +kernel) rfl, by decide +kernel⟩
theorem vl_X8_63 : VL RX8 63 yX8_must cX8_must 4 none 1 := ⟨wg_of 1004 (by decide +kernel) rfl, wg_of 1006 (by decide +kernel) rfl, wg_of 31 (by decide +kernel) rfl, wg_of 49 (by decide +kernel) rfl, wg_of 1007 (by decide +kernel) rfl, by decide +kernel⟩
theorem vl_X8_66 : VL RX8 66 yX8_nextWarm cX8_nextWarm 5 (some .int) 1 := ⟨wg_of 1011 (by decide +kernel) rfl, wg_of 1013 (by decide +kernel) rfl, wg_of 32 (by decide +kernel) rfl, wg_of 49 (by decide +kernel) rfl, wg_of 1014 (by decide +kernel) rfl, by decide +kernel⟩
theorem vl_X8_69 : VL RX8 69 yX8_fits cX8_fits 3 (some .boolean) 2 := ⟨wg_of 1018 (by decide +kernel) rfl, wg_of 1020 (by decide +kernel) rfl, wg_of 33 (by decide +kernel) rfl, wg_of 49 (by decide +kernel) rfl, wg_of 1021 (by decide +kernel) rfl, by decide +kernel⟩
theorem vl_X8_72 : VL RX8 72 yX8_nextFrost cX8_nextFrost 5 (some .int) 1 := ⟨wg_of 1025 (by decide +kernel) rfl, wg_of 1027 (by decide +kernel) rfl, wg_of 34 (by decide +kernel) rfl, wg_of 49 (by decide +kernel) rfl, wg_of 1028 (by decide +kernel) rfl, by decide +kernel⟩
theorem sl_X8_75 : SL RX8 75 yX8_clamp cX8_clamp 3 (some .int) 3 := ⟨wg_of 1036 (by decide +kernel) rfl, wg_of 1037 (by decide +kernel) rfl, wg_of 49 (by decide +kernel) rfl, wg_of 1038 (by decide +kernel) rfl, by decide +kernel⟩
theorem sl_X8_79 : SL RX8 79 yX8_lay cX8_lay 4 none 4 := ⟨wg_of 976 (by decide +kernel) rfl, wg_of 977 (by decide +kernel) rfl, wg_of 49 (by decide +kernel) rfl, wg_of 978 (by decide +kernel) rfl, by decide +kernel⟩
theorem vl_X8_83 : VL RX8 83 yX8_find cX8_find 4 none 1 := ⟨wg_of 1000 (by decide +kernel) rfl, wg_of 1002 (by decide +kernel) rfl, wg_of 30 (by decide +kernel) rfl, wg_of 49 (by decide +kernel) rfl, wg_of 1003 (by decide +kernel) rfl, by decide +kernel⟩
theorem sl_X8_86 : SL RX8 86 yX8_measure cX8_measure 4 none 2 := ⟨wg_of 1029 (by decide +kernel) rfl, wg_of 1030 (by decide +kernel) rfl, wg_of 49 (by decide +kernel) rfl, wg_of 1031 (by decide +kernel) rfl, by decide +kernel⟩
theorem vl_X8_90 : VL RX8 90 yX8_roomOn cX8_roomOn 9 none 2 := ⟨wg_of 1032 (by decide +kernel) rfl, wg_of 1034 (by decide +kernel) rfl, wg_of 35 (by decide +kernel) rfl, wg_of 49 (by decide +kernel) rfl, wg_of 1035 (by decide +kernel) rfl, by decide +kernel⟩
theorem vl_X8_93 : VL RX8 93 yX8_minuteOn cX8_minuteOn 3 none 1 := ⟨wg_of 996 (by decide +kernel) rfl, wg_of 998 (by decide +kernel) rfl, wg_of 29 (by decide +kernel) rfl, wg_of 49 (by decide +kernel) rfl, wg_of 999 (by decide +kernel) rfl, by decide +kernel⟩
theorem vl_X8_119 : VL RX8 119 yX8_refused cX8_refused 2 (some .boolean) 1 := ⟨wg_of 934 (by decide +kernel) rfl, wg_of 936 (by decide +kernel) rfl, wg_of 21 (by decide +kernel) rfl, wg_of 49 (by decide +kernel) rfl, wg_of 937 (by decide +kernel) rfl, by decide +kernel⟩
theorem vl_X8_130 : VL RX8 130 yX8_at cX8_at 2 (some .int) 1 := ⟨wg_of 950 (by decide +kernel) rfl, wg_of 952 (by decide +kernel) rfl, wg_of 23 (by decide +kernel) rfl, wg_of 49 (by decide +kernel) rfl, wg_of 953 (by decide +kernel) rfl, by decide +kernel⟩
theorem vl_X8_136 : VL RX8 136 yX8_figures cX8_figures 8 (some .int) 3 := ⟨wg_of 958 (by decide +kernel) rfl, wg_of 960 (by decide +kernel) rfl, wg_of 25 (by decide +kernel) rfl, wg_of 49 (by decide +kernel) rfl, wg_of 961 (by decide +kernel) rfl, by decide +kernel⟩
theorem vl_X8_142 : VL RX8 142 yX8_temperature cX8_temperature 3 (some .int) 0 := ⟨wg_of 963 (by decide +kernel) rfl, wg_of 965 (by decide +kernel) rfl, wg_of 26 (by decide +kernel) rfl, wg_of 49 (by decide +kernel) rfl, wg_of 966 (by decide +kernel) rfl, by decide +kernel⟩
theorem sl_X8_146 : SL RX8 146 yX8_isNew cX8_isNew 3 (some .boolean) 3 := ⟨wg_of 967 (by decide +kernel) rfl, wg_of 968 (by decide +kernel) rfl, wg_of 49 (by decide +kernel) rfl, wg_of 969 (by decide +kernel) rfl, by decide +kernel⟩
theorem sl_X8_150 : SL RX8 150 yX8_addOn cX8_addOn 6 (some .int) 4 := ⟨wg_of 973 (by decide +kernel) rfl, wg_of 974 (by decide +kernel) rfl, wg_of 49 (by decide +kernel) rfl, wg_of 975 (by decide +kernel) rfl, by decide +kernel⟩
theorem vl_X8_154 : VL RX8 154 yX8_done cX8_done 2 (some .boolean) 1 := ⟨wg_of 979 (by decide +kernel) rfl, wg_of 981 (by decide +kernel) rfl, wg_of 27 (by decide +kernel) rfl, wg_of 49 (by decide +kernel) rfl, wg_of 982 (by decide +kernel) rfl, by decide +kernel⟩
theorem sl_X8_158 : SL RX8 158 yX8_isRoom cX8_isRoom 2 (some .boolean) 2 := ⟨wg_of 983 (by decide +kernel) rfl, wg_of 984 (by decide +kernel) rfl, wg_of 49 (by decide +kernel) rfl, wg_of 985 (by decide +kernel) rfl, by decide +kernel⟩
theorem sl_X8_161 : SL RX8 161 yX8_doorOn cX8_doorOn 5 (some .int) 3 := ⟨wg_of 986 (by decide +kernel) rfl, wg_of 987 (by decide +kernel) rfl, wg_of 49 (by decide +kernel) rfl, wg_of 988 (by decide +kernel) rfl, by decide +kernel⟩
theorem vl_X8_165 : VL RX8 165 yX8_runOn cX8_runOn 5 (some .int) 2 := ⟨wg_of 992 (by decide +kernel) rfl, wg_of 994 (by decide +kernel) rfl, wg_of 28 (by decide +kernel) rfl, wg_of 49 (by decide +kernel) rfl, wg_of 995 (by decide +kernel) rfl, by decide +kernel⟩
theorem vl_X8_168 : VL RX8 168 yX8_readCommand cX8_readCommand 6 (some .boolean) 1 := ⟨wg_of 954 (by decide +kernel) rfl, wg_of 956 (by decide +kernel) rfl, wg_of 24 (by decide +kernel) rfl, wg_of 49 (by decide +kernel) rfl, wg_of 957 (by decide +kernel) rfl, by decide +kernel⟩
theorem vl_X8_172 : VL RX8 172 yX8_readText cX8_readText 2 (some .int) 1 := ⟨wg_of 946 (by decide +kernel) rfl, wg_of 948 (by decide +kernel) rfl, wg_of 22 (by decide +kernel) rfl, wg_of 49 (by decide +kernel) rfl, wg_of 949 (by decide +kernel) rfl, by decide +kernel⟩
theorem sl_X8_175 : SL RX8 175 yX8_copyState cX8_copyState 5 none 4 := ⟨wg_of 1043 (by decide +kernel) rfl, wg_of 1044 (by decide +kernel) rfl, wg_of 49 (by decide +kernel) rfl, wg_of 1045 (by decide +kernel) rfl, by decide +kernel⟩
theorem vl_X8_186 : VL RX8 186 yX8_remember cX8_remember 2 none 0 := ⟨wg_of 1069 (by decide +kernel) rfl, wg_of 1071 (by decide +kernel) rfl, wg_of 36 (by decide +kernel) rfl, wg_of 49 (by decide +kernel) rfl, wg_of 1072 (by decide +kernel) rfl, by decide +kernel⟩
theorem sl_X8_193 : SL RX8 193 yX8_goodsOn cX8_goodsOn 4 (some .int) 3 := ⟨wg_of 1083 (by decide +kernel) rfl, wg_of 1084 (by decide +kernel) rfl, wg_of 49 (by decide +kernel) rfl, wg_of 1085 (by decide +kernel) rfl, by decide +kernel⟩
theorem sl_X8_198 : SL RX8 198 yX8_isSetting cX8_isSetting 2 (some .boolean) 2 := ⟨wg_of 1095 (by decide +kernel) rfl, wg_of 1096 (by decide +kernel) rfl, wg_of 49 (by decide +kernel) rfl, wg_of 1097 (by decide +kernel) rfl, by decide +kernel⟩
theorem sl_X8_206 : SL RX8 206 yX8_warmest cX8_warmest 4 (some .int) 1 := ⟨wg_of 1121 (by decide +kernel) rfl, wg_of 1122 (by decide +kernel) rfl, wg_of 49 (by decide +kernel) rfl, wg_of 1123 (by decide +kernel) rfl, by decide +kernel⟩
theorem vl_X8_209 : VL RX8 209 yX8_doesIt cX8_doesIt 3 (some .boolean) 2 := ⟨wg_of 1142 (by decide +kernel) rfl, wg_of 1144 (by decide +kernel) rfl, wg_of 38 (by decide +kernel) rfl, wg_of 49 (by decide +kernel) rfl, wg_of 1145 (by decide +kernel) rfl, by decide +kernel⟩
theorem vl_X8_216 : VL RX8 216 yX8_command cX8_command 9 (some .boolean) 2 := ⟨wg_of 1138 (by decide +kernel) rfl, wg_of 1140 (by decide +kernel) rfl, wg_of 37 (by decide +kernel) rfl, wg_of 49 (by decide +kernel) rfl, wg_of 1141 (by decide +kernel) rfl, by decide +kernel⟩
theorem vl_X8_223 : VL RX8 223 yX8_turn cX8_turn 5 none 1 := ⟨wg_of 1152 (by decide +kernel) rfl, wg_of 1154 (by decide +kernel) rfl, wg_of 39 (by decide +kernel) rfl, wg_of 49 (by decide +kernel) rfl, wg_of 1155 (by decide +kernel) rfl, by decide +kernel⟩
theorem kl_X7_264 : Cond.constantLong RX7 264 (100000 : Int64) ∈ WG := wg_of 819 (by decide +kernel) rfl
theorem kl_X7_278 : Cond.constantLong RX7 278 (6364136223846793005 : Int64) ∈ WG := wg_of 837 (by decide +kernel) rfl
theorem kl_X7_280 : Cond.constantLong RX7 280 (1442695040888963407 : Int64) ∈ WG := wg_of 838 (by decide +kernel) rfl
theorem kl_L_154 : Cond.constantLong RL 154 (4294967295 : Int64) ∈ WG := wg_of 1164 (by decide +kernel) rfl
theorem kl_X8_96 : Cond.constantLong RX8 96 (50 : Int64) ∈ WG := wg_of 970 (by decide +kernel) rfl
theorem kl_X8_98 : Cond.constantLong RX8 98 (-300 : Int64) ∈ WG := wg_of 971 (by decide +kernel) rfl
theorem kl_X8_100 : Cond.constantLong RX8 100 (200 : Int64) ∈ WG := wg_of 972 (by decide +kernel) rfl
theorem kl_X8_102 : Cond.constantLong RX8 102 (5 : Int64) ∈ WG := wg_of 1064 (by decide +kernel) rfl
theorem kl_X8_104 : Cond.constantLong RX8 104 (9999 : Int64) ∈ WG := wg_of 1098 (by decide +kernel) rfl
theorem kl_X8_106 : Cond.constantLong RX8 106 (14 : Int64) ∈ WG := wg_of 1099 (by decide +kernel) rfl
theorem kl_X8_108 : Cond.constantLong RX8 108 (99 : Int64) ∈ WG := wg_of 1100 (by decide +kernel) rfl
theorem kl_X8_110 : Cond.constantLong RX8 110 (100 : Int64) ∈ WG := wg_of 1101 (by decide +kernel) rfl
theorem kl_X8_112 : Cond.constantLong RX8 112 (30 : Int64) ∈ WG := wg_of 1102 (by decide +kernel) rfl
theorem kl_X8_114 : Cond.constantLong RX8 114 (255 : Int64) ∈ WG := wg_of 930 (by decide +kernel) rfl
theorem kl_X8_134 : Cond.constantLong RX8 134 (9 : Int64) ∈ WG := wg_of 962 (by decide +kernel) rfl
theorem kl_X8_182 : Cond.constantLong RX8 182 (10 : Int64) ∈ WG := wg_of 1050 (by decide +kernel) rfl
theorem kl_X8_184 : Cond.constantLong RX8 184 (7 : Int64) ∈ WG := wg_of 1055 (by decide +kernel) rfl
theorem kl_X8_189 : Cond.constantLong RX8 189 (-400 : Int64) ∈ WG := wg_of 1081 (by decide +kernel) rfl
theorem kl_X8_191 : Cond.constantLong RX8 191 (400 : Int64) ∈ WG := wg_of 1082 (by decide +kernel) rfl
theorem kl_X8_196 : Cond.constantLong RX8 196 (60 : Int64) ∈ WG := wg_of 1090 (by decide +kernel) rfl
theorem kl_X8_202 : Cond.constantLong RX8 202 (240 : Int64) ∈ WG := wg_of 1119 (by decide +kernel) rfl
theorem kl_X8_204 : Cond.constantLong RX8 204 (4 : Int64) ∈ WG := wg_of 1120 (by decide +kernel) rfl
theorem kl_X8_212 : Cond.constantLong RX8 212 (100000 : Int64) ∈ WG := wg_of 1136 (by decide +kernel) rfl
theorem kl_X8_214 : Cond.constantLong RX8 214 (3 : Int64) ∈ WG := wg_of 1137 (by decide +kernel) rfl
theorem kl_X8_219 : Cond.constantLong RX8 219 (6364136223846793005 : Int64) ∈ WG := wg_of 1150 (by decide +kernel) rfl
theorem kl_X8_221 : Cond.constantLong RX8 221 (1442695040888963407 : Int64) ∈ WG := wg_of 1151 (by decide +kernel) rfl
theorem jm_max : Cond.static Lib.Math.max.name ∈ WG ∧ Cond.initialized "java/lang/Math" ∈ WG ∧ Cond.code Lib.Math.max.name Lib.Math.max.code 2 (some .int) ∈ WG := ⟨wg_of 443 (by decide +kernel) rfl, wg_of 55 (by decide +kernel) rfl, wg_of 444 (by decide +kernel) rfl⟩
theorem ml_X2_56 : Cond.methodLink RX2 56 Lib.Math.max.name ∈ WG := wg_of 456 (by decide +kernel) rfl
theorem ml_X5_162 : Cond.methodLink RX5 162 Lib.Math.max.name ∈ WG := wg_of 442 (by decide +kernel) rfl
theorem jm_min : Cond.static Lib.Math.min.name ∈ WG ∧ Cond.initialized "java/lang/Math" ∈ WG ∧ Cond.code Lib.Math.min.name Lib.Math.min.code 2 (some .int) ∈ WG := ⟨wg_of 355 (by decide +kernel) rfl, wg_of 55 (by decide +kernel) rfl, wg_of 356 (by decide +kernel) rfl⟩
theorem ml_X2_50 : Cond.methodLink RX2 50 Lib.Math.min.name ∈ WG := wg_of 455 (by decide +kernel) rfl
theorem ml_X5_171 : Cond.methodLink RX5 171 Lib.Math.min.name ∈ WG := wg_of 354 (by decide +kernel) rfl
end
section
theorem dX0_init_0 : decode cX0_init 0 = .ok (.aload_n 0, 1) := by decide +kernel
theorem dX0_init_1 : decode cX0_init 1 = .ok (.invokespecial 3, 3) := by decide +kernel
theorem dX0_init_4 : decode cX0_init 4 = .ok (.aload_n 0, 1) := by decide +kernel
theorem dX0_init_5 : decode cX0_init 5 = .ok (.bipush 14, 2) := by decide +kernel
theorem dX0_init_7 : decode cX0_init 7 = .ok (.anewarray 9, 3) := by decide +kernel
theorem dX0_init_10 : decode cX0_init 10 = .ok (.putfield 11, 3) := by decide +kernel
theorem dX0_init_13 : decode cX0_init 13 = .ok (.iconst 0, 1) := by decide +kernel
theorem dX0_init_14 : decode cX0_init 14 = .ok (.istore_n 1, 1) := by decide +kernel
theorem dX0_init_15 : decode cX0_init 15 = .ok (.iload_n 1, 1) := by decide +kernel
theorem dX0_init_16 : decode cX0_init 16 = .ok (.aload_n 0, 1) := by decide +kernel
theorem dX0_init_17 : decode cX0_init 17 = .ok (.getfield 11, 3) := by decide +kernel
theorem dX0_init_20 : decode cX0_init 20 = .ok (.arraylength, 1) := by decide +kernel
theorem dX0_init_21 : decode cX0_init 21 = .ok (.if_icmp .ge 22, 3) := by decide +kernel
theorem dX0_init_24 : decode cX0_init 24 = .ok (.aload_n 0, 1) := by decide +kernel
theorem dX0_init_25 : decode cX0_init 25 = .ok (.getfield 11, 3) := by decide +kernel
theorem dX0_init_28 : decode cX0_init 28 = .ok (.iload_n 1, 1) := by decide +kernel
theorem dX0_init_29 : decode cX0_init 29 = .ok (.new 9, 3) := by decide +kernel
theorem dX0_init_32 : decode cX0_init 32 = .ok (.dup, 1) := by decide +kernel
theorem dX0_init_33 : decode cX0_init 33 = .ok (.invokespecial 17, 3) := by decide +kernel
theorem dX0_init_36 : decode cX0_init 36 = .ok (.aastore, 1) := by decide +kernel
theorem dX0_init_37 : decode cX0_init 37 = .ok (.iinc 1 1, 3) := by decide +kernel
theorem dX0_init_40 : decode cX0_init 40 = .ok (.goto (-25), 3) := by decide +kernel
theorem dX0_init_43 : decode cX0_init 43 = .ok (.return_, 1) := by decide +kernel
theorem dX0_isEmpty_0 : decode cX0_isEmpty 0 = .ok (.aload_n 0, 1) := by decide +kernel
theorem dX0_isEmpty_1 : decode cX0_isEmpty 1 = .ok (.getfield 18, 3) := by decide +kernel
theorem dX0_isEmpty_4 : decode cX0_isEmpty 4 = .ok (.ifCond .ne 7, 3) := by decide +kernel
theorem dX0_isEmpty_7 : decode cX0_isEmpty 7 = .ok (.iconst 1, 1) := by decide +kernel
theorem dX0_isEmpty_8 : decode cX0_isEmpty 8 = .ok (.goto 4, 3) := by decide +kernel
theorem dX0_isEmpty_11 : decode cX0_isEmpty 11 = .ok (.iconst 0, 1) := by decide +kernel
theorem dX0_isEmpty_12 : decode cX0_isEmpty 12 = .ok (.ireturn, 1) := by decide +kernel
theorem dX0_forgetAll_0 : decode cX0_forgetAll 0 = .ok (.aload_n 0, 1) := by decide +kernel
theorem dX0_forgetAll_1 : decode cX0_forgetAll 1 = .ok (.iconst 0, 1) := by decide +kernel
theorem dX0_forgetAll_2 : decode cX0_forgetAll 2 = .ok (.putfield 18, 3) := by decide +kernel
theorem dX0_forgetAll_5 : decode cX0_forgetAll 5 = .ok (.return_, 1) := by decide +kernel
theorem dX0_remember_0 : decode cX0_remember 0 = .ok (.aload_n 0, 1) := by decide +kernel
theorem dX0_remember_1 : decode cX0_remember 1 = .ok (.getfield 18, 3) := by decide +kernel
theorem dX0_remember_4 : decode cX0_remember 4 = .ok (.aload_n 0, 1) := by decide +kernel
theorem dX0_remember_5 : decode cX0_remember 5 = .ok (.getfield 11, 3) := by decide +kernel
theorem dX0_remember_8 : decode cX0_remember 8 = .ok (.arraylength, 1) := by decide +kernel
theorem dX0_remember_9 : decode cX0_remember 9 = .ok (.if_icmp .lt 7, 3) := by decide +kernel
theorem dX0_remember_12 : decode cX0_remember 12 = .ok (.aload_n 0, 1) := by decide +kernel
theorem dX0_remember_13 : decode cX0_remember 13 = .ok (.invokevirtual 22, 3) := by decide +kernel
theorem dX0_remember_16 : decode cX0_remember 16 = .ok (.aload_n 0, 1) := by decide +kernel
theorem dX0_remember_17 : decode cX0_remember 17 = .ok (.getfield 18, 3) := by decide +kernel
theorem dX0_remember_20 : decode cX0_remember 20 = .ok (.ifCond .lt 38, 3) := by decide +kernel
theorem dX0_remember_23 : decode cX0_remember 23 = .ok (.aload_n 0, 1) := by decide +kernel
theorem dX0_remember_24 : decode cX0_remember 24 = .ok (.getfield 18, 3) := by decide +kernel
theorem dX0_remember_27 : decode cX0_remember 27 = .ok (.aload_n 0, 1) := by decide +kernel
theorem dX0_remember_28 : decode cX0_remember 28 = .ok (.getfield 11, 3) := by decide +kernel
theorem dX0_remember_31 : decode cX0_remember 31 = .ok (.arraylength, 1) := by decide +kernel
theorem dX0_remember_32 : decode cX0_remember 32 = .ok (.if_icmp .ge 26, 3) := by decide +kernel
theorem dX0_remember_35 : decode cX0_remember 35 = .ok (.aload_n 0, 1) := by decide +kernel
theorem dX0_remember_36 : decode cX0_remember 36 = .ok (.getfield 11, 3) := by decide +kernel
theorem dX0_remember_39 : decode cX0_remember 39 = .ok (.aload_n 0, 1) := by decide +kernel
theorem dX0_remember_40 : decode cX0_remember 40 = .ok (.getfield 18, 3) := by decide +kernel
theorem dX0_remember_43 : decode cX0_remember 43 = .ok (.aaload, 1) := by decide +kernel
theorem dX0_remember_44 : decode cX0_remember 44 = .ok (.aload_n 1, 1) := by decide +kernel
theorem dX0_remember_45 : decode cX0_remember 45 = .ok (.invokevirtual 25, 3) := by decide +kernel
theorem dX0_remember_48 : decode cX0_remember 48 = .ok (.aload_n 0, 1) := by decide +kernel
theorem dX0_remember_49 : decode cX0_remember 49 = .ok (.dup, 1) := by decide +kernel
theorem dX0_remember_50 : decode cX0_remember 50 = .ok (.getfield 18, 3) := by decide +kernel
theorem dX0_remember_53 : decode cX0_remember 53 = .ok (.iconst 1, 1) := by decide +kernel
theorem dX0_remember_54 : decode cX0_remember 54 = .ok (.iadd, 1) := by decide +kernel
theorem dX0_remember_55 : decode cX0_remember 55 = .ok (.putfield 18, 3) := by decide +kernel
theorem dX0_remember_58 : decode cX0_remember 58 = .ok (.return_, 1) := by decide +kernel
theorem dX0_forgetOldest_0 : decode cX0_forgetOldest 0 = .ok (.iconst 1, 1) := by decide +kernel
theorem dX0_forgetOldest_1 : decode cX0_forgetOldest 1 = .ok (.istore_n 1, 1) := by decide +kernel
theorem dX0_forgetOldest_2 : decode cX0_forgetOldest 2 = .ok (.iload_n 1, 1) := by decide +kernel
theorem dX0_forgetOldest_3 : decode cX0_forgetOldest 3 = .ok (.aload_n 0, 1) := by decide +kernel
theorem dX0_forgetOldest_4 : decode cX0_forgetOldest 4 = .ok (.getfield 11, 3) := by decide +kernel
theorem dX0_forgetOldest_7 : decode cX0_forgetOldest 7 = .ok (.arraylength, 1) := by decide +kernel
theorem dX0_forgetOldest_8 : decode cX0_forgetOldest 8 = .ok (.if_icmp .ge 39, 3) := by decide +kernel
theorem dX0_forgetOldest_11 : decode cX0_forgetOldest 11 = .ok (.aload_n 0, 1) := by decide +kernel
theorem dX0_forgetOldest_12 : decode cX0_forgetOldest 12 = .ok (.getfield 11, 3) := by decide +kernel
theorem dX0_forgetOldest_15 : decode cX0_forgetOldest 15 = .ok (.iload_n 1, 1) := by decide +kernel
theorem dX0_forgetOldest_16 : decode cX0_forgetOldest 16 = .ok (.iconst 1, 1) := by decide +kernel
theorem dX0_forgetOldest_17 : decode cX0_forgetOldest 17 = .ok (.isub, 1) := by decide +kernel
theorem dX0_forgetOldest_18 : decode cX0_forgetOldest 18 = .ok (.aaload, 1) := by decide +kernel
theorem dX0_forgetOldest_19 : decode cX0_forgetOldest 19 = .ok (.astore_n 2, 1) := by decide +kernel
theorem dX0_forgetOldest_20 : decode cX0_forgetOldest 20 = .ok (.aload_n 0, 1) := by decide +kernel
theorem dX0_forgetOldest_21 : decode cX0_forgetOldest 21 = .ok (.getfield 11, 3) := by decide +kernel
theorem dX0_forgetOldest_24 : decode cX0_forgetOldest 24 = .ok (.iload_n 1, 1) := by decide +kernel
theorem dX0_forgetOldest_25 : decode cX0_forgetOldest 25 = .ok (.iconst 1, 1) := by decide +kernel
theorem dX0_forgetOldest_26 : decode cX0_forgetOldest 26 = .ok (.isub, 1) := by decide +kernel
theorem dX0_forgetOldest_27 : decode cX0_forgetOldest 27 = .ok (.aload_n 0, 1) := by decide +kernel
theorem dX0_forgetOldest_28 : decode cX0_forgetOldest 28 = .ok (.getfield 11, 3) := by decide +kernel
theorem dX0_forgetOldest_31 : decode cX0_forgetOldest 31 = .ok (.iload_n 1, 1) := by decide +kernel
theorem dX0_forgetOldest_32 : decode cX0_forgetOldest 32 = .ok (.aaload, 1) := by decide +kernel
theorem dX0_forgetOldest_33 : decode cX0_forgetOldest 33 = .ok (.aastore, 1) := by decide +kernel
theorem dX0_forgetOldest_34 : decode cX0_forgetOldest 34 = .ok (.aload_n 0, 1) := by decide +kernel
theorem dX0_forgetOldest_35 : decode cX0_forgetOldest 35 = .ok (.getfield 11, 3) := by decide +kernel
theorem dX0_forgetOldest_38 : decode cX0_forgetOldest 38 = .ok (.iload_n 1, 1) := by decide +kernel
theorem dX0_forgetOldest_39 : decode cX0_forgetOldest 39 = .ok (.aload_n 2, 1) := by decide +kernel
theorem dX0_forgetOldest_40 : decode cX0_forgetOldest 40 = .ok (.aastore, 1) := by decide +kernel
theorem dX0_forgetOldest_41 : decode cX0_forgetOldest 41 = .ok (.iinc 1 1, 3) := by decide +kernel
theorem dX0_forgetOldest_44 : decode cX0_forgetOldest 44 = .ok (.goto (-42), 3) := by decide +kernel
theorem dX0_forgetOldest_47 : decode cX0_forgetOldest 47 = .ok (.aload_n 0, 1) := by decide +kernel
theorem dX0_forgetOldest_48 : decode cX0_forgetOldest 48 = .ok (.dup, 1) := by decide +kernel
theorem dX0_forgetOldest_49 : decode cX0_forgetOldest 49 = .ok (.getfield 18, 3) := by decide +kernel
theorem dX0_forgetOldest_52 : decode cX0_forgetOldest 52 = .ok (.iconst 1, 1) := by decide +kernel
theorem dX0_forgetOldest_53 : decode cX0_forgetOldest 53 = .ok (.isub, 1) := by decide +kernel
theorem dX0_forgetOldest_54 : decode cX0_forgetOldest 54 = .ok (.putfield 18, 3) := by decide +kernel
theorem dX0_forgetOldest_57 : decode cX0_forgetOldest 57 = .ok (.return_, 1) := by decide +kernel
theorem dX0_takeBack_0 : decode cX0_takeBack 0 = .ok (.aload_n 0, 1) := by decide +kernel
theorem dX0_takeBack_1 : decode cX0_takeBack 1 = .ok (.getfield 18, 3) := by decide +kernel
theorem dX0_takeBack_4 : decode cX0_takeBack 4 = .ok (.ifCond .le 38, 3) := by decide +kernel
theorem dX0_takeBack_7 : decode cX0_takeBack 7 = .ok (.aload_n 0, 1) := by decide +kernel
theorem dX0_takeBack_8 : decode cX0_takeBack 8 = .ok (.getfield 18, 3) := by decide +kernel
theorem dX0_takeBack_11 : decode cX0_takeBack 11 = .ok (.aload_n 0, 1) := by decide +kernel
theorem dX0_takeBack_12 : decode cX0_takeBack 12 = .ok (.getfield 11, 3) := by decide +kernel
theorem dX0_takeBack_15 : decode cX0_takeBack 15 = .ok (.arraylength, 1) := by decide +kernel
theorem dX0_takeBack_16 : decode cX0_takeBack 16 = .ok (.if_icmp .gt 26, 3) := by decide +kernel
theorem dX0_takeBack_19 : decode cX0_takeBack 19 = .ok (.aload_n 0, 1) := by decide +kernel
theorem dX0_takeBack_20 : decode cX0_takeBack 20 = .ok (.dup, 1) := by decide +kernel
theorem dX0_takeBack_21 : decode cX0_takeBack 21 = .ok (.getfield 18, 3) := by decide +kernel
theorem dX0_takeBack_24 : decode cX0_takeBack 24 = .ok (.iconst 1, 1) := by decide +kernel
theorem dX0_takeBack_25 : decode cX0_takeBack 25 = .ok (.isub, 1) := by decide +kernel
theorem dX0_takeBack_26 : decode cX0_takeBack 26 = .ok (.putfield 18, 3) := by decide +kernel
theorem dX0_takeBack_29 : decode cX0_takeBack 29 = .ok (.aload_n 1, 1) := by decide +kernel
theorem dX0_takeBack_30 : decode cX0_takeBack 30 = .ok (.aload_n 0, 1) := by decide +kernel
theorem dX0_takeBack_31 : decode cX0_takeBack 31 = .ok (.getfield 11, 3) := by decide +kernel
theorem dX0_takeBack_34 : decode cX0_takeBack 34 = .ok (.aload_n 0, 1) := by decide +kernel
theorem dX0_takeBack_35 : decode cX0_takeBack 35 = .ok (.getfield 18, 3) := by decide +kernel
theorem dX0_takeBack_38 : decode cX0_takeBack 38 = .ok (.aaload, 1) := by decide +kernel
theorem dX0_takeBack_39 : decode cX0_takeBack 39 = .ok (.invokevirtual 25, 3) := by decide +kernel
theorem dX0_takeBack_42 : decode cX0_takeBack 42 = .ok (.return_, 1) := by decide +kernel
theorem dX1_init_0 : decode cX1_init 0 = .ok (.aload_n 0, 1) := by decide +kernel
theorem dX1_init_1 : decode cX1_init 1 = .ok (.invokespecial 3, 3) := by decide +kernel
theorem dX1_init_4 : decode cX1_init 4 = .ok (.aload_n 0, 1) := by decide +kernel
theorem dX1_init_5 : decode cX1_init 5 = .ok (.new 9, 3) := by decide +kernel
theorem dX1_init_8 : decode cX1_init 8 = .ok (.dup, 1) := by decide +kernel
theorem dX1_init_9 : decode cX1_init 9 = .ok (.invokespecial 11, 3) := by decide +kernel
theorem dX1_init_12 : decode cX1_init 12 = .ok (.putfield 12, 3) := by decide +kernel
theorem dX1_init_15 : decode cX1_init 15 = .ok (.return_, 1) := by decide +kernel
theorem dX1_firstError_0 : decode cX1_firstError 0 = .ok (.aload_n 0, 1) := by decide +kernel
theorem dX1_firstError_1 : decode cX1_firstError 1 = .ok (.invokevirtual 18, 3) := by decide +kernel
theorem dX1_firstError_4 : decode cX1_firstError 4 = .ok (.iconst 1, 1) := by decide +kernel
theorem dX1_firstError_5 : decode cX1_firstError 5 = .ok (.istore_n 1, 1) := by decide +kernel
theorem dX1_firstError_6 : decode cX1_firstError 6 = .ok (.iconst 0, 1) := by decide +kernel
theorem dX1_firstError_7 : decode cX1_firstError 7 = .ok (.istore_n 2, 1) := by decide +kernel
theorem dX1_firstError_8 : decode cX1_firstError 8 = .ok (.iload_n 2, 1) := by decide +kernel
theorem dX1_firstError_9 : decode cX1_firstError 9 = .ok (.bipush 120, 2) := by decide +kernel
theorem dX1_firstError_11 : decode cX1_firstError 11 = .ok (.if_icmp .ge 18, 3) := by decide +kernel
theorem dX1_firstError_14 : decode cX1_firstError 14 = .ok (.iload_n 1, 1) := by decide +kernel
theorem dX1_firstError_15 : decode cX1_firstError 15 = .ok (.ifCond .eq 14, 3) := by decide +kernel
theorem dX1_firstError_18 : decode cX1_firstError 18 = .ok (.aload_n 0, 1) := by decide +kernel
theorem dX1_firstError_19 : decode cX1_firstError 19 = .ok (.invokevirtual 21, 3) := by decide +kernel
theorem dX1_firstError_22 : decode cX1_firstError 22 = .ok (.istore_n 1, 1) := by decide +kernel
theorem dX1_firstError_23 : decode cX1_firstError 23 = .ok (.iinc 2 1, 3) := by decide +kernel
theorem dX1_firstError_26 : decode cX1_firstError 26 = .ok (.goto (-18), 3) := by decide +kernel
theorem dX1_firstError_29 : decode cX1_firstError 29 = .ok (.aload_n 0, 1) := by decide +kernel
theorem dX1_firstError_30 : decode cX1_firstError 30 = .ok (.getfield 25, 3) := by decide +kernel
theorem dX1_firstError_33 : decode cX1_firstError 33 = .ok (.ifCond .eq 10, 3) := by decide +kernel
theorem dX1_firstError_36 : decode cX1_firstError 36 = .ok (.aload_n 0, 1) := by decide +kernel
theorem dX1_firstError_37 : decode cX1_firstError 37 = .ok (.getfield 29, 3) := by decide +kernel
theorem dX1_firstError_40 : decode cX1_firstError 40 = .ok (.goto 4, 3) := by decide +kernel
theorem dX1_firstError_43 : decode cX1_firstError 43 = .ok (.iconst (-1), 1) := by decide +kernel
theorem dX1_firstError_44 : decode cX1_firstError 44 = .ok (.ireturn, 1) := by decide +kernel
theorem dX1_start_0 : decode cX1_start 0 = .ok (.aload_n 0, 1) := by decide +kernel
theorem dX1_start_1 : decode cX1_start 1 = .ok (.iconst 0, 1) := by decide +kernel
theorem dX1_start_2 : decode cX1_start 2 = .ok (.putfield 29, 3) := by decide +kernel
theorem dX1_start_5 : decode cX1_start 5 = .ok (.aload_n 0, 1) := by decide +kernel
theorem dX1_start_6 : decode cX1_start 6 = .ok (.iconst 0, 1) := by decide +kernel
theorem dX1_start_7 : decode cX1_start 7 = .ok (.putfield 25, 3) := by decide +kernel
theorem dX1_start_10 : decode cX1_start 10 = .ok (.aload_n 0, 1) := by decide +kernel
theorem dX1_start_11 : decode cX1_start 11 = .ok (.aload_n 0, 1) := by decide +kernel
theorem dX1_start_12 : decode cX1_start 12 = .ok (.getfield 12, 3) := by decide +kernel
theorem dX1_start_15 : decode cX1_start 15 = .ok (.iconst 0, 1) := by decide +kernel
theorem dX1_start_16 : decode cX1_start 16 = .ok (.invokevirtual 33, 3) := by decide +kernel
theorem dX1_start_19 : decode cX1_start 19 = .ok (.bipush 77, 2) := by decide +kernel
theorem dX1_start_21 : decode cX1_start 21 = .ok (.if_icmp .ne 7, 3) := by decide +kernel
theorem dX1_start_24 : decode cX1_start 24 = .ok (.iconst 1, 1) := by decide +kernel
theorem dX1_start_25 : decode cX1_start 25 = .ok (.goto 4, 3) := by decide +kernel
theorem dX1_start_28 : decode cX1_start 28 = .ok (.iconst 0, 1) := by decide +kernel
theorem dX1_start_29 : decode cX1_start 29 = .ok (.invokevirtual 37, 3) := by decide +kernel
theorem dX1_start_32 : decode cX1_start 32 = .ok (.return_, 1) := by decide +kernel
theorem dX1_readsCommand_0 : decode cX1_readsCommand 0 = .ok (.aload_n 0, 1) := by decide +kernel
theorem dX1_readsCommand_1 : decode cX1_readsCommand 1 = .ok (.getfield 25, 3) := by decide +kernel
theorem dX1_readsCommand_4 : decode cX1_readsCommand 4 = .ok (.ifCond .ne 18, 3) := by decide +kernel
theorem dX1_readsCommand_7 : decode cX1_readsCommand 7 = .ok (.aload_n 0, 1) := by decide +kernel
theorem dX1_readsCommand_8 : decode cX1_readsCommand 8 = .ok (.getfield 12, 3) := by decide +kernel
theorem dX1_readsCommand_11 : decode cX1_readsCommand 11 = .ok (.aload_n 0, 1) := by decide +kernel
theorem dX1_readsCommand_12 : decode cX1_readsCommand 12 = .ok (.getfield 29, 3) := by decide +kernel
theorem dX1_readsCommand_15 : decode cX1_readsCommand 15 = .ok (.invokevirtual 33, 3) := by decide +kernel
theorem dX1_readsCommand_18 : decode cX1_readsCommand 18 = .ok (.iconst (-1), 1) := by decide +kernel
theorem dX1_readsCommand_19 : decode cX1_readsCommand 19 = .ok (.if_icmp .ne 5, 3) := by decide +kernel
theorem dX1_readsCommand_22 : decode cX1_readsCommand 22 = .ok (.iconst 0, 1) := by decide +kernel
theorem dX1_readsCommand_23 : decode cX1_readsCommand 23 = .ok (.ireturn, 1) := by decide +kernel
theorem dX1_readsCommand_24 : decode cX1_readsCommand 24 = .ok (.aload_n 0, 1) := by decide +kernel
theorem dX1_readsCommand_25 : decode cX1_readsCommand 25 = .ok (.aload_n 0, 1) := by decide +kernel
theorem dX1_readsCommand_26 : decode cX1_readsCommand 26 = .ok (.getfield 12, 3) := by decide +kernel
theorem dX1_readsCommand_29 : decode cX1_readsCommand 29 = .ok (.aload_n 0, 1) := by decide +kernel
theorem dX1_readsCommand_30 : decode cX1_readsCommand 30 = .ok (.getfield 29, 3) := by decide +kernel
theorem dX1_readsCommand_33 : decode cX1_readsCommand 33 = .ok (.invokevirtual 33, 3) := by decide +kernel
theorem dX1_readsCommand_36 : decode cX1_readsCommand 36 = .ok (.putfield 41, 3) := by decide +kernel
theorem dX1_readsCommand_39 : decode cX1_readsCommand 39 = .ok (.aload_n 0, 1) := by decide +kernel
theorem dX1_readsCommand_40 : decode cX1_readsCommand 40 = .ok (.aload_n 0, 1) := by decide +kernel
theorem dX1_readsCommand_41 : decode cX1_readsCommand 41 = .ok (.getfield 41, 3) := by decide +kernel
theorem dX1_readsCommand_44 : decode cX1_readsCommand 44 = .ok (.invokestatic 44, 3) := by decide +kernel
theorem dX1_readsCommand_47 : decode cX1_readsCommand 47 = .ok (.invokevirtual 37, 3) := by decide +kernel
theorem dX1_readsCommand_50 : decode cX1_readsCommand 50 = .ok (.aload_n 0, 1) := by decide +kernel
theorem dX1_readsCommand_51 : decode cX1_readsCommand 51 = .ok (.getfield 25, 3) := by decide +kernel
theorem dX1_readsCommand_54 : decode cX1_readsCommand 54 = .ok (.ifCond .eq 5, 3) := by decide +kernel
theorem dX1_readsCommand_57 : decode cX1_readsCommand 57 = .ok (.iconst 0, 1) := by decide +kernel
theorem dX1_readsCommand_58 : decode cX1_readsCommand 58 = .ok (.ireturn, 1) := by decide +kernel
theorem dX1_readsCommand_59 : decode cX1_readsCommand 59 = .ok (.aload_n 0, 1) := by decide +kernel
theorem dX1_readsCommand_60 : decode cX1_readsCommand 60 = .ok (.getfield 41, 3) := by decide +kernel
theorem dX1_readsCommand_63 : decode cX1_readsCommand 63 = .ok (.lookupswitch 95 #[(108, 79), (109, 64), (114, 33)], 33) := by decide +kernel
theorem dX1_readsCommand_96 : decode cX1_readsCommand 96 = .ok (.aload_n 0, 1) := by decide +kernel
theorem dX1_readsCommand_97 : decode cX1_readsCommand 97 = .ok (.aload_n 0, 1) := by decide +kernel
theorem dX1_readsCommand_98 : decode cX1_readsCommand 98 = .ok (.iconst 2, 1) := by decide +kernel
theorem dX1_readsCommand_99 : decode cX1_readsCommand 99 = .ok (.iconst 1, 1) := by decide +kernel
theorem dX1_readsCommand_100 : decode cX1_readsCommand 100 = .ok (.bipush 50, 2) := by decide +kernel
theorem dX1_readsCommand_102 : decode cX1_readsCommand 102 = .ok (.invokevirtual 48, 3) := by decide +kernel
theorem dX1_readsCommand_105 : decode cX1_readsCommand 105 = .ok (.putfield 52, 3) := by decide +kernel
theorem dX1_readsCommand_108 : decode cX1_readsCommand 108 = .ok (.aload_n 0, 1) := by decide +kernel
theorem dX1_readsCommand_109 : decode cX1_readsCommand 109 = .ok (.aload_n 0, 1) := by decide +kernel
theorem dX1_readsCommand_110 : decode cX1_readsCommand 110 = .ok (.invokevirtual 55, 3) := by decide +kernel
theorem dX1_readsCommand_113 : decode cX1_readsCommand 113 = .ok (.putfield 59, 3) := by decide +kernel
theorem dX1_readsCommand_116 : decode cX1_readsCommand 116 = .ok (.aload_n 0, 1) := by decide +kernel
theorem dX1_readsCommand_117 : decode cX1_readsCommand 117 = .ok (.aload_n 0, 1) := by decide +kernel
theorem dX1_readsCommand_118 : decode cX1_readsCommand 118 = .ok (.invokevirtual 55, 3) := by decide +kernel
theorem dX1_readsCommand_121 : decode cX1_readsCommand 121 = .ok (.putfield 62, 3) := by decide +kernel
theorem dX1_readsCommand_124 : decode cX1_readsCommand 124 = .ok (.goto 45, 3) := by decide +kernel
theorem dX1_readsCommand_127 : decode cX1_readsCommand 127 = .ok (.aload_n 0, 1) := by decide +kernel
theorem dX1_readsCommand_128 : decode cX1_readsCommand 128 = .ok (.aload_n 0, 1) := by decide +kernel
theorem dX1_readsCommand_129 : decode cX1_readsCommand 129 = .ok (.iconst 2, 1) := by decide +kernel
theorem dX1_readsCommand_130 : decode cX1_readsCommand 130 = .ok (.iconst 1, 1) := by decide +kernel
theorem dX1_readsCommand_131 : decode cX1_readsCommand 131 = .ok (.bipush 60, 2) := by decide +kernel
theorem dX1_readsCommand_133 : decode cX1_readsCommand 133 = .ok (.invokevirtual 48, 3) := by decide +kernel
theorem dX1_readsCommand_136 : decode cX1_readsCommand 136 = .ok (.putfield 52, 3) := by decide +kernel
theorem dX1_readsCommand_139 : decode cX1_readsCommand 139 = .ok (.goto 30, 3) := by decide +kernel
theorem dX1_readsCommand_142 : decode cX1_readsCommand 142 = .ok (.aload_n 0, 1) := by decide +kernel
theorem dX1_readsCommand_143 : decode cX1_readsCommand 143 = .ok (.aload_n 0, 1) := by decide +kernel
theorem dX1_readsCommand_144 : decode cX1_readsCommand 144 = .ok (.iconst 4, 1) := by decide +kernel
theorem dX1_readsCommand_145 : decode cX1_readsCommand 145 = .ok (.iconst 0, 1) := by decide +kernel
theorem dX1_readsCommand_146 : decode cX1_readsCommand 146 = .ok (.sipush 9999, 3) := by decide +kernel
theorem dX1_readsCommand_149 : decode cX1_readsCommand 149 = .ok (.invokevirtual 48, 3) := by decide +kernel
theorem dX1_readsCommand_152 : decode cX1_readsCommand 152 = .ok (.putfield 52, 3) := by decide +kernel
theorem dX1_readsCommand_155 : decode cX1_readsCommand 155 = .ok (.goto 14, 3) := by decide +kernel
theorem dX1_readsCommand_158 : decode cX1_readsCommand 158 = .ok (.aload_n 0, 1) := by decide +kernel
theorem dX1_readsCommand_159 : decode cX1_readsCommand 159 = .ok (.aload_n 0, 1) := by decide +kernel
theorem dX1_readsCommand_160 : decode cX1_readsCommand 160 = .ok (.iconst 1, 1) := by decide +kernel
theorem dX1_readsCommand_161 : decode cX1_readsCommand 161 = .ok (.iconst 0, 1) := by decide +kernel
theorem dX1_readsCommand_162 : decode cX1_readsCommand 162 = .ok (.iconst 5, 1) := by decide +kernel
theorem dX1_readsCommand_163 : decode cX1_readsCommand 163 = .ok (.invokevirtual 48, 3) := by decide +kernel
theorem dX1_readsCommand_166 : decode cX1_readsCommand 166 = .ok (.putfield 52, 3) := by decide +kernel
theorem dX1_readsCommand_169 : decode cX1_readsCommand 169 = .ok (.aload_n 0, 1) := by decide +kernel
theorem dX1_readsCommand_170 : decode cX1_readsCommand 170 = .ok (.getfield 25, 3) := by decide +kernel
theorem dX1_readsCommand_173 : decode cX1_readsCommand 173 = .ok (.ifCond .ne 7, 3) := by decide +kernel
theorem dX1_readsCommand_176 : decode cX1_readsCommand 176 = .ok (.iconst 1, 1) := by decide +kernel
theorem dX1_readsCommand_177 : decode cX1_readsCommand 177 = .ok (.goto 4, 3) := by decide +kernel
theorem dX1_readsCommand_180 : decode cX1_readsCommand 180 = .ok (.iconst 0, 1) := by decide +kernel
theorem dX1_readsCommand_181 : decode cX1_readsCommand 181 = .ok (.ireturn, 1) := by decide +kernel
theorem dX1_isCommand_0 : decode cX1_isCommand 0 = .ok (.iload_n 0, 1) := by decide +kernel
theorem dX1_isCommand_1 : decode cX1_isCommand 1 = .ok (.bipush 114, 2) := by decide +kernel
theorem dX1_isCommand_3 : decode cX1_isCommand 3 = .ok (.if_icmp .eq 27, 3) := by decide +kernel
theorem dX1_isCommand_6 : decode cX1_isCommand 6 = .ok (.iload_n 0, 1) := by decide +kernel
theorem dX1_isCommand_7 : decode cX1_isCommand 7 = .ok (.bipush 111, 2) := by decide +kernel
theorem dX1_isCommand_9 : decode cX1_isCommand 9 = .ok (.if_icmp .eq 21, 3) := by decide +kernel
theorem dX1_isCommand_12 : decode cX1_isCommand 12 = .ok (.iload_n 0, 1) := by decide +kernel
theorem dX1_isCommand_13 : decode cX1_isCommand 13 = .ok (.bipush 122, 2) := by decide +kernel
theorem dX1_isCommand_15 : decode cX1_isCommand 15 = .ok (.if_icmp .eq 15, 3) := by decide +kernel
theorem dX1_isCommand_18 : decode cX1_isCommand 18 = .ok (.iload_n 0, 1) := by decide +kernel
theorem dX1_isCommand_19 : decode cX1_isCommand 19 = .ok (.bipush 109, 2) := by decide +kernel
theorem dX1_isCommand_21 : decode cX1_isCommand 21 = .ok (.if_icmp .eq 9, 3) := by decide +kernel
theorem dX1_isCommand_24 : decode cX1_isCommand 24 = .ok (.iload_n 0, 1) := by decide +kernel
theorem dX1_isCommand_25 : decode cX1_isCommand 25 = .ok (.bipush 108, 2) := by decide +kernel
theorem dX1_isCommand_27 : decode cX1_isCommand 27 = .ok (.if_icmp .ne 7, 3) := by decide +kernel
theorem dX1_isCommand_30 : decode cX1_isCommand 30 = .ok (.iconst 1, 1) := by decide +kernel
theorem dX1_isCommand_31 : decode cX1_isCommand 31 = .ok (.goto 4, 3) := by decide +kernel
theorem dX1_isCommand_34 : decode cX1_isCommand 34 = .ok (.iconst 0, 1) := by decide +kernel
theorem dX1_isCommand_35 : decode cX1_isCommand 35 = .ok (.ireturn, 1) := by decide +kernel
theorem dX1_moveIf_0 : decode cX1_moveIf 0 = .ok (.iload_n 1, 1) := by decide +kernel
theorem dX1_moveIf_1 : decode cX1_moveIf 1 = .ok (.ifCond .eq 23, 3) := by decide +kernel
theorem dX1_moveIf_4 : decode cX1_moveIf 4 = .ok (.aload_n 0, 1) := by decide +kernel
theorem dX1_moveIf_5 : decode cX1_moveIf 5 = .ok (.getfield 25, 3) := by decide +kernel
theorem dX1_moveIf_8 : decode cX1_moveIf 8 = .ok (.ifCond .ne 16, 3) := by decide +kernel
theorem dX1_moveIf_11 : decode cX1_moveIf 11 = .ok (.aload_n 0, 1) := by decide +kernel
theorem dX1_moveIf_12 : decode cX1_moveIf 12 = .ok (.dup, 1) := by decide +kernel
theorem dX1_moveIf_13 : decode cX1_moveIf 13 = .ok (.getfield 29, 3) := by decide +kernel
theorem dX1_moveIf_16 : decode cX1_moveIf 16 = .ok (.iconst 1, 1) := by decide +kernel
theorem dX1_moveIf_17 : decode cX1_moveIf 17 = .ok (.iadd, 1) := by decide +kernel
theorem dX1_moveIf_18 : decode cX1_moveIf 18 = .ok (.putfield 29, 3) := by decide +kernel
theorem dX1_moveIf_21 : decode cX1_moveIf 21 = .ok (.goto 8, 3) := by decide +kernel
theorem dX1_moveIf_24 : decode cX1_moveIf 24 = .ok (.aload_n 0, 1) := by decide +kernel
theorem dX1_moveIf_25 : decode cX1_moveIf 25 = .ok (.iconst 1, 1) := by decide +kernel
theorem dX1_moveIf_26 : decode cX1_moveIf 26 = .ok (.putfield 25, 3) := by decide +kernel
theorem dX1_moveIf_29 : decode cX1_moveIf 29 = .ok (.return_, 1) := by decide +kernel
theorem dX1_readTemperature_0 : decode cX1_readTemperature 0 = .ok (.aload_n 0, 1) := by decide +kernel
theorem dX1_readTemperature_1 : decode cX1_readTemperature 1 = .ok (.getfield 12, 3) := by decide +kernel
theorem dX1_readTemperature_4 : decode cX1_readTemperature 4 = .ok (.aload_n 0, 1) := by decide +kernel
theorem dX1_readTemperature_5 : decode cX1_readTemperature 5 = .ok (.getfield 29, 3) := by decide +kernel
theorem dX1_readTemperature_8 : decode cX1_readTemperature 8 = .ok (.invokevirtual 33, 3) := by decide +kernel
theorem dX1_readTemperature_11 : decode cX1_readTemperature 11 = .ok (.istore_n 1, 1) := by decide +kernel
theorem dX1_readTemperature_12 : decode cX1_readTemperature 12 = .ok (.aload_n 0, 1) := by decide +kernel
theorem dX1_readTemperature_13 : decode cX1_readTemperature 13 = .ok (.iload_n 1, 1) := by decide +kernel
theorem dX1_readTemperature_14 : decode cX1_readTemperature 14 = .ok (.bipush 43, 2) := by decide +kernel
theorem dX1_readTemperature_16 : decode cX1_readTemperature 16 = .ok (.if_icmp .eq 9, 3) := by decide +kernel
theorem dX1_readTemperature_19 : decode cX1_readTemperature 19 = .ok (.iload_n 1, 1) := by decide +kernel
theorem dX1_readTemperature_20 : decode cX1_readTemperature 20 = .ok (.bipush 45, 2) := by decide +kernel
theorem dX1_readTemperature_22 : decode cX1_readTemperature 22 = .ok (.if_icmp .ne 7, 3) := by decide +kernel
theorem dX1_readTemperature_25 : decode cX1_readTemperature 25 = .ok (.iconst 1, 1) := by decide +kernel
theorem dX1_readTemperature_26 : decode cX1_readTemperature 26 = .ok (.goto 4, 3) := by decide +kernel
theorem dX1_readTemperature_29 : decode cX1_readTemperature 29 = .ok (.iconst 0, 1) := by decide +kernel
theorem dX1_readTemperature_30 : decode cX1_readTemperature 30 = .ok (.invokevirtual 37, 3) := by decide +kernel
theorem dX1_readTemperature_33 : decode cX1_readTemperature 33 = .ok (.iload_n 1, 1) := by decide +kernel
theorem dX1_readTemperature_34 : decode cX1_readTemperature 34 = .ok (.bipush 45, 2) := by decide +kernel
theorem dX1_readTemperature_36 : decode cX1_readTemperature 36 = .ok (.if_icmp .ne 14, 3) := by decide +kernel
theorem dX1_readTemperature_39 : decode cX1_readTemperature 39 = .ok (.aload_n 0, 1) := by decide +kernel
theorem dX1_readTemperature_40 : decode cX1_readTemperature 40 = .ok (.iconst 3, 1) := by decide +kernel
theorem dX1_readTemperature_41 : decode cX1_readTemperature 41 = .ok (.iconst 0, 1) := by decide +kernel
theorem dX1_readTemperature_42 : decode cX1_readTemperature 42 = .ok (.sipush 300, 3) := by decide +kernel
theorem dX1_readTemperature_45 : decode cX1_readTemperature 45 = .ok (.invokevirtual 48, 3) := by decide +kernel
theorem dX1_readTemperature_48 : decode cX1_readTemperature 48 = .ok (.ineg, 1) := by decide +kernel
theorem dX1_readTemperature_49 : decode cX1_readTemperature 49 = .ok (.ireturn, 1) := by decide +kernel
theorem dX1_readTemperature_50 : decode cX1_readTemperature 50 = .ok (.aload_n 0, 1) := by decide +kernel
theorem dX1_readTemperature_51 : decode cX1_readTemperature 51 = .ok (.iconst 3, 1) := by decide +kernel
theorem dX1_readTemperature_52 : decode cX1_readTemperature 52 = .ok (.iconst 0, 1) := by decide +kernel
theorem dX1_readTemperature_53 : decode cX1_readTemperature 53 = .ok (.sipush 200, 3) := by decide +kernel
theorem dX1_readTemperature_56 : decode cX1_readTemperature 56 = .ok (.invokevirtual 48, 3) := by decide +kernel
theorem dX1_readTemperature_59 : decode cX1_readTemperature 59 = .ok (.ireturn, 1) := by decide +kernel
theorem dX1_readNumber_0 : decode cX1_readNumber 0 = .ok (.iconst 0, 1) := by decide +kernel
theorem dX1_readNumber_1 : decode cX1_readNumber 1 = .ok (.istore 4, 2) := by decide +kernel
theorem dX1_readNumber_3 : decode cX1_readNumber 3 = .ok (.iconst 1, 1) := by decide +kernel
theorem dX1_readNumber_4 : decode cX1_readNumber 4 = .ok (.istore 5, 2) := by decide +kernel
theorem dX1_readNumber_6 : decode cX1_readNumber 6 = .ok (.iload 5, 2) := by decide +kernel
theorem dX1_readNumber_8 : decode cX1_readNumber 8 = .ok (.iload_n 1, 1) := by decide +kernel
theorem dX1_readNumber_9 : decode cX1_readNumber 9 = .ok (.if_icmp .gt 85, 3) := by decide +kernel
theorem dX1_readNumber_12 : decode cX1_readNumber 12 = .ok (.aload_n 0, 1) := by decide +kernel
theorem dX1_readNumber_13 : decode cX1_readNumber 13 = .ok (.getfield 12, 3) := by decide +kernel
theorem dX1_readNumber_16 : decode cX1_readNumber 16 = .ok (.aload_n 0, 1) := by decide +kernel
theorem dX1_readNumber_17 : decode cX1_readNumber 17 = .ok (.getfield 29, 3) := by decide +kernel
theorem dX1_readNumber_20 : decode cX1_readNumber 20 = .ok (.invokevirtual 33, 3) := by decide +kernel
theorem dX1_readNumber_23 : decode cX1_readNumber 23 = .ok (.istore 6, 2) := by decide +kernel
theorem dX1_readNumber_25 : decode cX1_readNumber 25 = .ok (.iload 4, 2) := by decide +kernel
theorem dX1_readNumber_27 : decode cX1_readNumber 27 = .ok (.bipush 10, 2) := by decide +kernel
theorem dX1_readNumber_29 : decode cX1_readNumber 29 = .ok (.imul, 1) := by decide +kernel
theorem dX1_readNumber_30 : decode cX1_readNumber 30 = .ok (.iload 6, 2) := by decide +kernel
theorem dX1_readNumber_32 : decode cX1_readNumber 32 = .ok (.iadd, 1) := by decide +kernel
theorem dX1_readNumber_33 : decode cX1_readNumber 33 = .ok (.bipush 48, 2) := by decide +kernel
theorem dX1_readNumber_35 : decode cX1_readNumber 35 = .ok (.isub, 1) := by decide +kernel
theorem dX1_readNumber_36 : decode cX1_readNumber 36 = .ok (.istore 7, 2) := by decide +kernel
theorem dX1_readNumber_38 : decode cX1_readNumber 38 = .ok (.aload_n 0, 1) := by decide +kernel
theorem dX1_readNumber_39 : decode cX1_readNumber 39 = .ok (.iload 6, 2) := by decide +kernel
theorem dX1_readNumber_41 : decode cX1_readNumber 41 = .ok (.bipush 48, 2) := by decide +kernel
theorem dX1_readNumber_43 : decode cX1_readNumber 43 = .ok (.if_icmp .lt 28, 3) := by decide +kernel
theorem dX1_readNumber_46 : decode cX1_readNumber 46 = .ok (.iload 6, 2) := by decide +kernel
theorem dX1_readNumber_48 : decode cX1_readNumber 48 = .ok (.bipush 57, 2) := by decide +kernel
theorem dX1_readNumber_50 : decode cX1_readNumber 50 = .ok (.if_icmp .gt 21, 3) := by decide +kernel
theorem dX1_readNumber_53 : decode cX1_readNumber 53 = .ok (.iload 7, 2) := by decide +kernel
theorem dX1_readNumber_55 : decode cX1_readNumber 55 = .ok (.iload_n 1, 1) := by decide +kernel
theorem dX1_readNumber_56 : decode cX1_readNumber 56 = .ok (.iload 5, 2) := by decide +kernel
theorem dX1_readNumber_58 : decode cX1_readNumber 58 = .ok (.isub, 1) := by decide +kernel
theorem dX1_readNumber_59 : decode cX1_readNumber 59 = .ok (.iload_n 2, 1) := by decide +kernel
theorem dX1_readNumber_60 : decode cX1_readNumber 60 = .ok (.iload_n 3, 1) := by decide +kernel
theorem dX1_readNumber_61 : decode cX1_readNumber 61 = .ok (.invokestatic 65, 3) := by decide +kernel
theorem dX1_readNumber_64 : decode cX1_readNumber 64 = .ok (.ifCond .eq 7, 3) := by decide +kernel
theorem dX1_readNumber_67 : decode cX1_readNumber 67 = .ok (.iconst 1, 1) := by decide +kernel
theorem dX1_readNumber_68 : decode cX1_readNumber 68 = .ok (.goto 4, 3) := by decide +kernel
theorem dX1_readNumber_71 : decode cX1_readNumber 71 = .ok (.iconst 0, 1) := by decide +kernel
theorem dX1_readNumber_72 : decode cX1_readNumber 72 = .ok (.invokevirtual 37, 3) := by decide +kernel
theorem dX1_readNumber_75 : decode cX1_readNumber 75 = .ok (.aload_n 0, 1) := by decide +kernel
theorem dX1_readNumber_76 : decode cX1_readNumber 76 = .ok (.getfield 25, 3) := by decide +kernel
theorem dX1_readNumber_79 : decode cX1_readNumber 79 = .ok (.ifCond .eq 5, 3) := by decide +kernel
theorem dX1_readNumber_82 : decode cX1_readNumber 82 = .ok (.iconst 0, 1) := by decide +kernel
theorem dX1_readNumber_83 : decode cX1_readNumber 83 = .ok (.ireturn, 1) := by decide +kernel
theorem dX1_readNumber_84 : decode cX1_readNumber 84 = .ok (.iload 7, 2) := by decide +kernel
theorem dX1_readNumber_86 : decode cX1_readNumber 86 = .ok (.istore 4, 2) := by decide +kernel
theorem dX1_readNumber_88 : decode cX1_readNumber 88 = .ok (.iinc 5 1, 3) := by decide +kernel
theorem dX1_readNumber_91 : decode cX1_readNumber 91 = .ok (.goto (-85), 3) := by decide +kernel
theorem dX1_readNumber_94 : decode cX1_readNumber 94 = .ok (.iload 4, 2) := by decide +kernel
theorem dX1_readNumber_96 : decode cX1_readNumber 96 = .ok (.ireturn, 1) := by decide +kernel
theorem dX1_isBegun_0 : decode cX1_isBegun 0 = .ok (.iload_n 0, 1) := by decide +kernel
theorem dX1_isBegun_1 : decode cX1_isBegun 1 = .ok (.istore 4, 2) := by decide +kernel
theorem dX1_isBegun_3 : decode cX1_isBegun 3 = .ok (.iload_n 0, 1) := by decide +kernel
theorem dX1_isBegun_4 : decode cX1_isBegun 4 = .ok (.istore 5, 2) := by decide +kernel
theorem dX1_isBegun_6 : decode cX1_isBegun 6 = .ok (.iconst 0, 1) := by decide +kernel
theorem dX1_isBegun_7 : decode cX1_isBegun 7 = .ok (.istore 6, 2) := by decide +kernel
theorem dX1_isBegun_9 : decode cX1_isBegun 9 = .ok (.iload 6, 2) := by decide +kernel
theorem dX1_isBegun_11 : decode cX1_isBegun 11 = .ok (.iload_n 1, 1) := by decide +kernel
theorem dX1_isBegun_12 : decode cX1_isBegun 12 = .ok (.if_icmp .ge 26, 3) := by decide +kernel
theorem dX1_isBegun_15 : decode cX1_isBegun 15 = .ok (.iload 4, 2) := by decide +kernel
theorem dX1_isBegun_17 : decode cX1_isBegun 17 = .ok (.bipush 10, 2) := by decide +kernel
theorem dX1_isBegun_19 : decode cX1_isBegun 19 = .ok (.imul, 1) := by decide +kernel
theorem dX1_isBegun_20 : decode cX1_isBegun 20 = .ok (.istore 4, 2) := by decide +kernel
theorem dX1_isBegun_22 : decode cX1_isBegun 22 = .ok (.iload 5, 2) := by decide +kernel
theorem dX1_isBegun_24 : decode cX1_isBegun 24 = .ok (.bipush 10, 2) := by decide +kernel
theorem dX1_isBegun_26 : decode cX1_isBegun 26 = .ok (.imul, 1) := by decide +kernel
theorem dX1_isBegun_27 : decode cX1_isBegun 27 = .ok (.bipush 9, 2) := by decide +kernel
theorem dX1_isBegun_29 : decode cX1_isBegun 29 = .ok (.iadd, 1) := by decide +kernel
theorem dX1_isBegun_30 : decode cX1_isBegun 30 = .ok (.istore 5, 2) := by decide +kernel
theorem dX1_isBegun_32 : decode cX1_isBegun 32 = .ok (.iinc 6 1, 3) := by decide +kernel
theorem dX1_isBegun_35 : decode cX1_isBegun 35 = .ok (.goto (-26), 3) := by decide +kernel
theorem dX1_isBegun_38 : decode cX1_isBegun 38 = .ok (.iload 4, 2) := by decide +kernel
theorem dX1_isBegun_40 : decode cX1_isBegun 40 = .ok (.iload_n 3, 1) := by decide +kernel
theorem dX1_isBegun_41 : decode cX1_isBegun 41 = .ok (.if_icmp .gt 13, 3) := by decide +kernel
theorem dX1_isBegun_44 : decode cX1_isBegun 44 = .ok (.iload 5, 2) := by decide +kernel
theorem dX1_isBegun_46 : decode cX1_isBegun 46 = .ok (.iload_n 2, 1) := by decide +kernel
theorem dX1_isBegun_47 : decode cX1_isBegun 47 = .ok (.if_icmp .lt 7, 3) := by decide +kernel
theorem dX1_isBegun_50 : decode cX1_isBegun 50 = .ok (.iconst 1, 1) := by decide +kernel
theorem dX1_isBegun_51 : decode cX1_isBegun 51 = .ok (.goto 4, 3) := by decide +kernel
theorem dX1_isBegun_54 : decode cX1_isBegun 54 = .ok (.iconst 0, 1) := by decide +kernel
theorem dX1_isBegun_55 : decode cX1_isBegun 55 = .ok (.ireturn, 1) := by decide +kernel
theorem dX2_init_0 : decode cX2_init 0 = .ok (.aload_n 0, 1) := by decide +kernel
theorem dX2_init_1 : decode cX2_init 1 = .ok (.invokespecial 3, 3) := by decide +kernel
theorem dX2_init_4 : decode cX2_init 4 = .ok (.aload_n 0, 1) := by decide +kernel
theorem dX2_init_5 : decode cX2_init 5 = .ok (.iload_n 1, 1) := by decide +kernel
theorem dX2_init_6 : decode cX2_init 6 = .ok (.putfield 9, 3) := by decide +kernel
theorem dX2_init_9 : decode cX2_init 9 = .ok (.return_, 1) := by decide +kernel
theorem dX2_isThere_0 : decode cX2_isThere 0 = .ok (.aload_n 0, 1) := by decide +kernel
theorem dX2_isThere_1 : decode cX2_isThere 1 = .ok (.getfield 15, 3) := by decide +kernel
theorem dX2_isThere_4 : decode cX2_isThere 4 = .ok (.ifCond .le 7, 3) := by decide +kernel
theorem dX2_isThere_7 : decode cX2_isThere 7 = .ok (.iconst 1, 1) := by decide +kernel
theorem dX2_isThere_8 : decode cX2_isThere 8 = .ok (.goto 4, 3) := by decide +kernel
theorem dX2_isThere_11 : decode cX2_isThere 11 = .ok (.iconst 0, 1) := by decide +kernel
theorem dX2_isThere_12 : decode cX2_isThere 12 = .ok (.ireturn, 1) := by decide +kernel
theorem dX2_fill_0 : decode cX2_fill 0 = .ok (.aload_n 0, 1) := by decide +kernel
theorem dX2_fill_1 : decode cX2_fill 1 = .ok (.iload_n 1, 1) := by decide +kernel
theorem dX2_fill_2 : decode cX2_fill 2 = .ok (.putfield 15, 3) := by decide +kernel
theorem dX2_fill_5 : decode cX2_fill 5 = .ok (.aload_n 0, 1) := by decide +kernel
theorem dX2_fill_6 : decode cX2_fill 6 = .ok (.iload_n 2, 1) := by decide +kernel
theorem dX2_fill_7 : decode cX2_fill 7 = .ok (.putfield 18, 3) := by decide +kernel
theorem dX2_fill_10 : decode cX2_fill 10 = .ok (.aload_n 0, 1) := by decide +kernel
theorem dX2_fill_11 : decode cX2_fill 11 = .ok (.iload_n 3, 1) := by decide +kernel
theorem dX2_fill_12 : decode cX2_fill 12 = .ok (.putfield 21, 3) := by decide +kernel
theorem dX2_fill_15 : decode cX2_fill 15 = .ok (.aload_n 0, 1) := by decide +kernel
theorem dX2_fill_16 : decode cX2_fill 16 = .ok (.iload_n 2, 1) := by decide +kernel
theorem dX2_fill_17 : decode cX2_fill 17 = .ok (.putfield 24, 3) := by decide +kernel
theorem dX2_fill_20 : decode cX2_fill 20 = .ok (.aload_n 0, 1) := by decide +kernel
theorem dX2_fill_21 : decode cX2_fill 21 = .ok (.iconst 0, 1) := by decide +kernel
theorem dX2_fill_22 : decode cX2_fill 22 = .ok (.putfield 27, 3) := by decide +kernel
theorem dX2_fill_25 : decode cX2_fill 25 = .ok (.aload_n 0, 1) := by decide +kernel
theorem dX2_fill_26 : decode cX2_fill 26 = .ok (.iconst 0, 1) := by decide +kernel
theorem dX2_fill_27 : decode cX2_fill 27 = .ok (.putfield 31, 3) := by decide +kernel
theorem dX2_fill_30 : decode cX2_fill 30 = .ok (.aload_n 0, 1) := by decide +kernel
theorem dX2_fill_31 : decode cX2_fill 31 = .ok (.iconst 0, 1) := by decide +kernel
theorem dX2_fill_32 : decode cX2_fill 32 = .ok (.putfield 34, 3) := by decide +kernel
theorem dX2_fill_35 : decode cX2_fill 35 = .ok (.aload_n 0, 1) := by decide +kernel
theorem dX2_fill_36 : decode cX2_fill 36 = .ok (.iconst 0, 1) := by decide +kernel
theorem dX2_fill_37 : decode cX2_fill 37 = .ok (.putfield 37, 3) := by decide +kernel
theorem dX2_fill_40 : decode cX2_fill 40 = .ok (.return_, 1) := by decide +kernel
theorem dX2_copyFrom_0 : decode cX2_copyFrom 0 = .ok (.aload_n 0, 1) := by decide +kernel
theorem dX2_copyFrom_1 : decode cX2_copyFrom 1 = .ok (.aload_n 1, 1) := by decide +kernel
theorem dX2_copyFrom_2 : decode cX2_copyFrom 2 = .ok (.getfield 15, 3) := by decide +kernel
theorem dX2_copyFrom_5 : decode cX2_copyFrom 5 = .ok (.putfield 15, 3) := by decide +kernel
theorem dX2_copyFrom_8 : decode cX2_copyFrom 8 = .ok (.aload_n 0, 1) := by decide +kernel
theorem dX2_copyFrom_9 : decode cX2_copyFrom 9 = .ok (.aload_n 1, 1) := by decide +kernel
theorem dX2_copyFrom_10 : decode cX2_copyFrom 10 = .ok (.getfield 18, 3) := by decide +kernel
theorem dX2_copyFrom_13 : decode cX2_copyFrom 13 = .ok (.putfield 18, 3) := by decide +kernel
theorem dX2_copyFrom_16 : decode cX2_copyFrom 16 = .ok (.aload_n 0, 1) := by decide +kernel
theorem dX2_copyFrom_17 : decode cX2_copyFrom 17 = .ok (.aload_n 1, 1) := by decide +kernel
theorem dX2_copyFrom_18 : decode cX2_copyFrom 18 = .ok (.getfield 21, 3) := by decide +kernel
theorem dX2_copyFrom_21 : decode cX2_copyFrom 21 = .ok (.putfield 21, 3) := by decide +kernel
theorem dX2_copyFrom_24 : decode cX2_copyFrom 24 = .ok (.aload_n 0, 1) := by decide +kernel
theorem dX2_copyFrom_25 : decode cX2_copyFrom 25 = .ok (.aload_n 1, 1) := by decide +kernel
theorem dX2_copyFrom_26 : decode cX2_copyFrom 26 = .ok (.getfield 24, 3) := by decide +kernel
theorem dX2_copyFrom_29 : decode cX2_copyFrom 29 = .ok (.putfield 24, 3) := by decide +kernel
theorem dX2_copyFrom_32 : decode cX2_copyFrom 32 = .ok (.aload_n 0, 1) := by decide +kernel
theorem dX2_copyFrom_33 : decode cX2_copyFrom 33 = .ok (.aload_n 1, 1) := by decide +kernel
theorem dX2_copyFrom_34 : decode cX2_copyFrom 34 = .ok (.getfield 27, 3) := by decide +kernel
theorem dX2_copyFrom_37 : decode cX2_copyFrom 37 = .ok (.putfield 27, 3) := by decide +kernel
theorem dX2_copyFrom_40 : decode cX2_copyFrom 40 = .ok (.aload_n 0, 1) := by decide +kernel
theorem dX2_copyFrom_41 : decode cX2_copyFrom 41 = .ok (.aload_n 1, 1) := by decide +kernel
theorem dX2_copyFrom_42 : decode cX2_copyFrom 42 = .ok (.getfield 31, 3) := by decide +kernel
theorem dX2_copyFrom_45 : decode cX2_copyFrom 45 = .ok (.putfield 31, 3) := by decide +kernel
theorem dX2_copyFrom_48 : decode cX2_copyFrom 48 = .ok (.aload_n 0, 1) := by decide +kernel
theorem dX2_copyFrom_49 : decode cX2_copyFrom 49 = .ok (.aload_n 1, 1) := by decide +kernel
theorem dX2_copyFrom_50 : decode cX2_copyFrom 50 = .ok (.getfield 34, 3) := by decide +kernel
theorem dX2_copyFrom_53 : decode cX2_copyFrom 53 = .ok (.putfield 34, 3) := by decide +kernel
theorem dX2_copyFrom_56 : decode cX2_copyFrom 56 = .ok (.aload_n 0, 1) := by decide +kernel
theorem dX2_copyFrom_57 : decode cX2_copyFrom 57 = .ok (.aload_n 1, 1) := by decide +kernel
theorem dX2_copyFrom_58 : decode cX2_copyFrom 58 = .ok (.getfield 37, 3) := by decide +kernel
theorem dX2_copyFrom_61 : decode cX2_copyFrom 61 = .ok (.putfield 37, 3) := by decide +kernel
theorem dX2_copyFrom_64 : decode cX2_copyFrom 64 = .ok (.return_, 1) := by decide +kernel
theorem dX2_property_0 : decode cX2_property 0 = .ok (.iload_n 1, 1) := by decide +kernel
theorem dX2_property_1 : decode cX2_property 1 = .ok (.tableswitch 86 0 6 #[43, 48, 53, 58, 63, 76, 81], 43) := by decide +kernel
theorem dX2_property_44 : decode cX2_property 44 = .ok (.aload_n 0, 1) := by decide +kernel
theorem dX2_property_45 : decode cX2_property 45 = .ok (.getfield 15, 3) := by decide +kernel
theorem dX2_property_48 : decode cX2_property 48 = .ok (.ireturn, 1) := by decide +kernel
theorem dX2_property_49 : decode cX2_property 49 = .ok (.aload_n 0, 1) := by decide +kernel
theorem dX2_property_50 : decode cX2_property 50 = .ok (.getfield 18, 3) := by decide +kernel
theorem dX2_property_53 : decode cX2_property 53 = .ok (.ireturn, 1) := by decide +kernel
theorem dX2_property_54 : decode cX2_property 54 = .ok (.aload_n 0, 1) := by decide +kernel
theorem dX2_property_55 : decode cX2_property 55 = .ok (.getfield 21, 3) := by decide +kernel
theorem dX2_property_58 : decode cX2_property 58 = .ok (.ireturn, 1) := by decide +kernel
theorem dX2_property_59 : decode cX2_property 59 = .ok (.aload_n 0, 1) := by decide +kernel
theorem dX2_property_60 : decode cX2_property 60 = .ok (.getfield 24, 3) := by decide +kernel
theorem dX2_property_63 : decode cX2_property 63 = .ok (.ireturn, 1) := by decide +kernel
theorem dX2_property_64 : decode cX2_property 64 = .ok (.aload_n 0, 1) := by decide +kernel
theorem dX2_property_65 : decode cX2_property 65 = .ok (.getfield 27, 3) := by decide +kernel
theorem dX2_property_68 : decode cX2_property 68 = .ok (.ifCond .eq 7, 3) := by decide +kernel
theorem dX2_property_71 : decode cX2_property 71 = .ok (.iconst 1, 1) := by decide +kernel
theorem dX2_property_72 : decode cX2_property 72 = .ok (.goto 4, 3) := by decide +kernel
theorem dX2_property_75 : decode cX2_property 75 = .ok (.iconst 0, 1) := by decide +kernel
theorem dX2_property_76 : decode cX2_property 76 = .ok (.ireturn, 1) := by decide +kernel
theorem dX2_property_77 : decode cX2_property 77 = .ok (.aload_n 0, 1) := by decide +kernel
theorem dX2_property_78 : decode cX2_property 78 = .ok (.getfield 31, 3) := by decide +kernel
theorem dX2_property_81 : decode cX2_property 81 = .ok (.ireturn, 1) := by decide +kernel
theorem dX2_property_82 : decode cX2_property 82 = .ok (.aload_n 0, 1) := by decide +kernel
theorem dX2_property_83 : decode cX2_property 83 = .ok (.getfield 34, 3) := by decide +kernel
theorem dX2_property_86 : decode cX2_property 86 = .ok (.ireturn, 1) := by decide +kernel
theorem dX2_property_87 : decode cX2_property 87 = .ok (.aload_n 0, 1) := by decide +kernel
theorem dX2_property_88 : decode cX2_property 88 = .ok (.getfield 37, 3) := by decide +kernel
theorem dX2_property_91 : decode cX2_property 91 = .ok (.ireturn, 1) := by decide +kernel
theorem dX2_warmth_0 : decode cX2_warmth 0 = .ok (.aload_n 0, 1) := by decide +kernel
theorem dX2_warmth_1 : decode cX2_warmth 1 = .ok (.getfield 24, 3) := by decide +kernel
theorem dX2_warmth_4 : decode cX2_warmth 4 = .ok (.aload_n 0, 1) := by decide +kernel
theorem dX2_warmth_5 : decode cX2_warmth 5 = .ok (.getfield 21, 3) := by decide +kernel
theorem dX2_warmth_8 : decode cX2_warmth 8 = .ok (.isub, 1) := by decide +kernel
theorem dX2_warmth_9 : decode cX2_warmth 9 = .ok (.ireturn, 1) := by decide +kernel
theorem dX2_isWarm_0 : decode cX2_isWarm 0 = .ok (.aload_n 0, 1) := by decide +kernel
theorem dX2_isWarm_1 : decode cX2_isWarm 1 = .ok (.getfield 24, 3) := by decide +kernel
theorem dX2_isWarm_4 : decode cX2_isWarm 4 = .ok (.aload_n 0, 1) := by decide +kernel
theorem dX2_isWarm_5 : decode cX2_isWarm 5 = .ok (.getfield 21, 3) := by decide +kernel
theorem dX2_isWarm_8 : decode cX2_isWarm 8 = .ok (.if_icmp .lt 7, 3) := by decide +kernel
theorem dX2_isWarm_11 : decode cX2_isWarm 11 = .ok (.iconst 1, 1) := by decide +kernel
theorem dX2_isWarm_12 : decode cX2_isWarm 12 = .ok (.goto 4, 3) := by decide +kernel
theorem dX2_isWarm_15 : decode cX2_isWarm 15 = .ok (.iconst 0, 1) := by decide +kernel
theorem dX2_isWarm_16 : decode cX2_isWarm 16 = .ok (.ireturn, 1) := by decide +kernel
theorem dX2_planMust_0 : decode cX2_planMust 0 = .ok (.aload_n 0, 1) := by decide +kernel
theorem dX2_planMust_1 : decode cX2_planMust 1 = .ok (.getfield 15, 3) := by decide +kernel
theorem dX2_planMust_4 : decode cX2_planMust 4 = .ok (.ifCond .ne 6, 3) := by decide +kernel
theorem dX2_planMust_7 : decode cX2_planMust 7 = .ok (.bipush 8, 2) := by decide +kernel
theorem dX2_planMust_9 : decode cX2_planMust 9 = .ok (.ireturn, 1) := by decide +kernel
theorem dX2_planMust_10 : decode cX2_planMust 10 = .ok (.aload_n 0, 1) := by decide +kernel
theorem dX2_planMust_11 : decode cX2_planMust 11 = .ok (.getfield 34, 3) := by decide +kernel
theorem dX2_planMust_14 : decode cX2_planMust 14 = .ok (.ifCond .le 5, 3) := by decide +kernel
theorem dX2_planMust_17 : decode cX2_planMust 17 = .ok (.iconst 0, 1) := by decide +kernel
theorem dX2_planMust_18 : decode cX2_planMust 18 = .ok (.ireturn, 1) := by decide +kernel
theorem dX2_planMust_19 : decode cX2_planMust 19 = .ok (.aload_n 0, 1) := by decide +kernel
theorem dX2_planMust_20 : decode cX2_planMust 20 = .ok (.getfield 24, 3) := by decide +kernel
theorem dX2_planMust_23 : decode cX2_planMust 23 = .ok (.aload_n 0, 1) := by decide +kernel
theorem dX2_planMust_24 : decode cX2_planMust 24 = .ok (.getfield 21, 3) := by decide +kernel
theorem dX2_planMust_27 : decode cX2_planMust 27 = .ok (.if_icmp .lt 5, 3) := by decide +kernel
theorem dX2_planMust_30 : decode cX2_planMust 30 = .ok (.iconst 1, 1) := by decide +kernel
theorem dX2_planMust_31 : decode cX2_planMust 31 = .ok (.ireturn, 1) := by decide +kernel
theorem dX2_planMust_32 : decode cX2_planMust 32 = .ok (.aload_n 0, 1) := by decide +kernel
theorem dX2_planMust_33 : decode cX2_planMust 33 = .ok (.getfield 31, 3) := by decide +kernel
theorem dX2_planMust_36 : decode cX2_planMust 36 = .ok (.bipush 100, 2) := by decide +kernel
theorem dX2_planMust_38 : decode cX2_planMust 38 = .ok (.if_icmp .lt 7, 3) := by decide +kernel
theorem dX2_planMust_41 : decode cX2_planMust 41 = .ok (.iconst 2, 1) := by decide +kernel
theorem dX2_planMust_42 : decode cX2_planMust 42 = .ok (.goto 5, 3) := by decide +kernel
theorem dX2_planMust_45 : decode cX2_planMust 45 = .ok (.bipush 7, 2) := by decide +kernel
theorem dX2_planMust_47 : decode cX2_planMust 47 = .ok (.ireturn, 1) := by decide +kernel
theorem dX2_isHeated_0 : decode cX2_isHeated 0 = .ok (.aload_n 0, 1) := by decide +kernel
theorem dX2_isHeated_1 : decode cX2_isHeated 1 = .ok (.getfield 40, 3) := by decide +kernel
theorem dX2_isHeated_4 : decode cX2_isHeated 4 = .ok (.ifCond .eq 19, 3) := by decide +kernel
theorem dX2_isHeated_7 : decode cX2_isHeated 7 = .ok (.aload_n 0, 1) := by decide +kernel
theorem dX2_isHeated_8 : decode cX2_isHeated 8 = .ok (.getfield 40, 3) := by decide +kernel
theorem dX2_isHeated_11 : decode cX2_isHeated 11 = .ok (.iconst 2, 1) := by decide +kernel
theorem dX2_isHeated_12 : decode cX2_isHeated 12 = .ok (.if_icmp .eq 11, 3) := by decide +kernel
theorem dX2_isHeated_15 : decode cX2_isHeated 15 = .ok (.aload_n 0, 1) := by decide +kernel
theorem dX2_isHeated_16 : decode cX2_isHeated 16 = .ok (.getfield 40, 3) := by decide +kernel
theorem dX2_isHeated_19 : decode cX2_isHeated 19 = .ok (.iconst 5, 1) := by decide +kernel
theorem dX2_isHeated_20 : decode cX2_isHeated 20 = .ok (.if_icmp .ne 7, 3) := by decide +kernel
theorem dX2_isHeated_23 : decode cX2_isHeated 23 = .ok (.iconst 1, 1) := by decide +kernel
theorem dX2_isHeated_24 : decode cX2_isHeated 24 = .ok (.goto 4, 3) := by decide +kernel
theorem dX2_isHeated_27 : decode cX2_isHeated 27 = .ok (.iconst 0, 1) := by decide +kernel
theorem dX2_isHeated_28 : decode cX2_isHeated 28 = .ok (.ireturn, 1) := by decide +kernel
theorem dX2_isCooled_0 : decode cX2_isCooled 0 = .ok (.aload_n 0, 1) := by decide +kernel
theorem dX2_isCooled_1 : decode cX2_isCooled 1 = .ok (.getfield 40, 3) := by decide +kernel
theorem dX2_isCooled_4 : decode cX2_isCooled 4 = .ok (.iconst 1, 1) := by decide +kernel
theorem dX2_isCooled_5 : decode cX2_isCooled 5 = .ok (.if_icmp .eq 11, 3) := by decide +kernel
theorem dX2_isCooled_8 : decode cX2_isCooled 8 = .ok (.aload_n 0, 1) := by decide +kernel
theorem dX2_isCooled_9 : decode cX2_isCooled 9 = .ok (.getfield 40, 3) := by decide +kernel
theorem dX2_isCooled_12 : decode cX2_isCooled 12 = .ok (.iconst 3, 1) := by decide +kernel
theorem dX2_isCooled_13 : decode cX2_isCooled 13 = .ok (.if_icmp .ne 7, 3) := by decide +kernel
theorem dX2_isCooled_16 : decode cX2_isCooled 16 = .ok (.iconst 1, 1) := by decide +kernel
theorem dX2_isCooled_17 : decode cX2_isCooled 17 = .ok (.goto 4, 3) := by decide +kernel
theorem dX2_isCooled_20 : decode cX2_isCooled 20 = .ok (.iconst 0, 1) := by decide +kernel
theorem dX2_isCooled_21 : decode cX2_isCooled 21 = .ok (.ireturn, 1) := by decide +kernel
theorem dX2_changeTemperature_0 : decode cX2_changeTemperature 0 = .ok (.iconst 1, 1) := by decide +kernel
theorem dX2_changeTemperature_1 : decode cX2_changeTemperature 1 = .ok (.istore_n 1, 1) := by decide +kernel
theorem dX2_changeTemperature_2 : decode cX2_changeTemperature 2 = .ok (.aload_n 0, 1) := by decide +kernel
theorem dX2_changeTemperature_3 : decode cX2_changeTemperature 3 = .ok (.invokevirtual 43, 3) := by decide +kernel
theorem dX2_changeTemperature_6 : decode cX2_changeTemperature 6 = .ok (.ifCond .eq 9, 3) := by decide +kernel
theorem dX2_changeTemperature_9 : decode cX2_changeTemperature 9 = .ok (.bipush 6, 2) := by decide +kernel
theorem dX2_changeTemperature_11 : decode cX2_changeTemperature 11 = .ok (.istore_n 1, 1) := by decide +kernel
theorem dX2_changeTemperature_12 : decode cX2_changeTemperature 12 = .ok (.goto 22, 3) := by decide +kernel
theorem dX2_changeTemperature_15 : decode cX2_changeTemperature 15 = .ok (.aload_n 0, 1) := by decide +kernel
theorem dX2_changeTemperature_16 : decode cX2_changeTemperature 16 = .ok (.invokevirtual 47, 3) := by decide +kernel
theorem dX2_changeTemperature_19 : decode cX2_changeTemperature 19 = .ok (.ifCond .eq 15, 3) := by decide +kernel
theorem dX2_changeTemperature_22 : decode cX2_changeTemperature 22 = .ok (.bipush 8, 2) := by decide +kernel
theorem dX2_changeTemperature_24 : decode cX2_changeTemperature 24 = .ok (.aload_n 0, 1) := by decide +kernel
theorem dX2_changeTemperature_25 : decode cX2_changeTemperature 25 = .ok (.getfield 31, 3) := by decide +kernel
theorem dX2_changeTemperature_28 : decode cX2_changeTemperature 28 = .ok (.bipush 20, 2) := by decide +kernel
theorem dX2_changeTemperature_30 : decode cX2_changeTemperature 30 = .ok (.idiv, 1) := by decide +kernel
theorem dX2_changeTemperature_31 : decode cX2_changeTemperature 31 = .ok (.isub, 1) := by decide +kernel
theorem dX2_changeTemperature_32 : decode cX2_changeTemperature 32 = .ok (.ineg, 1) := by decide +kernel
theorem dX2_changeTemperature_33 : decode cX2_changeTemperature 33 = .ok (.istore_n 1, 1) := by decide +kernel
theorem dX2_changeTemperature_34 : decode cX2_changeTemperature 34 = .ok (.aload_n 0, 1) := by decide +kernel
theorem dX2_changeTemperature_35 : decode cX2_changeTemperature 35 = .ok (.getfield 27, 3) := by decide +kernel
theorem dX2_changeTemperature_38 : decode cX2_changeTemperature 38 = .ok (.ifCond .eq 6, 3) := by decide +kernel
theorem dX2_changeTemperature_41 : decode cX2_changeTemperature 41 = .ok (.iinc 1 4, 3) := by decide +kernel
theorem dX2_changeTemperature_44 : decode cX2_changeTemperature 44 = .ok (.aload_n 0, 1) := by decide +kernel
theorem dX2_changeTemperature_45 : decode cX2_changeTemperature 45 = .ok (.sipush (-400), 3) := by decide +kernel
theorem dX2_changeTemperature_48 : decode cX2_changeTemperature 48 = .ok (.sipush 400, 3) := by decide +kernel
theorem dX2_changeTemperature_51 : decode cX2_changeTemperature 51 = .ok (.aload_n 0, 1) := by decide +kernel
theorem dX2_changeTemperature_52 : decode cX2_changeTemperature 52 = .ok (.getfield 24, 3) := by decide +kernel
theorem dX2_changeTemperature_55 : decode cX2_changeTemperature 55 = .ok (.iload_n 1, 1) := by decide +kernel
theorem dX2_changeTemperature_56 : decode cX2_changeTemperature 56 = .ok (.iadd, 1) := by decide +kernel
theorem dX2_changeTemperature_57 : decode cX2_changeTemperature 57 = .ok (.invokestatic 50, 3) := by decide +kernel
theorem dX2_changeTemperature_60 : decode cX2_changeTemperature 60 = .ok (.invokestatic 56, 3) := by decide +kernel
theorem dX2_changeTemperature_63 : decode cX2_changeTemperature 63 = .ok (.putfield 24, 3) := by decide +kernel
theorem dX2_changeTemperature_66 : decode cX2_changeTemperature 66 = .ok (.return_, 1) := by decide +kernel
theorem dX2_changeFrost_0 : decode cX2_changeFrost 0 = .ok (.aload_n 0, 1) := by decide +kernel
theorem dX2_changeFrost_1 : decode cX2_changeFrost 1 = .ok (.invokevirtual 43, 3) := by decide +kernel
theorem dX2_changeFrost_4 : decode cX2_changeFrost 4 = .ok (.ifCond .eq 40, 3) := by decide +kernel
theorem dX2_changeFrost_7 : decode cX2_changeFrost 7 = .ok (.aload_n 0, 1) := by decide +kernel
theorem dX2_changeFrost_8 : decode cX2_changeFrost 8 = .ok (.iconst 0, 1) := by decide +kernel
theorem dX2_changeFrost_9 : decode cX2_changeFrost 9 = .ok (.aload_n 0, 1) := by decide +kernel
theorem dX2_changeFrost_10 : decode cX2_changeFrost 10 = .ok (.getfield 31, 3) := by decide +kernel
theorem dX2_changeFrost_13 : decode cX2_changeFrost 13 = .ok (.bipush 10, 2) := by decide +kernel
theorem dX2_changeFrost_15 : decode cX2_changeFrost 15 = .ok (.isub, 1) := by decide +kernel
theorem dX2_changeFrost_16 : decode cX2_changeFrost 16 = .ok (.invokestatic 56, 3) := by decide +kernel
theorem dX2_changeFrost_19 : decode cX2_changeFrost 19 = .ok (.putfield 31, 3) := by decide +kernel
theorem dX2_changeFrost_22 : decode cX2_changeFrost 22 = .ok (.aload_n 0, 1) := by decide +kernel
theorem dX2_changeFrost_23 : decode cX2_changeFrost 23 = .ok (.aload_n 0, 1) := by decide +kernel
theorem dX2_changeFrost_24 : decode cX2_changeFrost 24 = .ok (.getfield 31, 3) := by decide +kernel
theorem dX2_changeFrost_27 : decode cX2_changeFrost 27 = .ok (.ifCond .ne 7, 3) := by decide +kernel
theorem dX2_changeFrost_30 : decode cX2_changeFrost 30 = .ok (.iconst 0, 1) := by decide +kernel
theorem dX2_changeFrost_31 : decode cX2_changeFrost 31 = .ok (.goto 9, 3) := by decide +kernel
theorem dX2_changeFrost_34 : decode cX2_changeFrost 34 = .ok (.aload_n 0, 1) := by decide +kernel
theorem dX2_changeFrost_35 : decode cX2_changeFrost 35 = .ok (.getfield 34, 3) := by decide +kernel
theorem dX2_changeFrost_38 : decode cX2_changeFrost 38 = .ok (.iconst 1, 1) := by decide +kernel
theorem dX2_changeFrost_39 : decode cX2_changeFrost 39 = .ok (.isub, 1) := by decide +kernel
theorem dX2_changeFrost_40 : decode cX2_changeFrost 40 = .ok (.putfield 34, 3) := by decide +kernel
theorem dX2_changeFrost_43 : decode cX2_changeFrost 43 = .ok (.return_, 1) := by decide +kernel
theorem dX2_changeFrost_44 : decode cX2_changeFrost 44 = .ok (.aload_n 0, 1) := by decide +kernel
theorem dX2_changeFrost_45 : decode cX2_changeFrost 45 = .ok (.invokevirtual 47, 3) := by decide +kernel
theorem dX2_changeFrost_48 : decode cX2_changeFrost 48 = .ok (.ifCond .eq 7, 3) := by decide +kernel
theorem dX2_changeFrost_51 : decode cX2_changeFrost 51 = .ok (.iconst 1, 1) := by decide +kernel
theorem dX2_changeFrost_52 : decode cX2_changeFrost 52 = .ok (.goto 4, 3) := by decide +kernel
theorem dX2_changeFrost_55 : decode cX2_changeFrost 55 = .ok (.iconst 0, 1) := by decide +kernel
theorem dX2_changeFrost_56 : decode cX2_changeFrost 56 = .ok (.aload_n 0, 1) := by decide +kernel
theorem dX2_changeFrost_57 : decode cX2_changeFrost 57 = .ok (.getfield 27, 3) := by decide +kernel
theorem dX2_changeFrost_60 : decode cX2_changeFrost 60 = .ok (.ifCond .eq 7, 3) := by decide +kernel
theorem dX2_changeFrost_63 : decode cX2_changeFrost 63 = .ok (.iconst 2, 1) := by decide +kernel
theorem dX2_changeFrost_64 : decode cX2_changeFrost 64 = .ok (.goto 4, 3) := by decide +kernel
theorem dX2_changeFrost_67 : decode cX2_changeFrost 67 = .ok (.iconst 0, 1) := by decide +kernel
theorem dX2_changeFrost_68 : decode cX2_changeFrost 68 = .ok (.iadd, 1) := by decide +kernel
theorem dX2_changeFrost_69 : decode cX2_changeFrost 69 = .ok (.istore_n 1, 1) := by decide +kernel
theorem dX2_changeFrost_70 : decode cX2_changeFrost 70 = .ok (.aload_n 0, 1) := by decide +kernel
theorem dX2_changeFrost_71 : decode cX2_changeFrost 71 = .ok (.bipush 100, 2) := by decide +kernel
theorem dX2_changeFrost_73 : decode cX2_changeFrost 73 = .ok (.aload_n 0, 1) := by decide +kernel
theorem dX2_changeFrost_74 : decode cX2_changeFrost 74 = .ok (.getfield 31, 3) := by decide +kernel
theorem dX2_changeFrost_77 : decode cX2_changeFrost 77 = .ok (.iload_n 1, 1) := by decide +kernel
theorem dX2_changeFrost_78 : decode cX2_changeFrost 78 = .ok (.iadd, 1) := by decide +kernel
theorem dX2_changeFrost_79 : decode cX2_changeFrost 79 = .ok (.invokestatic 50, 3) := by decide +kernel
theorem dX2_changeFrost_82 : decode cX2_changeFrost 82 = .ok (.putfield 31, 3) := by decide +kernel
theorem dX2_changeFrost_85 : decode cX2_changeFrost 85 = .ok (.return_, 1) := by decide +kernel
theorem dX3_init_0 : decode cX3_init 0 = .ok (.aload_n 0, 1) := by decide +kernel
theorem dX3_init_1 : decode cX3_init 1 = .ok (.invokespecial 1, 3) := by decide +kernel
theorem dX3_init_4 : decode cX3_init 4 = .ok (.aload_n 0, 1) := by decide +kernel
theorem dX3_init_5 : decode cX3_init 5 = .ok (.sipush 600, 3) := by decide +kernel
theorem dX3_init_8 : decode cX3_init 8 = .ok (.putfield 7, 3) := by decide +kernel
theorem dX3_init_11 : decode cX3_init 11 = .ok (.aload_n 0, 1) := by decide +kernel
theorem dX3_init_12 : decode cX3_init 12 = .ok (.iconst 0, 1) := by decide +kernel
theorem dX3_init_13 : decode cX3_init 13 = .ok (.putfield 13, 3) := by decide +kernel
theorem dX3_init_16 : decode cX3_init 16 = .ok (.aload_n 0, 1) := by decide +kernel
theorem dX3_init_17 : decode cX3_init 17 = .ok (.bipush 10, 2) := by decide +kernel
theorem dX3_init_19 : decode cX3_init 19 = .ok (.putfield 16, 3) := by decide +kernel
theorem dX3_init_22 : decode cX3_init 22 = .ok (.aload_n 0, 1) := by decide +kernel
theorem dX3_init_23 : decode cX3_init 23 = .ok (.bipush 12, 2) := by decide +kernel
theorem dX3_init_25 : decode cX3_init 25 = .ok (.putfield 19, 3) := by decide +kernel
theorem dX3_init_28 : decode cX3_init 28 = .ok (.aload_n 0, 1) := by decide +kernel
theorem dX3_init_29 : decode cX3_init 29 = .ok (.bipush 30, 2) := by decide +kernel
theorem dX3_init_31 : decode cX3_init 31 = .ok (.putfield 22, 3) := by decide +kernel
theorem dX3_init_34 : decode cX3_init 34 = .ok (.aload_n 0, 1) := by decide +kernel
theorem dX3_init_35 : decode cX3_init 35 = .ok (.bipush 6, 2) := by decide +kernel
theorem dX3_init_37 : decode cX3_init 37 = .ok (.putfield 25, 3) := by decide +kernel
theorem dX3_init_40 : decode cX3_init 40 = .ok (.return_, 1) := by decide +kernel
theorem dX3_copyFrom_0 : decode cX3_copyFrom 0 = .ok (.aload_n 0, 1) := by decide +kernel
theorem dX3_copyFrom_1 : decode cX3_copyFrom 1 = .ok (.aload_n 1, 1) := by decide +kernel
theorem dX3_copyFrom_2 : decode cX3_copyFrom 2 = .ok (.getfield 7, 3) := by decide +kernel
theorem dX3_copyFrom_5 : decode cX3_copyFrom 5 = .ok (.putfield 7, 3) := by decide +kernel
theorem dX3_copyFrom_8 : decode cX3_copyFrom 8 = .ok (.aload_n 0, 1) := by decide +kernel
theorem dX3_copyFrom_9 : decode cX3_copyFrom 9 = .ok (.aload_n 1, 1) := by decide +kernel
theorem dX3_copyFrom_10 : decode cX3_copyFrom 10 = .ok (.getfield 13, 3) := by decide +kernel
theorem dX3_copyFrom_13 : decode cX3_copyFrom 13 = .ok (.putfield 13, 3) := by decide +kernel
theorem dX3_copyFrom_16 : decode cX3_copyFrom 16 = .ok (.aload_n 0, 1) := by decide +kernel
theorem dX3_copyFrom_17 : decode cX3_copyFrom 17 = .ok (.aload_n 1, 1) := by decide +kernel
theorem dX3_copyFrom_18 : decode cX3_copyFrom 18 = .ok (.getfield 16, 3) := by decide +kernel
theorem dX3_copyFrom_21 : decode cX3_copyFrom 21 = .ok (.putfield 16, 3) := by decide +kernel
theorem dX3_copyFrom_24 : decode cX3_copyFrom 24 = .ok (.aload_n 0, 1) := by decide +kernel
theorem dX3_copyFrom_25 : decode cX3_copyFrom 25 = .ok (.aload_n 1, 1) := by decide +kernel
theorem dX3_copyFrom_26 : decode cX3_copyFrom 26 = .ok (.getfield 19, 3) := by decide +kernel
theorem dX3_copyFrom_29 : decode cX3_copyFrom 29 = .ok (.putfield 19, 3) := by decide +kernel
theorem dX3_copyFrom_32 : decode cX3_copyFrom 32 = .ok (.aload_n 0, 1) := by decide +kernel
theorem dX3_copyFrom_33 : decode cX3_copyFrom 33 = .ok (.aload_n 1, 1) := by decide +kernel
theorem dX3_copyFrom_34 : decode cX3_copyFrom 34 = .ok (.getfield 22, 3) := by decide +kernel
theorem dX3_copyFrom_37 : decode cX3_copyFrom 37 = .ok (.putfield 22, 3) := by decide +kernel
theorem dX3_copyFrom_40 : decode cX3_copyFrom 40 = .ok (.aload_n 0, 1) := by decide +kernel
theorem dX3_copyFrom_41 : decode cX3_copyFrom 41 = .ok (.aload_n 1, 1) := by decide +kernel
theorem dX3_copyFrom_42 : decode cX3_copyFrom 42 = .ok (.getfield 25, 3) := by decide +kernel
theorem dX3_copyFrom_45 : decode cX3_copyFrom 45 = .ok (.putfield 25, 3) := by decide +kernel
theorem dX3_copyFrom_48 : decode cX3_copyFrom 48 = .ok (.return_, 1) := by decide +kernel
theorem dX3_isSetting_0 : decode cX3_isSetting 0 = .ok (.iload_n 0, 1) := by decide +kernel
theorem dX3_isSetting_1 : decode cX3_isSetting 1 = .ok (.ifCond .lt 23, 3) := by decide +kernel
theorem dX3_isSetting_4 : decode cX3_isSetting 4 = .ok (.iload_n 0, 1) := by decide +kernel
theorem dX3_isSetting_5 : decode cX3_isSetting 5 = .ok (.getstatic 28, 3) := by decide +kernel
theorem dX3_isSetting_8 : decode cX3_isSetting 8 = .ok (.arraylength, 1) := by decide +kernel
theorem dX3_isSetting_9 : decode cX3_isSetting 9 = .ok (.if_icmp .ge 15, 3) := by decide +kernel
theorem dX3_isSetting_12 : decode cX3_isSetting 12 = .ok (.iload_n 0, 1) := by decide +kernel
theorem dX3_isSetting_13 : decode cX3_isSetting 13 = .ok (.getstatic 34, 3) := by decide +kernel
theorem dX3_isSetting_16 : decode cX3_isSetting 16 = .ok (.arraylength, 1) := by decide +kernel
theorem dX3_isSetting_17 : decode cX3_isSetting 17 = .ok (.if_icmp .ge 7, 3) := by decide +kernel
theorem dX3_isSetting_20 : decode cX3_isSetting 20 = .ok (.iconst 1, 1) := by decide +kernel
theorem dX3_isSetting_21 : decode cX3_isSetting 21 = .ok (.goto 4, 3) := by decide +kernel
theorem dX3_isSetting_24 : decode cX3_isSetting 24 = .ok (.iconst 0, 1) := by decide +kernel
theorem dX3_isSetting_25 : decode cX3_isSetting 25 = .ok (.ireturn, 1) := by decide +kernel
theorem dX3_isAllowed_0 : decode cX3_isAllowed 0 = .ok (.iload_n 0, 1) := by decide +kernel
theorem dX3_isAllowed_1 : decode cX3_isAllowed 1 = .ok (.invokestatic 37, 3) := by decide +kernel
theorem dX3_isAllowed_4 : decode cX3_isAllowed 4 = .ok (.ifCond .eq 25, 3) := by decide +kernel
theorem dX3_isAllowed_7 : decode cX3_isAllowed 7 = .ok (.iload_n 1, 1) := by decide +kernel
theorem dX3_isAllowed_8 : decode cX3_isAllowed 8 = .ok (.getstatic 28, 3) := by decide +kernel
theorem dX3_isAllowed_11 : decode cX3_isAllowed 11 = .ok (.iload_n 0, 1) := by decide +kernel
theorem dX3_isAllowed_12 : decode cX3_isAllowed 12 = .ok (.iaload, 1) := by decide +kernel
theorem dX3_isAllowed_13 : decode cX3_isAllowed 13 = .ok (.if_icmp .lt 16, 3) := by decide +kernel
theorem dX3_isAllowed_16 : decode cX3_isAllowed 16 = .ok (.iload_n 1, 1) := by decide +kernel
theorem dX3_isAllowed_17 : decode cX3_isAllowed 17 = .ok (.getstatic 34, 3) := by decide +kernel
theorem dX3_isAllowed_20 : decode cX3_isAllowed 20 = .ok (.iload_n 0, 1) := by decide +kernel
theorem dX3_isAllowed_21 : decode cX3_isAllowed 21 = .ok (.iaload, 1) := by decide +kernel
theorem dX3_isAllowed_22 : decode cX3_isAllowed 22 = .ok (.if_icmp .gt 7, 3) := by decide +kernel
theorem dX3_isAllowed_25 : decode cX3_isAllowed 25 = .ok (.iconst 1, 1) := by decide +kernel
theorem dX3_isAllowed_26 : decode cX3_isAllowed 26 = .ok (.goto 4, 3) := by decide +kernel
theorem dX3_isAllowed_29 : decode cX3_isAllowed 29 = .ok (.iconst 0, 1) := by decide +kernel
theorem dX3_isAllowed_30 : decode cX3_isAllowed 30 = .ok (.ireturn, 1) := by decide +kernel
theorem dX3_value_0 : decode cX3_value 0 = .ok (.iload_n 1, 1) := by decide +kernel
theorem dX3_value_1 : decode cX3_value 1 = .ok (.tableswitch 60 0 4 #[35, 40, 45, 50, 55], 35) := by decide +kernel
theorem dX3_value_36 : decode cX3_value 36 = .ok (.aload_n 0, 1) := by decide +kernel
theorem dX3_value_37 : decode cX3_value 37 = .ok (.getfield 7, 3) := by decide +kernel
theorem dX3_value_40 : decode cX3_value 40 = .ok (.ireturn, 1) := by decide +kernel
theorem dX3_value_41 : decode cX3_value 41 = .ok (.aload_n 0, 1) := by decide +kernel
theorem dX3_value_42 : decode cX3_value 42 = .ok (.getfield 13, 3) := by decide +kernel
theorem dX3_value_45 : decode cX3_value 45 = .ok (.ireturn, 1) := by decide +kernel
theorem dX3_value_46 : decode cX3_value 46 = .ok (.aload_n 0, 1) := by decide +kernel
theorem dX3_value_47 : decode cX3_value 47 = .ok (.getfield 16, 3) := by decide +kernel
theorem dX3_value_50 : decode cX3_value 50 = .ok (.ireturn, 1) := by decide +kernel
theorem dX3_value_51 : decode cX3_value 51 = .ok (.aload_n 0, 1) := by decide +kernel
theorem dX3_value_52 : decode cX3_value 52 = .ok (.getfield 19, 3) := by decide +kernel
theorem dX3_value_55 : decode cX3_value 55 = .ok (.ireturn, 1) := by decide +kernel
theorem dX3_value_56 : decode cX3_value 56 = .ok (.aload_n 0, 1) := by decide +kernel
theorem dX3_value_57 : decode cX3_value 57 = .ok (.getfield 22, 3) := by decide +kernel
theorem dX3_value_60 : decode cX3_value 60 = .ok (.ireturn, 1) := by decide +kernel
theorem dX3_value_61 : decode cX3_value 61 = .ok (.aload_n 0, 1) := by decide +kernel
theorem dX3_value_62 : decode cX3_value 62 = .ok (.getfield 25, 3) := by decide +kernel
theorem dX3_value_65 : decode cX3_value 65 = .ok (.ireturn, 1) := by decide +kernel
theorem dX3_change_0 : decode cX3_change 0 = .ok (.iload_n 1, 1) := by decide +kernel
theorem dX3_change_1 : decode cX3_change 1 = .ok (.tableswitch 75 0 4 #[35, 43, 51, 59, 67], 35) := by decide +kernel
theorem dX3_change_36 : decode cX3_change 36 = .ok (.aload_n 0, 1) := by decide +kernel
theorem dX3_change_37 : decode cX3_change 37 = .ok (.iload_n 2, 1) := by decide +kernel
theorem dX3_change_38 : decode cX3_change 38 = .ok (.putfield 7, 3) := by decide +kernel
theorem dX3_change_41 : decode cX3_change 41 = .ok (.goto 40, 3) := by decide +kernel
theorem dX3_change_44 : decode cX3_change 44 = .ok (.aload_n 0, 1) := by decide +kernel
theorem dX3_change_45 : decode cX3_change 45 = .ok (.iload_n 2, 1) := by decide +kernel
theorem dX3_change_46 : decode cX3_change 46 = .ok (.putfield 13, 3) := by decide +kernel
theorem dX3_change_49 : decode cX3_change 49 = .ok (.goto 32, 3) := by decide +kernel
theorem dX3_change_52 : decode cX3_change 52 = .ok (.aload_n 0, 1) := by decide +kernel
theorem dX3_change_53 : decode cX3_change 53 = .ok (.iload_n 2, 1) := by decide +kernel
theorem dX3_change_54 : decode cX3_change 54 = .ok (.putfield 16, 3) := by decide +kernel
theorem dX3_change_57 : decode cX3_change 57 = .ok (.goto 24, 3) := by decide +kernel
theorem dX3_change_60 : decode cX3_change 60 = .ok (.aload_n 0, 1) := by decide +kernel
theorem dX3_change_61 : decode cX3_change 61 = .ok (.iload_n 2, 1) := by decide +kernel
theorem dX3_change_62 : decode cX3_change 62 = .ok (.putfield 19, 3) := by decide +kernel
theorem dX3_change_65 : decode cX3_change 65 = .ok (.goto 16, 3) := by decide +kernel
theorem dX3_change_68 : decode cX3_change 68 = .ok (.aload_n 0, 1) := by decide +kernel
theorem dX3_change_69 : decode cX3_change 69 = .ok (.iload_n 2, 1) := by decide +kernel
theorem dX3_change_70 : decode cX3_change 70 = .ok (.putfield 22, 3) := by decide +kernel
theorem dX3_change_73 : decode cX3_change 73 = .ok (.goto 8, 3) := by decide +kernel
theorem dX3_change_76 : decode cX3_change 76 = .ok (.aload_n 0, 1) := by decide +kernel
theorem dX3_change_77 : decode cX3_change 77 = .ok (.iload_n 2, 1) := by decide +kernel
theorem dX3_change_78 : decode cX3_change 78 = .ok (.putfield 25, 3) := by decide +kernel
theorem dX3_change_81 : decode cX3_change 81 = .ok (.return_, 1) := by decide +kernel
theorem dX4_init_0 : decode cX4_init 0 = .ok (.aload_n 0, 1) := by decide +kernel
theorem dX4_init_1 : decode cX4_init 1 = .ok (.invokespecial 1, 3) := by decide +kernel
theorem dX4_init_4 : decode cX4_init 4 = .ok (.aload_n 0, 1) := by decide +kernel
theorem dX4_init_5 : decode cX4_init 5 = .ok (.new 7, 3) := by decide +kernel
theorem dX4_init_8 : decode cX4_init 8 = .ok (.dup, 1) := by decide +kernel
theorem dX4_init_9 : decode cX4_init 9 = .ok (.invokespecial 9, 3) := by decide +kernel
theorem dX4_init_12 : decode cX4_init 12 = .ok (.putfield 10, 3) := by decide +kernel
theorem dX4_init_15 : decode cX4_init 15 = .ok (.return_, 1) := by decide +kernel
theorem dX4_empty_0 : decode cX4_empty 0 = .ok (.aload_n 0, 1) := by decide +kernel
theorem dX4_empty_1 : decode cX4_empty 1 = .ok (.iconst 0, 1) := by decide +kernel
theorem dX4_empty_2 : decode cX4_empty 2 = .ok (.putfield 16, 3) := by decide +kernel
theorem dX4_empty_5 : decode cX4_empty 5 = .ok (.return_, 1) := by decide +kernel
theorem dX4_keep_0 : decode cX4_keep 0 = .ok (.aload_n 0, 1) := by decide +kernel
theorem dX4_keep_1 : decode cX4_keep 1 = .ok (.getfield 10, 3) := by decide +kernel
theorem dX4_keep_4 : decode cX4_keep 4 = .ok (.aload_n 1, 1) := by decide +kernel
theorem dX4_keep_5 : decode cX4_keep 5 = .ok (.invokevirtual 20, 3) := by decide +kernel
theorem dX4_keep_8 : decode cX4_keep 8 = .ok (.aload_n 0, 1) := by decide +kernel
theorem dX4_keep_9 : decode cX4_keep 9 = .ok (.iconst 1, 1) := by decide +kernel
theorem dX4_keep_10 : decode cX4_keep 10 = .ok (.putfield 16, 3) := by decide +kernel
theorem dX4_keep_13 : decode cX4_keep 13 = .ok (.return_, 1) := by decide +kernel
theorem dX5_init_0 : decode cX5_init 0 = .ok (.aload_n 0, 1) := by decide +kernel
theorem dX5_init_1 : decode cX5_init 1 = .ok (.invokespecial 3, 3) := by decide +kernel
theorem dX5_init_4 : decode cX5_init 4 = .ok (.aload_n 0, 1) := by decide +kernel
theorem dX5_init_5 : decode cX5_init 5 = .ok (.new 9, 3) := by decide +kernel
theorem dX5_init_8 : decode cX5_init 8 = .ok (.dup, 1) := by decide +kernel
theorem dX5_init_9 : decode cX5_init 9 = .ok (.invokespecial 11, 3) := by decide +kernel
theorem dX5_init_12 : decode cX5_init 12 = .ok (.putfield 12, 3) := by decide +kernel
theorem dX5_init_15 : decode cX5_init 15 = .ok (.aload_n 0, 1) := by decide +kernel
theorem dX5_init_16 : decode cX5_init 16 = .ok (.bipush 6, 2) := by decide +kernel
theorem dX5_init_18 : decode cX5_init 18 = .ok (.anewarray 18, 3) := by decide +kernel
theorem dX5_init_21 : decode cX5_init 21 = .ok (.putfield 20, 3) := by decide +kernel
theorem dX5_init_24 : decode cX5_init 24 = .ok (.iconst 0, 1) := by decide +kernel
theorem dX5_init_25 : decode cX5_init 25 = .ok (.istore_n 1, 1) := by decide +kernel
theorem dX5_init_26 : decode cX5_init 26 = .ok (.iload_n 1, 1) := by decide +kernel
theorem dX5_init_27 : decode cX5_init 27 = .ok (.aload_n 0, 1) := by decide +kernel
theorem dX5_init_28 : decode cX5_init 28 = .ok (.getfield 20, 3) := by decide +kernel
theorem dX5_init_31 : decode cX5_init 31 = .ok (.arraylength, 1) := by decide +kernel
theorem dX5_init_32 : decode cX5_init 32 = .ok (.if_icmp .ge 23, 3) := by decide +kernel
theorem dX5_init_35 : decode cX5_init 35 = .ok (.aload_n 0, 1) := by decide +kernel
theorem dX5_init_36 : decode cX5_init 36 = .ok (.getfield 20, 3) := by decide +kernel
theorem dX5_init_39 : decode cX5_init 39 = .ok (.iload_n 1, 1) := by decide +kernel
theorem dX5_init_40 : decode cX5_init 40 = .ok (.new 18, 3) := by decide +kernel
theorem dX5_init_43 : decode cX5_init 43 = .ok (.dup, 1) := by decide +kernel
theorem dX5_init_44 : decode cX5_init 44 = .ok (.iload_n 1, 1) := by decide +kernel
theorem dX5_init_45 : decode cX5_init 45 = .ok (.invokespecial 24, 3) := by decide +kernel
theorem dX5_init_48 : decode cX5_init 48 = .ok (.aastore, 1) := by decide +kernel
theorem dX5_init_49 : decode cX5_init 49 = .ok (.iinc 1 1, 3) := by decide +kernel
theorem dX5_init_52 : decode cX5_init 52 = .ok (.goto (-26), 3) := by decide +kernel
theorem dX5_init_55 : decode cX5_init 55 = .ok (.return_, 1) := by decide +kernel
theorem dX5_copyFrom_0 : decode cX5_copyFrom 0 = .ok (.aload_n 0, 1) := by decide +kernel
theorem dX5_copyFrom_1 : decode cX5_copyFrom 1 = .ok (.getfield 12, 3) := by decide +kernel
theorem dX5_copyFrom_4 : decode cX5_copyFrom 4 = .ok (.aload_n 1, 1) := by decide +kernel
theorem dX5_copyFrom_5 : decode cX5_copyFrom 5 = .ok (.getfield 12, 3) := by decide +kernel
theorem dX5_copyFrom_8 : decode cX5_copyFrom 8 = .ok (.invokevirtual 27, 3) := by decide +kernel
theorem dX5_copyFrom_11 : decode cX5_copyFrom 11 = .ok (.iconst 0, 1) := by decide +kernel
theorem dX5_copyFrom_12 : decode cX5_copyFrom 12 = .ok (.istore_n 2, 1) := by decide +kernel
theorem dX5_copyFrom_13 : decode cX5_copyFrom 13 = .ok (.iload_n 2, 1) := by decide +kernel
theorem dX5_copyFrom_14 : decode cX5_copyFrom 14 = .ok (.aload_n 0, 1) := by decide +kernel
theorem dX5_copyFrom_15 : decode cX5_copyFrom 15 = .ok (.getfield 20, 3) := by decide +kernel
theorem dX5_copyFrom_18 : decode cX5_copyFrom 18 = .ok (.arraylength, 1) := by decide +kernel
theorem dX5_copyFrom_19 : decode cX5_copyFrom 19 = .ok (.if_icmp .ge 33, 3) := by decide +kernel
theorem dX5_copyFrom_22 : decode cX5_copyFrom 22 = .ok (.iload_n 2, 1) := by decide +kernel
theorem dX5_copyFrom_23 : decode cX5_copyFrom 23 = .ok (.aload_n 1, 1) := by decide +kernel
theorem dX5_copyFrom_24 : decode cX5_copyFrom 24 = .ok (.getfield 20, 3) := by decide +kernel
theorem dX5_copyFrom_27 : decode cX5_copyFrom 27 = .ok (.arraylength, 1) := by decide +kernel
theorem dX5_copyFrom_28 : decode cX5_copyFrom 28 = .ok (.if_icmp .ge 24, 3) := by decide +kernel
theorem dX5_copyFrom_31 : decode cX5_copyFrom 31 = .ok (.aload_n 0, 1) := by decide +kernel
theorem dX5_copyFrom_32 : decode cX5_copyFrom 32 = .ok (.getfield 20, 3) := by decide +kernel
theorem dX5_copyFrom_35 : decode cX5_copyFrom 35 = .ok (.iload_n 2, 1) := by decide +kernel
theorem dX5_copyFrom_36 : decode cX5_copyFrom 36 = .ok (.aaload, 1) := by decide +kernel
theorem dX5_copyFrom_37 : decode cX5_copyFrom 37 = .ok (.aload_n 1, 1) := by decide +kernel
theorem dX5_copyFrom_38 : decode cX5_copyFrom 38 = .ok (.getfield 20, 3) := by decide +kernel
theorem dX5_copyFrom_41 : decode cX5_copyFrom 41 = .ok (.iload_n 2, 1) := by decide +kernel
theorem dX5_copyFrom_42 : decode cX5_copyFrom 42 = .ok (.aaload, 1) := by decide +kernel
theorem dX5_copyFrom_43 : decode cX5_copyFrom 43 = .ok (.invokevirtual 31, 3) := by decide +kernel
theorem dX5_copyFrom_46 : decode cX5_copyFrom 46 = .ok (.iinc 2 1, 3) := by decide +kernel
theorem dX5_copyFrom_49 : decode cX5_copyFrom 49 = .ok (.goto (-36), 3) := by decide +kernel
theorem dX5_copyFrom_52 : decode cX5_copyFrom 52 = .ok (.aload_n 0, 1) := by decide +kernel
theorem dX5_copyFrom_53 : decode cX5_copyFrom 53 = .ok (.aload_n 1, 1) := by decide +kernel
theorem dX5_copyFrom_54 : decode cX5_copyFrom 54 = .ok (.getfield 34, 3) := by decide +kernel
theorem dX5_copyFrom_57 : decode cX5_copyFrom 57 = .ok (.putfield 34, 3) := by decide +kernel
theorem dX5_copyFrom_60 : decode cX5_copyFrom 60 = .ok (.aload_n 0, 1) := by decide +kernel
theorem dX5_copyFrom_61 : decode cX5_copyFrom 61 = .ok (.aload_n 1, 1) := by decide +kernel
theorem dX5_copyFrom_62 : decode cX5_copyFrom 62 = .ok (.getfield 38, 3) := by decide +kernel
theorem dX5_copyFrom_65 : decode cX5_copyFrom 65 = .ok (.putfield 38, 3) := by decide +kernel
theorem dX5_copyFrom_68 : decode cX5_copyFrom 68 = .ok (.aload_n 0, 1) := by decide +kernel
theorem dX5_copyFrom_69 : decode cX5_copyFrom 69 = .ok (.aload_n 1, 1) := by decide +kernel
theorem dX5_copyFrom_70 : decode cX5_copyFrom 70 = .ok (.getfield 41, 3) := by decide +kernel
theorem dX5_copyFrom_73 : decode cX5_copyFrom 73 = .ok (.putfield 41, 3) := by decide +kernel
theorem dX5_copyFrom_76 : decode cX5_copyFrom 76 = .ok (.aload_n 0, 1) := by decide +kernel
theorem dX5_copyFrom_77 : decode cX5_copyFrom 77 = .ok (.aload_n 1, 1) := by decide +kernel
theorem dX5_copyFrom_78 : decode cX5_copyFrom 78 = .ok (.getfield 44, 3) := by decide +kernel
theorem dX5_copyFrom_81 : decode cX5_copyFrom 81 = .ok (.putfield 44, 3) := by decide +kernel
theorem dX5_copyFrom_84 : decode cX5_copyFrom 84 = .ok (.aload_n 0, 1) := by decide +kernel
theorem dX5_copyFrom_85 : decode cX5_copyFrom 85 = .ok (.aload_n 1, 1) := by decide +kernel
theorem dX5_copyFrom_86 : decode cX5_copyFrom 86 = .ok (.getfield 47, 3) := by decide +kernel
theorem dX5_copyFrom_89 : decode cX5_copyFrom 89 = .ok (.putfield 47, 3) := by decide +kernel
theorem dX5_copyFrom_92 : decode cX5_copyFrom 92 = .ok (.aload_n 0, 1) := by decide +kernel
theorem dX5_copyFrom_93 : decode cX5_copyFrom 93 = .ok (.aload_n 1, 1) := by decide +kernel
theorem dX5_copyFrom_94 : decode cX5_copyFrom 94 = .ok (.getfield 50, 3) := by decide +kernel
theorem dX5_copyFrom_97 : decode cX5_copyFrom 97 = .ok (.putfield 50, 3) := by decide +kernel
theorem dX5_copyFrom_100 : decode cX5_copyFrom 100 = .ok (.aload_n 0, 1) := by decide +kernel
theorem dX5_copyFrom_101 : decode cX5_copyFrom 101 = .ok (.aload_n 1, 1) := by decide +kernel
theorem dX5_copyFrom_102 : decode cX5_copyFrom 102 = .ok (.getfield 53, 3) := by decide +kernel
theorem dX5_copyFrom_105 : decode cX5_copyFrom 105 = .ok (.putfield 53, 3) := by decide +kernel
theorem dX5_copyFrom_108 : decode cX5_copyFrom 108 = .ok (.aload_n 0, 1) := by decide +kernel
theorem dX5_copyFrom_109 : decode cX5_copyFrom 109 = .ok (.aload_n 1, 1) := by decide +kernel
theorem dX5_copyFrom_110 : decode cX5_copyFrom 110 = .ok (.getfield 56, 3) := by decide +kernel
theorem dX5_copyFrom_113 : decode cX5_copyFrom 113 = .ok (.putfield 56, 3) := by decide +kernel
theorem dX5_copyFrom_116 : decode cX5_copyFrom 116 = .ok (.aload_n 0, 1) := by decide +kernel
theorem dX5_copyFrom_117 : decode cX5_copyFrom 117 = .ok (.aload_n 1, 1) := by decide +kernel
theorem dX5_copyFrom_118 : decode cX5_copyFrom 118 = .ok (.getfield 59, 3) := by decide +kernel
theorem dX5_copyFrom_121 : decode cX5_copyFrom 121 = .ok (.putfield 59, 3) := by decide +kernel
theorem dX5_copyFrom_124 : decode cX5_copyFrom 124 = .ok (.return_, 1) := by decide +kernel
theorem dX5_account_0 : decode cX5_account 0 = .ok (.iload_n 1, 1) := by decide +kernel
theorem dX5_account_1 : decode cX5_account 1 = .ok (.tableswitch 105 0 9 #[55, 60, 65, 70, 75, 80, 85, 90, 95, 100], 55) := by decide +kernel
theorem dX5_account_56 : decode cX5_account 56 = .ok (.aload_n 0, 1) := by decide +kernel
theorem dX5_account_57 : decode cX5_account 57 = .ok (.invokevirtual 62, 3) := by decide +kernel
theorem dX5_account_60 : decode cX5_account 60 = .ok (.ireturn, 1) := by decide +kernel
theorem dX5_account_61 : decode cX5_account 61 = .ok (.aload_n 0, 1) := by decide +kernel
theorem dX5_account_62 : decode cX5_account 62 = .ok (.getfield 34, 3) := by decide +kernel
theorem dX5_account_65 : decode cX5_account 65 = .ok (.ireturn, 1) := by decide +kernel
theorem dX5_account_66 : decode cX5_account 66 = .ok (.aload_n 0, 1) := by decide +kernel
theorem dX5_account_67 : decode cX5_account 67 = .ok (.getfield 38, 3) := by decide +kernel
theorem dX5_account_70 : decode cX5_account 70 = .ok (.ireturn, 1) := by decide +kernel
theorem dX5_account_71 : decode cX5_account 71 = .ok (.aload_n 0, 1) := by decide +kernel
theorem dX5_account_72 : decode cX5_account 72 = .ok (.invokevirtual 66, 3) := by decide +kernel
theorem dX5_account_75 : decode cX5_account 75 = .ok (.ireturn, 1) := by decide +kernel
theorem dX5_account_76 : decode cX5_account 76 = .ok (.aload_n 0, 1) := by decide +kernel
theorem dX5_account_77 : decode cX5_account 77 = .ok (.getfield 41, 3) := by decide +kernel
theorem dX5_account_80 : decode cX5_account 80 = .ok (.ireturn, 1) := by decide +kernel
theorem dX5_account_81 : decode cX5_account 81 = .ok (.aload_n 0, 1) := by decide +kernel
theorem dX5_account_82 : decode cX5_account 82 = .ok (.getfield 44, 3) := by decide +kernel
theorem dX5_account_85 : decode cX5_account 85 = .ok (.ireturn, 1) := by decide +kernel
theorem dX5_account_86 : decode cX5_account 86 = .ok (.aload_n 0, 1) := by decide +kernel
theorem dX5_account_87 : decode cX5_account 87 = .ok (.getfield 47, 3) := by decide +kernel
theorem dX5_account_90 : decode cX5_account 90 = .ok (.ireturn, 1) := by decide +kernel
theorem dX5_account_91 : decode cX5_account 91 = .ok (.aload_n 0, 1) := by decide +kernel
theorem dX5_account_92 : decode cX5_account 92 = .ok (.getfield 50, 3) := by decide +kernel
theorem dX5_account_95 : decode cX5_account 95 = .ok (.ireturn, 1) := by decide +kernel
theorem dX5_account_96 : decode cX5_account 96 = .ok (.aload_n 0, 1) := by decide +kernel
theorem dX5_account_97 : decode cX5_account 97 = .ok (.getfield 53, 3) := by decide +kernel
theorem dX5_account_100 : decode cX5_account 100 = .ok (.ireturn, 1) := by decide +kernel
theorem dX5_account_101 : decode cX5_account 101 = .ok (.aload_n 0, 1) := by decide +kernel
theorem dX5_account_102 : decode cX5_account 102 = .ok (.getfield 56, 3) := by decide +kernel
theorem dX5_account_105 : decode cX5_account 105 = .ok (.ireturn, 1) := by decide +kernel
theorem dX5_account_106 : decode cX5_account 106 = .ok (.aload_n 0, 1) := by decide +kernel
theorem dX5_account_107 : decode cX5_account 107 = .ok (.getfield 59, 3) := by decide +kernel
theorem dX5_account_110 : decode cX5_account 110 = .ok (.ireturn, 1) := by decide +kernel
theorem dX5_roomAt_0 : decode cX5_roomAt 0 = .ok (.iload_n 1, 1) := by decide +kernel
theorem dX5_roomAt_1 : decode cX5_roomAt 1 = .ok (.ifCond .lt 12, 3) := by decide +kernel
theorem dX5_roomAt_4 : decode cX5_roomAt 4 = .ok (.iload_n 1, 1) := by decide +kernel
theorem dX5_roomAt_5 : decode cX5_roomAt 5 = .ok (.aload_n 0, 1) := by decide +kernel
theorem dX5_roomAt_6 : decode cX5_roomAt 6 = .ok (.getfield 20, 3) := by decide +kernel
theorem dX5_roomAt_9 : decode cX5_roomAt 9 = .ok (.arraylength, 1) := by decide +kernel
theorem dX5_roomAt_10 : decode cX5_roomAt 10 = .ok (.if_icmp .lt 5, 3) := by decide +kernel
theorem dX5_roomAt_13 : decode cX5_roomAt 13 = .ok (.aconst_null, 1) := by decide +kernel
theorem dX5_roomAt_14 : decode cX5_roomAt 14 = .ok (.areturn, 1) := by decide +kernel
theorem dX5_roomAt_15 : decode cX5_roomAt 15 = .ok (.aload_n 0, 1) := by decide +kernel
theorem dX5_roomAt_16 : decode cX5_roomAt 16 = .ok (.getfield 20, 3) := by decide +kernel
theorem dX5_roomAt_19 : decode cX5_roomAt 19 = .ok (.iload_n 1, 1) := by decide +kernel
theorem dX5_roomAt_20 : decode cX5_roomAt 20 = .ok (.aaload, 1) := by decide +kernel
theorem dX5_roomAt_21 : decode cX5_roomAt 21 = .ok (.astore_n 2, 1) := by decide +kernel
theorem dX5_roomAt_22 : decode cX5_roomAt 22 = .ok (.aload_n 2, 1) := by decide +kernel
theorem dX5_roomAt_23 : decode cX5_roomAt 23 = .ok (.invokevirtual 69, 3) := by decide +kernel
theorem dX5_roomAt_26 : decode cX5_roomAt 26 = .ok (.ifCond .eq 7, 3) := by decide +kernel
theorem dX5_roomAt_29 : decode cX5_roomAt 29 = .ok (.aload_n 2, 1) := by decide +kernel
theorem dX5_roomAt_30 : decode cX5_roomAt 30 = .ok (.goto 4, 3) := by decide +kernel
theorem dX5_roomAt_33 : decode cX5_roomAt 33 = .ok (.aconst_null, 1) := by decide +kernel
theorem dX5_roomAt_34 : decode cX5_roomAt 34 = .ok (.areturn, 1) := by decide +kernel
theorem dX5_firstFree_0 : decode cX5_firstFree 0 = .ok (.aload_n 0, 1) := by decide +kernel
theorem dX5_firstFree_1 : decode cX5_firstFree 1 = .ok (.getfield 20, 3) := by decide +kernel
theorem dX5_firstFree_4 : decode cX5_firstFree 4 = .ok (.astore_n 1, 1) := by decide +kernel
theorem dX5_firstFree_5 : decode cX5_firstFree 5 = .ok (.aload_n 1, 1) := by decide +kernel
theorem dX5_firstFree_6 : decode cX5_firstFree 6 = .ok (.arraylength, 1) := by decide +kernel
theorem dX5_firstFree_7 : decode cX5_firstFree 7 = .ok (.istore_n 2, 1) := by decide +kernel
theorem dX5_firstFree_8 : decode cX5_firstFree 8 = .ok (.iconst 0, 1) := by decide +kernel
theorem dX5_firstFree_9 : decode cX5_firstFree 9 = .ok (.istore_n 3, 1) := by decide +kernel
theorem dX5_firstFree_10 : decode cX5_firstFree 10 = .ok (.iload_n 3, 1) := by decide +kernel
theorem dX5_firstFree_11 : decode cX5_firstFree 11 = .ok (.iload_n 2, 1) := by decide +kernel
theorem dX5_firstFree_12 : decode cX5_firstFree 12 = .ok (.if_icmp .ge 25, 3) := by decide +kernel
theorem dX5_firstFree_15 : decode cX5_firstFree 15 = .ok (.aload_n 1, 1) := by decide +kernel
theorem dX5_firstFree_16 : decode cX5_firstFree 16 = .ok (.iload_n 3, 1) := by decide +kernel
theorem dX5_firstFree_17 : decode cX5_firstFree 17 = .ok (.aaload, 1) := by decide +kernel
theorem dX5_firstFree_18 : decode cX5_firstFree 18 = .ok (.astore 4, 2) := by decide +kernel
theorem dX5_firstFree_20 : decode cX5_firstFree 20 = .ok (.aload 4, 2) := by decide +kernel
theorem dX5_firstFree_22 : decode cX5_firstFree 22 = .ok (.invokevirtual 69, 3) := by decide +kernel
theorem dX5_firstFree_25 : decode cX5_firstFree 25 = .ok (.ifCond .ne 6, 3) := by decide +kernel
theorem dX5_firstFree_28 : decode cX5_firstFree 28 = .ok (.aload 4, 2) := by decide +kernel
theorem dX5_firstFree_30 : decode cX5_firstFree 30 = .ok (.areturn, 1) := by decide +kernel
theorem dX5_firstFree_31 : decode cX5_firstFree 31 = .ok (.iinc 3 1, 3) := by decide +kernel
theorem dX5_firstFree_34 : decode cX5_firstFree 34 = .ok (.goto (-24), 3) := by decide +kernel
theorem dX5_firstFree_37 : decode cX5_firstFree 37 = .ok (.aconst_null, 1) := by decide +kernel
theorem dX5_firstFree_38 : decode cX5_firstFree 38 = .ok (.areturn, 1) := by decide +kernel
theorem dX5_countRooms_0 : decode cX5_countRooms 0 = .ok (.aload_n 0, 1) := by decide +kernel
theorem dX5_countRooms_1 : decode cX5_countRooms 1 = .ok (.invokevirtual 73, 3) := by decide +kernel
theorem dX5_countRooms_4 : decode cX5_countRooms 4 = .ok (.astore_n 1, 1) := by decide +kernel
theorem dX5_countRooms_5 : decode cX5_countRooms 5 = .ok (.aload_n 1, 1) := by decide +kernel
theorem dX5_countRooms_6 : decode cX5_countRooms 6 = .ok (.ifnonnull 11, 3) := by decide +kernel
theorem dX5_countRooms_9 : decode cX5_countRooms 9 = .ok (.aload_n 0, 1) := by decide +kernel
theorem dX5_countRooms_10 : decode cX5_countRooms 10 = .ok (.getfield 20, 3) := by decide +kernel
theorem dX5_countRooms_13 : decode cX5_countRooms 13 = .ok (.arraylength, 1) := by decide +kernel
theorem dX5_countRooms_14 : decode cX5_countRooms 14 = .ok (.goto 7, 3) := by decide +kernel
theorem dX5_countRooms_17 : decode cX5_countRooms 17 = .ok (.aload_n 1, 1) := by decide +kernel
theorem dX5_countRooms_18 : decode cX5_countRooms 18 = .ok (.getfield 77, 3) := by decide +kernel
theorem dX5_countRooms_21 : decode cX5_countRooms 21 = .ok (.ireturn, 1) := by decide +kernel
theorem dX5_openDoors_0 : decode cX5_openDoors 0 = .ok (.iconst 0, 1) := by decide +kernel
theorem dX5_openDoors_1 : decode cX5_openDoors 1 = .ok (.istore_n 1, 1) := by decide +kernel
theorem dX5_openDoors_2 : decode cX5_openDoors 2 = .ok (.aload_n 0, 1) := by decide +kernel
theorem dX5_openDoors_3 : decode cX5_openDoors 3 = .ok (.getfield 20, 3) := by decide +kernel
theorem dX5_openDoors_6 : decode cX5_openDoors 6 = .ok (.astore_n 2, 1) := by decide +kernel
theorem dX5_openDoors_7 : decode cX5_openDoors 7 = .ok (.aload_n 2, 1) := by decide +kernel
theorem dX5_openDoors_8 : decode cX5_openDoors 8 = .ok (.arraylength, 1) := by decide +kernel
theorem dX5_openDoors_9 : decode cX5_openDoors 9 = .ok (.istore_n 3, 1) := by decide +kernel
theorem dX5_openDoors_10 : decode cX5_openDoors 10 = .ok (.iconst 0, 1) := by decide +kernel
theorem dX5_openDoors_11 : decode cX5_openDoors 11 = .ok (.istore 4, 2) := by decide +kernel
theorem dX5_openDoors_13 : decode cX5_openDoors 13 = .ok (.iload 4, 2) := by decide +kernel
theorem dX5_openDoors_15 : decode cX5_openDoors 15 = .ok (.iload_n 3, 1) := by decide +kernel
theorem dX5_openDoors_16 : decode cX5_openDoors 16 = .ok (.if_icmp .ge 34, 3) := by decide +kernel
theorem dX5_openDoors_19 : decode cX5_openDoors 19 = .ok (.aload_n 2, 1) := by decide +kernel
theorem dX5_openDoors_20 : decode cX5_openDoors 20 = .ok (.iload 4, 2) := by decide +kernel
theorem dX5_openDoors_22 : decode cX5_openDoors 22 = .ok (.aaload, 1) := by decide +kernel
theorem dX5_openDoors_23 : decode cX5_openDoors 23 = .ok (.astore 5, 2) := by decide +kernel
theorem dX5_openDoors_25 : decode cX5_openDoors 25 = .ok (.aload 5, 2) := by decide +kernel
theorem dX5_openDoors_27 : decode cX5_openDoors 27 = .ok (.invokevirtual 69, 3) := by decide +kernel
theorem dX5_openDoors_30 : decode cX5_openDoors 30 = .ok (.ifCond .eq 14, 3) := by decide +kernel
theorem dX5_openDoors_33 : decode cX5_openDoors 33 = .ok (.aload 5, 2) := by decide +kernel
theorem dX5_openDoors_35 : decode cX5_openDoors 35 = .ok (.getfield 80, 3) := by decide +kernel
theorem dX5_openDoors_38 : decode cX5_openDoors 38 = .ok (.ifCond .eq 6, 3) := by decide +kernel
theorem dX5_openDoors_41 : decode cX5_openDoors 41 = .ok (.iinc 1 1, 3) := by decide +kernel
theorem dX5_openDoors_44 : decode cX5_openDoors 44 = .ok (.iinc 4 1, 3) := by decide +kernel
theorem dX5_openDoors_47 : decode cX5_openDoors 47 = .ok (.goto (-34), 3) := by decide +kernel
theorem dX5_openDoors_50 : decode cX5_openDoors 50 = .ok (.iload_n 1, 1) := by decide +kernel
theorem dX5_openDoors_51 : decode cX5_openDoors 51 = .ok (.ireturn, 1) := by decide +kernel
theorem dX5_warmestRoom_0 : decode cX5_warmestRoom 0 = .ok (.aconst_null, 1) := by decide +kernel
theorem dX5_warmestRoom_1 : decode cX5_warmestRoom 1 = .ok (.astore_n 1, 1) := by decide +kernel
theorem dX5_warmestRoom_2 : decode cX5_warmestRoom 2 = .ok (.aload_n 0, 1) := by decide +kernel
theorem dX5_warmestRoom_3 : decode cX5_warmestRoom 3 = .ok (.getfield 20, 3) := by decide +kernel
theorem dX5_warmestRoom_6 : decode cX5_warmestRoom 6 = .ok (.astore_n 2, 1) := by decide +kernel
theorem dX5_warmestRoom_7 : decode cX5_warmestRoom 7 = .ok (.aload_n 2, 1) := by decide +kernel
theorem dX5_warmestRoom_8 : decode cX5_warmestRoom 8 = .ok (.arraylength, 1) := by decide +kernel
theorem dX5_warmestRoom_9 : decode cX5_warmestRoom 9 = .ok (.istore_n 3, 1) := by decide +kernel
theorem dX5_warmestRoom_10 : decode cX5_warmestRoom 10 = .ok (.iconst 0, 1) := by decide +kernel
theorem dX5_warmestRoom_11 : decode cX5_warmestRoom 11 = .ok (.istore 4, 2) := by decide +kernel
theorem dX5_warmestRoom_13 : decode cX5_warmestRoom 13 = .ok (.iload 4, 2) := by decide +kernel
theorem dX5_warmestRoom_15 : decode cX5_warmestRoom 15 = .ok (.iload_n 3, 1) := by decide +kernel
theorem dX5_warmestRoom_16 : decode cX5_warmestRoom 16 = .ok (.if_icmp .ge 42, 3) := by decide +kernel
theorem dX5_warmestRoom_19 : decode cX5_warmestRoom 19 = .ok (.aload_n 2, 1) := by decide +kernel
theorem dX5_warmestRoom_20 : decode cX5_warmestRoom 20 = .ok (.iload 4, 2) := by decide +kernel
theorem dX5_warmestRoom_22 : decode cX5_warmestRoom 22 = .ok (.aaload, 1) := by decide +kernel
theorem dX5_warmestRoom_23 : decode cX5_warmestRoom 23 = .ok (.astore 5, 2) := by decide +kernel
theorem dX5_warmestRoom_25 : decode cX5_warmestRoom 25 = .ok (.aload 5, 2) := by decide +kernel
theorem dX5_warmestRoom_27 : decode cX5_warmestRoom 27 = .ok (.invokevirtual 69, 3) := by decide +kernel
theorem dX5_warmestRoom_30 : decode cX5_warmestRoom 30 = .ok (.ifCond .eq 22, 3) := by decide +kernel
theorem dX5_warmestRoom_33 : decode cX5_warmestRoom 33 = .ok (.aload_n 1, 1) := by decide +kernel
theorem dX5_warmestRoom_34 : decode cX5_warmestRoom 34 = .ok (.ifnull 15, 3) := by decide +kernel
theorem dX5_warmestRoom_37 : decode cX5_warmestRoom 37 = .ok (.aload 5, 2) := by decide +kernel
theorem dX5_warmestRoom_39 : decode cX5_warmestRoom 39 = .ok (.invokevirtual 84, 3) := by decide +kernel
theorem dX5_warmestRoom_42 : decode cX5_warmestRoom 42 = .ok (.aload_n 1, 1) := by decide +kernel
theorem dX5_warmestRoom_43 : decode cX5_warmestRoom 43 = .ok (.invokevirtual 84, 3) := by decide +kernel
theorem dX5_warmestRoom_46 : decode cX5_warmestRoom 46 = .ok (.if_icmp .le 6, 3) := by decide +kernel
theorem dX5_warmestRoom_49 : decode cX5_warmestRoom 49 = .ok (.aload 5, 2) := by decide +kernel
theorem dX5_warmestRoom_51 : decode cX5_warmestRoom 51 = .ok (.astore_n 1, 1) := by decide +kernel
theorem dX5_warmestRoom_52 : decode cX5_warmestRoom 52 = .ok (.iinc 4 1, 3) := by decide +kernel
theorem dX5_warmestRoom_55 : decode cX5_warmestRoom 55 = .ok (.goto (-42), 3) := by decide +kernel
theorem dX5_warmestRoom_58 : decode cX5_warmestRoom 58 = .ok (.aload_n 1, 1) := by decide +kernel
theorem dX5_warmestRoom_59 : decode cX5_warmestRoom 59 = .ok (.ifnonnull 7, 3) := by decide +kernel
theorem dX5_warmestRoom_62 : decode cX5_warmestRoom 62 = .ok (.iconst (-1), 1) := by decide +kernel
theorem dX5_warmestRoom_63 : decode cX5_warmestRoom 63 = .ok (.goto 7, 3) := by decide +kernel
theorem dX5_warmestRoom_66 : decode cX5_warmestRoom 66 = .ok (.aload_n 1, 1) := by decide +kernel
theorem dX5_warmestRoom_67 : decode cX5_warmestRoom 67 = .ok (.getfield 77, 3) := by decide +kernel
theorem dX5_warmestRoom_70 : decode cX5_warmestRoom 70 = .ok (.ireturn, 1) := by decide +kernel
theorem dX5_canBeRoom_0 : decode cX5_canBeRoom 0 = .ok (.iload_n 0, 1) := by decide +kernel
theorem dX5_canBeRoom_1 : decode cX5_canBeRoom 1 = .ok (.iconst 1, 1) := by decide +kernel
theorem dX5_canBeRoom_2 : decode cX5_canBeRoom 2 = .ok (.if_icmp .lt 32, 3) := by decide +kernel
theorem dX5_canBeRoom_5 : decode cX5_canBeRoom 5 = .ok (.iload_n 0, 1) := by decide +kernel
theorem dX5_canBeRoom_6 : decode cX5_canBeRoom 6 = .ok (.bipush 50, 2) := by decide +kernel
theorem dX5_canBeRoom_8 : decode cX5_canBeRoom 8 = .ok (.if_icmp .gt 26, 3) := by decide +kernel
theorem dX5_canBeRoom_11 : decode cX5_canBeRoom 11 = .ok (.iload_n 1, 1) := by decide +kernel
theorem dX5_canBeRoom_12 : decode cX5_canBeRoom 12 = .ok (.sipush (-300), 3) := by decide +kernel
theorem dX5_canBeRoom_15 : decode cX5_canBeRoom 15 = .ok (.if_icmp .lt 19, 3) := by decide +kernel
theorem dX5_canBeRoom_18 : decode cX5_canBeRoom 18 = .ok (.iload_n 1, 1) := by decide +kernel
theorem dX5_canBeRoom_19 : decode cX5_canBeRoom 19 = .ok (.iload_n 2, 1) := by decide +kernel
theorem dX5_canBeRoom_20 : decode cX5_canBeRoom 20 = .ok (.if_icmp .ge 14, 3) := by decide +kernel
theorem dX5_canBeRoom_23 : decode cX5_canBeRoom 23 = .ok (.iload_n 2, 1) := by decide +kernel
theorem dX5_canBeRoom_24 : decode cX5_canBeRoom 24 = .ok (.sipush 200, 3) := by decide +kernel
theorem dX5_canBeRoom_27 : decode cX5_canBeRoom 27 = .ok (.if_icmp .gt 7, 3) := by decide +kernel
theorem dX5_canBeRoom_30 : decode cX5_canBeRoom 30 = .ok (.iconst 1, 1) := by decide +kernel
theorem dX5_canBeRoom_31 : decode cX5_canBeRoom 31 = .ok (.goto 4, 3) := by decide +kernel
theorem dX5_canBeRoom_34 : decode cX5_canBeRoom 34 = .ok (.iconst 0, 1) := by decide +kernel
theorem dX5_canBeRoom_35 : decode cX5_canBeRoom 35 = .ok (.ireturn, 1) := by decide +kernel
theorem dX5_canPass_0 : decode cX5_canPass 0 = .ok (.iload_n 0, 1) := by decide +kernel
theorem dX5_canPass_1 : decode cX5_canPass 1 = .ok (.iconst 1, 1) := by decide +kernel
theorem dX5_canPass_2 : decode cX5_canPass 2 = .ok (.if_icmp .lt 13, 3) := by decide +kernel
theorem dX5_canPass_5 : decode cX5_canPass 5 = .ok (.iload_n 0, 1) := by decide +kernel
theorem dX5_canPass_6 : decode cX5_canPass 6 = .ok (.bipush 60, 2) := by decide +kernel
theorem dX5_canPass_8 : decode cX5_canPass 8 = .ok (.if_icmp .gt 7, 3) := by decide +kernel
theorem dX5_canPass_11 : decode cX5_canPass 11 = .ok (.iconst 1, 1) := by decide +kernel
theorem dX5_canPass_12 : decode cX5_canPass 12 = .ok (.goto 4, 3) := by decide +kernel
theorem dX5_canPass_15 : decode cX5_canPass 15 = .ok (.iconst 0, 1) := by decide +kernel
theorem dX5_canPass_16 : decode cX5_canPass 16 = .ok (.ireturn, 1) := by decide +kernel
theorem dX5_canBeTemperature_0 : decode cX5_canBeTemperature 0 = .ok (.iload_n 0, 1) := by decide +kernel
theorem dX5_canBeTemperature_1 : decode cX5_canBeTemperature 1 = .ok (.sipush (-400), 3) := by decide +kernel
theorem dX5_canBeTemperature_4 : decode cX5_canBeTemperature 4 = .ok (.if_icmp .lt 14, 3) := by decide +kernel
theorem dX5_canBeTemperature_7 : decode cX5_canBeTemperature 7 = .ok (.iload_n 0, 1) := by decide +kernel
theorem dX5_canBeTemperature_8 : decode cX5_canBeTemperature 8 = .ok (.sipush 400, 3) := by decide +kernel
theorem dX5_canBeTemperature_11 : decode cX5_canBeTemperature 11 = .ok (.if_icmp .gt 7, 3) := by decide +kernel
theorem dX5_canBeTemperature_14 : decode cX5_canBeTemperature 14 = .ok (.iconst 1, 1) := by decide +kernel
theorem dX5_canBeTemperature_15 : decode cX5_canBeTemperature 15 = .ok (.goto 4, 3) := by decide +kernel
theorem dX5_canBeTemperature_18 : decode cX5_canBeTemperature 18 = .ok (.iconst 0, 1) := by decide +kernel
theorem dX5_canBeTemperature_19 : decode cX5_canBeTemperature 19 = .ok (.ireturn, 1) := by decide +kernel
theorem dX5_takeRoom_0 : decode cX5_takeRoom 0 = .ok (.aload_n 0, 1) := by decide +kernel
theorem dX5_takeRoom_1 : decode cX5_takeRoom 1 = .ok (.invokevirtual 73, 3) := by decide +kernel
theorem dX5_takeRoom_4 : decode cX5_takeRoom 4 = .ok (.astore 4, 2) := by decide +kernel
theorem dX5_takeRoom_6 : decode cX5_takeRoom 6 = .ok (.aload 4, 2) := by decide +kernel
theorem dX5_takeRoom_8 : decode cX5_takeRoom 8 = .ok (.ifnull 12, 3) := by decide +kernel
theorem dX5_takeRoom_11 : decode cX5_takeRoom 11 = .ok (.iload_n 1, 1) := by decide +kernel
theorem dX5_takeRoom_12 : decode cX5_takeRoom 12 = .ok (.iload_n 2, 1) := by decide +kernel
theorem dX5_takeRoom_13 : decode cX5_takeRoom 13 = .ok (.iload_n 3, 1) := by decide +kernel
theorem dX5_takeRoom_14 : decode cX5_takeRoom 14 = .ok (.invokestatic 87, 3) := by decide +kernel
theorem dX5_takeRoom_17 : decode cX5_takeRoom 17 = .ok (.ifCond .ne 5, 3) := by decide +kernel
theorem dX5_takeRoom_20 : decode cX5_takeRoom 20 = .ok (.iconst (-1), 1) := by decide +kernel
theorem dX5_takeRoom_21 : decode cX5_takeRoom 21 = .ok (.ireturn, 1) := by decide +kernel
theorem dX5_takeRoom_22 : decode cX5_takeRoom 22 = .ok (.aload 4, 2) := by decide +kernel
theorem dX5_takeRoom_24 : decode cX5_takeRoom 24 = .ok (.iload_n 1, 1) := by decide +kernel
theorem dX5_takeRoom_25 : decode cX5_takeRoom 25 = .ok (.iload_n 2, 1) := by decide +kernel
theorem dX5_takeRoom_26 : decode cX5_takeRoom 26 = .ok (.iload_n 3, 1) := by decide +kernel
theorem dX5_takeRoom_27 : decode cX5_takeRoom 27 = .ok (.invokevirtual 91, 3) := by decide +kernel
theorem dX5_takeRoom_30 : decode cX5_takeRoom 30 = .ok (.aload 4, 2) := by decide +kernel
theorem dX5_takeRoom_32 : decode cX5_takeRoom 32 = .ok (.getfield 77, 3) := by decide +kernel
theorem dX5_takeRoom_35 : decode cX5_takeRoom 35 = .ok (.ireturn, 1) := by decide +kernel
theorem dX5_moveDoor_0 : decode cX5_moveDoor 0 = .ok (.aload_n 0, 1) := by decide +kernel
theorem dX5_moveDoor_1 : decode cX5_moveDoor 1 = .ok (.iload_n 1, 1) := by decide +kernel
theorem dX5_moveDoor_2 : decode cX5_moveDoor 2 = .ok (.invokevirtual 95, 3) := by decide +kernel
theorem dX5_moveDoor_5 : decode cX5_moveDoor 5 = .ok (.astore_n 3, 1) := by decide +kernel
theorem dX5_moveDoor_6 : decode cX5_moveDoor 6 = .ok (.aload_n 3, 1) := by decide +kernel
theorem dX5_moveDoor_7 : decode cX5_moveDoor 7 = .ok (.ifnonnull 5, 3) := by decide +kernel
theorem dX5_moveDoor_10 : decode cX5_moveDoor 10 = .ok (.iconst 0, 1) := by decide +kernel
theorem dX5_moveDoor_11 : decode cX5_moveDoor 11 = .ok (.ireturn, 1) := by decide +kernel
theorem dX5_moveDoor_12 : decode cX5_moveDoor 12 = .ok (.aload_n 3, 1) := by decide +kernel
theorem dX5_moveDoor_13 : decode cX5_moveDoor 13 = .ok (.iload_n 2, 1) := by decide +kernel
theorem dX5_moveDoor_14 : decode cX5_moveDoor 14 = .ok (.putfield 80, 3) := by decide +kernel
theorem dX5_moveDoor_17 : decode cX5_moveDoor 17 = .ok (.iconst 1, 1) := by decide +kernel
theorem dX5_moveDoor_18 : decode cX5_moveDoor 18 = .ok (.ireturn, 1) := by decide +kernel
theorem dX5_takeGoods_0 : decode cX5_takeGoods 0 = .ok (.aload_n 0, 1) := by decide +kernel
theorem dX5_takeGoods_1 : decode cX5_takeGoods 1 = .ok (.iload_n 1, 1) := by decide +kernel
theorem dX5_takeGoods_2 : decode cX5_takeGoods 2 = .ok (.invokevirtual 95, 3) := by decide +kernel
theorem dX5_takeGoods_5 : decode cX5_takeGoods 5 = .ok (.astore_n 3, 1) := by decide +kernel
theorem dX5_takeGoods_6 : decode cX5_takeGoods 6 = .ok (.aload_n 3, 1) := by decide +kernel
theorem dX5_takeGoods_7 : decode cX5_takeGoods 7 = .ok (.ifnull 10, 3) := by decide +kernel
theorem dX5_takeGoods_10 : decode cX5_takeGoods 10 = .ok (.iload_n 2, 1) := by decide +kernel
theorem dX5_takeGoods_11 : decode cX5_takeGoods 11 = .ok (.invokestatic 99, 3) := by decide +kernel
theorem dX5_takeGoods_14 : decode cX5_takeGoods 14 = .ok (.ifCond .ne 5, 3) := by decide +kernel
theorem dX5_takeGoods_17 : decode cX5_takeGoods 17 = .ok (.iconst 0, 1) := by decide +kernel
theorem dX5_takeGoods_18 : decode cX5_takeGoods 18 = .ok (.ireturn, 1) := by decide +kernel
theorem dX5_takeGoods_19 : decode cX5_takeGoods 19 = .ok (.aload_n 3, 1) := by decide +kernel
theorem dX5_takeGoods_20 : decode cX5_takeGoods 20 = .ok (.iload_n 2, 1) := by decide +kernel
theorem dX5_takeGoods_21 : decode cX5_takeGoods 21 = .ok (.putfield 103, 3) := by decide +kernel
theorem dX5_takeGoods_24 : decode cX5_takeGoods 24 = .ok (.iconst 1, 1) := by decide +kernel
theorem dX5_takeGoods_25 : decode cX5_takeGoods 25 = .ok (.ireturn, 1) := by decide +kernel
theorem dX5_changeSetting_0 : decode cX5_changeSetting 0 = .ok (.iload_n 1, 1) := by decide +kernel
theorem dX5_changeSetting_1 : decode cX5_changeSetting 1 = .ok (.iload_n 2, 1) := by decide +kernel
theorem dX5_changeSetting_2 : decode cX5_changeSetting 2 = .ok (.invokestatic 106, 3) := by decide +kernel
theorem dX5_changeSetting_5 : decode cX5_changeSetting 5 = .ok (.ifCond .ne 5, 3) := by decide +kernel
theorem dX5_changeSetting_8 : decode cX5_changeSetting 8 = .ok (.iconst 0, 1) := by decide +kernel
theorem dX5_changeSetting_9 : decode cX5_changeSetting 9 = .ok (.ireturn, 1) := by decide +kernel
theorem dX5_changeSetting_10 : decode cX5_changeSetting 10 = .ok (.aload_n 0, 1) := by decide +kernel
theorem dX5_changeSetting_11 : decode cX5_changeSetting 11 = .ok (.getfield 12, 3) := by decide +kernel
theorem dX5_changeSetting_14 : decode cX5_changeSetting 14 = .ok (.iload_n 1, 1) := by decide +kernel
theorem dX5_changeSetting_15 : decode cX5_changeSetting 15 = .ok (.iload_n 2, 1) := by decide +kernel
theorem dX5_changeSetting_16 : decode cX5_changeSetting 16 = .ok (.invokevirtual 110, 3) := by decide +kernel
theorem dX5_changeSetting_19 : decode cX5_changeSetting 19 = .ok (.iconst 1, 1) := by decide +kernel
theorem dX5_changeSetting_20 : decode cX5_changeSetting 20 = .ok (.ireturn, 1) := by decide +kernel
theorem dX5_passMinutes_0 : decode cX5_passMinutes 0 = .ok (.iload_n 1, 1) := by decide +kernel
theorem dX5_passMinutes_1 : decode cX5_passMinutes 1 = .ok (.invokestatic 114, 3) := by decide +kernel
theorem dX5_passMinutes_4 : decode cX5_passMinutes 4 = .ok (.ifCond .ne 5, 3) := by decide +kernel
theorem dX5_passMinutes_7 : decode cX5_passMinutes 7 = .ok (.iconst 0, 1) := by decide +kernel
theorem dX5_passMinutes_8 : decode cX5_passMinutes 8 = .ok (.ireturn, 1) := by decide +kernel
theorem dX5_passMinutes_9 : decode cX5_passMinutes 9 = .ok (.iconst 0, 1) := by decide +kernel
theorem dX5_passMinutes_10 : decode cX5_passMinutes 10 = .ok (.istore_n 2, 1) := by decide +kernel
theorem dX5_passMinutes_11 : decode cX5_passMinutes 11 = .ok (.iload_n 2, 1) := by decide +kernel
theorem dX5_passMinutes_12 : decode cX5_passMinutes 12 = .ok (.iload_n 1, 1) := by decide +kernel
theorem dX5_passMinutes_13 : decode cX5_passMinutes 13 = .ok (.if_icmp .ge 13, 3) := by decide +kernel
theorem dX5_passMinutes_16 : decode cX5_passMinutes 16 = .ok (.aload_n 0, 1) := by decide +kernel
theorem dX5_passMinutes_17 : decode cX5_passMinutes 17 = .ok (.invokevirtual 117, 3) := by decide +kernel
theorem dX5_passMinutes_20 : decode cX5_passMinutes 20 = .ok (.iinc 2 1, 3) := by decide +kernel
theorem dX5_passMinutes_23 : decode cX5_passMinutes 23 = .ok (.goto (-12), 3) := by decide +kernel
theorem dX5_passMinutes_26 : decode cX5_passMinutes 26 = .ok (.iconst 1, 1) := by decide +kernel
theorem dX5_passMinutes_27 : decode cX5_passMinutes 27 = .ok (.ireturn, 1) := by decide +kernel
theorem dX5_passMinute_0 : decode cX5_passMinute 0 = .ok (.aload_n 0, 1) := by decide +kernel
theorem dX5_passMinute_1 : decode cX5_passMinute 1 = .ok (.aload_n 0, 1) := by decide +kernel
theorem dX5_passMinute_2 : decode cX5_passMinute 2 = .ok (.invokevirtual 120, 3) := by decide +kernel
theorem dX5_passMinute_5 : decode cX5_passMinute 5 = .ok (.aload_n 0, 1) := by decide +kernel
theorem dX5_passMinute_6 : decode cX5_passMinute 6 = .ok (.getfield 12, 3) := by decide +kernel
theorem dX5_passMinute_9 : decode cX5_passMinute 9 = .ok (.getfield 123, 3) := by decide +kernel
theorem dX5_passMinute_12 : decode cX5_passMinute 12 = .ok (.iadd, 1) := by decide +kernel
theorem dX5_passMinute_13 : decode cX5_passMinute 13 = .ok (.invokevirtual 126, 3) := by decide +kernel
theorem dX5_passMinute_16 : decode cX5_passMinute 16 = .ok (.aload_n 0, 1) := by decide +kernel
theorem dX5_passMinute_17 : decode cX5_passMinute 17 = .ok (.getfield 20, 3) := by decide +kernel
theorem dX5_passMinute_20 : decode cX5_passMinute 20 = .ok (.astore_n 1, 1) := by decide +kernel
theorem dX5_passMinute_21 : decode cX5_passMinute 21 = .ok (.aload_n 1, 1) := by decide +kernel
theorem dX5_passMinute_22 : decode cX5_passMinute 22 = .ok (.arraylength, 1) := by decide +kernel
theorem dX5_passMinute_23 : decode cX5_passMinute 23 = .ok (.istore_n 2, 1) := by decide +kernel
theorem dX5_passMinute_24 : decode cX5_passMinute 24 = .ok (.iconst 0, 1) := by decide +kernel
theorem dX5_passMinute_25 : decode cX5_passMinute 25 = .ok (.istore_n 3, 1) := by decide +kernel
theorem dX5_passMinute_26 : decode cX5_passMinute 26 = .ok (.iload_n 3, 1) := by decide +kernel
theorem dX5_passMinute_27 : decode cX5_passMinute 27 = .ok (.iload_n 2, 1) := by decide +kernel
theorem dX5_passMinute_28 : decode cX5_passMinute 28 = .ok (.if_icmp .ge 44, 3) := by decide +kernel
theorem dX5_passMinute_31 : decode cX5_passMinute 31 = .ok (.aload_n 1, 1) := by decide +kernel
theorem dX5_passMinute_32 : decode cX5_passMinute 32 = .ok (.iload_n 3, 1) := by decide +kernel
theorem dX5_passMinute_33 : decode cX5_passMinute 33 = .ok (.aaload, 1) := by decide +kernel
theorem dX5_passMinute_34 : decode cX5_passMinute 34 = .ok (.astore 4, 2) := by decide +kernel
theorem dX5_passMinute_36 : decode cX5_passMinute 36 = .ok (.aload 4, 2) := by decide +kernel
theorem dX5_passMinute_38 : decode cX5_passMinute 38 = .ok (.invokevirtual 69, 3) := by decide +kernel
theorem dX5_passMinute_41 : decode cX5_passMinute 41 = .ok (.ifCond .eq 25, 3) := by decide +kernel
theorem dX5_passMinute_44 : decode cX5_passMinute 44 = .ok (.aload_n 0, 1) := by decide +kernel
theorem dX5_passMinute_45 : decode cX5_passMinute 45 = .ok (.aload 4, 2) := by decide +kernel
theorem dX5_passMinute_47 : decode cX5_passMinute 47 = .ok (.invokevirtual 129, 3) := by decide +kernel
theorem dX5_passMinute_50 : decode cX5_passMinute 50 = .ok (.aload 4, 2) := by decide +kernel
theorem dX5_passMinute_52 : decode cX5_passMinute 52 = .ok (.invokevirtual 132, 3) := by decide +kernel
theorem dX5_passMinute_55 : decode cX5_passMinute 55 = .ok (.aload 4, 2) := by decide +kernel
theorem dX5_passMinute_57 : decode cX5_passMinute 57 = .ok (.invokevirtual 135, 3) := by decide +kernel
theorem dX5_passMinute_60 : decode cX5_passMinute 60 = .ok (.aload_n 0, 1) := by decide +kernel
theorem dX5_passMinute_61 : decode cX5_passMinute 61 = .ok (.aload 4, 2) := by decide +kernel
theorem dX5_passMinute_63 : decode cX5_passMinute 63 = .ok (.invokevirtual 138, 3) := by decide +kernel
theorem dX5_passMinute_66 : decode cX5_passMinute 66 = .ok (.iinc 3 1, 3) := by decide +kernel
theorem dX5_passMinute_69 : decode cX5_passMinute 69 = .ok (.goto (-43), 3) := by decide +kernel
theorem dX5_passMinute_72 : decode cX5_passMinute 72 = .ok (.aload_n 0, 1) := by decide +kernel
theorem dX5_passMinute_73 : decode cX5_passMinute 73 = .ok (.dup, 1) := by decide +kernel
theorem dX5_passMinute_74 : decode cX5_passMinute 74 = .ok (.getfield 34, 3) := by decide +kernel
theorem dX5_passMinute_77 : decode cX5_passMinute 77 = .ok (.iconst 1, 1) := by decide +kernel
theorem dX5_passMinute_78 : decode cX5_passMinute 78 = .ok (.iadd, 1) := by decide +kernel
theorem dX5_passMinute_79 : decode cX5_passMinute 79 = .ok (.putfield 34, 3) := by decide +kernel
theorem dX5_passMinute_82 : decode cX5_passMinute 82 = .ok (.return_, 1) := by decide +kernel
theorem dX5_beginDefrost_0 : decode cX5_beginDefrost 0 = .ok (.aload_n 1, 1) := by decide +kernel
theorem dX5_beginDefrost_1 : decode cX5_beginDefrost 1 = .ok (.getfield 141, 3) := by decide +kernel
theorem dX5_beginDefrost_4 : decode cX5_beginDefrost 4 = .ok (.iconst 2, 1) := by decide +kernel
theorem dX5_beginDefrost_5 : decode cX5_beginDefrost 5 = .ok (.if_icmp .eq 11, 3) := by decide +kernel
theorem dX5_beginDefrost_8 : decode cX5_beginDefrost 8 = .ok (.aload_n 1, 1) := by decide +kernel
theorem dX5_beginDefrost_9 : decode cX5_beginDefrost 9 = .ok (.getfield 141, 3) := by decide +kernel
theorem dX5_beginDefrost_12 : decode cX5_beginDefrost 12 = .ok (.iconst 5, 1) := by decide +kernel
theorem dX5_beginDefrost_13 : decode cX5_beginDefrost 13 = .ok (.if_icmp .ne 24, 3) := by decide +kernel
theorem dX5_beginDefrost_16 : decode cX5_beginDefrost 16 = .ok (.aload_n 1, 1) := by decide +kernel
theorem dX5_beginDefrost_17 : decode cX5_beginDefrost 17 = .ok (.aload_n 0, 1) := by decide +kernel
theorem dX5_beginDefrost_18 : decode cX5_beginDefrost 18 = .ok (.getfield 12, 3) := by decide +kernel
theorem dX5_beginDefrost_21 : decode cX5_beginDefrost 21 = .ok (.getfield 144, 3) := by decide +kernel
theorem dX5_beginDefrost_24 : decode cX5_beginDefrost 24 = .ok (.putfield 147, 3) := by decide +kernel
theorem dX5_beginDefrost_27 : decode cX5_beginDefrost 27 = .ok (.aload_n 0, 1) := by decide +kernel
theorem dX5_beginDefrost_28 : decode cX5_beginDefrost 28 = .ok (.dup, 1) := by decide +kernel
theorem dX5_beginDefrost_29 : decode cX5_beginDefrost 29 = .ok (.getfield 50, 3) := by decide +kernel
theorem dX5_beginDefrost_32 : decode cX5_beginDefrost 32 = .ok (.iconst 1, 1) := by decide +kernel
theorem dX5_beginDefrost_33 : decode cX5_beginDefrost 33 = .ok (.iadd, 1) := by decide +kernel
theorem dX5_beginDefrost_34 : decode cX5_beginDefrost 34 = .ok (.putfield 50, 3) := by decide +kernel
theorem dX5_beginDefrost_37 : decode cX5_beginDefrost 37 = .ok (.return_, 1) := by decide +kernel
theorem dX5_countMinute_0 : decode cX5_countMinute 0 = .ok (.aload_n 1, 1) := by decide +kernel
theorem dX5_countMinute_1 : decode cX5_countMinute 1 = .ok (.dup, 1) := by decide +kernel
theorem dX5_countMinute_2 : decode cX5_countMinute 2 = .ok (.getfield 150, 3) := by decide +kernel
theorem dX5_countMinute_5 : decode cX5_countMinute 5 = .ok (.aload_n 1, 1) := by decide +kernel
theorem dX5_countMinute_6 : decode cX5_countMinute 6 = .ok (.invokevirtual 153, 3) := by decide +kernel
theorem dX5_countMinute_9 : decode cX5_countMinute 9 = .ok (.ifCond .eq 7, 3) := by decide +kernel
theorem dX5_countMinute_12 : decode cX5_countMinute 12 = .ok (.iconst 1, 1) := by decide +kernel
theorem dX5_countMinute_13 : decode cX5_countMinute 13 = .ok (.goto 4, 3) := by decide +kernel
theorem dX5_countMinute_16 : decode cX5_countMinute 16 = .ok (.iconst 0, 1) := by decide +kernel
theorem dX5_countMinute_17 : decode cX5_countMinute 17 = .ok (.iadd, 1) := by decide +kernel
theorem dX5_countMinute_18 : decode cX5_countMinute 18 = .ok (.putfield 150, 3) := by decide +kernel
theorem dX5_countMinute_21 : decode cX5_countMinute 21 = .ok (.aload_n 0, 1) := by decide +kernel
theorem dX5_countMinute_22 : decode cX5_countMinute 22 = .ok (.dup, 1) := by decide +kernel
theorem dX5_countMinute_23 : decode cX5_countMinute 23 = .ok (.getfield 53, 3) := by decide +kernel
theorem dX5_countMinute_26 : decode cX5_countMinute 26 = .ok (.aload_n 1, 1) := by decide +kernel
theorem dX5_countMinute_27 : decode cX5_countMinute 27 = .ok (.getfield 141, 3) := by decide +kernel
theorem dX5_countMinute_30 : decode cX5_countMinute 30 = .ok (.iconst 4, 1) := by decide +kernel
theorem dX5_countMinute_31 : decode cX5_countMinute 31 = .ok (.if_icmp .ne 7, 3) := by decide +kernel
theorem dX5_countMinute_34 : decode cX5_countMinute 34 = .ok (.iconst 1, 1) := by decide +kernel
theorem dX5_countMinute_35 : decode cX5_countMinute 35 = .ok (.goto 4, 3) := by decide +kernel
theorem dX5_countMinute_38 : decode cX5_countMinute 38 = .ok (.iconst 0, 1) := by decide +kernel
theorem dX5_countMinute_39 : decode cX5_countMinute 39 = .ok (.iadd, 1) := by decide +kernel
theorem dX5_countMinute_40 : decode cX5_countMinute 40 = .ok (.putfield 53, 3) := by decide +kernel
theorem dX5_countMinute_43 : decode cX5_countMinute 43 = .ok (.aload_n 0, 1) := by decide +kernel
theorem dX5_countMinute_44 : decode cX5_countMinute 44 = .ok (.dup, 1) := by decide +kernel
theorem dX5_countMinute_45 : decode cX5_countMinute 45 = .ok (.getfield 56, 3) := by decide +kernel
theorem dX5_countMinute_48 : decode cX5_countMinute 48 = .ok (.aload_n 1, 1) := by decide +kernel
theorem dX5_countMinute_49 : decode cX5_countMinute 49 = .ok (.getfield 141, 3) := by decide +kernel
theorem dX5_countMinute_52 : decode cX5_countMinute 52 = .ok (.bipush 6, 2) := by decide +kernel
theorem dX5_countMinute_54 : decode cX5_countMinute 54 = .ok (.if_icmp .ne 7, 3) := by decide +kernel
theorem dX5_countMinute_57 : decode cX5_countMinute 57 = .ok (.iconst 1, 1) := by decide +kernel
theorem dX5_countMinute_58 : decode cX5_countMinute 58 = .ok (.goto 4, 3) := by decide +kernel
theorem dX5_countMinute_61 : decode cX5_countMinute 61 = .ok (.iconst 0, 1) := by decide +kernel
theorem dX5_countMinute_62 : decode cX5_countMinute 62 = .ok (.iadd, 1) := by decide +kernel
theorem dX5_countMinute_63 : decode cX5_countMinute 63 = .ok (.putfield 56, 3) := by decide +kernel
theorem dX5_countMinute_66 : decode cX5_countMinute 66 = .ok (.aload_n 0, 1) := by decide +kernel
theorem dX5_countMinute_67 : decode cX5_countMinute 67 = .ok (.dup, 1) := by decide +kernel
theorem dX5_countMinute_68 : decode cX5_countMinute 68 = .ok (.getfield 59, 3) := by decide +kernel
theorem dX5_countMinute_71 : decode cX5_countMinute 71 = .ok (.aload_n 1, 1) := by decide +kernel
theorem dX5_countMinute_72 : decode cX5_countMinute 72 = .ok (.invokevirtual 156, 3) := by decide +kernel
theorem dX5_countMinute_75 : decode cX5_countMinute 75 = .ok (.ifCond .eq 7, 3) := by decide +kernel
theorem dX5_countMinute_78 : decode cX5_countMinute 78 = .ok (.iconst 1, 1) := by decide +kernel
theorem dX5_countMinute_79 : decode cX5_countMinute 79 = .ok (.goto 4, 3) := by decide +kernel
theorem dX5_countMinute_82 : decode cX5_countMinute 82 = .ok (.iconst 0, 1) := by decide +kernel
theorem dX5_countMinute_83 : decode cX5_countMinute 83 = .ok (.iadd, 1) := by decide +kernel
theorem dX5_countMinute_84 : decode cX5_countMinute 84 = .ok (.putfield 59, 3) := by decide +kernel
theorem dX5_countMinute_87 : decode cX5_countMinute 87 = .ok (.return_, 1) := by decide +kernel
theorem dX5_takeUnits_0 : decode cX5_takeUnits 0 = .ok (.aload_n 0, 1) := by decide +kernel
theorem dX5_takeUnits_1 : decode cX5_takeUnits 1 = .ok (.dup, 1) := by decide +kernel
theorem dX5_takeUnits_2 : decode cX5_takeUnits 2 = .ok (.getfield 38, 3) := by decide +kernel
theorem dX5_takeUnits_5 : decode cX5_takeUnits 5 = .ok (.iload_n 1, 1) := by decide +kernel
theorem dX5_takeUnits_6 : decode cX5_takeUnits 6 = .ok (.iadd, 1) := by decide +kernel
theorem dX5_takeUnits_7 : decode cX5_takeUnits 7 = .ok (.putfield 38, 3) := by decide +kernel
theorem dX5_takeUnits_10 : decode cX5_takeUnits 10 = .ok (.aload_n 0, 1) := by decide +kernel
theorem dX5_takeUnits_11 : decode cX5_takeUnits 11 = .ok (.dup, 1) := by decide +kernel
theorem dX5_takeUnits_12 : decode cX5_takeUnits 12 = .ok (.getfield 47, 3) := by decide +kernel
theorem dX5_takeUnits_15 : decode cX5_takeUnits 15 = .ok (.iload_n 1, 1) := by decide +kernel
theorem dX5_takeUnits_16 : decode cX5_takeUnits 16 = .ok (.iadd, 1) := by decide +kernel
theorem dX5_takeUnits_17 : decode cX5_takeUnits 17 = .ok (.putfield 47, 3) := by decide +kernel
theorem dX5_takeUnits_20 : decode cX5_takeUnits 20 = .ok (.aload_n 0, 1) := by decide +kernel
theorem dX5_takeUnits_21 : decode cX5_takeUnits 21 = .ok (.invokevirtual 66, 3) := by decide +kernel
theorem dX5_takeUnits_24 : decode cX5_takeUnits 24 = .ok (.iconst 1, 1) := by decide +kernel
theorem dX5_takeUnits_25 : decode cX5_takeUnits 25 = .ok (.if_icmp .ne 51, 3) := by decide +kernel
theorem dX5_takeUnits_28 : decode cX5_takeUnits 28 = .ok (.aload_n 0, 1) := by decide +kernel
theorem dX5_takeUnits_29 : decode cX5_takeUnits 29 = .ok (.dup, 1) := by decide +kernel
theorem dX5_takeUnits_30 : decode cX5_takeUnits 30 = .ok (.getfield 41, 3) := by decide +kernel
theorem dX5_takeUnits_33 : decode cX5_takeUnits 33 = .ok (.aload_n 0, 1) := by decide +kernel
theorem dX5_takeUnits_34 : decode cX5_takeUnits 34 = .ok (.getfield 38, 3) := by decide +kernel
theorem dX5_takeUnits_37 : decode cX5_takeUnits 37 = .ok (.aload_n 0, 1) := by decide +kernel
theorem dX5_takeUnits_38 : decode cX5_takeUnits 38 = .ok (.getfield 12, 3) := by decide +kernel
theorem dX5_takeUnits_41 : decode cX5_takeUnits 41 = .ok (.getfield 159, 3) := by decide +kernel
theorem dX5_takeUnits_44 : decode cX5_takeUnits 44 = .ok (.if_icmp .le 7, 3) := by decide +kernel
theorem dX5_takeUnits_47 : decode cX5_takeUnits 47 = .ok (.iconst 1, 1) := by decide +kernel
theorem dX5_takeUnits_48 : decode cX5_takeUnits 48 = .ok (.goto 4, 3) := by decide +kernel
theorem dX5_takeUnits_51 : decode cX5_takeUnits 51 = .ok (.iconst 0, 1) := by decide +kernel
theorem dX5_takeUnits_52 : decode cX5_takeUnits 52 = .ok (.iadd, 1) := by decide +kernel
theorem dX5_takeUnits_53 : decode cX5_takeUnits 53 = .ok (.putfield 41, 3) := by decide +kernel
theorem dX5_takeUnits_56 : decode cX5_takeUnits 56 = .ok (.aload_n 0, 1) := by decide +kernel
theorem dX5_takeUnits_57 : decode cX5_takeUnits 57 = .ok (.aload_n 0, 1) := by decide +kernel
theorem dX5_takeUnits_58 : decode cX5_takeUnits 58 = .ok (.getfield 44, 3) := by decide +kernel
theorem dX5_takeUnits_61 : decode cX5_takeUnits 61 = .ok (.aload_n 0, 1) := by decide +kernel
theorem dX5_takeUnits_62 : decode cX5_takeUnits 62 = .ok (.getfield 38, 3) := by decide +kernel
theorem dX5_takeUnits_65 : decode cX5_takeUnits 65 = .ok (.invokestatic 162, 3) := by decide +kernel
theorem dX5_takeUnits_68 : decode cX5_takeUnits 68 = .ok (.putfield 44, 3) := by decide +kernel
theorem dX5_takeUnits_71 : decode cX5_takeUnits 71 = .ok (.aload_n 0, 1) := by decide +kernel
theorem dX5_takeUnits_72 : decode cX5_takeUnits 72 = .ok (.iconst 0, 1) := by decide +kernel
theorem dX5_takeUnits_73 : decode cX5_takeUnits 73 = .ok (.putfield 38, 3) := by decide +kernel
theorem dX5_takeUnits_76 : decode cX5_takeUnits 76 = .ok (.return_, 1) := by decide +kernel
theorem dX5_minutesLeft_0 : decode cX5_minutesLeft 0 = .ok (.bipush 15, 2) := by decide +kernel
theorem dX5_minutesLeft_2 : decode cX5_minutesLeft 2 = .ok (.aload_n 0, 1) := by decide +kernel
theorem dX5_minutesLeft_3 : decode cX5_minutesLeft 3 = .ok (.getfield 34, 3) := by decide +kernel
theorem dX5_minutesLeft_6 : decode cX5_minutesLeft 6 = .ok (.aload_n 0, 1) := by decide +kernel
theorem dX5_minutesLeft_7 : decode cX5_minutesLeft 7 = .ok (.getfield 12, 3) := by decide +kernel
theorem dX5_minutesLeft_10 : decode cX5_minutesLeft 10 = .ok (.getfield 168, 3) := by decide +kernel
theorem dX5_minutesLeft_13 : decode cX5_minutesLeft 13 = .ok (.iadd, 1) := by decide +kernel
theorem dX5_minutesLeft_14 : decode cX5_minutesLeft 14 = .ok (.bipush 15, 2) := by decide +kernel
theorem dX5_minutesLeft_16 : decode cX5_minutesLeft 16 = .ok (.irem, 1) := by decide +kernel
theorem dX5_minutesLeft_17 : decode cX5_minutesLeft 17 = .ok (.isub, 1) := by decide +kernel
theorem dX5_minutesLeft_18 : decode cX5_minutesLeft 18 = .ok (.ireturn, 1) := by decide +kernel
theorem dX5_spareKilowatts_0 : decode cX5_spareKilowatts 0 = .ok (.aload_n 0, 1) := by decide +kernel
theorem dX5_spareKilowatts_1 : decode cX5_spareKilowatts 1 = .ok (.invokevirtual 66, 3) := by decide +kernel
theorem dX5_spareKilowatts_4 : decode cX5_spareKilowatts 4 = .ok (.istore_n 1, 1) := by decide +kernel
theorem dX5_spareKilowatts_5 : decode cX5_spareKilowatts 5 = .ok (.aload_n 0, 1) := by decide +kernel
theorem dX5_spareKilowatts_6 : decode cX5_spareKilowatts 6 = .ok (.getfield 12, 3) := by decide +kernel
theorem dX5_spareKilowatts_9 : decode cX5_spareKilowatts 9 = .ok (.getfield 159, 3) := by decide +kernel
theorem dX5_spareKilowatts_12 : decode cX5_spareKilowatts 12 = .ok (.aload_n 0, 1) := by decide +kernel
theorem dX5_spareKilowatts_13 : decode cX5_spareKilowatts 13 = .ok (.getfield 38, 3) := by decide +kernel
theorem dX5_spareKilowatts_16 : decode cX5_spareKilowatts 16 = .ok (.isub, 1) := by decide +kernel
theorem dX5_spareKilowatts_17 : decode cX5_spareKilowatts 17 = .ok (.istore_n 2, 1) := by decide +kernel
theorem dX5_spareKilowatts_18 : decode cX5_spareKilowatts 18 = .ok (.iload_n 2, 1) := by decide +kernel
theorem dX5_spareKilowatts_19 : decode cX5_spareKilowatts 19 = .ok (.ifCond .lt 8, 3) := by decide +kernel
theorem dX5_spareKilowatts_22 : decode cX5_spareKilowatts 22 = .ok (.iload_n 1, 1) := by decide +kernel
theorem dX5_spareKilowatts_23 : decode cX5_spareKilowatts 23 = .ok (.iconst 1, 1) := by decide +kernel
theorem dX5_spareKilowatts_24 : decode cX5_spareKilowatts 24 = .ok (.if_icmp .ge 5, 3) := by decide +kernel
theorem dX5_spareKilowatts_27 : decode cX5_spareKilowatts 27 = .ok (.iconst (-1), 1) := by decide +kernel
theorem dX5_spareKilowatts_28 : decode cX5_spareKilowatts 28 = .ok (.ireturn, 1) := by decide +kernel
theorem dX5_spareKilowatts_29 : decode cX5_spareKilowatts 29 = .ok (.iload_n 2, 1) := by decide +kernel
theorem dX5_spareKilowatts_30 : decode cX5_spareKilowatts 30 = .ok (.iload_n 1, 1) := by decide +kernel
theorem dX5_spareKilowatts_31 : decode cX5_spareKilowatts 31 = .ok (.idiv, 1) := by decide +kernel
theorem dX5_spareKilowatts_32 : decode cX5_spareKilowatts 32 = .ok (.aload_n 0, 1) := by decide +kernel
theorem dX5_spareKilowatts_33 : decode cX5_spareKilowatts 33 = .ok (.getfield 12, 3) := by decide +kernel
theorem dX5_spareKilowatts_36 : decode cX5_spareKilowatts 36 = .ok (.getfield 123, 3) := by decide +kernel
theorem dX5_spareKilowatts_39 : decode cX5_spareKilowatts 39 = .ok (.isub, 1) := by decide +kernel
theorem dX5_spareKilowatts_40 : decode cX5_spareKilowatts 40 = .ok (.istore_n 3, 1) := by decide +kernel
theorem dX5_spareKilowatts_41 : decode cX5_spareKilowatts 41 = .ok (.iload_n 3, 1) := by decide +kernel
theorem dX5_spareKilowatts_42 : decode cX5_spareKilowatts 42 = .ok (.ifCond .ge 7, 3) := by decide +kernel
theorem dX5_spareKilowatts_45 : decode cX5_spareKilowatts 45 = .ok (.iconst (-1), 1) := by decide +kernel
theorem dX5_spareKilowatts_46 : decode cX5_spareKilowatts 46 = .ok (.goto 10, 3) := by decide +kernel
theorem dX5_spareKilowatts_49 : decode cX5_spareKilowatts 49 = .ok (.iload_n 3, 1) := by decide +kernel
theorem dX5_spareKilowatts_50 : decode cX5_spareKilowatts 50 = .ok (.sipush 9999, 3) := by decide +kernel
theorem dX5_spareKilowatts_53 : decode cX5_spareKilowatts 53 = .ok (.invokestatic 171, 3) := by decide +kernel
theorem dX5_spareKilowatts_56 : decode cX5_spareKilowatts 56 = .ok (.ireturn, 1) := by decide +kernel
theorem dX5_planMinute_0 : decode cX5_planMinute 0 = .ok (.aload_n 0, 1) := by decide +kernel
theorem dX5_planMinute_1 : decode cX5_planMinute 1 = .ok (.invokevirtual 174, 3) := by decide +kernel
theorem dX5_planMinute_4 : decode cX5_planMinute 4 = .ok (.istore_n 1, 1) := by decide +kernel
theorem dX5_planMinute_5 : decode cX5_planMinute 5 = .ok (.aload_n 0, 1) := by decide +kernel
theorem dX5_planMinute_6 : decode cX5_planMinute 6 = .ok (.invokevirtual 177, 3) := by decide +kernel
theorem dX5_planMinute_9 : decode cX5_planMinute 9 = .ok (.istore_n 2, 1) := by decide +kernel
theorem dX5_planMinute_10 : decode cX5_planMinute 10 = .ok (.aload_n 0, 1) := by decide +kernel
theorem dX5_planMinute_11 : decode cX5_planMinute 11 = .ok (.iload_n 2, 1) := by decide +kernel
theorem dX5_planMinute_12 : decode cX5_planMinute 12 = .ok (.iload_n 1, 1) := by decide +kernel
theorem dX5_planMinute_13 : decode cX5_planMinute 13 = .ok (.invokevirtual 180, 3) := by decide +kernel
theorem dX5_planMinute_16 : decode cX5_planMinute 16 = .ok (.istore_n 2, 1) := by decide +kernel
theorem dX5_planMinute_17 : decode cX5_planMinute 17 = .ok (.aload_n 0, 1) := by decide +kernel
theorem dX5_planMinute_18 : decode cX5_planMinute 18 = .ok (.iload_n 2, 1) := by decide +kernel
theorem dX5_planMinute_19 : decode cX5_planMinute 19 = .ok (.iload_n 1, 1) := by decide +kernel
theorem dX5_planMinute_20 : decode cX5_planMinute 20 = .ok (.invokevirtual 183, 3) := by decide +kernel
theorem dX5_planMinute_23 : decode cX5_planMinute 23 = .ok (.ireturn, 1) := by decide +kernel
theorem dX5_planMusts_0 : decode cX5_planMusts 0 = .ok (.iconst 0, 1) := by decide +kernel
theorem dX5_planMusts_1 : decode cX5_planMusts 1 = .ok (.istore_n 1, 1) := by decide +kernel
theorem dX5_planMusts_2 : decode cX5_planMusts 2 = .ok (.aload_n 0, 1) := by decide +kernel
theorem dX5_planMusts_3 : decode cX5_planMusts 3 = .ok (.getfield 20, 3) := by decide +kernel
theorem dX5_planMusts_6 : decode cX5_planMusts 6 = .ok (.astore_n 2, 1) := by decide +kernel
theorem dX5_planMusts_7 : decode cX5_planMusts 7 = .ok (.aload_n 2, 1) := by decide +kernel
theorem dX5_planMusts_8 : decode cX5_planMusts 8 = .ok (.arraylength, 1) := by decide +kernel
theorem dX5_planMusts_9 : decode cX5_planMusts 9 = .ok (.istore_n 3, 1) := by decide +kernel
theorem dX5_planMusts_10 : decode cX5_planMusts 10 = .ok (.iconst 0, 1) := by decide +kernel
theorem dX5_planMusts_11 : decode cX5_planMusts 11 = .ok (.istore 4, 2) := by decide +kernel
theorem dX5_planMusts_13 : decode cX5_planMusts 13 = .ok (.iload 4, 2) := by decide +kernel
theorem dX5_planMusts_15 : decode cX5_planMusts 15 = .ok (.iload_n 3, 1) := by decide +kernel
theorem dX5_planMusts_16 : decode cX5_planMusts 16 = .ok (.if_icmp .ge 62, 3) := by decide +kernel
theorem dX5_planMusts_19 : decode cX5_planMusts 19 = .ok (.aload_n 2, 1) := by decide +kernel
theorem dX5_planMusts_20 : decode cX5_planMusts 20 = .ok (.iload 4, 2) := by decide +kernel
theorem dX5_planMusts_22 : decode cX5_planMusts 22 = .ok (.aaload, 1) := by decide +kernel
theorem dX5_planMusts_23 : decode cX5_planMusts 23 = .ok (.astore 5, 2) := by decide +kernel
theorem dX5_planMusts_25 : decode cX5_planMusts 25 = .ok (.aload 5, 2) := by decide +kernel
theorem dX5_planMusts_27 : decode cX5_planMusts 27 = .ok (.aload 5, 2) := by decide +kernel
theorem dX5_planMusts_29 : decode cX5_planMusts 29 = .ok (.invokevirtual 186, 3) := by decide +kernel
theorem dX5_planMusts_32 : decode cX5_planMusts 32 = .ok (.putfield 141, 3) := by decide +kernel
theorem dX5_planMusts_35 : decode cX5_planMusts 35 = .ok (.aload 5, 2) := by decide +kernel
theorem dX5_planMusts_37 : decode cX5_planMusts 37 = .ok (.invokevirtual 189, 3) := by decide +kernel
theorem dX5_planMusts_40 : decode cX5_planMusts 40 = .ok (.ifCond .eq 16, 3) := by decide +kernel
theorem dX5_planMusts_43 : decode cX5_planMusts 43 = .ok (.iload_n 1, 1) := by decide +kernel
theorem dX5_planMusts_44 : decode cX5_planMusts 44 = .ok (.aload_n 0, 1) := by decide +kernel
theorem dX5_planMusts_45 : decode cX5_planMusts 45 = .ok (.getfield 12, 3) := by decide +kernel
theorem dX5_planMusts_48 : decode cX5_planMusts 48 = .ok (.getfield 192, 3) := by decide +kernel
theorem dX5_planMusts_51 : decode cX5_planMusts 51 = .ok (.iadd, 1) := by decide +kernel
theorem dX5_planMusts_52 : decode cX5_planMusts 52 = .ok (.istore_n 1, 1) := by decide +kernel
theorem dX5_planMusts_53 : decode cX5_planMusts 53 = .ok (.goto 19, 3) := by decide +kernel
theorem dX5_planMusts_56 : decode cX5_planMusts 56 = .ok (.aload 5, 2) := by decide +kernel
theorem dX5_planMusts_58 : decode cX5_planMusts 58 = .ok (.invokevirtual 153, 3) := by decide +kernel
theorem dX5_planMusts_61 : decode cX5_planMusts 61 = .ok (.ifCond .eq 11, 3) := by decide +kernel
theorem dX5_planMusts_64 : decode cX5_planMusts 64 = .ok (.iload_n 1, 1) := by decide +kernel
theorem dX5_planMusts_65 : decode cX5_planMusts 65 = .ok (.aload 5, 2) := by decide +kernel
theorem dX5_planMusts_67 : decode cX5_planMusts 67 = .ok (.getfield 195, 3) := by decide +kernel
theorem dX5_planMusts_70 : decode cX5_planMusts 70 = .ok (.iadd, 1) := by decide +kernel
theorem dX5_planMusts_71 : decode cX5_planMusts 71 = .ok (.istore_n 1, 1) := by decide +kernel
theorem dX5_planMusts_72 : decode cX5_planMusts 72 = .ok (.iinc 4 1, 3) := by decide +kernel
theorem dX5_planMusts_75 : decode cX5_planMusts 75 = .ok (.goto (-62), 3) := by decide +kernel
theorem dX5_planMusts_78 : decode cX5_planMusts 78 = .ok (.iload_n 1, 1) := by decide +kernel
theorem dX5_planMusts_79 : decode cX5_planMusts 79 = .ok (.ireturn, 1) := by decide +kernel
theorem dX5_planCompressors_0 : decode cX5_planCompressors 0 = .ok (.iload_n 1, 1) := by decide +kernel
theorem dX5_planCompressors_1 : decode cX5_planCompressors 1 = .ok (.istore_n 3, 1) := by decide +kernel
theorem dX5_planCompressors_2 : decode cX5_planCompressors 2 = .ok (.iconst 0, 1) := by decide +kernel
theorem dX5_planCompressors_3 : decode cX5_planCompressors 3 = .ok (.istore 4, 2) := by decide +kernel
theorem dX5_planCompressors_5 : decode cX5_planCompressors 5 = .ok (.iload 4, 2) := by decide +kernel
theorem dX5_planCompressors_7 : decode cX5_planCompressors 7 = .ok (.bipush 6, 2) := by decide +kernel
theorem dX5_planCompressors_9 : decode cX5_planCompressors 9 = .ok (.if_icmp .ge 57, 3) := by decide +kernel
theorem dX5_planCompressors_12 : decode cX5_planCompressors 12 = .ok (.aload_n 0, 1) := by decide +kernel
theorem dX5_planCompressors_13 : decode cX5_planCompressors 13 = .ok (.invokevirtual 198, 3) := by decide +kernel
theorem dX5_planCompressors_16 : decode cX5_planCompressors 16 = .ok (.astore 5, 2) := by decide +kernel
theorem dX5_planCompressors_18 : decode cX5_planCompressors 18 = .ok (.aload 5, 2) := by decide +kernel
theorem dX5_planCompressors_20 : decode cX5_planCompressors 20 = .ok (.ifnonnull 6, 3) := by decide +kernel
theorem dX5_planCompressors_23 : decode cX5_planCompressors 23 = .ok (.goto 43, 3) := by decide +kernel
theorem dX5_planCompressors_26 : decode cX5_planCompressors 26 = .ok (.iload_n 3, 1) := by decide +kernel
theorem dX5_planCompressors_27 : decode cX5_planCompressors 27 = .ok (.aload 5, 2) := by decide +kernel
theorem dX5_planCompressors_29 : decode cX5_planCompressors 29 = .ok (.getfield 195, 3) := by decide +kernel
theorem dX5_planCompressors_32 : decode cX5_planCompressors 32 = .ok (.iadd, 1) := by decide +kernel
theorem dX5_planCompressors_33 : decode cX5_planCompressors 33 = .ok (.iload_n 2, 1) := by decide +kernel
theorem dX5_planCompressors_34 : decode cX5_planCompressors 34 = .ok (.if_icmp .gt 20, 3) := by decide +kernel
theorem dX5_planCompressors_37 : decode cX5_planCompressors 37 = .ok (.aload 5, 2) := by decide +kernel
theorem dX5_planCompressors_39 : decode cX5_planCompressors 39 = .ok (.iconst 3, 1) := by decide +kernel
theorem dX5_planCompressors_40 : decode cX5_planCompressors 40 = .ok (.putfield 141, 3) := by decide +kernel
theorem dX5_planCompressors_43 : decode cX5_planCompressors 43 = .ok (.iload_n 3, 1) := by decide +kernel
theorem dX5_planCompressors_44 : decode cX5_planCompressors 44 = .ok (.aload 5, 2) := by decide +kernel
theorem dX5_planCompressors_46 : decode cX5_planCompressors 46 = .ok (.getfield 195, 3) := by decide +kernel
theorem dX5_planCompressors_49 : decode cX5_planCompressors 49 = .ok (.iadd, 1) := by decide +kernel
theorem dX5_planCompressors_50 : decode cX5_planCompressors 50 = .ok (.istore_n 3, 1) := by decide +kernel
theorem dX5_planCompressors_51 : decode cX5_planCompressors 51 = .ok (.goto 9, 3) := by decide +kernel
theorem dX5_planCompressors_54 : decode cX5_planCompressors 54 = .ok (.aload 5, 2) := by decide +kernel
theorem dX5_planCompressors_56 : decode cX5_planCompressors 56 = .ok (.iconst 4, 1) := by decide +kernel
theorem dX5_planCompressors_57 : decode cX5_planCompressors 57 = .ok (.putfield 141, 3) := by decide +kernel
theorem dX5_planCompressors_60 : decode cX5_planCompressors 60 = .ok (.iinc 4 1, 3) := by decide +kernel
theorem dX5_planCompressors_63 : decode cX5_planCompressors 63 = .ok (.goto (-58), 3) := by decide +kernel
theorem dX5_planCompressors_66 : decode cX5_planCompressors 66 = .ok (.iload_n 3, 1) := by decide +kernel
theorem dX5_planCompressors_67 : decode cX5_planCompressors 67 = .ok (.ireturn, 1) := by decide +kernel
theorem dX5_planDefrosts_0 : decode cX5_planDefrosts 0 = .ok (.iload_n 1, 1) := by decide +kernel
theorem dX5_planDefrosts_1 : decode cX5_planDefrosts 1 = .ok (.istore_n 3, 1) := by decide +kernel
theorem dX5_planDefrosts_2 : decode cX5_planDefrosts 2 = .ok (.iconst 0, 1) := by decide +kernel
theorem dX5_planDefrosts_3 : decode cX5_planDefrosts 3 = .ok (.istore 4, 2) := by decide +kernel
theorem dX5_planDefrosts_5 : decode cX5_planDefrosts 5 = .ok (.iload 4, 2) := by decide +kernel
theorem dX5_planDefrosts_7 : decode cX5_planDefrosts 7 = .ok (.bipush 6, 2) := by decide +kernel
theorem dX5_planDefrosts_9 : decode cX5_planDefrosts 9 = .ok (.if_icmp .ge 62, 3) := by decide +kernel
theorem dX5_planDefrosts_12 : decode cX5_planDefrosts 12 = .ok (.aload_n 0, 1) := by decide +kernel
theorem dX5_planDefrosts_13 : decode cX5_planDefrosts 13 = .ok (.invokevirtual 201, 3) := by decide +kernel
theorem dX5_planDefrosts_16 : decode cX5_planDefrosts 16 = .ok (.astore 5, 2) := by decide +kernel
theorem dX5_planDefrosts_18 : decode cX5_planDefrosts 18 = .ok (.aload 5, 2) := by decide +kernel
theorem dX5_planDefrosts_20 : decode cX5_planDefrosts 20 = .ok (.ifnonnull 6, 3) := by decide +kernel
theorem dX5_planDefrosts_23 : decode cX5_planDefrosts 23 = .ok (.goto 48, 3) := by decide +kernel
theorem dX5_planDefrosts_26 : decode cX5_planDefrosts 26 = .ok (.iload_n 3, 1) := by decide +kernel
theorem dX5_planDefrosts_27 : decode cX5_planDefrosts 27 = .ok (.aload_n 0, 1) := by decide +kernel
theorem dX5_planDefrosts_28 : decode cX5_planDefrosts 28 = .ok (.getfield 12, 3) := by decide +kernel
theorem dX5_planDefrosts_31 : decode cX5_planDefrosts 31 = .ok (.getfield 192, 3) := by decide +kernel
theorem dX5_planDefrosts_34 : decode cX5_planDefrosts 34 = .ok (.iadd, 1) := by decide +kernel
theorem dX5_planDefrosts_35 : decode cX5_planDefrosts 35 = .ok (.iload_n 2, 1) := by decide +kernel
theorem dX5_planDefrosts_36 : decode cX5_planDefrosts 36 = .ok (.if_icmp .gt 22, 3) := by decide +kernel
theorem dX5_planDefrosts_39 : decode cX5_planDefrosts 39 = .ok (.aload 5, 2) := by decide +kernel
theorem dX5_planDefrosts_41 : decode cX5_planDefrosts 41 = .ok (.iconst 5, 1) := by decide +kernel
theorem dX5_planDefrosts_42 : decode cX5_planDefrosts 42 = .ok (.putfield 141, 3) := by decide +kernel
theorem dX5_planDefrosts_45 : decode cX5_planDefrosts 45 = .ok (.iload_n 3, 1) := by decide +kernel
theorem dX5_planDefrosts_46 : decode cX5_planDefrosts 46 = .ok (.aload_n 0, 1) := by decide +kernel
theorem dX5_planDefrosts_47 : decode cX5_planDefrosts 47 = .ok (.getfield 12, 3) := by decide +kernel
theorem dX5_planDefrosts_50 : decode cX5_planDefrosts 50 = .ok (.getfield 192, 3) := by decide +kernel
theorem dX5_planDefrosts_53 : decode cX5_planDefrosts 53 = .ok (.iadd, 1) := by decide +kernel
theorem dX5_planDefrosts_54 : decode cX5_planDefrosts 54 = .ok (.istore_n 3, 1) := by decide +kernel
theorem dX5_planDefrosts_55 : decode cX5_planDefrosts 55 = .ok (.goto 10, 3) := by decide +kernel
theorem dX5_planDefrosts_58 : decode cX5_planDefrosts 58 = .ok (.aload 5, 2) := by decide +kernel
theorem dX5_planDefrosts_60 : decode cX5_planDefrosts 60 = .ok (.bipush 6, 2) := by decide +kernel
theorem dX5_planDefrosts_62 : decode cX5_planDefrosts 62 = .ok (.putfield 141, 3) := by decide +kernel
theorem dX5_planDefrosts_65 : decode cX5_planDefrosts 65 = .ok (.iinc 4 1, 3) := by decide +kernel
theorem dX5_planDefrosts_68 : decode cX5_planDefrosts 68 = .ok (.goto (-63), 3) := by decide +kernel
theorem dX5_planDefrosts_71 : decode cX5_planDefrosts 71 = .ok (.iload_n 3, 1) := by decide +kernel
theorem dX5_planDefrosts_72 : decode cX5_planDefrosts 72 = .ok (.ireturn, 1) := by decide +kernel
theorem dX5_nextToCool_0 : decode cX5_nextToCool 0 = .ok (.aconst_null, 1) := by decide +kernel
theorem dX5_nextToCool_1 : decode cX5_nextToCool 1 = .ok (.astore_n 1, 1) := by decide +kernel
theorem dX5_nextToCool_2 : decode cX5_nextToCool 2 = .ok (.iconst 0, 1) := by decide +kernel
theorem dX5_nextToCool_3 : decode cX5_nextToCool 3 = .ok (.istore_n 2, 1) := by decide +kernel
theorem dX5_nextToCool_4 : decode cX5_nextToCool 4 = .ok (.aload_n 0, 1) := by decide +kernel
theorem dX5_nextToCool_5 : decode cX5_nextToCool 5 = .ok (.getfield 20, 3) := by decide +kernel
theorem dX5_nextToCool_8 : decode cX5_nextToCool 8 = .ok (.astore_n 3, 1) := by decide +kernel
theorem dX5_nextToCool_9 : decode cX5_nextToCool 9 = .ok (.aload_n 3, 1) := by decide +kernel
theorem dX5_nextToCool_10 : decode cX5_nextToCool 10 = .ok (.arraylength, 1) := by decide +kernel
theorem dX5_nextToCool_11 : decode cX5_nextToCool 11 = .ok (.istore 4, 2) := by decide +kernel
theorem dX5_nextToCool_13 : decode cX5_nextToCool 13 = .ok (.iconst 0, 1) := by decide +kernel
theorem dX5_nextToCool_14 : decode cX5_nextToCool 14 = .ok (.istore 5, 2) := by decide +kernel
theorem dX5_nextToCool_16 : decode cX5_nextToCool 16 = .ok (.iload 5, 2) := by decide +kernel
theorem dX5_nextToCool_18 : decode cX5_nextToCool 18 = .ok (.iload 4, 2) := by decide +kernel
theorem dX5_nextToCool_20 : decode cX5_nextToCool 20 = .ok (.if_icmp .ge 50, 3) := by decide +kernel
theorem dX5_nextToCool_23 : decode cX5_nextToCool 23 = .ok (.aload_n 3, 1) := by decide +kernel
theorem dX5_nextToCool_24 : decode cX5_nextToCool 24 = .ok (.iload 5, 2) := by decide +kernel
theorem dX5_nextToCool_26 : decode cX5_nextToCool 26 = .ok (.aaload, 1) := by decide +kernel
theorem dX5_nextToCool_27 : decode cX5_nextToCool 27 = .ok (.astore 6, 2) := by decide +kernel
theorem dX5_nextToCool_29 : decode cX5_nextToCool 29 = .ok (.aload 6, 2) := by decide +kernel
theorem dX5_nextToCool_31 : decode cX5_nextToCool 31 = .ok (.getfield 103, 3) := by decide +kernel
theorem dX5_nextToCool_34 : decode cX5_nextToCool 34 = .ok (.aload 6, 2) := by decide +kernel
theorem dX5_nextToCool_36 : decode cX5_nextToCool 36 = .ok (.getfield 204, 3) := by decide +kernel
theorem dX5_nextToCool_39 : decode cX5_nextToCool 39 = .ok (.isub, 1) := by decide +kernel
theorem dX5_nextToCool_40 : decode cX5_nextToCool 40 = .ok (.istore 7, 2) := by decide +kernel
theorem dX5_nextToCool_42 : decode cX5_nextToCool 42 = .ok (.aload 6, 2) := by decide +kernel
theorem dX5_nextToCool_44 : decode cX5_nextToCool 44 = .ok (.getfield 141, 3) := by decide +kernel
theorem dX5_nextToCool_47 : decode cX5_nextToCool 47 = .ok (.bipush 7, 2) := by decide +kernel
theorem dX5_nextToCool_49 : decode cX5_nextToCool 49 = .ok (.if_icmp .ne 15, 3) := by decide +kernel
theorem dX5_nextToCool_52 : decode cX5_nextToCool 52 = .ok (.iload 7, 2) := by decide +kernel
theorem dX5_nextToCool_54 : decode cX5_nextToCool 54 = .ok (.iload_n 2, 1) := by decide +kernel
theorem dX5_nextToCool_55 : decode cX5_nextToCool 55 = .ok (.if_icmp .le 9, 3) := by decide +kernel
theorem dX5_nextToCool_58 : decode cX5_nextToCool 58 = .ok (.aload 6, 2) := by decide +kernel
theorem dX5_nextToCool_60 : decode cX5_nextToCool 60 = .ok (.astore_n 1, 1) := by decide +kernel
theorem dX5_nextToCool_61 : decode cX5_nextToCool 61 = .ok (.iload 7, 2) := by decide +kernel
theorem dX5_nextToCool_63 : decode cX5_nextToCool 63 = .ok (.istore_n 2, 1) := by decide +kernel
theorem dX5_nextToCool_64 : decode cX5_nextToCool 64 = .ok (.iinc 5 1, 3) := by decide +kernel
theorem dX5_nextToCool_67 : decode cX5_nextToCool 67 = .ok (.goto (-51), 3) := by decide +kernel
theorem dX5_nextToCool_70 : decode cX5_nextToCool 70 = .ok (.aload_n 1, 1) := by decide +kernel
theorem dX5_nextToCool_71 : decode cX5_nextToCool 71 = .ok (.areturn, 1) := by decide +kernel
theorem dX5_nextToDefrost_0 : decode cX5_nextToDefrost 0 = .ok (.aconst_null, 1) := by decide +kernel
theorem dX5_nextToDefrost_1 : decode cX5_nextToDefrost 1 = .ok (.astore_n 1, 1) := by decide +kernel
theorem dX5_nextToDefrost_2 : decode cX5_nextToDefrost 2 = .ok (.aload_n 0, 1) := by decide +kernel
theorem dX5_nextToDefrost_3 : decode cX5_nextToDefrost 3 = .ok (.getfield 12, 3) := by decide +kernel
theorem dX5_nextToDefrost_6 : decode cX5_nextToDefrost 6 = .ok (.getfield 207, 3) := by decide +kernel
theorem dX5_nextToDefrost_9 : decode cX5_nextToDefrost 9 = .ok (.iconst 1, 1) := by decide +kernel
theorem dX5_nextToDefrost_10 : decode cX5_nextToDefrost 10 = .ok (.isub, 1) := by decide +kernel
theorem dX5_nextToDefrost_11 : decode cX5_nextToDefrost 11 = .ok (.istore_n 2, 1) := by decide +kernel
theorem dX5_nextToDefrost_12 : decode cX5_nextToDefrost 12 = .ok (.aload_n 0, 1) := by decide +kernel
theorem dX5_nextToDefrost_13 : decode cX5_nextToDefrost 13 = .ok (.getfield 20, 3) := by decide +kernel
theorem dX5_nextToDefrost_16 : decode cX5_nextToDefrost 16 = .ok (.astore_n 3, 1) := by decide +kernel
theorem dX5_nextToDefrost_17 : decode cX5_nextToDefrost 17 = .ok (.aload_n 3, 1) := by decide +kernel
theorem dX5_nextToDefrost_18 : decode cX5_nextToDefrost 18 = .ok (.arraylength, 1) := by decide +kernel
theorem dX5_nextToDefrost_19 : decode cX5_nextToDefrost 19 = .ok (.istore 4, 2) := by decide +kernel
theorem dX5_nextToDefrost_21 : decode cX5_nextToDefrost 21 = .ok (.iconst 0, 1) := by decide +kernel
theorem dX5_nextToDefrost_22 : decode cX5_nextToDefrost 22 = .ok (.istore 5, 2) := by decide +kernel
theorem dX5_nextToDefrost_24 : decode cX5_nextToDefrost 24 = .ok (.iload 5, 2) := by decide +kernel
theorem dX5_nextToDefrost_26 : decode cX5_nextToDefrost 26 = .ok (.iload 4, 2) := by decide +kernel
theorem dX5_nextToDefrost_28 : decode cX5_nextToDefrost 28 = .ok (.if_icmp .ge 43, 3) := by decide +kernel
theorem dX5_nextToDefrost_31 : decode cX5_nextToDefrost 31 = .ok (.aload_n 3, 1) := by decide +kernel
theorem dX5_nextToDefrost_32 : decode cX5_nextToDefrost 32 = .ok (.iload 5, 2) := by decide +kernel
theorem dX5_nextToDefrost_34 : decode cX5_nextToDefrost 34 = .ok (.aaload, 1) := by decide +kernel
theorem dX5_nextToDefrost_35 : decode cX5_nextToDefrost 35 = .ok (.astore 6, 2) := by decide +kernel
theorem dX5_nextToDefrost_37 : decode cX5_nextToDefrost 37 = .ok (.aload 6, 2) := by decide +kernel
theorem dX5_nextToDefrost_39 : decode cX5_nextToDefrost 39 = .ok (.getfield 141, 3) := by decide +kernel
theorem dX5_nextToDefrost_42 : decode cX5_nextToDefrost 42 = .ok (.bipush 7, 2) := by decide +kernel
theorem dX5_nextToDefrost_44 : decode cX5_nextToDefrost 44 = .ok (.if_icmp .ne 21, 3) := by decide +kernel
theorem dX5_nextToDefrost_47 : decode cX5_nextToDefrost 47 = .ok (.aload 6, 2) := by decide +kernel
theorem dX5_nextToDefrost_49 : decode cX5_nextToDefrost 49 = .ok (.getfield 210, 3) := by decide +kernel
theorem dX5_nextToDefrost_52 : decode cX5_nextToDefrost 52 = .ok (.iload_n 2, 1) := by decide +kernel
theorem dX5_nextToDefrost_53 : decode cX5_nextToDefrost 53 = .ok (.if_icmp .le 12, 3) := by decide +kernel
theorem dX5_nextToDefrost_56 : decode cX5_nextToDefrost 56 = .ok (.aload 6, 2) := by decide +kernel
theorem dX5_nextToDefrost_58 : decode cX5_nextToDefrost 58 = .ok (.astore_n 1, 1) := by decide +kernel
theorem dX5_nextToDefrost_59 : decode cX5_nextToDefrost 59 = .ok (.aload 6, 2) := by decide +kernel
theorem dX5_nextToDefrost_61 : decode cX5_nextToDefrost 61 = .ok (.getfield 210, 3) := by decide +kernel
theorem dX5_nextToDefrost_64 : decode cX5_nextToDefrost 64 = .ok (.istore_n 2, 1) := by decide +kernel
theorem dX5_nextToDefrost_65 : decode cX5_nextToDefrost 65 = .ok (.iinc 5 1, 3) := by decide +kernel
theorem dX5_nextToDefrost_68 : decode cX5_nextToDefrost 68 = .ok (.goto (-44), 3) := by decide +kernel
theorem dX5_nextToDefrost_71 : decode cX5_nextToDefrost 71 = .ok (.aload_n 1, 1) := by decide +kernel
theorem dX5_nextToDefrost_72 : decode cX5_nextToDefrost 72 = .ok (.areturn, 1) := by decide +kernel
theorem dX6_init_0 : decode cX6_init 0 = .ok (.aload_n 0, 1) := by decide +kernel
theorem dX6_init_1 : decode cX6_init 1 = .ok (.invokespecial 3, 3) := by decide +kernel
theorem dX6_init_4 : decode cX6_init 4 = .ok (.aload_n 0, 1) := by decide +kernel
theorem dX6_init_5 : decode cX6_init 5 = .ok (.bipush 120, 2) := by decide +kernel
theorem dX6_init_7 : decode cX6_init 7 = .ok (.newarray .char, 2) := by decide +kernel
theorem dX6_init_9 : decode cX6_init 9 = .ok (.putfield 9, 3) := by decide +kernel
theorem dX6_init_12 : decode cX6_init 12 = .ok (.return_, 1) := by decide +kernel
theorem dX6_isFull_0 : decode cX6_isFull 0 = .ok (.aload_n 0, 1) := by decide +kernel
theorem dX6_isFull_1 : decode cX6_isFull 1 = .ok (.getfield 15, 3) := by decide +kernel
theorem dX6_isFull_4 : decode cX6_isFull 4 = .ok (.aload_n 0, 1) := by decide +kernel
theorem dX6_isFull_5 : decode cX6_isFull 5 = .ok (.getfield 9, 3) := by decide +kernel
theorem dX6_isFull_8 : decode cX6_isFull 8 = .ok (.arraylength, 1) := by decide +kernel
theorem dX6_isFull_9 : decode cX6_isFull 9 = .ok (.if_icmp .lt 7, 3) := by decide +kernel
theorem dX6_isFull_12 : decode cX6_isFull 12 = .ok (.iconst 1, 1) := by decide +kernel
theorem dX6_isFull_13 : decode cX6_isFull 13 = .ok (.goto 4, 3) := by decide +kernel
theorem dX6_isFull_16 : decode cX6_isFull 16 = .ok (.iconst 0, 1) := by decide +kernel
theorem dX6_isFull_17 : decode cX6_isFull 17 = .ok (.ireturn, 1) := by decide +kernel
theorem dX6_lengthen_0 : decode cX6_lengthen 0 = .ok (.aload_n 0, 1) := by decide +kernel
theorem dX6_lengthen_1 : decode cX6_lengthen 1 = .ok (.getfield 15, 3) := by decide +kernel
theorem dX6_lengthen_4 : decode cX6_lengthen 4 = .ok (.ifCond .lt 36, 3) := by decide +kernel
theorem dX6_lengthen_7 : decode cX6_lengthen 7 = .ok (.aload_n 0, 1) := by decide +kernel
theorem dX6_lengthen_8 : decode cX6_lengthen 8 = .ok (.getfield 15, 3) := by decide +kernel
theorem dX6_lengthen_11 : decode cX6_lengthen 11 = .ok (.aload_n 0, 1) := by decide +kernel
theorem dX6_lengthen_12 : decode cX6_lengthen 12 = .ok (.getfield 9, 3) := by decide +kernel
theorem dX6_lengthen_15 : decode cX6_lengthen 15 = .ok (.arraylength, 1) := by decide +kernel
theorem dX6_lengthen_16 : decode cX6_lengthen 16 = .ok (.if_icmp .ge 24, 3) := by decide +kernel
theorem dX6_lengthen_19 : decode cX6_lengthen 19 = .ok (.aload_n 0, 1) := by decide +kernel
theorem dX6_lengthen_20 : decode cX6_lengthen 20 = .ok (.getfield 9, 3) := by decide +kernel
theorem dX6_lengthen_23 : decode cX6_lengthen 23 = .ok (.aload_n 0, 1) := by decide +kernel
theorem dX6_lengthen_24 : decode cX6_lengthen 24 = .ok (.getfield 15, 3) := by decide +kernel
theorem dX6_lengthen_27 : decode cX6_lengthen 27 = .ok (.iload_n 1, 1) := by decide +kernel
theorem dX6_lengthen_28 : decode cX6_lengthen 28 = .ok (.i2c, 1) := by decide +kernel
theorem dX6_lengthen_29 : decode cX6_lengthen 29 = .ok (.castore, 1) := by decide +kernel
theorem dX6_lengthen_30 : decode cX6_lengthen 30 = .ok (.aload_n 0, 1) := by decide +kernel
theorem dX6_lengthen_31 : decode cX6_lengthen 31 = .ok (.dup, 1) := by decide +kernel
theorem dX6_lengthen_32 : decode cX6_lengthen 32 = .ok (.getfield 15, 3) := by decide +kernel
theorem dX6_lengthen_35 : decode cX6_lengthen 35 = .ok (.iconst 1, 1) := by decide +kernel
theorem dX6_lengthen_36 : decode cX6_lengthen 36 = .ok (.iadd, 1) := by decide +kernel
theorem dX6_lengthen_37 : decode cX6_lengthen 37 = .ok (.putfield 15, 3) := by decide +kernel
theorem dX6_lengthen_40 : decode cX6_lengthen 40 = .ok (.aload_n 0, 1) := by decide +kernel
theorem dX6_lengthen_41 : decode cX6_lengthen 41 = .ok (.getfield 15, 3) := by decide +kernel
theorem dX6_lengthen_44 : decode cX6_lengthen 44 = .ok (.ireturn, 1) := by decide +kernel
theorem dX6_empty_0 : decode cX6_empty 0 = .ok (.aload_n 0, 1) := by decide +kernel
theorem dX6_empty_1 : decode cX6_empty 1 = .ok (.getfield 15, 3) := by decide +kernel
theorem dX6_empty_4 : decode cX6_empty 4 = .ok (.istore_n 1, 1) := by decide +kernel
theorem dX6_empty_5 : decode cX6_empty 5 = .ok (.aload_n 0, 1) := by decide +kernel
theorem dX6_empty_6 : decode cX6_empty 6 = .ok (.iconst 0, 1) := by decide +kernel
theorem dX6_empty_7 : decode cX6_empty 7 = .ok (.putfield 15, 3) := by decide +kernel
theorem dX6_empty_10 : decode cX6_empty 10 = .ok (.iload_n 1, 1) := by decide +kernel
theorem dX6_empty_11 : decode cX6_empty 11 = .ok (.ireturn, 1) := by decide +kernel
theorem dX6_signAt_0 : decode cX6_signAt 0 = .ok (.iload_n 1, 1) := by decide +kernel
theorem dX6_signAt_1 : decode cX6_signAt 1 = .ok (.ifCond .lt 27, 3) := by decide +kernel
theorem dX6_signAt_4 : decode cX6_signAt 4 = .ok (.iload_n 1, 1) := by decide +kernel
theorem dX6_signAt_5 : decode cX6_signAt 5 = .ok (.aload_n 0, 1) := by decide +kernel
theorem dX6_signAt_6 : decode cX6_signAt 6 = .ok (.getfield 15, 3) := by decide +kernel
theorem dX6_signAt_9 : decode cX6_signAt 9 = .ok (.if_icmp .ge 19, 3) := by decide +kernel
theorem dX6_signAt_12 : decode cX6_signAt 12 = .ok (.iload_n 1, 1) := by decide +kernel
theorem dX6_signAt_13 : decode cX6_signAt 13 = .ok (.aload_n 0, 1) := by decide +kernel
theorem dX6_signAt_14 : decode cX6_signAt 14 = .ok (.getfield 9, 3) := by decide +kernel
theorem dX6_signAt_17 : decode cX6_signAt 17 = .ok (.arraylength, 1) := by decide +kernel
theorem dX6_signAt_18 : decode cX6_signAt 18 = .ok (.if_icmp .ge 10, 3) := by decide +kernel
theorem dX6_signAt_21 : decode cX6_signAt 21 = .ok (.aload_n 0, 1) := by decide +kernel
theorem dX6_signAt_22 : decode cX6_signAt 22 = .ok (.getfield 9, 3) := by decide +kernel
theorem dX6_signAt_25 : decode cX6_signAt 25 = .ok (.iload_n 1, 1) := by decide +kernel
theorem dX6_signAt_26 : decode cX6_signAt 26 = .ok (.caload, 1) := by decide +kernel
theorem dX6_signAt_27 : decode cX6_signAt 27 = .ok (.ireturn, 1) := by decide +kernel
theorem dX6_signAt_28 : decode cX6_signAt 28 = .ok (.iconst (-1), 1) := by decide +kernel
theorem dX6_signAt_29 : decode cX6_signAt 29 = .ok (.ireturn, 1) := by decide +kernel
theorem dX7_init_0 : decode cX7_init 0 = .ok (.aload_n 0, 1) := by decide +kernel
theorem dX7_init_1 : decode cX7_init 1 = .ok (.invokespecial 1, 3) := by decide +kernel
theorem dX7_init_4 : decode cX7_init 4 = .ok (.aload_n 0, 1) := by decide +kernel
theorem dX7_init_5 : decode cX7_init 5 = .ok (.new 7, 3) := by decide +kernel
theorem dX7_init_8 : decode cX7_init 8 = .ok (.dup, 1) := by decide +kernel
theorem dX7_init_9 : decode cX7_init 9 = .ok (.invokespecial 9, 3) := by decide +kernel
theorem dX7_init_12 : decode cX7_init 12 = .ok (.putfield 10, 3) := by decide +kernel
theorem dX7_init_15 : decode cX7_init 15 = .ok (.aload_n 0, 1) := by decide +kernel
theorem dX7_init_16 : decode cX7_init 16 = .ok (.new 16, 3) := by decide +kernel
theorem dX7_init_19 : decode cX7_init 19 = .ok (.dup, 1) := by decide +kernel
theorem dX7_init_20 : decode cX7_init 20 = .ok (.invokespecial 18, 3) := by decide +kernel
theorem dX7_init_23 : decode cX7_init 23 = .ok (.putfield 19, 3) := by decide +kernel
theorem dX7_init_26 : decode cX7_init 26 = .ok (.aload_n 0, 1) := by decide +kernel
theorem dX7_init_27 : decode cX7_init 27 = .ok (.new 16, 3) := by decide +kernel
theorem dX7_init_30 : decode cX7_init 30 = .ok (.dup, 1) := by decide +kernel
theorem dX7_init_31 : decode cX7_init 31 = .ok (.invokespecial 18, 3) := by decide +kernel
theorem dX7_init_34 : decode cX7_init 34 = .ok (.putfield 23, 3) := by decide +kernel
theorem dX7_init_37 : decode cX7_init 37 = .ok (.aload_n 0, 1) := by decide +kernel
theorem dX7_init_38 : decode cX7_init 38 = .ok (.new 16, 3) := by decide +kernel
theorem dX7_init_41 : decode cX7_init 41 = .ok (.dup, 1) := by decide +kernel
theorem dX7_init_42 : decode cX7_init 42 = .ok (.invokespecial 18, 3) := by decide +kernel
theorem dX7_init_45 : decode cX7_init 45 = .ok (.putfield 26, 3) := by decide +kernel
theorem dX7_init_48 : decode cX7_init 48 = .ok (.aload_n 0, 1) := by decide +kernel
theorem dX7_init_49 : decode cX7_init 49 = .ok (.new 29, 3) := by decide +kernel
theorem dX7_init_52 : decode cX7_init 52 = .ok (.dup, 1) := by decide +kernel
theorem dX7_init_53 : decode cX7_init 53 = .ok (.invokespecial 31, 3) := by decide +kernel
theorem dX7_init_56 : decode cX7_init 56 = .ok (.putfield 32, 3) := by decide +kernel
theorem dX7_init_59 : decode cX7_init 59 = .ok (.aload_n 0, 1) := by decide +kernel
theorem dX7_init_60 : decode cX7_init 60 = .ok (.new 36, 3) := by decide +kernel
theorem dX7_init_63 : decode cX7_init 63 = .ok (.dup, 1) := by decide +kernel
theorem dX7_init_64 : decode cX7_init 64 = .ok (.invokespecial 38, 3) := by decide +kernel
theorem dX7_init_67 : decode cX7_init 67 = .ok (.putfield 39, 3) := by decide +kernel
theorem dX7_init_70 : decode cX7_init 70 = .ok (.aload_n 0, 1) := by decide +kernel
theorem dX7_init_71 : decode cX7_init 71 = .ok (.new 36, 3) := by decide +kernel
theorem dX7_init_74 : decode cX7_init 74 = .ok (.dup, 1) := by decide +kernel
theorem dX7_init_75 : decode cX7_init 75 = .ok (.invokespecial 38, 3) := by decide +kernel
theorem dX7_init_78 : decode cX7_init 78 = .ok (.putfield 43, 3) := by decide +kernel
theorem dX7_init_81 : decode cX7_init 81 = .ok (.return_, 1) := by decide +kernel
theorem dX7_append_0 : decode cX7_append 0 = .ok (.iload_n 1, 1) := by decide +kernel
theorem dX7_append_1 : decode cX7_append 1 = .ok (.ifCond .lt 10, 3) := by decide +kernel
theorem dX7_append_4 : decode cX7_append 4 = .ok (.iload_n 1, 1) := by decide +kernel
theorem dX7_append_5 : decode cX7_append 5 = .ok (.sipush 255, 3) := by decide +kernel
theorem dX7_append_8 : decode cX7_append 8 = .ok (.if_icmp .le 13, 3) := by decide +kernel
theorem dX7_append_11 : decode cX7_append 11 = .ok (.new 46, 3) := by decide +kernel
theorem dX7_append_14 : decode cX7_append 14 = .ok (.dup, 1) := by decide +kernel
theorem dX7_append_15 : decode cX7_append 15 = .ok (.ldc 48, 2) := by decide +kernel
theorem dX7_append_17 : decode cX7_append 17 = .ok (.invokespecial 50, 3) := by decide +kernel
theorem dX7_append_20 : decode cX7_append 20 = .ok (.athrow, 1) := by decide +kernel
theorem dX7_append_21 : decode cX7_append 21 = .ok (.aload_n 0, 1) := by decide +kernel
theorem dX7_append_22 : decode cX7_append 22 = .ok (.getfield 10, 3) := by decide +kernel
theorem dX7_append_25 : decode cX7_append 25 = .ok (.getfield 53, 3) := by decide +kernel
theorem dX7_append_28 : decode cX7_append 28 = .ok (.invokevirtual 57, 3) := by decide +kernel
theorem dX7_append_31 : decode cX7_append 31 = .ok (.ifCond .eq 13, 3) := by decide +kernel
theorem dX7_append_34 : decode cX7_append 34 = .ok (.new 63, 3) := by decide +kernel
theorem dX7_append_37 : decode cX7_append 37 = .ok (.dup, 1) := by decide +kernel
theorem dX7_append_38 : decode cX7_append 38 = .ok (.ldc 65, 2) := by decide +kernel
theorem dX7_append_40 : decode cX7_append 40 = .ok (.invokespecial 67, 3) := by decide +kernel
theorem dX7_append_43 : decode cX7_append 43 = .ok (.athrow, 1) := by decide +kernel
theorem dX7_append_44 : decode cX7_append 44 = .ok (.aload_n 0, 1) := by decide +kernel
theorem dX7_append_45 : decode cX7_append 45 = .ok (.getfield 10, 3) := by decide +kernel
theorem dX7_append_48 : decode cX7_append 48 = .ok (.getfield 53, 3) := by decide +kernel
theorem dX7_append_51 : decode cX7_append 51 = .ok (.iload_n 1, 1) := by decide +kernel
theorem dX7_append_52 : decode cX7_append 52 = .ok (.invokevirtual 68, 3) := by decide +kernel
theorem dX7_append_55 : decode cX7_append 55 = .ok (.ireturn, 1) := by decide +kernel
theorem dX7_clearText_0 : decode cX7_clearText 0 = .ok (.aload_n 0, 1) := by decide +kernel
theorem dX7_clearText_1 : decode cX7_clearText 1 = .ok (.getfield 10, 3) := by decide +kernel
theorem dX7_clearText_4 : decode cX7_clearText 4 = .ok (.getfield 53, 3) := by decide +kernel
theorem dX7_clearText_7 : decode cX7_clearText 7 = .ok (.invokevirtual 72, 3) := by decide +kernel
theorem dX7_clearText_10 : decode cX7_clearText 10 = .ok (.ireturn, 1) := by decide +kernel
theorem dX7_errorPosition_0 : decode cX7_errorPosition 0 = .ok (.aload_n 0, 1) := by decide +kernel
theorem dX7_errorPosition_1 : decode cX7_errorPosition 1 = .ok (.getfield 10, 3) := by decide +kernel
theorem dX7_errorPosition_4 : decode cX7_errorPosition 4 = .ok (.invokevirtual 76, 3) := by decide +kernel
theorem dX7_errorPosition_7 : decode cX7_errorPosition 7 = .ok (.ireturn, 1) := by decide +kernel
theorem dX7_load_0 : decode cX7_load 0 = .ok (.aload_n 0, 1) := by decide +kernel
theorem dX7_load_1 : decode cX7_load 1 = .ok (.getfield 10, 3) := by decide +kernel
theorem dX7_load_4 : decode cX7_load 4 = .ok (.invokevirtual 76, 3) := by decide +kernel
theorem dX7_load_7 : decode cX7_load 7 = .ok (.iconst (-1), 1) := by decide +kernel
theorem dX7_load_8 : decode cX7_load 8 = .ok (.if_icmp .eq 13, 3) := by decide +kernel
theorem dX7_load_11 : decode cX7_load 11 = .ok (.new 63, 3) := by decide +kernel
theorem dX7_load_14 : decode cX7_load 14 = .ok (.dup, 1) := by decide +kernel
theorem dX7_load_15 : decode cX7_load 15 = .ok (.ldc 79, 2) := by decide +kernel
theorem dX7_load_17 : decode cX7_load 17 = .ok (.invokespecial 67, 3) := by decide +kernel
theorem dX7_load_20 : decode cX7_load 20 = .ok (.athrow, 1) := by decide +kernel
theorem dX7_load_21 : decode cX7_load 21 = .ok (.aload_n 0, 1) := by decide +kernel
theorem dX7_load_22 : decode cX7_load 22 = .ok (.getfield 23, 3) := by decide +kernel
theorem dX7_load_25 : decode cX7_load 25 = .ok (.aload_n 0, 1) := by decide +kernel
theorem dX7_load_26 : decode cX7_load 26 = .ok (.getfield 19, 3) := by decide +kernel
theorem dX7_load_29 : decode cX7_load 29 = .ok (.invokevirtual 81, 3) := by decide +kernel
theorem dX7_load_32 : decode cX7_load 32 = .ok (.aload_n 0, 1) := by decide +kernel
theorem dX7_load_33 : decode cX7_load 33 = .ok (.getfield 32, 3) := by decide +kernel
theorem dX7_load_36 : decode cX7_load 36 = .ok (.invokevirtual 85, 3) := by decide +kernel
theorem dX7_load_39 : decode cX7_load 39 = .ok (.aload_n 0, 1) := by decide +kernel
theorem dX7_load_40 : decode cX7_load 40 = .ok (.getfield 39, 3) := by decide +kernel
theorem dX7_load_43 : decode cX7_load 43 = .ok (.invokevirtual 88, 3) := by decide +kernel
theorem dX7_load_46 : decode cX7_load 46 = .ok (.aload_n 0, 1) := by decide +kernel
theorem dX7_load_47 : decode cX7_load 47 = .ok (.getfield 43, 3) := by decide +kernel
theorem dX7_load_50 : decode cX7_load 50 = .ok (.invokevirtual 88, 3) := by decide +kernel
theorem dX7_load_53 : decode cX7_load 53 = .ok (.iconst 0, 1) := by decide +kernel
theorem dX7_load_54 : decode cX7_load 54 = .ok (.istore_n 1, 1) := by decide +kernel
theorem dX7_load_55 : decode cX7_load 55 = .ok (.aload_n 0, 1) := by decide +kernel
theorem dX7_load_56 : decode cX7_load 56 = .ok (.getfield 10, 3) := by decide +kernel
theorem dX7_load_59 : decode cX7_load 59 = .ok (.invokevirtual 90, 3) := by decide +kernel
theorem dX7_load_62 : decode cX7_load 62 = .ok (.iconst 0, 1) := by decide +kernel
theorem dX7_load_63 : decode cX7_load 63 = .ok (.istore_n 2, 1) := by decide +kernel
theorem dX7_load_64 : decode cX7_load 64 = .ok (.iload_n 2, 1) := by decide +kernel
theorem dX7_load_65 : decode cX7_load 65 = .ok (.bipush 120, 2) := by decide +kernel
theorem dX7_load_67 : decode cX7_load 67 = .ok (.if_icmp .ge 29, 3) := by decide +kernel
theorem dX7_load_70 : decode cX7_load 70 = .ok (.aload_n 0, 1) := by decide +kernel
theorem dX7_load_71 : decode cX7_load 71 = .ok (.getfield 10, 3) := by decide +kernel
theorem dX7_load_74 : decode cX7_load 74 = .ok (.invokevirtual 93, 3) := by decide +kernel
theorem dX7_load_77 : decode cX7_load 77 = .ok (.ifCond .eq 19, 3) := by decide +kernel
theorem dX7_load_80 : decode cX7_load 80 = .ok (.aload_n 0, 1) := by decide +kernel
theorem dX7_load_81 : decode cX7_load 81 = .ok (.invokevirtual 96, 3) := by decide +kernel
theorem dX7_load_84 : decode cX7_load 84 = .ok (.ifCond .ne 6, 3) := by decide +kernel
theorem dX7_load_87 : decode cX7_load 87 = .ok (.iinc 1 1, 3) := by decide +kernel
theorem dX7_load_90 : decode cX7_load 90 = .ok (.iinc 2 1, 3) := by decide +kernel
theorem dX7_load_93 : decode cX7_load 93 = .ok (.goto (-29), 3) := by decide +kernel
theorem dX7_load_96 : decode cX7_load 96 = .ok (.iload_n 1, 1) := by decide +kernel
theorem dX7_load_97 : decode cX7_load 97 = .ok (.ireturn, 1) := by decide +kernel
theorem dX7_doCommand_0 : decode cX7_doCommand 0 = .ok (.aload_n 0, 1) := by decide +kernel
theorem dX7_doCommand_1 : decode cX7_doCommand 1 = .ok (.getfield 10, 3) := by decide +kernel
theorem dX7_doCommand_4 : decode cX7_doCommand 4 = .ok (.getfield 99, 3) := by decide +kernel
theorem dX7_doCommand_7 : decode cX7_doCommand 7 = .ok (.lookupswitch 126 #[(109, 111), (111, 79), (114, 41), (122, 95)], 41) := by decide +kernel
theorem dX7_doCommand_48 : decode cX7_doCommand 48 = .ok (.aload_n 0, 1) := by decide +kernel
theorem dX7_doCommand_49 : decode cX7_doCommand 49 = .ok (.getfield 23, 3) := by decide +kernel
theorem dX7_doCommand_52 : decode cX7_doCommand 52 = .ok (.aload_n 0, 1) := by decide +kernel
theorem dX7_doCommand_53 : decode cX7_doCommand 53 = .ok (.getfield 10, 3) := by decide +kernel
theorem dX7_doCommand_56 : decode cX7_doCommand 56 = .ok (.getfield 103, 3) := by decide +kernel
theorem dX7_doCommand_59 : decode cX7_doCommand 59 = .ok (.aload_n 0, 1) := by decide +kernel
theorem dX7_doCommand_60 : decode cX7_doCommand 60 = .ok (.getfield 10, 3) := by decide +kernel
theorem dX7_doCommand_63 : decode cX7_doCommand 63 = .ok (.getfield 106, 3) := by decide +kernel
theorem dX7_doCommand_66 : decode cX7_doCommand 66 = .ok (.aload_n 0, 1) := by decide +kernel
theorem dX7_doCommand_67 : decode cX7_doCommand 67 = .ok (.getfield 10, 3) := by decide +kernel
theorem dX7_doCommand_70 : decode cX7_doCommand 70 = .ok (.getfield 109, 3) := by decide +kernel
theorem dX7_doCommand_73 : decode cX7_doCommand 73 = .ok (.invokevirtual 112, 3) := by decide +kernel
theorem dX7_doCommand_76 : decode cX7_doCommand 76 = .ok (.iconst (-1), 1) := by decide +kernel
theorem dX7_doCommand_77 : decode cX7_doCommand 77 = .ok (.if_icmp .eq 7, 3) := by decide +kernel
theorem dX7_doCommand_80 : decode cX7_doCommand 80 = .ok (.iconst 1, 1) := by decide +kernel
theorem dX7_doCommand_81 : decode cX7_doCommand 81 = .ok (.goto 4, 3) := by decide +kernel
theorem dX7_doCommand_84 : decode cX7_doCommand 84 = .ok (.iconst 0, 1) := by decide +kernel
theorem dX7_doCommand_85 : decode cX7_doCommand 85 = .ok (.ireturn, 1) := by decide +kernel
theorem dX7_doCommand_86 : decode cX7_doCommand 86 = .ok (.aload_n 0, 1) := by decide +kernel
theorem dX7_doCommand_87 : decode cX7_doCommand 87 = .ok (.getfield 23, 3) := by decide +kernel
theorem dX7_doCommand_90 : decode cX7_doCommand 90 = .ok (.aload_n 0, 1) := by decide +kernel
theorem dX7_doCommand_91 : decode cX7_doCommand 91 = .ok (.getfield 10, 3) := by decide +kernel
theorem dX7_doCommand_94 : decode cX7_doCommand 94 = .ok (.getfield 103, 3) := by decide +kernel
theorem dX7_doCommand_97 : decode cX7_doCommand 97 = .ok (.iconst 1, 1) := by decide +kernel
theorem dX7_doCommand_98 : decode cX7_doCommand 98 = .ok (.invokevirtual 116, 3) := by decide +kernel
theorem dX7_doCommand_101 : decode cX7_doCommand 101 = .ok (.ireturn, 1) := by decide +kernel
theorem dX7_doCommand_102 : decode cX7_doCommand 102 = .ok (.aload_n 0, 1) := by decide +kernel
theorem dX7_doCommand_103 : decode cX7_doCommand 103 = .ok (.getfield 23, 3) := by decide +kernel
theorem dX7_doCommand_106 : decode cX7_doCommand 106 = .ok (.aload_n 0, 1) := by decide +kernel
theorem dX7_doCommand_107 : decode cX7_doCommand 107 = .ok (.getfield 10, 3) := by decide +kernel
theorem dX7_doCommand_110 : decode cX7_doCommand 110 = .ok (.getfield 103, 3) := by decide +kernel
theorem dX7_doCommand_113 : decode cX7_doCommand 113 = .ok (.iconst 0, 1) := by decide +kernel
theorem dX7_doCommand_114 : decode cX7_doCommand 114 = .ok (.invokevirtual 116, 3) := by decide +kernel
theorem dX7_doCommand_117 : decode cX7_doCommand 117 = .ok (.ireturn, 1) := by decide +kernel
theorem dX7_doCommand_118 : decode cX7_doCommand 118 = .ok (.aload_n 0, 1) := by decide +kernel
theorem dX7_doCommand_119 : decode cX7_doCommand 119 = .ok (.getfield 23, 3) := by decide +kernel
theorem dX7_doCommand_122 : decode cX7_doCommand 122 = .ok (.aload_n 0, 1) := by decide +kernel
theorem dX7_doCommand_123 : decode cX7_doCommand 123 = .ok (.getfield 10, 3) := by decide +kernel
theorem dX7_doCommand_126 : decode cX7_doCommand 126 = .ok (.getfield 103, 3) := by decide +kernel
theorem dX7_doCommand_129 : decode cX7_doCommand 129 = .ok (.invokevirtual 120, 3) := by decide +kernel
theorem dX7_doCommand_132 : decode cX7_doCommand 132 = .ok (.ireturn, 1) := by decide +kernel
theorem dX7_doCommand_133 : decode cX7_doCommand 133 = .ok (.aload_n 0, 1) := by decide +kernel
theorem dX7_doCommand_134 : decode cX7_doCommand 134 = .ok (.getfield 23, 3) := by decide +kernel
theorem dX7_doCommand_137 : decode cX7_doCommand 137 = .ok (.iconst 0, 1) := by decide +kernel
theorem dX7_doCommand_138 : decode cX7_doCommand 138 = .ok (.aload_n 0, 1) := by decide +kernel
theorem dX7_doCommand_139 : decode cX7_doCommand 139 = .ok (.getfield 10, 3) := by decide +kernel
theorem dX7_doCommand_142 : decode cX7_doCommand 142 = .ok (.getfield 103, 3) := by decide +kernel
theorem dX7_doCommand_145 : decode cX7_doCommand 145 = .ok (.invokevirtual 124, 3) := by decide +kernel
theorem dX7_doCommand_148 : decode cX7_doCommand 148 = .ok (.ireturn, 1) := by decide +kernel
theorem dX7_about_0 : decode cX7_about 0 = .ok (.iload_n 1, 1) := by decide +kernel
theorem dX7_about_1 : decode cX7_about 1 = .ok (.ifCond .lt 9, 3) := by decide +kernel
theorem dX7_about_4 : decode cX7_about 4 = .ok (.iload_n 1, 1) := by decide +kernel
theorem dX7_about_5 : decode cX7_about 5 = .ok (.bipush 10, 2) := by decide +kernel
theorem dX7_about_7 : decode cX7_about 7 = .ok (.if_icmp .le 13, 3) := by decide +kernel
theorem dX7_about_10 : decode cX7_about 10 = .ok (.new 46, 3) := by decide +kernel
theorem dX7_about_13 : decode cX7_about 13 = .ok (.dup, 1) := by decide +kernel
theorem dX7_about_14 : decode cX7_about 14 = .ok (.ldc 128, 2) := by decide +kernel
theorem dX7_about_16 : decode cX7_about 16 = .ok (.invokespecial 50, 3) := by decide +kernel
theorem dX7_about_19 : decode cX7_about 19 = .ok (.athrow, 1) := by decide +kernel
theorem dX7_about_20 : decode cX7_about 20 = .ok (.aload_n 0, 1) := by decide +kernel
theorem dX7_about_21 : decode cX7_about 21 = .ok (.getfield 23, 3) := by decide +kernel
theorem dX7_about_24 : decode cX7_about 24 = .ok (.iload_n 1, 1) := by decide +kernel
theorem dX7_about_25 : decode cX7_about 25 = .ok (.invokevirtual 130, 3) := by decide +kernel
theorem dX7_about_28 : decode cX7_about 28 = .ok (.ireturn, 1) := by decide +kernel
theorem dX7_room_0 : decode cX7_room 0 = .ok (.aload_n 0, 1) := by decide +kernel
theorem dX7_room_1 : decode cX7_room 1 = .ok (.getfield 23, 3) := by decide +kernel
theorem dX7_room_4 : decode cX7_room 4 = .ok (.iload_n 1, 1) := by decide +kernel
theorem dX7_room_5 : decode cX7_room 5 = .ok (.invokevirtual 133, 3) := by decide +kernel
theorem dX7_room_8 : decode cX7_room 8 = .ok (.astore_n 3, 1) := by decide +kernel
theorem dX7_room_9 : decode cX7_room 9 = .ok (.aload_n 3, 1) := by decide +kernel
theorem dX7_room_10 : decode cX7_room 10 = .ok (.ifnonnull 13, 3) := by decide +kernel
theorem dX7_room_13 : decode cX7_room 13 = .ok (.new 137, 3) := by decide +kernel
theorem dX7_room_16 : decode cX7_room 16 = .ok (.dup, 1) := by decide +kernel
theorem dX7_room_17 : decode cX7_room 17 = .ok (.ldc 139, 2) := by decide +kernel
theorem dX7_room_19 : decode cX7_room 19 = .ok (.invokespecial 141, 3) := by decide +kernel
theorem dX7_room_22 : decode cX7_room 22 = .ok (.athrow, 1) := by decide +kernel
theorem dX7_room_23 : decode cX7_room 23 = .ok (.iload_n 2, 1) := by decide +kernel
theorem dX7_room_24 : decode cX7_room 24 = .ok (.ifCond .lt 9, 3) := by decide +kernel
theorem dX7_room_27 : decode cX7_room 27 = .ok (.iload_n 2, 1) := by decide +kernel
theorem dX7_room_28 : decode cX7_room 28 = .ok (.bipush 7, 2) := by decide +kernel
theorem dX7_room_30 : decode cX7_room 30 = .ok (.if_icmp .le 13, 3) := by decide +kernel
theorem dX7_room_33 : decode cX7_room 33 = .ok (.new 46, 3) := by decide +kernel
theorem dX7_room_36 : decode cX7_room 36 = .ok (.dup, 1) := by decide +kernel
theorem dX7_room_37 : decode cX7_room 37 = .ok (.ldc 142, 2) := by decide +kernel
theorem dX7_room_39 : decode cX7_room 39 = .ok (.invokespecial 50, 3) := by decide +kernel
theorem dX7_room_42 : decode cX7_room 42 = .ok (.athrow, 1) := by decide +kernel
theorem dX7_room_43 : decode cX7_room 43 = .ok (.aload_n 3, 1) := by decide +kernel
theorem dX7_room_44 : decode cX7_room 44 = .ok (.iload_n 2, 1) := by decide +kernel
theorem dX7_room_45 : decode cX7_room 45 = .ok (.invokevirtual 144, 3) := by decide +kernel
theorem dX7_room_48 : decode cX7_room 48 = .ok (.ireturn, 1) := by decide +kernel
theorem dX7_does_0 : decode cX7_does 0 = .ok (.aload_n 0, 1) := by decide +kernel
theorem dX7_does_1 : decode cX7_does 1 = .ok (.getfield 23, 3) := by decide +kernel
theorem dX7_does_4 : decode cX7_does 4 = .ok (.iload_n 1, 1) := by decide +kernel
theorem dX7_does_5 : decode cX7_does 5 = .ok (.invokevirtual 133, 3) := by decide +kernel
theorem dX7_does_8 : decode cX7_does 8 = .ok (.astore_n 2, 1) := by decide +kernel
theorem dX7_does_9 : decode cX7_does 9 = .ok (.aload_n 2, 1) := by decide +kernel
theorem dX7_does_10 : decode cX7_does 10 = .ok (.ifnonnull 13, 3) := by decide +kernel
theorem dX7_does_13 : decode cX7_does 13 = .ok (.new 137, 3) := by decide +kernel
theorem dX7_does_16 : decode cX7_does 16 = .ok (.dup, 1) := by decide +kernel
theorem dX7_does_17 : decode cX7_does 17 = .ok (.ldc 139, 2) := by decide +kernel
theorem dX7_does_19 : decode cX7_does 19 = .ok (.invokespecial 141, 3) := by decide +kernel
theorem dX7_does_22 : decode cX7_does 22 = .ok (.athrow, 1) := by decide +kernel
theorem dX7_does_23 : decode cX7_does 23 = .ok (.aload_n 0, 1) := by decide +kernel
theorem dX7_does_24 : decode cX7_does 24 = .ok (.getfield 23, 3) := by decide +kernel
theorem dX7_does_27 : decode cX7_does 27 = .ok (.invokevirtual 149, 3) := by decide +kernel
theorem dX7_does_30 : decode cX7_does 30 = .ok (.pop, 1) := by decide +kernel
theorem dX7_does_31 : decode cX7_does 31 = .ok (.aload_n 2, 1) := by decide +kernel
theorem dX7_does_32 : decode cX7_does 32 = .ok (.getfield 152, 3) := by decide +kernel
theorem dX7_does_35 : decode cX7_does 35 = .ok (.ireturn, 1) := by decide +kernel
theorem dX7_setting_0 : decode cX7_setting 0 = .ok (.iload_n 1, 1) := by decide +kernel
theorem dX7_setting_1 : decode cX7_setting 1 = .ok (.invokestatic 155, 3) := by decide +kernel
theorem dX7_setting_4 : decode cX7_setting 4 = .ok (.ifCond .ne 13, 3) := by decide +kernel
theorem dX7_setting_7 : decode cX7_setting 7 = .ok (.new 46, 3) := by decide +kernel
theorem dX7_setting_10 : decode cX7_setting 10 = .ok (.dup, 1) := by decide +kernel
theorem dX7_setting_11 : decode cX7_setting 11 = .ok (.ldc 160, 2) := by decide +kernel
theorem dX7_setting_13 : decode cX7_setting 13 = .ok (.invokespecial 50, 3) := by decide +kernel
theorem dX7_setting_16 : decode cX7_setting 16 = .ok (.athrow, 1) := by decide +kernel
theorem dX7_setting_17 : decode cX7_setting 17 = .ok (.aload_n 0, 1) := by decide +kernel
theorem dX7_setting_18 : decode cX7_setting 18 = .ok (.getfield 23, 3) := by decide +kernel
theorem dX7_setting_21 : decode cX7_setting 21 = .ok (.getfield 162, 3) := by decide +kernel
theorem dX7_setting_24 : decode cX7_setting 24 = .ok (.iload_n 1, 1) := by decide +kernel
theorem dX7_setting_25 : decode cX7_setting 25 = .ok (.invokevirtual 166, 3) := by decide +kernel
theorem dX7_setting_28 : decode cX7_setting 28 = .ok (.ireturn, 1) := by decide +kernel
theorem dX7_add_0 : decode cX7_add 0 = .ok (.iload_n 1, 1) := by decide +kernel
theorem dX7_add_1 : decode cX7_add 1 = .ok (.iload_n 2, 1) := by decide +kernel
theorem dX7_add_2 : decode cX7_add 2 = .ok (.iload_n 3, 1) := by decide +kernel
theorem dX7_add_3 : decode cX7_add 3 = .ok (.invokestatic 169, 3) := by decide +kernel
theorem dX7_add_6 : decode cX7_add 6 = .ok (.ifCond .ne 13, 3) := by decide +kernel
theorem dX7_add_9 : decode cX7_add 9 = .ok (.new 46, 3) := by decide +kernel
theorem dX7_add_12 : decode cX7_add 12 = .ok (.dup, 1) := by decide +kernel
theorem dX7_add_13 : decode cX7_add 13 = .ok (.ldc 173, 2) := by decide +kernel
theorem dX7_add_15 : decode cX7_add 15 = .ok (.invokespecial 50, 3) := by decide +kernel
theorem dX7_add_18 : decode cX7_add 18 = .ok (.athrow, 1) := by decide +kernel
theorem dX7_add_19 : decode cX7_add 19 = .ok (.aload_n 0, 1) := by decide +kernel
theorem dX7_add_20 : decode cX7_add 20 = .ok (.getfield 23, 3) := by decide +kernel
theorem dX7_add_23 : decode cX7_add 23 = .ok (.invokevirtual 175, 3) := by decide +kernel
theorem dX7_add_26 : decode cX7_add 26 = .ok (.ifnonnull 13, 3) := by decide +kernel
theorem dX7_add_29 : decode cX7_add 29 = .ok (.new 63, 3) := by decide +kernel
theorem dX7_add_32 : decode cX7_add 32 = .ok (.dup, 1) := by decide +kernel
theorem dX7_add_33 : decode cX7_add 33 = .ok (.ldc 179, 2) := by decide +kernel
theorem dX7_add_35 : decode cX7_add 35 = .ok (.invokespecial 67, 3) := by decide +kernel
theorem dX7_add_38 : decode cX7_add 38 = .ok (.athrow, 1) := by decide +kernel
theorem dX7_add_39 : decode cX7_add 39 = .ok (.aload_n 0, 1) := by decide +kernel
theorem dX7_add_40 : decode cX7_add 40 = .ok (.getfield 32, 3) := by decide +kernel
theorem dX7_add_43 : decode cX7_add 43 = .ok (.aload_n 0, 1) := by decide +kernel
theorem dX7_add_44 : decode cX7_add 44 = .ok (.getfield 23, 3) := by decide +kernel
theorem dX7_add_47 : decode cX7_add 47 = .ok (.invokevirtual 181, 3) := by decide +kernel
theorem dX7_add_50 : decode cX7_add 50 = .ok (.aload_n 0, 1) := by decide +kernel
theorem dX7_add_51 : decode cX7_add 51 = .ok (.getfield 23, 3) := by decide +kernel
theorem dX7_add_54 : decode cX7_add 54 = .ok (.iload_n 1, 1) := by decide +kernel
theorem dX7_add_55 : decode cX7_add 55 = .ok (.iload_n 2, 1) := by decide +kernel
theorem dX7_add_56 : decode cX7_add 56 = .ok (.iload_n 3, 1) := by decide +kernel
theorem dX7_add_57 : decode cX7_add 57 = .ok (.invokevirtual 112, 3) := by decide +kernel
theorem dX7_add_60 : decode cX7_add 60 = .ok (.ireturn, 1) := by decide +kernel
theorem dX7_door_0 : decode cX7_door 0 = .ok (.aload_n 0, 1) := by decide +kernel
theorem dX7_door_1 : decode cX7_door 1 = .ok (.getfield 23, 3) := by decide +kernel
theorem dX7_door_4 : decode cX7_door 4 = .ok (.iload_n 1, 1) := by decide +kernel
theorem dX7_door_5 : decode cX7_door 5 = .ok (.invokevirtual 133, 3) := by decide +kernel
theorem dX7_door_8 : decode cX7_door 8 = .ok (.ifnonnull 13, 3) := by decide +kernel
theorem dX7_door_11 : decode cX7_door 11 = .ok (.new 137, 3) := by decide +kernel
theorem dX7_door_14 : decode cX7_door 14 = .ok (.dup, 1) := by decide +kernel
theorem dX7_door_15 : decode cX7_door 15 = .ok (.ldc 139, 2) := by decide +kernel
theorem dX7_door_17 : decode cX7_door 17 = .ok (.invokespecial 141, 3) := by decide +kernel
theorem dX7_door_20 : decode cX7_door 20 = .ok (.athrow, 1) := by decide +kernel
theorem dX7_door_21 : decode cX7_door 21 = .ok (.aload_n 0, 1) := by decide +kernel
theorem dX7_door_22 : decode cX7_door 22 = .ok (.getfield 32, 3) := by decide +kernel
theorem dX7_door_25 : decode cX7_door 25 = .ok (.aload_n 0, 1) := by decide +kernel
theorem dX7_door_26 : decode cX7_door 26 = .ok (.getfield 23, 3) := by decide +kernel
theorem dX7_door_29 : decode cX7_door 29 = .ok (.invokevirtual 181, 3) := by decide +kernel
theorem dX7_door_32 : decode cX7_door 32 = .ok (.aload_n 0, 1) := by decide +kernel
theorem dX7_door_33 : decode cX7_door 33 = .ok (.getfield 23, 3) := by decide +kernel
theorem dX7_door_36 : decode cX7_door 36 = .ok (.iload_n 1, 1) := by decide +kernel
theorem dX7_door_37 : decode cX7_door 37 = .ok (.iload_n 2, 1) := by decide +kernel
theorem dX7_door_38 : decode cX7_door 38 = .ok (.invokevirtual 116, 3) := by decide +kernel
theorem dX7_door_41 : decode cX7_door 41 = .ok (.pop, 1) := by decide +kernel
theorem dX7_door_42 : decode cX7_door 42 = .ok (.aload_n 0, 1) := by decide +kernel
theorem dX7_door_43 : decode cX7_door 43 = .ok (.getfield 23, 3) := by decide +kernel
theorem dX7_door_46 : decode cX7_door 46 = .ok (.invokevirtual 184, 3) := by decide +kernel
theorem dX7_door_49 : decode cX7_door 49 = .ok (.ireturn, 1) := by decide +kernel
theorem dX7_goods_0 : decode cX7_goods 0 = .ok (.aload_n 0, 1) := by decide +kernel
theorem dX7_goods_1 : decode cX7_goods 1 = .ok (.getfield 23, 3) := by decide +kernel
theorem dX7_goods_4 : decode cX7_goods 4 = .ok (.iload_n 1, 1) := by decide +kernel
theorem dX7_goods_5 : decode cX7_goods 5 = .ok (.invokevirtual 133, 3) := by decide +kernel
theorem dX7_goods_8 : decode cX7_goods 8 = .ok (.astore_n 3, 1) := by decide +kernel
theorem dX7_goods_9 : decode cX7_goods 9 = .ok (.aload_n 3, 1) := by decide +kernel
theorem dX7_goods_10 : decode cX7_goods 10 = .ok (.ifnonnull 13, 3) := by decide +kernel
theorem dX7_goods_13 : decode cX7_goods 13 = .ok (.new 137, 3) := by decide +kernel
theorem dX7_goods_16 : decode cX7_goods 16 = .ok (.dup, 1) := by decide +kernel
theorem dX7_goods_17 : decode cX7_goods 17 = .ok (.ldc 139, 2) := by decide +kernel
theorem dX7_goods_19 : decode cX7_goods 19 = .ok (.invokespecial 141, 3) := by decide +kernel
theorem dX7_goods_22 : decode cX7_goods 22 = .ok (.athrow, 1) := by decide +kernel
theorem dX7_goods_23 : decode cX7_goods 23 = .ok (.iload_n 2, 1) := by decide +kernel
theorem dX7_goods_24 : decode cX7_goods 24 = .ok (.invokestatic 187, 3) := by decide +kernel
theorem dX7_goods_27 : decode cX7_goods 27 = .ok (.ifCond .ne 13, 3) := by decide +kernel
theorem dX7_goods_30 : decode cX7_goods 30 = .ok (.new 46, 3) := by decide +kernel
theorem dX7_goods_33 : decode cX7_goods 33 = .ok (.dup, 1) := by decide +kernel
theorem dX7_goods_34 : decode cX7_goods 34 = .ok (.ldc 190, 2) := by decide +kernel
theorem dX7_goods_36 : decode cX7_goods 36 = .ok (.invokespecial 50, 3) := by decide +kernel
theorem dX7_goods_39 : decode cX7_goods 39 = .ok (.athrow, 1) := by decide +kernel
theorem dX7_goods_40 : decode cX7_goods 40 = .ok (.aload_n 0, 1) := by decide +kernel
theorem dX7_goods_41 : decode cX7_goods 41 = .ok (.getfield 32, 3) := by decide +kernel
theorem dX7_goods_44 : decode cX7_goods 44 = .ok (.aload_n 0, 1) := by decide +kernel
theorem dX7_goods_45 : decode cX7_goods 45 = .ok (.getfield 23, 3) := by decide +kernel
theorem dX7_goods_48 : decode cX7_goods 48 = .ok (.invokevirtual 181, 3) := by decide +kernel
theorem dX7_goods_51 : decode cX7_goods 51 = .ok (.aload_n 3, 1) := by decide +kernel
theorem dX7_goods_52 : decode cX7_goods 52 = .ok (.getfield 192, 3) := by decide +kernel
theorem dX7_goods_55 : decode cX7_goods 55 = .ok (.istore 4, 2) := by decide +kernel
theorem dX7_goods_57 : decode cX7_goods 57 = .ok (.aload_n 0, 1) := by decide +kernel
theorem dX7_goods_58 : decode cX7_goods 58 = .ok (.getfield 23, 3) := by decide +kernel
theorem dX7_goods_61 : decode cX7_goods 61 = .ok (.iload_n 1, 1) := by decide +kernel
theorem dX7_goods_62 : decode cX7_goods 62 = .ok (.iload_n 2, 1) := by decide +kernel
theorem dX7_goods_63 : decode cX7_goods 63 = .ok (.invokevirtual 195, 3) := by decide +kernel
theorem dX7_goods_66 : decode cX7_goods 66 = .ok (.pop, 1) := by decide +kernel
theorem dX7_goods_67 : decode cX7_goods 67 = .ok (.iload 4, 2) := by decide +kernel
theorem dX7_goods_69 : decode cX7_goods 69 = .ok (.ireturn, 1) := by decide +kernel
theorem dX7_run_0 : decode cX7_run 0 = .ok (.iload_n 1, 1) := by decide +kernel
theorem dX7_run_1 : decode cX7_run 1 = .ok (.invokestatic 198, 3) := by decide +kernel
theorem dX7_run_4 : decode cX7_run 4 = .ok (.ifCond .ne 13, 3) := by decide +kernel
theorem dX7_run_7 : decode cX7_run 7 = .ok (.new 46, 3) := by decide +kernel
theorem dX7_run_10 : decode cX7_run 10 = .ok (.dup, 1) := by decide +kernel
theorem dX7_run_11 : decode cX7_run 11 = .ok (.ldc 201, 2) := by decide +kernel
theorem dX7_run_13 : decode cX7_run 13 = .ok (.invokespecial 50, 3) := by decide +kernel
theorem dX7_run_16 : decode cX7_run 16 = .ok (.athrow, 1) := by decide +kernel
theorem dX7_run_17 : decode cX7_run 17 = .ok (.aload_n 0, 1) := by decide +kernel
theorem dX7_run_18 : decode cX7_run 18 = .ok (.getfield 32, 3) := by decide +kernel
theorem dX7_run_21 : decode cX7_run 21 = .ok (.aload_n 0, 1) := by decide +kernel
theorem dX7_run_22 : decode cX7_run 22 = .ok (.getfield 23, 3) := by decide +kernel
theorem dX7_run_25 : decode cX7_run 25 = .ok (.invokevirtual 181, 3) := by decide +kernel
theorem dX7_run_28 : decode cX7_run 28 = .ok (.aload_n 0, 1) := by decide +kernel
theorem dX7_run_29 : decode cX7_run 29 = .ok (.getfield 23, 3) := by decide +kernel
theorem dX7_run_32 : decode cX7_run 32 = .ok (.getfield 203, 3) := by decide +kernel
theorem dX7_run_35 : decode cX7_run 35 = .ok (.istore_n 2, 1) := by decide +kernel
theorem dX7_run_36 : decode cX7_run 36 = .ok (.aload_n 0, 1) := by decide +kernel
theorem dX7_run_37 : decode cX7_run 37 = .ok (.getfield 23, 3) := by decide +kernel
theorem dX7_run_40 : decode cX7_run 40 = .ok (.iload_n 1, 1) := by decide +kernel
theorem dX7_run_41 : decode cX7_run 41 = .ok (.invokevirtual 120, 3) := by decide +kernel
theorem dX7_run_44 : decode cX7_run 44 = .ok (.pop, 1) := by decide +kernel
theorem dX7_run_45 : decode cX7_run 45 = .ok (.aload_n 0, 1) := by decide +kernel
theorem dX7_run_46 : decode cX7_run 46 = .ok (.getfield 23, 3) := by decide +kernel
theorem dX7_run_49 : decode cX7_run 49 = .ok (.getfield 203, 3) := by decide +kernel
theorem dX7_run_52 : decode cX7_run 52 = .ok (.iload_n 2, 1) := by decide +kernel
theorem dX7_run_53 : decode cX7_run 53 = .ok (.isub, 1) := by decide +kernel
theorem dX7_run_54 : decode cX7_run 54 = .ok (.ireturn, 1) := by decide +kernel
theorem dX7_set_0 : decode cX7_set 0 = .ok (.iload_n 1, 1) := by decide +kernel
theorem dX7_set_1 : decode cX7_set 1 = .ok (.iload_n 2, 1) := by decide +kernel
theorem dX7_set_2 : decode cX7_set 2 = .ok (.invokestatic 206, 3) := by decide +kernel
theorem dX7_set_5 : decode cX7_set 5 = .ok (.ifCond .ne 13, 3) := by decide +kernel
theorem dX7_set_8 : decode cX7_set 8 = .ok (.new 46, 3) := by decide +kernel
theorem dX7_set_11 : decode cX7_set 11 = .ok (.dup, 1) := by decide +kernel
theorem dX7_set_12 : decode cX7_set 12 = .ok (.ldc 209, 2) := by decide +kernel
theorem dX7_set_14 : decode cX7_set 14 = .ok (.invokespecial 50, 3) := by decide +kernel
theorem dX7_set_17 : decode cX7_set 17 = .ok (.athrow, 1) := by decide +kernel
theorem dX7_set_18 : decode cX7_set 18 = .ok (.aload_n 0, 1) := by decide +kernel
theorem dX7_set_19 : decode cX7_set 19 = .ok (.getfield 32, 3) := by decide +kernel
theorem dX7_set_22 : decode cX7_set 22 = .ok (.aload_n 0, 1) := by decide +kernel
theorem dX7_set_23 : decode cX7_set 23 = .ok (.getfield 23, 3) := by decide +kernel
theorem dX7_set_26 : decode cX7_set 26 = .ok (.invokevirtual 181, 3) := by decide +kernel
theorem dX7_set_29 : decode cX7_set 29 = .ok (.aload_n 0, 1) := by decide +kernel
theorem dX7_set_30 : decode cX7_set 30 = .ok (.getfield 23, 3) := by decide +kernel
theorem dX7_set_33 : decode cX7_set 33 = .ok (.getfield 162, 3) := by decide +kernel
theorem dX7_set_36 : decode cX7_set 36 = .ok (.iload_n 1, 1) := by decide +kernel
theorem dX7_set_37 : decode cX7_set 37 = .ok (.invokevirtual 166, 3) := by decide +kernel
theorem dX7_set_40 : decode cX7_set 40 = .ok (.istore_n 3, 1) := by decide +kernel
theorem dX7_set_41 : decode cX7_set 41 = .ok (.aload_n 0, 1) := by decide +kernel
theorem dX7_set_42 : decode cX7_set 42 = .ok (.getfield 23, 3) := by decide +kernel
theorem dX7_set_45 : decode cX7_set 45 = .ok (.iload_n 1, 1) := by decide +kernel
theorem dX7_set_46 : decode cX7_set 46 = .ok (.iload_n 2, 1) := by decide +kernel
theorem dX7_set_47 : decode cX7_set 47 = .ok (.invokevirtual 124, 3) := by decide +kernel
theorem dX7_set_50 : decode cX7_set 50 = .ok (.pop, 1) := by decide +kernel
theorem dX7_set_51 : decode cX7_set 51 = .ok (.iload_n 3, 1) := by decide +kernel
theorem dX7_set_52 : decode cX7_set 52 = .ok (.ireturn, 1) := by decide +kernel
theorem dX7_undo_0 : decode cX7_undo 0 = .ok (.aload_n 0, 1) := by decide +kernel
theorem dX7_undo_1 : decode cX7_undo 1 = .ok (.getfield 32, 3) := by decide +kernel
theorem dX7_undo_4 : decode cX7_undo 4 = .ok (.invokevirtual 211, 3) := by decide +kernel
theorem dX7_undo_7 : decode cX7_undo 7 = .ok (.ifCond .eq 13, 3) := by decide +kernel
theorem dX7_undo_10 : decode cX7_undo 10 = .ok (.new 63, 3) := by decide +kernel
theorem dX7_undo_13 : decode cX7_undo 13 = .ok (.dup, 1) := by decide +kernel
theorem dX7_undo_14 : decode cX7_undo 14 = .ok (.ldc 214, 2) := by decide +kernel
theorem dX7_undo_16 : decode cX7_undo 16 = .ok (.invokespecial 67, 3) := by decide +kernel
theorem dX7_undo_19 : decode cX7_undo 19 = .ok (.athrow, 1) := by decide +kernel
theorem dX7_undo_20 : decode cX7_undo 20 = .ok (.aload_n 0, 1) := by decide +kernel
theorem dX7_undo_21 : decode cX7_undo 21 = .ok (.getfield 32, 3) := by decide +kernel
theorem dX7_undo_24 : decode cX7_undo 24 = .ok (.aload_n 0, 1) := by decide +kernel
theorem dX7_undo_25 : decode cX7_undo 25 = .ok (.getfield 23, 3) := by decide +kernel
theorem dX7_undo_28 : decode cX7_undo 28 = .ok (.invokevirtual 216, 3) := by decide +kernel
theorem dX7_undo_31 : decode cX7_undo 31 = .ok (.aload_n 0, 1) := by decide +kernel
theorem dX7_undo_32 : decode cX7_undo 32 = .ok (.getfield 32, 3) := by decide +kernel
theorem dX7_undo_35 : decode cX7_undo 35 = .ok (.getfield 219, 3) := by decide +kernel
theorem dX7_undo_38 : decode cX7_undo 38 = .ok (.ireturn, 1) := by decide +kernel
theorem dX7_spare_0 : decode cX7_spare 0 = .ok (.aload_n 0, 1) := by decide +kernel
theorem dX7_spare_1 : decode cX7_spare 1 = .ok (.getfield 23, 3) := by decide +kernel
theorem dX7_spare_4 : decode cX7_spare 4 = .ok (.invokevirtual 222, 3) := by decide +kernel
theorem dX7_spare_7 : decode cX7_spare 7 = .ok (.ireturn, 1) := by decide +kernel
theorem dX7_warmIn_0 : decode cX7_warmIn 0 = .ok (.aload_n 0, 1) := by decide +kernel
theorem dX7_warmIn_1 : decode cX7_warmIn 1 = .ok (.getfield 26, 3) := by decide +kernel
theorem dX7_warmIn_4 : decode cX7_warmIn 4 = .ok (.aload_n 0, 1) := by decide +kernel
theorem dX7_warmIn_5 : decode cX7_warmIn 5 = .ok (.getfield 23, 3) := by decide +kernel
theorem dX7_warmIn_8 : decode cX7_warmIn 8 = .ok (.invokevirtual 81, 3) := by decide +kernel
theorem dX7_warmIn_11 : decode cX7_warmIn 11 = .ok (.aload_n 0, 1) := by decide +kernel
theorem dX7_warmIn_12 : decode cX7_warmIn 12 = .ok (.getfield 26, 3) := by decide +kernel
theorem dX7_warmIn_15 : decode cX7_warmIn 15 = .ok (.iload_n 1, 1) := by decide +kernel
theorem dX7_warmIn_16 : decode cX7_warmIn 16 = .ok (.invokevirtual 133, 3) := by decide +kernel
theorem dX7_warmIn_19 : decode cX7_warmIn 19 = .ok (.astore_n 2, 1) := by decide +kernel
theorem dX7_warmIn_20 : decode cX7_warmIn 20 = .ok (.aload_n 2, 1) := by decide +kernel
theorem dX7_warmIn_21 : decode cX7_warmIn 21 = .ok (.ifnonnull 13, 3) := by decide +kernel
theorem dX7_warmIn_24 : decode cX7_warmIn 24 = .ok (.new 137, 3) := by decide +kernel
theorem dX7_warmIn_27 : decode cX7_warmIn 27 = .ok (.dup, 1) := by decide +kernel
theorem dX7_warmIn_28 : decode cX7_warmIn 28 = .ok (.ldc 139, 2) := by decide +kernel
theorem dX7_warmIn_30 : decode cX7_warmIn 30 = .ok (.invokespecial 141, 3) := by decide +kernel
theorem dX7_warmIn_33 : decode cX7_warmIn 33 = .ok (.athrow, 1) := by decide +kernel
theorem dX7_warmIn_34 : decode cX7_warmIn 34 = .ok (.iconst 0, 1) := by decide +kernel
theorem dX7_warmIn_35 : decode cX7_warmIn 35 = .ok (.istore_n 3, 1) := by decide +kernel
theorem dX7_warmIn_36 : decode cX7_warmIn 36 = .ok (.iload_n 3, 1) := by decide +kernel
theorem dX7_warmIn_37 : decode cX7_warmIn 37 = .ok (.sipush 240, 3) := by decide +kernel
theorem dX7_warmIn_40 : decode cX7_warmIn 40 = .ok (.if_icmp .ge 23, 3) := by decide +kernel
theorem dX7_warmIn_43 : decode cX7_warmIn 43 = .ok (.aload_n 2, 1) := by decide +kernel
theorem dX7_warmIn_44 : decode cX7_warmIn 44 = .ok (.invokevirtual 225, 3) := by decide +kernel
theorem dX7_warmIn_47 : decode cX7_warmIn 47 = .ok (.ifCond .ne 16, 3) := by decide +kernel
theorem dX7_warmIn_50 : decode cX7_warmIn 50 = .ok (.aload_n 0, 1) := by decide +kernel
theorem dX7_warmIn_51 : decode cX7_warmIn 51 = .ok (.getfield 26, 3) := by decide +kernel
theorem dX7_warmIn_54 : decode cX7_warmIn 54 = .ok (.invokevirtual 228, 3) := by decide +kernel
theorem dX7_warmIn_57 : decode cX7_warmIn 57 = .ok (.iinc 3 1, 3) := by decide +kernel
theorem dX7_warmIn_60 : decode cX7_warmIn 60 = .ok (.goto (-24), 3) := by decide +kernel
theorem dX7_warmIn_63 : decode cX7_warmIn 63 = .ok (.aload_n 2, 1) := by decide +kernel
theorem dX7_warmIn_64 : decode cX7_warmIn 64 = .ok (.invokevirtual 225, 3) := by decide +kernel
theorem dX7_warmIn_67 : decode cX7_warmIn 67 = .ok (.ifCond .eq 7, 3) := by decide +kernel
theorem dX7_warmIn_70 : decode cX7_warmIn 70 = .ok (.iload_n 3, 1) := by decide +kernel
theorem dX7_warmIn_71 : decode cX7_warmIn 71 = .ok (.goto 4, 3) := by decide +kernel
theorem dX7_warmIn_74 : decode cX7_warmIn 74 = .ok (.iconst (-1), 1) := by decide +kernel
theorem dX7_warmIn_75 : decode cX7_warmIn 75 = .ok (.ireturn, 1) := by decide +kernel
theorem dX7_coming_0 : decode cX7_coming 0 = .ok (.iload_n 1, 1) := by decide +kernel
theorem dX7_coming_1 : decode cX7_coming 1 = .ok (.iconst 1, 1) := by decide +kernel
theorem dX7_coming_2 : decode cX7_coming 2 = .ok (.if_icmp .lt 19, 3) := by decide +kernel
theorem dX7_coming_5 : decode cX7_coming 5 = .ok (.iload_n 1, 1) := by decide +kernel
theorem dX7_coming_6 : decode cX7_coming 6 = .ok (.sipush 240, 3) := by decide +kernel
theorem dX7_coming_9 : decode cX7_coming 9 = .ok (.if_icmp .gt 12, 3) := by decide +kernel
theorem dX7_coming_12 : decode cX7_coming 12 = .ok (.iload_n 2, 1) := by decide +kernel
theorem dX7_coming_13 : decode cX7_coming 13 = .ok (.ifCond .lt 8, 3) := by decide +kernel
theorem dX7_coming_16 : decode cX7_coming 16 = .ok (.iload_n 2, 1) := by decide +kernel
theorem dX7_coming_17 : decode cX7_coming 17 = .ok (.iconst 4, 1) := by decide +kernel
theorem dX7_coming_18 : decode cX7_coming 18 = .ok (.if_icmp .le 13, 3) := by decide +kernel
theorem dX7_coming_21 : decode cX7_coming 21 = .ok (.new 46, 3) := by decide +kernel
theorem dX7_coming_24 : decode cX7_coming 24 = .ok (.dup, 1) := by decide +kernel
theorem dX7_coming_25 : decode cX7_coming 25 = .ok (.ldc 231, 2) := by decide +kernel
theorem dX7_coming_27 : decode cX7_coming 27 = .ok (.invokespecial 50, 3) := by decide +kernel
theorem dX7_coming_30 : decode cX7_coming 30 = .ok (.athrow, 1) := by decide +kernel
theorem dX7_coming_31 : decode cX7_coming 31 = .ok (.aload_n 0, 1) := by decide +kernel
theorem dX7_coming_32 : decode cX7_coming 32 = .ok (.getfield 26, 3) := by decide +kernel
theorem dX7_coming_35 : decode cX7_coming 35 = .ok (.aload_n 0, 1) := by decide +kernel
theorem dX7_coming_36 : decode cX7_coming 36 = .ok (.getfield 23, 3) := by decide +kernel
theorem dX7_coming_39 : decode cX7_coming 39 = .ok (.invokevirtual 81, 3) := by decide +kernel
theorem dX7_coming_42 : decode cX7_coming 42 = .ok (.iconst 0, 1) := by decide +kernel
theorem dX7_coming_43 : decode cX7_coming 43 = .ok (.istore_n 3, 1) := by decide +kernel
theorem dX7_coming_44 : decode cX7_coming 44 = .ok (.iload_n 3, 1) := by decide +kernel
theorem dX7_coming_45 : decode cX7_coming 45 = .ok (.iload_n 1, 1) := by decide +kernel
theorem dX7_coming_46 : decode cX7_coming 46 = .ok (.if_icmp .ge 16, 3) := by decide +kernel
theorem dX7_coming_49 : decode cX7_coming 49 = .ok (.aload_n 0, 1) := by decide +kernel
theorem dX7_coming_50 : decode cX7_coming 50 = .ok (.getfield 26, 3) := by decide +kernel
theorem dX7_coming_53 : decode cX7_coming 53 = .ok (.invokevirtual 228, 3) := by decide +kernel
theorem dX7_coming_56 : decode cX7_coming 56 = .ok (.iinc 3 1, 3) := by decide +kernel
theorem dX7_coming_59 : decode cX7_coming 59 = .ok (.goto (-15), 3) := by decide +kernel
theorem dX7_coming_62 : decode cX7_coming 62 = .ok (.iload_n 2, 1) := by decide +kernel
theorem dX7_coming_63 : decode cX7_coming 63 = .ok (.tableswitch 93 0 3 #[29, 45, 61, 77], 29) := by decide +kernel
theorem dX7_coming_92 : decode cX7_coming 92 = .ok (.aload_n 0, 1) := by decide +kernel
theorem dX7_coming_93 : decode cX7_coming 93 = .ok (.getfield 26, 3) := by decide +kernel
theorem dX7_coming_96 : decode cX7_coming 96 = .ok (.getfield 203, 3) := by decide +kernel
theorem dX7_coming_99 : decode cX7_coming 99 = .ok (.aload_n 0, 1) := by decide +kernel
theorem dX7_coming_100 : decode cX7_coming 100 = .ok (.getfield 23, 3) := by decide +kernel
theorem dX7_coming_103 : decode cX7_coming 103 = .ok (.getfield 203, 3) := by decide +kernel
theorem dX7_coming_106 : decode cX7_coming 106 = .ok (.isub, 1) := by decide +kernel
theorem dX7_coming_107 : decode cX7_coming 107 = .ok (.ireturn, 1) := by decide +kernel
theorem dX7_coming_108 : decode cX7_coming 108 = .ok (.aload_n 0, 1) := by decide +kernel
theorem dX7_coming_109 : decode cX7_coming 109 = .ok (.getfield 26, 3) := by decide +kernel
theorem dX7_coming_112 : decode cX7_coming 112 = .ok (.getfield 233, 3) := by decide +kernel
theorem dX7_coming_115 : decode cX7_coming 115 = .ok (.aload_n 0, 1) := by decide +kernel
theorem dX7_coming_116 : decode cX7_coming 116 = .ok (.getfield 23, 3) := by decide +kernel
theorem dX7_coming_119 : decode cX7_coming 119 = .ok (.getfield 233, 3) := by decide +kernel
theorem dX7_coming_122 : decode cX7_coming 122 = .ok (.isub, 1) := by decide +kernel
theorem dX7_coming_123 : decode cX7_coming 123 = .ok (.ireturn, 1) := by decide +kernel
theorem dX7_coming_124 : decode cX7_coming 124 = .ok (.aload_n 0, 1) := by decide +kernel
theorem dX7_coming_125 : decode cX7_coming 125 = .ok (.getfield 26, 3) := by decide +kernel
theorem dX7_coming_128 : decode cX7_coming 128 = .ok (.getfield 236, 3) := by decide +kernel
theorem dX7_coming_131 : decode cX7_coming 131 = .ok (.aload_n 0, 1) := by decide +kernel
theorem dX7_coming_132 : decode cX7_coming 132 = .ok (.getfield 23, 3) := by decide +kernel
theorem dX7_coming_135 : decode cX7_coming 135 = .ok (.getfield 236, 3) := by decide +kernel
theorem dX7_coming_138 : decode cX7_coming 138 = .ok (.isub, 1) := by decide +kernel
theorem dX7_coming_139 : decode cX7_coming 139 = .ok (.ireturn, 1) := by decide +kernel
theorem dX7_coming_140 : decode cX7_coming 140 = .ok (.aload_n 0, 1) := by decide +kernel
theorem dX7_coming_141 : decode cX7_coming 141 = .ok (.getfield 26, 3) := by decide +kernel
theorem dX7_coming_144 : decode cX7_coming 144 = .ok (.getfield 239, 3) := by decide +kernel
theorem dX7_coming_147 : decode cX7_coming 147 = .ok (.aload_n 0, 1) := by decide +kernel
theorem dX7_coming_148 : decode cX7_coming 148 = .ok (.getfield 23, 3) := by decide +kernel
theorem dX7_coming_151 : decode cX7_coming 151 = .ok (.getfield 239, 3) := by decide +kernel
theorem dX7_coming_154 : decode cX7_coming 154 = .ok (.isub, 1) := by decide +kernel
theorem dX7_coming_155 : decode cX7_coming 155 = .ok (.ireturn, 1) := by decide +kernel
theorem dX7_coming_156 : decode cX7_coming 156 = .ok (.aload_n 0, 1) := by decide +kernel
theorem dX7_coming_157 : decode cX7_coming 157 = .ok (.getfield 26, 3) := by decide +kernel
theorem dX7_coming_160 : decode cX7_coming 160 = .ok (.invokevirtual 242, 3) := by decide +kernel
theorem dX7_coming_163 : decode cX7_coming 163 = .ok (.ireturn, 1) := by decide +kernel
theorem dX7_leastLimit_0 : decode cX7_leastLimit 0 = .ok (.iload_n 1, 1) := by decide +kernel
theorem dX7_leastLimit_1 : decode cX7_leastLimit 1 = .ok (.invokestatic 198, 3) := by decide +kernel
theorem dX7_leastLimit_4 : decode cX7_leastLimit 4 = .ok (.ifCond .ne 13, 3) := by decide +kernel
theorem dX7_leastLimit_7 : decode cX7_leastLimit 7 = .ok (.new 46, 3) := by decide +kernel
theorem dX7_leastLimit_10 : decode cX7_leastLimit 10 = .ok (.dup, 1) := by decide +kernel
theorem dX7_leastLimit_11 : decode cX7_leastLimit 11 = .ok (.ldc 201, 2) := by decide +kernel
theorem dX7_leastLimit_13 : decode cX7_leastLimit 13 = .ok (.invokespecial 50, 3) := by decide +kernel
theorem dX7_leastLimit_16 : decode cX7_leastLimit 16 = .ok (.athrow, 1) := by decide +kernel
theorem dX7_leastLimit_17 : decode cX7_leastLimit 17 = .ok (.iconst 0, 1) := by decide +kernel
theorem dX7_leastLimit_18 : decode cX7_leastLimit 18 = .ok (.istore_n 2, 1) := by decide +kernel
theorem dX7_leastLimit_19 : decode cX7_leastLimit 19 = .ok (.iload_n 2, 1) := by decide +kernel
theorem dX7_leastLimit_20 : decode cX7_leastLimit 20 = .ok (.sipush 9900, 3) := by decide +kernel
theorem dX7_leastLimit_23 : decode cX7_leastLimit 23 = .ok (.if_icmp .gt 20, 3) := by decide +kernel
theorem dX7_leastLimit_26 : decode cX7_leastLimit 26 = .ok (.aload_n 0, 1) := by decide +kernel
theorem dX7_leastLimit_27 : decode cX7_leastLimit 27 = .ok (.iload_n 2, 1) := by decide +kernel
theorem dX7_leastLimit_28 : decode cX7_leastLimit 28 = .ok (.iload_n 1, 1) := by decide +kernel
theorem dX7_leastLimit_29 : decode cX7_leastLimit 29 = .ok (.invokevirtual 245, 3) := by decide +kernel
theorem dX7_leastLimit_32 : decode cX7_leastLimit 32 = .ok (.ifCond .eq 5, 3) := by decide +kernel
theorem dX7_leastLimit_35 : decode cX7_leastLimit 35 = .ok (.iload_n 2, 1) := by decide +kernel
theorem dX7_leastLimit_36 : decode cX7_leastLimit 36 = .ok (.ireturn, 1) := by decide +kernel
theorem dX7_leastLimit_37 : decode cX7_leastLimit 37 = .ok (.iinc 2 100, 3) := by decide +kernel
theorem dX7_leastLimit_40 : decode cX7_leastLimit 40 = .ok (.goto (-21), 3) := by decide +kernel
theorem dX7_leastLimit_43 : decode cX7_leastLimit 43 = .ok (.iconst (-1), 1) := by decide +kernel
theorem dX7_leastLimit_44 : decode cX7_leastLimit 44 = .ok (.ireturn, 1) := by decide +kernel
theorem dX7_isKept_0 : decode cX7_isKept 0 = .ok (.aload_n 0, 1) := by decide +kernel
theorem dX7_isKept_1 : decode cX7_isKept 1 = .ok (.getfield 26, 3) := by decide +kernel
theorem dX7_isKept_4 : decode cX7_isKept 4 = .ok (.aload_n 0, 1) := by decide +kernel
theorem dX7_isKept_5 : decode cX7_isKept 5 = .ok (.getfield 23, 3) := by decide +kernel
theorem dX7_isKept_8 : decode cX7_isKept 8 = .ok (.invokevirtual 81, 3) := by decide +kernel
theorem dX7_isKept_11 : decode cX7_isKept 11 = .ok (.aload_n 0, 1) := by decide +kernel
theorem dX7_isKept_12 : decode cX7_isKept 12 = .ok (.getfield 26, 3) := by decide +kernel
theorem dX7_isKept_15 : decode cX7_isKept 15 = .ok (.iconst 0, 1) := by decide +kernel
theorem dX7_isKept_16 : decode cX7_isKept 16 = .ok (.iload_n 1, 1) := by decide +kernel
theorem dX7_isKept_17 : decode cX7_isKept 17 = .ok (.invokevirtual 124, 3) := by decide +kernel
theorem dX7_isKept_20 : decode cX7_isKept 20 = .ok (.pop, 1) := by decide +kernel
theorem dX7_isKept_21 : decode cX7_isKept 21 = .ok (.iconst 0, 1) := by decide +kernel
theorem dX7_isKept_22 : decode cX7_isKept 22 = .ok (.istore_n 3, 1) := by decide +kernel
theorem dX7_isKept_23 : decode cX7_isKept 23 = .ok (.iload_n 3, 1) := by decide +kernel
theorem dX7_isKept_24 : decode cX7_isKept 24 = .ok (.iload_n 2, 1) := by decide +kernel
theorem dX7_isKept_25 : decode cX7_isKept 25 = .ok (.if_icmp .ge 33, 3) := by decide +kernel
theorem dX7_isKept_28 : decode cX7_isKept 28 = .ok (.aload_n 0, 1) := by decide +kernel
theorem dX7_isKept_29 : decode cX7_isKept 29 = .ok (.getfield 26, 3) := by decide +kernel
theorem dX7_isKept_32 : decode cX7_isKept 32 = .ok (.getfield 233, 3) := by decide +kernel
theorem dX7_isKept_35 : decode cX7_isKept 35 = .ok (.aload_n 0, 1) := by decide +kernel
theorem dX7_isKept_36 : decode cX7_isKept 36 = .ok (.getfield 23, 3) := by decide +kernel
theorem dX7_isKept_39 : decode cX7_isKept 39 = .ok (.getfield 233, 3) := by decide +kernel
theorem dX7_isKept_42 : decode cX7_isKept 42 = .ok (.if_icmp .ne 16, 3) := by decide +kernel
theorem dX7_isKept_45 : decode cX7_isKept 45 = .ok (.aload_n 0, 1) := by decide +kernel
theorem dX7_isKept_46 : decode cX7_isKept 46 = .ok (.getfield 26, 3) := by decide +kernel
theorem dX7_isKept_49 : decode cX7_isKept 49 = .ok (.invokevirtual 228, 3) := by decide +kernel
theorem dX7_isKept_52 : decode cX7_isKept 52 = .ok (.iinc 3 1, 3) := by decide +kernel
theorem dX7_isKept_55 : decode cX7_isKept 55 = .ok (.goto (-32), 3) := by decide +kernel
theorem dX7_isKept_58 : decode cX7_isKept 58 = .ok (.aload_n 0, 1) := by decide +kernel
theorem dX7_isKept_59 : decode cX7_isKept 59 = .ok (.getfield 26, 3) := by decide +kernel
theorem dX7_isKept_62 : decode cX7_isKept 62 = .ok (.getfield 233, 3) := by decide +kernel
theorem dX7_isKept_65 : decode cX7_isKept 65 = .ok (.aload_n 0, 1) := by decide +kernel
theorem dX7_isKept_66 : decode cX7_isKept 66 = .ok (.getfield 23, 3) := by decide +kernel
theorem dX7_isKept_69 : decode cX7_isKept 69 = .ok (.getfield 233, 3) := by decide +kernel
theorem dX7_isKept_72 : decode cX7_isKept 72 = .ok (.if_icmp .ne 7, 3) := by decide +kernel
theorem dX7_isKept_75 : decode cX7_isKept 75 = .ok (.iconst 1, 1) := by decide +kernel
theorem dX7_isKept_76 : decode cX7_isKept 76 = .ok (.goto 4, 3) := by decide +kernel
theorem dX7_isKept_79 : decode cX7_isKept 79 = .ok (.iconst 0, 1) := by decide +kernel
theorem dX7_isKept_80 : decode cX7_isKept 80 = .ok (.ireturn, 1) := by decide +kernel
theorem dX7_bestShut_0 : decode cX7_bestShut 0 = .ok (.iconst (-1), 1) := by decide +kernel
theorem dX7_bestShut_1 : decode cX7_bestShut 1 = .ok (.istore_n 1, 1) := by decide +kernel
theorem dX7_bestShut_2 : decode cX7_bestShut 2 = .ok (.iconst 0, 1) := by decide +kernel
theorem dX7_bestShut_3 : decode cX7_bestShut 3 = .ok (.istore_n 2, 1) := by decide +kernel
theorem dX7_bestShut_4 : decode cX7_bestShut 4 = .ok (.iconst 0, 1) := by decide +kernel
theorem dX7_bestShut_5 : decode cX7_bestShut 5 = .ok (.istore_n 3, 1) := by decide +kernel
theorem dX7_bestShut_6 : decode cX7_bestShut 6 = .ok (.iload_n 3, 1) := by decide +kernel
theorem dX7_bestShut_7 : decode cX7_bestShut 7 = .ok (.bipush 6, 2) := by decide +kernel
theorem dX7_bestShut_9 : decode cX7_bestShut 9 = .ok (.if_icmp .ge 58, 3) := by decide +kernel
theorem dX7_bestShut_12 : decode cX7_bestShut 12 = .ok (.aload_n 0, 1) := by decide +kernel
theorem dX7_bestShut_13 : decode cX7_bestShut 13 = .ok (.getfield 23, 3) := by decide +kernel
theorem dX7_bestShut_16 : decode cX7_bestShut 16 = .ok (.iload_n 3, 1) := by decide +kernel
theorem dX7_bestShut_17 : decode cX7_bestShut 17 = .ok (.invokevirtual 133, 3) := by decide +kernel
theorem dX7_bestShut_20 : decode cX7_bestShut 20 = .ok (.astore 4, 2) := by decide +kernel
theorem dX7_bestShut_22 : decode cX7_bestShut 22 = .ok (.aload 4, 2) := by decide +kernel
theorem dX7_bestShut_24 : decode cX7_bestShut 24 = .ok (.ifnull 37, 3) := by decide +kernel
theorem dX7_bestShut_27 : decode cX7_bestShut 27 = .ok (.aload 4, 2) := by decide +kernel
theorem dX7_bestShut_29 : decode cX7_bestShut 29 = .ok (.getfield 248, 3) := by decide +kernel
theorem dX7_bestShut_32 : decode cX7_bestShut 32 = .ok (.ifCond .ne 6, 3) := by decide +kernel
theorem dX7_bestShut_35 : decode cX7_bestShut 35 = .ok (.goto 26, 3) := by decide +kernel
theorem dX7_bestShut_38 : decode cX7_bestShut 38 = .ok (.aload_n 0, 1) := by decide +kernel
theorem dX7_bestShut_39 : decode cX7_bestShut 39 = .ok (.iload_n 3, 1) := by decide +kernel
theorem dX7_bestShut_40 : decode cX7_bestShut 40 = .ok (.invokevirtual 252, 3) := by decide +kernel
theorem dX7_bestShut_43 : decode cX7_bestShut 43 = .ok (.istore 5, 2) := by decide +kernel
theorem dX7_bestShut_45 : decode cX7_bestShut 45 = .ok (.iload_n 1, 1) := by decide +kernel
theorem dX7_bestShut_46 : decode cX7_bestShut 46 = .ok (.iconst (-1), 1) := by decide +kernel
theorem dX7_bestShut_47 : decode cX7_bestShut 47 = .ok (.if_icmp .eq 9, 3) := by decide +kernel
theorem dX7_bestShut_50 : decode cX7_bestShut 50 = .ok (.iload 5, 2) := by decide +kernel
theorem dX7_bestShut_52 : decode cX7_bestShut 52 = .ok (.iload_n 2, 1) := by decide +kernel
theorem dX7_bestShut_53 : decode cX7_bestShut 53 = .ok (.if_icmp .ge 8, 3) := by decide +kernel
theorem dX7_bestShut_56 : decode cX7_bestShut 56 = .ok (.iload_n 3, 1) := by decide +kernel
theorem dX7_bestShut_57 : decode cX7_bestShut 57 = .ok (.istore_n 1, 1) := by decide +kernel
theorem dX7_bestShut_58 : decode cX7_bestShut 58 = .ok (.iload 5, 2) := by decide +kernel
theorem dX7_bestShut_60 : decode cX7_bestShut 60 = .ok (.istore_n 2, 1) := by decide +kernel
theorem dX7_bestShut_61 : decode cX7_bestShut 61 = .ok (.iinc 3 1, 3) := by decide +kernel
theorem dX7_bestShut_64 : decode cX7_bestShut 64 = .ok (.goto (-58), 3) := by decide +kernel
theorem dX7_bestShut_67 : decode cX7_bestShut 67 = .ok (.iload_n 1, 1) := by decide +kernel
theorem dX7_bestShut_68 : decode cX7_bestShut 68 = .ok (.ireturn, 1) := by decide +kernel
theorem dX7_warmthIfShut_0 : decode cX7_warmthIfShut 0 = .ok (.aload_n 0, 1) := by decide +kernel
theorem dX7_warmthIfShut_1 : decode cX7_warmthIfShut 1 = .ok (.getfield 26, 3) := by decide +kernel
theorem dX7_warmthIfShut_4 : decode cX7_warmthIfShut 4 = .ok (.aload_n 0, 1) := by decide +kernel
theorem dX7_warmthIfShut_5 : decode cX7_warmthIfShut 5 = .ok (.getfield 23, 3) := by decide +kernel
theorem dX7_warmthIfShut_8 : decode cX7_warmthIfShut 8 = .ok (.invokevirtual 81, 3) := by decide +kernel
theorem dX7_warmthIfShut_11 : decode cX7_warmthIfShut 11 = .ok (.aload_n 0, 1) := by decide +kernel
theorem dX7_warmthIfShut_12 : decode cX7_warmthIfShut 12 = .ok (.getfield 26, 3) := by decide +kernel
theorem dX7_warmthIfShut_15 : decode cX7_warmthIfShut 15 = .ok (.iload_n 1, 1) := by decide +kernel
theorem dX7_warmthIfShut_16 : decode cX7_warmthIfShut 16 = .ok (.iconst 0, 1) := by decide +kernel
theorem dX7_warmthIfShut_17 : decode cX7_warmthIfShut 17 = .ok (.invokevirtual 116, 3) := by decide +kernel
theorem dX7_warmthIfShut_20 : decode cX7_warmthIfShut 20 = .ok (.pop, 1) := by decide +kernel
theorem dX7_warmthIfShut_21 : decode cX7_warmthIfShut 21 = .ok (.aload_n 0, 1) := by decide +kernel
theorem dX7_warmthIfShut_22 : decode cX7_warmthIfShut 22 = .ok (.getfield 26, 3) := by decide +kernel
theorem dX7_warmthIfShut_25 : decode cX7_warmthIfShut 25 = .ok (.bipush 15, 2) := by decide +kernel
theorem dX7_warmthIfShut_27 : decode cX7_warmthIfShut 27 = .ok (.invokevirtual 120, 3) := by decide +kernel
theorem dX7_warmthIfShut_30 : decode cX7_warmthIfShut 30 = .ok (.pop, 1) := by decide +kernel
theorem dX7_warmthIfShut_31 : decode cX7_warmthIfShut 31 = .ok (.aload_n 0, 1) := by decide +kernel
theorem dX7_warmthIfShut_32 : decode cX7_warmthIfShut 32 = .ok (.getfield 26, 3) := by decide +kernel
theorem dX7_warmthIfShut_35 : decode cX7_warmthIfShut 35 = .ok (.iload_n 1, 1) := by decide +kernel
theorem dX7_warmthIfShut_36 : decode cX7_warmthIfShut 36 = .ok (.invokevirtual 133, 3) := by decide +kernel
theorem dX7_warmthIfShut_39 : decode cX7_warmthIfShut 39 = .ok (.astore_n 2, 1) := by decide +kernel
theorem dX7_warmthIfShut_40 : decode cX7_warmthIfShut 40 = .ok (.aload_n 2, 1) := by decide +kernel
theorem dX7_warmthIfShut_41 : decode cX7_warmthIfShut 41 = .ok (.ifnonnull 7, 3) := by decide +kernel
theorem dX7_warmthIfShut_44 : decode cX7_warmthIfShut 44 = .ok (.iconst 0, 1) := by decide +kernel
theorem dX7_warmthIfShut_45 : decode cX7_warmthIfShut 45 = .ok (.goto 7, 3) := by decide +kernel
theorem dX7_warmthIfShut_48 : decode cX7_warmthIfShut 48 = .ok (.aload_n 2, 1) := by decide +kernel
theorem dX7_warmthIfShut_49 : decode cX7_warmthIfShut 49 = .ok (.invokevirtual 255, 3) := by decide +kernel
theorem dX7_warmthIfShut_52 : decode cX7_warmthIfShut 52 = .ok (.ireturn, 1) := by decide +kernel
theorem dX7_runScript_0 : decode cX7_runScript 0 = .ok (.iload_n 1, 1) := by decide +kernel
theorem dX7_runScript_1 : decode cX7_runScript 1 = .ok (.iconst 1, 1) := by decide +kernel
theorem dX7_runScript_2 : decode cX7_runScript 2 = .ok (.if_icmp .lt 24, 3) := by decide +kernel
theorem dX7_runScript_5 : decode cX7_runScript 5 = .ok (.iload_n 1, 1) := by decide +kernel
theorem dX7_runScript_6 : decode cX7_runScript 6 = .ok (.iconst 3, 1) := by decide +kernel
theorem dX7_runScript_7 : decode cX7_runScript 7 = .ok (.if_icmp .gt 19, 3) := by decide +kernel
theorem dX7_runScript_10 : decode cX7_runScript 10 = .ok (.lload_n 2, 1) := by decide +kernel
theorem dX7_runScript_11 : decode cX7_runScript 11 = .ok (.lconst 0, 1) := by decide +kernel
theorem dX7_runScript_12 : decode cX7_runScript 12 = .ok (.lcmp, 1) := by decide +kernel
theorem dX7_runScript_13 : decode cX7_runScript 13 = .ok (.ifCond .lt 13, 3) := by decide +kernel
theorem dX7_runScript_16 : decode cX7_runScript 16 = .ok (.lload_n 2, 1) := by decide +kernel
theorem dX7_runScript_17 : decode cX7_runScript 17 = .ok (.iload_n 1, 1) := by decide +kernel
theorem dX7_runScript_18 : decode cX7_runScript 18 = .ok (.invokestatic 258, 3) := by decide +kernel
theorem dX7_runScript_21 : decode cX7_runScript 21 = .ok (.lconst 0, 1) := by decide +kernel
theorem dX7_runScript_22 : decode cX7_runScript 22 = .ok (.lcmp, 1) := by decide +kernel
theorem dX7_runScript_23 : decode cX7_runScript 23 = .ok (.ifCond .eq 14, 3) := by decide +kernel
theorem dX7_runScript_26 : decode cX7_runScript 26 = .ok (.new 46, 3) := by decide +kernel
theorem dX7_runScript_29 : decode cX7_runScript 29 = .ok (.dup, 1) := by decide +kernel
theorem dX7_runScript_30 : decode cX7_runScript 30 = .ok (.ldc_w 262, 3) := by decide +kernel
theorem dX7_runScript_33 : decode cX7_runScript 33 = .ok (.invokespecial 50, 3) := by decide +kernel
theorem dX7_runScript_36 : decode cX7_runScript 36 = .ok (.athrow, 1) := by decide +kernel
theorem dX7_runScript_37 : decode cX7_runScript 37 = .ok (.aload_n 0, 1) := by decide +kernel
theorem dX7_runScript_38 : decode cX7_runScript 38 = .ok (.getfield 26, 3) := by decide +kernel
theorem dX7_runScript_41 : decode cX7_runScript 41 = .ok (.aload_n 0, 1) := by decide +kernel
theorem dX7_runScript_42 : decode cX7_runScript 42 = .ok (.getfield 23, 3) := by decide +kernel
theorem dX7_runScript_45 : decode cX7_runScript 45 = .ok (.invokevirtual 81, 3) := by decide +kernel
theorem dX7_runScript_48 : decode cX7_runScript 48 = .ok (.iconst 0, 1) := by decide +kernel
theorem dX7_runScript_49 : decode cX7_runScript 49 = .ok (.istore 4, 2) := by decide +kernel
theorem dX7_runScript_51 : decode cX7_runScript 51 = .ok (.iload 4, 2) := by decide +kernel
theorem dX7_runScript_53 : decode cX7_runScript 53 = .ok (.iload_n 1, 1) := by decide +kernel
theorem dX7_runScript_54 : decode cX7_runScript 54 = .ok (.if_icmp .ge 34, 3) := by decide +kernel
theorem dX7_runScript_57 : decode cX7_runScript 57 = .ok (.aload_n 0, 1) := by decide +kernel
theorem dX7_runScript_58 : decode cX7_runScript 58 = .ok (.lload_n 2, 1) := by decide +kernel
theorem dX7_runScript_59 : decode cX7_runScript 59 = .ok (.iload_n 1, 1) := by decide +kernel
theorem dX7_runScript_60 : decode cX7_runScript 60 = .ok (.iconst 1, 1) := by decide +kernel
theorem dX7_runScript_61 : decode cX7_runScript 61 = .ok (.isub, 1) := by decide +kernel
theorem dX7_runScript_62 : decode cX7_runScript 62 = .ok (.iload 4, 2) := by decide +kernel
theorem dX7_runScript_64 : decode cX7_runScript 64 = .ok (.isub, 1) := by decide +kernel
theorem dX7_runScript_65 : decode cX7_runScript 65 = .ok (.invokestatic 258, 3) := by decide +kernel
theorem dX7_runScript_68 : decode cX7_runScript 68 = .ok (.ldc2_w 264, 3) := by decide +kernel
theorem dX7_runScript_71 : decode cX7_runScript 71 = .ok (.lrem, 1) := by decide +kernel
theorem dX7_runScript_72 : decode cX7_runScript 72 = .ok (.l2i, 1) := by decide +kernel
theorem dX7_runScript_73 : decode cX7_runScript 73 = .ok (.invokevirtual 266, 3) := by decide +kernel
theorem dX7_runScript_76 : decode cX7_runScript 76 = .ok (.ifCond .ne 6, 3) := by decide +kernel
theorem dX7_runScript_79 : decode cX7_runScript 79 = .ok (.iload 4, 2) := by decide +kernel
theorem dX7_runScript_81 : decode cX7_runScript 81 = .ok (.ireturn, 1) := by decide +kernel
theorem dX7_runScript_82 : decode cX7_runScript 82 = .ok (.iinc 4 1, 3) := by decide +kernel
theorem dX7_runScript_85 : decode cX7_runScript 85 = .ok (.goto (-34), 3) := by decide +kernel
theorem dX7_runScript_88 : decode cX7_runScript 88 = .ok (.iconst (-1), 1) := by decide +kernel
theorem dX7_runScript_89 : decode cX7_runScript 89 = .ok (.ireturn, 1) := by decide +kernel
theorem dX7_withoutGroups_0 : decode cX7_withoutGroups 0 = .ok (.lload_n 0, 1) := by decide +kernel
theorem dX7_withoutGroups_1 : decode cX7_withoutGroups 1 = .ok (.lstore_n 3, 1) := by decide +kernel
theorem dX7_withoutGroups_2 : decode cX7_withoutGroups 2 = .ok (.iconst 0, 1) := by decide +kernel
theorem dX7_withoutGroups_3 : decode cX7_withoutGroups 3 = .ok (.istore 5, 2) := by decide +kernel
theorem dX7_withoutGroups_5 : decode cX7_withoutGroups 5 = .ok (.iload 5, 2) := by decide +kernel
theorem dX7_withoutGroups_7 : decode cX7_withoutGroups 7 = .ok (.iload_n 2, 1) := by decide +kernel
theorem dX7_withoutGroups_8 : decode cX7_withoutGroups 8 = .ok (.if_icmp .ge 15, 3) := by decide +kernel
theorem dX7_withoutGroups_11 : decode cX7_withoutGroups 11 = .ok (.lload_n 3, 1) := by decide +kernel
theorem dX7_withoutGroups_12 : decode cX7_withoutGroups 12 = .ok (.ldc2_w 264, 3) := by decide +kernel
theorem dX7_withoutGroups_15 : decode cX7_withoutGroups 15 = .ok (.ldiv, 1) := by decide +kernel
theorem dX7_withoutGroups_16 : decode cX7_withoutGroups 16 = .ok (.lstore_n 3, 1) := by decide +kernel
theorem dX7_withoutGroups_17 : decode cX7_withoutGroups 17 = .ok (.iinc 5 1, 3) := by decide +kernel
theorem dX7_withoutGroups_20 : decode cX7_withoutGroups 20 = .ok (.goto (-15), 3) := by decide +kernel
theorem dX7_withoutGroups_23 : decode cX7_withoutGroups 23 = .ok (.lload_n 3, 1) := by decide +kernel
theorem dX7_withoutGroups_24 : decode cX7_withoutGroups 24 = .ok (.lreturn, 1) := by decide +kernel
theorem dX7_doGroup_0 : decode cX7_doGroup 0 = .ok (.iload_n 1, 1) := by decide +kernel
theorem dX7_doGroup_1 : decode cX7_doGroup 1 = .ok (.sipush 1000, 3) := by decide +kernel
theorem dX7_doGroup_4 : decode cX7_doGroup 4 = .ok (.idiv, 1) := by decide +kernel
theorem dX7_doGroup_5 : decode cX7_doGroup 5 = .ok (.bipush 10, 2) := by decide +kernel
theorem dX7_doGroup_7 : decode cX7_doGroup 7 = .ok (.irem, 1) := by decide +kernel
theorem dX7_doGroup_8 : decode cX7_doGroup 8 = .ok (.istore_n 2, 1) := by decide +kernel
theorem dX7_doGroup_9 : decode cX7_doGroup 9 = .ok (.iload_n 1, 1) := by decide +kernel
theorem dX7_doGroup_10 : decode cX7_doGroup 10 = .ok (.sipush 1000, 3) := by decide +kernel
theorem dX7_doGroup_13 : decode cX7_doGroup 13 = .ok (.irem, 1) := by decide +kernel
theorem dX7_doGroup_14 : decode cX7_doGroup 14 = .ok (.istore_n 3, 1) := by decide +kernel
theorem dX7_doGroup_15 : decode cX7_doGroup 15 = .ok (.iload_n 1, 1) := by decide +kernel
theorem dX7_doGroup_16 : decode cX7_doGroup 16 = .ok (.sipush 10000, 3) := by decide +kernel
theorem dX7_doGroup_19 : decode cX7_doGroup 19 = .ok (.idiv, 1) := by decide +kernel
theorem dX7_doGroup_20 : decode cX7_doGroup 20 = .ok (.tableswitch 216 1 8 #[48, 86, 107, 133, 161, 216, 216, 189], 48) := by decide +kernel
theorem dX7_doGroup_68 : decode cX7_doGroup 68 = .ok (.iload_n 3, 1) := by decide +kernel
theorem dX7_doGroup_69 : decode cX7_doGroup 69 = .ok (.ifCond .eq 9, 3) := by decide +kernel
theorem dX7_doGroup_72 : decode cX7_doGroup 72 = .ok (.iload_n 3, 1) := by decide +kernel
theorem dX7_doGroup_73 : decode cX7_doGroup 73 = .ok (.bipush 100, 2) := by decide +kernel
theorem dX7_doGroup_75 : decode cX7_doGroup 75 = .ok (.if_icmp .ne 29, 3) := by decide +kernel
theorem dX7_doGroup_78 : decode cX7_doGroup 78 = .ok (.aload_n 0, 1) := by decide +kernel
theorem dX7_doGroup_79 : decode cX7_doGroup 79 = .ok (.getfield 26, 3) := by decide +kernel
theorem dX7_doGroup_82 : decode cX7_doGroup 82 = .ok (.iload_n 2, 1) := by decide +kernel
theorem dX7_doGroup_83 : decode cX7_doGroup 83 = .ok (.iload_n 3, 1) := by decide +kernel
theorem dX7_doGroup_84 : decode cX7_doGroup 84 = .ok (.bipush 100, 2) := by decide +kernel
theorem dX7_doGroup_86 : decode cX7_doGroup 86 = .ok (.if_icmp .ne 7, 3) := by decide +kernel
theorem dX7_doGroup_89 : decode cX7_doGroup 89 = .ok (.iconst 1, 1) := by decide +kernel
theorem dX7_doGroup_90 : decode cX7_doGroup 90 = .ok (.goto 4, 3) := by decide +kernel
theorem dX7_doGroup_93 : decode cX7_doGroup 93 = .ok (.iconst 0, 1) := by decide +kernel
theorem dX7_doGroup_94 : decode cX7_doGroup 94 = .ok (.invokevirtual 116, 3) := by decide +kernel
theorem dX7_doGroup_97 : decode cX7_doGroup 97 = .ok (.ifCond .eq 7, 3) := by decide +kernel
theorem dX7_doGroup_100 : decode cX7_doGroup 100 = .ok (.iconst 1, 1) := by decide +kernel
theorem dX7_doGroup_101 : decode cX7_doGroup 101 = .ok (.goto 4, 3) := by decide +kernel
theorem dX7_doGroup_104 : decode cX7_doGroup 104 = .ok (.iconst 0, 1) := by decide +kernel
theorem dX7_doGroup_105 : decode cX7_doGroup 105 = .ok (.ireturn, 1) := by decide +kernel
theorem dX7_doGroup_106 : decode cX7_doGroup 106 = .ok (.iload_n 2, 1) := by decide +kernel
theorem dX7_doGroup_107 : decode cX7_doGroup 107 = .ok (.ifCond .ne 18, 3) := by decide +kernel
theorem dX7_doGroup_110 : decode cX7_doGroup 110 = .ok (.aload_n 0, 1) := by decide +kernel
theorem dX7_doGroup_111 : decode cX7_doGroup 111 = .ok (.getfield 26, 3) := by decide +kernel
theorem dX7_doGroup_114 : decode cX7_doGroup 114 = .ok (.iload_n 3, 1) := by decide +kernel
theorem dX7_doGroup_115 : decode cX7_doGroup 115 = .ok (.invokevirtual 120, 3) := by decide +kernel
theorem dX7_doGroup_118 : decode cX7_doGroup 118 = .ok (.ifCond .eq 7, 3) := by decide +kernel
theorem dX7_doGroup_121 : decode cX7_doGroup 121 = .ok (.iconst 1, 1) := by decide +kernel
theorem dX7_doGroup_122 : decode cX7_doGroup 122 = .ok (.goto 4, 3) := by decide +kernel
theorem dX7_doGroup_125 : decode cX7_doGroup 125 = .ok (.iconst 0, 1) := by decide +kernel
theorem dX7_doGroup_126 : decode cX7_doGroup 126 = .ok (.ireturn, 1) := by decide +kernel
theorem dX7_doGroup_127 : decode cX7_doGroup 127 = .ok (.iload_n 2, 1) := by decide +kernel
theorem dX7_doGroup_128 : decode cX7_doGroup 128 = .ok (.ifCond .ne 23, 3) := by decide +kernel
theorem dX7_doGroup_131 : decode cX7_doGroup 131 = .ok (.iload_n 3, 1) := by decide +kernel
theorem dX7_doGroup_132 : decode cX7_doGroup 132 = .ok (.ifCond .ne 19, 3) := by decide +kernel
theorem dX7_doGroup_135 : decode cX7_doGroup 135 = .ok (.aload_n 0, 1) := by decide +kernel
theorem dX7_doGroup_136 : decode cX7_doGroup 136 = .ok (.getfield 26, 3) := by decide +kernel
theorem dX7_doGroup_139 : decode cX7_doGroup 139 = .ok (.bipush 15, 2) := by decide +kernel
theorem dX7_doGroup_141 : decode cX7_doGroup 141 = .ok (.invokevirtual 120, 3) := by decide +kernel
theorem dX7_doGroup_144 : decode cX7_doGroup 144 = .ok (.ifCond .eq 7, 3) := by decide +kernel
theorem dX7_doGroup_147 : decode cX7_doGroup 147 = .ok (.iconst 1, 1) := by decide +kernel
theorem dX7_doGroup_148 : decode cX7_doGroup 148 = .ok (.goto 4, 3) := by decide +kernel
theorem dX7_doGroup_151 : decode cX7_doGroup 151 = .ok (.iconst 0, 1) := by decide +kernel
theorem dX7_doGroup_152 : decode cX7_doGroup 152 = .ok (.ireturn, 1) := by decide +kernel
theorem dX7_doGroup_153 : decode cX7_doGroup 153 = .ok (.iload_n 3, 1) := by decide +kernel
theorem dX7_doGroup_154 : decode cX7_doGroup 154 = .ok (.bipush 10, 2) := by decide +kernel
theorem dX7_doGroup_156 : decode cX7_doGroup 156 = .ok (.irem, 1) := by decide +kernel
theorem dX7_doGroup_157 : decode cX7_doGroup 157 = .ok (.ifCond .ne 22, 3) := by decide +kernel
theorem dX7_doGroup_160 : decode cX7_doGroup 160 = .ok (.aload_n 0, 1) := by decide +kernel
theorem dX7_doGroup_161 : decode cX7_doGroup 161 = .ok (.getfield 26, 3) := by decide +kernel
theorem dX7_doGroup_164 : decode cX7_doGroup 164 = .ok (.iload_n 2, 1) := by decide +kernel
theorem dX7_doGroup_165 : decode cX7_doGroup 165 = .ok (.iload_n 3, 1) := by decide +kernel
theorem dX7_doGroup_166 : decode cX7_doGroup 166 = .ok (.bipush 10, 2) := by decide +kernel
theorem dX7_doGroup_168 : decode cX7_doGroup 168 = .ok (.idiv, 1) := by decide +kernel
theorem dX7_doGroup_169 : decode cX7_doGroup 169 = .ok (.invokevirtual 124, 3) := by decide +kernel
theorem dX7_doGroup_172 : decode cX7_doGroup 172 = .ok (.ifCond .eq 7, 3) := by decide +kernel
theorem dX7_doGroup_175 : decode cX7_doGroup 175 = .ok (.iconst 1, 1) := by decide +kernel
theorem dX7_doGroup_176 : decode cX7_doGroup 176 = .ok (.goto 4, 3) := by decide +kernel
theorem dX7_doGroup_179 : decode cX7_doGroup 179 = .ok (.iconst 0, 1) := by decide +kernel
theorem dX7_doGroup_180 : decode cX7_doGroup 180 = .ok (.ireturn, 1) := by decide +kernel
theorem dX7_doGroup_181 : decode cX7_doGroup 181 = .ok (.iload_n 3, 1) := by decide +kernel
theorem dX7_doGroup_182 : decode cX7_doGroup 182 = .ok (.bipush 10, 2) := by decide +kernel
theorem dX7_doGroup_184 : decode cX7_doGroup 184 = .ok (.irem, 1) := by decide +kernel
theorem dX7_doGroup_185 : decode cX7_doGroup 185 = .ok (.ifCond .ne 22, 3) := by decide +kernel
theorem dX7_doGroup_188 : decode cX7_doGroup 188 = .ok (.aload_n 0, 1) := by decide +kernel
theorem dX7_doGroup_189 : decode cX7_doGroup 189 = .ok (.getfield 26, 3) := by decide +kernel
theorem dX7_doGroup_192 : decode cX7_doGroup 192 = .ok (.iload_n 2, 1) := by decide +kernel
theorem dX7_doGroup_193 : decode cX7_doGroup 193 = .ok (.iload_n 3, 1) := by decide +kernel
theorem dX7_doGroup_194 : decode cX7_doGroup 194 = .ok (.bipush 10, 2) := by decide +kernel
theorem dX7_doGroup_196 : decode cX7_doGroup 196 = .ok (.idiv, 1) := by decide +kernel
theorem dX7_doGroup_197 : decode cX7_doGroup 197 = .ok (.invokevirtual 195, 3) := by decide +kernel
theorem dX7_doGroup_200 : decode cX7_doGroup 200 = .ok (.ifCond .eq 7, 3) := by decide +kernel
theorem dX7_doGroup_203 : decode cX7_doGroup 203 = .ok (.iconst 1, 1) := by decide +kernel
theorem dX7_doGroup_204 : decode cX7_doGroup 204 = .ok (.goto 4, 3) := by decide +kernel
theorem dX7_doGroup_207 : decode cX7_doGroup 207 = .ok (.iconst 0, 1) := by decide +kernel
theorem dX7_doGroup_208 : decode cX7_doGroup 208 = .ok (.ireturn, 1) := by decide +kernel
theorem dX7_doGroup_209 : decode cX7_doGroup 209 = .ok (.iload_n 2, 1) := by decide +kernel
theorem dX7_doGroup_210 : decode cX7_doGroup 210 = .ok (.ifCond .ne 24, 3) := by decide +kernel
theorem dX7_doGroup_213 : decode cX7_doGroup 213 = .ok (.iload_n 3, 1) := by decide +kernel
theorem dX7_doGroup_214 : decode cX7_doGroup 214 = .ok (.bipush 100, 2) := by decide +kernel
theorem dX7_doGroup_216 : decode cX7_doGroup 216 = .ok (.if_icmp .ge 18, 3) := by decide +kernel
theorem dX7_doGroup_219 : decode cX7_doGroup 219 = .ok (.aload_n 0, 1) := by decide +kernel
theorem dX7_doGroup_220 : decode cX7_doGroup 220 = .ok (.getfield 26, 3) := by decide +kernel
theorem dX7_doGroup_223 : decode cX7_doGroup 223 = .ok (.getfield 233, 3) := by decide +kernel
theorem dX7_doGroup_226 : decode cX7_doGroup 226 = .ok (.iload_n 3, 1) := by decide +kernel
theorem dX7_doGroup_227 : decode cX7_doGroup 227 = .ok (.if_icmp .gt 7, 3) := by decide +kernel
theorem dX7_doGroup_230 : decode cX7_doGroup 230 = .ok (.iconst 1, 1) := by decide +kernel
theorem dX7_doGroup_231 : decode cX7_doGroup 231 = .ok (.goto 4, 3) := by decide +kernel
theorem dX7_doGroup_234 : decode cX7_doGroup 234 = .ok (.iconst 0, 1) := by decide +kernel
theorem dX7_doGroup_235 : decode cX7_doGroup 235 = .ok (.ireturn, 1) := by decide +kernel
theorem dX7_doGroup_236 : decode cX7_doGroup 236 = .ok (.aload_n 0, 1) := by decide +kernel
theorem dX7_doGroup_237 : decode cX7_doGroup 237 = .ok (.iload_n 1, 1) := by decide +kernel
theorem dX7_doGroup_238 : decode cX7_doGroup 238 = .ok (.sipush 10000, 3) := by decide +kernel
theorem dX7_doGroup_241 : decode cX7_doGroup 241 = .ok (.idiv, 1) := by decide +kernel
theorem dX7_doGroup_242 : decode cX7_doGroup 242 = .ok (.aload_n 0, 1) := by decide +kernel
theorem dX7_doGroup_243 : decode cX7_doGroup 243 = .ok (.getfield 26, 3) := by decide +kernel
theorem dX7_doGroup_246 : decode cX7_doGroup 246 = .ok (.iload_n 2, 1) := by decide +kernel
theorem dX7_doGroup_247 : decode cX7_doGroup 247 = .ok (.invokevirtual 133, 3) := by decide +kernel
theorem dX7_doGroup_250 : decode cX7_doGroup 250 = .ok (.iload_n 3, 1) := by decide +kernel
theorem dX7_doGroup_251 : decode cX7_doGroup 251 = .ok (.invokevirtual 269, 3) := by decide +kernel
theorem dX7_doGroup_254 : decode cX7_doGroup 254 = .ok (.ireturn, 1) := by decide +kernel
theorem dX7_isSo_0 : decode cX7_isSo 0 = .ok (.aload_n 2, 1) := by decide +kernel
theorem dX7_isSo_1 : decode cX7_isSo 1 = .ok (.ifnonnull 5, 3) := by decide +kernel
theorem dX7_isSo_4 : decode cX7_isSo 4 = .ok (.iconst 0, 1) := by decide +kernel
theorem dX7_isSo_5 : decode cX7_isSo 5 = .ok (.ireturn, 1) := by decide +kernel
theorem dX7_isSo_6 : decode cX7_isSo 6 = .ok (.iload_n 1, 1) := by decide +kernel
theorem dX7_isSo_7 : decode cX7_isSo 7 = .ok (.tableswitch 97 6 9 #[29, 53, 97, 75], 29) := by decide +kernel
theorem dX7_isSo_36 : decode cX7_isSo 36 = .ok (.iload_n 3, 1) := by decide +kernel
theorem dX7_isSo_37 : decode cX7_isSo 37 = .ok (.bipush 10, 2) := by decide +kernel
theorem dX7_isSo_39 : decode cX7_isSo 39 = .ok (.irem, 1) := by decide +kernel
theorem dX7_isSo_40 : decode cX7_isSo 40 = .ok (.ifCond .ne 18, 3) := by decide +kernel
theorem dX7_isSo_43 : decode cX7_isSo 43 = .ok (.aload_n 2, 1) := by decide +kernel
theorem dX7_isSo_44 : decode cX7_isSo 44 = .ok (.getfield 273, 3) := by decide +kernel
theorem dX7_isSo_47 : decode cX7_isSo 47 = .ok (.iload_n 3, 1) := by decide +kernel
theorem dX7_isSo_48 : decode cX7_isSo 48 = .ok (.bipush 10, 2) := by decide +kernel
theorem dX7_isSo_50 : decode cX7_isSo 50 = .ok (.idiv, 1) := by decide +kernel
theorem dX7_isSo_51 : decode cX7_isSo 51 = .ok (.if_icmp .gt 7, 3) := by decide +kernel
theorem dX7_isSo_54 : decode cX7_isSo 54 = .ok (.iconst 1, 1) := by decide +kernel
theorem dX7_isSo_55 : decode cX7_isSo 55 = .ok (.goto 4, 3) := by decide +kernel
theorem dX7_isSo_58 : decode cX7_isSo 58 = .ok (.iconst 0, 1) := by decide +kernel
theorem dX7_isSo_59 : decode cX7_isSo 59 = .ok (.ireturn, 1) := by decide +kernel
theorem dX7_isSo_60 : decode cX7_isSo 60 = .ok (.aload_n 0, 1) := by decide +kernel
theorem dX7_isSo_61 : decode cX7_isSo 61 = .ok (.getfield 26, 3) := by decide +kernel
theorem dX7_isSo_64 : decode cX7_isSo 64 = .ok (.invokevirtual 149, 3) := by decide +kernel
theorem dX7_isSo_67 : decode cX7_isSo 67 = .ok (.pop, 1) := by decide +kernel
theorem dX7_isSo_68 : decode cX7_isSo 68 = .ok (.aload_n 2, 1) := by decide +kernel
theorem dX7_isSo_69 : decode cX7_isSo 69 = .ok (.getfield 152, 3) := by decide +kernel
theorem dX7_isSo_72 : decode cX7_isSo 72 = .ok (.iload_n 3, 1) := by decide +kernel
theorem dX7_isSo_73 : decode cX7_isSo 73 = .ok (.if_icmp .ne 7, 3) := by decide +kernel
theorem dX7_isSo_76 : decode cX7_isSo 76 = .ok (.iconst 1, 1) := by decide +kernel
theorem dX7_isSo_77 : decode cX7_isSo 77 = .ok (.goto 4, 3) := by decide +kernel
theorem dX7_isSo_80 : decode cX7_isSo 80 = .ok (.iconst 0, 1) := by decide +kernel
theorem dX7_isSo_81 : decode cX7_isSo 81 = .ok (.ireturn, 1) := by decide +kernel
theorem dX7_isSo_82 : decode cX7_isSo 82 = .ok (.iload_n 3, 1) := by decide +kernel
theorem dX7_isSo_83 : decode cX7_isSo 83 = .ok (.aload_n 2, 1) := by decide +kernel
theorem dX7_isSo_84 : decode cX7_isSo 84 = .ok (.invokevirtual 225, 3) := by decide +kernel
theorem dX7_isSo_87 : decode cX7_isSo 87 = .ok (.ifCond .eq 7, 3) := by decide +kernel
theorem dX7_isSo_90 : decode cX7_isSo 90 = .ok (.iconst 1, 1) := by decide +kernel
theorem dX7_isSo_91 : decode cX7_isSo 91 = .ok (.goto 4, 3) := by decide +kernel
theorem dX7_isSo_94 : decode cX7_isSo 94 = .ok (.iconst 0, 1) := by decide +kernel
theorem dX7_isSo_95 : decode cX7_isSo 95 = .ok (.if_icmp .ne 7, 3) := by decide +kernel
theorem dX7_isSo_98 : decode cX7_isSo 98 = .ok (.iconst 1, 1) := by decide +kernel
theorem dX7_isSo_99 : decode cX7_isSo 99 = .ok (.goto 4, 3) := by decide +kernel
theorem dX7_isSo_102 : decode cX7_isSo 102 = .ok (.iconst 0, 1) := by decide +kernel
theorem dX7_isSo_103 : decode cX7_isSo 103 = .ok (.ireturn, 1) := by decide +kernel
theorem dX7_isSo_104 : decode cX7_isSo 104 = .ok (.iconst 0, 1) := by decide +kernel
theorem dX7_isSo_105 : decode cX7_isSo 105 = .ok (.ireturn, 1) := by decide +kernel
theorem dX7_simulate_0 : decode cX7_simulate 0 = .ok (.iload_n 3, 1) := by decide +kernel
theorem dX7_simulate_1 : decode cX7_simulate 1 = .ok (.iconst 1, 1) := by decide +kernel
theorem dX7_simulate_2 : decode cX7_simulate 2 = .ok (.if_icmp .lt 9, 3) := by decide +kernel
theorem dX7_simulate_5 : decode cX7_simulate 5 = .ok (.iload_n 3, 1) := by decide +kernel
theorem dX7_simulate_6 : decode cX7_simulate 6 = .ok (.bipush 60, 2) := by decide +kernel
theorem dX7_simulate_8 : decode cX7_simulate 8 = .ok (.if_icmp .le 14, 3) := by decide +kernel
theorem dX7_simulate_11 : decode cX7_simulate 11 = .ok (.new 46, 3) := by decide +kernel
theorem dX7_simulate_14 : decode cX7_simulate 14 = .ok (.dup, 1) := by decide +kernel
theorem dX7_simulate_15 : decode cX7_simulate 15 = .ok (.ldc_w 276, 3) := by decide +kernel
theorem dX7_simulate_18 : decode cX7_simulate 18 = .ok (.invokespecial 50, 3) := by decide +kernel
theorem dX7_simulate_21 : decode cX7_simulate 21 = .ok (.athrow, 1) := by decide +kernel
theorem dX7_simulate_22 : decode cX7_simulate 22 = .ok (.aload_n 0, 1) := by decide +kernel
theorem dX7_simulate_23 : decode cX7_simulate 23 = .ok (.getfield 26, 3) := by decide +kernel
theorem dX7_simulate_26 : decode cX7_simulate 26 = .ok (.aload_n 0, 1) := by decide +kernel
theorem dX7_simulate_27 : decode cX7_simulate 27 = .ok (.getfield 23, 3) := by decide +kernel
theorem dX7_simulate_30 : decode cX7_simulate 30 = .ok (.invokevirtual 81, 3) := by decide +kernel
theorem dX7_simulate_33 : decode cX7_simulate 33 = .ok (.lload_n 1, 1) := by decide +kernel
theorem dX7_simulate_34 : decode cX7_simulate 34 = .ok (.lstore 4, 2) := by decide +kernel
theorem dX7_simulate_36 : decode cX7_simulate 36 = .ok (.iconst 0, 1) := by decide +kernel
theorem dX7_simulate_37 : decode cX7_simulate 37 = .ok (.istore 6, 2) := by decide +kernel
theorem dX7_simulate_39 : decode cX7_simulate 39 = .ok (.iload 6, 2) := by decide +kernel
theorem dX7_simulate_41 : decode cX7_simulate 41 = .ok (.iload_n 3, 1) := by decide +kernel
theorem dX7_simulate_42 : decode cX7_simulate 42 = .ok (.if_icmp .ge 31, 3) := by decide +kernel
theorem dX7_simulate_45 : decode cX7_simulate 45 = .ok (.lload 4, 2) := by decide +kernel
theorem dX7_simulate_47 : decode cX7_simulate 47 = .ok (.ldc2_w 278, 3) := by decide +kernel
theorem dX7_simulate_50 : decode cX7_simulate 50 = .ok (.lmul, 1) := by decide +kernel
theorem dX7_simulate_51 : decode cX7_simulate 51 = .ok (.ldc2_w 280, 3) := by decide +kernel
theorem dX7_simulate_54 : decode cX7_simulate 54 = .ok (.ladd, 1) := by decide +kernel
theorem dX7_simulate_55 : decode cX7_simulate 55 = .ok (.lstore 4, 2) := by decide +kernel
theorem dX7_simulate_57 : decode cX7_simulate 57 = .ok (.aload_n 0, 1) := by decide +kernel
theorem dX7_simulate_58 : decode cX7_simulate 58 = .ok (.lload 4, 2) := by decide +kernel
theorem dX7_simulate_60 : decode cX7_simulate 60 = .ok (.bipush 33, 2) := by decide +kernel
theorem dX7_simulate_62 : decode cX7_simulate 62 = .ok (.lushr, 1) := by decide +kernel
theorem dX7_simulate_63 : decode cX7_simulate 63 = .ok (.l2i, 1) := by decide +kernel
theorem dX7_simulate_64 : decode cX7_simulate 64 = .ok (.invokevirtual 282, 3) := by decide +kernel
theorem dX7_simulate_67 : decode cX7_simulate 67 = .ok (.iinc 6 1, 3) := by decide +kernel
theorem dX7_simulate_70 : decode cX7_simulate 70 = .ok (.goto (-31), 3) := by decide +kernel
theorem dX7_simulate_73 : decode cX7_simulate 73 = .ok (.sipush 1000, 3) := by decide +kernel
theorem dX7_simulate_76 : decode cX7_simulate 76 = .ok (.aload_n 0, 1) := by decide +kernel
theorem dX7_simulate_77 : decode cX7_simulate 77 = .ok (.getfield 26, 3) := by decide +kernel
theorem dX7_simulate_80 : decode cX7_simulate 80 = .ok (.getfield 233, 3) := by decide +kernel
theorem dX7_simulate_83 : decode cX7_simulate 83 = .ok (.aload_n 0, 1) := by decide +kernel
theorem dX7_simulate_84 : decode cX7_simulate 84 = .ok (.getfield 23, 3) := by decide +kernel
theorem dX7_simulate_87 : decode cX7_simulate 87 = .ok (.getfield 233, 3) := by decide +kernel
theorem dX7_simulate_90 : decode cX7_simulate 90 = .ok (.isub, 1) := by decide +kernel
theorem dX7_simulate_91 : decode cX7_simulate 91 = .ok (.imul, 1) := by decide +kernel
theorem dX7_simulate_92 : decode cX7_simulate 92 = .ok (.aload_n 0, 1) := by decide +kernel
theorem dX7_simulate_93 : decode cX7_simulate 93 = .ok (.getfield 26, 3) := by decide +kernel
theorem dX7_simulate_96 : decode cX7_simulate 96 = .ok (.getfield 236, 3) := by decide +kernel
theorem dX7_simulate_99 : decode cX7_simulate 99 = .ok (.aload_n 0, 1) := by decide +kernel
theorem dX7_simulate_100 : decode cX7_simulate 100 = .ok (.getfield 23, 3) := by decide +kernel
theorem dX7_simulate_103 : decode cX7_simulate 103 = .ok (.getfield 236, 3) := by decide +kernel
theorem dX7_simulate_106 : decode cX7_simulate 106 = .ok (.isub, 1) := by decide +kernel
theorem dX7_simulate_107 : decode cX7_simulate 107 = .ok (.iadd, 1) := by decide +kernel
theorem dX7_simulate_108 : decode cX7_simulate 108 = .ok (.ireturn, 1) := by decide +kernel
theorem dX7_doTurn_0 : decode cX7_doTurn 0 = .ok (.iload_n 1, 1) := by decide +kernel
theorem dX7_doTurn_1 : decode cX7_doTurn 1 = .ok (.bipush 8, 2) := by decide +kernel
theorem dX7_doTurn_3 : decode cX7_doTurn 3 = .ok (.idiv, 1) := by decide +kernel
theorem dX7_doTurn_4 : decode cX7_doTurn 4 = .ok (.istore_n 2, 1) := by decide +kernel
theorem dX7_doTurn_5 : decode cX7_doTurn 5 = .ok (.iload_n 1, 1) := by decide +kernel
theorem dX7_doTurn_6 : decode cX7_doTurn 6 = .ok (.bipush 8, 2) := by decide +kernel
theorem dX7_doTurn_8 : decode cX7_doTurn 8 = .ok (.irem, 1) := by decide +kernel
theorem dX7_doTurn_9 : decode cX7_doTurn 9 = .ok (.tableswitch 126 0 4 #[35, 35, 64, 91, 108], 35) := by decide +kernel
theorem dX7_doTurn_44 : decode cX7_doTurn 44 = .ok (.aload_n 0, 1) := by decide +kernel
theorem dX7_doTurn_45 : decode cX7_doTurn 45 = .ok (.getfield 26, 3) := by decide +kernel
theorem dX7_doTurn_48 : decode cX7_doTurn 48 = .ok (.iload_n 2, 1) := by decide +kernel
theorem dX7_doTurn_49 : decode cX7_doTurn 49 = .ok (.bipush 6, 2) := by decide +kernel
theorem dX7_doTurn_51 : decode cX7_doTurn 51 = .ok (.irem, 1) := by decide +kernel
theorem dX7_doTurn_52 : decode cX7_doTurn 52 = .ok (.iload_n 2, 1) := by decide +kernel
theorem dX7_doTurn_53 : decode cX7_doTurn 53 = .ok (.bipush 8, 2) := by decide +kernel
theorem dX7_doTurn_55 : decode cX7_doTurn 55 = .ok (.idiv, 1) := by decide +kernel
theorem dX7_doTurn_56 : decode cX7_doTurn 56 = .ok (.iconst 3, 1) := by decide +kernel
theorem dX7_doTurn_57 : decode cX7_doTurn 57 = .ok (.irem, 1) := by decide +kernel
theorem dX7_doTurn_58 : decode cX7_doTurn 58 = .ok (.ifCond .ne 7, 3) := by decide +kernel
theorem dX7_doTurn_61 : decode cX7_doTurn 61 = .ok (.iconst 1, 1) := by decide +kernel
theorem dX7_doTurn_62 : decode cX7_doTurn 62 = .ok (.goto 4, 3) := by decide +kernel
theorem dX7_doTurn_65 : decode cX7_doTurn 65 = .ok (.iconst 0, 1) := by decide +kernel
theorem dX7_doTurn_66 : decode cX7_doTurn 66 = .ok (.invokevirtual 116, 3) := by decide +kernel
theorem dX7_doTurn_69 : decode cX7_doTurn 69 = .ok (.pop, 1) := by decide +kernel
theorem dX7_doTurn_70 : decode cX7_doTurn 70 = .ok (.goto 79, 3) := by decide +kernel
theorem dX7_doTurn_73 : decode cX7_doTurn 73 = .ok (.aload_n 0, 1) := by decide +kernel
theorem dX7_doTurn_74 : decode cX7_doTurn 74 = .ok (.getfield 26, 3) := by decide +kernel
theorem dX7_doTurn_77 : decode cX7_doTurn 77 = .ok (.iload_n 2, 1) := by decide +kernel
theorem dX7_doTurn_78 : decode cX7_doTurn 78 = .ok (.bipush 6, 2) := by decide +kernel
theorem dX7_doTurn_80 : decode cX7_doTurn 80 = .ok (.irem, 1) := by decide +kernel
theorem dX7_doTurn_81 : decode cX7_doTurn 81 = .ok (.iload_n 2, 1) := by decide +kernel
theorem dX7_doTurn_82 : decode cX7_doTurn 82 = .ok (.bipush 8, 2) := by decide +kernel
theorem dX7_doTurn_84 : decode cX7_doTurn 84 = .ok (.idiv, 1) := by decide +kernel
theorem dX7_doTurn_85 : decode cX7_doTurn 85 = .ok (.sipush 401, 3) := by decide +kernel
theorem dX7_doTurn_88 : decode cX7_doTurn 88 = .ok (.irem, 1) := by decide +kernel
theorem dX7_doTurn_89 : decode cX7_doTurn 89 = .ok (.sipush 200, 3) := by decide +kernel
theorem dX7_doTurn_92 : decode cX7_doTurn 92 = .ok (.isub, 1) := by decide +kernel
theorem dX7_doTurn_93 : decode cX7_doTurn 93 = .ok (.invokevirtual 195, 3) := by decide +kernel
theorem dX7_doTurn_96 : decode cX7_doTurn 96 = .ok (.pop, 1) := by decide +kernel
theorem dX7_doTurn_97 : decode cX7_doTurn 97 = .ok (.goto 52, 3) := by decide +kernel
theorem dX7_doTurn_100 : decode cX7_doTurn 100 = .ok (.aload_n 0, 1) := by decide +kernel
theorem dX7_doTurn_101 : decode cX7_doTurn 101 = .ok (.getfield 26, 3) := by decide +kernel
theorem dX7_doTurn_104 : decode cX7_doTurn 104 = .ok (.iconst 0, 1) := by decide +kernel
theorem dX7_doTurn_105 : decode cX7_doTurn 105 = .ok (.iload_n 2, 1) := by decide +kernel
theorem dX7_doTurn_106 : decode cX7_doTurn 106 = .ok (.sipush 1000, 3) := by decide +kernel
theorem dX7_doTurn_109 : decode cX7_doTurn 109 = .ok (.irem, 1) := by decide +kernel
theorem dX7_doTurn_110 : decode cX7_doTurn 110 = .ok (.invokevirtual 124, 3) := by decide +kernel
theorem dX7_doTurn_113 : decode cX7_doTurn 113 = .ok (.pop, 1) := by decide +kernel
theorem dX7_doTurn_114 : decode cX7_doTurn 114 = .ok (.goto 35, 3) := by decide +kernel
theorem dX7_doTurn_117 : decode cX7_doTurn 117 = .ok (.aload_n 0, 1) := by decide +kernel
theorem dX7_doTurn_118 : decode cX7_doTurn 118 = .ok (.getfield 26, 3) := by decide +kernel
theorem dX7_doTurn_121 : decode cX7_doTurn 121 = .ok (.iconst 4, 1) := by decide +kernel
theorem dX7_doTurn_122 : decode cX7_doTurn 122 = .ok (.iconst 1, 1) := by decide +kernel
theorem dX7_doTurn_123 : decode cX7_doTurn 123 = .ok (.iload_n 2, 1) := by decide +kernel
theorem dX7_doTurn_124 : decode cX7_doTurn 124 = .ok (.bipush 100, 2) := by decide +kernel
theorem dX7_doTurn_126 : decode cX7_doTurn 126 = .ok (.irem, 1) := by decide +kernel
theorem dX7_doTurn_127 : decode cX7_doTurn 127 = .ok (.iadd, 1) := by decide +kernel
theorem dX7_doTurn_128 : decode cX7_doTurn 128 = .ok (.invokevirtual 124, 3) := by decide +kernel
theorem dX7_doTurn_131 : decode cX7_doTurn 131 = .ok (.pop, 1) := by decide +kernel
theorem dX7_doTurn_132 : decode cX7_doTurn 132 = .ok (.goto 17, 3) := by decide +kernel
theorem dX7_doTurn_135 : decode cX7_doTurn 135 = .ok (.aload_n 0, 1) := by decide +kernel
theorem dX7_doTurn_136 : decode cX7_doTurn 136 = .ok (.getfield 26, 3) := by decide +kernel
theorem dX7_doTurn_139 : decode cX7_doTurn 139 = .ok (.iconst 1, 1) := by decide +kernel
theorem dX7_doTurn_140 : decode cX7_doTurn 140 = .ok (.iload_n 2, 1) := by decide +kernel
theorem dX7_doTurn_141 : decode cX7_doTurn 141 = .ok (.bipush 15, 2) := by decide +kernel
theorem dX7_doTurn_143 : decode cX7_doTurn 143 = .ok (.irem, 1) := by decide +kernel
theorem dX7_doTurn_144 : decode cX7_doTurn 144 = .ok (.iadd, 1) := by decide +kernel
theorem dX7_doTurn_145 : decode cX7_doTurn 145 = .ok (.invokevirtual 120, 3) := by decide +kernel
theorem dX7_doTurn_148 : decode cX7_doTurn 148 = .ok (.pop, 1) := by decide +kernel
theorem dX7_doTurn_149 : decode cX7_doTurn 149 = .ok (.return_, 1) := by decide +kernel
theorem dX7_save_0 : decode cX7_save 0 = .ok (.aload_n 0, 1) := by decide +kernel
theorem dX7_save_1 : decode cX7_save 1 = .ok (.iload_n 1, 1) := by decide +kernel
theorem dX7_save_2 : decode cX7_save 2 = .ok (.invokevirtual 286, 3) := by decide +kernel
theorem dX7_save_5 : decode cX7_save 5 = .ok (.astore_n 2, 1) := by decide +kernel
theorem dX7_save_6 : decode cX7_save 6 = .ok (.aload_n 2, 1) := by decide +kernel
theorem dX7_save_7 : decode cX7_save 7 = .ok (.ifnonnull 14, 3) := by decide +kernel
theorem dX7_save_10 : decode cX7_save 10 = .ok (.new 137, 3) := by decide +kernel
theorem dX7_save_13 : decode cX7_save 13 = .ok (.dup, 1) := by decide +kernel
theorem dX7_save_14 : decode cX7_save 14 = .ok (.ldc_w 290, 3) := by decide +kernel
theorem dX7_save_17 : decode cX7_save 17 = .ok (.invokespecial 141, 3) := by decide +kernel
theorem dX7_save_20 : decode cX7_save 20 = .ok (.athrow, 1) := by decide +kernel
theorem dX7_save_21 : decode cX7_save 21 = .ok (.aload_n 2, 1) := by decide +kernel
theorem dX7_save_22 : decode cX7_save 22 = .ok (.aload_n 0, 1) := by decide +kernel
theorem dX7_save_23 : decode cX7_save 23 = .ok (.getfield 23, 3) := by decide +kernel
theorem dX7_save_26 : decode cX7_save 26 = .ok (.invokevirtual 292, 3) := by decide +kernel
theorem dX7_save_29 : decode cX7_save 29 = .ok (.aload_n 0, 1) := by decide +kernel
theorem dX7_save_30 : decode cX7_save 30 = .ok (.getfield 23, 3) := by decide +kernel
theorem dX7_save_33 : decode cX7_save 33 = .ok (.getfield 295, 3) := by decide +kernel
theorem dX7_save_36 : decode cX7_save 36 = .ok (.ireturn, 1) := by decide +kernel
theorem dX7_restore_0 : decode cX7_restore 0 = .ok (.aload_n 0, 1) := by decide +kernel
theorem dX7_restore_1 : decode cX7_restore 1 = .ok (.iload_n 1, 1) := by decide +kernel
theorem dX7_restore_2 : decode cX7_restore 2 = .ok (.invokevirtual 286, 3) := by decide +kernel
theorem dX7_restore_5 : decode cX7_restore 5 = .ok (.astore_n 2, 1) := by decide +kernel
theorem dX7_restore_6 : decode cX7_restore 6 = .ok (.aload_n 2, 1) := by decide +kernel
theorem dX7_restore_7 : decode cX7_restore 7 = .ok (.ifnonnull 14, 3) := by decide +kernel
theorem dX7_restore_10 : decode cX7_restore 10 = .ok (.new 137, 3) := by decide +kernel
theorem dX7_restore_13 : decode cX7_restore 13 = .ok (.dup, 1) := by decide +kernel
theorem dX7_restore_14 : decode cX7_restore 14 = .ok (.ldc_w 290, 3) := by decide +kernel
theorem dX7_restore_17 : decode cX7_restore 17 = .ok (.invokespecial 141, 3) := by decide +kernel
theorem dX7_restore_20 : decode cX7_restore 20 = .ok (.athrow, 1) := by decide +kernel
theorem dX7_restore_21 : decode cX7_restore 21 = .ok (.aload_n 2, 1) := by decide +kernel
theorem dX7_restore_22 : decode cX7_restore 22 = .ok (.getfield 298, 3) := by decide +kernel
theorem dX7_restore_25 : decode cX7_restore 25 = .ok (.ifCond .ne 14, 3) := by decide +kernel
theorem dX7_restore_28 : decode cX7_restore 28 = .ok (.new 63, 3) := by decide +kernel
theorem dX7_restore_31 : decode cX7_restore 31 = .ok (.dup, 1) := by decide +kernel
theorem dX7_restore_32 : decode cX7_restore 32 = .ok (.ldc_w 301, 3) := by decide +kernel
theorem dX7_restore_35 : decode cX7_restore 35 = .ok (.invokespecial 67, 3) := by decide +kernel
theorem dX7_restore_38 : decode cX7_restore 38 = .ok (.athrow, 1) := by decide +kernel
theorem dX7_restore_39 : decode cX7_restore 39 = .ok (.aload_n 0, 1) := by decide +kernel
theorem dX7_restore_40 : decode cX7_restore 40 = .ok (.getfield 23, 3) := by decide +kernel
theorem dX7_restore_43 : decode cX7_restore 43 = .ok (.aload_n 2, 1) := by decide +kernel
theorem dX7_restore_44 : decode cX7_restore 44 = .ok (.getfield 303, 3) := by decide +kernel
theorem dX7_restore_47 : decode cX7_restore 47 = .ok (.invokevirtual 81, 3) := by decide +kernel
theorem dX7_restore_50 : decode cX7_restore 50 = .ok (.aload_n 0, 1) := by decide +kernel
theorem dX7_restore_51 : decode cX7_restore 51 = .ok (.getfield 32, 3) := by decide +kernel
theorem dX7_restore_54 : decode cX7_restore 54 = .ok (.invokevirtual 85, 3) := by decide +kernel
theorem dX7_restore_57 : decode cX7_restore 57 = .ok (.aload_n 0, 1) := by decide +kernel
theorem dX7_restore_58 : decode cX7_restore 58 = .ok (.getfield 23, 3) := by decide +kernel
theorem dX7_restore_61 : decode cX7_restore 61 = .ok (.getfield 295, 3) := by decide +kernel
theorem dX7_restore_64 : decode cX7_restore 64 = .ok (.ireturn, 1) := by decide +kernel
theorem dX7_slotAt_0 : decode cX7_slotAt 0 = .ok (.iload_n 1, 1) := by decide +kernel
theorem dX7_slotAt_1 : decode cX7_slotAt 1 = .ok (.ifCond .ne 8, 3) := by decide +kernel
theorem dX7_slotAt_4 : decode cX7_slotAt 4 = .ok (.aload_n 0, 1) := by decide +kernel
theorem dX7_slotAt_5 : decode cX7_slotAt 5 = .ok (.getfield 39, 3) := by decide +kernel
theorem dX7_slotAt_8 : decode cX7_slotAt 8 = .ok (.areturn, 1) := by decide +kernel
theorem dX7_slotAt_9 : decode cX7_slotAt 9 = .ok (.iload_n 1, 1) := by decide +kernel
theorem dX7_slotAt_10 : decode cX7_slotAt 10 = .ok (.iconst 1, 1) := by decide +kernel
theorem dX7_slotAt_11 : decode cX7_slotAt 11 = .ok (.if_icmp .ne 10, 3) := by decide +kernel
theorem dX7_slotAt_14 : decode cX7_slotAt 14 = .ok (.aload_n 0, 1) := by decide +kernel
theorem dX7_slotAt_15 : decode cX7_slotAt 15 = .ok (.getfield 43, 3) := by decide +kernel
theorem dX7_slotAt_18 : decode cX7_slotAt 18 = .ok (.goto 4, 3) := by decide +kernel
theorem dX7_slotAt_21 : decode cX7_slotAt 21 = .ok (.aconst_null, 1) := by decide +kernel
theorem dX7_slotAt_22 : decode cX7_slotAt 22 = .ok (.areturn, 1) := by decide +kernel
theorem dX8_init_0 : decode cX8_init 0 = .ok (.aload_n 0, 1) := by decide +kernel
theorem dX8_init_1 : decode cX8_init 1 = .ok (.invokespecial 1, 3) := by decide +kernel
theorem dX8_init_4 : decode cX8_init 4 = .ok (.aload_n 0, 1) := by decide +kernel
theorem dX8_init_5 : decode cX8_init 5 = .ok (.bipush 120, 2) := by decide +kernel
theorem dX8_init_7 : decode cX8_init 7 = .ok (.newarray .int, 2) := by decide +kernel
theorem dX8_init_9 : decode cX8_init 9 = .ok (.putfield 7, 3) := by decide +kernel
theorem dX8_init_12 : decode cX8_init 12 = .ok (.aload_n 0, 1) := by decide +kernel
theorem dX8_init_13 : decode cX8_init 13 = .ok (.bipush 64, 2) := by decide +kernel
theorem dX8_init_15 : decode cX8_init 15 = .ok (.newarray .int, 2) := by decide +kernel
theorem dX8_init_17 : decode cX8_init 17 = .ok (.putfield 13, 3) := by decide +kernel
theorem dX8_init_20 : decode cX8_init 20 = .ok (.aload_n 0, 1) := by decide +kernel
theorem dX8_init_21 : decode cX8_init 21 = .ok (.bipush 64, 2) := by decide +kernel
theorem dX8_init_23 : decode cX8_init 23 = .ok (.newarray .int, 2) := by decide +kernel
theorem dX8_init_25 : decode cX8_init 25 = .ok (.putfield 16, 3) := by decide +kernel
theorem dX8_init_28 : decode cX8_init 28 = .ok (.aload_n 0, 1) := by decide +kernel
theorem dX8_init_29 : decode cX8_init 29 = .ok (.sipush 896, 3) := by decide +kernel
theorem dX8_init_32 : decode cX8_init 32 = .ok (.newarray .int, 2) := by decide +kernel
theorem dX8_init_34 : decode cX8_init 34 = .ok (.putfield 19, 3) := by decide +kernel
theorem dX8_init_37 : decode cX8_init 37 = .ok (.aload_n 0, 1) := by decide +kernel
theorem dX8_init_38 : decode cX8_init 38 = .ok (.sipush 128, 3) := by decide +kernel
theorem dX8_init_41 : decode cX8_init 41 = .ok (.newarray .int, 2) := by decide +kernel
theorem dX8_init_43 : decode cX8_init 43 = .ok (.putfield 22, 3) := by decide +kernel
theorem dX8_init_46 : decode cX8_init 46 = .ok (.aload_n 0, 1) := by decide +kernel
theorem dX8_init_47 : decode cX8_init 47 = .ok (.iconst 2, 1) := by decide +kernel
theorem dX8_init_48 : decode cX8_init 48 = .ok (.newarray .boolean, 2) := by decide +kernel
theorem dX8_init_50 : decode cX8_init 50 = .ok (.putfield 25, 3) := by decide +kernel
theorem dX8_init_53 : decode cX8_init 53 = .ok (.aload_n 0, 1) := by decide +kernel
theorem dX8_init_54 : decode cX8_init 54 = .ok (.bipush 6, 2) := by decide +kernel
theorem dX8_init_56 : decode cX8_init 56 = .ok (.newarray .int, 2) := by decide +kernel
theorem dX8_init_58 : decode cX8_init 58 = .ok (.putfield 29, 3) := by decide +kernel
theorem dX8_init_61 : decode cX8_init 61 = .ok (.aload_n 0, 1) := by decide +kernel
theorem dX8_init_62 : decode cX8_init 62 = .ok (.getfield 13, 3) := by decide +kernel
theorem dX8_init_65 : decode cX8_init 65 = .ok (.invokestatic 32, 3) := by decide +kernel
theorem dX8_init_68 : decode cX8_init 68 = .ok (.return_, 1) := by decide +kernel
theorem dX8_thrown_0 : decode cX8_thrown 0 = .ok (.aload_n 0, 1) := by decide +kernel
theorem dX8_thrown_1 : decode cX8_thrown 1 = .ok (.getfield 36, 3) := by decide +kernel
theorem dX8_thrown_4 : decode cX8_thrown 4 = .ok (.ireturn, 1) := by decide +kernel
theorem dX8_refused_0 : decode cX8_refused 0 = .ok (.aload_n 0, 1) := by decide +kernel
theorem dX8_refused_1 : decode cX8_refused 1 = .ok (.iload_n 1, 1) := by decide +kernel
theorem dX8_refused_2 : decode cX8_refused 2 = .ok (.putfield 36, 3) := by decide +kernel
theorem dX8_refused_5 : decode cX8_refused 5 = .ok (.iload_n 1, 1) := by decide +kernel
theorem dX8_refused_6 : decode cX8_refused 6 = .ok (.ifCond .le 7, 3) := by decide +kernel
theorem dX8_refused_9 : decode cX8_refused 9 = .ok (.iconst 1, 1) := by decide +kernel
theorem dX8_refused_10 : decode cX8_refused 10 = .ok (.goto 4, 3) := by decide +kernel
theorem dX8_refused_13 : decode cX8_refused 13 = .ok (.iconst 0, 1) := by decide +kernel
theorem dX8_refused_14 : decode cX8_refused 14 = .ok (.ireturn, 1) := by decide +kernel
theorem dX8_in_0 : decode cX8_in 0 = .ok (.lload_n 0, 1) := by decide +kernel
theorem dX8_in_1 : decode cX8_in 1 = .ok (.lload_n 2, 1) := by decide +kernel
theorem dX8_in_2 : decode cX8_in 2 = .ok (.lcmp, 1) := by decide +kernel
theorem dX8_in_3 : decode cX8_in 3 = .ok (.ifCond .lt 14, 3) := by decide +kernel
theorem dX8_in_6 : decode cX8_in 6 = .ok (.lload_n 0, 1) := by decide +kernel
theorem dX8_in_7 : decode cX8_in 7 = .ok (.lload 4, 2) := by decide +kernel
theorem dX8_in_9 : decode cX8_in 9 = .ok (.lcmp, 1) := by decide +kernel
theorem dX8_in_10 : decode cX8_in 10 = .ok (.ifCond .gt 7, 3) := by decide +kernel
theorem dX8_in_13 : decode cX8_in 13 = .ok (.iconst 1, 1) := by decide +kernel
theorem dX8_in_14 : decode cX8_in 14 = .ok (.goto 4, 3) := by decide +kernel
theorem dX8_in_17 : decode cX8_in 17 = .ok (.iconst 0, 1) := by decide +kernel
theorem dX8_in_18 : decode cX8_in 18 = .ok (.ireturn, 1) := by decide +kernel
theorem dX8_copyState_0 : decode cX8_copyState 0 = .ok (.iconst 0, 1) := by decide +kernel
theorem dX8_copyState_1 : decode cX8_copyState 1 = .ok (.istore 4, 2) := by decide +kernel
theorem dX8_copyState_3 : decode cX8_copyState 3 = .ok (.iload 4, 2) := by decide +kernel
theorem dX8_copyState_5 : decode cX8_copyState 5 = .ok (.bipush 64, 2) := by decide +kernel
theorem dX8_copyState_7 : decode cX8_copyState 7 = .ok (.if_icmp .ge 21, 3) := by decide +kernel
theorem dX8_copyState_10 : decode cX8_copyState 10 = .ok (.aload_n 2, 1) := by decide +kernel
theorem dX8_copyState_11 : decode cX8_copyState 11 = .ok (.iload_n 3, 1) := by decide +kernel
theorem dX8_copyState_12 : decode cX8_copyState 12 = .ok (.iload 4, 2) := by decide +kernel
theorem dX8_copyState_14 : decode cX8_copyState 14 = .ok (.iadd, 1) := by decide +kernel
theorem dX8_copyState_15 : decode cX8_copyState 15 = .ok (.aload_n 0, 1) := by decide +kernel
theorem dX8_copyState_16 : decode cX8_copyState 16 = .ok (.iload_n 1, 1) := by decide +kernel
theorem dX8_copyState_17 : decode cX8_copyState 17 = .ok (.iload 4, 2) := by decide +kernel
theorem dX8_copyState_19 : decode cX8_copyState 19 = .ok (.iadd, 1) := by decide +kernel
theorem dX8_copyState_20 : decode cX8_copyState 20 = .ok (.iaload, 1) := by decide +kernel
theorem dX8_copyState_21 : decode cX8_copyState 21 = .ok (.iastore, 1) := by decide +kernel
theorem dX8_copyState_22 : decode cX8_copyState 22 = .ok (.iinc 4 1, 3) := by decide +kernel
theorem dX8_copyState_25 : decode cX8_copyState 25 = .ok (.goto (-22), 3) := by decide +kernel
theorem dX8_copyState_28 : decode cX8_copyState 28 = .ok (.return_, 1) := by decide +kernel
theorem dX8_clear_0 : decode cX8_clear 0 = .ok (.iconst 0, 1) := by decide +kernel
theorem dX8_clear_1 : decode cX8_clear 1 = .ok (.istore_n 1, 1) := by decide +kernel
theorem dX8_clear_2 : decode cX8_clear 2 = .ok (.iload_n 1, 1) := by decide +kernel
theorem dX8_clear_3 : decode cX8_clear 3 = .ok (.bipush 64, 2) := by decide +kernel
theorem dX8_clear_5 : decode cX8_clear 5 = .ok (.if_icmp .ge 13, 3) := by decide +kernel
theorem dX8_clear_8 : decode cX8_clear 8 = .ok (.aload_n 0, 1) := by decide +kernel
theorem dX8_clear_9 : decode cX8_clear 9 = .ok (.iload_n 1, 1) := by decide +kernel
theorem dX8_clear_10 : decode cX8_clear 10 = .ok (.iconst 0, 1) := by decide +kernel
theorem dX8_clear_11 : decode cX8_clear 11 = .ok (.iastore, 1) := by decide +kernel
theorem dX8_clear_12 : decode cX8_clear 12 = .ok (.iinc 1 1, 3) := by decide +kernel
theorem dX8_clear_15 : decode cX8_clear 15 = .ok (.goto (-13), 3) := by decide +kernel
theorem dX8_clear_18 : decode cX8_clear 18 = .ok (.aload_n 0, 1) := by decide +kernel
theorem dX8_clear_19 : decode cX8_clear 19 = .ok (.bipush 10, 2) := by decide +kernel
theorem dX8_clear_21 : decode cX8_clear 21 = .ok (.sipush 600, 3) := by decide +kernel
theorem dX8_clear_24 : decode cX8_clear 24 = .ok (.iastore, 1) := by decide +kernel
theorem dX8_clear_25 : decode cX8_clear 25 = .ok (.aload_n 0, 1) := by decide +kernel
theorem dX8_clear_26 : decode cX8_clear 26 = .ok (.bipush 12, 2) := by decide +kernel
theorem dX8_clear_28 : decode cX8_clear 28 = .ok (.bipush 10, 2) := by decide +kernel
theorem dX8_clear_30 : decode cX8_clear 30 = .ok (.iastore, 1) := by decide +kernel
theorem dX8_clear_31 : decode cX8_clear 31 = .ok (.aload_n 0, 1) := by decide +kernel
theorem dX8_clear_32 : decode cX8_clear 32 = .ok (.bipush 13, 2) := by decide +kernel
theorem dX8_clear_34 : decode cX8_clear 34 = .ok (.bipush 12, 2) := by decide +kernel
theorem dX8_clear_36 : decode cX8_clear 36 = .ok (.iastore, 1) := by decide +kernel
theorem dX8_clear_37 : decode cX8_clear 37 = .ok (.aload_n 0, 1) := by decide +kernel
theorem dX8_clear_38 : decode cX8_clear 38 = .ok (.bipush 14, 2) := by decide +kernel
theorem dX8_clear_40 : decode cX8_clear 40 = .ok (.bipush 30, 2) := by decide +kernel
theorem dX8_clear_42 : decode cX8_clear 42 = .ok (.iastore, 1) := by decide +kernel
theorem dX8_clear_43 : decode cX8_clear 43 = .ok (.aload_n 0, 1) := by decide +kernel
theorem dX8_clear_44 : decode cX8_clear 44 = .ok (.bipush 15, 2) := by decide +kernel
theorem dX8_clear_46 : decode cX8_clear 46 = .ok (.bipush 6, 2) := by decide +kernel
theorem dX8_clear_48 : decode cX8_clear 48 = .ok (.iastore, 1) := by decide +kernel
theorem dX8_clear_49 : decode cX8_clear 49 = .ok (.return_, 1) := by decide +kernel
theorem dX8_isRoom_0 : decode cX8_isRoom 0 = .ok (.iload_n 1, 1) := by decide +kernel
theorem dX8_isRoom_1 : decode cX8_isRoom 1 = .ok (.i2l, 1) := by decide +kernel
theorem dX8_isRoom_2 : decode cX8_isRoom 2 = .ok (.lconst 0, 1) := by decide +kernel
theorem dX8_isRoom_3 : decode cX8_isRoom 3 = .ok (.aload_n 0, 1) := by decide +kernel
theorem dX8_isRoom_4 : decode cX8_isRoom 4 = .ok (.iconst 0, 1) := by decide +kernel
theorem dX8_isRoom_5 : decode cX8_isRoom 5 = .ok (.iaload, 1) := by decide +kernel
theorem dX8_isRoom_6 : decode cX8_isRoom 6 = .ok (.iconst 1, 1) := by decide +kernel
theorem dX8_isRoom_7 : decode cX8_isRoom 7 = .ok (.isub, 1) := by decide +kernel
theorem dX8_isRoom_8 : decode cX8_isRoom 8 = .ok (.i2l, 1) := by decide +kernel
theorem dX8_isRoom_9 : decode cX8_isRoom 9 = .ok (.invokestatic 40, 3) := by decide +kernel
theorem dX8_isRoom_12 : decode cX8_isRoom 12 = .ok (.ireturn, 1) := by decide +kernel
theorem dX8_of_0 : decode cX8_of 0 = .ok (.aload_n 0, 1) := by decide +kernel
theorem dX8_of_1 : decode cX8_of 1 = .ok (.bipush 16, 2) := by decide +kernel
theorem dX8_of_3 : decode cX8_of 3 = .ok (.bipush 8, 2) := by decide +kernel
theorem dX8_of_5 : decode cX8_of 5 = .ok (.iload_n 1, 1) := by decide +kernel
theorem dX8_of_6 : decode cX8_of 6 = .ok (.imul, 1) := by decide +kernel
theorem dX8_of_7 : decode cX8_of 7 = .ok (.iadd, 1) := by decide +kernel
theorem dX8_of_8 : decode cX8_of 8 = .ok (.iload_n 2, 1) := by decide +kernel
theorem dX8_of_9 : decode cX8_of 9 = .ok (.iadd, 1) := by decide +kernel
theorem dX8_of_10 : decode cX8_of 10 = .ok (.iaload, 1) := by decide +kernel
theorem dX8_of_11 : decode cX8_of 11 = .ok (.ireturn, 1) := by decide +kernel
theorem dX8_lay_0 : decode cX8_lay 0 = .ok (.aload_n 0, 1) := by decide +kernel
theorem dX8_lay_1 : decode cX8_lay 1 = .ok (.bipush 16, 2) := by decide +kernel
theorem dX8_lay_3 : decode cX8_lay 3 = .ok (.bipush 8, 2) := by decide +kernel
theorem dX8_lay_5 : decode cX8_lay 5 = .ok (.iload_n 1, 1) := by decide +kernel
theorem dX8_lay_6 : decode cX8_lay 6 = .ok (.imul, 1) := by decide +kernel
theorem dX8_lay_7 : decode cX8_lay 7 = .ok (.iadd, 1) := by decide +kernel
theorem dX8_lay_8 : decode cX8_lay 8 = .ok (.iload_n 2, 1) := by decide +kernel
theorem dX8_lay_9 : decode cX8_lay 9 = .ok (.iadd, 1) := by decide +kernel
theorem dX8_lay_10 : decode cX8_lay 10 = .ok (.iload_n 3, 1) := by decide +kernel
theorem dX8_lay_11 : decode cX8_lay 11 = .ok (.iastore, 1) := by decide +kernel
theorem dX8_lay_12 : decode cX8_lay 12 = .ok (.return_, 1) := by decide +kernel
theorem dX8_isWarm_0 : decode cX8_isWarm 0 = .ok (.aload_n 0, 1) := by decide +kernel
theorem dX8_isWarm_1 : decode cX8_isWarm 1 = .ok (.iload_n 1, 1) := by decide +kernel
theorem dX8_isWarm_2 : decode cX8_isWarm 2 = .ok (.iconst 3, 1) := by decide +kernel
theorem dX8_isWarm_3 : decode cX8_isWarm 3 = .ok (.invokestatic 44, 3) := by decide +kernel
theorem dX8_isWarm_6 : decode cX8_isWarm 6 = .ok (.aload_n 0, 1) := by decide +kernel
theorem dX8_isWarm_7 : decode cX8_isWarm 7 = .ok (.iload_n 1, 1) := by decide +kernel
theorem dX8_isWarm_8 : decode cX8_isWarm 8 = .ok (.iconst 2, 1) := by decide +kernel
theorem dX8_isWarm_9 : decode cX8_isWarm 9 = .ok (.invokestatic 44, 3) := by decide +kernel
theorem dX8_isWarm_12 : decode cX8_isWarm 12 = .ok (.if_icmp .lt 7, 3) := by decide +kernel
theorem dX8_isWarm_15 : decode cX8_isWarm 15 = .ok (.iconst 1, 1) := by decide +kernel
theorem dX8_isWarm_16 : decode cX8_isWarm 16 = .ok (.goto 4, 3) := by decide +kernel
theorem dX8_isWarm_19 : decode cX8_isWarm 19 = .ok (.iconst 0, 1) := by decide +kernel
theorem dX8_isWarm_20 : decode cX8_isWarm 20 = .ok (.ireturn, 1) := by decide +kernel
theorem dX8_over_0 : decode cX8_over 0 = .ok (.aload_n 0, 1) := by decide +kernel
theorem dX8_over_1 : decode cX8_over 1 = .ok (.iload_n 1, 1) := by decide +kernel
theorem dX8_over_2 : decode cX8_over 2 = .ok (.iconst 3, 1) := by decide +kernel
theorem dX8_over_3 : decode cX8_over 3 = .ok (.invokestatic 44, 3) := by decide +kernel
theorem dX8_over_6 : decode cX8_over 6 = .ok (.aload_n 0, 1) := by decide +kernel
theorem dX8_over_7 : decode cX8_over 7 = .ok (.iload_n 1, 1) := by decide +kernel
theorem dX8_over_8 : decode cX8_over 8 = .ok (.iconst 1, 1) := by decide +kernel
theorem dX8_over_9 : decode cX8_over 9 = .ok (.invokestatic 44, 3) := by decide +kernel
theorem dX8_over_12 : decode cX8_over 12 = .ok (.isub, 1) := by decide +kernel
theorem dX8_over_13 : decode cX8_over 13 = .ok (.ireturn, 1) := by decide +kernel
theorem dX8_minutesLeft_0 : decode cX8_minutesLeft 0 = .ok (.bipush 15, 2) := by decide +kernel
theorem dX8_minutesLeft_2 : decode cX8_minutesLeft 2 = .ok (.aload_n 0, 1) := by decide +kernel
theorem dX8_minutesLeft_3 : decode cX8_minutesLeft 3 = .ok (.iconst 1, 1) := by decide +kernel
theorem dX8_minutesLeft_4 : decode cX8_minutesLeft 4 = .ok (.iaload, 1) := by decide +kernel
theorem dX8_minutesLeft_5 : decode cX8_minutesLeft 5 = .ok (.aload_n 0, 1) := by decide +kernel
theorem dX8_minutesLeft_6 : decode cX8_minutesLeft 6 = .ok (.bipush 11, 2) := by decide +kernel
theorem dX8_minutesLeft_8 : decode cX8_minutesLeft 8 = .ok (.iaload, 1) := by decide +kernel
theorem dX8_minutesLeft_9 : decode cX8_minutesLeft 9 = .ok (.iadd, 1) := by decide +kernel
theorem dX8_minutesLeft_10 : decode cX8_minutesLeft 10 = .ok (.bipush 15, 2) := by decide +kernel
theorem dX8_minutesLeft_12 : decode cX8_minutesLeft 12 = .ok (.irem, 1) := by decide +kernel
theorem dX8_minutesLeft_13 : decode cX8_minutesLeft 13 = .ok (.isub, 1) := by decide +kernel
theorem dX8_minutesLeft_14 : decode cX8_minutesLeft 14 = .ok (.ireturn, 1) := by decide +kernel
theorem dX8_fits_0 : decode cX8_fits 0 = .ok (.aload_n 1, 1) := by decide +kernel
theorem dX8_fits_1 : decode cX8_fits 1 = .ok (.iconst 2, 1) := by decide +kernel
theorem dX8_fits_2 : decode cX8_fits 2 = .ok (.iaload, 1) := by decide +kernel
theorem dX8_fits_3 : decode cX8_fits 3 = .ok (.iload_n 2, 1) := by decide +kernel
theorem dX8_fits_4 : decode cX8_fits 4 = .ok (.aload_n 0, 1) := by decide +kernel
theorem dX8_fits_5 : decode cX8_fits 5 = .ok (.getfield 48, 3) := by decide +kernel
theorem dX8_fits_8 : decode cX8_fits 8 = .ok (.iadd, 1) := by decide +kernel
theorem dX8_fits_9 : decode cX8_fits 9 = .ok (.aload_n 1, 1) := by decide +kernel
theorem dX8_fits_10 : decode cX8_fits 10 = .ok (.bipush 12, 2) := by decide +kernel
theorem dX8_fits_12 : decode cX8_fits 12 = .ok (.iaload, 1) := by decide +kernel
theorem dX8_fits_13 : decode cX8_fits 13 = .ok (.iadd, 1) := by decide +kernel
theorem dX8_fits_14 : decode cX8_fits 14 = .ok (.aload_n 1, 1) := by decide +kernel
theorem dX8_fits_15 : decode cX8_fits 15 = .ok (.invokestatic 51, 3) := by decide +kernel
theorem dX8_fits_18 : decode cX8_fits 18 = .ok (.imul, 1) := by decide +kernel
theorem dX8_fits_19 : decode cX8_fits 19 = .ok (.iadd, 1) := by decide +kernel
theorem dX8_fits_20 : decode cX8_fits 20 = .ok (.aload_n 1, 1) := by decide +kernel
theorem dX8_fits_21 : decode cX8_fits 21 = .ok (.bipush 10, 2) := by decide +kernel
theorem dX8_fits_23 : decode cX8_fits 23 = .ok (.iaload, 1) := by decide +kernel
theorem dX8_fits_24 : decode cX8_fits 24 = .ok (.if_icmp .gt 7, 3) := by decide +kernel
theorem dX8_fits_27 : decode cX8_fits 27 = .ok (.iconst 1, 1) := by decide +kernel
theorem dX8_fits_28 : decode cX8_fits 28 = .ok (.goto 4, 3) := by decide +kernel
theorem dX8_fits_31 : decode cX8_fits 31 = .ok (.iconst 0, 1) := by decide +kernel
theorem dX8_fits_32 : decode cX8_fits 32 = .ok (.ireturn, 1) := by decide +kernel
theorem dX8_measure_0 : decode cX8_measure 0 = .ok (.iload_n 1, 1) := by decide +kernel
theorem dX8_measure_1 : decode cX8_measure 1 = .ok (.aload_n 0, 1) := by decide +kernel
theorem dX8_measure_2 : decode cX8_measure 2 = .ok (.bipush 12, 2) := by decide +kernel
theorem dX8_measure_4 : decode cX8_measure 4 = .ok (.iaload, 1) := by decide +kernel
theorem dX8_measure_5 : decode cX8_measure 5 = .ok (.iadd, 1) := by decide +kernel
theorem dX8_measure_6 : decode cX8_measure 6 = .ok (.istore_n 2, 1) := by decide +kernel
theorem dX8_measure_7 : decode cX8_measure 7 = .ok (.aload_n 0, 1) := by decide +kernel
theorem dX8_measure_8 : decode cX8_measure 8 = .ok (.invokestatic 51, 3) := by decide +kernel
theorem dX8_measure_11 : decode cX8_measure 11 = .ok (.iconst 1, 1) := by decide +kernel
theorem dX8_measure_12 : decode cX8_measure 12 = .ok (.if_icmp .ne 7, 3) := by decide +kernel
theorem dX8_measure_15 : decode cX8_measure 15 = .ok (.iconst 1, 1) := by decide +kernel
theorem dX8_measure_16 : decode cX8_measure 16 = .ok (.goto 4, 3) := by decide +kernel
theorem dX8_measure_19 : decode cX8_measure 19 = .ok (.iconst 0, 1) := by decide +kernel
theorem dX8_measure_20 : decode cX8_measure 20 = .ok (.istore_n 3, 1) := by decide +kernel
theorem dX8_measure_21 : decode cX8_measure 21 = .ok (.aload_n 0, 1) := by decide +kernel
theorem dX8_measure_22 : decode cX8_measure 22 = .ok (.iconst 2, 1) := by decide +kernel
theorem dX8_measure_23 : decode cX8_measure 23 = .ok (.dup2, 1) := by decide +kernel
theorem dX8_measure_24 : decode cX8_measure 24 = .ok (.iaload, 1) := by decide +kernel
theorem dX8_measure_25 : decode cX8_measure 25 = .ok (.iload_n 2, 1) := by decide +kernel
theorem dX8_measure_26 : decode cX8_measure 26 = .ok (.iadd, 1) := by decide +kernel
theorem dX8_measure_27 : decode cX8_measure 27 = .ok (.iastore, 1) := by decide +kernel
theorem dX8_measure_28 : decode cX8_measure 28 = .ok (.aload_n 0, 1) := by decide +kernel
theorem dX8_measure_29 : decode cX8_measure 29 = .ok (.iconst 5, 1) := by decide +kernel
theorem dX8_measure_30 : decode cX8_measure 30 = .ok (.dup2, 1) := by decide +kernel
theorem dX8_measure_31 : decode cX8_measure 31 = .ok (.iaload, 1) := by decide +kernel
theorem dX8_measure_32 : decode cX8_measure 32 = .ok (.iload_n 2, 1) := by decide +kernel
theorem dX8_measure_33 : decode cX8_measure 33 = .ok (.iadd, 1) := by decide +kernel
theorem dX8_measure_34 : decode cX8_measure 34 = .ok (.iastore, 1) := by decide +kernel
theorem dX8_measure_35 : decode cX8_measure 35 = .ok (.aload_n 0, 1) := by decide +kernel
theorem dX8_measure_36 : decode cX8_measure 36 = .ok (.iconst 1, 1) := by decide +kernel
theorem dX8_measure_37 : decode cX8_measure 37 = .ok (.dup2, 1) := by decide +kernel
theorem dX8_measure_38 : decode cX8_measure 38 = .ok (.iaload, 1) := by decide +kernel
theorem dX8_measure_39 : decode cX8_measure 39 = .ok (.iconst 1, 1) := by decide +kernel
theorem dX8_measure_40 : decode cX8_measure 40 = .ok (.iadd, 1) := by decide +kernel
theorem dX8_measure_41 : decode cX8_measure 41 = .ok (.iastore, 1) := by decide +kernel
theorem dX8_measure_42 : decode cX8_measure 42 = .ok (.iload_n 3, 1) := by decide +kernel
theorem dX8_measure_43 : decode cX8_measure 43 = .ok (.ifCond .eq 49, 3) := by decide +kernel
theorem dX8_measure_46 : decode cX8_measure 46 = .ok (.aload_n 0, 1) := by decide +kernel
theorem dX8_measure_47 : decode cX8_measure 47 = .ok (.iconst 3, 1) := by decide +kernel
theorem dX8_measure_48 : decode cX8_measure 48 = .ok (.dup2, 1) := by decide +kernel
theorem dX8_measure_49 : decode cX8_measure 49 = .ok (.iaload, 1) := by decide +kernel
theorem dX8_measure_50 : decode cX8_measure 50 = .ok (.aload_n 0, 1) := by decide +kernel
theorem dX8_measure_51 : decode cX8_measure 51 = .ok (.iconst 2, 1) := by decide +kernel
theorem dX8_measure_52 : decode cX8_measure 52 = .ok (.iaload, 1) := by decide +kernel
theorem dX8_measure_53 : decode cX8_measure 53 = .ok (.aload_n 0, 1) := by decide +kernel
theorem dX8_measure_54 : decode cX8_measure 54 = .ok (.bipush 10, 2) := by decide +kernel
theorem dX8_measure_56 : decode cX8_measure 56 = .ok (.iaload, 1) := by decide +kernel
theorem dX8_measure_57 : decode cX8_measure 57 = .ok (.if_icmp .le 7, 3) := by decide +kernel
theorem dX8_measure_60 : decode cX8_measure 60 = .ok (.iconst 1, 1) := by decide +kernel
theorem dX8_measure_61 : decode cX8_measure 61 = .ok (.goto 4, 3) := by decide +kernel
theorem dX8_measure_64 : decode cX8_measure 64 = .ok (.iconst 0, 1) := by decide +kernel
theorem dX8_measure_65 : decode cX8_measure 65 = .ok (.iadd, 1) := by decide +kernel
theorem dX8_measure_66 : decode cX8_measure 66 = .ok (.iastore, 1) := by decide +kernel
theorem dX8_measure_67 : decode cX8_measure 67 = .ok (.aload_n 0, 1) := by decide +kernel
theorem dX8_measure_68 : decode cX8_measure 68 = .ok (.iconst 4, 1) := by decide +kernel
theorem dX8_measure_69 : decode cX8_measure 69 = .ok (.aload_n 0, 1) := by decide +kernel
theorem dX8_measure_70 : decode cX8_measure 70 = .ok (.iconst 2, 1) := by decide +kernel
theorem dX8_measure_71 : decode cX8_measure 71 = .ok (.iaload, 1) := by decide +kernel
theorem dX8_measure_72 : decode cX8_measure 72 = .ok (.aload_n 0, 1) := by decide +kernel
theorem dX8_measure_73 : decode cX8_measure 73 = .ok (.iconst 4, 1) := by decide +kernel
theorem dX8_measure_74 : decode cX8_measure 74 = .ok (.iaload, 1) := by decide +kernel
theorem dX8_measure_75 : decode cX8_measure 75 = .ok (.if_icmp .le 9, 3) := by decide +kernel
theorem dX8_measure_78 : decode cX8_measure 78 = .ok (.aload_n 0, 1) := by decide +kernel
theorem dX8_measure_79 : decode cX8_measure 79 = .ok (.iconst 2, 1) := by decide +kernel
theorem dX8_measure_80 : decode cX8_measure 80 = .ok (.iaload, 1) := by decide +kernel
theorem dX8_measure_81 : decode cX8_measure 81 = .ok (.goto 6, 3) := by decide +kernel
theorem dX8_measure_84 : decode cX8_measure 84 = .ok (.aload_n 0, 1) := by decide +kernel
theorem dX8_measure_85 : decode cX8_measure 85 = .ok (.iconst 4, 1) := by decide +kernel
theorem dX8_measure_86 : decode cX8_measure 86 = .ok (.iaload, 1) := by decide +kernel
theorem dX8_measure_87 : decode cX8_measure 87 = .ok (.iastore, 1) := by decide +kernel
theorem dX8_measure_88 : decode cX8_measure 88 = .ok (.aload_n 0, 1) := by decide +kernel
theorem dX8_measure_89 : decode cX8_measure 89 = .ok (.iconst 2, 1) := by decide +kernel
theorem dX8_measure_90 : decode cX8_measure 90 = .ok (.iconst 0, 1) := by decide +kernel
theorem dX8_measure_91 : decode cX8_measure 91 = .ok (.iastore, 1) := by decide +kernel
theorem dX8_measure_92 : decode cX8_measure 92 = .ok (.return_, 1) := by decide +kernel
theorem dX8_must_0 : decode cX8_must 0 = .ok (.iconst 0, 1) := by decide +kernel
theorem dX8_must_1 : decode cX8_must 1 = .ok (.istore_n 2, 1) := by decide +kernel
theorem dX8_must_2 : decode cX8_must 2 = .ok (.iload_n 2, 1) := by decide +kernel
theorem dX8_must_3 : decode cX8_must 3 = .ok (.aload_n 1, 1) := by decide +kernel
theorem dX8_must_4 : decode cX8_must 4 = .ok (.iconst 0, 1) := by decide +kernel
theorem dX8_must_5 : decode cX8_must 5 = .ok (.iaload, 1) := by decide +kernel
theorem dX8_must_6 : decode cX8_must 6 = .ok (.if_icmp .ge 115, 3) := by decide +kernel
theorem dX8_must_9 : decode cX8_must 9 = .ok (.aload_n 1, 1) := by decide +kernel
theorem dX8_must_10 : decode cX8_must 10 = .ok (.iload_n 2, 1) := by decide +kernel
theorem dX8_must_11 : decode cX8_must 11 = .ok (.bipush 6, 2) := by decide +kernel
theorem dX8_must_13 : decode cX8_must 13 = .ok (.invokestatic 44, 3) := by decide +kernel
theorem dX8_must_16 : decode cX8_must 16 = .ok (.ifCond .le 7, 3) := by decide +kernel
theorem dX8_must_19 : decode cX8_must 19 = .ok (.iconst 1, 1) := by decide +kernel
theorem dX8_must_20 : decode cX8_must 20 = .ok (.goto 4, 3) := by decide +kernel
theorem dX8_must_23 : decode cX8_must 23 = .ok (.iconst 0, 1) := by decide +kernel
theorem dX8_must_24 : decode cX8_must 24 = .ok (.istore_n 3, 1) := by decide +kernel
theorem dX8_must_25 : decode cX8_must 25 = .ok (.aload_n 0, 1) := by decide +kernel
theorem dX8_must_26 : decode cX8_must 26 = .ok (.getfield 29, 3) := by decide +kernel
theorem dX8_must_29 : decode cX8_must 29 = .ok (.iload_n 2, 1) := by decide +kernel
theorem dX8_must_30 : decode cX8_must 30 = .ok (.iload_n 3, 1) := by decide +kernel
theorem dX8_must_31 : decode cX8_must 31 = .ok (.ifCond .eq 7, 3) := by decide +kernel
theorem dX8_must_34 : decode cX8_must 34 = .ok (.iconst 0, 1) := by decide +kernel
theorem dX8_must_35 : decode cX8_must 35 = .ok (.goto 32, 3) := by decide +kernel
theorem dX8_must_38 : decode cX8_must 38 = .ok (.aload_n 1, 1) := by decide +kernel
theorem dX8_must_39 : decode cX8_must 39 = .ok (.iload_n 2, 1) := by decide +kernel
theorem dX8_must_40 : decode cX8_must 40 = .ok (.invokestatic 55, 3) := by decide +kernel
theorem dX8_must_43 : decode cX8_must 43 = .ok (.ifCond .eq 7, 3) := by decide +kernel
theorem dX8_must_46 : decode cX8_must 46 = .ok (.iconst 1, 1) := by decide +kernel
theorem dX8_must_47 : decode cX8_must 47 = .ok (.goto 20, 3) := by decide +kernel
theorem dX8_must_50 : decode cX8_must 50 = .ok (.aload_n 1, 1) := by decide +kernel
theorem dX8_must_51 : decode cX8_must 51 = .ok (.iload_n 2, 1) := by decide +kernel
theorem dX8_must_52 : decode cX8_must 52 = .ok (.iconst 5, 1) := by decide +kernel
theorem dX8_must_53 : decode cX8_must 53 = .ok (.invokestatic 44, 3) := by decide +kernel
theorem dX8_must_56 : decode cX8_must 56 = .ok (.bipush 100, 2) := by decide +kernel
theorem dX8_must_58 : decode cX8_must 58 = .ok (.if_icmp .ne 7, 3) := by decide +kernel
theorem dX8_must_61 : decode cX8_must 61 = .ok (.iconst 2, 1) := by decide +kernel
theorem dX8_must_62 : decode cX8_must 62 = .ok (.goto 5, 3) := by decide +kernel
theorem dX8_must_65 : decode cX8_must 65 = .ok (.bipush 8, 2) := by decide +kernel
theorem dX8_must_67 : decode cX8_must 67 = .ok (.iastore, 1) := by decide +kernel
theorem dX8_must_68 : decode cX8_must 68 = .ok (.aload_n 0, 1) := by decide +kernel
theorem dX8_must_69 : decode cX8_must 69 = .ok (.dup, 1) := by decide +kernel
theorem dX8_must_70 : decode cX8_must 70 = .ok (.getfield 48, 3) := by decide +kernel
theorem dX8_must_73 : decode cX8_must 73 = .ok (.aload_n 0, 1) := by decide +kernel
theorem dX8_must_74 : decode cX8_must 74 = .ok (.getfield 29, 3) := by decide +kernel
theorem dX8_must_77 : decode cX8_must 77 = .ok (.iload_n 2, 1) := by decide +kernel
theorem dX8_must_78 : decode cX8_must 78 = .ok (.iaload, 1) := by decide +kernel
theorem dX8_must_79 : decode cX8_must 79 = .ok (.bipush 8, 2) := by decide +kernel
theorem dX8_must_81 : decode cX8_must 81 = .ok (.if_icmp .ne 7, 3) := by decide +kernel
theorem dX8_must_84 : decode cX8_must 84 = .ok (.iconst 0, 1) := by decide +kernel
theorem dX8_must_85 : decode cX8_must 85 = .ok (.goto 26, 3) := by decide +kernel
theorem dX8_must_88 : decode cX8_must 88 = .ok (.aload_n 0, 1) := by decide +kernel
theorem dX8_must_89 : decode cX8_must 89 = .ok (.getfield 29, 3) := by decide +kernel
theorem dX8_must_92 : decode cX8_must 92 = .ok (.iload_n 2, 1) := by decide +kernel
theorem dX8_must_93 : decode cX8_must 93 = .ok (.iaload, 1) := by decide +kernel
theorem dX8_must_94 : decode cX8_must 94 = .ok (.iconst 1, 1) := by decide +kernel
theorem dX8_must_95 : decode cX8_must 95 = .ok (.if_icmp .ne 12, 3) := by decide +kernel
theorem dX8_must_98 : decode cX8_must 98 = .ok (.aload_n 1, 1) := by decide +kernel
theorem dX8_must_99 : decode cX8_must 99 = .ok (.iload_n 2, 1) := by decide +kernel
theorem dX8_must_100 : decode cX8_must 100 = .ok (.iconst 0, 1) := by decide +kernel
theorem dX8_must_101 : decode cX8_must 101 = .ok (.invokestatic 44, 3) := by decide +kernel
theorem dX8_must_104 : decode cX8_must 104 = .ok (.goto 7, 3) := by decide +kernel
theorem dX8_must_107 : decode cX8_must 107 = .ok (.aload_n 1, 1) := by decide +kernel
theorem dX8_must_108 : decode cX8_must 108 = .ok (.bipush 13, 2) := by decide +kernel
theorem dX8_must_110 : decode cX8_must 110 = .ok (.iaload, 1) := by decide +kernel
theorem dX8_must_111 : decode cX8_must 111 = .ok (.iadd, 1) := by decide +kernel
theorem dX8_must_112 : decode cX8_must 112 = .ok (.putfield 48, 3) := by decide +kernel
theorem dX8_must_115 : decode cX8_must 115 = .ok (.iinc 2 1, 3) := by decide +kernel
theorem dX8_must_118 : decode cX8_must 118 = .ok (.goto (-116), 3) := by decide +kernel
theorem dX8_must_121 : decode cX8_must 121 = .ok (.return_, 1) := by decide +kernel
theorem dX8_nextWarm_0 : decode cX8_nextWarm 0 = .ok (.iconst (-1), 1) := by decide +kernel
theorem dX8_nextWarm_1 : decode cX8_nextWarm 1 = .ok (.istore_n 2, 1) := by decide +kernel
theorem dX8_nextWarm_2 : decode cX8_nextWarm 2 = .ok (.iconst 0, 1) := by decide +kernel
theorem dX8_nextWarm_3 : decode cX8_nextWarm 3 = .ok (.istore_n 3, 1) := by decide +kernel
theorem dX8_nextWarm_4 : decode cX8_nextWarm 4 = .ok (.iload_n 3, 1) := by decide +kernel
theorem dX8_nextWarm_5 : decode cX8_nextWarm 5 = .ok (.aload_n 1, 1) := by decide +kernel
theorem dX8_nextWarm_6 : decode cX8_nextWarm 6 = .ok (.iconst 0, 1) := by decide +kernel
theorem dX8_nextWarm_7 : decode cX8_nextWarm 7 = .ok (.iaload, 1) := by decide +kernel
theorem dX8_nextWarm_8 : decode cX8_nextWarm 8 = .ok (.if_icmp .ge 64, 3) := by decide +kernel
theorem dX8_nextWarm_11 : decode cX8_nextWarm 11 = .ok (.aload_n 0, 1) := by decide +kernel
theorem dX8_nextWarm_12 : decode cX8_nextWarm 12 = .ok (.getfield 29, 3) := by decide +kernel
theorem dX8_nextWarm_15 : decode cX8_nextWarm 15 = .ok (.iload_n 3, 1) := by decide +kernel
theorem dX8_nextWarm_16 : decode cX8_nextWarm 16 = .ok (.iaload, 1) := by decide +kernel
theorem dX8_nextWarm_17 : decode cX8_nextWarm 17 = .ok (.bipush 8, 2) := by decide +kernel
theorem dX8_nextWarm_19 : decode cX8_nextWarm 19 = .ok (.if_icmp .ne 15, 3) := by decide +kernel
theorem dX8_nextWarm_22 : decode cX8_nextWarm 22 = .ok (.aload_n 1, 1) := by decide +kernel
theorem dX8_nextWarm_23 : decode cX8_nextWarm 23 = .ok (.iload_n 3, 1) := by decide +kernel
theorem dX8_nextWarm_24 : decode cX8_nextWarm 24 = .ok (.invokestatic 59, 3) := by decide +kernel
theorem dX8_nextWarm_27 : decode cX8_nextWarm 27 = .ok (.ifCond .le 7, 3) := by decide +kernel
theorem dX8_nextWarm_30 : decode cX8_nextWarm 30 = .ok (.iconst 1, 1) := by decide +kernel
theorem dX8_nextWarm_31 : decode cX8_nextWarm 31 = .ok (.goto 4, 3) := by decide +kernel
theorem dX8_nextWarm_34 : decode cX8_nextWarm 34 = .ok (.iconst 0, 1) := by decide +kernel
theorem dX8_nextWarm_35 : decode cX8_nextWarm 35 = .ok (.istore 4, 2) := by decide +kernel
theorem dX8_nextWarm_37 : decode cX8_nextWarm 37 = .ok (.iload 4, 2) := by decide +kernel
theorem dX8_nextWarm_39 : decode cX8_nextWarm 39 = .ok (.ifCond .eq 25, 3) := by decide +kernel
theorem dX8_nextWarm_42 : decode cX8_nextWarm 42 = .ok (.iload_n 2, 1) := by decide +kernel
theorem dX8_nextWarm_43 : decode cX8_nextWarm 43 = .ok (.iconst (-1), 1) := by decide +kernel
theorem dX8_nextWarm_44 : decode cX8_nextWarm 44 = .ok (.if_icmp .eq 16, 3) := by decide +kernel
theorem dX8_nextWarm_47 : decode cX8_nextWarm 47 = .ok (.aload_n 1, 1) := by decide +kernel
theorem dX8_nextWarm_48 : decode cX8_nextWarm 48 = .ok (.iload_n 3, 1) := by decide +kernel
theorem dX8_nextWarm_49 : decode cX8_nextWarm 49 = .ok (.invokestatic 59, 3) := by decide +kernel
theorem dX8_nextWarm_52 : decode cX8_nextWarm 52 = .ok (.aload_n 1, 1) := by decide +kernel
theorem dX8_nextWarm_53 : decode cX8_nextWarm 53 = .ok (.iload_n 2, 1) := by decide +kernel
theorem dX8_nextWarm_54 : decode cX8_nextWarm 54 = .ok (.invokestatic 59, 3) := by decide +kernel
theorem dX8_nextWarm_57 : decode cX8_nextWarm 57 = .ok (.if_icmp .le 7, 3) := by decide +kernel
theorem dX8_nextWarm_60 : decode cX8_nextWarm 60 = .ok (.iload_n 3, 1) := by decide +kernel
theorem dX8_nextWarm_61 : decode cX8_nextWarm 61 = .ok (.goto 4, 3) := by decide +kernel
theorem dX8_nextWarm_64 : decode cX8_nextWarm 64 = .ok (.iload_n 2, 1) := by decide +kernel
theorem dX8_nextWarm_65 : decode cX8_nextWarm 65 = .ok (.istore_n 2, 1) := by decide +kernel
theorem dX8_nextWarm_66 : decode cX8_nextWarm 66 = .ok (.iinc 3 1, 3) := by decide +kernel
theorem dX8_nextWarm_69 : decode cX8_nextWarm 69 = .ok (.goto (-65), 3) := by decide +kernel
theorem dX8_nextWarm_72 : decode cX8_nextWarm 72 = .ok (.iload_n 2, 1) := by decide +kernel
theorem dX8_nextWarm_73 : decode cX8_nextWarm 73 = .ok (.ireturn, 1) := by decide +kernel
theorem dX8_nextFrost_0 : decode cX8_nextFrost 0 = .ok (.iconst (-1), 1) := by decide +kernel
theorem dX8_nextFrost_1 : decode cX8_nextFrost 1 = .ok (.istore_n 2, 1) := by decide +kernel
theorem dX8_nextFrost_2 : decode cX8_nextFrost 2 = .ok (.iconst 0, 1) := by decide +kernel
theorem dX8_nextFrost_3 : decode cX8_nextFrost 3 = .ok (.istore_n 3, 1) := by decide +kernel
theorem dX8_nextFrost_4 : decode cX8_nextFrost 4 = .ok (.iload_n 3, 1) := by decide +kernel
theorem dX8_nextFrost_5 : decode cX8_nextFrost 5 = .ok (.aload_n 1, 1) := by decide +kernel
theorem dX8_nextFrost_6 : decode cX8_nextFrost 6 = .ok (.iconst 0, 1) := by decide +kernel
theorem dX8_nextFrost_7 : decode cX8_nextFrost 7 = .ok (.iaload, 1) := by decide +kernel
theorem dX8_nextFrost_8 : decode cX8_nextFrost 8 = .ok (.if_icmp .ge 71, 3) := by decide +kernel
theorem dX8_nextFrost_11 : decode cX8_nextFrost 11 = .ok (.aload_n 0, 1) := by decide +kernel
theorem dX8_nextFrost_12 : decode cX8_nextFrost 12 = .ok (.getfield 29, 3) := by decide +kernel
theorem dX8_nextFrost_15 : decode cX8_nextFrost 15 = .ok (.iload_n 3, 1) := by decide +kernel
theorem dX8_nextFrost_16 : decode cX8_nextFrost 16 = .ok (.iaload, 1) := by decide +kernel
theorem dX8_nextFrost_17 : decode cX8_nextFrost 17 = .ok (.bipush 8, 2) := by decide +kernel
theorem dX8_nextFrost_19 : decode cX8_nextFrost 19 = .ok (.if_icmp .ne 20, 3) := by decide +kernel
theorem dX8_nextFrost_22 : decode cX8_nextFrost 22 = .ok (.aload_n 1, 1) := by decide +kernel
theorem dX8_nextFrost_23 : decode cX8_nextFrost 23 = .ok (.iload_n 3, 1) := by decide +kernel
theorem dX8_nextFrost_24 : decode cX8_nextFrost 24 = .ok (.iconst 5, 1) := by decide +kernel
theorem dX8_nextFrost_25 : decode cX8_nextFrost 25 = .ok (.invokestatic 44, 3) := by decide +kernel
theorem dX8_nextFrost_28 : decode cX8_nextFrost 28 = .ok (.aload_n 1, 1) := by decide +kernel
theorem dX8_nextFrost_29 : decode cX8_nextFrost 29 = .ok (.bipush 14, 2) := by decide +kernel
theorem dX8_nextFrost_31 : decode cX8_nextFrost 31 = .ok (.iaload, 1) := by decide +kernel
theorem dX8_nextFrost_32 : decode cX8_nextFrost 32 = .ok (.if_icmp .lt 7, 3) := by decide +kernel
theorem dX8_nextFrost_35 : decode cX8_nextFrost 35 = .ok (.iconst 1, 1) := by decide +kernel
theorem dX8_nextFrost_36 : decode cX8_nextFrost 36 = .ok (.goto 4, 3) := by decide +kernel
theorem dX8_nextFrost_39 : decode cX8_nextFrost 39 = .ok (.iconst 0, 1) := by decide +kernel
theorem dX8_nextFrost_40 : decode cX8_nextFrost 40 = .ok (.istore 4, 2) := by decide +kernel
theorem dX8_nextFrost_42 : decode cX8_nextFrost 42 = .ok (.iload 4, 2) := by decide +kernel
theorem dX8_nextFrost_44 : decode cX8_nextFrost 44 = .ok (.ifCond .eq 27, 3) := by decide +kernel
theorem dX8_nextFrost_47 : decode cX8_nextFrost 47 = .ok (.iload_n 2, 1) := by decide +kernel
theorem dX8_nextFrost_48 : decode cX8_nextFrost 48 = .ok (.iconst (-1), 1) := by decide +kernel
theorem dX8_nextFrost_49 : decode cX8_nextFrost 49 = .ok (.if_icmp .eq 18, 3) := by decide +kernel
theorem dX8_nextFrost_52 : decode cX8_nextFrost 52 = .ok (.aload_n 1, 1) := by decide +kernel
theorem dX8_nextFrost_53 : decode cX8_nextFrost 53 = .ok (.iload_n 3, 1) := by decide +kernel
theorem dX8_nextFrost_54 : decode cX8_nextFrost 54 = .ok (.iconst 5, 1) := by decide +kernel
theorem dX8_nextFrost_55 : decode cX8_nextFrost 55 = .ok (.invokestatic 44, 3) := by decide +kernel
theorem dX8_nextFrost_58 : decode cX8_nextFrost 58 = .ok (.aload_n 1, 1) := by decide +kernel
theorem dX8_nextFrost_59 : decode cX8_nextFrost 59 = .ok (.iload_n 2, 1) := by decide +kernel
theorem dX8_nextFrost_60 : decode cX8_nextFrost 60 = .ok (.iconst 5, 1) := by decide +kernel
theorem dX8_nextFrost_61 : decode cX8_nextFrost 61 = .ok (.invokestatic 44, 3) := by decide +kernel
theorem dX8_nextFrost_64 : decode cX8_nextFrost 64 = .ok (.if_icmp .le 7, 3) := by decide +kernel
theorem dX8_nextFrost_67 : decode cX8_nextFrost 67 = .ok (.iload_n 3, 1) := by decide +kernel
theorem dX8_nextFrost_68 : decode cX8_nextFrost 68 = .ok (.goto 4, 3) := by decide +kernel
theorem dX8_nextFrost_71 : decode cX8_nextFrost 71 = .ok (.iload_n 2, 1) := by decide +kernel
theorem dX8_nextFrost_72 : decode cX8_nextFrost 72 = .ok (.istore_n 2, 1) := by decide +kernel
theorem dX8_nextFrost_73 : decode cX8_nextFrost 73 = .ok (.iinc 3 1, 3) := by decide +kernel
theorem dX8_nextFrost_76 : decode cX8_nextFrost 76 = .ok (.goto (-72), 3) := by decide +kernel
theorem dX8_nextFrost_79 : decode cX8_nextFrost 79 = .ok (.iload_n 2, 1) := by decide +kernel
theorem dX8_nextFrost_80 : decode cX8_nextFrost 80 = .ok (.ireturn, 1) := by decide +kernel
theorem dX8_find_0 : decode cX8_find 0 = .ok (.aload_n 0, 1) := by decide +kernel
theorem dX8_find_1 : decode cX8_find 1 = .ok (.iconst 0, 1) := by decide +kernel
theorem dX8_find_2 : decode cX8_find 2 = .ok (.putfield 48, 3) := by decide +kernel
theorem dX8_find_5 : decode cX8_find 5 = .ok (.aload_n 0, 1) := by decide +kernel
theorem dX8_find_6 : decode cX8_find 6 = .ok (.aload_n 1, 1) := by decide +kernel
theorem dX8_find_7 : decode cX8_find 7 = .ok (.invokevirtual 63, 3) := by decide +kernel
theorem dX8_find_10 : decode cX8_find 10 = .ok (.aload_n 0, 1) := by decide +kernel
theorem dX8_find_11 : decode cX8_find 11 = .ok (.aload_n 1, 1) := by decide +kernel
theorem dX8_find_12 : decode cX8_find 12 = .ok (.invokevirtual 66, 3) := by decide +kernel
theorem dX8_find_15 : decode cX8_find 15 = .ok (.istore_n 2, 1) := by decide +kernel
theorem dX8_find_16 : decode cX8_find 16 = .ok (.iload_n 2, 1) := by decide +kernel
theorem dX8_find_17 : decode cX8_find 17 = .ok (.iconst (-1), 1) := by decide +kernel
theorem dX8_find_18 : decode cX8_find 18 = .ok (.if_icmp .eq 62, 3) := by decide +kernel
theorem dX8_find_21 : decode cX8_find 21 = .ok (.aload_n 0, 1) := by decide +kernel
theorem dX8_find_22 : decode cX8_find 22 = .ok (.aload_n 1, 1) := by decide +kernel
theorem dX8_find_23 : decode cX8_find 23 = .ok (.aload_n 1, 1) := by decide +kernel
theorem dX8_find_24 : decode cX8_find 24 = .ok (.iload_n 2, 1) := by decide +kernel
theorem dX8_find_25 : decode cX8_find 25 = .ok (.iconst 0, 1) := by decide +kernel
theorem dX8_find_26 : decode cX8_find 26 = .ok (.invokestatic 44, 3) := by decide +kernel
theorem dX8_find_29 : decode cX8_find 29 = .ok (.invokevirtual 69, 3) := by decide +kernel
theorem dX8_find_32 : decode cX8_find 32 = .ok (.istore_n 3, 1) := by decide +kernel
theorem dX8_find_33 : decode cX8_find 33 = .ok (.aload_n 0, 1) := by decide +kernel
theorem dX8_find_34 : decode cX8_find 34 = .ok (.getfield 29, 3) := by decide +kernel
theorem dX8_find_37 : decode cX8_find 37 = .ok (.iload_n 2, 1) := by decide +kernel
theorem dX8_find_38 : decode cX8_find 38 = .ok (.iload_n 3, 1) := by decide +kernel
theorem dX8_find_39 : decode cX8_find 39 = .ok (.ifCond .eq 7, 3) := by decide +kernel
theorem dX8_find_42 : decode cX8_find 42 = .ok (.iconst 3, 1) := by decide +kernel
theorem dX8_find_43 : decode cX8_find 43 = .ok (.goto 4, 3) := by decide +kernel
theorem dX8_find_46 : decode cX8_find 46 = .ok (.iconst 4, 1) := by decide +kernel
theorem dX8_find_47 : decode cX8_find 47 = .ok (.iastore, 1) := by decide +kernel
theorem dX8_find_48 : decode cX8_find 48 = .ok (.aload_n 0, 1) := by decide +kernel
theorem dX8_find_49 : decode cX8_find 49 = .ok (.dup, 1) := by decide +kernel
theorem dX8_find_50 : decode cX8_find 50 = .ok (.getfield 48, 3) := by decide +kernel
theorem dX8_find_53 : decode cX8_find 53 = .ok (.iload_n 3, 1) := by decide +kernel
theorem dX8_find_54 : decode cX8_find 54 = .ok (.ifCond .eq 12, 3) := by decide +kernel
theorem dX8_find_57 : decode cX8_find 57 = .ok (.aload_n 1, 1) := by decide +kernel
theorem dX8_find_58 : decode cX8_find 58 = .ok (.iload_n 2, 1) := by decide +kernel
theorem dX8_find_59 : decode cX8_find 59 = .ok (.iconst 0, 1) := by decide +kernel
theorem dX8_find_60 : decode cX8_find 60 = .ok (.invokestatic 44, 3) := by decide +kernel
theorem dX8_find_63 : decode cX8_find 63 = .ok (.goto 4, 3) := by decide +kernel
theorem dX8_find_66 : decode cX8_find 66 = .ok (.iconst 0, 1) := by decide +kernel
theorem dX8_find_67 : decode cX8_find 67 = .ok (.iadd, 1) := by decide +kernel
theorem dX8_find_68 : decode cX8_find 68 = .ok (.putfield 48, 3) := by decide +kernel
theorem dX8_find_71 : decode cX8_find 71 = .ok (.aload_n 0, 1) := by decide +kernel
theorem dX8_find_72 : decode cX8_find 72 = .ok (.aload_n 1, 1) := by decide +kernel
theorem dX8_find_73 : decode cX8_find 73 = .ok (.invokevirtual 66, 3) := by decide +kernel
theorem dX8_find_76 : decode cX8_find 76 = .ok (.istore_n 2, 1) := by decide +kernel
theorem dX8_find_77 : decode cX8_find 77 = .ok (.goto (-61), 3) := by decide +kernel
theorem dX8_find_80 : decode cX8_find 80 = .ok (.aload_n 0, 1) := by decide +kernel
theorem dX8_find_81 : decode cX8_find 81 = .ok (.aload_n 1, 1) := by decide +kernel
theorem dX8_find_82 : decode cX8_find 82 = .ok (.invokevirtual 72, 3) := by decide +kernel
theorem dX8_find_85 : decode cX8_find 85 = .ok (.istore_n 2, 1) := by decide +kernel
theorem dX8_find_86 : decode cX8_find 86 = .ok (.iload_n 2, 1) := by decide +kernel
theorem dX8_find_87 : decode cX8_find 87 = .ok (.iconst (-1), 1) := by decide +kernel
theorem dX8_find_88 : decode cX8_find 88 = .ok (.if_icmp .eq 59, 3) := by decide +kernel
theorem dX8_find_91 : decode cX8_find 91 = .ok (.aload_n 0, 1) := by decide +kernel
theorem dX8_find_92 : decode cX8_find 92 = .ok (.aload_n 1, 1) := by decide +kernel
theorem dX8_find_93 : decode cX8_find 93 = .ok (.aload_n 1, 1) := by decide +kernel
theorem dX8_find_94 : decode cX8_find 94 = .ok (.bipush 13, 2) := by decide +kernel
theorem dX8_find_96 : decode cX8_find 96 = .ok (.iaload, 1) := by decide +kernel
theorem dX8_find_97 : decode cX8_find 97 = .ok (.invokevirtual 69, 3) := by decide +kernel
theorem dX8_find_100 : decode cX8_find 100 = .ok (.istore_n 3, 1) := by decide +kernel
theorem dX8_find_101 : decode cX8_find 101 = .ok (.aload_n 0, 1) := by decide +kernel
theorem dX8_find_102 : decode cX8_find 102 = .ok (.getfield 29, 3) := by decide +kernel
theorem dX8_find_105 : decode cX8_find 105 = .ok (.iload_n 2, 1) := by decide +kernel
theorem dX8_find_106 : decode cX8_find 106 = .ok (.iload_n 3, 1) := by decide +kernel
theorem dX8_find_107 : decode cX8_find 107 = .ok (.ifCond .eq 7, 3) := by decide +kernel
theorem dX8_find_110 : decode cX8_find 110 = .ok (.iconst 5, 1) := by decide +kernel
theorem dX8_find_111 : decode cX8_find 111 = .ok (.goto 5, 3) := by decide +kernel
theorem dX8_find_114 : decode cX8_find 114 = .ok (.bipush 6, 2) := by decide +kernel
theorem dX8_find_116 : decode cX8_find 116 = .ok (.iastore, 1) := by decide +kernel
theorem dX8_find_117 : decode cX8_find 117 = .ok (.aload_n 0, 1) := by decide +kernel
theorem dX8_find_118 : decode cX8_find 118 = .ok (.dup, 1) := by decide +kernel
theorem dX8_find_119 : decode cX8_find 119 = .ok (.getfield 48, 3) := by decide +kernel
theorem dX8_find_122 : decode cX8_find 122 = .ok (.iload_n 3, 1) := by decide +kernel
theorem dX8_find_123 : decode cX8_find 123 = .ok (.ifCond .eq 10, 3) := by decide +kernel
theorem dX8_find_126 : decode cX8_find 126 = .ok (.aload_n 1, 1) := by decide +kernel
theorem dX8_find_127 : decode cX8_find 127 = .ok (.bipush 13, 2) := by decide +kernel
theorem dX8_find_129 : decode cX8_find 129 = .ok (.iaload, 1) := by decide +kernel
theorem dX8_find_130 : decode cX8_find 130 = .ok (.goto 4, 3) := by decide +kernel
theorem dX8_find_133 : decode cX8_find 133 = .ok (.iconst 0, 1) := by decide +kernel
theorem dX8_find_134 : decode cX8_find 134 = .ok (.iadd, 1) := by decide +kernel
theorem dX8_find_135 : decode cX8_find 135 = .ok (.putfield 48, 3) := by decide +kernel
theorem dX8_find_138 : decode cX8_find 138 = .ok (.aload_n 0, 1) := by decide +kernel
theorem dX8_find_139 : decode cX8_find 139 = .ok (.aload_n 1, 1) := by decide +kernel
theorem dX8_find_140 : decode cX8_find 140 = .ok (.invokevirtual 72, 3) := by decide +kernel
theorem dX8_find_143 : decode cX8_find 143 = .ok (.istore_n 2, 1) := by decide +kernel
theorem dX8_find_144 : decode cX8_find 144 = .ok (.goto (-58), 3) := by decide +kernel
theorem dX8_find_147 : decode cX8_find 147 = .ok (.iconst 0, 1) := by decide +kernel
theorem dX8_find_148 : decode cX8_find 148 = .ok (.istore_n 3, 1) := by decide +kernel
theorem dX8_find_149 : decode cX8_find 149 = .ok (.iload_n 3, 1) := by decide +kernel
theorem dX8_find_150 : decode cX8_find 150 = .ok (.aload_n 1, 1) := by decide +kernel
theorem dX8_find_151 : decode cX8_find 151 = .ok (.iconst 0, 1) := by decide +kernel
theorem dX8_find_152 : decode cX8_find 152 = .ok (.iaload, 1) := by decide +kernel
theorem dX8_find_153 : decode cX8_find 153 = .ok (.if_icmp .ge 37, 3) := by decide +kernel
theorem dX8_find_156 : decode cX8_find 156 = .ok (.aload_n 0, 1) := by decide +kernel
theorem dX8_find_157 : decode cX8_find 157 = .ok (.getfield 29, 3) := by decide +kernel
theorem dX8_find_160 : decode cX8_find 160 = .ok (.iload_n 3, 1) := by decide +kernel
theorem dX8_find_161 : decode cX8_find 161 = .ok (.aload_n 0, 1) := by decide +kernel
theorem dX8_find_162 : decode cX8_find 162 = .ok (.getfield 29, 3) := by decide +kernel
theorem dX8_find_165 : decode cX8_find 165 = .ok (.iload_n 3, 1) := by decide +kernel
theorem dX8_find_166 : decode cX8_find 166 = .ok (.iaload, 1) := by decide +kernel
theorem dX8_find_167 : decode cX8_find 167 = .ok (.bipush 8, 2) := by decide +kernel
theorem dX8_find_169 : decode cX8_find 169 = .ok (.if_icmp .ne 8, 3) := by decide +kernel
theorem dX8_find_172 : decode cX8_find 172 = .ok (.bipush 7, 2) := by decide +kernel
theorem dX8_find_174 : decode cX8_find 174 = .ok (.goto 9, 3) := by decide +kernel
theorem dX8_find_177 : decode cX8_find 177 = .ok (.aload_n 0, 1) := by decide +kernel
theorem dX8_find_178 : decode cX8_find 178 = .ok (.getfield 29, 3) := by decide +kernel
theorem dX8_find_181 : decode cX8_find 181 = .ok (.iload_n 3, 1) := by decide +kernel
theorem dX8_find_182 : decode cX8_find 182 = .ok (.iaload, 1) := by decide +kernel
theorem dX8_find_183 : decode cX8_find 183 = .ok (.iastore, 1) := by decide +kernel
theorem dX8_find_184 : decode cX8_find 184 = .ok (.iinc 3 1, 3) := by decide +kernel
theorem dX8_find_187 : decode cX8_find 187 = .ok (.goto (-38), 3) := by decide +kernel
theorem dX8_find_190 : decode cX8_find 190 = .ok (.return_, 1) := by decide +kernel
theorem dX8_clamp_0 : decode cX8_clamp 0 = .ok (.iload_n 0, 1) := by decide +kernel
theorem dX8_clamp_1 : decode cX8_clamp 1 = .ok (.iload_n 1, 1) := by decide +kernel
theorem dX8_clamp_2 : decode cX8_clamp 2 = .ok (.if_icmp .ge 7, 3) := by decide +kernel
theorem dX8_clamp_5 : decode cX8_clamp 5 = .ok (.iload_n 1, 1) := by decide +kernel
theorem dX8_clamp_6 : decode cX8_clamp 6 = .ok (.goto 13, 3) := by decide +kernel
theorem dX8_clamp_9 : decode cX8_clamp 9 = .ok (.iload_n 0, 1) := by decide +kernel
theorem dX8_clamp_10 : decode cX8_clamp 10 = .ok (.iload_n 2, 1) := by decide +kernel
theorem dX8_clamp_11 : decode cX8_clamp 11 = .ok (.if_icmp .le 7, 3) := by decide +kernel
theorem dX8_clamp_14 : decode cX8_clamp 14 = .ok (.iload_n 2, 1) := by decide +kernel
theorem dX8_clamp_15 : decode cX8_clamp 15 = .ok (.goto 4, 3) := by decide +kernel
theorem dX8_clamp_18 : decode cX8_clamp 18 = .ok (.iload_n 0, 1) := by decide +kernel
theorem dX8_clamp_19 : decode cX8_clamp 19 = .ok (.ireturn, 1) := by decide +kernel
theorem dX8_roomOn_0 : decode cX8_roomOn 0 = .ok (.aload_n 1, 1) := by decide +kernel
theorem dX8_roomOn_1 : decode cX8_roomOn 1 = .ok (.iload_n 2, 1) := by decide +kernel
theorem dX8_roomOn_2 : decode cX8_roomOn 2 = .ok (.iconst 4, 1) := by decide +kernel
theorem dX8_roomOn_3 : decode cX8_roomOn 3 = .ok (.invokestatic 44, 3) := by decide +kernel
theorem dX8_roomOn_6 : decode cX8_roomOn 6 = .ok (.iconst 1, 1) := by decide +kernel
theorem dX8_roomOn_7 : decode cX8_roomOn 7 = .ok (.if_icmp .ne 7, 3) := by decide +kernel
theorem dX8_roomOn_10 : decode cX8_roomOn 10 = .ok (.iconst 1, 1) := by decide +kernel
theorem dX8_roomOn_11 : decode cX8_roomOn 11 = .ok (.goto 4, 3) := by decide +kernel
theorem dX8_roomOn_14 : decode cX8_roomOn 14 = .ok (.iconst 0, 1) := by decide +kernel
theorem dX8_roomOn_15 : decode cX8_roomOn 15 = .ok (.istore_n 3, 1) := by decide +kernel
theorem dX8_roomOn_16 : decode cX8_roomOn 16 = .ok (.aload_n 0, 1) := by decide +kernel
theorem dX8_roomOn_17 : decode cX8_roomOn 17 = .ok (.getfield 29, 3) := by decide +kernel
theorem dX8_roomOn_20 : decode cX8_roomOn 20 = .ok (.iload_n 2, 1) := by decide +kernel
theorem dX8_roomOn_21 : decode cX8_roomOn 21 = .ok (.iaload, 1) := by decide +kernel
theorem dX8_roomOn_22 : decode cX8_roomOn 22 = .ok (.iconst 3, 1) := by decide +kernel
theorem dX8_roomOn_23 : decode cX8_roomOn 23 = .ok (.if_icmp .eq 13, 3) := by decide +kernel
theorem dX8_roomOn_26 : decode cX8_roomOn 26 = .ok (.aload_n 0, 1) := by decide +kernel
theorem dX8_roomOn_27 : decode cX8_roomOn 27 = .ok (.getfield 29, 3) := by decide +kernel
theorem dX8_roomOn_30 : decode cX8_roomOn 30 = .ok (.iload_n 2, 1) := by decide +kernel
theorem dX8_roomOn_31 : decode cX8_roomOn 31 = .ok (.iaload, 1) := by decide +kernel
theorem dX8_roomOn_32 : decode cX8_roomOn 32 = .ok (.iconst 1, 1) := by decide +kernel
theorem dX8_roomOn_33 : decode cX8_roomOn 33 = .ok (.if_icmp .ne 7, 3) := by decide +kernel
theorem dX8_roomOn_36 : decode cX8_roomOn 36 = .ok (.iconst 1, 1) := by decide +kernel
theorem dX8_roomOn_37 : decode cX8_roomOn 37 = .ok (.goto 4, 3) := by decide +kernel
theorem dX8_roomOn_40 : decode cX8_roomOn 40 = .ok (.iconst 0, 1) := by decide +kernel
theorem dX8_roomOn_41 : decode cX8_roomOn 41 = .ok (.istore 4, 2) := by decide +kernel
theorem dX8_roomOn_43 : decode cX8_roomOn 43 = .ok (.aload_n 0, 1) := by decide +kernel
theorem dX8_roomOn_44 : decode cX8_roomOn 44 = .ok (.getfield 29, 3) := by decide +kernel
theorem dX8_roomOn_47 : decode cX8_roomOn 47 = .ok (.iload_n 2, 1) := by decide +kernel
theorem dX8_roomOn_48 : decode cX8_roomOn 48 = .ok (.iaload, 1) := by decide +kernel
theorem dX8_roomOn_49 : decode cX8_roomOn 49 = .ok (.iconst 5, 1) := by decide +kernel
theorem dX8_roomOn_50 : decode cX8_roomOn 50 = .ok (.if_icmp .eq 13, 3) := by decide +kernel
theorem dX8_roomOn_53 : decode cX8_roomOn 53 = .ok (.aload_n 0, 1) := by decide +kernel
theorem dX8_roomOn_54 : decode cX8_roomOn 54 = .ok (.getfield 29, 3) := by decide +kernel
theorem dX8_roomOn_57 : decode cX8_roomOn 57 = .ok (.iload_n 2, 1) := by decide +kernel
theorem dX8_roomOn_58 : decode cX8_roomOn 58 = .ok (.iaload, 1) := by decide +kernel
theorem dX8_roomOn_59 : decode cX8_roomOn 59 = .ok (.iconst 2, 1) := by decide +kernel
theorem dX8_roomOn_60 : decode cX8_roomOn 60 = .ok (.if_icmp .ne 7, 3) := by decide +kernel
theorem dX8_roomOn_63 : decode cX8_roomOn 63 = .ok (.iconst 1, 1) := by decide +kernel
theorem dX8_roomOn_64 : decode cX8_roomOn 64 = .ok (.goto 4, 3) := by decide +kernel
theorem dX8_roomOn_67 : decode cX8_roomOn 67 = .ok (.iconst 0, 1) := by decide +kernel
theorem dX8_roomOn_68 : decode cX8_roomOn 68 = .ok (.istore 5, 2) := by decide +kernel
theorem dX8_roomOn_70 : decode cX8_roomOn 70 = .ok (.iload 5, 2) := by decide +kernel
theorem dX8_roomOn_72 : decode cX8_roomOn 72 = .ok (.ifCond .ne 12, 3) := by decide +kernel
theorem dX8_roomOn_75 : decode cX8_roomOn 75 = .ok (.aload_n 0, 1) := by decide +kernel
theorem dX8_roomOn_76 : decode cX8_roomOn 76 = .ok (.getfield 29, 3) := by decide +kernel
theorem dX8_roomOn_79 : decode cX8_roomOn 79 = .ok (.iload_n 2, 1) := by decide +kernel
theorem dX8_roomOn_80 : decode cX8_roomOn 80 = .ok (.iaload, 1) := by decide +kernel
theorem dX8_roomOn_81 : decode cX8_roomOn 81 = .ok (.ifCond .ne 7, 3) := by decide +kernel
theorem dX8_roomOn_84 : decode cX8_roomOn 84 = .ok (.iconst 1, 1) := by decide +kernel
theorem dX8_roomOn_85 : decode cX8_roomOn 85 = .ok (.goto 4, 3) := by decide +kernel
theorem dX8_roomOn_88 : decode cX8_roomOn 88 = .ok (.iconst 0, 1) := by decide +kernel
theorem dX8_roomOn_89 : decode cX8_roomOn 89 = .ok (.istore 6, 2) := by decide +kernel
theorem dX8_roomOn_91 : decode cX8_roomOn 91 = .ok (.iload 4, 2) := by decide +kernel
theorem dX8_roomOn_93 : decode cX8_roomOn 93 = .ok (.ifCond .eq 18, 3) := by decide +kernel
theorem dX8_roomOn_96 : decode cX8_roomOn 96 = .ok (.aload_n 1, 1) := by decide +kernel
theorem dX8_roomOn_97 : decode cX8_roomOn 97 = .ok (.iload_n 2, 1) := by decide +kernel
theorem dX8_roomOn_98 : decode cX8_roomOn 98 = .ok (.iconst 5, 1) := by decide +kernel
theorem dX8_roomOn_99 : decode cX8_roomOn 99 = .ok (.invokestatic 44, 3) := by decide +kernel
theorem dX8_roomOn_102 : decode cX8_roomOn 102 = .ok (.bipush 20, 2) := by decide +kernel
theorem dX8_roomOn_104 : decode cX8_roomOn 104 = .ok (.idiv, 1) := by decide +kernel
theorem dX8_roomOn_105 : decode cX8_roomOn 105 = .ok (.bipush 8, 2) := by decide +kernel
theorem dX8_roomOn_107 : decode cX8_roomOn 107 = .ok (.isub, 1) := by decide +kernel
theorem dX8_roomOn_108 : decode cX8_roomOn 108 = .ok (.goto 14, 3) := by decide +kernel
theorem dX8_roomOn_111 : decode cX8_roomOn 111 = .ok (.iload 6, 2) := by decide +kernel
theorem dX8_roomOn_113 : decode cX8_roomOn 113 = .ok (.ifCond .eq 8, 3) := by decide +kernel
theorem dX8_roomOn_116 : decode cX8_roomOn 116 = .ok (.bipush 6, 2) := by decide +kernel
theorem dX8_roomOn_118 : decode cX8_roomOn 118 = .ok (.goto 4, 3) := by decide +kernel
theorem dX8_roomOn_121 : decode cX8_roomOn 121 = .ok (.iconst 1, 1) := by decide +kernel
theorem dX8_roomOn_122 : decode cX8_roomOn 122 = .ok (.istore 7, 2) := by decide +kernel
theorem dX8_roomOn_124 : decode cX8_roomOn 124 = .ok (.aload_n 1, 1) := by decide +kernel
theorem dX8_roomOn_125 : decode cX8_roomOn 125 = .ok (.iload_n 2, 1) := by decide +kernel
theorem dX8_roomOn_126 : decode cX8_roomOn 126 = .ok (.iconst 3, 1) := by decide +kernel
theorem dX8_roomOn_127 : decode cX8_roomOn 127 = .ok (.aload_n 1, 1) := by decide +kernel
theorem dX8_roomOn_128 : decode cX8_roomOn 128 = .ok (.iload_n 2, 1) := by decide +kernel
theorem dX8_roomOn_129 : decode cX8_roomOn 129 = .ok (.iconst 3, 1) := by decide +kernel
theorem dX8_roomOn_130 : decode cX8_roomOn 130 = .ok (.invokestatic 44, 3) := by decide +kernel
theorem dX8_roomOn_133 : decode cX8_roomOn 133 = .ok (.iload 7, 2) := by decide +kernel
theorem dX8_roomOn_135 : decode cX8_roomOn 135 = .ok (.iadd, 1) := by decide +kernel
theorem dX8_roomOn_136 : decode cX8_roomOn 136 = .ok (.iload_n 3, 1) := by decide +kernel
theorem dX8_roomOn_137 : decode cX8_roomOn 137 = .ok (.ifCond .eq 7, 3) := by decide +kernel
theorem dX8_roomOn_140 : decode cX8_roomOn 140 = .ok (.iconst 4, 1) := by decide +kernel
theorem dX8_roomOn_141 : decode cX8_roomOn 141 = .ok (.goto 4, 3) := by decide +kernel
theorem dX8_roomOn_144 : decode cX8_roomOn 144 = .ok (.iconst 0, 1) := by decide +kernel
theorem dX8_roomOn_145 : decode cX8_roomOn 145 = .ok (.iadd, 1) := by decide +kernel
theorem dX8_roomOn_146 : decode cX8_roomOn 146 = .ok (.sipush (-400), 3) := by decide +kernel
theorem dX8_roomOn_149 : decode cX8_roomOn 149 = .ok (.sipush 400, 3) := by decide +kernel
theorem dX8_roomOn_152 : decode cX8_roomOn 152 = .ok (.invokestatic 75, 3) := by decide +kernel
theorem dX8_roomOn_155 : decode cX8_roomOn 155 = .ok (.invokestatic 79, 3) := by decide +kernel
theorem dX8_roomOn_158 : decode cX8_roomOn 158 = .ok (.iload 6, 2) := by decide +kernel
theorem dX8_roomOn_160 : decode cX8_roomOn 160 = .ok (.ifCond .eq 72, 3) := by decide +kernel
theorem dX8_roomOn_163 : decode cX8_roomOn 163 = .ok (.iload 5, 2) := by decide +kernel
theorem dX8_roomOn_165 : decode cX8_roomOn 165 = .ok (.ifCond .eq 10, 3) := by decide +kernel
theorem dX8_roomOn_168 : decode cX8_roomOn 168 = .ok (.aload_n 1, 1) := by decide +kernel
theorem dX8_roomOn_169 : decode cX8_roomOn 169 = .ok (.bipush 15, 2) := by decide +kernel
theorem dX8_roomOn_171 : decode cX8_roomOn 171 = .ok (.iaload, 1) := by decide +kernel
theorem dX8_roomOn_172 : decode cX8_roomOn 172 = .ok (.goto 10, 3) := by decide +kernel
theorem dX8_roomOn_175 : decode cX8_roomOn 175 = .ok (.aload_n 1, 1) := by decide +kernel
theorem dX8_roomOn_176 : decode cX8_roomOn 176 = .ok (.iload_n 2, 1) := by decide +kernel
theorem dX8_roomOn_177 : decode cX8_roomOn 177 = .ok (.bipush 6, 2) := by decide +kernel
theorem dX8_roomOn_179 : decode cX8_roomOn 179 = .ok (.invokestatic 44, 3) := by decide +kernel
theorem dX8_roomOn_182 : decode cX8_roomOn 182 = .ok (.iconst 1, 1) := by decide +kernel
theorem dX8_roomOn_183 : decode cX8_roomOn 183 = .ok (.isub, 1) := by decide +kernel
theorem dX8_roomOn_184 : decode cX8_roomOn 184 = .ok (.istore 8, 2) := by decide +kernel
theorem dX8_roomOn_186 : decode cX8_roomOn 186 = .ok (.aload_n 1, 1) := by decide +kernel
theorem dX8_roomOn_187 : decode cX8_roomOn 187 = .ok (.iload_n 2, 1) := by decide +kernel
theorem dX8_roomOn_188 : decode cX8_roomOn 188 = .ok (.iconst 5, 1) := by decide +kernel
theorem dX8_roomOn_189 : decode cX8_roomOn 189 = .ok (.aload_n 1, 1) := by decide +kernel
theorem dX8_roomOn_190 : decode cX8_roomOn 190 = .ok (.iload_n 2, 1) := by decide +kernel
theorem dX8_roomOn_191 : decode cX8_roomOn 191 = .ok (.iconst 5, 1) := by decide +kernel
theorem dX8_roomOn_192 : decode cX8_roomOn 192 = .ok (.invokestatic 44, 3) := by decide +kernel
theorem dX8_roomOn_195 : decode cX8_roomOn 195 = .ok (.bipush 10, 2) := by decide +kernel
theorem dX8_roomOn_197 : decode cX8_roomOn 197 = .ok (.isub, 1) := by decide +kernel
theorem dX8_roomOn_198 : decode cX8_roomOn 198 = .ok (.iconst 0, 1) := by decide +kernel
theorem dX8_roomOn_199 : decode cX8_roomOn 199 = .ok (.bipush 100, 2) := by decide +kernel
theorem dX8_roomOn_201 : decode cX8_roomOn 201 = .ok (.invokestatic 75, 3) := by decide +kernel
theorem dX8_roomOn_204 : decode cX8_roomOn 204 = .ok (.invokestatic 79, 3) := by decide +kernel
theorem dX8_roomOn_207 : decode cX8_roomOn 207 = .ok (.aload_n 1, 1) := by decide +kernel
theorem dX8_roomOn_208 : decode cX8_roomOn 208 = .ok (.iload_n 2, 1) := by decide +kernel
theorem dX8_roomOn_209 : decode cX8_roomOn 209 = .ok (.bipush 6, 2) := by decide +kernel
theorem dX8_roomOn_211 : decode cX8_roomOn 211 = .ok (.aload_n 1, 1) := by decide +kernel
theorem dX8_roomOn_212 : decode cX8_roomOn 212 = .ok (.iload_n 2, 1) := by decide +kernel
theorem dX8_roomOn_213 : decode cX8_roomOn 213 = .ok (.iconst 5, 1) := by decide +kernel
theorem dX8_roomOn_214 : decode cX8_roomOn 214 = .ok (.invokestatic 44, 3) := by decide +kernel
theorem dX8_roomOn_217 : decode cX8_roomOn 217 = .ok (.ifCond .ne 7, 3) := by decide +kernel
theorem dX8_roomOn_220 : decode cX8_roomOn 220 = .ok (.iconst 0, 1) := by decide +kernel
theorem dX8_roomOn_221 : decode cX8_roomOn 221 = .ok (.goto 5, 3) := by decide +kernel
theorem dX8_roomOn_224 : decode cX8_roomOn 224 = .ok (.iload 8, 2) := by decide +kernel
theorem dX8_roomOn_226 : decode cX8_roomOn 226 = .ok (.invokestatic 79, 3) := by decide +kernel
theorem dX8_roomOn_229 : decode cX8_roomOn 229 = .ok (.goto 42, 3) := by decide +kernel
theorem dX8_roomOn_232 : decode cX8_roomOn 232 = .ok (.aload_n 1, 1) := by decide +kernel
theorem dX8_roomOn_233 : decode cX8_roomOn 233 = .ok (.iload_n 2, 1) := by decide +kernel
theorem dX8_roomOn_234 : decode cX8_roomOn 234 = .ok (.iconst 5, 1) := by decide +kernel
theorem dX8_roomOn_235 : decode cX8_roomOn 235 = .ok (.aload_n 1, 1) := by decide +kernel
theorem dX8_roomOn_236 : decode cX8_roomOn 236 = .ok (.iload_n 2, 1) := by decide +kernel
theorem dX8_roomOn_237 : decode cX8_roomOn 237 = .ok (.iconst 5, 1) := by decide +kernel
theorem dX8_roomOn_238 : decode cX8_roomOn 238 = .ok (.invokestatic 44, 3) := by decide +kernel
theorem dX8_roomOn_241 : decode cX8_roomOn 241 = .ok (.iload 4, 2) := by decide +kernel
theorem dX8_roomOn_243 : decode cX8_roomOn 243 = .ok (.ifCond .eq 7, 3) := by decide +kernel
theorem dX8_roomOn_246 : decode cX8_roomOn 246 = .ok (.iconst 1, 1) := by decide +kernel
theorem dX8_roomOn_247 : decode cX8_roomOn 247 = .ok (.goto 4, 3) := by decide +kernel
theorem dX8_roomOn_250 : decode cX8_roomOn 250 = .ok (.iconst 0, 1) := by decide +kernel
theorem dX8_roomOn_251 : decode cX8_roomOn 251 = .ok (.iadd, 1) := by decide +kernel
theorem dX8_roomOn_252 : decode cX8_roomOn 252 = .ok (.iload_n 3, 1) := by decide +kernel
theorem dX8_roomOn_253 : decode cX8_roomOn 253 = .ok (.ifCond .eq 7, 3) := by decide +kernel
theorem dX8_roomOn_256 : decode cX8_roomOn 256 = .ok (.iconst 2, 1) := by decide +kernel
theorem dX8_roomOn_257 : decode cX8_roomOn 257 = .ok (.goto 4, 3) := by decide +kernel
theorem dX8_roomOn_260 : decode cX8_roomOn 260 = .ok (.iconst 0, 1) := by decide +kernel
theorem dX8_roomOn_261 : decode cX8_roomOn 261 = .ok (.iadd, 1) := by decide +kernel
theorem dX8_roomOn_262 : decode cX8_roomOn 262 = .ok (.iconst 0, 1) := by decide +kernel
theorem dX8_roomOn_263 : decode cX8_roomOn 263 = .ok (.bipush 100, 2) := by decide +kernel
theorem dX8_roomOn_265 : decode cX8_roomOn 265 = .ok (.invokestatic 75, 3) := by decide +kernel
theorem dX8_roomOn_268 : decode cX8_roomOn 268 = .ok (.invokestatic 79, 3) := by decide +kernel
theorem dX8_roomOn_271 : decode cX8_roomOn 271 = .ok (.aload_n 1, 1) := by decide +kernel
theorem dX8_roomOn_272 : decode cX8_roomOn 272 = .ok (.iload_n 2, 1) := by decide +kernel
theorem dX8_roomOn_273 : decode cX8_roomOn 273 = .ok (.bipush 7, 2) := by decide +kernel
theorem dX8_roomOn_275 : decode cX8_roomOn 275 = .ok (.aload_n 1, 1) := by decide +kernel
theorem dX8_roomOn_276 : decode cX8_roomOn 276 = .ok (.iload_n 2, 1) := by decide +kernel
theorem dX8_roomOn_277 : decode cX8_roomOn 277 = .ok (.bipush 7, 2) := by decide +kernel
theorem dX8_roomOn_279 : decode cX8_roomOn 279 = .ok (.invokestatic 44, 3) := by decide +kernel
theorem dX8_roomOn_282 : decode cX8_roomOn 282 = .ok (.iload 4, 2) := by decide +kernel
theorem dX8_roomOn_284 : decode cX8_roomOn 284 = .ok (.ifCond .eq 7, 3) := by decide +kernel
theorem dX8_roomOn_287 : decode cX8_roomOn 287 = .ok (.iconst 1, 1) := by decide +kernel
theorem dX8_roomOn_288 : decode cX8_roomOn 288 = .ok (.goto 4, 3) := by decide +kernel
theorem dX8_roomOn_291 : decode cX8_roomOn 291 = .ok (.iconst 0, 1) := by decide +kernel
theorem dX8_roomOn_292 : decode cX8_roomOn 292 = .ok (.iadd, 1) := by decide +kernel
theorem dX8_roomOn_293 : decode cX8_roomOn 293 = .ok (.invokestatic 79, 3) := by decide +kernel
theorem dX8_roomOn_296 : decode cX8_roomOn 296 = .ok (.aload_n 1, 1) := by decide +kernel
theorem dX8_roomOn_297 : decode cX8_roomOn 297 = .ok (.bipush 6, 2) := by decide +kernel
theorem dX8_roomOn_299 : decode cX8_roomOn 299 = .ok (.dup2, 1) := by decide +kernel
theorem dX8_roomOn_300 : decode cX8_roomOn 300 = .ok (.iaload, 1) := by decide +kernel
theorem dX8_roomOn_301 : decode cX8_roomOn 301 = .ok (.iload 5, 2) := by decide +kernel
theorem dX8_roomOn_303 : decode cX8_roomOn 303 = .ok (.ifCond .eq 7, 3) := by decide +kernel
theorem dX8_roomOn_306 : decode cX8_roomOn 306 = .ok (.iconst 1, 1) := by decide +kernel
theorem dX8_roomOn_307 : decode cX8_roomOn 307 = .ok (.goto 4, 3) := by decide +kernel
theorem dX8_roomOn_310 : decode cX8_roomOn 310 = .ok (.iconst 0, 1) := by decide +kernel
theorem dX8_roomOn_311 : decode cX8_roomOn 311 = .ok (.iadd, 1) := by decide +kernel
theorem dX8_roomOn_312 : decode cX8_roomOn 312 = .ok (.iastore, 1) := by decide +kernel
theorem dX8_roomOn_313 : decode cX8_roomOn 313 = .ok (.aload_n 1, 1) := by decide +kernel
theorem dX8_roomOn_314 : decode cX8_roomOn 314 = .ok (.bipush 7, 2) := by decide +kernel
theorem dX8_roomOn_316 : decode cX8_roomOn 316 = .ok (.dup2, 1) := by decide +kernel
theorem dX8_roomOn_317 : decode cX8_roomOn 317 = .ok (.iaload, 1) := by decide +kernel
theorem dX8_roomOn_318 : decode cX8_roomOn 318 = .ok (.aload_n 0, 1) := by decide +kernel
theorem dX8_roomOn_319 : decode cX8_roomOn 319 = .ok (.getfield 29, 3) := by decide +kernel
theorem dX8_roomOn_322 : decode cX8_roomOn 322 = .ok (.iload_n 2, 1) := by decide +kernel
theorem dX8_roomOn_323 : decode cX8_roomOn 323 = .ok (.iaload, 1) := by decide +kernel
theorem dX8_roomOn_324 : decode cX8_roomOn 324 = .ok (.iconst 4, 1) := by decide +kernel
theorem dX8_roomOn_325 : decode cX8_roomOn 325 = .ok (.if_icmp .ne 7, 3) := by decide +kernel
theorem dX8_roomOn_328 : decode cX8_roomOn 328 = .ok (.iconst 1, 1) := by decide +kernel
theorem dX8_roomOn_329 : decode cX8_roomOn 329 = .ok (.goto 4, 3) := by decide +kernel
theorem dX8_roomOn_332 : decode cX8_roomOn 332 = .ok (.iconst 0, 1) := by decide +kernel
theorem dX8_roomOn_333 : decode cX8_roomOn 333 = .ok (.iadd, 1) := by decide +kernel
theorem dX8_roomOn_334 : decode cX8_roomOn 334 = .ok (.iastore, 1) := by decide +kernel
theorem dX8_roomOn_335 : decode cX8_roomOn 335 = .ok (.aload_n 1, 1) := by decide +kernel
theorem dX8_roomOn_336 : decode cX8_roomOn 336 = .ok (.bipush 8, 2) := by decide +kernel
theorem dX8_roomOn_338 : decode cX8_roomOn 338 = .ok (.dup2, 1) := by decide +kernel
theorem dX8_roomOn_339 : decode cX8_roomOn 339 = .ok (.iaload, 1) := by decide +kernel
theorem dX8_roomOn_340 : decode cX8_roomOn 340 = .ok (.aload_n 0, 1) := by decide +kernel
theorem dX8_roomOn_341 : decode cX8_roomOn 341 = .ok (.getfield 29, 3) := by decide +kernel
theorem dX8_roomOn_344 : decode cX8_roomOn 344 = .ok (.iload_n 2, 1) := by decide +kernel
theorem dX8_roomOn_345 : decode cX8_roomOn 345 = .ok (.iaload, 1) := by decide +kernel
theorem dX8_roomOn_346 : decode cX8_roomOn 346 = .ok (.bipush 6, 2) := by decide +kernel
theorem dX8_roomOn_348 : decode cX8_roomOn 348 = .ok (.if_icmp .ne 7, 3) := by decide +kernel
theorem dX8_roomOn_351 : decode cX8_roomOn 351 = .ok (.iconst 1, 1) := by decide +kernel
theorem dX8_roomOn_352 : decode cX8_roomOn 352 = .ok (.goto 4, 3) := by decide +kernel
theorem dX8_roomOn_355 : decode cX8_roomOn 355 = .ok (.iconst 0, 1) := by decide +kernel
theorem dX8_roomOn_356 : decode cX8_roomOn 356 = .ok (.iadd, 1) := by decide +kernel
theorem dX8_roomOn_357 : decode cX8_roomOn 357 = .ok (.iastore, 1) := by decide +kernel
theorem dX8_roomOn_358 : decode cX8_roomOn 358 = .ok (.aload_n 1, 1) := by decide +kernel
theorem dX8_roomOn_359 : decode cX8_roomOn 359 = .ok (.bipush 9, 2) := by decide +kernel
theorem dX8_roomOn_361 : decode cX8_roomOn 361 = .ok (.dup2, 1) := by decide +kernel
theorem dX8_roomOn_362 : decode cX8_roomOn 362 = .ok (.iaload, 1) := by decide +kernel
theorem dX8_roomOn_363 : decode cX8_roomOn 363 = .ok (.aload_n 1, 1) := by decide +kernel
theorem dX8_roomOn_364 : decode cX8_roomOn 364 = .ok (.iload_n 2, 1) := by decide +kernel
theorem dX8_roomOn_365 : decode cX8_roomOn 365 = .ok (.invokestatic 55, 3) := by decide +kernel
theorem dX8_roomOn_368 : decode cX8_roomOn 368 = .ok (.ifCond .eq 7, 3) := by decide +kernel
theorem dX8_roomOn_371 : decode cX8_roomOn 371 = .ok (.iconst 1, 1) := by decide +kernel
theorem dX8_roomOn_372 : decode cX8_roomOn 372 = .ok (.goto 4, 3) := by decide +kernel
theorem dX8_roomOn_375 : decode cX8_roomOn 375 = .ok (.iconst 0, 1) := by decide +kernel
theorem dX8_roomOn_376 : decode cX8_roomOn 376 = .ok (.iadd, 1) := by decide +kernel
theorem dX8_roomOn_377 : decode cX8_roomOn 377 = .ok (.iastore, 1) := by decide +kernel
theorem dX8_roomOn_378 : decode cX8_roomOn 378 = .ok (.return_, 1) := by decide +kernel
theorem dX8_minuteOn_0 : decode cX8_minuteOn 0 = .ok (.aload_n 0, 1) := by decide +kernel
theorem dX8_minuteOn_1 : decode cX8_minuteOn 1 = .ok (.aload_n 1, 1) := by decide +kernel
theorem dX8_minuteOn_2 : decode cX8_minuteOn 2 = .ok (.invokevirtual 83, 3) := by decide +kernel
theorem dX8_minuteOn_5 : decode cX8_minuteOn 5 = .ok (.aload_n 1, 1) := by decide +kernel
theorem dX8_minuteOn_6 : decode cX8_minuteOn 6 = .ok (.aload_n 0, 1) := by decide +kernel
theorem dX8_minuteOn_7 : decode cX8_minuteOn 7 = .ok (.getfield 48, 3) := by decide +kernel
theorem dX8_minuteOn_10 : decode cX8_minuteOn 10 = .ok (.invokestatic 86, 3) := by decide +kernel
theorem dX8_minuteOn_13 : decode cX8_minuteOn 13 = .ok (.iconst 0, 1) := by decide +kernel
theorem dX8_minuteOn_14 : decode cX8_minuteOn 14 = .ok (.istore_n 2, 1) := by decide +kernel
theorem dX8_minuteOn_15 : decode cX8_minuteOn 15 = .ok (.iload_n 2, 1) := by decide +kernel
theorem dX8_minuteOn_16 : decode cX8_minuteOn 16 = .ok (.aload_n 1, 1) := by decide +kernel
theorem dX8_minuteOn_17 : decode cX8_minuteOn 17 = .ok (.iconst 0, 1) := by decide +kernel
theorem dX8_minuteOn_18 : decode cX8_minuteOn 18 = .ok (.iaload, 1) := by decide +kernel
theorem dX8_minuteOn_19 : decode cX8_minuteOn 19 = .ok (.if_icmp .ge 15, 3) := by decide +kernel
theorem dX8_minuteOn_22 : decode cX8_minuteOn 22 = .ok (.aload_n 0, 1) := by decide +kernel
theorem dX8_minuteOn_23 : decode cX8_minuteOn 23 = .ok (.aload_n 1, 1) := by decide +kernel
theorem dX8_minuteOn_24 : decode cX8_minuteOn 24 = .ok (.iload_n 2, 1) := by decide +kernel
theorem dX8_minuteOn_25 : decode cX8_minuteOn 25 = .ok (.invokevirtual 90, 3) := by decide +kernel
theorem dX8_minuteOn_28 : decode cX8_minuteOn 28 = .ok (.iinc 2 1, 3) := by decide +kernel
theorem dX8_minuteOn_31 : decode cX8_minuteOn 31 = .ok (.goto (-16), 3) := by decide +kernel
theorem dX8_minuteOn_34 : decode cX8_minuteOn 34 = .ok (.return_, 1) := by decide +kernel
theorem dX8_runOn_0 : decode cX8_runOn 0 = .ok (.aload_n 1, 1) := by decide +kernel
theorem dX8_runOn_1 : decode cX8_runOn 1 = .ok (.iconst 5, 1) := by decide +kernel
theorem dX8_runOn_2 : decode cX8_runOn 2 = .ok (.iaload, 1) := by decide +kernel
theorem dX8_runOn_3 : decode cX8_runOn 3 = .ok (.istore_n 3, 1) := by decide +kernel
theorem dX8_runOn_4 : decode cX8_runOn 4 = .ok (.iconst 0, 1) := by decide +kernel
theorem dX8_runOn_5 : decode cX8_runOn 5 = .ok (.istore 4, 2) := by decide +kernel
theorem dX8_runOn_7 : decode cX8_runOn 7 = .ok (.iload 4, 2) := by decide +kernel
theorem dX8_runOn_9 : decode cX8_runOn 9 = .ok (.iload_n 2, 1) := by decide +kernel
theorem dX8_runOn_10 : decode cX8_runOn 10 = .ok (.if_icmp .ge 14, 3) := by decide +kernel
theorem dX8_runOn_13 : decode cX8_runOn 13 = .ok (.aload_n 0, 1) := by decide +kernel
theorem dX8_runOn_14 : decode cX8_runOn 14 = .ok (.aload_n 1, 1) := by decide +kernel
theorem dX8_runOn_15 : decode cX8_runOn 15 = .ok (.invokevirtual 93, 3) := by decide +kernel
theorem dX8_runOn_18 : decode cX8_runOn 18 = .ok (.iinc 4 1, 3) := by decide +kernel
theorem dX8_runOn_21 : decode cX8_runOn 21 = .ok (.goto (-14), 3) := by decide +kernel
theorem dX8_runOn_24 : decode cX8_runOn 24 = .ok (.aload_n 1, 1) := by decide +kernel
theorem dX8_runOn_25 : decode cX8_runOn 25 = .ok (.iconst 5, 1) := by decide +kernel
theorem dX8_runOn_26 : decode cX8_runOn 26 = .ok (.iaload, 1) := by decide +kernel
theorem dX8_runOn_27 : decode cX8_runOn 27 = .ok (.iload_n 3, 1) := by decide +kernel
theorem dX8_runOn_28 : decode cX8_runOn 28 = .ok (.isub, 1) := by decide +kernel
theorem dX8_runOn_29 : decode cX8_runOn 29 = .ok (.ireturn, 1) := by decide +kernel
theorem dX8_isNew_0 : decode cX8_isNew 0 = .ok (.iload_n 0, 1) := by decide +kernel
theorem dX8_isNew_1 : decode cX8_isNew 1 = .ok (.i2l, 1) := by decide +kernel
theorem dX8_isNew_2 : decode cX8_isNew 2 = .ok (.lconst 1, 1) := by decide +kernel
theorem dX8_isNew_3 : decode cX8_isNew 3 = .ok (.ldc2_w 96, 3) := by decide +kernel
theorem dX8_isNew_6 : decode cX8_isNew 6 = .ok (.invokestatic 40, 3) := by decide +kernel
theorem dX8_isNew_9 : decode cX8_isNew 9 = .ok (.ifCond .eq 36, 3) := by decide +kernel
theorem dX8_isNew_12 : decode cX8_isNew 12 = .ok (.iload_n 1, 1) := by decide +kernel
theorem dX8_isNew_13 : decode cX8_isNew 13 = .ok (.i2l, 1) := by decide +kernel
theorem dX8_isNew_14 : decode cX8_isNew 14 = .ok (.ldc2_w 98, 3) := by decide +kernel
theorem dX8_isNew_17 : decode cX8_isNew 17 = .ok (.ldc2_w 100, 3) := by decide +kernel
theorem dX8_isNew_20 : decode cX8_isNew 20 = .ok (.invokestatic 40, 3) := by decide +kernel
theorem dX8_isNew_23 : decode cX8_isNew 23 = .ok (.ifCond .eq 22, 3) := by decide +kernel
theorem dX8_isNew_26 : decode cX8_isNew 26 = .ok (.iload_n 2, 1) := by decide +kernel
theorem dX8_isNew_27 : decode cX8_isNew 27 = .ok (.i2l, 1) := by decide +kernel
theorem dX8_isNew_28 : decode cX8_isNew 28 = .ok (.iload_n 1, 1) := by decide +kernel
theorem dX8_isNew_29 : decode cX8_isNew 29 = .ok (.iconst 1, 1) := by decide +kernel
theorem dX8_isNew_30 : decode cX8_isNew 30 = .ok (.iadd, 1) := by decide +kernel
theorem dX8_isNew_31 : decode cX8_isNew 31 = .ok (.i2l, 1) := by decide +kernel
theorem dX8_isNew_32 : decode cX8_isNew 32 = .ok (.ldc2_w 100, 3) := by decide +kernel
theorem dX8_isNew_35 : decode cX8_isNew 35 = .ok (.invokestatic 40, 3) := by decide +kernel
theorem dX8_isNew_38 : decode cX8_isNew 38 = .ok (.ifCond .eq 7, 3) := by decide +kernel
theorem dX8_isNew_41 : decode cX8_isNew 41 = .ok (.iconst 1, 1) := by decide +kernel
theorem dX8_isNew_42 : decode cX8_isNew 42 = .ok (.goto 4, 3) := by decide +kernel
theorem dX8_isNew_45 : decode cX8_isNew 45 = .ok (.iconst 0, 1) := by decide +kernel
theorem dX8_isNew_46 : decode cX8_isNew 46 = .ok (.ireturn, 1) := by decide +kernel
theorem dX8_addOn_0 : decode cX8_addOn 0 = .ok (.aload_n 0, 1) := by decide +kernel
theorem dX8_addOn_1 : decode cX8_addOn 1 = .ok (.iconst 0, 1) := by decide +kernel
theorem dX8_addOn_2 : decode cX8_addOn 2 = .ok (.iaload, 1) := by decide +kernel
theorem dX8_addOn_3 : decode cX8_addOn 3 = .ok (.istore 4, 2) := by decide +kernel
theorem dX8_addOn_5 : decode cX8_addOn 5 = .ok (.iconst 0, 1) := by decide +kernel
theorem dX8_addOn_6 : decode cX8_addOn 6 = .ok (.istore 5, 2) := by decide +kernel
theorem dX8_addOn_8 : decode cX8_addOn 8 = .ok (.iload 5, 2) := by decide +kernel
theorem dX8_addOn_10 : decode cX8_addOn 10 = .ok (.bipush 8, 2) := by decide +kernel
theorem dX8_addOn_12 : decode cX8_addOn 12 = .ok (.if_icmp .ge 18, 3) := by decide +kernel
theorem dX8_addOn_15 : decode cX8_addOn 15 = .ok (.aload_n 0, 1) := by decide +kernel
theorem dX8_addOn_16 : decode cX8_addOn 16 = .ok (.iload 4, 2) := by decide +kernel
theorem dX8_addOn_18 : decode cX8_addOn 18 = .ok (.iload 5, 2) := by decide +kernel
theorem dX8_addOn_20 : decode cX8_addOn 20 = .ok (.iconst 0, 1) := by decide +kernel
theorem dX8_addOn_21 : decode cX8_addOn 21 = .ok (.invokestatic 79, 3) := by decide +kernel
theorem dX8_addOn_24 : decode cX8_addOn 24 = .ok (.iinc 5 1, 3) := by decide +kernel
theorem dX8_addOn_27 : decode cX8_addOn 27 = .ok (.goto (-19), 3) := by decide +kernel
theorem dX8_addOn_30 : decode cX8_addOn 30 = .ok (.aload_n 0, 1) := by decide +kernel
theorem dX8_addOn_31 : decode cX8_addOn 31 = .ok (.iload 4, 2) := by decide +kernel
theorem dX8_addOn_33 : decode cX8_addOn 33 = .ok (.iconst 0, 1) := by decide +kernel
theorem dX8_addOn_34 : decode cX8_addOn 34 = .ok (.iload_n 1, 1) := by decide +kernel
theorem dX8_addOn_35 : decode cX8_addOn 35 = .ok (.invokestatic 79, 3) := by decide +kernel
theorem dX8_addOn_38 : decode cX8_addOn 38 = .ok (.aload_n 0, 1) := by decide +kernel
theorem dX8_addOn_39 : decode cX8_addOn 39 = .ok (.iload 4, 2) := by decide +kernel
theorem dX8_addOn_41 : decode cX8_addOn 41 = .ok (.iconst 1, 1) := by decide +kernel
theorem dX8_addOn_42 : decode cX8_addOn 42 = .ok (.iload_n 2, 1) := by decide +kernel
theorem dX8_addOn_43 : decode cX8_addOn 43 = .ok (.invokestatic 79, 3) := by decide +kernel
theorem dX8_addOn_46 : decode cX8_addOn 46 = .ok (.aload_n 0, 1) := by decide +kernel
theorem dX8_addOn_47 : decode cX8_addOn 47 = .ok (.iload 4, 2) := by decide +kernel
theorem dX8_addOn_49 : decode cX8_addOn 49 = .ok (.iconst 2, 1) := by decide +kernel
theorem dX8_addOn_50 : decode cX8_addOn 50 = .ok (.iload_n 3, 1) := by decide +kernel
theorem dX8_addOn_51 : decode cX8_addOn 51 = .ok (.invokestatic 79, 3) := by decide +kernel
theorem dX8_addOn_54 : decode cX8_addOn 54 = .ok (.aload_n 0, 1) := by decide +kernel
theorem dX8_addOn_55 : decode cX8_addOn 55 = .ok (.iload 4, 2) := by decide +kernel
theorem dX8_addOn_57 : decode cX8_addOn 57 = .ok (.iconst 3, 1) := by decide +kernel
theorem dX8_addOn_58 : decode cX8_addOn 58 = .ok (.iload_n 2, 1) := by decide +kernel
theorem dX8_addOn_59 : decode cX8_addOn 59 = .ok (.invokestatic 79, 3) := by decide +kernel
theorem dX8_addOn_62 : decode cX8_addOn 62 = .ok (.aload_n 0, 1) := by decide +kernel
theorem dX8_addOn_63 : decode cX8_addOn 63 = .ok (.iconst 0, 1) := by decide +kernel
theorem dX8_addOn_64 : decode cX8_addOn 64 = .ok (.dup2, 1) := by decide +kernel
theorem dX8_addOn_65 : decode cX8_addOn 65 = .ok (.iaload, 1) := by decide +kernel
theorem dX8_addOn_66 : decode cX8_addOn 66 = .ok (.iconst 1, 1) := by decide +kernel
theorem dX8_addOn_67 : decode cX8_addOn 67 = .ok (.iadd, 1) := by decide +kernel
theorem dX8_addOn_68 : decode cX8_addOn 68 = .ok (.iastore, 1) := by decide +kernel
theorem dX8_addOn_69 : decode cX8_addOn 69 = .ok (.iload 4, 2) := by decide +kernel
theorem dX8_addOn_71 : decode cX8_addOn 71 = .ok (.ireturn, 1) := by decide +kernel
theorem dX8_doorOn_0 : decode cX8_doorOn 0 = .ok (.aload_n 0, 1) := by decide +kernel
theorem dX8_doorOn_1 : decode cX8_doorOn 1 = .ok (.iload_n 1, 1) := by decide +kernel
theorem dX8_doorOn_2 : decode cX8_doorOn 2 = .ok (.iconst 4, 1) := by decide +kernel
theorem dX8_doorOn_3 : decode cX8_doorOn 3 = .ok (.iload_n 2, 1) := by decide +kernel
theorem dX8_doorOn_4 : decode cX8_doorOn 4 = .ok (.ifCond .eq 7, 3) := by decide +kernel
theorem dX8_doorOn_7 : decode cX8_doorOn 7 = .ok (.iconst 1, 1) := by decide +kernel
theorem dX8_doorOn_8 : decode cX8_doorOn 8 = .ok (.goto 4, 3) := by decide +kernel
theorem dX8_doorOn_11 : decode cX8_doorOn 11 = .ok (.iconst 0, 1) := by decide +kernel
theorem dX8_doorOn_12 : decode cX8_doorOn 12 = .ok (.invokestatic 79, 3) := by decide +kernel
theorem dX8_doorOn_15 : decode cX8_doorOn 15 = .ok (.iconst 0, 1) := by decide +kernel
theorem dX8_doorOn_16 : decode cX8_doorOn 16 = .ok (.istore_n 3, 1) := by decide +kernel
theorem dX8_doorOn_17 : decode cX8_doorOn 17 = .ok (.iconst 0, 1) := by decide +kernel
theorem dX8_doorOn_18 : decode cX8_doorOn 18 = .ok (.istore 4, 2) := by decide +kernel
theorem dX8_doorOn_20 : decode cX8_doorOn 20 = .ok (.iload 4, 2) := by decide +kernel
theorem dX8_doorOn_22 : decode cX8_doorOn 22 = .ok (.aload_n 0, 1) := by decide +kernel
theorem dX8_doorOn_23 : decode cX8_doorOn 23 = .ok (.iconst 0, 1) := by decide +kernel
theorem dX8_doorOn_24 : decode cX8_doorOn 24 = .ok (.iaload, 1) := by decide +kernel
theorem dX8_doorOn_25 : decode cX8_doorOn 25 = .ok (.if_icmp .ge 19, 3) := by decide +kernel
theorem dX8_doorOn_28 : decode cX8_doorOn 28 = .ok (.iload_n 3, 1) := by decide +kernel
theorem dX8_doorOn_29 : decode cX8_doorOn 29 = .ok (.aload_n 0, 1) := by decide +kernel
theorem dX8_doorOn_30 : decode cX8_doorOn 30 = .ok (.iload 4, 2) := by decide +kernel
theorem dX8_doorOn_32 : decode cX8_doorOn 32 = .ok (.iconst 4, 1) := by decide +kernel
theorem dX8_doorOn_33 : decode cX8_doorOn 33 = .ok (.invokestatic 44, 3) := by decide +kernel
theorem dX8_doorOn_36 : decode cX8_doorOn 36 = .ok (.iadd, 1) := by decide +kernel
theorem dX8_doorOn_37 : decode cX8_doorOn 37 = .ok (.istore_n 3, 1) := by decide +kernel
theorem dX8_doorOn_38 : decode cX8_doorOn 38 = .ok (.iinc 4 1, 3) := by decide +kernel
theorem dX8_doorOn_41 : decode cX8_doorOn 41 = .ok (.goto (-21), 3) := by decide +kernel
theorem dX8_doorOn_44 : decode cX8_doorOn 44 = .ok (.iload_n 3, 1) := by decide +kernel
theorem dX8_doorOn_45 : decode cX8_doorOn 45 = .ok (.ireturn, 1) := by decide +kernel
theorem dX8_goodsOn_0 : decode cX8_goodsOn 0 = .ok (.aload_n 0, 1) := by decide +kernel
theorem dX8_goodsOn_1 : decode cX8_goodsOn 1 = .ok (.iload_n 1, 1) := by decide +kernel
theorem dX8_goodsOn_2 : decode cX8_goodsOn 2 = .ok (.iconst 3, 1) := by decide +kernel
theorem dX8_goodsOn_3 : decode cX8_goodsOn 3 = .ok (.invokestatic 44, 3) := by decide +kernel
theorem dX8_goodsOn_6 : decode cX8_goodsOn 6 = .ok (.istore_n 3, 1) := by decide +kernel
theorem dX8_goodsOn_7 : decode cX8_goodsOn 7 = .ok (.aload_n 0, 1) := by decide +kernel
theorem dX8_goodsOn_8 : decode cX8_goodsOn 8 = .ok (.iload_n 1, 1) := by decide +kernel
theorem dX8_goodsOn_9 : decode cX8_goodsOn 9 = .ok (.iconst 3, 1) := by decide +kernel
theorem dX8_goodsOn_10 : decode cX8_goodsOn 10 = .ok (.iload_n 2, 1) := by decide +kernel
theorem dX8_goodsOn_11 : decode cX8_goodsOn 11 = .ok (.invokestatic 79, 3) := by decide +kernel
theorem dX8_goodsOn_14 : decode cX8_goodsOn 14 = .ok (.iload_n 3, 1) := by decide +kernel
theorem dX8_goodsOn_15 : decode cX8_goodsOn 15 = .ok (.ireturn, 1) := by decide +kernel
theorem dX8_isSetting_0 : decode cX8_isSetting 0 = .ok (.iload_n 0, 1) := by decide +kernel
theorem dX8_isSetting_1 : decode cX8_isSetting 1 = .ok (.i2l, 1) := by decide +kernel
theorem dX8_isSetting_2 : decode cX8_isSetting 2 = .ok (.lconst 0, 1) := by decide +kernel
theorem dX8_isSetting_3 : decode cX8_isSetting 3 = .ok (.ldc2_w 102, 3) := by decide +kernel
theorem dX8_isSetting_6 : decode cX8_isSetting 6 = .ok (.invokestatic 40, 3) := by decide +kernel
theorem dX8_isSetting_9 : decode cX8_isSetting 9 = .ok (.ifCond .ne 5, 3) := by decide +kernel
theorem dX8_isSetting_12 : decode cX8_isSetting 12 = .ok (.iconst 0, 1) := by decide +kernel
theorem dX8_isSetting_13 : decode cX8_isSetting 13 = .ok (.ireturn, 1) := by decide +kernel
theorem dX8_isSetting_14 : decode cX8_isSetting 14 = .ok (.iload_n 1, 1) := by decide +kernel
theorem dX8_isSetting_15 : decode cX8_isSetting 15 = .ok (.i2l, 1) := by decide +kernel
theorem dX8_isSetting_16 : decode cX8_isSetting 16 = .ok (.iload_n 0, 1) := by decide +kernel
theorem dX8_isSetting_17 : decode cX8_isSetting 17 = .ok (.iconst 3, 1) := by decide +kernel
theorem dX8_isSetting_18 : decode cX8_isSetting 18 = .ok (.if_icmp .ge 7, 3) := by decide +kernel
theorem dX8_isSetting_21 : decode cX8_isSetting 21 = .ok (.lconst 0, 1) := by decide +kernel
theorem dX8_isSetting_22 : decode cX8_isSetting 22 = .ok (.goto 4, 3) := by decide +kernel
theorem dX8_isSetting_25 : decode cX8_isSetting 25 = .ok (.lconst 1, 1) := by decide +kernel
theorem dX8_isSetting_26 : decode cX8_isSetting 26 = .ok (.iload_n 0, 1) := by decide +kernel
theorem dX8_isSetting_27 : decode cX8_isSetting 27 = .ok (.ifCond .ne 9, 3) := by decide +kernel
theorem dX8_isSetting_30 : decode cX8_isSetting 30 = .ok (.ldc2_w 104, 3) := by decide +kernel
theorem dX8_isSetting_33 : decode cX8_isSetting 33 = .ok (.goto 50, 3) := by decide +kernel
theorem dX8_isSetting_36 : decode cX8_isSetting 36 = .ok (.iload_n 0, 1) := by decide +kernel
theorem dX8_isSetting_37 : decode cX8_isSetting 37 = .ok (.iconst 1, 1) := by decide +kernel
theorem dX8_isSetting_38 : decode cX8_isSetting 38 = .ok (.if_icmp .ne 9, 3) := by decide +kernel
theorem dX8_isSetting_41 : decode cX8_isSetting 41 = .ok (.ldc2_w 106, 3) := by decide +kernel
theorem dX8_isSetting_44 : decode cX8_isSetting 44 = .ok (.goto 39, 3) := by decide +kernel
theorem dX8_isSetting_47 : decode cX8_isSetting 47 = .ok (.iload_n 0, 1) := by decide +kernel
theorem dX8_isSetting_48 : decode cX8_isSetting 48 = .ok (.iconst 2, 1) := by decide +kernel
theorem dX8_isSetting_49 : decode cX8_isSetting 49 = .ok (.if_icmp .ne 9, 3) := by decide +kernel
theorem dX8_isSetting_52 : decode cX8_isSetting 52 = .ok (.ldc2_w 108, 3) := by decide +kernel
theorem dX8_isSetting_55 : decode cX8_isSetting 55 = .ok (.goto 28, 3) := by decide +kernel
theorem dX8_isSetting_58 : decode cX8_isSetting 58 = .ok (.iload_n 0, 1) := by decide +kernel
theorem dX8_isSetting_59 : decode cX8_isSetting 59 = .ok (.iconst 3, 1) := by decide +kernel
theorem dX8_isSetting_60 : decode cX8_isSetting 60 = .ok (.if_icmp .ne 9, 3) := by decide +kernel
theorem dX8_isSetting_63 : decode cX8_isSetting 63 = .ok (.ldc2_w 96, 3) := by decide +kernel
theorem dX8_isSetting_66 : decode cX8_isSetting 66 = .ok (.goto 17, 3) := by decide +kernel
theorem dX8_isSetting_69 : decode cX8_isSetting 69 = .ok (.iload_n 0, 1) := by decide +kernel
theorem dX8_isSetting_70 : decode cX8_isSetting 70 = .ok (.iconst 4, 1) := by decide +kernel
theorem dX8_isSetting_71 : decode cX8_isSetting 71 = .ok (.if_icmp .ne 9, 3) := by decide +kernel
theorem dX8_isSetting_74 : decode cX8_isSetting 74 = .ok (.ldc2_w 110, 3) := by decide +kernel
theorem dX8_isSetting_77 : decode cX8_isSetting 77 = .ok (.goto 6, 3) := by decide +kernel
theorem dX8_isSetting_80 : decode cX8_isSetting 80 = .ok (.ldc2_w 112, 3) := by decide +kernel
theorem dX8_isSetting_83 : decode cX8_isSetting 83 = .ok (.invokestatic 40, 3) := by decide +kernel
theorem dX8_isSetting_86 : decode cX8_isSetting 86 = .ok (.ireturn, 1) := by decide +kernel
theorem dX8_append_0 : decode cX8_append 0 = .ok (.aload_n 0, 1) := by decide +kernel
theorem dX8_append_1 : decode cX8_append 1 = .ok (.iload_n 1, 1) := by decide +kernel
theorem dX8_append_2 : decode cX8_append 2 = .ok (.i2l, 1) := by decide +kernel
theorem dX8_append_3 : decode cX8_append 3 = .ok (.lconst 0, 1) := by decide +kernel
theorem dX8_append_4 : decode cX8_append 4 = .ok (.ldc2_w 114, 3) := by decide +kernel
theorem dX8_append_7 : decode cX8_append 7 = .ok (.invokestatic 40, 3) := by decide +kernel
theorem dX8_append_10 : decode cX8_append 10 = .ok (.ifCond .ne 7, 3) := by decide +kernel
theorem dX8_append_13 : decode cX8_append 13 = .ok (.iconst 1, 1) := by decide +kernel
theorem dX8_append_14 : decode cX8_append 14 = .ok (.goto 17, 3) := by decide +kernel
theorem dX8_append_17 : decode cX8_append 17 = .ok (.aload_n 0, 1) := by decide +kernel
theorem dX8_append_18 : decode cX8_append 18 = .ok (.getfield 116, 3) := by decide +kernel
theorem dX8_append_21 : decode cX8_append 21 = .ok (.bipush 120, 2) := by decide +kernel
theorem dX8_append_23 : decode cX8_append 23 = .ok (.if_icmp .ne 7, 3) := by decide +kernel
theorem dX8_append_26 : decode cX8_append 26 = .ok (.iconst 2, 1) := by decide +kernel
theorem dX8_append_27 : decode cX8_append 27 = .ok (.goto 4, 3) := by decide +kernel
theorem dX8_append_30 : decode cX8_append 30 = .ok (.iconst 0, 1) := by decide +kernel
theorem dX8_append_31 : decode cX8_append 31 = .ok (.invokevirtual 119, 3) := by decide +kernel
theorem dX8_append_34 : decode cX8_append 34 = .ok (.ifCond .eq 5, 3) := by decide +kernel
theorem dX8_append_37 : decode cX8_append 37 = .ok (.iconst 0, 1) := by decide +kernel
theorem dX8_append_38 : decode cX8_append 38 = .ok (.ireturn, 1) := by decide +kernel
theorem dX8_append_39 : decode cX8_append 39 = .ok (.aload_n 0, 1) := by decide +kernel
theorem dX8_append_40 : decode cX8_append 40 = .ok (.getfield 7, 3) := by decide +kernel
theorem dX8_append_43 : decode cX8_append 43 = .ok (.aload_n 0, 1) := by decide +kernel
theorem dX8_append_44 : decode cX8_append 44 = .ok (.getfield 116, 3) := by decide +kernel
theorem dX8_append_47 : decode cX8_append 47 = .ok (.iload_n 1, 1) := by decide +kernel
theorem dX8_append_48 : decode cX8_append 48 = .ok (.iastore, 1) := by decide +kernel
theorem dX8_append_49 : decode cX8_append 49 = .ok (.aload_n 0, 1) := by decide +kernel
theorem dX8_append_50 : decode cX8_append 50 = .ok (.dup, 1) := by decide +kernel
theorem dX8_append_51 : decode cX8_append 51 = .ok (.getfield 116, 3) := by decide +kernel
theorem dX8_append_54 : decode cX8_append 54 = .ok (.iconst 1, 1) := by decide +kernel
theorem dX8_append_55 : decode cX8_append 55 = .ok (.iadd, 1) := by decide +kernel
theorem dX8_append_56 : decode cX8_append 56 = .ok (.putfield 116, 3) := by decide +kernel
theorem dX8_append_59 : decode cX8_append 59 = .ok (.aload_n 0, 1) := by decide +kernel
theorem dX8_append_60 : decode cX8_append 60 = .ok (.getfield 116, 3) := by decide +kernel
theorem dX8_append_63 : decode cX8_append 63 = .ok (.ireturn, 1) := by decide +kernel
theorem dX8_clearText_0 : decode cX8_clearText 0 = .ok (.aload_n 0, 1) := by decide +kernel
theorem dX8_clearText_1 : decode cX8_clearText 1 = .ok (.iconst 0, 1) := by decide +kernel
theorem dX8_clearText_2 : decode cX8_clearText 2 = .ok (.putfield 36, 3) := by decide +kernel
theorem dX8_clearText_5 : decode cX8_clearText 5 = .ok (.aload_n 0, 1) := by decide +kernel
theorem dX8_clearText_6 : decode cX8_clearText 6 = .ok (.getfield 116, 3) := by decide +kernel
theorem dX8_clearText_9 : decode cX8_clearText 9 = .ok (.istore_n 1, 1) := by decide +kernel
theorem dX8_clearText_10 : decode cX8_clearText 10 = .ok (.aload_n 0, 1) := by decide +kernel
theorem dX8_clearText_11 : decode cX8_clearText 11 = .ok (.iconst 0, 1) := by decide +kernel
theorem dX8_clearText_12 : decode cX8_clearText 12 = .ok (.putfield 116, 3) := by decide +kernel
theorem dX8_clearText_15 : decode cX8_clearText 15 = .ok (.iload_n 1, 1) := by decide +kernel
theorem dX8_clearText_16 : decode cX8_clearText 16 = .ok (.ireturn, 1) := by decide +kernel
theorem dX8_at_0 : decode cX8_at 0 = .ok (.iload_n 1, 1) := by decide +kernel
theorem dX8_at_1 : decode cX8_at 1 = .ok (.aload_n 0, 1) := by decide +kernel
theorem dX8_at_2 : decode cX8_at 2 = .ok (.getfield 116, 3) := by decide +kernel
theorem dX8_at_5 : decode cX8_at 5 = .ok (.if_icmp .ge 12, 3) := by decide +kernel
theorem dX8_at_8 : decode cX8_at 8 = .ok (.aload_n 0, 1) := by decide +kernel
theorem dX8_at_9 : decode cX8_at 9 = .ok (.getfield 7, 3) := by decide +kernel
theorem dX8_at_12 : decode cX8_at 12 = .ok (.iload_n 1, 1) := by decide +kernel
theorem dX8_at_13 : decode cX8_at 13 = .ok (.iaload, 1) := by decide +kernel
theorem dX8_at_14 : decode cX8_at 14 = .ok (.goto 4, 3) := by decide +kernel
theorem dX8_at_17 : decode cX8_at 17 = .ok (.iconst (-1), 1) := by decide +kernel
theorem dX8_at_18 : decode cX8_at 18 = .ok (.ireturn, 1) := by decide +kernel
theorem dX8_figures_0 : decode cX8_figures 0 = .ok (.iconst 1, 1) := by decide +kernel
theorem dX8_figures_1 : decode cX8_figures 1 = .ok (.istore 4, 2) := by decide +kernel
theorem dX8_figures_3 : decode cX8_figures 3 = .ok (.iconst 1, 1) := by decide +kernel
theorem dX8_figures_4 : decode cX8_figures 4 = .ok (.istore 5, 2) := by decide +kernel
theorem dX8_figures_6 : decode cX8_figures 6 = .ok (.iload 5, 2) := by decide +kernel
theorem dX8_figures_8 : decode cX8_figures 8 = .ok (.iload_n 1, 1) := by decide +kernel
theorem dX8_figures_9 : decode cX8_figures 9 = .ok (.if_icmp .ge 16, 3) := by decide +kernel
theorem dX8_figures_12 : decode cX8_figures 12 = .ok (.iload 4, 2) := by decide +kernel
theorem dX8_figures_14 : decode cX8_figures 14 = .ok (.bipush 10, 2) := by decide +kernel
theorem dX8_figures_16 : decode cX8_figures 16 = .ok (.imul, 1) := by decide +kernel
theorem dX8_figures_17 : decode cX8_figures 17 = .ok (.istore 4, 2) := by decide +kernel
theorem dX8_figures_19 : decode cX8_figures 19 = .ok (.iinc 5 1, 3) := by decide +kernel
theorem dX8_figures_22 : decode cX8_figures 22 = .ok (.goto (-16), 3) := by decide +kernel
theorem dX8_figures_25 : decode cX8_figures 25 = .ok (.iconst 0, 1) := by decide +kernel
theorem dX8_figures_26 : decode cX8_figures 26 = .ok (.istore 5, 2) := by decide +kernel
theorem dX8_figures_28 : decode cX8_figures 28 = .ok (.iload 4, 2) := by decide +kernel
theorem dX8_figures_30 : decode cX8_figures 30 = .ok (.ifCond .le 119, 3) := by decide +kernel
theorem dX8_figures_33 : decode cX8_figures 33 = .ok (.aload_n 0, 1) := by decide +kernel
theorem dX8_figures_34 : decode cX8_figures 34 = .ok (.getfield 123, 3) := by decide +kernel
theorem dX8_figures_37 : decode cX8_figures 37 = .ok (.ifCond .eq 112, 3) := by decide +kernel
theorem dX8_figures_40 : decode cX8_figures 40 = .ok (.aload_n 0, 1) := by decide +kernel
theorem dX8_figures_41 : decode cX8_figures 41 = .ok (.aload_n 0, 1) := by decide +kernel
theorem dX8_figures_42 : decode cX8_figures 42 = .ok (.getfield 127, 3) := by decide +kernel
theorem dX8_figures_45 : decode cX8_figures 45 = .ok (.invokevirtual 130, 3) := by decide +kernel
theorem dX8_figures_48 : decode cX8_figures 48 = .ok (.bipush 48, 2) := by decide +kernel
theorem dX8_figures_50 : decode cX8_figures 50 = .ok (.isub, 1) := by decide +kernel
theorem dX8_figures_51 : decode cX8_figures 51 = .ok (.istore 6, 2) := by decide +kernel
theorem dX8_figures_53 : decode cX8_figures 53 = .ok (.iload 5, 2) := by decide +kernel
theorem dX8_figures_55 : decode cX8_figures 55 = .ok (.iload 6, 2) := by decide +kernel
theorem dX8_figures_57 : decode cX8_figures 57 = .ok (.iload 4, 2) := by decide +kernel
theorem dX8_figures_59 : decode cX8_figures 59 = .ok (.imul, 1) := by decide +kernel
theorem dX8_figures_60 : decode cX8_figures 60 = .ok (.iadd, 1) := by decide +kernel
theorem dX8_figures_61 : decode cX8_figures 61 = .ok (.istore 7, 2) := by decide +kernel
theorem dX8_figures_63 : decode cX8_figures 63 = .ok (.aload_n 0, 1) := by decide +kernel
theorem dX8_figures_64 : decode cX8_figures 64 = .ok (.iload 6, 2) := by decide +kernel
theorem dX8_figures_66 : decode cX8_figures 66 = .ok (.i2l, 1) := by decide +kernel
theorem dX8_figures_67 : decode cX8_figures 67 = .ok (.lconst 0, 1) := by decide +kernel
theorem dX8_figures_68 : decode cX8_figures 68 = .ok (.ldc2_w 134, 3) := by decide +kernel
theorem dX8_figures_71 : decode cX8_figures 71 = .ok (.invokestatic 40, 3) := by decide +kernel
theorem dX8_figures_74 : decode cX8_figures 74 = .ok (.ifCond .eq 24, 3) := by decide +kernel
theorem dX8_figures_77 : decode cX8_figures 77 = .ok (.iload 7, 2) := by decide +kernel
theorem dX8_figures_79 : decode cX8_figures 79 = .ok (.iload_n 3, 1) := by decide +kernel
theorem dX8_figures_80 : decode cX8_figures 80 = .ok (.if_icmp .gt 18, 3) := by decide +kernel
theorem dX8_figures_83 : decode cX8_figures 83 = .ok (.iload 7, 2) := by decide +kernel
theorem dX8_figures_85 : decode cX8_figures 85 = .ok (.iload 4, 2) := by decide +kernel
theorem dX8_figures_87 : decode cX8_figures 87 = .ok (.iadd, 1) := by decide +kernel
theorem dX8_figures_88 : decode cX8_figures 88 = .ok (.iconst 1, 1) := by decide +kernel
theorem dX8_figures_89 : decode cX8_figures 89 = .ok (.isub, 1) := by decide +kernel
theorem dX8_figures_90 : decode cX8_figures 90 = .ok (.iload_n 2, 1) := by decide +kernel
theorem dX8_figures_91 : decode cX8_figures 91 = .ok (.if_icmp .lt 7, 3) := by decide +kernel
theorem dX8_figures_94 : decode cX8_figures 94 = .ok (.iconst 1, 1) := by decide +kernel
theorem dX8_figures_95 : decode cX8_figures 95 = .ok (.goto 4, 3) := by decide +kernel
theorem dX8_figures_98 : decode cX8_figures 98 = .ok (.iconst 0, 1) := by decide +kernel
theorem dX8_figures_99 : decode cX8_figures 99 = .ok (.putfield 123, 3) := by decide +kernel
theorem dX8_figures_102 : decode cX8_figures 102 = .ok (.aload_n 0, 1) := by decide +kernel
theorem dX8_figures_103 : decode cX8_figures 103 = .ok (.getfield 123, 3) := by decide +kernel
theorem dX8_figures_106 : decode cX8_figures 106 = .ok (.ifCond .eq 8, 3) := by decide +kernel
theorem dX8_figures_109 : decode cX8_figures 109 = .ok (.iload 7, 2) := by decide +kernel
theorem dX8_figures_111 : decode cX8_figures 111 = .ok (.goto 5, 3) := by decide +kernel
theorem dX8_figures_114 : decode cX8_figures 114 = .ok (.iload 5, 2) := by decide +kernel
theorem dX8_figures_116 : decode cX8_figures 116 = .ok (.istore 5, 2) := by decide +kernel
theorem dX8_figures_118 : decode cX8_figures 118 = .ok (.aload_n 0, 1) := by decide +kernel
theorem dX8_figures_119 : decode cX8_figures 119 = .ok (.dup, 1) := by decide +kernel
theorem dX8_figures_120 : decode cX8_figures 120 = .ok (.getfield 127, 3) := by decide +kernel
theorem dX8_figures_123 : decode cX8_figures 123 = .ok (.aload_n 0, 1) := by decide +kernel
theorem dX8_figures_124 : decode cX8_figures 124 = .ok (.getfield 123, 3) := by decide +kernel
theorem dX8_figures_127 : decode cX8_figures 127 = .ok (.ifCond .eq 7, 3) := by decide +kernel
theorem dX8_figures_130 : decode cX8_figures 130 = .ok (.iconst 1, 1) := by decide +kernel
theorem dX8_figures_131 : decode cX8_figures 131 = .ok (.goto 4, 3) := by decide +kernel
theorem dX8_figures_134 : decode cX8_figures 134 = .ok (.iconst 0, 1) := by decide +kernel
theorem dX8_figures_135 : decode cX8_figures 135 = .ok (.iadd, 1) := by decide +kernel
theorem dX8_figures_136 : decode cX8_figures 136 = .ok (.putfield 127, 3) := by decide +kernel
theorem dX8_figures_139 : decode cX8_figures 139 = .ok (.iload 4, 2) := by decide +kernel
theorem dX8_figures_141 : decode cX8_figures 141 = .ok (.bipush 10, 2) := by decide +kernel
theorem dX8_figures_143 : decode cX8_figures 143 = .ok (.idiv, 1) := by decide +kernel
theorem dX8_figures_144 : decode cX8_figures 144 = .ok (.istore 4, 2) := by decide +kernel
theorem dX8_figures_146 : decode cX8_figures 146 = .ok (.goto (-118), 3) := by decide +kernel
theorem dX8_figures_149 : decode cX8_figures 149 = .ok (.iload 5, 2) := by decide +kernel
theorem dX8_figures_151 : decode cX8_figures 151 = .ok (.ireturn, 1) := by decide +kernel
theorem dX8_temperature_0 : decode cX8_temperature 0 = .ok (.aload_n 0, 1) := by decide +kernel
theorem dX8_temperature_1 : decode cX8_temperature 1 = .ok (.aload_n 0, 1) := by decide +kernel
theorem dX8_temperature_2 : decode cX8_temperature 2 = .ok (.getfield 127, 3) := by decide +kernel
theorem dX8_temperature_5 : decode cX8_temperature 5 = .ok (.invokevirtual 130, 3) := by decide +kernel
theorem dX8_temperature_8 : decode cX8_temperature 8 = .ok (.istore_n 1, 1) := by decide +kernel
theorem dX8_temperature_9 : decode cX8_temperature 9 = .ok (.aload_n 0, 1) := by decide +kernel
theorem dX8_temperature_10 : decode cX8_temperature 10 = .ok (.aload_n 0, 1) := by decide +kernel
theorem dX8_temperature_11 : decode cX8_temperature 11 = .ok (.getfield 123, 3) := by decide +kernel
theorem dX8_temperature_14 : decode cX8_temperature 14 = .ok (.ifCond .eq 19, 3) := by decide +kernel
theorem dX8_temperature_17 : decode cX8_temperature 17 = .ok (.iload_n 1, 1) := by decide +kernel
theorem dX8_temperature_18 : decode cX8_temperature 18 = .ok (.bipush 43, 2) := by decide +kernel
theorem dX8_temperature_20 : decode cX8_temperature 20 = .ok (.if_icmp .eq 9, 3) := by decide +kernel
theorem dX8_temperature_23 : decode cX8_temperature 23 = .ok (.iload_n 1, 1) := by decide +kernel
theorem dX8_temperature_24 : decode cX8_temperature 24 = .ok (.bipush 45, 2) := by decide +kernel
theorem dX8_temperature_26 : decode cX8_temperature 26 = .ok (.if_icmp .ne 7, 3) := by decide +kernel
theorem dX8_temperature_29 : decode cX8_temperature 29 = .ok (.iconst 1, 1) := by decide +kernel
theorem dX8_temperature_30 : decode cX8_temperature 30 = .ok (.goto 4, 3) := by decide +kernel
theorem dX8_temperature_33 : decode cX8_temperature 33 = .ok (.iconst 0, 1) := by decide +kernel
theorem dX8_temperature_34 : decode cX8_temperature 34 = .ok (.putfield 123, 3) := by decide +kernel
theorem dX8_temperature_37 : decode cX8_temperature 37 = .ok (.aload_n 0, 1) := by decide +kernel
theorem dX8_temperature_38 : decode cX8_temperature 38 = .ok (.dup, 1) := by decide +kernel
theorem dX8_temperature_39 : decode cX8_temperature 39 = .ok (.getfield 127, 3) := by decide +kernel
theorem dX8_temperature_42 : decode cX8_temperature 42 = .ok (.aload_n 0, 1) := by decide +kernel
theorem dX8_temperature_43 : decode cX8_temperature 43 = .ok (.getfield 123, 3) := by decide +kernel
theorem dX8_temperature_46 : decode cX8_temperature 46 = .ok (.ifCond .eq 7, 3) := by decide +kernel
theorem dX8_temperature_49 : decode cX8_temperature 49 = .ok (.iconst 1, 1) := by decide +kernel
theorem dX8_temperature_50 : decode cX8_temperature 50 = .ok (.goto 4, 3) := by decide +kernel
theorem dX8_temperature_53 : decode cX8_temperature 53 = .ok (.iconst 0, 1) := by decide +kernel
theorem dX8_temperature_54 : decode cX8_temperature 54 = .ok (.iadd, 1) := by decide +kernel
theorem dX8_temperature_55 : decode cX8_temperature 55 = .ok (.putfield 127, 3) := by decide +kernel
theorem dX8_temperature_58 : decode cX8_temperature 58 = .ok (.aload_n 0, 1) := by decide +kernel
theorem dX8_temperature_59 : decode cX8_temperature 59 = .ok (.iconst 3, 1) := by decide +kernel
theorem dX8_temperature_60 : decode cX8_temperature 60 = .ok (.iconst 0, 1) := by decide +kernel
theorem dX8_temperature_61 : decode cX8_temperature 61 = .ok (.iload_n 1, 1) := by decide +kernel
theorem dX8_temperature_62 : decode cX8_temperature 62 = .ok (.bipush 45, 2) := by decide +kernel
theorem dX8_temperature_64 : decode cX8_temperature 64 = .ok (.if_icmp .ne 9, 3) := by decide +kernel
theorem dX8_temperature_67 : decode cX8_temperature 67 = .ok (.sipush 300, 3) := by decide +kernel
theorem dX8_temperature_70 : decode cX8_temperature 70 = .ok (.goto 6, 3) := by decide +kernel
theorem dX8_temperature_73 : decode cX8_temperature 73 = .ok (.sipush 200, 3) := by decide +kernel
theorem dX8_temperature_76 : decode cX8_temperature 76 = .ok (.invokevirtual 136, 3) := by decide +kernel
theorem dX8_temperature_79 : decode cX8_temperature 79 = .ok (.istore_n 2, 1) := by decide +kernel
theorem dX8_temperature_80 : decode cX8_temperature 80 = .ok (.iload_n 1, 1) := by decide +kernel
theorem dX8_temperature_81 : decode cX8_temperature 81 = .ok (.bipush 45, 2) := by decide +kernel
theorem dX8_temperature_83 : decode cX8_temperature 83 = .ok (.if_icmp .ne 8, 3) := by decide +kernel
theorem dX8_temperature_86 : decode cX8_temperature 86 = .ok (.iload_n 2, 1) := by decide +kernel
theorem dX8_temperature_87 : decode cX8_temperature 87 = .ok (.ineg, 1) := by decide +kernel
theorem dX8_temperature_88 : decode cX8_temperature 88 = .ok (.goto 4, 3) := by decide +kernel
theorem dX8_temperature_91 : decode cX8_temperature 91 = .ok (.iload_n 2, 1) := by decide +kernel
theorem dX8_temperature_92 : decode cX8_temperature 92 = .ok (.ireturn, 1) := by decide +kernel
theorem dX8_done_0 : decode cX8_done 0 = .ok (.aload_n 0, 1) := by decide +kernel
theorem dX8_done_1 : decode cX8_done 1 = .ok (.dup, 1) := by decide +kernel
theorem dX8_done_2 : decode cX8_done 2 = .ok (.getfield 139, 3) := by decide +kernel
theorem dX8_done_5 : decode cX8_done 5 = .ok (.iload_n 1, 1) := by decide +kernel
theorem dX8_done_6 : decode cX8_done 6 = .ok (.ifCond .eq 7, 3) := by decide +kernel
theorem dX8_done_9 : decode cX8_done 9 = .ok (.iconst 0, 1) := by decide +kernel
theorem dX8_done_10 : decode cX8_done 10 = .ok (.goto 4, 3) := by decide +kernel
theorem dX8_done_13 : decode cX8_done 13 = .ok (.iconst 1, 1) := by decide +kernel
theorem dX8_done_14 : decode cX8_done 14 = .ok (.iadd, 1) := by decide +kernel
theorem dX8_done_15 : decode cX8_done 15 = .ok (.putfield 139, 3) := by decide +kernel
theorem dX8_done_18 : decode cX8_done 18 = .ok (.iconst 1, 1) := by decide +kernel
theorem dX8_done_19 : decode cX8_done 19 = .ok (.ireturn, 1) := by decide +kernel
theorem dX8_readCommand_0 : decode cX8_readCommand 0 = .ok (.aload_n 0, 1) := by decide +kernel
theorem dX8_readCommand_1 : decode cX8_readCommand 1 = .ok (.getfield 7, 3) := by decide +kernel
theorem dX8_readCommand_4 : decode cX8_readCommand 4 = .ok (.aload_n 0, 1) := by decide +kernel
theorem dX8_readCommand_5 : decode cX8_readCommand 5 = .ok (.getfield 127, 3) := by decide +kernel
theorem dX8_readCommand_8 : decode cX8_readCommand 8 = .ok (.iaload, 1) := by decide +kernel
theorem dX8_readCommand_9 : decode cX8_readCommand 9 = .ok (.istore_n 2, 1) := by decide +kernel
theorem dX8_readCommand_10 : decode cX8_readCommand 10 = .ok (.aload_n 0, 1) := by decide +kernel
theorem dX8_readCommand_11 : decode cX8_readCommand 11 = .ok (.dup, 1) := by decide +kernel
theorem dX8_readCommand_12 : decode cX8_readCommand 12 = .ok (.getfield 127, 3) := by decide +kernel
theorem dX8_readCommand_15 : decode cX8_readCommand 15 = .ok (.iconst 1, 1) := by decide +kernel
theorem dX8_readCommand_16 : decode cX8_readCommand 16 = .ok (.iadd, 1) := by decide +kernel
theorem dX8_readCommand_17 : decode cX8_readCommand 17 = .ok (.putfield 127, 3) := by decide +kernel
theorem dX8_readCommand_20 : decode cX8_readCommand 20 = .ok (.aload_n 0, 1) := by decide +kernel
theorem dX8_readCommand_21 : decode cX8_readCommand 21 = .ok (.iconst 1, 1) := by decide +kernel
theorem dX8_readCommand_22 : decode cX8_readCommand 22 = .ok (.putfield 123, 3) := by decide +kernel
theorem dX8_readCommand_25 : decode cX8_readCommand 25 = .ok (.iload_n 2, 1) := by decide +kernel
theorem dX8_readCommand_26 : decode cX8_readCommand 26 = .ok (.tableswitch 288 108 122 #[254, 211, 288, 151, 288, 288, 74, 288, 288, 288, 288, 288, 288, 288, 151], 74) := by decide +kernel
theorem dX8_readCommand_100 : decode cX8_readCommand 100 = .ok (.aload_n 0, 1) := by decide +kernel
theorem dX8_readCommand_101 : decode cX8_readCommand 101 = .ok (.iconst 2, 1) := by decide +kernel
theorem dX8_readCommand_102 : decode cX8_readCommand 102 = .ok (.iconst 1, 1) := by decide +kernel
theorem dX8_readCommand_103 : decode cX8_readCommand 103 = .ok (.bipush 50, 2) := by decide +kernel
theorem dX8_readCommand_105 : decode cX8_readCommand 105 = .ok (.invokevirtual 136, 3) := by decide +kernel
theorem dX8_readCommand_108 : decode cX8_readCommand 108 = .ok (.istore_n 3, 1) := by decide +kernel
theorem dX8_readCommand_109 : decode cX8_readCommand 109 = .ok (.aload_n 0, 1) := by decide +kernel
theorem dX8_readCommand_110 : decode cX8_readCommand 110 = .ok (.invokevirtual 142, 3) := by decide +kernel
theorem dX8_readCommand_113 : decode cX8_readCommand 113 = .ok (.istore 4, 2) := by decide +kernel
theorem dX8_readCommand_115 : decode cX8_readCommand 115 = .ok (.aload_n 0, 1) := by decide +kernel
theorem dX8_readCommand_116 : decode cX8_readCommand 116 = .ok (.invokevirtual 142, 3) := by decide +kernel
theorem dX8_readCommand_119 : decode cX8_readCommand 119 = .ok (.istore 5, 2) := by decide +kernel
theorem dX8_readCommand_121 : decode cX8_readCommand 121 = .ok (.aload_n 0, 1) := by decide +kernel
theorem dX8_readCommand_122 : decode cX8_readCommand 122 = .ok (.getfield 123, 3) := by decide +kernel
theorem dX8_readCommand_125 : decode cX8_readCommand 125 = .ok (.ifCond .eq 50, 3) := by decide +kernel
theorem dX8_readCommand_128 : decode cX8_readCommand 128 = .ok (.aload_n 0, 1) := by decide +kernel
theorem dX8_readCommand_129 : decode cX8_readCommand 129 = .ok (.iload_n 3, 1) := by decide +kernel
theorem dX8_readCommand_130 : decode cX8_readCommand 130 = .ok (.iload 4, 2) := by decide +kernel
theorem dX8_readCommand_132 : decode cX8_readCommand 132 = .ok (.iload 5, 2) := by decide +kernel
theorem dX8_readCommand_134 : decode cX8_readCommand 134 = .ok (.invokestatic 146, 3) := by decide +kernel
theorem dX8_readCommand_137 : decode cX8_readCommand 137 = .ok (.ifCond .eq 27, 3) := by decide +kernel
theorem dX8_readCommand_140 : decode cX8_readCommand 140 = .ok (.aload_n 1, 1) := by decide +kernel
theorem dX8_readCommand_141 : decode cX8_readCommand 141 = .ok (.iconst 0, 1) := by decide +kernel
theorem dX8_readCommand_142 : decode cX8_readCommand 142 = .ok (.iaload, 1) := by decide +kernel
theorem dX8_readCommand_143 : decode cX8_readCommand 143 = .ok (.bipush 6, 2) := by decide +kernel
theorem dX8_readCommand_145 : decode cX8_readCommand 145 = .ok (.if_icmp .ge 19, 3) := by decide +kernel
theorem dX8_readCommand_148 : decode cX8_readCommand 148 = .ok (.aload_n 1, 1) := by decide +kernel
theorem dX8_readCommand_149 : decode cX8_readCommand 149 = .ok (.iload_n 3, 1) := by decide +kernel
theorem dX8_readCommand_150 : decode cX8_readCommand 150 = .ok (.iload 4, 2) := by decide +kernel
theorem dX8_readCommand_152 : decode cX8_readCommand 152 = .ok (.iload 5, 2) := by decide +kernel
theorem dX8_readCommand_154 : decode cX8_readCommand 154 = .ok (.invokestatic 150, 3) := by decide +kernel
theorem dX8_readCommand_157 : decode cX8_readCommand 157 = .ok (.ifCond .lt 7, 3) := by decide +kernel
theorem dX8_readCommand_160 : decode cX8_readCommand 160 = .ok (.iconst 1, 1) := by decide +kernel
theorem dX8_readCommand_161 : decode cX8_readCommand 161 = .ok (.goto 4, 3) := by decide +kernel
theorem dX8_readCommand_164 : decode cX8_readCommand 164 = .ok (.iconst 0, 1) := by decide +kernel
theorem dX8_readCommand_165 : decode cX8_readCommand 165 = .ok (.invokevirtual 154, 3) := by decide +kernel
theorem dX8_readCommand_168 : decode cX8_readCommand 168 = .ok (.ifCond .eq 7, 3) := by decide +kernel
theorem dX8_readCommand_171 : decode cX8_readCommand 171 = .ok (.iconst 1, 1) := by decide +kernel
theorem dX8_readCommand_172 : decode cX8_readCommand 172 = .ok (.goto 4, 3) := by decide +kernel
theorem dX8_readCommand_175 : decode cX8_readCommand 175 = .ok (.iconst 0, 1) := by decide +kernel
theorem dX8_readCommand_176 : decode cX8_readCommand 176 = .ok (.ireturn, 1) := by decide +kernel
theorem dX8_readCommand_177 : decode cX8_readCommand 177 = .ok (.aload_n 0, 1) := by decide +kernel
theorem dX8_readCommand_178 : decode cX8_readCommand 178 = .ok (.iconst 1, 1) := by decide +kernel
theorem dX8_readCommand_179 : decode cX8_readCommand 179 = .ok (.iconst 0, 1) := by decide +kernel
theorem dX8_readCommand_180 : decode cX8_readCommand 180 = .ok (.iconst 5, 1) := by decide +kernel
theorem dX8_readCommand_181 : decode cX8_readCommand 181 = .ok (.invokevirtual 136, 3) := by decide +kernel
theorem dX8_readCommand_184 : decode cX8_readCommand 184 = .ok (.istore_n 3, 1) := by decide +kernel
theorem dX8_readCommand_185 : decode cX8_readCommand 185 = .ok (.aload_n 0, 1) := by decide +kernel
theorem dX8_readCommand_186 : decode cX8_readCommand 186 = .ok (.getfield 123, 3) := by decide +kernel
theorem dX8_readCommand_189 : decode cX8_readCommand 189 = .ok (.ifCond .eq 46, 3) := by decide +kernel
theorem dX8_readCommand_192 : decode cX8_readCommand 192 = .ok (.aload_n 0, 1) := by decide +kernel
theorem dX8_readCommand_193 : decode cX8_readCommand 193 = .ok (.aload_n 1, 1) := by decide +kernel
theorem dX8_readCommand_194 : decode cX8_readCommand 194 = .ok (.iload_n 3, 1) := by decide +kernel
theorem dX8_readCommand_195 : decode cX8_readCommand 195 = .ok (.invokestatic 158, 3) := by decide +kernel
theorem dX8_readCommand_198 : decode cX8_readCommand 198 = .ok (.ifCond .eq 26, 3) := by decide +kernel
theorem dX8_readCommand_201 : decode cX8_readCommand 201 = .ok (.aload_n 1, 1) := by decide +kernel
theorem dX8_readCommand_202 : decode cX8_readCommand 202 = .ok (.iload_n 3, 1) := by decide +kernel
theorem dX8_readCommand_203 : decode cX8_readCommand 203 = .ok (.iload_n 2, 1) := by decide +kernel
theorem dX8_readCommand_204 : decode cX8_readCommand 204 = .ok (.bipush 111, 2) := by decide +kernel
theorem dX8_readCommand_206 : decode cX8_readCommand 206 = .ok (.if_icmp .ne 7, 3) := by decide +kernel
theorem dX8_readCommand_209 : decode cX8_readCommand 209 = .ok (.iconst 1, 1) := by decide +kernel
theorem dX8_readCommand_210 : decode cX8_readCommand 210 = .ok (.goto 4, 3) := by decide +kernel
theorem dX8_readCommand_213 : decode cX8_readCommand 213 = .ok (.iconst 0, 1) := by decide +kernel
theorem dX8_readCommand_214 : decode cX8_readCommand 214 = .ok (.invokestatic 161, 3) := by decide +kernel
theorem dX8_readCommand_217 : decode cX8_readCommand 217 = .ok (.ifCond .lt 7, 3) := by decide +kernel
theorem dX8_readCommand_220 : decode cX8_readCommand 220 = .ok (.iconst 1, 1) := by decide +kernel
theorem dX8_readCommand_221 : decode cX8_readCommand 221 = .ok (.goto 4, 3) := by decide +kernel
theorem dX8_readCommand_224 : decode cX8_readCommand 224 = .ok (.iconst 0, 1) := by decide +kernel
theorem dX8_readCommand_225 : decode cX8_readCommand 225 = .ok (.invokevirtual 154, 3) := by decide +kernel
theorem dX8_readCommand_228 : decode cX8_readCommand 228 = .ok (.ifCond .eq 7, 3) := by decide +kernel
theorem dX8_readCommand_231 : decode cX8_readCommand 231 = .ok (.iconst 1, 1) := by decide +kernel
theorem dX8_readCommand_232 : decode cX8_readCommand 232 = .ok (.goto 4, 3) := by decide +kernel
theorem dX8_readCommand_235 : decode cX8_readCommand 235 = .ok (.iconst 0, 1) := by decide +kernel
theorem dX8_readCommand_236 : decode cX8_readCommand 236 = .ok (.ireturn, 1) := by decide +kernel
theorem dX8_readCommand_237 : decode cX8_readCommand 237 = .ok (.aload_n 0, 1) := by decide +kernel
theorem dX8_readCommand_238 : decode cX8_readCommand 238 = .ok (.iconst 2, 1) := by decide +kernel
theorem dX8_readCommand_239 : decode cX8_readCommand 239 = .ok (.iconst 1, 1) := by decide +kernel
theorem dX8_readCommand_240 : decode cX8_readCommand 240 = .ok (.bipush 60, 2) := by decide +kernel
theorem dX8_readCommand_242 : decode cX8_readCommand 242 = .ok (.invokevirtual 136, 3) := by decide +kernel
theorem dX8_readCommand_245 : decode cX8_readCommand 245 = .ok (.istore_n 3, 1) := by decide +kernel
theorem dX8_readCommand_246 : decode cX8_readCommand 246 = .ok (.aload_n 0, 1) := by decide +kernel
theorem dX8_readCommand_247 : decode cX8_readCommand 247 = .ok (.getfield 123, 3) := by decide +kernel
theorem dX8_readCommand_250 : decode cX8_readCommand 250 = .ok (.ifCond .eq 28, 3) := by decide +kernel
theorem dX8_readCommand_253 : decode cX8_readCommand 253 = .ok (.aload_n 0, 1) := by decide +kernel
theorem dX8_readCommand_254 : decode cX8_readCommand 254 = .ok (.aload_n 0, 1) := by decide +kernel
theorem dX8_readCommand_255 : decode cX8_readCommand 255 = .ok (.aload_n 1, 1) := by decide +kernel
theorem dX8_readCommand_256 : decode cX8_readCommand 256 = .ok (.iload_n 3, 1) := by decide +kernel
theorem dX8_readCommand_257 : decode cX8_readCommand 257 = .ok (.invokevirtual 165, 3) := by decide +kernel
theorem dX8_readCommand_260 : decode cX8_readCommand 260 = .ok (.ifCond .lt 7, 3) := by decide +kernel
theorem dX8_readCommand_263 : decode cX8_readCommand 263 = .ok (.iconst 1, 1) := by decide +kernel
theorem dX8_readCommand_264 : decode cX8_readCommand 264 = .ok (.goto 4, 3) := by decide +kernel
theorem dX8_readCommand_267 : decode cX8_readCommand 267 = .ok (.iconst 0, 1) := by decide +kernel
theorem dX8_readCommand_268 : decode cX8_readCommand 268 = .ok (.invokevirtual 154, 3) := by decide +kernel
theorem dX8_readCommand_271 : decode cX8_readCommand 271 = .ok (.ifCond .eq 7, 3) := by decide +kernel
theorem dX8_readCommand_274 : decode cX8_readCommand 274 = .ok (.iconst 1, 1) := by decide +kernel
theorem dX8_readCommand_275 : decode cX8_readCommand 275 = .ok (.goto 4, 3) := by decide +kernel
theorem dX8_readCommand_278 : decode cX8_readCommand 278 = .ok (.iconst 0, 1) := by decide +kernel
theorem dX8_readCommand_279 : decode cX8_readCommand 279 = .ok (.ireturn, 1) := by decide +kernel
theorem dX8_readCommand_280 : decode cX8_readCommand 280 = .ok (.aload_n 0, 1) := by decide +kernel
theorem dX8_readCommand_281 : decode cX8_readCommand 281 = .ok (.iconst 4, 1) := by decide +kernel
theorem dX8_readCommand_282 : decode cX8_readCommand 282 = .ok (.iconst 0, 1) := by decide +kernel
theorem dX8_readCommand_283 : decode cX8_readCommand 283 = .ok (.sipush 9999, 3) := by decide +kernel
theorem dX8_readCommand_286 : decode cX8_readCommand 286 = .ok (.invokevirtual 136, 3) := by decide +kernel
theorem dX8_readCommand_289 : decode cX8_readCommand 289 = .ok (.istore_n 3, 1) := by decide +kernel
theorem dX8_readCommand_290 : decode cX8_readCommand 290 = .ok (.aload_n 1, 1) := by decide +kernel
theorem dX8_readCommand_291 : decode cX8_readCommand 291 = .ok (.bipush 10, 2) := by decide +kernel
theorem dX8_readCommand_293 : decode cX8_readCommand 293 = .ok (.aload_n 0, 1) := by decide +kernel
theorem dX8_readCommand_294 : decode cX8_readCommand 294 = .ok (.getfield 123, 3) := by decide +kernel
theorem dX8_readCommand_297 : decode cX8_readCommand 297 = .ok (.ifCond .eq 7, 3) := by decide +kernel
theorem dX8_readCommand_300 : decode cX8_readCommand 300 = .ok (.iload_n 3, 1) := by decide +kernel
theorem dX8_readCommand_301 : decode cX8_readCommand 301 = .ok (.goto 7, 3) := by decide +kernel
theorem dX8_readCommand_304 : decode cX8_readCommand 304 = .ok (.aload_n 1, 1) := by decide +kernel
theorem dX8_readCommand_305 : decode cX8_readCommand 305 = .ok (.bipush 10, 2) := by decide +kernel
theorem dX8_readCommand_307 : decode cX8_readCommand 307 = .ok (.iaload, 1) := by decide +kernel
theorem dX8_readCommand_308 : decode cX8_readCommand 308 = .ok (.iastore, 1) := by decide +kernel
theorem dX8_readCommand_309 : decode cX8_readCommand 309 = .ok (.aload_n 0, 1) := by decide +kernel
theorem dX8_readCommand_310 : decode cX8_readCommand 310 = .ok (.getfield 123, 3) := by decide +kernel
theorem dX8_readCommand_313 : decode cX8_readCommand 313 = .ok (.ireturn, 1) := by decide +kernel
theorem dX8_readCommand_314 : decode cX8_readCommand 314 = .ok (.aload_n 0, 1) := by decide +kernel
theorem dX8_readCommand_315 : decode cX8_readCommand 315 = .ok (.dup, 1) := by decide +kernel
theorem dX8_readCommand_316 : decode cX8_readCommand 316 = .ok (.getfield 127, 3) := by decide +kernel
theorem dX8_readCommand_319 : decode cX8_readCommand 319 = .ok (.iconst 1, 1) := by decide +kernel
theorem dX8_readCommand_320 : decode cX8_readCommand 320 = .ok (.isub, 1) := by decide +kernel
theorem dX8_readCommand_321 : decode cX8_readCommand 321 = .ok (.putfield 127, 3) := by decide +kernel
theorem dX8_readCommand_324 : decode cX8_readCommand 324 = .ok (.iconst 0, 1) := by decide +kernel
theorem dX8_readCommand_325 : decode cX8_readCommand 325 = .ok (.ireturn, 1) := by decide +kernel
theorem dX8_readText_0 : decode cX8_readText 0 = .ok (.aload_n 1, 1) := by decide +kernel
theorem dX8_readText_1 : decode cX8_readText 1 = .ok (.invokestatic 32, 3) := by decide +kernel
theorem dX8_readText_4 : decode cX8_readText 4 = .ok (.aload_n 0, 1) := by decide +kernel
theorem dX8_readText_5 : decode cX8_readText 5 = .ok (.iconst 0, 1) := by decide +kernel
theorem dX8_readText_6 : decode cX8_readText 6 = .ok (.putfield 139, 3) := by decide +kernel
theorem dX8_readText_9 : decode cX8_readText 9 = .ok (.aload_n 0, 1) := by decide +kernel
theorem dX8_readText_10 : decode cX8_readText 10 = .ok (.iconst 0, 1) := by decide +kernel
theorem dX8_readText_11 : decode cX8_readText 11 = .ok (.putfield 127, 3) := by decide +kernel
theorem dX8_readText_14 : decode cX8_readText 14 = .ok (.aload_n 0, 1) := by decide +kernel
theorem dX8_readText_15 : decode cX8_readText 15 = .ok (.iconst 0, 1) := by decide +kernel
theorem dX8_readText_16 : decode cX8_readText 16 = .ok (.invokevirtual 130, 3) := by decide +kernel
theorem dX8_readText_19 : decode cX8_readText 19 = .ok (.bipush 77, 2) := by decide +kernel
theorem dX8_readText_21 : decode cX8_readText 21 = .ok (.if_icmp .eq 5, 3) := by decide +kernel
theorem dX8_readText_24 : decode cX8_readText 24 = .ok (.iconst 0, 1) := by decide +kernel
theorem dX8_readText_25 : decode cX8_readText 25 = .ok (.ireturn, 1) := by decide +kernel
theorem dX8_readText_26 : decode cX8_readText 26 = .ok (.aload_n 0, 1) := by decide +kernel
theorem dX8_readText_27 : decode cX8_readText 27 = .ok (.iconst 1, 1) := by decide +kernel
theorem dX8_readText_28 : decode cX8_readText 28 = .ok (.putfield 127, 3) := by decide +kernel
theorem dX8_readText_31 : decode cX8_readText 31 = .ok (.aload_n 0, 1) := by decide +kernel
theorem dX8_readText_32 : decode cX8_readText 32 = .ok (.getfield 127, 3) := by decide +kernel
theorem dX8_readText_35 : decode cX8_readText 35 = .ok (.aload_n 0, 1) := by decide +kernel
theorem dX8_readText_36 : decode cX8_readText 36 = .ok (.getfield 116, 3) := by decide +kernel
theorem dX8_readText_39 : decode cX8_readText 39 = .ok (.if_icmp .ge 16, 3) := by decide +kernel
theorem dX8_readText_42 : decode cX8_readText 42 = .ok (.aload_n 0, 1) := by decide +kernel
theorem dX8_readText_43 : decode cX8_readText 43 = .ok (.aload_n 1, 1) := by decide +kernel
theorem dX8_readText_44 : decode cX8_readText 44 = .ok (.invokevirtual 168, 3) := by decide +kernel
theorem dX8_readText_47 : decode cX8_readText 47 = .ok (.ifCond .ne (-16), 3) := by decide +kernel
theorem dX8_readText_50 : decode cX8_readText 50 = .ok (.aload_n 0, 1) := by decide +kernel
theorem dX8_readText_51 : decode cX8_readText 51 = .ok (.getfield 127, 3) := by decide +kernel
theorem dX8_readText_54 : decode cX8_readText 54 = .ok (.ireturn, 1) := by decide +kernel
theorem dX8_readText_55 : decode cX8_readText 55 = .ok (.iconst (-1), 1) := by decide +kernel
theorem dX8_readText_56 : decode cX8_readText 56 = .ok (.ireturn, 1) := by decide +kernel
theorem dX8_errorPosition_0 : decode cX8_errorPosition 0 = .ok (.aload_n 0, 1) := by decide +kernel
theorem dX8_errorPosition_1 : decode cX8_errorPosition 1 = .ok (.iconst 0, 1) := by decide +kernel
theorem dX8_errorPosition_2 : decode cX8_errorPosition 2 = .ok (.putfield 36, 3) := by decide +kernel
theorem dX8_errorPosition_5 : decode cX8_errorPosition 5 = .ok (.aload_n 0, 1) := by decide +kernel
theorem dX8_errorPosition_6 : decode cX8_errorPosition 6 = .ok (.aload_n 0, 1) := by decide +kernel
theorem dX8_errorPosition_7 : decode cX8_errorPosition 7 = .ok (.getfield 16, 3) := by decide +kernel
theorem dX8_errorPosition_10 : decode cX8_errorPosition 10 = .ok (.invokevirtual 172, 3) := by decide +kernel
theorem dX8_errorPosition_13 : decode cX8_errorPosition 13 = .ok (.ireturn, 1) := by decide +kernel
theorem dX8_load_0 : decode cX8_load 0 = .ok (.aload_n 0, 1) := by decide +kernel
theorem dX8_load_1 : decode cX8_load 1 = .ok (.aload_n 0, 1) := by decide +kernel
theorem dX8_load_2 : decode cX8_load 2 = .ok (.aload_n 0, 1) := by decide +kernel
theorem dX8_load_3 : decode cX8_load 3 = .ok (.getfield 16, 3) := by decide +kernel
theorem dX8_load_6 : decode cX8_load 6 = .ok (.invokevirtual 172, 3) := by decide +kernel
theorem dX8_load_9 : decode cX8_load 9 = .ok (.iconst (-1), 1) := by decide +kernel
theorem dX8_load_10 : decode cX8_load 10 = .ok (.if_icmp .ne 7, 3) := by decide +kernel
theorem dX8_load_13 : decode cX8_load 13 = .ok (.iconst 0, 1) := by decide +kernel
theorem dX8_load_14 : decode cX8_load 14 = .ok (.goto 4, 3) := by decide +kernel
theorem dX8_load_17 : decode cX8_load 17 = .ok (.iconst 1, 1) := by decide +kernel
theorem dX8_load_18 : decode cX8_load 18 = .ok (.invokevirtual 119, 3) := by decide +kernel
theorem dX8_load_21 : decode cX8_load 21 = .ok (.ifCond .eq 5, 3) := by decide +kernel
theorem dX8_load_24 : decode cX8_load 24 = .ok (.iconst 0, 1) := by decide +kernel
theorem dX8_load_25 : decode cX8_load 25 = .ok (.ireturn, 1) := by decide +kernel
theorem dX8_load_26 : decode cX8_load 26 = .ok (.aload_n 0, 1) := by decide +kernel
theorem dX8_load_27 : decode cX8_load 27 = .ok (.getfield 16, 3) := by decide +kernel
theorem dX8_load_30 : decode cX8_load 30 = .ok (.iconst 0, 1) := by decide +kernel
theorem dX8_load_31 : decode cX8_load 31 = .ok (.aload_n 0, 1) := by decide +kernel
theorem dX8_load_32 : decode cX8_load 32 = .ok (.getfield 13, 3) := by decide +kernel
theorem dX8_load_35 : decode cX8_load 35 = .ok (.iconst 0, 1) := by decide +kernel
theorem dX8_load_36 : decode cX8_load 36 = .ok (.invokestatic 175, 3) := by decide +kernel
theorem dX8_load_39 : decode cX8_load 39 = .ok (.aload_n 0, 1) := by decide +kernel
theorem dX8_load_40 : decode cX8_load 40 = .ok (.iconst 0, 1) := by decide +kernel
theorem dX8_load_41 : decode cX8_load 41 = .ok (.putfield 179, 3) := by decide +kernel
theorem dX8_load_44 : decode cX8_load 44 = .ok (.aload_n 0, 1) := by decide +kernel
theorem dX8_load_45 : decode cX8_load 45 = .ok (.getfield 25, 3) := by decide +kernel
theorem dX8_load_48 : decode cX8_load 48 = .ok (.iconst 0, 1) := by decide +kernel
theorem dX8_load_49 : decode cX8_load 49 = .ok (.iconst 0, 1) := by decide +kernel
theorem dX8_load_50 : decode cX8_load 50 = .ok (.bastore, 1) := by decide +kernel
theorem dX8_load_51 : decode cX8_load 51 = .ok (.aload_n 0, 1) := by decide +kernel
theorem dX8_load_52 : decode cX8_load 52 = .ok (.getfield 25, 3) := by decide +kernel
theorem dX8_load_55 : decode cX8_load 55 = .ok (.iconst 1, 1) := by decide +kernel
theorem dX8_load_56 : decode cX8_load 56 = .ok (.iconst 0, 1) := by decide +kernel
theorem dX8_load_57 : decode cX8_load 57 = .ok (.bastore, 1) := by decide +kernel
theorem dX8_load_58 : decode cX8_load 58 = .ok (.aload_n 0, 1) := by decide +kernel
theorem dX8_load_59 : decode cX8_load 59 = .ok (.getfield 139, 3) := by decide +kernel
theorem dX8_load_62 : decode cX8_load 62 = .ok (.ireturn, 1) := by decide +kernel
theorem dX8_about_0 : decode cX8_about 0 = .ok (.aload_n 0, 1) := by decide +kernel
theorem dX8_about_1 : decode cX8_about 1 = .ok (.iload_n 1, 1) := by decide +kernel
theorem dX8_about_2 : decode cX8_about 2 = .ok (.i2l, 1) := by decide +kernel
theorem dX8_about_3 : decode cX8_about 3 = .ok (.lconst 0, 1) := by decide +kernel
theorem dX8_about_4 : decode cX8_about 4 = .ok (.ldc2_w 182, 3) := by decide +kernel
theorem dX8_about_7 : decode cX8_about 7 = .ok (.invokestatic 40, 3) := by decide +kernel
theorem dX8_about_10 : decode cX8_about 10 = .ok (.ifCond .eq 7, 3) := by decide +kernel
theorem dX8_about_13 : decode cX8_about 13 = .ok (.iconst 0, 1) := by decide +kernel
theorem dX8_about_14 : decode cX8_about 14 = .ok (.goto 4, 3) := by decide +kernel
theorem dX8_about_17 : decode cX8_about 17 = .ok (.iconst 1, 1) := by decide +kernel
theorem dX8_about_18 : decode cX8_about 18 = .ok (.invokevirtual 119, 3) := by decide +kernel
theorem dX8_about_21 : decode cX8_about 21 = .ok (.ifCond .eq 5, 3) := by decide +kernel
theorem dX8_about_24 : decode cX8_about 24 = .ok (.iconst 0, 1) := by decide +kernel
theorem dX8_about_25 : decode cX8_about 25 = .ok (.ireturn, 1) := by decide +kernel
theorem dX8_about_26 : decode cX8_about 26 = .ok (.iload_n 1, 1) := by decide +kernel
theorem dX8_about_27 : decode cX8_about 27 = .ok (.iconst 3, 1) := by decide +kernel
theorem dX8_about_28 : decode cX8_about 28 = .ok (.if_icmp .ge 12, 3) := by decide +kernel
theorem dX8_about_31 : decode cX8_about 31 = .ok (.aload_n 0, 1) := by decide +kernel
theorem dX8_about_32 : decode cX8_about 32 = .ok (.getfield 13, 3) := by decide +kernel
theorem dX8_about_35 : decode cX8_about 35 = .ok (.iload_n 1, 1) := by decide +kernel
theorem dX8_about_36 : decode cX8_about 36 = .ok (.iaload, 1) := by decide +kernel
theorem dX8_about_37 : decode cX8_about 37 = .ok (.goto 26, 3) := by decide +kernel
theorem dX8_about_40 : decode cX8_about 40 = .ok (.iload_n 1, 1) := by decide +kernel
theorem dX8_about_41 : decode cX8_about 41 = .ok (.iconst 3, 1) := by decide +kernel
theorem dX8_about_42 : decode cX8_about 42 = .ok (.if_icmp .ne 13, 3) := by decide +kernel
theorem dX8_about_45 : decode cX8_about 45 = .ok (.aload_n 0, 1) := by decide +kernel
theorem dX8_about_46 : decode cX8_about 46 = .ok (.getfield 13, 3) := by decide +kernel
theorem dX8_about_49 : decode cX8_about 49 = .ok (.invokestatic 51, 3) := by decide +kernel
theorem dX8_about_52 : decode cX8_about 52 = .ok (.goto 11, 3) := by decide +kernel
theorem dX8_about_55 : decode cX8_about 55 = .ok (.aload_n 0, 1) := by decide +kernel
theorem dX8_about_56 : decode cX8_about 56 = .ok (.getfield 13, 3) := by decide +kernel
theorem dX8_about_59 : decode cX8_about 59 = .ok (.iload_n 1, 1) := by decide +kernel
theorem dX8_about_60 : decode cX8_about 60 = .ok (.iconst 1, 1) := by decide +kernel
theorem dX8_about_61 : decode cX8_about 61 = .ok (.isub, 1) := by decide +kernel
theorem dX8_about_62 : decode cX8_about 62 = .ok (.iaload, 1) := by decide +kernel
theorem dX8_about_63 : decode cX8_about 63 = .ok (.ireturn, 1) := by decide +kernel
theorem dX8_room_0 : decode cX8_room 0 = .ok (.aload_n 0, 1) := by decide +kernel
theorem dX8_room_1 : decode cX8_room 1 = .ok (.aload_n 0, 1) := by decide +kernel
theorem dX8_room_2 : decode cX8_room 2 = .ok (.getfield 13, 3) := by decide +kernel
theorem dX8_room_5 : decode cX8_room 5 = .ok (.iload_n 1, 1) := by decide +kernel
theorem dX8_room_6 : decode cX8_room 6 = .ok (.invokestatic 158, 3) := by decide +kernel
theorem dX8_room_9 : decode cX8_room 9 = .ok (.ifCond .ne 7, 3) := by decide +kernel
theorem dX8_room_12 : decode cX8_room 12 = .ok (.iconst 1, 1) := by decide +kernel
theorem dX8_room_13 : decode cX8_room 13 = .ok (.goto 20, 3) := by decide +kernel
theorem dX8_room_16 : decode cX8_room 16 = .ok (.iload_n 2, 1) := by decide +kernel
theorem dX8_room_17 : decode cX8_room 17 = .ok (.i2l, 1) := by decide +kernel
theorem dX8_room_18 : decode cX8_room 18 = .ok (.lconst 0, 1) := by decide +kernel
theorem dX8_room_19 : decode cX8_room 19 = .ok (.ldc2_w 184, 3) := by decide +kernel
theorem dX8_room_22 : decode cX8_room 22 = .ok (.invokestatic 40, 3) := by decide +kernel
theorem dX8_room_25 : decode cX8_room 25 = .ok (.ifCond .eq 7, 3) := by decide +kernel
theorem dX8_room_28 : decode cX8_room 28 = .ok (.iconst 0, 1) := by decide +kernel
theorem dX8_room_29 : decode cX8_room 29 = .ok (.goto 4, 3) := by decide +kernel
theorem dX8_room_32 : decode cX8_room 32 = .ok (.iconst 2, 1) := by decide +kernel
theorem dX8_room_33 : decode cX8_room 33 = .ok (.invokevirtual 119, 3) := by decide +kernel
theorem dX8_room_36 : decode cX8_room 36 = .ok (.ifCond .eq 5, 3) := by decide +kernel
theorem dX8_room_39 : decode cX8_room 39 = .ok (.iconst 0, 1) := by decide +kernel
theorem dX8_room_40 : decode cX8_room 40 = .ok (.ireturn, 1) := by decide +kernel
theorem dX8_room_41 : decode cX8_room 41 = .ok (.aload_n 0, 1) := by decide +kernel
theorem dX8_room_42 : decode cX8_room 42 = .ok (.getfield 13, 3) := by decide +kernel
theorem dX8_room_45 : decode cX8_room 45 = .ok (.iload_n 1, 1) := by decide +kernel
theorem dX8_room_46 : decode cX8_room 46 = .ok (.iload_n 2, 1) := by decide +kernel
theorem dX8_room_47 : decode cX8_room 47 = .ok (.invokestatic 44, 3) := by decide +kernel
theorem dX8_room_50 : decode cX8_room 50 = .ok (.ireturn, 1) := by decide +kernel
theorem dX8_does_0 : decode cX8_does 0 = .ok (.aload_n 0, 1) := by decide +kernel
theorem dX8_does_1 : decode cX8_does 1 = .ok (.aload_n 0, 1) := by decide +kernel
theorem dX8_does_2 : decode cX8_does 2 = .ok (.getfield 13, 3) := by decide +kernel
theorem dX8_does_5 : decode cX8_does 5 = .ok (.iload_n 1, 1) := by decide +kernel
theorem dX8_does_6 : decode cX8_does 6 = .ok (.invokestatic 158, 3) := by decide +kernel
theorem dX8_does_9 : decode cX8_does 9 = .ok (.ifCond .eq 7, 3) := by decide +kernel
theorem dX8_does_12 : decode cX8_does 12 = .ok (.iconst 0, 1) := by decide +kernel
theorem dX8_does_13 : decode cX8_does 13 = .ok (.goto 4, 3) := by decide +kernel
theorem dX8_does_16 : decode cX8_does 16 = .ok (.iconst 1, 1) := by decide +kernel
theorem dX8_does_17 : decode cX8_does 17 = .ok (.invokevirtual 119, 3) := by decide +kernel
theorem dX8_does_20 : decode cX8_does 20 = .ok (.ifCond .eq 5, 3) := by decide +kernel
theorem dX8_does_23 : decode cX8_does 23 = .ok (.iconst 0, 1) := by decide +kernel
theorem dX8_does_24 : decode cX8_does 24 = .ok (.ireturn, 1) := by decide +kernel
theorem dX8_does_25 : decode cX8_does 25 = .ok (.aload_n 0, 1) := by decide +kernel
theorem dX8_does_26 : decode cX8_does 26 = .ok (.aload_n 0, 1) := by decide +kernel
theorem dX8_does_27 : decode cX8_does 27 = .ok (.getfield 13, 3) := by decide +kernel
theorem dX8_does_30 : decode cX8_does 30 = .ok (.invokevirtual 83, 3) := by decide +kernel
theorem dX8_does_33 : decode cX8_does 33 = .ok (.aload_n 0, 1) := by decide +kernel
theorem dX8_does_34 : decode cX8_does 34 = .ok (.getfield 29, 3) := by decide +kernel
theorem dX8_does_37 : decode cX8_does 37 = .ok (.iload_n 1, 1) := by decide +kernel
theorem dX8_does_38 : decode cX8_does 38 = .ok (.iaload, 1) := by decide +kernel
theorem dX8_does_39 : decode cX8_does 39 = .ok (.ireturn, 1) := by decide +kernel
theorem dX8_setting_0 : decode cX8_setting 0 = .ok (.aload_n 0, 1) := by decide +kernel
theorem dX8_setting_1 : decode cX8_setting 1 = .ok (.iload_n 1, 1) := by decide +kernel
theorem dX8_setting_2 : decode cX8_setting 2 = .ok (.i2l, 1) := by decide +kernel
theorem dX8_setting_3 : decode cX8_setting 3 = .ok (.lconst 0, 1) := by decide +kernel
theorem dX8_setting_4 : decode cX8_setting 4 = .ok (.ldc2_w 102, 3) := by decide +kernel
theorem dX8_setting_7 : decode cX8_setting 7 = .ok (.invokestatic 40, 3) := by decide +kernel
theorem dX8_setting_10 : decode cX8_setting 10 = .ok (.ifCond .eq 7, 3) := by decide +kernel
theorem dX8_setting_13 : decode cX8_setting 13 = .ok (.iconst 0, 1) := by decide +kernel
theorem dX8_setting_14 : decode cX8_setting 14 = .ok (.goto 4, 3) := by decide +kernel
theorem dX8_setting_17 : decode cX8_setting 17 = .ok (.iconst 1, 1) := by decide +kernel
theorem dX8_setting_18 : decode cX8_setting 18 = .ok (.invokevirtual 119, 3) := by decide +kernel
theorem dX8_setting_21 : decode cX8_setting 21 = .ok (.ifCond .eq 5, 3) := by decide +kernel
theorem dX8_setting_24 : decode cX8_setting 24 = .ok (.iconst 0, 1) := by decide +kernel
theorem dX8_setting_25 : decode cX8_setting 25 = .ok (.ireturn, 1) := by decide +kernel
theorem dX8_setting_26 : decode cX8_setting 26 = .ok (.aload_n 0, 1) := by decide +kernel
theorem dX8_setting_27 : decode cX8_setting 27 = .ok (.getfield 13, 3) := by decide +kernel
theorem dX8_setting_30 : decode cX8_setting 30 = .ok (.bipush 10, 2) := by decide +kernel
theorem dX8_setting_32 : decode cX8_setting 32 = .ok (.iload_n 1, 1) := by decide +kernel
theorem dX8_setting_33 : decode cX8_setting 33 = .ok (.iadd, 1) := by decide +kernel
theorem dX8_setting_34 : decode cX8_setting 34 = .ok (.iaload, 1) := by decide +kernel
theorem dX8_setting_35 : decode cX8_setting 35 = .ok (.ireturn, 1) := by decide +kernel
theorem dX8_remember_0 : decode cX8_remember 0 = .ok (.aload_n 0, 1) := by decide +kernel
theorem dX8_remember_1 : decode cX8_remember 1 = .ok (.getfield 179, 3) := by decide +kernel
theorem dX8_remember_4 : decode cX8_remember 4 = .ok (.bipush 14, 2) := by decide +kernel
theorem dX8_remember_6 : decode cX8_remember 6 = .ok (.if_icmp .ne 43, 3) := by decide +kernel
theorem dX8_remember_9 : decode cX8_remember 9 = .ok (.iconst 0, 1) := by decide +kernel
theorem dX8_remember_10 : decode cX8_remember 10 = .ok (.istore_n 1, 1) := by decide +kernel
theorem dX8_remember_11 : decode cX8_remember 11 = .ok (.iload_n 1, 1) := by decide +kernel
theorem dX8_remember_12 : decode cX8_remember 12 = .ok (.sipush 832, 3) := by decide +kernel
theorem dX8_remember_15 : decode cX8_remember 15 = .ok (.if_icmp .ge 24, 3) := by decide +kernel
theorem dX8_remember_18 : decode cX8_remember 18 = .ok (.aload_n 0, 1) := by decide +kernel
theorem dX8_remember_19 : decode cX8_remember 19 = .ok (.getfield 19, 3) := by decide +kernel
theorem dX8_remember_22 : decode cX8_remember 22 = .ok (.iload_n 1, 1) := by decide +kernel
theorem dX8_remember_23 : decode cX8_remember 23 = .ok (.aload_n 0, 1) := by decide +kernel
theorem dX8_remember_24 : decode cX8_remember 24 = .ok (.getfield 19, 3) := by decide +kernel
theorem dX8_remember_27 : decode cX8_remember 27 = .ok (.iload_n 1, 1) := by decide +kernel
theorem dX8_remember_28 : decode cX8_remember 28 = .ok (.bipush 64, 2) := by decide +kernel
theorem dX8_remember_30 : decode cX8_remember 30 = .ok (.iadd, 1) := by decide +kernel
theorem dX8_remember_31 : decode cX8_remember 31 = .ok (.iaload, 1) := by decide +kernel
theorem dX8_remember_32 : decode cX8_remember 32 = .ok (.iastore, 1) := by decide +kernel
theorem dX8_remember_33 : decode cX8_remember 33 = .ok (.iinc 1 1, 3) := by decide +kernel
theorem dX8_remember_36 : decode cX8_remember 36 = .ok (.goto (-25), 3) := by decide +kernel
theorem dX8_remember_39 : decode cX8_remember 39 = .ok (.aload_n 0, 1) := by decide +kernel
theorem dX8_remember_40 : decode cX8_remember 40 = .ok (.dup, 1) := by decide +kernel
theorem dX8_remember_41 : decode cX8_remember 41 = .ok (.getfield 179, 3) := by decide +kernel
theorem dX8_remember_44 : decode cX8_remember 44 = .ok (.iconst 1, 1) := by decide +kernel
theorem dX8_remember_45 : decode cX8_remember 45 = .ok (.isub, 1) := by decide +kernel
theorem dX8_remember_46 : decode cX8_remember 46 = .ok (.putfield 179, 3) := by decide +kernel
theorem dX8_remember_49 : decode cX8_remember 49 = .ok (.aload_n 0, 1) := by decide +kernel
theorem dX8_remember_50 : decode cX8_remember 50 = .ok (.getfield 13, 3) := by decide +kernel
theorem dX8_remember_53 : decode cX8_remember 53 = .ok (.iconst 0, 1) := by decide +kernel
theorem dX8_remember_54 : decode cX8_remember 54 = .ok (.aload_n 0, 1) := by decide +kernel
theorem dX8_remember_55 : decode cX8_remember 55 = .ok (.getfield 19, 3) := by decide +kernel
theorem dX8_remember_58 : decode cX8_remember 58 = .ok (.bipush 64, 2) := by decide +kernel
theorem dX8_remember_60 : decode cX8_remember 60 = .ok (.aload_n 0, 1) := by decide +kernel
theorem dX8_remember_61 : decode cX8_remember 61 = .ok (.getfield 179, 3) := by decide +kernel
theorem dX8_remember_64 : decode cX8_remember 64 = .ok (.imul, 1) := by decide +kernel
theorem dX8_remember_65 : decode cX8_remember 65 = .ok (.invokestatic 175, 3) := by decide +kernel
theorem dX8_remember_68 : decode cX8_remember 68 = .ok (.aload_n 0, 1) := by decide +kernel
theorem dX8_remember_69 : decode cX8_remember 69 = .ok (.dup, 1) := by decide +kernel
theorem dX8_remember_70 : decode cX8_remember 70 = .ok (.getfield 179, 3) := by decide +kernel
theorem dX8_remember_73 : decode cX8_remember 73 = .ok (.iconst 1, 1) := by decide +kernel
theorem dX8_remember_74 : decode cX8_remember 74 = .ok (.iadd, 1) := by decide +kernel
theorem dX8_remember_75 : decode cX8_remember 75 = .ok (.putfield 179, 3) := by decide +kernel
theorem dX8_remember_78 : decode cX8_remember 78 = .ok (.return_, 1) := by decide +kernel
theorem dX8_add_0 : decode cX8_add 0 = .ok (.aload_n 0, 1) := by decide +kernel
theorem dX8_add_1 : decode cX8_add 1 = .ok (.iload_n 1, 1) := by decide +kernel
theorem dX8_add_2 : decode cX8_add 2 = .ok (.iload_n 2, 1) := by decide +kernel
theorem dX8_add_3 : decode cX8_add 3 = .ok (.iload_n 3, 1) := by decide +kernel
theorem dX8_add_4 : decode cX8_add 4 = .ok (.invokestatic 146, 3) := by decide +kernel
theorem dX8_add_7 : decode cX8_add 7 = .ok (.ifCond .ne 7, 3) := by decide +kernel
theorem dX8_add_10 : decode cX8_add 10 = .ok (.iconst 1, 1) := by decide +kernel
theorem dX8_add_11 : decode cX8_add 11 = .ok (.goto 19, 3) := by decide +kernel
theorem dX8_add_14 : decode cX8_add 14 = .ok (.aload_n 0, 1) := by decide +kernel
theorem dX8_add_15 : decode cX8_add 15 = .ok (.getfield 13, 3) := by decide +kernel
theorem dX8_add_18 : decode cX8_add 18 = .ok (.iconst 0, 1) := by decide +kernel
theorem dX8_add_19 : decode cX8_add 19 = .ok (.iaload, 1) := by decide +kernel
theorem dX8_add_20 : decode cX8_add 20 = .ok (.bipush 6, 2) := by decide +kernel
theorem dX8_add_22 : decode cX8_add 22 = .ok (.if_icmp .ge 7, 3) := by decide +kernel
theorem dX8_add_25 : decode cX8_add 25 = .ok (.iconst 0, 1) := by decide +kernel
theorem dX8_add_26 : decode cX8_add 26 = .ok (.goto 4, 3) := by decide +kernel
theorem dX8_add_29 : decode cX8_add 29 = .ok (.iconst 2, 1) := by decide +kernel
theorem dX8_add_30 : decode cX8_add 30 = .ok (.invokevirtual 119, 3) := by decide +kernel
theorem dX8_add_33 : decode cX8_add 33 = .ok (.ifCond .eq 5, 3) := by decide +kernel
theorem dX8_add_36 : decode cX8_add 36 = .ok (.iconst 0, 1) := by decide +kernel
theorem dX8_add_37 : decode cX8_add 37 = .ok (.ireturn, 1) := by decide +kernel
theorem dX8_add_38 : decode cX8_add 38 = .ok (.aload_n 0, 1) := by decide +kernel
theorem dX8_add_39 : decode cX8_add 39 = .ok (.invokevirtual 186, 3) := by decide +kernel
theorem dX8_add_42 : decode cX8_add 42 = .ok (.aload_n 0, 1) := by decide +kernel
theorem dX8_add_43 : decode cX8_add 43 = .ok (.getfield 13, 3) := by decide +kernel
theorem dX8_add_46 : decode cX8_add 46 = .ok (.iload_n 1, 1) := by decide +kernel
theorem dX8_add_47 : decode cX8_add 47 = .ok (.iload_n 2, 1) := by decide +kernel
theorem dX8_add_48 : decode cX8_add 48 = .ok (.iload_n 3, 1) := by decide +kernel
theorem dX8_add_49 : decode cX8_add 49 = .ok (.invokestatic 150, 3) := by decide +kernel
theorem dX8_add_52 : decode cX8_add 52 = .ok (.ireturn, 1) := by decide +kernel
theorem dX8_door_0 : decode cX8_door 0 = .ok (.aload_n 0, 1) := by decide +kernel
theorem dX8_door_1 : decode cX8_door 1 = .ok (.aload_n 0, 1) := by decide +kernel
theorem dX8_door_2 : decode cX8_door 2 = .ok (.getfield 13, 3) := by decide +kernel
theorem dX8_door_5 : decode cX8_door 5 = .ok (.iload_n 1, 1) := by decide +kernel
theorem dX8_door_6 : decode cX8_door 6 = .ok (.invokestatic 158, 3) := by decide +kernel
theorem dX8_door_9 : decode cX8_door 9 = .ok (.ifCond .eq 7, 3) := by decide +kernel
theorem dX8_door_12 : decode cX8_door 12 = .ok (.iconst 0, 1) := by decide +kernel
theorem dX8_door_13 : decode cX8_door 13 = .ok (.goto 4, 3) := by decide +kernel
theorem dX8_door_16 : decode cX8_door 16 = .ok (.iconst 1, 1) := by decide +kernel
theorem dX8_door_17 : decode cX8_door 17 = .ok (.invokevirtual 119, 3) := by decide +kernel
theorem dX8_door_20 : decode cX8_door 20 = .ok (.ifCond .eq 5, 3) := by decide +kernel
theorem dX8_door_23 : decode cX8_door 23 = .ok (.iconst 0, 1) := by decide +kernel
theorem dX8_door_24 : decode cX8_door 24 = .ok (.ireturn, 1) := by decide +kernel
theorem dX8_door_25 : decode cX8_door 25 = .ok (.aload_n 0, 1) := by decide +kernel
theorem dX8_door_26 : decode cX8_door 26 = .ok (.invokevirtual 186, 3) := by decide +kernel
theorem dX8_door_29 : decode cX8_door 29 = .ok (.aload_n 0, 1) := by decide +kernel
theorem dX8_door_30 : decode cX8_door 30 = .ok (.getfield 13, 3) := by decide +kernel
theorem dX8_door_33 : decode cX8_door 33 = .ok (.iload_n 1, 1) := by decide +kernel
theorem dX8_door_34 : decode cX8_door 34 = .ok (.iload_n 2, 1) := by decide +kernel
theorem dX8_door_35 : decode cX8_door 35 = .ok (.invokestatic 161, 3) := by decide +kernel
theorem dX8_door_38 : decode cX8_door 38 = .ok (.ireturn, 1) := by decide +kernel
theorem dX8_goods_0 : decode cX8_goods 0 = .ok (.aload_n 0, 1) := by decide +kernel
theorem dX8_goods_1 : decode cX8_goods 1 = .ok (.aload_n 0, 1) := by decide +kernel
theorem dX8_goods_2 : decode cX8_goods 2 = .ok (.getfield 13, 3) := by decide +kernel
theorem dX8_goods_5 : decode cX8_goods 5 = .ok (.iload_n 1, 1) := by decide +kernel
theorem dX8_goods_6 : decode cX8_goods 6 = .ok (.invokestatic 158, 3) := by decide +kernel
theorem dX8_goods_9 : decode cX8_goods 9 = .ok (.ifCond .ne 7, 3) := by decide +kernel
theorem dX8_goods_12 : decode cX8_goods 12 = .ok (.iconst 1, 1) := by decide +kernel
theorem dX8_goods_13 : decode cX8_goods 13 = .ok (.goto 22, 3) := by decide +kernel
theorem dX8_goods_16 : decode cX8_goods 16 = .ok (.iload_n 2, 1) := by decide +kernel
theorem dX8_goods_17 : decode cX8_goods 17 = .ok (.i2l, 1) := by decide +kernel
theorem dX8_goods_18 : decode cX8_goods 18 = .ok (.ldc2_w 189, 3) := by decide +kernel
theorem dX8_goods_21 : decode cX8_goods 21 = .ok (.ldc2_w 191, 3) := by decide +kernel
theorem dX8_goods_24 : decode cX8_goods 24 = .ok (.invokestatic 40, 3) := by decide +kernel
theorem dX8_goods_27 : decode cX8_goods 27 = .ok (.ifCond .eq 7, 3) := by decide +kernel
theorem dX8_goods_30 : decode cX8_goods 30 = .ok (.iconst 0, 1) := by decide +kernel
theorem dX8_goods_31 : decode cX8_goods 31 = .ok (.goto 4, 3) := by decide +kernel
theorem dX8_goods_34 : decode cX8_goods 34 = .ok (.iconst 2, 1) := by decide +kernel
theorem dX8_goods_35 : decode cX8_goods 35 = .ok (.invokevirtual 119, 3) := by decide +kernel
theorem dX8_goods_38 : decode cX8_goods 38 = .ok (.ifCond .eq 5, 3) := by decide +kernel
theorem dX8_goods_41 : decode cX8_goods 41 = .ok (.iconst 0, 1) := by decide +kernel
theorem dX8_goods_42 : decode cX8_goods 42 = .ok (.ireturn, 1) := by decide +kernel
theorem dX8_goods_43 : decode cX8_goods 43 = .ok (.aload_n 0, 1) := by decide +kernel
theorem dX8_goods_44 : decode cX8_goods 44 = .ok (.invokevirtual 186, 3) := by decide +kernel
theorem dX8_goods_47 : decode cX8_goods 47 = .ok (.aload_n 0, 1) := by decide +kernel
theorem dX8_goods_48 : decode cX8_goods 48 = .ok (.getfield 13, 3) := by decide +kernel
theorem dX8_goods_51 : decode cX8_goods 51 = .ok (.iload_n 1, 1) := by decide +kernel
theorem dX8_goods_52 : decode cX8_goods 52 = .ok (.iload_n 2, 1) := by decide +kernel
theorem dX8_goods_53 : decode cX8_goods 53 = .ok (.invokestatic 193, 3) := by decide +kernel
theorem dX8_goods_56 : decode cX8_goods 56 = .ok (.ireturn, 1) := by decide +kernel
theorem dX8_run_0 : decode cX8_run 0 = .ok (.aload_n 0, 1) := by decide +kernel
theorem dX8_run_1 : decode cX8_run 1 = .ok (.iload_n 1, 1) := by decide +kernel
theorem dX8_run_2 : decode cX8_run 2 = .ok (.i2l, 1) := by decide +kernel
theorem dX8_run_3 : decode cX8_run 3 = .ok (.lconst 1, 1) := by decide +kernel
theorem dX8_run_4 : decode cX8_run 4 = .ok (.ldc2_w 196, 3) := by decide +kernel
theorem dX8_run_7 : decode cX8_run 7 = .ok (.invokestatic 40, 3) := by decide +kernel
theorem dX8_run_10 : decode cX8_run 10 = .ok (.ifCond .eq 7, 3) := by decide +kernel
theorem dX8_run_13 : decode cX8_run 13 = .ok (.iconst 0, 1) := by decide +kernel
theorem dX8_run_14 : decode cX8_run 14 = .ok (.goto 4, 3) := by decide +kernel
theorem dX8_run_17 : decode cX8_run 17 = .ok (.iconst 1, 1) := by decide +kernel
theorem dX8_run_18 : decode cX8_run 18 = .ok (.invokevirtual 119, 3) := by decide +kernel
theorem dX8_run_21 : decode cX8_run 21 = .ok (.ifCond .eq 5, 3) := by decide +kernel
theorem dX8_run_24 : decode cX8_run 24 = .ok (.iconst 0, 1) := by decide +kernel
theorem dX8_run_25 : decode cX8_run 25 = .ok (.ireturn, 1) := by decide +kernel
theorem dX8_run_26 : decode cX8_run 26 = .ok (.aload_n 0, 1) := by decide +kernel
theorem dX8_run_27 : decode cX8_run 27 = .ok (.invokevirtual 186, 3) := by decide +kernel
theorem dX8_run_30 : decode cX8_run 30 = .ok (.aload_n 0, 1) := by decide +kernel
theorem dX8_run_31 : decode cX8_run 31 = .ok (.aload_n 0, 1) := by decide +kernel
theorem dX8_run_32 : decode cX8_run 32 = .ok (.getfield 13, 3) := by decide +kernel
theorem dX8_run_35 : decode cX8_run 35 = .ok (.iload_n 1, 1) := by decide +kernel
theorem dX8_run_36 : decode cX8_run 36 = .ok (.invokevirtual 165, 3) := by decide +kernel
theorem dX8_run_39 : decode cX8_run 39 = .ok (.ireturn, 1) := by decide +kernel
theorem dX8_set_0 : decode cX8_set 0 = .ok (.aload_n 0, 1) := by decide +kernel
theorem dX8_set_1 : decode cX8_set 1 = .ok (.iload_n 1, 1) := by decide +kernel
theorem dX8_set_2 : decode cX8_set 2 = .ok (.iload_n 2, 1) := by decide +kernel
theorem dX8_set_3 : decode cX8_set 3 = .ok (.invokestatic 198, 3) := by decide +kernel
theorem dX8_set_6 : decode cX8_set 6 = .ok (.ifCond .eq 7, 3) := by decide +kernel
theorem dX8_set_9 : decode cX8_set 9 = .ok (.iconst 0, 1) := by decide +kernel
theorem dX8_set_10 : decode cX8_set 10 = .ok (.goto 4, 3) := by decide +kernel
theorem dX8_set_13 : decode cX8_set 13 = .ok (.iconst 1, 1) := by decide +kernel
theorem dX8_set_14 : decode cX8_set 14 = .ok (.invokevirtual 119, 3) := by decide +kernel
theorem dX8_set_17 : decode cX8_set 17 = .ok (.ifCond .eq 5, 3) := by decide +kernel
theorem dX8_set_20 : decode cX8_set 20 = .ok (.iconst 0, 1) := by decide +kernel
theorem dX8_set_21 : decode cX8_set 21 = .ok (.ireturn, 1) := by decide +kernel
theorem dX8_set_22 : decode cX8_set 22 = .ok (.aload_n 0, 1) := by decide +kernel
theorem dX8_set_23 : decode cX8_set 23 = .ok (.invokevirtual 186, 3) := by decide +kernel
theorem dX8_set_26 : decode cX8_set 26 = .ok (.aload_n 0, 1) := by decide +kernel
theorem dX8_set_27 : decode cX8_set 27 = .ok (.getfield 13, 3) := by decide +kernel
theorem dX8_set_30 : decode cX8_set 30 = .ok (.bipush 10, 2) := by decide +kernel
theorem dX8_set_32 : decode cX8_set 32 = .ok (.iload_n 1, 1) := by decide +kernel
theorem dX8_set_33 : decode cX8_set 33 = .ok (.iadd, 1) := by decide +kernel
theorem dX8_set_34 : decode cX8_set 34 = .ok (.iaload, 1) := by decide +kernel
theorem dX8_set_35 : decode cX8_set 35 = .ok (.istore_n 3, 1) := by decide +kernel
theorem dX8_set_36 : decode cX8_set 36 = .ok (.aload_n 0, 1) := by decide +kernel
theorem dX8_set_37 : decode cX8_set 37 = .ok (.getfield 13, 3) := by decide +kernel
theorem dX8_set_40 : decode cX8_set 40 = .ok (.bipush 10, 2) := by decide +kernel
theorem dX8_set_42 : decode cX8_set 42 = .ok (.iload_n 1, 1) := by decide +kernel
theorem dX8_set_43 : decode cX8_set 43 = .ok (.iadd, 1) := by decide +kernel
theorem dX8_set_44 : decode cX8_set 44 = .ok (.iload_n 2, 1) := by decide +kernel
theorem dX8_set_45 : decode cX8_set 45 = .ok (.iastore, 1) := by decide +kernel
theorem dX8_set_46 : decode cX8_set 46 = .ok (.iload_n 3, 1) := by decide +kernel
theorem dX8_set_47 : decode cX8_set 47 = .ok (.ireturn, 1) := by decide +kernel
theorem dX8_undo_0 : decode cX8_undo 0 = .ok (.aload_n 0, 1) := by decide +kernel
theorem dX8_undo_1 : decode cX8_undo 1 = .ok (.aload_n 0, 1) := by decide +kernel
theorem dX8_undo_2 : decode cX8_undo 2 = .ok (.getfield 179, 3) := by decide +kernel
theorem dX8_undo_5 : decode cX8_undo 5 = .ok (.ifCond .ne 7, 3) := by decide +kernel
theorem dX8_undo_8 : decode cX8_undo 8 = .ok (.iconst 1, 1) := by decide +kernel
theorem dX8_undo_9 : decode cX8_undo 9 = .ok (.goto 4, 3) := by decide +kernel
theorem dX8_undo_12 : decode cX8_undo 12 = .ok (.iconst 0, 1) := by decide +kernel
theorem dX8_undo_13 : decode cX8_undo 13 = .ok (.invokevirtual 119, 3) := by decide +kernel
theorem dX8_undo_16 : decode cX8_undo 16 = .ok (.ifCond .eq 5, 3) := by decide +kernel
theorem dX8_undo_19 : decode cX8_undo 19 = .ok (.iconst 0, 1) := by decide +kernel
theorem dX8_undo_20 : decode cX8_undo 20 = .ok (.ireturn, 1) := by decide +kernel
theorem dX8_undo_21 : decode cX8_undo 21 = .ok (.aload_n 0, 1) := by decide +kernel
theorem dX8_undo_22 : decode cX8_undo 22 = .ok (.dup, 1) := by decide +kernel
theorem dX8_undo_23 : decode cX8_undo 23 = .ok (.getfield 179, 3) := by decide +kernel
theorem dX8_undo_26 : decode cX8_undo 26 = .ok (.iconst 1, 1) := by decide +kernel
theorem dX8_undo_27 : decode cX8_undo 27 = .ok (.isub, 1) := by decide +kernel
theorem dX8_undo_28 : decode cX8_undo 28 = .ok (.putfield 179, 3) := by decide +kernel
theorem dX8_undo_31 : decode cX8_undo 31 = .ok (.aload_n 0, 1) := by decide +kernel
theorem dX8_undo_32 : decode cX8_undo 32 = .ok (.getfield 19, 3) := by decide +kernel
theorem dX8_undo_35 : decode cX8_undo 35 = .ok (.bipush 64, 2) := by decide +kernel
theorem dX8_undo_37 : decode cX8_undo 37 = .ok (.aload_n 0, 1) := by decide +kernel
theorem dX8_undo_38 : decode cX8_undo 38 = .ok (.getfield 179, 3) := by decide +kernel
theorem dX8_undo_41 : decode cX8_undo 41 = .ok (.imul, 1) := by decide +kernel
theorem dX8_undo_42 : decode cX8_undo 42 = .ok (.aload_n 0, 1) := by decide +kernel
theorem dX8_undo_43 : decode cX8_undo 43 = .ok (.getfield 13, 3) := by decide +kernel
theorem dX8_undo_46 : decode cX8_undo 46 = .ok (.iconst 0, 1) := by decide +kernel
theorem dX8_undo_47 : decode cX8_undo 47 = .ok (.invokestatic 175, 3) := by decide +kernel
theorem dX8_undo_50 : decode cX8_undo 50 = .ok (.aload_n 0, 1) := by decide +kernel
theorem dX8_undo_51 : decode cX8_undo 51 = .ok (.getfield 179, 3) := by decide +kernel
theorem dX8_undo_54 : decode cX8_undo 54 = .ok (.ireturn, 1) := by decide +kernel
theorem dX8_spare_0 : decode cX8_spare 0 = .ok (.aload_n 0, 1) := by decide +kernel
theorem dX8_spare_1 : decode cX8_spare 1 = .ok (.iconst 0, 1) := by decide +kernel
theorem dX8_spare_2 : decode cX8_spare 2 = .ok (.putfield 36, 3) := by decide +kernel
theorem dX8_spare_5 : decode cX8_spare 5 = .ok (.aload_n 0, 1) := by decide +kernel
theorem dX8_spare_6 : decode cX8_spare 6 = .ok (.getfield 13, 3) := by decide +kernel
theorem dX8_spare_9 : decode cX8_spare 9 = .ok (.invokestatic 51, 3) := by decide +kernel
theorem dX8_spare_12 : decode cX8_spare 12 = .ok (.istore_n 1, 1) := by decide +kernel
theorem dX8_spare_13 : decode cX8_spare 13 = .ok (.aload_n 0, 1) := by decide +kernel
theorem dX8_spare_14 : decode cX8_spare 14 = .ok (.getfield 13, 3) := by decide +kernel
theorem dX8_spare_17 : decode cX8_spare 17 = .ok (.bipush 10, 2) := by decide +kernel
theorem dX8_spare_19 : decode cX8_spare 19 = .ok (.iaload, 1) := by decide +kernel
theorem dX8_spare_20 : decode cX8_spare 20 = .ok (.aload_n 0, 1) := by decide +kernel
theorem dX8_spare_21 : decode cX8_spare 21 = .ok (.getfield 13, 3) := by decide +kernel
theorem dX8_spare_24 : decode cX8_spare 24 = .ok (.iconst 2, 1) := by decide +kernel
theorem dX8_spare_25 : decode cX8_spare 25 = .ok (.iaload, 1) := by decide +kernel
theorem dX8_spare_26 : decode cX8_spare 26 = .ok (.isub, 1) := by decide +kernel
theorem dX8_spare_27 : decode cX8_spare 27 = .ok (.aload_n 0, 1) := by decide +kernel
theorem dX8_spare_28 : decode cX8_spare 28 = .ok (.getfield 13, 3) := by decide +kernel
theorem dX8_spare_31 : decode cX8_spare 31 = .ok (.bipush 12, 2) := by decide +kernel
theorem dX8_spare_33 : decode cX8_spare 33 = .ok (.iaload, 1) := by decide +kernel
theorem dX8_spare_34 : decode cX8_spare 34 = .ok (.iload_n 1, 1) := by decide +kernel
theorem dX8_spare_35 : decode cX8_spare 35 = .ok (.imul, 1) := by decide +kernel
theorem dX8_spare_36 : decode cX8_spare 36 = .ok (.isub, 1) := by decide +kernel
theorem dX8_spare_37 : decode cX8_spare 37 = .ok (.istore_n 2, 1) := by decide +kernel
theorem dX8_spare_38 : decode cX8_spare 38 = .ok (.iload_n 2, 1) := by decide +kernel
theorem dX8_spare_39 : decode cX8_spare 39 = .ok (.ifCond .ge 7, 3) := by decide +kernel
theorem dX8_spare_42 : decode cX8_spare 42 = .ok (.iconst (-1), 1) := by decide +kernel
theorem dX8_spare_43 : decode cX8_spare 43 = .ok (.goto 6, 3) := by decide +kernel
theorem dX8_spare_46 : decode cX8_spare 46 = .ok (.iload_n 2, 1) := by decide +kernel
theorem dX8_spare_47 : decode cX8_spare 47 = .ok (.iload_n 1, 1) := by decide +kernel
theorem dX8_spare_48 : decode cX8_spare 48 = .ok (.idiv, 1) := by decide +kernel
theorem dX8_spare_49 : decode cX8_spare 49 = .ok (.ireturn, 1) := by decide +kernel
theorem dX8_warmIn_0 : decode cX8_warmIn 0 = .ok (.aload_n 0, 1) := by decide +kernel
theorem dX8_warmIn_1 : decode cX8_warmIn 1 = .ok (.aload_n 0, 1) := by decide +kernel
theorem dX8_warmIn_2 : decode cX8_warmIn 2 = .ok (.getfield 13, 3) := by decide +kernel
theorem dX8_warmIn_5 : decode cX8_warmIn 5 = .ok (.iload_n 1, 1) := by decide +kernel
theorem dX8_warmIn_6 : decode cX8_warmIn 6 = .ok (.invokestatic 158, 3) := by decide +kernel
theorem dX8_warmIn_9 : decode cX8_warmIn 9 = .ok (.ifCond .eq 7, 3) := by decide +kernel
theorem dX8_warmIn_12 : decode cX8_warmIn 12 = .ok (.iconst 0, 1) := by decide +kernel
theorem dX8_warmIn_13 : decode cX8_warmIn 13 = .ok (.goto 4, 3) := by decide +kernel
theorem dX8_warmIn_16 : decode cX8_warmIn 16 = .ok (.iconst 1, 1) := by decide +kernel
theorem dX8_warmIn_17 : decode cX8_warmIn 17 = .ok (.invokevirtual 119, 3) := by decide +kernel
theorem dX8_warmIn_20 : decode cX8_warmIn 20 = .ok (.ifCond .eq 5, 3) := by decide +kernel
theorem dX8_warmIn_23 : decode cX8_warmIn 23 = .ok (.iconst 0, 1) := by decide +kernel
theorem dX8_warmIn_24 : decode cX8_warmIn 24 = .ok (.ireturn, 1) := by decide +kernel
theorem dX8_warmIn_25 : decode cX8_warmIn 25 = .ok (.aload_n 0, 1) := by decide +kernel
theorem dX8_warmIn_26 : decode cX8_warmIn 26 = .ok (.getfield 13, 3) := by decide +kernel
theorem dX8_warmIn_29 : decode cX8_warmIn 29 = .ok (.iconst 0, 1) := by decide +kernel
theorem dX8_warmIn_30 : decode cX8_warmIn 30 = .ok (.aload_n 0, 1) := by decide +kernel
theorem dX8_warmIn_31 : decode cX8_warmIn 31 = .ok (.getfield 16, 3) := by decide +kernel
theorem dX8_warmIn_34 : decode cX8_warmIn 34 = .ok (.iconst 0, 1) := by decide +kernel
theorem dX8_warmIn_35 : decode cX8_warmIn 35 = .ok (.invokestatic 175, 3) := by decide +kernel
theorem dX8_warmIn_38 : decode cX8_warmIn 38 = .ok (.iconst 0, 1) := by decide +kernel
theorem dX8_warmIn_39 : decode cX8_warmIn 39 = .ok (.istore_n 2, 1) := by decide +kernel
theorem dX8_warmIn_40 : decode cX8_warmIn 40 = .ok (.iload_n 2, 1) := by decide +kernel
theorem dX8_warmIn_41 : decode cX8_warmIn 41 = .ok (.sipush 240, 3) := by decide +kernel
theorem dX8_warmIn_44 : decode cX8_warmIn 44 = .ok (.if_icmp .gt 30, 3) := by decide +kernel
theorem dX8_warmIn_47 : decode cX8_warmIn 47 = .ok (.aload_n 0, 1) := by decide +kernel
theorem dX8_warmIn_48 : decode cX8_warmIn 48 = .ok (.getfield 16, 3) := by decide +kernel
theorem dX8_warmIn_51 : decode cX8_warmIn 51 = .ok (.iload_n 1, 1) := by decide +kernel
theorem dX8_warmIn_52 : decode cX8_warmIn 52 = .ok (.invokestatic 55, 3) := by decide +kernel
theorem dX8_warmIn_55 : decode cX8_warmIn 55 = .ok (.ifCond .eq 5, 3) := by decide +kernel
theorem dX8_warmIn_58 : decode cX8_warmIn 58 = .ok (.iload_n 2, 1) := by decide +kernel
theorem dX8_warmIn_59 : decode cX8_warmIn 59 = .ok (.ireturn, 1) := by decide +kernel
theorem dX8_warmIn_60 : decode cX8_warmIn 60 = .ok (.aload_n 0, 1) := by decide +kernel
theorem dX8_warmIn_61 : decode cX8_warmIn 61 = .ok (.aload_n 0, 1) := by decide +kernel
theorem dX8_warmIn_62 : decode cX8_warmIn 62 = .ok (.getfield 16, 3) := by decide +kernel
theorem dX8_warmIn_65 : decode cX8_warmIn 65 = .ok (.invokevirtual 93, 3) := by decide +kernel
theorem dX8_warmIn_68 : decode cX8_warmIn 68 = .ok (.iinc 2 1, 3) := by decide +kernel
theorem dX8_warmIn_71 : decode cX8_warmIn 71 = .ok (.goto (-31), 3) := by decide +kernel
theorem dX8_warmIn_74 : decode cX8_warmIn 74 = .ok (.iconst (-1), 1) := by decide +kernel
theorem dX8_warmIn_75 : decode cX8_warmIn 75 = .ok (.ireturn, 1) := by decide +kernel
theorem dX8_warmest_0 : decode cX8_warmest 0 = .ok (.iconst (-1), 1) := by decide +kernel
theorem dX8_warmest_1 : decode cX8_warmest 1 = .ok (.istore_n 1, 1) := by decide +kernel
theorem dX8_warmest_2 : decode cX8_warmest 2 = .ok (.iconst 0, 1) := by decide +kernel
theorem dX8_warmest_3 : decode cX8_warmest 3 = .ok (.istore_n 2, 1) := by decide +kernel
theorem dX8_warmest_4 : decode cX8_warmest 4 = .ok (.iload_n 2, 1) := by decide +kernel
theorem dX8_warmest_5 : decode cX8_warmest 5 = .ok (.aload_n 0, 1) := by decide +kernel
theorem dX8_warmest_6 : decode cX8_warmest 6 = .ok (.iconst 0, 1) := by decide +kernel
theorem dX8_warmest_7 : decode cX8_warmest 7 = .ok (.iaload, 1) := by decide +kernel
theorem dX8_warmest_8 : decode cX8_warmest 8 = .ok (.if_icmp .ge 56, 3) := by decide +kernel
theorem dX8_warmest_11 : decode cX8_warmest 11 = .ok (.iload_n 1, 1) := by decide +kernel
theorem dX8_warmest_12 : decode cX8_warmest 12 = .ok (.iconst (-1), 1) := by decide +kernel
theorem dX8_warmest_13 : decode cX8_warmest 13 = .ok (.if_icmp .ne 7, 3) := by decide +kernel
theorem dX8_warmest_16 : decode cX8_warmest 16 = .ok (.iconst 1, 1) := by decide +kernel
theorem dX8_warmest_17 : decode cX8_warmest 17 = .ok (.goto 30, 3) := by decide +kernel
theorem dX8_warmest_20 : decode cX8_warmest 20 = .ok (.aload_n 0, 1) := by decide +kernel
theorem dX8_warmest_21 : decode cX8_warmest 21 = .ok (.iload_n 2, 1) := by decide +kernel
theorem dX8_warmest_22 : decode cX8_warmest 22 = .ok (.iconst 3, 1) := by decide +kernel
theorem dX8_warmest_23 : decode cX8_warmest 23 = .ok (.invokestatic 44, 3) := by decide +kernel
theorem dX8_warmest_26 : decode cX8_warmest 26 = .ok (.aload_n 0, 1) := by decide +kernel
theorem dX8_warmest_27 : decode cX8_warmest 27 = .ok (.iload_n 2, 1) := by decide +kernel
theorem dX8_warmest_28 : decode cX8_warmest 28 = .ok (.iconst 2, 1) := by decide +kernel
theorem dX8_warmest_29 : decode cX8_warmest 29 = .ok (.invokestatic 44, 3) := by decide +kernel
theorem dX8_warmest_32 : decode cX8_warmest 32 = .ok (.isub, 1) := by decide +kernel
theorem dX8_warmest_33 : decode cX8_warmest 33 = .ok (.aload_n 0, 1) := by decide +kernel
theorem dX8_warmest_34 : decode cX8_warmest 34 = .ok (.iload_n 1, 1) := by decide +kernel
theorem dX8_warmest_35 : decode cX8_warmest 35 = .ok (.iconst 3, 1) := by decide +kernel
theorem dX8_warmest_36 : decode cX8_warmest 36 = .ok (.invokestatic 44, 3) := by decide +kernel
theorem dX8_warmest_39 : decode cX8_warmest 39 = .ok (.isub, 1) := by decide +kernel
theorem dX8_warmest_40 : decode cX8_warmest 40 = .ok (.aload_n 0, 1) := by decide +kernel
theorem dX8_warmest_41 : decode cX8_warmest 41 = .ok (.iload_n 1, 1) := by decide +kernel
theorem dX8_warmest_42 : decode cX8_warmest 42 = .ok (.iconst 2, 1) := by decide +kernel
theorem dX8_warmest_43 : decode cX8_warmest 43 = .ok (.invokestatic 44, 3) := by decide +kernel
theorem dX8_warmest_46 : decode cX8_warmest 46 = .ok (.iadd, 1) := by decide +kernel
theorem dX8_warmest_47 : decode cX8_warmest 47 = .ok (.istore_n 3, 1) := by decide +kernel
theorem dX8_warmest_48 : decode cX8_warmest 48 = .ok (.iload_n 3, 1) := by decide +kernel
theorem dX8_warmest_49 : decode cX8_warmest 49 = .ok (.ifCond .le 7, 3) := by decide +kernel
theorem dX8_warmest_52 : decode cX8_warmest 52 = .ok (.iload_n 2, 1) := by decide +kernel
theorem dX8_warmest_53 : decode cX8_warmest 53 = .ok (.goto 4, 3) := by decide +kernel
theorem dX8_warmest_56 : decode cX8_warmest 56 = .ok (.iload_n 1, 1) := by decide +kernel
theorem dX8_warmest_57 : decode cX8_warmest 57 = .ok (.istore_n 1, 1) := by decide +kernel
theorem dX8_warmest_58 : decode cX8_warmest 58 = .ok (.iinc 2 1, 3) := by decide +kernel
theorem dX8_warmest_61 : decode cX8_warmest 61 = .ok (.goto (-57), 3) := by decide +kernel
theorem dX8_warmest_64 : decode cX8_warmest 64 = .ok (.iload_n 1, 1) := by decide +kernel
theorem dX8_warmest_65 : decode cX8_warmest 65 = .ok (.ireturn, 1) := by decide +kernel
theorem dX8_coming_0 : decode cX8_coming 0 = .ok (.aload_n 0, 1) := by decide +kernel
theorem dX8_coming_1 : decode cX8_coming 1 = .ok (.iload_n 1, 1) := by decide +kernel
theorem dX8_coming_2 : decode cX8_coming 2 = .ok (.i2l, 1) := by decide +kernel
theorem dX8_coming_3 : decode cX8_coming 3 = .ok (.lconst 1, 1) := by decide +kernel
theorem dX8_coming_4 : decode cX8_coming 4 = .ok (.ldc2_w 202, 3) := by decide +kernel
theorem dX8_coming_7 : decode cX8_coming 7 = .ok (.invokestatic 40, 3) := by decide +kernel
theorem dX8_coming_10 : decode cX8_coming 10 = .ok (.ifCond .eq 19, 3) := by decide +kernel
theorem dX8_coming_13 : decode cX8_coming 13 = .ok (.iload_n 2, 1) := by decide +kernel
theorem dX8_coming_14 : decode cX8_coming 14 = .ok (.i2l, 1) := by decide +kernel
theorem dX8_coming_15 : decode cX8_coming 15 = .ok (.lconst 0, 1) := by decide +kernel
theorem dX8_coming_16 : decode cX8_coming 16 = .ok (.ldc2_w 204, 3) := by decide +kernel
theorem dX8_coming_19 : decode cX8_coming 19 = .ok (.invokestatic 40, 3) := by decide +kernel
theorem dX8_coming_22 : decode cX8_coming 22 = .ok (.ifCond .eq 7, 3) := by decide +kernel
theorem dX8_coming_25 : decode cX8_coming 25 = .ok (.iconst 0, 1) := by decide +kernel
theorem dX8_coming_26 : decode cX8_coming 26 = .ok (.goto 4, 3) := by decide +kernel
theorem dX8_coming_29 : decode cX8_coming 29 = .ok (.iconst 1, 1) := by decide +kernel
theorem dX8_coming_30 : decode cX8_coming 30 = .ok (.invokevirtual 119, 3) := by decide +kernel
theorem dX8_coming_33 : decode cX8_coming 33 = .ok (.ifCond .eq 5, 3) := by decide +kernel
theorem dX8_coming_36 : decode cX8_coming 36 = .ok (.iconst 0, 1) := by decide +kernel
theorem dX8_coming_37 : decode cX8_coming 37 = .ok (.ireturn, 1) := by decide +kernel
theorem dX8_coming_38 : decode cX8_coming 38 = .ok (.aload_n 0, 1) := by decide +kernel
theorem dX8_coming_39 : decode cX8_coming 39 = .ok (.getfield 13, 3) := by decide +kernel
theorem dX8_coming_42 : decode cX8_coming 42 = .ok (.iconst 0, 1) := by decide +kernel
theorem dX8_coming_43 : decode cX8_coming 43 = .ok (.aload_n 0, 1) := by decide +kernel
theorem dX8_coming_44 : decode cX8_coming 44 = .ok (.getfield 16, 3) := by decide +kernel
theorem dX8_coming_47 : decode cX8_coming 47 = .ok (.iconst 0, 1) := by decide +kernel
theorem dX8_coming_48 : decode cX8_coming 48 = .ok (.invokestatic 175, 3) := by decide +kernel
theorem dX8_coming_51 : decode cX8_coming 51 = .ok (.aload_n 0, 1) := by decide +kernel
theorem dX8_coming_52 : decode cX8_coming 52 = .ok (.aload_n 0, 1) := by decide +kernel
theorem dX8_coming_53 : decode cX8_coming 53 = .ok (.getfield 16, 3) := by decide +kernel
theorem dX8_coming_56 : decode cX8_coming 56 = .ok (.iload_n 1, 1) := by decide +kernel
theorem dX8_coming_57 : decode cX8_coming 57 = .ok (.invokevirtual 165, 3) := by decide +kernel
theorem dX8_coming_60 : decode cX8_coming 60 = .ok (.istore_n 3, 1) := by decide +kernel
theorem dX8_coming_61 : decode cX8_coming 61 = .ok (.iload_n 2, 1) := by decide +kernel
theorem dX8_coming_62 : decode cX8_coming 62 = .ok (.tableswitch 78 0 3 #[30, 32, 46, 62], 30) := by decide +kernel
theorem dX8_coming_92 : decode cX8_coming 92 = .ok (.iload_n 3, 1) := by decide +kernel
theorem dX8_coming_93 : decode cX8_coming 93 = .ok (.ireturn, 1) := by decide +kernel
theorem dX8_coming_94 : decode cX8_coming 94 = .ok (.aload_n 0, 1) := by decide +kernel
theorem dX8_coming_95 : decode cX8_coming 95 = .ok (.getfield 16, 3) := by decide +kernel
theorem dX8_coming_98 : decode cX8_coming 98 = .ok (.iconst 3, 1) := by decide +kernel
theorem dX8_coming_99 : decode cX8_coming 99 = .ok (.iaload, 1) := by decide +kernel
theorem dX8_coming_100 : decode cX8_coming 100 = .ok (.aload_n 0, 1) := by decide +kernel
theorem dX8_coming_101 : decode cX8_coming 101 = .ok (.getfield 13, 3) := by decide +kernel
theorem dX8_coming_104 : decode cX8_coming 104 = .ok (.iconst 3, 1) := by decide +kernel
theorem dX8_coming_105 : decode cX8_coming 105 = .ok (.iaload, 1) := by decide +kernel
theorem dX8_coming_106 : decode cX8_coming 106 = .ok (.isub, 1) := by decide +kernel
theorem dX8_coming_107 : decode cX8_coming 107 = .ok (.ireturn, 1) := by decide +kernel
theorem dX8_coming_108 : decode cX8_coming 108 = .ok (.aload_n 0, 1) := by decide +kernel
theorem dX8_coming_109 : decode cX8_coming 109 = .ok (.getfield 16, 3) := by decide +kernel
theorem dX8_coming_112 : decode cX8_coming 112 = .ok (.bipush 6, 2) := by decide +kernel
theorem dX8_coming_114 : decode cX8_coming 114 = .ok (.iaload, 1) := by decide +kernel
theorem dX8_coming_115 : decode cX8_coming 115 = .ok (.aload_n 0, 1) := by decide +kernel
theorem dX8_coming_116 : decode cX8_coming 116 = .ok (.getfield 13, 3) := by decide +kernel
theorem dX8_coming_119 : decode cX8_coming 119 = .ok (.bipush 6, 2) := by decide +kernel
theorem dX8_coming_121 : decode cX8_coming 121 = .ok (.iaload, 1) := by decide +kernel
theorem dX8_coming_122 : decode cX8_coming 122 = .ok (.isub, 1) := by decide +kernel
theorem dX8_coming_123 : decode cX8_coming 123 = .ok (.ireturn, 1) := by decide +kernel
theorem dX8_coming_124 : decode cX8_coming 124 = .ok (.aload_n 0, 1) := by decide +kernel
theorem dX8_coming_125 : decode cX8_coming 125 = .ok (.getfield 16, 3) := by decide +kernel
theorem dX8_coming_128 : decode cX8_coming 128 = .ok (.bipush 7, 2) := by decide +kernel
theorem dX8_coming_130 : decode cX8_coming 130 = .ok (.iaload, 1) := by decide +kernel
theorem dX8_coming_131 : decode cX8_coming 131 = .ok (.aload_n 0, 1) := by decide +kernel
theorem dX8_coming_132 : decode cX8_coming 132 = .ok (.getfield 13, 3) := by decide +kernel
theorem dX8_coming_135 : decode cX8_coming 135 = .ok (.bipush 7, 2) := by decide +kernel
theorem dX8_coming_137 : decode cX8_coming 137 = .ok (.iaload, 1) := by decide +kernel
theorem dX8_coming_138 : decode cX8_coming 138 = .ok (.isub, 1) := by decide +kernel
theorem dX8_coming_139 : decode cX8_coming 139 = .ok (.ireturn, 1) := by decide +kernel
theorem dX8_coming_140 : decode cX8_coming 140 = .ok (.aload_n 0, 1) := by decide +kernel
theorem dX8_coming_141 : decode cX8_coming 141 = .ok (.getfield 16, 3) := by decide +kernel
theorem dX8_coming_144 : decode cX8_coming 144 = .ok (.invokestatic 206, 3) := by decide +kernel
theorem dX8_coming_147 : decode cX8_coming 147 = .ok (.ireturn, 1) := by decide +kernel
theorem dX8_leastLimit_0 : decode cX8_leastLimit 0 = .ok (.aload_n 0, 1) := by decide +kernel
theorem dX8_leastLimit_1 : decode cX8_leastLimit 1 = .ok (.iload_n 1, 1) := by decide +kernel
theorem dX8_leastLimit_2 : decode cX8_leastLimit 2 = .ok (.i2l, 1) := by decide +kernel
theorem dX8_leastLimit_3 : decode cX8_leastLimit 3 = .ok (.lconst 1, 1) := by decide +kernel
theorem dX8_leastLimit_4 : decode cX8_leastLimit 4 = .ok (.ldc2_w 196, 3) := by decide +kernel
theorem dX8_leastLimit_7 : decode cX8_leastLimit 7 = .ok (.invokestatic 40, 3) := by decide +kernel
theorem dX8_leastLimit_10 : decode cX8_leastLimit 10 = .ok (.ifCond .eq 7, 3) := by decide +kernel
theorem dX8_leastLimit_13 : decode cX8_leastLimit 13 = .ok (.iconst 0, 1) := by decide +kernel
theorem dX8_leastLimit_14 : decode cX8_leastLimit 14 = .ok (.goto 4, 3) := by decide +kernel
theorem dX8_leastLimit_17 : decode cX8_leastLimit 17 = .ok (.iconst 1, 1) := by decide +kernel
theorem dX8_leastLimit_18 : decode cX8_leastLimit 18 = .ok (.invokevirtual 119, 3) := by decide +kernel
theorem dX8_leastLimit_21 : decode cX8_leastLimit 21 = .ok (.ifCond .eq 5, 3) := by decide +kernel
theorem dX8_leastLimit_24 : decode cX8_leastLimit 24 = .ok (.iconst 0, 1) := by decide +kernel
theorem dX8_leastLimit_25 : decode cX8_leastLimit 25 = .ok (.ireturn, 1) := by decide +kernel
theorem dX8_leastLimit_26 : decode cX8_leastLimit 26 = .ok (.iconst 0, 1) := by decide +kernel
theorem dX8_leastLimit_27 : decode cX8_leastLimit 27 = .ok (.istore_n 2, 1) := by decide +kernel
theorem dX8_leastLimit_28 : decode cX8_leastLimit 28 = .ok (.iload_n 2, 1) := by decide +kernel
theorem dX8_leastLimit_29 : decode cX8_leastLimit 29 = .ok (.sipush 9999, 3) := by decide +kernel
theorem dX8_leastLimit_32 : decode cX8_leastLimit 32 = .ok (.if_icmp .ge 57, 3) := by decide +kernel
theorem dX8_leastLimit_35 : decode cX8_leastLimit 35 = .ok (.aload_n 0, 1) := by decide +kernel
theorem dX8_leastLimit_36 : decode cX8_leastLimit 36 = .ok (.getfield 13, 3) := by decide +kernel
theorem dX8_leastLimit_39 : decode cX8_leastLimit 39 = .ok (.iconst 0, 1) := by decide +kernel
theorem dX8_leastLimit_40 : decode cX8_leastLimit 40 = .ok (.aload_n 0, 1) := by decide +kernel
theorem dX8_leastLimit_41 : decode cX8_leastLimit 41 = .ok (.getfield 16, 3) := by decide +kernel
theorem dX8_leastLimit_44 : decode cX8_leastLimit 44 = .ok (.iconst 0, 1) := by decide +kernel
theorem dX8_leastLimit_45 : decode cX8_leastLimit 45 = .ok (.invokestatic 175, 3) := by decide +kernel
theorem dX8_leastLimit_48 : decode cX8_leastLimit 48 = .ok (.aload_n 0, 1) := by decide +kernel
theorem dX8_leastLimit_49 : decode cX8_leastLimit 49 = .ok (.getfield 16, 3) := by decide +kernel
theorem dX8_leastLimit_52 : decode cX8_leastLimit 52 = .ok (.bipush 10, 2) := by decide +kernel
theorem dX8_leastLimit_54 : decode cX8_leastLimit 54 = .ok (.iload_n 2, 1) := by decide +kernel
theorem dX8_leastLimit_55 : decode cX8_leastLimit 55 = .ok (.iastore, 1) := by decide +kernel
theorem dX8_leastLimit_56 : decode cX8_leastLimit 56 = .ok (.aload_n 0, 1) := by decide +kernel
theorem dX8_leastLimit_57 : decode cX8_leastLimit 57 = .ok (.aload_n 0, 1) := by decide +kernel
theorem dX8_leastLimit_58 : decode cX8_leastLimit 58 = .ok (.getfield 16, 3) := by decide +kernel
theorem dX8_leastLimit_61 : decode cX8_leastLimit 61 = .ok (.iload_n 1, 1) := by decide +kernel
theorem dX8_leastLimit_62 : decode cX8_leastLimit 62 = .ok (.invokevirtual 165, 3) := by decide +kernel
theorem dX8_leastLimit_65 : decode cX8_leastLimit 65 = .ok (.pop, 1) := by decide +kernel
theorem dX8_leastLimit_66 : decode cX8_leastLimit 66 = .ok (.aload_n 0, 1) := by decide +kernel
theorem dX8_leastLimit_67 : decode cX8_leastLimit 67 = .ok (.getfield 16, 3) := by decide +kernel
theorem dX8_leastLimit_70 : decode cX8_leastLimit 70 = .ok (.iconst 3, 1) := by decide +kernel
theorem dX8_leastLimit_71 : decode cX8_leastLimit 71 = .ok (.iaload, 1) := by decide +kernel
theorem dX8_leastLimit_72 : decode cX8_leastLimit 72 = .ok (.aload_n 0, 1) := by decide +kernel
theorem dX8_leastLimit_73 : decode cX8_leastLimit 73 = .ok (.getfield 13, 3) := by decide +kernel
theorem dX8_leastLimit_76 : decode cX8_leastLimit 76 = .ok (.iconst 3, 1) := by decide +kernel
theorem dX8_leastLimit_77 : decode cX8_leastLimit 77 = .ok (.iaload, 1) := by decide +kernel
theorem dX8_leastLimit_78 : decode cX8_leastLimit 78 = .ok (.if_icmp .ne 5, 3) := by decide +kernel
theorem dX8_leastLimit_81 : decode cX8_leastLimit 81 = .ok (.iload_n 2, 1) := by decide +kernel
theorem dX8_leastLimit_82 : decode cX8_leastLimit 82 = .ok (.ireturn, 1) := by decide +kernel
theorem dX8_leastLimit_83 : decode cX8_leastLimit 83 = .ok (.iinc 2 100, 3) := by decide +kernel
theorem dX8_leastLimit_86 : decode cX8_leastLimit 86 = .ok (.goto (-58), 3) := by decide +kernel
theorem dX8_leastLimit_89 : decode cX8_leastLimit 89 = .ok (.iconst (-1), 1) := by decide +kernel
theorem dX8_leastLimit_90 : decode cX8_leastLimit 90 = .ok (.ireturn, 1) := by decide +kernel
theorem dX8_bestShut_0 : decode cX8_bestShut 0 = .ok (.aload_n 0, 1) := by decide +kernel
theorem dX8_bestShut_1 : decode cX8_bestShut 1 = .ok (.iconst 0, 1) := by decide +kernel
theorem dX8_bestShut_2 : decode cX8_bestShut 2 = .ok (.putfield 36, 3) := by decide +kernel
theorem dX8_bestShut_5 : decode cX8_bestShut 5 = .ok (.iconst (-1), 1) := by decide +kernel
theorem dX8_bestShut_6 : decode cX8_bestShut 6 = .ok (.istore_n 1, 1) := by decide +kernel
theorem dX8_bestShut_7 : decode cX8_bestShut 7 = .ok (.iconst 0, 1) := by decide +kernel
theorem dX8_bestShut_8 : decode cX8_bestShut 8 = .ok (.istore_n 2, 1) := by decide +kernel
theorem dX8_bestShut_9 : decode cX8_bestShut 9 = .ok (.iconst 0, 1) := by decide +kernel
theorem dX8_bestShut_10 : decode cX8_bestShut 10 = .ok (.istore_n 3, 1) := by decide +kernel
theorem dX8_bestShut_11 : decode cX8_bestShut 11 = .ok (.iload_n 3, 1) := by decide +kernel
theorem dX8_bestShut_12 : decode cX8_bestShut 12 = .ok (.aload_n 0, 1) := by decide +kernel
theorem dX8_bestShut_13 : decode cX8_bestShut 13 = .ok (.getfield 13, 3) := by decide +kernel
theorem dX8_bestShut_16 : decode cX8_bestShut 16 = .ok (.iconst 0, 1) := by decide +kernel
theorem dX8_bestShut_17 : decode cX8_bestShut 17 = .ok (.iaload, 1) := by decide +kernel
theorem dX8_bestShut_18 : decode cX8_bestShut 18 = .ok (.if_icmp .ge 118, 3) := by decide +kernel
theorem dX8_bestShut_21 : decode cX8_bestShut 21 = .ok (.aload_n 0, 1) := by decide +kernel
theorem dX8_bestShut_22 : decode cX8_bestShut 22 = .ok (.getfield 13, 3) := by decide +kernel
theorem dX8_bestShut_25 : decode cX8_bestShut 25 = .ok (.iload_n 3, 1) := by decide +kernel
theorem dX8_bestShut_26 : decode cX8_bestShut 26 = .ok (.iconst 4, 1) := by decide +kernel
theorem dX8_bestShut_27 : decode cX8_bestShut 27 = .ok (.invokestatic 44, 3) := by decide +kernel
theorem dX8_bestShut_30 : decode cX8_bestShut 30 = .ok (.iconst 1, 1) := by decide +kernel
theorem dX8_bestShut_31 : decode cX8_bestShut 31 = .ok (.if_icmp .ne 99, 3) := by decide +kernel
theorem dX8_bestShut_34 : decode cX8_bestShut 34 = .ok (.aload_n 0, 1) := by decide +kernel
theorem dX8_bestShut_35 : decode cX8_bestShut 35 = .ok (.getfield 13, 3) := by decide +kernel
theorem dX8_bestShut_38 : decode cX8_bestShut 38 = .ok (.iconst 0, 1) := by decide +kernel
theorem dX8_bestShut_39 : decode cX8_bestShut 39 = .ok (.aload_n 0, 1) := by decide +kernel
theorem dX8_bestShut_40 : decode cX8_bestShut 40 = .ok (.getfield 16, 3) := by decide +kernel
theorem dX8_bestShut_43 : decode cX8_bestShut 43 = .ok (.iconst 0, 1) := by decide +kernel
theorem dX8_bestShut_44 : decode cX8_bestShut 44 = .ok (.invokestatic 175, 3) := by decide +kernel
theorem dX8_bestShut_47 : decode cX8_bestShut 47 = .ok (.aload_n 0, 1) := by decide +kernel
theorem dX8_bestShut_48 : decode cX8_bestShut 48 = .ok (.getfield 16, 3) := by decide +kernel
theorem dX8_bestShut_51 : decode cX8_bestShut 51 = .ok (.iload_n 3, 1) := by decide +kernel
theorem dX8_bestShut_52 : decode cX8_bestShut 52 = .ok (.iconst 4, 1) := by decide +kernel
theorem dX8_bestShut_53 : decode cX8_bestShut 53 = .ok (.iconst 0, 1) := by decide +kernel
theorem dX8_bestShut_54 : decode cX8_bestShut 54 = .ok (.invokestatic 79, 3) := by decide +kernel
theorem dX8_bestShut_57 : decode cX8_bestShut 57 = .ok (.aload_n 0, 1) := by decide +kernel
theorem dX8_bestShut_58 : decode cX8_bestShut 58 = .ok (.aload_n 0, 1) := by decide +kernel
theorem dX8_bestShut_59 : decode cX8_bestShut 59 = .ok (.getfield 16, 3) := by decide +kernel
theorem dX8_bestShut_62 : decode cX8_bestShut 62 = .ok (.bipush 15, 2) := by decide +kernel
theorem dX8_bestShut_64 : decode cX8_bestShut 64 = .ok (.invokevirtual 165, 3) := by decide +kernel
theorem dX8_bestShut_67 : decode cX8_bestShut 67 = .ok (.pop, 1) := by decide +kernel
theorem dX8_bestShut_68 : decode cX8_bestShut 68 = .ok (.aload_n 0, 1) := by decide +kernel
theorem dX8_bestShut_69 : decode cX8_bestShut 69 = .ok (.getfield 16, 3) := by decide +kernel
theorem dX8_bestShut_72 : decode cX8_bestShut 72 = .ok (.iload_n 3, 1) := by decide +kernel
theorem dX8_bestShut_73 : decode cX8_bestShut 73 = .ok (.iconst 3, 1) := by decide +kernel
theorem dX8_bestShut_74 : decode cX8_bestShut 74 = .ok (.invokestatic 44, 3) := by decide +kernel
theorem dX8_bestShut_77 : decode cX8_bestShut 77 = .ok (.aload_n 0, 1) := by decide +kernel
theorem dX8_bestShut_78 : decode cX8_bestShut 78 = .ok (.getfield 16, 3) := by decide +kernel
theorem dX8_bestShut_81 : decode cX8_bestShut 81 = .ok (.iload_n 3, 1) := by decide +kernel
theorem dX8_bestShut_82 : decode cX8_bestShut 82 = .ok (.iconst 2, 1) := by decide +kernel
theorem dX8_bestShut_83 : decode cX8_bestShut 83 = .ok (.invokestatic 44, 3) := by decide +kernel
theorem dX8_bestShut_86 : decode cX8_bestShut 86 = .ok (.isub, 1) := by decide +kernel
theorem dX8_bestShut_87 : decode cX8_bestShut 87 = .ok (.istore 4, 2) := by decide +kernel
theorem dX8_bestShut_89 : decode cX8_bestShut 89 = .ok (.iload_n 1, 1) := by decide +kernel
theorem dX8_bestShut_90 : decode cX8_bestShut 90 = .ok (.iconst (-1), 1) := by decide +kernel
theorem dX8_bestShut_91 : decode cX8_bestShut 91 = .ok (.if_icmp .eq 9, 3) := by decide +kernel
theorem dX8_bestShut_94 : decode cX8_bestShut 94 = .ok (.iload 4, 2) := by decide +kernel
theorem dX8_bestShut_96 : decode cX8_bestShut 96 = .ok (.iload_n 2, 1) := by decide +kernel
theorem dX8_bestShut_97 : decode cX8_bestShut 97 = .ok (.if_icmp .ge 7, 3) := by decide +kernel
theorem dX8_bestShut_100 : decode cX8_bestShut 100 = .ok (.iconst 1, 1) := by decide +kernel
theorem dX8_bestShut_101 : decode cX8_bestShut 101 = .ok (.goto 4, 3) := by decide +kernel
theorem dX8_bestShut_104 : decode cX8_bestShut 104 = .ok (.iconst 0, 1) := by decide +kernel
theorem dX8_bestShut_105 : decode cX8_bestShut 105 = .ok (.istore 5, 2) := by decide +kernel
theorem dX8_bestShut_107 : decode cX8_bestShut 107 = .ok (.iload 5, 2) := by decide +kernel
theorem dX8_bestShut_109 : decode cX8_bestShut 109 = .ok (.ifCond .eq 7, 3) := by decide +kernel
theorem dX8_bestShut_112 : decode cX8_bestShut 112 = .ok (.iload_n 3, 1) := by decide +kernel
theorem dX8_bestShut_113 : decode cX8_bestShut 113 = .ok (.goto 4, 3) := by decide +kernel
theorem dX8_bestShut_116 : decode cX8_bestShut 116 = .ok (.iload_n 1, 1) := by decide +kernel
theorem dX8_bestShut_117 : decode cX8_bestShut 117 = .ok (.istore_n 1, 1) := by decide +kernel
theorem dX8_bestShut_118 : decode cX8_bestShut 118 = .ok (.iload 5, 2) := by decide +kernel
theorem dX8_bestShut_120 : decode cX8_bestShut 120 = .ok (.ifCond .eq 8, 3) := by decide +kernel
theorem dX8_bestShut_123 : decode cX8_bestShut 123 = .ok (.iload 4, 2) := by decide +kernel
theorem dX8_bestShut_125 : decode cX8_bestShut 125 = .ok (.goto 4, 3) := by decide +kernel
theorem dX8_bestShut_128 : decode cX8_bestShut 128 = .ok (.iload_n 2, 1) := by decide +kernel
theorem dX8_bestShut_129 : decode cX8_bestShut 129 = .ok (.istore_n 2, 1) := by decide +kernel
theorem dX8_bestShut_130 : decode cX8_bestShut 130 = .ok (.iinc 3 1, 3) := by decide +kernel
theorem dX8_bestShut_133 : decode cX8_bestShut 133 = .ok (.goto (-122), 3) := by decide +kernel
theorem dX8_bestShut_136 : decode cX8_bestShut 136 = .ok (.iload_n 1, 1) := by decide +kernel
theorem dX8_bestShut_137 : decode cX8_bestShut 137 = .ok (.ireturn, 1) := by decide +kernel
theorem dX8_doesIt_0 : decode cX8_doesIt 0 = .ok (.aload_n 0, 1) := by decide +kernel
theorem dX8_doesIt_1 : decode cX8_doesIt 1 = .ok (.aload_n 0, 1) := by decide +kernel
theorem dX8_doesIt_2 : decode cX8_doesIt 2 = .ok (.getfield 16, 3) := by decide +kernel
theorem dX8_doesIt_5 : decode cX8_doesIt 5 = .ok (.invokevirtual 83, 3) := by decide +kernel
theorem dX8_doesIt_8 : decode cX8_doesIt 8 = .ok (.aload_n 0, 1) := by decide +kernel
theorem dX8_doesIt_9 : decode cX8_doesIt 9 = .ok (.getfield 29, 3) := by decide +kernel
theorem dX8_doesIt_12 : decode cX8_doesIt 12 = .ok (.iload_n 1, 1) := by decide +kernel
theorem dX8_doesIt_13 : decode cX8_doesIt 13 = .ok (.iaload, 1) := by decide +kernel
theorem dX8_doesIt_14 : decode cX8_doesIt 14 = .ok (.iload_n 2, 1) := by decide +kernel
theorem dX8_doesIt_15 : decode cX8_doesIt 15 = .ok (.if_icmp .ne 7, 3) := by decide +kernel
theorem dX8_doesIt_18 : decode cX8_doesIt 18 = .ok (.iconst 1, 1) := by decide +kernel
theorem dX8_doesIt_19 : decode cX8_doesIt 19 = .ok (.goto 4, 3) := by decide +kernel
theorem dX8_doesIt_22 : decode cX8_doesIt 22 = .ok (.iconst 0, 1) := by decide +kernel
theorem dX8_doesIt_23 : decode cX8_doesIt 23 = .ok (.ireturn, 1) := by decide +kernel
theorem dX8_command_0 : decode cX8_command 0 = .ok (.iload_n 2, 1) := by decide +kernel
theorem dX8_command_1 : decode cX8_command 1 = .ok (.sipush 1000, 3) := by decide +kernel
theorem dX8_command_4 : decode cX8_command 4 = .ok (.idiv, 1) := by decide +kernel
theorem dX8_command_5 : decode cX8_command 5 = .ok (.istore_n 3, 1) := by decide +kernel
theorem dX8_command_6 : decode cX8_command 6 = .ok (.iload_n 2, 1) := by decide +kernel
theorem dX8_command_7 : decode cX8_command 7 = .ok (.bipush 100, 2) := by decide +kernel
theorem dX8_command_9 : decode cX8_command 9 = .ok (.idiv, 1) := by decide +kernel
theorem dX8_command_10 : decode cX8_command 10 = .ok (.bipush 10, 2) := by decide +kernel
theorem dX8_command_12 : decode cX8_command 12 = .ok (.irem, 1) := by decide +kernel
theorem dX8_command_13 : decode cX8_command 13 = .ok (.istore 4, 2) := by decide +kernel
theorem dX8_command_15 : decode cX8_command 15 = .ok (.iload_n 2, 1) := by decide +kernel
theorem dX8_command_16 : decode cX8_command 16 = .ok (.bipush 10, 2) := by decide +kernel
theorem dX8_command_18 : decode cX8_command 18 = .ok (.idiv, 1) := by decide +kernel
theorem dX8_command_19 : decode cX8_command 19 = .ok (.bipush 100, 2) := by decide +kernel
theorem dX8_command_21 : decode cX8_command 21 = .ok (.irem, 1) := by decide +kernel
theorem dX8_command_22 : decode cX8_command 22 = .ok (.istore 5, 2) := by decide +kernel
theorem dX8_command_24 : decode cX8_command 24 = .ok (.iload_n 2, 1) := by decide +kernel
theorem dX8_command_25 : decode cX8_command 25 = .ok (.sipush 1000, 3) := by decide +kernel
theorem dX8_command_28 : decode cX8_command 28 = .ok (.irem, 1) := by decide +kernel
theorem dX8_command_29 : decode cX8_command 29 = .ok (.istore 6, 2) := by decide +kernel
theorem dX8_command_31 : decode cX8_command 31 = .ok (.iload_n 2, 1) := by decide +kernel
theorem dX8_command_32 : decode cX8_command 32 = .ok (.bipush 10, 2) := by decide +kernel
theorem dX8_command_34 : decode cX8_command 34 = .ok (.irem, 1) := by decide +kernel
theorem dX8_command_35 : decode cX8_command 35 = .ok (.ifCond .ne 7, 3) := by decide +kernel
theorem dX8_command_38 : decode cX8_command 38 = .ok (.iconst 1, 1) := by decide +kernel
theorem dX8_command_39 : decode cX8_command 39 = .ok (.goto 4, 3) := by decide +kernel
theorem dX8_command_42 : decode cX8_command 42 = .ok (.iconst 0, 1) := by decide +kernel
theorem dX8_command_43 : decode cX8_command 43 = .ok (.istore 7, 2) := by decide +kernel
theorem dX8_command_45 : decode cX8_command 45 = .ok (.aload_n 0, 1) := by decide +kernel
theorem dX8_command_46 : decode cX8_command 46 = .ok (.getfield 16, 3) := by decide +kernel
theorem dX8_command_49 : decode cX8_command 49 = .ok (.iload_n 3, 1) := by decide +kernel
theorem dX8_command_50 : decode cX8_command 50 = .ok (.invokestatic 158, 3) := by decide +kernel
theorem dX8_command_53 : decode cX8_command 53 = .ok (.istore 8, 2) := by decide +kernel
theorem dX8_command_55 : decode cX8_command 55 = .ok (.iload_n 1, 1) := by decide +kernel
theorem dX8_command_56 : decode cX8_command 56 = .ok (.tableswitch 331 1 9 #[52, 98, 128, 151, 180, 212, 242, 270, 292], 52) := by decide +kernel
theorem dX8_command_108 : decode cX8_command 108 = .ok (.iload 8, 2) := by decide +kernel
theorem dX8_command_110 : decode cX8_command 110 = .ok (.ifCond .eq 42, 3) := by decide +kernel
theorem dX8_command_113 : decode cX8_command 113 = .ok (.iload 4, 2) := by decide +kernel
theorem dX8_command_115 : decode cX8_command 115 = .ok (.iconst 2, 1) := by decide +kernel
theorem dX8_command_116 : decode cX8_command 116 = .ok (.if_icmp .ge 36, 3) := by decide +kernel
theorem dX8_command_119 : decode cX8_command 119 = .ok (.iload_n 2, 1) := by decide +kernel
theorem dX8_command_120 : decode cX8_command 120 = .ok (.bipush 100, 2) := by decide +kernel
theorem dX8_command_122 : decode cX8_command 122 = .ok (.irem, 1) := by decide +kernel
theorem dX8_command_123 : decode cX8_command 123 = .ok (.ifCond .ne 29, 3) := by decide +kernel
theorem dX8_command_126 : decode cX8_command 126 = .ok (.aload_n 0, 1) := by decide +kernel
theorem dX8_command_127 : decode cX8_command 127 = .ok (.getfield 16, 3) := by decide +kernel
theorem dX8_command_130 : decode cX8_command 130 = .ok (.iload_n 3, 1) := by decide +kernel
theorem dX8_command_131 : decode cX8_command 131 = .ok (.iload 4, 2) := by decide +kernel
theorem dX8_command_133 : decode cX8_command 133 = .ok (.iconst 1, 1) := by decide +kernel
theorem dX8_command_134 : decode cX8_command 134 = .ok (.if_icmp .ne 7, 3) := by decide +kernel
theorem dX8_command_137 : decode cX8_command 137 = .ok (.iconst 1, 1) := by decide +kernel
theorem dX8_command_138 : decode cX8_command 138 = .ok (.goto 4, 3) := by decide +kernel
theorem dX8_command_141 : decode cX8_command 141 = .ok (.iconst 0, 1) := by decide +kernel
theorem dX8_command_142 : decode cX8_command 142 = .ok (.invokestatic 161, 3) := by decide +kernel
theorem dX8_command_145 : decode cX8_command 145 = .ok (.ifCond .lt 7, 3) := by decide +kernel
theorem dX8_command_148 : decode cX8_command 148 = .ok (.iconst 1, 1) := by decide +kernel
theorem dX8_command_149 : decode cX8_command 149 = .ok (.goto 4, 3) := by decide +kernel
theorem dX8_command_152 : decode cX8_command 152 = .ok (.iconst 0, 1) := by decide +kernel
theorem dX8_command_153 : decode cX8_command 153 = .ok (.ireturn, 1) := by decide +kernel
theorem dX8_command_154 : decode cX8_command 154 = .ok (.iload_n 2, 1) := by decide +kernel
theorem dX8_command_155 : decode cX8_command 155 = .ok (.i2l, 1) := by decide +kernel
theorem dX8_command_156 : decode cX8_command 156 = .ok (.lconst 1, 1) := by decide +kernel
theorem dX8_command_157 : decode cX8_command 157 = .ok (.ldc2_w 196, 3) := by decide +kernel
theorem dX8_command_160 : decode cX8_command 160 = .ok (.invokestatic 40, 3) := by decide +kernel
theorem dX8_command_163 : decode cX8_command 163 = .ok (.ifCond .eq 19, 3) := by decide +kernel
theorem dX8_command_166 : decode cX8_command 166 = .ok (.aload_n 0, 1) := by decide +kernel
theorem dX8_command_167 : decode cX8_command 167 = .ok (.aload_n 0, 1) := by decide +kernel
theorem dX8_command_168 : decode cX8_command 168 = .ok (.getfield 16, 3) := by decide +kernel
theorem dX8_command_171 : decode cX8_command 171 = .ok (.iload_n 2, 1) := by decide +kernel
theorem dX8_command_172 : decode cX8_command 172 = .ok (.invokevirtual 165, 3) := by decide +kernel
theorem dX8_command_175 : decode cX8_command 175 = .ok (.ifCond .lt 7, 3) := by decide +kernel
theorem dX8_command_178 : decode cX8_command 178 = .ok (.iconst 1, 1) := by decide +kernel
theorem dX8_command_179 : decode cX8_command 179 = .ok (.goto 4, 3) := by decide +kernel
theorem dX8_command_182 : decode cX8_command 182 = .ok (.iconst 0, 1) := by decide +kernel
theorem dX8_command_183 : decode cX8_command 183 = .ok (.ireturn, 1) := by decide +kernel
theorem dX8_command_184 : decode cX8_command 184 = .ok (.iload_n 2, 1) := by decide +kernel
theorem dX8_command_185 : decode cX8_command 185 = .ok (.ifCond .ne 20, 3) := by decide +kernel
theorem dX8_command_188 : decode cX8_command 188 = .ok (.aload_n 0, 1) := by decide +kernel
theorem dX8_command_189 : decode cX8_command 189 = .ok (.aload_n 0, 1) := by decide +kernel
theorem dX8_command_190 : decode cX8_command 190 = .ok (.getfield 16, 3) := by decide +kernel
theorem dX8_command_193 : decode cX8_command 193 = .ok (.bipush 15, 2) := by decide +kernel
theorem dX8_command_195 : decode cX8_command 195 = .ok (.invokevirtual 165, 3) := by decide +kernel
theorem dX8_command_198 : decode cX8_command 198 = .ok (.ifCond .lt 7, 3) := by decide +kernel
theorem dX8_command_201 : decode cX8_command 201 = .ok (.iconst 1, 1) := by decide +kernel
theorem dX8_command_202 : decode cX8_command 202 = .ok (.goto 4, 3) := by decide +kernel
theorem dX8_command_205 : decode cX8_command 205 = .ok (.iconst 0, 1) := by decide +kernel
theorem dX8_command_206 : decode cX8_command 206 = .ok (.ireturn, 1) := by decide +kernel
theorem dX8_command_207 : decode cX8_command 207 = .ok (.iload 7, 2) := by decide +kernel
theorem dX8_command_209 : decode cX8_command 209 = .ok (.ifCond .eq 12, 3) := by decide +kernel
theorem dX8_command_212 : decode cX8_command 212 = .ok (.iload_n 3, 1) := by decide +kernel
theorem dX8_command_213 : decode cX8_command 213 = .ok (.iload 5, 2) := by decide +kernel
theorem dX8_command_215 : decode cX8_command 215 = .ok (.invokestatic 198, 3) := by decide +kernel
theorem dX8_command_218 : decode cX8_command 218 = .ok (.ifCond .ne 5, 3) := by decide +kernel
theorem dX8_command_221 : decode cX8_command 221 = .ok (.iconst 0, 1) := by decide +kernel
theorem dX8_command_222 : decode cX8_command 222 = .ok (.ireturn, 1) := by decide +kernel
theorem dX8_command_223 : decode cX8_command 223 = .ok (.aload_n 0, 1) := by decide +kernel
theorem dX8_command_224 : decode cX8_command 224 = .ok (.getfield 16, 3) := by decide +kernel
theorem dX8_command_227 : decode cX8_command 227 = .ok (.bipush 10, 2) := by decide +kernel
theorem dX8_command_229 : decode cX8_command 229 = .ok (.iload_n 3, 1) := by decide +kernel
theorem dX8_command_230 : decode cX8_command 230 = .ok (.iadd, 1) := by decide +kernel
theorem dX8_command_231 : decode cX8_command 231 = .ok (.iload 5, 2) := by decide +kernel
theorem dX8_command_233 : decode cX8_command 233 = .ok (.iastore, 1) := by decide +kernel
theorem dX8_command_234 : decode cX8_command 234 = .ok (.iconst 1, 1) := by decide +kernel
theorem dX8_command_235 : decode cX8_command 235 = .ok (.ireturn, 1) := by decide +kernel
theorem dX8_command_236 : decode cX8_command 236 = .ok (.iload 8, 2) := by decide +kernel
theorem dX8_command_238 : decode cX8_command 238 = .ok (.ifCond .eq 28, 3) := by decide +kernel
theorem dX8_command_241 : decode cX8_command 241 = .ok (.iload 7, 2) := by decide +kernel
theorem dX8_command_243 : decode cX8_command 243 = .ok (.ifCond .eq 23, 3) := by decide +kernel
theorem dX8_command_246 : decode cX8_command 246 = .ok (.aload_n 0, 1) := by decide +kernel
theorem dX8_command_247 : decode cX8_command 247 = .ok (.getfield 16, 3) := by decide +kernel
theorem dX8_command_250 : decode cX8_command 250 = .ok (.iload_n 3, 1) := by decide +kernel
theorem dX8_command_251 : decode cX8_command 251 = .ok (.iload 5, 2) := by decide +kernel
theorem dX8_command_253 : decode cX8_command 253 = .ok (.invokestatic 193, 3) := by decide +kernel
theorem dX8_command_256 : decode cX8_command 256 = .ok (.sipush (-400), 3) := by decide +kernel
theorem dX8_command_259 : decode cX8_command 259 = .ok (.if_icmp .lt 7, 3) := by decide +kernel
theorem dX8_command_262 : decode cX8_command 262 = .ok (.iconst 1, 1) := by decide +kernel
theorem dX8_command_263 : decode cX8_command 263 = .ok (.goto 4, 3) := by decide +kernel
theorem dX8_command_266 : decode cX8_command 266 = .ok (.iconst 0, 1) := by decide +kernel
theorem dX8_command_267 : decode cX8_command 267 = .ok (.ireturn, 1) := by decide +kernel
theorem dX8_command_268 : decode cX8_command 268 = .ok (.iload 8, 2) := by decide +kernel
theorem dX8_command_270 : decode cX8_command 270 = .ok (.ifCond .eq 26, 3) := by decide +kernel
theorem dX8_command_273 : decode cX8_command 273 = .ok (.iload 7, 2) := by decide +kernel
theorem dX8_command_275 : decode cX8_command 275 = .ok (.ifCond .eq 21, 3) := by decide +kernel
theorem dX8_command_278 : decode cX8_command 278 = .ok (.aload_n 0, 1) := by decide +kernel
theorem dX8_command_279 : decode cX8_command 279 = .ok (.getfield 16, 3) := by decide +kernel
theorem dX8_command_282 : decode cX8_command 282 = .ok (.iload_n 3, 1) := by decide +kernel
theorem dX8_command_283 : decode cX8_command 283 = .ok (.iconst 5, 1) := by decide +kernel
theorem dX8_command_284 : decode cX8_command 284 = .ok (.invokestatic 44, 3) := by decide +kernel
theorem dX8_command_287 : decode cX8_command 287 = .ok (.iload 5, 2) := by decide +kernel
theorem dX8_command_289 : decode cX8_command 289 = .ok (.if_icmp .gt 7, 3) := by decide +kernel
theorem dX8_command_292 : decode cX8_command 292 = .ok (.iconst 1, 1) := by decide +kernel
theorem dX8_command_293 : decode cX8_command 293 = .ok (.goto 4, 3) := by decide +kernel
theorem dX8_command_296 : decode cX8_command 296 = .ok (.iconst 0, 1) := by decide +kernel
theorem dX8_command_297 : decode cX8_command 297 = .ok (.ireturn, 1) := by decide +kernel
theorem dX8_command_298 : decode cX8_command 298 = .ok (.iload 8, 2) := by decide +kernel
theorem dX8_command_300 : decode cX8_command 300 = .ok (.ifCond .eq 24, 3) := by decide +kernel
theorem dX8_command_303 : decode cX8_command 303 = .ok (.iload 6, 2) := by decide +kernel
theorem dX8_command_305 : decode cX8_command 305 = .ok (.bipush 8, 2) := by decide +kernel
theorem dX8_command_307 : decode cX8_command 307 = .ok (.if_icmp .ge 17, 3) := by decide +kernel
theorem dX8_command_310 : decode cX8_command 310 = .ok (.aload_n 0, 1) := by decide +kernel
theorem dX8_command_311 : decode cX8_command 311 = .ok (.iload_n 3, 1) := by decide +kernel
theorem dX8_command_312 : decode cX8_command 312 = .ok (.iload 6, 2) := by decide +kernel
theorem dX8_command_314 : decode cX8_command 314 = .ok (.invokevirtual 209, 3) := by decide +kernel
theorem dX8_command_317 : decode cX8_command 317 = .ok (.ifCond .eq 7, 3) := by decide +kernel
theorem dX8_command_320 : decode cX8_command 320 = .ok (.iconst 1, 1) := by decide +kernel
theorem dX8_command_321 : decode cX8_command 321 = .ok (.goto 4, 3) := by decide +kernel
theorem dX8_command_324 : decode cX8_command 324 = .ok (.iconst 0, 1) := by decide +kernel
theorem dX8_command_325 : decode cX8_command 325 = .ok (.ireturn, 1) := by decide +kernel
theorem dX8_command_326 : decode cX8_command 326 = .ok (.iload_n 2, 1) := by decide +kernel
theorem dX8_command_327 : decode cX8_command 327 = .ok (.bipush 100, 2) := by decide +kernel
theorem dX8_command_329 : decode cX8_command 329 = .ok (.if_icmp .ge 17, 3) := by decide +kernel
theorem dX8_command_332 : decode cX8_command 332 = .ok (.aload_n 0, 1) := by decide +kernel
theorem dX8_command_333 : decode cX8_command 333 = .ok (.getfield 16, 3) := by decide +kernel
theorem dX8_command_336 : decode cX8_command 336 = .ok (.iconst 3, 1) := by decide +kernel
theorem dX8_command_337 : decode cX8_command 337 = .ok (.iaload, 1) := by decide +kernel
theorem dX8_command_338 : decode cX8_command 338 = .ok (.iload_n 2, 1) := by decide +kernel
theorem dX8_command_339 : decode cX8_command 339 = .ok (.if_icmp .gt 7, 3) := by decide +kernel
theorem dX8_command_342 : decode cX8_command 342 = .ok (.iconst 1, 1) := by decide +kernel
theorem dX8_command_343 : decode cX8_command 343 = .ok (.goto 4, 3) := by decide +kernel
theorem dX8_command_346 : decode cX8_command 346 = .ok (.iconst 0, 1) := by decide +kernel
theorem dX8_command_347 : decode cX8_command 347 = .ok (.ireturn, 1) := by decide +kernel
theorem dX8_command_348 : decode cX8_command 348 = .ok (.iload 8, 2) := by decide +kernel
theorem dX8_command_350 : decode cX8_command 350 = .ok (.ifCond .eq 35, 3) := by decide +kernel
theorem dX8_command_353 : decode cX8_command 353 = .ok (.iload 6, 2) := by decide +kernel
theorem dX8_command_355 : decode cX8_command 355 = .ok (.iconst 2, 1) := by decide +kernel
theorem dX8_command_356 : decode cX8_command 356 = .ok (.if_icmp .ge 29, 3) := by decide +kernel
theorem dX8_command_359 : decode cX8_command 359 = .ok (.aload_n 0, 1) := by decide +kernel
theorem dX8_command_360 : decode cX8_command 360 = .ok (.getfield 16, 3) := by decide +kernel
theorem dX8_command_363 : decode cX8_command 363 = .ok (.iload_n 3, 1) := by decide +kernel
theorem dX8_command_364 : decode cX8_command 364 = .ok (.invokestatic 55, 3) := by decide +kernel
theorem dX8_command_367 : decode cX8_command 367 = .ok (.iload 6, 2) := by decide +kernel
theorem dX8_command_369 : decode cX8_command 369 = .ok (.iconst 1, 1) := by decide +kernel
theorem dX8_command_370 : decode cX8_command 370 = .ok (.if_icmp .ne 7, 3) := by decide +kernel
theorem dX8_command_373 : decode cX8_command 373 = .ok (.iconst 1, 1) := by decide +kernel
theorem dX8_command_374 : decode cX8_command 374 = .ok (.goto 4, 3) := by decide +kernel
theorem dX8_command_377 : decode cX8_command 377 = .ok (.iconst 0, 1) := by decide +kernel
theorem dX8_command_378 : decode cX8_command 378 = .ok (.if_icmp .ne 7, 3) := by decide +kernel
theorem dX8_command_381 : decode cX8_command 381 = .ok (.iconst 1, 1) := by decide +kernel
theorem dX8_command_382 : decode cX8_command 382 = .ok (.goto 4, 3) := by decide +kernel
theorem dX8_command_385 : decode cX8_command 385 = .ok (.iconst 0, 1) := by decide +kernel
theorem dX8_command_386 : decode cX8_command 386 = .ok (.ireturn, 1) := by decide +kernel
theorem dX8_command_387 : decode cX8_command 387 = .ok (.iconst 0, 1) := by decide +kernel
theorem dX8_command_388 : decode cX8_command 388 = .ok (.ireturn, 1) := by decide +kernel
theorem dX8_runScript_0 : decode cX8_runScript 0 = .ok (.lconst 1, 1) := by decide +kernel
theorem dX8_runScript_1 : decode cX8_runScript 1 = .ok (.lstore 4, 2) := by decide +kernel
theorem dX8_runScript_3 : decode cX8_runScript 3 = .ok (.iconst 0, 1) := by decide +kernel
theorem dX8_runScript_4 : decode cX8_runScript 4 = .ok (.istore 6, 2) := by decide +kernel
theorem dX8_runScript_6 : decode cX8_runScript 6 = .ok (.iload 6, 2) := by decide +kernel
theorem dX8_runScript_8 : decode cX8_runScript 8 = .ok (.iload_n 1, 1) := by decide +kernel
theorem dX8_runScript_9 : decode cX8_runScript 9 = .ok (.if_icmp .ge 23, 3) := by decide +kernel
theorem dX8_runScript_12 : decode cX8_runScript 12 = .ok (.iload 6, 2) := by decide +kernel
theorem dX8_runScript_14 : decode cX8_runScript 14 = .ok (.iconst 3, 1) := by decide +kernel
theorem dX8_runScript_15 : decode cX8_runScript 15 = .ok (.if_icmp .ge 17, 3) := by decide +kernel
theorem dX8_runScript_18 : decode cX8_runScript 18 = .ok (.lload 4, 2) := by decide +kernel
theorem dX8_runScript_20 : decode cX8_runScript 20 = .ok (.ldc2_w 212, 3) := by decide +kernel
theorem dX8_runScript_23 : decode cX8_runScript 23 = .ok (.lmul, 1) := by decide +kernel
theorem dX8_runScript_24 : decode cX8_runScript 24 = .ok (.lstore 4, 2) := by decide +kernel
theorem dX8_runScript_26 : decode cX8_runScript 26 = .ok (.iinc 6 1, 3) := by decide +kernel
theorem dX8_runScript_29 : decode cX8_runScript 29 = .ok (.goto (-23), 3) := by decide +kernel
theorem dX8_runScript_32 : decode cX8_runScript 32 = .ok (.aload_n 0, 1) := by decide +kernel
theorem dX8_runScript_33 : decode cX8_runScript 33 = .ok (.iload_n 1, 1) := by decide +kernel
theorem dX8_runScript_34 : decode cX8_runScript 34 = .ok (.i2l, 1) := by decide +kernel
theorem dX8_runScript_35 : decode cX8_runScript 35 = .ok (.lconst 1, 1) := by decide +kernel
theorem dX8_runScript_36 : decode cX8_runScript 36 = .ok (.ldc2_w 214, 3) := by decide +kernel
theorem dX8_runScript_39 : decode cX8_runScript 39 = .ok (.invokestatic 40, 3) := by decide +kernel
theorem dX8_runScript_42 : decode cX8_runScript 42 = .ok (.ifCond .eq 19, 3) := by decide +kernel
theorem dX8_runScript_45 : decode cX8_runScript 45 = .ok (.lload_n 2, 1) := by decide +kernel
theorem dX8_runScript_46 : decode cX8_runScript 46 = .ok (.lconst 0, 1) := by decide +kernel
theorem dX8_runScript_47 : decode cX8_runScript 47 = .ok (.lload 4, 2) := by decide +kernel
theorem dX8_runScript_49 : decode cX8_runScript 49 = .ok (.lconst 1, 1) := by decide +kernel
theorem dX8_runScript_50 : decode cX8_runScript 50 = .ok (.lsub, 1) := by decide +kernel
theorem dX8_runScript_51 : decode cX8_runScript 51 = .ok (.invokestatic 40, 3) := by decide +kernel
theorem dX8_runScript_54 : decode cX8_runScript 54 = .ok (.ifCond .eq 7, 3) := by decide +kernel
theorem dX8_runScript_57 : decode cX8_runScript 57 = .ok (.iconst 0, 1) := by decide +kernel
theorem dX8_runScript_58 : decode cX8_runScript 58 = .ok (.goto 4, 3) := by decide +kernel
theorem dX8_runScript_61 : decode cX8_runScript 61 = .ok (.iconst 1, 1) := by decide +kernel
theorem dX8_runScript_62 : decode cX8_runScript 62 = .ok (.invokevirtual 119, 3) := by decide +kernel
theorem dX8_runScript_65 : decode cX8_runScript 65 = .ok (.ifCond .eq 5, 3) := by decide +kernel
theorem dX8_runScript_68 : decode cX8_runScript 68 = .ok (.iconst 0, 1) := by decide +kernel
theorem dX8_runScript_69 : decode cX8_runScript 69 = .ok (.ireturn, 1) := by decide +kernel
theorem dX8_runScript_70 : decode cX8_runScript 70 = .ok (.aload_n 0, 1) := by decide +kernel
theorem dX8_runScript_71 : decode cX8_runScript 71 = .ok (.getfield 13, 3) := by decide +kernel
theorem dX8_runScript_74 : decode cX8_runScript 74 = .ok (.iconst 0, 1) := by decide +kernel
theorem dX8_runScript_75 : decode cX8_runScript 75 = .ok (.aload_n 0, 1) := by decide +kernel
theorem dX8_runScript_76 : decode cX8_runScript 76 = .ok (.getfield 16, 3) := by decide +kernel
theorem dX8_runScript_79 : decode cX8_runScript 79 = .ok (.iconst 0, 1) := by decide +kernel
theorem dX8_runScript_80 : decode cX8_runScript 80 = .ok (.invokestatic 175, 3) := by decide +kernel
theorem dX8_runScript_83 : decode cX8_runScript 83 = .ok (.iconst 0, 1) := by decide +kernel
theorem dX8_runScript_84 : decode cX8_runScript 84 = .ok (.istore 6, 2) := by decide +kernel
theorem dX8_runScript_86 : decode cX8_runScript 86 = .ok (.iload 6, 2) := by decide +kernel
theorem dX8_runScript_88 : decode cX8_runScript 88 = .ok (.iload_n 1, 1) := by decide +kernel
theorem dX8_runScript_89 : decode cX8_runScript 89 = .ok (.if_icmp .ge 50, 3) := by decide +kernel
theorem dX8_runScript_92 : decode cX8_runScript 92 = .ok (.lload 4, 2) := by decide +kernel
theorem dX8_runScript_94 : decode cX8_runScript 94 = .ok (.ldc2_w 212, 3) := by decide +kernel
theorem dX8_runScript_97 : decode cX8_runScript 97 = .ok (.ldiv, 1) := by decide +kernel
theorem dX8_runScript_98 : decode cX8_runScript 98 = .ok (.lstore 4, 2) := by decide +kernel
theorem dX8_runScript_100 : decode cX8_runScript 100 = .ok (.lload_n 2, 1) := by decide +kernel
theorem dX8_runScript_101 : decode cX8_runScript 101 = .ok (.lload 4, 2) := by decide +kernel
theorem dX8_runScript_103 : decode cX8_runScript 103 = .ok (.ldiv, 1) := by decide +kernel
theorem dX8_runScript_104 : decode cX8_runScript 104 = .ok (.ldc2_w 212, 3) := by decide +kernel
theorem dX8_runScript_107 : decode cX8_runScript 107 = .ok (.lrem, 1) := by decide +kernel
theorem dX8_runScript_108 : decode cX8_runScript 108 = .ok (.l2i, 1) := by decide +kernel
theorem dX8_runScript_109 : decode cX8_runScript 109 = .ok (.istore 7, 2) := by decide +kernel
theorem dX8_runScript_111 : decode cX8_runScript 111 = .ok (.aload_n 0, 1) := by decide +kernel
theorem dX8_runScript_112 : decode cX8_runScript 112 = .ok (.iload 7, 2) := by decide +kernel
theorem dX8_runScript_114 : decode cX8_runScript 114 = .ok (.sipush 10000, 3) := by decide +kernel
theorem dX8_runScript_117 : decode cX8_runScript 117 = .ok (.idiv, 1) := by decide +kernel
theorem dX8_runScript_118 : decode cX8_runScript 118 = .ok (.iload 7, 2) := by decide +kernel
theorem dX8_runScript_120 : decode cX8_runScript 120 = .ok (.sipush 10000, 3) := by decide +kernel
theorem dX8_runScript_123 : decode cX8_runScript 123 = .ok (.irem, 1) := by decide +kernel
theorem dX8_runScript_124 : decode cX8_runScript 124 = .ok (.invokevirtual 216, 3) := by decide +kernel
theorem dX8_runScript_127 : decode cX8_runScript 127 = .ok (.ifCond .ne 6, 3) := by decide +kernel
theorem dX8_runScript_130 : decode cX8_runScript 130 = .ok (.iload 6, 2) := by decide +kernel
theorem dX8_runScript_132 : decode cX8_runScript 132 = .ok (.ireturn, 1) := by decide +kernel
theorem dX8_runScript_133 : decode cX8_runScript 133 = .ok (.iinc 6 1, 3) := by decide +kernel
theorem dX8_runScript_136 : decode cX8_runScript 136 = .ok (.goto (-50), 3) := by decide +kernel
theorem dX8_runScript_139 : decode cX8_runScript 139 = .ok (.iconst (-1), 1) := by decide +kernel
theorem dX8_runScript_140 : decode cX8_runScript 140 = .ok (.ireturn, 1) := by decide +kernel
theorem dX8_turn_0 : decode cX8_turn 0 = .ok (.iload_n 1, 1) := by decide +kernel
theorem dX8_turn_1 : decode cX8_turn 1 = .ok (.bipush 8, 2) := by decide +kernel
theorem dX8_turn_3 : decode cX8_turn 3 = .ok (.idiv, 1) := by decide +kernel
theorem dX8_turn_4 : decode cX8_turn 4 = .ok (.istore_n 2, 1) := by decide +kernel
theorem dX8_turn_5 : decode cX8_turn 5 = .ok (.iload_n 2, 1) := by decide +kernel
theorem dX8_turn_6 : decode cX8_turn 6 = .ok (.bipush 6, 2) := by decide +kernel
theorem dX8_turn_8 : decode cX8_turn 8 = .ok (.irem, 1) := by decide +kernel
theorem dX8_turn_9 : decode cX8_turn 9 = .ok (.istore_n 3, 1) := by decide +kernel
theorem dX8_turn_10 : decode cX8_turn 10 = .ok (.iload_n 1, 1) := by decide +kernel
theorem dX8_turn_11 : decode cX8_turn 11 = .ok (.bipush 8, 2) := by decide +kernel
theorem dX8_turn_13 : decode cX8_turn 13 = .ok (.irem, 1) := by decide +kernel
theorem dX8_turn_14 : decode cX8_turn 14 = .ok (.istore 4, 2) := by decide +kernel
theorem dX8_turn_16 : decode cX8_turn 16 = .ok (.iload 4, 2) := by decide +kernel
theorem dX8_turn_18 : decode cX8_turn 18 = .ok (.iconst 2, 1) := by decide +kernel
theorem dX8_turn_19 : decode cX8_turn 19 = .ok (.if_icmp .ge 40, 3) := by decide +kernel
theorem dX8_turn_22 : decode cX8_turn 22 = .ok (.aload_n 0, 1) := by decide +kernel
theorem dX8_turn_23 : decode cX8_turn 23 = .ok (.getfield 16, 3) := by decide +kernel
theorem dX8_turn_26 : decode cX8_turn 26 = .ok (.iload_n 3, 1) := by decide +kernel
theorem dX8_turn_27 : decode cX8_turn 27 = .ok (.invokestatic 158, 3) := by decide +kernel
theorem dX8_turn_30 : decode cX8_turn 30 = .ok (.ifCond .eq 128, 3) := by decide +kernel
theorem dX8_turn_33 : decode cX8_turn 33 = .ok (.aload_n 0, 1) := by decide +kernel
theorem dX8_turn_34 : decode cX8_turn 34 = .ok (.getfield 16, 3) := by decide +kernel
theorem dX8_turn_37 : decode cX8_turn 37 = .ok (.iload_n 3, 1) := by decide +kernel
theorem dX8_turn_38 : decode cX8_turn 38 = .ok (.iload_n 2, 1) := by decide +kernel
theorem dX8_turn_39 : decode cX8_turn 39 = .ok (.bipush 8, 2) := by decide +kernel
theorem dX8_turn_41 : decode cX8_turn 41 = .ok (.idiv, 1) := by decide +kernel
theorem dX8_turn_42 : decode cX8_turn 42 = .ok (.iconst 3, 1) := by decide +kernel
theorem dX8_turn_43 : decode cX8_turn 43 = .ok (.irem, 1) := by decide +kernel
theorem dX8_turn_44 : decode cX8_turn 44 = .ok (.ifCond .ne 7, 3) := by decide +kernel
theorem dX8_turn_47 : decode cX8_turn 47 = .ok (.iconst 1, 1) := by decide +kernel
theorem dX8_turn_48 : decode cX8_turn 48 = .ok (.goto 4, 3) := by decide +kernel
theorem dX8_turn_51 : decode cX8_turn 51 = .ok (.iconst 0, 1) := by decide +kernel
theorem dX8_turn_52 : decode cX8_turn 52 = .ok (.invokestatic 161, 3) := by decide +kernel
theorem dX8_turn_55 : decode cX8_turn 55 = .ok (.pop, 1) := by decide +kernel
theorem dX8_turn_56 : decode cX8_turn 56 = .ok (.goto 102, 3) := by decide +kernel
theorem dX8_turn_59 : decode cX8_turn 59 = .ok (.iload 4, 2) := by decide +kernel
theorem dX8_turn_61 : decode cX8_turn 61 = .ok (.iconst 2, 1) := by decide +kernel
theorem dX8_turn_62 : decode cX8_turn 62 = .ok (.if_icmp .ne 38, 3) := by decide +kernel
theorem dX8_turn_65 : decode cX8_turn 65 = .ok (.aload_n 0, 1) := by decide +kernel
theorem dX8_turn_66 : decode cX8_turn 66 = .ok (.getfield 16, 3) := by decide +kernel
theorem dX8_turn_69 : decode cX8_turn 69 = .ok (.iload_n 3, 1) := by decide +kernel
theorem dX8_turn_70 : decode cX8_turn 70 = .ok (.invokestatic 158, 3) := by decide +kernel
theorem dX8_turn_73 : decode cX8_turn 73 = .ok (.ifCond .eq 85, 3) := by decide +kernel
theorem dX8_turn_76 : decode cX8_turn 76 = .ok (.aload_n 0, 1) := by decide +kernel
theorem dX8_turn_77 : decode cX8_turn 77 = .ok (.getfield 16, 3) := by decide +kernel
theorem dX8_turn_80 : decode cX8_turn 80 = .ok (.iload_n 3, 1) := by decide +kernel
theorem dX8_turn_81 : decode cX8_turn 81 = .ok (.iload_n 2, 1) := by decide +kernel
theorem dX8_turn_82 : decode cX8_turn 82 = .ok (.bipush 8, 2) := by decide +kernel
theorem dX8_turn_84 : decode cX8_turn 84 = .ok (.idiv, 1) := by decide +kernel
theorem dX8_turn_85 : decode cX8_turn 85 = .ok (.sipush 401, 3) := by decide +kernel
theorem dX8_turn_88 : decode cX8_turn 88 = .ok (.irem, 1) := by decide +kernel
theorem dX8_turn_89 : decode cX8_turn 89 = .ok (.sipush 200, 3) := by decide +kernel
theorem dX8_turn_92 : decode cX8_turn 92 = .ok (.isub, 1) := by decide +kernel
theorem dX8_turn_93 : decode cX8_turn 93 = .ok (.invokestatic 193, 3) := by decide +kernel
theorem dX8_turn_96 : decode cX8_turn 96 = .ok (.pop, 1) := by decide +kernel
theorem dX8_turn_97 : decode cX8_turn 97 = .ok (.goto 61, 3) := by decide +kernel
theorem dX8_turn_100 : decode cX8_turn 100 = .ok (.iload 4, 2) := by decide +kernel
theorem dX8_turn_102 : decode cX8_turn 102 = .ok (.iconst 3, 1) := by decide +kernel
theorem dX8_turn_103 : decode cX8_turn 103 = .ok (.if_icmp .ne 18, 3) := by decide +kernel
theorem dX8_turn_106 : decode cX8_turn 106 = .ok (.aload_n 0, 1) := by decide +kernel
theorem dX8_turn_107 : decode cX8_turn 107 = .ok (.getfield 16, 3) := by decide +kernel
theorem dX8_turn_110 : decode cX8_turn 110 = .ok (.bipush 10, 2) := by decide +kernel
theorem dX8_turn_112 : decode cX8_turn 112 = .ok (.iload_n 2, 1) := by decide +kernel
theorem dX8_turn_113 : decode cX8_turn 113 = .ok (.sipush 1000, 3) := by decide +kernel
theorem dX8_turn_116 : decode cX8_turn 116 = .ok (.irem, 1) := by decide +kernel
theorem dX8_turn_117 : decode cX8_turn 117 = .ok (.iastore, 1) := by decide +kernel
theorem dX8_turn_118 : decode cX8_turn 118 = .ok (.goto 40, 3) := by decide +kernel
theorem dX8_turn_121 : decode cX8_turn 121 = .ok (.iload 4, 2) := by decide +kernel
theorem dX8_turn_123 : decode cX8_turn 123 = .ok (.iconst 4, 1) := by decide +kernel
theorem dX8_turn_124 : decode cX8_turn 124 = .ok (.if_icmp .ne 19, 3) := by decide +kernel
theorem dX8_turn_127 : decode cX8_turn 127 = .ok (.aload_n 0, 1) := by decide +kernel
theorem dX8_turn_128 : decode cX8_turn 128 = .ok (.getfield 16, 3) := by decide +kernel
theorem dX8_turn_131 : decode cX8_turn 131 = .ok (.bipush 14, 2) := by decide +kernel
theorem dX8_turn_133 : decode cX8_turn 133 = .ok (.iconst 1, 1) := by decide +kernel
theorem dX8_turn_134 : decode cX8_turn 134 = .ok (.iload_n 2, 1) := by decide +kernel
theorem dX8_turn_135 : decode cX8_turn 135 = .ok (.bipush 100, 2) := by decide +kernel
theorem dX8_turn_137 : decode cX8_turn 137 = .ok (.irem, 1) := by decide +kernel
theorem dX8_turn_138 : decode cX8_turn 138 = .ok (.iadd, 1) := by decide +kernel
theorem dX8_turn_139 : decode cX8_turn 139 = .ok (.iastore, 1) := by decide +kernel
theorem dX8_turn_140 : decode cX8_turn 140 = .ok (.goto 18, 3) := by decide +kernel
theorem dX8_turn_143 : decode cX8_turn 143 = .ok (.aload_n 0, 1) := by decide +kernel
theorem dX8_turn_144 : decode cX8_turn 144 = .ok (.aload_n 0, 1) := by decide +kernel
theorem dX8_turn_145 : decode cX8_turn 145 = .ok (.getfield 16, 3) := by decide +kernel
theorem dX8_turn_148 : decode cX8_turn 148 = .ok (.iconst 1, 1) := by decide +kernel
theorem dX8_turn_149 : decode cX8_turn 149 = .ok (.iload_n 2, 1) := by decide +kernel
theorem dX8_turn_150 : decode cX8_turn 150 = .ok (.bipush 15, 2) := by decide +kernel
theorem dX8_turn_152 : decode cX8_turn 152 = .ok (.irem, 1) := by decide +kernel
theorem dX8_turn_153 : decode cX8_turn 153 = .ok (.iadd, 1) := by decide +kernel
theorem dX8_turn_154 : decode cX8_turn 154 = .ok (.invokevirtual 165, 3) := by decide +kernel
theorem dX8_turn_157 : decode cX8_turn 157 = .ok (.pop, 1) := by decide +kernel
theorem dX8_turn_158 : decode cX8_turn 158 = .ok (.return_, 1) := by decide +kernel
theorem dX8_simulate_0 : decode cX8_simulate 0 = .ok (.aload_n 0, 1) := by decide +kernel
theorem dX8_simulate_1 : decode cX8_simulate 1 = .ok (.iload_n 3, 1) := by decide +kernel
theorem dX8_simulate_2 : decode cX8_simulate 2 = .ok (.i2l, 1) := by decide +kernel
theorem dX8_simulate_3 : decode cX8_simulate 3 = .ok (.lconst 1, 1) := by decide +kernel
theorem dX8_simulate_4 : decode cX8_simulate 4 = .ok (.ldc2_w 196, 3) := by decide +kernel
theorem dX8_simulate_7 : decode cX8_simulate 7 = .ok (.invokestatic 40, 3) := by decide +kernel
theorem dX8_simulate_10 : decode cX8_simulate 10 = .ok (.ifCond .eq 7, 3) := by decide +kernel
theorem dX8_simulate_13 : decode cX8_simulate 13 = .ok (.iconst 0, 1) := by decide +kernel
theorem dX8_simulate_14 : decode cX8_simulate 14 = .ok (.goto 4, 3) := by decide +kernel
theorem dX8_simulate_17 : decode cX8_simulate 17 = .ok (.iconst 1, 1) := by decide +kernel
theorem dX8_simulate_18 : decode cX8_simulate 18 = .ok (.invokevirtual 119, 3) := by decide +kernel
theorem dX8_simulate_21 : decode cX8_simulate 21 = .ok (.ifCond .eq 5, 3) := by decide +kernel
theorem dX8_simulate_24 : decode cX8_simulate 24 = .ok (.iconst 0, 1) := by decide +kernel
theorem dX8_simulate_25 : decode cX8_simulate 25 = .ok (.ireturn, 1) := by decide +kernel
theorem dX8_simulate_26 : decode cX8_simulate 26 = .ok (.aload_n 0, 1) := by decide +kernel
theorem dX8_simulate_27 : decode cX8_simulate 27 = .ok (.getfield 13, 3) := by decide +kernel
theorem dX8_simulate_30 : decode cX8_simulate 30 = .ok (.iconst 0, 1) := by decide +kernel
theorem dX8_simulate_31 : decode cX8_simulate 31 = .ok (.aload_n 0, 1) := by decide +kernel
theorem dX8_simulate_32 : decode cX8_simulate 32 = .ok (.getfield 16, 3) := by decide +kernel
theorem dX8_simulate_35 : decode cX8_simulate 35 = .ok (.iconst 0, 1) := by decide +kernel
theorem dX8_simulate_36 : decode cX8_simulate 36 = .ok (.invokestatic 175, 3) := by decide +kernel
theorem dX8_simulate_39 : decode cX8_simulate 39 = .ok (.lload_n 1, 1) := by decide +kernel
theorem dX8_simulate_40 : decode cX8_simulate 40 = .ok (.lstore 4, 2) := by decide +kernel
theorem dX8_simulate_42 : decode cX8_simulate 42 = .ok (.iconst 0, 1) := by decide +kernel
theorem dX8_simulate_43 : decode cX8_simulate 43 = .ok (.istore 6, 2) := by decide +kernel
theorem dX8_simulate_45 : decode cX8_simulate 45 = .ok (.iload 6, 2) := by decide +kernel
theorem dX8_simulate_47 : decode cX8_simulate 47 = .ok (.iload_n 3, 1) := by decide +kernel
theorem dX8_simulate_48 : decode cX8_simulate 48 = .ok (.if_icmp .ge 31, 3) := by decide +kernel
theorem dX8_simulate_51 : decode cX8_simulate 51 = .ok (.lload 4, 2) := by decide +kernel
theorem dX8_simulate_53 : decode cX8_simulate 53 = .ok (.ldc2_w 219, 3) := by decide +kernel
theorem dX8_simulate_56 : decode cX8_simulate 56 = .ok (.lmul, 1) := by decide +kernel
theorem dX8_simulate_57 : decode cX8_simulate 57 = .ok (.ldc2_w 221, 3) := by decide +kernel
theorem dX8_simulate_60 : decode cX8_simulate 60 = .ok (.ladd, 1) := by decide +kernel
theorem dX8_simulate_61 : decode cX8_simulate 61 = .ok (.lstore 4, 2) := by decide +kernel
theorem dX8_simulate_63 : decode cX8_simulate 63 = .ok (.aload_n 0, 1) := by decide +kernel
theorem dX8_simulate_64 : decode cX8_simulate 64 = .ok (.lload 4, 2) := by decide +kernel
theorem dX8_simulate_66 : decode cX8_simulate 66 = .ok (.bipush 33, 2) := by decide +kernel
theorem dX8_simulate_68 : decode cX8_simulate 68 = .ok (.lushr, 1) := by decide +kernel
theorem dX8_simulate_69 : decode cX8_simulate 69 = .ok (.l2i, 1) := by decide +kernel
theorem dX8_simulate_70 : decode cX8_simulate 70 = .ok (.invokevirtual 223, 3) := by decide +kernel
theorem dX8_simulate_73 : decode cX8_simulate 73 = .ok (.iinc 6 1, 3) := by decide +kernel
theorem dX8_simulate_76 : decode cX8_simulate 76 = .ok (.goto (-31), 3) := by decide +kernel
theorem dX8_simulate_79 : decode cX8_simulate 79 = .ok (.sipush 1000, 3) := by decide +kernel
theorem dX8_simulate_82 : decode cX8_simulate 82 = .ok (.aload_n 0, 1) := by decide +kernel
theorem dX8_simulate_83 : decode cX8_simulate 83 = .ok (.getfield 16, 3) := by decide +kernel
theorem dX8_simulate_86 : decode cX8_simulate 86 = .ok (.iconst 3, 1) := by decide +kernel
theorem dX8_simulate_87 : decode cX8_simulate 87 = .ok (.iaload, 1) := by decide +kernel
theorem dX8_simulate_88 : decode cX8_simulate 88 = .ok (.aload_n 0, 1) := by decide +kernel
theorem dX8_simulate_89 : decode cX8_simulate 89 = .ok (.getfield 13, 3) := by decide +kernel
theorem dX8_simulate_92 : decode cX8_simulate 92 = .ok (.iconst 3, 1) := by decide +kernel
theorem dX8_simulate_93 : decode cX8_simulate 93 = .ok (.iaload, 1) := by decide +kernel
theorem dX8_simulate_94 : decode cX8_simulate 94 = .ok (.isub, 1) := by decide +kernel
theorem dX8_simulate_95 : decode cX8_simulate 95 = .ok (.imul, 1) := by decide +kernel
theorem dX8_simulate_96 : decode cX8_simulate 96 = .ok (.aload_n 0, 1) := by decide +kernel
theorem dX8_simulate_97 : decode cX8_simulate 97 = .ok (.getfield 16, 3) := by decide +kernel
theorem dX8_simulate_100 : decode cX8_simulate 100 = .ok (.bipush 6, 2) := by decide +kernel
theorem dX8_simulate_102 : decode cX8_simulate 102 = .ok (.iaload, 1) := by decide +kernel
theorem dX8_simulate_103 : decode cX8_simulate 103 = .ok (.iadd, 1) := by decide +kernel
theorem dX8_simulate_104 : decode cX8_simulate 104 = .ok (.aload_n 0, 1) := by decide +kernel
theorem dX8_simulate_105 : decode cX8_simulate 105 = .ok (.getfield 13, 3) := by decide +kernel
theorem dX8_simulate_108 : decode cX8_simulate 108 = .ok (.bipush 6, 2) := by decide +kernel
theorem dX8_simulate_110 : decode cX8_simulate 110 = .ok (.iaload, 1) := by decide +kernel
theorem dX8_simulate_111 : decode cX8_simulate 111 = .ok (.isub, 1) := by decide +kernel
theorem dX8_simulate_112 : decode cX8_simulate 112 = .ok (.ireturn, 1) := by decide +kernel
theorem dX8_save_0 : decode cX8_save 0 = .ok (.aload_n 0, 1) := by decide +kernel
theorem dX8_save_1 : decode cX8_save 1 = .ok (.iload_n 1, 1) := by decide +kernel
theorem dX8_save_2 : decode cX8_save 2 = .ok (.i2l, 1) := by decide +kernel
theorem dX8_save_3 : decode cX8_save 3 = .ok (.lconst 0, 1) := by decide +kernel
theorem dX8_save_4 : decode cX8_save 4 = .ok (.lconst 1, 1) := by decide +kernel
theorem dX8_save_5 : decode cX8_save 5 = .ok (.invokestatic 40, 3) := by decide +kernel
theorem dX8_save_8 : decode cX8_save 8 = .ok (.ifCond .eq 7, 3) := by decide +kernel
theorem dX8_save_11 : decode cX8_save 11 = .ok (.iconst 0, 1) := by decide +kernel
theorem dX8_save_12 : decode cX8_save 12 = .ok (.goto 4, 3) := by decide +kernel
theorem dX8_save_15 : decode cX8_save 15 = .ok (.iconst 1, 1) := by decide +kernel
theorem dX8_save_16 : decode cX8_save 16 = .ok (.invokevirtual 119, 3) := by decide +kernel
theorem dX8_save_19 : decode cX8_save 19 = .ok (.ifCond .eq 5, 3) := by decide +kernel
theorem dX8_save_22 : decode cX8_save 22 = .ok (.iconst 0, 1) := by decide +kernel
theorem dX8_save_23 : decode cX8_save 23 = .ok (.ireturn, 1) := by decide +kernel
theorem dX8_save_24 : decode cX8_save 24 = .ok (.aload_n 0, 1) := by decide +kernel
theorem dX8_save_25 : decode cX8_save 25 = .ok (.getfield 13, 3) := by decide +kernel
theorem dX8_save_28 : decode cX8_save 28 = .ok (.iconst 0, 1) := by decide +kernel
theorem dX8_save_29 : decode cX8_save 29 = .ok (.aload_n 0, 1) := by decide +kernel
theorem dX8_save_30 : decode cX8_save 30 = .ok (.getfield 22, 3) := by decide +kernel
theorem dX8_save_33 : decode cX8_save 33 = .ok (.bipush 64, 2) := by decide +kernel
theorem dX8_save_35 : decode cX8_save 35 = .ok (.iload_n 1, 1) := by decide +kernel
theorem dX8_save_36 : decode cX8_save 36 = .ok (.imul, 1) := by decide +kernel
theorem dX8_save_37 : decode cX8_save 37 = .ok (.invokestatic 175, 3) := by decide +kernel
theorem dX8_save_40 : decode cX8_save 40 = .ok (.aload_n 0, 1) := by decide +kernel
theorem dX8_save_41 : decode cX8_save 41 = .ok (.getfield 25, 3) := by decide +kernel
theorem dX8_save_44 : decode cX8_save 44 = .ok (.iload_n 1, 1) := by decide +kernel
theorem dX8_save_45 : decode cX8_save 45 = .ok (.iconst 1, 1) := by decide +kernel
theorem dX8_save_46 : decode cX8_save 46 = .ok (.bastore, 1) := by decide +kernel
theorem dX8_save_47 : decode cX8_save 47 = .ok (.aload_n 0, 1) := by decide +kernel
theorem dX8_save_48 : decode cX8_save 48 = .ok (.getfield 13, 3) := by decide +kernel
theorem dX8_save_51 : decode cX8_save 51 = .ok (.iconst 1, 1) := by decide +kernel
theorem dX8_save_52 : decode cX8_save 52 = .ok (.iaload, 1) := by decide +kernel
theorem dX8_save_53 : decode cX8_save 53 = .ok (.ireturn, 1) := by decide +kernel
theorem dX8_restore_0 : decode cX8_restore 0 = .ok (.aload_n 0, 1) := by decide +kernel
theorem dX8_restore_1 : decode cX8_restore 1 = .ok (.iload_n 1, 1) := by decide +kernel
theorem dX8_restore_2 : decode cX8_restore 2 = .ok (.i2l, 1) := by decide +kernel
theorem dX8_restore_3 : decode cX8_restore 3 = .ok (.lconst 0, 1) := by decide +kernel
theorem dX8_restore_4 : decode cX8_restore 4 = .ok (.lconst 1, 1) := by decide +kernel
theorem dX8_restore_5 : decode cX8_restore 5 = .ok (.invokestatic 40, 3) := by decide +kernel
theorem dX8_restore_8 : decode cX8_restore 8 = .ok (.ifCond .ne 7, 3) := by decide +kernel
theorem dX8_restore_11 : decode cX8_restore 11 = .ok (.iconst 1, 1) := by decide +kernel
theorem dX8_restore_12 : decode cX8_restore 12 = .ok (.goto 17, 3) := by decide +kernel
theorem dX8_restore_15 : decode cX8_restore 15 = .ok (.aload_n 0, 1) := by decide +kernel
theorem dX8_restore_16 : decode cX8_restore 16 = .ok (.getfield 25, 3) := by decide +kernel
theorem dX8_restore_19 : decode cX8_restore 19 = .ok (.iload_n 1, 1) := by decide +kernel
theorem dX8_restore_20 : decode cX8_restore 20 = .ok (.baload, 1) := by decide +kernel
theorem dX8_restore_21 : decode cX8_restore 21 = .ok (.ifCond .ne 7, 3) := by decide +kernel
theorem dX8_restore_24 : decode cX8_restore 24 = .ok (.iconst 2, 1) := by decide +kernel
theorem dX8_restore_25 : decode cX8_restore 25 = .ok (.goto 4, 3) := by decide +kernel
theorem dX8_restore_28 : decode cX8_restore 28 = .ok (.iconst 0, 1) := by decide +kernel
theorem dX8_restore_29 : decode cX8_restore 29 = .ok (.invokevirtual 119, 3) := by decide +kernel
theorem dX8_restore_32 : decode cX8_restore 32 = .ok (.ifCond .eq 5, 3) := by decide +kernel
theorem dX8_restore_35 : decode cX8_restore 35 = .ok (.iconst 0, 1) := by decide +kernel
theorem dX8_restore_36 : decode cX8_restore 36 = .ok (.ireturn, 1) := by decide +kernel
theorem dX8_restore_37 : decode cX8_restore 37 = .ok (.aload_n 0, 1) := by decide +kernel
theorem dX8_restore_38 : decode cX8_restore 38 = .ok (.getfield 22, 3) := by decide +kernel
theorem dX8_restore_41 : decode cX8_restore 41 = .ok (.bipush 64, 2) := by decide +kernel
theorem dX8_restore_43 : decode cX8_restore 43 = .ok (.iload_n 1, 1) := by decide +kernel
theorem dX8_restore_44 : decode cX8_restore 44 = .ok (.imul, 1) := by decide +kernel
theorem dX8_restore_45 : decode cX8_restore 45 = .ok (.aload_n 0, 1) := by decide +kernel
theorem dX8_restore_46 : decode cX8_restore 46 = .ok (.getfield 13, 3) := by decide +kernel
theorem dX8_restore_49 : decode cX8_restore 49 = .ok (.iconst 0, 1) := by decide +kernel
theorem dX8_restore_50 : decode cX8_restore 50 = .ok (.invokestatic 175, 3) := by decide +kernel
theorem dX8_restore_53 : decode cX8_restore 53 = .ok (.aload_n 0, 1) := by decide +kernel
theorem dX8_restore_54 : decode cX8_restore 54 = .ok (.iconst 0, 1) := by decide +kernel
theorem dX8_restore_55 : decode cX8_restore 55 = .ok (.putfield 179, 3) := by decide +kernel
theorem dX8_restore_58 : decode cX8_restore 58 = .ok (.aload_n 0, 1) := by decide +kernel
theorem dX8_restore_59 : decode cX8_restore 59 = .ok (.getfield 13, 3) := by decide +kernel
theorem dX8_restore_62 : decode cX8_restore 62 = .ok (.iconst 1, 1) := by decide +kernel
theorem dX8_restore_63 : decode cX8_restore 63 = .ok (.iaload, 1) := by decide +kernel
theorem dX8_restore_64 : decode cX8_restore 64 = .ok (.ireturn, 1) := by decide +kernel
theorem dJ9_max_7cf53_0 : decode cJ9_max_7cf53 0 = .ok (.iload_n 0, 1) := by decide +kernel
theorem dJ9_max_7cf53_1 : decode cJ9_max_7cf53 1 = .ok (.iload_n 1, 1) := by decide +kernel
theorem dJ9_max_7cf53_2 : decode cJ9_max_7cf53 2 = .ok (.if_icmp .lt 7, 3) := by decide +kernel
theorem dJ9_max_7cf53_5 : decode cJ9_max_7cf53 5 = .ok (.iload_n 0, 1) := by decide +kernel
theorem dJ9_max_7cf53_6 : decode cJ9_max_7cf53 6 = .ok (.goto 4, 3) := by decide +kernel
theorem dJ9_max_7cf53_9 : decode cJ9_max_7cf53 9 = .ok (.iload_n 1, 1) := by decide +kernel
theorem dJ9_max_7cf53_10 : decode cJ9_max_7cf53 10 = .ok (.ireturn, 1) := by decide +kernel
theorem dJ9_min_7cf53_0 : decode cJ9_min_7cf53 0 = .ok (.iload_n 0, 1) := by decide +kernel
theorem dJ9_min_7cf53_1 : decode cJ9_min_7cf53 1 = .ok (.iload_n 1, 1) := by decide +kernel
theorem dJ9_min_7cf53_2 : decode cJ9_min_7cf53 2 = .ok (.if_icmp .gt 7, 3) := by decide +kernel
theorem dJ9_min_7cf53_5 : decode cJ9_min_7cf53 5 = .ok (.iload_n 0, 1) := by decide +kernel
theorem dJ9_min_7cf53_6 : decode cJ9_min_7cf53 6 = .ok (.goto 4, 3) := by decide +kernel
theorem dJ9_min_7cf53_9 : decode cJ9_min_7cf53 9 = .ok (.iload_n 1, 1) := by decide +kernel
theorem dJ9_min_7cf53_10 : decode cJ9_min_7cf53 10 = .ok (.ireturn, 1) := by decide +kernel
end
section
/-! worlds by their kinds -/
def rmF (r : Nat → Int32) : List Value := [.int (r 0), .int (r 1), .int (r 2), .int (r 3), .int (r 4), .int (r 5), .int (r 6), .int (r 7), .int (r 8), .int (r 9)]
def seF (u : Nat → Int32) : List Value := [.int (u 0), .int (u 1), .int (u 2), .int (u 3), .int (u 4), .int (u 5)]
def sgF (x y : Nat) (g : Nat → Int32) : List Value := [.ref x, .ref y, .int (g 1), .int (g 2), .int (g 3), .int (g 4), .int (g 5), .int (g 6), .int (g 7), .int (g 8), .int (g 9)]
def txF (x : Nat) (q : Nat → Int32) : List Value := [.ref x, .int (q 1)]
def rdF (x : Nat) (q : Nat → Int32) : List Value := [.ref x, .int (q 1), .int (q 2), .int (q 3), .int (q 4), .int (q 5), .int (q 6)]
def mmF (x : Nat) (q : Nat → Int32) : List Value := [.ref x, .int (q 1)]
def slF (x : Nat) (q : Nat → Int32) : List Value := [.ref x, .int (q 1)]
/-- the reference's object: its arrays text, now, trial, diary, kept, isKept, job lie at b 1 .. b 7 -/
def moF (b : Nat → Nat) (q : Nat → Int32) : List Value := [.int (q 0), .ref (b 1), .int (q 2), .ref (b 2), .ref (b 3), .ref (b 4), .int (q 6), .ref (b 5), .ref (b 6), .ref (b 7), .int (q 10), .int (q 11), .int (q 12), .int (q 13)]
/-- the class's object: reader, fresh, present, trial, memory, slot0, slot1 -/
def mrF (b : Nat → Nat) : List Value := [.ref (b 1), .ref (b 2), .ref (b 3), .ref (b 4), .ref (b 5), .ref (b 6), .ref (b 7)]
def updR (rv : Nat → Nat → Int32) (i : Nat) (r : Nat → Int32) : Nat → Nat → Int32 := fun j => if j = i then r else rv j
/-- a State's nine cells: itself, its settings, its row of rooms, its rooms -/
def stW (kk : Nat → ClassId) (a : Nat → Nat) (g u : Nat → Int32) (rv : Nat → Nat → Int32) : va_W :=
  [(a 0, .inr (5, sgF (a 1) (a 2) g)), (a 1, .inr (3, seF u)), (a 2, .inl (kk 3, 6, .inr (.inr (.inr (.inr fun j => some (a (3 + j))))))), (a 3, .inr (2, rmF (rv 0))), (a 4, .inr (2, rmF (rv 1))), (a 5, .inr (2, rmF (rv 2))), (a 6, .inr (2, rmF (rv 3))), (a 7, .inr (2, rmF (rv 4))), (a 8, .inr (2, rmF (rv 5)))]
theorem six {P : Nat → Prop} (h0 : P 0) (h1 : P 1) (h2 : P 2) (h3 : P 3) (h4 : P 4) (h5 : P 5) {i : Nat} (hi : i < 6) : P i := by
  rcases (show i = 0 ∨ i = 1 ∨ i = 2 ∨ i = 3 ∨ i = 4 ∨ i = 5 by omega) with rfl | rfl | rfl | rfl | rfl | rfl
  · exact h0
  · exact h1
  · exact h2
  · exact h3
  · exact h4
  · exact h5
theorem st_at {kk : Nat → ClassId} {a : Nat → Nat} {g u : Nat → Int32} {rv : Nat → Nat → Int32} {i : Nat} (hi : i < 6) : (stW kk a g u rv)[3 + i]? = some (a (3 + i), .inr (2, rmF (rv i))) :=
  six (P := fun i => (stW kk a g u rv)[3 + i]? = some (a (3 + i), .inr (2, rmF (rv i)))) rfl rfl rfl rfl rfl rfl hi
theorem updR_s {rv : Nat → Nat → Int32} {i : Nat} {r : Nat → Int32} : updR rv i r i = r := if_pos rfl
theorem updR_n {rv : Nat → Nat → Int32} {i j : Nat} {r : Nat → Int32} (h : j ≠ i) : updR rv i r j = rv j := if_neg h
theorem updR_u {rv : Nat → Nat → Int32} {i : Nat} {r r2 : Nat → Int32} : updR (updR rv i r) i r2 = updR rv i r2 := by
  funext j
  unfold updR
  by_cases h : j = i
  · rw [if_pos h, if_pos h]
  · rw [if_neg h, if_neg h, if_neg h]
theorem updR_id {rv : Nat → Nat → Int32} {i : Nat} : updR rv i (rv i) = rv := by
  funext j
  unfold updR
  by_cases h : j = i
  · rw [if_pos h, h]
  · rw [if_neg h]
theorem st_atU {kk : Nat → ClassId} {a : Nat → Nat} {g u : Nat → Int32} {rv : Nat → Nat → Int32} {i : Nat} {r : Nat → Int32} (hi : i < 6) : (stW kk a g u (updR rv i r))[3 + i]? = some (a (3 + i), .inr (2, rmF r)) := by
  rw [st_at hi, updR_s]
theorem st_put {kk : Nat → ClassId} {a : Nat → Nat} {g u : Nat → Int32} {rv : Nat → Nat → Int32} {i : Nat} (hi : i < 6) (r : Nat → Int32) {fs : List Value} (e : fs = rmF r) : (stW kk a g u rv).set (3 + i) (a (3 + i), .inr (2, fs)) = stW kk a g u (updR rv i r) := by
  subst e
  exact six (P := fun i => (stW kk a g u rv).set (3 + i) (a (3 + i), .inr (2, rmF r)) = stW kk a g u (updR rv i r)) rfl rfl rfl rfl rfl rfl hi
theorem st_putU {kk : Nat → ClassId} {a : Nat → Nat} {g u : Nat → Int32} {rv : Nat → Nat → Int32} {i : Nat} {r1 : Nat → Int32} (hi : i < 6) (r : Nat → Int32) {fs : List Value} (e : fs = rmF r) : (stW kk a g u (updR rv i r1)).set (3 + i) (a (3 + i), .inr (2, fs)) = stW kk a g u (updR rv i r) := by
  rw [st_put hi r e, updR_u]
section TOP
variable {p : Program} {l : Launch} {e : Env} {R : Room} {s : State} {m : MethodId} {args : Array Value} {below : List Frame} {meth : Method} {c : Code} {H : Heap} {locs : List Loc} {cells slots : Nat} {Q : State → Prop} {pc : Nat} {ls : Array Slot} {rest : List Value}
theorem top_eq {x y : Int32} (h : x = y) (k : W p l e R s m args below meth c H locs cells slots Q (F0 m pc ls (.int y :: rest))) : W p l e R s m args below meth c H locs cells slots Q (F0 m pc ls (.int x :: rest)) := by rw [h]; exact k
theorem top_eqL {x y : Int64} (h : x = y) (k : W p l e R s m args below meth c H locs cells slots Q (F0 m pc ls (.long y :: rest))) : W p l e R s m args below meth c H locs cells slots Q (F0 m pc ls (.long x :: rest)) := by rw [h]; exact k
theorem top_eqV {x y : Value} (h : x = y) (k : W p l e R s m args below meth c H locs cells slots Q (F0 m pc ls (y :: rest))) : W p l e R s m args below meth c H locs cells slots Q (F0 m pc ls (x :: rest)) := by rw [h]; exact k
theorem r_mmax {cc : ByteArray} (hexec : p.tables.exec = Jvm.exec) (hb : c.code = cc) (hts : ∀ w ∈ WG, w.before args s = true) {nL : Nat} (hml : c.maxLocals = nL) (hl : ls.size = nL) {own : String} {index : Nat} (hown : s.vm.findClass own = some m.cls) (hlink : Cond.methodLink own index Lib.Math.max.name ∈ WG) (jm : Cond.static Lib.Math.max.name ∈ WG ∧ Cond.initialized "java/lang/Math" ∈ WG ∧ Cond.code Lib.Math.max.name Lib.Math.max.code 2 (some .int) ∈ WG)
    (hframes : 1 ≤ R.frames) (hlocals : (rest.map fun v => v.category).sum + 13 ≤ R.locals) (hc : cells ≤ R.cells) (hs : slots ≤ R.slots) {x y : Int32} (hdg : decode cc pc = .ok (.invokestatic index, 3))
    (kk : W p l e R s m args below meth c H locs cells slots Q (F0 m (pc + 3) ls (.int (if x < y then y else x) :: rest))) : W p l e R s m args below meth c H locs cells slots Q (F0 m pc ls (.int y :: .int x :: rest)) :=
  va_mmax hexec hb (hml.trans hl.symm) hown (hts _ hlink) (hts _ jm.1) (hts _ jm.2.1) (hts _ jm.2.2) hframes hlocals hc hs hdg kk
end TOP
abbrev GO (p : Program) (l : Launch) (e : Env) (rm : Room) (s : State) (m : MethodId) (args : Array Value) (below : List Frame) (meth : Method) (c : Code) (A : Nat → Prop) (Qk : (Nat → Prop) → Array Value → State → Outcome → State → Prop) (H : Heap) (locs : List Loc) (g : JFrame) : Prop := W p l e rm s m args below meth c H locs 0 0 (MQ below (Qk A) args s 0 0 A) g
abbrev rmO (f n : Nat) : Room := { frames := f, cells := 0, slots := 0, locals := n }
theorem r_mmin {p : Program} {l : Launch} {e : Env} {R : Room} {s : State} {m : MethodId} {args : Array Value} {below : List Frame} {meth : Method} {c : Code} {H : Heap} {locs : List Loc} {cells slots : Nat} {Q : State → Prop} {pc : Nat} {ls : Array Slot} {rest : List Value} {cc : ByteArray} (hexec : p.tables.exec = Jvm.exec) (hb : c.code = cc) (hts : ∀ w ∈ WG, w.before args s = true) {nL : Nat} (hml : c.maxLocals = nL) (hl : ls.size = nL) {own : String} {index : Nat} (hown : s.vm.findClass own = some m.cls) (hlink : Cond.methodLink own index Lib.Math.min.name ∈ WG) (jm : Cond.static Lib.Math.min.name ∈ WG ∧ Cond.initialized "java/lang/Math" ∈ WG ∧ Cond.code Lib.Math.min.name Lib.Math.min.code 2 (some .int) ∈ WG)
    (hframes : 1 ≤ R.frames) (hlocals : (rest.map fun v => v.category).sum + 13 ≤ R.locals) (hc : cells ≤ R.cells) (hs : slots ≤ R.slots) {x y : Int32} (hdg : decode cc pc = .ok (.invokestatic index, 3))
    (kk : W p l e R s m args below meth c H locs cells slots Q (F0 m (pc + 3) ls (.int (if y < x then y else x) :: rest))) : W p l e R s m args below meth c H locs cells slots Q (F0 m pc ls (.int y :: .int x :: rest)) :=
  va_mmin hexec hb (hml.trans hl.symm) hown (hts _ hlink) (hts _ jm.1) (hts _ jm.2.1) (hts _ jm.2.2) hframes hlocals hc hs hdg kk
theorem map1 {ws : va_W} {q : Nat} {x : Nat × va_E} (h : ws[q]? = some x) : [q].map (fun i => ws[i]?) = ([x] : va_W).map some := by simp [h]
theorem map2 {ws : va_W} {q1 q2 : Nat} {x1 x2 : Nat × va_E} (h1 : ws[q1]? = some x1) (h2 : ws[q2]? = some x2) : [q1, q2].map (fun i => ws[i]?) = ([x1, x2] : va_W).map some := by simp [h1, h2]
theorem map3 {ws : va_W} {q1 q2 q3 : Nat} {x1 x2 x3 : Nat × va_E} (h1 : ws[q1]? = some x1) (h2 : ws[q2]? = some x2) (h3 : ws[q3]? = some x3) : [q1, q2, q3].map (fun i => ws[i]?) = ([x1, x2, x3] : va_W).map some := by simp [h1, h2, h3]
theorem nd1 (i : Nat) : va_nd [i] = true := by simp [va_nd]
theorem nd03 (i : Nat) : va_nd [0, 3 + i] = true := by simp [va_nd]; omega
theorem nd013 (i : Nat) : va_nd [0, 1, 3 + i] = true := by simp [va_nd]; omega
/-- a choice by an Option -/
def oe {α : Type} (r : Option Nat) (n : α) (f : Nat → α) : α := match r with
  | none => n
  | some k => f k
theorem oe_n {α : Type} {r : Option Nat} {n : α} {f : Nat → α} (h : r = none) : oe r n f = n := by rw [h]; rfl
theorem oe_s {α : Type} {r : Option Nat} {n : α} {f : Nat → α} {k : Nat} (h : r = some k) : oe r n f = f k := by rw [h]; rfl
def zb (x : Int32) : Prop := x = 0 ∨ x = 1
theorem zb_n {x : Int32} (h : zb x) : narrow .boolean (.int x) = .int x := by
  rcases h with rfl | rfl <;> rfl
theorem zb_f {x : Int32} (h : zb x) : fits .boolean (.int x) = true := by
  rcases h with rfl | rfl <;> rfl
theorem zb_0 : zb 0 := Or.inl rfl
theorem zb_1 : zb 1 := Or.inr rfl
theorem zb_if {c : Prop} [Decidable c] {x y : Int32} (h1 : zb x) (h2 : zb y) : zb (if c then x else y) := by
  by_cases h : c
  · rw [if_pos h]; exact h1
  · rw [if_neg h]; exact h2
theorem st_same {kk : Nat → ClassId} {a : Nat → Nat} {g u : Nat → Int32} {rv : Nat → Nat → Int32} {i : Nat} (hi : i < 6) : (stW kk a g u rv).set (3 + i) (a (3 + i), .inr (2, rmF (rv i))) = stW kk a g u rv := by
  rw [st_put hi (rv i) rfl, updR_id]
theorem opt_or (x : Option Nat) : x = none ∨ ∃ k, x = some k := by
  cases x with
  | none => exact Or.inl rfl
  | some k => exact Or.inr ⟨k, rfl⟩
theorem tc_e {i : Int32} (h : ¬ i < 0) : i = nI i.toNatClampNeg := by
  obtain ⟨j, hj, rfl⟩ := nI_of h
  rw [nI_clamp hj]
theorem tc_l {i : Int32} {n : Nat} (h : ¬ i < 0) (h2 : ¬ nI n ≤ i) (hn : n < 2 ^ 31) : i.toNatClampNeg < n := by
  obtain ⟨j, hj, rfl⟩ := nI_of h
  rw [nI_clamp hj]
  rcases Nat.lt_or_ge j n with q | q
  · exact q
  · exact absurd (nI_le q hj) h2
theorem cg1 {α γ : Type} (f : α → γ) {a a' : α} (h1 : a = a') : f a = f a' := by rw [h1]
theorem cg2 {α β γ : Type} (f : α → β → γ) {a a' : α} {b b' : β} (h1 : a = a') (h2 : b = b') : f a b = f a' b' := by rw [h1, h2]
theorem cg3 {α β δ γ : Type} (f : α → β → δ → γ) {a a' : α} {b b' : β} {c c' : δ} (h1 : a = a') (h2 : b = b') (h3 : c = c') : f a b c = f a' b' c' := by rw [h1, h2, h3]
theorem cg4 {α β δ ε γ : Type} (f : α → β → δ → ε → γ) {a a' : α} {b b' : β} {c c' : δ} {d d' : ε} (h1 : a = a') (h2 : b = b') (h3 : c = c') (h4 : d = d') : f a b c d = f a' b' c' d' := by rw [h1, h2, h3, h4]
theorem cg5 {α β δ ε ζ γ : Type} (f : α → β → δ → ε → ζ → γ) {a a' : α} {b b' : β} {c c' : δ} {d d' : ε} {e e' : ζ} (h1 : a = a') (h2 : b = b') (h3 : c = c') (h4 : d = d') (h5 : e = e') : f a b c d e = f a' b' c' d' e' := by rw [h1, h2, h3, h4, h5]
end
section
/-! the addresses stay: said with variables, so that no spec is unfolded -/
theorem ads0 : ([] : va_W).map (fun q => q.1) = ([] : va_W).map (fun q => q.1) := rfl
theorem ads1 {a1 : Nat} {e1 f1 : va_E} : ([(a1, f1)] : va_W).map (fun q => q.1) = ([(a1, e1)] : va_W).map (fun q => q.1) := rfl
theorem ads2 {a1 a2 : Nat} {e1 f1 e2 f2 : va_E} : ([(a1, f1), (a2, f2)] : va_W).map (fun q => q.1) = ([(a1, e1), (a2, e2)] : va_W).map (fun q => q.1) := rfl
theorem ads3 {a1 a2 a3 : Nat} {e1 f1 e2 f2 e3 f3 : va_E} : ([(a1, f1), (a2, f2), (a3, f3)] : va_W).map (fun q => q.1) = ([(a1, e1), (a2, e2), (a3, e3)] : va_W).map (fun q => q.1) := rfl
theorem ads4 {a1 a2 a3 a4 : Nat} {e1 f1 e2 f2 e3 f3 e4 f4 : va_E} : ([(a1, f1), (a2, f2), (a3, f3), (a4, f4)] : va_W).map (fun q => q.1) = ([(a1, e1), (a2, e2), (a3, e3), (a4, e4)] : va_W).map (fun q => q.1) := rfl
theorem ads5 {a1 a2 a3 a4 a5 : Nat} {e1 f1 e2 f2 e3 f3 e4 f4 e5 f5 : va_E} : ([(a1, f1), (a2, f2), (a3, f3), (a4, f4), (a5, f5)] : va_W).map (fun q => q.1) = ([(a1, e1), (a2, e2), (a3, e3), (a4, e4), (a5, e5)] : va_W).map (fun q => q.1) := rfl
theorem ads6 {a1 a2 a3 a4 a5 a6 : Nat} {e1 f1 e2 f2 e3 f3 e4 f4 e5 f5 e6 f6 : va_E} : ([(a1, f1), (a2, f2), (a3, f3), (a4, f4), (a5, f5), (a6, f6)] : va_W).map (fun q => q.1) = ([(a1, e1), (a2, e2), (a3, e3), (a4, e4), (a5, e5), (a6, e6)] : va_W).map (fun q => q.1) := rfl
theorem st_ads {kk : Nat → ClassId} {a : Nat → Nat} {g u g' u' : Nat → Int32} {rv rv' : Nat → Nat → Int32} : (stW kk a g' u' rv').map (fun q => q.1) = (stW kk a g u rv).map (fun q => q.1) := rfl
theorem st_len {kk : Nat → ClassId} {a : Nat → Nat} {g u : Nat → Int32} {rv : Nat → Nat → Int32} : (stW kk a g u rv).length = 9 := rfl
theorem st_mapC {kk : Nat → ClassId} {a : Nat → Nat} {g u : Nat → Int32} {rv : Nat → Nat → Int32} : [0, 1, 2, 3, 4, 5, 6, 7, 8].map (fun i => (stW kk a g u rv)[i]?) = (stW kk a g u rv).map some := rfl
theorem st_full {kk : Nat → ClassId} {a : Nat → Nat} {g u g' u' : Nat → Int32} {rv rv' : Nat → Nat → Int32} : setMany (stW kk a g u rv) [0, 1, 2, 3, 4, 5, 6, 7, 8] (stW kk a g' u' rv') = stW kk a g' u' rv' := rfl
theorem ads_app {p q p' q' : va_W} (h1 : p'.map (fun q => q.1) = p.map (fun q => q.1)) (h2 : q'.map (fun q => q.1) = q.map (fun q => q.1)) : (p' ++ q').map (fun q => q.1) = (p ++ q).map (fun q => q.1) := by rw [List.map_append, List.map_append, h1, h2]
/-- a block in the middle of a world -/
theorem blk_map (pre w post : va_W) : ∀ (n : Nat), pre.length = n → (List.range' n w.length).map (fun i => (pre ++ (w ++ post))[i]?) = w.map some := by
  intro n hn
  subst hn
  apply List.ext_getElem?
  intro j
  rw [List.getElem?_map, List.getElem?_map]
  by_cases hj : j < w.length
  · rw [List.getElem?_range' hj, List.getElem?_eq_getElem hj]
    show some ((pre ++ (w ++ post))[pre.length + 1 * j]?) = some (some w[j])
    rw [Nat.one_mul, List.getElem?_append_right (by omega), Nat.add_sub_cancel_left, List.getElem?_append_left hj, List.getElem?_eq_getElem hj]
  · rw [List.getElem?_eq_none (by simp; omega), List.getElem?_eq_none (by omega)]
    rfl
theorem setMany_pre (x : Nat × va_E) (ws : va_W) : ∀ (is : List Nat) (w1 ws : va_W), setMany (x :: ws) (is.map (· + 1)) w1 = x :: setMany ws is w1
  | [], w1, ws => by simp [setMany]
  | i :: is, [], ws => by simp [setMany]
  | i :: is, y :: ys, ws => by
    simp only [List.map_cons, setMany, List.set_cons_succ]
    exact setMany_pre x ws is ys (ws.set i y)
theorem rng_succ : ∀ (k n : Nat), List.range' (n + 1) k = (List.range' n k).map (· + 1)
  | 0, n => rfl
  | k + 1, n => by
    rw [List.range'_succ, List.range'_succ, List.map_cons, rng_succ k (n + 1)]
theorem blk_set0 (w' post : va_W) : ∀ (w : va_W), w'.length = w.length → setMany (w ++ post) (List.range' 0 w.length) w' = w' ++ post := by
  induction w' with
  | nil =>
    intro w h
    have : w = [] := List.eq_nil_of_length_eq_zero h.symm
    subst this
    rfl
  | cons y ys ih =>
    intro w h
    cases w with
    | nil => simp at h
    | cons x xs =>
      have hl : ys.length = xs.length := by simpa using h
      have e : List.range' 0 (x :: xs).length = 0 :: (List.range' 0 xs.length).map (· + 1) := by
        rw [List.length_cons, List.range'_succ, rng_succ]
      rw [e]
      show setMany ((y :: (xs ++ post))) ((List.range' 0 xs.length).map (· + 1)) ys = _
      rw [setMany_pre y [] , ih xs hl]
      rfl
theorem blk_set (w w' post : va_W) (h : w'.length = w.length) : ∀ (pre : va_W) (n : Nat), pre.length = n → setMany (pre ++ (w ++ post)) (List.range' n w.length) w' = pre ++ (w' ++ post)
  | [], n, hn => by
    subst hn
    exact blk_set0 w' post w h
  | x :: pre, n, hn => by
    subst hn
    have e : List.range' (x :: pre).length w.length = (List.range' pre.length w.length).map (· + 1) := by
      rw [List.length_cons, rng_succ]
    rw [e]
    show setMany (x :: (pre ++ (w ++ post))) _ w' = _
    rw [setMany_pre x [], blk_set w w' post h pre _ rfl]
    rfl
theorem nd_range : ∀ (k n : Nat), va_nd (List.range' n k) = true
  | 0, n => rfl
  | k + 1, n => by
    rw [List.range'_succ]
    simp only [va_nd, Bool.and_eq_true, decide_eq_true_eq]
    exact ⟨by simp; omega, nd_range k (n + 1)⟩
/-- a number of a place, or -1 -/
def ob (w : Option Nat) : Int32 := match w with
  | none => -1
  | some k => nI k
theorem nI_nm1 {k : Nat} (h : k < 2 ^ 31) : ¬ nI k = -1 := by
  intro q
  have h1 := congrArg Int32.toInt q
  rw [nI_toInt h] at h1
  have h2 : (-1 : Int32).toInt = -1 := by decide
  omega
end
section
def sX8_in (v : Int64) (lo : Int64) (hi : Int64) : Int32 :=
  (if (lg_cmp v lo) < 0 then 0 else (if 0 < (lg_cmp v hi) then 0 else 1))
set_option maxRecDepth 100000 in
set_option maxHeartbeats 4000000 in
theorem c_X8_in (l : Launch) (G : va_G) (kk : Nat → ClassId) (v : Int64) (lo : Int64) (hi : Int64)  : CC l yX8_in cX8_in 6 (some .boolean) (rmO 0 0) [.long v, .long lo, .long hi] G kk ([]) (QI G kk ([]) (sX8_in v lo hi)) := by
  refine cc_start (by decide +kernel) (Nat.le_of_ble_eq_true rfl) ?_
  intro p e s m below meth c A ls hx hb hr hml hown hts hlocks hA hE hK hP hD hS hl
  have hown : s.vm.findClass RX8 = some m.cls := hown
  have hl : lv_has ls 6 [(0, .long v), (2, .long lo), (4, .long hi)] := hl
  have eS : sX8_in v lo hi = sX8_in v lo hi := rfl
  refine lv_lload_n hx hb dX8_in_0 rfl (lv_at hl 0 rfl) ?_
  refine lv_lload_n hx hb dX8_in_1 rfl (lv_at hl 1 rfl) ?_
  refine W.lcmp hx hb dX8_in_2 ?_
  refine lv_if_lt (tgt := 17) hx hb dX8_in_3 (by decide) (fun c_1 => ?_) (fun c_1 => ?_)
  · have eS := eS.trans (if_pos c_1)
    refine lv_iconst (v := 0) hx hb dX8_in_17 (by decide) ?_
    exact fin_z hx hb hr hlocks hK hP hD hS eS rfl dX8_in_18
  · have eS := eS.trans (if_neg c_1)
    refine lv_lload_n hx hb dX8_in_6 rfl (lv_at hl 0 rfl) ?_
    refine lv_lload hx hb dX8_in_7 (lv_at hl 2 rfl) ?_
    refine W.lcmp hx hb dX8_in_9 ?_
    refine lv_if_gt (tgt := 17) hx hb dX8_in_10 (by decide) (fun c_2 => ?_) (fun c_2 => ?_)
    · have eS := eS.trans (if_pos c_2)
      refine lv_iconst (v := 0) hx hb dX8_in_17 (by decide) ?_
      exact fin_z hx hb hr hlocks hK hP hD hS eS rfl dX8_in_18
    · have eS := eS.trans (if_neg c_2)
      refine lv_iconst (v := 1) hx hb dX8_in_13 (by decide) ?_
      refine lv_goto (tgt := 18) hx hb dX8_in_14 (by decide) ?_
      exact fin_z hx hb hr hlocks hK hP hD hS eS rfl dX8_in_18
theorem in_zb (v lo hi : Int64) : zb (sX8_in v lo hi) := by
  unfold sX8_in
  exact zb_if zb_0 (zb_if zb_0 zb_1)
theorem fle {x : Int32} {n i : Nat} (e : x = nI n) (h : n ≤ i) (hi : i < 2 ^ 31) : x ≤ nI i := by rw [e]; exact nI_le h hi
theorem fgt {x : Int32} {n i : Nat} (e : x = nI n) (h : i < n) (hn : n < 2 ^ 31) : ¬ x ≤ nI i := by rw [e]; exact nI_ge h hn
def lp_X8_copyState_3 (p0 : Nat) (q0 : Nat) (f : Nat → Int32) (f2 : Nat → Int32) : Nat → Nat → (Nat → Int32) → (Nat → Int32)
  | 0, i, f3 => f3
  | d + 1, i, f3 => (lp_X8_copyState_3 p0 q0 f f2 d (i + 1) (upd f3 (q0 + i) (f (p0 + i))))
def sX8_copyState (p0 : Nat) (q0 : Nat) (f : Nat → Int32) (f2 : Nat → Int32) : (Nat → Int32) :=
  (lp_X8_copyState_3 p0 q0 f f2 64 0 f2)
set_option maxRecDepth 100000 in
set_option maxHeartbeats 4000000 in
theorem c_X8_copyState (l : Launch) (G : va_G) (kk : Nat → ClassId) (fa : Nat) (p0 : Nat) (ta : Nat) (q0 : Nat) (n1 : Nat) (n2 : Nat) (f : Nat → Int32) (f2 : Nat → Int32) (hp : p0 + 64 ≤ n1) (hq : q0 + 64 ≤ n2) (hb1 : n1 < 2 ^ 31) (hb2 : n2 < 2 ^ 31) : CC l yX8_copyState cX8_copyState 5 none (rmO 0 0) [.ref fa, .int (nI p0), .ref ta, .int (nI q0)] G kk ([(fa, .inl (kk 0, n1, .inl f)), (ta, .inl (kk 0, n2, .inl f2))]) (QV G kk ([(fa, .inl (kk 0, n1, .inl f)), (ta, .inl (kk 0, n2, .inl (sX8_copyState p0 q0 f f2)))])) := by
  refine cc_start (by decide +kernel) (Nat.le_of_ble_eq_true rfl) ?_
  intro p e s m below meth c A ls hx hb hr hml hown hts hlocks hA hE hK hP hD hS hl
  have hown : s.vm.findClass RX8 = some m.cls := hown
  have hl : lv_has ls 5 [(0, .ref fa), (1, .int (nI p0)), (2, .ref ta), (3, .int (nI q0))] := hl
  have eS : sX8_copyState p0 q0 f f2 = sX8_copyState p0 q0 f f2 := rfl
  refine lv_iconst (v := 0) hx hb dX8_copyState_0 (by decide) ?_
  refine lv_istore (lv' := [(4, .int 0), (0, .ref fa), (1, .int (nI p0)), (2, .ref ta), (3, .int (nI q0))]) hx hb dX8_copyState_1 hl (by decide) rfl (fun ls hl => ?_)
  have L_3 : ∀ (d : Nat) (i : Nat) (f3 : Nat → Int32) (hd : i + d = 64) (eS : sX8_copyState p0 q0 f f2 = lp_X8_copyState_3 p0 q0 f f2 d i f3) (H : Heap) (locs : List Loc) (ls : Array Slot) (hP : va_P G vwCl ([(fa, .inl (kk 0, n1, .inl f)), (ta, .inl (kk 0, n2, .inl f3))]) H) (hD : va_D A ([(fa, .inl (kk 0, n1, .inl f)), (ta, .inl (kk 0, n2, .inl f3))])) (hS : va_S A s.heap H locs) (hl : lv_has ls 5 [(0, .ref fa), (1, .int (nI p0)), (2, .ref ta), (3, .int (nI q0)), (4, .int (nI i))]), GO p l e (rmO 0 0) s m ([.ref fa, .int (nI p0), .ref ta, .int (nI q0)] : List Value).toArray below meth c A (QV G kk ([(fa, .inl (kk 0, n1, .inl f)), (ta, .inl (kk 0, n2, .inl (sX8_copyState p0 q0 f f2)))])) H locs (F0 m 3 ls []) := by
    intro d
    induction d with
    | zero =>
      intro i f3 hd eS H locs ls hP hD hS hl
      refine lv_iload hx hb dX8_copyState_3 (lv_at hl 4 rfl) ?_
      refine lv_bipush (v := 64) hx hb dX8_copyState_5 (by decide) ?_
      refine lv_icmp_ge (tgt := 28) hx hb dX8_copyState_7 (by decide) (fun c_1 => ?_) (fun c_1 => absurd (nI_le (a := 64) (b := i) (by omega) (by omega)) c_1)
      exact fin_v hx hb hr hlocks hK (vP_eq (congrArg (fun z : (Nat → Int32) => ([(fa, .inl (kk 0, n1, .inl f)), (ta, .inl (kk 0, n2, .inl z))] : va_W)) eS.symm) hP) (vD_eq (congrArg (fun z : (Nat → Int32) => ([(fa, .inl (kk 0, n1, .inl f)), (ta, .inl (kk 0, n2, .inl z))] : va_W)) eS.symm) hD) hS dX8_copyState_28
    | succ d ih =>
      intro i f3 hd eS H locs ls hP hD hS hl
      refine lv_iload hx hb dX8_copyState_3 (lv_at hl 4 rfl) ?_
      refine lv_bipush (v := 64) hx hb dX8_copyState_5 (by decide) ?_
      refine lv_icmp_ge (tgt := 28) hx hb dX8_copyState_7 (by decide) (fun c_2 => absurd c_2 (nI_ge (a := i) (b := 64) (by omega) (by omega))) (fun c_2 => ?_)
      refine lv_aload_n hx hb dX8_copyState_10 rfl (lv_at hl 2 rfl) ?_
      refine lv_iload_n hx hb dX8_copyState_11 rfl (lv_at hl 3 rfl) ?_
      refine lv_iload hx hb dX8_copyState_12 (lv_at hl 4 rfl) ?_
      refine lv_iadd hx hb dX8_copyState_14 ?_
      refine top_eq (nI_add q0 i) ?_
      refine lv_aload_n hx hb dX8_copyState_15 rfl (lv_at hl 0 rfl) ?_
      refine lv_iload_n hx hb dX8_copyState_16 rfl (lv_at hl 1 rfl) ?_
      refine lv_iload hx hb dX8_copyState_17 (lv_at hl 4 rfl) ?_
      refine lv_iadd hx hb dX8_copyState_19 ?_
      refine top_eq (nI_add p0 i) ?_
      refine r_iald hx hb hK hP 0 rfl (p0 + i) rfl (by omega) (by omega) dX8_copyState_20 ?_
      refine r_iast hx hb hK hP hD hS 1 rfl (q0 + i) rfl (by omega) (by omega) dX8_copyState_21 (fun H locs hP hD hS => ?_)
      replace hP : va_P G vwCl ([(fa, .inl (kk 0, n1, .inl f)), (ta, .inl (kk 0, n2, .inl (upd f3 (q0 + i) (f (p0 + i)))))]) H := hP
      replace hD : va_D A ([(fa, .inl (kk 0, n1, .inl f)), (ta, .inl (kk 0, n2, .inl (upd f3 (q0 + i) (f (p0 + i)))))]) := hD
      refine lv_iinc (v := (nI (i + 1))) (lv' := [(4, .int (nI (i + 1))), (0, .ref fa), (1, .int (nI p0)), (2, .ref ta), (3, .int (nI q0))]) hx hb dX8_copyState_22 hl (k := 4) rfl (nI_add i 1) (by decide) rfl (fun ls hl => ?_)
      refine lv_goto (tgt := 3) hx hb dX8_copyState_25 (by decide) ?_
      exact ih (i + 1) (upd f3 (q0 + i) (f (p0 + i))) (by omega) eS _ _ ls hP hD hS (lv_sub hl [1, 2, 3, 4, 0] rfl)
  exact L_3 64 0 f2 (Nat.zero_add _) eS _ _ ls hP hD hS (lv_sub hl [1, 2, 3, 4, 0] rfl)
def lp_X8_clear_2 (f : Nat → Int32) : Nat → Nat → (Nat → Int32) → (Nat → Int32)
  | 0, i, f1 => (upd (upd (upd (upd (upd f1 10 600) 12 10) 13 12) 14 30) 15 6)
  | d + 1, i, f1 => (lp_X8_clear_2 f d (i + 1) (upd f1 i 0))
def sX8_clear (f : Nat → Int32) : (Nat → Int32) :=
  (lp_X8_clear_2 f 64 0 f)
set_option maxRecDepth 100000 in
set_option maxHeartbeats 4000000 in
theorem c_X8_clear (l : Launch) (G : va_G) (kk : Nat → ClassId) (ra : Nat) (f : Nat → Int32)  : CC l yX8_clear cX8_clear 2 none (rmO 0 0) [.ref ra] G kk ([(ra, .inl (kk 0, 64, .inl f))]) (QV G kk ([(ra, .inl (kk 0, 64, .inl (sX8_clear f)))])) := by
  refine cc_start (by decide +kernel) (Nat.le_of_ble_eq_true rfl) ?_
  intro p e s m below meth c A ls hx hb hr hml hown hts hlocks hA hE hK hP hD hS hl
  have hown : s.vm.findClass RX8 = some m.cls := hown
  have hl : lv_has ls 2 [(0, .ref ra)] := hl
  have eS : sX8_clear f = sX8_clear f := rfl
  refine lv_iconst (v := 0) hx hb dX8_clear_0 (by decide) ?_
  refine lv_istore_n (lv' := [(1, .int 0), (0, .ref ra)]) hx hb dX8_clear_1 rfl hl (by decide) rfl (fun ls hl => ?_)
  have L_3 : ∀ (d : Nat) (i : Nat) (f1 : Nat → Int32) (hd : i + d = 64) (eS : sX8_clear f = lp_X8_clear_2 f d i f1) (H : Heap) (locs : List Loc) (ls : Array Slot) (hP : va_P G vwCl ([(ra, .inl (kk 0, 64, .inl f1))]) H) (hD : va_D A ([(ra, .inl (kk 0, 64, .inl f1))])) (hS : va_S A s.heap H locs) (hl : lv_has ls 2 [(0, .ref ra), (1, .int (nI i))]), GO p l e (rmO 0 0) s m ([.ref ra] : List Value).toArray below meth c A (QV G kk ([(ra, .inl (kk 0, 64, .inl (sX8_clear f)))])) H locs (F0 m 2 ls []) := by
    intro d
    induction d with
    | zero =>
      intro i f1 hd eS H locs ls hP hD hS hl
      refine lv_iload_n hx hb dX8_clear_2 rfl (lv_at hl 1 rfl) ?_
      refine lv_bipush (v := 64) hx hb dX8_clear_3 (by decide) ?_
      refine lv_icmp_ge (tgt := 18) hx hb dX8_clear_5 (by decide) (fun c_1 => ?_) (fun c_1 => absurd (nI_le (a := 64) (b := i) (by omega) (by omega)) c_1)
      refine lv_aload_n hx hb dX8_clear_18 rfl (lv_at hl 0 rfl) ?_
      refine lv_bipush (v := 10) hx hb dX8_clear_19 (by decide) ?_
      refine lv_sipush (v := 600) hx hb dX8_clear_21 (by decide) ?_
      refine r_iast hx hb hK hP hD hS 0 rfl 10 rfl (by decide) (by decide) dX8_clear_24 (fun H locs hP hD hS => ?_)
      replace hP : va_P G vwCl ([(ra, .inl (kk 0, 64, .inl (upd f1 10 600)))]) H := hP
      replace hD : va_D A ([(ra, .inl (kk 0, 64, .inl (upd f1 10 600)))]) := hD
      refine lv_aload_n hx hb dX8_clear_25 rfl (lv_at hl 0 rfl) ?_
      refine lv_bipush (v := 12) hx hb dX8_clear_26 (by decide) ?_
      refine lv_bipush (v := 10) hx hb dX8_clear_28 (by decide) ?_
      refine r_iast hx hb hK hP hD hS 0 rfl 12 rfl (by decide) (by decide) dX8_clear_30 (fun H locs hP hD hS => ?_)
      replace hP : va_P G vwCl ([(ra, .inl (kk 0, 64, .inl (upd (upd f1 10 600) 12 10)))]) H := hP
      replace hD : va_D A ([(ra, .inl (kk 0, 64, .inl (upd (upd f1 10 600) 12 10)))]) := hD
      refine lv_aload_n hx hb dX8_clear_31 rfl (lv_at hl 0 rfl) ?_
      refine lv_bipush (v := 13) hx hb dX8_clear_32 (by decide) ?_
      refine lv_bipush (v := 12) hx hb dX8_clear_34 (by decide) ?_
      refine r_iast hx hb hK hP hD hS 0 rfl 13 rfl (by decide) (by decide) dX8_clear_36 (fun H locs hP hD hS => ?_)
      replace hP : va_P G vwCl ([(ra, .inl (kk 0, 64, .inl (upd (upd (upd f1 10 600) 12 10) 13 12)))]) H := hP
      replace hD : va_D A ([(ra, .inl (kk 0, 64, .inl (upd (upd (upd f1 10 600) 12 10) 13 12)))]) := hD
      refine lv_aload_n hx hb dX8_clear_37 rfl (lv_at hl 0 rfl) ?_
      refine lv_bipush (v := 14) hx hb dX8_clear_38 (by decide) ?_
      refine lv_bipush (v := 30) hx hb dX8_clear_40 (by decide) ?_
      refine r_iast hx hb hK hP hD hS 0 rfl 14 rfl (by decide) (by decide) dX8_clear_42 (fun H locs hP hD hS => ?_)
      replace hP : va_P G vwCl ([(ra, .inl (kk 0, 64, .inl (upd (upd (upd (upd f1 10 600) 12 10) 13 12) 14 30)))]) H := hP
      replace hD : va_D A ([(ra, .inl (kk 0, 64, .inl (upd (upd (upd (upd f1 10 600) 12 10) 13 12) 14 30)))]) := hD
      refine lv_aload_n hx hb dX8_clear_43 rfl (lv_at hl 0 rfl) ?_
      refine lv_bipush (v := 15) hx hb dX8_clear_44 (by decide) ?_
      refine lv_bipush (v := 6) hx hb dX8_clear_46 (by decide) ?_
      refine r_iast hx hb hK hP hD hS 0 rfl 15 rfl (by decide) (by decide) dX8_clear_48 (fun H locs hP hD hS => ?_)
      replace hP : va_P G vwCl ([(ra, .inl (kk 0, 64, .inl (upd (upd (upd (upd (upd f1 10 600) 12 10) 13 12) 14 30) 15 6)))]) H := hP
      replace hD : va_D A ([(ra, .inl (kk 0, 64, .inl (upd (upd (upd (upd (upd f1 10 600) 12 10) 13 12) 14 30) 15 6)))]) := hD
      exact fin_v hx hb hr hlocks hK (vP_eq (congrArg (fun z : (Nat → Int32) => ([(ra, .inl (kk 0, 64, .inl z))] : va_W)) eS.symm) hP) (vD_eq (congrArg (fun z : (Nat → Int32) => ([(ra, .inl (kk 0, 64, .inl z))] : va_W)) eS.symm) hD) hS dX8_clear_49
    | succ d ih =>
      intro i f1 hd eS H locs ls hP hD hS hl
      refine lv_iload_n hx hb dX8_clear_2 rfl (lv_at hl 1 rfl) ?_
      refine lv_bipush (v := 64) hx hb dX8_clear_3 (by decide) ?_
      refine lv_icmp_ge (tgt := 18) hx hb dX8_clear_5 (by decide) (fun c_2 => absurd c_2 (nI_ge (a := i) (b := 64) (by omega) (by omega))) (fun c_2 => ?_)
      refine lv_aload_n hx hb dX8_clear_8 rfl (lv_at hl 0 rfl) ?_
      refine lv_iload_n hx hb dX8_clear_9 rfl (lv_at hl 1 rfl) ?_
      refine lv_iconst (v := 0) hx hb dX8_clear_10 (by decide) ?_
      refine r_iast hx hb hK hP hD hS 0 rfl i rfl (by omega) (by decide) dX8_clear_11 (fun H locs hP hD hS => ?_)
      replace hP : va_P G vwCl ([(ra, .inl (kk 0, 64, .inl (upd f1 i 0)))]) H := hP
      replace hD : va_D A ([(ra, .inl (kk 0, 64, .inl (upd f1 i 0)))]) := hD
      refine lv_iinc (v := (nI (i + 1))) (lv' := [(1, .int (nI (i + 1))), (0, .ref ra)]) hx hb dX8_clear_12 hl (k := 1) rfl (nI_add i 1) (by decide) rfl (fun ls hl => ?_)
      refine lv_goto (tgt := 2) hx hb dX8_clear_15 (by decide) ?_
      exact ih (i + 1) (upd f1 i 0) (by omega) eS _ _ ls hP hD hS (lv_sub hl [1, 0] rfl)
  exact L_3 64 0 f (Nat.zero_add _) eS _ _ ls hP hD hS (lv_sub hl [1, 0] rfl)
def sX8_isRoom (f : Nat → Int32) (i : Int32) : Int32 :=
  (sX8_in (i.toInt64) 0 (((f 0) - 1).toInt64))
set_option maxRecDepth 100000 in
set_option maxHeartbeats 4000000 in
theorem c_X8_isRoom (l : Launch) (G : va_G) (kk : Nat → ClassId) (ra : Nat) (f : Nat → Int32) (i : Int32)  : CC l yX8_isRoom cX8_isRoom 2 (some .boolean) (rmO 1 25) [.ref ra, .int i] G kk ([(ra, .inl (kk 0, 64, .inl f))]) (QI G kk ([(ra, .inl (kk 0, 64, .inl f))]) (sX8_isRoom f i)) := by
  refine cc_start (by decide +kernel) (Nat.le_of_ble_eq_true rfl) ?_
  intro p e s m below meth c A ls hx hb hr hml hown hts hlocks hA hE hK hP hD hS hl
  have hown : s.vm.findClass RX8 = some m.cls := hown
  have hl : lv_has ls 2 [(0, .ref ra), (1, .int i)] := hl
  have eS : sX8_isRoom f i = sX8_isRoom f i := rfl
  refine lv_iload_n hx hb dX8_isRoom_0 rfl (lv_at hl 1 rfl) ?_
  refine lv_i2l (v := (i.toInt64)) hx hb dX8_isRoom_1 (by first | rfl | decide) ?_
  refine lv_lconst (v := 0) hx hb dX8_isRoom_2 rfl ?_
  refine lv_aload_n hx hb dX8_isRoom_3 rfl (lv_at hl 0 rfl) ?_
  refine lv_iconst (v := 0) hx hb dX8_isRoom_4 (by decide) ?_
  refine r_iald hx hb hK hP 0 rfl 0 rfl (by decide) (by decide) dX8_isRoom_5 ?_
  refine lv_iconst (v := 1) hx hb dX8_isRoom_6 (by decide) ?_
  refine lv_isub hx hb dX8_isRoom_7 ?_
  refine lv_i2l (v := (((f 0) - 1).toInt64)) hx hb dX8_isRoom_8 (by first | rfl | decide) ?_
  refine k_goI (k_runS (rest := []) (As := [.long (i.toInt64), .long 0, .long (((f 0) - 1).toInt64)]) hx hb hml hown hts hK hP hD hS hA hE hl.1 (c_X8_in l G kk (i.toInt64) 0 (((f 0) - 1).toInt64) ) sl_X8_40 ⟨Nat.le_of_ble_eq_true rfl, Nat.le_of_ble_eq_true rfl, rfl, rfl⟩ [] rfl rfl ⟨Nat.zero_le _, Nat.zero_le _⟩ rfl (Nat.le_of_ble_eq_true rfl) dX8_isRoom_9) hP hD hS hA [] rfl ads0 (fun H locs hP hD hS => ?_)
  replace hP : va_P G vwCl ([(ra, .inl (kk 0, 64, .inl f))]) H := hP
  replace hD : va_D A ([(ra, .inl (kk 0, 64, .inl f))]) := hD
  exact fin_z hx hb hr hlocks hK hP hD hS eS (zb_n (in_zb _ _ _)) dX8_isRoom_12
def sX8_of (f : Nat → Int32) (i : Nat) (w : Nat) : Int32 :=
  (f ((16 + (8 * i)) + w))
set_option maxRecDepth 100000 in
set_option maxHeartbeats 4000000 in
theorem c_X8_of (l : Launch) (G : va_G) (kk : Nat → ClassId) (ra : Nat) (f : Nat → Int32) (i : Nat) (w : Nat) (hi : 16 + 8 * i + w < 64) : CC l yX8_of cX8_of 3 (some .int) (rmO 0 0) [.ref ra, .int (nI i), .int (nI w)] G kk ([(ra, .inl (kk 0, 64, .inl f))]) (QI G kk ([(ra, .inl (kk 0, 64, .inl f))]) (sX8_of f i w)) := by
  refine cc_start (by decide +kernel) (Nat.le_of_ble_eq_true rfl) ?_
  intro p e s m below meth c A ls hx hb hr hml hown hts hlocks hA hE hK hP hD hS hl
  have hown : s.vm.findClass RX8 = some m.cls := hown
  have hl : lv_has ls 3 [(0, .ref ra), (1, .int (nI i)), (2, .int (nI w))] := hl
  have eS : sX8_of f i w = sX8_of f i w := rfl
  refine lv_aload_n hx hb dX8_of_0 rfl (lv_at hl 0 rfl) ?_
  refine lv_bipush (v := 16) hx hb dX8_of_1 (by decide) ?_
  refine lv_bipush (v := 8) hx hb dX8_of_3 (by decide) ?_
  refine lv_iload_n hx hb dX8_of_5 rfl (lv_at hl 1 rfl) ?_
  refine lv_imul hx hb dX8_of_6 ?_
  refine top_eq (pk_mul 8 i) ?_
  refine lv_iadd hx hb dX8_of_7 ?_
  refine top_eq (nI_add 16 (8 * i)) ?_
  refine lv_iload_n hx hb dX8_of_8 rfl (lv_at hl 2 rfl) ?_
  refine lv_iadd hx hb dX8_of_9 ?_
  refine top_eq (nI_add (16 + (8 * i)) w) ?_
  refine r_iald hx hb hK hP 0 rfl ((16 + (8 * i)) + w) rfl (by omega) (by decide) dX8_of_10 ?_
  exact fin_i hx hb hr hlocks hK hP hD hS eS dX8_of_11
def sX8_lay (f : Nat → Int32) (i : Nat) (w : Nat) (v : Int32) : (Nat → Int32) :=
  (upd f ((16 + (8 * i)) + w) v)
set_option maxRecDepth 100000 in
set_option maxHeartbeats 4000000 in
theorem c_X8_lay (l : Launch) (G : va_G) (kk : Nat → ClassId) (ra : Nat) (f : Nat → Int32) (i : Nat) (w : Nat) (v : Int32) (hi : 16 + 8 * i + w < 64) : CC l yX8_lay cX8_lay 4 none (rmO 0 0) [.ref ra, .int (nI i), .int (nI w), .int v] G kk ([(ra, .inl (kk 0, 64, .inl f))]) (QV G kk ([(ra, .inl (kk 0, 64, .inl (sX8_lay f i w v)))])) := by
  refine cc_start (by decide +kernel) (Nat.le_of_ble_eq_true rfl) ?_
  intro p e s m below meth c A ls hx hb hr hml hown hts hlocks hA hE hK hP hD hS hl
  have hown : s.vm.findClass RX8 = some m.cls := hown
  have hl : lv_has ls 4 [(0, .ref ra), (1, .int (nI i)), (2, .int (nI w)), (3, .int v)] := hl
  have eS : sX8_lay f i w v = sX8_lay f i w v := rfl
  refine lv_aload_n hx hb dX8_lay_0 rfl (lv_at hl 0 rfl) ?_
  refine lv_bipush (v := 16) hx hb dX8_lay_1 (by decide) ?_
  refine lv_bipush (v := 8) hx hb dX8_lay_3 (by decide) ?_
  refine lv_iload_n hx hb dX8_lay_5 rfl (lv_at hl 1 rfl) ?_
  refine lv_imul hx hb dX8_lay_6 ?_
  refine top_eq (pk_mul 8 i) ?_
  refine lv_iadd hx hb dX8_lay_7 ?_
  refine top_eq (nI_add 16 (8 * i)) ?_
  refine lv_iload_n hx hb dX8_lay_8 rfl (lv_at hl 2 rfl) ?_
  refine lv_iadd hx hb dX8_lay_9 ?_
  refine top_eq (nI_add (16 + (8 * i)) w) ?_
  refine lv_iload_n hx hb dX8_lay_10 rfl (lv_at hl 3 rfl) ?_
  refine r_iast hx hb hK hP hD hS 0 rfl ((16 + (8 * i)) + w) rfl (by omega) (by decide) dX8_lay_11 (fun H locs hP hD hS => ?_)
  replace hP : va_P G vwCl ([(ra, .inl (kk 0, 64, .inl (upd f ((16 + (8 * i)) + w) v)))]) H := hP
  replace hD : va_D A ([(ra, .inl (kk 0, 64, .inl (upd f ((16 + (8 * i)) + w) v)))]) := hD
  exact fin_v hx hb hr hlocks hK (vP_eq (congrArg (fun z : (Nat → Int32) => ([(ra, .inl (kk 0, 64, .inl z))] : va_W)) eS.symm) hP) (vD_eq (congrArg (fun z : (Nat → Int32) => ([(ra, .inl (kk 0, 64, .inl z))] : va_W)) eS.symm) hD) hS dX8_lay_12
def sX8_isWarm (f : Nat → Int32) (i : Nat) : Int32 :=
  (if (sX8_of f i 3) < (sX8_of f i 2) then 0 else 1)
set_option maxRecDepth 100000 in
set_option maxHeartbeats 4000000 in
theorem c_X8_isWarm (l : Launch) (G : va_G) (kk : Nat → ClassId) (ra : Nat) (f : Nat → Int32) (i : Nat) (hi : i < 6) : CC l yX8_isWarm cX8_isWarm 2 (some .boolean) (rmO 1 22) [.ref ra, .int (nI i)] G kk ([(ra, .inl (kk 0, 64, .inl f))]) (QI G kk ([(ra, .inl (kk 0, 64, .inl f))]) (sX8_isWarm f i)) := by
  refine cc_start (by decide +kernel) (Nat.le_of_ble_eq_true rfl) ?_
  intro p e s m below meth c A ls hx hb hr hml hown hts hlocks hA hE hK hP hD hS hl
  have hown : s.vm.findClass RX8 = some m.cls := hown
  have hl : lv_has ls 2 [(0, .ref ra), (1, .int (nI i))] := hl
  have eS : sX8_isWarm f i = sX8_isWarm f i := rfl
  refine lv_aload_n hx hb dX8_isWarm_0 rfl (lv_at hl 0 rfl) ?_
  refine lv_iload_n hx hb dX8_isWarm_1 rfl (lv_at hl 1 rfl) ?_
  refine lv_iconst (v := 3) hx hb dX8_isWarm_2 (by decide) ?_
  refine k_goI (k_runS (rest := []) (As := [.ref ra, .int (nI i), .int 3]) hx hb hml hown hts hK hP hD hS hA hE hl.1 (c_X8_of l G kk ra f i 3 (by omega)) sl_X8_44 ⟨Nat.le_of_ble_eq_true rfl, Nat.le_of_ble_eq_true rfl, rfl, rfl⟩ [0] rfl rfl ⟨Nat.zero_le _, Nat.zero_le _⟩ rfl (Nat.le_of_ble_eq_true rfl) dX8_isWarm_3) hP hD hS hA [0] rfl ads1 (fun H locs hP hD hS => ?_)
  replace hP : va_P G vwCl ([(ra, .inl (kk 0, 64, .inl f))]) H := hP
  replace hD : va_D A ([(ra, .inl (kk 0, 64, .inl f))]) := hD
  refine lv_aload_n hx hb dX8_isWarm_6 rfl (lv_at hl 0 rfl) ?_
  refine lv_iload_n hx hb dX8_isWarm_7 rfl (lv_at hl 1 rfl) ?_
  refine lv_iconst (v := 2) hx hb dX8_isWarm_8 (by decide) ?_
  refine k_goI (k_runS (rest := [.int (sX8_of f i 3)]) (As := [.ref ra, .int (nI i), .int 2]) hx hb hml hown hts hK hP hD hS hA hE hl.1 (c_X8_of l G kk ra f i 2 (by omega)) sl_X8_44 ⟨Nat.le_of_ble_eq_true rfl, Nat.le_of_ble_eq_true rfl, rfl, rfl⟩ [0] rfl rfl ⟨Nat.zero_le _, Nat.zero_le _⟩ rfl (Nat.le_of_ble_eq_true rfl) dX8_isWarm_9) hP hD hS hA [0] rfl ads1 (fun H locs hP hD hS => ?_)
  replace hP : va_P G vwCl ([(ra, .inl (kk 0, 64, .inl f))]) H := hP
  replace hD : va_D A ([(ra, .inl (kk 0, 64, .inl f))]) := hD
  refine lv_icmp_lt (tgt := 19) hx hb dX8_isWarm_12 (by decide) (fun c_1 => ?_) (fun c_1 => ?_)
  · have eS := eS.trans (if_pos c_1)
    refine lv_iconst (v := 0) hx hb dX8_isWarm_19 (by decide) ?_
    exact fin_z hx hb hr hlocks hK hP hD hS eS rfl dX8_isWarm_20
  · have eS := eS.trans (if_neg c_1)
    refine lv_iconst (v := 1) hx hb dX8_isWarm_15 (by decide) ?_
    refine lv_goto (tgt := 20) hx hb dX8_isWarm_16 (by decide) ?_
    exact fin_z hx hb hr hlocks hK hP hD hS eS rfl dX8_isWarm_20
def sX8_over (f : Nat → Int32) (i : Nat) : Int32 :=
  ((sX8_of f i 3) - (sX8_of f i 1))
set_option maxRecDepth 100000 in
set_option maxHeartbeats 4000000 in
theorem c_X8_over (l : Launch) (G : va_G) (kk : Nat → ClassId) (ra : Nat) (f : Nat → Int32) (i : Nat) (hi : i < 6) : CC l yX8_over cX8_over 2 (some .int) (rmO 1 22) [.ref ra, .int (nI i)] G kk ([(ra, .inl (kk 0, 64, .inl f))]) (QI G kk ([(ra, .inl (kk 0, 64, .inl f))]) (sX8_over f i)) := by
  refine cc_start (by decide +kernel) (Nat.le_of_ble_eq_true rfl) ?_
  intro p e s m below meth c A ls hx hb hr hml hown hts hlocks hA hE hK hP hD hS hl
  have hown : s.vm.findClass RX8 = some m.cls := hown
  have hl : lv_has ls 2 [(0, .ref ra), (1, .int (nI i))] := hl
  have eS : sX8_over f i = sX8_over f i := rfl
  refine lv_aload_n hx hb dX8_over_0 rfl (lv_at hl 0 rfl) ?_
  refine lv_iload_n hx hb dX8_over_1 rfl (lv_at hl 1 rfl) ?_
  refine lv_iconst (v := 3) hx hb dX8_over_2 (by decide) ?_
  refine k_goI (k_runS (rest := []) (As := [.ref ra, .int (nI i), .int 3]) hx hb hml hown hts hK hP hD hS hA hE hl.1 (c_X8_of l G kk ra f i 3 (by omega)) sl_X8_44 ⟨Nat.le_of_ble_eq_true rfl, Nat.le_of_ble_eq_true rfl, rfl, rfl⟩ [0] rfl rfl ⟨Nat.zero_le _, Nat.zero_le _⟩ rfl (Nat.le_of_ble_eq_true rfl) dX8_over_3) hP hD hS hA [0] rfl ads1 (fun H locs hP hD hS => ?_)
  replace hP : va_P G vwCl ([(ra, .inl (kk 0, 64, .inl f))]) H := hP
  replace hD : va_D A ([(ra, .inl (kk 0, 64, .inl f))]) := hD
  refine lv_aload_n hx hb dX8_over_6 rfl (lv_at hl 0 rfl) ?_
  refine lv_iload_n hx hb dX8_over_7 rfl (lv_at hl 1 rfl) ?_
  refine lv_iconst (v := 1) hx hb dX8_over_8 (by decide) ?_
  refine k_goI (k_runS (rest := [.int (sX8_of f i 3)]) (As := [.ref ra, .int (nI i), .int 1]) hx hb hml hown hts hK hP hD hS hA hE hl.1 (c_X8_of l G kk ra f i 1 (by omega)) sl_X8_44 ⟨Nat.le_of_ble_eq_true rfl, Nat.le_of_ble_eq_true rfl, rfl, rfl⟩ [0] rfl rfl ⟨Nat.zero_le _, Nat.zero_le _⟩ rfl (Nat.le_of_ble_eq_true rfl) dX8_over_9) hP hD hS hA [0] rfl ads1 (fun H locs hP hD hS => ?_)
  replace hP : va_P G vwCl ([(ra, .inl (kk 0, 64, .inl f))]) H := hP
  replace hD : va_D A ([(ra, .inl (kk 0, 64, .inl f))]) := hD
  refine lv_isub hx hb dX8_over_12 ?_
  exact fin_i hx hb hr hlocks hK hP hD hS eS dX8_over_13
def sX8_minutesLeft (f : Nat → Int32) : Int32 :=
  (15 - (((f 1) + (f 11)) - ((f 1) + (f 11)) / 15 * 15))
set_option maxRecDepth 100000 in
set_option maxHeartbeats 4000000 in
theorem c_X8_minutesLeft (l : Launch) (G : va_G) (kk : Nat → ClassId) (ra : Nat) (f : Nat → Int32)  : CC l yX8_minutesLeft cX8_minutesLeft 1 (some .int) (rmO 0 0) [.ref ra] G kk ([(ra, .inl (kk 0, 64, .inl f))]) (QI G kk ([(ra, .inl (kk 0, 64, .inl f))]) (sX8_minutesLeft f)) := by
  refine cc_start (by decide +kernel) (Nat.le_of_ble_eq_true rfl) ?_
  intro p e s m below meth c A ls hx hb hr hml hown hts hlocks hA hE hK hP hD hS hl
  have hown : s.vm.findClass RX8 = some m.cls := hown
  have hl : lv_has ls 1 [(0, .ref ra)] := hl
  have eS : sX8_minutesLeft f = sX8_minutesLeft f := rfl
  refine lv_bipush (v := 15) hx hb dX8_minutesLeft_0 (by decide) ?_
  refine lv_aload_n hx hb dX8_minutesLeft_2 rfl (lv_at hl 0 rfl) ?_
  refine lv_iconst (v := 1) hx hb dX8_minutesLeft_3 (by decide) ?_
  refine r_iald hx hb hK hP 0 rfl 1 rfl (by decide) (by decide) dX8_minutesLeft_4 ?_
  refine lv_aload_n hx hb dX8_minutesLeft_5 rfl (lv_at hl 0 rfl) ?_
  refine lv_bipush (v := 11) hx hb dX8_minutesLeft_6 (by decide) ?_
  refine r_iald hx hb hK hP 0 rfl 11 rfl (by decide) (by decide) dX8_minutesLeft_8 ?_
  refine lv_iadd hx hb dX8_minutesLeft_9 ?_
  refine lv_bipush (v := 15) hx hb dX8_minutesLeft_10 (by decide) ?_
  refine lv_irem hx hb dX8_minutesLeft_12 (by decide) ?_
  refine lv_isub hx hb dX8_minutesLeft_13 ?_
  exact fin_i hx hb hr hlocks hK hP hD hS eS dX8_minutesLeft_14
def sX8_fits (q : Nat → Int32) (f : Nat → Int32) (k : Int32) : Int32 :=
  (if (f 10) < ((f 2) + (((k + (q 10)) + (f 12)) * (sX8_minutesLeft f))) then 0 else 1)
set_option maxRecDepth 100000 in
set_option maxHeartbeats 4000000 in
theorem c_X8_fits (l : Launch) (G : va_G) (kk : Nat → ClassId) (h : Nat) (b : Nat → Nat) (q : Nat → Int32) (ra : Nat) (f : Nat → Int32) (k : Int32)  : CC l yX8_fits cX8_fits 3 (some .boolean) (rmO 1 20) [.ref h, .ref ra, .int k] G kk ([(h, .inr (8, moF b q)), (ra, .inl (kk 0, 64, .inl f))]) (QI G kk ([(h, .inr (8, moF b q)), (ra, .inl (kk 0, 64, .inl f))]) (sX8_fits q f k)) := by
  refine cc_start (by decide +kernel) (Nat.le_of_ble_eq_true rfl) ?_
  intro p e s m below meth c A ls hx hb hr hml hown hts hlocks hA hE hK hP hD hS hl
  have hown : s.vm.findClass RX8 = some m.cls := hown
  have hl : lv_has ls 3 [(0, .ref h), (1, .ref ra), (2, .int k)] := hl
  have eS : sX8_fits q f k = sX8_fits q f k := rfl
  refine lv_aload_n hx hb dX8_fits_0 rfl (lv_at hl 1 rfl) ?_
  refine lv_iconst (v := 2) hx hb dX8_fits_1 (by decide) ?_
  refine r_iald hx hb hK hP 1 rfl 2 rfl (by decide) (by decide) dX8_fits_2 ?_
  refine lv_iload_n hx hb dX8_fits_3 rfl (lv_at hl 2 rfl) ?_
  refine lv_aload_n hx hb dX8_fits_4 rfl (lv_at hl 0 rfl) ?_
  refine r_get (v := .int (q 10)) hx hb hts hown hK hP fl_X8_48 0 rfl rfl dX8_fits_5 ?_
  refine lv_iadd hx hb dX8_fits_8 ?_
  refine lv_aload_n hx hb dX8_fits_9 rfl (lv_at hl 1 rfl) ?_
  refine lv_bipush (v := 12) hx hb dX8_fits_10 (by decide) ?_
  refine r_iald hx hb hK hP 1 rfl 12 rfl (by decide) (by decide) dX8_fits_12 ?_
  refine lv_iadd hx hb dX8_fits_13 ?_
  refine lv_aload_n hx hb dX8_fits_14 rfl (lv_at hl 1 rfl) ?_
  refine k_goI (k_runS (rest := [.int ((k + (q 10)) + (f 12)), .int (f 2)]) (As := [.ref ra]) hx hb hml hown hts hK hP hD hS hA hE hl.1 (c_X8_minutesLeft l G kk ra f ) sl_X8_51 ⟨Nat.le_of_ble_eq_true rfl, Nat.le_of_ble_eq_true rfl, rfl, rfl⟩ [1] rfl rfl ⟨Nat.zero_le _, Nat.zero_le _⟩ rfl (Nat.le_of_ble_eq_true rfl) dX8_fits_15) hP hD hS hA [1] rfl ads1 (fun H locs hP hD hS => ?_)
  replace hP : va_P G vwCl ([(h, .inr (8, moF b q)), (ra, .inl (kk 0, 64, .inl f))]) H := hP
  replace hD : va_D A ([(h, .inr (8, moF b q)), (ra, .inl (kk 0, 64, .inl f))]) := hD
  refine lv_imul hx hb dX8_fits_18 ?_
  refine lv_iadd hx hb dX8_fits_19 ?_
  refine lv_aload_n hx hb dX8_fits_20 rfl (lv_at hl 1 rfl) ?_
  refine lv_bipush (v := 10) hx hb dX8_fits_21 (by decide) ?_
  refine r_iald hx hb hK hP 1 rfl 10 rfl (by decide) (by decide) dX8_fits_23 ?_
  refine lv_icmp_gt (tgt := 31) hx hb dX8_fits_24 (by decide) (fun c_1 => ?_) (fun c_1 => ?_)
  · have eS := eS.trans (if_pos c_1)
    refine lv_iconst (v := 0) hx hb dX8_fits_31 (by decide) ?_
    exact fin_z hx hb hr hlocks hK hP hD hS eS rfl dX8_fits_32
  · have eS := eS.trans (if_neg c_1)
    refine lv_iconst (v := 1) hx hb dX8_fits_27 (by decide) ?_
    refine lv_goto (tgt := 32) hx hb dX8_fits_28 (by decide) ?_
    exact fin_z hx hb hr hlocks hK hP hD hS eS rfl dX8_fits_32
def sX8_measure_j87 (f : Nat → Int32) (k : Int32) (x_2 : Int32) (x_5 : Int32) (x_7 : Int32) : (Nat → Int32) :=
  (upd (upd (upd (upd (upd (upd f 2 ((f 2) + (k + (f 12)))) 5 ((f 5) + (k + (f 12)))) 1 ((f 1) + 1)) 3 ((f 3) + x_5)) 4 x_7) 2 0)
def sX8_measure_j65 (f : Nat → Int32) (k : Int32) (x_2 : Int32) (x_5 : Int32) : (Nat → Int32) :=
  (sX8_measure_j87 f k x_2 x_5 (if ((f 2) + (k + (f 12))) ≤ (f 4) then (f 4) else ((f 2) + (k + (f 12)))))
def sX8_measure_j20 (f : Nat → Int32) (k : Int32) (x_2 : Int32) : (Nat → Int32) :=
  (if x_2 = 0 then (upd (upd (upd f 2 ((f 2) + (k + (f 12)))) 5 ((f 5) + (k + (f 12)))) 1 ((f 1) + 1)) else (sX8_measure_j65 f k x_2 (if ((f 2) + (k + (f 12))) ≤ (f 10) then 0 else 1)))
def sX8_measure (f : Nat → Int32) (k : Int32) : (Nat → Int32) :=
  (sX8_measure_j20 f k (if (sX8_minutesLeft f) = 1 then 1 else 0))
set_option maxRecDepth 100000 in
set_option maxHeartbeats 4000000 in
theorem c_X8_measure (l : Launch) (G : va_G) (kk : Nat → ClassId) (ra : Nat) (f : Nat → Int32) (k : Int32)  : CC l yX8_measure cX8_measure 4 none (rmO 1 20) [.ref ra, .int k] G kk ([(ra, .inl (kk 0, 64, .inl f))]) (QV G kk ([(ra, .inl (kk 0, 64, .inl (sX8_measure f k)))])) := by
  refine cc_start (by decide +kernel) (Nat.le_of_ble_eq_true rfl) ?_
  intro p e s m below meth c A ls hx hb hr hml hown hts hlocks hA hE hK hP hD hS hl
  have hown : s.vm.findClass RX8 = some m.cls := hown
  have hl : lv_has ls 4 [(0, .ref ra), (1, .int k)] := hl
  have eS : sX8_measure f k = sX8_measure f k := rfl
  refine lv_iload_n hx hb dX8_measure_0 rfl (lv_at hl 1 rfl) ?_
  refine lv_aload_n hx hb dX8_measure_1 rfl (lv_at hl 0 rfl) ?_
  refine lv_bipush (v := 12) hx hb dX8_measure_2 (by decide) ?_
  refine r_iald hx hb hK hP 0 rfl 12 rfl (by decide) (by decide) dX8_measure_4 ?_
  refine lv_iadd hx hb dX8_measure_5 ?_
  refine lv_istore_n (lv' := [(2, .int (k + (f 12))), (0, .ref ra), (1, .int k)]) hx hb dX8_measure_6 rfl hl (by decide) rfl (fun ls hl => ?_)
  refine lv_aload_n hx hb dX8_measure_7 rfl (lv_at hl 1 rfl) ?_
  refine k_goI (k_runS (rest := []) (As := [.ref ra]) hx hb hml hown hts hK hP hD hS hA hE hl.1 (c_X8_minutesLeft l G kk ra f ) sl_X8_51 ⟨Nat.le_of_ble_eq_true rfl, Nat.le_of_ble_eq_true rfl, rfl, rfl⟩ [0] rfl rfl ⟨Nat.zero_le _, Nat.zero_le _⟩ rfl (Nat.le_of_ble_eq_true rfl) dX8_measure_8) hP hD hS hA [0] rfl ads1 (fun H locs hP hD hS => ?_)
  replace hP : va_P G vwCl ([(ra, .inl (kk 0, 64, .inl f))]) H := hP
  replace hD : va_D A ([(ra, .inl (kk 0, 64, .inl f))]) := hD
  refine lv_iconst (v := 1) hx hb dX8_measure_11 (by decide) ?_
  have J_8 : ∀ (x_2 : Int32) (ex_2 : x_2 = (if (sX8_minutesLeft f) = 1 then 1 else 0)) (eS : sX8_measure f k = sX8_measure_j20 f k x_2) (H : Heap) (locs : List Loc) (ls : Array Slot) (hP : va_P G vwCl ([(ra, .inl (kk 0, 64, .inl f))]) H) (hD : va_D A ([(ra, .inl (kk 0, 64, .inl f))])) (hS : va_S A s.heap H locs) (hl : lv_has ls 4 [(2, .int (k + (f 12))), (0, .ref ra), (1, .int k)]), GO p l e (rmO 1 20) s m ([.ref ra, .int k] : List Value).toArray below meth c A (QV G kk ([(ra, .inl (kk 0, 64, .inl (sX8_measure f k)))])) H locs (F0 m 20 ls [.int x_2]) := by
    intro x_2 ex_2 eS H locs ls hP hD hS hl
    refine lv_istore_n (lv' := [(3, .int x_2), (2, .int (k + (f 12))), (0, .ref ra), (1, .int k)]) hx hb dX8_measure_20 rfl hl (by decide) rfl (fun ls hl => ?_)
    refine lv_aload_n hx hb dX8_measure_21 rfl (lv_at hl 2 rfl) ?_
    refine lv_iconst (v := 2) hx hb dX8_measure_22 (by decide) ?_
    refine lv_dup2_11 hx hb dX8_measure_23 rfl rfl ?_
    refine r_iald hx hb hK hP 0 rfl 2 rfl (by decide) (by decide) dX8_measure_24 ?_
    refine lv_iload_n hx hb dX8_measure_25 rfl (lv_at hl 1 rfl) ?_
    refine lv_iadd hx hb dX8_measure_26 ?_
    refine r_iast hx hb hK hP hD hS 0 rfl 2 rfl (by decide) (by decide) dX8_measure_27 (fun H locs hP hD hS => ?_)
    replace hP : va_P G vwCl ([(ra, .inl (kk 0, 64, .inl (upd f 2 ((f 2) + (k + (f 12))))))]) H := hP
    replace hD : va_D A ([(ra, .inl (kk 0, 64, .inl (upd f 2 ((f 2) + (k + (f 12))))))]) := hD
    refine lv_aload_n hx hb dX8_measure_28 rfl (lv_at hl 2 rfl) ?_
    refine lv_iconst (v := 5) hx hb dX8_measure_29 (by decide) ?_
    refine lv_dup2_11 hx hb dX8_measure_30 rfl rfl ?_
    refine r_iald hx hb hK hP 0 rfl 5 rfl (by decide) (by decide) dX8_measure_31 ?_
    refine top_eq (y := (f 5)) (pk_un (by decide)) ?_
    refine lv_iload_n hx hb dX8_measure_32 rfl (lv_at hl 1 rfl) ?_
    refine lv_iadd hx hb dX8_measure_33 ?_
    refine r_iast hx hb hK hP hD hS 0 rfl 5 rfl (by decide) (by decide) dX8_measure_34 (fun H locs hP hD hS => ?_)
    replace hP : va_P G vwCl ([(ra, .inl (kk 0, 64, .inl (upd (upd f 2 ((f 2) + (k + (f 12)))) 5 ((f 5) + (k + (f 12))))))]) H := hP
    replace hD : va_D A ([(ra, .inl (kk 0, 64, .inl (upd (upd f 2 ((f 2) + (k + (f 12)))) 5 ((f 5) + (k + (f 12))))))]) := hD
    refine lv_aload_n hx hb dX8_measure_35 rfl (lv_at hl 2 rfl) ?_
    refine lv_iconst (v := 1) hx hb dX8_measure_36 (by decide) ?_
    refine lv_dup2_11 hx hb dX8_measure_37 rfl rfl ?_
    refine r_iald hx hb hK hP 0 rfl 1 rfl (by decide) (by decide) dX8_measure_38 ?_
    refine top_eq (y := (f 1)) ((pk_un (by decide)).trans (pk_un (by decide))) ?_
    refine lv_iconst (v := 1) hx hb dX8_measure_39 (by decide) ?_
    refine lv_iadd hx hb dX8_measure_40 ?_
    refine r_iast hx hb hK hP hD hS 0 rfl 1 rfl (by decide) (by decide) dX8_measure_41 (fun H locs hP hD hS => ?_)
    replace hP : va_P G vwCl ([(ra, .inl (kk 0, 64, .inl (upd (upd (upd f 2 ((f 2) + (k + (f 12)))) 5 ((f 5) + (k + (f 12)))) 1 ((f 1) + 1))))]) H := hP
    replace hD : va_D A ([(ra, .inl (kk 0, 64, .inl (upd (upd (upd f 2 ((f 2) + (k + (f 12)))) 5 ((f 5) + (k + (f 12)))) 1 ((f 1) + 1))))]) := hD
    refine lv_iload_n hx hb dX8_measure_42 rfl (lv_at hl 0 rfl) ?_
    refine lv_if_eq (tgt := 92) hx hb dX8_measure_43 (by decide) (fun c_3 => ?_) (fun c_3 => ?_)
    · have eS := eS.trans (if_pos c_3)
      exact fin_v hx hb hr hlocks hK (vP_eq (congrArg (fun z : (Nat → Int32) => ([(ra, .inl (kk 0, 64, .inl z))] : va_W)) eS.symm) hP) (vD_eq (congrArg (fun z : (Nat → Int32) => ([(ra, .inl (kk 0, 64, .inl z))] : va_W)) eS.symm) hD) hS dX8_measure_92
    · have eS := eS.trans (if_neg c_3)
      refine lv_aload_n hx hb dX8_measure_46 rfl (lv_at hl 2 rfl) ?_
      refine lv_iconst (v := 3) hx hb dX8_measure_47 (by decide) ?_
      refine lv_dup2_11 hx hb dX8_measure_48 rfl rfl ?_
      refine r_iald hx hb hK hP 0 rfl 3 rfl (by decide) (by decide) dX8_measure_49 ?_
      refine top_eq (y := (f 3)) ((pk_un (by decide)).trans ((pk_un (by decide)).trans (pk_un (by decide)))) ?_
      refine lv_aload_n hx hb dX8_measure_50 rfl (lv_at hl 2 rfl) ?_
      refine lv_iconst (v := 2) hx hb dX8_measure_51 (by decide) ?_
      refine r_iald hx hb hK hP 0 rfl 2 rfl (by decide) (by decide) dX8_measure_52 ?_
      refine top_eq (y := ((f 2) + (k + (f 12)))) ((pk_un (by decide)).trans ((pk_un (by decide)).trans (pk_us))) ?_
      refine lv_aload_n hx hb dX8_measure_53 rfl (lv_at hl 2 rfl) ?_
      refine lv_bipush (v := 10) hx hb dX8_measure_54 (by decide) ?_
      refine r_iald hx hb hK hP 0 rfl 10 rfl (by decide) (by decide) dX8_measure_56 ?_
      refine top_eq (y := (f 10)) ((pk_un (by decide)).trans ((pk_un (by decide)).trans (pk_un (by decide)))) ?_
      have J_9 : ∀ (x_5 : Int32) (ex_5 : x_5 = (if ((f 2) + (k + (f 12))) ≤ (f 10) then 0 else 1)) (eS : sX8_measure f k = sX8_measure_j65 f k x_2 x_5) (H : Heap) (locs : List Loc) (ls : Array Slot) (hP : va_P G vwCl ([(ra, .inl (kk 0, 64, .inl (upd (upd (upd f 2 ((f 2) + (k + (f 12)))) 5 ((f 5) + (k + (f 12)))) 1 ((f 1) + 1))))]) H) (hD : va_D A ([(ra, .inl (kk 0, 64, .inl (upd (upd (upd f 2 ((f 2) + (k + (f 12)))) 5 ((f 5) + (k + (f 12)))) 1 ((f 1) + 1))))])) (hS : va_S A s.heap H locs) (hl : lv_has ls 4 [(3, .int x_2), (2, .int (k + (f 12))), (0, .ref ra), (1, .int k)]), GO p l e (rmO 1 20) s m ([.ref ra, .int k] : List Value).toArray below meth c A (QV G kk ([(ra, .inl (kk 0, 64, .inl (sX8_measure f k)))])) H locs (F0 m 65 ls [.int x_5, .int (f 3), .int 3, .ref ra]) := by
        intro x_5 ex_5 eS H locs ls hP hD hS hl
        refine lv_iadd hx hb dX8_measure_65 ?_
        refine r_iast hx hb hK hP hD hS 0 rfl 3 rfl (by decide) (by decide) dX8_measure_66 (fun H locs hP hD hS => ?_)
        replace hP : va_P G vwCl ([(ra, .inl (kk 0, 64, .inl (upd (upd (upd (upd f 2 ((f 2) + (k + (f 12)))) 5 ((f 5) + (k + (f 12)))) 1 ((f 1) + 1)) 3 ((f 3) + x_5))))]) H := hP
        replace hD : va_D A ([(ra, .inl (kk 0, 64, .inl (upd (upd (upd (upd f 2 ((f 2) + (k + (f 12)))) 5 ((f 5) + (k + (f 12)))) 1 ((f 1) + 1)) 3 ((f 3) + x_5))))]) := hD
        refine lv_aload_n hx hb dX8_measure_67 rfl (lv_at hl 2 rfl) ?_
        refine lv_iconst (v := 4) hx hb dX8_measure_68 (by decide) ?_
        refine lv_aload_n hx hb dX8_measure_69 rfl (lv_at hl 2 rfl) ?_
        refine lv_iconst (v := 2) hx hb dX8_measure_70 (by decide) ?_
        refine r_iald hx hb hK hP 0 rfl 2 rfl (by decide) (by decide) dX8_measure_71 ?_
        refine top_eq (y := ((f 2) + (k + (f 12)))) ((pk_un (by decide)).trans ((pk_un (by decide)).trans ((pk_un (by decide)).trans (pk_us)))) ?_
        refine lv_aload_n hx hb dX8_measure_72 rfl (lv_at hl 2 rfl) ?_
        refine lv_iconst (v := 4) hx hb dX8_measure_73 (by decide) ?_
        refine r_iald hx hb hK hP 0 rfl 4 rfl (by decide) (by decide) dX8_measure_74 ?_
        refine top_eq (y := (f 4)) ((pk_un (by decide)).trans ((pk_un (by decide)).trans ((pk_un (by decide)).trans (pk_un (by decide))))) ?_
        have J_10 : ∀ (x_7 : Int32) (ex_7 : x_7 = (if ((f 2) + (k + (f 12))) ≤ (f 4) then (f 4) else ((f 2) + (k + (f 12))))) (eS : sX8_measure f k = sX8_measure_j87 f k x_2 x_5 x_7) (H : Heap) (locs : List Loc) (ls : Array Slot) (hP : va_P G vwCl ([(ra, .inl (kk 0, 64, .inl (upd (upd (upd (upd f 2 ((f 2) + (k + (f 12)))) 5 ((f 5) + (k + (f 12)))) 1 ((f 1) + 1)) 3 ((f 3) + x_5))))]) H) (hD : va_D A ([(ra, .inl (kk 0, 64, .inl (upd (upd (upd (upd f 2 ((f 2) + (k + (f 12)))) 5 ((f 5) + (k + (f 12)))) 1 ((f 1) + 1)) 3 ((f 3) + x_5))))])) (hS : va_S A s.heap H locs) (hl : lv_has ls 4 [(3, .int x_2), (2, .int (k + (f 12))), (0, .ref ra), (1, .int k)]), GO p l e (rmO 1 20) s m ([.ref ra, .int k] : List Value).toArray below meth c A (QV G kk ([(ra, .inl (kk 0, 64, .inl (sX8_measure f k)))])) H locs (F0 m 87 ls [.int x_7, .int 4, .ref ra]) := by
          intro x_7 ex_7 eS H locs ls hP hD hS hl
          refine r_iast hx hb hK hP hD hS 0 rfl 4 rfl (by decide) (by decide) dX8_measure_87 (fun H locs hP hD hS => ?_)
          replace hP : va_P G vwCl ([(ra, .inl (kk 0, 64, .inl (upd (upd (upd (upd (upd f 2 ((f 2) + (k + (f 12)))) 5 ((f 5) + (k + (f 12)))) 1 ((f 1) + 1)) 3 ((f 3) + x_5)) 4 x_7)))]) H := hP
          replace hD : va_D A ([(ra, .inl (kk 0, 64, .inl (upd (upd (upd (upd (upd f 2 ((f 2) + (k + (f 12)))) 5 ((f 5) + (k + (f 12)))) 1 ((f 1) + 1)) 3 ((f 3) + x_5)) 4 x_7)))]) := hD
          refine lv_aload_n hx hb dX8_measure_88 rfl (lv_at hl 2 rfl) ?_
          refine lv_iconst (v := 2) hx hb dX8_measure_89 (by decide) ?_
          refine lv_iconst (v := 0) hx hb dX8_measure_90 (by decide) ?_
          refine r_iast hx hb hK hP hD hS 0 rfl 2 rfl (by decide) (by decide) dX8_measure_91 (fun H locs hP hD hS => ?_)
          replace hP : va_P G vwCl ([(ra, .inl (kk 0, 64, .inl (upd (upd (upd (upd (upd (upd f 2 ((f 2) + (k + (f 12)))) 5 ((f 5) + (k + (f 12)))) 1 ((f 1) + 1)) 3 ((f 3) + x_5)) 4 x_7) 2 0)))]) H := hP
          replace hD : va_D A ([(ra, .inl (kk 0, 64, .inl (upd (upd (upd (upd (upd (upd f 2 ((f 2) + (k + (f 12)))) 5 ((f 5) + (k + (f 12)))) 1 ((f 1) + 1)) 3 ((f 3) + x_5)) 4 x_7) 2 0)))]) := hD
          exact fin_v hx hb hr hlocks hK (vP_eq (congrArg (fun z : (Nat → Int32) => ([(ra, .inl (kk 0, 64, .inl z))] : va_W)) eS.symm) hP) (vD_eq (congrArg (fun z : (Nat → Int32) => ([(ra, .inl (kk 0, 64, .inl z))] : va_W)) eS.symm) hD) hS dX8_measure_92
        refine lv_icmp_le (tgt := 84) hx hb dX8_measure_75 (by decide) (fun c_6 => ?_) (fun c_6 => ?_)
        · refine lv_aload_n hx hb dX8_measure_84 rfl (lv_at hl 2 rfl) ?_
          refine lv_iconst (v := 4) hx hb dX8_measure_85 (by decide) ?_
          refine r_iald hx hb hK hP 0 rfl 4 rfl (by decide) (by decide) dX8_measure_86 ?_
          refine top_eq (y := (f 4)) ((pk_un (by decide)).trans ((pk_un (by decide)).trans ((pk_un (by decide)).trans (pk_un (by decide))))) ?_
          exact J_10 (f 4) (if_pos c_6).symm (eS.trans (cg1 (sX8_measure_j87 f k x_2 x_5) (if_pos c_6))) _ _ ls hP hD hS (lv_sub hl [0, 1, 2, 3] rfl)
        · refine lv_aload_n hx hb dX8_measure_78 rfl (lv_at hl 2 rfl) ?_
          refine lv_iconst (v := 2) hx hb dX8_measure_79 (by decide) ?_
          refine r_iald hx hb hK hP 0 rfl 2 rfl (by decide) (by decide) dX8_measure_80 ?_
          refine top_eq (y := ((f 2) + (k + (f 12)))) ((pk_un (by decide)).trans ((pk_un (by decide)).trans ((pk_un (by decide)).trans (pk_us)))) ?_
          refine lv_goto (tgt := 87) hx hb dX8_measure_81 (by decide) ?_
          exact J_10 ((f 2) + (k + (f 12))) (if_neg c_6).symm (eS.trans (cg1 (sX8_measure_j87 f k x_2 x_5) (if_neg c_6))) _ _ ls hP hD hS (lv_sub hl [0, 1, 2, 3] rfl)
      refine lv_icmp_le (tgt := 64) hx hb dX8_measure_57 (by decide) (fun c_4 => ?_) (fun c_4 => ?_)
      · refine lv_iconst (v := 0) hx hb dX8_measure_64 (by decide) ?_
        exact J_9 0 (if_pos c_4).symm (eS.trans (cg1 (sX8_measure_j65 f k x_2) (if_pos c_4))) _ _ ls hP hD hS (lv_sub hl [0, 1, 2, 3] rfl)
      · refine lv_iconst (v := 1) hx hb dX8_measure_60 (by decide) ?_
        refine lv_goto (tgt := 65) hx hb dX8_measure_61 (by decide) ?_
        exact J_9 1 (if_neg c_4).symm (eS.trans (cg1 (sX8_measure_j65 f k x_2) (if_neg c_4))) _ _ ls hP hD hS (lv_sub hl [0, 1, 2, 3] rfl)
  refine lv_icmp_ne (tgt := 19) hx hb dX8_measure_12 (by decide) (fun c_1 => ?_) (fun c_1 => ?_)
  · refine lv_iconst (v := 0) hx hb dX8_measure_19 (by decide) ?_
    exact J_8 0 (if_neg c_1).symm (eS.trans (cg1 (sX8_measure_j20 f k) (if_neg c_1))) _ _ ls hP hD hS (lv_sub hl [0, 1, 2] rfl)
  · refine lv_iconst (v := 1) hx hb dX8_measure_15 (by decide) ?_
    refine lv_goto (tgt := 20) hx hb dX8_measure_16 (by decide) ?_
    exact J_8 1 (if_pos c_1).symm (eS.trans (cg1 (sX8_measure_j20 f k) (if_pos c_1))) _ _ ls hP hD hS (lv_sub hl [0, 1, 2] rfl)
def sX8_clamp (v : Int32) (lo : Int32) (hi : Int32) : Int32 :=
  (if lo ≤ v then (if v ≤ hi then v else hi) else lo)
set_option maxRecDepth 100000 in
set_option maxHeartbeats 4000000 in
theorem c_X8_clamp (l : Launch) (G : va_G) (kk : Nat → ClassId) (v : Int32) (lo : Int32) (hi : Int32)  : CC l yX8_clamp cX8_clamp 3 (some .int) (rmO 0 0) [.int v, .int lo, .int hi] G kk ([]) (QI G kk ([]) (sX8_clamp v lo hi)) := by
  refine cc_start (by decide +kernel) (Nat.le_of_ble_eq_true rfl) ?_
  intro p e s m below meth c A ls hx hb hr hml hown hts hlocks hA hE hK hP hD hS hl
  have hown : s.vm.findClass RX8 = some m.cls := hown
  have hl : lv_has ls 3 [(0, .int v), (1, .int lo), (2, .int hi)] := hl
  have eS : sX8_clamp v lo hi = sX8_clamp v lo hi := rfl
  refine lv_iload_n hx hb dX8_clamp_0 rfl (lv_at hl 0 rfl) ?_
  refine lv_iload_n hx hb dX8_clamp_1 rfl (lv_at hl 1 rfl) ?_
  refine lv_icmp_ge (tgt := 9) hx hb dX8_clamp_2 (by decide) (fun c_1 => ?_) (fun c_1 => ?_)
  · have eS := eS.trans (if_pos c_1)
    refine lv_iload_n hx hb dX8_clamp_9 rfl (lv_at hl 0 rfl) ?_
    refine lv_iload_n hx hb dX8_clamp_10 rfl (lv_at hl 2 rfl) ?_
    refine lv_icmp_le (tgt := 18) hx hb dX8_clamp_11 (by decide) (fun c_2 => ?_) (fun c_2 => ?_)
    · have eS := eS.trans (if_pos c_2)
      refine lv_iload_n hx hb dX8_clamp_18 rfl (lv_at hl 0 rfl) ?_
      exact fin_i hx hb hr hlocks hK hP hD hS eS dX8_clamp_19
    · have eS := eS.trans (if_neg c_2)
      refine lv_iload_n hx hb dX8_clamp_14 rfl (lv_at hl 2 rfl) ?_
      refine lv_goto (tgt := 19) hx hb dX8_clamp_15 (by decide) ?_
      exact fin_i hx hb hr hlocks hK hP hD hS eS dX8_clamp_19
  · have eS := eS.trans (if_neg c_1)
    refine lv_iload_n hx hb dX8_clamp_5 rfl (lv_at hl 1 rfl) ?_
    refine lv_goto (tgt := 19) hx hb dX8_clamp_6 (by decide) ?_
    exact fin_i hx hb hr hlocks hK hP hD hS eS dX8_clamp_19
def lp_X8_must_2 (q : Nat → Int32) (jb : Nat → Int32) (f : Nat → Int32) (n : Nat) : Nat → Nat → (Nat → Int32) → (Nat → Int32) → (Nat → Int32) × (Nat → Int32)
  | 0, i, q1, jb1 => (q1, jb1)
  | d + 1, i, q1, jb1 => ((fun (x_4 : Int32) => ((fun (x_8 : Int32) => ((fun (x_11 : Int32) => (lp_X8_must_2 q jb f n d (i + 1) (upd q1 10 ((q1 10) + x_11)) (upd jb1 i x_8))) (if ((upd jb1 i x_8) i) = 8 then 0 else (if ((upd jb1 i x_8) i) = 1 then (sX8_of f i 0) else (f 13))))) (if x_4 = 0 then (if (sX8_isWarm f i) = 0 then (if (sX8_of f i 5) = 100 then 2 else 8) else 1) else 0))) (if (sX8_of f i 6) ≤ 0 then 0 else 1))
def sX8_must (q : Nat → Int32) (jb : Nat → Int32) (f : Nat → Int32) (n : Nat) : (Nat → Int32) × (Nat → Int32) :=
  (lp_X8_must_2 q jb f n n 0 q jb)
set_option maxRecDepth 100000 in
set_option maxHeartbeats 4000000 in
theorem c_X8_must (l : Launch) (G : va_G) (kk : Nat → ClassId) (h : Nat) (b : Nat → Nat) (q : Nat → Int32) (jb : Nat → Int32) (ra : Nat) (f : Nat → Int32) (n : Nat) (hn : f 0 = nI n) (h6 : n ≤ 6) : CC l yX8_must cX8_must 4 none (rmO 2 43) [.ref h, .ref ra] G kk ([(h, .inr (8, moF b q)), ((b 7), .inl (kk 0, 6, .inl jb)), (ra, .inl (kk 0, 64, .inl f))]) (QV G kk ([(h, .inr (8, moF b ((sX8_must q jb f n).1))), ((b 7), .inl (kk 0, 6, .inl ((sX8_must q jb f n).2))), (ra, .inl (kk 0, 64, .inl f))])) := by
  refine cc_start (by decide +kernel) (Nat.le_of_ble_eq_true rfl) ?_
  intro p e s m below meth c A ls hx hb hr hml hown hts hlocks hA hE hK hP hD hS hl
  have hown : s.vm.findClass RX8 = some m.cls := hown
  have hl : lv_has ls 4 [(0, .ref h), (1, .ref ra)] := hl
  have eS : sX8_must q jb f n = sX8_must q jb f n := rfl
  refine lv_iconst (v := 0) hx hb dX8_must_0 (by decide) ?_
  refine lv_istore_n (lv' := [(2, .int 0), (0, .ref h), (1, .ref ra)]) hx hb dX8_must_1 rfl hl (by decide) rfl (fun ls hl => ?_)
  have L_12 : ∀ (d : Nat) (i : Nat) (q1 : Nat → Int32) (jb1 : Nat → Int32) (hd : i + d = n) (eS : sX8_must q jb f n = lp_X8_must_2 q jb f n d i q1 jb1) (H : Heap) (locs : List Loc) (ls : Array Slot) (hP : va_P G vwCl ([(h, .inr (8, moF b q1)), ((b 7), .inl (kk 0, 6, .inl jb1)), (ra, .inl (kk 0, 64, .inl f))]) H) (hD : va_D A ([(h, .inr (8, moF b q1)), ((b 7), .inl (kk 0, 6, .inl jb1)), (ra, .inl (kk 0, 64, .inl f))])) (hS : va_S A s.heap H locs) (hl : lv_has ls 4 [(0, .ref h), (1, .ref ra), (2, .int (nI i))]), GO p l e (rmO 2 43) s m ([.ref h, .ref ra] : List Value).toArray below meth c A (QV G kk ([(h, .inr (8, moF b ((sX8_must q jb f n).1))), ((b 7), .inl (kk 0, 6, .inl ((sX8_must q jb f n).2))), (ra, .inl (kk 0, 64, .inl f))])) H locs (F0 m 2 ls []) := by
    intro d
    induction d with
    | zero =>
      intro i q1 jb1 hd eS H locs ls hP hD hS hl
      refine lv_iload_n hx hb dX8_must_2 rfl (lv_at hl 2 rfl) ?_
      refine lv_aload_n hx hb dX8_must_3 rfl (lv_at hl 1 rfl) ?_
      refine lv_iconst (v := 0) hx hb dX8_must_4 (by decide) ?_
      refine r_iald hx hb hK hP 2 rfl 0 rfl (by decide) (by decide) dX8_must_5 ?_
      refine lv_icmp_ge (tgt := 121) hx hb dX8_must_6 (by decide) (fun c_1 => ?_) (fun c_1 => absurd (fle hn (by omega) (by omega)) c_1)
      exact fin_v hx hb hr hlocks hK (vP_eq (congrArg (fun z : (Nat → Int32) × (Nat → Int32) => ([(h, .inr (8, moF b z.1)), ((b 7), .inl (kk 0, 6, .inl z.2)), (ra, .inl (kk 0, 64, .inl f))] : va_W)) eS.symm) hP) (vD_eq (congrArg (fun z : (Nat → Int32) × (Nat → Int32) => ([(h, .inr (8, moF b z.1)), ((b 7), .inl (kk 0, 6, .inl z.2)), (ra, .inl (kk 0, 64, .inl f))] : va_W)) eS.symm) hD) hS dX8_must_121
    | succ d ih =>
      intro i q1 jb1 hd eS H locs ls hP hD hS hl
      refine lv_iload_n hx hb dX8_must_2 rfl (lv_at hl 2 rfl) ?_
      refine lv_aload_n hx hb dX8_must_3 rfl (lv_at hl 1 rfl) ?_
      refine lv_iconst (v := 0) hx hb dX8_must_4 (by decide) ?_
      refine r_iald hx hb hK hP 2 rfl 0 rfl (by decide) (by decide) dX8_must_5 ?_
      refine lv_icmp_ge (tgt := 121) hx hb dX8_must_6 (by decide) (fun c_2 => absurd c_2 (fgt hn (by omega) (by omega))) (fun c_2 => ?_)
      refine lv_aload_n hx hb dX8_must_9 rfl (lv_at hl 1 rfl) ?_
      refine lv_iload_n hx hb dX8_must_10 rfl (lv_at hl 2 rfl) ?_
      refine lv_bipush (v := 6) hx hb dX8_must_11 (by decide) ?_
      refine k_goI (k_runS (rest := []) (As := [.ref ra, .int (nI i), .int 6]) hx hb hml hown hts hK hP hD hS hA hE hl.1 (c_X8_of l G kk ra f i 6 (by omega)) sl_X8_44 ⟨Nat.le_of_ble_eq_true rfl, Nat.le_of_ble_eq_true rfl, rfl, rfl⟩ [2] rfl rfl ⟨Nat.zero_le _, Nat.zero_le _⟩ rfl (Nat.le_of_ble_eq_true rfl) dX8_must_13) hP hD hS hA [2] rfl ads1 (fun H locs hP hD hS => ?_)
      replace hP : va_P G vwCl ([(h, .inr (8, moF b q1)), ((b 7), .inl (kk 0, 6, .inl jb1)), (ra, .inl (kk 0, 64, .inl f))]) H := hP
      replace hD : va_D A ([(h, .inr (8, moF b q1)), ((b 7), .inl (kk 0, 6, .inl jb1)), (ra, .inl (kk 0, 64, .inl f))]) := hD
      have J_13 : ∀ (x_4 : Int32) (ex_4 : x_4 = (if (sX8_of f i 6) ≤ 0 then 0 else 1)) (eS : sX8_must q jb f n = (fun (x_4 : Int32) => ((fun (x_8 : Int32) => ((fun (x_11 : Int32) => (lp_X8_must_2 q jb f n d (i + 1) (upd q1 10 ((q1 10) + x_11)) (upd jb1 i x_8))) (if ((upd jb1 i x_8) i) = 8 then 0 else (if ((upd jb1 i x_8) i) = 1 then (sX8_of f i 0) else (f 13))))) (if x_4 = 0 then (if (sX8_isWarm f i) = 0 then (if (sX8_of f i 5) = 100 then 2 else 8) else 1) else 0))) x_4) (H : Heap) (locs : List Loc) (ls : Array Slot) (hP : va_P G vwCl ([(h, .inr (8, moF b q1)), ((b 7), .inl (kk 0, 6, .inl jb1)), (ra, .inl (kk 0, 64, .inl f))]) H) (hD : va_D A ([(h, .inr (8, moF b q1)), ((b 7), .inl (kk 0, 6, .inl jb1)), (ra, .inl (kk 0, 64, .inl f))])) (hS : va_S A s.heap H locs) (hl : lv_has ls 4 [(0, .ref h), (1, .ref ra), (2, .int (nI i))]), GO p l e (rmO 2 43) s m ([.ref h, .ref ra] : List Value).toArray below meth c A (QV G kk ([(h, .inr (8, moF b ((sX8_must q jb f n).1))), ((b 7), .inl (kk 0, 6, .inl ((sX8_must q jb f n).2))), (ra, .inl (kk 0, 64, .inl f))])) H locs (F0 m 24 ls [.int x_4]) := by
        intro x_4 ex_4 eS H locs ls hP hD hS hl
        refine lv_istore_n (lv' := [(3, .int x_4), (0, .ref h), (1, .ref ra), (2, .int (nI i))]) hx hb dX8_must_24 rfl hl (by decide) rfl (fun ls hl => ?_)
        refine lv_aload_n hx hb dX8_must_25 rfl (lv_at hl 1 rfl) ?_
        refine r_get (v := .ref (b 7)) hx hb hts hown hK hP fl_X8_29 0 rfl rfl dX8_must_26 ?_
        refine lv_iload_n hx hb dX8_must_29 rfl (lv_at hl 3 rfl) ?_
        refine lv_iload_n hx hb dX8_must_30 rfl (lv_at hl 0 rfl) ?_
        have J_14 : ∀ (x_8 : Int32) (ex_8 : x_8 = (if x_4 = 0 then (if (sX8_isWarm f i) = 0 then (if (sX8_of f i 5) = 100 then 2 else 8) else 1) else 0)) (eS : sX8_must q jb f n = (fun (x_8 : Int32) => ((fun (x_11 : Int32) => (lp_X8_must_2 q jb f n d (i + 1) (upd q1 10 ((q1 10) + x_11)) (upd jb1 i x_8))) (if ((upd jb1 i x_8) i) = 8 then 0 else (if ((upd jb1 i x_8) i) = 1 then (sX8_of f i 0) else (f 13))))) x_8) (H : Heap) (locs : List Loc) (ls : Array Slot) (hP : va_P G vwCl ([(h, .inr (8, moF b q1)), ((b 7), .inl (kk 0, 6, .inl jb1)), (ra, .inl (kk 0, 64, .inl f))]) H) (hD : va_D A ([(h, .inr (8, moF b q1)), ((b 7), .inl (kk 0, 6, .inl jb1)), (ra, .inl (kk 0, 64, .inl f))])) (hS : va_S A s.heap H locs) (hl : lv_has ls 4 [(3, .int x_4), (0, .ref h), (1, .ref ra), (2, .int (nI i))]), GO p l e (rmO 2 43) s m ([.ref h, .ref ra] : List Value).toArray below meth c A (QV G kk ([(h, .inr (8, moF b ((sX8_must q jb f n).1))), ((b 7), .inl (kk 0, 6, .inl ((sX8_must q jb f n).2))), (ra, .inl (kk 0, 64, .inl f))])) H locs (F0 m 67 ls [.int x_8, .int (nI i), .ref (b 7)]) := by
          intro x_8 ex_8 eS H locs ls hP hD hS hl
          refine r_iast hx hb hK hP hD hS 1 rfl i rfl (by omega) (by decide) dX8_must_67 (fun H locs hP hD hS => ?_)
          replace hP : va_P G vwCl ([(h, .inr (8, moF b q1)), ((b 7), .inl (kk 0, 6, .inl (upd jb1 i x_8))), (ra, .inl (kk 0, 64, .inl f))]) H := hP
          replace hD : va_D A ([(h, .inr (8, moF b q1)), ((b 7), .inl (kk 0, 6, .inl (upd jb1 i x_8))), (ra, .inl (kk 0, 64, .inl f))]) := hD
          refine lv_aload_n hx hb dX8_must_68 rfl (lv_at hl 1 rfl) ?_
          refine lv_dup hx hb dX8_must_69 rfl ?_
          refine r_get (v := .int (q1 10)) hx hb hts hown hK hP fl_X8_48 0 rfl rfl dX8_must_70 ?_
          refine lv_aload_n hx hb dX8_must_73 rfl (lv_at hl 1 rfl) ?_
          refine r_get (v := .ref (b 7)) hx hb hts hown hK hP fl_X8_29 0 rfl rfl dX8_must_74 ?_
          refine lv_iload_n hx hb dX8_must_77 rfl (lv_at hl 3 rfl) ?_
          refine r_iald hx hb hK hP 1 rfl i rfl (by omega) (by decide) dX8_must_78 ?_
          refine lv_bipush (v := 8) hx hb dX8_must_79 (by decide) ?_
          have J_15 : ∀ (x_11 : Int32) (ex_11 : x_11 = (if ((upd jb1 i x_8) i) = 8 then 0 else (if ((upd jb1 i x_8) i) = 1 then (sX8_of f i 0) else (f 13)))) (eS : sX8_must q jb f n = (fun (x_11 : Int32) => (lp_X8_must_2 q jb f n d (i + 1) (upd q1 10 ((q1 10) + x_11)) (upd jb1 i x_8))) x_11) (H : Heap) (locs : List Loc) (ls : Array Slot) (hP : va_P G vwCl ([(h, .inr (8, moF b q1)), ((b 7), .inl (kk 0, 6, .inl (upd jb1 i x_8))), (ra, .inl (kk 0, 64, .inl f))]) H) (hD : va_D A ([(h, .inr (8, moF b q1)), ((b 7), .inl (kk 0, 6, .inl (upd jb1 i x_8))), (ra, .inl (kk 0, 64, .inl f))])) (hS : va_S A s.heap H locs) (hl : lv_has ls 4 [(3, .int x_4), (0, .ref h), (1, .ref ra), (2, .int (nI i))]), GO p l e (rmO 2 43) s m ([.ref h, .ref ra] : List Value).toArray below meth c A (QV G kk ([(h, .inr (8, moF b ((sX8_must q jb f n).1))), ((b 7), .inl (kk 0, 6, .inl ((sX8_must q jb f n).2))), (ra, .inl (kk 0, 64, .inl f))])) H locs (F0 m 111 ls [.int x_11, .int (q1 10), .ref h]) := by
            intro x_11 ex_11 eS H locs ls hP hD hS hl
            refine lv_iadd hx hb dX8_must_111 ?_
            refine r_put hx hb hts hown hK hP hD hS fl_X8_48 fw_8_10 0 rfl rfl rfl (Nat.le_of_ble_eq_true rfl) dX8_must_112 (fun H locs hP hD hS => ?_)
            replace hP : va_P G vwCl ([(h, .inr (8, moF b (upd q1 10 ((q1 10) + x_11)))), ((b 7), .inl (kk 0, 6, .inl (upd jb1 i x_8))), (ra, .inl (kk 0, 64, .inl f))]) H := hP
            replace hD : va_D A ([(h, .inr (8, moF b (upd q1 10 ((q1 10) + x_11)))), ((b 7), .inl (kk 0, 6, .inl (upd jb1 i x_8))), (ra, .inl (kk 0, 64, .inl f))]) := hD
            refine lv_iinc (v := (nI (i + 1))) (lv' := [(2, .int (nI (i + 1))), (3, .int x_4), (0, .ref h), (1, .ref ra)]) hx hb dX8_must_115 hl (k := 3) rfl (nI_add i 1) (by decide) rfl (fun ls hl => ?_)
            refine lv_goto (tgt := 2) hx hb dX8_must_118 (by decide) ?_
            exact ih (i + 1) (upd q1 10 ((q1 10) + x_11)) (upd jb1 i x_8) (by omega) eS _ _ ls hP hD hS (lv_sub hl [2, 3, 0] rfl)
          refine lv_icmp_ne (tgt := 88) hx hb dX8_must_81 (by decide) (fun c_9 => ?_) (fun c_9 => ?_)
          · refine lv_aload_n hx hb dX8_must_88 rfl (lv_at hl 1 rfl) ?_
            refine r_get (v := .ref (b 7)) hx hb hts hown hK hP fl_X8_29 0 rfl rfl dX8_must_89 ?_
            refine lv_iload_n hx hb dX8_must_92 rfl (lv_at hl 3 rfl) ?_
            refine r_iald hx hb hK hP 1 rfl i rfl (by omega) (by decide) dX8_must_93 ?_
            refine lv_iconst (v := 1) hx hb dX8_must_94 (by decide) ?_
            refine lv_icmp_ne (tgt := 107) hx hb dX8_must_95 (by decide) (fun c_10 => ?_) (fun c_10 => ?_)
            · refine lv_aload_n hx hb dX8_must_107 rfl (lv_at hl 2 rfl) ?_
              refine lv_bipush (v := 13) hx hb dX8_must_108 (by decide) ?_
              refine r_iald hx hb hK hP 2 rfl 13 rfl (by decide) (by decide) dX8_must_110 ?_
              exact J_15 (f 13) ((if_neg c_9).trans (if_neg c_10)).symm (eS.trans (cg1 ((fun (x_11 : Int32) => (lp_X8_must_2 q jb f n d (i + 1) (upd q1 10 ((q1 10) + x_11)) (upd jb1 i x_8)))) ((if_neg c_9).trans (if_neg c_10)))) _ _ ls hP hD hS (lv_sub hl [0, 1, 2, 3] rfl)
            · refine lv_aload_n hx hb dX8_must_98 rfl (lv_at hl 2 rfl) ?_
              refine lv_iload_n hx hb dX8_must_99 rfl (lv_at hl 3 rfl) ?_
              refine lv_iconst (v := 0) hx hb dX8_must_100 (by decide) ?_
              refine k_goI (k_runS (rest := [.int (q1 10), .ref h]) (As := [.ref ra, .int (nI i), .int 0]) hx hb hml hown hts hK hP hD hS hA hE hl.1 (c_X8_of l G kk ra f i 0 (by omega)) sl_X8_44 ⟨Nat.le_of_ble_eq_true rfl, Nat.le_of_ble_eq_true rfl, rfl, rfl⟩ [2] rfl rfl ⟨Nat.zero_le _, Nat.zero_le _⟩ rfl (Nat.le_of_ble_eq_true rfl) dX8_must_101) hP hD hS hA [2] rfl ads1 (fun H locs hP hD hS => ?_)
              replace hP : va_P G vwCl ([(h, .inr (8, moF b q1)), ((b 7), .inl (kk 0, 6, .inl (upd jb1 i x_8))), (ra, .inl (kk 0, 64, .inl f))]) H := hP
              replace hD : va_D A ([(h, .inr (8, moF b q1)), ((b 7), .inl (kk 0, 6, .inl (upd jb1 i x_8))), (ra, .inl (kk 0, 64, .inl f))]) := hD
              refine lv_goto (tgt := 111) hx hb dX8_must_104 (by decide) ?_
              exact J_15 (sX8_of f i 0) ((if_neg c_9).trans (if_pos c_10)).symm (eS.trans (cg1 ((fun (x_11 : Int32) => (lp_X8_must_2 q jb f n d (i + 1) (upd q1 10 ((q1 10) + x_11)) (upd jb1 i x_8)))) ((if_neg c_9).trans (if_pos c_10)))) _ _ ls hP hD hS (lv_sub hl [0, 1, 2, 3] rfl)
          · refine lv_iconst (v := 0) hx hb dX8_must_84 (by decide) ?_
            refine lv_goto (tgt := 111) hx hb dX8_must_85 (by decide) ?_
            exact J_15 0 (if_pos c_9).symm (eS.trans (cg1 ((fun (x_11 : Int32) => (lp_X8_must_2 q jb f n d (i + 1) (upd q1 10 ((q1 10) + x_11)) (upd jb1 i x_8)))) (if_pos c_9))) _ _ ls hP hD hS (lv_sub hl [0, 1, 2, 3] rfl)
        refine lv_if_eq (tgt := 38) hx hb dX8_must_31 (by decide) (fun c_5 => ?_) (fun c_5 => ?_)
        · refine lv_aload_n hx hb dX8_must_38 rfl (lv_at hl 2 rfl) ?_
          refine lv_iload_n hx hb dX8_must_39 rfl (lv_at hl 3 rfl) ?_
          refine k_goI (k_runS (rest := [.int (nI i), .ref (b 7)]) (As := [.ref ra, .int (nI i)]) hx hb hml hown hts hK hP hD hS hA hE hl.1 (c_X8_isWarm l G kk ra f i (by omega)) sl_X8_55 ⟨Nat.le_of_ble_eq_true rfl, Nat.le_of_ble_eq_true rfl, rfl, rfl⟩ [2] rfl rfl ⟨Nat.zero_le _, Nat.zero_le _⟩ rfl (Nat.le_of_ble_eq_true rfl) dX8_must_40) hP hD hS hA [2] rfl ads1 (fun H locs hP hD hS => ?_)
          replace hP : va_P G vwCl ([(h, .inr (8, moF b q1)), ((b 7), .inl (kk 0, 6, .inl jb1)), (ra, .inl (kk 0, 64, .inl f))]) H := hP
          replace hD : va_D A ([(h, .inr (8, moF b q1)), ((b 7), .inl (kk 0, 6, .inl jb1)), (ra, .inl (kk 0, 64, .inl f))]) := hD
          refine lv_if_eq (tgt := 50) hx hb dX8_must_43 (by decide) (fun c_6 => ?_) (fun c_6 => ?_)
          · refine lv_aload_n hx hb dX8_must_50 rfl (lv_at hl 2 rfl) ?_
            refine lv_iload_n hx hb dX8_must_51 rfl (lv_at hl 3 rfl) ?_
            refine lv_iconst (v := 5) hx hb dX8_must_52 (by decide) ?_
            refine k_goI (k_runS (rest := [.int (nI i), .ref (b 7)]) (As := [.ref ra, .int (nI i), .int 5]) hx hb hml hown hts hK hP hD hS hA hE hl.1 (c_X8_of l G kk ra f i 5 (by omega)) sl_X8_44 ⟨Nat.le_of_ble_eq_true rfl, Nat.le_of_ble_eq_true rfl, rfl, rfl⟩ [2] rfl rfl ⟨Nat.zero_le _, Nat.zero_le _⟩ rfl (Nat.le_of_ble_eq_true rfl) dX8_must_53) hP hD hS hA [2] rfl ads1 (fun H locs hP hD hS => ?_)
            replace hP : va_P G vwCl ([(h, .inr (8, moF b q1)), ((b 7), .inl (kk 0, 6, .inl jb1)), (ra, .inl (kk 0, 64, .inl f))]) H := hP
            replace hD : va_D A ([(h, .inr (8, moF b q1)), ((b 7), .inl (kk 0, 6, .inl jb1)), (ra, .inl (kk 0, 64, .inl f))]) := hD
            refine lv_bipush (v := 100) hx hb dX8_must_56 (by decide) ?_
            refine lv_icmp_ne (tgt := 65) hx hb dX8_must_58 (by decide) (fun c_7 => ?_) (fun c_7 => ?_)
            · refine lv_bipush (v := 8) hx hb dX8_must_65 (by decide) ?_
              exact J_14 8 ((if_pos c_5).trans ((if_pos c_6).trans (if_neg c_7))).symm (eS.trans (cg1 ((fun (x_8 : Int32) => ((fun (x_11 : Int32) => (lp_X8_must_2 q jb f n d (i + 1) (upd q1 10 ((q1 10) + x_11)) (upd jb1 i x_8))) (if ((upd jb1 i x_8) i) = 8 then 0 else (if ((upd jb1 i x_8) i) = 1 then (sX8_of f i 0) else (f 13)))))) ((if_pos c_5).trans ((if_pos c_6).trans (if_neg c_7))))) _ _ ls hP hD hS (lv_sub hl [0, 1, 2, 3] rfl)
            · refine lv_iconst (v := 2) hx hb dX8_must_61 (by decide) ?_
              refine lv_goto (tgt := 67) hx hb dX8_must_62 (by decide) ?_
              exact J_14 2 ((if_pos c_5).trans ((if_pos c_6).trans (if_pos c_7))).symm (eS.trans (cg1 ((fun (x_8 : Int32) => ((fun (x_11 : Int32) => (lp_X8_must_2 q jb f n d (i + 1) (upd q1 10 ((q1 10) + x_11)) (upd jb1 i x_8))) (if ((upd jb1 i x_8) i) = 8 then 0 else (if ((upd jb1 i x_8) i) = 1 then (sX8_of f i 0) else (f 13)))))) ((if_pos c_5).trans ((if_pos c_6).trans (if_pos c_7))))) _ _ ls hP hD hS (lv_sub hl [0, 1, 2, 3] rfl)
          · refine lv_iconst (v := 1) hx hb dX8_must_46 (by decide) ?_
            refine lv_goto (tgt := 67) hx hb dX8_must_47 (by decide) ?_
            exact J_14 1 ((if_pos c_5).trans (if_neg c_6)).symm (eS.trans (cg1 ((fun (x_8 : Int32) => ((fun (x_11 : Int32) => (lp_X8_must_2 q jb f n d (i + 1) (upd q1 10 ((q1 10) + x_11)) (upd jb1 i x_8))) (if ((upd jb1 i x_8) i) = 8 then 0 else (if ((upd jb1 i x_8) i) = 1 then (sX8_of f i 0) else (f 13)))))) ((if_pos c_5).trans (if_neg c_6)))) _ _ ls hP hD hS (lv_sub hl [0, 1, 2, 3] rfl)
        · refine lv_iconst (v := 0) hx hb dX8_must_34 (by decide) ?_
          refine lv_goto (tgt := 67) hx hb dX8_must_35 (by decide) ?_
          exact J_14 0 (if_neg c_5).symm (eS.trans (cg1 ((fun (x_8 : Int32) => ((fun (x_11 : Int32) => (lp_X8_must_2 q jb f n d (i + 1) (upd q1 10 ((q1 10) + x_11)) (upd jb1 i x_8))) (if ((upd jb1 i x_8) i) = 8 then 0 else (if ((upd jb1 i x_8) i) = 1 then (sX8_of f i 0) else (f 13)))))) (if_neg c_5))) _ _ ls hP hD hS (lv_sub hl [0, 1, 2, 3] rfl)
      refine lv_if_le (tgt := 23) hx hb dX8_must_16 (by decide) (fun c_3 => ?_) (fun c_3 => ?_)
      · refine lv_iconst (v := 0) hx hb dX8_must_23 (by decide) ?_
        exact J_13 0 (if_pos c_3).symm (eS.trans (cg1 ((fun (x_4 : Int32) => ((fun (x_8 : Int32) => ((fun (x_11 : Int32) => (lp_X8_must_2 q jb f n d (i + 1) (upd q1 10 ((q1 10) + x_11)) (upd jb1 i x_8))) (if ((upd jb1 i x_8) i) = 8 then 0 else (if ((upd jb1 i x_8) i) = 1 then (sX8_of f i 0) else (f 13))))) (if x_4 = 0 then (if (sX8_isWarm f i) = 0 then (if (sX8_of f i 5) = 100 then 2 else 8) else 1) else 0)))) (if_pos c_3))) _ _ ls hP hD hS (lv_sub hl [0, 1, 2] rfl)
      · refine lv_iconst (v := 1) hx hb dX8_must_19 (by decide) ?_
        refine lv_goto (tgt := 24) hx hb dX8_must_20 (by decide) ?_
        exact J_13 1 (if_neg c_3).symm (eS.trans (cg1 ((fun (x_4 : Int32) => ((fun (x_8 : Int32) => ((fun (x_11 : Int32) => (lp_X8_must_2 q jb f n d (i + 1) (upd q1 10 ((q1 10) + x_11)) (upd jb1 i x_8))) (if ((upd jb1 i x_8) i) = 8 then 0 else (if ((upd jb1 i x_8) i) = 1 then (sX8_of f i 0) else (f 13))))) (if x_4 = 0 then (if (sX8_isWarm f i) = 0 then (if (sX8_of f i 5) = 100 then 2 else 8) else 1) else 0)))) (if_neg c_3))) _ _ ls hP hD hS (lv_sub hl [0, 1, 2] rfl)
  exact L_12 n 0 q jb (Nat.zero_add _) eS _ _ ls hP hD hS (lv_sub hl [1, 2, 0] rfl)
def lp_X8_nextWarm_4 (jb : Nat → Int32) (f : Nat → Int32) (n : Nat) : Nat → Nat → Option Nat → Option Nat
  | 0, i, w => (oe w none (fun k_2 => (some k_2)))
  | d + 1, i, w => (if (jb i) = 8 then (if (sX8_over f i) ≤ 0 then (oe w (lp_X8_nextWarm_4 jb f n d (i + 1) none) (fun k_9 => (lp_X8_nextWarm_4 jb f n d (i + 1) (some k_9)))) else (oe w (lp_X8_nextWarm_4 jb f n d (i + 1) (some i)) (fun k_11 => (if (sX8_over f i) ≤ (sX8_over f k_11) then (lp_X8_nextWarm_4 jb f n d (i + 1) (some k_11)) else (lp_X8_nextWarm_4 jb f n d (i + 1) (some i)))))) else (oe w (lp_X8_nextWarm_4 jb f n d (i + 1) none) (fun k_6 => (lp_X8_nextWarm_4 jb f n d (i + 1) (some k_6)))))
def sX8_nextWarm (jb : Nat → Int32) (f : Nat → Int32) (n : Nat) : Option Nat :=
  (lp_X8_nextWarm_4 jb f n n 0 none)
set_option maxRecDepth 100000 in
set_option maxHeartbeats 4000000 in
theorem c_X8_nextWarm (l : Launch) (G : va_G) (kk : Nat → ClassId) (h : Nat) (b : Nat → Nat) (q : Nat → Int32) (jb : Nat → Int32) (ra : Nat) (f : Nat → Int32) (n : Nat) (hn : f 0 = nI n) (h6 : n ≤ 6) : CC l yX8_nextWarm cX8_nextWarm 5 (some .int) (rmO 2 43) [.ref h, .ref ra] G kk ([(h, .inr (8, moF b q)), ((b 7), .inl (kk 0, 6, .inl jb)), (ra, .inl (kk 0, 64, .inl f))]) (QI G kk ([(h, .inr (8, moF b q)), ((b 7), .inl (kk 0, 6, .inl jb)), (ra, .inl (kk 0, 64, .inl f))]) (ob (sX8_nextWarm jb f n))) := by
  refine cc_start (by decide +kernel) (Nat.le_of_ble_eq_true rfl) ?_
  intro p e s m below meth c A ls hx hb hr hml hown hts hlocks hA hE hK hP hD hS hl
  have hown : s.vm.findClass RX8 = some m.cls := hown
  have hl : lv_has ls 5 [(0, .ref h), (1, .ref ra)] := hl
  have eS : sX8_nextWarm jb f n = sX8_nextWarm jb f n := rfl
  refine lv_iconst (v := (-1)) hx hb dX8_nextWarm_0 (by decide) ?_
  refine lv_istore_n (lv' := [(2, .int (-1)), (0, .ref h), (1, .ref ra)]) hx hb dX8_nextWarm_1 rfl hl (by decide) rfl (fun ls hl => ?_)
  refine lv_iconst (v := 0) hx hb dX8_nextWarm_2 (by decide) ?_
  refine lv_istore_n (lv' := [(3, .int 0), (2, .int (-1)), (0, .ref h), (1, .ref ra)]) hx hb dX8_nextWarm_3 rfl hl (by decide) rfl (fun ls hl => ?_)
  have L_15 : ∀ (d : Nat) (i : Nat) (w : Option Nat) (hd : i + d = n) (hw : ∀ k, w = some k → k < n) (eS : sX8_nextWarm jb f n = lp_X8_nextWarm_4 jb f n d i w) (H : Heap) (locs : List Loc) (ls : Array Slot) (hP : va_P G vwCl ([(h, .inr (8, moF b q)), ((b 7), .inl (kk 0, 6, .inl jb)), (ra, .inl (kk 0, 64, .inl f))]) H) (hD : va_D A ([(h, .inr (8, moF b q)), ((b 7), .inl (kk 0, 6, .inl jb)), (ra, .inl (kk 0, 64, .inl f))])) (hS : va_S A s.heap H locs) (hl : lv_has ls 5 [(0, .ref h), (1, .ref ra), (3, .int (nI i)), (2, .int (ob w))]), GO p l e (rmO 2 43) s m ([.ref h, .ref ra] : List Value).toArray below meth c A (QI G kk ([(h, .inr (8, moF b q)), ((b 7), .inl (kk 0, 6, .inl jb)), (ra, .inl (kk 0, 64, .inl f))]) (ob (sX8_nextWarm jb f n))) H locs (F0 m 4 ls []) := by
    intro d
    induction d with
    | zero =>
      intro i w hd hw eS H locs ls hP hD hS hl
      refine lv_iload_n hx hb dX8_nextWarm_4 rfl (lv_at hl 2 rfl) ?_
      refine lv_aload_n hx hb dX8_nextWarm_5 rfl (lv_at hl 1 rfl) ?_
      refine lv_iconst (v := 0) hx hb dX8_nextWarm_6 (by decide) ?_
      refine r_iald hx hb hK hP 2 rfl 0 rfl (by decide) (by decide) dX8_nextWarm_7 ?_
      refine lv_icmp_ge (tgt := 72) hx hb dX8_nextWarm_8 (by decide) (fun c_1 => ?_) (fun c_1 => absurd (fle hn (by omega) (by omega)) c_1)
      rcases opt_or w with rfl | ⟨k_2, rfl⟩
      · have hl : lv_has ls 5 [(0, .ref h), (1, .ref ra), (3, .int (nI i)), (2, .int (-1))] := hl
        have eS := eS.trans (oe_n rfl)
        refine lv_iload_n hx hb dX8_nextWarm_72 rfl (lv_at hl 3 rfl) ?_
        exact fin_i (v := (ob none)) hx hb hr hlocks hK hP hD hS (congrArg (fun z : Option Nat => (ob z)) eS) dX8_nextWarm_73
      · have hl : lv_has ls 5 [(0, .ref h), (1, .ref ra), (3, .int (nI i)), (2, .int (nI k_2))] := hl
        have hk_2 := hw k_2 rfl
        have eS := eS.trans (oe_s rfl)
        refine lv_iload_n hx hb dX8_nextWarm_72 rfl (lv_at hl 3 rfl) ?_
        exact fin_i (v := (ob (some k_2))) hx hb hr hlocks hK hP hD hS (congrArg (fun z : Option Nat => (ob z)) eS) dX8_nextWarm_73
    | succ d ih =>
      intro i w hd hw eS H locs ls hP hD hS hl
      refine lv_iload_n hx hb dX8_nextWarm_4 rfl (lv_at hl 2 rfl) ?_
      refine lv_aload_n hx hb dX8_nextWarm_5 rfl (lv_at hl 1 rfl) ?_
      refine lv_iconst (v := 0) hx hb dX8_nextWarm_6 (by decide) ?_
      refine r_iald hx hb hK hP 2 rfl 0 rfl (by decide) (by decide) dX8_nextWarm_7 ?_
      refine lv_icmp_ge (tgt := 72) hx hb dX8_nextWarm_8 (by decide) (fun c_3 => absurd c_3 (fgt hn (by omega) (by omega))) (fun c_3 => ?_)
      refine lv_aload_n hx hb dX8_nextWarm_11 rfl (lv_at hl 0 rfl) ?_
      refine r_get (v := .ref (b 7)) hx hb hts hown hK hP fl_X8_29 0 rfl rfl dX8_nextWarm_12 ?_
      refine lv_iload_n hx hb dX8_nextWarm_15 rfl (lv_at hl 2 rfl) ?_
      refine r_iald hx hb hK hP 1 rfl i rfl (by omega) (by decide) dX8_nextWarm_16 ?_
      refine lv_bipush (v := 8) hx hb dX8_nextWarm_17 (by decide) ?_
      refine lv_icmp_ne (tgt := 34) hx hb dX8_nextWarm_19 (by decide) (fun c_4 => ?_) (fun c_4 => ?_)
      · have eS := eS.trans (if_neg c_4)
        refine lv_iconst (v := 0) hx hb dX8_nextWarm_34 (by decide) ?_
        refine lv_istore (lv' := [(4, .int 0), (0, .ref h), (1, .ref ra), (3, .int (nI i)), (2, .int (ob w))]) hx hb dX8_nextWarm_35 hl (by decide) rfl (fun ls hl => ?_)
        refine lv_iload hx hb dX8_nextWarm_37 (lv_at hl 0 rfl) ?_
        refine lv_if_eq (tgt := 64) hx hb dX8_nextWarm_39 (by decide) (fun c_5 => ?_) (fun c_5 => absurd (by decide) c_5)
        rcases opt_or w with rfl | ⟨k_6, rfl⟩
        · have hl : lv_has ls 5 [(4, .int 0), (0, .ref h), (1, .ref ra), (3, .int (nI i)), (2, .int (-1))] := hl
          have eS := eS.trans (oe_n rfl)
          refine lv_iload_n hx hb dX8_nextWarm_64 rfl (lv_at hl 4 rfl) ?_
          refine lv_istore_n (lv' := [(2, .int (-1)), (4, .int 0), (0, .ref h), (1, .ref ra), (3, .int (nI i))]) hx hb dX8_nextWarm_65 rfl hl (by decide) rfl (fun ls hl => ?_)
          refine lv_iinc (v := (nI (i + 1))) (lv' := [(3, .int (nI (i + 1))), (2, .int (-1)), (4, .int 0), (0, .ref h), (1, .ref ra)]) hx hb dX8_nextWarm_66 hl (k := 4) rfl (nI_add i 1) (by decide) rfl (fun ls hl => ?_)
          refine lv_goto (tgt := 4) hx hb dX8_nextWarm_69 (by decide) ?_
          exact ih (i + 1) none (by omega) (by first | exact hw | (intro k h; cases h; omega)) eS _ _ ls hP hD hS (lv_sub hl [3, 4, 0, 1] rfl)
        · have hl : lv_has ls 5 [(4, .int 0), (0, .ref h), (1, .ref ra), (3, .int (nI i)), (2, .int (nI k_6))] := hl
          have hk_6 := hw k_6 rfl
          have eS := eS.trans (oe_s rfl)
          refine lv_iload_n hx hb dX8_nextWarm_64 rfl (lv_at hl 4 rfl) ?_
          refine lv_istore_n (lv' := [(2, .int (nI k_6)), (4, .int 0), (0, .ref h), (1, .ref ra), (3, .int (nI i))]) hx hb dX8_nextWarm_65 rfl hl (by decide) rfl (fun ls hl => ?_)
          refine lv_iinc (v := (nI (i + 1))) (lv' := [(3, .int (nI (i + 1))), (2, .int (nI k_6)), (4, .int 0), (0, .ref h), (1, .ref ra)]) hx hb dX8_nextWarm_66 hl (k := 4) rfl (nI_add i 1) (by decide) rfl (fun ls hl => ?_)
          refine lv_goto (tgt := 4) hx hb dX8_nextWarm_69 (by decide) ?_
          exact ih (i + 1) (some k_6) (by omega) (by first | exact hw | (intro k h; cases h; omega)) eS _ _ ls hP hD hS (lv_sub hl [3, 4, 0, 1] rfl)
      · have eS := eS.trans (if_pos c_4)
        refine lv_aload_n hx hb dX8_nextWarm_22 rfl (lv_at hl 1 rfl) ?_
        refine lv_iload_n hx hb dX8_nextWarm_23 rfl (lv_at hl 2 rfl) ?_
        refine k_goI (k_runS (rest := []) (As := [.ref ra, .int (nI i)]) hx hb hml hown hts hK hP hD hS hA hE hl.1 (c_X8_over l G kk ra f i (by omega)) sl_X8_59 ⟨Nat.le_of_ble_eq_true rfl, Nat.le_of_ble_eq_true rfl, rfl, rfl⟩ [2] rfl rfl ⟨Nat.zero_le _, Nat.zero_le _⟩ rfl (Nat.le_of_ble_eq_true rfl) dX8_nextWarm_24) hP hD hS hA [2] rfl ads1 (fun H locs hP hD hS => ?_)
        replace hP : va_P G vwCl ([(h, .inr (8, moF b q)), ((b 7), .inl (kk 0, 6, .inl jb)), (ra, .inl (kk 0, 64, .inl f))]) H := hP
        replace hD : va_D A ([(h, .inr (8, moF b q)), ((b 7), .inl (kk 0, 6, .inl jb)), (ra, .inl (kk 0, 64, .inl f))]) := hD
        refine lv_if_le (tgt := 34) hx hb dX8_nextWarm_27 (by decide) (fun c_7 => ?_) (fun c_7 => ?_)
        · have eS := eS.trans (if_pos c_7)
          refine lv_iconst (v := 0) hx hb dX8_nextWarm_34 (by decide) ?_
          refine lv_istore (lv' := [(4, .int 0), (0, .ref h), (1, .ref ra), (3, .int (nI i)), (2, .int (ob w))]) hx hb dX8_nextWarm_35 hl (by decide) rfl (fun ls hl => ?_)
          refine lv_iload hx hb dX8_nextWarm_37 (lv_at hl 0 rfl) ?_
          refine lv_if_eq (tgt := 64) hx hb dX8_nextWarm_39 (by decide) (fun c_8 => ?_) (fun c_8 => absurd (by decide) c_8)
          rcases opt_or w with rfl | ⟨k_9, rfl⟩
          · have hl : lv_has ls 5 [(4, .int 0), (0, .ref h), (1, .ref ra), (3, .int (nI i)), (2, .int (-1))] := hl
            have eS := eS.trans (oe_n rfl)
            refine lv_iload_n hx hb dX8_nextWarm_64 rfl (lv_at hl 4 rfl) ?_
            refine lv_istore_n (lv' := [(2, .int (-1)), (4, .int 0), (0, .ref h), (1, .ref ra), (3, .int (nI i))]) hx hb dX8_nextWarm_65 rfl hl (by decide) rfl (fun ls hl => ?_)
            refine lv_iinc (v := (nI (i + 1))) (lv' := [(3, .int (nI (i + 1))), (2, .int (-1)), (4, .int 0), (0, .ref h), (1, .ref ra)]) hx hb dX8_nextWarm_66 hl (k := 4) rfl (nI_add i 1) (by decide) rfl (fun ls hl => ?_)
            refine lv_goto (tgt := 4) hx hb dX8_nextWarm_69 (by decide) ?_
            exact ih (i + 1) none (by omega) (by first | exact hw | (intro k h; cases h; omega)) eS _ _ ls hP hD hS (lv_sub hl [3, 4, 0, 1] rfl)
          · have hl : lv_has ls 5 [(4, .int 0), (0, .ref h), (1, .ref ra), (3, .int (nI i)), (2, .int (nI k_9))] := hl
            have hk_9 := hw k_9 rfl
            have eS := eS.trans (oe_s rfl)
            refine lv_iload_n hx hb dX8_nextWarm_64 rfl (lv_at hl 4 rfl) ?_
            refine lv_istore_n (lv' := [(2, .int (nI k_9)), (4, .int 0), (0, .ref h), (1, .ref ra), (3, .int (nI i))]) hx hb dX8_nextWarm_65 rfl hl (by decide) rfl (fun ls hl => ?_)
            refine lv_iinc (v := (nI (i + 1))) (lv' := [(3, .int (nI (i + 1))), (2, .int (nI k_9)), (4, .int 0), (0, .ref h), (1, .ref ra)]) hx hb dX8_nextWarm_66 hl (k := 4) rfl (nI_add i 1) (by decide) rfl (fun ls hl => ?_)
            refine lv_goto (tgt := 4) hx hb dX8_nextWarm_69 (by decide) ?_
            exact ih (i + 1) (some k_9) (by omega) (by first | exact hw | (intro k h; cases h; omega)) eS _ _ ls hP hD hS (lv_sub hl [3, 4, 0, 1] rfl)
        · have eS := eS.trans (if_neg c_7)
          refine lv_iconst (v := 1) hx hb dX8_nextWarm_30 (by decide) ?_
          refine lv_goto (tgt := 35) hx hb dX8_nextWarm_31 (by decide) ?_
          refine lv_istore (lv' := [(4, .int 1), (0, .ref h), (1, .ref ra), (3, .int (nI i)), (2, .int (ob w))]) hx hb dX8_nextWarm_35 hl (by decide) rfl (fun ls hl => ?_)
          refine lv_iload hx hb dX8_nextWarm_37 (lv_at hl 0 rfl) ?_
          refine lv_if_eq (tgt := 64) hx hb dX8_nextWarm_39 (by decide) (fun c_10 => absurd c_10 (by decide)) (fun c_10 => ?_)
          rcases opt_or w with rfl | ⟨k_11, rfl⟩
          · have hl : lv_has ls 5 [(4, .int 1), (0, .ref h), (1, .ref ra), (3, .int (nI i)), (2, .int (-1))] := hl
            have eS := eS.trans (oe_n rfl)
            refine lv_iload_n hx hb dX8_nextWarm_42 rfl (lv_at hl 4 rfl) ?_
            refine lv_iconst (v := (-1)) hx hb dX8_nextWarm_43 (by decide) ?_
            refine lv_icmp_eq (tgt := 60) hx hb dX8_nextWarm_44 (by decide) (fun c_12 => ?_) (fun c_12 => absurd (by decide) c_12)
            refine lv_iload_n hx hb dX8_nextWarm_60 rfl (lv_at hl 3 rfl) ?_
            refine lv_goto (tgt := 65) hx hb dX8_nextWarm_61 (by decide) ?_
            refine lv_istore_n (lv' := [(2, .int (nI i)), (4, .int 1), (0, .ref h), (1, .ref ra), (3, .int (nI i))]) hx hb dX8_nextWarm_65 rfl hl (by decide) rfl (fun ls hl => ?_)
            refine lv_iinc (v := (nI (i + 1))) (lv' := [(3, .int (nI (i + 1))), (2, .int (nI i)), (4, .int 1), (0, .ref h), (1, .ref ra)]) hx hb dX8_nextWarm_66 hl (k := 4) rfl (nI_add i 1) (by decide) rfl (fun ls hl => ?_)
            refine lv_goto (tgt := 4) hx hb dX8_nextWarm_69 (by decide) ?_
            exact ih (i + 1) (some i) (by omega) (by first | exact hw | (intro k h; cases h; omega)) eS _ _ ls hP hD hS (lv_sub hl [3, 4, 0, 1] rfl)
          · have hl : lv_has ls 5 [(4, .int 1), (0, .ref h), (1, .ref ra), (3, .int (nI i)), (2, .int (nI k_11))] := hl
            have hk_11 := hw k_11 rfl
            have eS := eS.trans (oe_s rfl)
            refine lv_iload_n hx hb dX8_nextWarm_42 rfl (lv_at hl 4 rfl) ?_
            refine lv_iconst (v := (-1)) hx hb dX8_nextWarm_43 (by decide) ?_
            refine lv_icmp_eq (tgt := 60) hx hb dX8_nextWarm_44 (by decide) (fun c_13 => absurd c_13 (nI_nm1 (by omega))) (fun c_13 => ?_)
            refine lv_aload_n hx hb dX8_nextWarm_47 rfl (lv_at hl 2 rfl) ?_
            refine lv_iload_n hx hb dX8_nextWarm_48 rfl (lv_at hl 3 rfl) ?_
            refine k_goI (k_runS (rest := []) (As := [.ref ra, .int (nI i)]) hx hb hml hown hts hK hP hD hS hA hE hl.1 (c_X8_over l G kk ra f i (by omega)) sl_X8_59 ⟨Nat.le_of_ble_eq_true rfl, Nat.le_of_ble_eq_true rfl, rfl, rfl⟩ [2] rfl rfl ⟨Nat.zero_le _, Nat.zero_le _⟩ rfl (Nat.le_of_ble_eq_true rfl) dX8_nextWarm_49) hP hD hS hA [2] rfl ads1 (fun H locs hP hD hS => ?_)
            replace hP : va_P G vwCl ([(h, .inr (8, moF b q)), ((b 7), .inl (kk 0, 6, .inl jb)), (ra, .inl (kk 0, 64, .inl f))]) H := hP
            replace hD : va_D A ([(h, .inr (8, moF b q)), ((b 7), .inl (kk 0, 6, .inl jb)), (ra, .inl (kk 0, 64, .inl f))]) := hD
            refine lv_aload_n hx hb dX8_nextWarm_52 rfl (lv_at hl 2 rfl) ?_
            refine lv_iload_n hx hb dX8_nextWarm_53 rfl (lv_at hl 4 rfl) ?_
            refine k_goI (k_runS (rest := [.int (sX8_over f i)]) (As := [.ref ra, .int (nI k_11)]) hx hb hml hown hts hK hP hD hS hA hE hl.1 (c_X8_over l G kk ra f k_11 (by omega)) sl_X8_59 ⟨Nat.le_of_ble_eq_true rfl, Nat.le_of_ble_eq_true rfl, rfl, rfl⟩ [2] rfl rfl ⟨Nat.zero_le _, Nat.zero_le _⟩ rfl (Nat.le_of_ble_eq_true rfl) dX8_nextWarm_54) hP hD hS hA [2] rfl ads1 (fun H locs hP hD hS => ?_)
            replace hP : va_P G vwCl ([(h, .inr (8, moF b q)), ((b 7), .inl (kk 0, 6, .inl jb)), (ra, .inl (kk 0, 64, .inl f))]) H := hP
            replace hD : va_D A ([(h, .inr (8, moF b q)), ((b 7), .inl (kk 0, 6, .inl jb)), (ra, .inl (kk 0, 64, .inl f))]) := hD
            refine lv_icmp_le (tgt := 64) hx hb dX8_nextWarm_57 (by decide) (fun c_14 => ?_) (fun c_14 => ?_)
            · have eS := eS.trans (if_pos c_14)
              refine lv_iload_n hx hb dX8_nextWarm_64 rfl (lv_at hl 4 rfl) ?_
              refine lv_istore_n (lv' := [(2, .int (nI k_11)), (4, .int 1), (0, .ref h), (1, .ref ra), (3, .int (nI i))]) hx hb dX8_nextWarm_65 rfl hl (by decide) rfl (fun ls hl => ?_)
              refine lv_iinc (v := (nI (i + 1))) (lv' := [(3, .int (nI (i + 1))), (2, .int (nI k_11)), (4, .int 1), (0, .ref h), (1, .ref ra)]) hx hb dX8_nextWarm_66 hl (k := 4) rfl (nI_add i 1) (by decide) rfl (fun ls hl => ?_)
              refine lv_goto (tgt := 4) hx hb dX8_nextWarm_69 (by decide) ?_
              exact ih (i + 1) (some k_11) (by omega) (by first | exact hw | (intro k h; cases h; omega)) eS _ _ ls hP hD hS (lv_sub hl [3, 4, 0, 1] rfl)
            · have eS := eS.trans (if_neg c_14)
              refine lv_iload_n hx hb dX8_nextWarm_60 rfl (lv_at hl 3 rfl) ?_
              refine lv_goto (tgt := 65) hx hb dX8_nextWarm_61 (by decide) ?_
              refine lv_istore_n (lv' := [(2, .int (nI i)), (4, .int 1), (0, .ref h), (1, .ref ra), (3, .int (nI i))]) hx hb dX8_nextWarm_65 rfl hl (by decide) rfl (fun ls hl => ?_)
              refine lv_iinc (v := (nI (i + 1))) (lv' := [(3, .int (nI (i + 1))), (2, .int (nI i)), (4, .int 1), (0, .ref h), (1, .ref ra)]) hx hb dX8_nextWarm_66 hl (k := 4) rfl (nI_add i 1) (by decide) rfl (fun ls hl => ?_)
              refine lv_goto (tgt := 4) hx hb dX8_nextWarm_69 (by decide) ?_
              exact ih (i + 1) (some i) (by omega) (by first | exact hw | (intro k h; cases h; omega)) eS _ _ ls hP hD hS (lv_sub hl [3, 4, 0, 1] rfl)
  exact L_15 n 0 none (Nat.zero_add _) (fun k h => by cases h) eS _ _ ls hP hD hS (lv_sub hl [2, 3, 0, 1] rfl)
def lp_X8_nextFrost_4 (jb : Nat → Int32) (f : Nat → Int32) (n : Nat) : Nat → Nat → Option Nat → Option Nat
  | 0, i, w => (oe w none (fun k_2 => (some k_2)))
  | d + 1, i, w => (if (jb i) = 8 then (if (sX8_of f i 5) < (f 14) then (oe w (lp_X8_nextFrost_4 jb f n d (i + 1) none) (fun k_9 => (lp_X8_nextFrost_4 jb f n d (i + 1) (some k_9)))) else (oe w (lp_X8_nextFrost_4 jb f n d (i + 1) (some i)) (fun k_11 => (if (sX8_of f i 5) ≤ (sX8_of f k_11 5) then (lp_X8_nextFrost_4 jb f n d (i + 1) (some k_11)) else (lp_X8_nextFrost_4 jb f n d (i + 1) (some i)))))) else (oe w (lp_X8_nextFrost_4 jb f n d (i + 1) none) (fun k_6 => (lp_X8_nextFrost_4 jb f n d (i + 1) (some k_6)))))
def sX8_nextFrost (jb : Nat → Int32) (f : Nat → Int32) (n : Nat) : Option Nat :=
  (lp_X8_nextFrost_4 jb f n n 0 none)
set_option maxRecDepth 100000 in
set_option maxHeartbeats 4000000 in
theorem c_X8_nextFrost (l : Launch) (G : va_G) (kk : Nat → ClassId) (h : Nat) (b : Nat → Nat) (q : Nat → Int32) (jb : Nat → Int32) (ra : Nat) (f : Nat → Int32) (n : Nat) (hn : f 0 = nI n) (h6 : n ≤ 6) : CC l yX8_nextFrost cX8_nextFrost 5 (some .int) (rmO 1 22) [.ref h, .ref ra] G kk ([(h, .inr (8, moF b q)), ((b 7), .inl (kk 0, 6, .inl jb)), (ra, .inl (kk 0, 64, .inl f))]) (QI G kk ([(h, .inr (8, moF b q)), ((b 7), .inl (kk 0, 6, .inl jb)), (ra, .inl (kk 0, 64, .inl f))]) (ob (sX8_nextFrost jb f n))) := by
  refine cc_start (by decide +kernel) (Nat.le_of_ble_eq_true rfl) ?_
  intro p e s m below meth c A ls hx hb hr hml hown hts hlocks hA hE hK hP hD hS hl
  have hown : s.vm.findClass RX8 = some m.cls := hown
  have hl : lv_has ls 5 [(0, .ref h), (1, .ref ra)] := hl
  have eS : sX8_nextFrost jb f n = sX8_nextFrost jb f n := rfl
  refine lv_iconst (v := (-1)) hx hb dX8_nextFrost_0 (by decide) ?_
  refine lv_istore_n (lv' := [(2, .int (-1)), (0, .ref h), (1, .ref ra)]) hx hb dX8_nextFrost_1 rfl hl (by decide) rfl (fun ls hl => ?_)
  refine lv_iconst (v := 0) hx hb dX8_nextFrost_2 (by decide) ?_
  refine lv_istore_n (lv' := [(3, .int 0), (2, .int (-1)), (0, .ref h), (1, .ref ra)]) hx hb dX8_nextFrost_3 rfl hl (by decide) rfl (fun ls hl => ?_)
  have L_15 : ∀ (d : Nat) (i : Nat) (w : Option Nat) (hd : i + d = n) (hw : ∀ k, w = some k → k < n) (eS : sX8_nextFrost jb f n = lp_X8_nextFrost_4 jb f n d i w) (H : Heap) (locs : List Loc) (ls : Array Slot) (hP : va_P G vwCl ([(h, .inr (8, moF b q)), ((b 7), .inl (kk 0, 6, .inl jb)), (ra, .inl (kk 0, 64, .inl f))]) H) (hD : va_D A ([(h, .inr (8, moF b q)), ((b 7), .inl (kk 0, 6, .inl jb)), (ra, .inl (kk 0, 64, .inl f))])) (hS : va_S A s.heap H locs) (hl : lv_has ls 5 [(0, .ref h), (1, .ref ra), (3, .int (nI i)), (2, .int (ob w))]), GO p l e (rmO 1 22) s m ([.ref h, .ref ra] : List Value).toArray below meth c A (QI G kk ([(h, .inr (8, moF b q)), ((b 7), .inl (kk 0, 6, .inl jb)), (ra, .inl (kk 0, 64, .inl f))]) (ob (sX8_nextFrost jb f n))) H locs (F0 m 4 ls []) := by
    intro d
    induction d with
    | zero =>
      intro i w hd hw eS H locs ls hP hD hS hl
      refine lv_iload_n hx hb dX8_nextFrost_4 rfl (lv_at hl 2 rfl) ?_
      refine lv_aload_n hx hb dX8_nextFrost_5 rfl (lv_at hl 1 rfl) ?_
      refine lv_iconst (v := 0) hx hb dX8_nextFrost_6 (by decide) ?_
      refine r_iald hx hb hK hP 2 rfl 0 rfl (by decide) (by decide) dX8_nextFrost_7 ?_
      refine lv_icmp_ge (tgt := 79) hx hb dX8_nextFrost_8 (by decide) (fun c_1 => ?_) (fun c_1 => absurd (fle hn (by omega) (by omega)) c_1)
      rcases opt_or w with rfl | ⟨k_2, rfl⟩
      · have hl : lv_has ls 5 [(0, .ref h), (1, .ref ra), (3, .int (nI i)), (2, .int (-1))] := hl
        have eS := eS.trans (oe_n rfl)
        refine lv_iload_n hx hb dX8_nextFrost_79 rfl (lv_at hl 3 rfl) ?_
        exact fin_i (v := (ob none)) hx hb hr hlocks hK hP hD hS (congrArg (fun z : Option Nat => (ob z)) eS) dX8_nextFrost_80
      · have hl : lv_has ls 5 [(0, .ref h), (1, .ref ra), (3, .int (nI i)), (2, .int (nI k_2))] := hl
        have hk_2 := hw k_2 rfl
        have eS := eS.trans (oe_s rfl)
        refine lv_iload_n hx hb dX8_nextFrost_79 rfl (lv_at hl 3 rfl) ?_
        exact fin_i (v := (ob (some k_2))) hx hb hr hlocks hK hP hD hS (congrArg (fun z : Option Nat => (ob z)) eS) dX8_nextFrost_80
    | succ d ih =>
      intro i w hd hw eS H locs ls hP hD hS hl
      refine lv_iload_n hx hb dX8_nextFrost_4 rfl (lv_at hl 2 rfl) ?_
      refine lv_aload_n hx hb dX8_nextFrost_5 rfl (lv_at hl 1 rfl) ?_
      refine lv_iconst (v := 0) hx hb dX8_nextFrost_6 (by decide) ?_
      refine r_iald hx hb hK hP 2 rfl 0 rfl (by decide) (by decide) dX8_nextFrost_7 ?_
      refine lv_icmp_ge (tgt := 79) hx hb dX8_nextFrost_8 (by decide) (fun c_3 => absurd c_3 (fgt hn (by omega) (by omega))) (fun c_3 => ?_)
      refine lv_aload_n hx hb dX8_nextFrost_11 rfl (lv_at hl 0 rfl) ?_
      refine r_get (v := .ref (b 7)) hx hb hts hown hK hP fl_X8_29 0 rfl rfl dX8_nextFrost_12 ?_
      refine lv_iload_n hx hb dX8_nextFrost_15 rfl (lv_at hl 2 rfl) ?_
      refine r_iald hx hb hK hP 1 rfl i rfl (by omega) (by decide) dX8_nextFrost_16 ?_
      refine lv_bipush (v := 8) hx hb dX8_nextFrost_17 (by decide) ?_
      refine lv_icmp_ne (tgt := 39) hx hb dX8_nextFrost_19 (by decide) (fun c_4 => ?_) (fun c_4 => ?_)
      · have eS := eS.trans (if_neg c_4)
        refine lv_iconst (v := 0) hx hb dX8_nextFrost_39 (by decide) ?_
        refine lv_istore (lv' := [(4, .int 0), (0, .ref h), (1, .ref ra), (3, .int (nI i)), (2, .int (ob w))]) hx hb dX8_nextFrost_40 hl (by decide) rfl (fun ls hl => ?_)
        refine lv_iload hx hb dX8_nextFrost_42 (lv_at hl 0 rfl) ?_
        refine lv_if_eq (tgt := 71) hx hb dX8_nextFrost_44 (by decide) (fun c_5 => ?_) (fun c_5 => absurd (by decide) c_5)
        rcases opt_or w with rfl | ⟨k_6, rfl⟩
        · have hl : lv_has ls 5 [(4, .int 0), (0, .ref h), (1, .ref ra), (3, .int (nI i)), (2, .int (-1))] := hl
          have eS := eS.trans (oe_n rfl)
          refine lv_iload_n hx hb dX8_nextFrost_71 rfl (lv_at hl 4 rfl) ?_
          refine lv_istore_n (lv' := [(2, .int (-1)), (4, .int 0), (0, .ref h), (1, .ref ra), (3, .int (nI i))]) hx hb dX8_nextFrost_72 rfl hl (by decide) rfl (fun ls hl => ?_)
          refine lv_iinc (v := (nI (i + 1))) (lv' := [(3, .int (nI (i + 1))), (2, .int (-1)), (4, .int 0), (0, .ref h), (1, .ref ra)]) hx hb dX8_nextFrost_73 hl (k := 4) rfl (nI_add i 1) (by decide) rfl (fun ls hl => ?_)
          refine lv_goto (tgt := 4) hx hb dX8_nextFrost_76 (by decide) ?_
          exact ih (i + 1) none (by omega) (by first | exact hw | (intro k h; cases h; omega)) eS _ _ ls hP hD hS (lv_sub hl [3, 4, 0, 1] rfl)
        · have hl : lv_has ls 5 [(4, .int 0), (0, .ref h), (1, .ref ra), (3, .int (nI i)), (2, .int (nI k_6))] := hl
          have hk_6 := hw k_6 rfl
          have eS := eS.trans (oe_s rfl)
          refine lv_iload_n hx hb dX8_nextFrost_71 rfl (lv_at hl 4 rfl) ?_
          refine lv_istore_n (lv' := [(2, .int (nI k_6)), (4, .int 0), (0, .ref h), (1, .ref ra), (3, .int (nI i))]) hx hb dX8_nextFrost_72 rfl hl (by decide) rfl (fun ls hl => ?_)
          refine lv_iinc (v := (nI (i + 1))) (lv' := [(3, .int (nI (i + 1))), (2, .int (nI k_6)), (4, .int 0), (0, .ref h), (1, .ref ra)]) hx hb dX8_nextFrost_73 hl (k := 4) rfl (nI_add i 1) (by decide) rfl (fun ls hl => ?_)
          refine lv_goto (tgt := 4) hx hb dX8_nextFrost_76 (by decide) ?_
          exact ih (i + 1) (some k_6) (by omega) (by first | exact hw | (intro k h; cases h; omega)) eS _ _ ls hP hD hS (lv_sub hl [3, 4, 0, 1] rfl)
      · have eS := eS.trans (if_pos c_4)
        refine lv_aload_n hx hb dX8_nextFrost_22 rfl (lv_at hl 1 rfl) ?_
        refine lv_iload_n hx hb dX8_nextFrost_23 rfl (lv_at hl 2 rfl) ?_
        refine lv_iconst (v := 5) hx hb dX8_nextFrost_24 (by decide) ?_
        refine k_goI (k_runS (rest := []) (As := [.ref ra, .int (nI i), .int 5]) hx hb hml hown hts hK hP hD hS hA hE hl.1 (c_X8_of l G kk ra f i 5 (by omega)) sl_X8_44 ⟨Nat.le_of_ble_eq_true rfl, Nat.le_of_ble_eq_true rfl, rfl, rfl⟩ [2] rfl rfl ⟨Nat.zero_le _, Nat.zero_le _⟩ rfl (Nat.le_of_ble_eq_true rfl) dX8_nextFrost_25) hP hD hS hA [2] rfl ads1 (fun H locs hP hD hS => ?_)
        replace hP : va_P G vwCl ([(h, .inr (8, moF b q)), ((b 7), .inl (kk 0, 6, .inl jb)), (ra, .inl (kk 0, 64, .inl f))]) H := hP
        replace hD : va_D A ([(h, .inr (8, moF b q)), ((b 7), .inl (kk 0, 6, .inl jb)), (ra, .inl (kk 0, 64, .inl f))]) := hD
        refine lv_aload_n hx hb dX8_nextFrost_28 rfl (lv_at hl 1 rfl) ?_
        refine lv_bipush (v := 14) hx hb dX8_nextFrost_29 (by decide) ?_
        refine r_iald hx hb hK hP 2 rfl 14 rfl (by decide) (by decide) dX8_nextFrost_31 ?_
        refine lv_icmp_lt (tgt := 39) hx hb dX8_nextFrost_32 (by decide) (fun c_7 => ?_) (fun c_7 => ?_)
        · have eS := eS.trans (if_pos c_7)
          refine lv_iconst (v := 0) hx hb dX8_nextFrost_39 (by decide) ?_
          refine lv_istore (lv' := [(4, .int 0), (0, .ref h), (1, .ref ra), (3, .int (nI i)), (2, .int (ob w))]) hx hb dX8_nextFrost_40 hl (by decide) rfl (fun ls hl => ?_)
          refine lv_iload hx hb dX8_nextFrost_42 (lv_at hl 0 rfl) ?_
          refine lv_if_eq (tgt := 71) hx hb dX8_nextFrost_44 (by decide) (fun c_8 => ?_) (fun c_8 => absurd (by decide) c_8)
          rcases opt_or w with rfl | ⟨k_9, rfl⟩
          · have hl : lv_has ls 5 [(4, .int 0), (0, .ref h), (1, .ref ra), (3, .int (nI i)), (2, .int (-1))] := hl
            have eS := eS.trans (oe_n rfl)
            refine lv_iload_n hx hb dX8_nextFrost_71 rfl (lv_at hl 4 rfl) ?_
            refine lv_istore_n (lv' := [(2, .int (-1)), (4, .int 0), (0, .ref h), (1, .ref ra), (3, .int (nI i))]) hx hb dX8_nextFrost_72 rfl hl (by decide) rfl (fun ls hl => ?_)
            refine lv_iinc (v := (nI (i + 1))) (lv' := [(3, .int (nI (i + 1))), (2, .int (-1)), (4, .int 0), (0, .ref h), (1, .ref ra)]) hx hb dX8_nextFrost_73 hl (k := 4) rfl (nI_add i 1) (by decide) rfl (fun ls hl => ?_)
            refine lv_goto (tgt := 4) hx hb dX8_nextFrost_76 (by decide) ?_
            exact ih (i + 1) none (by omega) (by first | exact hw | (intro k h; cases h; omega)) eS _ _ ls hP hD hS (lv_sub hl [3, 4, 0, 1] rfl)
          · have hl : lv_has ls 5 [(4, .int 0), (0, .ref h), (1, .ref ra), (3, .int (nI i)), (2, .int (nI k_9))] := hl
            have hk_9 := hw k_9 rfl
            have eS := eS.trans (oe_s rfl)
            refine lv_iload_n hx hb dX8_nextFrost_71 rfl (lv_at hl 4 rfl) ?_
            refine lv_istore_n (lv' := [(2, .int (nI k_9)), (4, .int 0), (0, .ref h), (1, .ref ra), (3, .int (nI i))]) hx hb dX8_nextFrost_72 rfl hl (by decide) rfl (fun ls hl => ?_)
            refine lv_iinc (v := (nI (i + 1))) (lv' := [(3, .int (nI (i + 1))), (2, .int (nI k_9)), (4, .int 0), (0, .ref h), (1, .ref ra)]) hx hb dX8_nextFrost_73 hl (k := 4) rfl (nI_add i 1) (by decide) rfl (fun ls hl => ?_)
            refine lv_goto (tgt := 4) hx hb dX8_nextFrost_76 (by decide) ?_
            exact ih (i + 1) (some k_9) (by omega) (by first | exact hw | (intro k h; cases h; omega)) eS _ _ ls hP hD hS (lv_sub hl [3, 4, 0, 1] rfl)
        · have eS := eS.trans (if_neg c_7)
          refine lv_iconst (v := 1) hx hb dX8_nextFrost_35 (by decide) ?_
          refine lv_goto (tgt := 40) hx hb dX8_nextFrost_36 (by decide) ?_
          refine lv_istore (lv' := [(4, .int 1), (0, .ref h), (1, .ref ra), (3, .int (nI i)), (2, .int (ob w))]) hx hb dX8_nextFrost_40 hl (by decide) rfl (fun ls hl => ?_)
          refine lv_iload hx hb dX8_nextFrost_42 (lv_at hl 0 rfl) ?_
          refine lv_if_eq (tgt := 71) hx hb dX8_nextFrost_44 (by decide) (fun c_10 => absurd c_10 (by decide)) (fun c_10 => ?_)
          rcases opt_or w with rfl | ⟨k_11, rfl⟩
          · have hl : lv_has ls 5 [(4, .int 1), (0, .ref h), (1, .ref ra), (3, .int (nI i)), (2, .int (-1))] := hl
            have eS := eS.trans (oe_n rfl)
            refine lv_iload_n hx hb dX8_nextFrost_47 rfl (lv_at hl 4 rfl) ?_
            refine lv_iconst (v := (-1)) hx hb dX8_nextFrost_48 (by decide) ?_
            refine lv_icmp_eq (tgt := 67) hx hb dX8_nextFrost_49 (by decide) (fun c_12 => ?_) (fun c_12 => absurd (by decide) c_12)
            refine lv_iload_n hx hb dX8_nextFrost_67 rfl (lv_at hl 3 rfl) ?_
            refine lv_goto (tgt := 72) hx hb dX8_nextFrost_68 (by decide) ?_
            refine lv_istore_n (lv' := [(2, .int (nI i)), (4, .int 1), (0, .ref h), (1, .ref ra), (3, .int (nI i))]) hx hb dX8_nextFrost_72 rfl hl (by decide) rfl (fun ls hl => ?_)
            refine lv_iinc (v := (nI (i + 1))) (lv' := [(3, .int (nI (i + 1))), (2, .int (nI i)), (4, .int 1), (0, .ref h), (1, .ref ra)]) hx hb dX8_nextFrost_73 hl (k := 4) rfl (nI_add i 1) (by decide) rfl (fun ls hl => ?_)
            refine lv_goto (tgt := 4) hx hb dX8_nextFrost_76 (by decide) ?_
            exact ih (i + 1) (some i) (by omega) (by first | exact hw | (intro k h; cases h; omega)) eS _ _ ls hP hD hS (lv_sub hl [3, 4, 0, 1] rfl)
          · have hl : lv_has ls 5 [(4, .int 1), (0, .ref h), (1, .ref ra), (3, .int (nI i)), (2, .int (nI k_11))] := hl
            have hk_11 := hw k_11 rfl
            have eS := eS.trans (oe_s rfl)
            refine lv_iload_n hx hb dX8_nextFrost_47 rfl (lv_at hl 4 rfl) ?_
            refine lv_iconst (v := (-1)) hx hb dX8_nextFrost_48 (by decide) ?_
            refine lv_icmp_eq (tgt := 67) hx hb dX8_nextFrost_49 (by decide) (fun c_13 => absurd c_13 (nI_nm1 (by omega))) (fun c_13 => ?_)
            refine lv_aload_n hx hb dX8_nextFrost_52 rfl (lv_at hl 2 rfl) ?_
            refine lv_iload_n hx hb dX8_nextFrost_53 rfl (lv_at hl 3 rfl) ?_
            refine lv_iconst (v := 5) hx hb dX8_nextFrost_54 (by decide) ?_
            refine k_goI (k_runS (rest := []) (As := [.ref ra, .int (nI i), .int 5]) hx hb hml hown hts hK hP hD hS hA hE hl.1 (c_X8_of l G kk ra f i 5 (by omega)) sl_X8_44 ⟨Nat.le_of_ble_eq_true rfl, Nat.le_of_ble_eq_true rfl, rfl, rfl⟩ [2] rfl rfl ⟨Nat.zero_le _, Nat.zero_le _⟩ rfl (Nat.le_of_ble_eq_true rfl) dX8_nextFrost_55) hP hD hS hA [2] rfl ads1 (fun H locs hP hD hS => ?_)
            replace hP : va_P G vwCl ([(h, .inr (8, moF b q)), ((b 7), .inl (kk 0, 6, .inl jb)), (ra, .inl (kk 0, 64, .inl f))]) H := hP
            replace hD : va_D A ([(h, .inr (8, moF b q)), ((b 7), .inl (kk 0, 6, .inl jb)), (ra, .inl (kk 0, 64, .inl f))]) := hD
            refine lv_aload_n hx hb dX8_nextFrost_58 rfl (lv_at hl 2 rfl) ?_
            refine lv_iload_n hx hb dX8_nextFrost_59 rfl (lv_at hl 4 rfl) ?_
            refine lv_iconst (v := 5) hx hb dX8_nextFrost_60 (by decide) ?_
            refine k_goI (k_runS (rest := [.int (sX8_of f i 5)]) (As := [.ref ra, .int (nI k_11), .int 5]) hx hb hml hown hts hK hP hD hS hA hE hl.1 (c_X8_of l G kk ra f k_11 5 (by omega)) sl_X8_44 ⟨Nat.le_of_ble_eq_true rfl, Nat.le_of_ble_eq_true rfl, rfl, rfl⟩ [2] rfl rfl ⟨Nat.zero_le _, Nat.zero_le _⟩ rfl (Nat.le_of_ble_eq_true rfl) dX8_nextFrost_61) hP hD hS hA [2] rfl ads1 (fun H locs hP hD hS => ?_)
            replace hP : va_P G vwCl ([(h, .inr (8, moF b q)), ((b 7), .inl (kk 0, 6, .inl jb)), (ra, .inl (kk 0, 64, .inl f))]) H := hP
            replace hD : va_D A ([(h, .inr (8, moF b q)), ((b 7), .inl (kk 0, 6, .inl jb)), (ra, .inl (kk 0, 64, .inl f))]) := hD
            refine lv_icmp_le (tgt := 71) hx hb dX8_nextFrost_64 (by decide) (fun c_14 => ?_) (fun c_14 => ?_)
            · have eS := eS.trans (if_pos c_14)
              refine lv_iload_n hx hb dX8_nextFrost_71 rfl (lv_at hl 4 rfl) ?_
              refine lv_istore_n (lv' := [(2, .int (nI k_11)), (4, .int 1), (0, .ref h), (1, .ref ra), (3, .int (nI i))]) hx hb dX8_nextFrost_72 rfl hl (by decide) rfl (fun ls hl => ?_)
              refine lv_iinc (v := (nI (i + 1))) (lv' := [(3, .int (nI (i + 1))), (2, .int (nI k_11)), (4, .int 1), (0, .ref h), (1, .ref ra)]) hx hb dX8_nextFrost_73 hl (k := 4) rfl (nI_add i 1) (by decide) rfl (fun ls hl => ?_)
              refine lv_goto (tgt := 4) hx hb dX8_nextFrost_76 (by decide) ?_
              exact ih (i + 1) (some k_11) (by omega) (by first | exact hw | (intro k h; cases h; omega)) eS _ _ ls hP hD hS (lv_sub hl [3, 4, 0, 1] rfl)
            · have eS := eS.trans (if_neg c_14)
              refine lv_iload_n hx hb dX8_nextFrost_67 rfl (lv_at hl 3 rfl) ?_
              refine lv_goto (tgt := 72) hx hb dX8_nextFrost_68 (by decide) ?_
              refine lv_istore_n (lv' := [(2, .int (nI i)), (4, .int 1), (0, .ref h), (1, .ref ra), (3, .int (nI i))]) hx hb dX8_nextFrost_72 rfl hl (by decide) rfl (fun ls hl => ?_)
              refine lv_iinc (v := (nI (i + 1))) (lv' := [(3, .int (nI (i + 1))), (2, .int (nI i)), (4, .int 1), (0, .ref h), (1, .ref ra)]) hx hb dX8_nextFrost_73 hl (k := 4) rfl (nI_add i 1) (by decide) rfl (fun ls hl => ?_)
              refine lv_goto (tgt := 4) hx hb dX8_nextFrost_76 (by decide) ?_
              exact ih (i + 1) (some i) (by omega) (by first | exact hw | (intro k h; cases h; omega)) eS _ _ ls hP hD hS (lv_sub hl [3, 4, 0, 1] rfl)
  exact L_15 n 0 none (Nat.zero_add _) (fun k h => by cases h) eS _ _ ls hP hD hS (lv_sub hl [2, 3, 0, 1] rfl)
end
section
theorem mnw_spec0 {jb f : Nat → Int32} {n : Nat} : ∀ (d i : Nat) (w : Option Nat) (k : Nat), i + d = n → (∀ k, w = some k → k < n ∧ jb k = 8) → lp_X8_nextWarm_4 jb f n d i w = some k → k < n ∧ jb k = 8
  | 0, i, w, k, _, hw, h => by
    cases w with
    | none => cases h
    | some j => cases h; exact hw k rfl
  | d + 1, i, w, k, hd, hw, h => by
    have key : ∀ w', (w' = w ∨ (w' = some i ∧ jb i = 8)) → lp_X8_nextWarm_4 jb f n d (i + 1) w' = some k → k < n ∧ jb k = 8 := by
      intro w' h1 h2
      refine mnw_spec0 d (i + 1) w' k (by omega) ?_ h2
      rcases h1 with rfl | ⟨rfl, h3⟩
      · exact hw
      · intro k2 e; cases e; exact ⟨by omega, h3⟩
    unfold lp_X8_nextWarm_4 at h
    cases w with
    | none =>
      simp only [oe] at h
      repeat' split at h
      all_goals first
        | exact key _ (Or.inl rfl) h
        | exact key _ (Or.inr ⟨rfl, by assumption⟩) h
        | (exfalso; simp_all; done)
    | some j =>
      simp only [oe] at h
      repeat' split at h
      all_goals first
        | exact key _ (Or.inl rfl) h
        | exact key _ (Or.inr ⟨rfl, by assumption⟩) h
        | (exfalso; simp_all; done)
theorem mnw_spec {jb f : Nat → Int32} {n k : Nat} (h : sX8_nextWarm jb f n = some k) : k < n ∧ jb k = 8 := mnw_spec0 n 0 none k (Nat.zero_add _) (fun _ h => by cases h) h
theorem mnf_spec0 {jb f : Nat → Int32} {n : Nat} : ∀ (d i : Nat) (w : Option Nat) (k : Nat), i + d = n → (∀ k, w = some k → k < n ∧ jb k = 8) → lp_X8_nextFrost_4 jb f n d i w = some k → k < n ∧ jb k = 8
  | 0, i, w, k, _, hw, h => by
    cases w with
    | none => cases h
    | some j => cases h; exact hw k rfl
  | d + 1, i, w, k, hd, hw, h => by
    have key : ∀ w', (w' = w ∨ (w' = some i ∧ jb i = 8)) → lp_X8_nextFrost_4 jb f n d (i + 1) w' = some k → k < n ∧ jb k = 8 := by
      intro w' h1 h2
      refine mnf_spec0 d (i + 1) w' k (by omega) ?_ h2
      rcases h1 with rfl | ⟨rfl, h3⟩
      · exact hw
      · intro k2 e; cases e; exact ⟨by omega, h3⟩
    unfold lp_X8_nextFrost_4 at h
    cases w with
    | none =>
      simp only [oe] at h
      repeat' split at h
      all_goals first
        | exact key _ (Or.inl rfl) h
        | exact key _ (Or.inr ⟨rfl, by assumption⟩) h
        | (exfalso; simp_all; done)
    | some j =>
      simp only [oe] at h
      repeat' split at h
      all_goals first
        | exact key _ (Or.inl rfl) h
        | exact key _ (Or.inr ⟨rfl, by assumption⟩) h
        | (exfalso; simp_all; done)
theorem mnf_spec {jb f : Nat → Int32} {n k : Nat} (h : sX8_nextFrost jb f n = some k) : k < n ∧ jb k = 8 := mnf_spec0 n 0 none k (Nat.zero_add _) (fun _ h => by cases h) h
/-- how many jobs are open -/
def oc (jb : Nat → Int32) : Nat → Nat
  | 0 => 0
  | n + 1 => oc jb n + (if jb n = 8 then 1 else 0)
theorem oc_le (jb : Nat → Int32) : ∀ n, oc jb n ≤ n
  | 0 => Nat.le_refl 0
  | n + 1 => by
    have h := oc_le jb n
    show oc jb n + (if jb n = 8 then 1 else 0) ≤ n + 1
    split <;> omega
theorem oc_out {jb : Nat → Int32} {k : Nat} {x : Int32} : ∀ {n : Nat}, n ≤ k → oc (upd jb k x) n = oc jb n
  | 0, _ => rfl
  | n + 1, h => by
    show oc (upd jb k x) n + (if upd jb k x n = 8 then 1 else 0) = oc jb n + (if jb n = 8 then 1 else 0)
    rw [oc_out (by omega), pk_un (by omega)]
theorem oc_dec {jb : Nat → Int32} {k : Nat} {x : Int32} : ∀ {n : Nat}, k < n → jb k = 8 → ¬ x = 8 → oc (upd jb k x) n + 1 = oc jb n
  | 0, h, _, _ => by omega
  | n + 1, h, h8, hx => by
    show oc (upd jb k x) n + (if upd jb k x n = 8 then 1 else 0) + 1 = oc jb n + (if jb n = 8 then 1 else 0)
    by_cases hk : k = n
    · subst hk
      rw [oc_out (Nat.le_refl _), pk_us, if_neg hx, if_pos h8]
    · rw [pk_un (fun q => hk q.symm)]
      have := oc_dec (n := n) (by omega) h8 hx
      omega
theorem oc_step {jb : Nat → Int32} {k n d : Nat} {x : Int32} (h : oc jb n < d + 1) (hk : k < n) (h8 : jb k = 8) (hx : ¬ x = 8) : oc (upd jb k x) n < d := by
  have := oc_dec hk h8 hx
  omega
theorem oc_7 {jb : Nat → Int32} {n : Nat} (h : n ≤ 6) : oc jb n < 7 := Nat.lt_of_le_of_lt (oc_le jb n) (by omega)
def lp_X8_find_149 (q : Nat → Int32) (jb : Nat → Int32) (f : Nat → Int32) (n : Nat) (z_1 : (Nat → Int32) × (Nat → Int32)) (q2 : Nat → Int32) (jb2 : Nat → Int32) (q3 : Nat → Int32) (jb3 : Nat → Int32) : Nat → Nat → (Nat → Int32) → (Nat → Int32) × (Nat → Int32)
  | 0, i, jb1 => (q3, jb1)
  | d + 1, i, jb1 => ((fun (x_5 : Int32) => (lp_X8_find_149 q jb f n z_1 q2 jb2 q3 jb3 d (i + 1) (upd jb1 i x_5))) (if (jb1 i) = 8 then 7 else (jb1 i)))
def sX8_find_x147 (q : Nat → Int32) (jb : Nat → Int32) (f : Nat → Int32) (n : Nat) (z_1 : (Nat → Int32) × (Nat → Int32)) (q2 : Nat → Int32) (jb2 : Nat → Int32) (q3 : Nat → Int32) (jb3 : Nat → Int32) : (Nat → Int32) × (Nat → Int32) :=
  (lp_X8_find_149 q jb f n z_1 q2 jb2 q3 jb3 n 0 jb3)
def lp_X8_find_86 (q : Nat → Int32) (jb : Nat → Int32) (f : Nat → Int32) (n : Nat) (z_1 : (Nat → Int32) × (Nat → Int32)) (q2 : Nat → Int32) (jb2 : Nat → Int32) : Nat → Option Nat → (Nat → Int32) → (Nat → Int32) → (Nat → Int32) × (Nat → Int32)
  | 0, w, q1, jb1 => (q1, jb1)
  | d + 1, w, q1, jb1 => (oe w (sX8_find_x147 q jb f n z_1 q2 jb2 q1 jb1) (fun k_6 => ((fun (x_10 : Int32) => ((fun (x_12 : Int32) => (lp_X8_find_86 q jb f n z_1 q2 jb2 d (sX8_nextFrost (upd jb1 k_6 x_10) f n) (upd q1 10 ((q1 10) + x_12)) (upd jb1 k_6 x_10))) (if (sX8_fits q1 f (f 13)) = 0 then 0 else (f 13)))) (if (sX8_fits q1 f (f 13)) = 0 then 6 else 5))))
def sX8_find_x80 (q : Nat → Int32) (jb : Nat → Int32) (f : Nat → Int32) (n : Nat) (z_1 : (Nat → Int32) × (Nat → Int32)) (q2 : Nat → Int32) (jb2 : Nat → Int32) : (Nat → Int32) × (Nat → Int32) :=
  (lp_X8_find_86 q jb f n z_1 q2 jb2 7 (sX8_nextFrost jb2 f n) q2 jb2)
def lp_X8_find_16 (q : Nat → Int32) (jb : Nat → Int32) (f : Nat → Int32) (n : Nat) (z_1 : (Nat → Int32) × (Nat → Int32)) : Nat → Option Nat → (Nat → Int32) → (Nat → Int32) → (Nat → Int32) × (Nat → Int32)
  | 0, w, q1, jb1 => (q1, jb1)
  | d + 1, w, q1, jb1 => (oe w (sX8_find_x80 q jb f n z_1 q1 jb1) (fun k_13 => ((fun (x_17 : Int32) => ((fun (x_19 : Int32) => (lp_X8_find_16 q jb f n z_1 d (sX8_nextWarm (upd jb1 k_13 x_17) f n) (upd q1 10 ((q1 10) + x_19)) (upd jb1 k_13 x_17))) (if (sX8_fits q1 f (sX8_of f k_13 0)) = 0 then 0 else (sX8_of f k_13 0)))) (if (sX8_fits q1 f (sX8_of f k_13 0)) = 0 then 4 else 3))))
def sX8_find_z_1 (q : Nat → Int32) (jb : Nat → Int32) (f : Nat → Int32) (n : Nat) (z_1 : (Nat → Int32) × (Nat → Int32)) : (Nat → Int32) × (Nat → Int32) :=
  (lp_X8_find_16 q jb f n z_1 7 (sX8_nextWarm z_1.2 f n) z_1.1 z_1.2)
def sX8_find (q : Nat → Int32) (jb : Nat → Int32) (f : Nat → Int32) (n : Nat) : (Nat → Int32) × (Nat → Int32) :=
  (sX8_find_z_1 q jb f n (sX8_must (upd q 10 0) jb f n))
set_option maxRecDepth 100000 in
set_option maxHeartbeats 4000000 in
theorem c_X8_find (l : Launch) (G : va_G) (kk : Nat → ClassId) (h : Nat) (b : Nat → Nat) (q : Nat → Int32) (jb : Nat → Int32) (ra : Nat) (f : Nat → Int32) (n : Nat) (hn : f 0 = nI n) (h6 : n ≤ 6) : CC l yX8_find cX8_find 4 none (rmO 3 67) [.ref h, .ref ra] G kk ([(h, .inr (8, moF b q)), ((b 7), .inl (kk 0, 6, .inl jb)), (ra, .inl (kk 0, 64, .inl f))]) (QV G kk ([(h, .inr (8, moF b ((sX8_find q jb f n).1))), ((b 7), .inl (kk 0, 6, .inl ((sX8_find q jb f n).2))), (ra, .inl (kk 0, 64, .inl f))])) := by
  refine cc_start (by decide +kernel) (Nat.le_of_ble_eq_true rfl) ?_
  intro p e s m below meth c A ls hx hb hr hml hown hts hlocks hA hE hK hP hD hS hl
  have hown : s.vm.findClass RX8 = some m.cls := hown
  have hl : lv_has ls 4 [(0, .ref h), (1, .ref ra)] := hl
  have eS : sX8_find q jb f n = sX8_find q jb f n := rfl
  refine lv_aload_n hx hb dX8_find_0 rfl (lv_at hl 0 rfl) ?_
  refine lv_iconst (v := 0) hx hb dX8_find_1 (by decide) ?_
  refine r_put hx hb hts hown hK hP hD hS fl_X8_48 fw_8_10 0 rfl rfl rfl (Nat.le_of_ble_eq_true rfl) dX8_find_2 (fun H locs hP hD hS => ?_)
  replace hP : va_P G vwCl ([(h, .inr (8, moF b (upd q 10 0))), ((b 7), .inl (kk 0, 6, .inl jb)), (ra, .inl (kk 0, 64, .inl f))]) H := hP
  replace hD : va_D A ([(h, .inr (8, moF b (upd q 10 0))), ((b 7), .inl (kk 0, 6, .inl jb)), (ra, .inl (kk 0, 64, .inl f))]) := hD
  refine lv_aload_n hx hb dX8_find_5 rfl (lv_at hl 0 rfl) ?_
  refine lv_aload_n hx hb dX8_find_6 rfl (lv_at hl 1 rfl) ?_
  refine k_goV (k_runV (rest := []) (As := [.ref ra]) hx hb hml hown hts hK hP hD hS hA hE hl.1 (c_X8_must l G kk h b (upd q 10 0) jb ra f n (by omega) (by omega)) vl_X8_63 rfl rfl rfl ⟨Nat.le_of_ble_eq_true rfl, Nat.le_of_ble_eq_true rfl, rfl, rfl⟩ [0, 1, 2] rfl rfl ⟨Nat.zero_le _, Nat.zero_le _⟩ rfl (Nat.le_of_ble_eq_true rfl) dX8_find_7) hP hD hS hA [0, 1, 2] rfl ads3 (fun H locs hP hD hS => ?_)
  replace hP : va_P G vwCl ([(h, .inr (8, moF b ((sX8_must (upd q 10 0) jb f n).1))), ((b 7), .inl (kk 0, 6, .inl ((sX8_must (upd q 10 0) jb f n).2))), (ra, .inl (kk 0, 64, .inl f))]) H := hP
  replace hD : va_D A ([(h, .inr (8, moF b ((sX8_must (upd q 10 0) jb f n).1))), ((b 7), .inl (kk 0, 6, .inl ((sX8_must (upd q 10 0) jb f n).2))), (ra, .inl (kk 0, 64, .inl f))]) := hD
  have eS : sX8_find q jb f n = sX8_find_z_1 q jb f n (sX8_must (upd q 10 0) jb f n) := eS
  generalize sX8_must (upd q 10 0) jb f n = z_1 at hP hD eS ⊢
  refine lv_aload_n hx hb dX8_find_10 rfl (lv_at hl 0 rfl) ?_
  refine lv_aload_n hx hb dX8_find_11 rfl (lv_at hl 1 rfl) ?_
  refine k_goI (k_runV (rest := []) (As := [.ref ra]) hx hb hml hown hts hK hP hD hS hA hE hl.1 (c_X8_nextWarm l G kk h b z_1.1 z_1.2 ra f n (by omega) (by omega)) vl_X8_66 rfl rfl rfl ⟨Nat.le_of_ble_eq_true rfl, Nat.le_of_ble_eq_true rfl, rfl, rfl⟩ [0, 1, 2] rfl rfl ⟨Nat.zero_le _, Nat.zero_le _⟩ rfl (Nat.le_of_ble_eq_true rfl) dX8_find_12) hP hD hS hA [0, 1, 2] rfl ads3 (fun H locs hP hD hS => ?_)
  replace hP : va_P G vwCl ([(h, .inr (8, moF b z_1.1)), ((b 7), .inl (kk 0, 6, .inl z_1.2)), (ra, .inl (kk 0, 64, .inl f))]) H := hP
  replace hD : va_D A ([(h, .inr (8, moF b z_1.1)), ((b 7), .inl (kk 0, 6, .inl z_1.2)), (ra, .inl (kk 0, 64, .inl f))]) := hD
  refine lv_istore_n (lv' := [(2, .int (ob (sX8_nextWarm z_1.2 f n))), (0, .ref h), (1, .ref ra)]) hx hb dX8_find_15 rfl hl (by decide) rfl (fun ls hl => ?_)
  have X_21 : ∀ (q2 : Nat → Int32) (jb2 : Nat → Int32)  (eS : sX8_find q jb f n = sX8_find_x80 q jb f n z_1 q2 jb2) (H : Heap) (locs : List Loc) (ls : Array Slot) (hP : va_P G vwCl ([(h, .inr (8, moF b q2)), ((b 7), .inl (kk 0, 6, .inl jb2)), (ra, .inl (kk 0, 64, .inl f))]) H) (hD : va_D A ([(h, .inr (8, moF b q2)), ((b 7), .inl (kk 0, 6, .inl jb2)), (ra, .inl (kk 0, 64, .inl f))])) (hS : va_S A s.heap H locs) (hl : lv_has ls 4 [(0, .ref h), (1, .ref ra)]), GO p l e (rmO 3 67) s m ([.ref h, .ref ra] : List Value).toArray below meth c A (QV G kk ([(h, .inr (8, moF b ((sX8_find q jb f n).1))), ((b 7), .inl (kk 0, 6, .inl ((sX8_find q jb f n).2))), (ra, .inl (kk 0, 64, .inl f))])) H locs (F0 m 80 ls []) := by
    intro q2 jb2  eS H locs ls hP hD hS hl
    refine lv_aload_n hx hb dX8_find_80 rfl (lv_at hl 0 rfl) ?_
    refine lv_aload_n hx hb dX8_find_81 rfl (lv_at hl 1 rfl) ?_
    refine k_goI (k_runV (rest := []) (As := [.ref ra]) hx hb hml hown hts hK hP hD hS hA hE hl.1 (c_X8_nextFrost l G kk h b q2 jb2 ra f n (by omega) (by omega)) vl_X8_72 rfl rfl rfl ⟨Nat.le_of_ble_eq_true rfl, Nat.le_of_ble_eq_true rfl, rfl, rfl⟩ [0, 1, 2] rfl rfl ⟨Nat.zero_le _, Nat.zero_le _⟩ rfl (Nat.le_of_ble_eq_true rfl) dX8_find_82) hP hD hS hA [0, 1, 2] rfl ads3 (fun H locs hP hD hS => ?_)
    replace hP : va_P G vwCl ([(h, .inr (8, moF b q2)), ((b 7), .inl (kk 0, 6, .inl jb2)), (ra, .inl (kk 0, 64, .inl f))]) H := hP
    replace hD : va_D A ([(h, .inr (8, moF b q2)), ((b 7), .inl (kk 0, 6, .inl jb2)), (ra, .inl (kk 0, 64, .inl f))]) := hD
    refine lv_istore_n (lv' := [(2, .int (ob (sX8_nextFrost jb2 f n))), (0, .ref h), (1, .ref ra)]) hx hb dX8_find_85 rfl hl (by decide) rfl (fun ls hl => ?_)
    have X_23 : ∀ (q3 : Nat → Int32) (jb3 : Nat → Int32)  (eS : sX8_find q jb f n = sX8_find_x147 q jb f n z_1 q2 jb2 q3 jb3) (H : Heap) (locs : List Loc) (ls : Array Slot) (hP : va_P G vwCl ([(h, .inr (8, moF b q3)), ((b 7), .inl (kk 0, 6, .inl jb3)), (ra, .inl (kk 0, 64, .inl f))]) H) (hD : va_D A ([(h, .inr (8, moF b q3)), ((b 7), .inl (kk 0, 6, .inl jb3)), (ra, .inl (kk 0, 64, .inl f))])) (hS : va_S A s.heap H locs) (hl : lv_has ls 4 [(0, .ref h), (1, .ref ra)]), GO p l e (rmO 3 67) s m ([.ref h, .ref ra] : List Value).toArray below meth c A (QV G kk ([(h, .inr (8, moF b ((sX8_find q jb f n).1))), ((b 7), .inl (kk 0, 6, .inl ((sX8_find q jb f n).2))), (ra, .inl (kk 0, 64, .inl f))])) H locs (F0 m 147 ls []) := by
      intro q3 jb3  eS H locs ls hP hD hS hl
      refine lv_iconst (v := 0) hx hb dX8_find_147 (by decide) ?_
      refine lv_istore_n (lv' := [(3, .int 0), (0, .ref h), (1, .ref ra)]) hx hb dX8_find_148 rfl hl (by decide) rfl (fun ls hl => ?_)
      have L_24 : ∀ (d : Nat) (i : Nat) (jb1 : Nat → Int32) (hd : i + d = n) (eS : sX8_find q jb f n = lp_X8_find_149 q jb f n z_1 q2 jb2 q3 jb3 d i jb1) (H : Heap) (locs : List Loc) (ls : Array Slot) (hP : va_P G vwCl ([(h, .inr (8, moF b q3)), ((b 7), .inl (kk 0, 6, .inl jb1)), (ra, .inl (kk 0, 64, .inl f))]) H) (hD : va_D A ([(h, .inr (8, moF b q3)), ((b 7), .inl (kk 0, 6, .inl jb1)), (ra, .inl (kk 0, 64, .inl f))])) (hS : va_S A s.heap H locs) (hl : lv_has ls 4 [(0, .ref h), (1, .ref ra), (3, .int (nI i))]), GO p l e (rmO 3 67) s m ([.ref h, .ref ra] : List Value).toArray below meth c A (QV G kk ([(h, .inr (8, moF b ((sX8_find q jb f n).1))), ((b 7), .inl (kk 0, 6, .inl ((sX8_find q jb f n).2))), (ra, .inl (kk 0, 64, .inl f))])) H locs (F0 m 149 ls []) := by
        intro d
        induction d with
        | zero =>
          intro i jb1 hd eS H locs ls hP hD hS hl
          refine lv_iload_n hx hb dX8_find_149 rfl (lv_at hl 2 rfl) ?_
          refine lv_aload_n hx hb dX8_find_150 rfl (lv_at hl 1 rfl) ?_
          refine lv_iconst (v := 0) hx hb dX8_find_151 (by decide) ?_
          refine r_iald hx hb hK hP 2 rfl 0 rfl (by decide) (by decide) dX8_find_152 ?_
          refine lv_icmp_ge (tgt := 190) hx hb dX8_find_153 (by decide) (fun c_2 => ?_) (fun c_2 => absurd (fle hn (by omega) (by omega)) c_2)
          exact fin_v hx hb hr hlocks hK (vP_eq (congrArg (fun z : (Nat → Int32) × (Nat → Int32) => ([(h, .inr (8, moF b z.1)), ((b 7), .inl (kk 0, 6, .inl z.2)), (ra, .inl (kk 0, 64, .inl f))] : va_W)) eS.symm) hP) (vD_eq (congrArg (fun z : (Nat → Int32) × (Nat → Int32) => ([(h, .inr (8, moF b z.1)), ((b 7), .inl (kk 0, 6, .inl z.2)), (ra, .inl (kk 0, 64, .inl f))] : va_W)) eS.symm) hD) hS dX8_find_190
        | succ d ih =>
          intro i jb1 hd eS H locs ls hP hD hS hl
          refine lv_iload_n hx hb dX8_find_149 rfl (lv_at hl 2 rfl) ?_
          refine lv_aload_n hx hb dX8_find_150 rfl (lv_at hl 1 rfl) ?_
          refine lv_iconst (v := 0) hx hb dX8_find_151 (by decide) ?_
          refine r_iald hx hb hK hP 2 rfl 0 rfl (by decide) (by decide) dX8_find_152 ?_
          refine lv_icmp_ge (tgt := 190) hx hb dX8_find_153 (by decide) (fun c_3 => absurd c_3 (fgt hn (by omega) (by omega))) (fun c_3 => ?_)
          refine lv_aload_n hx hb dX8_find_156 rfl (lv_at hl 0 rfl) ?_
          refine r_get (v := .ref (b 7)) hx hb hts hown hK hP fl_X8_29 0 rfl rfl dX8_find_157 ?_
          refine lv_iload_n hx hb dX8_find_160 rfl (lv_at hl 2 rfl) ?_
          refine lv_aload_n hx hb dX8_find_161 rfl (lv_at hl 0 rfl) ?_
          refine r_get (v := .ref (b 7)) hx hb hts hown hK hP fl_X8_29 0 rfl rfl dX8_find_162 ?_
          refine lv_iload_n hx hb dX8_find_165 rfl (lv_at hl 2 rfl) ?_
          refine r_iald hx hb hK hP 1 rfl i rfl (by omega) (by decide) dX8_find_166 ?_
          refine lv_bipush (v := 8) hx hb dX8_find_167 (by decide) ?_
          have J_25 : ∀ (x_5 : Int32) (ex_5 : x_5 = (if (jb1 i) = 8 then 7 else (jb1 i))) (eS : sX8_find q jb f n = (fun (x_5 : Int32) => (lp_X8_find_149 q jb f n z_1 q2 jb2 q3 jb3 d (i + 1) (upd jb1 i x_5))) x_5) (H : Heap) (locs : List Loc) (ls : Array Slot) (hP : va_P G vwCl ([(h, .inr (8, moF b q3)), ((b 7), .inl (kk 0, 6, .inl jb1)), (ra, .inl (kk 0, 64, .inl f))]) H) (hD : va_D A ([(h, .inr (8, moF b q3)), ((b 7), .inl (kk 0, 6, .inl jb1)), (ra, .inl (kk 0, 64, .inl f))])) (hS : va_S A s.heap H locs) (hl : lv_has ls 4 [(0, .ref h), (1, .ref ra), (3, .int (nI i))]), GO p l e (rmO 3 67) s m ([.ref h, .ref ra] : List Value).toArray below meth c A (QV G kk ([(h, .inr (8, moF b ((sX8_find q jb f n).1))), ((b 7), .inl (kk 0, 6, .inl ((sX8_find q jb f n).2))), (ra, .inl (kk 0, 64, .inl f))])) H locs (F0 m 183 ls [.int x_5, .int (nI i), .ref (b 7)]) := by
            intro x_5 ex_5 eS H locs ls hP hD hS hl
            refine r_iast hx hb hK hP hD hS 1 rfl i rfl (by omega) (by decide) dX8_find_183 (fun H locs hP hD hS => ?_)
            replace hP : va_P G vwCl ([(h, .inr (8, moF b q3)), ((b 7), .inl (kk 0, 6, .inl (upd jb1 i x_5))), (ra, .inl (kk 0, 64, .inl f))]) H := hP
            replace hD : va_D A ([(h, .inr (8, moF b q3)), ((b 7), .inl (kk 0, 6, .inl (upd jb1 i x_5))), (ra, .inl (kk 0, 64, .inl f))]) := hD
            refine lv_iinc (v := (nI (i + 1))) (lv' := [(3, .int (nI (i + 1))), (0, .ref h), (1, .ref ra)]) hx hb dX8_find_184 hl (k := 2) rfl (nI_add i 1) (by decide) rfl (fun ls hl => ?_)
            refine lv_goto (tgt := 149) hx hb dX8_find_187 (by decide) ?_
            exact ih (i + 1) (upd jb1 i x_5) (by omega) eS _ _ ls hP hD hS (lv_sub hl [1, 2, 0] rfl)
          refine lv_icmp_ne (tgt := 177) hx hb dX8_find_169 (by decide) (fun c_4 => ?_) (fun c_4 => ?_)
          · refine lv_aload_n hx hb dX8_find_177 rfl (lv_at hl 0 rfl) ?_
            refine r_get (v := .ref (b 7)) hx hb hts hown hK hP fl_X8_29 0 rfl rfl dX8_find_178 ?_
            refine lv_iload_n hx hb dX8_find_181 rfl (lv_at hl 2 rfl) ?_
            refine r_iald hx hb hK hP 1 rfl i rfl (by omega) (by decide) dX8_find_182 ?_
            exact J_25 (jb1 i) (if_neg c_4).symm (eS.trans (cg1 ((fun (x_5 : Int32) => (lp_X8_find_149 q jb f n z_1 q2 jb2 q3 jb3 d (i + 1) (upd jb1 i x_5)))) (if_neg c_4))) _ _ ls hP hD hS (lv_sub hl [0, 1, 2] rfl)
          · refine lv_bipush (v := 7) hx hb dX8_find_172 (by decide) ?_
            refine lv_goto (tgt := 183) hx hb dX8_find_174 (by decide) ?_
            exact J_25 7 (if_pos c_4).symm (eS.trans (cg1 ((fun (x_5 : Int32) => (lp_X8_find_149 q jb f n z_1 q2 jb2 q3 jb3 d (i + 1) (upd jb1 i x_5)))) (if_pos c_4))) _ _ ls hP hD hS (lv_sub hl [0, 1, 2] rfl)
      exact L_24 n 0 jb3 (Nat.zero_add _) eS _ _ ls hP hD hS (lv_sub hl [1, 2, 0] rfl)
    have L_22 : ∀ (d : Nat) (w : Option Nat) (q1 : Nat → Int32) (jb1 : Nat → Int32) (hc : oc jb1 n < d) (hw : ∀ k, w = some k → k < n ∧ jb1 k = 8) (eS : sX8_find q jb f n = lp_X8_find_86 q jb f n z_1 q2 jb2 d w q1 jb1) (H : Heap) (locs : List Loc) (ls : Array Slot) (hP : va_P G vwCl ([(h, .inr (8, moF b q1)), ((b 7), .inl (kk 0, 6, .inl jb1)), (ra, .inl (kk 0, 64, .inl f))]) H) (hD : va_D A ([(h, .inr (8, moF b q1)), ((b 7), .inl (kk 0, 6, .inl jb1)), (ra, .inl (kk 0, 64, .inl f))])) (hS : va_S A s.heap H locs) (hl : lv_has ls 4 [(0, .ref h), (1, .ref ra), (2, .int (ob w))]), GO p l e (rmO 3 67) s m ([.ref h, .ref ra] : List Value).toArray below meth c A (QV G kk ([(h, .inr (8, moF b ((sX8_find q jb f n).1))), ((b 7), .inl (kk 0, 6, .inl ((sX8_find q jb f n).2))), (ra, .inl (kk 0, 64, .inl f))])) H locs (F0 m 86 ls []) := by
      intro d
      induction d with
      | zero =>
        intro w q1 jb1 hc hw eS H locs ls hP hD hS hl
        exact absurd hc (Nat.not_lt_zero _)
      | succ d ih =>
        intro w q1 jb1 hc hw eS H locs ls hP hD hS hl
        rcases opt_or w with rfl | ⟨k_6, rfl⟩
        · have hl : lv_has ls 4 [(0, .ref h), (1, .ref ra), (2, .int (-1))] := hl
          have eS := eS.trans (oe_n rfl)
          refine lv_iload_n hx hb dX8_find_86 rfl (lv_at hl 2 rfl) ?_
          refine lv_iconst (v := (-1)) hx hb dX8_find_87 (by decide) ?_
          refine lv_icmp_eq (tgt := 147) hx hb dX8_find_88 (by decide) (fun c_7 => ?_) (fun c_7 => absurd (by decide) c_7)
          exact X_23 q1 jb1  eS _ _ ls hP hD hS (lv_sub hl [0, 1] rfl)
        · have hl : lv_has ls 4 [(0, .ref h), (1, .ref ra), (2, .int (nI k_6))] := hl
          have hk_6 := hw k_6 rfl
          have eS := eS.trans (oe_s rfl)
          refine lv_iload_n hx hb dX8_find_86 rfl (lv_at hl 2 rfl) ?_
          refine lv_iconst (v := (-1)) hx hb dX8_find_87 (by decide) ?_
          refine lv_icmp_eq (tgt := 147) hx hb dX8_find_88 (by decide) (fun c_8 => absurd c_8 (nI_nm1 (by omega))) (fun c_8 => ?_)
          refine lv_aload_n hx hb dX8_find_91 rfl (lv_at hl 0 rfl) ?_
          refine lv_aload_n hx hb dX8_find_92 rfl (lv_at hl 1 rfl) ?_
          refine lv_aload_n hx hb dX8_find_93 rfl (lv_at hl 1 rfl) ?_
          refine lv_bipush (v := 13) hx hb dX8_find_94 (by decide) ?_
          refine r_iald hx hb hK hP 2 rfl 13 rfl (by decide) (by decide) dX8_find_96 ?_
          refine k_goI (k_runV (rest := []) (As := [.ref ra, .int (f 13)]) hx hb hml hown hts hK hP hD hS hA hE hl.1 (c_X8_fits l G kk h b q1 ra f (f 13) ) vl_X8_69 rfl rfl rfl ⟨Nat.le_of_ble_eq_true rfl, Nat.le_of_ble_eq_true rfl, rfl, rfl⟩ [0, 2] rfl rfl ⟨Nat.zero_le _, Nat.zero_le _⟩ rfl (Nat.le_of_ble_eq_true rfl) dX8_find_97) hP hD hS hA [0, 2] rfl ads2 (fun H locs hP hD hS => ?_)
          replace hP : va_P G vwCl ([(h, .inr (8, moF b q1)), ((b 7), .inl (kk 0, 6, .inl jb1)), (ra, .inl (kk 0, 64, .inl f))]) H := hP
          replace hD : va_D A ([(h, .inr (8, moF b q1)), ((b 7), .inl (kk 0, 6, .inl jb1)), (ra, .inl (kk 0, 64, .inl f))]) := hD
          refine lv_istore_n (lv' := [(3, .int (sX8_fits q1 f (f 13))), (0, .ref h), (1, .ref ra), (2, .int (nI k_6))]) hx hb dX8_find_100 rfl hl (by decide) rfl (fun ls hl => ?_)
          refine lv_aload_n hx hb dX8_find_101 rfl (lv_at hl 1 rfl) ?_
          refine r_get (v := .ref (b 7)) hx hb hts hown hK hP fl_X8_29 0 rfl rfl dX8_find_102 ?_
          refine lv_iload_n hx hb dX8_find_105 rfl (lv_at hl 3 rfl) ?_
          refine lv_iload_n hx hb dX8_find_106 rfl (lv_at hl 0 rfl) ?_
          have J_26 : ∀ (x_10 : Int32) (ex_10 : x_10 = (if (sX8_fits q1 f (f 13)) = 0 then 6 else 5)) (eS : sX8_find q jb f n = (fun (x_10 : Int32) => ((fun (x_12 : Int32) => (lp_X8_find_86 q jb f n z_1 q2 jb2 d (sX8_nextFrost (upd jb1 k_6 x_10) f n) (upd q1 10 ((q1 10) + x_12)) (upd jb1 k_6 x_10))) (if (sX8_fits q1 f (f 13)) = 0 then 0 else (f 13)))) x_10) (H : Heap) (locs : List Loc) (ls : Array Slot) (hP : va_P G vwCl ([(h, .inr (8, moF b q1)), ((b 7), .inl (kk 0, 6, .inl jb1)), (ra, .inl (kk 0, 64, .inl f))]) H) (hD : va_D A ([(h, .inr (8, moF b q1)), ((b 7), .inl (kk 0, 6, .inl jb1)), (ra, .inl (kk 0, 64, .inl f))])) (hS : va_S A s.heap H locs) (hl : lv_has ls 4 [(3, .int (sX8_fits q1 f (f 13))), (0, .ref h), (1, .ref ra), (2, .int (nI k_6))]), GO p l e (rmO 3 67) s m ([.ref h, .ref ra] : List Value).toArray below meth c A (QV G kk ([(h, .inr (8, moF b ((sX8_find q jb f n).1))), ((b 7), .inl (kk 0, 6, .inl ((sX8_find q jb f n).2))), (ra, .inl (kk 0, 64, .inl f))])) H locs (F0 m 116 ls [.int x_10, .int (nI k_6), .ref (b 7)]) := by
            intro x_10 ex_10 eS H locs ls hP hD hS hl
            refine r_iast hx hb hK hP hD hS 1 rfl k_6 rfl (by omega) (by decide) dX8_find_116 (fun H locs hP hD hS => ?_)
            replace hP : va_P G vwCl ([(h, .inr (8, moF b q1)), ((b 7), .inl (kk 0, 6, .inl (upd jb1 k_6 x_10))), (ra, .inl (kk 0, 64, .inl f))]) H := hP
            replace hD : va_D A ([(h, .inr (8, moF b q1)), ((b 7), .inl (kk 0, 6, .inl (upd jb1 k_6 x_10))), (ra, .inl (kk 0, 64, .inl f))]) := hD
            refine lv_aload_n hx hb dX8_find_117 rfl (lv_at hl 1 rfl) ?_
            refine lv_dup hx hb dX8_find_118 rfl ?_
            refine r_get (v := .int (q1 10)) hx hb hts hown hK hP fl_X8_48 0 rfl rfl dX8_find_119 ?_
            refine lv_iload_n hx hb dX8_find_122 rfl (lv_at hl 0 rfl) ?_
            have J_27 : ∀ (x_12 : Int32) (ex_12 : x_12 = (if (sX8_fits q1 f (f 13)) = 0 then 0 else (f 13))) (eS : sX8_find q jb f n = (fun (x_12 : Int32) => (lp_X8_find_86 q jb f n z_1 q2 jb2 d (sX8_nextFrost (upd jb1 k_6 x_10) f n) (upd q1 10 ((q1 10) + x_12)) (upd jb1 k_6 x_10))) x_12) (H : Heap) (locs : List Loc) (ls : Array Slot) (hP : va_P G vwCl ([(h, .inr (8, moF b q1)), ((b 7), .inl (kk 0, 6, .inl (upd jb1 k_6 x_10))), (ra, .inl (kk 0, 64, .inl f))]) H) (hD : va_D A ([(h, .inr (8, moF b q1)), ((b 7), .inl (kk 0, 6, .inl (upd jb1 k_6 x_10))), (ra, .inl (kk 0, 64, .inl f))])) (hS : va_S A s.heap H locs) (hl : lv_has ls 4 [(3, .int (sX8_fits q1 f (f 13))), (0, .ref h), (1, .ref ra), (2, .int (nI k_6))]), GO p l e (rmO 3 67) s m ([.ref h, .ref ra] : List Value).toArray below meth c A (QV G kk ([(h, .inr (8, moF b ((sX8_find q jb f n).1))), ((b 7), .inl (kk 0, 6, .inl ((sX8_find q jb f n).2))), (ra, .inl (kk 0, 64, .inl f))])) H locs (F0 m 134 ls [.int x_12, .int (q1 10), .ref h]) := by
              intro x_12 ex_12 eS H locs ls hP hD hS hl
              refine lv_iadd hx hb dX8_find_134 ?_
              refine r_put hx hb hts hown hK hP hD hS fl_X8_48 fw_8_10 0 rfl rfl rfl (Nat.le_of_ble_eq_true rfl) dX8_find_135 (fun H locs hP hD hS => ?_)
              replace hP : va_P G vwCl ([(h, .inr (8, moF b (upd q1 10 ((q1 10) + x_12)))), ((b 7), .inl (kk 0, 6, .inl (upd jb1 k_6 x_10))), (ra, .inl (kk 0, 64, .inl f))]) H := hP
              replace hD : va_D A ([(h, .inr (8, moF b (upd q1 10 ((q1 10) + x_12)))), ((b 7), .inl (kk 0, 6, .inl (upd jb1 k_6 x_10))), (ra, .inl (kk 0, 64, .inl f))]) := hD
              refine lv_aload_n hx hb dX8_find_138 rfl (lv_at hl 1 rfl) ?_
              refine lv_aload_n hx hb dX8_find_139 rfl (lv_at hl 2 rfl) ?_
              refine k_goI (k_runV (rest := []) (As := [.ref ra]) hx hb hml hown hts hK hP hD hS hA hE hl.1 (c_X8_nextFrost l G kk h b (upd q1 10 ((q1 10) + x_12)) (upd jb1 k_6 x_10) ra f n (by omega) (by omega)) vl_X8_72 rfl rfl rfl ⟨Nat.le_of_ble_eq_true rfl, Nat.le_of_ble_eq_true rfl, rfl, rfl⟩ [0, 1, 2] rfl rfl ⟨Nat.zero_le _, Nat.zero_le _⟩ rfl (Nat.le_of_ble_eq_true rfl) dX8_find_140) hP hD hS hA [0, 1, 2] rfl ads3 (fun H locs hP hD hS => ?_)
              replace hP : va_P G vwCl ([(h, .inr (8, moF b (upd q1 10 ((q1 10) + x_12)))), ((b 7), .inl (kk 0, 6, .inl (upd jb1 k_6 x_10))), (ra, .inl (kk 0, 64, .inl f))]) H := hP
              replace hD : va_D A ([(h, .inr (8, moF b (upd q1 10 ((q1 10) + x_12)))), ((b 7), .inl (kk 0, 6, .inl (upd jb1 k_6 x_10))), (ra, .inl (kk 0, 64, .inl f))]) := hD
              refine lv_istore_n (lv' := [(2, .int (ob (sX8_nextFrost (upd jb1 k_6 x_10) f n))), (3, .int (sX8_fits q1 f (f 13))), (0, .ref h), (1, .ref ra)]) hx hb dX8_find_143 rfl hl (by decide) rfl (fun ls hl => ?_)
              refine lv_goto (tgt := 86) hx hb dX8_find_144 (by decide) ?_
              exact ih (sX8_nextFrost (upd jb1 k_6 x_10) f n) (upd q1 10 ((q1 10) + x_12)) (upd jb1 k_6 x_10) (oc_step hc hk_6.1 hk_6.2 (by rw [ex_10]; split <;> decide)) (fun k h => mnf_spec h) eS _ _ ls hP hD hS (lv_sub hl [2, 3, 0] rfl)
            refine lv_if_eq (tgt := 133) hx hb dX8_find_123 (by decide) (fun c_11 => ?_) (fun c_11 => ?_)
            · refine lv_iconst (v := 0) hx hb dX8_find_133 (by decide) ?_
              exact J_27 0 (if_pos c_11).symm (eS.trans (cg1 ((fun (x_12 : Int32) => (lp_X8_find_86 q jb f n z_1 q2 jb2 d (sX8_nextFrost (upd jb1 k_6 x_10) f n) (upd q1 10 ((q1 10) + x_12)) (upd jb1 k_6 x_10)))) (if_pos c_11))) _ _ ls hP hD hS (lv_sub hl [0, 1, 2, 3] rfl)
            · refine lv_aload_n hx hb dX8_find_126 rfl (lv_at hl 2 rfl) ?_
              refine lv_bipush (v := 13) hx hb dX8_find_127 (by decide) ?_
              refine r_iald hx hb hK hP 2 rfl 13 rfl (by decide) (by decide) dX8_find_129 ?_
              refine lv_goto (tgt := 134) hx hb dX8_find_130 (by decide) ?_
              exact J_27 (f 13) (if_neg c_11).symm (eS.trans (cg1 ((fun (x_12 : Int32) => (lp_X8_find_86 q jb f n z_1 q2 jb2 d (sX8_nextFrost (upd jb1 k_6 x_10) f n) (upd q1 10 ((q1 10) + x_12)) (upd jb1 k_6 x_10)))) (if_neg c_11))) _ _ ls hP hD hS (lv_sub hl [0, 1, 2, 3] rfl)
          refine lv_if_eq (tgt := 114) hx hb dX8_find_107 (by decide) (fun c_9 => ?_) (fun c_9 => ?_)
          · refine lv_bipush (v := 6) hx hb dX8_find_114 (by decide) ?_
            exact J_26 6 (if_pos c_9).symm (eS.trans (cg1 ((fun (x_10 : Int32) => ((fun (x_12 : Int32) => (lp_X8_find_86 q jb f n z_1 q2 jb2 d (sX8_nextFrost (upd jb1 k_6 x_10) f n) (upd q1 10 ((q1 10) + x_12)) (upd jb1 k_6 x_10))) (if (sX8_fits q1 f (f 13)) = 0 then 0 else (f 13))))) (if_pos c_9))) _ _ ls hP hD hS (lv_sub hl [0, 1, 2, 3] rfl)
          · refine lv_iconst (v := 5) hx hb dX8_find_110 (by decide) ?_
            refine lv_goto (tgt := 116) hx hb dX8_find_111 (by decide) ?_
            exact J_26 5 (if_neg c_9).symm (eS.trans (cg1 ((fun (x_10 : Int32) => ((fun (x_12 : Int32) => (lp_X8_find_86 q jb f n z_1 q2 jb2 d (sX8_nextFrost (upd jb1 k_6 x_10) f n) (upd q1 10 ((q1 10) + x_12)) (upd jb1 k_6 x_10))) (if (sX8_fits q1 f (f 13)) = 0 then 0 else (f 13))))) (if_neg c_9))) _ _ ls hP hD hS (lv_sub hl [0, 1, 2, 3] rfl)
    exact L_22 7 (sX8_nextFrost jb2 f n) q2 jb2 (oc_7 h6) (fun k h => mnf_spec h) eS _ _ ls hP hD hS (lv_sub hl [1, 2, 0] rfl)
  have L_20 : ∀ (d : Nat) (w : Option Nat) (q1 : Nat → Int32) (jb1 : Nat → Int32) (hc : oc jb1 n < d) (hw : ∀ k, w = some k → k < n ∧ jb1 k = 8) (eS : sX8_find q jb f n = lp_X8_find_16 q jb f n z_1 d w q1 jb1) (H : Heap) (locs : List Loc) (ls : Array Slot) (hP : va_P G vwCl ([(h, .inr (8, moF b q1)), ((b 7), .inl (kk 0, 6, .inl jb1)), (ra, .inl (kk 0, 64, .inl f))]) H) (hD : va_D A ([(h, .inr (8, moF b q1)), ((b 7), .inl (kk 0, 6, .inl jb1)), (ra, .inl (kk 0, 64, .inl f))])) (hS : va_S A s.heap H locs) (hl : lv_has ls 4 [(0, .ref h), (1, .ref ra), (2, .int (ob w))]), GO p l e (rmO 3 67) s m ([.ref h, .ref ra] : List Value).toArray below meth c A (QV G kk ([(h, .inr (8, moF b ((sX8_find q jb f n).1))), ((b 7), .inl (kk 0, 6, .inl ((sX8_find q jb f n).2))), (ra, .inl (kk 0, 64, .inl f))])) H locs (F0 m 16 ls []) := by
    intro d
    induction d with
    | zero =>
      intro w q1 jb1 hc hw eS H locs ls hP hD hS hl
      exact absurd hc (Nat.not_lt_zero _)
    | succ d ih =>
      intro w q1 jb1 hc hw eS H locs ls hP hD hS hl
      rcases opt_or w with rfl | ⟨k_13, rfl⟩
      · have hl : lv_has ls 4 [(0, .ref h), (1, .ref ra), (2, .int (-1))] := hl
        have eS := eS.trans (oe_n rfl)
        refine lv_iload_n hx hb dX8_find_16 rfl (lv_at hl 2 rfl) ?_
        refine lv_iconst (v := (-1)) hx hb dX8_find_17 (by decide) ?_
        refine lv_icmp_eq (tgt := 80) hx hb dX8_find_18 (by decide) (fun c_14 => ?_) (fun c_14 => absurd (by decide) c_14)
        exact X_21 q1 jb1  eS _ _ ls hP hD hS (lv_sub hl [0, 1] rfl)
      · have hl : lv_has ls 4 [(0, .ref h), (1, .ref ra), (2, .int (nI k_13))] := hl
        have hk_13 := hw k_13 rfl
        have eS := eS.trans (oe_s rfl)
        refine lv_iload_n hx hb dX8_find_16 rfl (lv_at hl 2 rfl) ?_
        refine lv_iconst (v := (-1)) hx hb dX8_find_17 (by decide) ?_
        refine lv_icmp_eq (tgt := 80) hx hb dX8_find_18 (by decide) (fun c_15 => absurd c_15 (nI_nm1 (by omega))) (fun c_15 => ?_)
        refine lv_aload_n hx hb dX8_find_21 rfl (lv_at hl 0 rfl) ?_
        refine lv_aload_n hx hb dX8_find_22 rfl (lv_at hl 1 rfl) ?_
        refine lv_aload_n hx hb dX8_find_23 rfl (lv_at hl 1 rfl) ?_
        refine lv_iload_n hx hb dX8_find_24 rfl (lv_at hl 2 rfl) ?_
        refine lv_iconst (v := 0) hx hb dX8_find_25 (by decide) ?_
        refine k_goI (k_runS (rest := [.ref ra, .ref h]) (As := [.ref ra, .int (nI k_13), .int 0]) hx hb hml hown hts hK hP hD hS hA hE hl.1 (c_X8_of l G kk ra f k_13 0 (by omega)) sl_X8_44 ⟨Nat.le_of_ble_eq_true rfl, Nat.le_of_ble_eq_true rfl, rfl, rfl⟩ [2] rfl rfl ⟨Nat.zero_le _, Nat.zero_le _⟩ rfl (Nat.le_of_ble_eq_true rfl) dX8_find_26) hP hD hS hA [2] rfl ads1 (fun H locs hP hD hS => ?_)
        replace hP : va_P G vwCl ([(h, .inr (8, moF b q1)), ((b 7), .inl (kk 0, 6, .inl jb1)), (ra, .inl (kk 0, 64, .inl f))]) H := hP
        replace hD : va_D A ([(h, .inr (8, moF b q1)), ((b 7), .inl (kk 0, 6, .inl jb1)), (ra, .inl (kk 0, 64, .inl f))]) := hD
        refine k_goI (k_runV (rest := []) (As := [.ref ra, .int (sX8_of f k_13 0)]) hx hb hml hown hts hK hP hD hS hA hE hl.1 (c_X8_fits l G kk h b q1 ra f (sX8_of f k_13 0) ) vl_X8_69 rfl rfl rfl ⟨Nat.le_of_ble_eq_true rfl, Nat.le_of_ble_eq_true rfl, rfl, rfl⟩ [0, 2] rfl rfl ⟨Nat.zero_le _, Nat.zero_le _⟩ rfl (Nat.le_of_ble_eq_true rfl) dX8_find_29) hP hD hS hA [0, 2] rfl ads2 (fun H locs hP hD hS => ?_)
        replace hP : va_P G vwCl ([(h, .inr (8, moF b q1)), ((b 7), .inl (kk 0, 6, .inl jb1)), (ra, .inl (kk 0, 64, .inl f))]) H := hP
        replace hD : va_D A ([(h, .inr (8, moF b q1)), ((b 7), .inl (kk 0, 6, .inl jb1)), (ra, .inl (kk 0, 64, .inl f))]) := hD
        refine lv_istore_n (lv' := [(3, .int (sX8_fits q1 f (sX8_of f k_13 0))), (0, .ref h), (1, .ref ra), (2, .int (nI k_13))]) hx hb dX8_find_32 rfl hl (by decide) rfl (fun ls hl => ?_)
        refine lv_aload_n hx hb dX8_find_33 rfl (lv_at hl 1 rfl) ?_
        refine r_get (v := .ref (b 7)) hx hb hts hown hK hP fl_X8_29 0 rfl rfl dX8_find_34 ?_
        refine lv_iload_n hx hb dX8_find_37 rfl (lv_at hl 3 rfl) ?_
        refine lv_iload_n hx hb dX8_find_38 rfl (lv_at hl 0 rfl) ?_
        have J_28 : ∀ (x_17 : Int32) (ex_17 : x_17 = (if (sX8_fits q1 f (sX8_of f k_13 0)) = 0 then 4 else 3)) (eS : sX8_find q jb f n = (fun (x_17 : Int32) => ((fun (x_19 : Int32) => (lp_X8_find_16 q jb f n z_1 d (sX8_nextWarm (upd jb1 k_13 x_17) f n) (upd q1 10 ((q1 10) + x_19)) (upd jb1 k_13 x_17))) (if (sX8_fits q1 f (sX8_of f k_13 0)) = 0 then 0 else (sX8_of f k_13 0)))) x_17) (H : Heap) (locs : List Loc) (ls : Array Slot) (hP : va_P G vwCl ([(h, .inr (8, moF b q1)), ((b 7), .inl (kk 0, 6, .inl jb1)), (ra, .inl (kk 0, 64, .inl f))]) H) (hD : va_D A ([(h, .inr (8, moF b q1)), ((b 7), .inl (kk 0, 6, .inl jb1)), (ra, .inl (kk 0, 64, .inl f))])) (hS : va_S A s.heap H locs) (hl : lv_has ls 4 [(3, .int (sX8_fits q1 f (sX8_of f k_13 0))), (0, .ref h), (1, .ref ra), (2, .int (nI k_13))]), GO p l e (rmO 3 67) s m ([.ref h, .ref ra] : List Value).toArray below meth c A (QV G kk ([(h, .inr (8, moF b ((sX8_find q jb f n).1))), ((b 7), .inl (kk 0, 6, .inl ((sX8_find q jb f n).2))), (ra, .inl (kk 0, 64, .inl f))])) H locs (F0 m 47 ls [.int x_17, .int (nI k_13), .ref (b 7)]) := by
          intro x_17 ex_17 eS H locs ls hP hD hS hl
          refine r_iast hx hb hK hP hD hS 1 rfl k_13 rfl (by omega) (by decide) dX8_find_47 (fun H locs hP hD hS => ?_)
          replace hP : va_P G vwCl ([(h, .inr (8, moF b q1)), ((b 7), .inl (kk 0, 6, .inl (upd jb1 k_13 x_17))), (ra, .inl (kk 0, 64, .inl f))]) H := hP
          replace hD : va_D A ([(h, .inr (8, moF b q1)), ((b 7), .inl (kk 0, 6, .inl (upd jb1 k_13 x_17))), (ra, .inl (kk 0, 64, .inl f))]) := hD
          refine lv_aload_n hx hb dX8_find_48 rfl (lv_at hl 1 rfl) ?_
          refine lv_dup hx hb dX8_find_49 rfl ?_
          refine r_get (v := .int (q1 10)) hx hb hts hown hK hP fl_X8_48 0 rfl rfl dX8_find_50 ?_
          refine lv_iload_n hx hb dX8_find_53 rfl (lv_at hl 0 rfl) ?_
          have J_29 : ∀ (x_19 : Int32) (ex_19 : x_19 = (if (sX8_fits q1 f (sX8_of f k_13 0)) = 0 then 0 else (sX8_of f k_13 0))) (eS : sX8_find q jb f n = (fun (x_19 : Int32) => (lp_X8_find_16 q jb f n z_1 d (sX8_nextWarm (upd jb1 k_13 x_17) f n) (upd q1 10 ((q1 10) + x_19)) (upd jb1 k_13 x_17))) x_19) (H : Heap) (locs : List Loc) (ls : Array Slot) (hP : va_P G vwCl ([(h, .inr (8, moF b q1)), ((b 7), .inl (kk 0, 6, .inl (upd jb1 k_13 x_17))), (ra, .inl (kk 0, 64, .inl f))]) H) (hD : va_D A ([(h, .inr (8, moF b q1)), ((b 7), .inl (kk 0, 6, .inl (upd jb1 k_13 x_17))), (ra, .inl (kk 0, 64, .inl f))])) (hS : va_S A s.heap H locs) (hl : lv_has ls 4 [(3, .int (sX8_fits q1 f (sX8_of f k_13 0))), (0, .ref h), (1, .ref ra), (2, .int (nI k_13))]), GO p l e (rmO 3 67) s m ([.ref h, .ref ra] : List Value).toArray below meth c A (QV G kk ([(h, .inr (8, moF b ((sX8_find q jb f n).1))), ((b 7), .inl (kk 0, 6, .inl ((sX8_find q jb f n).2))), (ra, .inl (kk 0, 64, .inl f))])) H locs (F0 m 67 ls [.int x_19, .int (q1 10), .ref h]) := by
            intro x_19 ex_19 eS H locs ls hP hD hS hl
            refine lv_iadd hx hb dX8_find_67 ?_
            refine r_put hx hb hts hown hK hP hD hS fl_X8_48 fw_8_10 0 rfl rfl rfl (Nat.le_of_ble_eq_true rfl) dX8_find_68 (fun H locs hP hD hS => ?_)
            replace hP : va_P G vwCl ([(h, .inr (8, moF b (upd q1 10 ((q1 10) + x_19)))), ((b 7), .inl (kk 0, 6, .inl (upd jb1 k_13 x_17))), (ra, .inl (kk 0, 64, .inl f))]) H := hP
            replace hD : va_D A ([(h, .inr (8, moF b (upd q1 10 ((q1 10) + x_19)))), ((b 7), .inl (kk 0, 6, .inl (upd jb1 k_13 x_17))), (ra, .inl (kk 0, 64, .inl f))]) := hD
            refine lv_aload_n hx hb dX8_find_71 rfl (lv_at hl 1 rfl) ?_
            refine lv_aload_n hx hb dX8_find_72 rfl (lv_at hl 2 rfl) ?_
            refine k_goI (k_runV (rest := []) (As := [.ref ra]) hx hb hml hown hts hK hP hD hS hA hE hl.1 (c_X8_nextWarm l G kk h b (upd q1 10 ((q1 10) + x_19)) (upd jb1 k_13 x_17) ra f n (by omega) (by omega)) vl_X8_66 rfl rfl rfl ⟨Nat.le_of_ble_eq_true rfl, Nat.le_of_ble_eq_true rfl, rfl, rfl⟩ [0, 1, 2] rfl rfl ⟨Nat.zero_le _, Nat.zero_le _⟩ rfl (Nat.le_of_ble_eq_true rfl) dX8_find_73) hP hD hS hA [0, 1, 2] rfl ads3 (fun H locs hP hD hS => ?_)
            replace hP : va_P G vwCl ([(h, .inr (8, moF b (upd q1 10 ((q1 10) + x_19)))), ((b 7), .inl (kk 0, 6, .inl (upd jb1 k_13 x_17))), (ra, .inl (kk 0, 64, .inl f))]) H := hP
            replace hD : va_D A ([(h, .inr (8, moF b (upd q1 10 ((q1 10) + x_19)))), ((b 7), .inl (kk 0, 6, .inl (upd jb1 k_13 x_17))), (ra, .inl (kk 0, 64, .inl f))]) := hD
            refine lv_istore_n (lv' := [(2, .int (ob (sX8_nextWarm (upd jb1 k_13 x_17) f n))), (3, .int (sX8_fits q1 f (sX8_of f k_13 0))), (0, .ref h), (1, .ref ra)]) hx hb dX8_find_76 rfl hl (by decide) rfl (fun ls hl => ?_)
            refine lv_goto (tgt := 16) hx hb dX8_find_77 (by decide) ?_
            exact ih (sX8_nextWarm (upd jb1 k_13 x_17) f n) (upd q1 10 ((q1 10) + x_19)) (upd jb1 k_13 x_17) (oc_step hc hk_13.1 hk_13.2 (by rw [ex_17]; split <;> decide)) (fun k h => mnw_spec h) eS _ _ ls hP hD hS (lv_sub hl [2, 3, 0] rfl)
          refine lv_if_eq (tgt := 66) hx hb dX8_find_54 (by decide) (fun c_18 => ?_) (fun c_18 => ?_)
          · refine lv_iconst (v := 0) hx hb dX8_find_66 (by decide) ?_
            exact J_29 0 (if_pos c_18).symm (eS.trans (cg1 ((fun (x_19 : Int32) => (lp_X8_find_16 q jb f n z_1 d (sX8_nextWarm (upd jb1 k_13 x_17) f n) (upd q1 10 ((q1 10) + x_19)) (upd jb1 k_13 x_17)))) (if_pos c_18))) _ _ ls hP hD hS (lv_sub hl [0, 1, 2, 3] rfl)
          · refine lv_aload_n hx hb dX8_find_57 rfl (lv_at hl 2 rfl) ?_
            refine lv_iload_n hx hb dX8_find_58 rfl (lv_at hl 3 rfl) ?_
            refine lv_iconst (v := 0) hx hb dX8_find_59 (by decide) ?_
            refine k_goI (k_runS (rest := [.int (q1 10), .ref h]) (As := [.ref ra, .int (nI k_13), .int 0]) hx hb hml hown hts hK hP hD hS hA hE hl.1 (c_X8_of l G kk ra f k_13 0 (by omega)) sl_X8_44 ⟨Nat.le_of_ble_eq_true rfl, Nat.le_of_ble_eq_true rfl, rfl, rfl⟩ [2] rfl rfl ⟨Nat.zero_le _, Nat.zero_le _⟩ rfl (Nat.le_of_ble_eq_true rfl) dX8_find_60) hP hD hS hA [2] rfl ads1 (fun H locs hP hD hS => ?_)
            replace hP : va_P G vwCl ([(h, .inr (8, moF b q1)), ((b 7), .inl (kk 0, 6, .inl (upd jb1 k_13 x_17))), (ra, .inl (kk 0, 64, .inl f))]) H := hP
            replace hD : va_D A ([(h, .inr (8, moF b q1)), ((b 7), .inl (kk 0, 6, .inl (upd jb1 k_13 x_17))), (ra, .inl (kk 0, 64, .inl f))]) := hD
            refine lv_goto (tgt := 67) hx hb dX8_find_63 (by decide) ?_
            exact J_29 (sX8_of f k_13 0) (if_neg c_18).symm (eS.trans (cg1 ((fun (x_19 : Int32) => (lp_X8_find_16 q jb f n z_1 d (sX8_nextWarm (upd jb1 k_13 x_17) f n) (upd q1 10 ((q1 10) + x_19)) (upd jb1 k_13 x_17)))) (if_neg c_18))) _ _ ls hP hD hS (lv_sub hl [0, 1, 2, 3] rfl)
        refine lv_if_eq (tgt := 46) hx hb dX8_find_39 (by decide) (fun c_16 => ?_) (fun c_16 => ?_)
        · refine lv_iconst (v := 4) hx hb dX8_find_46 (by decide) ?_
          exact J_28 4 (if_pos c_16).symm (eS.trans (cg1 ((fun (x_17 : Int32) => ((fun (x_19 : Int32) => (lp_X8_find_16 q jb f n z_1 d (sX8_nextWarm (upd jb1 k_13 x_17) f n) (upd q1 10 ((q1 10) + x_19)) (upd jb1 k_13 x_17))) (if (sX8_fits q1 f (sX8_of f k_13 0)) = 0 then 0 else (sX8_of f k_13 0))))) (if_pos c_16))) _ _ ls hP hD hS (lv_sub hl [0, 1, 2, 3] rfl)
        · refine lv_iconst (v := 3) hx hb dX8_find_42 (by decide) ?_
          refine lv_goto (tgt := 47) hx hb dX8_find_43 (by decide) ?_
          exact J_28 3 (if_neg c_16).symm (eS.trans (cg1 ((fun (x_17 : Int32) => ((fun (x_19 : Int32) => (lp_X8_find_16 q jb f n z_1 d (sX8_nextWarm (upd jb1 k_13 x_17) f n) (upd q1 10 ((q1 10) + x_19)) (upd jb1 k_13 x_17))) (if (sX8_fits q1 f (sX8_of f k_13 0)) = 0 then 0 else (sX8_of f k_13 0))))) (if_neg c_16))) _ _ ls hP hD hS (lv_sub hl [0, 1, 2, 3] rfl)
  exact L_20 7 (sX8_nextWarm z_1.2 f n) z_1.1 z_1.2 (oc_7 h6) (fun k h => mnw_spec h) eS _ _ ls hP hD hS (lv_sub hl [1, 2, 0] rfl)
end
section
def sX8_roomOn_j356 (jb : Nat → Int32) (f : Nat → Int32) (i : Nat) (x_2 : Int32) (x_5 : Int32) (x_8 : Int32) (x_11 : Int32) (x_14 : Int32) (x_16 : Int32) (z_17 : (Nat → Int32)) (x_23 : Int32) (x_25 : Int32) (z_26 : (Nat → Int32)) (x_28 : Int32) (z_29 : (Nat → Int32)) (x_31 : Int32) (x_33 : Int32) (x_35 : Int32) : (Nat → Int32) :=
  (if (sX8_isWarm (upd (upd (upd z_29 6 ((z_29 6) + x_31)) 7 ((z_29 7) + x_33)) 8 ((z_29 8) + x_35)) i) = 0 then (upd (upd (upd (upd z_29 6 ((z_29 6) + x_31)) 7 ((z_29 7) + x_33)) 8 ((z_29 8) + x_35)) 9 ((z_29 9) + 0)) else (upd (upd (upd (upd z_29 6 ((z_29 6) + x_31)) 7 ((z_29 7) + x_33)) 8 ((z_29 8) + x_35)) 9 ((z_29 9) + 1)))
def sX8_roomOn_j333 (jb : Nat → Int32) (f : Nat → Int32) (i : Nat) (x_2 : Int32) (x_5 : Int32) (x_8 : Int32) (x_11 : Int32) (x_14 : Int32) (x_16 : Int32) (z_17 : (Nat → Int32)) (x_23 : Int32) (x_25 : Int32) (z_26 : (Nat → Int32)) (x_28 : Int32) (z_29 : (Nat → Int32)) (x_31 : Int32) (x_33 : Int32) : (Nat → Int32) :=
  (sX8_roomOn_j356 jb f i x_2 x_5 x_8 x_11 x_14 x_16 z_17 x_23 x_25 z_26 x_28 z_29 x_31 x_33 (if (jb i) = 6 then 1 else 0))
def sX8_roomOn_j311 (jb : Nat → Int32) (f : Nat → Int32) (i : Nat) (x_2 : Int32) (x_5 : Int32) (x_8 : Int32) (x_11 : Int32) (x_14 : Int32) (x_16 : Int32) (z_17 : (Nat → Int32)) (x_23 : Int32) (x_25 : Int32) (z_26 : (Nat → Int32)) (x_28 : Int32) (z_29 : (Nat → Int32)) (x_31 : Int32) : (Nat → Int32) :=
  (sX8_roomOn_j333 jb f i x_2 x_5 x_8 x_11 x_14 x_16 z_17 x_23 x_25 z_26 x_28 z_29 x_31 (if (jb i) = 4 then 1 else 0))
def sX8_roomOn_z_29 (jb : Nat → Int32) (f : Nat → Int32) (i : Nat) (x_2 : Int32) (x_5 : Int32) (x_8 : Int32) (x_11 : Int32) (x_14 : Int32) (x_16 : Int32) (z_17 : (Nat → Int32)) (x_23 : Int32) (x_25 : Int32) (z_26 : (Nat → Int32)) (x_28 : Int32) (z_29 : (Nat → Int32)) : (Nat → Int32) :=
  (sX8_roomOn_j311 jb f i x_2 x_5 x_8 x_11 x_14 x_16 z_17 x_23 x_25 z_26 x_28 z_29 (if x_8 = 0 then 0 else 1))
def sX8_roomOn_j292 (jb : Nat → Int32) (f : Nat → Int32) (i : Nat) (x_2 : Int32) (x_5 : Int32) (x_8 : Int32) (x_11 : Int32) (x_14 : Int32) (x_16 : Int32) (z_17 : (Nat → Int32)) (x_23 : Int32) (x_25 : Int32) (z_26 : (Nat → Int32)) (x_28 : Int32) : (Nat → Int32) :=
  (sX8_roomOn_z_29 jb f i x_2 x_5 x_8 x_11 x_14 x_16 z_17 x_23 x_25 z_26 x_28 (sX8_lay z_26 i 7 ((sX8_of z_26 i 7) + x_28)))
def sX8_roomOn_z_26 (jb : Nat → Int32) (f : Nat → Int32) (i : Nat) (x_2 : Int32) (x_5 : Int32) (x_8 : Int32) (x_11 : Int32) (x_14 : Int32) (x_16 : Int32) (z_17 : (Nat → Int32)) (x_23 : Int32) (x_25 : Int32) (z_26 : (Nat → Int32)) : (Nat → Int32) :=
  (sX8_roomOn_j292 jb f i x_2 x_5 x_8 x_11 x_14 x_16 z_17 x_23 x_25 z_26 (if x_5 = 0 then 0 else 1))
def sX8_roomOn_j261 (jb : Nat → Int32) (f : Nat → Int32) (i : Nat) (x_2 : Int32) (x_5 : Int32) (x_8 : Int32) (x_11 : Int32) (x_14 : Int32) (x_16 : Int32) (z_17 : (Nat → Int32)) (x_23 : Int32) (x_25 : Int32) : (Nat → Int32) :=
  (sX8_roomOn_z_26 jb f i x_2 x_5 x_8 x_11 x_14 x_16 z_17 x_23 x_25 (sX8_lay z_17 i 5 (sX8_clamp (((sX8_of z_17 i 5) + x_23) + x_25) 0 100)))
def sX8_roomOn_j251 (jb : Nat → Int32) (f : Nat → Int32) (i : Nat) (x_2 : Int32) (x_5 : Int32) (x_8 : Int32) (x_11 : Int32) (x_14 : Int32) (x_16 : Int32) (z_17 : (Nat → Int32)) (x_23 : Int32) : (Nat → Int32) :=
  (sX8_roomOn_j261 jb f i x_2 x_5 x_8 x_11 x_14 x_16 z_17 x_23 (if x_2 = 0 then 0 else 2))
def sX8_roomOn_j356' (jb : Nat → Int32) (f : Nat → Int32) (i : Nat) (x_2 : Int32) (x_5 : Int32) (x_8 : Int32) (x_11 : Int32) (x_14 : Int32) (x_16 : Int32) (z_17 : (Nat → Int32)) (x_38 : Int32) (z_39 : (Nat → Int32)) (x_41 : Int32) (z_42 : (Nat → Int32)) (x_44 : Int32) (z_45 : (Nat → Int32)) (x_47 : Int32) (x_49 : Int32) (x_51 : Int32) : (Nat → Int32) :=
  (if (sX8_isWarm (upd (upd (upd z_45 6 ((z_45 6) + x_47)) 7 ((z_45 7) + x_49)) 8 ((z_45 8) + x_51)) i) = 0 then (upd (upd (upd (upd z_45 6 ((z_45 6) + x_47)) 7 ((z_45 7) + x_49)) 8 ((z_45 8) + x_51)) 9 ((z_45 9) + 0)) else (upd (upd (upd (upd z_45 6 ((z_45 6) + x_47)) 7 ((z_45 7) + x_49)) 8 ((z_45 8) + x_51)) 9 ((z_45 9) + 1)))
def sX8_roomOn_j333' (jb : Nat → Int32) (f : Nat → Int32) (i : Nat) (x_2 : Int32) (x_5 : Int32) (x_8 : Int32) (x_11 : Int32) (x_14 : Int32) (x_16 : Int32) (z_17 : (Nat → Int32)) (x_38 : Int32) (z_39 : (Nat → Int32)) (x_41 : Int32) (z_42 : (Nat → Int32)) (x_44 : Int32) (z_45 : (Nat → Int32)) (x_47 : Int32) (x_49 : Int32) : (Nat → Int32) :=
  (sX8_roomOn_j356' jb f i x_2 x_5 x_8 x_11 x_14 x_16 z_17 x_38 z_39 x_41 z_42 x_44 z_45 x_47 x_49 (if (jb i) = 6 then 1 else 0))
def sX8_roomOn_j311' (jb : Nat → Int32) (f : Nat → Int32) (i : Nat) (x_2 : Int32) (x_5 : Int32) (x_8 : Int32) (x_11 : Int32) (x_14 : Int32) (x_16 : Int32) (z_17 : (Nat → Int32)) (x_38 : Int32) (z_39 : (Nat → Int32)) (x_41 : Int32) (z_42 : (Nat → Int32)) (x_44 : Int32) (z_45 : (Nat → Int32)) (x_47 : Int32) : (Nat → Int32) :=
  (sX8_roomOn_j333' jb f i x_2 x_5 x_8 x_11 x_14 x_16 z_17 x_38 z_39 x_41 z_42 x_44 z_45 x_47 (if (jb i) = 4 then 1 else 0))
def sX8_roomOn_z_45 (jb : Nat → Int32) (f : Nat → Int32) (i : Nat) (x_2 : Int32) (x_5 : Int32) (x_8 : Int32) (x_11 : Int32) (x_14 : Int32) (x_16 : Int32) (z_17 : (Nat → Int32)) (x_38 : Int32) (z_39 : (Nat → Int32)) (x_41 : Int32) (z_42 : (Nat → Int32)) (x_44 : Int32) (z_45 : (Nat → Int32)) : (Nat → Int32) :=
  (sX8_roomOn_j311' jb f i x_2 x_5 x_8 x_11 x_14 x_16 z_17 x_38 z_39 x_41 z_42 x_44 z_45 (if x_8 = 0 then 0 else 1))
def sX8_roomOn_j292' (jb : Nat → Int32) (f : Nat → Int32) (i : Nat) (x_2 : Int32) (x_5 : Int32) (x_8 : Int32) (x_11 : Int32) (x_14 : Int32) (x_16 : Int32) (z_17 : (Nat → Int32)) (x_38 : Int32) (z_39 : (Nat → Int32)) (x_41 : Int32) (z_42 : (Nat → Int32)) (x_44 : Int32) : (Nat → Int32) :=
  (sX8_roomOn_z_45 jb f i x_2 x_5 x_8 x_11 x_14 x_16 z_17 x_38 z_39 x_41 z_42 x_44 (sX8_lay z_42 i 7 ((sX8_of z_42 i 7) + x_44)))
def sX8_roomOn_z_42 (jb : Nat → Int32) (f : Nat → Int32) (i : Nat) (x_2 : Int32) (x_5 : Int32) (x_8 : Int32) (x_11 : Int32) (x_14 : Int32) (x_16 : Int32) (z_17 : (Nat → Int32)) (x_38 : Int32) (z_39 : (Nat → Int32)) (x_41 : Int32) (z_42 : (Nat → Int32)) : (Nat → Int32) :=
  (sX8_roomOn_j292' jb f i x_2 x_5 x_8 x_11 x_14 x_16 z_17 x_38 z_39 x_41 z_42 (if x_5 = 0 then 0 else 1))
def sX8_roomOn_j226 (jb : Nat → Int32) (f : Nat → Int32) (i : Nat) (x_2 : Int32) (x_5 : Int32) (x_8 : Int32) (x_11 : Int32) (x_14 : Int32) (x_16 : Int32) (z_17 : (Nat → Int32)) (x_38 : Int32) (z_39 : (Nat → Int32)) (x_41 : Int32) : (Nat → Int32) :=
  (sX8_roomOn_z_42 jb f i x_2 x_5 x_8 x_11 x_14 x_16 z_17 x_38 z_39 x_41 (sX8_lay z_39 i 6 x_41))
def sX8_roomOn_z_39 (jb : Nat → Int32) (f : Nat → Int32) (i : Nat) (x_2 : Int32) (x_5 : Int32) (x_8 : Int32) (x_11 : Int32) (x_14 : Int32) (x_16 : Int32) (z_17 : (Nat → Int32)) (x_38 : Int32) (z_39 : (Nat → Int32)) : (Nat → Int32) :=
  (sX8_roomOn_j226 jb f i x_2 x_5 x_8 x_11 x_14 x_16 z_17 x_38 z_39 (if (sX8_of z_39 i 5) = 0 then 0 else (x_38 - 1)))
def sX8_roomOn_j182 (jb : Nat → Int32) (f : Nat → Int32) (i : Nat) (x_2 : Int32) (x_5 : Int32) (x_8 : Int32) (x_11 : Int32) (x_14 : Int32) (x_16 : Int32) (z_17 : (Nat → Int32)) (x_38 : Int32) : (Nat → Int32) :=
  (sX8_roomOn_z_39 jb f i x_2 x_5 x_8 x_11 x_14 x_16 z_17 x_38 (sX8_lay z_17 i 5 (sX8_clamp ((sX8_of z_17 i 5) - 10) 0 100)))
def sX8_roomOn_z_17 (jb : Nat → Int32) (f : Nat → Int32) (i : Nat) (x_2 : Int32) (x_5 : Int32) (x_8 : Int32) (x_11 : Int32) (x_14 : Int32) (x_16 : Int32) (z_17 : (Nat → Int32)) : (Nat → Int32) :=
  (if x_11 = 0 then (sX8_roomOn_j251 jb f i x_2 x_5 x_8 x_11 x_14 x_16 z_17 (if x_5 = 0 then 0 else 1)) else (sX8_roomOn_j182 jb f i x_2 x_5 x_8 x_11 x_14 x_16 z_17 (if x_8 = 0 then (sX8_of z_17 i 6) else (z_17 15))))
def sX8_roomOn_j145 (jb : Nat → Int32) (f : Nat → Int32) (i : Nat) (x_2 : Int32) (x_5 : Int32) (x_8 : Int32) (x_11 : Int32) (x_14 : Int32) (x_16 : Int32) : (Nat → Int32) :=
  (sX8_roomOn_z_17 jb f i x_2 x_5 x_8 x_11 x_14 x_16 (sX8_lay f i 3 (sX8_clamp (((sX8_of f i 3) + x_14) + x_16) (-400) 400)))
def sX8_roomOn_j122 (jb : Nat → Int32) (f : Nat → Int32) (i : Nat) (x_2 : Int32) (x_5 : Int32) (x_8 : Int32) (x_11 : Int32) (x_14 : Int32) : (Nat → Int32) :=
  (sX8_roomOn_j145 jb f i x_2 x_5 x_8 x_11 x_14 (if x_2 = 0 then 0 else 4))
def sX8_roomOn_j89 (jb : Nat → Int32) (f : Nat → Int32) (i : Nat) (x_2 : Int32) (x_5 : Int32) (x_8 : Int32) (x_11 : Int32) : (Nat → Int32) :=
  (sX8_roomOn_j122 jb f i x_2 x_5 x_8 x_11 (if x_5 = 0 then (if x_11 = 0 then 1 else 6) else (((sX8_of f i 5) / 20) - 8)))
def sX8_roomOn_j68 (jb : Nat → Int32) (f : Nat → Int32) (i : Nat) (x_2 : Int32) (x_5 : Int32) (x_8 : Int32) : (Nat → Int32) :=
  (sX8_roomOn_j89 jb f i x_2 x_5 x_8 (if x_8 = 0 then (if (jb i) = 0 then 1 else 0) else 1))
def sX8_roomOn_j41 (jb : Nat → Int32) (f : Nat → Int32) (i : Nat) (x_2 : Int32) (x_5 : Int32) : (Nat → Int32) :=
  (sX8_roomOn_j68 jb f i x_2 x_5 (if (jb i) = 5 then 1 else (if (jb i) = 2 then 1 else 0)))
def sX8_roomOn_j15 (jb : Nat → Int32) (f : Nat → Int32) (i : Nat) (x_2 : Int32) : (Nat → Int32) :=
  (sX8_roomOn_j41 jb f i x_2 (if (jb i) = 3 then 1 else (if (jb i) = 1 then 1 else 0)))
def sX8_roomOn (jb : Nat → Int32) (f : Nat → Int32) (i : Nat) : (Nat → Int32) :=
  (sX8_roomOn_j15 jb f i (if (sX8_of f i 4) = 1 then 1 else 0))
set_option maxRecDepth 100000 in
set_option maxHeartbeats 4000000 in
theorem c_X8_roomOn (l : Launch) (G : va_G) (kk : Nat → ClassId) (h : Nat) (b : Nat → Nat) (q : Nat → Int32) (jb : Nat → Int32) (ra : Nat) (f : Nat → Int32) (i : Nat) (hi : i < 6) : CC l yX8_roomOn cX8_roomOn 9 none (rmO 2 43) [.ref h, .ref ra, .int (nI i)] G kk ([(h, .inr (8, moF b q)), ((b 7), .inl (kk 0, 6, .inl jb)), (ra, .inl (kk 0, 64, .inl f))]) (QV G kk ([(h, .inr (8, moF b q)), ((b 7), .inl (kk 0, 6, .inl jb)), (ra, .inl (kk 0, 64, .inl (sX8_roomOn jb f i)))])) := by
  refine cc_start (by decide +kernel) (Nat.le_of_ble_eq_true rfl) ?_
  intro p e s m below meth c A ls hx hb hr hml hown hts hlocks hA hE hK hP hD hS hl
  have hown : s.vm.findClass RX8 = some m.cls := hown
  have hl : lv_has ls 9 [(0, .ref h), (1, .ref ra), (2, .int (nI i))] := hl
  have eS : sX8_roomOn jb f i = sX8_roomOn jb f i := rfl
  refine lv_aload_n hx hb dX8_roomOn_0 rfl (lv_at hl 1 rfl) ?_
  refine lv_iload_n hx hb dX8_roomOn_1 rfl (lv_at hl 2 rfl) ?_
  refine lv_iconst (v := 4) hx hb dX8_roomOn_2 (by decide) ?_
  refine k_goI (k_runS (rest := []) (As := [.ref ra, .int (nI i), .int 4]) hx hb hml hown hts hK hP hD hS hA hE hl.1 (c_X8_of l G kk ra f i 4 (by omega)) sl_X8_44 ⟨Nat.le_of_ble_eq_true rfl, Nat.le_of_ble_eq_true rfl, rfl, rfl⟩ [2] rfl rfl ⟨Nat.zero_le _, Nat.zero_le _⟩ rfl (Nat.le_of_ble_eq_true rfl) dX8_roomOn_3) hP hD hS hA [2] rfl ads1 (fun H locs hP hD hS => ?_)
  replace hP : va_P G vwCl ([(h, .inr (8, moF b q)), ((b 7), .inl (kk 0, 6, .inl jb)), (ra, .inl (kk 0, 64, .inl f))]) H := hP
  replace hD : va_D A ([(h, .inr (8, moF b q)), ((b 7), .inl (kk 0, 6, .inl jb)), (ra, .inl (kk 0, 64, .inl f))]) := hD
  refine lv_iconst (v := 1) hx hb dX8_roomOn_6 (by decide) ?_
  have J_53 : ∀ (x_2 : Int32) (ex_2 : x_2 = (if (sX8_of f i 4) = 1 then 1 else 0)) (eS : sX8_roomOn jb f i = sX8_roomOn_j15 jb f i x_2) (H : Heap) (locs : List Loc) (ls : Array Slot) (hP : va_P G vwCl ([(h, .inr (8, moF b q)), ((b 7), .inl (kk 0, 6, .inl jb)), (ra, .inl (kk 0, 64, .inl f))]) H) (hD : va_D A ([(h, .inr (8, moF b q)), ((b 7), .inl (kk 0, 6, .inl jb)), (ra, .inl (kk 0, 64, .inl f))])) (hS : va_S A s.heap H locs) (hl : lv_has ls 9 [(0, .ref h), (1, .ref ra), (2, .int (nI i))]), GO p l e (rmO 2 43) s m ([.ref h, .ref ra, .int (nI i)] : List Value).toArray below meth c A (QV G kk ([(h, .inr (8, moF b q)), ((b 7), .inl (kk 0, 6, .inl jb)), (ra, .inl (kk 0, 64, .inl (sX8_roomOn jb f i)))])) H locs (F0 m 15 ls [.int x_2]) := by
    intro x_2 ex_2 eS H locs ls hP hD hS hl
    refine lv_istore_n (lv' := [(3, .int x_2), (0, .ref h), (1, .ref ra), (2, .int (nI i))]) hx hb dX8_roomOn_15 rfl hl (by decide) rfl (fun ls hl => ?_)
    refine lv_aload_n hx hb dX8_roomOn_16 rfl (lv_at hl 1 rfl) ?_
    refine r_get (v := .ref (b 7)) hx hb hts hown hK hP fl_X8_29 0 rfl rfl dX8_roomOn_17 ?_
    refine lv_iload_n hx hb dX8_roomOn_20 rfl (lv_at hl 3 rfl) ?_
    refine r_iald hx hb hK hP 1 rfl i rfl (by omega) (by decide) dX8_roomOn_21 ?_
    refine lv_iconst (v := 3) hx hb dX8_roomOn_22 (by decide) ?_
    have J_54 : ∀ (x_5 : Int32) (ex_5 : x_5 = (if (jb i) = 3 then 1 else (if (jb i) = 1 then 1 else 0))) (eS : sX8_roomOn jb f i = sX8_roomOn_j41 jb f i x_2 x_5) (H : Heap) (locs : List Loc) (ls : Array Slot) (hP : va_P G vwCl ([(h, .inr (8, moF b q)), ((b 7), .inl (kk 0, 6, .inl jb)), (ra, .inl (kk 0, 64, .inl f))]) H) (hD : va_D A ([(h, .inr (8, moF b q)), ((b 7), .inl (kk 0, 6, .inl jb)), (ra, .inl (kk 0, 64, .inl f))])) (hS : va_S A s.heap H locs) (hl : lv_has ls 9 [(3, .int x_2), (0, .ref h), (1, .ref ra), (2, .int (nI i))]), GO p l e (rmO 2 43) s m ([.ref h, .ref ra, .int (nI i)] : List Value).toArray below meth c A (QV G kk ([(h, .inr (8, moF b q)), ((b 7), .inl (kk 0, 6, .inl jb)), (ra, .inl (kk 0, 64, .inl (sX8_roomOn jb f i)))])) H locs (F0 m 41 ls [.int x_5]) := by
      intro x_5 ex_5 eS H locs ls hP hD hS hl
      refine lv_istore (lv' := [(4, .int x_5), (3, .int x_2), (0, .ref h), (1, .ref ra), (2, .int (nI i))]) hx hb dX8_roomOn_41 hl (by decide) rfl (fun ls hl => ?_)
      refine lv_aload_n hx hb dX8_roomOn_43 rfl (lv_at hl 2 rfl) ?_
      refine r_get (v := .ref (b 7)) hx hb hts hown hK hP fl_X8_29 0 rfl rfl dX8_roomOn_44 ?_
      refine lv_iload_n hx hb dX8_roomOn_47 rfl (lv_at hl 4 rfl) ?_
      refine r_iald hx hb hK hP 1 rfl i rfl (by omega) (by decide) dX8_roomOn_48 ?_
      refine lv_iconst (v := 5) hx hb dX8_roomOn_49 (by decide) ?_
      have J_55 : ∀ (x_8 : Int32) (ex_8 : x_8 = (if (jb i) = 5 then 1 else (if (jb i) = 2 then 1 else 0))) (eS : sX8_roomOn jb f i = sX8_roomOn_j68 jb f i x_2 x_5 x_8) (H : Heap) (locs : List Loc) (ls : Array Slot) (hP : va_P G vwCl ([(h, .inr (8, moF b q)), ((b 7), .inl (kk 0, 6, .inl jb)), (ra, .inl (kk 0, 64, .inl f))]) H) (hD : va_D A ([(h, .inr (8, moF b q)), ((b 7), .inl (kk 0, 6, .inl jb)), (ra, .inl (kk 0, 64, .inl f))])) (hS : va_S A s.heap H locs) (hl : lv_has ls 9 [(4, .int x_5), (3, .int x_2), (0, .ref h), (1, .ref ra), (2, .int (nI i))]), GO p l e (rmO 2 43) s m ([.ref h, .ref ra, .int (nI i)] : List Value).toArray below meth c A (QV G kk ([(h, .inr (8, moF b q)), ((b 7), .inl (kk 0, 6, .inl jb)), (ra, .inl (kk 0, 64, .inl (sX8_roomOn jb f i)))])) H locs (F0 m 68 ls [.int x_8]) := by
        intro x_8 ex_8 eS H locs ls hP hD hS hl
        refine lv_istore (lv' := [(5, .int x_8), (4, .int x_5), (3, .int x_2), (0, .ref h), (1, .ref ra), (2, .int (nI i))]) hx hb dX8_roomOn_68 hl (by decide) rfl (fun ls hl => ?_)
        refine lv_iload hx hb dX8_roomOn_70 (lv_at hl 0 rfl) ?_
        have J_56 : ∀ (x_11 : Int32) (ex_11 : x_11 = (if x_8 = 0 then (if (jb i) = 0 then 1 else 0) else 1)) (eS : sX8_roomOn jb f i = sX8_roomOn_j89 jb f i x_2 x_5 x_8 x_11) (H : Heap) (locs : List Loc) (ls : Array Slot) (hP : va_P G vwCl ([(h, .inr (8, moF b q)), ((b 7), .inl (kk 0, 6, .inl jb)), (ra, .inl (kk 0, 64, .inl f))]) H) (hD : va_D A ([(h, .inr (8, moF b q)), ((b 7), .inl (kk 0, 6, .inl jb)), (ra, .inl (kk 0, 64, .inl f))])) (hS : va_S A s.heap H locs) (hl : lv_has ls 9 [(5, .int x_8), (4, .int x_5), (3, .int x_2), (0, .ref h), (1, .ref ra), (2, .int (nI i))]), GO p l e (rmO 2 43) s m ([.ref h, .ref ra, .int (nI i)] : List Value).toArray below meth c A (QV G kk ([(h, .inr (8, moF b q)), ((b 7), .inl (kk 0, 6, .inl jb)), (ra, .inl (kk 0, 64, .inl (sX8_roomOn jb f i)))])) H locs (F0 m 89 ls [.int x_11]) := by
          intro x_11 ex_11 eS H locs ls hP hD hS hl
          refine lv_istore (lv' := [(6, .int x_11), (5, .int x_8), (4, .int x_5), (3, .int x_2), (0, .ref h), (1, .ref ra), (2, .int (nI i))]) hx hb dX8_roomOn_89 hl (by decide) rfl (fun ls hl => ?_)
          refine lv_iload hx hb dX8_roomOn_91 (lv_at hl 2 rfl) ?_
          have J_57 : ∀ (x_14 : Int32) (ex_14 : x_14 = (if x_5 = 0 then (if x_11 = 0 then 1 else 6) else (((sX8_of f i 5) / 20) - 8))) (eS : sX8_roomOn jb f i = sX8_roomOn_j122 jb f i x_2 x_5 x_8 x_11 x_14) (H : Heap) (locs : List Loc) (ls : Array Slot) (hP : va_P G vwCl ([(h, .inr (8, moF b q)), ((b 7), .inl (kk 0, 6, .inl jb)), (ra, .inl (kk 0, 64, .inl f))]) H) (hD : va_D A ([(h, .inr (8, moF b q)), ((b 7), .inl (kk 0, 6, .inl jb)), (ra, .inl (kk 0, 64, .inl f))])) (hS : va_S A s.heap H locs) (hl : lv_has ls 9 [(6, .int x_11), (5, .int x_8), (4, .int x_5), (3, .int x_2), (0, .ref h), (1, .ref ra), (2, .int (nI i))]), GO p l e (rmO 2 43) s m ([.ref h, .ref ra, .int (nI i)] : List Value).toArray below meth c A (QV G kk ([(h, .inr (8, moF b q)), ((b 7), .inl (kk 0, 6, .inl jb)), (ra, .inl (kk 0, 64, .inl (sX8_roomOn jb f i)))])) H locs (F0 m 122 ls [.int x_14]) := by
            intro x_14 ex_14 eS H locs ls hP hD hS hl
            refine lv_istore (lv' := [(7, .int x_14), (6, .int x_11), (5, .int x_8), (4, .int x_5), (3, .int x_2), (0, .ref h), (1, .ref ra), (2, .int (nI i))]) hx hb dX8_roomOn_122 hl (by decide) rfl (fun ls hl => ?_)
            refine lv_aload_n hx hb dX8_roomOn_124 rfl (lv_at hl 6 rfl) ?_
            refine lv_iload_n hx hb dX8_roomOn_125 rfl (lv_at hl 7 rfl) ?_
            refine lv_iconst (v := 3) hx hb dX8_roomOn_126 (by decide) ?_
            refine lv_aload_n hx hb dX8_roomOn_127 rfl (lv_at hl 6 rfl) ?_
            refine lv_iload_n hx hb dX8_roomOn_128 rfl (lv_at hl 7 rfl) ?_
            refine lv_iconst (v := 3) hx hb dX8_roomOn_129 (by decide) ?_
            refine k_goI (k_runS (rest := [.int 3, .int (nI i), .ref ra]) (As := [.ref ra, .int (nI i), .int 3]) hx hb hml hown hts hK hP hD hS hA hE hl.1 (c_X8_of l G kk ra f i 3 (by omega)) sl_X8_44 ⟨Nat.le_of_ble_eq_true rfl, Nat.le_of_ble_eq_true rfl, rfl, rfl⟩ [2] rfl rfl ⟨Nat.zero_le _, Nat.zero_le _⟩ rfl (Nat.le_of_ble_eq_true rfl) dX8_roomOn_130) hP hD hS hA [2] rfl ads1 (fun H locs hP hD hS => ?_)
            replace hP : va_P G vwCl ([(h, .inr (8, moF b q)), ((b 7), .inl (kk 0, 6, .inl jb)), (ra, .inl (kk 0, 64, .inl f))]) H := hP
            replace hD : va_D A ([(h, .inr (8, moF b q)), ((b 7), .inl (kk 0, 6, .inl jb)), (ra, .inl (kk 0, 64, .inl f))]) := hD
            refine lv_iload hx hb dX8_roomOn_133 (lv_at hl 0 rfl) ?_
            refine lv_iadd hx hb dX8_roomOn_135 ?_
            refine lv_iload_n hx hb dX8_roomOn_136 rfl (lv_at hl 4 rfl) ?_
            have J_58 : ∀ (x_16 : Int32) (ex_16 : x_16 = (if x_2 = 0 then 0 else 4)) (eS : sX8_roomOn jb f i = sX8_roomOn_j145 jb f i x_2 x_5 x_8 x_11 x_14 x_16) (H : Heap) (locs : List Loc) (ls : Array Slot) (hP : va_P G vwCl ([(h, .inr (8, moF b q)), ((b 7), .inl (kk 0, 6, .inl jb)), (ra, .inl (kk 0, 64, .inl f))]) H) (hD : va_D A ([(h, .inr (8, moF b q)), ((b 7), .inl (kk 0, 6, .inl jb)), (ra, .inl (kk 0, 64, .inl f))])) (hS : va_S A s.heap H locs) (hl : lv_has ls 9 [(7, .int x_14), (6, .int x_11), (5, .int x_8), (4, .int x_5), (3, .int x_2), (0, .ref h), (1, .ref ra), (2, .int (nI i))]), GO p l e (rmO 2 43) s m ([.ref h, .ref ra, .int (nI i)] : List Value).toArray below meth c A (QV G kk ([(h, .inr (8, moF b q)), ((b 7), .inl (kk 0, 6, .inl jb)), (ra, .inl (kk 0, 64, .inl (sX8_roomOn jb f i)))])) H locs (F0 m 145 ls [.int x_16, .int ((sX8_of f i 3) + x_14), .int 3, .int (nI i), .ref ra]) := by
              intro x_16 ex_16 eS H locs ls hP hD hS hl
              refine lv_iadd hx hb dX8_roomOn_145 ?_
              refine lv_sipush (v := (-400)) hx hb dX8_roomOn_146 (by decide) ?_
              refine lv_sipush (v := 400) hx hb dX8_roomOn_149 (by decide) ?_
              refine k_goI (k_runS (rest := [.int 3, .int (nI i), .ref ra]) (As := [.int (((sX8_of f i 3) + x_14) + x_16), .int (-400), .int 400]) hx hb hml hown hts hK hP hD hS hA hE hl.1 (c_X8_clamp l G kk (((sX8_of f i 3) + x_14) + x_16) (-400) 400 ) sl_X8_75 ⟨Nat.le_of_ble_eq_true rfl, Nat.le_of_ble_eq_true rfl, rfl, rfl⟩ [] rfl rfl ⟨Nat.zero_le _, Nat.zero_le _⟩ rfl (Nat.le_of_ble_eq_true rfl) dX8_roomOn_152) hP hD hS hA [] rfl ads0 (fun H locs hP hD hS => ?_)
              replace hP : va_P G vwCl ([(h, .inr (8, moF b q)), ((b 7), .inl (kk 0, 6, .inl jb)), (ra, .inl (kk 0, 64, .inl f))]) H := hP
              replace hD : va_D A ([(h, .inr (8, moF b q)), ((b 7), .inl (kk 0, 6, .inl jb)), (ra, .inl (kk 0, 64, .inl f))]) := hD
              refine k_goV (k_runS (rest := []) (As := [.ref ra, .int (nI i), .int 3, .int (sX8_clamp (((sX8_of f i 3) + x_14) + x_16) (-400) 400)]) hx hb hml hown hts hK hP hD hS hA hE hl.1 (c_X8_lay l G kk ra f i 3 (sX8_clamp (((sX8_of f i 3) + x_14) + x_16) (-400) 400) (by omega)) sl_X8_79 ⟨Nat.le_of_ble_eq_true rfl, Nat.le_of_ble_eq_true rfl, rfl, rfl⟩ [2] rfl rfl ⟨Nat.zero_le _, Nat.zero_le _⟩ rfl (Nat.le_of_ble_eq_true rfl) dX8_roomOn_155) hP hD hS hA [2] rfl ads1 (fun H locs hP hD hS => ?_)
              replace hP : va_P G vwCl ([(h, .inr (8, moF b q)), ((b 7), .inl (kk 0, 6, .inl jb)), (ra, .inl (kk 0, 64, .inl (sX8_lay f i 3 (sX8_clamp (((sX8_of f i 3) + x_14) + x_16) (-400) 400))))]) H := hP
              replace hD : va_D A ([(h, .inr (8, moF b q)), ((b 7), .inl (kk 0, 6, .inl jb)), (ra, .inl (kk 0, 64, .inl (sX8_lay f i 3 (sX8_clamp (((sX8_of f i 3) + x_14) + x_16) (-400) 400))))]) := hD
              have eS : sX8_roomOn jb f i = sX8_roomOn_z_17 jb f i x_2 x_5 x_8 x_11 x_14 x_16 (sX8_lay f i 3 (sX8_clamp (((sX8_of f i 3) + x_14) + x_16) (-400) 400)) := eS
              generalize sX8_lay f i 3 (sX8_clamp (((sX8_of f i 3) + x_14) + x_16) (-400) 400) = z_17 at hP hD eS ⊢
              refine lv_iload hx hb dX8_roomOn_158 (lv_at hl 1 rfl) ?_
              refine lv_if_eq (tgt := 232) hx hb dX8_roomOn_160 (by decide) (fun c_18 => ?_) (fun c_18 => ?_)
              · have eS := eS.trans (if_pos c_18)
                refine lv_aload_n hx hb dX8_roomOn_232 rfl (lv_at hl 6 rfl) ?_
                refine lv_iload_n hx hb dX8_roomOn_233 rfl (lv_at hl 7 rfl) ?_
                refine lv_iconst (v := 5) hx hb dX8_roomOn_234 (by decide) ?_
                refine lv_aload_n hx hb dX8_roomOn_235 rfl (lv_at hl 6 rfl) ?_
                refine lv_iload_n hx hb dX8_roomOn_236 rfl (lv_at hl 7 rfl) ?_
                refine lv_iconst (v := 5) hx hb dX8_roomOn_237 (by decide) ?_
                refine k_goI (k_runS (rest := [.int 5, .int (nI i), .ref ra]) (As := [.ref ra, .int (nI i), .int 5]) hx hb hml hown hts hK hP hD hS hA hE hl.1 (c_X8_of l G kk ra z_17 i 5 (by omega)) sl_X8_44 ⟨Nat.le_of_ble_eq_true rfl, Nat.le_of_ble_eq_true rfl, rfl, rfl⟩ [2] rfl rfl ⟨Nat.zero_le _, Nat.zero_le _⟩ rfl (Nat.le_of_ble_eq_true rfl) dX8_roomOn_238) hP hD hS hA [2] rfl ads1 (fun H locs hP hD hS => ?_)
                replace hP : va_P G vwCl ([(h, .inr (8, moF b q)), ((b 7), .inl (kk 0, 6, .inl jb)), (ra, .inl (kk 0, 64, .inl z_17))]) H := hP
                replace hD : va_D A ([(h, .inr (8, moF b q)), ((b 7), .inl (kk 0, 6, .inl jb)), (ra, .inl (kk 0, 64, .inl z_17))]) := hD
                refine lv_iload hx hb dX8_roomOn_241 (lv_at hl 3 rfl) ?_
                have J_59 : ∀ (x_23 : Int32) (ex_23 : x_23 = (if x_5 = 0 then 0 else 1)) (eS : sX8_roomOn jb f i = sX8_roomOn_j251 jb f i x_2 x_5 x_8 x_11 x_14 x_16 z_17 x_23) (H : Heap) (locs : List Loc) (ls : Array Slot) (hP : va_P G vwCl ([(h, .inr (8, moF b q)), ((b 7), .inl (kk 0, 6, .inl jb)), (ra, .inl (kk 0, 64, .inl z_17))]) H) (hD : va_D A ([(h, .inr (8, moF b q)), ((b 7), .inl (kk 0, 6, .inl jb)), (ra, .inl (kk 0, 64, .inl z_17))])) (hS : va_S A s.heap H locs) (hl : lv_has ls 9 [(7, .int x_14), (6, .int x_11), (5, .int x_8), (4, .int x_5), (3, .int x_2), (0, .ref h), (1, .ref ra), (2, .int (nI i))]), GO p l e (rmO 2 43) s m ([.ref h, .ref ra, .int (nI i)] : List Value).toArray below meth c A (QV G kk ([(h, .inr (8, moF b q)), ((b 7), .inl (kk 0, 6, .inl jb)), (ra, .inl (kk 0, 64, .inl (sX8_roomOn jb f i)))])) H locs (F0 m 251 ls [.int x_23, .int (sX8_of z_17 i 5), .int 5, .int (nI i), .ref ra]) := by
                  intro x_23 ex_23 eS H locs ls hP hD hS hl
                  refine lv_iadd hx hb dX8_roomOn_251 ?_
                  refine lv_iload_n hx hb dX8_roomOn_252 rfl (lv_at hl 4 rfl) ?_
                  have J_60 : ∀ (x_25 : Int32) (ex_25 : x_25 = (if x_2 = 0 then 0 else 2)) (eS : sX8_roomOn jb f i = sX8_roomOn_j261 jb f i x_2 x_5 x_8 x_11 x_14 x_16 z_17 x_23 x_25) (H : Heap) (locs : List Loc) (ls : Array Slot) (hP : va_P G vwCl ([(h, .inr (8, moF b q)), ((b 7), .inl (kk 0, 6, .inl jb)), (ra, .inl (kk 0, 64, .inl z_17))]) H) (hD : va_D A ([(h, .inr (8, moF b q)), ((b 7), .inl (kk 0, 6, .inl jb)), (ra, .inl (kk 0, 64, .inl z_17))])) (hS : va_S A s.heap H locs) (hl : lv_has ls 9 [(7, .int x_14), (6, .int x_11), (5, .int x_8), (4, .int x_5), (3, .int x_2), (0, .ref h), (1, .ref ra), (2, .int (nI i))]), GO p l e (rmO 2 43) s m ([.ref h, .ref ra, .int (nI i)] : List Value).toArray below meth c A (QV G kk ([(h, .inr (8, moF b q)), ((b 7), .inl (kk 0, 6, .inl jb)), (ra, .inl (kk 0, 64, .inl (sX8_roomOn jb f i)))])) H locs (F0 m 261 ls [.int x_25, .int ((sX8_of z_17 i 5) + x_23), .int 5, .int (nI i), .ref ra]) := by
                    intro x_25 ex_25 eS H locs ls hP hD hS hl
                    refine lv_iadd hx hb dX8_roomOn_261 ?_
                    refine lv_iconst (v := 0) hx hb dX8_roomOn_262 (by decide) ?_
                    refine lv_bipush (v := 100) hx hb dX8_roomOn_263 (by decide) ?_
                    refine k_goI (k_runS (rest := [.int 5, .int (nI i), .ref ra]) (As := [.int (((sX8_of z_17 i 5) + x_23) + x_25), .int 0, .int 100]) hx hb hml hown hts hK hP hD hS hA hE hl.1 (c_X8_clamp l G kk (((sX8_of z_17 i 5) + x_23) + x_25) 0 100 ) sl_X8_75 ⟨Nat.le_of_ble_eq_true rfl, Nat.le_of_ble_eq_true rfl, rfl, rfl⟩ [] rfl rfl ⟨Nat.zero_le _, Nat.zero_le _⟩ rfl (Nat.le_of_ble_eq_true rfl) dX8_roomOn_265) hP hD hS hA [] rfl ads0 (fun H locs hP hD hS => ?_)
                    replace hP : va_P G vwCl ([(h, .inr (8, moF b q)), ((b 7), .inl (kk 0, 6, .inl jb)), (ra, .inl (kk 0, 64, .inl z_17))]) H := hP
                    replace hD : va_D A ([(h, .inr (8, moF b q)), ((b 7), .inl (kk 0, 6, .inl jb)), (ra, .inl (kk 0, 64, .inl z_17))]) := hD
                    refine k_goV (k_runS (rest := []) (As := [.ref ra, .int (nI i), .int 5, .int (sX8_clamp (((sX8_of z_17 i 5) + x_23) + x_25) 0 100)]) hx hb hml hown hts hK hP hD hS hA hE hl.1 (c_X8_lay l G kk ra z_17 i 5 (sX8_clamp (((sX8_of z_17 i 5) + x_23) + x_25) 0 100) (by omega)) sl_X8_79 ⟨Nat.le_of_ble_eq_true rfl, Nat.le_of_ble_eq_true rfl, rfl, rfl⟩ [2] rfl rfl ⟨Nat.zero_le _, Nat.zero_le _⟩ rfl (Nat.le_of_ble_eq_true rfl) dX8_roomOn_268) hP hD hS hA [2] rfl ads1 (fun H locs hP hD hS => ?_)
                    replace hP : va_P G vwCl ([(h, .inr (8, moF b q)), ((b 7), .inl (kk 0, 6, .inl jb)), (ra, .inl (kk 0, 64, .inl (sX8_lay z_17 i 5 (sX8_clamp (((sX8_of z_17 i 5) + x_23) + x_25) 0 100))))]) H := hP
                    replace hD : va_D A ([(h, .inr (8, moF b q)), ((b 7), .inl (kk 0, 6, .inl jb)), (ra, .inl (kk 0, 64, .inl (sX8_lay z_17 i 5 (sX8_clamp (((sX8_of z_17 i 5) + x_23) + x_25) 0 100))))]) := hD
                    have eS : sX8_roomOn jb f i = sX8_roomOn_z_26 jb f i x_2 x_5 x_8 x_11 x_14 x_16 z_17 x_23 x_25 (sX8_lay z_17 i 5 (sX8_clamp (((sX8_of z_17 i 5) + x_23) + x_25) 0 100)) := eS
                    generalize sX8_lay z_17 i 5 (sX8_clamp (((sX8_of z_17 i 5) + x_23) + x_25) 0 100) = z_26 at hP hD eS ⊢
                    refine lv_aload_n hx hb dX8_roomOn_271 rfl (lv_at hl 6 rfl) ?_
                    refine lv_iload_n hx hb dX8_roomOn_272 rfl (lv_at hl 7 rfl) ?_
                    refine lv_bipush (v := 7) hx hb dX8_roomOn_273 (by decide) ?_
                    refine lv_aload_n hx hb dX8_roomOn_275 rfl (lv_at hl 6 rfl) ?_
                    refine lv_iload_n hx hb dX8_roomOn_276 rfl (lv_at hl 7 rfl) ?_
                    refine lv_bipush (v := 7) hx hb dX8_roomOn_277 (by decide) ?_
                    refine k_goI (k_runS (rest := [.int 7, .int (nI i), .ref ra]) (As := [.ref ra, .int (nI i), .int 7]) hx hb hml hown hts hK hP hD hS hA hE hl.1 (c_X8_of l G kk ra z_26 i 7 (by omega)) sl_X8_44 ⟨Nat.le_of_ble_eq_true rfl, Nat.le_of_ble_eq_true rfl, rfl, rfl⟩ [2] rfl rfl ⟨Nat.zero_le _, Nat.zero_le _⟩ rfl (Nat.le_of_ble_eq_true rfl) dX8_roomOn_279) hP hD hS hA [2] rfl ads1 (fun H locs hP hD hS => ?_)
                    replace hP : va_P G vwCl ([(h, .inr (8, moF b q)), ((b 7), .inl (kk 0, 6, .inl jb)), (ra, .inl (kk 0, 64, .inl z_26))]) H := hP
                    replace hD : va_D A ([(h, .inr (8, moF b q)), ((b 7), .inl (kk 0, 6, .inl jb)), (ra, .inl (kk 0, 64, .inl z_26))]) := hD
                    refine lv_iload hx hb dX8_roomOn_282 (lv_at hl 3 rfl) ?_
                    have J_61 : ∀ (x_28 : Int32) (ex_28 : x_28 = (if x_5 = 0 then 0 else 1)) (eS : sX8_roomOn jb f i = sX8_roomOn_j292 jb f i x_2 x_5 x_8 x_11 x_14 x_16 z_17 x_23 x_25 z_26 x_28) (H : Heap) (locs : List Loc) (ls : Array Slot) (hP : va_P G vwCl ([(h, .inr (8, moF b q)), ((b 7), .inl (kk 0, 6, .inl jb)), (ra, .inl (kk 0, 64, .inl z_26))]) H) (hD : va_D A ([(h, .inr (8, moF b q)), ((b 7), .inl (kk 0, 6, .inl jb)), (ra, .inl (kk 0, 64, .inl z_26))])) (hS : va_S A s.heap H locs) (hl : lv_has ls 9 [(7, .int x_14), (6, .int x_11), (5, .int x_8), (4, .int x_5), (3, .int x_2), (0, .ref h), (1, .ref ra), (2, .int (nI i))]), GO p l e (rmO 2 43) s m ([.ref h, .ref ra, .int (nI i)] : List Value).toArray below meth c A (QV G kk ([(h, .inr (8, moF b q)), ((b 7), .inl (kk 0, 6, .inl jb)), (ra, .inl (kk 0, 64, .inl (sX8_roomOn jb f i)))])) H locs (F0 m 292 ls [.int x_28, .int (sX8_of z_26 i 7), .int 7, .int (nI i), .ref ra]) := by
                      intro x_28 ex_28 eS H locs ls hP hD hS hl
                      refine lv_iadd hx hb dX8_roomOn_292 ?_
                      refine k_goV (k_runS (rest := []) (As := [.ref ra, .int (nI i), .int 7, .int ((sX8_of z_26 i 7) + x_28)]) hx hb hml hown hts hK hP hD hS hA hE hl.1 (c_X8_lay l G kk ra z_26 i 7 ((sX8_of z_26 i 7) + x_28) (by omega)) sl_X8_79 ⟨Nat.le_of_ble_eq_true rfl, Nat.le_of_ble_eq_true rfl, rfl, rfl⟩ [2] rfl rfl ⟨Nat.zero_le _, Nat.zero_le _⟩ rfl (Nat.le_of_ble_eq_true rfl) dX8_roomOn_293) hP hD hS hA [2] rfl ads1 (fun H locs hP hD hS => ?_)
                      replace hP : va_P G vwCl ([(h, .inr (8, moF b q)), ((b 7), .inl (kk 0, 6, .inl jb)), (ra, .inl (kk 0, 64, .inl (sX8_lay z_26 i 7 ((sX8_of z_26 i 7) + x_28))))]) H := hP
                      replace hD : va_D A ([(h, .inr (8, moF b q)), ((b 7), .inl (kk 0, 6, .inl jb)), (ra, .inl (kk 0, 64, .inl (sX8_lay z_26 i 7 ((sX8_of z_26 i 7) + x_28))))]) := hD
                      have eS : sX8_roomOn jb f i = sX8_roomOn_z_29 jb f i x_2 x_5 x_8 x_11 x_14 x_16 z_17 x_23 x_25 z_26 x_28 (sX8_lay z_26 i 7 ((sX8_of z_26 i 7) + x_28)) := eS
                      generalize sX8_lay z_26 i 7 ((sX8_of z_26 i 7) + x_28) = z_29 at hP hD eS ⊢
                      refine lv_aload_n hx hb dX8_roomOn_296 rfl (lv_at hl 6 rfl) ?_
                      refine lv_bipush (v := 6) hx hb dX8_roomOn_297 (by decide) ?_
                      refine lv_dup2_11 hx hb dX8_roomOn_299 rfl rfl ?_
                      refine r_iald hx hb hK hP 2 rfl 6 rfl (by decide) (by decide) dX8_roomOn_300 ?_
                      refine lv_iload hx hb dX8_roomOn_301 (lv_at hl 2 rfl) ?_
                      have J_62 : ∀ (x_31 : Int32) (ex_31 : x_31 = (if x_8 = 0 then 0 else 1)) (eS : sX8_roomOn jb f i = sX8_roomOn_j311 jb f i x_2 x_5 x_8 x_11 x_14 x_16 z_17 x_23 x_25 z_26 x_28 z_29 x_31) (H : Heap) (locs : List Loc) (ls : Array Slot) (hP : va_P G vwCl ([(h, .inr (8, moF b q)), ((b 7), .inl (kk 0, 6, .inl jb)), (ra, .inl (kk 0, 64, .inl z_29))]) H) (hD : va_D A ([(h, .inr (8, moF b q)), ((b 7), .inl (kk 0, 6, .inl jb)), (ra, .inl (kk 0, 64, .inl z_29))])) (hS : va_S A s.heap H locs) (hl : lv_has ls 9 [(7, .int x_14), (6, .int x_11), (5, .int x_8), (4, .int x_5), (3, .int x_2), (0, .ref h), (1, .ref ra), (2, .int (nI i))]), GO p l e (rmO 2 43) s m ([.ref h, .ref ra, .int (nI i)] : List Value).toArray below meth c A (QV G kk ([(h, .inr (8, moF b q)), ((b 7), .inl (kk 0, 6, .inl jb)), (ra, .inl (kk 0, 64, .inl (sX8_roomOn jb f i)))])) H locs (F0 m 311 ls [.int x_31, .int (z_29 6), .int 6, .ref ra]) := by
                        intro x_31 ex_31 eS H locs ls hP hD hS hl
                        refine lv_iadd hx hb dX8_roomOn_311 ?_
                        refine r_iast hx hb hK hP hD hS 2 rfl 6 rfl (by decide) (by decide) dX8_roomOn_312 (fun H locs hP hD hS => ?_)
                        replace hP : va_P G vwCl ([(h, .inr (8, moF b q)), ((b 7), .inl (kk 0, 6, .inl jb)), (ra, .inl (kk 0, 64, .inl (upd z_29 6 ((z_29 6) + x_31))))]) H := hP
                        replace hD : va_D A ([(h, .inr (8, moF b q)), ((b 7), .inl (kk 0, 6, .inl jb)), (ra, .inl (kk 0, 64, .inl (upd z_29 6 ((z_29 6) + x_31))))]) := hD
                        refine lv_aload_n hx hb dX8_roomOn_313 rfl (lv_at hl 6 rfl) ?_
                        refine lv_bipush (v := 7) hx hb dX8_roomOn_314 (by decide) ?_
                        refine lv_dup2_11 hx hb dX8_roomOn_316 rfl rfl ?_
                        refine r_iald hx hb hK hP 2 rfl 7 rfl (by decide) (by decide) dX8_roomOn_317 ?_
                        refine top_eq (y := (z_29 7)) (pk_un (by decide)) ?_
                        refine lv_aload_n hx hb dX8_roomOn_318 rfl (lv_at hl 5 rfl) ?_
                        refine r_get (v := .ref (b 7)) hx hb hts hown hK hP fl_X8_29 0 rfl rfl dX8_roomOn_319 ?_
                        refine lv_iload_n hx hb dX8_roomOn_322 rfl (lv_at hl 7 rfl) ?_
                        refine r_iald hx hb hK hP 1 rfl i rfl (by omega) (by decide) dX8_roomOn_323 ?_
                        refine lv_iconst (v := 4) hx hb dX8_roomOn_324 (by decide) ?_
                        have J_63 : ∀ (x_33 : Int32) (ex_33 : x_33 = (if (jb i) = 4 then 1 else 0)) (eS : sX8_roomOn jb f i = sX8_roomOn_j333 jb f i x_2 x_5 x_8 x_11 x_14 x_16 z_17 x_23 x_25 z_26 x_28 z_29 x_31 x_33) (H : Heap) (locs : List Loc) (ls : Array Slot) (hP : va_P G vwCl ([(h, .inr (8, moF b q)), ((b 7), .inl (kk 0, 6, .inl jb)), (ra, .inl (kk 0, 64, .inl (upd z_29 6 ((z_29 6) + x_31))))]) H) (hD : va_D A ([(h, .inr (8, moF b q)), ((b 7), .inl (kk 0, 6, .inl jb)), (ra, .inl (kk 0, 64, .inl (upd z_29 6 ((z_29 6) + x_31))))])) (hS : va_S A s.heap H locs) (hl : lv_has ls 9 [(7, .int x_14), (6, .int x_11), (5, .int x_8), (4, .int x_5), (3, .int x_2), (0, .ref h), (1, .ref ra), (2, .int (nI i))]), GO p l e (rmO 2 43) s m ([.ref h, .ref ra, .int (nI i)] : List Value).toArray below meth c A (QV G kk ([(h, .inr (8, moF b q)), ((b 7), .inl (kk 0, 6, .inl jb)), (ra, .inl (kk 0, 64, .inl (sX8_roomOn jb f i)))])) H locs (F0 m 333 ls [.int x_33, .int (z_29 7), .int 7, .ref ra]) := by
                          intro x_33 ex_33 eS H locs ls hP hD hS hl
                          refine lv_iadd hx hb dX8_roomOn_333 ?_
                          refine r_iast hx hb hK hP hD hS 2 rfl 7 rfl (by decide) (by decide) dX8_roomOn_334 (fun H locs hP hD hS => ?_)
                          replace hP : va_P G vwCl ([(h, .inr (8, moF b q)), ((b 7), .inl (kk 0, 6, .inl jb)), (ra, .inl (kk 0, 64, .inl (upd (upd z_29 6 ((z_29 6) + x_31)) 7 ((z_29 7) + x_33))))]) H := hP
                          replace hD : va_D A ([(h, .inr (8, moF b q)), ((b 7), .inl (kk 0, 6, .inl jb)), (ra, .inl (kk 0, 64, .inl (upd (upd z_29 6 ((z_29 6) + x_31)) 7 ((z_29 7) + x_33))))]) := hD
                          refine lv_aload_n hx hb dX8_roomOn_335 rfl (lv_at hl 6 rfl) ?_
                          refine lv_bipush (v := 8) hx hb dX8_roomOn_336 (by decide) ?_
                          refine lv_dup2_11 hx hb dX8_roomOn_338 rfl rfl ?_
                          refine r_iald hx hb hK hP 2 rfl 8 rfl (by decide) (by decide) dX8_roomOn_339 ?_
                          refine top_eq (y := (z_29 8)) ((pk_un (by decide)).trans (pk_un (by decide))) ?_
                          refine lv_aload_n hx hb dX8_roomOn_340 rfl (lv_at hl 5 rfl) ?_
                          refine r_get (v := .ref (b 7)) hx hb hts hown hK hP fl_X8_29 0 rfl rfl dX8_roomOn_341 ?_
                          refine lv_iload_n hx hb dX8_roomOn_344 rfl (lv_at hl 7 rfl) ?_
                          refine r_iald hx hb hK hP 1 rfl i rfl (by omega) (by decide) dX8_roomOn_345 ?_
                          refine lv_bipush (v := 6) hx hb dX8_roomOn_346 (by decide) ?_
                          have J_64 : ∀ (x_35 : Int32) (ex_35 : x_35 = (if (jb i) = 6 then 1 else 0)) (eS : sX8_roomOn jb f i = sX8_roomOn_j356 jb f i x_2 x_5 x_8 x_11 x_14 x_16 z_17 x_23 x_25 z_26 x_28 z_29 x_31 x_33 x_35) (H : Heap) (locs : List Loc) (ls : Array Slot) (hP : va_P G vwCl ([(h, .inr (8, moF b q)), ((b 7), .inl (kk 0, 6, .inl jb)), (ra, .inl (kk 0, 64, .inl (upd (upd z_29 6 ((z_29 6) + x_31)) 7 ((z_29 7) + x_33))))]) H) (hD : va_D A ([(h, .inr (8, moF b q)), ((b 7), .inl (kk 0, 6, .inl jb)), (ra, .inl (kk 0, 64, .inl (upd (upd z_29 6 ((z_29 6) + x_31)) 7 ((z_29 7) + x_33))))])) (hS : va_S A s.heap H locs) (hl : lv_has ls 9 [(7, .int x_14), (6, .int x_11), (5, .int x_8), (4, .int x_5), (3, .int x_2), (0, .ref h), (1, .ref ra), (2, .int (nI i))]), GO p l e (rmO 2 43) s m ([.ref h, .ref ra, .int (nI i)] : List Value).toArray below meth c A (QV G kk ([(h, .inr (8, moF b q)), ((b 7), .inl (kk 0, 6, .inl jb)), (ra, .inl (kk 0, 64, .inl (sX8_roomOn jb f i)))])) H locs (F0 m 356 ls [.int x_35, .int (z_29 8), .int 8, .ref ra]) := by
                            intro x_35 ex_35 eS H locs ls hP hD hS hl
                            refine lv_iadd hx hb dX8_roomOn_356 ?_
                            refine r_iast hx hb hK hP hD hS 2 rfl 8 rfl (by decide) (by decide) dX8_roomOn_357 (fun H locs hP hD hS => ?_)
                            replace hP : va_P G vwCl ([(h, .inr (8, moF b q)), ((b 7), .inl (kk 0, 6, .inl jb)), (ra, .inl (kk 0, 64, .inl (upd (upd (upd z_29 6 ((z_29 6) + x_31)) 7 ((z_29 7) + x_33)) 8 ((z_29 8) + x_35))))]) H := hP
                            replace hD : va_D A ([(h, .inr (8, moF b q)), ((b 7), .inl (kk 0, 6, .inl jb)), (ra, .inl (kk 0, 64, .inl (upd (upd (upd z_29 6 ((z_29 6) + x_31)) 7 ((z_29 7) + x_33)) 8 ((z_29 8) + x_35))))]) := hD
                            refine lv_aload_n hx hb dX8_roomOn_358 rfl (lv_at hl 6 rfl) ?_
                            refine lv_bipush (v := 9) hx hb dX8_roomOn_359 (by decide) ?_
                            refine lv_dup2_11 hx hb dX8_roomOn_361 rfl rfl ?_
                            refine r_iald hx hb hK hP 2 rfl 9 rfl (by decide) (by decide) dX8_roomOn_362 ?_
                            refine top_eq (y := (z_29 9)) ((pk_un (by decide)).trans ((pk_un (by decide)).trans (pk_un (by decide)))) ?_
                            refine lv_aload_n hx hb dX8_roomOn_363 rfl (lv_at hl 6 rfl) ?_
                            refine lv_iload_n hx hb dX8_roomOn_364 rfl (lv_at hl 7 rfl) ?_
                            refine k_goI (k_runS (rest := [.int (z_29 9), .int 9, .ref ra]) (As := [.ref ra, .int (nI i)]) hx hb hml hown hts hK hP hD hS hA hE hl.1 (c_X8_isWarm l G kk ra (upd (upd (upd z_29 6 ((z_29 6) + x_31)) 7 ((z_29 7) + x_33)) 8 ((z_29 8) + x_35)) i (by omega)) sl_X8_55 ⟨Nat.le_of_ble_eq_true rfl, Nat.le_of_ble_eq_true rfl, rfl, rfl⟩ [2] rfl rfl ⟨Nat.zero_le _, Nat.zero_le _⟩ rfl (Nat.le_of_ble_eq_true rfl) dX8_roomOn_365) hP hD hS hA [2] rfl ads1 (fun H locs hP hD hS => ?_)
                            replace hP : va_P G vwCl ([(h, .inr (8, moF b q)), ((b 7), .inl (kk 0, 6, .inl jb)), (ra, .inl (kk 0, 64, .inl (upd (upd (upd z_29 6 ((z_29 6) + x_31)) 7 ((z_29 7) + x_33)) 8 ((z_29 8) + x_35))))]) H := hP
                            replace hD : va_D A ([(h, .inr (8, moF b q)), ((b 7), .inl (kk 0, 6, .inl jb)), (ra, .inl (kk 0, 64, .inl (upd (upd (upd z_29 6 ((z_29 6) + x_31)) 7 ((z_29 7) + x_33)) 8 ((z_29 8) + x_35))))]) := hD
                            refine lv_if_eq (tgt := 375) hx hb dX8_roomOn_368 (by decide) (fun c_36 => ?_) (fun c_36 => ?_)
                            · have eS := eS.trans (if_pos c_36)
                              refine lv_iconst (v := 0) hx hb dX8_roomOn_375 (by decide) ?_
                              refine lv_iadd hx hb dX8_roomOn_376 ?_
                              refine r_iast hx hb hK hP hD hS 2 rfl 9 rfl (by decide) (by decide) dX8_roomOn_377 (fun H locs hP hD hS => ?_)
                              replace hP : va_P G vwCl ([(h, .inr (8, moF b q)), ((b 7), .inl (kk 0, 6, .inl jb)), (ra, .inl (kk 0, 64, .inl (upd (upd (upd (upd z_29 6 ((z_29 6) + x_31)) 7 ((z_29 7) + x_33)) 8 ((z_29 8) + x_35)) 9 ((z_29 9) + 0))))]) H := hP
                              replace hD : va_D A ([(h, .inr (8, moF b q)), ((b 7), .inl (kk 0, 6, .inl jb)), (ra, .inl (kk 0, 64, .inl (upd (upd (upd (upd z_29 6 ((z_29 6) + x_31)) 7 ((z_29 7) + x_33)) 8 ((z_29 8) + x_35)) 9 ((z_29 9) + 0))))]) := hD
                              exact fin_v hx hb hr hlocks hK (vP_eq (congrArg (fun z : (Nat → Int32) => ([(h, .inr (8, moF b q)), ((b 7), .inl (kk 0, 6, .inl jb)), (ra, .inl (kk 0, 64, .inl z))] : va_W)) eS.symm) hP) (vD_eq (congrArg (fun z : (Nat → Int32) => ([(h, .inr (8, moF b q)), ((b 7), .inl (kk 0, 6, .inl jb)), (ra, .inl (kk 0, 64, .inl z))] : va_W)) eS.symm) hD) hS dX8_roomOn_378
                            · have eS := eS.trans (if_neg c_36)
                              refine lv_iconst (v := 1) hx hb dX8_roomOn_371 (by decide) ?_
                              refine lv_goto (tgt := 376) hx hb dX8_roomOn_372 (by decide) ?_
                              refine lv_iadd hx hb dX8_roomOn_376 ?_
                              refine r_iast hx hb hK hP hD hS 2 rfl 9 rfl (by decide) (by decide) dX8_roomOn_377 (fun H locs hP hD hS => ?_)
                              replace hP : va_P G vwCl ([(h, .inr (8, moF b q)), ((b 7), .inl (kk 0, 6, .inl jb)), (ra, .inl (kk 0, 64, .inl (upd (upd (upd (upd z_29 6 ((z_29 6) + x_31)) 7 ((z_29 7) + x_33)) 8 ((z_29 8) + x_35)) 9 ((z_29 9) + 1))))]) H := hP
                              replace hD : va_D A ([(h, .inr (8, moF b q)), ((b 7), .inl (kk 0, 6, .inl jb)), (ra, .inl (kk 0, 64, .inl (upd (upd (upd (upd z_29 6 ((z_29 6) + x_31)) 7 ((z_29 7) + x_33)) 8 ((z_29 8) + x_35)) 9 ((z_29 9) + 1))))]) := hD
                              exact fin_v hx hb hr hlocks hK (vP_eq (congrArg (fun z : (Nat → Int32) => ([(h, .inr (8, moF b q)), ((b 7), .inl (kk 0, 6, .inl jb)), (ra, .inl (kk 0, 64, .inl z))] : va_W)) eS.symm) hP) (vD_eq (congrArg (fun z : (Nat → Int32) => ([(h, .inr (8, moF b q)), ((b 7), .inl (kk 0, 6, .inl jb)), (ra, .inl (kk 0, 64, .inl z))] : va_W)) eS.symm) hD) hS dX8_roomOn_378
                          refine lv_icmp_ne (tgt := 355) hx hb dX8_roomOn_348 (by decide) (fun c_34 => ?_) (fun c_34 => ?_)
                          · refine lv_iconst (v := 0) hx hb dX8_roomOn_355 (by decide) ?_
                            exact J_64 0 (if_neg c_34).symm (eS.trans (cg1 (sX8_roomOn_j356 jb f i x_2 x_5 x_8 x_11 x_14 x_16 z_17 x_23 x_25 z_26 x_28 z_29 x_31 x_33) (if_neg c_34))) _ _ ls hP hD hS (lv_sub hl [0, 1, 2, 3, 4, 5, 6, 7] rfl)
                          · refine lv_iconst (v := 1) hx hb dX8_roomOn_351 (by decide) ?_
                            refine lv_goto (tgt := 356) hx hb dX8_roomOn_352 (by decide) ?_
                            exact J_64 1 (if_pos c_34).symm (eS.trans (cg1 (sX8_roomOn_j356 jb f i x_2 x_5 x_8 x_11 x_14 x_16 z_17 x_23 x_25 z_26 x_28 z_29 x_31 x_33) (if_pos c_34))) _ _ ls hP hD hS (lv_sub hl [0, 1, 2, 3, 4, 5, 6, 7] rfl)
                        refine lv_icmp_ne (tgt := 332) hx hb dX8_roomOn_325 (by decide) (fun c_32 => ?_) (fun c_32 => ?_)
                        · refine lv_iconst (v := 0) hx hb dX8_roomOn_332 (by decide) ?_
                          exact J_63 0 (if_neg c_32).symm (eS.trans (cg1 (sX8_roomOn_j333 jb f i x_2 x_5 x_8 x_11 x_14 x_16 z_17 x_23 x_25 z_26 x_28 z_29 x_31) (if_neg c_32))) _ _ ls hP hD hS (lv_sub hl [0, 1, 2, 3, 4, 5, 6, 7] rfl)
                        · refine lv_iconst (v := 1) hx hb dX8_roomOn_328 (by decide) ?_
                          refine lv_goto (tgt := 333) hx hb dX8_roomOn_329 (by decide) ?_
                          exact J_63 1 (if_pos c_32).symm (eS.trans (cg1 (sX8_roomOn_j333 jb f i x_2 x_5 x_8 x_11 x_14 x_16 z_17 x_23 x_25 z_26 x_28 z_29 x_31) (if_pos c_32))) _ _ ls hP hD hS (lv_sub hl [0, 1, 2, 3, 4, 5, 6, 7] rfl)
                      refine lv_if_eq (tgt := 310) hx hb dX8_roomOn_303 (by decide) (fun c_30 => ?_) (fun c_30 => ?_)
                      · refine lv_iconst (v := 0) hx hb dX8_roomOn_310 (by decide) ?_
                        exact J_62 0 (if_pos c_30).symm (eS.trans (cg1 (sX8_roomOn_j311 jb f i x_2 x_5 x_8 x_11 x_14 x_16 z_17 x_23 x_25 z_26 x_28 z_29) (if_pos c_30))) _ _ ls hP hD hS (lv_sub hl [0, 1, 2, 3, 4, 5, 6, 7] rfl)
                      · refine lv_iconst (v := 1) hx hb dX8_roomOn_306 (by decide) ?_
                        refine lv_goto (tgt := 311) hx hb dX8_roomOn_307 (by decide) ?_
                        exact J_62 1 (if_neg c_30).symm (eS.trans (cg1 (sX8_roomOn_j311 jb f i x_2 x_5 x_8 x_11 x_14 x_16 z_17 x_23 x_25 z_26 x_28 z_29) (if_neg c_30))) _ _ ls hP hD hS (lv_sub hl [0, 1, 2, 3, 4, 5, 6, 7] rfl)
                    refine lv_if_eq (tgt := 291) hx hb dX8_roomOn_284 (by decide) (fun c_27 => ?_) (fun c_27 => ?_)
                    · refine lv_iconst (v := 0) hx hb dX8_roomOn_291 (by decide) ?_
                      exact J_61 0 (if_pos c_27).symm (eS.trans (cg1 (sX8_roomOn_j292 jb f i x_2 x_5 x_8 x_11 x_14 x_16 z_17 x_23 x_25 z_26) (if_pos c_27))) _ _ ls hP hD hS (lv_sub hl [0, 1, 2, 3, 4, 5, 6, 7] rfl)
                    · refine lv_iconst (v := 1) hx hb dX8_roomOn_287 (by decide) ?_
                      refine lv_goto (tgt := 292) hx hb dX8_roomOn_288 (by decide) ?_
                      exact J_61 1 (if_neg c_27).symm (eS.trans (cg1 (sX8_roomOn_j292 jb f i x_2 x_5 x_8 x_11 x_14 x_16 z_17 x_23 x_25 z_26) (if_neg c_27))) _ _ ls hP hD hS (lv_sub hl [0, 1, 2, 3, 4, 5, 6, 7] rfl)
                  refine lv_if_eq (tgt := 260) hx hb dX8_roomOn_253 (by decide) (fun c_24 => ?_) (fun c_24 => ?_)
                  · refine lv_iconst (v := 0) hx hb dX8_roomOn_260 (by decide) ?_
                    exact J_60 0 (if_pos c_24).symm (eS.trans (cg1 (sX8_roomOn_j261 jb f i x_2 x_5 x_8 x_11 x_14 x_16 z_17 x_23) (if_pos c_24))) _ _ ls hP hD hS (lv_sub hl [0, 1, 2, 3, 4, 5, 6, 7] rfl)
                  · refine lv_iconst (v := 2) hx hb dX8_roomOn_256 (by decide) ?_
                    refine lv_goto (tgt := 261) hx hb dX8_roomOn_257 (by decide) ?_
                    exact J_60 2 (if_neg c_24).symm (eS.trans (cg1 (sX8_roomOn_j261 jb f i x_2 x_5 x_8 x_11 x_14 x_16 z_17 x_23) (if_neg c_24))) _ _ ls hP hD hS (lv_sub hl [0, 1, 2, 3, 4, 5, 6, 7] rfl)
                refine lv_if_eq (tgt := 250) hx hb dX8_roomOn_243 (by decide) (fun c_22 => ?_) (fun c_22 => ?_)
                · refine lv_iconst (v := 0) hx hb dX8_roomOn_250 (by decide) ?_
                  exact J_59 0 (if_pos c_22).symm (eS.trans (cg1 (sX8_roomOn_j251 jb f i x_2 x_5 x_8 x_11 x_14 x_16 z_17) (if_pos c_22))) _ _ ls hP hD hS (lv_sub hl [0, 1, 2, 3, 4, 5, 6, 7] rfl)
                · refine lv_iconst (v := 1) hx hb dX8_roomOn_246 (by decide) ?_
                  refine lv_goto (tgt := 251) hx hb dX8_roomOn_247 (by decide) ?_
                  exact J_59 1 (if_neg c_22).symm (eS.trans (cg1 (sX8_roomOn_j251 jb f i x_2 x_5 x_8 x_11 x_14 x_16 z_17) (if_neg c_22))) _ _ ls hP hD hS (lv_sub hl [0, 1, 2, 3, 4, 5, 6, 7] rfl)
              · have eS := eS.trans (if_neg c_18)
                refine lv_iload hx hb dX8_roomOn_163 (lv_at hl 2 rfl) ?_
                have J_65 : ∀ (x_38 : Int32) (ex_38 : x_38 = (if x_8 = 0 then (sX8_of z_17 i 6) else (z_17 15))) (eS : sX8_roomOn jb f i = sX8_roomOn_j182 jb f i x_2 x_5 x_8 x_11 x_14 x_16 z_17 x_38) (H : Heap) (locs : List Loc) (ls : Array Slot) (hP : va_P G vwCl ([(h, .inr (8, moF b q)), ((b 7), .inl (kk 0, 6, .inl jb)), (ra, .inl (kk 0, 64, .inl z_17))]) H) (hD : va_D A ([(h, .inr (8, moF b q)), ((b 7), .inl (kk 0, 6, .inl jb)), (ra, .inl (kk 0, 64, .inl z_17))])) (hS : va_S A s.heap H locs) (hl : lv_has ls 9 [(7, .int x_14), (6, .int x_11), (5, .int x_8), (4, .int x_5), (3, .int x_2), (0, .ref h), (1, .ref ra), (2, .int (nI i))]), GO p l e (rmO 2 43) s m ([.ref h, .ref ra, .int (nI i)] : List Value).toArray below meth c A (QV G kk ([(h, .inr (8, moF b q)), ((b 7), .inl (kk 0, 6, .inl jb)), (ra, .inl (kk 0, 64, .inl (sX8_roomOn jb f i)))])) H locs (F0 m 182 ls [.int x_38]) := by
                  intro x_38 ex_38 eS H locs ls hP hD hS hl
                  refine lv_iconst (v := 1) hx hb dX8_roomOn_182 (by decide) ?_
                  refine lv_isub hx hb dX8_roomOn_183 ?_
                  refine lv_istore (lv' := [(8, .int (x_38 - 1)), (7, .int x_14), (6, .int x_11), (5, .int x_8), (4, .int x_5), (3, .int x_2), (0, .ref h), (1, .ref ra), (2, .int (nI i))]) hx hb dX8_roomOn_184 hl (by decide) rfl (fun ls hl => ?_)
                  refine lv_aload_n hx hb dX8_roomOn_186 rfl (lv_at hl 7 rfl) ?_
                  refine lv_iload_n hx hb dX8_roomOn_187 rfl (lv_at hl 8 rfl) ?_
                  refine lv_iconst (v := 5) hx hb dX8_roomOn_188 (by decide) ?_
                  refine lv_aload_n hx hb dX8_roomOn_189 rfl (lv_at hl 7 rfl) ?_
                  refine lv_iload_n hx hb dX8_roomOn_190 rfl (lv_at hl 8 rfl) ?_
                  refine lv_iconst (v := 5) hx hb dX8_roomOn_191 (by decide) ?_
                  refine k_goI (k_runS (rest := [.int 5, .int (nI i), .ref ra]) (As := [.ref ra, .int (nI i), .int 5]) hx hb hml hown hts hK hP hD hS hA hE hl.1 (c_X8_of l G kk ra z_17 i 5 (by omega)) sl_X8_44 ⟨Nat.le_of_ble_eq_true rfl, Nat.le_of_ble_eq_true rfl, rfl, rfl⟩ [2] rfl rfl ⟨Nat.zero_le _, Nat.zero_le _⟩ rfl (Nat.le_of_ble_eq_true rfl) dX8_roomOn_192) hP hD hS hA [2] rfl ads1 (fun H locs hP hD hS => ?_)
                  replace hP : va_P G vwCl ([(h, .inr (8, moF b q)), ((b 7), .inl (kk 0, 6, .inl jb)), (ra, .inl (kk 0, 64, .inl z_17))]) H := hP
                  replace hD : va_D A ([(h, .inr (8, moF b q)), ((b 7), .inl (kk 0, 6, .inl jb)), (ra, .inl (kk 0, 64, .inl z_17))]) := hD
                  refine lv_bipush (v := 10) hx hb dX8_roomOn_195 (by decide) ?_
                  refine lv_isub hx hb dX8_roomOn_197 ?_
                  refine lv_iconst (v := 0) hx hb dX8_roomOn_198 (by decide) ?_
                  refine lv_bipush (v := 100) hx hb dX8_roomOn_199 (by decide) ?_
                  refine k_goI (k_runS (rest := [.int 5, .int (nI i), .ref ra]) (As := [.int ((sX8_of z_17 i 5) - 10), .int 0, .int 100]) hx hb hml hown hts hK hP hD hS hA hE hl.1 (c_X8_clamp l G kk ((sX8_of z_17 i 5) - 10) 0 100 ) sl_X8_75 ⟨Nat.le_of_ble_eq_true rfl, Nat.le_of_ble_eq_true rfl, rfl, rfl⟩ [] rfl rfl ⟨Nat.zero_le _, Nat.zero_le _⟩ rfl (Nat.le_of_ble_eq_true rfl) dX8_roomOn_201) hP hD hS hA [] rfl ads0 (fun H locs hP hD hS => ?_)
                  replace hP : va_P G vwCl ([(h, .inr (8, moF b q)), ((b 7), .inl (kk 0, 6, .inl jb)), (ra, .inl (kk 0, 64, .inl z_17))]) H := hP
                  replace hD : va_D A ([(h, .inr (8, moF b q)), ((b 7), .inl (kk 0, 6, .inl jb)), (ra, .inl (kk 0, 64, .inl z_17))]) := hD
                  refine k_goV (k_runS (rest := []) (As := [.ref ra, .int (nI i), .int 5, .int (sX8_clamp ((sX8_of z_17 i 5) - 10) 0 100)]) hx hb hml hown hts hK hP hD hS hA hE hl.1 (c_X8_lay l G kk ra z_17 i 5 (sX8_clamp ((sX8_of z_17 i 5) - 10) 0 100) (by omega)) sl_X8_79 ⟨Nat.le_of_ble_eq_true rfl, Nat.le_of_ble_eq_true rfl, rfl, rfl⟩ [2] rfl rfl ⟨Nat.zero_le _, Nat.zero_le _⟩ rfl (Nat.le_of_ble_eq_true rfl) dX8_roomOn_204) hP hD hS hA [2] rfl ads1 (fun H locs hP hD hS => ?_)
                  replace hP : va_P G vwCl ([(h, .inr (8, moF b q)), ((b 7), .inl (kk 0, 6, .inl jb)), (ra, .inl (kk 0, 64, .inl (sX8_lay z_17 i 5 (sX8_clamp ((sX8_of z_17 i 5) - 10) 0 100))))]) H := hP
                  replace hD : va_D A ([(h, .inr (8, moF b q)), ((b 7), .inl (kk 0, 6, .inl jb)), (ra, .inl (kk 0, 64, .inl (sX8_lay z_17 i 5 (sX8_clamp ((sX8_of z_17 i 5) - 10) 0 100))))]) := hD
                  have eS : sX8_roomOn jb f i = sX8_roomOn_z_39 jb f i x_2 x_5 x_8 x_11 x_14 x_16 z_17 x_38 (sX8_lay z_17 i 5 (sX8_clamp ((sX8_of z_17 i 5) - 10) 0 100)) := eS
                  generalize sX8_lay z_17 i 5 (sX8_clamp ((sX8_of z_17 i 5) - 10) 0 100) = z_39 at hP hD eS ⊢
                  refine lv_aload_n hx hb dX8_roomOn_207 rfl (lv_at hl 7 rfl) ?_
                  refine lv_iload_n hx hb dX8_roomOn_208 rfl (lv_at hl 8 rfl) ?_
                  refine lv_bipush (v := 6) hx hb dX8_roomOn_209 (by decide) ?_
                  refine lv_aload_n hx hb dX8_roomOn_211 rfl (lv_at hl 7 rfl) ?_
                  refine lv_iload_n hx hb dX8_roomOn_212 rfl (lv_at hl 8 rfl) ?_
                  refine lv_iconst (v := 5) hx hb dX8_roomOn_213 (by decide) ?_
                  refine k_goI (k_runS (rest := [.int 6, .int (nI i), .ref ra]) (As := [.ref ra, .int (nI i), .int 5]) hx hb hml hown hts hK hP hD hS hA hE hl.1 (c_X8_of l G kk ra z_39 i 5 (by omega)) sl_X8_44 ⟨Nat.le_of_ble_eq_true rfl, Nat.le_of_ble_eq_true rfl, rfl, rfl⟩ [2] rfl rfl ⟨Nat.zero_le _, Nat.zero_le _⟩ rfl (Nat.le_of_ble_eq_true rfl) dX8_roomOn_214) hP hD hS hA [2] rfl ads1 (fun H locs hP hD hS => ?_)
                  replace hP : va_P G vwCl ([(h, .inr (8, moF b q)), ((b 7), .inl (kk 0, 6, .inl jb)), (ra, .inl (kk 0, 64, .inl z_39))]) H := hP
                  replace hD : va_D A ([(h, .inr (8, moF b q)), ((b 7), .inl (kk 0, 6, .inl jb)), (ra, .inl (kk 0, 64, .inl z_39))]) := hD
                  have J_66 : ∀ (x_41 : Int32) (ex_41 : x_41 = (if (sX8_of z_39 i 5) = 0 then 0 else (x_38 - 1))) (eS : sX8_roomOn jb f i = sX8_roomOn_j226 jb f i x_2 x_5 x_8 x_11 x_14 x_16 z_17 x_38 z_39 x_41) (H : Heap) (locs : List Loc) (ls : Array Slot) (hP : va_P G vwCl ([(h, .inr (8, moF b q)), ((b 7), .inl (kk 0, 6, .inl jb)), (ra, .inl (kk 0, 64, .inl z_39))]) H) (hD : va_D A ([(h, .inr (8, moF b q)), ((b 7), .inl (kk 0, 6, .inl jb)), (ra, .inl (kk 0, 64, .inl z_39))])) (hS : va_S A s.heap H locs) (hl : lv_has ls 9 [(8, .int (x_38 - 1)), (7, .int x_14), (6, .int x_11), (5, .int x_8), (4, .int x_5), (3, .int x_2), (0, .ref h), (1, .ref ra), (2, .int (nI i))]), GO p l e (rmO 2 43) s m ([.ref h, .ref ra, .int (nI i)] : List Value).toArray below meth c A (QV G kk ([(h, .inr (8, moF b q)), ((b 7), .inl (kk 0, 6, .inl jb)), (ra, .inl (kk 0, 64, .inl (sX8_roomOn jb f i)))])) H locs (F0 m 226 ls [.int x_41, .int 6, .int (nI i), .ref ra]) := by
                    intro x_41 ex_41 eS H locs ls hP hD hS hl
                    refine k_goV (k_runS (rest := []) (As := [.ref ra, .int (nI i), .int 6, .int x_41]) hx hb hml hown hts hK hP hD hS hA hE hl.1 (c_X8_lay l G kk ra z_39 i 6 x_41 (by omega)) sl_X8_79 ⟨Nat.le_of_ble_eq_true rfl, Nat.le_of_ble_eq_true rfl, rfl, rfl⟩ [2] rfl rfl ⟨Nat.zero_le _, Nat.zero_le _⟩ rfl (Nat.le_of_ble_eq_true rfl) dX8_roomOn_226) hP hD hS hA [2] rfl ads1 (fun H locs hP hD hS => ?_)
                    replace hP : va_P G vwCl ([(h, .inr (8, moF b q)), ((b 7), .inl (kk 0, 6, .inl jb)), (ra, .inl (kk 0, 64, .inl (sX8_lay z_39 i 6 x_41)))]) H := hP
                    replace hD : va_D A ([(h, .inr (8, moF b q)), ((b 7), .inl (kk 0, 6, .inl jb)), (ra, .inl (kk 0, 64, .inl (sX8_lay z_39 i 6 x_41)))]) := hD
                    have eS : sX8_roomOn jb f i = sX8_roomOn_z_42 jb f i x_2 x_5 x_8 x_11 x_14 x_16 z_17 x_38 z_39 x_41 (sX8_lay z_39 i 6 x_41) := eS
                    generalize sX8_lay z_39 i 6 x_41 = z_42 at hP hD eS ⊢
                    refine lv_goto (tgt := 271) hx hb dX8_roomOn_229 (by decide) ?_
                    refine lv_aload_n hx hb dX8_roomOn_271 rfl (lv_at hl 7 rfl) ?_
                    refine lv_iload_n hx hb dX8_roomOn_272 rfl (lv_at hl 8 rfl) ?_
                    refine lv_bipush (v := 7) hx hb dX8_roomOn_273 (by decide) ?_
                    refine lv_aload_n hx hb dX8_roomOn_275 rfl (lv_at hl 7 rfl) ?_
                    refine lv_iload_n hx hb dX8_roomOn_276 rfl (lv_at hl 8 rfl) ?_
                    refine lv_bipush (v := 7) hx hb dX8_roomOn_277 (by decide) ?_
                    refine k_goI (k_runS (rest := [.int 7, .int (nI i), .ref ra]) (As := [.ref ra, .int (nI i), .int 7]) hx hb hml hown hts hK hP hD hS hA hE hl.1 (c_X8_of l G kk ra z_42 i 7 (by omega)) sl_X8_44 ⟨Nat.le_of_ble_eq_true rfl, Nat.le_of_ble_eq_true rfl, rfl, rfl⟩ [2] rfl rfl ⟨Nat.zero_le _, Nat.zero_le _⟩ rfl (Nat.le_of_ble_eq_true rfl) dX8_roomOn_279) hP hD hS hA [2] rfl ads1 (fun H locs hP hD hS => ?_)
                    replace hP : va_P G vwCl ([(h, .inr (8, moF b q)), ((b 7), .inl (kk 0, 6, .inl jb)), (ra, .inl (kk 0, 64, .inl z_42))]) H := hP
                    replace hD : va_D A ([(h, .inr (8, moF b q)), ((b 7), .inl (kk 0, 6, .inl jb)), (ra, .inl (kk 0, 64, .inl z_42))]) := hD
                    refine lv_iload hx hb dX8_roomOn_282 (lv_at hl 4 rfl) ?_
                    have J_67 : ∀ (x_44 : Int32) (ex_44 : x_44 = (if x_5 = 0 then 0 else 1)) (eS : sX8_roomOn jb f i = sX8_roomOn_j292' jb f i x_2 x_5 x_8 x_11 x_14 x_16 z_17 x_38 z_39 x_41 z_42 x_44) (H : Heap) (locs : List Loc) (ls : Array Slot) (hP : va_P G vwCl ([(h, .inr (8, moF b q)), ((b 7), .inl (kk 0, 6, .inl jb)), (ra, .inl (kk 0, 64, .inl z_42))]) H) (hD : va_D A ([(h, .inr (8, moF b q)), ((b 7), .inl (kk 0, 6, .inl jb)), (ra, .inl (kk 0, 64, .inl z_42))])) (hS : va_S A s.heap H locs) (hl : lv_has ls 9 [(8, .int (x_38 - 1)), (7, .int x_14), (6, .int x_11), (5, .int x_8), (4, .int x_5), (3, .int x_2), (0, .ref h), (1, .ref ra), (2, .int (nI i))]), GO p l e (rmO 2 43) s m ([.ref h, .ref ra, .int (nI i)] : List Value).toArray below meth c A (QV G kk ([(h, .inr (8, moF b q)), ((b 7), .inl (kk 0, 6, .inl jb)), (ra, .inl (kk 0, 64, .inl (sX8_roomOn jb f i)))])) H locs (F0 m 292 ls [.int x_44, .int (sX8_of z_42 i 7), .int 7, .int (nI i), .ref ra]) := by
                      intro x_44 ex_44 eS H locs ls hP hD hS hl
                      refine lv_iadd hx hb dX8_roomOn_292 ?_
                      refine k_goV (k_runS (rest := []) (As := [.ref ra, .int (nI i), .int 7, .int ((sX8_of z_42 i 7) + x_44)]) hx hb hml hown hts hK hP hD hS hA hE hl.1 (c_X8_lay l G kk ra z_42 i 7 ((sX8_of z_42 i 7) + x_44) (by omega)) sl_X8_79 ⟨Nat.le_of_ble_eq_true rfl, Nat.le_of_ble_eq_true rfl, rfl, rfl⟩ [2] rfl rfl ⟨Nat.zero_le _, Nat.zero_le _⟩ rfl (Nat.le_of_ble_eq_true rfl) dX8_roomOn_293) hP hD hS hA [2] rfl ads1 (fun H locs hP hD hS => ?_)
                      replace hP : va_P G vwCl ([(h, .inr (8, moF b q)), ((b 7), .inl (kk 0, 6, .inl jb)), (ra, .inl (kk 0, 64, .inl (sX8_lay z_42 i 7 ((sX8_of z_42 i 7) + x_44))))]) H := hP
                      replace hD : va_D A ([(h, .inr (8, moF b q)), ((b 7), .inl (kk 0, 6, .inl jb)), (ra, .inl (kk 0, 64, .inl (sX8_lay z_42 i 7 ((sX8_of z_42 i 7) + x_44))))]) := hD
                      have eS : sX8_roomOn jb f i = sX8_roomOn_z_45 jb f i x_2 x_5 x_8 x_11 x_14 x_16 z_17 x_38 z_39 x_41 z_42 x_44 (sX8_lay z_42 i 7 ((sX8_of z_42 i 7) + x_44)) := eS
                      generalize sX8_lay z_42 i 7 ((sX8_of z_42 i 7) + x_44) = z_45 at hP hD eS ⊢
                      refine lv_aload_n hx hb dX8_roomOn_296 rfl (lv_at hl 7 rfl) ?_
                      refine lv_bipush (v := 6) hx hb dX8_roomOn_297 (by decide) ?_
                      refine lv_dup2_11 hx hb dX8_roomOn_299 rfl rfl ?_
                      refine r_iald hx hb hK hP 2 rfl 6 rfl (by decide) (by decide) dX8_roomOn_300 ?_
                      refine lv_iload hx hb dX8_roomOn_301 (lv_at hl 3 rfl) ?_
                      have J_68 : ∀ (x_47 : Int32) (ex_47 : x_47 = (if x_8 = 0 then 0 else 1)) (eS : sX8_roomOn jb f i = sX8_roomOn_j311' jb f i x_2 x_5 x_8 x_11 x_14 x_16 z_17 x_38 z_39 x_41 z_42 x_44 z_45 x_47) (H : Heap) (locs : List Loc) (ls : Array Slot) (hP : va_P G vwCl ([(h, .inr (8, moF b q)), ((b 7), .inl (kk 0, 6, .inl jb)), (ra, .inl (kk 0, 64, .inl z_45))]) H) (hD : va_D A ([(h, .inr (8, moF b q)), ((b 7), .inl (kk 0, 6, .inl jb)), (ra, .inl (kk 0, 64, .inl z_45))])) (hS : va_S A s.heap H locs) (hl : lv_has ls 9 [(8, .int (x_38 - 1)), (7, .int x_14), (6, .int x_11), (5, .int x_8), (4, .int x_5), (3, .int x_2), (0, .ref h), (1, .ref ra), (2, .int (nI i))]), GO p l e (rmO 2 43) s m ([.ref h, .ref ra, .int (nI i)] : List Value).toArray below meth c A (QV G kk ([(h, .inr (8, moF b q)), ((b 7), .inl (kk 0, 6, .inl jb)), (ra, .inl (kk 0, 64, .inl (sX8_roomOn jb f i)))])) H locs (F0 m 311 ls [.int x_47, .int (z_45 6), .int 6, .ref ra]) := by
                        intro x_47 ex_47 eS H locs ls hP hD hS hl
                        refine lv_iadd hx hb dX8_roomOn_311 ?_
                        refine r_iast hx hb hK hP hD hS 2 rfl 6 rfl (by decide) (by decide) dX8_roomOn_312 (fun H locs hP hD hS => ?_)
                        replace hP : va_P G vwCl ([(h, .inr (8, moF b q)), ((b 7), .inl (kk 0, 6, .inl jb)), (ra, .inl (kk 0, 64, .inl (upd z_45 6 ((z_45 6) + x_47))))]) H := hP
                        replace hD : va_D A ([(h, .inr (8, moF b q)), ((b 7), .inl (kk 0, 6, .inl jb)), (ra, .inl (kk 0, 64, .inl (upd z_45 6 ((z_45 6) + x_47))))]) := hD
                        refine lv_aload_n hx hb dX8_roomOn_313 rfl (lv_at hl 7 rfl) ?_
                        refine lv_bipush (v := 7) hx hb dX8_roomOn_314 (by decide) ?_
                        refine lv_dup2_11 hx hb dX8_roomOn_316 rfl rfl ?_
                        refine r_iald hx hb hK hP 2 rfl 7 rfl (by decide) (by decide) dX8_roomOn_317 ?_
                        refine top_eq (y := (z_45 7)) (pk_un (by decide)) ?_
                        refine lv_aload_n hx hb dX8_roomOn_318 rfl (lv_at hl 6 rfl) ?_
                        refine r_get (v := .ref (b 7)) hx hb hts hown hK hP fl_X8_29 0 rfl rfl dX8_roomOn_319 ?_
                        refine lv_iload_n hx hb dX8_roomOn_322 rfl (lv_at hl 8 rfl) ?_
                        refine r_iald hx hb hK hP 1 rfl i rfl (by omega) (by decide) dX8_roomOn_323 ?_
                        refine lv_iconst (v := 4) hx hb dX8_roomOn_324 (by decide) ?_
                        have J_69 : ∀ (x_49 : Int32) (ex_49 : x_49 = (if (jb i) = 4 then 1 else 0)) (eS : sX8_roomOn jb f i = sX8_roomOn_j333' jb f i x_2 x_5 x_8 x_11 x_14 x_16 z_17 x_38 z_39 x_41 z_42 x_44 z_45 x_47 x_49) (H : Heap) (locs : List Loc) (ls : Array Slot) (hP : va_P G vwCl ([(h, .inr (8, moF b q)), ((b 7), .inl (kk 0, 6, .inl jb)), (ra, .inl (kk 0, 64, .inl (upd z_45 6 ((z_45 6) + x_47))))]) H) (hD : va_D A ([(h, .inr (8, moF b q)), ((b 7), .inl (kk 0, 6, .inl jb)), (ra, .inl (kk 0, 64, .inl (upd z_45 6 ((z_45 6) + x_47))))])) (hS : va_S A s.heap H locs) (hl : lv_has ls 9 [(8, .int (x_38 - 1)), (7, .int x_14), (6, .int x_11), (5, .int x_8), (4, .int x_5), (3, .int x_2), (0, .ref h), (1, .ref ra), (2, .int (nI i))]), GO p l e (rmO 2 43) s m ([.ref h, .ref ra, .int (nI i)] : List Value).toArray below meth c A (QV G kk ([(h, .inr (8, moF b q)), ((b 7), .inl (kk 0, 6, .inl jb)), (ra, .inl (kk 0, 64, .inl (sX8_roomOn jb f i)))])) H locs (F0 m 333 ls [.int x_49, .int (z_45 7), .int 7, .ref ra]) := by
                          intro x_49 ex_49 eS H locs ls hP hD hS hl
                          refine lv_iadd hx hb dX8_roomOn_333 ?_
                          refine r_iast hx hb hK hP hD hS 2 rfl 7 rfl (by decide) (by decide) dX8_roomOn_334 (fun H locs hP hD hS => ?_)
                          replace hP : va_P G vwCl ([(h, .inr (8, moF b q)), ((b 7), .inl (kk 0, 6, .inl jb)), (ra, .inl (kk 0, 64, .inl (upd (upd z_45 6 ((z_45 6) + x_47)) 7 ((z_45 7) + x_49))))]) H := hP
                          replace hD : va_D A ([(h, .inr (8, moF b q)), ((b 7), .inl (kk 0, 6, .inl jb)), (ra, .inl (kk 0, 64, .inl (upd (upd z_45 6 ((z_45 6) + x_47)) 7 ((z_45 7) + x_49))))]) := hD
                          refine lv_aload_n hx hb dX8_roomOn_335 rfl (lv_at hl 7 rfl) ?_
                          refine lv_bipush (v := 8) hx hb dX8_roomOn_336 (by decide) ?_
                          refine lv_dup2_11 hx hb dX8_roomOn_338 rfl rfl ?_
                          refine r_iald hx hb hK hP 2 rfl 8 rfl (by decide) (by decide) dX8_roomOn_339 ?_
                          refine top_eq (y := (z_45 8)) ((pk_un (by decide)).trans (pk_un (by decide))) ?_
                          refine lv_aload_n hx hb dX8_roomOn_340 rfl (lv_at hl 6 rfl) ?_
                          refine r_get (v := .ref (b 7)) hx hb hts hown hK hP fl_X8_29 0 rfl rfl dX8_roomOn_341 ?_
                          refine lv_iload_n hx hb dX8_roomOn_344 rfl (lv_at hl 8 rfl) ?_
                          refine r_iald hx hb hK hP 1 rfl i rfl (by omega) (by decide) dX8_roomOn_345 ?_
                          refine lv_bipush (v := 6) hx hb dX8_roomOn_346 (by decide) ?_
                          have J_70 : ∀ (x_51 : Int32) (ex_51 : x_51 = (if (jb i) = 6 then 1 else 0)) (eS : sX8_roomOn jb f i = sX8_roomOn_j356' jb f i x_2 x_5 x_8 x_11 x_14 x_16 z_17 x_38 z_39 x_41 z_42 x_44 z_45 x_47 x_49 x_51) (H : Heap) (locs : List Loc) (ls : Array Slot) (hP : va_P G vwCl ([(h, .inr (8, moF b q)), ((b 7), .inl (kk 0, 6, .inl jb)), (ra, .inl (kk 0, 64, .inl (upd (upd z_45 6 ((z_45 6) + x_47)) 7 ((z_45 7) + x_49))))]) H) (hD : va_D A ([(h, .inr (8, moF b q)), ((b 7), .inl (kk 0, 6, .inl jb)), (ra, .inl (kk 0, 64, .inl (upd (upd z_45 6 ((z_45 6) + x_47)) 7 ((z_45 7) + x_49))))])) (hS : va_S A s.heap H locs) (hl : lv_has ls 9 [(8, .int (x_38 - 1)), (7, .int x_14), (6, .int x_11), (5, .int x_8), (4, .int x_5), (3, .int x_2), (0, .ref h), (1, .ref ra), (2, .int (nI i))]), GO p l e (rmO 2 43) s m ([.ref h, .ref ra, .int (nI i)] : List Value).toArray below meth c A (QV G kk ([(h, .inr (8, moF b q)), ((b 7), .inl (kk 0, 6, .inl jb)), (ra, .inl (kk 0, 64, .inl (sX8_roomOn jb f i)))])) H locs (F0 m 356 ls [.int x_51, .int (z_45 8), .int 8, .ref ra]) := by
                            intro x_51 ex_51 eS H locs ls hP hD hS hl
                            refine lv_iadd hx hb dX8_roomOn_356 ?_
                            refine r_iast hx hb hK hP hD hS 2 rfl 8 rfl (by decide) (by decide) dX8_roomOn_357 (fun H locs hP hD hS => ?_)
                            replace hP : va_P G vwCl ([(h, .inr (8, moF b q)), ((b 7), .inl (kk 0, 6, .inl jb)), (ra, .inl (kk 0, 64, .inl (upd (upd (upd z_45 6 ((z_45 6) + x_47)) 7 ((z_45 7) + x_49)) 8 ((z_45 8) + x_51))))]) H := hP
                            replace hD : va_D A ([(h, .inr (8, moF b q)), ((b 7), .inl (kk 0, 6, .inl jb)), (ra, .inl (kk 0, 64, .inl (upd (upd (upd z_45 6 ((z_45 6) + x_47)) 7 ((z_45 7) + x_49)) 8 ((z_45 8) + x_51))))]) := hD
                            refine lv_aload_n hx hb dX8_roomOn_358 rfl (lv_at hl 7 rfl) ?_
                            refine lv_bipush (v := 9) hx hb dX8_roomOn_359 (by decide) ?_
                            refine lv_dup2_11 hx hb dX8_roomOn_361 rfl rfl ?_
                            refine r_iald hx hb hK hP 2 rfl 9 rfl (by decide) (by decide) dX8_roomOn_362 ?_
                            refine top_eq (y := (z_45 9)) ((pk_un (by decide)).trans ((pk_un (by decide)).trans (pk_un (by decide)))) ?_
                            refine lv_aload_n hx hb dX8_roomOn_363 rfl (lv_at hl 7 rfl) ?_
                            refine lv_iload_n hx hb dX8_roomOn_364 rfl (lv_at hl 8 rfl) ?_
                            refine k_goI (k_runS (rest := [.int (z_45 9), .int 9, .ref ra]) (As := [.ref ra, .int (nI i)]) hx hb hml hown hts hK hP hD hS hA hE hl.1 (c_X8_isWarm l G kk ra (upd (upd (upd z_45 6 ((z_45 6) + x_47)) 7 ((z_45 7) + x_49)) 8 ((z_45 8) + x_51)) i (by omega)) sl_X8_55 ⟨Nat.le_of_ble_eq_true rfl, Nat.le_of_ble_eq_true rfl, rfl, rfl⟩ [2] rfl rfl ⟨Nat.zero_le _, Nat.zero_le _⟩ rfl (Nat.le_of_ble_eq_true rfl) dX8_roomOn_365) hP hD hS hA [2] rfl ads1 (fun H locs hP hD hS => ?_)
                            replace hP : va_P G vwCl ([(h, .inr (8, moF b q)), ((b 7), .inl (kk 0, 6, .inl jb)), (ra, .inl (kk 0, 64, .inl (upd (upd (upd z_45 6 ((z_45 6) + x_47)) 7 ((z_45 7) + x_49)) 8 ((z_45 8) + x_51))))]) H := hP
                            replace hD : va_D A ([(h, .inr (8, moF b q)), ((b 7), .inl (kk 0, 6, .inl jb)), (ra, .inl (kk 0, 64, .inl (upd (upd (upd z_45 6 ((z_45 6) + x_47)) 7 ((z_45 7) + x_49)) 8 ((z_45 8) + x_51))))]) := hD
                            refine lv_if_eq (tgt := 375) hx hb dX8_roomOn_368 (by decide) (fun c_52 => ?_) (fun c_52 => ?_)
                            · have eS := eS.trans (if_pos c_52)
                              refine lv_iconst (v := 0) hx hb dX8_roomOn_375 (by decide) ?_
                              refine lv_iadd hx hb dX8_roomOn_376 ?_
                              refine r_iast hx hb hK hP hD hS 2 rfl 9 rfl (by decide) (by decide) dX8_roomOn_377 (fun H locs hP hD hS => ?_)
                              replace hP : va_P G vwCl ([(h, .inr (8, moF b q)), ((b 7), .inl (kk 0, 6, .inl jb)), (ra, .inl (kk 0, 64, .inl (upd (upd (upd (upd z_45 6 ((z_45 6) + x_47)) 7 ((z_45 7) + x_49)) 8 ((z_45 8) + x_51)) 9 ((z_45 9) + 0))))]) H := hP
                              replace hD : va_D A ([(h, .inr (8, moF b q)), ((b 7), .inl (kk 0, 6, .inl jb)), (ra, .inl (kk 0, 64, .inl (upd (upd (upd (upd z_45 6 ((z_45 6) + x_47)) 7 ((z_45 7) + x_49)) 8 ((z_45 8) + x_51)) 9 ((z_45 9) + 0))))]) := hD
                              exact fin_v hx hb hr hlocks hK (vP_eq (congrArg (fun z : (Nat → Int32) => ([(h, .inr (8, moF b q)), ((b 7), .inl (kk 0, 6, .inl jb)), (ra, .inl (kk 0, 64, .inl z))] : va_W)) eS.symm) hP) (vD_eq (congrArg (fun z : (Nat → Int32) => ([(h, .inr (8, moF b q)), ((b 7), .inl (kk 0, 6, .inl jb)), (ra, .inl (kk 0, 64, .inl z))] : va_W)) eS.symm) hD) hS dX8_roomOn_378
                            · have eS := eS.trans (if_neg c_52)
                              refine lv_iconst (v := 1) hx hb dX8_roomOn_371 (by decide) ?_
                              refine lv_goto (tgt := 376) hx hb dX8_roomOn_372 (by decide) ?_
                              refine lv_iadd hx hb dX8_roomOn_376 ?_
                              refine r_iast hx hb hK hP hD hS 2 rfl 9 rfl (by decide) (by decide) dX8_roomOn_377 (fun H locs hP hD hS => ?_)
                              replace hP : va_P G vwCl ([(h, .inr (8, moF b q)), ((b 7), .inl (kk 0, 6, .inl jb)), (ra, .inl (kk 0, 64, .inl (upd (upd (upd (upd z_45 6 ((z_45 6) + x_47)) 7 ((z_45 7) + x_49)) 8 ((z_45 8) + x_51)) 9 ((z_45 9) + 1))))]) H := hP
                              replace hD : va_D A ([(h, .inr (8, moF b q)), ((b 7), .inl (kk 0, 6, .inl jb)), (ra, .inl (kk 0, 64, .inl (upd (upd (upd (upd z_45 6 ((z_45 6) + x_47)) 7 ((z_45 7) + x_49)) 8 ((z_45 8) + x_51)) 9 ((z_45 9) + 1))))]) := hD
                              exact fin_v hx hb hr hlocks hK (vP_eq (congrArg (fun z : (Nat → Int32) => ([(h, .inr (8, moF b q)), ((b 7), .inl (kk 0, 6, .inl jb)), (ra, .inl (kk 0, 64, .inl z))] : va_W)) eS.symm) hP) (vD_eq (congrArg (fun z : (Nat → Int32) => ([(h, .inr (8, moF b q)), ((b 7), .inl (kk 0, 6, .inl jb)), (ra, .inl (kk 0, 64, .inl z))] : va_W)) eS.symm) hD) hS dX8_roomOn_378
                          refine lv_icmp_ne (tgt := 355) hx hb dX8_roomOn_348 (by decide) (fun c_50 => ?_) (fun c_50 => ?_)
                          · refine lv_iconst (v := 0) hx hb dX8_roomOn_355 (by decide) ?_
                            exact J_70 0 (if_neg c_50).symm (eS.trans (cg1 (sX8_roomOn_j356' jb f i x_2 x_5 x_8 x_11 x_14 x_16 z_17 x_38 z_39 x_41 z_42 x_44 z_45 x_47 x_49) (if_neg c_50))) _ _ ls hP hD hS (lv_sub hl [0, 1, 2, 3, 4, 5, 6, 7, 8] rfl)
                          · refine lv_iconst (v := 1) hx hb dX8_roomOn_351 (by decide) ?_
                            refine lv_goto (tgt := 356) hx hb dX8_roomOn_352 (by decide) ?_
                            exact J_70 1 (if_pos c_50).symm (eS.trans (cg1 (sX8_roomOn_j356' jb f i x_2 x_5 x_8 x_11 x_14 x_16 z_17 x_38 z_39 x_41 z_42 x_44 z_45 x_47 x_49) (if_pos c_50))) _ _ ls hP hD hS (lv_sub hl [0, 1, 2, 3, 4, 5, 6, 7, 8] rfl)
                        refine lv_icmp_ne (tgt := 332) hx hb dX8_roomOn_325 (by decide) (fun c_48 => ?_) (fun c_48 => ?_)
                        · refine lv_iconst (v := 0) hx hb dX8_roomOn_332 (by decide) ?_
                          exact J_69 0 (if_neg c_48).symm (eS.trans (cg1 (sX8_roomOn_j333' jb f i x_2 x_5 x_8 x_11 x_14 x_16 z_17 x_38 z_39 x_41 z_42 x_44 z_45 x_47) (if_neg c_48))) _ _ ls hP hD hS (lv_sub hl [0, 1, 2, 3, 4, 5, 6, 7, 8] rfl)
                        · refine lv_iconst (v := 1) hx hb dX8_roomOn_328 (by decide) ?_
                          refine lv_goto (tgt := 333) hx hb dX8_roomOn_329 (by decide) ?_
                          exact J_69 1 (if_pos c_48).symm (eS.trans (cg1 (sX8_roomOn_j333' jb f i x_2 x_5 x_8 x_11 x_14 x_16 z_17 x_38 z_39 x_41 z_42 x_44 z_45 x_47) (if_pos c_48))) _ _ ls hP hD hS (lv_sub hl [0, 1, 2, 3, 4, 5, 6, 7, 8] rfl)
                      refine lv_if_eq (tgt := 310) hx hb dX8_roomOn_303 (by decide) (fun c_46 => ?_) (fun c_46 => ?_)
                      · refine lv_iconst (v := 0) hx hb dX8_roomOn_310 (by decide) ?_
                        exact J_68 0 (if_pos c_46).symm (eS.trans (cg1 (sX8_roomOn_j311' jb f i x_2 x_5 x_8 x_11 x_14 x_16 z_17 x_38 z_39 x_41 z_42 x_44 z_45) (if_pos c_46))) _ _ ls hP hD hS (lv_sub hl [0, 1, 2, 3, 4, 5, 6, 7, 8] rfl)
                      · refine lv_iconst (v := 1) hx hb dX8_roomOn_306 (by decide) ?_
                        refine lv_goto (tgt := 311) hx hb dX8_roomOn_307 (by decide) ?_
                        exact J_68 1 (if_neg c_46).symm (eS.trans (cg1 (sX8_roomOn_j311' jb f i x_2 x_5 x_8 x_11 x_14 x_16 z_17 x_38 z_39 x_41 z_42 x_44 z_45) (if_neg c_46))) _ _ ls hP hD hS (lv_sub hl [0, 1, 2, 3, 4, 5, 6, 7, 8] rfl)
                    refine lv_if_eq (tgt := 291) hx hb dX8_roomOn_284 (by decide) (fun c_43 => ?_) (fun c_43 => ?_)
                    · refine lv_iconst (v := 0) hx hb dX8_roomOn_291 (by decide) ?_
                      exact J_67 0 (if_pos c_43).symm (eS.trans (cg1 (sX8_roomOn_j292' jb f i x_2 x_5 x_8 x_11 x_14 x_16 z_17 x_38 z_39 x_41 z_42) (if_pos c_43))) _ _ ls hP hD hS (lv_sub hl [0, 1, 2, 3, 4, 5, 6, 7, 8] rfl)
                    · refine lv_iconst (v := 1) hx hb dX8_roomOn_287 (by decide) ?_
                      refine lv_goto (tgt := 292) hx hb dX8_roomOn_288 (by decide) ?_
                      exact J_67 1 (if_neg c_43).symm (eS.trans (cg1 (sX8_roomOn_j292' jb f i x_2 x_5 x_8 x_11 x_14 x_16 z_17 x_38 z_39 x_41 z_42) (if_neg c_43))) _ _ ls hP hD hS (lv_sub hl [0, 1, 2, 3, 4, 5, 6, 7, 8] rfl)
                  refine lv_if_ne (tgt := 224) hx hb dX8_roomOn_217 (by decide) (fun c_40 => ?_) (fun c_40 => ?_)
                  · refine lv_iload hx hb dX8_roomOn_224 (lv_at hl 0 rfl) ?_
                    exact J_66 (x_38 - 1) (if_neg c_40).symm (eS.trans (cg1 (sX8_roomOn_j226 jb f i x_2 x_5 x_8 x_11 x_14 x_16 z_17 x_38 z_39) (if_neg c_40))) _ _ ls hP hD hS (lv_sub hl [0, 1, 2, 3, 4, 5, 6, 7, 8] rfl)
                  · refine lv_iconst (v := 0) hx hb dX8_roomOn_220 (by decide) ?_
                    refine lv_goto (tgt := 226) hx hb dX8_roomOn_221 (by decide) ?_
                    exact J_66 0 (if_pos c_40).symm (eS.trans (cg1 (sX8_roomOn_j226 jb f i x_2 x_5 x_8 x_11 x_14 x_16 z_17 x_38 z_39) (if_pos c_40))) _ _ ls hP hD hS (lv_sub hl [0, 1, 2, 3, 4, 5, 6, 7, 8] rfl)
                refine lv_if_eq (tgt := 175) hx hb dX8_roomOn_165 (by decide) (fun c_37 => ?_) (fun c_37 => ?_)
                · refine lv_aload_n hx hb dX8_roomOn_175 rfl (lv_at hl 6 rfl) ?_
                  refine lv_iload_n hx hb dX8_roomOn_176 rfl (lv_at hl 7 rfl) ?_
                  refine lv_bipush (v := 6) hx hb dX8_roomOn_177 (by decide) ?_
                  refine k_goI (k_runS (rest := []) (As := [.ref ra, .int (nI i), .int 6]) hx hb hml hown hts hK hP hD hS hA hE hl.1 (c_X8_of l G kk ra z_17 i 6 (by omega)) sl_X8_44 ⟨Nat.le_of_ble_eq_true rfl, Nat.le_of_ble_eq_true rfl, rfl, rfl⟩ [2] rfl rfl ⟨Nat.zero_le _, Nat.zero_le _⟩ rfl (Nat.le_of_ble_eq_true rfl) dX8_roomOn_179) hP hD hS hA [2] rfl ads1 (fun H locs hP hD hS => ?_)
                  replace hP : va_P G vwCl ([(h, .inr (8, moF b q)), ((b 7), .inl (kk 0, 6, .inl jb)), (ra, .inl (kk 0, 64, .inl z_17))]) H := hP
                  replace hD : va_D A ([(h, .inr (8, moF b q)), ((b 7), .inl (kk 0, 6, .inl jb)), (ra, .inl (kk 0, 64, .inl z_17))]) := hD
                  exact J_65 (sX8_of z_17 i 6) (if_pos c_37).symm (eS.trans (cg1 (sX8_roomOn_j182 jb f i x_2 x_5 x_8 x_11 x_14 x_16 z_17) (if_pos c_37))) _ _ ls hP hD hS (lv_sub hl [0, 1, 2, 3, 4, 5, 6, 7] rfl)
                · refine lv_aload_n hx hb dX8_roomOn_168 rfl (lv_at hl 6 rfl) ?_
                  refine lv_bipush (v := 15) hx hb dX8_roomOn_169 (by decide) ?_
                  refine r_iald hx hb hK hP 2 rfl 15 rfl (by decide) (by decide) dX8_roomOn_171 ?_
                  refine lv_goto (tgt := 182) hx hb dX8_roomOn_172 (by decide) ?_
                  exact J_65 (z_17 15) (if_neg c_37).symm (eS.trans (cg1 (sX8_roomOn_j182 jb f i x_2 x_5 x_8 x_11 x_14 x_16 z_17) (if_neg c_37))) _ _ ls hP hD hS (lv_sub hl [0, 1, 2, 3, 4, 5, 6, 7] rfl)
            refine lv_if_eq (tgt := 144) hx hb dX8_roomOn_137 (by decide) (fun c_15 => ?_) (fun c_15 => ?_)
            · refine lv_iconst (v := 0) hx hb dX8_roomOn_144 (by decide) ?_
              exact J_58 0 (if_pos c_15).symm (eS.trans (cg1 (sX8_roomOn_j145 jb f i x_2 x_5 x_8 x_11 x_14) (if_pos c_15))) _ _ ls hP hD hS (lv_sub hl [0, 1, 2, 3, 4, 5, 6, 7] rfl)
            · refine lv_iconst (v := 4) hx hb dX8_roomOn_140 (by decide) ?_
              refine lv_goto (tgt := 145) hx hb dX8_roomOn_141 (by decide) ?_
              exact J_58 4 (if_neg c_15).symm (eS.trans (cg1 (sX8_roomOn_j145 jb f i x_2 x_5 x_8 x_11 x_14) (if_neg c_15))) _ _ ls hP hD hS (lv_sub hl [0, 1, 2, 3, 4, 5, 6, 7] rfl)
          refine lv_if_eq (tgt := 111) hx hb dX8_roomOn_93 (by decide) (fun c_12 => ?_) (fun c_12 => ?_)
          · refine lv_iload hx hb dX8_roomOn_111 (lv_at hl 0 rfl) ?_
            refine lv_if_eq (tgt := 121) hx hb dX8_roomOn_113 (by decide) (fun c_13 => ?_) (fun c_13 => ?_)
            · refine lv_iconst (v := 1) hx hb dX8_roomOn_121 (by decide) ?_
              exact J_57 1 ((if_pos c_12).trans (if_pos c_13)).symm (eS.trans (cg1 (sX8_roomOn_j122 jb f i x_2 x_5 x_8 x_11) ((if_pos c_12).trans (if_pos c_13)))) _ _ ls hP hD hS (lv_sub hl [0, 1, 2, 3, 4, 5, 6] rfl)
            · refine lv_bipush (v := 6) hx hb dX8_roomOn_116 (by decide) ?_
              refine lv_goto (tgt := 122) hx hb dX8_roomOn_118 (by decide) ?_
              exact J_57 6 ((if_pos c_12).trans (if_neg c_13)).symm (eS.trans (cg1 (sX8_roomOn_j122 jb f i x_2 x_5 x_8 x_11) ((if_pos c_12).trans (if_neg c_13)))) _ _ ls hP hD hS (lv_sub hl [0, 1, 2, 3, 4, 5, 6] rfl)
          · refine lv_aload_n hx hb dX8_roomOn_96 rfl (lv_at hl 5 rfl) ?_
            refine lv_iload_n hx hb dX8_roomOn_97 rfl (lv_at hl 6 rfl) ?_
            refine lv_iconst (v := 5) hx hb dX8_roomOn_98 (by decide) ?_
            refine k_goI (k_runS (rest := []) (As := [.ref ra, .int (nI i), .int 5]) hx hb hml hown hts hK hP hD hS hA hE hl.1 (c_X8_of l G kk ra f i 5 (by omega)) sl_X8_44 ⟨Nat.le_of_ble_eq_true rfl, Nat.le_of_ble_eq_true rfl, rfl, rfl⟩ [2] rfl rfl ⟨Nat.zero_le _, Nat.zero_le _⟩ rfl (Nat.le_of_ble_eq_true rfl) dX8_roomOn_99) hP hD hS hA [2] rfl ads1 (fun H locs hP hD hS => ?_)
            replace hP : va_P G vwCl ([(h, .inr (8, moF b q)), ((b 7), .inl (kk 0, 6, .inl jb)), (ra, .inl (kk 0, 64, .inl f))]) H := hP
            replace hD : va_D A ([(h, .inr (8, moF b q)), ((b 7), .inl (kk 0, 6, .inl jb)), (ra, .inl (kk 0, 64, .inl f))]) := hD
            refine lv_bipush (v := 20) hx hb dX8_roomOn_102 (by decide) ?_
            refine lv_idiv hx hb dX8_roomOn_104 (by decide) ?_
            refine lv_bipush (v := 8) hx hb dX8_roomOn_105 (by decide) ?_
            refine lv_isub hx hb dX8_roomOn_107 ?_
            refine lv_goto (tgt := 122) hx hb dX8_roomOn_108 (by decide) ?_
            exact J_57 (((sX8_of f i 5) / 20) - 8) (if_neg c_12).symm (eS.trans (cg1 (sX8_roomOn_j122 jb f i x_2 x_5 x_8 x_11) (if_neg c_12))) _ _ ls hP hD hS (lv_sub hl [0, 1, 2, 3, 4, 5, 6] rfl)
        refine lv_if_ne (tgt := 84) hx hb dX8_roomOn_72 (by decide) (fun c_9 => ?_) (fun c_9 => ?_)
        · refine lv_iconst (v := 1) hx hb dX8_roomOn_84 (by decide) ?_
          refine lv_goto (tgt := 89) hx hb dX8_roomOn_85 (by decide) ?_
          exact J_56 1 (if_neg c_9).symm (eS.trans (cg1 (sX8_roomOn_j89 jb f i x_2 x_5 x_8) (if_neg c_9))) _ _ ls hP hD hS (lv_sub hl [0, 1, 2, 3, 4, 5] rfl)
        · refine lv_aload_n hx hb dX8_roomOn_75 rfl (lv_at hl 3 rfl) ?_
          refine r_get (v := .ref (b 7)) hx hb hts hown hK hP fl_X8_29 0 rfl rfl dX8_roomOn_76 ?_
          refine lv_iload_n hx hb dX8_roomOn_79 rfl (lv_at hl 5 rfl) ?_
          refine r_iald hx hb hK hP 1 rfl i rfl (by omega) (by decide) dX8_roomOn_80 ?_
          refine lv_if_ne (tgt := 88) hx hb dX8_roomOn_81 (by decide) (fun c_10 => ?_) (fun c_10 => ?_)
          · refine lv_iconst (v := 0) hx hb dX8_roomOn_88 (by decide) ?_
            exact J_56 0 ((if_pos c_9).trans (if_neg c_10)).symm (eS.trans (cg1 (sX8_roomOn_j89 jb f i x_2 x_5 x_8) ((if_pos c_9).trans (if_neg c_10)))) _ _ ls hP hD hS (lv_sub hl [0, 1, 2, 3, 4, 5] rfl)
          · refine lv_iconst (v := 1) hx hb dX8_roomOn_84 (by decide) ?_
            refine lv_goto (tgt := 89) hx hb dX8_roomOn_85 (by decide) ?_
            exact J_56 1 ((if_pos c_9).trans (if_pos c_10)).symm (eS.trans (cg1 (sX8_roomOn_j89 jb f i x_2 x_5 x_8) ((if_pos c_9).trans (if_pos c_10)))) _ _ ls hP hD hS (lv_sub hl [0, 1, 2, 3, 4, 5] rfl)
      refine lv_icmp_eq (tgt := 63) hx hb dX8_roomOn_50 (by decide) (fun c_6 => ?_) (fun c_6 => ?_)
      · refine lv_iconst (v := 1) hx hb dX8_roomOn_63 (by decide) ?_
        refine lv_goto (tgt := 68) hx hb dX8_roomOn_64 (by decide) ?_
        exact J_55 1 (if_pos c_6).symm (eS.trans (cg1 (sX8_roomOn_j68 jb f i x_2 x_5) (if_pos c_6))) _ _ ls hP hD hS (lv_sub hl [0, 1, 2, 3, 4] rfl)
      · refine lv_aload_n hx hb dX8_roomOn_53 rfl (lv_at hl 2 rfl) ?_
        refine r_get (v := .ref (b 7)) hx hb hts hown hK hP fl_X8_29 0 rfl rfl dX8_roomOn_54 ?_
        refine lv_iload_n hx hb dX8_roomOn_57 rfl (lv_at hl 4 rfl) ?_
        refine r_iald hx hb hK hP 1 rfl i rfl (by omega) (by decide) dX8_roomOn_58 ?_
        refine lv_iconst (v := 2) hx hb dX8_roomOn_59 (by decide) ?_
        refine lv_icmp_ne (tgt := 67) hx hb dX8_roomOn_60 (by decide) (fun c_7 => ?_) (fun c_7 => ?_)
        · refine lv_iconst (v := 0) hx hb dX8_roomOn_67 (by decide) ?_
          exact J_55 0 ((if_neg c_6).trans (if_neg c_7)).symm (eS.trans (cg1 (sX8_roomOn_j68 jb f i x_2 x_5) ((if_neg c_6).trans (if_neg c_7)))) _ _ ls hP hD hS (lv_sub hl [0, 1, 2, 3, 4] rfl)
        · refine lv_iconst (v := 1) hx hb dX8_roomOn_63 (by decide) ?_
          refine lv_goto (tgt := 68) hx hb dX8_roomOn_64 (by decide) ?_
          exact J_55 1 ((if_neg c_6).trans (if_pos c_7)).symm (eS.trans (cg1 (sX8_roomOn_j68 jb f i x_2 x_5) ((if_neg c_6).trans (if_pos c_7)))) _ _ ls hP hD hS (lv_sub hl [0, 1, 2, 3, 4] rfl)
    refine lv_icmp_eq (tgt := 36) hx hb dX8_roomOn_23 (by decide) (fun c_3 => ?_) (fun c_3 => ?_)
    · refine lv_iconst (v := 1) hx hb dX8_roomOn_36 (by decide) ?_
      refine lv_goto (tgt := 41) hx hb dX8_roomOn_37 (by decide) ?_
      exact J_54 1 (if_pos c_3).symm (eS.trans (cg1 (sX8_roomOn_j41 jb f i x_2) (if_pos c_3))) _ _ ls hP hD hS (lv_sub hl [0, 1, 2, 3] rfl)
    · refine lv_aload_n hx hb dX8_roomOn_26 rfl (lv_at hl 1 rfl) ?_
      refine r_get (v := .ref (b 7)) hx hb hts hown hK hP fl_X8_29 0 rfl rfl dX8_roomOn_27 ?_
      refine lv_iload_n hx hb dX8_roomOn_30 rfl (lv_at hl 3 rfl) ?_
      refine r_iald hx hb hK hP 1 rfl i rfl (by omega) (by decide) dX8_roomOn_31 ?_
      refine lv_iconst (v := 1) hx hb dX8_roomOn_32 (by decide) ?_
      refine lv_icmp_ne (tgt := 40) hx hb dX8_roomOn_33 (by decide) (fun c_4 => ?_) (fun c_4 => ?_)
      · refine lv_iconst (v := 0) hx hb dX8_roomOn_40 (by decide) ?_
        exact J_54 0 ((if_neg c_3).trans (if_neg c_4)).symm (eS.trans (cg1 (sX8_roomOn_j41 jb f i x_2) ((if_neg c_3).trans (if_neg c_4)))) _ _ ls hP hD hS (lv_sub hl [0, 1, 2, 3] rfl)
      · refine lv_iconst (v := 1) hx hb dX8_roomOn_36 (by decide) ?_
        refine lv_goto (tgt := 41) hx hb dX8_roomOn_37 (by decide) ?_
        exact J_54 1 ((if_neg c_3).trans (if_pos c_4)).symm (eS.trans (cg1 (sX8_roomOn_j41 jb f i x_2) ((if_neg c_3).trans (if_pos c_4)))) _ _ ls hP hD hS (lv_sub hl [0, 1, 2, 3] rfl)
  refine lv_icmp_ne (tgt := 14) hx hb dX8_roomOn_7 (by decide) (fun c_1 => ?_) (fun c_1 => ?_)
  · refine lv_iconst (v := 0) hx hb dX8_roomOn_14 (by decide) ?_
    exact J_53 0 (if_neg c_1).symm (eS.trans (cg1 (sX8_roomOn_j15 jb f i) (if_neg c_1))) _ _ ls hP hD hS (lv_sub hl [0, 1, 2] rfl)
  · refine lv_iconst (v := 1) hx hb dX8_roomOn_10 (by decide) ?_
    refine lv_goto (tgt := 15) hx hb dX8_roomOn_11 (by decide) ?_
    exact J_53 1 (if_pos c_1).symm (eS.trans (cg1 (sX8_roomOn_j15 jb f i) (if_pos c_1))) _ _ ls hP hD hS (lv_sub hl [0, 1, 2] rfl)
end
section
theorem zz_dummy : True := trivial
end
