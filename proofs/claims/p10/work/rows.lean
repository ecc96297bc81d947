section
-- ===== PART A: goes FIRST, ahead of the names: the tables' words, and 'selects' of the private methods out of them =====
/-- a private method of a class that the tables say can be made, by its rows of tables_1 -/
def lw_okq (q : MethodName × Nat) : Prop := (q.1.cls ≠ "java/lang/invoke/MethodHandle" ∧ q.1.cls ≠ "java/lang/invoke/VarHandle") ∧ Cond.instantiable q.1.cls q.2 ∈ tables_1 ∧ Cond.privateMethod q.1 ∈ tables_1 ∧ Cond.instanceMethod q.1 ∈ tables_1
theorem lw_p0 : lw_okq (⟨"AnsTables$Shares", "gainOf", "(IILAnsTables$Logs;)J"⟩, 11) := ⟨⟨by decide +kernel, by decide +kernel⟩, List.mem_of_getElem? (i := 47) (by decide +kernel), List.mem_of_getElem? (i := 284) (by decide +kernel), List.mem_of_getElem? (i := 285) (by decide +kernel)⟩
theorem lw_p1 : lw_okq (⟨"AnsTables$Shares", "greatestGain", "()I"⟩, 11) := ⟨⟨by decide +kernel, by decide +kernel⟩, List.mem_of_getElem? (i := 47) (by decide +kernel), List.mem_of_getElem? (i := 299) (by decide +kernel), List.mem_of_getElem? (i := 300) (by decide +kernel)⟩
theorem lw_p2 : lw_okq (⟨"AnsTables", "isWritable", "()Z"⟩, 10) := ⟨⟨by decide +kernel, by decide +kernel⟩, List.mem_of_getElem? (i := 18) (by decide +kernel), List.mem_of_getElem? (i := 342) (by decide +kernel), List.mem_of_getElem? (i := 343) (by decide +kernel)⟩
theorem lw_p3 : lw_okq (⟨"AnsTables$Shares", "numberPlaces", "()V"⟩, 11) := ⟨⟨by decide +kernel, by decide +kernel⟩, List.mem_of_getElem? (i := 47) (by decide +kernel), List.mem_of_getElem? (i := 365) (by decide +kernel), List.mem_of_getElem? (i := 366) (by decide +kernel)⟩
theorem lw_p4 : lw_okq (⟨"AnsTables$Writer", "putSign", "(IIILAnsTables$Shares;)V"⟩, 4) := ⟨⟨by decide +kernel, by decide +kernel⟩, List.mem_of_getElem? (i := 95) (by decide +kernel), List.mem_of_getElem? (i := 374) (by decide +kernel), List.mem_of_getElem? (i := 375) (by decide +kernel)⟩
theorem lw_p5 : lw_okq (⟨"AnsTables$Writer", "putByTable", "(IILAnsTables$Shares;)V"⟩, 4) := ⟨⟨by decide +kernel, by decide +kernel⟩, List.mem_of_getElem? (i := 95) (by decide +kernel), List.mem_of_getElem? (i := 378) (by decide +kernel), List.mem_of_getElem? (i := 379) (by decide +kernel)⟩
theorem lw_p6 : lw_okq (⟨"AnsTables$Writer", "putTwoSided", "(IILAnsTables$Shares;)V"⟩, 4) := ⟨⟨by decide +kernel, by decide +kernel⟩, List.mem_of_getElem? (i := 95) (by decide +kernel), List.mem_of_getElem? (i := 396) (by decide +kernel), List.mem_of_getElem? (i := 397) (by decide +kernel)⟩
theorem lw_p7 : lw_okq (⟨"AnsTables$Writer", "widen", "(IIIII)V"⟩, 4) := ⟨⟨by decide +kernel, by decide +kernel⟩, List.mem_of_getElem? (i := 95) (by decide +kernel), List.mem_of_getElem? (i := 406) (by decide +kernel), List.mem_of_getElem? (i := 407) (by decide +kernel)⟩
theorem lw_p8 : lw_okq (⟨"AnsTables$Writer", "putHead", "(IILAnsTables$Shares;LAnsTables$Octets;)V"⟩, 4) := ⟨⟨by decide +kernel, by decide +kernel⟩, List.mem_of_getElem? (i := 95) (by decide +kernel), List.mem_of_getElem? (i := 419) (by decide +kernel), List.mem_of_getElem? (i := 420) (by decide +kernel)⟩
theorem lw_p9 : lw_okq (⟨"AnsTables$Writer", "putTable", "(LAnsTables$Shares;LAnsTables$Octets;)V"⟩, 4) := ⟨⟨by decide +kernel, by decide +kernel⟩, List.mem_of_getElem? (i := 95) (by decide +kernel), List.mem_of_getElem? (i := 433) (by decide +kernel), List.mem_of_getElem? (i := 434) (by decide +kernel)⟩
theorem lw_p10 : lw_okq (⟨"AnsTables$Reader", "takeHead", "(LAnsTables$Octets;)V"⟩, 12) := ⟨⟨by decide +kernel, by decide +kernel⟩, List.mem_of_getElem? (i := 130) (by decide +kernel), List.mem_of_getElem? (i := 458) (by decide +kernel), List.mem_of_getElem? (i := 459) (by decide +kernel)⟩
theorem lw_p11 : lw_okq (⟨"AnsTables$Reader", "nextNumber", "(LAnsTables$Octets;I)J"⟩, 12) := ⟨⟨by decide +kernel, by decide +kernel⟩, List.mem_of_getElem? (i := 130) (by decide +kernel), List.mem_of_getElem? (i := 462) (by decide +kernel), List.mem_of_getElem? (i := 463) (by decide +kernel)⟩
theorem lw_p12 : lw_okq (⟨"AnsTables$Reader", "takeTable", "(LAnsTables$Octets;)V"⟩, 12) := ⟨⟨by decide +kernel, by decide +kernel⟩, List.mem_of_getElem? (i := 130) (by decide +kernel), List.mem_of_getElem? (i := 471) (by decide +kernel), List.mem_of_getElem? (i := 472) (by decide +kernel)⟩
theorem lw_p13 : lw_okq (⟨"AnsTables$Reader", "nextBits", "(LAnsTables$Octets;I)I"⟩, 12) := ⟨⟨by decide +kernel, by decide +kernel⟩, List.mem_of_getElem? (i := 130) (by decide +kernel), List.mem_of_getElem? (i := 476) (by decide +kernel), List.mem_of_getElem? (i := 477) (by decide +kernel)⟩
theorem lw_p14 : lw_okq (⟨"AnsTables$Reader", "restIsSet", "()Z"⟩, 12) := ⟨⟨by decide +kernel, by decide +kernel⟩, List.mem_of_getElem? (i := 130) (by decide +kernel), List.mem_of_getElem? (i := 484) (by decide +kernel), List.mem_of_getElem? (i := 485) (by decide +kernel)⟩
theorem lw_p15 : lw_okq (⟨"AnsTables$Reader", "takeStates", "(LAnsTables$Octets;)V"⟩, 12) := ⟨⟨by decide +kernel, by decide +kernel⟩, List.mem_of_getElem? (i := 130) (by decide +kernel), List.mem_of_getElem? (i := 489) (by decide +kernel), List.mem_of_getElem? (i := 490) (by decide +kernel)⟩
def lw_privs_1 : List (MethodName × Nat) := [(⟨"AnsTables$Shares", "gainOf", "(IILAnsTables$Logs;)J"⟩, 11), (⟨"AnsTables$Shares", "greatestGain", "()I"⟩, 11), (⟨"AnsTables", "isWritable", "()Z"⟩, 10), (⟨"AnsTables$Shares", "numberPlaces", "()V"⟩, 11), (⟨"AnsTables$Writer", "putSign", "(IIILAnsTables$Shares;)V"⟩, 4), (⟨"AnsTables$Writer", "putByTable", "(IILAnsTables$Shares;)V"⟩, 4), (⟨"AnsTables$Writer", "putTwoSided", "(IILAnsTables$Shares;)V"⟩, 4), (⟨"AnsTables$Writer", "widen", "(IIIII)V"⟩, 4), (⟨"AnsTables$Writer", "putHead", "(IILAnsTables$Shares;LAnsTables$Octets;)V"⟩, 4), (⟨"AnsTables$Writer", "putTable", "(LAnsTables$Shares;LAnsTables$Octets;)V"⟩, 4), (⟨"AnsTables$Reader", "takeHead", "(LAnsTables$Octets;)V"⟩, 12), (⟨"AnsTables$Reader", "nextNumber", "(LAnsTables$Octets;I)J"⟩, 12), (⟨"AnsTables$Reader", "takeTable", "(LAnsTables$Octets;)V"⟩, 12), (⟨"AnsTables$Reader", "nextBits", "(LAnsTables$Octets;I)I"⟩, 12), (⟨"AnsTables$Reader", "restIsSet", "()Z"⟩, 12), (⟨"AnsTables$Reader", "takeStates", "(LAnsTables$Octets;)V"⟩, 12)]
theorem lw_r1 : ∀ q ∈ lw_privs_1, lw_okq q := List.forall_mem_cons.mpr ⟨lw_p0, List.forall_mem_cons.mpr ⟨lw_p1, List.forall_mem_cons.mpr ⟨lw_p2, List.forall_mem_cons.mpr ⟨lw_p3, List.forall_mem_cons.mpr ⟨lw_p4, List.forall_mem_cons.mpr ⟨lw_p5, List.forall_mem_cons.mpr ⟨lw_p6, List.forall_mem_cons.mpr ⟨lw_p7, List.forall_mem_cons.mpr ⟨lw_p8, List.forall_mem_cons.mpr ⟨lw_p9, List.forall_mem_cons.mpr ⟨lw_p10, List.forall_mem_cons.mpr ⟨lw_p11, List.forall_mem_cons.mpr ⟨lw_p12, List.forall_mem_cons.mpr ⟨lw_p13, List.forall_mem_cons.mpr ⟨lw_p14, List.forall_mem_cons.mpr ⟨lw_p15, fun _ h => absurd h List.not_mem_nil⟩⟩⟩⟩⟩⟩⟩⟩⟩⟩⟩⟩⟩⟩⟩⟩
theorem lw_p16 : lw_okq (⟨"AnsTables$Reader", "takeRow", "(LAnsTables$Octets;)V"⟩, 12) := ⟨⟨by decide +kernel, by decide +kernel⟩, List.mem_of_getElem? (i := 130) (by decide +kernel), List.mem_of_getElem? (i := 501) (by decide +kernel), List.mem_of_getElem? (i := 502) (by decide +kernel)⟩
theorem lw_p17 : lw_okq (⟨"AnsTables$Reader", "takeSign", "(ILAnsTables$Octets;)I"⟩, 12) := ⟨⟨by decide +kernel, by decide +kernel⟩, List.mem_of_getElem? (i := 130) (by decide +kernel), List.mem_of_getElem? (i := 507) (by decide +kernel), List.mem_of_getElem? (i := 508) (by decide +kernel)⟩
theorem lw_p18 : lw_okq (⟨"AnsTables$Reader", "takeByTable", "(ILAnsTables$Octets;)I"⟩, 12) := ⟨⟨by decide +kernel, by decide +kernel⟩, List.mem_of_getElem? (i := 130) (by decide +kernel), List.mem_of_getElem? (i := 511) (by decide +kernel), List.mem_of_getElem? (i := 512) (by decide +kernel)⟩
theorem lw_p19 : lw_okq (⟨"AnsTables$Reader", "takeTwoSided", "(ILAnsTables$Octets;)I"⟩, 12) := ⟨⟨by decide +kernel, by decide +kernel⟩, List.mem_of_getElem? (i := 130) (by decide +kernel), List.mem_of_getElem? (i := 523) (by decide +kernel), List.mem_of_getElem? (i := 524) (by decide +kernel)⟩
theorem lw_p20 : lw_okq (⟨"AnsTables$Reader", "restOf", "(I)I"⟩, 12) := ⟨⟨by decide +kernel, by decide +kernel⟩, List.mem_of_getElem? (i := 130) (by decide +kernel), List.mem_of_getElem? (i := 528) (by decide +kernel), List.mem_of_getElem? (i := 529) (by decide +kernel)⟩
theorem lw_p21 : lw_okq (⟨"AnsTables$Reader", "narrow", "(IIILAnsTables$Octets;)V"⟩, 12) := ⟨⟨by decide +kernel, by decide +kernel⟩, List.mem_of_getElem? (i := 130) (by decide +kernel), List.mem_of_getElem? (i := 532) (by decide +kernel), List.mem_of_getElem? (i := 533) (by decide +kernel)⟩
theorem lw_p22 : lw_okq (⟨"AnsTables$Reader", "keep", "(I)V"⟩, 12) := ⟨⟨by decide +kernel, by decide +kernel⟩, List.mem_of_getElem? (i := 130) (by decide +kernel), List.mem_of_getElem? (i := 542) (by decide +kernel), List.mem_of_getElem? (i := 543) (by decide +kernel)⟩
theorem lw_p23 : lw_okq (⟨"AnsTables$Reader", "judgeEnd", "(LAnsTables$Octets;)V"⟩, 12) := ⟨⟨by decide +kernel, by decide +kernel⟩, List.mem_of_getElem? (i := 130) (by decide +kernel), List.mem_of_getElem? (i := 547) (by decide +kernel), List.mem_of_getElem? (i := 548) (by decide +kernel)⟩
theorem lw_p24 : lw_okq (⟨"AnsTables", "readIsRow", "()Z"⟩, 10) := ⟨⟨by decide +kernel, by decide +kernel⟩, List.mem_of_getElem? (i := 18) (by decide +kernel), List.mem_of_getElem? (i := 596) (by decide +kernel), List.mem_of_getElem? (i := 597) (by decide +kernel)⟩
theorem lw_p25 : lw_okq (⟨"java/lang/Throwable", "fillInStackTrace", "(I)Ljava/lang/Throwable;"⟩, 6) := ⟨⟨by decide +kernel, by decide +kernel⟩, List.mem_of_getElem? (i := 653) (by decide +kernel), List.mem_of_getElem? (i := 651) (by decide +kernel), List.mem_of_getElem? (i := 652) (by decide +kernel)⟩
theorem lw_p26 : lw_okq (⟨"AnsTablesModel", "signsCounted", "()I"⟩, 34) := ⟨⟨by decide +kernel, by decide +kernel⟩, List.mem_of_getElem? (i := 688) (by decide +kernel), List.mem_of_getElem? (i := 816) (by decide +kernel), List.mem_of_getElem? (i := 817) (by decide +kernel)⟩
theorem lw_p27 : lw_okq (⟨"AnsTablesModel", "lay", "(I)V"⟩, 34) := ⟨⟨by decide +kernel, by decide +kernel⟩, List.mem_of_getElem? (i := 688) (by decide +kernel), List.mem_of_getElem? (i := 834) (by decide +kernel), List.mem_of_getElem? (i := 835) (by decide +kernel)⟩
theorem lw_p28 : lw_okq (⟨"AnsTablesModel", "mayWrite", "()Z"⟩, 34) := ⟨⟨by decide +kernel, by decide +kernel⟩, List.mem_of_getElem? (i := 688) (by decide +kernel), List.mem_of_getElem? (i := 862) (by decide +kernel), List.mem_of_getElem? (i := 863) (by decide +kernel)⟩
theorem lw_p29 : lw_okq (⟨"AnsTablesModel", "writeForm", "(I)V"⟩, 34) := ⟨⟨by decide +kernel, by decide +kernel⟩, List.mem_of_getElem? (i := 688) (by decide +kernel), List.mem_of_getElem? (i := 866) (by decide +kernel), List.mem_of_getElem? (i := 867) (by decide +kernel)⟩
theorem lw_p30 : lw_okq (⟨"AnsTablesModel", "putByte", "(I)V"⟩, 34) := ⟨⟨by decide +kernel, by decide +kernel⟩, List.mem_of_getElem? (i := 688) (by decide +kernel), List.mem_of_getElem? (i := 870) (by decide +kernel), List.mem_of_getElem? (i := 871) (by decide +kernel)⟩
theorem lw_p31 : lw_okq (⟨"AnsTablesModel", "putWide", "(JI)V"⟩, 34) := ⟨⟨by decide +kernel, by decide +kernel⟩, List.mem_of_getElem? (i := 688) (by decide +kernel), List.mem_of_getElem? (i := 874) (by decide +kernel), List.mem_of_getElem? (i := 875) (by decide +kernel)⟩
def lw_privs_2 : List (MethodName × Nat) := [(⟨"AnsTables$Reader", "takeRow", "(LAnsTables$Octets;)V"⟩, 12), (⟨"AnsTables$Reader", "takeSign", "(ILAnsTables$Octets;)I"⟩, 12), (⟨"AnsTables$Reader", "takeByTable", "(ILAnsTables$Octets;)I"⟩, 12), (⟨"AnsTables$Reader", "takeTwoSided", "(ILAnsTables$Octets;)I"⟩, 12), (⟨"AnsTables$Reader", "restOf", "(I)I"⟩, 12), (⟨"AnsTables$Reader", "narrow", "(IIILAnsTables$Octets;)V"⟩, 12), (⟨"AnsTables$Reader", "keep", "(I)V"⟩, 12), (⟨"AnsTables$Reader", "judgeEnd", "(LAnsTables$Octets;)V"⟩, 12), (⟨"AnsTables", "readIsRow", "()Z"⟩, 10), (⟨"java/lang/Throwable", "fillInStackTrace", "(I)Ljava/lang/Throwable;"⟩, 6), (⟨"AnsTablesModel", "signsCounted", "()I"⟩, 34), (⟨"AnsTablesModel", "lay", "(I)V"⟩, 34), (⟨"AnsTablesModel", "mayWrite", "()Z"⟩, 34), (⟨"AnsTablesModel", "writeForm", "(I)V"⟩, 34), (⟨"AnsTablesModel", "putByte", "(I)V"⟩, 34), (⟨"AnsTablesModel", "putWide", "(JI)V"⟩, 34)]
theorem lw_r2 : ∀ q ∈ lw_privs_2, lw_okq q := List.forall_mem_cons.mpr ⟨lw_p16, List.forall_mem_cons.mpr ⟨lw_p17, List.forall_mem_cons.mpr ⟨lw_p18, List.forall_mem_cons.mpr ⟨lw_p19, List.forall_mem_cons.mpr ⟨lw_p20, List.forall_mem_cons.mpr ⟨lw_p21, List.forall_mem_cons.mpr ⟨lw_p22, List.forall_mem_cons.mpr ⟨lw_p23, List.forall_mem_cons.mpr ⟨lw_p24, List.forall_mem_cons.mpr ⟨lw_p25, List.forall_mem_cons.mpr ⟨lw_p26, List.forall_mem_cons.mpr ⟨lw_p27, List.forall_mem_cons.mpr ⟨lw_p28, List.forall_mem_cons.mpr ⟨lw_p29, List.forall_mem_cons.mpr ⟨lw_p30, List.forall_mem_cons.mpr ⟨lw_p31, fun _ h => absurd h List.not_mem_nil⟩⟩⟩⟩⟩⟩⟩⟩⟩⟩⟩⟩⟩⟩⟩⟩
theorem lw_p32 : lw_okq (⟨"AnsTablesModel", "writeTable", "()V"⟩, 34) := ⟨⟨by decide +kernel, by decide +kernel⟩, List.mem_of_getElem? (i := 688) (by decide +kernel), List.mem_of_getElem? (i := 878) (by decide +kernel), List.mem_of_getElem? (i := 879) (by decide +kernel)⟩
theorem lw_p33 : lw_okq (⟨"AnsTablesModel", "putBits", "(II)V"⟩, 34) := ⟨⟨by decide +kernel, by decide +kernel⟩, List.mem_of_getElem? (i := 688) (by decide +kernel), List.mem_of_getElem? (i := 885) (by decide +kernel), List.mem_of_getElem? (i := 886) (by decide +kernel)⟩
theorem lw_p34 : lw_okq (⟨"AnsTablesModel", "writeSides", "(II)V"⟩, 34) := ⟨⟨by decide +kernel, by decide +kernel⟩, List.mem_of_getElem? (i := 688) (by decide +kernel), List.mem_of_getElem? (i := 893) (by decide +kernel), List.mem_of_getElem? (i := 894) (by decide +kernel)⟩
theorem lw_p35 : lw_okq (⟨"AnsTablesModel", "laySides", "(III)V"⟩, 34) := ⟨⟨by decide +kernel, by decide +kernel⟩, List.mem_of_getElem? (i := 688) (by decide +kernel), List.mem_of_getElem? (i := 897) (by decide +kernel), List.mem_of_getElem? (i := 898) (by decide +kernel)⟩
theorem lw_p36 : lw_okq (⟨"AnsTablesModel", "sideChance", "(I)I"⟩, 34) := ⟨⟨by decide +kernel, by decide +kernel⟩, List.mem_of_getElem? (i := 688) (by decide +kernel), List.mem_of_getElem? (i := 901) (by decide +kernel), List.mem_of_getElem? (i := 902) (by decide +kernel)⟩
theorem lw_p37 : lw_okq (⟨"AnsTablesModel", "writeBytes", "(III)V"⟩, 34) := ⟨⟨by decide +kernel, by decide +kernel⟩, List.mem_of_getElem? (i := 688) (by decide +kernel), List.mem_of_getElem? (i := 905) (by decide +kernel), List.mem_of_getElem? (i := 906) (by decide +kernel)⟩
theorem lw_p38 : lw_okq (⟨"AnsTablesModel", "writeWords", "(III)V"⟩, 34) := ⟨⟨by decide +kernel, by decide +kernel⟩, List.mem_of_getElem? (i := 688) (by decide +kernel), List.mem_of_getElem? (i := 909) (by decide +kernel), List.mem_of_getElem? (i := 910) (by decide +kernel)⟩
theorem lw_p39 : lw_okq (⟨"AnsTablesModel", "writeBitsOf", "(III)V"⟩, 34) := ⟨⟨by decide +kernel, by decide +kernel⟩, List.mem_of_getElem? (i := 688) (by decide +kernel), List.mem_of_getElem? (i := 913) (by decide +kernel), List.mem_of_getElem? (i := 914) (by decide +kernel)⟩
theorem lw_p40 : lw_okq (⟨"AnsTablesModel", "readAll", "()V"⟩, 34) := ⟨⟨by decide +kernel, by decide +kernel⟩, List.mem_of_getElem? (i := 688) (by decide +kernel), List.mem_of_getElem? (i := 921) (by decide +kernel), List.mem_of_getElem? (i := 922) (by decide +kernel)⟩
theorem lw_p41 : lw_okq (⟨"AnsTablesModel", "readHead", "()I"⟩, 34) := ⟨⟨by decide +kernel, by decide +kernel⟩, List.mem_of_getElem? (i := 688) (by decide +kernel), List.mem_of_getElem? (i := 925) (by decide +kernel), List.mem_of_getElem? (i := 926) (by decide +kernel)⟩
theorem lw_p42 : lw_okq (⟨"AnsTablesModel", "next", "()I"⟩, 34) := ⟨⟨by decide +kernel, by decide +kernel⟩, List.mem_of_getElem? (i := 688) (by decide +kernel), List.mem_of_getElem? (i := 929) (by decide +kernel), List.mem_of_getElem? (i := 930) (by decide +kernel)⟩
theorem lw_p43 : lw_okq (⟨"AnsTablesModel", "fail", "(I)V"⟩, 34) := ⟨⟨by decide +kernel, by decide +kernel⟩, List.mem_of_getElem? (i := 688) (by decide +kernel), List.mem_of_getElem? (i := 933) (by decide +kernel), List.mem_of_getElem? (i := 934) (by decide +kernel)⟩
theorem lw_p44 : lw_okq (⟨"AnsTablesModel", "nextWide", "(I)J"⟩, 34) := ⟨⟨by decide +kernel, by decide +kernel⟩, List.mem_of_getElem? (i := 688) (by decide +kernel), List.mem_of_getElem? (i := 937) (by decide +kernel), List.mem_of_getElem? (i := 938) (by decide +kernel)⟩
theorem lw_p45 : lw_okq (⟨"AnsTablesModel", "readTable", "()V"⟩, 34) := ⟨⟨by decide +kernel, by decide +kernel⟩, List.mem_of_getElem? (i := 688) (by decide +kernel), List.mem_of_getElem? (i := 941) (by decide +kernel), List.mem_of_getElem? (i := 942) (by decide +kernel)⟩
theorem lw_p46 : lw_okq (⟨"AnsTablesModel", "nextBit", "()I"⟩, 34) := ⟨⟨by decide +kernel, by decide +kernel⟩, List.mem_of_getElem? (i := 688) (by decide +kernel), List.mem_of_getElem? (i := 945) (by decide +kernel), List.mem_of_getElem? (i := 946) (by decide +kernel)⟩
theorem lw_p47 : lw_okq (⟨"AnsTablesModel", "isInSpan", "(J)Z"⟩, 34) := ⟨⟨by decide +kernel, by decide +kernel⟩, List.mem_of_getElem? (i := 688) (by decide +kernel), List.mem_of_getElem? (i := 949) (by decide +kernel), List.mem_of_getElem? (i := 950) (by decide +kernel)⟩
def lw_privs_3 : List (MethodName × Nat) := [(⟨"AnsTablesModel", "writeTable", "()V"⟩, 34), (⟨"AnsTablesModel", "putBits", "(II)V"⟩, 34), (⟨"AnsTablesModel", "writeSides", "(II)V"⟩, 34), (⟨"AnsTablesModel", "laySides", "(III)V"⟩, 34), (⟨"AnsTablesModel", "sideChance", "(I)I"⟩, 34), (⟨"AnsTablesModel", "writeBytes", "(III)V"⟩, 34), (⟨"AnsTablesModel", "writeWords", "(III)V"⟩, 34), (⟨"AnsTablesModel", "writeBitsOf", "(III)V"⟩, 34), (⟨"AnsTablesModel", "readAll", "()V"⟩, 34), (⟨"AnsTablesModel", "readHead", "()I"⟩, 34), (⟨"AnsTablesModel", "next", "()I"⟩, 34), (⟨"AnsTablesModel", "fail", "(I)V"⟩, 34), (⟨"AnsTablesModel", "nextWide", "(I)J"⟩, 34), (⟨"AnsTablesModel", "readTable", "()V"⟩, 34), (⟨"AnsTablesModel", "nextBit", "()I"⟩, 34), (⟨"AnsTablesModel", "isInSpan", "(J)Z"⟩, 34)]
theorem lw_r3 : ∀ q ∈ lw_privs_3, lw_okq q := List.forall_mem_cons.mpr ⟨lw_p32, List.forall_mem_cons.mpr ⟨lw_p33, List.forall_mem_cons.mpr ⟨lw_p34, List.forall_mem_cons.mpr ⟨lw_p35, List.forall_mem_cons.mpr ⟨lw_p36, List.forall_mem_cons.mpr ⟨lw_p37, List.forall_mem_cons.mpr ⟨lw_p38, List.forall_mem_cons.mpr ⟨lw_p39, List.forall_mem_cons.mpr ⟨lw_p40, List.forall_mem_cons.mpr ⟨lw_p41, List.forall_mem_cons.mpr ⟨lw_p42, List.forall_mem_cons.mpr ⟨lw_p43, List.forall_mem_cons.mpr ⟨lw_p44, List.forall_mem_cons.mpr ⟨lw_p45, List.forall_mem_cons.mpr ⟨lw_p46, List.forall_mem_cons.mpr ⟨lw_p47, fun _ h => absurd h List.not_mem_nil⟩⟩⟩⟩⟩⟩⟩⟩⟩⟩⟩⟩⟩⟩⟩⟩
theorem lw_p48 : lw_okq (⟨"AnsTablesModel", "readSign", "(I)V"⟩, 34) := ⟨⟨by decide +kernel, by decide +kernel⟩, List.mem_of_getElem? (i := 688) (by decide +kernel), List.mem_of_getElem? (i := 953) (by decide +kernel), List.mem_of_getElem? (i := 954) (by decide +kernel)⟩
theorem lw_p49 : lw_okq (⟨"AnsTablesModel", "readSides", "(I)I"⟩, 34) := ⟨⟨by decide +kernel, by decide +kernel⟩, List.mem_of_getElem? (i := 688) (by decide +kernel), List.mem_of_getElem? (i := 957) (by decide +kernel), List.mem_of_getElem? (i := 958) (by decide +kernel)⟩
theorem lw_p50 : lw_okq (⟨"AnsTablesModel", "readBytes", "(III)V"⟩, 34) := ⟨⟨by decide +kernel, by decide +kernel⟩, List.mem_of_getElem? (i := 688) (by decide +kernel), List.mem_of_getElem? (i := 961) (by decide +kernel), List.mem_of_getElem? (i := 962) (by decide +kernel)⟩
theorem lw_p51 : lw_okq (⟨"AnsTablesModel", "signOf", "(I)I"⟩, 34) := ⟨⟨by decide +kernel, by decide +kernel⟩, List.mem_of_getElem? (i := 688) (by decide +kernel), List.mem_of_getElem? (i := 965) (by decide +kernel), List.mem_of_getElem? (i := 966) (by decide +kernel)⟩
theorem lw_p52 : lw_okq (⟨"AnsTablesModel", "readWords", "(III)V"⟩, 34) := ⟨⟨by decide +kernel, by decide +kernel⟩, List.mem_of_getElem? (i := 688) (by decide +kernel), List.mem_of_getElem? (i := 969) (by decide +kernel), List.mem_of_getElem? (i := 970) (by decide +kernel)⟩
def lw_privs_4 : List (MethodName × Nat) := [(⟨"AnsTablesModel", "readSign", "(I)V"⟩, 34), (⟨"AnsTablesModel", "readSides", "(I)I"⟩, 34), (⟨"AnsTablesModel", "readBytes", "(III)V"⟩, 34), (⟨"AnsTablesModel", "signOf", "(I)I"⟩, 34), (⟨"AnsTablesModel", "readWords", "(III)V"⟩, 34)]
theorem lw_r4 : ∀ q ∈ lw_privs_4, lw_okq q := List.forall_mem_cons.mpr ⟨lw_p48, List.forall_mem_cons.mpr ⟨lw_p49, List.forall_mem_cons.mpr ⟨lw_p50, List.forall_mem_cons.mpr ⟨lw_p51, List.forall_mem_cons.mpr ⟨lw_p52, fun _ h => absurd h List.not_mem_nil⟩⟩⟩⟩⟩
def lw_privs : List (MethodName × Nat) := lw_privs_1 ++ (lw_privs_2 ++ (lw_privs_3 ++ (lw_privs_4)))
def lw_tbl : List Cond := k2_sels lw_privs ++ tables_1
theorem lw_privs_ok : ∀ q ∈ lw_privs, lw_okq q := by
  show ∀ q ∈ lw_privs_1 ++ (lw_privs_2 ++ (lw_privs_3 ++ (lw_privs_4))), lw_okq q
  exact List.forall_mem_append.mpr ⟨lw_r1, List.forall_mem_append.mpr ⟨lw_r2, List.forall_mem_append.mpr ⟨lw_r3, lw_r4⟩⟩⟩
end
section
/-! ===== BEGIN words of one list among another's, by their places ===== -/
theorem goodIn_r {big : List Cond} (ws : List Cond) (ps : List Nat) (hp : ws = ps.filterMap (fun i => big[i]?)) (h : ws.all goodWord = true) : GoodIn big ws := by
  intro w hw
  have h1 := List.all_eq_true.mp h w hw
  rw [hp] at hw
  obtain ⟨i, -, hi⟩ := List.mem_filterMap.mp hw
  have hm : w ∈ big := by first | exact List.mem_of_getElem? hi | exact List.getElem?_mem hi
  exact ⟨hm, good_of_word h1⟩
theorem goodIn_app {big a b : List Cond} (ha : GoodIn big a) (hb : GoodIn big b) : GoodIn big (a ++ b) := fun w h => (List.mem_append.mp h).elim (ha w) (hb w)
theorem goodIn_ca {big a b : List Cond} {c : Cond} (ha : GoodIn big (c :: a)) (hb : GoodIn big b) : GoodIn big (c :: (a ++ b)) := fun w h => (List.mem_cons.mp h).elim (fun e => ha w (List.mem_cons.mpr (Or.inl e))) (fun h => (List.mem_append.mp h).elim (fun h => ha w (List.mem_cons.mpr (Or.inr h))) (hb w))
theorem goodIn_sub {big ws : List Cond} (hm : ∀ w ∈ ws, w ∈ big) (h : ws.all goodWord = true) : GoodIn big ws := fun w hw => ⟨hm w hw, good_of_word (List.all_eq_true.mp h w hw)⟩
/-! ===== END ===== -/

/-! ===== BEGIN printed: names, fields, word lists, decode rows ===== -/
def RX0 : String := "AnsTables$Logs"
def TX0 : u_T := fun k => match k with
  | _ => ("AnsTables$Logs", "known", "[J", true)
def tyX0 : Nat → FieldType := fun k => match k with
  | _ => .array .long
abbrev wsX00 : List Cond := u_ws RX0 TX0 1
theorem nmX0 : ∀ a, a < 1 → ∀ b, b < 1 → a ≠ b → (TX0 a).2.1 ≠ (TX0 b).2.1 := by decide +kernel
theorem tyX0_ok : ∀ k, k < 1 → parseFieldDescriptor (TX0 k).2.2.1 = some (tyX0 k) := by decide +kernel
abbrev cX0_init : ByteArray := prog_2_method_1_code
def yX0_init : MethodName := ⟨RX0, "<init>", "(I)V"⟩
abbrev cX0_of : ByteArray := prog_2_method_2_code
def yX0_of : MethodName := ⟨RX0, "of", "(I)J"⟩
abbrev cX0_reckon : ByteArray := prog_2_method_3_code
def yX0_reckon : MethodName := ⟨RX0, "reckon", "(I)J"⟩
def RX1 : String := "AnsTables$Octets"
def TX1 : u_T := fun k => match k with
  | 0 => ("AnsTables$Octets", "values", "[I", false)
  | 1 => ("AnsTables$Octets", "length", "I", false)
  | _ => ("AnsTables$Octets", "spareBits", "I", false)
def tyX1 : Nat → FieldType := fun k => match k with
  | 0 => .array .int
  | 1 => .int
  | _ => .int
abbrev wsX10 : List Cond := u_ws RX1 TX1 3
theorem nmX1 : ∀ a, a < 3 → ∀ b, b < 3 → a ≠ b → (TX1 a).2.1 ≠ (TX1 b).2.1 := by decide +kernel
theorem tyX1_ok : ∀ k, k < 3 → parseFieldDescriptor (TX1 k).2.2.1 = some (tyX1 k) := by decide +kernel
abbrev cX1_init : ByteArray := prog_3_method_1_code
def yX1_init : MethodName := ⟨RX1, "<init>", "()V"⟩
abbrev cX1_restart : ByteArray := prog_3_method_2_code
def yX1_restart : MethodName := ⟨RX1, "restart", "()V"⟩
abbrev cX1_append : ByteArray := prog_3_method_3_code
def yX1_append : MethodName := ⟨RX1, "append", "(I)Z"⟩
abbrev cX1_valueAt : ByteArray := prog_3_method_4_code
def yX1_valueAt : MethodName := ⟨RX1, "valueAt", "(I)I"⟩
abbrev cX1_change : ByteArray := prog_3_method_5_code
def yX1_change : MethodName := ⟨RX1, "change", "(II)I"⟩
abbrev cX1_appendNumber : ByteArray := prog_3_method_6_code
def yX1_appendNumber : MethodName := ⟨RX1, "appendNumber", "(JI)V"⟩
abbrev cX1_appendBits : ByteArray := prog_3_method_7_code
def yX1_appendBits : MethodName := ⟨RX1, "appendBits", "(II)V"⟩
def RX2 : String := "AnsTables$Pile"
def TX2 : u_T := fun k => match k with
  | 0 => ("AnsTables$Pile", "values", "[I", false)
  | _ => ("AnsTables$Pile", "bits", "I", false)
def tyX2 : Nat → FieldType := fun k => match k with
  | 0 => .array .int
  | _ => .int
abbrev wsX20 : List Cond := u_ws RX2 TX2 2
theorem nmX2 : ∀ a, a < 2 → ∀ b, b < 2 → a ≠ b → (TX2 a).2.1 ≠ (TX2 b).2.1 := by decide +kernel
theorem tyX2_ok : ∀ k, k < 2 → parseFieldDescriptor (TX2 k).2.2.1 = some (tyX2 k) := by decide +kernel
abbrev cX2_init : ByteArray := prog_4_method_1_code
def yX2_init : MethodName := ⟨RX2, "<init>", "()V"⟩
abbrev cX2_empty : ByteArray := prog_4_method_2_code
def yX2_empty : MethodName := ⟨RX2, "empty", "()V"⟩
abbrev cX2_makeRoomForSign : ByteArray := prog_4_method_3_code
def yX2_makeRoomForSign : MethodName := ⟨RX2, "makeRoomForSign", "()V"⟩
abbrev cX2_pushOctet : ByteArray := prog_4_method_4_code
def yX2_pushOctet : MethodName := ⟨RX2, "pushOctet", "(I)V"⟩
abbrev cX2_pushBit : ByteArray := prog_4_method_5_code
def yX2_pushBit : MethodName := ⟨RX2, "pushBit", "(I)V"⟩
abbrev cX2_pourInto : ByteArray := prog_4_method_6_code
def yX2_pourInto : MethodName := ⟨RX2, "pourInto", "(LAnsTables$Octets;)V"⟩
def RX3 : String := "AnsTables$Reader"
def TX3 : u_T := fun k => match k with
  | 0 => ("AnsTables$Reader", "shares", "LAnsTables$Shares;", true)
  | 1 => ("AnsTables$Reader", "states", "[J", true)
  | 2 => ("AnsTables$Reader", "signs", "[I", false)
  | 3 => ("AnsTables$Reader", "length", "I", false)
  | 4 => ("AnsTables$Reader", "broken", "I", false)
  | 5 => ("AnsTables$Reader", "bytesRead", "I", false)
  | 6 => ("AnsTables$Reader", "lastByte", "I", false)
  | 7 => ("AnsTables$Reader", "bitsLeft", "I", false)
  | 8 => ("AnsTables$Reader", "form", "I", false)
  | 9 => ("AnsTables$Reader", "laneCount", "I", false)
  | 10 => ("AnsTables$Reader", "due", "I", false)
  | _ => ("AnsTables$Reader", "hasStates", "Z", false)
def tyX3 : Nat → FieldType := fun k => match k with
  | 0 => .object "AnsTables$Shares"
  | 1 => .array .long
  | 2 => .array .int
  | 3 => .int
  | 4 => .int
  | 5 => .int
  | 6 => .int
  | 7 => .int
  | 8 => .int
  | 9 => .int
  | 10 => .int
  | _ => .boolean
abbrev wsX30 : List Cond := u_ws RX3 TX3 12
theorem nmX3 : ∀ a, a < 12 → ∀ b, b < 12 → a ≠ b → (TX3 a).2.1 ≠ (TX3 b).2.1 := by decide +kernel
theorem tyX3_ok : ∀ k, k < 12 → parseFieldDescriptor (TX3 k).2.2.1 = some (tyX3 k) := by decide +kernel
abbrev cX3_init : ByteArray := prog_5_method_1_code
def yX3_init : MethodName := ⟨RX3, "<init>", "()V"⟩
abbrev cX3_takeIn : ByteArray := prog_5_method_2_code
def yX3_takeIn : MethodName := ⟨RX3, "takeIn", "(LAnsTables$Octets;)I"⟩
abbrev cX3_signAt : ByteArray := prog_5_method_3_code
def yX3_signAt : MethodName := ⟨RX3, "signAt", "(I)I"⟩
abbrev cX3_takeHead : ByteArray := prog_5_method_4_code
def yX3_takeHead : MethodName := ⟨RX3, "takeHead", "(LAnsTables$Octets;)V"⟩
abbrev cX3_takeTable : ByteArray := prog_5_method_5_code
def yX3_takeTable : MethodName := ⟨RX3, "takeTable", "(LAnsTables$Octets;)V"⟩
abbrev cX3_takeStates : ByteArray := prog_5_method_6_code
def yX3_takeStates : MethodName := ⟨RX3, "takeStates", "(LAnsTables$Octets;)V"⟩
abbrev cX3_takeRow : ByteArray := prog_5_method_7_code
def yX3_takeRow : MethodName := ⟨RX3, "takeRow", "(LAnsTables$Octets;)V"⟩
abbrev cX3_keep : ByteArray := prog_5_method_8_code
def yX3_keep : MethodName := ⟨RX3, "keep", "(I)V"⟩
abbrev cX3_takeSign : ByteArray := prog_5_method_9_code
def yX3_takeSign : MethodName := ⟨RX3, "takeSign", "(ILAnsTables$Octets;)I"⟩
abbrev cX3_restOf : ByteArray := prog_5_method_10_code
def yX3_restOf : MethodName := ⟨RX3, "restOf", "(I)I"⟩
abbrev cX3_narrow : ByteArray := prog_5_method_11_code
def yX3_narrow : MethodName := ⟨RX3, "narrow", "(IIILAnsTables$Octets;)V"⟩
abbrev cX3_takeByTable : ByteArray := prog_5_method_12_code
def yX3_takeByTable : MethodName := ⟨RX3, "takeByTable", "(ILAnsTables$Octets;)I"⟩
abbrev cX3_takeTwoSided : ByteArray := prog_5_method_13_code
def yX3_takeTwoSided : MethodName := ⟨RX3, "takeTwoSided", "(ILAnsTables$Octets;)I"⟩
abbrev cX3_judgeEnd : ByteArray := prog_5_method_14_code
def yX3_judgeEnd : MethodName := ⟨RX3, "judgeEnd", "(LAnsTables$Octets;)V"⟩
abbrev cX3_nextNumber : ByteArray := prog_5_method_15_code
def yX3_nextNumber : MethodName := ⟨RX3, "nextNumber", "(LAnsTables$Octets;I)J"⟩
abbrev cX3_nextBits : ByteArray := prog_5_method_16_code
def yX3_nextBits : MethodName := ⟨RX3, "nextBits", "(LAnsTables$Octets;I)I"⟩
abbrev cX3_restIsSet : ByteArray := prog_5_method_17_code
def yX3_restIsSet : MethodName := ⟨RX3, "restIsSet", "()Z"⟩
def RX4 : String := "AnsTables$Shares"
def TX4 : u_T := fun k => match k with
  | 0 => ("AnsTables$Shares", "log", "I", false)
  | 1 => ("AnsTables$Shares", "size", "I", false)
  | 2 => ("AnsTables$Shares", "made", "Z", false)
  | 3 => ("AnsTables$Shares", "share", "[I", true)
  | 4 => ("AnsTables$Shares", "from", "[I", true)
  | 5 => ("AnsTables$Shares", "gain", "[J", true)
  | 6 => ("AnsTables$Shares", "seen", "[I", true)
  | 7 => ("AnsTables$Shares", "isSpread", "Z", false)
  | 8 => ("AnsTables$Shares", "signs", "[I", false)
  | 9 => ("AnsTables$Shares", "numbers", "[I", false)
  | _ => ("AnsTables$Shares", "places", "[I", false)
def tyX4 : Nat → FieldType := fun k => match k with
  | 0 => .int
  | 1 => .int
  | 2 => .boolean
  | 3 => .array .int
  | 4 => .array .int
  | 5 => .array .long
  | 6 => .array .int
  | 7 => .boolean
  | 8 => .array .int
  | 9 => .array .int
  | _ => .array .int
abbrev wsX40 : List Cond := u_ws RX4 TX4 11
theorem nmX4 : ∀ a, a < 11 → ∀ b, b < 11 → a ≠ b → (TX4 a).2.1 ≠ (TX4 b).2.1 := by decide +kernel
theorem tyX4_ok : ∀ k, k < 11 → parseFieldDescriptor (TX4 k).2.2.1 = some (tyX4 k) := by decide +kernel
abbrev cX4_init : ByteArray := prog_6_method_1_code
def yX4_init : MethodName := ⟨RX4, "<init>", "(I)V"⟩
abbrev cX4_forget : ByteArray := prog_6_method_2_code
def yX4_forget : MethodName := ⟨RX4, "forget", "()V"⟩
abbrev cX4_beginWith : ByteArray := prog_6_method_3_code
def yX4_beginWith : MethodName := ⟨RX4, "beginWith", "(I)V"⟩
abbrev cX4_give : ByteArray := prog_6_method_4_code
def yX4_give : MethodName := ⟨RX4, "give", "(II)V"⟩
abbrev cX4_finish : ByteArray := prog_6_method_5_code
def yX4_finish : MethodName := ⟨RX4, "finish", "()V"⟩
abbrev cX4_shareOf : ByteArray := prog_6_method_6_code
def yX4_shareOf : MethodName := ⟨RX4, "shareOf", "(I)I"⟩
abbrev cX4_fromOf : ByteArray := prog_6_method_7_code
def yX4_fromOf : MethodName := ⟨RX4, "fromOf", "(I)I"⟩
abbrev cX4_howMany : ByteArray := prog_6_method_8_code
def yX4_howMany : MethodName := ⟨RX4, "howMany", "()I"⟩
abbrev cX4_makeOf : ByteArray := prog_6_method_9_code
def yX4_makeOf : MethodName := ⟨RX4, "makeOf", "([ILAnsTables$Logs;)V"⟩
abbrev cX4_gainOf : ByteArray := prog_6_method_10_code
def yX4_gainOf : MethodName := ⟨RX4, "gainOf", "(IILAnsTables$Logs;)J"⟩
abbrev cX4_greatestGain : ByteArray := prog_6_method_11_code
def yX4_greatestGain : MethodName := ⟨RX4, "greatestGain", "()I"⟩
abbrev cX4_signOver : ByteArray := prog_6_method_12_code
def yX4_signOver : MethodName := ⟨RX4, "signOver", "(I)I"⟩
abbrev cX4_shareOfZero : ByteArray := prog_6_method_13_code
def yX4_shareOfZero : MethodName := ⟨RX4, "shareOfZero", "(II)I"⟩
abbrev cX4_makeSpread : ByteArray := prog_6_method_14_code
def yX4_makeSpread : MethodName := ⟨RX4, "makeSpread", "()V"⟩
abbrev cX4_numberPlaces : ByteArray := prog_6_method_15_code
def yX4_numberPlaces : MethodName := ⟨RX4, "numberPlaces", "()V"⟩
abbrev cX4_signAt : ByteArray := prog_6_method_16_code
def yX4_signAt : MethodName := ⟨RX4, "signAt", "(I)I"⟩
abbrev cX4_numberAt : ByteArray := prog_6_method_17_code
def yX4_numberAt : MethodName := ⟨RX4, "numberAt", "(I)I"⟩
abbrev cX4_placeOf : ByteArray := prog_6_method_18_code
def yX4_placeOf : MethodName := ⟨RX4, "placeOf", "(II)I"⟩
def RX5 : String := "AnsTables$Writer"
def TX5 : u_T := fun k => match k with
  | 0 => ("AnsTables$Writer", "states", "[J", true)
  | 1 => ("AnsTables$Writer", "pile", "LAnsTables$Pile;", true)
  | 2 => ("AnsTables$Writer", "laneCount", "I", false)
  | _ => ("AnsTables$Writer", "done", "Z", false)
def tyX5 : Nat → FieldType := fun k => match k with
  | 0 => .array .long
  | 1 => .object "AnsTables$Pile"
  | 2 => .int
  | _ => .boolean
abbrev wsX50 : List Cond := u_ws RX5 TX5 4
theorem nmX5 : ∀ a, a < 4 → ∀ b, b < 4 → a ≠ b → (TX5 a).2.1 ≠ (TX5 b).2.1 := by decide +kernel
theorem tyX5_ok : ∀ k, k < 4 → parseFieldDescriptor (TX5 k).2.2.1 = some (tyX5 k) := by decide +kernel
abbrev cX5_init : ByteArray := prog_7_method_1_code
def yX5_init : MethodName := ⟨RX5, "<init>", "()V"⟩
abbrev cX5_writeRow : ByteArray := prog_7_method_2_code
def yX5_writeRow : MethodName := ⟨RX5, "writeRow", "([IILAnsTables$Shares;IILAnsTables$Octets;)V"⟩
abbrev cX5_putHead : ByteArray := prog_7_method_3_code
def yX5_putHead : MethodName := ⟨RX5, "putHead", "(IILAnsTables$Shares;LAnsTables$Octets;)V"⟩
abbrev cX5_putTable : ByteArray := prog_7_method_4_code
def yX5_putTable : MethodName := ⟨RX5, "putTable", "(LAnsTables$Shares;LAnsTables$Octets;)V"⟩
abbrev cX5_putSign : ByteArray := prog_7_method_5_code
def yX5_putSign : MethodName := ⟨RX5, "putSign", "(IIILAnsTables$Shares;)V"⟩
abbrev cX5_widen : ByteArray := prog_7_method_6_code
def yX5_widen : MethodName := ⟨RX5, "widen", "(IIIII)V"⟩
abbrev cX5_putByTable : ByteArray := prog_7_method_7_code
def yX5_putByTable : MethodName := ⟨RX5, "putByTable", "(IILAnsTables$Shares;)V"⟩
abbrev cX5_putTwoSided : ByteArray := prog_7_method_8_code
def yX5_putTwoSided : MethodName := ⟨RX5, "putTwoSided", "(IILAnsTables$Shares;)V"⟩
def RX6 : String := "AnsTables"
def TX6 : u_T := fun k => match k with
  | 0 => ("AnsTables", "logs", "LAnsTables$Logs;", true)
  | 1 => ("AnsTables", "shares", "LAnsTables$Shares;", true)
  | 2 => ("AnsTables", "writer", "LAnsTables$Writer;", true)
  | 3 => ("AnsTables", "reader", "LAnsTables$Reader;", true)
  | 4 => ("AnsTables", "octets", "LAnsTables$Octets;", true)
  | 5 => ("AnsTables", "tally", "[I", true)
  | 6 => ("AnsTables", "row", "[I", false)
  | 7 => ("AnsTables", "rowLength", "I", false)
  | 8 => ("AnsTables", "kind", "I", false)
  | _ => ("AnsTables", "laneCount", "I", false)
def tyX6 : Nat → FieldType := fun k => match k with
  | 0 => .object "AnsTables$Logs"
  | 1 => .object "AnsTables$Shares"
  | 2 => .object "AnsTables$Writer"
  | 3 => .object "AnsTables$Reader"
  | 4 => .object "AnsTables$Octets"
  | 5 => .array .int
  | 6 => .array .int
  | 7 => .int
  | 8 => .int
  | _ => .int
abbrev wsX60 : List Cond := u_ws RX6 TX6 10
theorem nmX6 : ∀ a, a < 10 → ∀ b, b < 10 → a ≠ b → (TX6 a).2.1 ≠ (TX6 b).2.1 := by decide +kernel
theorem tyX6_ok : ∀ k, k < 10 → parseFieldDescriptor (TX6 k).2.2.1 = some (tyX6 k) := by decide +kernel
abbrev cX6_init : ByteArray := prog_1_method_1_code
def yX6_init : MethodName := ⟨RX6, "<init>", "(I)V"⟩
abbrev cX6_add : ByteArray := prog_1_method_2_code
def yX6_add : MethodName := ⟨RX6, "add", "(I)I"⟩
abbrev cX6_clear : ByteArray := prog_1_method_3_code
def yX6_clear : MethodName := ⟨RX6, "clear", "()I"⟩
abbrev cX6_count : ByteArray := prog_1_method_4_code
def yX6_count : MethodName := ⟨RX6, "count", "(II)I"⟩
abbrev cX6_counts : ByteArray := prog_1_method_5_code
def yX6_counts : MethodName := ⟨RX6, "counts", "()I"⟩
abbrev cX6_normal : ByteArray := prog_1_method_6_code
def yX6_normal : MethodName := ⟨RX6, "normal", "()I"⟩
abbrev cX6_share : ByteArray := prog_1_method_7_code
def yX6_share : MethodName := ⟨RX6, "share", "(I)I"⟩
abbrev cX6_loss : ByteArray := prog_1_method_8_code
def yX6_loss : MethodName := ⟨RX6, "loss", "()J"⟩
abbrev cX6_lg : ByteArray := prog_1_method_9_code
def yX6_lg : MethodName := ⟨RX6, "lg", "(I)J"⟩
abbrev cX6_form : ByteArray := prog_1_method_10_code
def yX6_form : MethodName := ⟨RX6, "form", "(I)I"⟩
abbrev cX6_lanes : ByteArray := prog_1_method_11_code
def yX6_lanes : MethodName := ⟨RX6, "lanes", "(I)I"⟩
abbrev cX6_write : ByteArray := prog_1_method_12_code
def yX6_write : MethodName := ⟨RX6, "write", "()I"⟩
abbrev cX6_read : ByteArray := prog_1_method_13_code
def yX6_read : MethodName := ⟨RX6, "read", "()I"⟩
abbrev cX6_rule : ByteArray := prog_1_method_14_code
def yX6_rule : MethodName := ⟨RX6, "rule", "()I"⟩
abbrev cX6_sign : ByteArray := prog_1_method_15_code
def yX6_sign : MethodName := ⟨RX6, "sign", "(I)I"⟩
abbrev cX6_spread : ByteArray := prog_1_method_16_code
def yX6_spread : MethodName := ⟨RX6, "spread", "(I)I"⟩
abbrev cX6_state : ByteArray := prog_1_method_17_code
def yX6_state : MethodName := ⟨RX6, "state", "(II)J"⟩
abbrev cX6_out : ByteArray := prog_1_method_18_code
def yX6_out : MethodName := ⟨RX6, "out", "(I)I"⟩
abbrev cX6_spoil : ByteArray := prog_1_method_19_code
def yX6_spoil : MethodName := ⟨RX6, "spoil", "(II)I"⟩
abbrev cX6_cut : ByteArray := prog_1_method_20_code
def yX6_cut : MethodName := ⟨RX6, "cut", "(I)I"⟩
abbrev cX6_octet : ByteArray := prog_1_method_21_code
def yX6_octet : MethodName := ⟨RX6, "octet", "(I)I"⟩
abbrev cX6_agree : ByteArray := prog_1_method_22_code
def yX6_agree : MethodName := ⟨RX6, "agree", "()I"⟩
abbrev cX6_told : ByteArray := prog_1_method_23_code
def yX6_told : MethodName := ⟨RX6, "told", "(I)I"⟩
abbrev cX6_isWritable : ByteArray := prog_1_method_24_code
def yX6_isWritable : MethodName := ⟨RX6, "isWritable", "()Z"⟩
abbrev cX6_readIsRow : ByteArray := prog_1_method_25_code
def yX6_readIsRow : MethodName := ⟨RX6, "readIsRow", "()Z"⟩
abbrev cX6_isSign : ByteArray := prog_1_method_26_code
def yX6_isSign : MethodName := ⟨RX6, "isSign", "(I)Z"⟩
abbrev cX6_withRoom : ByteArray := prog_1_method_27_code
def yX6_withRoom : MethodName := ⟨RX6, "withRoom", "([III)[I"⟩
abbrev cX6_bitLength : ByteArray := prog_1_method_28_code
def yX6_bitLength : MethodName := ⟨RX6, "bitLength", "(I)I"⟩
abbrev cX6_firstState : ByteArray := prog_1_method_29_code
def yX6_firstState : MethodName := ⟨RX6, "firstState", "(II)J"⟩
abbrev cX6_lastState : ByteArray := prog_1_method_30_code
def yX6_lastState : MethodName := ⟨RX6, "lastState", "(II)J"⟩
abbrev cX6_stateWidth : ByteArray := prog_1_method_31_code
def yX6_stateWidth : MethodName := ⟨RX6, "stateWidth", "(I)I"⟩
def RX7 : String := "AnsTablesModel"
def TX7 : u_T := fun k => match k with
  | 0 => ("AnsTablesModel", "log", "I", true)
  | 1 => ("AnsTablesModel", "thrown", "I", false)
  | 2 => ("AnsTablesModel", "kind", "I", false)
  | 3 => ("AnsTablesModel", "lanes", "I", false)
  | 4 => ("AnsTablesModel", "row", "[I", true)
  | 5 => ("AnsTablesModel", "rowSize", "I", false)
  | 6 => ("AnsTablesModel", "counts", "[I", true)
  | 7 => ("AnsTablesModel", "hasShares", "Z", false)
  | 8 => ("AnsTablesModel", "share", "[I", true)
  | 9 => ("AnsTablesModel", "from", "[I", true)
  | 10 => ("AnsTablesModel", "logOf", "[I", true)
  | 11 => ("AnsTablesModel", "signAt", "[I", true)
  | 12 => ("AnsTablesModel", "numberAt", "[I", true)
  | 13 => ("AnsTablesModel", "placeOf", "[I", true)
  | 14 => ("AnsTablesModel", "out", "[I", true)
  | 15 => ("AnsTablesModel", "outSize", "I", false)
  | 16 => ("AnsTablesModel", "state", "[J", true)
  | 17 => ("AnsTablesModel", "written", "[J", true)
  | 18 => ("AnsTablesModel", "writtenLanes", "I", false)
  | 19 => ("AnsTablesModel", "put", "[I", true)
  | 20 => ("AnsTablesModel", "putSize", "I", false)
  | 21 => ("AnsTablesModel", "bitAt", "I", false)
  | 22 => ("AnsTablesModel", "sideAll", "I", false)
  | 23 => ("AnsTablesModel", "sideZero", "I", false)
  | 24 => ("AnsTablesModel", "read", "[I", true)
  | 25 => ("AnsTablesModel", "readSize", "I", false)
  | 26 => ("AnsTablesModel", "at", "I", false)
  | 27 => ("AnsTablesModel", "broken", "I", false)
  | 28 => ("AnsTablesModel", "rule", "I", false)
  | 29 => ("AnsTablesModel", "bitLeft", "I", false)
  | 30 => ("AnsTablesModel", "readForm", "I", false)
  | 31 => ("AnsTablesModel", "readLanes", "I", false)
  | 32 => ("AnsTablesModel", "hasStates", "Z", false)
  | _ => ("AnsTablesModel", "now", "[J", true)
def tyX7 : Nat → FieldType := fun k => match k with
  | 0 => .int
  | 1 => .int
  | 2 => .int
  | 3 => .int
  | 4 => .array .int
  | 5 => .int
  | 6 => .array .int
  | 7 => .boolean
  | 8 => .array .int
  | 9 => .array .int
  | 10 => .array .int
  | 11 => .array .int
  | 12 => .array .int
  | 13 => .array .int
  | 14 => .array .int
  | 15 => .int
  | 16 => .array .long
  | 17 => .array .long
  | 18 => .int
  | 19 => .array .int
  | 20 => .int
  | 21 => .int
  | 22 => .int
  | 23 => .int
  | 24 => .array .int
  | 25 => .int
  | 26 => .int
  | 27 => .int
  | 28 => .int
  | 29 => .int
  | 30 => .int
  | 31 => .int
  | 32 => .boolean
  | _ => .array .long
abbrev wsX70 : List Cond := u_ws RX7 TX7 34
theorem nmX7 : ∀ a, a < 34 → ∀ b, b < 34 → a ≠ b → (TX7 a).2.1 ≠ (TX7 b).2.1 := by decide +kernel
theorem tyX7_ok : ∀ k, k < 34 → parseFieldDescriptor (TX7 k).2.2.1 = some (tyX7 k) := by decide +kernel
abbrev cX7_init : ByteArray := prog_9_method_1_code
def yX7_init : MethodName := ⟨RX7, "<init>", "(I)V"⟩
abbrev cX7_add : ByteArray := prog_9_method_3_code
def yX7_add : MethodName := ⟨RX7, "add", "(I)I"⟩
abbrev cX7_clear : ByteArray := prog_9_method_4_code
def yX7_clear : MethodName := ⟨RX7, "clear", "()I"⟩
abbrev cX7_count : ByteArray := prog_9_method_5_code
def yX7_count : MethodName := ⟨RX7, "count", "(II)I"⟩
abbrev cX7_counts : ByteArray := prog_9_method_6_code
def yX7_counts : MethodName := ⟨RX7, "counts", "()I"⟩
abbrev cX7_signsCounted : ByteArray := prog_9_method_7_code
def yX7_signsCounted : MethodName := ⟨RX7, "signsCounted", "()I"⟩
abbrev cX7_logarithm : ByteArray := prog_9_method_8_code
def yX7_logarithm : MethodName := ⟨RX7, "logarithm", "(I)J"⟩
abbrev cX7_lg : ByteArray := prog_9_method_9_code
def yX7_lg : MethodName := ⟨RX7, "lg", "(I)J"⟩
abbrev cX7_normal : ByteArray := prog_9_method_10_code
def yX7_normal : MethodName := ⟨RX7, "normal", "()I"⟩
abbrev cX7_lay : ByteArray := prog_9_method_11_code
def yX7_lay : MethodName := ⟨RX7, "lay", "(I)V"⟩
abbrev cX7_share : ByteArray := prog_9_method_12_code
def yX7_share : MethodName := ⟨RX7, "share", "(I)I"⟩
abbrev cX7_loss : ByteArray := prog_9_method_13_code
def yX7_loss : MethodName := ⟨RX7, "loss", "()J"⟩
abbrev cX7_spread : ByteArray := prog_9_method_14_code
def yX7_spread : MethodName := ⟨RX7, "spread", "(I)I"⟩
abbrev cX7_form : ByteArray := prog_9_method_15_code
def yX7_form : MethodName := ⟨RX7, "form", "(I)I"⟩
abbrev cX7_lanes : ByteArray := prog_9_method_16_code
def yX7_lanes : MethodName := ⟨RX7, "lanes", "(I)I"⟩
abbrev cX7_firstState : ByteArray := prog_9_method_17_code
def yX7_firstState : MethodName := ⟨RX7, "firstState", "(II)J"⟩
abbrev cX7_putByte : ByteArray := prog_9_method_18_code
def yX7_putByte : MethodName := ⟨RX7, "putByte", "(I)V"⟩
abbrev cX7_putWide : ByteArray := prog_9_method_19_code
def yX7_putWide : MethodName := ⟨RX7, "putWide", "(JI)V"⟩
abbrev cX7_putBits : ByteArray := prog_9_method_20_code
def yX7_putBits : MethodName := ⟨RX7, "putBits", "(II)V"⟩
abbrev cX7_bitsOf : ByteArray := prog_9_method_21_code
def yX7_bitsOf : MethodName := ⟨RX7, "bitsOf", "(I)I"⟩
abbrev cX7_writeTable : ByteArray := prog_9_method_22_code
def yX7_writeTable : MethodName := ⟨RX7, "writeTable", "()V"⟩
abbrev cX7_writeBytes : ByteArray := prog_9_method_23_code
def yX7_writeBytes : MethodName := ⟨RX7, "writeBytes", "(III)V"⟩
abbrev cX7_writeWords : ByteArray := prog_9_method_24_code
def yX7_writeWords : MethodName := ⟨RX7, "writeWords", "(III)V"⟩
abbrev cX7_writeBitsOf : ByteArray := prog_9_method_25_code
def yX7_writeBitsOf : MethodName := ⟨RX7, "writeBitsOf", "(III)V"⟩
abbrev cX7_laySides : ByteArray := prog_9_method_26_code
def yX7_laySides : MethodName := ⟨RX7, "laySides", "(III)V"⟩
abbrev cX7_sideChance : ByteArray := prog_9_method_27_code
def yX7_sideChance : MethodName := ⟨RX7, "sideChance", "(I)I"⟩
abbrev cX7_writeSides : ByteArray := prog_9_method_28_code
def yX7_writeSides : MethodName := ⟨RX7, "writeSides", "(II)V"⟩
abbrev cX7_mayWrite : ByteArray := prog_9_method_29_code
def yX7_mayWrite : MethodName := ⟨RX7, "mayWrite", "()Z"⟩
abbrev cX7_writeForm : ByteArray := prog_9_method_30_code
def yX7_writeForm : MethodName := ⟨RX7, "writeForm", "(I)V"⟩
abbrev cX7_write : ByteArray := prog_9_method_31_code
def yX7_write : MethodName := ⟨RX7, "write", "()I"⟩
abbrev cX7_fail : ByteArray := prog_9_method_32_code
def yX7_fail : MethodName := ⟨RX7, "fail", "(I)V"⟩
abbrev cX7_next : ByteArray := prog_9_method_33_code
def yX7_next : MethodName := ⟨RX7, "next", "()I"⟩
abbrev cX7_nextWide : ByteArray := prog_9_method_34_code
def yX7_nextWide : MethodName := ⟨RX7, "nextWide", "(I)J"⟩
abbrev cX7_nextBit : ByteArray := prog_9_method_35_code
def yX7_nextBit : MethodName := ⟨RX7, "nextBit", "()I"⟩
abbrev cX7_readTable : ByteArray := prog_9_method_36_code
def yX7_readTable : MethodName := ⟨RX7, "readTable", "()V"⟩
abbrev cX7_isInSpan : ByteArray := prog_9_method_37_code
def yX7_isInSpan : MethodName := ⟨RX7, "isInSpan", "(J)Z"⟩
abbrev cX7_signOf : ByteArray := prog_9_method_38_code
def yX7_signOf : MethodName := ⟨RX7, "signOf", "(I)I"⟩
abbrev cX7_readBytes : ByteArray := prog_9_method_39_code
def yX7_readBytes : MethodName := ⟨RX7, "readBytes", "(III)V"⟩
abbrev cX7_readSign : ByteArray := prog_9_method_40_code
def yX7_readSign : MethodName := ⟨RX7, "readSign", "(I)V"⟩
abbrev cX7_readWords : ByteArray := prog_9_method_41_code
def yX7_readWords : MethodName := ⟨RX7, "readWords", "(III)V"⟩
abbrev cX7_readSides : ByteArray := prog_9_method_42_code
def yX7_readSides : MethodName := ⟨RX7, "readSides", "(I)I"⟩
abbrev cX7_readHead : ByteArray := prog_9_method_43_code
def yX7_readHead : MethodName := ⟨RX7, "readHead", "()I"⟩
abbrev cX7_readAll : ByteArray := prog_9_method_44_code
def yX7_readAll : MethodName := ⟨RX7, "readAll", "()V"⟩
abbrev cX7_read : ByteArray := prog_9_method_45_code
def yX7_read : MethodName := ⟨RX7, "read", "()I"⟩
abbrev cX7_rule : ByteArray := prog_9_method_46_code
def yX7_rule : MethodName := ⟨RX7, "rule", "()I"⟩
abbrev cX7_sign : ByteArray := prog_9_method_47_code
def yX7_sign : MethodName := ⟨RX7, "sign", "(I)I"⟩
abbrev cX7_state : ByteArray := prog_9_method_48_code
def yX7_state : MethodName := ⟨RX7, "state", "(II)J"⟩
abbrev cX7_out : ByteArray := prog_9_method_49_code
def yX7_out : MethodName := ⟨RX7, "out", "(I)I"⟩
abbrev cX7_spoil : ByteArray := prog_9_method_50_code
def yX7_spoil : MethodName := ⟨RX7, "spoil", "(II)I"⟩
abbrev cX7_cut : ByteArray := prog_9_method_51_code
def yX7_cut : MethodName := ⟨RX7, "cut", "(I)I"⟩
abbrev cX7_octet : ByteArray := prog_9_method_52_code
def yX7_octet : MethodName := ⟨RX7, "octet", "(I)I"⟩
abbrev cX7_agree : ByteArray := prog_9_method_53_code
def yX7_agree : MethodName := ⟨RX7, "agree", "()I"⟩
abbrev cX7_told : ByteArray := prog_9_method_54_code
def yX7_told : MethodName := ⟨RX7, "told", "(I)I"⟩
def RJx00060 : String := "java/lang/ArrayIndexOutOfBoundsException"
def TJx00060 : u_T := fun k => match k with
  | 0 => ("java/lang/Throwable", "cause", "Ljava/lang/Throwable;", false)
  | 1 => ("java/lang/Throwable", "stackTrace", "[Ljava/lang/StackTraceElement;", false)
  | 2 => ("java/lang/Throwable", "suppressedExceptions", "Ljava/util/List;", false)
  | 3 => ("java/lang/Throwable", "detailMessage", "Ljava/lang/String;", false)
  | 4 => ("java/lang/Throwable", "backtrace", "Ljava/lang/Object;", false)
  | _ => ("java/lang/Throwable", "depth", "I", false)
def tyJx00060 : Nat → FieldType := fun k => match k with
  | 0 => .object "java/lang/Throwable"
  | 1 => .array (.object "java/lang/StackTraceElement")
  | 2 => .object "java/util/List"
  | 3 => .object "java/lang/String"
  | 4 => .object "java/lang/Object"
  | _ => .int
abbrev wsJx000600 : List Cond := u_ws RJx00060 TJx00060 6
theorem nmJx00060 : ∀ a, a < 6 → ∀ b, b < 6 → a ≠ b → (TJx00060 a).2.1 ≠ (TJx00060 b).2.1 := by decide +kernel
theorem tyJx00060_ok : ∀ k, k < 6 → parseFieldDescriptor (TJx00060 k).2.2.1 = some (tyJx00060 k) := by decide +kernel
abbrev cJx00060_init_a7421 : ByteArray := prog_10_method_2_code
def yJx00060_init_a7421 : MethodName := ⟨RJx00060, "<init>", "(Ljava/lang/String;)V"⟩
def RJx8e188 : String := "java/lang/Cloneable"
def TJx8e188 : u_T := fun k => match k with
  | _ => ("", "", "", false)
def tyJx8e188 : Nat → FieldType := fun k => match k with
  | _ => .int
abbrev wsJx8e1880 : List Cond := u_ws RJx8e188 TJx8e188 0
theorem nmJx8e188 : ∀ a, a < 0 → ∀ b, b < 0 → a ≠ b → (TJx8e188 a).2.1 ≠ (TJx8e188 b).2.1 := by decide +kernel
theorem tyJx8e188_ok : ∀ k, k < 0 → parseFieldDescriptor (TJx8e188 k).2.2.1 = some (tyJx8e188 k) := by decide +kernel
def RJ9 : String := "java/lang/Math"
def TJ9 : u_T := fun k => match k with
  | _ => ("", "", "", false)
def tyJ9 : Nat → FieldType := fun k => match k with
  | _ => .int
abbrev wsJ90 : List Cond := u_ws RJ9 TJ9 0
theorem nmJ9 : ∀ a, a < 0 → ∀ b, b < 0 → a ≠ b → (TJ9 a).2.1 ≠ (TJ9 b).2.1 := by decide +kernel
theorem tyJ9_ok : ∀ k, k < 0 → parseFieldDescriptor (TJ9 k).2.2.1 = some (tyJ9 k) := by decide +kernel
abbrev cJ9_max_7cf53 : ByteArray := prog_14_method_65_code
def yJ9_max_7cf53 : MethodName := ⟨RJ9, "max", "(II)I"⟩
abbrev cJ9_min_7cf53 : ByteArray := prog_14_method_69_code
def yJ9_min_7cf53 : MethodName := ⟨RJ9, "min", "(II)I"⟩
def RJ0 : String := "java/lang/String"
def TJ0 : u_T := fun k => match k with
  | _ => ("", "", "", false)
def tyJ0 : Nat → FieldType := fun k => match k with
  | _ => .int
abbrev wsJ00 : List Cond := u_ws RJ0 TJ0 0
theorem nmJ0 : ∀ a, a < 0 → ∀ b, b < 0 → a ≠ b → (TJ0 a).2.1 ≠ (TJ0 b).2.1 := by decide +kernel
theorem tyJ0_ok : ∀ k, k < 0 → parseFieldDescriptor (TJ0 k).2.2.1 = some (tyJ0 k) := by decide +kernel
def RJ10 : String := "java/lang/System"
def TJ10 : u_T := fun k => match k with
  | _ => ("", "", "", false)
def tyJ10 : Nat → FieldType := fun k => match k with
  | _ => .int
abbrev wsJ100 : List Cond := u_ws RJ10 TJ10 0
theorem nmJ10 : ∀ a, a < 0 → ∀ b, b < 0 → a ≠ b → (TJ10 a).2.1 ≠ (TJ10 b).2.1 := by decide +kernel
theorem tyJ10_ok : ∀ k, k < 0 → parseFieldDescriptor (TJ10 k).2.2.1 = some (tyJ10 k) := by decide +kernel
def RJ7 : String := "java/util/Arrays"
def TJ7 : u_T := fun k => match k with
  | _ => ("", "", "", false)
def tyJ7 : Nat → FieldType := fun k => match k with
  | _ => .int
abbrev wsJ70 : List Cond := u_ws RJ7 TJ7 0
theorem nmJ7 : ∀ a, a < 0 → ∀ b, b < 0 → a ≠ b → (TJ7 a).2.1 ≠ (TJ7 b).2.1 := by decide +kernel
theorem tyJ7_ok : ∀ k, k < 0 → parseFieldDescriptor (TJ7 k).2.2.1 = some (tyJ7 k) := by decide +kernel
abbrev cJ7_fill_d0a16 : ByteArray := prog_19_method_101_code
def yJ7_fill_d0a16 : MethodName := ⟨RJ7, "fill", "([JJ)V"⟩
abbrev cJ7_fill_53178 : ByteArray := prog_19_method_103_code
def yJ7_fill_53178 : MethodName := ⟨RJ7, "fill", "([II)V"⟩
abbrev cJ7_copyOf_59c91 : ByteArray := prog_19_method_123_code
def yJ7_copyOf_59c91 : MethodName := ⟨RJ7, "copyOf", "([II)[I"⟩
def RL : String := "AnsTablesLaw"
abbrev cL_cell : ByteArray := method_2_code
def yL_cell : MethodName := ⟨RL, "cell", "([II)I"⟩
abbrev cL_spread : ByteArray := method_3_code
def yL_spread : MethodName := ⟨RL, "spread", "(LAnsTables;I[J)I"⟩
abbrev cL_law : ByteArray := code
def yL_law : MethodName := ⟨RL, "law", "([I)Z"⟩
abbrev vwCl : List vw_C := [(RJx00060, TJx00060, 6), (RX0, TX0, 1), (RX1, TX1, 3), (RX2, TX2, 2), (RX3, TX3, 12), (RX4, TX4, 11), (RX5, TX5, 4), (RX6, TX6, 10), (RX7, TX7, 34)]
end
section
theorem dX7_add_0 : decode cX7_add 0 = .ok (.aload_n 0, 1) := by decide +kernel
theorem dX7_add_1 : decode cX7_add 1 = .ok (.iconst 0, 1) := by decide +kernel
theorem dX7_add_2 : decode cX7_add 2 = .ok (.putfield 62, 3) := by decide +kernel
theorem dX7_add_5 : decode cX7_add 5 = .ok (.iload_n 1, 1) := by decide +kernel
theorem dX7_add_6 : decode cX7_add 6 = .ok (.ifCond .lt 9, 3) := by decide +kernel
theorem dX7_add_9 : decode cX7_add 9 = .ok (.iload_n 1, 1) := by decide +kernel
theorem dX7_add_10 : decode cX7_add 10 = .ok (.bipush 32, 2) := by decide +kernel
theorem dX7_add_12 : decode cX7_add 12 = .ok (.if_icmp .lt 5, 3) := by decide +kernel
theorem dX7_add_15 : decode cX7_add 15 = .ok (.iconst (-1), 1) := by decide +kernel
theorem dX7_add_16 : decode cX7_add 16 = .ok (.ireturn, 1) := by decide +kernel
theorem dX7_add_17 : decode cX7_add 17 = .ok (.aload_n 0, 1) := by decide +kernel
theorem dX7_add_18 : decode cX7_add 18 = .ok (.getfield 65, 3) := by decide +kernel
theorem dX7_add_21 : decode cX7_add 21 = .ok (.sipush 1000, 3) := by decide +kernel
theorem dX7_add_24 : decode cX7_add 24 = .ok (.if_icmp .ne 6, 3) := by decide +kernel
theorem dX7_add_27 : decode cX7_add 27 = .ok (.bipush (-3), 2) := by decide +kernel
theorem dX7_add_29 : decode cX7_add 29 = .ok (.ireturn, 1) := by decide +kernel
theorem dX7_add_30 : decode cX7_add 30 = .ok (.aload_n 0, 1) := by decide +kernel
theorem dX7_add_31 : decode cX7_add 31 = .ok (.getfield 13, 3) := by decide +kernel
theorem dX7_add_34 : decode cX7_add 34 = .ok (.aload_n 0, 1) := by decide +kernel
theorem dX7_add_35 : decode cX7_add 35 = .ok (.getfield 65, 3) := by decide +kernel
theorem dX7_add_38 : decode cX7_add 38 = .ok (.iload_n 1, 1) := by decide +kernel
theorem dX7_add_39 : decode cX7_add 39 = .ok (.iastore, 1) := by decide +kernel
theorem dX7_add_40 : decode cX7_add 40 = .ok (.aload_n 0, 1) := by decide +kernel
theorem dX7_add_41 : decode cX7_add 41 = .ok (.dup, 1) := by decide +kernel
theorem dX7_add_42 : decode cX7_add 42 = .ok (.getfield 65, 3) := by decide +kernel
theorem dX7_add_45 : decode cX7_add 45 = .ok (.iconst 1, 1) := by decide +kernel
theorem dX7_add_46 : decode cX7_add 46 = .ok (.iadd, 1) := by decide +kernel
theorem dX7_add_47 : decode cX7_add 47 = .ok (.putfield 65, 3) := by decide +kernel
theorem dX7_add_50 : decode cX7_add 50 = .ok (.aload_n 0, 1) := by decide +kernel
theorem dX7_add_51 : decode cX7_add 51 = .ok (.getfield 65, 3) := by decide +kernel
theorem dX7_add_54 : decode cX7_add 54 = .ok (.ireturn, 1) := by decide +kernel
theorem dX7_clear_0 : decode cX7_clear 0 = .ok (.aload_n 0, 1) := by decide +kernel
theorem dX7_clear_1 : decode cX7_clear 1 = .ok (.iconst 0, 1) := by decide +kernel
theorem dX7_clear_2 : decode cX7_clear 2 = .ok (.putfield 62, 3) := by decide +kernel
theorem dX7_clear_5 : decode cX7_clear 5 = .ok (.aload_n 0, 1) := by decide +kernel
theorem dX7_clear_6 : decode cX7_clear 6 = .ok (.getfield 65, 3) := by decide +kernel
theorem dX7_clear_9 : decode cX7_clear 9 = .ok (.istore_n 1, 1) := by decide +kernel
theorem dX7_clear_10 : decode cX7_clear 10 = .ok (.aload_n 0, 1) := by decide +kernel
theorem dX7_clear_11 : decode cX7_clear 11 = .ok (.iconst 0, 1) := by decide +kernel
theorem dX7_clear_12 : decode cX7_clear 12 = .ok (.putfield 65, 3) := by decide +kernel
theorem dX7_clear_15 : decode cX7_clear 15 = .ok (.iload_n 1, 1) := by decide +kernel
theorem dX7_clear_16 : decode cX7_clear 16 = .ok (.ireturn, 1) := by decide +kernel
theorem dX7_count_0 : decode cX7_count 0 = .ok (.aload_n 0, 1) := by decide +kernel
theorem dX7_count_1 : decode cX7_count 1 = .ok (.iconst 0, 1) := by decide +kernel
theorem dX7_count_2 : decode cX7_count 2 = .ok (.putfield 62, 3) := by decide +kernel
theorem dX7_count_5 : decode cX7_count 5 = .ok (.iload_n 1, 1) := by decide +kernel
theorem dX7_count_6 : decode cX7_count 6 = .ok (.ifCond .lt 19, 3) := by decide +kernel
theorem dX7_count_9 : decode cX7_count 9 = .ok (.iload_n 1, 1) := by decide +kernel
theorem dX7_count_10 : decode cX7_count 10 = .ok (.bipush 32, 2) := by decide +kernel
theorem dX7_count_12 : decode cX7_count 12 = .ok (.if_icmp .ge 13, 3) := by decide +kernel
theorem dX7_count_15 : decode cX7_count 15 = .ok (.iload_n 2, 1) := by decide +kernel
theorem dX7_count_16 : decode cX7_count 16 = .ok (.ifCond .lt 9, 3) := by decide +kernel
theorem dX7_count_19 : decode cX7_count 19 = .ok (.iload_n 2, 1) := by decide +kernel
theorem dX7_count_20 : decode cX7_count 20 = .ok (.ldc 68, 2) := by decide +kernel
theorem dX7_count_22 : decode cX7_count 22 = .ok (.if_icmp .le 5, 3) := by decide +kernel
theorem dX7_count_25 : decode cX7_count 25 = .ok (.iconst (-1), 1) := by decide +kernel
theorem dX7_count_26 : decode cX7_count 26 = .ok (.ireturn, 1) := by decide +kernel
theorem dX7_count_27 : decode cX7_count 27 = .ok (.aload_n 0, 1) := by decide +kernel
theorem dX7_count_28 : decode cX7_count 28 = .ok (.getfield 17, 3) := by decide +kernel
theorem dX7_count_31 : decode cX7_count 31 = .ok (.iload_n 1, 1) := by decide +kernel
theorem dX7_count_32 : decode cX7_count 32 = .ok (.iaload, 1) := by decide +kernel
theorem dX7_count_33 : decode cX7_count 33 = .ok (.istore_n 3, 1) := by decide +kernel
theorem dX7_count_34 : decode cX7_count 34 = .ok (.aload_n 0, 1) := by decide +kernel
theorem dX7_count_35 : decode cX7_count 35 = .ok (.getfield 17, 3) := by decide +kernel
theorem dX7_count_38 : decode cX7_count 38 = .ok (.iload_n 1, 1) := by decide +kernel
theorem dX7_count_39 : decode cX7_count 39 = .ok (.iload_n 2, 1) := by decide +kernel
theorem dX7_count_40 : decode cX7_count 40 = .ok (.iastore, 1) := by decide +kernel
theorem dX7_count_41 : decode cX7_count 41 = .ok (.aload_n 0, 1) := by decide +kernel
theorem dX7_count_42 : decode cX7_count 42 = .ok (.iconst 0, 1) := by decide +kernel
theorem dX7_count_43 : decode cX7_count 43 = .ok (.putfield 69, 3) := by decide +kernel
theorem dX7_count_46 : decode cX7_count 46 = .ok (.iload_n 3, 1) := by decide +kernel
theorem dX7_count_47 : decode cX7_count 47 = .ok (.ireturn, 1) := by decide +kernel
theorem dX7_signsCounted_0 : decode cX7_signsCounted 0 = .ok (.iconst 0, 1) := by decide +kernel
theorem dX7_signsCounted_1 : decode cX7_signsCounted 1 = .ok (.istore_n 1, 1) := by decide +kernel
theorem dX7_signsCounted_2 : decode cX7_signsCounted 2 = .ok (.iconst 0, 1) := by decide +kernel
theorem dX7_signsCounted_3 : decode cX7_signsCounted 3 = .ok (.istore_n 2, 1) := by decide +kernel
theorem dX7_signsCounted_4 : decode cX7_signsCounted 4 = .ok (.iload_n 2, 1) := by decide +kernel
theorem dX7_signsCounted_5 : decode cX7_signsCounted 5 = .ok (.bipush 32, 2) := by decide +kernel
theorem dX7_signsCounted_7 : decode cX7_signsCounted 7 = .ok (.if_icmp .ge 26, 3) := by decide +kernel
theorem dX7_signsCounted_10 : decode cX7_signsCounted 10 = .ok (.iload_n 1, 1) := by decide +kernel
theorem dX7_signsCounted_11 : decode cX7_signsCounted 11 = .ok (.aload_n 0, 1) := by decide +kernel
theorem dX7_signsCounted_12 : decode cX7_signsCounted 12 = .ok (.getfield 17, 3) := by decide +kernel
theorem dX7_signsCounted_15 : decode cX7_signsCounted 15 = .ok (.iload_n 2, 1) := by decide +kernel
theorem dX7_signsCounted_16 : decode cX7_signsCounted 16 = .ok (.iaload, 1) := by decide +kernel
theorem dX7_signsCounted_17 : decode cX7_signsCounted 17 = .ok (.ifCond .le 7, 3) := by decide +kernel
theorem dX7_signsCounted_20 : decode cX7_signsCounted 20 = .ok (.iconst 1, 1) := by decide +kernel
theorem dX7_signsCounted_21 : decode cX7_signsCounted 21 = .ok (.goto 4, 3) := by decide +kernel
theorem dX7_signsCounted_24 : decode cX7_signsCounted 24 = .ok (.iconst 0, 1) := by decide +kernel
theorem dX7_signsCounted_25 : decode cX7_signsCounted 25 = .ok (.iadd, 1) := by decide +kernel
theorem dX7_signsCounted_26 : decode cX7_signsCounted 26 = .ok (.istore_n 1, 1) := by decide +kernel
theorem dX7_signsCounted_27 : decode cX7_signsCounted 27 = .ok (.iinc 2 1, 3) := by decide +kernel
theorem dX7_signsCounted_30 : decode cX7_signsCounted 30 = .ok (.goto (-26), 3) := by decide +kernel
theorem dX7_signsCounted_33 : decode cX7_signsCounted 33 = .ok (.iload_n 1, 1) := by decide +kernel
theorem dX7_signsCounted_34 : decode cX7_signsCounted 34 = .ok (.ireturn, 1) := by decide +kernel
theorem dX7_counts_0 : decode cX7_counts 0 = .ok (.aload_n 0, 1) := by decide +kernel
theorem dX7_counts_1 : decode cX7_counts 1 = .ok (.iconst 0, 1) := by decide +kernel
theorem dX7_counts_2 : decode cX7_counts 2 = .ok (.putfield 62, 3) := by decide +kernel
theorem dX7_counts_5 : decode cX7_counts 5 = .ok (.iconst 0, 1) := by decide +kernel
theorem dX7_counts_6 : decode cX7_counts 6 = .ok (.istore_n 1, 1) := by decide +kernel
theorem dX7_counts_7 : decode cX7_counts 7 = .ok (.iload_n 1, 1) := by decide +kernel
theorem dX7_counts_8 : decode cX7_counts 8 = .ok (.bipush 32, 2) := by decide +kernel
theorem dX7_counts_10 : decode cX7_counts 10 = .ok (.if_icmp .ge 16, 3) := by decide +kernel
theorem dX7_counts_13 : decode cX7_counts 13 = .ok (.aload_n 0, 1) := by decide +kernel
theorem dX7_counts_14 : decode cX7_counts 14 = .ok (.getfield 17, 3) := by decide +kernel
theorem dX7_counts_17 : decode cX7_counts 17 = .ok (.iload_n 1, 1) := by decide +kernel
theorem dX7_counts_18 : decode cX7_counts 18 = .ok (.iconst 0, 1) := by decide +kernel
theorem dX7_counts_19 : decode cX7_counts 19 = .ok (.iastore, 1) := by decide +kernel
theorem dX7_counts_20 : decode cX7_counts 20 = .ok (.iinc 1 1, 3) := by decide +kernel
theorem dX7_counts_23 : decode cX7_counts 23 = .ok (.goto (-16), 3) := by decide +kernel
theorem dX7_counts_26 : decode cX7_counts 26 = .ok (.iconst 0, 1) := by decide +kernel
theorem dX7_counts_27 : decode cX7_counts 27 = .ok (.istore_n 1, 1) := by decide +kernel
theorem dX7_counts_28 : decode cX7_counts 28 = .ok (.iload_n 1, 1) := by decide +kernel
theorem dX7_counts_29 : decode cX7_counts 29 = .ok (.aload_n 0, 1) := by decide +kernel
theorem dX7_counts_30 : decode cX7_counts 30 = .ok (.getfield 65, 3) := by decide +kernel
theorem dX7_counts_33 : decode cX7_counts 33 = .ok (.if_icmp .ge 24, 3) := by decide +kernel
theorem dX7_counts_36 : decode cX7_counts 36 = .ok (.aload_n 0, 1) := by decide +kernel
theorem dX7_counts_37 : decode cX7_counts 37 = .ok (.getfield 17, 3) := by decide +kernel
theorem dX7_counts_40 : decode cX7_counts 40 = .ok (.aload_n 0, 1) := by decide +kernel
theorem dX7_counts_41 : decode cX7_counts 41 = .ok (.getfield 13, 3) := by decide +kernel
theorem dX7_counts_44 : decode cX7_counts 44 = .ok (.iload_n 1, 1) := by decide +kernel
theorem dX7_counts_45 : decode cX7_counts 45 = .ok (.iaload, 1) := by decide +kernel
theorem dX7_counts_46 : decode cX7_counts 46 = .ok (.dup2, 1) := by decide +kernel
theorem dX7_counts_47 : decode cX7_counts 47 = .ok (.iaload, 1) := by decide +kernel
theorem dX7_counts_48 : decode cX7_counts 48 = .ok (.iconst 1, 1) := by decide +kernel
theorem dX7_counts_49 : decode cX7_counts 49 = .ok (.iadd, 1) := by decide +kernel
theorem dX7_counts_50 : decode cX7_counts 50 = .ok (.iastore, 1) := by decide +kernel
theorem dX7_counts_51 : decode cX7_counts 51 = .ok (.iinc 1 1, 3) := by decide +kernel
theorem dX7_counts_54 : decode cX7_counts 54 = .ok (.goto (-26), 3) := by decide +kernel
theorem dX7_counts_57 : decode cX7_counts 57 = .ok (.aload_n 0, 1) := by decide +kernel
theorem dX7_counts_58 : decode cX7_counts 58 = .ok (.iconst 0, 1) := by decide +kernel
theorem dX7_counts_59 : decode cX7_counts 59 = .ok (.putfield 69, 3) := by decide +kernel
theorem dX7_counts_62 : decode cX7_counts 62 = .ok (.aload_n 0, 1) := by decide +kernel
theorem dX7_counts_63 : decode cX7_counts 63 = .ok (.invokevirtual 73, 3) := by decide +kernel
theorem dX7_counts_66 : decode cX7_counts 66 = .ok (.ireturn, 1) := by decide +kernel
theorem dX7_logarithm_0 : decode cX7_logarithm 0 = .ok (.iconst 0, 1) := by decide +kernel
theorem dX7_logarithm_1 : decode cX7_logarithm 1 = .ok (.istore_n 1, 1) := by decide +kernel
theorem dX7_logarithm_2 : decode cX7_logarithm 2 = .ok (.iload_n 0, 1) := by decide +kernel
theorem dX7_logarithm_3 : decode cX7_logarithm 3 = .ok (.iload_n 1, 1) := by decide +kernel
theorem dX7_logarithm_4 : decode cX7_logarithm 4 = .ok (.ishr, 1) := by decide +kernel
theorem dX7_logarithm_5 : decode cX7_logarithm 5 = .ok (.iconst 1, 1) := by decide +kernel
theorem dX7_logarithm_6 : decode cX7_logarithm 6 = .ok (.if_icmp .le 9, 3) := by decide +kernel
theorem dX7_logarithm_9 : decode cX7_logarithm 9 = .ok (.iinc 1 1, 3) := by decide +kernel
theorem dX7_logarithm_12 : decode cX7_logarithm 12 = .ok (.goto (-10), 3) := by decide +kernel
theorem dX7_logarithm_15 : decode cX7_logarithm 15 = .ok (.iload_n 0, 1) := by decide +kernel
theorem dX7_logarithm_16 : decode cX7_logarithm 16 = .ok (.i2l, 1) := by decide +kernel
theorem dX7_logarithm_17 : decode cX7_logarithm 17 = .ok (.bipush 30, 2) := by decide +kernel
theorem dX7_logarithm_19 : decode cX7_logarithm 19 = .ok (.iload_n 1, 1) := by decide +kernel
theorem dX7_logarithm_20 : decode cX7_logarithm 20 = .ok (.isub, 1) := by decide +kernel
theorem dX7_logarithm_21 : decode cX7_logarithm 21 = .ok (.lshl, 1) := by decide +kernel
theorem dX7_logarithm_22 : decode cX7_logarithm 22 = .ok (.lstore_n 2, 1) := by decide +kernel
theorem dX7_logarithm_23 : decode cX7_logarithm 23 = .ok (.iload_n 1, 1) := by decide +kernel
theorem dX7_logarithm_24 : decode cX7_logarithm 24 = .ok (.i2l, 1) := by decide +kernel
theorem dX7_logarithm_25 : decode cX7_logarithm 25 = .ok (.lstore 4, 2) := by decide +kernel
theorem dX7_logarithm_27 : decode cX7_logarithm 27 = .ok (.iconst 0, 1) := by decide +kernel
theorem dX7_logarithm_28 : decode cX7_logarithm 28 = .ok (.istore 6, 2) := by decide +kernel
theorem dX7_logarithm_30 : decode cX7_logarithm 30 = .ok (.iload 6, 2) := by decide +kernel
theorem dX7_logarithm_32 : decode cX7_logarithm 32 = .ok (.bipush 30, 2) := by decide +kernel
theorem dX7_logarithm_34 : decode cX7_logarithm 34 = .ok (.if_icmp .ge 48, 3) := by decide +kernel
theorem dX7_logarithm_37 : decode cX7_logarithm 37 = .ok (.lload_n 2, 1) := by decide +kernel
theorem dX7_logarithm_38 : decode cX7_logarithm 38 = .ok (.lload_n 2, 1) := by decide +kernel
theorem dX7_logarithm_39 : decode cX7_logarithm 39 = .ok (.lmul, 1) := by decide +kernel
theorem dX7_logarithm_40 : decode cX7_logarithm 40 = .ok (.bipush 30, 2) := by decide +kernel
theorem dX7_logarithm_42 : decode cX7_logarithm 42 = .ok (.lshr, 1) := by decide +kernel
theorem dX7_logarithm_43 : decode cX7_logarithm 43 = .ok (.lstore_n 2, 1) := by decide +kernel
theorem dX7_logarithm_44 : decode cX7_logarithm 44 = .ok (.lload_n 2, 1) := by decide +kernel
theorem dX7_logarithm_45 : decode cX7_logarithm 45 = .ok (.ldc2_w 77, 3) := by decide +kernel
theorem dX7_logarithm_48 : decode cX7_logarithm 48 = .ok (.lcmp, 1) := by decide +kernel
theorem dX7_logarithm_49 : decode cX7_logarithm 49 = .ok (.ifCond .lt 7, 3) := by decide +kernel
theorem dX7_logarithm_52 : decode cX7_logarithm 52 = .ok (.iconst 1, 1) := by decide +kernel
theorem dX7_logarithm_53 : decode cX7_logarithm 53 = .ok (.goto 4, 3) := by decide +kernel
theorem dX7_logarithm_56 : decode cX7_logarithm 56 = .ok (.iconst 0, 1) := by decide +kernel
theorem dX7_logarithm_57 : decode cX7_logarithm 57 = .ok (.istore 7, 2) := by decide +kernel
theorem dX7_logarithm_59 : decode cX7_logarithm 59 = .ok (.lload_n 2, 1) := by decide +kernel
theorem dX7_logarithm_60 : decode cX7_logarithm 60 = .ok (.iload 7, 2) := by decide +kernel
theorem dX7_logarithm_62 : decode cX7_logarithm 62 = .ok (.lshr, 1) := by decide +kernel
theorem dX7_logarithm_63 : decode cX7_logarithm 63 = .ok (.lstore_n 2, 1) := by decide +kernel
theorem dX7_logarithm_64 : decode cX7_logarithm 64 = .ok (.ldc2_w 79, 3) := by decide +kernel
theorem dX7_logarithm_67 : decode cX7_logarithm 67 = .ok (.lload 4, 2) := by decide +kernel
theorem dX7_logarithm_69 : decode cX7_logarithm 69 = .ok (.lmul, 1) := by decide +kernel
theorem dX7_logarithm_70 : decode cX7_logarithm 70 = .ok (.iload 7, 2) := by decide +kernel
theorem dX7_logarithm_72 : decode cX7_logarithm 72 = .ok (.i2l, 1) := by decide +kernel
theorem dX7_logarithm_73 : decode cX7_logarithm 73 = .ok (.ladd, 1) := by decide +kernel
theorem dX7_logarithm_74 : decode cX7_logarithm 74 = .ok (.lstore 4, 2) := by decide +kernel
theorem dX7_logarithm_76 : decode cX7_logarithm 76 = .ok (.iinc 6 1, 3) := by decide +kernel
theorem dX7_logarithm_79 : decode cX7_logarithm 79 = .ok (.goto (-49), 3) := by decide +kernel
theorem dX7_logarithm_82 : decode cX7_logarithm 82 = .ok (.lload 4, 2) := by decide +kernel
theorem dX7_logarithm_84 : decode cX7_logarithm 84 = .ok (.lreturn, 1) := by decide +kernel
theorem dX7_lg_0 : decode cX7_lg 0 = .ok (.aload_n 0, 1) := by decide +kernel
theorem dX7_lg_1 : decode cX7_lg 1 = .ok (.iconst 0, 1) := by decide +kernel
theorem dX7_lg_2 : decode cX7_lg 2 = .ok (.putfield 62, 3) := by decide +kernel
theorem dX7_lg_5 : decode cX7_lg 5 = .ok (.iload_n 1, 1) := by decide +kernel
theorem dX7_lg_6 : decode cX7_lg 6 = .ok (.iconst 1, 1) := by decide +kernel
theorem dX7_lg_7 : decode cX7_lg 7 = .ok (.if_icmp .lt 13, 3) := by decide +kernel
theorem dX7_lg_10 : decode cX7_lg 10 = .ok (.iload_n 1, 1) := by decide +kernel
theorem dX7_lg_11 : decode cX7_lg 11 = .ok (.iconst 1, 1) := by decide +kernel
theorem dX7_lg_12 : decode cX7_lg 12 = .ok (.aload_n 0, 1) := by decide +kernel
theorem dX7_lg_13 : decode cX7_lg 13 = .ok (.getfield 59, 3) := by decide +kernel
theorem dX7_lg_16 : decode cX7_lg 16 = .ok (.ishl, 1) := by decide +kernel
theorem dX7_lg_17 : decode cX7_lg 17 = .ok (.if_icmp .le 9, 3) := by decide +kernel
theorem dX7_lg_20 : decode cX7_lg 20 = .ok (.ldc2_w 81, 3) := by decide +kernel
theorem dX7_lg_23 : decode cX7_lg 23 = .ok (.goto 7, 3) := by decide +kernel
theorem dX7_lg_26 : decode cX7_lg 26 = .ok (.iload_n 1, 1) := by decide +kernel
theorem dX7_lg_27 : decode cX7_lg 27 = .ok (.invokestatic 83, 3) := by decide +kernel
theorem dX7_lg_30 : decode cX7_lg 30 = .ok (.lreturn, 1) := by decide +kernel
theorem dX7_lay_0 : decode cX7_lay 0 = .ok (.iconst 1, 1) := by decide +kernel
theorem dX7_lay_1 : decode cX7_lay 1 = .ok (.aload_n 0, 1) := by decide +kernel
theorem dX7_lay_2 : decode cX7_lay 2 = .ok (.getfield 26, 3) := by decide +kernel
theorem dX7_lay_5 : decode cX7_lay 5 = .ok (.iload_n 1, 1) := by decide +kernel
theorem dX7_lay_6 : decode cX7_lay 6 = .ok (.iaload, 1) := by decide +kernel
theorem dX7_lay_7 : decode cX7_lay 7 = .ok (.ishl, 1) := by decide +kernel
theorem dX7_lay_8 : decode cX7_lay 8 = .ok (.istore_n 2, 1) := by decide +kernel
theorem dX7_lay_9 : decode cX7_lay 9 = .ok (.iconst 0, 1) := by decide +kernel
theorem dX7_lay_10 : decode cX7_lay 10 = .ok (.istore_n 3, 1) := by decide +kernel
theorem dX7_lay_11 : decode cX7_lay 11 = .ok (.iconst 0, 1) := by decide +kernel
theorem dX7_lay_12 : decode cX7_lay 12 = .ok (.istore 4, 2) := by decide +kernel
theorem dX7_lay_14 : decode cX7_lay 14 = .ok (.iconst 0, 1) := by decide +kernel
theorem dX7_lay_15 : decode cX7_lay 15 = .ok (.istore 5, 2) := by decide +kernel
theorem dX7_lay_17 : decode cX7_lay 17 = .ok (.iload 5, 2) := by decide +kernel
theorem dX7_lay_19 : decode cX7_lay 19 = .ok (.bipush 32, 2) := by decide +kernel
theorem dX7_lay_21 : decode cX7_lay 21 = .ok (.if_icmp .ge 95, 3) := by decide +kernel
theorem dX7_lay_24 : decode cX7_lay 24 = .ok (.aload_n 0, 1) := by decide +kernel
theorem dX7_lay_25 : decode cX7_lay 25 = .ok (.getfield 23, 3) := by decide +kernel
theorem dX7_lay_28 : decode cX7_lay 28 = .ok (.bipush 32, 2) := by decide +kernel
theorem dX7_lay_30 : decode cX7_lay 30 = .ok (.iload_n 1, 1) := by decide +kernel
theorem dX7_lay_31 : decode cX7_lay 31 = .ok (.imul, 1) := by decide +kernel
theorem dX7_lay_32 : decode cX7_lay 32 = .ok (.iload 5, 2) := by decide +kernel
theorem dX7_lay_34 : decode cX7_lay 34 = .ok (.iadd, 1) := by decide +kernel
theorem dX7_lay_35 : decode cX7_lay 35 = .ok (.iload_n 3, 1) := by decide +kernel
theorem dX7_lay_36 : decode cX7_lay 36 = .ok (.iastore, 1) := by decide +kernel
theorem dX7_lay_37 : decode cX7_lay 37 = .ok (.iload_n 3, 1) := by decide +kernel
theorem dX7_lay_38 : decode cX7_lay 38 = .ok (.aload_n 0, 1) := by decide +kernel
theorem dX7_lay_39 : decode cX7_lay 39 = .ok (.getfield 20, 3) := by decide +kernel
theorem dX7_lay_42 : decode cX7_lay 42 = .ok (.bipush 32, 2) := by decide +kernel
theorem dX7_lay_44 : decode cX7_lay 44 = .ok (.iload_n 1, 1) := by decide +kernel
theorem dX7_lay_45 : decode cX7_lay 45 = .ok (.imul, 1) := by decide +kernel
theorem dX7_lay_46 : decode cX7_lay 46 = .ok (.iload 5, 2) := by decide +kernel
theorem dX7_lay_48 : decode cX7_lay 48 = .ok (.iadd, 1) := by decide +kernel
theorem dX7_lay_49 : decode cX7_lay 49 = .ok (.iaload, 1) := by decide +kernel
theorem dX7_lay_50 : decode cX7_lay 50 = .ok (.iadd, 1) := by decide +kernel
theorem dX7_lay_51 : decode cX7_lay 51 = .ok (.istore_n 3, 1) := by decide +kernel
theorem dX7_lay_52 : decode cX7_lay 52 = .ok (.iconst 0, 1) := by decide +kernel
theorem dX7_lay_53 : decode cX7_lay 53 = .ok (.istore 6, 2) := by decide +kernel
theorem dX7_lay_55 : decode cX7_lay 55 = .ok (.iload 6, 2) := by decide +kernel
theorem dX7_lay_57 : decode cX7_lay 57 = .ok (.aload_n 0, 1) := by decide +kernel
theorem dX7_lay_58 : decode cX7_lay 58 = .ok (.getfield 20, 3) := by decide +kernel
theorem dX7_lay_61 : decode cX7_lay 61 = .ok (.bipush 32, 2) := by decide +kernel
theorem dX7_lay_63 : decode cX7_lay 63 = .ok (.iload_n 1, 1) := by decide +kernel
theorem dX7_lay_64 : decode cX7_lay 64 = .ok (.imul, 1) := by decide +kernel
theorem dX7_lay_65 : decode cX7_lay 65 = .ok (.iload 5, 2) := by decide +kernel
theorem dX7_lay_67 : decode cX7_lay 67 = .ok (.iadd, 1) := by decide +kernel
theorem dX7_lay_68 : decode cX7_lay 68 = .ok (.iaload, 1) := by decide +kernel
theorem dX7_lay_69 : decode cX7_lay 69 = .ok (.if_icmp .ge 41, 3) := by decide +kernel
theorem dX7_lay_72 : decode cX7_lay 72 = .ok (.aload_n 0, 1) := by decide +kernel
theorem dX7_lay_73 : decode cX7_lay 73 = .ok (.getfield 29, 3) := by decide +kernel
theorem dX7_lay_76 : decode cX7_lay 76 = .ok (.sipush 4096, 3) := by decide +kernel
theorem dX7_lay_79 : decode cX7_lay 79 = .ok (.iload_n 1, 1) := by decide +kernel
theorem dX7_lay_80 : decode cX7_lay 80 = .ok (.imul, 1) := by decide +kernel
theorem dX7_lay_81 : decode cX7_lay 81 = .ok (.iload 4, 2) := by decide +kernel
theorem dX7_lay_83 : decode cX7_lay 83 = .ok (.iadd, 1) := by decide +kernel
theorem dX7_lay_84 : decode cX7_lay 84 = .ok (.iload 5, 2) := by decide +kernel
theorem dX7_lay_86 : decode cX7_lay 86 = .ok (.iastore, 1) := by decide +kernel
theorem dX7_lay_87 : decode cX7_lay 87 = .ok (.iload 4, 2) := by decide +kernel
theorem dX7_lay_89 : decode cX7_lay 89 = .ok (.iload_n 2, 1) := by decide +kernel
theorem dX7_lay_90 : decode cX7_lay 90 = .ok (.iconst 2, 1) := by decide +kernel
theorem dX7_lay_91 : decode cX7_lay 91 = .ok (.idiv, 1) := by decide +kernel
theorem dX7_lay_92 : decode cX7_lay 92 = .ok (.iadd, 1) := by decide +kernel
theorem dX7_lay_93 : decode cX7_lay 93 = .ok (.iload_n 2, 1) := by decide +kernel
theorem dX7_lay_94 : decode cX7_lay 94 = .ok (.bipush 8, 2) := by decide +kernel
theorem dX7_lay_96 : decode cX7_lay 96 = .ok (.idiv, 1) := by decide +kernel
theorem dX7_lay_97 : decode cX7_lay 97 = .ok (.iadd, 1) := by decide +kernel
theorem dX7_lay_98 : decode cX7_lay 98 = .ok (.iconst 3, 1) := by decide +kernel
theorem dX7_lay_99 : decode cX7_lay 99 = .ok (.iadd, 1) := by decide +kernel
theorem dX7_lay_100 : decode cX7_lay 100 = .ok (.iload_n 2, 1) := by decide +kernel
theorem dX7_lay_101 : decode cX7_lay 101 = .ok (.irem, 1) := by decide +kernel
theorem dX7_lay_102 : decode cX7_lay 102 = .ok (.istore 4, 2) := by decide +kernel
theorem dX7_lay_104 : decode cX7_lay 104 = .ok (.iinc 6 1, 3) := by decide +kernel
theorem dX7_lay_107 : decode cX7_lay 107 = .ok (.goto (-52), 3) := by decide +kernel
theorem dX7_lay_110 : decode cX7_lay 110 = .ok (.iinc 5 1, 3) := by decide +kernel
theorem dX7_lay_113 : decode cX7_lay 113 = .ok (.goto (-96), 3) := by decide +kernel
theorem dX7_lay_116 : decode cX7_lay 116 = .ok (.iconst 0, 1) := by decide +kernel
theorem dX7_lay_117 : decode cX7_lay 117 = .ok (.istore 5, 2) := by decide +kernel
theorem dX7_lay_119 : decode cX7_lay 119 = .ok (.iload 5, 2) := by decide +kernel
theorem dX7_lay_121 : decode cX7_lay 121 = .ok (.bipush 32, 2) := by decide +kernel
theorem dX7_lay_123 : decode cX7_lay 123 = .ok (.if_icmp .ge 119, 3) := by decide +kernel
theorem dX7_lay_126 : decode cX7_lay 126 = .ok (.iconst 0, 1) := by decide +kernel
theorem dX7_lay_127 : decode cX7_lay 127 = .ok (.istore 6, 2) := by decide +kernel
theorem dX7_lay_129 : decode cX7_lay 129 = .ok (.iconst 0, 1) := by decide +kernel
theorem dX7_lay_130 : decode cX7_lay 130 = .ok (.istore 7, 2) := by decide +kernel
theorem dX7_lay_132 : decode cX7_lay 132 = .ok (.iload 7, 2) := by decide +kernel
theorem dX7_lay_134 : decode cX7_lay 134 = .ok (.iload_n 2, 1) := by decide +kernel
theorem dX7_lay_135 : decode cX7_lay 135 = .ok (.if_icmp .ge 101, 3) := by decide +kernel
theorem dX7_lay_138 : decode cX7_lay 138 = .ok (.aload_n 0, 1) := by decide +kernel
theorem dX7_lay_139 : decode cX7_lay 139 = .ok (.getfield 20, 3) := by decide +kernel
theorem dX7_lay_142 : decode cX7_lay 142 = .ok (.bipush 32, 2) := by decide +kernel
theorem dX7_lay_144 : decode cX7_lay 144 = .ok (.iload_n 1, 1) := by decide +kernel
theorem dX7_lay_145 : decode cX7_lay 145 = .ok (.imul, 1) := by decide +kernel
theorem dX7_lay_146 : decode cX7_lay 146 = .ok (.iload 5, 2) := by decide +kernel
theorem dX7_lay_148 : decode cX7_lay 148 = .ok (.iadd, 1) := by decide +kernel
theorem dX7_lay_149 : decode cX7_lay 149 = .ok (.iaload, 1) := by decide +kernel
theorem dX7_lay_150 : decode cX7_lay 150 = .ok (.ifCond .le 80, 3) := by decide +kernel
theorem dX7_lay_153 : decode cX7_lay 153 = .ok (.aload_n 0, 1) := by decide +kernel
theorem dX7_lay_154 : decode cX7_lay 154 = .ok (.getfield 29, 3) := by decide +kernel
theorem dX7_lay_157 : decode cX7_lay 157 = .ok (.sipush 4096, 3) := by decide +kernel
theorem dX7_lay_160 : decode cX7_lay 160 = .ok (.iload_n 1, 1) := by decide +kernel
theorem dX7_lay_161 : decode cX7_lay 161 = .ok (.imul, 1) := by decide +kernel
theorem dX7_lay_162 : decode cX7_lay 162 = .ok (.iload 7, 2) := by decide +kernel
theorem dX7_lay_164 : decode cX7_lay 164 = .ok (.iadd, 1) := by decide +kernel
theorem dX7_lay_165 : decode cX7_lay 165 = .ok (.iaload, 1) := by decide +kernel
theorem dX7_lay_166 : decode cX7_lay 166 = .ok (.iload 5, 2) := by decide +kernel
theorem dX7_lay_168 : decode cX7_lay 168 = .ok (.if_icmp .ne 62, 3) := by decide +kernel
theorem dX7_lay_171 : decode cX7_lay 171 = .ok (.aload_n 0, 1) := by decide +kernel
theorem dX7_lay_172 : decode cX7_lay 172 = .ok (.getfield 32, 3) := by decide +kernel
theorem dX7_lay_175 : decode cX7_lay 175 = .ok (.sipush 4096, 3) := by decide +kernel
theorem dX7_lay_178 : decode cX7_lay 178 = .ok (.iload_n 1, 1) := by decide +kernel
theorem dX7_lay_179 : decode cX7_lay 179 = .ok (.imul, 1) := by decide +kernel
theorem dX7_lay_180 : decode cX7_lay 180 = .ok (.iload 7, 2) := by decide +kernel
theorem dX7_lay_182 : decode cX7_lay 182 = .ok (.iadd, 1) := by decide +kernel
theorem dX7_lay_183 : decode cX7_lay 183 = .ok (.aload_n 0, 1) := by decide +kernel
theorem dX7_lay_184 : decode cX7_lay 184 = .ok (.getfield 20, 3) := by decide +kernel
theorem dX7_lay_187 : decode cX7_lay 187 = .ok (.bipush 32, 2) := by decide +kernel
theorem dX7_lay_189 : decode cX7_lay 189 = .ok (.iload_n 1, 1) := by decide +kernel
theorem dX7_lay_190 : decode cX7_lay 190 = .ok (.imul, 1) := by decide +kernel
theorem dX7_lay_191 : decode cX7_lay 191 = .ok (.iload 5, 2) := by decide +kernel
theorem dX7_lay_193 : decode cX7_lay 193 = .ok (.iadd, 1) := by decide +kernel
theorem dX7_lay_194 : decode cX7_lay 194 = .ok (.iaload, 1) := by decide +kernel
theorem dX7_lay_195 : decode cX7_lay 195 = .ok (.iload 6, 2) := by decide +kernel
theorem dX7_lay_197 : decode cX7_lay 197 = .ok (.iadd, 1) := by decide +kernel
theorem dX7_lay_198 : decode cX7_lay 198 = .ok (.iastore, 1) := by decide +kernel
theorem dX7_lay_199 : decode cX7_lay 199 = .ok (.aload_n 0, 1) := by decide +kernel
theorem dX7_lay_200 : decode cX7_lay 200 = .ok (.getfield 35, 3) := by decide +kernel
theorem dX7_lay_203 : decode cX7_lay 203 = .ok (.sipush 4096, 3) := by decide +kernel
theorem dX7_lay_206 : decode cX7_lay 206 = .ok (.iload_n 1, 1) := by decide +kernel
theorem dX7_lay_207 : decode cX7_lay 207 = .ok (.imul, 1) := by decide +kernel
theorem dX7_lay_208 : decode cX7_lay 208 = .ok (.aload_n 0, 1) := by decide +kernel
theorem dX7_lay_209 : decode cX7_lay 209 = .ok (.getfield 23, 3) := by decide +kernel
theorem dX7_lay_212 : decode cX7_lay 212 = .ok (.bipush 32, 2) := by decide +kernel
theorem dX7_lay_214 : decode cX7_lay 214 = .ok (.iload_n 1, 1) := by decide +kernel
theorem dX7_lay_215 : decode cX7_lay 215 = .ok (.imul, 1) := by decide +kernel
theorem dX7_lay_216 : decode cX7_lay 216 = .ok (.iload 5, 2) := by decide +kernel
theorem dX7_lay_218 : decode cX7_lay 218 = .ok (.iadd, 1) := by decide +kernel
theorem dX7_lay_219 : decode cX7_lay 219 = .ok (.iaload, 1) := by decide +kernel
theorem dX7_lay_220 : decode cX7_lay 220 = .ok (.iadd, 1) := by decide +kernel
theorem dX7_lay_221 : decode cX7_lay 221 = .ok (.iload 6, 2) := by decide +kernel
theorem dX7_lay_223 : decode cX7_lay 223 = .ok (.iadd, 1) := by decide +kernel
theorem dX7_lay_224 : decode cX7_lay 224 = .ok (.iload 7, 2) := by decide +kernel
theorem dX7_lay_226 : decode cX7_lay 226 = .ok (.iastore, 1) := by decide +kernel
theorem dX7_lay_227 : decode cX7_lay 227 = .ok (.iinc 6 1, 3) := by decide +kernel
theorem dX7_lay_230 : decode cX7_lay 230 = .ok (.iinc 7 1, 3) := by decide +kernel
theorem dX7_lay_233 : decode cX7_lay 233 = .ok (.goto (-101), 3) := by decide +kernel
theorem dX7_lay_236 : decode cX7_lay 236 = .ok (.iinc 5 1, 3) := by decide +kernel
theorem dX7_lay_239 : decode cX7_lay 239 = .ok (.goto (-120), 3) := by decide +kernel
theorem dX7_lay_242 : decode cX7_lay 242 = .ok (.return_, 1) := by decide +kernel
theorem dX7_normal_0 : decode cX7_normal 0 = .ok (.aload_n 0, 1) := by decide +kernel
theorem dX7_normal_1 : decode cX7_normal 1 = .ok (.iconst 0, 1) := by decide +kernel
theorem dX7_normal_2 : decode cX7_normal 2 = .ok (.putfield 62, 3) := by decide +kernel
theorem dX7_normal_5 : decode cX7_normal 5 = .ok (.aload_n 0, 1) := by decide +kernel
theorem dX7_normal_6 : decode cX7_normal 6 = .ok (.iconst 0, 1) := by decide +kernel
theorem dX7_normal_7 : decode cX7_normal 7 = .ok (.putfield 69, 3) := by decide +kernel
theorem dX7_normal_10 : decode cX7_normal 10 = .ok (.aload_n 0, 1) := by decide +kernel
theorem dX7_normal_11 : decode cX7_normal 11 = .ok (.invokevirtual 73, 3) := by decide +kernel
theorem dX7_normal_14 : decode cX7_normal 14 = .ok (.istore_n 1, 1) := by decide +kernel
theorem dX7_normal_15 : decode cX7_normal 15 = .ok (.iload_n 1, 1) := by decide +kernel
theorem dX7_normal_16 : decode cX7_normal 16 = .ok (.ifCond .ne 6, 3) := by decide +kernel
theorem dX7_normal_19 : decode cX7_normal 19 = .ok (.bipush (-2), 2) := by decide +kernel
theorem dX7_normal_21 : decode cX7_normal 21 = .ok (.ireturn, 1) := by decide +kernel
theorem dX7_normal_22 : decode cX7_normal 22 = .ok (.iconst 0, 1) := by decide +kernel
theorem dX7_normal_23 : decode cX7_normal 23 = .ok (.istore_n 2, 1) := by decide +kernel
theorem dX7_normal_24 : decode cX7_normal 24 = .ok (.iload_n 2, 1) := by decide +kernel
theorem dX7_normal_25 : decode cX7_normal 25 = .ok (.bipush 32, 2) := by decide +kernel
theorem dX7_normal_27 : decode cX7_normal 27 = .ok (.if_icmp .ge 29, 3) := by decide +kernel
theorem dX7_normal_30 : decode cX7_normal 30 = .ok (.aload_n 0, 1) := by decide +kernel
theorem dX7_normal_31 : decode cX7_normal 31 = .ok (.getfield 20, 3) := by decide +kernel
theorem dX7_normal_34 : decode cX7_normal 34 = .ok (.iload_n 2, 1) := by decide +kernel
theorem dX7_normal_35 : decode cX7_normal 35 = .ok (.aload_n 0, 1) := by decide +kernel
theorem dX7_normal_36 : decode cX7_normal 36 = .ok (.getfield 17, 3) := by decide +kernel
theorem dX7_normal_39 : decode cX7_normal 39 = .ok (.iload_n 2, 1) := by decide +kernel
theorem dX7_normal_40 : decode cX7_normal 40 = .ok (.iaload, 1) := by decide +kernel
theorem dX7_normal_41 : decode cX7_normal 41 = .ok (.ifCond .le 7, 3) := by decide +kernel
theorem dX7_normal_44 : decode cX7_normal 44 = .ok (.iconst 1, 1) := by decide +kernel
theorem dX7_normal_45 : decode cX7_normal 45 = .ok (.goto 4, 3) := by decide +kernel
theorem dX7_normal_48 : decode cX7_normal 48 = .ok (.iconst 0, 1) := by decide +kernel
theorem dX7_normal_49 : decode cX7_normal 49 = .ok (.iastore, 1) := by decide +kernel
theorem dX7_normal_50 : decode cX7_normal 50 = .ok (.iinc 2 1, 3) := by decide +kernel
theorem dX7_normal_53 : decode cX7_normal 53 = .ok (.goto (-29), 3) := by decide +kernel
theorem dX7_normal_56 : decode cX7_normal 56 = .ok (.iconst 1, 1) := by decide +kernel
theorem dX7_normal_57 : decode cX7_normal 57 = .ok (.aload_n 0, 1) := by decide +kernel
theorem dX7_normal_58 : decode cX7_normal 58 = .ok (.getfield 59, 3) := by decide +kernel
theorem dX7_normal_61 : decode cX7_normal 61 = .ok (.ishl, 1) := by decide +kernel
theorem dX7_normal_62 : decode cX7_normal 62 = .ok (.iload_n 1, 1) := by decide +kernel
theorem dX7_normal_63 : decode cX7_normal 63 = .ok (.isub, 1) := by decide +kernel
theorem dX7_normal_64 : decode cX7_normal 64 = .ok (.istore_n 2, 1) := by decide +kernel
theorem dX7_normal_65 : decode cX7_normal 65 = .ok (.iload_n 2, 1) := by decide +kernel
theorem dX7_normal_66 : decode cX7_normal 66 = .ok (.ifCond .le 106, 3) := by decide +kernel
theorem dX7_normal_69 : decode cX7_normal 69 = .ok (.bipush (-2), 2) := by decide +kernel
theorem dX7_normal_71 : decode cX7_normal 71 = .ok (.istore_n 3, 1) := by decide +kernel
theorem dX7_normal_72 : decode cX7_normal 72 = .ok (.lconst 0, 1) := by decide +kernel
theorem dX7_normal_73 : decode cX7_normal 73 = .ok (.lstore 4, 2) := by decide +kernel
theorem dX7_normal_75 : decode cX7_normal 75 = .ok (.iconst 0, 1) := by decide +kernel
theorem dX7_normal_76 : decode cX7_normal 76 = .ok (.istore 6, 2) := by decide +kernel
theorem dX7_normal_78 : decode cX7_normal 78 = .ok (.iload 6, 2) := by decide +kernel
theorem dX7_normal_80 : decode cX7_normal 80 = .ok (.bipush 32, 2) := by decide +kernel
theorem dX7_normal_82 : decode cX7_normal 82 = .ok (.if_icmp .ge 74, 3) := by decide +kernel
theorem dX7_normal_85 : decode cX7_normal 85 = .ok (.aload_n 0, 1) := by decide +kernel
theorem dX7_normal_86 : decode cX7_normal 86 = .ok (.getfield 20, 3) := by decide +kernel
theorem dX7_normal_89 : decode cX7_normal 89 = .ok (.iload 6, 2) := by decide +kernel
theorem dX7_normal_91 : decode cX7_normal 91 = .ok (.iaload, 1) := by decide +kernel
theorem dX7_normal_92 : decode cX7_normal 92 = .ok (.ifCond .le 58, 3) := by decide +kernel
theorem dX7_normal_95 : decode cX7_normal 95 = .ok (.aload_n 0, 1) := by decide +kernel
theorem dX7_normal_96 : decode cX7_normal 96 = .ok (.getfield 17, 3) := by decide +kernel
theorem dX7_normal_99 : decode cX7_normal 99 = .ok (.iload 6, 2) := by decide +kernel
theorem dX7_normal_101 : decode cX7_normal 101 = .ok (.iaload, 1) := by decide +kernel
theorem dX7_normal_102 : decode cX7_normal 102 = .ok (.i2l, 1) := by decide +kernel
theorem dX7_normal_103 : decode cX7_normal 103 = .ok (.aload_n 0, 1) := by decide +kernel
theorem dX7_normal_104 : decode cX7_normal 104 = .ok (.getfield 20, 3) := by decide +kernel
theorem dX7_normal_107 : decode cX7_normal 107 = .ok (.iload 6, 2) := by decide +kernel
theorem dX7_normal_109 : decode cX7_normal 109 = .ok (.iaload, 1) := by decide +kernel
theorem dX7_normal_110 : decode cX7_normal 110 = .ok (.iconst 1, 1) := by decide +kernel
theorem dX7_normal_111 : decode cX7_normal 111 = .ok (.iadd, 1) := by decide +kernel
theorem dX7_normal_112 : decode cX7_normal 112 = .ok (.invokestatic 83, 3) := by decide +kernel
theorem dX7_normal_115 : decode cX7_normal 115 = .ok (.aload_n 0, 1) := by decide +kernel
theorem dX7_normal_116 : decode cX7_normal 116 = .ok (.getfield 20, 3) := by decide +kernel
theorem dX7_normal_119 : decode cX7_normal 119 = .ok (.iload 6, 2) := by decide +kernel
theorem dX7_normal_121 : decode cX7_normal 121 = .ok (.iaload, 1) := by decide +kernel
theorem dX7_normal_122 : decode cX7_normal 122 = .ok (.invokestatic 83, 3) := by decide +kernel
theorem dX7_normal_125 : decode cX7_normal 125 = .ok (.lsub, 1) := by decide +kernel
theorem dX7_normal_126 : decode cX7_normal 126 = .ok (.lmul, 1) := by decide +kernel
theorem dX7_normal_127 : decode cX7_normal 127 = .ok (.lstore 7, 2) := by decide +kernel
theorem dX7_normal_129 : decode cX7_normal 129 = .ok (.iload_n 3, 1) := by decide +kernel
theorem dX7_normal_130 : decode cX7_normal 130 = .ok (.bipush (-2), 2) := by decide +kernel
theorem dX7_normal_132 : decode cX7_normal 132 = .ok (.if_icmp .eq 11, 3) := by decide +kernel
theorem dX7_normal_135 : decode cX7_normal 135 = .ok (.lload 7, 2) := by decide +kernel
theorem dX7_normal_137 : decode cX7_normal 137 = .ok (.lload 4, 2) := by decide +kernel
theorem dX7_normal_139 : decode cX7_normal 139 = .ok (.lcmp, 1) := by decide +kernel
theorem dX7_normal_140 : decode cX7_normal 140 = .ok (.ifCond .le 10, 3) := by decide +kernel
theorem dX7_normal_143 : decode cX7_normal 143 = .ok (.iload 6, 2) := by decide +kernel
theorem dX7_normal_145 : decode cX7_normal 145 = .ok (.istore_n 3, 1) := by decide +kernel
theorem dX7_normal_146 : decode cX7_normal 146 = .ok (.lload 7, 2) := by decide +kernel
theorem dX7_normal_148 : decode cX7_normal 148 = .ok (.lstore 4, 2) := by decide +kernel
theorem dX7_normal_150 : decode cX7_normal 150 = .ok (.iinc 6 1, 3) := by decide +kernel
theorem dX7_normal_153 : decode cX7_normal 153 = .ok (.goto (-75), 3) := by decide +kernel
theorem dX7_normal_156 : decode cX7_normal 156 = .ok (.aload_n 0, 1) := by decide +kernel
theorem dX7_normal_157 : decode cX7_normal 157 = .ok (.getfield 20, 3) := by decide +kernel
theorem dX7_normal_160 : decode cX7_normal 160 = .ok (.iload_n 3, 1) := by decide +kernel
theorem dX7_normal_161 : decode cX7_normal 161 = .ok (.dup2, 1) := by decide +kernel
theorem dX7_normal_162 : decode cX7_normal 162 = .ok (.iaload, 1) := by decide +kernel
theorem dX7_normal_163 : decode cX7_normal 163 = .ok (.iconst 1, 1) := by decide +kernel
theorem dX7_normal_164 : decode cX7_normal 164 = .ok (.iadd, 1) := by decide +kernel
theorem dX7_normal_165 : decode cX7_normal 165 = .ok (.iastore, 1) := by decide +kernel
theorem dX7_normal_166 : decode cX7_normal 166 = .ok (.iinc 2 (-1), 3) := by decide +kernel
theorem dX7_normal_169 : decode cX7_normal 169 = .ok (.goto (-104), 3) := by decide +kernel
theorem dX7_normal_172 : decode cX7_normal 172 = .ok (.aload_n 0, 1) := by decide +kernel
theorem dX7_normal_173 : decode cX7_normal 173 = .ok (.iconst 1, 1) := by decide +kernel
theorem dX7_normal_174 : decode cX7_normal 174 = .ok (.putfield 69, 3) := by decide +kernel
theorem dX7_normal_177 : decode cX7_normal 177 = .ok (.aload_n 0, 1) := by decide +kernel
theorem dX7_normal_178 : decode cX7_normal 178 = .ok (.iconst 0, 1) := by decide +kernel
theorem dX7_normal_179 : decode cX7_normal 179 = .ok (.invokevirtual 87, 3) := by decide +kernel
theorem dX7_normal_182 : decode cX7_normal 182 = .ok (.iload_n 1, 1) := by decide +kernel
theorem dX7_normal_183 : decode cX7_normal 183 = .ok (.ireturn, 1) := by decide +kernel
theorem dX7_share_0 : decode cX7_share 0 = .ok (.aload_n 0, 1) := by decide +kernel
theorem dX7_share_1 : decode cX7_share 1 = .ok (.iconst 0, 1) := by decide +kernel
theorem dX7_share_2 : decode cX7_share 2 = .ok (.putfield 62, 3) := by decide +kernel
theorem dX7_share_5 : decode cX7_share 5 = .ok (.iload_n 1, 1) := by decide +kernel
theorem dX7_share_6 : decode cX7_share 6 = .ok (.ifCond .lt 9, 3) := by decide +kernel
theorem dX7_share_9 : decode cX7_share 9 = .ok (.iload_n 1, 1) := by decide +kernel
theorem dX7_share_10 : decode cX7_share 10 = .ok (.bipush 32, 2) := by decide +kernel
theorem dX7_share_12 : decode cX7_share 12 = .ok (.if_icmp .lt 7, 3) := by decide +kernel
theorem dX7_share_15 : decode cX7_share 15 = .ok (.iconst (-1), 1) := by decide +kernel
theorem dX7_share_16 : decode cX7_share 16 = .ok (.goto 20, 3) := by decide +kernel
theorem dX7_share_19 : decode cX7_share 19 = .ok (.aload_n 0, 1) := by decide +kernel
theorem dX7_share_20 : decode cX7_share 20 = .ok (.getfield 69, 3) := by decide +kernel
theorem dX7_share_23 : decode cX7_share 23 = .ok (.ifCond .eq 12, 3) := by decide +kernel
theorem dX7_share_26 : decode cX7_share 26 = .ok (.aload_n 0, 1) := by decide +kernel
theorem dX7_share_27 : decode cX7_share 27 = .ok (.getfield 20, 3) := by decide +kernel
theorem dX7_share_30 : decode cX7_share 30 = .ok (.iload_n 1, 1) := by decide +kernel
theorem dX7_share_31 : decode cX7_share 31 = .ok (.iaload, 1) := by decide +kernel
theorem dX7_share_32 : decode cX7_share 32 = .ok (.goto 4, 3) := by decide +kernel
theorem dX7_share_35 : decode cX7_share 35 = .ok (.iconst 0, 1) := by decide +kernel
theorem dX7_share_36 : decode cX7_share 36 = .ok (.ireturn, 1) := by decide +kernel
end
section
theorem dX7_loss_0 : decode cX7_loss 0 = .ok (.aload_n 0, 1) := by decide +kernel
theorem dX7_loss_1 : decode cX7_loss 1 = .ok (.iconst 0, 1) := by decide +kernel
theorem dX7_loss_2 : decode cX7_loss 2 = .ok (.putfield 62, 3) := by decide +kernel
theorem dX7_loss_5 : decode cX7_loss 5 = .ok (.aload_n 0, 1) := by decide +kernel
theorem dX7_loss_6 : decode cX7_loss 6 = .ok (.getfield 69, 3) := by decide +kernel
theorem dX7_loss_9 : decode cX7_loss 9 = .ok (.ifCond .ne 7, 3) := by decide +kernel
theorem dX7_loss_12 : decode cX7_loss 12 = .ok (.ldc2_w 81, 3) := by decide +kernel
theorem dX7_loss_15 : decode cX7_loss 15 = .ok (.lreturn, 1) := by decide +kernel
theorem dX7_loss_16 : decode cX7_loss 16 = .ok (.lconst 0, 1) := by decide +kernel
theorem dX7_loss_17 : decode cX7_loss 17 = .ok (.lstore_n 1, 1) := by decide +kernel
theorem dX7_loss_18 : decode cX7_loss 18 = .ok (.iconst 0, 1) := by decide +kernel
theorem dX7_loss_19 : decode cX7_loss 19 = .ok (.istore_n 3, 1) := by decide +kernel
theorem dX7_loss_20 : decode cX7_loss 20 = .ok (.iload_n 3, 1) := by decide +kernel
theorem dX7_loss_21 : decode cX7_loss 21 = .ok (.bipush 32, 2) := by decide +kernel
theorem dX7_loss_23 : decode cX7_loss 23 = .ok (.if_icmp .ge 51, 3) := by decide +kernel
theorem dX7_loss_26 : decode cX7_loss 26 = .ok (.lload_n 1, 1) := by decide +kernel
theorem dX7_loss_27 : decode cX7_loss 27 = .ok (.aload_n 0, 1) := by decide +kernel
theorem dX7_loss_28 : decode cX7_loss 28 = .ok (.getfield 20, 3) := by decide +kernel
theorem dX7_loss_31 : decode cX7_loss 31 = .ok (.iload_n 3, 1) := by decide +kernel
theorem dX7_loss_32 : decode cX7_loss 32 = .ok (.iaload, 1) := by decide +kernel
theorem dX7_loss_33 : decode cX7_loss 33 = .ok (.ifCond .le 32, 3) := by decide +kernel
theorem dX7_loss_36 : decode cX7_loss 36 = .ok (.aload_n 0, 1) := by decide +kernel
theorem dX7_loss_37 : decode cX7_loss 37 = .ok (.getfield 17, 3) := by decide +kernel
theorem dX7_loss_40 : decode cX7_loss 40 = .ok (.iload_n 3, 1) := by decide +kernel
theorem dX7_loss_41 : decode cX7_loss 41 = .ok (.iaload, 1) := by decide +kernel
theorem dX7_loss_42 : decode cX7_loss 42 = .ok (.i2l, 1) := by decide +kernel
theorem dX7_loss_43 : decode cX7_loss 43 = .ok (.aload_n 0, 1) := by decide +kernel
theorem dX7_loss_44 : decode cX7_loss 44 = .ok (.getfield 59, 3) := by decide +kernel
theorem dX7_loss_47 : decode cX7_loss 47 = .ok (.i2l, 1) := by decide +kernel
theorem dX7_loss_48 : decode cX7_loss 48 = .ok (.bipush 30, 2) := by decide +kernel
theorem dX7_loss_50 : decode cX7_loss 50 = .ok (.lshl, 1) := by decide +kernel
theorem dX7_loss_51 : decode cX7_loss 51 = .ok (.aload_n 0, 1) := by decide +kernel
theorem dX7_loss_52 : decode cX7_loss 52 = .ok (.getfield 20, 3) := by decide +kernel
theorem dX7_loss_55 : decode cX7_loss 55 = .ok (.iload_n 3, 1) := by decide +kernel
theorem dX7_loss_56 : decode cX7_loss 56 = .ok (.iaload, 1) := by decide +kernel
theorem dX7_loss_57 : decode cX7_loss 57 = .ok (.invokestatic 83, 3) := by decide +kernel
theorem dX7_loss_60 : decode cX7_loss 60 = .ok (.lsub, 1) := by decide +kernel
theorem dX7_loss_61 : decode cX7_loss 61 = .ok (.lmul, 1) := by decide +kernel
theorem dX7_loss_62 : decode cX7_loss 62 = .ok (.goto 4, 3) := by decide +kernel
theorem dX7_loss_65 : decode cX7_loss 65 = .ok (.lconst 0, 1) := by decide +kernel
theorem dX7_loss_66 : decode cX7_loss 66 = .ok (.ladd, 1) := by decide +kernel
theorem dX7_loss_67 : decode cX7_loss 67 = .ok (.lstore_n 1, 1) := by decide +kernel
theorem dX7_loss_68 : decode cX7_loss 68 = .ok (.iinc 3 1, 3) := by decide +kernel
theorem dX7_loss_71 : decode cX7_loss 71 = .ok (.goto (-51), 3) := by decide +kernel
theorem dX7_loss_74 : decode cX7_loss 74 = .ok (.lload_n 1, 1) := by decide +kernel
theorem dX7_loss_75 : decode cX7_loss 75 = .ok (.lreturn, 1) := by decide +kernel
theorem dX7_spread_0 : decode cX7_spread 0 = .ok (.aload_n 0, 1) := by decide +kernel
theorem dX7_spread_1 : decode cX7_spread 1 = .ok (.iconst 0, 1) := by decide +kernel
theorem dX7_spread_2 : decode cX7_spread 2 = .ok (.putfield 62, 3) := by decide +kernel
theorem dX7_spread_5 : decode cX7_spread 5 = .ok (.aload_n 0, 1) := by decide +kernel
theorem dX7_spread_6 : decode cX7_spread 6 = .ok (.getfield 69, 3) := by decide +kernel
theorem dX7_spread_9 : decode cX7_spread 9 = .ok (.ifCond .ne 6, 3) := by decide +kernel
theorem dX7_spread_12 : decode cX7_spread 12 = .ok (.bipush (-2), 2) := by decide +kernel
theorem dX7_spread_14 : decode cX7_spread 14 = .ok (.ireturn, 1) := by decide +kernel
theorem dX7_spread_15 : decode cX7_spread 15 = .ok (.aload_n 0, 1) := by decide +kernel
theorem dX7_spread_16 : decode cX7_spread 16 = .ok (.iload_n 1, 1) := by decide +kernel
theorem dX7_spread_17 : decode cX7_spread 17 = .ok (.ifCond .lt 13, 3) := by decide +kernel
theorem dX7_spread_20 : decode cX7_spread 20 = .ok (.iload_n 1, 1) := by decide +kernel
theorem dX7_spread_21 : decode cX7_spread 21 = .ok (.iconst 1, 1) := by decide +kernel
theorem dX7_spread_22 : decode cX7_spread 22 = .ok (.aload_n 0, 1) := by decide +kernel
theorem dX7_spread_23 : decode cX7_spread 23 = .ok (.getfield 59, 3) := by decide +kernel
theorem dX7_spread_26 : decode cX7_spread 26 = .ok (.ishl, 1) := by decide +kernel
theorem dX7_spread_27 : decode cX7_spread 27 = .ok (.if_icmp .lt 7, 3) := by decide +kernel
theorem dX7_spread_30 : decode cX7_spread 30 = .ok (.iconst 1, 1) := by decide +kernel
theorem dX7_spread_31 : decode cX7_spread 31 = .ok (.goto 4, 3) := by decide +kernel
theorem dX7_spread_34 : decode cX7_spread 34 = .ok (.iconst 0, 1) := by decide +kernel
theorem dX7_spread_35 : decode cX7_spread 35 = .ok (.putfield 62, 3) := by decide +kernel
theorem dX7_spread_38 : decode cX7_spread 38 = .ok (.aload_n 0, 1) := by decide +kernel
theorem dX7_spread_39 : decode cX7_spread 39 = .ok (.getfield 62, 3) := by decide +kernel
theorem dX7_spread_42 : decode cX7_spread 42 = .ok (.ifCond .le 7, 3) := by decide +kernel
theorem dX7_spread_45 : decode cX7_spread 45 = .ok (.iconst 0, 1) := by decide +kernel
theorem dX7_spread_46 : decode cX7_spread 46 = .ok (.goto 9, 3) := by decide +kernel
theorem dX7_spread_49 : decode cX7_spread 49 = .ok (.aload_n 0, 1) := by decide +kernel
theorem dX7_spread_50 : decode cX7_spread 50 = .ok (.getfield 29, 3) := by decide +kernel
theorem dX7_spread_53 : decode cX7_spread 53 = .ok (.iload_n 1, 1) := by decide +kernel
theorem dX7_spread_54 : decode cX7_spread 54 = .ok (.iaload, 1) := by decide +kernel
theorem dX7_spread_55 : decode cX7_spread 55 = .ok (.ireturn, 1) := by decide +kernel
theorem dX7_form_0 : decode cX7_form 0 = .ok (.aload_n 0, 1) := by decide +kernel
theorem dX7_form_1 : decode cX7_form 1 = .ok (.iconst 0, 1) := by decide +kernel
theorem dX7_form_2 : decode cX7_form 2 = .ok (.putfield 62, 3) := by decide +kernel
theorem dX7_form_5 : decode cX7_form 5 = .ok (.iload_n 1, 1) := by decide +kernel
theorem dX7_form_6 : decode cX7_form 6 = .ok (.ifCond .lt 8, 3) := by decide +kernel
theorem dX7_form_9 : decode cX7_form 9 = .ok (.iload_n 1, 1) := by decide +kernel
theorem dX7_form_10 : decode cX7_form 10 = .ok (.iconst 3, 1) := by decide +kernel
theorem dX7_form_11 : decode cX7_form 11 = .ok (.if_icmp .le 5, 3) := by decide +kernel
theorem dX7_form_14 : decode cX7_form 14 = .ok (.iconst (-1), 1) := by decide +kernel
theorem dX7_form_15 : decode cX7_form 15 = .ok (.ireturn, 1) := by decide +kernel
theorem dX7_form_16 : decode cX7_form 16 = .ok (.aload_n 0, 1) := by decide +kernel
theorem dX7_form_17 : decode cX7_form 17 = .ok (.getfield 91, 3) := by decide +kernel
theorem dX7_form_20 : decode cX7_form 20 = .ok (.istore_n 2, 1) := by decide +kernel
theorem dX7_form_21 : decode cX7_form 21 = .ok (.aload_n 0, 1) := by decide +kernel
theorem dX7_form_22 : decode cX7_form 22 = .ok (.iload_n 1, 1) := by decide +kernel
theorem dX7_form_23 : decode cX7_form 23 = .ok (.putfield 91, 3) := by decide +kernel
theorem dX7_form_26 : decode cX7_form 26 = .ok (.iload_n 2, 1) := by decide +kernel
theorem dX7_form_27 : decode cX7_form 27 = .ok (.ireturn, 1) := by decide +kernel
theorem dX7_lanes_0 : decode cX7_lanes 0 = .ok (.aload_n 0, 1) := by decide +kernel
theorem dX7_lanes_1 : decode cX7_lanes 1 = .ok (.iconst 0, 1) := by decide +kernel
theorem dX7_lanes_2 : decode cX7_lanes 2 = .ok (.putfield 62, 3) := by decide +kernel
theorem dX7_lanes_5 : decode cX7_lanes 5 = .ok (.iload_n 1, 1) := by decide +kernel
theorem dX7_lanes_6 : decode cX7_lanes 6 = .ok (.iconst 1, 1) := by decide +kernel
theorem dX7_lanes_7 : decode cX7_lanes 7 = .ok (.if_icmp .eq 15, 3) := by decide +kernel
theorem dX7_lanes_10 : decode cX7_lanes 10 = .ok (.iload_n 1, 1) := by decide +kernel
theorem dX7_lanes_11 : decode cX7_lanes 11 = .ok (.iconst 2, 1) := by decide +kernel
theorem dX7_lanes_12 : decode cX7_lanes 12 = .ok (.if_icmp .eq 10, 3) := by decide +kernel
theorem dX7_lanes_15 : decode cX7_lanes 15 = .ok (.iload_n 1, 1) := by decide +kernel
theorem dX7_lanes_16 : decode cX7_lanes 16 = .ok (.iconst 4, 1) := by decide +kernel
theorem dX7_lanes_17 : decode cX7_lanes 17 = .ok (.if_icmp .eq 5, 3) := by decide +kernel
theorem dX7_lanes_20 : decode cX7_lanes 20 = .ok (.iconst (-1), 1) := by decide +kernel
theorem dX7_lanes_21 : decode cX7_lanes 21 = .ok (.ireturn, 1) := by decide +kernel
theorem dX7_lanes_22 : decode cX7_lanes 22 = .ok (.aload_n 0, 1) := by decide +kernel
theorem dX7_lanes_23 : decode cX7_lanes 23 = .ok (.getfield 7, 3) := by decide +kernel
theorem dX7_lanes_26 : decode cX7_lanes 26 = .ok (.istore_n 2, 1) := by decide +kernel
theorem dX7_lanes_27 : decode cX7_lanes 27 = .ok (.aload_n 0, 1) := by decide +kernel
theorem dX7_lanes_28 : decode cX7_lanes 28 = .ok (.iload_n 1, 1) := by decide +kernel
theorem dX7_lanes_29 : decode cX7_lanes 29 = .ok (.putfield 7, 3) := by decide +kernel
theorem dX7_lanes_32 : decode cX7_lanes 32 = .ok (.iload_n 2, 1) := by decide +kernel
theorem dX7_lanes_33 : decode cX7_lanes 33 = .ok (.ireturn, 1) := by decide +kernel
theorem dX7_firstState_0 : decode cX7_firstState 0 = .ok (.iload_n 0, 1) := by decide +kernel
theorem dX7_firstState_1 : decode cX7_firstState 1 = .ok (.iconst 1, 1) := by decide +kernel
theorem dX7_firstState_2 : decode cX7_firstState 2 = .ok (.if_icmp .ne 9, 3) := by decide +kernel
theorem dX7_firstState_5 : decode cX7_firstState 5 = .ok (.ldc2_w 77, 3) := by decide +kernel
theorem dX7_firstState_8 : decode cX7_firstState 8 = .ok (.goto 17, 3) := by decide +kernel
theorem dX7_firstState_11 : decode cX7_firstState 11 = .ok (.iload_n 0, 1) := by decide +kernel
theorem dX7_firstState_12 : decode cX7_firstState 12 = .ok (.iconst 2, 1) := by decide +kernel
theorem dX7_firstState_13 : decode cX7_firstState 13 = .ok (.if_icmp .ne 9, 3) := by decide +kernel
theorem dX7_firstState_16 : decode cX7_firstState 16 = .ok (.lconst 1, 1) := by decide +kernel
theorem dX7_firstState_17 : decode cX7_firstState 17 = .ok (.iload_n 1, 1) := by decide +kernel
theorem dX7_firstState_18 : decode cX7_firstState 18 = .ok (.lshl, 1) := by decide +kernel
theorem dX7_firstState_19 : decode cX7_firstState 19 = .ok (.goto 6, 3) := by decide +kernel
theorem dX7_firstState_22 : decode cX7_firstState 22 = .ok (.ldc2_w 94, 3) := by decide +kernel
theorem dX7_firstState_25 : decode cX7_firstState 25 = .ok (.lreturn, 1) := by decide +kernel
theorem dX7_putByte_0 : decode cX7_putByte 0 = .ok (.aload_n 0, 1) := by decide +kernel
theorem dX7_putByte_1 : decode cX7_putByte 1 = .ok (.getfield 38, 3) := by decide +kernel
theorem dX7_putByte_4 : decode cX7_putByte 4 = .ok (.aload_n 0, 1) := by decide +kernel
theorem dX7_putByte_5 : decode cX7_putByte 5 = .ok (.getfield 96, 3) := by decide +kernel
theorem dX7_putByte_8 : decode cX7_putByte 8 = .ok (.iload_n 1, 1) := by decide +kernel
theorem dX7_putByte_9 : decode cX7_putByte 9 = .ok (.sipush 255, 3) := by decide +kernel
theorem dX7_putByte_12 : decode cX7_putByte 12 = .ok (.iand, 1) := by decide +kernel
theorem dX7_putByte_13 : decode cX7_putByte 13 = .ok (.iastore, 1) := by decide +kernel
theorem dX7_putByte_14 : decode cX7_putByte 14 = .ok (.aload_n 0, 1) := by decide +kernel
theorem dX7_putByte_15 : decode cX7_putByte 15 = .ok (.dup, 1) := by decide +kernel
theorem dX7_putByte_16 : decode cX7_putByte 16 = .ok (.getfield 96, 3) := by decide +kernel
theorem dX7_putByte_19 : decode cX7_putByte 19 = .ok (.iconst 1, 1) := by decide +kernel
theorem dX7_putByte_20 : decode cX7_putByte 20 = .ok (.iadd, 1) := by decide +kernel
theorem dX7_putByte_21 : decode cX7_putByte 21 = .ok (.putfield 96, 3) := by decide +kernel
theorem dX7_putByte_24 : decode cX7_putByte 24 = .ok (.return_, 1) := by decide +kernel
theorem dX7_putWide_0 : decode cX7_putWide 0 = .ok (.iload_n 3, 1) := by decide +kernel
theorem dX7_putWide_1 : decode cX7_putWide 1 = .ok (.iconst 1, 1) := by decide +kernel
theorem dX7_putWide_2 : decode cX7_putWide 2 = .ok (.isub, 1) := by decide +kernel
theorem dX7_putWide_3 : decode cX7_putWide 3 = .ok (.istore 4, 2) := by decide +kernel
theorem dX7_putWide_5 : decode cX7_putWide 5 = .ok (.iload 4, 2) := by decide +kernel
theorem dX7_putWide_7 : decode cX7_putWide 7 = .ok (.ifCond .lt 21, 3) := by decide +kernel
theorem dX7_putWide_10 : decode cX7_putWide 10 = .ok (.aload_n 0, 1) := by decide +kernel
theorem dX7_putWide_11 : decode cX7_putWide 11 = .ok (.lload_n 1, 1) := by decide +kernel
theorem dX7_putWide_12 : decode cX7_putWide 12 = .ok (.bipush 8, 2) := by decide +kernel
theorem dX7_putWide_14 : decode cX7_putWide 14 = .ok (.iload 4, 2) := by decide +kernel
theorem dX7_putWide_16 : decode cX7_putWide 16 = .ok (.imul, 1) := by decide +kernel
theorem dX7_putWide_17 : decode cX7_putWide 17 = .ok (.lshr, 1) := by decide +kernel
theorem dX7_putWide_18 : decode cX7_putWide 18 = .ok (.l2i, 1) := by decide +kernel
theorem dX7_putWide_19 : decode cX7_putWide 19 = .ok (.invokevirtual 99, 3) := by decide +kernel
theorem dX7_putWide_22 : decode cX7_putWide 22 = .ok (.iinc 4 (-1), 3) := by decide +kernel
theorem dX7_putWide_25 : decode cX7_putWide 25 = .ok (.goto (-20), 3) := by decide +kernel
theorem dX7_putWide_28 : decode cX7_putWide 28 = .ok (.return_, 1) := by decide +kernel
theorem dX7_putBits_0 : decode cX7_putBits 0 = .ok (.iload_n 2, 1) := by decide +kernel
theorem dX7_putBits_1 : decode cX7_putBits 1 = .ok (.iconst 1, 1) := by decide +kernel
theorem dX7_putBits_2 : decode cX7_putBits 2 = .ok (.isub, 1) := by decide +kernel
theorem dX7_putBits_3 : decode cX7_putBits 3 = .ok (.istore_n 3, 1) := by decide +kernel
theorem dX7_putBits_4 : decode cX7_putBits 4 = .ok (.iload_n 3, 1) := by decide +kernel
theorem dX7_putBits_5 : decode cX7_putBits 5 = .ok (.ifCond .lt 61, 3) := by decide +kernel
theorem dX7_putBits_8 : decode cX7_putBits 8 = .ok (.aload_n 0, 1) := by decide +kernel
theorem dX7_putBits_9 : decode cX7_putBits 9 = .ok (.getfield 102, 3) := by decide +kernel
theorem dX7_putBits_12 : decode cX7_putBits 12 = .ok (.ifCond .ne 8, 3) := by decide +kernel
theorem dX7_putBits_15 : decode cX7_putBits 15 = .ok (.aload_n 0, 1) := by decide +kernel
theorem dX7_putBits_16 : decode cX7_putBits 16 = .ok (.iconst 0, 1) := by decide +kernel
theorem dX7_putBits_17 : decode cX7_putBits 17 = .ok (.invokevirtual 99, 3) := by decide +kernel
theorem dX7_putBits_20 : decode cX7_putBits 20 = .ok (.aload_n 0, 1) := by decide +kernel
theorem dX7_putBits_21 : decode cX7_putBits 21 = .ok (.getfield 38, 3) := by decide +kernel
theorem dX7_putBits_24 : decode cX7_putBits 24 = .ok (.aload_n 0, 1) := by decide +kernel
theorem dX7_putBits_25 : decode cX7_putBits 25 = .ok (.getfield 96, 3) := by decide +kernel
theorem dX7_putBits_28 : decode cX7_putBits 28 = .ok (.iconst 1, 1) := by decide +kernel
theorem dX7_putBits_29 : decode cX7_putBits 29 = .ok (.isub, 1) := by decide +kernel
theorem dX7_putBits_30 : decode cX7_putBits 30 = .ok (.dup2, 1) := by decide +kernel
theorem dX7_putBits_31 : decode cX7_putBits 31 = .ok (.iaload, 1) := by decide +kernel
theorem dX7_putBits_32 : decode cX7_putBits 32 = .ok (.iload_n 1, 1) := by decide +kernel
theorem dX7_putBits_33 : decode cX7_putBits 33 = .ok (.iload_n 3, 1) := by decide +kernel
theorem dX7_putBits_34 : decode cX7_putBits 34 = .ok (.ishr, 1) := by decide +kernel
theorem dX7_putBits_35 : decode cX7_putBits 35 = .ok (.iconst 1, 1) := by decide +kernel
theorem dX7_putBits_36 : decode cX7_putBits 36 = .ok (.iand, 1) := by decide +kernel
theorem dX7_putBits_37 : decode cX7_putBits 37 = .ok (.bipush 7, 2) := by decide +kernel
theorem dX7_putBits_39 : decode cX7_putBits 39 = .ok (.aload_n 0, 1) := by decide +kernel
theorem dX7_putBits_40 : decode cX7_putBits 40 = .ok (.getfield 102, 3) := by decide +kernel
theorem dX7_putBits_43 : decode cX7_putBits 43 = .ok (.isub, 1) := by decide +kernel
theorem dX7_putBits_44 : decode cX7_putBits 44 = .ok (.ishl, 1) := by decide +kernel
theorem dX7_putBits_45 : decode cX7_putBits 45 = .ok (.ior, 1) := by decide +kernel
theorem dX7_putBits_46 : decode cX7_putBits 46 = .ok (.iastore, 1) := by decide +kernel
theorem dX7_putBits_47 : decode cX7_putBits 47 = .ok (.aload_n 0, 1) := by decide +kernel
theorem dX7_putBits_48 : decode cX7_putBits 48 = .ok (.aload_n 0, 1) := by decide +kernel
theorem dX7_putBits_49 : decode cX7_putBits 49 = .ok (.getfield 102, 3) := by decide +kernel
theorem dX7_putBits_52 : decode cX7_putBits 52 = .ok (.iconst 1, 1) := by decide +kernel
theorem dX7_putBits_53 : decode cX7_putBits 53 = .ok (.iadd, 1) := by decide +kernel
theorem dX7_putBits_54 : decode cX7_putBits 54 = .ok (.bipush 8, 2) := by decide +kernel
theorem dX7_putBits_56 : decode cX7_putBits 56 = .ok (.irem, 1) := by decide +kernel
theorem dX7_putBits_57 : decode cX7_putBits 57 = .ok (.putfield 102, 3) := by decide +kernel
theorem dX7_putBits_60 : decode cX7_putBits 60 = .ok (.iinc 3 (-1), 3) := by decide +kernel
theorem dX7_putBits_63 : decode cX7_putBits 63 = .ok (.goto (-59), 3) := by decide +kernel
theorem dX7_putBits_66 : decode cX7_putBits 66 = .ok (.return_, 1) := by decide +kernel
theorem dX7_bitsOf_0 : decode cX7_bitsOf 0 = .ok (.iconst 0, 1) := by decide +kernel
theorem dX7_bitsOf_1 : decode cX7_bitsOf 1 = .ok (.istore_n 1, 1) := by decide +kernel
theorem dX7_bitsOf_2 : decode cX7_bitsOf 2 = .ok (.iload_n 0, 1) := by decide +kernel
theorem dX7_bitsOf_3 : decode cX7_bitsOf 3 = .ok (.iload_n 1, 1) := by decide +kernel
theorem dX7_bitsOf_4 : decode cX7_bitsOf 4 = .ok (.ishr, 1) := by decide +kernel
theorem dX7_bitsOf_5 : decode cX7_bitsOf 5 = .ok (.ifCond .le 9, 3) := by decide +kernel
theorem dX7_bitsOf_8 : decode cX7_bitsOf 8 = .ok (.iinc 1 1, 3) := by decide +kernel
theorem dX7_bitsOf_11 : decode cX7_bitsOf 11 = .ok (.goto (-9), 3) := by decide +kernel
theorem dX7_bitsOf_14 : decode cX7_bitsOf 14 = .ok (.iload_n 1, 1) := by decide +kernel
theorem dX7_bitsOf_15 : decode cX7_bitsOf 15 = .ok (.ireturn, 1) := by decide +kernel
theorem dX7_writeTable_0 : decode cX7_writeTable 0 = .ok (.iconst 1, 1) := by decide +kernel
theorem dX7_writeTable_1 : decode cX7_writeTable 1 = .ok (.aload_n 0, 1) := by decide +kernel
theorem dX7_writeTable_2 : decode cX7_writeTable 2 = .ok (.getfield 59, 3) := by decide +kernel
theorem dX7_writeTable_5 : decode cX7_writeTable 5 = .ok (.ishl, 1) := by decide +kernel
theorem dX7_writeTable_6 : decode cX7_writeTable 6 = .ok (.istore_n 1, 1) := by decide +kernel
theorem dX7_writeTable_7 : decode cX7_writeTable 7 = .ok (.aload_n 0, 1) := by decide +kernel
theorem dX7_writeTable_8 : decode cX7_writeTable 8 = .ok (.iconst 0, 1) := by decide +kernel
theorem dX7_writeTable_9 : decode cX7_writeTable 9 = .ok (.putfield 102, 3) := by decide +kernel
theorem dX7_writeTable_12 : decode cX7_writeTable 12 = .ok (.iconst 0, 1) := by decide +kernel
theorem dX7_writeTable_13 : decode cX7_writeTable 13 = .ok (.istore_n 2, 1) := by decide +kernel
theorem dX7_writeTable_14 : decode cX7_writeTable 14 = .ok (.iload_n 2, 1) := by decide +kernel
theorem dX7_writeTable_15 : decode cX7_writeTable 15 = .ok (.bipush 32, 2) := by decide +kernel
theorem dX7_writeTable_17 : decode cX7_writeTable 17 = .ok (.if_icmp .ge 36, 3) := by decide +kernel
theorem dX7_writeTable_20 : decode cX7_writeTable 20 = .ok (.iload_n 1, 1) := by decide +kernel
theorem dX7_writeTable_21 : decode cX7_writeTable 21 = .ok (.ifCond .le 32, 3) := by decide +kernel
theorem dX7_writeTable_24 : decode cX7_writeTable 24 = .ok (.aload_n 0, 1) := by decide +kernel
theorem dX7_writeTable_25 : decode cX7_writeTable 25 = .ok (.aload_n 0, 1) := by decide +kernel
theorem dX7_writeTable_26 : decode cX7_writeTable 26 = .ok (.getfield 20, 3) := by decide +kernel
theorem dX7_writeTable_29 : decode cX7_writeTable 29 = .ok (.iload_n 2, 1) := by decide +kernel
theorem dX7_writeTable_30 : decode cX7_writeTable 30 = .ok (.iaload, 1) := by decide +kernel
theorem dX7_writeTable_31 : decode cX7_writeTable 31 = .ok (.iload_n 1, 1) := by decide +kernel
theorem dX7_writeTable_32 : decode cX7_writeTable 32 = .ok (.invokestatic 105, 3) := by decide +kernel
theorem dX7_writeTable_35 : decode cX7_writeTable 35 = .ok (.invokevirtual 109, 3) := by decide +kernel
theorem dX7_writeTable_38 : decode cX7_writeTable 38 = .ok (.iload_n 1, 1) := by decide +kernel
theorem dX7_writeTable_39 : decode cX7_writeTable 39 = .ok (.aload_n 0, 1) := by decide +kernel
theorem dX7_writeTable_40 : decode cX7_writeTable 40 = .ok (.getfield 20, 3) := by decide +kernel
theorem dX7_writeTable_43 : decode cX7_writeTable 43 = .ok (.iload_n 2, 1) := by decide +kernel
theorem dX7_writeTable_44 : decode cX7_writeTable 44 = .ok (.iaload, 1) := by decide +kernel
theorem dX7_writeTable_45 : decode cX7_writeTable 45 = .ok (.isub, 1) := by decide +kernel
theorem dX7_writeTable_46 : decode cX7_writeTable 46 = .ok (.istore_n 1, 1) := by decide +kernel
theorem dX7_writeTable_47 : decode cX7_writeTable 47 = .ok (.iinc 2 1, 3) := by decide +kernel
theorem dX7_writeTable_50 : decode cX7_writeTable 50 = .ok (.goto (-36), 3) := by decide +kernel
theorem dX7_writeTable_53 : decode cX7_writeTable 53 = .ok (.aload_n 0, 1) := by decide +kernel
theorem dX7_writeTable_54 : decode cX7_writeTable 54 = .ok (.iconst 0, 1) := by decide +kernel
theorem dX7_writeTable_55 : decode cX7_writeTable 55 = .ok (.putfield 102, 3) := by decide +kernel
theorem dX7_writeTable_58 : decode cX7_writeTable 58 = .ok (.return_, 1) := by decide +kernel
theorem dX7_writeBytes_0 : decode cX7_writeBytes 0 = .ok (.aload_n 0, 1) := by decide +kernel
theorem dX7_writeBytes_1 : decode cX7_writeBytes 1 = .ok (.getfield 41, 3) := by decide +kernel
theorem dX7_writeBytes_4 : decode cX7_writeBytes 4 = .ok (.iload_n 1, 1) := by decide +kernel
theorem dX7_writeBytes_5 : decode cX7_writeBytes 5 = .ok (.laload, 1) := by decide +kernel
theorem dX7_writeBytes_6 : decode cX7_writeBytes 6 = .ok (.lstore 4, 2) := by decide +kernel
theorem dX7_writeBytes_8 : decode cX7_writeBytes 8 = .ok (.lload 4, 2) := by decide +kernel
theorem dX7_writeBytes_10 : decode cX7_writeBytes 10 = .ok (.lconst 1, 1) := by decide +kernel
theorem dX7_writeBytes_11 : decode cX7_writeBytes 11 = .ok (.bipush 31, 2) := by decide +kernel
theorem dX7_writeBytes_13 : decode cX7_writeBytes 13 = .ok (.aload_n 0, 1) := by decide +kernel
theorem dX7_writeBytes_14 : decode cX7_writeBytes 14 = .ok (.getfield 59, 3) := by decide +kernel
theorem dX7_writeBytes_17 : decode cX7_writeBytes 17 = .ok (.isub, 1) := by decide +kernel
theorem dX7_writeBytes_18 : decode cX7_writeBytes 18 = .ok (.lshl, 1) := by decide +kernel
theorem dX7_writeBytes_19 : decode cX7_writeBytes 19 = .ok (.iload_n 2, 1) := by decide +kernel
theorem dX7_writeBytes_20 : decode cX7_writeBytes 20 = .ok (.i2l, 1) := by decide +kernel
theorem dX7_writeBytes_21 : decode cX7_writeBytes 21 = .ok (.lmul, 1) := by decide +kernel
theorem dX7_writeBytes_22 : decode cX7_writeBytes 22 = .ok (.lcmp, 1) := by decide +kernel
theorem dX7_writeBytes_23 : decode cX7_writeBytes 23 = .ok (.ifCond .lt 39, 3) := by decide +kernel
theorem dX7_writeBytes_26 : decode cX7_writeBytes 26 = .ok (.aload_n 0, 1) := by decide +kernel
theorem dX7_writeBytes_27 : decode cX7_writeBytes 27 = .ok (.getfield 49, 3) := by decide +kernel
theorem dX7_writeBytes_30 : decode cX7_writeBytes 30 = .ok (.aload_n 0, 1) := by decide +kernel
theorem dX7_writeBytes_31 : decode cX7_writeBytes 31 = .ok (.getfield 113, 3) := by decide +kernel
theorem dX7_writeBytes_34 : decode cX7_writeBytes 34 = .ok (.lload 4, 2) := by decide +kernel
theorem dX7_writeBytes_36 : decode cX7_writeBytes 36 = .ok (.l2i, 1) := by decide +kernel
theorem dX7_writeBytes_37 : decode cX7_writeBytes 37 = .ok (.sipush 255, 3) := by decide +kernel
theorem dX7_writeBytes_40 : decode cX7_writeBytes 40 = .ok (.iand, 1) := by decide +kernel
theorem dX7_writeBytes_41 : decode cX7_writeBytes 41 = .ok (.iastore, 1) := by decide +kernel
theorem dX7_writeBytes_42 : decode cX7_writeBytes 42 = .ok (.aload_n 0, 1) := by decide +kernel
theorem dX7_writeBytes_43 : decode cX7_writeBytes 43 = .ok (.dup, 1) := by decide +kernel
theorem dX7_writeBytes_44 : decode cX7_writeBytes 44 = .ok (.getfield 113, 3) := by decide +kernel
theorem dX7_writeBytes_47 : decode cX7_writeBytes 47 = .ok (.iconst 1, 1) := by decide +kernel
theorem dX7_writeBytes_48 : decode cX7_writeBytes 48 = .ok (.iadd, 1) := by decide +kernel
theorem dX7_writeBytes_49 : decode cX7_writeBytes 49 = .ok (.putfield 113, 3) := by decide +kernel
theorem dX7_writeBytes_52 : decode cX7_writeBytes 52 = .ok (.lload 4, 2) := by decide +kernel
theorem dX7_writeBytes_54 : decode cX7_writeBytes 54 = .ok (.bipush 8, 2) := by decide +kernel
theorem dX7_writeBytes_56 : decode cX7_writeBytes 56 = .ok (.lshr, 1) := by decide +kernel
theorem dX7_writeBytes_57 : decode cX7_writeBytes 57 = .ok (.lstore 4, 2) := by decide +kernel
theorem dX7_writeBytes_59 : decode cX7_writeBytes 59 = .ok (.goto (-51), 3) := by decide +kernel
theorem dX7_writeBytes_62 : decode cX7_writeBytes 62 = .ok (.aload_n 0, 1) := by decide +kernel
theorem dX7_writeBytes_63 : decode cX7_writeBytes 63 = .ok (.getfield 41, 3) := by decide +kernel
theorem dX7_writeBytes_66 : decode cX7_writeBytes 66 = .ok (.iload_n 1, 1) := by decide +kernel
theorem dX7_writeBytes_67 : decode cX7_writeBytes 67 = .ok (.lload 4, 2) := by decide +kernel
theorem dX7_writeBytes_69 : decode cX7_writeBytes 69 = .ok (.iload_n 2, 1) := by decide +kernel
theorem dX7_writeBytes_70 : decode cX7_writeBytes 70 = .ok (.i2l, 1) := by decide +kernel
theorem dX7_writeBytes_71 : decode cX7_writeBytes 71 = .ok (.ldiv, 1) := by decide +kernel
theorem dX7_writeBytes_72 : decode cX7_writeBytes 72 = .ok (.aload_n 0, 1) := by decide +kernel
theorem dX7_writeBytes_73 : decode cX7_writeBytes 73 = .ok (.getfield 59, 3) := by decide +kernel
theorem dX7_writeBytes_76 : decode cX7_writeBytes 76 = .ok (.lshl, 1) := by decide +kernel
theorem dX7_writeBytes_77 : decode cX7_writeBytes 77 = .ok (.lload 4, 2) := by decide +kernel
theorem dX7_writeBytes_79 : decode cX7_writeBytes 79 = .ok (.iload_n 2, 1) := by decide +kernel
theorem dX7_writeBytes_80 : decode cX7_writeBytes 80 = .ok (.i2l, 1) := by decide +kernel
theorem dX7_writeBytes_81 : decode cX7_writeBytes 81 = .ok (.lrem, 1) := by decide +kernel
theorem dX7_writeBytes_82 : decode cX7_writeBytes 82 = .ok (.ladd, 1) := by decide +kernel
theorem dX7_writeBytes_83 : decode cX7_writeBytes 83 = .ok (.iload_n 3, 1) := by decide +kernel
theorem dX7_writeBytes_84 : decode cX7_writeBytes 84 = .ok (.i2l, 1) := by decide +kernel
theorem dX7_writeBytes_85 : decode cX7_writeBytes 85 = .ok (.ladd, 1) := by decide +kernel
theorem dX7_writeBytes_86 : decode cX7_writeBytes 86 = .ok (.lastore, 1) := by decide +kernel
theorem dX7_writeBytes_87 : decode cX7_writeBytes 87 = .ok (.return_, 1) := by decide +kernel
theorem dX7_writeWords_0 : decode cX7_writeWords 0 = .ok (.aload_n 0, 1) := by decide +kernel
theorem dX7_writeWords_1 : decode cX7_writeWords 1 = .ok (.getfield 41, 3) := by decide +kernel
theorem dX7_writeWords_4 : decode cX7_writeWords 4 = .ok (.iload_n 1, 1) := by decide +kernel
theorem dX7_writeWords_5 : decode cX7_writeWords 5 = .ok (.laload, 1) := by decide +kernel
theorem dX7_writeWords_6 : decode cX7_writeWords 6 = .ok (.lstore 4, 2) := by decide +kernel
theorem dX7_writeWords_8 : decode cX7_writeWords 8 = .ok (.lload 4, 2) := by decide +kernel
theorem dX7_writeWords_10 : decode cX7_writeWords 10 = .ok (.lconst 1, 1) := by decide +kernel
theorem dX7_writeWords_11 : decode cX7_writeWords 11 = .ok (.bipush 63, 2) := by decide +kernel
theorem dX7_writeWords_13 : decode cX7_writeWords 13 = .ok (.aload_n 0, 1) := by decide +kernel
theorem dX7_writeWords_14 : decode cX7_writeWords 14 = .ok (.getfield 59, 3) := by decide +kernel
theorem dX7_writeWords_17 : decode cX7_writeWords 17 = .ok (.isub, 1) := by decide +kernel
theorem dX7_writeWords_18 : decode cX7_writeWords 18 = .ok (.lshl, 1) := by decide +kernel
theorem dX7_writeWords_19 : decode cX7_writeWords 19 = .ok (.iload_n 2, 1) := by decide +kernel
theorem dX7_writeWords_20 : decode cX7_writeWords 20 = .ok (.i2l, 1) := by decide +kernel
theorem dX7_writeWords_21 : decode cX7_writeWords 21 = .ok (.lmul, 1) := by decide +kernel
theorem dX7_writeWords_22 : decode cX7_writeWords 22 = .ok (.lcmp, 1) := by decide +kernel
theorem dX7_writeWords_23 : decode cX7_writeWords 23 = .ok (.ifCond .lt 35, 3) := by decide +kernel
theorem dX7_writeWords_26 : decode cX7_writeWords 26 = .ok (.aload_n 0, 1) := by decide +kernel
theorem dX7_writeWords_27 : decode cX7_writeWords 27 = .ok (.getfield 49, 3) := by decide +kernel
theorem dX7_writeWords_30 : decode cX7_writeWords 30 = .ok (.aload_n 0, 1) := by decide +kernel
theorem dX7_writeWords_31 : decode cX7_writeWords 31 = .ok (.getfield 113, 3) := by decide +kernel
theorem dX7_writeWords_34 : decode cX7_writeWords 34 = .ok (.lload 4, 2) := by decide +kernel
theorem dX7_writeWords_36 : decode cX7_writeWords 36 = .ok (.l2i, 1) := by decide +kernel
theorem dX7_writeWords_37 : decode cX7_writeWords 37 = .ok (.iastore, 1) := by decide +kernel
theorem dX7_writeWords_38 : decode cX7_writeWords 38 = .ok (.aload_n 0, 1) := by decide +kernel
theorem dX7_writeWords_39 : decode cX7_writeWords 39 = .ok (.dup, 1) := by decide +kernel
theorem dX7_writeWords_40 : decode cX7_writeWords 40 = .ok (.getfield 113, 3) := by decide +kernel
theorem dX7_writeWords_43 : decode cX7_writeWords 43 = .ok (.iconst 1, 1) := by decide +kernel
theorem dX7_writeWords_44 : decode cX7_writeWords 44 = .ok (.iadd, 1) := by decide +kernel
theorem dX7_writeWords_45 : decode cX7_writeWords 45 = .ok (.putfield 113, 3) := by decide +kernel
theorem dX7_writeWords_48 : decode cX7_writeWords 48 = .ok (.lload 4, 2) := by decide +kernel
theorem dX7_writeWords_50 : decode cX7_writeWords 50 = .ok (.bipush 32, 2) := by decide +kernel
theorem dX7_writeWords_52 : decode cX7_writeWords 52 = .ok (.lushr, 1) := by decide +kernel
theorem dX7_writeWords_53 : decode cX7_writeWords 53 = .ok (.lstore 4, 2) := by decide +kernel
theorem dX7_writeWords_55 : decode cX7_writeWords 55 = .ok (.goto (-47), 3) := by decide +kernel
theorem dX7_writeWords_58 : decode cX7_writeWords 58 = .ok (.aload_n 0, 1) := by decide +kernel
theorem dX7_writeWords_59 : decode cX7_writeWords 59 = .ok (.getfield 41, 3) := by decide +kernel
theorem dX7_writeWords_62 : decode cX7_writeWords 62 = .ok (.iload_n 1, 1) := by decide +kernel
theorem dX7_writeWords_63 : decode cX7_writeWords 63 = .ok (.lload 4, 2) := by decide +kernel
theorem dX7_writeWords_65 : decode cX7_writeWords 65 = .ok (.iload_n 2, 1) := by decide +kernel
theorem dX7_writeWords_66 : decode cX7_writeWords 66 = .ok (.i2l, 1) := by decide +kernel
theorem dX7_writeWords_67 : decode cX7_writeWords 67 = .ok (.ldiv, 1) := by decide +kernel
theorem dX7_writeWords_68 : decode cX7_writeWords 68 = .ok (.aload_n 0, 1) := by decide +kernel
theorem dX7_writeWords_69 : decode cX7_writeWords 69 = .ok (.getfield 59, 3) := by decide +kernel
theorem dX7_writeWords_72 : decode cX7_writeWords 72 = .ok (.lshl, 1) := by decide +kernel
theorem dX7_writeWords_73 : decode cX7_writeWords 73 = .ok (.lload 4, 2) := by decide +kernel
theorem dX7_writeWords_75 : decode cX7_writeWords 75 = .ok (.iload_n 2, 1) := by decide +kernel
theorem dX7_writeWords_76 : decode cX7_writeWords 76 = .ok (.i2l, 1) := by decide +kernel
theorem dX7_writeWords_77 : decode cX7_writeWords 77 = .ok (.lrem, 1) := by decide +kernel
theorem dX7_writeWords_78 : decode cX7_writeWords 78 = .ok (.ladd, 1) := by decide +kernel
theorem dX7_writeWords_79 : decode cX7_writeWords 79 = .ok (.iload_n 3, 1) := by decide +kernel
theorem dX7_writeWords_80 : decode cX7_writeWords 80 = .ok (.i2l, 1) := by decide +kernel
theorem dX7_writeWords_81 : decode cX7_writeWords 81 = .ok (.ladd, 1) := by decide +kernel
theorem dX7_writeWords_82 : decode cX7_writeWords 82 = .ok (.lastore, 1) := by decide +kernel
theorem dX7_writeWords_83 : decode cX7_writeWords 83 = .ok (.return_, 1) := by decide +kernel
theorem dX7_writeBitsOf_0 : decode cX7_writeBitsOf 0 = .ok (.aload_n 0, 1) := by decide +kernel
theorem dX7_writeBitsOf_1 : decode cX7_writeBitsOf 1 = .ok (.getfield 41, 3) := by decide +kernel
theorem dX7_writeBitsOf_4 : decode cX7_writeBitsOf 4 = .ok (.iload_n 1, 1) := by decide +kernel
theorem dX7_writeBitsOf_5 : decode cX7_writeBitsOf 5 = .ok (.laload, 1) := by decide +kernel
theorem dX7_writeBitsOf_6 : decode cX7_writeBitsOf 6 = .ok (.lstore 4, 2) := by decide +kernel
theorem dX7_writeBitsOf_8 : decode cX7_writeBitsOf 8 = .ok (.lload 4, 2) := by decide +kernel
theorem dX7_writeBitsOf_10 : decode cX7_writeBitsOf 10 = .ok (.ldc2_w 79, 3) := by decide +kernel
theorem dX7_writeBitsOf_13 : decode cX7_writeBitsOf 13 = .ok (.iload_n 2, 1) := by decide +kernel
theorem dX7_writeBitsOf_14 : decode cX7_writeBitsOf 14 = .ok (.i2l, 1) := by decide +kernel
theorem dX7_writeBitsOf_15 : decode cX7_writeBitsOf 15 = .ok (.lmul, 1) := by decide +kernel
theorem dX7_writeBitsOf_16 : decode cX7_writeBitsOf 16 = .ok (.lcmp, 1) := by decide +kernel
theorem dX7_writeBitsOf_17 : decode cX7_writeBitsOf 17 = .ok (.ifCond .lt 36, 3) := by decide +kernel
theorem dX7_writeBitsOf_20 : decode cX7_writeBitsOf 20 = .ok (.aload_n 0, 1) := by decide +kernel
theorem dX7_writeBitsOf_21 : decode cX7_writeBitsOf 21 = .ok (.getfield 49, 3) := by decide +kernel
theorem dX7_writeBitsOf_24 : decode cX7_writeBitsOf 24 = .ok (.aload_n 0, 1) := by decide +kernel
theorem dX7_writeBitsOf_25 : decode cX7_writeBitsOf 25 = .ok (.getfield 113, 3) := by decide +kernel
theorem dX7_writeBitsOf_28 : decode cX7_writeBitsOf 28 = .ok (.lload 4, 2) := by decide +kernel
theorem dX7_writeBitsOf_30 : decode cX7_writeBitsOf 30 = .ok (.l2i, 1) := by decide +kernel
theorem dX7_writeBitsOf_31 : decode cX7_writeBitsOf 31 = .ok (.iconst 1, 1) := by decide +kernel
theorem dX7_writeBitsOf_32 : decode cX7_writeBitsOf 32 = .ok (.iand, 1) := by decide +kernel
theorem dX7_writeBitsOf_33 : decode cX7_writeBitsOf 33 = .ok (.iastore, 1) := by decide +kernel
theorem dX7_writeBitsOf_34 : decode cX7_writeBitsOf 34 = .ok (.aload_n 0, 1) := by decide +kernel
theorem dX7_writeBitsOf_35 : decode cX7_writeBitsOf 35 = .ok (.dup, 1) := by decide +kernel
theorem dX7_writeBitsOf_36 : decode cX7_writeBitsOf 36 = .ok (.getfield 113, 3) := by decide +kernel
theorem dX7_writeBitsOf_39 : decode cX7_writeBitsOf 39 = .ok (.iconst 1, 1) := by decide +kernel
theorem dX7_writeBitsOf_40 : decode cX7_writeBitsOf 40 = .ok (.iadd, 1) := by decide +kernel
theorem dX7_writeBitsOf_41 : decode cX7_writeBitsOf 41 = .ok (.putfield 113, 3) := by decide +kernel
theorem dX7_writeBitsOf_44 : decode cX7_writeBitsOf 44 = .ok (.lload 4, 2) := by decide +kernel
theorem dX7_writeBitsOf_46 : decode cX7_writeBitsOf 46 = .ok (.iconst 1, 1) := by decide +kernel
theorem dX7_writeBitsOf_47 : decode cX7_writeBitsOf 47 = .ok (.lshr, 1) := by decide +kernel
theorem dX7_writeBitsOf_48 : decode cX7_writeBitsOf 48 = .ok (.lstore 4, 2) := by decide +kernel
theorem dX7_writeBitsOf_50 : decode cX7_writeBitsOf 50 = .ok (.goto (-42), 3) := by decide +kernel
theorem dX7_writeBitsOf_53 : decode cX7_writeBitsOf 53 = .ok (.aload_n 0, 1) := by decide +kernel
theorem dX7_writeBitsOf_54 : decode cX7_writeBitsOf 54 = .ok (.getfield 41, 3) := by decide +kernel
theorem dX7_writeBitsOf_57 : decode cX7_writeBitsOf 57 = .ok (.iload_n 1, 1) := by decide +kernel
theorem dX7_writeBitsOf_58 : decode cX7_writeBitsOf 58 = .ok (.lconst 1, 1) := by decide +kernel
theorem dX7_writeBitsOf_59 : decode cX7_writeBitsOf 59 = .ok (.aload_n 0, 1) := by decide +kernel
theorem dX7_writeBitsOf_60 : decode cX7_writeBitsOf 60 = .ok (.getfield 59, 3) := by decide +kernel
theorem dX7_writeBitsOf_63 : decode cX7_writeBitsOf 63 = .ok (.lshl, 1) := by decide +kernel
theorem dX7_writeBitsOf_64 : decode cX7_writeBitsOf 64 = .ok (.aload_n 0, 1) := by decide +kernel
theorem dX7_writeBitsOf_65 : decode cX7_writeBitsOf 65 = .ok (.getfield 35, 3) := by decide +kernel
theorem dX7_writeBitsOf_68 : decode cX7_writeBitsOf 68 = .ok (.iload_n 3, 1) := by decide +kernel
theorem dX7_writeBitsOf_69 : decode cX7_writeBitsOf 69 = .ok (.lload 4, 2) := by decide +kernel
theorem dX7_writeBitsOf_71 : decode cX7_writeBitsOf 71 = .ok (.l2i, 1) := by decide +kernel
theorem dX7_writeBitsOf_72 : decode cX7_writeBitsOf 72 = .ok (.iadd, 1) := by decide +kernel
theorem dX7_writeBitsOf_73 : decode cX7_writeBitsOf 73 = .ok (.iload_n 2, 1) := by decide +kernel
theorem dX7_writeBitsOf_74 : decode cX7_writeBitsOf 74 = .ok (.isub, 1) := by decide +kernel
theorem dX7_writeBitsOf_75 : decode cX7_writeBitsOf 75 = .ok (.iaload, 1) := by decide +kernel
theorem dX7_writeBitsOf_76 : decode cX7_writeBitsOf 76 = .ok (.i2l, 1) := by decide +kernel
theorem dX7_writeBitsOf_77 : decode cX7_writeBitsOf 77 = .ok (.ladd, 1) := by decide +kernel
theorem dX7_writeBitsOf_78 : decode cX7_writeBitsOf 78 = .ok (.lastore, 1) := by decide +kernel
theorem dX7_writeBitsOf_79 : decode cX7_writeBitsOf 79 = .ok (.return_, 1) := by decide +kernel
theorem dX7_laySides_0 : decode cX7_laySides 0 = .ok (.aload_n 0, 1) := by decide +kernel
theorem dX7_laySides_1 : decode cX7_laySides 1 = .ok (.iconst 0, 1) := by decide +kernel
theorem dX7_laySides_2 : decode cX7_laySides 2 = .ok (.putfield 116, 3) := by decide +kernel
theorem dX7_laySides_5 : decode cX7_laySides 5 = .ok (.aload_n 0, 1) := by decide +kernel
theorem dX7_laySides_6 : decode cX7_laySides 6 = .ok (.iconst 0, 1) := by decide +kernel
theorem dX7_laySides_7 : decode cX7_laySides 7 = .ok (.putfield 119, 3) := by decide +kernel
theorem dX7_laySides_10 : decode cX7_laySides 10 = .ok (.iconst 0, 1) := by decide +kernel
theorem dX7_laySides_11 : decode cX7_laySides 11 = .ok (.istore 4, 2) := by decide +kernel
theorem dX7_laySides_13 : decode cX7_laySides 13 = .ok (.iload 4, 2) := by decide +kernel
theorem dX7_laySides_15 : decode cX7_laySides 15 = .ok (.bipush 32, 2) := by decide +kernel
theorem dX7_laySides_17 : decode cX7_laySides 17 = .ok (.if_icmp .ge 76, 3) := by decide +kernel
theorem dX7_laySides_20 : decode cX7_laySides 20 = .ok (.iload 4, 2) := by decide +kernel
theorem dX7_laySides_22 : decode cX7_laySides 22 = .ok (.iconst 5, 1) := by decide +kernel
theorem dX7_laySides_23 : decode cX7_laySides 23 = .ok (.iload_n 3, 1) := by decide +kernel
theorem dX7_laySides_24 : decode cX7_laySides 24 = .ok (.isub, 1) := by decide +kernel
theorem dX7_laySides_25 : decode cX7_laySides 25 = .ok (.ishr, 1) := by decide +kernel
theorem dX7_laySides_26 : decode cX7_laySides 26 = .ok (.iload_n 2, 1) := by decide +kernel
theorem dX7_laySides_27 : decode cX7_laySides 27 = .ok (.if_icmp .ne 60, 3) := by decide +kernel
theorem dX7_laySides_30 : decode cX7_laySides 30 = .ok (.aload_n 0, 1) := by decide +kernel
theorem dX7_laySides_31 : decode cX7_laySides 31 = .ok (.dup, 1) := by decide +kernel
theorem dX7_laySides_32 : decode cX7_laySides 32 = .ok (.getfield 116, 3) := by decide +kernel
theorem dX7_laySides_35 : decode cX7_laySides 35 = .ok (.aload_n 0, 1) := by decide +kernel
theorem dX7_laySides_36 : decode cX7_laySides 36 = .ok (.getfield 20, 3) := by decide +kernel
theorem dX7_laySides_39 : decode cX7_laySides 39 = .ok (.bipush 32, 2) := by decide +kernel
theorem dX7_laySides_41 : decode cX7_laySides 41 = .ok (.iload_n 1, 1) := by decide +kernel
theorem dX7_laySides_42 : decode cX7_laySides 42 = .ok (.imul, 1) := by decide +kernel
theorem dX7_laySides_43 : decode cX7_laySides 43 = .ok (.iload 4, 2) := by decide +kernel
theorem dX7_laySides_45 : decode cX7_laySides 45 = .ok (.iadd, 1) := by decide +kernel
theorem dX7_laySides_46 : decode cX7_laySides 46 = .ok (.iaload, 1) := by decide +kernel
theorem dX7_laySides_47 : decode cX7_laySides 47 = .ok (.iadd, 1) := by decide +kernel
theorem dX7_laySides_48 : decode cX7_laySides 48 = .ok (.putfield 116, 3) := by decide +kernel
theorem dX7_laySides_51 : decode cX7_laySides 51 = .ok (.aload_n 0, 1) := by decide +kernel
theorem dX7_laySides_52 : decode cX7_laySides 52 = .ok (.dup, 1) := by decide +kernel
theorem dX7_laySides_53 : decode cX7_laySides 53 = .ok (.getfield 119, 3) := by decide +kernel
theorem dX7_laySides_56 : decode cX7_laySides 56 = .ok (.iload 4, 2) := by decide +kernel
theorem dX7_laySides_58 : decode cX7_laySides 58 = .ok (.iconst 4, 1) := by decide +kernel
theorem dX7_laySides_59 : decode cX7_laySides 59 = .ok (.iload_n 3, 1) := by decide +kernel
theorem dX7_laySides_60 : decode cX7_laySides 60 = .ok (.isub, 1) := by decide +kernel
theorem dX7_laySides_61 : decode cX7_laySides 61 = .ok (.ishr, 1) := by decide +kernel
theorem dX7_laySides_62 : decode cX7_laySides 62 = .ok (.iconst 1, 1) := by decide +kernel
theorem dX7_laySides_63 : decode cX7_laySides 63 = .ok (.iand, 1) := by decide +kernel
theorem dX7_laySides_64 : decode cX7_laySides 64 = .ok (.ifCond .ne 18, 3) := by decide +kernel
theorem dX7_laySides_67 : decode cX7_laySides 67 = .ok (.aload_n 0, 1) := by decide +kernel
theorem dX7_laySides_68 : decode cX7_laySides 68 = .ok (.getfield 20, 3) := by decide +kernel
theorem dX7_laySides_71 : decode cX7_laySides 71 = .ok (.bipush 32, 2) := by decide +kernel
theorem dX7_laySides_73 : decode cX7_laySides 73 = .ok (.iload_n 1, 1) := by decide +kernel
theorem dX7_laySides_74 : decode cX7_laySides 74 = .ok (.imul, 1) := by decide +kernel
theorem dX7_laySides_75 : decode cX7_laySides 75 = .ok (.iload 4, 2) := by decide +kernel
theorem dX7_laySides_77 : decode cX7_laySides 77 = .ok (.iadd, 1) := by decide +kernel
theorem dX7_laySides_78 : decode cX7_laySides 78 = .ok (.iaload, 1) := by decide +kernel
theorem dX7_laySides_79 : decode cX7_laySides 79 = .ok (.goto 4, 3) := by decide +kernel
theorem dX7_laySides_82 : decode cX7_laySides 82 = .ok (.iconst 0, 1) := by decide +kernel
theorem dX7_laySides_83 : decode cX7_laySides 83 = .ok (.iadd, 1) := by decide +kernel
theorem dX7_laySides_84 : decode cX7_laySides 84 = .ok (.putfield 119, 3) := by decide +kernel
theorem dX7_laySides_87 : decode cX7_laySides 87 = .ok (.iinc 4 1, 3) := by decide +kernel
theorem dX7_laySides_90 : decode cX7_laySides 90 = .ok (.goto (-77), 3) := by decide +kernel
theorem dX7_laySides_93 : decode cX7_laySides 93 = .ok (.return_, 1) := by decide +kernel
end
section
theorem dX7_sideChance_0 : decode cX7_sideChance 0 = .ok (.aload_n 0, 1) := by decide +kernel
theorem dX7_sideChance_1 : decode cX7_sideChance 1 = .ok (.getfield 119, 3) := by decide +kernel
theorem dX7_sideChance_4 : decode cX7_sideChance 4 = .ok (.iload_n 1, 1) := by decide +kernel
theorem dX7_sideChance_5 : decode cX7_sideChance 5 = .ok (.imul, 1) := by decide +kernel
theorem dX7_sideChance_6 : decode cX7_sideChance 6 = .ok (.aload_n 0, 1) := by decide +kernel
theorem dX7_sideChance_7 : decode cX7_sideChance 7 = .ok (.getfield 116, 3) := by decide +kernel
theorem dX7_sideChance_10 : decode cX7_sideChance 10 = .ok (.iconst 2, 1) := by decide +kernel
theorem dX7_sideChance_11 : decode cX7_sideChance 11 = .ok (.idiv, 1) := by decide +kernel
theorem dX7_sideChance_12 : decode cX7_sideChance 12 = .ok (.iadd, 1) := by decide +kernel
theorem dX7_sideChance_13 : decode cX7_sideChance 13 = .ok (.aload_n 0, 1) := by decide +kernel
theorem dX7_sideChance_14 : decode cX7_sideChance 14 = .ok (.getfield 116, 3) := by decide +kernel
theorem dX7_sideChance_17 : decode cX7_sideChance 17 = .ok (.idiv, 1) := by decide +kernel
theorem dX7_sideChance_18 : decode cX7_sideChance 18 = .ok (.istore_n 2, 1) := by decide +kernel
theorem dX7_sideChance_19 : decode cX7_sideChance 19 = .ok (.iload_n 2, 1) := by decide +kernel
theorem dX7_sideChance_20 : decode cX7_sideChance 20 = .ok (.iconst 1, 1) := by decide +kernel
theorem dX7_sideChance_21 : decode cX7_sideChance 21 = .ok (.if_icmp .ge 7, 3) := by decide +kernel
theorem dX7_sideChance_24 : decode cX7_sideChance 24 = .ok (.iconst 1, 1) := by decide +kernel
theorem dX7_sideChance_25 : decode cX7_sideChance 25 = .ok (.goto 17, 3) := by decide +kernel
theorem dX7_sideChance_28 : decode cX7_sideChance 28 = .ok (.iload_n 2, 1) := by decide +kernel
theorem dX7_sideChance_29 : decode cX7_sideChance 29 = .ok (.iload_n 1, 1) := by decide +kernel
theorem dX7_sideChance_30 : decode cX7_sideChance 30 = .ok (.iconst 1, 1) := by decide +kernel
theorem dX7_sideChance_31 : decode cX7_sideChance 31 = .ok (.isub, 1) := by decide +kernel
theorem dX7_sideChance_32 : decode cX7_sideChance 32 = .ok (.if_icmp .le 9, 3) := by decide +kernel
theorem dX7_sideChance_35 : decode cX7_sideChance 35 = .ok (.iload_n 1, 1) := by decide +kernel
theorem dX7_sideChance_36 : decode cX7_sideChance 36 = .ok (.iconst 1, 1) := by decide +kernel
theorem dX7_sideChance_37 : decode cX7_sideChance 37 = .ok (.isub, 1) := by decide +kernel
theorem dX7_sideChance_38 : decode cX7_sideChance 38 = .ok (.goto 4, 3) := by decide +kernel
theorem dX7_sideChance_41 : decode cX7_sideChance 41 = .ok (.iload_n 2, 1) := by decide +kernel
theorem dX7_sideChance_42 : decode cX7_sideChance 42 = .ok (.ireturn, 1) := by decide +kernel
theorem dX7_writeSides_0 : decode cX7_writeSides 0 = .ok (.iconst 4, 1) := by decide +kernel
theorem dX7_writeSides_1 : decode cX7_writeSides 1 = .ok (.istore_n 3, 1) := by decide +kernel
theorem dX7_writeSides_2 : decode cX7_writeSides 2 = .ok (.iload_n 3, 1) := by decide +kernel
theorem dX7_writeSides_3 : decode cX7_writeSides 3 = .ok (.ifCond .lt 87, 3) := by decide +kernel
theorem dX7_writeSides_6 : decode cX7_writeSides 6 = .ok (.aload_n 0, 1) := by decide +kernel
theorem dX7_writeSides_7 : decode cX7_writeSides 7 = .ok (.iconst 0, 1) := by decide +kernel
theorem dX7_writeSides_8 : decode cX7_writeSides 8 = .ok (.iload_n 2, 1) := by decide +kernel
theorem dX7_writeSides_9 : decode cX7_writeSides 9 = .ok (.iconst 5, 1) := by decide +kernel
theorem dX7_writeSides_10 : decode cX7_writeSides 10 = .ok (.iload_n 3, 1) := by decide +kernel
theorem dX7_writeSides_11 : decode cX7_writeSides 11 = .ok (.isub, 1) := by decide +kernel
theorem dX7_writeSides_12 : decode cX7_writeSides 12 = .ok (.ishr, 1) := by decide +kernel
theorem dX7_writeSides_13 : decode cX7_writeSides 13 = .ok (.iload_n 3, 1) := by decide +kernel
theorem dX7_writeSides_14 : decode cX7_writeSides 14 = .ok (.invokevirtual 122, 3) := by decide +kernel
theorem dX7_writeSides_17 : decode cX7_writeSides 17 = .ok (.aload_n 0, 1) := by decide +kernel
theorem dX7_writeSides_18 : decode cX7_writeSides 18 = .ok (.getfield 119, 3) := by decide +kernel
theorem dX7_writeSides_21 : decode cX7_writeSides 21 = .ok (.ifCond .le 63, 3) := by decide +kernel
theorem dX7_writeSides_24 : decode cX7_writeSides 24 = .ok (.aload_n 0, 1) := by decide +kernel
theorem dX7_writeSides_25 : decode cX7_writeSides 25 = .ok (.getfield 119, 3) := by decide +kernel
theorem dX7_writeSides_28 : decode cX7_writeSides 28 = .ok (.aload_n 0, 1) := by decide +kernel
theorem dX7_writeSides_29 : decode cX7_writeSides 29 = .ok (.getfield 116, 3) := by decide +kernel
theorem dX7_writeSides_32 : decode cX7_writeSides 32 = .ok (.if_icmp .ge 52, 3) := by decide +kernel
theorem dX7_writeSides_35 : decode cX7_writeSides 35 = .ok (.aload_n 0, 1) := by decide +kernel
theorem dX7_writeSides_36 : decode cX7_writeSides 36 = .ok (.iconst 1, 1) := by decide +kernel
theorem dX7_writeSides_37 : decode cX7_writeSides 37 = .ok (.aload_n 0, 1) := by decide +kernel
theorem dX7_writeSides_38 : decode cX7_writeSides 38 = .ok (.getfield 59, 3) := by decide +kernel
theorem dX7_writeSides_41 : decode cX7_writeSides 41 = .ok (.ishl, 1) := by decide +kernel
theorem dX7_writeSides_42 : decode cX7_writeSides 42 = .ok (.invokevirtual 126, 3) := by decide +kernel
theorem dX7_writeSides_45 : decode cX7_writeSides 45 = .ok (.istore 4, 2) := by decide +kernel
theorem dX7_writeSides_47 : decode cX7_writeSides 47 = .ok (.iload_n 2, 1) := by decide +kernel
theorem dX7_writeSides_48 : decode cX7_writeSides 48 = .ok (.iconst 4, 1) := by decide +kernel
theorem dX7_writeSides_49 : decode cX7_writeSides 49 = .ok (.iload_n 3, 1) := by decide +kernel
theorem dX7_writeSides_50 : decode cX7_writeSides 50 = .ok (.isub, 1) := by decide +kernel
theorem dX7_writeSides_51 : decode cX7_writeSides 51 = .ok (.ishr, 1) := by decide +kernel
theorem dX7_writeSides_52 : decode cX7_writeSides 52 = .ok (.iconst 1, 1) := by decide +kernel
theorem dX7_writeSides_53 : decode cX7_writeSides 53 = .ok (.iand, 1) := by decide +kernel
theorem dX7_writeSides_54 : decode cX7_writeSides 54 = .ok (.ifCond .ne 14, 3) := by decide +kernel
theorem dX7_writeSides_57 : decode cX7_writeSides 57 = .ok (.aload_n 0, 1) := by decide +kernel
theorem dX7_writeSides_58 : decode cX7_writeSides 58 = .ok (.iload_n 1, 1) := by decide +kernel
theorem dX7_writeSides_59 : decode cX7_writeSides 59 = .ok (.iload 4, 2) := by decide +kernel
theorem dX7_writeSides_61 : decode cX7_writeSides 61 = .ok (.iconst 0, 1) := by decide +kernel
theorem dX7_writeSides_62 : decode cX7_writeSides 62 = .ok (.invokevirtual 129, 3) := by decide +kernel
theorem dX7_writeSides_65 : decode cX7_writeSides 65 = .ok (.goto 19, 3) := by decide +kernel
theorem dX7_writeSides_68 : decode cX7_writeSides 68 = .ok (.aload_n 0, 1) := by decide +kernel
theorem dX7_writeSides_69 : decode cX7_writeSides 69 = .ok (.iload_n 1, 1) := by decide +kernel
theorem dX7_writeSides_70 : decode cX7_writeSides 70 = .ok (.iconst 1, 1) := by decide +kernel
theorem dX7_writeSides_71 : decode cX7_writeSides 71 = .ok (.aload_n 0, 1) := by decide +kernel
theorem dX7_writeSides_72 : decode cX7_writeSides 72 = .ok (.getfield 59, 3) := by decide +kernel
theorem dX7_writeSides_75 : decode cX7_writeSides 75 = .ok (.ishl, 1) := by decide +kernel
theorem dX7_writeSides_76 : decode cX7_writeSides 76 = .ok (.iload 4, 2) := by decide +kernel
theorem dX7_writeSides_78 : decode cX7_writeSides 78 = .ok (.isub, 1) := by decide +kernel
theorem dX7_writeSides_79 : decode cX7_writeSides 79 = .ok (.iload 4, 2) := by decide +kernel
theorem dX7_writeSides_81 : decode cX7_writeSides 81 = .ok (.invokevirtual 129, 3) := by decide +kernel
theorem dX7_writeSides_84 : decode cX7_writeSides 84 = .ok (.iinc 3 (-1), 3) := by decide +kernel
theorem dX7_writeSides_87 : decode cX7_writeSides 87 = .ok (.goto (-85), 3) := by decide +kernel
theorem dX7_writeSides_90 : decode cX7_writeSides 90 = .ok (.return_, 1) := by decide +kernel
theorem dX7_mayWrite_0 : decode cX7_mayWrite 0 = .ok (.aload_n 0, 1) := by decide +kernel
theorem dX7_mayWrite_1 : decode cX7_mayWrite 1 = .ok (.getfield 69, 3) := by decide +kernel
theorem dX7_mayWrite_4 : decode cX7_mayWrite 4 = .ok (.istore_n 1, 1) := by decide +kernel
theorem dX7_mayWrite_5 : decode cX7_mayWrite 5 = .ok (.iconst 0, 1) := by decide +kernel
theorem dX7_mayWrite_6 : decode cX7_mayWrite 6 = .ok (.istore_n 2, 1) := by decide +kernel
theorem dX7_mayWrite_7 : decode cX7_mayWrite 7 = .ok (.iload_n 2, 1) := by decide +kernel
theorem dX7_mayWrite_8 : decode cX7_mayWrite 8 = .ok (.aload_n 0, 1) := by decide +kernel
theorem dX7_mayWrite_9 : decode cX7_mayWrite 9 = .ok (.getfield 65, 3) := by decide +kernel
theorem dX7_mayWrite_12 : decode cX7_mayWrite 12 = .ok (.if_icmp .ge 33, 3) := by decide +kernel
theorem dX7_mayWrite_15 : decode cX7_mayWrite 15 = .ok (.iload_n 1, 1) := by decide +kernel
theorem dX7_mayWrite_16 : decode cX7_mayWrite 16 = .ok (.ifCond .eq 29, 3) := by decide +kernel
theorem dX7_mayWrite_19 : decode cX7_mayWrite 19 = .ok (.aload_n 0, 1) := by decide +kernel
theorem dX7_mayWrite_20 : decode cX7_mayWrite 20 = .ok (.getfield 20, 3) := by decide +kernel
theorem dX7_mayWrite_23 : decode cX7_mayWrite 23 = .ok (.aload_n 0, 1) := by decide +kernel
theorem dX7_mayWrite_24 : decode cX7_mayWrite 24 = .ok (.getfield 13, 3) := by decide +kernel
theorem dX7_mayWrite_27 : decode cX7_mayWrite 27 = .ok (.iload_n 2, 1) := by decide +kernel
theorem dX7_mayWrite_28 : decode cX7_mayWrite 28 = .ok (.iaload, 1) := by decide +kernel
theorem dX7_mayWrite_29 : decode cX7_mayWrite 29 = .ok (.iaload, 1) := by decide +kernel
theorem dX7_mayWrite_30 : decode cX7_mayWrite 30 = .ok (.ifCond .le 7, 3) := by decide +kernel
theorem dX7_mayWrite_33 : decode cX7_mayWrite 33 = .ok (.iconst 1, 1) := by decide +kernel
theorem dX7_mayWrite_34 : decode cX7_mayWrite 34 = .ok (.goto 4, 3) := by decide +kernel
theorem dX7_mayWrite_37 : decode cX7_mayWrite 37 = .ok (.iconst 0, 1) := by decide +kernel
theorem dX7_mayWrite_38 : decode cX7_mayWrite 38 = .ok (.istore_n 1, 1) := by decide +kernel
theorem dX7_mayWrite_39 : decode cX7_mayWrite 39 = .ok (.iinc 2 1, 3) := by decide +kernel
theorem dX7_mayWrite_42 : decode cX7_mayWrite 42 = .ok (.goto (-35), 3) := by decide +kernel
theorem dX7_mayWrite_45 : decode cX7_mayWrite 45 = .ok (.iload_n 1, 1) := by decide +kernel
theorem dX7_mayWrite_46 : decode cX7_mayWrite 46 = .ok (.ireturn, 1) := by decide +kernel
theorem dX7_writeForm_0 : decode cX7_writeForm 0 = .ok (.aload_n 0, 1) := by decide +kernel
theorem dX7_writeForm_1 : decode cX7_writeForm 1 = .ok (.iconst 0, 1) := by decide +kernel
theorem dX7_writeForm_2 : decode cX7_writeForm 2 = .ok (.putfield 96, 3) := by decide +kernel
theorem dX7_writeForm_5 : decode cX7_writeForm 5 = .ok (.aload_n 0, 1) := by decide +kernel
theorem dX7_writeForm_6 : decode cX7_writeForm 6 = .ok (.iconst 4, 1) := by decide +kernel
theorem dX7_writeForm_7 : decode cX7_writeForm 7 = .ok (.iload_n 1, 1) := by decide +kernel
theorem dX7_writeForm_8 : decode cX7_writeForm 8 = .ok (.imul, 1) := by decide +kernel
theorem dX7_writeForm_9 : decode cX7_writeForm 9 = .ok (.aload_n 0, 1) := by decide +kernel
theorem dX7_writeForm_10 : decode cX7_writeForm 10 = .ok (.getfield 7, 3) := by decide +kernel
theorem dX7_writeForm_13 : decode cX7_writeForm 13 = .ok (.iconst 4, 1) := by decide +kernel
theorem dX7_writeForm_14 : decode cX7_writeForm 14 = .ok (.if_icmp .ne 7, 3) := by decide +kernel
theorem dX7_writeForm_17 : decode cX7_writeForm 17 = .ok (.iconst 2, 1) := by decide +kernel
theorem dX7_writeForm_18 : decode cX7_writeForm 18 = .ok (.goto 9, 3) := by decide +kernel
theorem dX7_writeForm_21 : decode cX7_writeForm 21 = .ok (.aload_n 0, 1) := by decide +kernel
theorem dX7_writeForm_22 : decode cX7_writeForm 22 = .ok (.getfield 7, 3) := by decide +kernel
theorem dX7_writeForm_25 : decode cX7_writeForm 25 = .ok (.iconst 1, 1) := by decide +kernel
theorem dX7_writeForm_26 : decode cX7_writeForm 26 = .ok (.isub, 1) := by decide +kernel
theorem dX7_writeForm_27 : decode cX7_writeForm 27 = .ok (.iadd, 1) := by decide +kernel
theorem dX7_writeForm_28 : decode cX7_writeForm 28 = .ok (.invokevirtual 99, 3) := by decide +kernel
theorem dX7_writeForm_31 : decode cX7_writeForm 31 = .ok (.aload_n 0, 1) := by decide +kernel
theorem dX7_writeForm_32 : decode cX7_writeForm 32 = .ok (.aload_n 0, 1) := by decide +kernel
theorem dX7_writeForm_33 : decode cX7_writeForm 33 = .ok (.getfield 59, 3) := by decide +kernel
theorem dX7_writeForm_36 : decode cX7_writeForm 36 = .ok (.invokevirtual 99, 3) := by decide +kernel
theorem dX7_writeForm_39 : decode cX7_writeForm 39 = .ok (.aload_n 0, 1) := by decide +kernel
theorem dX7_writeForm_40 : decode cX7_writeForm 40 = .ok (.aload_n 0, 1) := by decide +kernel
theorem dX7_writeForm_41 : decode cX7_writeForm 41 = .ok (.getfield 65, 3) := by decide +kernel
theorem dX7_writeForm_44 : decode cX7_writeForm 44 = .ok (.i2l, 1) := by decide +kernel
theorem dX7_writeForm_45 : decode cX7_writeForm 45 = .ok (.iconst 2, 1) := by decide +kernel
theorem dX7_writeForm_46 : decode cX7_writeForm 46 = .ok (.invokevirtual 132, 3) := by decide +kernel
theorem dX7_writeForm_49 : decode cX7_writeForm 49 = .ok (.aload_n 0, 1) := by decide +kernel
theorem dX7_writeForm_50 : decode cX7_writeForm 50 = .ok (.invokevirtual 136, 3) := by decide +kernel
theorem dX7_writeForm_53 : decode cX7_writeForm 53 = .ok (.iconst 0, 1) := by decide +kernel
theorem dX7_writeForm_54 : decode cX7_writeForm 54 = .ok (.istore_n 2, 1) := by decide +kernel
theorem dX7_writeForm_55 : decode cX7_writeForm 55 = .ok (.iload_n 2, 1) := by decide +kernel
theorem dX7_writeForm_56 : decode cX7_writeForm 56 = .ok (.iconst 4, 1) := by decide +kernel
theorem dX7_writeForm_57 : decode cX7_writeForm 57 = .ok (.if_icmp .ge 23, 3) := by decide +kernel
theorem dX7_writeForm_60 : decode cX7_writeForm 60 = .ok (.aload_n 0, 1) := by decide +kernel
theorem dX7_writeForm_61 : decode cX7_writeForm 61 = .ok (.getfield 41, 3) := by decide +kernel
theorem dX7_writeForm_64 : decode cX7_writeForm 64 = .ok (.iload_n 2, 1) := by decide +kernel
theorem dX7_writeForm_65 : decode cX7_writeForm 65 = .ok (.iload_n 1, 1) := by decide +kernel
theorem dX7_writeForm_66 : decode cX7_writeForm 66 = .ok (.aload_n 0, 1) := by decide +kernel
theorem dX7_writeForm_67 : decode cX7_writeForm 67 = .ok (.getfield 59, 3) := by decide +kernel
theorem dX7_writeForm_70 : decode cX7_writeForm 70 = .ok (.invokestatic 139, 3) := by decide +kernel
theorem dX7_writeForm_73 : decode cX7_writeForm 73 = .ok (.lastore, 1) := by decide +kernel
theorem dX7_writeForm_74 : decode cX7_writeForm 74 = .ok (.iinc 2 1, 3) := by decide +kernel
theorem dX7_writeForm_77 : decode cX7_writeForm 77 = .ok (.goto (-22), 3) := by decide +kernel
theorem dX7_writeForm_80 : decode cX7_writeForm 80 = .ok (.aload_n 0, 1) := by decide +kernel
theorem dX7_writeForm_81 : decode cX7_writeForm 81 = .ok (.iconst 0, 1) := by decide +kernel
theorem dX7_writeForm_82 : decode cX7_writeForm 82 = .ok (.putfield 113, 3) := by decide +kernel
theorem dX7_writeForm_85 : decode cX7_writeForm 85 = .ok (.aload_n 0, 1) := by decide +kernel
theorem dX7_writeForm_86 : decode cX7_writeForm 86 = .ok (.getfield 65, 3) := by decide +kernel
theorem dX7_writeForm_89 : decode cX7_writeForm 89 = .ok (.iconst 1, 1) := by decide +kernel
theorem dX7_writeForm_90 : decode cX7_writeForm 90 = .ok (.isub, 1) := by decide +kernel
theorem dX7_writeForm_91 : decode cX7_writeForm 91 = .ok (.istore_n 2, 1) := by decide +kernel
theorem dX7_writeForm_92 : decode cX7_writeForm 92 = .ok (.iload_n 2, 1) := by decide +kernel
theorem dX7_writeForm_93 : decode cX7_writeForm 93 = .ok (.ifCond .lt 123, 3) := by decide +kernel
theorem dX7_writeForm_96 : decode cX7_writeForm 96 = .ok (.aload_n 0, 1) := by decide +kernel
theorem dX7_writeForm_97 : decode cX7_writeForm 97 = .ok (.getfield 13, 3) := by decide +kernel
theorem dX7_writeForm_100 : decode cX7_writeForm 100 = .ok (.iload_n 2, 1) := by decide +kernel
theorem dX7_writeForm_101 : decode cX7_writeForm 101 = .ok (.iaload, 1) := by decide +kernel
theorem dX7_writeForm_102 : decode cX7_writeForm 102 = .ok (.istore_n 3, 1) := by decide +kernel
theorem dX7_writeForm_103 : decode cX7_writeForm 103 = .ok (.iload_n 2, 1) := by decide +kernel
theorem dX7_writeForm_104 : decode cX7_writeForm 104 = .ok (.aload_n 0, 1) := by decide +kernel
theorem dX7_writeForm_105 : decode cX7_writeForm 105 = .ok (.getfield 7, 3) := by decide +kernel
theorem dX7_writeForm_108 : decode cX7_writeForm 108 = .ok (.irem, 1) := by decide +kernel
theorem dX7_writeForm_109 : decode cX7_writeForm 109 = .ok (.istore 4, 2) := by decide +kernel
theorem dX7_writeForm_111 : decode cX7_writeForm 111 = .ok (.iload_n 1, 1) := by decide +kernel
theorem dX7_writeForm_112 : decode cX7_writeForm 112 = .ok (.iconst 3, 1) := by decide +kernel
theorem dX7_writeForm_113 : decode cX7_writeForm 113 = .ok (.if_icmp .ne 13, 3) := by decide +kernel
theorem dX7_writeForm_116 : decode cX7_writeForm 116 = .ok (.aload_n 0, 1) := by decide +kernel
theorem dX7_writeForm_117 : decode cX7_writeForm 117 = .ok (.iload 4, 2) := by decide +kernel
theorem dX7_writeForm_119 : decode cX7_writeForm 119 = .ok (.iload_n 3, 1) := by decide +kernel
theorem dX7_writeForm_120 : decode cX7_writeForm 120 = .ok (.invokevirtual 143, 3) := by decide +kernel
theorem dX7_writeForm_123 : decode cX7_writeForm 123 = .ok (.goto 87, 3) := by decide +kernel
theorem dX7_writeForm_126 : decode cX7_writeForm 126 = .ok (.aload_n 0, 1) := by decide +kernel
theorem dX7_writeForm_127 : decode cX7_writeForm 127 = .ok (.getfield 20, 3) := by decide +kernel
theorem dX7_writeForm_130 : decode cX7_writeForm 130 = .ok (.iload_n 3, 1) := by decide +kernel
theorem dX7_writeForm_131 : decode cX7_writeForm 131 = .ok (.iaload, 1) := by decide +kernel
theorem dX7_writeForm_132 : decode cX7_writeForm 132 = .ok (.iconst 1, 1) := by decide +kernel
theorem dX7_writeForm_133 : decode cX7_writeForm 133 = .ok (.aload_n 0, 1) := by decide +kernel
theorem dX7_writeForm_134 : decode cX7_writeForm 134 = .ok (.getfield 59, 3) := by decide +kernel
theorem dX7_writeForm_137 : decode cX7_writeForm 137 = .ok (.ishl, 1) := by decide +kernel
theorem dX7_writeForm_138 : decode cX7_writeForm 138 = .ok (.if_icmp .ge 72, 3) := by decide +kernel
theorem dX7_writeForm_141 : decode cX7_writeForm 141 = .ok (.iload_n 1, 1) := by decide +kernel
theorem dX7_writeForm_142 : decode cX7_writeForm 142 = .ok (.ifCond .ne 24, 3) := by decide +kernel
theorem dX7_writeForm_145 : decode cX7_writeForm 145 = .ok (.aload_n 0, 1) := by decide +kernel
theorem dX7_writeForm_146 : decode cX7_writeForm 146 = .ok (.iload 4, 2) := by decide +kernel
theorem dX7_writeForm_148 : decode cX7_writeForm 148 = .ok (.aload_n 0, 1) := by decide +kernel
theorem dX7_writeForm_149 : decode cX7_writeForm 149 = .ok (.getfield 20, 3) := by decide +kernel
theorem dX7_writeForm_152 : decode cX7_writeForm 152 = .ok (.iload_n 3, 1) := by decide +kernel
theorem dX7_writeForm_153 : decode cX7_writeForm 153 = .ok (.iaload, 1) := by decide +kernel
theorem dX7_writeForm_154 : decode cX7_writeForm 154 = .ok (.aload_n 0, 1) := by decide +kernel
theorem dX7_writeForm_155 : decode cX7_writeForm 155 = .ok (.getfield 23, 3) := by decide +kernel
theorem dX7_writeForm_158 : decode cX7_writeForm 158 = .ok (.iload_n 3, 1) := by decide +kernel
theorem dX7_writeForm_159 : decode cX7_writeForm 159 = .ok (.iaload, 1) := by decide +kernel
theorem dX7_writeForm_160 : decode cX7_writeForm 160 = .ok (.invokevirtual 129, 3) := by decide +kernel
theorem dX7_writeForm_163 : decode cX7_writeForm 163 = .ok (.goto 47, 3) := by decide +kernel
theorem dX7_writeForm_166 : decode cX7_writeForm 166 = .ok (.iload_n 1, 1) := by decide +kernel
theorem dX7_writeForm_167 : decode cX7_writeForm 167 = .ok (.iconst 1, 1) := by decide +kernel
theorem dX7_writeForm_168 : decode cX7_writeForm 168 = .ok (.if_icmp .ne 24, 3) := by decide +kernel
theorem dX7_writeForm_171 : decode cX7_writeForm 171 = .ok (.aload_n 0, 1) := by decide +kernel
theorem dX7_writeForm_172 : decode cX7_writeForm 172 = .ok (.iload 4, 2) := by decide +kernel
theorem dX7_writeForm_174 : decode cX7_writeForm 174 = .ok (.aload_n 0, 1) := by decide +kernel
theorem dX7_writeForm_175 : decode cX7_writeForm 175 = .ok (.getfield 20, 3) := by decide +kernel
theorem dX7_writeForm_178 : decode cX7_writeForm 178 = .ok (.iload_n 3, 1) := by decide +kernel
theorem dX7_writeForm_179 : decode cX7_writeForm 179 = .ok (.iaload, 1) := by decide +kernel
theorem dX7_writeForm_180 : decode cX7_writeForm 180 = .ok (.aload_n 0, 1) := by decide +kernel
theorem dX7_writeForm_181 : decode cX7_writeForm 181 = .ok (.getfield 23, 3) := by decide +kernel
theorem dX7_writeForm_184 : decode cX7_writeForm 184 = .ok (.iload_n 3, 1) := by decide +kernel
theorem dX7_writeForm_185 : decode cX7_writeForm 185 = .ok (.iaload, 1) := by decide +kernel
theorem dX7_writeForm_186 : decode cX7_writeForm 186 = .ok (.invokevirtual 146, 3) := by decide +kernel
theorem dX7_writeForm_189 : decode cX7_writeForm 189 = .ok (.goto 21, 3) := by decide +kernel
theorem dX7_writeForm_192 : decode cX7_writeForm 192 = .ok (.aload_n 0, 1) := by decide +kernel
theorem dX7_writeForm_193 : decode cX7_writeForm 193 = .ok (.iload 4, 2) := by decide +kernel
theorem dX7_writeForm_195 : decode cX7_writeForm 195 = .ok (.aload_n 0, 1) := by decide +kernel
theorem dX7_writeForm_196 : decode cX7_writeForm 196 = .ok (.getfield 20, 3) := by decide +kernel
theorem dX7_writeForm_199 : decode cX7_writeForm 199 = .ok (.iload_n 3, 1) := by decide +kernel
theorem dX7_writeForm_200 : decode cX7_writeForm 200 = .ok (.iaload, 1) := by decide +kernel
theorem dX7_writeForm_201 : decode cX7_writeForm 201 = .ok (.aload_n 0, 1) := by decide +kernel
theorem dX7_writeForm_202 : decode cX7_writeForm 202 = .ok (.getfield 23, 3) := by decide +kernel
theorem dX7_writeForm_205 : decode cX7_writeForm 205 = .ok (.iload_n 3, 1) := by decide +kernel
theorem dX7_writeForm_206 : decode cX7_writeForm 206 = .ok (.iaload, 1) := by decide +kernel
theorem dX7_writeForm_207 : decode cX7_writeForm 207 = .ok (.invokevirtual 149, 3) := by decide +kernel
theorem dX7_writeForm_210 : decode cX7_writeForm 210 = .ok (.iinc 2 (-1), 3) := by decide +kernel
theorem dX7_writeForm_213 : decode cX7_writeForm 213 = .ok (.goto (-121), 3) := by decide +kernel
theorem dX7_writeForm_216 : decode cX7_writeForm 216 = .ok (.iconst 0, 1) := by decide +kernel
theorem dX7_writeForm_217 : decode cX7_writeForm 217 = .ok (.istore_n 2, 1) := by decide +kernel
theorem dX7_writeForm_218 : decode cX7_writeForm 218 = .ok (.iload_n 2, 1) := by decide +kernel
theorem dX7_writeForm_219 : decode cX7_writeForm 219 = .ok (.aload_n 0, 1) := by decide +kernel
theorem dX7_writeForm_220 : decode cX7_writeForm 220 = .ok (.getfield 7, 3) := by decide +kernel
theorem dX7_writeForm_223 : decode cX7_writeForm 223 = .ok (.if_icmp .ge 51, 3) := by decide +kernel
theorem dX7_writeForm_226 : decode cX7_writeForm 226 = .ok (.aload_n 0, 1) := by decide +kernel
theorem dX7_writeForm_227 : decode cX7_writeForm 227 = .ok (.aload_n 0, 1) := by decide +kernel
theorem dX7_writeForm_228 : decode cX7_writeForm 228 = .ok (.getfield 41, 3) := by decide +kernel
theorem dX7_writeForm_231 : decode cX7_writeForm 231 = .ok (.iload_n 2, 1) := by decide +kernel
theorem dX7_writeForm_232 : decode cX7_writeForm 232 = .ok (.laload, 1) := by decide +kernel
theorem dX7_writeForm_233 : decode cX7_writeForm 233 = .ok (.iload_n 1, 1) := by decide +kernel
theorem dX7_writeForm_234 : decode cX7_writeForm 234 = .ok (.iconst 1, 1) := by decide +kernel
theorem dX7_writeForm_235 : decode cX7_writeForm 235 = .ok (.if_icmp .ne 8, 3) := by decide +kernel
theorem dX7_writeForm_238 : decode cX7_writeForm 238 = .ok (.bipush 8, 2) := by decide +kernel
theorem dX7_writeForm_240 : decode cX7_writeForm 240 = .ok (.goto 13, 3) := by decide +kernel
theorem dX7_writeForm_243 : decode cX7_writeForm 243 = .ok (.iload_n 1, 1) := by decide +kernel
theorem dX7_writeForm_244 : decode cX7_writeForm 244 = .ok (.iconst 2, 1) := by decide +kernel
theorem dX7_writeForm_245 : decode cX7_writeForm 245 = .ok (.if_icmp .ne 7, 3) := by decide +kernel
theorem dX7_writeForm_248 : decode cX7_writeForm 248 = .ok (.iconst 2, 1) := by decide +kernel
theorem dX7_writeForm_249 : decode cX7_writeForm 249 = .ok (.goto 4, 3) := by decide +kernel
theorem dX7_writeForm_252 : decode cX7_writeForm 252 = .ok (.iconst 4, 1) := by decide +kernel
theorem dX7_writeForm_253 : decode cX7_writeForm 253 = .ok (.invokevirtual 132, 3) := by decide +kernel
theorem dX7_writeForm_256 : decode cX7_writeForm 256 = .ok (.aload_n 0, 1) := by decide +kernel
theorem dX7_writeForm_257 : decode cX7_writeForm 257 = .ok (.getfield 45, 3) := by decide +kernel
theorem dX7_writeForm_260 : decode cX7_writeForm 260 = .ok (.iload_n 2, 1) := by decide +kernel
theorem dX7_writeForm_261 : decode cX7_writeForm 261 = .ok (.aload_n 0, 1) := by decide +kernel
theorem dX7_writeForm_262 : decode cX7_writeForm 262 = .ok (.getfield 41, 3) := by decide +kernel
theorem dX7_writeForm_265 : decode cX7_writeForm 265 = .ok (.iload_n 2, 1) := by decide +kernel
theorem dX7_writeForm_266 : decode cX7_writeForm 266 = .ok (.laload, 1) := by decide +kernel
theorem dX7_writeForm_267 : decode cX7_writeForm 267 = .ok (.lastore, 1) := by decide +kernel
theorem dX7_writeForm_268 : decode cX7_writeForm 268 = .ok (.iinc 2 1, 3) := by decide +kernel
theorem dX7_writeForm_271 : decode cX7_writeForm 271 = .ok (.goto (-53), 3) := by decide +kernel
theorem dX7_writeForm_274 : decode cX7_writeForm 274 = .ok (.aload_n 0, 1) := by decide +kernel
theorem dX7_writeForm_275 : decode cX7_writeForm 275 = .ok (.aload_n 0, 1) := by decide +kernel
theorem dX7_writeForm_276 : decode cX7_writeForm 276 = .ok (.getfield 7, 3) := by decide +kernel
theorem dX7_writeForm_279 : decode cX7_writeForm 279 = .ok (.putfield 152, 3) := by decide +kernel
theorem dX7_writeForm_282 : decode cX7_writeForm 282 = .ok (.aload_n 0, 1) := by decide +kernel
theorem dX7_writeForm_283 : decode cX7_writeForm 283 = .ok (.iconst 0, 1) := by decide +kernel
theorem dX7_writeForm_284 : decode cX7_writeForm 284 = .ok (.putfield 102, 3) := by decide +kernel
theorem dX7_writeForm_287 : decode cX7_writeForm 287 = .ok (.aload_n 0, 1) := by decide +kernel
theorem dX7_writeForm_288 : decode cX7_writeForm 288 = .ok (.getfield 113, 3) := by decide +kernel
theorem dX7_writeForm_291 : decode cX7_writeForm 291 = .ok (.iconst 1, 1) := by decide +kernel
theorem dX7_writeForm_292 : decode cX7_writeForm 292 = .ok (.isub, 1) := by decide +kernel
theorem dX7_writeForm_293 : decode cX7_writeForm 293 = .ok (.istore_n 2, 1) := by decide +kernel
theorem dX7_writeForm_294 : decode cX7_writeForm 294 = .ok (.iload_n 2, 1) := by decide +kernel
theorem dX7_writeForm_295 : decode cX7_writeForm 295 = .ok (.ifCond .lt 58, 3) := by decide +kernel
theorem dX7_writeForm_298 : decode cX7_writeForm 298 = .ok (.iload_n 1, 1) := by decide +kernel
theorem dX7_writeForm_299 : decode cX7_writeForm 299 = .ok (.iconst 1, 1) := by decide +kernel
theorem dX7_writeForm_300 : decode cX7_writeForm 300 = .ok (.if_icmp .ne 18, 3) := by decide +kernel
theorem dX7_writeForm_303 : decode cX7_writeForm 303 = .ok (.aload_n 0, 1) := by decide +kernel
theorem dX7_writeForm_304 : decode cX7_writeForm 304 = .ok (.aload_n 0, 1) := by decide +kernel
theorem dX7_writeForm_305 : decode cX7_writeForm 305 = .ok (.getfield 49, 3) := by decide +kernel
theorem dX7_writeForm_308 : decode cX7_writeForm 308 = .ok (.iload_n 2, 1) := by decide +kernel
theorem dX7_writeForm_309 : decode cX7_writeForm 309 = .ok (.iaload, 1) := by decide +kernel
theorem dX7_writeForm_310 : decode cX7_writeForm 310 = .ok (.i2l, 1) := by decide +kernel
theorem dX7_writeForm_311 : decode cX7_writeForm 311 = .ok (.iconst 4, 1) := by decide +kernel
theorem dX7_writeForm_312 : decode cX7_writeForm 312 = .ok (.invokevirtual 132, 3) := by decide +kernel
theorem dX7_writeForm_315 : decode cX7_writeForm 315 = .ok (.goto 32, 3) := by decide +kernel
theorem dX7_writeForm_318 : decode cX7_writeForm 318 = .ok (.iload_n 1, 1) := by decide +kernel
theorem dX7_writeForm_319 : decode cX7_writeForm 319 = .ok (.iconst 2, 1) := by decide +kernel
theorem dX7_writeForm_320 : decode cX7_writeForm 320 = .ok (.if_icmp .ne 17, 3) := by decide +kernel
theorem dX7_writeForm_323 : decode cX7_writeForm 323 = .ok (.aload_n 0, 1) := by decide +kernel
theorem dX7_writeForm_324 : decode cX7_writeForm 324 = .ok (.aload_n 0, 1) := by decide +kernel
theorem dX7_writeForm_325 : decode cX7_writeForm 325 = .ok (.getfield 49, 3) := by decide +kernel
theorem dX7_writeForm_328 : decode cX7_writeForm 328 = .ok (.iload_n 2, 1) := by decide +kernel
theorem dX7_writeForm_329 : decode cX7_writeForm 329 = .ok (.iaload, 1) := by decide +kernel
theorem dX7_writeForm_330 : decode cX7_writeForm 330 = .ok (.iconst 1, 1) := by decide +kernel
theorem dX7_writeForm_331 : decode cX7_writeForm 331 = .ok (.invokevirtual 109, 3) := by decide +kernel
theorem dX7_writeForm_334 : decode cX7_writeForm 334 = .ok (.goto 13, 3) := by decide +kernel
theorem dX7_writeForm_337 : decode cX7_writeForm 337 = .ok (.aload_n 0, 1) := by decide +kernel
theorem dX7_writeForm_338 : decode cX7_writeForm 338 = .ok (.aload_n 0, 1) := by decide +kernel
theorem dX7_writeForm_339 : decode cX7_writeForm 339 = .ok (.getfield 49, 3) := by decide +kernel
theorem dX7_writeForm_342 : decode cX7_writeForm 342 = .ok (.iload_n 2, 1) := by decide +kernel
theorem dX7_writeForm_343 : decode cX7_writeForm 343 = .ok (.iaload, 1) := by decide +kernel
theorem dX7_writeForm_344 : decode cX7_writeForm 344 = .ok (.invokevirtual 99, 3) := by decide +kernel
theorem dX7_writeForm_347 : decode cX7_writeForm 347 = .ok (.iinc 2 (-1), 3) := by decide +kernel
theorem dX7_writeForm_350 : decode cX7_writeForm 350 = .ok (.goto (-56), 3) := by decide +kernel
theorem dX7_writeForm_353 : decode cX7_writeForm 353 = .ok (.return_, 1) := by decide +kernel
theorem dX7_write_0 : decode cX7_write 0 = .ok (.aload_n 0, 1) := by decide +kernel
theorem dX7_write_1 : decode cX7_write 1 = .ok (.iconst 0, 1) := by decide +kernel
theorem dX7_write_2 : decode cX7_write 2 = .ok (.putfield 62, 3) := by decide +kernel
theorem dX7_write_5 : decode cX7_write 5 = .ok (.aload_n 0, 1) := by decide +kernel
theorem dX7_write_6 : decode cX7_write 6 = .ok (.invokevirtual 155, 3) := by decide +kernel
theorem dX7_write_9 : decode cX7_write 9 = .ok (.ifCond .ne 6, 3) := by decide +kernel
theorem dX7_write_12 : decode cX7_write 12 = .ok (.bipush (-2), 2) := by decide +kernel
theorem dX7_write_14 : decode cX7_write 14 = .ok (.ireturn, 1) := by decide +kernel
theorem dX7_write_15 : decode cX7_write 15 = .ok (.aload_n 0, 1) := by decide +kernel
theorem dX7_write_16 : decode cX7_write 16 = .ok (.aload_n 0, 1) := by decide +kernel
theorem dX7_write_17 : decode cX7_write 17 = .ok (.getfield 91, 3) := by decide +kernel
theorem dX7_write_20 : decode cX7_write 20 = .ok (.invokevirtual 159, 3) := by decide +kernel
theorem dX7_write_23 : decode cX7_write 23 = .ok (.aload_n 0, 1) := by decide +kernel
theorem dX7_write_24 : decode cX7_write 24 = .ok (.getfield 96, 3) := by decide +kernel
theorem dX7_write_27 : decode cX7_write 27 = .ok (.ireturn, 1) := by decide +kernel
theorem dX7_fail_0 : decode cX7_fail 0 = .ok (.aload_n 0, 1) := by decide +kernel
theorem dX7_fail_1 : decode cX7_fail 1 = .ok (.getfield 162, 3) := by decide +kernel
theorem dX7_fail_4 : decode cX7_fail 4 = .ok (.ifCond .ne 8, 3) := by decide +kernel
theorem dX7_fail_7 : decode cX7_fail 7 = .ok (.aload_n 0, 1) := by decide +kernel
theorem dX7_fail_8 : decode cX7_fail 8 = .ok (.iload_n 1, 1) := by decide +kernel
theorem dX7_fail_9 : decode cX7_fail 9 = .ok (.putfield 162, 3) := by decide +kernel
theorem dX7_fail_12 : decode cX7_fail 12 = .ok (.return_, 1) := by decide +kernel
theorem dX7_next_0 : decode cX7_next 0 = .ok (.aload_n 0, 1) := by decide +kernel
theorem dX7_next_1 : decode cX7_next 1 = .ok (.getfield 162, 3) := by decide +kernel
theorem dX7_next_4 : decode cX7_next 4 = .ok (.ifCond .le 5, 3) := by decide +kernel
theorem dX7_next_7 : decode cX7_next 7 = .ok (.iconst 0, 1) := by decide +kernel
theorem dX7_next_8 : decode cX7_next 8 = .ok (.ireturn, 1) := by decide +kernel
theorem dX7_next_9 : decode cX7_next 9 = .ok (.aload_n 0, 1) := by decide +kernel
theorem dX7_next_10 : decode cX7_next 10 = .ok (.getfield 165, 3) := by decide +kernel
theorem dX7_next_13 : decode cX7_next 13 = .ok (.aload_n 0, 1) := by decide +kernel
theorem dX7_next_14 : decode cX7_next 14 = .ok (.getfield 96, 3) := by decide +kernel
theorem dX7_next_17 : decode cX7_next 17 = .ok (.if_icmp .lt 10, 3) := by decide +kernel
theorem dX7_next_20 : decode cX7_next 20 = .ok (.aload_n 0, 1) := by decide +kernel
theorem dX7_next_21 : decode cX7_next 21 = .ok (.iconst 1, 1) := by decide +kernel
theorem dX7_next_22 : decode cX7_next 22 = .ok (.invokevirtual 168, 3) := by decide +kernel
theorem dX7_next_25 : decode cX7_next 25 = .ok (.iconst 0, 1) := by decide +kernel
theorem dX7_next_26 : decode cX7_next 26 = .ok (.ireturn, 1) := by decide +kernel
theorem dX7_next_27 : decode cX7_next 27 = .ok (.aload_n 0, 1) := by decide +kernel
theorem dX7_next_28 : decode cX7_next 28 = .ok (.dup, 1) := by decide +kernel
theorem dX7_next_29 : decode cX7_next 29 = .ok (.getfield 165, 3) := by decide +kernel
theorem dX7_next_32 : decode cX7_next 32 = .ok (.iconst 1, 1) := by decide +kernel
theorem dX7_next_33 : decode cX7_next 33 = .ok (.iadd, 1) := by decide +kernel
theorem dX7_next_34 : decode cX7_next 34 = .ok (.putfield 165, 3) := by decide +kernel
theorem dX7_next_37 : decode cX7_next 37 = .ok (.aload_n 0, 1) := by decide +kernel
theorem dX7_next_38 : decode cX7_next 38 = .ok (.getfield 38, 3) := by decide +kernel
theorem dX7_next_41 : decode cX7_next 41 = .ok (.aload_n 0, 1) := by decide +kernel
theorem dX7_next_42 : decode cX7_next 42 = .ok (.getfield 165, 3) := by decide +kernel
theorem dX7_next_45 : decode cX7_next 45 = .ok (.iconst 1, 1) := by decide +kernel
theorem dX7_next_46 : decode cX7_next 46 = .ok (.isub, 1) := by decide +kernel
theorem dX7_next_47 : decode cX7_next 47 = .ok (.iaload, 1) := by decide +kernel
theorem dX7_next_48 : decode cX7_next 48 = .ok (.ireturn, 1) := by decide +kernel
theorem dX7_nextWide_0 : decode cX7_nextWide 0 = .ok (.lconst 0, 1) := by decide +kernel
theorem dX7_nextWide_1 : decode cX7_nextWide 1 = .ok (.lstore_n 2, 1) := by decide +kernel
theorem dX7_nextWide_2 : decode cX7_nextWide 2 = .ok (.iconst 0, 1) := by decide +kernel
theorem dX7_nextWide_3 : decode cX7_nextWide 3 = .ok (.istore 4, 2) := by decide +kernel
theorem dX7_nextWide_5 : decode cX7_nextWide 5 = .ok (.iload 4, 2) := by decide +kernel
theorem dX7_nextWide_7 : decode cX7_nextWide 7 = .ok (.iload_n 1, 1) := by decide +kernel
theorem dX7_nextWide_8 : decode cX7_nextWide 8 = .ok (.if_icmp .ge 20, 3) := by decide +kernel
theorem dX7_nextWide_11 : decode cX7_nextWide 11 = .ok (.lload_n 2, 1) := by decide +kernel
theorem dX7_nextWide_12 : decode cX7_nextWide 12 = .ok (.bipush 8, 2) := by decide +kernel
theorem dX7_nextWide_14 : decode cX7_nextWide 14 = .ok (.lshl, 1) := by decide +kernel
theorem dX7_nextWide_15 : decode cX7_nextWide 15 = .ok (.aload_n 0, 1) := by decide +kernel
theorem dX7_nextWide_16 : decode cX7_nextWide 16 = .ok (.invokevirtual 171, 3) := by decide +kernel
theorem dX7_nextWide_19 : decode cX7_nextWide 19 = .ok (.i2l, 1) := by decide +kernel
theorem dX7_nextWide_20 : decode cX7_nextWide 20 = .ok (.lor, 1) := by decide +kernel
theorem dX7_nextWide_21 : decode cX7_nextWide 21 = .ok (.lstore_n 2, 1) := by decide +kernel
theorem dX7_nextWide_22 : decode cX7_nextWide 22 = .ok (.iinc 4 1, 3) := by decide +kernel
theorem dX7_nextWide_25 : decode cX7_nextWide 25 = .ok (.goto (-20), 3) := by decide +kernel
theorem dX7_nextWide_28 : decode cX7_nextWide 28 = .ok (.lload_n 2, 1) := by decide +kernel
theorem dX7_nextWide_29 : decode cX7_nextWide 29 = .ok (.lreturn, 1) := by decide +kernel
theorem dX7_nextBit_0 : decode cX7_nextBit 0 = .ok (.aload_n 0, 1) := by decide +kernel
theorem dX7_nextBit_1 : decode cX7_nextBit 1 = .ok (.getfield 174, 3) := by decide +kernel
theorem dX7_nextBit_4 : decode cX7_nextBit 4 = .ok (.ifCond .ne 23, 3) := by decide +kernel
theorem dX7_nextBit_7 : decode cX7_nextBit 7 = .ok (.aload_n 0, 1) := by decide +kernel
theorem dX7_nextBit_8 : decode cX7_nextBit 8 = .ok (.invokevirtual 171, 3) := by decide +kernel
theorem dX7_nextBit_11 : decode cX7_nextBit 11 = .ok (.istore_n 1, 1) := by decide +kernel
theorem dX7_nextBit_12 : decode cX7_nextBit 12 = .ok (.aload_n 0, 1) := by decide +kernel
theorem dX7_nextBit_13 : decode cX7_nextBit 13 = .ok (.getfield 162, 3) := by decide +kernel
theorem dX7_nextBit_16 : decode cX7_nextBit 16 = .ok (.ifCond .le 5, 3) := by decide +kernel
theorem dX7_nextBit_19 : decode cX7_nextBit 19 = .ok (.iconst 0, 1) := by decide +kernel
theorem dX7_nextBit_20 : decode cX7_nextBit 20 = .ok (.ireturn, 1) := by decide +kernel
theorem dX7_nextBit_21 : decode cX7_nextBit 21 = .ok (.aload_n 0, 1) := by decide +kernel
theorem dX7_nextBit_22 : decode cX7_nextBit 22 = .ok (.bipush 8, 2) := by decide +kernel
theorem dX7_nextBit_24 : decode cX7_nextBit 24 = .ok (.putfield 174, 3) := by decide +kernel
theorem dX7_nextBit_27 : decode cX7_nextBit 27 = .ok (.aload_n 0, 1) := by decide +kernel
theorem dX7_nextBit_28 : decode cX7_nextBit 28 = .ok (.dup, 1) := by decide +kernel
theorem dX7_nextBit_29 : decode cX7_nextBit 29 = .ok (.getfield 174, 3) := by decide +kernel
theorem dX7_nextBit_32 : decode cX7_nextBit 32 = .ok (.iconst 1, 1) := by decide +kernel
theorem dX7_nextBit_33 : decode cX7_nextBit 33 = .ok (.isub, 1) := by decide +kernel
theorem dX7_nextBit_34 : decode cX7_nextBit 34 = .ok (.putfield 174, 3) := by decide +kernel
theorem dX7_nextBit_37 : decode cX7_nextBit 37 = .ok (.aload_n 0, 1) := by decide +kernel
theorem dX7_nextBit_38 : decode cX7_nextBit 38 = .ok (.getfield 38, 3) := by decide +kernel
theorem dX7_nextBit_41 : decode cX7_nextBit 41 = .ok (.aload_n 0, 1) := by decide +kernel
theorem dX7_nextBit_42 : decode cX7_nextBit 42 = .ok (.getfield 165, 3) := by decide +kernel
theorem dX7_nextBit_45 : decode cX7_nextBit 45 = .ok (.iconst 1, 1) := by decide +kernel
theorem dX7_nextBit_46 : decode cX7_nextBit 46 = .ok (.isub, 1) := by decide +kernel
theorem dX7_nextBit_47 : decode cX7_nextBit 47 = .ok (.iaload, 1) := by decide +kernel
theorem dX7_nextBit_48 : decode cX7_nextBit 48 = .ok (.aload_n 0, 1) := by decide +kernel
theorem dX7_nextBit_49 : decode cX7_nextBit 49 = .ok (.getfield 174, 3) := by decide +kernel
theorem dX7_nextBit_52 : decode cX7_nextBit 52 = .ok (.ishr, 1) := by decide +kernel
theorem dX7_nextBit_53 : decode cX7_nextBit 53 = .ok (.iconst 1, 1) := by decide +kernel
theorem dX7_nextBit_54 : decode cX7_nextBit 54 = .ok (.iand, 1) := by decide +kernel
theorem dX7_nextBit_55 : decode cX7_nextBit 55 = .ok (.ireturn, 1) := by decide +kernel
theorem dX7_readTable_0 : decode cX7_readTable 0 = .ok (.iconst 1, 1) := by decide +kernel
theorem dX7_readTable_1 : decode cX7_readTable 1 = .ok (.aload_n 0, 1) := by decide +kernel
theorem dX7_readTable_2 : decode cX7_readTable 2 = .ok (.getfield 26, 3) := by decide +kernel
theorem dX7_readTable_5 : decode cX7_readTable 5 = .ok (.iconst 1, 1) := by decide +kernel
theorem dX7_readTable_6 : decode cX7_readTable 6 = .ok (.iaload, 1) := by decide +kernel
theorem dX7_readTable_7 : decode cX7_readTable 7 = .ok (.ishl, 1) := by decide +kernel
theorem dX7_readTable_8 : decode cX7_readTable 8 = .ok (.istore_n 1, 1) := by decide +kernel
theorem dX7_readTable_9 : decode cX7_readTable 9 = .ok (.aload_n 0, 1) := by decide +kernel
theorem dX7_readTable_10 : decode cX7_readTable 10 = .ok (.iconst 0, 1) := by decide +kernel
theorem dX7_readTable_11 : decode cX7_readTable 11 = .ok (.putfield 174, 3) := by decide +kernel
theorem dX7_readTable_14 : decode cX7_readTable 14 = .ok (.iconst 0, 1) := by decide +kernel
theorem dX7_readTable_15 : decode cX7_readTable 15 = .ok (.istore_n 2, 1) := by decide +kernel
theorem dX7_readTable_16 : decode cX7_readTable 16 = .ok (.iload_n 2, 1) := by decide +kernel
theorem dX7_readTable_17 : decode cX7_readTable 17 = .ok (.bipush 32, 2) := by decide +kernel
theorem dX7_readTable_19 : decode cX7_readTable 19 = .ok (.if_icmp .ge 76, 3) := by decide +kernel
theorem dX7_readTable_22 : decode cX7_readTable 22 = .ok (.iconst 0, 1) := by decide +kernel
theorem dX7_readTable_23 : decode cX7_readTable 23 = .ok (.istore_n 3, 1) := by decide +kernel
theorem dX7_readTable_24 : decode cX7_readTable 24 = .ok (.iload_n 1, 1) := by decide +kernel
theorem dX7_readTable_25 : decode cX7_readTable 25 = .ok (.invokestatic 105, 3) := by decide +kernel
theorem dX7_readTable_28 : decode cX7_readTable 28 = .ok (.istore 4, 2) := by decide +kernel
theorem dX7_readTable_30 : decode cX7_readTable 30 = .ok (.iload 4, 2) := by decide +kernel
theorem dX7_readTable_32 : decode cX7_readTable 32 = .ok (.ifCond .le 18, 3) := by decide +kernel
theorem dX7_readTable_35 : decode cX7_readTable 35 = .ok (.iconst 2, 1) := by decide +kernel
theorem dX7_readTable_36 : decode cX7_readTable 36 = .ok (.iload_n 3, 1) := by decide +kernel
theorem dX7_readTable_37 : decode cX7_readTable 37 = .ok (.imul, 1) := by decide +kernel
theorem dX7_readTable_38 : decode cX7_readTable 38 = .ok (.aload_n 0, 1) := by decide +kernel
theorem dX7_readTable_39 : decode cX7_readTable 39 = .ok (.invokevirtual 177, 3) := by decide +kernel
theorem dX7_readTable_42 : decode cX7_readTable 42 = .ok (.iadd, 1) := by decide +kernel
theorem dX7_readTable_43 : decode cX7_readTable 43 = .ok (.istore_n 3, 1) := by decide +kernel
theorem dX7_readTable_44 : decode cX7_readTable 44 = .ok (.iinc 4 (-1), 3) := by decide +kernel
theorem dX7_readTable_47 : decode cX7_readTable 47 = .ok (.goto (-17), 3) := by decide +kernel
theorem dX7_readTable_50 : decode cX7_readTable 50 = .ok (.aload_n 0, 1) := by decide +kernel
theorem dX7_readTable_51 : decode cX7_readTable 51 = .ok (.getfield 162, 3) := by decide +kernel
theorem dX7_readTable_54 : decode cX7_readTable 54 = .ok (.ifCond .ne 13, 3) := by decide +kernel
theorem dX7_readTable_57 : decode cX7_readTable 57 = .ok (.iload_n 3, 1) := by decide +kernel
theorem dX7_readTable_58 : decode cX7_readTable 58 = .ok (.iload_n 1, 1) := by decide +kernel
theorem dX7_readTable_59 : decode cX7_readTable 59 = .ok (.if_icmp .le 8, 3) := by decide +kernel
theorem dX7_readTable_62 : decode cX7_readTable 62 = .ok (.aload_n 0, 1) := by decide +kernel
theorem dX7_readTable_63 : decode cX7_readTable 63 = .ok (.iconst 3, 1) := by decide +kernel
theorem dX7_readTable_64 : decode cX7_readTable 64 = .ok (.invokevirtual 168, 3) := by decide +kernel
theorem dX7_readTable_67 : decode cX7_readTable 67 = .ok (.aload_n 0, 1) := by decide +kernel
theorem dX7_readTable_68 : decode cX7_readTable 68 = .ok (.getfield 20, 3) := by decide +kernel
theorem dX7_readTable_71 : decode cX7_readTable 71 = .ok (.bipush 32, 2) := by decide +kernel
theorem dX7_readTable_73 : decode cX7_readTable 73 = .ok (.iload_n 2, 1) := by decide +kernel
theorem dX7_readTable_74 : decode cX7_readTable 74 = .ok (.iadd, 1) := by decide +kernel
theorem dX7_readTable_75 : decode cX7_readTable 75 = .ok (.iload_n 3, 1) := by decide +kernel
theorem dX7_readTable_76 : decode cX7_readTable 76 = .ok (.iastore, 1) := by decide +kernel
theorem dX7_readTable_77 : decode cX7_readTable 77 = .ok (.iload_n 1, 1) := by decide +kernel
theorem dX7_readTable_78 : decode cX7_readTable 78 = .ok (.iload_n 3, 1) := by decide +kernel
theorem dX7_readTable_79 : decode cX7_readTable 79 = .ok (.isub, 1) := by decide +kernel
theorem dX7_readTable_80 : decode cX7_readTable 80 = .ok (.istore_n 1, 1) := by decide +kernel
theorem dX7_readTable_81 : decode cX7_readTable 81 = .ok (.aload_n 0, 1) := by decide +kernel
theorem dX7_readTable_82 : decode cX7_readTable 82 = .ok (.getfield 162, 3) := by decide +kernel
theorem dX7_readTable_85 : decode cX7_readTable 85 = .ok (.ifCond .le 4, 3) := by decide +kernel
theorem dX7_readTable_88 : decode cX7_readTable 88 = .ok (.return_, 1) := by decide +kernel
theorem dX7_readTable_89 : decode cX7_readTable 89 = .ok (.iinc 2 1, 3) := by decide +kernel
theorem dX7_readTable_92 : decode cX7_readTable 92 = .ok (.goto (-76), 3) := by decide +kernel
theorem dX7_readTable_95 : decode cX7_readTable 95 = .ok (.iconst 1, 1) := by decide +kernel
theorem dX7_readTable_96 : decode cX7_readTable 96 = .ok (.istore_n 2, 1) := by decide +kernel
theorem dX7_readTable_97 : decode cX7_readTable 97 = .ok (.aload_n 0, 1) := by decide +kernel
theorem dX7_readTable_98 : decode cX7_readTable 98 = .ok (.getfield 174, 3) := by decide +kernel
theorem dX7_readTable_101 : decode cX7_readTable 101 = .ok (.ifCond .le 23, 3) := by decide +kernel
theorem dX7_readTable_104 : decode cX7_readTable 104 = .ok (.aload_n 0, 1) := by decide +kernel
theorem dX7_readTable_105 : decode cX7_readTable 105 = .ok (.invokevirtual 177, 3) := by decide +kernel
theorem dX7_readTable_108 : decode cX7_readTable 108 = .ok (.ifCond .ne 11, 3) := by decide +kernel
theorem dX7_readTable_111 : decode cX7_readTable 111 = .ok (.iload_n 2, 1) := by decide +kernel
theorem dX7_readTable_112 : decode cX7_readTable 112 = .ok (.ifCond .eq 7, 3) := by decide +kernel
theorem dX7_readTable_115 : decode cX7_readTable 115 = .ok (.iconst 1, 1) := by decide +kernel
theorem dX7_readTable_116 : decode cX7_readTable 116 = .ok (.goto 4, 3) := by decide +kernel
theorem dX7_readTable_119 : decode cX7_readTable 119 = .ok (.iconst 0, 1) := by decide +kernel
theorem dX7_readTable_120 : decode cX7_readTable 120 = .ok (.istore_n 2, 1) := by decide +kernel
theorem dX7_readTable_121 : decode cX7_readTable 121 = .ok (.goto (-24), 3) := by decide +kernel
theorem dX7_readTable_124 : decode cX7_readTable 124 = .ok (.iload_n 1, 1) := by decide +kernel
theorem dX7_readTable_125 : decode cX7_readTable 125 = .ok (.ifCond .gt 7, 3) := by decide +kernel
theorem dX7_readTable_128 : decode cX7_readTable 128 = .ok (.iload_n 2, 1) := by decide +kernel
theorem dX7_readTable_129 : decode cX7_readTable 129 = .ok (.ifCond .ne 8, 3) := by decide +kernel
theorem dX7_readTable_132 : decode cX7_readTable 132 = .ok (.aload_n 0, 1) := by decide +kernel
theorem dX7_readTable_133 : decode cX7_readTable 133 = .ok (.iconst 3, 1) := by decide +kernel
theorem dX7_readTable_134 : decode cX7_readTable 134 = .ok (.invokevirtual 168, 3) := by decide +kernel
theorem dX7_readTable_137 : decode cX7_readTable 137 = .ok (.return_, 1) := by decide +kernel
end
section
theorem dX7_isInSpan_0 : decode cX7_isInSpan 0 = .ok (.aload_n 0, 1) := by decide +kernel
theorem dX7_isInSpan_1 : decode cX7_isInSpan 1 = .ok (.getfield 180, 3) := by decide +kernel
theorem dX7_isInSpan_4 : decode cX7_isInSpan 4 = .ok (.iconst 1, 1) := by decide +kernel
theorem dX7_isInSpan_5 : decode cX7_isInSpan 5 = .ok (.if_icmp .ne 19, 3) := by decide +kernel
theorem dX7_isInSpan_8 : decode cX7_isInSpan 8 = .ok (.lload_n 1, 1) := by decide +kernel
theorem dX7_isInSpan_9 : decode cX7_isInSpan 9 = .ok (.ldc2_w 77, 3) := by decide +kernel
theorem dX7_isInSpan_12 : decode cX7_isInSpan 12 = .ok (.lcmp, 1) := by decide +kernel
theorem dX7_isInSpan_13 : decode cX7_isInSpan 13 = .ok (.ifCond .lt 7, 3) := by decide +kernel
theorem dX7_isInSpan_16 : decode cX7_isInSpan 16 = .ok (.iconst 1, 1) := by decide +kernel
theorem dX7_isInSpan_17 : decode cX7_isInSpan 17 = .ok (.goto 72, 3) := by decide +kernel
theorem dX7_isInSpan_20 : decode cX7_isInSpan 20 = .ok (.iconst 0, 1) := by decide +kernel
theorem dX7_isInSpan_21 : decode cX7_isInSpan 21 = .ok (.goto 68, 3) := by decide +kernel
theorem dX7_isInSpan_24 : decode cX7_isInSpan 24 = .ok (.aload_n 0, 1) := by decide +kernel
theorem dX7_isInSpan_25 : decode cX7_isInSpan 25 = .ok (.getfield 180, 3) := by decide +kernel
theorem dX7_isInSpan_28 : decode cX7_isInSpan 28 = .ok (.iconst 2, 1) := by decide +kernel
theorem dX7_isInSpan_29 : decode cX7_isInSpan 29 = .ok (.if_icmp .ne 39, 3) := by decide +kernel
theorem dX7_isInSpan_32 : decode cX7_isInSpan 32 = .ok (.lload_n 1, 1) := by decide +kernel
theorem dX7_isInSpan_33 : decode cX7_isInSpan 33 = .ok (.lconst 1, 1) := by decide +kernel
theorem dX7_isInSpan_34 : decode cX7_isInSpan 34 = .ok (.aload_n 0, 1) := by decide +kernel
theorem dX7_isInSpan_35 : decode cX7_isInSpan 35 = .ok (.getfield 26, 3) := by decide +kernel
theorem dX7_isInSpan_38 : decode cX7_isInSpan 38 = .ok (.iconst 1, 1) := by decide +kernel
theorem dX7_isInSpan_39 : decode cX7_isInSpan 39 = .ok (.iaload, 1) := by decide +kernel
theorem dX7_isInSpan_40 : decode cX7_isInSpan 40 = .ok (.lshl, 1) := by decide +kernel
theorem dX7_isInSpan_41 : decode cX7_isInSpan 41 = .ok (.lcmp, 1) := by decide +kernel
theorem dX7_isInSpan_42 : decode cX7_isInSpan 42 = .ok (.ifCond .lt 22, 3) := by decide +kernel
theorem dX7_isInSpan_45 : decode cX7_isInSpan 45 = .ok (.lload_n 1, 1) := by decide +kernel
theorem dX7_isInSpan_46 : decode cX7_isInSpan 46 = .ok (.ldc2_w 79, 3) := by decide +kernel
theorem dX7_isInSpan_49 : decode cX7_isInSpan 49 = .ok (.aload_n 0, 1) := by decide +kernel
theorem dX7_isInSpan_50 : decode cX7_isInSpan 50 = .ok (.getfield 26, 3) := by decide +kernel
theorem dX7_isInSpan_53 : decode cX7_isInSpan 53 = .ok (.iconst 1, 1) := by decide +kernel
theorem dX7_isInSpan_54 : decode cX7_isInSpan 54 = .ok (.iaload, 1) := by decide +kernel
theorem dX7_isInSpan_55 : decode cX7_isInSpan 55 = .ok (.lshl, 1) := by decide +kernel
theorem dX7_isInSpan_56 : decode cX7_isInSpan 56 = .ok (.lcmp, 1) := by decide +kernel
theorem dX7_isInSpan_57 : decode cX7_isInSpan 57 = .ok (.ifCond .ge 7, 3) := by decide +kernel
theorem dX7_isInSpan_60 : decode cX7_isInSpan 60 = .ok (.iconst 1, 1) := by decide +kernel
theorem dX7_isInSpan_61 : decode cX7_isInSpan 61 = .ok (.goto 28, 3) := by decide +kernel
theorem dX7_isInSpan_64 : decode cX7_isInSpan 64 = .ok (.iconst 0, 1) := by decide +kernel
theorem dX7_isInSpan_65 : decode cX7_isInSpan 65 = .ok (.goto 24, 3) := by decide +kernel
theorem dX7_isInSpan_68 : decode cX7_isInSpan 68 = .ok (.lload_n 1, 1) := by decide +kernel
theorem dX7_isInSpan_69 : decode cX7_isInSpan 69 = .ok (.ldc2_w 94, 3) := by decide +kernel
theorem dX7_isInSpan_72 : decode cX7_isInSpan 72 = .ok (.lcmp, 1) := by decide +kernel
theorem dX7_isInSpan_73 : decode cX7_isInSpan 73 = .ok (.ifCond .lt 15, 3) := by decide +kernel
theorem dX7_isInSpan_76 : decode cX7_isInSpan 76 = .ok (.lload_n 1, 1) := by decide +kernel
theorem dX7_isInSpan_77 : decode cX7_isInSpan 77 = .ok (.ldc2_w 77, 3) := by decide +kernel
theorem dX7_isInSpan_80 : decode cX7_isInSpan 80 = .ok (.lcmp, 1) := by decide +kernel
theorem dX7_isInSpan_81 : decode cX7_isInSpan 81 = .ok (.ifCond .ge 7, 3) := by decide +kernel
theorem dX7_isInSpan_84 : decode cX7_isInSpan 84 = .ok (.iconst 1, 1) := by decide +kernel
theorem dX7_isInSpan_85 : decode cX7_isInSpan 85 = .ok (.goto 4, 3) := by decide +kernel
theorem dX7_isInSpan_88 : decode cX7_isInSpan 88 = .ok (.iconst 0, 1) := by decide +kernel
theorem dX7_isInSpan_89 : decode cX7_isInSpan 89 = .ok (.ireturn, 1) := by decide +kernel
theorem dX7_signOf_0 : decode cX7_signOf 0 = .ok (.iconst 0, 1) := by decide +kernel
theorem dX7_signOf_1 : decode cX7_signOf 1 = .ok (.istore_n 2, 1) := by decide +kernel
theorem dX7_signOf_2 : decode cX7_signOf 2 = .ok (.iload_n 1, 1) := by decide +kernel
theorem dX7_signOf_3 : decode cX7_signOf 3 = .ok (.aload_n 0, 1) := by decide +kernel
theorem dX7_signOf_4 : decode cX7_signOf 4 = .ok (.getfield 23, 3) := by decide +kernel
theorem dX7_signOf_7 : decode cX7_signOf 7 = .ok (.bipush 32, 2) := by decide +kernel
theorem dX7_signOf_9 : decode cX7_signOf 9 = .ok (.iload_n 2, 1) := by decide +kernel
theorem dX7_signOf_10 : decode cX7_signOf 10 = .ok (.iadd, 1) := by decide +kernel
theorem dX7_signOf_11 : decode cX7_signOf 11 = .ok (.iaload, 1) := by decide +kernel
theorem dX7_signOf_12 : decode cX7_signOf 12 = .ok (.aload_n 0, 1) := by decide +kernel
theorem dX7_signOf_13 : decode cX7_signOf 13 = .ok (.getfield 20, 3) := by decide +kernel
theorem dX7_signOf_16 : decode cX7_signOf 16 = .ok (.bipush 32, 2) := by decide +kernel
theorem dX7_signOf_18 : decode cX7_signOf 18 = .ok (.iload_n 2, 1) := by decide +kernel
theorem dX7_signOf_19 : decode cX7_signOf 19 = .ok (.iadd, 1) := by decide +kernel
theorem dX7_signOf_20 : decode cX7_signOf 20 = .ok (.iaload, 1) := by decide +kernel
theorem dX7_signOf_21 : decode cX7_signOf 21 = .ok (.iadd, 1) := by decide +kernel
theorem dX7_signOf_22 : decode cX7_signOf 22 = .ok (.if_icmp .lt 9, 3) := by decide +kernel
theorem dX7_signOf_25 : decode cX7_signOf 25 = .ok (.iinc 2 1, 3) := by decide +kernel
theorem dX7_signOf_28 : decode cX7_signOf 28 = .ok (.goto (-26), 3) := by decide +kernel
theorem dX7_signOf_31 : decode cX7_signOf 31 = .ok (.iload_n 2, 1) := by decide +kernel
theorem dX7_signOf_32 : decode cX7_signOf 32 = .ok (.ireturn, 1) := by decide +kernel
theorem dX7_readBytes_0 : decode cX7_readBytes 0 = .ok (.aload_n 0, 1) := by decide +kernel
theorem dX7_readBytes_1 : decode cX7_readBytes 1 = .ok (.getfield 56, 3) := by decide +kernel
theorem dX7_readBytes_4 : decode cX7_readBytes 4 = .ok (.iload_n 1, 1) := by decide +kernel
theorem dX7_readBytes_5 : decode cX7_readBytes 5 = .ok (.laload, 1) := by decide +kernel
theorem dX7_readBytes_6 : decode cX7_readBytes 6 = .ok (.lstore 4, 2) := by decide +kernel
theorem dX7_readBytes_8 : decode cX7_readBytes 8 = .ok (.aload_n 0, 1) := by decide +kernel
theorem dX7_readBytes_9 : decode cX7_readBytes 9 = .ok (.getfield 26, 3) := by decide +kernel
theorem dX7_readBytes_12 : decode cX7_readBytes 12 = .ok (.iconst 1, 1) := by decide +kernel
theorem dX7_readBytes_13 : decode cX7_readBytes 13 = .ok (.iaload, 1) := by decide +kernel
theorem dX7_readBytes_14 : decode cX7_readBytes 14 = .ok (.istore 6, 2) := by decide +kernel
theorem dX7_readBytes_16 : decode cX7_readBytes 16 = .ok (.iload_n 2, 1) := by decide +kernel
theorem dX7_readBytes_17 : decode cX7_readBytes 17 = .ok (.i2l, 1) := by decide +kernel
theorem dX7_readBytes_18 : decode cX7_readBytes 18 = .ok (.lload 4, 2) := by decide +kernel
theorem dX7_readBytes_20 : decode cX7_readBytes 20 = .ok (.iload 6, 2) := by decide +kernel
theorem dX7_readBytes_22 : decode cX7_readBytes 22 = .ok (.lshr, 1) := by decide +kernel
theorem dX7_readBytes_23 : decode cX7_readBytes 23 = .ok (.lmul, 1) := by decide +kernel
theorem dX7_readBytes_24 : decode cX7_readBytes 24 = .ok (.lload 4, 2) := by decide +kernel
theorem dX7_readBytes_26 : decode cX7_readBytes 26 = .ok (.lconst 1, 1) := by decide +kernel
theorem dX7_readBytes_27 : decode cX7_readBytes 27 = .ok (.iload 6, 2) := by decide +kernel
theorem dX7_readBytes_29 : decode cX7_readBytes 29 = .ok (.lshl, 1) := by decide +kernel
theorem dX7_readBytes_30 : decode cX7_readBytes 30 = .ok (.lconst 1, 1) := by decide +kernel
theorem dX7_readBytes_31 : decode cX7_readBytes 31 = .ok (.lsub, 1) := by decide +kernel
theorem dX7_readBytes_32 : decode cX7_readBytes 32 = .ok (.land, 1) := by decide +kernel
theorem dX7_readBytes_33 : decode cX7_readBytes 33 = .ok (.ladd, 1) := by decide +kernel
theorem dX7_readBytes_34 : decode cX7_readBytes 34 = .ok (.iload_n 3, 1) := by decide +kernel
theorem dX7_readBytes_35 : decode cX7_readBytes 35 = .ok (.i2l, 1) := by decide +kernel
theorem dX7_readBytes_36 : decode cX7_readBytes 36 = .ok (.lsub, 1) := by decide +kernel
theorem dX7_readBytes_37 : decode cX7_readBytes 37 = .ok (.lstore 4, 2) := by decide +kernel
theorem dX7_readBytes_39 : decode cX7_readBytes 39 = .ok (.lload 4, 2) := by decide +kernel
theorem dX7_readBytes_41 : decode cX7_readBytes 41 = .ok (.ldc2_w 94, 3) := by decide +kernel
theorem dX7_readBytes_44 : decode cX7_readBytes 44 = .ok (.lcmp, 1) := by decide +kernel
theorem dX7_readBytes_45 : decode cX7_readBytes 45 = .ok (.ifCond .ge 26, 3) := by decide +kernel
theorem dX7_readBytes_48 : decode cX7_readBytes 48 = .ok (.aload_n 0, 1) := by decide +kernel
theorem dX7_readBytes_49 : decode cX7_readBytes 49 = .ok (.getfield 162, 3) := by decide +kernel
theorem dX7_readBytes_52 : decode cX7_readBytes 52 = .ok (.ifCond .ne 19, 3) := by decide +kernel
theorem dX7_readBytes_55 : decode cX7_readBytes 55 = .ok (.lload 4, 2) := by decide +kernel
theorem dX7_readBytes_57 : decode cX7_readBytes 57 = .ok (.bipush 8, 2) := by decide +kernel
theorem dX7_readBytes_59 : decode cX7_readBytes 59 = .ok (.lshl, 1) := by decide +kernel
theorem dX7_readBytes_60 : decode cX7_readBytes 60 = .ok (.aload_n 0, 1) := by decide +kernel
theorem dX7_readBytes_61 : decode cX7_readBytes 61 = .ok (.invokevirtual 171, 3) := by decide +kernel
theorem dX7_readBytes_64 : decode cX7_readBytes 64 = .ok (.i2l, 1) := by decide +kernel
theorem dX7_readBytes_65 : decode cX7_readBytes 65 = .ok (.lor, 1) := by decide +kernel
theorem dX7_readBytes_66 : decode cX7_readBytes 66 = .ok (.lstore 4, 2) := by decide +kernel
theorem dX7_readBytes_68 : decode cX7_readBytes 68 = .ok (.goto (-29), 3) := by decide +kernel
theorem dX7_readBytes_71 : decode cX7_readBytes 71 = .ok (.aload_n 0, 1) := by decide +kernel
theorem dX7_readBytes_72 : decode cX7_readBytes 72 = .ok (.getfield 162, 3) := by decide +kernel
theorem dX7_readBytes_75 : decode cX7_readBytes 75 = .ok (.ifCond .ne 11, 3) := by decide +kernel
theorem dX7_readBytes_78 : decode cX7_readBytes 78 = .ok (.aload_n 0, 1) := by decide +kernel
theorem dX7_readBytes_79 : decode cX7_readBytes 79 = .ok (.getfield 56, 3) := by decide +kernel
theorem dX7_readBytes_82 : decode cX7_readBytes 82 = .ok (.iload_n 1, 1) := by decide +kernel
theorem dX7_readBytes_83 : decode cX7_readBytes 83 = .ok (.lload 4, 2) := by decide +kernel
theorem dX7_readBytes_85 : decode cX7_readBytes 85 = .ok (.lastore, 1) := by decide +kernel
theorem dX7_readBytes_86 : decode cX7_readBytes 86 = .ok (.return_, 1) := by decide +kernel
theorem dX7_readWords_0 : decode cX7_readWords 0 = .ok (.aload_n 0, 1) := by decide +kernel
theorem dX7_readWords_1 : decode cX7_readWords 1 = .ok (.getfield 56, 3) := by decide +kernel
theorem dX7_readWords_4 : decode cX7_readWords 4 = .ok (.iload_n 1, 1) := by decide +kernel
theorem dX7_readWords_5 : decode cX7_readWords 5 = .ok (.laload, 1) := by decide +kernel
theorem dX7_readWords_6 : decode cX7_readWords 6 = .ok (.lstore 4, 2) := by decide +kernel
theorem dX7_readWords_8 : decode cX7_readWords 8 = .ok (.aload_n 0, 1) := by decide +kernel
theorem dX7_readWords_9 : decode cX7_readWords 9 = .ok (.getfield 26, 3) := by decide +kernel
theorem dX7_readWords_12 : decode cX7_readWords 12 = .ok (.iconst 1, 1) := by decide +kernel
theorem dX7_readWords_13 : decode cX7_readWords 13 = .ok (.iaload, 1) := by decide +kernel
theorem dX7_readWords_14 : decode cX7_readWords 14 = .ok (.istore 6, 2) := by decide +kernel
theorem dX7_readWords_16 : decode cX7_readWords 16 = .ok (.iload_n 2, 1) := by decide +kernel
theorem dX7_readWords_17 : decode cX7_readWords 17 = .ok (.i2l, 1) := by decide +kernel
theorem dX7_readWords_18 : decode cX7_readWords 18 = .ok (.lload 4, 2) := by decide +kernel
theorem dX7_readWords_20 : decode cX7_readWords 20 = .ok (.iload 6, 2) := by decide +kernel
theorem dX7_readWords_22 : decode cX7_readWords 22 = .ok (.lshr, 1) := by decide +kernel
theorem dX7_readWords_23 : decode cX7_readWords 23 = .ok (.lmul, 1) := by decide +kernel
theorem dX7_readWords_24 : decode cX7_readWords 24 = .ok (.lload 4, 2) := by decide +kernel
theorem dX7_readWords_26 : decode cX7_readWords 26 = .ok (.lconst 1, 1) := by decide +kernel
theorem dX7_readWords_27 : decode cX7_readWords 27 = .ok (.iload 6, 2) := by decide +kernel
theorem dX7_readWords_29 : decode cX7_readWords 29 = .ok (.lshl, 1) := by decide +kernel
theorem dX7_readWords_30 : decode cX7_readWords 30 = .ok (.lconst 1, 1) := by decide +kernel
theorem dX7_readWords_31 : decode cX7_readWords 31 = .ok (.lsub, 1) := by decide +kernel
theorem dX7_readWords_32 : decode cX7_readWords 32 = .ok (.land, 1) := by decide +kernel
theorem dX7_readWords_33 : decode cX7_readWords 33 = .ok (.ladd, 1) := by decide +kernel
theorem dX7_readWords_34 : decode cX7_readWords 34 = .ok (.iload_n 3, 1) := by decide +kernel
theorem dX7_readWords_35 : decode cX7_readWords 35 = .ok (.i2l, 1) := by decide +kernel
theorem dX7_readWords_36 : decode cX7_readWords 36 = .ok (.lsub, 1) := by decide +kernel
theorem dX7_readWords_37 : decode cX7_readWords 37 = .ok (.lstore 4, 2) := by decide +kernel
theorem dX7_readWords_39 : decode cX7_readWords 39 = .ok (.lload 4, 2) := by decide +kernel
theorem dX7_readWords_41 : decode cX7_readWords 41 = .ok (.ldc2_w 77, 3) := by decide +kernel
theorem dX7_readWords_44 : decode cX7_readWords 44 = .ok (.lcmp, 1) := by decide +kernel
theorem dX7_readWords_45 : decode cX7_readWords 45 = .ok (.ifCond .ge 26, 3) := by decide +kernel
theorem dX7_readWords_48 : decode cX7_readWords 48 = .ok (.aload_n 0, 1) := by decide +kernel
theorem dX7_readWords_49 : decode cX7_readWords 49 = .ok (.getfield 162, 3) := by decide +kernel
theorem dX7_readWords_52 : decode cX7_readWords 52 = .ok (.ifCond .ne 19, 3) := by decide +kernel
theorem dX7_readWords_55 : decode cX7_readWords 55 = .ok (.lload 4, 2) := by decide +kernel
theorem dX7_readWords_57 : decode cX7_readWords 57 = .ok (.bipush 32, 2) := by decide +kernel
theorem dX7_readWords_59 : decode cX7_readWords 59 = .ok (.lshl, 1) := by decide +kernel
theorem dX7_readWords_60 : decode cX7_readWords 60 = .ok (.aload_n 0, 1) := by decide +kernel
theorem dX7_readWords_61 : decode cX7_readWords 61 = .ok (.iconst 4, 1) := by decide +kernel
theorem dX7_readWords_62 : decode cX7_readWords 62 = .ok (.invokevirtual 198, 3) := by decide +kernel
theorem dX7_readWords_65 : decode cX7_readWords 65 = .ok (.lor, 1) := by decide +kernel
theorem dX7_readWords_66 : decode cX7_readWords 66 = .ok (.lstore 4, 2) := by decide +kernel
theorem dX7_readWords_68 : decode cX7_readWords 68 = .ok (.goto (-29), 3) := by decide +kernel
theorem dX7_readWords_71 : decode cX7_readWords 71 = .ok (.aload_n 0, 1) := by decide +kernel
theorem dX7_readWords_72 : decode cX7_readWords 72 = .ok (.getfield 162, 3) := by decide +kernel
theorem dX7_readWords_75 : decode cX7_readWords 75 = .ok (.ifCond .ne 11, 3) := by decide +kernel
theorem dX7_readWords_78 : decode cX7_readWords 78 = .ok (.aload_n 0, 1) := by decide +kernel
theorem dX7_readWords_79 : decode cX7_readWords 79 = .ok (.getfield 56, 3) := by decide +kernel
theorem dX7_readWords_82 : decode cX7_readWords 82 = .ok (.iload_n 1, 1) := by decide +kernel
theorem dX7_readWords_83 : decode cX7_readWords 83 = .ok (.lload 4, 2) := by decide +kernel
theorem dX7_readWords_85 : decode cX7_readWords 85 = .ok (.lastore, 1) := by decide +kernel
theorem dX7_readWords_86 : decode cX7_readWords 86 = .ok (.return_, 1) := by decide +kernel
theorem dX7_readSides_0 : decode cX7_readSides 0 = .ok (.iconst 1, 1) := by decide +kernel
theorem dX7_readSides_1 : decode cX7_readSides 1 = .ok (.aload_n 0, 1) := by decide +kernel
theorem dX7_readSides_2 : decode cX7_readSides 2 = .ok (.getfield 26, 3) := by decide +kernel
theorem dX7_readSides_5 : decode cX7_readSides 5 = .ok (.iconst 1, 1) := by decide +kernel
theorem dX7_readSides_6 : decode cX7_readSides 6 = .ok (.iaload, 1) := by decide +kernel
theorem dX7_readSides_7 : decode cX7_readSides 7 = .ok (.ishl, 1) := by decide +kernel
theorem dX7_readSides_8 : decode cX7_readSides 8 = .ok (.istore_n 2, 1) := by decide +kernel
theorem dX7_readSides_9 : decode cX7_readSides 9 = .ok (.iconst 0, 1) := by decide +kernel
theorem dX7_readSides_10 : decode cX7_readSides 10 = .ok (.istore_n 3, 1) := by decide +kernel
theorem dX7_readSides_11 : decode cX7_readSides 11 = .ok (.iconst 0, 1) := by decide +kernel
theorem dX7_readSides_12 : decode cX7_readSides 12 = .ok (.istore 4, 2) := by decide +kernel
theorem dX7_readSides_14 : decode cX7_readSides 14 = .ok (.iload 4, 2) := by decide +kernel
theorem dX7_readSides_16 : decode cX7_readSides 16 = .ok (.iconst 5, 1) := by decide +kernel
theorem dX7_readSides_17 : decode cX7_readSides 17 = .ok (.if_icmp .ge 125, 3) := by decide +kernel
theorem dX7_readSides_20 : decode cX7_readSides 20 = .ok (.aload_n 0, 1) := by decide +kernel
theorem dX7_readSides_21 : decode cX7_readSides 21 = .ok (.getfield 162, 3) := by decide +kernel
theorem dX7_readSides_24 : decode cX7_readSides 24 = .ok (.ifCond .ne 118, 3) := by decide +kernel
theorem dX7_readSides_27 : decode cX7_readSides 27 = .ok (.aload_n 0, 1) := by decide +kernel
theorem dX7_readSides_28 : decode cX7_readSides 28 = .ok (.iconst 1, 1) := by decide +kernel
theorem dX7_readSides_29 : decode cX7_readSides 29 = .ok (.iload_n 3, 1) := by decide +kernel
theorem dX7_readSides_30 : decode cX7_readSides 30 = .ok (.iload 4, 2) := by decide +kernel
theorem dX7_readSides_32 : decode cX7_readSides 32 = .ok (.invokevirtual 122, 3) := by decide +kernel
theorem dX7_readSides_35 : decode cX7_readSides 35 = .ok (.aload_n 0, 1) := by decide +kernel
theorem dX7_readSides_36 : decode cX7_readSides 36 = .ok (.getfield 119, 3) := by decide +kernel
theorem dX7_readSides_39 : decode cX7_readSides 39 = .ok (.ifCond .le 7, 3) := by decide +kernel
theorem dX7_readSides_42 : decode cX7_readSides 42 = .ok (.iconst 0, 1) := by decide +kernel
theorem dX7_readSides_43 : decode cX7_readSides 43 = .ok (.goto 4, 3) := by decide +kernel
theorem dX7_readSides_46 : decode cX7_readSides 46 = .ok (.iconst 1, 1) := by decide +kernel
theorem dX7_readSides_47 : decode cX7_readSides 47 = .ok (.istore 5, 2) := by decide +kernel
theorem dX7_readSides_49 : decode cX7_readSides 49 = .ok (.aload_n 0, 1) := by decide +kernel
theorem dX7_readSides_50 : decode cX7_readSides 50 = .ok (.getfield 119, 3) := by decide +kernel
theorem dX7_readSides_53 : decode cX7_readSides 53 = .ok (.ifCond .le 76, 3) := by decide +kernel
theorem dX7_readSides_56 : decode cX7_readSides 56 = .ok (.aload_n 0, 1) := by decide +kernel
theorem dX7_readSides_57 : decode cX7_readSides 57 = .ok (.getfield 119, 3) := by decide +kernel
theorem dX7_readSides_60 : decode cX7_readSides 60 = .ok (.aload_n 0, 1) := by decide +kernel
theorem dX7_readSides_61 : decode cX7_readSides 61 = .ok (.getfield 116, 3) := by decide +kernel
theorem dX7_readSides_64 : decode cX7_readSides 64 = .ok (.if_icmp .ge 65, 3) := by decide +kernel
theorem dX7_readSides_67 : decode cX7_readSides 67 = .ok (.aload_n 0, 1) := by decide +kernel
theorem dX7_readSides_68 : decode cX7_readSides 68 = .ok (.iload_n 2, 1) := by decide +kernel
theorem dX7_readSides_69 : decode cX7_readSides 69 = .ok (.invokevirtual 126, 3) := by decide +kernel
theorem dX7_readSides_72 : decode cX7_readSides 72 = .ok (.istore 6, 2) := by decide +kernel
theorem dX7_readSides_74 : decode cX7_readSides 74 = .ok (.aload_n 0, 1) := by decide +kernel
theorem dX7_readSides_75 : decode cX7_readSides 75 = .ok (.getfield 56, 3) := by decide +kernel
theorem dX7_readSides_78 : decode cX7_readSides 78 = .ok (.iload_n 1, 1) := by decide +kernel
theorem dX7_readSides_79 : decode cX7_readSides 79 = .ok (.laload, 1) := by decide +kernel
theorem dX7_readSides_80 : decode cX7_readSides 80 = .ok (.iload_n 2, 1) := by decide +kernel
theorem dX7_readSides_81 : decode cX7_readSides 81 = .ok (.iconst 1, 1) := by decide +kernel
theorem dX7_readSides_82 : decode cX7_readSides 82 = .ok (.isub, 1) := by decide +kernel
theorem dX7_readSides_83 : decode cX7_readSides 83 = .ok (.i2l, 1) := by decide +kernel
theorem dX7_readSides_84 : decode cX7_readSides 84 = .ok (.land, 1) := by decide +kernel
theorem dX7_readSides_85 : decode cX7_readSides 85 = .ok (.iload 6, 2) := by decide +kernel
theorem dX7_readSides_87 : decode cX7_readSides 87 = .ok (.i2l, 1) := by decide +kernel
theorem dX7_readSides_88 : decode cX7_readSides 88 = .ok (.lcmp, 1) := by decide +kernel
theorem dX7_readSides_89 : decode cX7_readSides 89 = .ok (.ifCond .ge 7, 3) := by decide +kernel
theorem dX7_readSides_92 : decode cX7_readSides 92 = .ok (.iconst 0, 1) := by decide +kernel
theorem dX7_readSides_93 : decode cX7_readSides 93 = .ok (.goto 4, 3) := by decide +kernel
theorem dX7_readSides_96 : decode cX7_readSides 96 = .ok (.iconst 1, 1) := by decide +kernel
theorem dX7_readSides_97 : decode cX7_readSides 97 = .ok (.istore 5, 2) := by decide +kernel
theorem dX7_readSides_99 : decode cX7_readSides 99 = .ok (.aload_n 0, 1) := by decide +kernel
theorem dX7_readSides_100 : decode cX7_readSides 100 = .ok (.iload_n 1, 1) := by decide +kernel
theorem dX7_readSides_101 : decode cX7_readSides 101 = .ok (.iload 5, 2) := by decide +kernel
theorem dX7_readSides_103 : decode cX7_readSides 103 = .ok (.ifCond .ne 8, 3) := by decide +kernel
theorem dX7_readSides_106 : decode cX7_readSides 106 = .ok (.iload 6, 2) := by decide +kernel
theorem dX7_readSides_108 : decode cX7_readSides 108 = .ok (.goto 7, 3) := by decide +kernel
theorem dX7_readSides_111 : decode cX7_readSides 111 = .ok (.iload_n 2, 1) := by decide +kernel
theorem dX7_readSides_112 : decode cX7_readSides 112 = .ok (.iload 6, 2) := by decide +kernel
theorem dX7_readSides_114 : decode cX7_readSides 114 = .ok (.isub, 1) := by decide +kernel
theorem dX7_readSides_115 : decode cX7_readSides 115 = .ok (.iload 5, 2) := by decide +kernel
theorem dX7_readSides_117 : decode cX7_readSides 117 = .ok (.ifCond .ne 7, 3) := by decide +kernel
theorem dX7_readSides_120 : decode cX7_readSides 120 = .ok (.iconst 0, 1) := by decide +kernel
theorem dX7_readSides_121 : decode cX7_readSides 121 = .ok (.goto 5, 3) := by decide +kernel
theorem dX7_readSides_124 : decode cX7_readSides 124 = .ok (.iload 6, 2) := by decide +kernel
theorem dX7_readSides_126 : decode cX7_readSides 126 = .ok (.invokevirtual 189, 3) := by decide +kernel
theorem dX7_readSides_129 : decode cX7_readSides 129 = .ok (.iconst 2, 1) := by decide +kernel
theorem dX7_readSides_130 : decode cX7_readSides 130 = .ok (.iload_n 3, 1) := by decide +kernel
theorem dX7_readSides_131 : decode cX7_readSides 131 = .ok (.imul, 1) := by decide +kernel
theorem dX7_readSides_132 : decode cX7_readSides 132 = .ok (.iload 5, 2) := by decide +kernel
theorem dX7_readSides_134 : decode cX7_readSides 134 = .ok (.iadd, 1) := by decide +kernel
theorem dX7_readSides_135 : decode cX7_readSides 135 = .ok (.istore_n 3, 1) := by decide +kernel
theorem dX7_readSides_136 : decode cX7_readSides 136 = .ok (.iinc 4 1, 3) := by decide +kernel
theorem dX7_readSides_139 : decode cX7_readSides 139 = .ok (.goto (-125), 3) := by decide +kernel
theorem dX7_readSides_142 : decode cX7_readSides 142 = .ok (.iload_n 3, 1) := by decide +kernel
theorem dX7_readSides_143 : decode cX7_readSides 143 = .ok (.ireturn, 1) := by decide +kernel
theorem dX7_readSign_0 : decode cX7_readSign 0 = .ok (.aload_n 0, 1) := by decide +kernel
theorem dX7_readSign_1 : decode cX7_readSign 1 = .ok (.getfield 26, 3) := by decide +kernel
theorem dX7_readSign_4 : decode cX7_readSign 4 = .ok (.iconst 1, 1) := by decide +kernel
theorem dX7_readSign_5 : decode cX7_readSign 5 = .ok (.iaload, 1) := by decide +kernel
theorem dX7_readSign_6 : decode cX7_readSign 6 = .ok (.istore_n 2, 1) := by decide +kernel
theorem dX7_readSign_7 : decode cX7_readSign 7 = .ok (.aload_n 0, 1) := by decide +kernel
theorem dX7_readSign_8 : decode cX7_readSign 8 = .ok (.getfield 180, 3) := by decide +kernel
theorem dX7_readSign_11 : decode cX7_readSign 11 = .ok (.iconst 3, 1) := by decide +kernel
theorem dX7_readSign_12 : decode cX7_readSign 12 = .ok (.if_icmp .ne 12, 3) := by decide +kernel
theorem dX7_readSign_15 : decode cX7_readSign 15 = .ok (.aload_n 0, 1) := by decide +kernel
theorem dX7_readSign_16 : decode cX7_readSign 16 = .ok (.iload_n 1, 1) := by decide +kernel
theorem dX7_readSign_17 : decode cX7_readSign 17 = .ok (.invokevirtual 183, 3) := by decide +kernel
theorem dX7_readSign_20 : decode cX7_readSign 20 = .ok (.istore_n 3, 1) := by decide +kernel
theorem dX7_readSign_21 : decode cX7_readSign 21 = .ok (.goto 226, 3) := by decide +kernel
theorem dX7_readSign_24 : decode cX7_readSign 24 = .ok (.aload_n 0, 1) := by decide +kernel
theorem dX7_readSign_25 : decode cX7_readSign 25 = .ok (.getfield 180, 3) := by decide +kernel
theorem dX7_readSign_28 : decode cX7_readSign 28 = .ok (.iconst 2, 1) := by decide +kernel
theorem dX7_readSign_29 : decode cX7_readSign 29 = .ok (.if_icmp .ne 129, 3) := by decide +kernel
theorem dX7_readSign_32 : decode cX7_readSign 32 = .ok (.aload_n 0, 1) := by decide +kernel
theorem dX7_readSign_33 : decode cX7_readSign 33 = .ok (.getfield 56, 3) := by decide +kernel
theorem dX7_readSign_36 : decode cX7_readSign 36 = .ok (.iload_n 1, 1) := by decide +kernel
theorem dX7_readSign_37 : decode cX7_readSign 37 = .ok (.laload, 1) := by decide +kernel
theorem dX7_readSign_38 : decode cX7_readSign 38 = .ok (.l2i, 1) := by decide +kernel
theorem dX7_readSign_39 : decode cX7_readSign 39 = .ok (.iconst 1, 1) := by decide +kernel
theorem dX7_readSign_40 : decode cX7_readSign 40 = .ok (.iload_n 2, 1) := by decide +kernel
theorem dX7_readSign_41 : decode cX7_readSign 41 = .ok (.ishl, 1) := by decide +kernel
theorem dX7_readSign_42 : decode cX7_readSign 42 = .ok (.isub, 1) := by decide +kernel
theorem dX7_readSign_43 : decode cX7_readSign 43 = .ok (.istore 4, 2) := by decide +kernel
theorem dX7_readSign_45 : decode cX7_readSign 45 = .ok (.aload_n 0, 1) := by decide +kernel
theorem dX7_readSign_46 : decode cX7_readSign 46 = .ok (.getfield 29, 3) := by decide +kernel
theorem dX7_readSign_49 : decode cX7_readSign 49 = .ok (.sipush 4096, 3) := by decide +kernel
theorem dX7_readSign_52 : decode cX7_readSign 52 = .ok (.iload 4, 2) := by decide +kernel
theorem dX7_readSign_54 : decode cX7_readSign 54 = .ok (.iadd, 1) := by decide +kernel
theorem dX7_readSign_55 : decode cX7_readSign 55 = .ok (.iaload, 1) := by decide +kernel
theorem dX7_readSign_56 : decode cX7_readSign 56 = .ok (.istore_n 3, 1) := by decide +kernel
theorem dX7_readSign_57 : decode cX7_readSign 57 = .ok (.aload_n 0, 1) := by decide +kernel
theorem dX7_readSign_58 : decode cX7_readSign 58 = .ok (.getfield 32, 3) := by decide +kernel
theorem dX7_readSign_61 : decode cX7_readSign 61 = .ok (.sipush 4096, 3) := by decide +kernel
theorem dX7_readSign_64 : decode cX7_readSign 64 = .ok (.iload 4, 2) := by decide +kernel
theorem dX7_readSign_66 : decode cX7_readSign 66 = .ok (.iadd, 1) := by decide +kernel
theorem dX7_readSign_67 : decode cX7_readSign 67 = .ok (.iaload, 1) := by decide +kernel
theorem dX7_readSign_68 : decode cX7_readSign 68 = .ok (.i2l, 1) := by decide +kernel
theorem dX7_readSign_69 : decode cX7_readSign 69 = .ok (.lstore 5, 2) := by decide +kernel
theorem dX7_readSign_71 : decode cX7_readSign 71 = .ok (.aload_n 0, 1) := by decide +kernel
theorem dX7_readSign_72 : decode cX7_readSign 72 = .ok (.getfield 20, 3) := by decide +kernel
theorem dX7_readSign_75 : decode cX7_readSign 75 = .ok (.bipush 32, 2) := by decide +kernel
theorem dX7_readSign_77 : decode cX7_readSign 77 = .ok (.iload_n 3, 1) := by decide +kernel
theorem dX7_readSign_78 : decode cX7_readSign 78 = .ok (.iadd, 1) := by decide +kernel
theorem dX7_readSign_79 : decode cX7_readSign 79 = .ok (.iaload, 1) := by decide +kernel
theorem dX7_readSign_80 : decode cX7_readSign 80 = .ok (.iconst 1, 1) := by decide +kernel
theorem dX7_readSign_81 : decode cX7_readSign 81 = .ok (.iload_n 2, 1) := by decide +kernel
theorem dX7_readSign_82 : decode cX7_readSign 82 = .ok (.ishl, 1) := by decide +kernel
theorem dX7_readSign_83 : decode cX7_readSign 83 = .ok (.if_icmp .ne 7, 3) := by decide +kernel
theorem dX7_readSign_86 : decode cX7_readSign 86 = .ok (.iconst 1, 1) := by decide +kernel
theorem dX7_readSign_87 : decode cX7_readSign 87 = .ok (.goto 4, 3) := by decide +kernel
theorem dX7_readSign_90 : decode cX7_readSign 90 = .ok (.iconst 0, 1) := by decide +kernel
theorem dX7_readSign_91 : decode cX7_readSign 91 = .ok (.istore 7, 2) := by decide +kernel
theorem dX7_readSign_93 : decode cX7_readSign 93 = .ok (.lload 5, 2) := by decide +kernel
theorem dX7_readSign_95 : decode cX7_readSign 95 = .ok (.lconst 1, 1) := by decide +kernel
theorem dX7_readSign_96 : decode cX7_readSign 96 = .ok (.iload_n 2, 1) := by decide +kernel
theorem dX7_readSign_97 : decode cX7_readSign 97 = .ok (.lshl, 1) := by decide +kernel
theorem dX7_readSign_98 : decode cX7_readSign 98 = .ok (.lcmp, 1) := by decide +kernel
theorem dX7_readSign_99 : decode cX7_readSign 99 = .ok (.ifCond .ge 27, 3) := by decide +kernel
theorem dX7_readSign_102 : decode cX7_readSign 102 = .ok (.aload_n 0, 1) := by decide +kernel
theorem dX7_readSign_103 : decode cX7_readSign 103 = .ok (.getfield 162, 3) := by decide +kernel
theorem dX7_readSign_106 : decode cX7_readSign 106 = .ok (.ifCond .ne 20, 3) := by decide +kernel
theorem dX7_readSign_109 : decode cX7_readSign 109 = .ok (.ldc2_w 79, 3) := by decide +kernel
theorem dX7_readSign_112 : decode cX7_readSign 112 = .ok (.lload 5, 2) := by decide +kernel
theorem dX7_readSign_114 : decode cX7_readSign 114 = .ok (.lmul, 1) := by decide +kernel
theorem dX7_readSign_115 : decode cX7_readSign 115 = .ok (.aload_n 0, 1) := by decide +kernel
theorem dX7_readSign_116 : decode cX7_readSign 116 = .ok (.invokevirtual 177, 3) := by decide +kernel
theorem dX7_readSign_119 : decode cX7_readSign 119 = .ok (.i2l, 1) := by decide +kernel
theorem dX7_readSign_120 : decode cX7_readSign 120 = .ok (.ladd, 1) := by decide +kernel
theorem dX7_readSign_121 : decode cX7_readSign 121 = .ok (.lstore 5, 2) := by decide +kernel
theorem dX7_readSign_123 : decode cX7_readSign 123 = .ok (.goto (-30), 3) := by decide +kernel
theorem dX7_readSign_126 : decode cX7_readSign 126 = .ok (.aload_n 0, 1) := by decide +kernel
theorem dX7_readSign_127 : decode cX7_readSign 127 = .ok (.getfield 56, 3) := by decide +kernel
theorem dX7_readSign_130 : decode cX7_readSign 130 = .ok (.iload_n 1, 1) := by decide +kernel
theorem dX7_readSign_131 : decode cX7_readSign 131 = .ok (.aload_n 0, 1) := by decide +kernel
theorem dX7_readSign_132 : decode cX7_readSign 132 = .ok (.getfield 162, 3) := by decide +kernel
theorem dX7_readSign_135 : decode cX7_readSign 135 = .ok (.ifCond .ne 13, 3) := by decide +kernel
theorem dX7_readSign_138 : decode cX7_readSign 138 = .ok (.iload 7, 2) := by decide +kernel
theorem dX7_readSign_140 : decode cX7_readSign 140 = .ok (.ifCond .ne 8, 3) := by decide +kernel
theorem dX7_readSign_143 : decode cX7_readSign 143 = .ok (.lload 5, 2) := by decide +kernel
theorem dX7_readSign_145 : decode cX7_readSign 145 = .ok (.goto 9, 3) := by decide +kernel
theorem dX7_readSign_148 : decode cX7_readSign 148 = .ok (.aload_n 0, 1) := by decide +kernel
theorem dX7_readSign_149 : decode cX7_readSign 149 = .ok (.getfield 56, 3) := by decide +kernel
theorem dX7_readSign_152 : decode cX7_readSign 152 = .ok (.iload_n 1, 1) := by decide +kernel
theorem dX7_readSign_153 : decode cX7_readSign 153 = .ok (.laload, 1) := by decide +kernel
theorem dX7_readSign_154 : decode cX7_readSign 154 = .ok (.lastore, 1) := by decide +kernel
theorem dX7_readSign_155 : decode cX7_readSign 155 = .ok (.goto 92, 3) := by decide +kernel
theorem dX7_readSign_158 : decode cX7_readSign 158 = .ok (.aload_n 0, 1) := by decide +kernel
theorem dX7_readSign_159 : decode cX7_readSign 159 = .ok (.aload_n 0, 1) := by decide +kernel
theorem dX7_readSign_160 : decode cX7_readSign 160 = .ok (.getfield 56, 3) := by decide +kernel
theorem dX7_readSign_163 : decode cX7_readSign 163 = .ok (.iload_n 1, 1) := by decide +kernel
theorem dX7_readSign_164 : decode cX7_readSign 164 = .ok (.laload, 1) := by decide +kernel
theorem dX7_readSign_165 : decode cX7_readSign 165 = .ok (.lconst 1, 1) := by decide +kernel
theorem dX7_readSign_166 : decode cX7_readSign 166 = .ok (.iload_n 2, 1) := by decide +kernel
theorem dX7_readSign_167 : decode cX7_readSign 167 = .ok (.lshl, 1) := by decide +kernel
theorem dX7_readSign_168 : decode cX7_readSign 168 = .ok (.lconst 1, 1) := by decide +kernel
theorem dX7_readSign_169 : decode cX7_readSign 169 = .ok (.lsub, 1) := by decide +kernel
theorem dX7_readSign_170 : decode cX7_readSign 170 = .ok (.land, 1) := by decide +kernel
theorem dX7_readSign_171 : decode cX7_readSign 171 = .ok (.l2i, 1) := by decide +kernel
theorem dX7_readSign_172 : decode cX7_readSign 172 = .ok (.invokevirtual 186, 3) := by decide +kernel
theorem dX7_readSign_175 : decode cX7_readSign 175 = .ok (.istore_n 3, 1) := by decide +kernel
theorem dX7_readSign_176 : decode cX7_readSign 176 = .ok (.aload_n 0, 1) := by decide +kernel
theorem dX7_readSign_177 : decode cX7_readSign 177 = .ok (.getfield 20, 3) := by decide +kernel
theorem dX7_readSign_180 : decode cX7_readSign 180 = .ok (.bipush 32, 2) := by decide +kernel
theorem dX7_readSign_182 : decode cX7_readSign 182 = .ok (.iload_n 3, 1) := by decide +kernel
theorem dX7_readSign_183 : decode cX7_readSign 183 = .ok (.iadd, 1) := by decide +kernel
theorem dX7_readSign_184 : decode cX7_readSign 184 = .ok (.iaload, 1) := by decide +kernel
theorem dX7_readSign_185 : decode cX7_readSign 185 = .ok (.iconst 1, 1) := by decide +kernel
theorem dX7_readSign_186 : decode cX7_readSign 186 = .ok (.iload_n 2, 1) := by decide +kernel
theorem dX7_readSign_187 : decode cX7_readSign 187 = .ok (.ishl, 1) := by decide +kernel
theorem dX7_readSign_188 : decode cX7_readSign 188 = .ok (.if_icmp .ge 59, 3) := by decide +kernel
theorem dX7_readSign_191 : decode cX7_readSign 191 = .ok (.aload_n 0, 1) := by decide +kernel
theorem dX7_readSign_192 : decode cX7_readSign 192 = .ok (.getfield 180, 3) := by decide +kernel
theorem dX7_readSign_195 : decode cX7_readSign 195 = .ok (.ifCond .ne 29, 3) := by decide +kernel
theorem dX7_readSign_198 : decode cX7_readSign 198 = .ok (.aload_n 0, 1) := by decide +kernel
theorem dX7_readSign_199 : decode cX7_readSign 199 = .ok (.iload_n 1, 1) := by decide +kernel
theorem dX7_readSign_200 : decode cX7_readSign 200 = .ok (.aload_n 0, 1) := by decide +kernel
theorem dX7_readSign_201 : decode cX7_readSign 201 = .ok (.getfield 20, 3) := by decide +kernel
theorem dX7_readSign_204 : decode cX7_readSign 204 = .ok (.bipush 32, 2) := by decide +kernel
theorem dX7_readSign_206 : decode cX7_readSign 206 = .ok (.iload_n 3, 1) := by decide +kernel
theorem dX7_readSign_207 : decode cX7_readSign 207 = .ok (.iadd, 1) := by decide +kernel
theorem dX7_readSign_208 : decode cX7_readSign 208 = .ok (.iaload, 1) := by decide +kernel
theorem dX7_readSign_209 : decode cX7_readSign 209 = .ok (.aload_n 0, 1) := by decide +kernel
theorem dX7_readSign_210 : decode cX7_readSign 210 = .ok (.getfield 23, 3) := by decide +kernel
theorem dX7_readSign_213 : decode cX7_readSign 213 = .ok (.bipush 32, 2) := by decide +kernel
theorem dX7_readSign_215 : decode cX7_readSign 215 = .ok (.iload_n 3, 1) := by decide +kernel
theorem dX7_readSign_216 : decode cX7_readSign 216 = .ok (.iadd, 1) := by decide +kernel
theorem dX7_readSign_217 : decode cX7_readSign 217 = .ok (.iaload, 1) := by decide +kernel
theorem dX7_readSign_218 : decode cX7_readSign 218 = .ok (.invokevirtual 189, 3) := by decide +kernel
theorem dX7_readSign_221 : decode cX7_readSign 221 = .ok (.goto 26, 3) := by decide +kernel
theorem dX7_readSign_224 : decode cX7_readSign 224 = .ok (.aload_n 0, 1) := by decide +kernel
theorem dX7_readSign_225 : decode cX7_readSign 225 = .ok (.iload_n 1, 1) := by decide +kernel
theorem dX7_readSign_226 : decode cX7_readSign 226 = .ok (.aload_n 0, 1) := by decide +kernel
theorem dX7_readSign_227 : decode cX7_readSign 227 = .ok (.getfield 20, 3) := by decide +kernel
theorem dX7_readSign_230 : decode cX7_readSign 230 = .ok (.bipush 32, 2) := by decide +kernel
theorem dX7_readSign_232 : decode cX7_readSign 232 = .ok (.iload_n 3, 1) := by decide +kernel
theorem dX7_readSign_233 : decode cX7_readSign 233 = .ok (.iadd, 1) := by decide +kernel
theorem dX7_readSign_234 : decode cX7_readSign 234 = .ok (.iaload, 1) := by decide +kernel
theorem dX7_readSign_235 : decode cX7_readSign 235 = .ok (.aload_n 0, 1) := by decide +kernel
theorem dX7_readSign_236 : decode cX7_readSign 236 = .ok (.getfield 23, 3) := by decide +kernel
theorem dX7_readSign_239 : decode cX7_readSign 239 = .ok (.bipush 32, 2) := by decide +kernel
theorem dX7_readSign_241 : decode cX7_readSign 241 = .ok (.iload_n 3, 1) := by decide +kernel
theorem dX7_readSign_242 : decode cX7_readSign 242 = .ok (.iadd, 1) := by decide +kernel
theorem dX7_readSign_243 : decode cX7_readSign 243 = .ok (.iaload, 1) := by decide +kernel
theorem dX7_readSign_244 : decode cX7_readSign 244 = .ok (.invokevirtual 192, 3) := by decide +kernel
theorem dX7_readSign_247 : decode cX7_readSign 247 = .ok (.aload_n 0, 1) := by decide +kernel
theorem dX7_readSign_248 : decode cX7_readSign 248 = .ok (.getfield 162, 3) := by decide +kernel
theorem dX7_readSign_251 : decode cX7_readSign 251 = .ok (.ifCond .ne 23, 3) := by decide +kernel
theorem dX7_readSign_254 : decode cX7_readSign 254 = .ok (.aload_n 0, 1) := by decide +kernel
theorem dX7_readSign_255 : decode cX7_readSign 255 = .ok (.getfield 53, 3) := by decide +kernel
theorem dX7_readSign_258 : decode cX7_readSign 258 = .ok (.aload_n 0, 1) := by decide +kernel
theorem dX7_readSign_259 : decode cX7_readSign 259 = .ok (.getfield 195, 3) := by decide +kernel
theorem dX7_readSign_262 : decode cX7_readSign 262 = .ok (.iload_n 3, 1) := by decide +kernel
theorem dX7_readSign_263 : decode cX7_readSign 263 = .ok (.iastore, 1) := by decide +kernel
theorem dX7_readSign_264 : decode cX7_readSign 264 = .ok (.aload_n 0, 1) := by decide +kernel
theorem dX7_readSign_265 : decode cX7_readSign 265 = .ok (.dup, 1) := by decide +kernel
theorem dX7_readSign_266 : decode cX7_readSign 266 = .ok (.getfield 195, 3) := by decide +kernel
theorem dX7_readSign_269 : decode cX7_readSign 269 = .ok (.iconst 1, 1) := by decide +kernel
theorem dX7_readSign_270 : decode cX7_readSign 270 = .ok (.iadd, 1) := by decide +kernel
theorem dX7_readSign_271 : decode cX7_readSign 271 = .ok (.putfield 195, 3) := by decide +kernel
theorem dX7_readSign_274 : decode cX7_readSign 274 = .ok (.return_, 1) := by decide +kernel
theorem dX7_readHead_0 : decode cX7_readHead 0 = .ok (.aload_n 0, 1) := by decide +kernel
theorem dX7_readHead_1 : decode cX7_readHead 1 = .ok (.invokevirtual 171, 3) := by decide +kernel
theorem dX7_readHead_4 : decode cX7_readHead 4 = .ok (.istore_n 1, 1) := by decide +kernel
theorem dX7_readHead_5 : decode cX7_readHead 5 = .ok (.aload_n 0, 1) := by decide +kernel
theorem dX7_readHead_6 : decode cX7_readHead 6 = .ok (.getfield 162, 3) := by decide +kernel
theorem dX7_readHead_9 : decode cX7_readHead 9 = .ok (.ifCond .ne 21, 3) := by decide +kernel
theorem dX7_readHead_12 : decode cX7_readHead 12 = .ok (.iload_n 1, 1) := by decide +kernel
theorem dX7_readHead_13 : decode cX7_readHead 13 = .ok (.bipush 15, 2) := by decide +kernel
theorem dX7_readHead_15 : decode cX7_readHead 15 = .ok (.if_icmp .gt 10, 3) := by decide +kernel
theorem dX7_readHead_18 : decode cX7_readHead 18 = .ok (.iload_n 1, 1) := by decide +kernel
theorem dX7_readHead_19 : decode cX7_readHead 19 = .ok (.iconst 3, 1) := by decide +kernel
theorem dX7_readHead_20 : decode cX7_readHead 20 = .ok (.iand, 1) := by decide +kernel
theorem dX7_readHead_21 : decode cX7_readHead 21 = .ok (.iconst 3, 1) := by decide +kernel
theorem dX7_readHead_22 : decode cX7_readHead 22 = .ok (.if_icmp .ne 8, 3) := by decide +kernel
theorem dX7_readHead_25 : decode cX7_readHead 25 = .ok (.aload_n 0, 1) := by decide +kernel
theorem dX7_readHead_26 : decode cX7_readHead 26 = .ok (.iconst 2, 1) := by decide +kernel
theorem dX7_readHead_27 : decode cX7_readHead 27 = .ok (.invokevirtual 168, 3) := by decide +kernel
theorem dX7_readHead_30 : decode cX7_readHead 30 = .ok (.aload_n 0, 1) := by decide +kernel
theorem dX7_readHead_31 : decode cX7_readHead 31 = .ok (.iload_n 1, 1) := by decide +kernel
theorem dX7_readHead_32 : decode cX7_readHead 32 = .ok (.iconst 2, 1) := by decide +kernel
theorem dX7_readHead_33 : decode cX7_readHead 33 = .ok (.ishr, 1) := by decide +kernel
theorem dX7_readHead_34 : decode cX7_readHead 34 = .ok (.putfield 180, 3) := by decide +kernel
theorem dX7_readHead_37 : decode cX7_readHead 37 = .ok (.aload_n 0, 1) := by decide +kernel
theorem dX7_readHead_38 : decode cX7_readHead 38 = .ok (.iconst 1, 1) := by decide +kernel
theorem dX7_readHead_39 : decode cX7_readHead 39 = .ok (.iload_n 1, 1) := by decide +kernel
theorem dX7_readHead_40 : decode cX7_readHead 40 = .ok (.iconst 3, 1) := by decide +kernel
theorem dX7_readHead_41 : decode cX7_readHead 41 = .ok (.iand, 1) := by decide +kernel
theorem dX7_readHead_42 : decode cX7_readHead 42 = .ok (.ishl, 1) := by decide +kernel
theorem dX7_readHead_43 : decode cX7_readHead 43 = .ok (.putfield 201, 3) := by decide +kernel
theorem dX7_readHead_46 : decode cX7_readHead 46 = .ok (.aload_n 0, 1) := by decide +kernel
theorem dX7_readHead_47 : decode cX7_readHead 47 = .ok (.invokevirtual 171, 3) := by decide +kernel
theorem dX7_readHead_50 : decode cX7_readHead 50 = .ok (.istore_n 2, 1) := by decide +kernel
theorem dX7_readHead_51 : decode cX7_readHead 51 = .ok (.aload_n 0, 1) := by decide +kernel
theorem dX7_readHead_52 : decode cX7_readHead 52 = .ok (.getfield 162, 3) := by decide +kernel
theorem dX7_readHead_55 : decode cX7_readHead 55 = .ok (.ifCond .ne 19, 3) := by decide +kernel
theorem dX7_readHead_58 : decode cX7_readHead 58 = .ok (.iload_n 2, 1) := by decide +kernel
theorem dX7_readHead_59 : decode cX7_readHead 59 = .ok (.iconst 5, 1) := by decide +kernel
theorem dX7_readHead_60 : decode cX7_readHead 60 = .ok (.if_icmp .lt 9, 3) := by decide +kernel
theorem dX7_readHead_63 : decode cX7_readHead 63 = .ok (.iload_n 2, 1) := by decide +kernel
theorem dX7_readHead_64 : decode cX7_readHead 64 = .ok (.bipush 12, 2) := by decide +kernel
theorem dX7_readHead_66 : decode cX7_readHead 66 = .ok (.if_icmp .le 8, 3) := by decide +kernel
theorem dX7_readHead_69 : decode cX7_readHead 69 = .ok (.aload_n 0, 1) := by decide +kernel
theorem dX7_readHead_70 : decode cX7_readHead 70 = .ok (.iconst 2, 1) := by decide +kernel
theorem dX7_readHead_71 : decode cX7_readHead 71 = .ok (.invokevirtual 168, 3) := by decide +kernel
theorem dX7_readHead_74 : decode cX7_readHead 74 = .ok (.aload_n 0, 1) := by decide +kernel
theorem dX7_readHead_75 : decode cX7_readHead 75 = .ok (.getfield 26, 3) := by decide +kernel
theorem dX7_readHead_78 : decode cX7_readHead 78 = .ok (.iconst 1, 1) := by decide +kernel
theorem dX7_readHead_79 : decode cX7_readHead 79 = .ok (.aload_n 0, 1) := by decide +kernel
theorem dX7_readHead_80 : decode cX7_readHead 80 = .ok (.getfield 162, 3) := by decide +kernel
theorem dX7_readHead_83 : decode cX7_readHead 83 = .ok (.ifCond .ne 7, 3) := by decide +kernel
theorem dX7_readHead_86 : decode cX7_readHead 86 = .ok (.iload_n 2, 1) := by decide +kernel
theorem dX7_readHead_87 : decode cX7_readHead 87 = .ok (.goto 4, 3) := by decide +kernel
theorem dX7_readHead_90 : decode cX7_readHead 90 = .ok (.iconst 5, 1) := by decide +kernel
theorem dX7_readHead_91 : decode cX7_readHead 91 = .ok (.iastore, 1) := by decide +kernel
theorem dX7_readHead_92 : decode cX7_readHead 92 = .ok (.aload_n 0, 1) := by decide +kernel
theorem dX7_readHead_93 : decode cX7_readHead 93 = .ok (.iconst 2, 1) := by decide +kernel
theorem dX7_readHead_94 : decode cX7_readHead 94 = .ok (.invokevirtual 198, 3) := by decide +kernel
theorem dX7_readHead_97 : decode cX7_readHead 97 = .ok (.l2i, 1) := by decide +kernel
theorem dX7_readHead_98 : decode cX7_readHead 98 = .ok (.ireturn, 1) := by decide +kernel
end
section
theorem dX7_readAll_0 : decode cX7_readAll 0 = .ok (.aload_n 0, 1) := by decide +kernel
theorem dX7_readAll_1 : decode cX7_readAll 1 = .ok (.iconst 0, 1) := by decide +kernel
theorem dX7_readAll_2 : decode cX7_readAll 2 = .ok (.putfield 195, 3) := by decide +kernel
theorem dX7_readAll_5 : decode cX7_readAll 5 = .ok (.aload_n 0, 1) := by decide +kernel
theorem dX7_readAll_6 : decode cX7_readAll 6 = .ok (.iconst 0, 1) := by decide +kernel
theorem dX7_readAll_7 : decode cX7_readAll 7 = .ok (.putfield 165, 3) := by decide +kernel
theorem dX7_readAll_10 : decode cX7_readAll 10 = .ok (.aload_n 0, 1) := by decide +kernel
theorem dX7_readAll_11 : decode cX7_readAll 11 = .ok (.iconst 0, 1) := by decide +kernel
theorem dX7_readAll_12 : decode cX7_readAll 12 = .ok (.putfield 162, 3) := by decide +kernel
theorem dX7_readAll_15 : decode cX7_readAll 15 = .ok (.aload_n 0, 1) := by decide +kernel
theorem dX7_readAll_16 : decode cX7_readAll 16 = .ok (.iconst 0, 1) := by decide +kernel
theorem dX7_readAll_17 : decode cX7_readAll 17 = .ok (.putfield 204, 3) := by decide +kernel
theorem dX7_readAll_20 : decode cX7_readAll 20 = .ok (.aload_n 0, 1) := by decide +kernel
theorem dX7_readAll_21 : decode cX7_readAll 21 = .ok (.invokevirtual 207, 3) := by decide +kernel
theorem dX7_readAll_24 : decode cX7_readAll 24 = .ok (.istore_n 1, 1) := by decide +kernel
theorem dX7_readAll_25 : decode cX7_readAll 25 = .ok (.aload_n 0, 1) := by decide +kernel
theorem dX7_readAll_26 : decode cX7_readAll 26 = .ok (.getfield 162, 3) := by decide +kernel
theorem dX7_readAll_29 : decode cX7_readAll 29 = .ok (.ifCond .ne 7, 3) := by decide +kernel
theorem dX7_readAll_32 : decode cX7_readAll 32 = .ok (.aload_n 0, 1) := by decide +kernel
theorem dX7_readAll_33 : decode cX7_readAll 33 = .ok (.invokevirtual 210, 3) := by decide +kernel
theorem dX7_readAll_36 : decode cX7_readAll 36 = .ok (.aload_n 0, 1) := by decide +kernel
theorem dX7_readAll_37 : decode cX7_readAll 37 = .ok (.getfield 162, 3) := by decide +kernel
theorem dX7_readAll_40 : decode cX7_readAll 40 = .ok (.ifCond .le 4, 3) := by decide +kernel
theorem dX7_readAll_43 : decode cX7_readAll 43 = .ok (.return_, 1) := by decide +kernel
theorem dX7_readAll_44 : decode cX7_readAll 44 = .ok (.aload_n 0, 1) := by decide +kernel
theorem dX7_readAll_45 : decode cX7_readAll 45 = .ok (.iconst 1, 1) := by decide +kernel
theorem dX7_readAll_46 : decode cX7_readAll 46 = .ok (.invokevirtual 87, 3) := by decide +kernel
theorem dX7_readAll_49 : decode cX7_readAll 49 = .ok (.iconst 0, 1) := by decide +kernel
theorem dX7_readAll_50 : decode cX7_readAll 50 = .ok (.istore_n 2, 1) := by decide +kernel
theorem dX7_readAll_51 : decode cX7_readAll 51 = .ok (.iload_n 2, 1) := by decide +kernel
theorem dX7_readAll_52 : decode cX7_readAll 52 = .ok (.aload_n 0, 1) := by decide +kernel
theorem dX7_readAll_53 : decode cX7_readAll 53 = .ok (.getfield 201, 3) := by decide +kernel
theorem dX7_readAll_56 : decode cX7_readAll 56 = .ok (.if_icmp .ge 77, 3) := by decide +kernel
theorem dX7_readAll_59 : decode cX7_readAll 59 = .ok (.aload_n 0, 1) := by decide +kernel
theorem dX7_readAll_60 : decode cX7_readAll 60 = .ok (.getfield 162, 3) := by decide +kernel
theorem dX7_readAll_63 : decode cX7_readAll 63 = .ok (.ifCond .ne 70, 3) := by decide +kernel
theorem dX7_readAll_66 : decode cX7_readAll 66 = .ok (.aload_n 0, 1) := by decide +kernel
theorem dX7_readAll_67 : decode cX7_readAll 67 = .ok (.getfield 56, 3) := by decide +kernel
theorem dX7_readAll_70 : decode cX7_readAll 70 = .ok (.iload_n 2, 1) := by decide +kernel
theorem dX7_readAll_71 : decode cX7_readAll 71 = .ok (.aload_n 0, 1) := by decide +kernel
theorem dX7_readAll_72 : decode cX7_readAll 72 = .ok (.aload_n 0, 1) := by decide +kernel
theorem dX7_readAll_73 : decode cX7_readAll 73 = .ok (.getfield 180, 3) := by decide +kernel
theorem dX7_readAll_76 : decode cX7_readAll 76 = .ok (.iconst 1, 1) := by decide +kernel
theorem dX7_readAll_77 : decode cX7_readAll 77 = .ok (.if_icmp .ne 8, 3) := by decide +kernel
theorem dX7_readAll_80 : decode cX7_readAll 80 = .ok (.bipush 8, 2) := by decide +kernel
theorem dX7_readAll_82 : decode cX7_readAll 82 = .ok (.goto 16, 3) := by decide +kernel
theorem dX7_readAll_85 : decode cX7_readAll 85 = .ok (.aload_n 0, 1) := by decide +kernel
theorem dX7_readAll_86 : decode cX7_readAll 86 = .ok (.getfield 180, 3) := by decide +kernel
theorem dX7_readAll_89 : decode cX7_readAll 89 = .ok (.iconst 2, 1) := by decide +kernel
theorem dX7_readAll_90 : decode cX7_readAll 90 = .ok (.if_icmp .ne 7, 3) := by decide +kernel
theorem dX7_readAll_93 : decode cX7_readAll 93 = .ok (.iconst 2, 1) := by decide +kernel
theorem dX7_readAll_94 : decode cX7_readAll 94 = .ok (.goto 4, 3) := by decide +kernel
theorem dX7_readAll_97 : decode cX7_readAll 97 = .ok (.iconst 4, 1) := by decide +kernel
theorem dX7_readAll_98 : decode cX7_readAll 98 = .ok (.invokevirtual 198, 3) := by decide +kernel
theorem dX7_readAll_101 : decode cX7_readAll 101 = .ok (.lastore, 1) := by decide +kernel
theorem dX7_readAll_102 : decode cX7_readAll 102 = .ok (.aload_n 0, 1) := by decide +kernel
theorem dX7_readAll_103 : decode cX7_readAll 103 = .ok (.getfield 162, 3) := by decide +kernel
theorem dX7_readAll_106 : decode cX7_readAll 106 = .ok (.ifCond .ne 21, 3) := by decide +kernel
theorem dX7_readAll_109 : decode cX7_readAll 109 = .ok (.aload_n 0, 1) := by decide +kernel
theorem dX7_readAll_110 : decode cX7_readAll 110 = .ok (.aload_n 0, 1) := by decide +kernel
theorem dX7_readAll_111 : decode cX7_readAll 111 = .ok (.getfield 56, 3) := by decide +kernel
theorem dX7_readAll_114 : decode cX7_readAll 114 = .ok (.iload_n 2, 1) := by decide +kernel
theorem dX7_readAll_115 : decode cX7_readAll 115 = .ok (.laload, 1) := by decide +kernel
theorem dX7_readAll_116 : decode cX7_readAll 116 = .ok (.invokevirtual 213, 3) := by decide +kernel
theorem dX7_readAll_119 : decode cX7_readAll 119 = .ok (.ifCond .ne 8, 3) := by decide +kernel
theorem dX7_readAll_122 : decode cX7_readAll 122 = .ok (.aload_n 0, 1) := by decide +kernel
theorem dX7_readAll_123 : decode cX7_readAll 123 = .ok (.iconst 4, 1) := by decide +kernel
theorem dX7_readAll_124 : decode cX7_readAll 124 = .ok (.invokevirtual 168, 3) := by decide +kernel
theorem dX7_readAll_127 : decode cX7_readAll 127 = .ok (.iinc 2 1, 3) := by decide +kernel
theorem dX7_readAll_130 : decode cX7_readAll 130 = .ok (.goto (-79), 3) := by decide +kernel
theorem dX7_readAll_133 : decode cX7_readAll 133 = .ok (.aload_n 0, 1) := by decide +kernel
theorem dX7_readAll_134 : decode cX7_readAll 134 = .ok (.aload_n 0, 1) := by decide +kernel
theorem dX7_readAll_135 : decode cX7_readAll 135 = .ok (.getfield 162, 3) := by decide +kernel
theorem dX7_readAll_138 : decode cX7_readAll 138 = .ok (.ifCond .ne 7, 3) := by decide +kernel
theorem dX7_readAll_141 : decode cX7_readAll 141 = .ok (.iconst 1, 1) := by decide +kernel
theorem dX7_readAll_142 : decode cX7_readAll 142 = .ok (.goto 4, 3) := by decide +kernel
theorem dX7_readAll_145 : decode cX7_readAll 145 = .ok (.iconst 0, 1) := by decide +kernel
theorem dX7_readAll_146 : decode cX7_readAll 146 = .ok (.putfield 204, 3) := by decide +kernel
theorem dX7_readAll_149 : decode cX7_readAll 149 = .ok (.aload_n 0, 1) := by decide +kernel
theorem dX7_readAll_150 : decode cX7_readAll 150 = .ok (.iconst 0, 1) := by decide +kernel
theorem dX7_readAll_151 : decode cX7_readAll 151 = .ok (.putfield 174, 3) := by decide +kernel
theorem dX7_readAll_154 : decode cX7_readAll 154 = .ok (.iconst 0, 1) := by decide +kernel
theorem dX7_readAll_155 : decode cX7_readAll 155 = .ok (.istore_n 2, 1) := by decide +kernel
theorem dX7_readAll_156 : decode cX7_readAll 156 = .ok (.iload_n 2, 1) := by decide +kernel
theorem dX7_readAll_157 : decode cX7_readAll 157 = .ok (.iload_n 1, 1) := by decide +kernel
theorem dX7_readAll_158 : decode cX7_readAll 158 = .ok (.if_icmp .ge 26, 3) := by decide +kernel
theorem dX7_readAll_161 : decode cX7_readAll 161 = .ok (.aload_n 0, 1) := by decide +kernel
theorem dX7_readAll_162 : decode cX7_readAll 162 = .ok (.getfield 162, 3) := by decide +kernel
theorem dX7_readAll_165 : decode cX7_readAll 165 = .ok (.ifCond .ne 19, 3) := by decide +kernel
theorem dX7_readAll_168 : decode cX7_readAll 168 = .ok (.aload_n 0, 1) := by decide +kernel
theorem dX7_readAll_169 : decode cX7_readAll 169 = .ok (.iload_n 2, 1) := by decide +kernel
theorem dX7_readAll_170 : decode cX7_readAll 170 = .ok (.aload_n 0, 1) := by decide +kernel
theorem dX7_readAll_171 : decode cX7_readAll 171 = .ok (.getfield 201, 3) := by decide +kernel
theorem dX7_readAll_174 : decode cX7_readAll 174 = .ok (.irem, 1) := by decide +kernel
theorem dX7_readAll_175 : decode cX7_readAll 175 = .ok (.invokevirtual 217, 3) := by decide +kernel
theorem dX7_readAll_178 : decode cX7_readAll 178 = .ok (.iinc 2 1, 3) := by decide +kernel
theorem dX7_readAll_181 : decode cX7_readAll 181 = .ok (.goto (-25), 3) := by decide +kernel
theorem dX7_readAll_184 : decode cX7_readAll 184 = .ok (.iconst 0, 1) := by decide +kernel
theorem dX7_readAll_185 : decode cX7_readAll 185 = .ok (.istore_n 2, 1) := by decide +kernel
theorem dX7_readAll_186 : decode cX7_readAll 186 = .ok (.iload_n 2, 1) := by decide +kernel
theorem dX7_readAll_187 : decode cX7_readAll 187 = .ok (.aload_n 0, 1) := by decide +kernel
theorem dX7_readAll_188 : decode cX7_readAll 188 = .ok (.getfield 201, 3) := by decide +kernel
theorem dX7_readAll_191 : decode cX7_readAll 191 = .ok (.if_icmp .ge 44, 3) := by decide +kernel
theorem dX7_readAll_194 : decode cX7_readAll 194 = .ok (.aload_n 0, 1) := by decide +kernel
theorem dX7_readAll_195 : decode cX7_readAll 195 = .ok (.getfield 162, 3) := by decide +kernel
theorem dX7_readAll_198 : decode cX7_readAll 198 = .ok (.ifCond .ne 37, 3) := by decide +kernel
theorem dX7_readAll_201 : decode cX7_readAll 201 = .ok (.aload_n 0, 1) := by decide +kernel
theorem dX7_readAll_202 : decode cX7_readAll 202 = .ok (.getfield 56, 3) := by decide +kernel
theorem dX7_readAll_205 : decode cX7_readAll 205 = .ok (.iload_n 2, 1) := by decide +kernel
theorem dX7_readAll_206 : decode cX7_readAll 206 = .ok (.laload, 1) := by decide +kernel
theorem dX7_readAll_207 : decode cX7_readAll 207 = .ok (.aload_n 0, 1) := by decide +kernel
theorem dX7_readAll_208 : decode cX7_readAll 208 = .ok (.getfield 180, 3) := by decide +kernel
theorem dX7_readAll_211 : decode cX7_readAll 211 = .ok (.aload_n 0, 1) := by decide +kernel
theorem dX7_readAll_212 : decode cX7_readAll 212 = .ok (.getfield 26, 3) := by decide +kernel
theorem dX7_readAll_215 : decode cX7_readAll 215 = .ok (.iconst 1, 1) := by decide +kernel
theorem dX7_readAll_216 : decode cX7_readAll 216 = .ok (.iaload, 1) := by decide +kernel
theorem dX7_readAll_217 : decode cX7_readAll 217 = .ok (.invokestatic 139, 3) := by decide +kernel
theorem dX7_readAll_220 : decode cX7_readAll 220 = .ok (.lcmp, 1) := by decide +kernel
theorem dX7_readAll_221 : decode cX7_readAll 221 = .ok (.ifCond .eq 8, 3) := by decide +kernel
theorem dX7_readAll_224 : decode cX7_readAll 224 = .ok (.aload_n 0, 1) := by decide +kernel
theorem dX7_readAll_225 : decode cX7_readAll 225 = .ok (.iconst 5, 1) := by decide +kernel
theorem dX7_readAll_226 : decode cX7_readAll 226 = .ok (.invokevirtual 168, 3) := by decide +kernel
theorem dX7_readAll_229 : decode cX7_readAll 229 = .ok (.iinc 2 1, 3) := by decide +kernel
theorem dX7_readAll_232 : decode cX7_readAll 232 = .ok (.goto (-46), 3) := by decide +kernel
theorem dX7_readAll_235 : decode cX7_readAll 235 = .ok (.aload_n 0, 1) := by decide +kernel
theorem dX7_readAll_236 : decode cX7_readAll 236 = .ok (.getfield 162, 3) := by decide +kernel
theorem dX7_readAll_239 : decode cX7_readAll 239 = .ok (.ifCond .ne 53, 3) := by decide +kernel
theorem dX7_readAll_242 : decode cX7_readAll 242 = .ok (.iconst 1, 1) := by decide +kernel
theorem dX7_readAll_243 : decode cX7_readAll 243 = .ok (.istore_n 2, 1) := by decide +kernel
theorem dX7_readAll_244 : decode cX7_readAll 244 = .ok (.aload_n 0, 1) := by decide +kernel
theorem dX7_readAll_245 : decode cX7_readAll 245 = .ok (.getfield 174, 3) := by decide +kernel
theorem dX7_readAll_248 : decode cX7_readAll 248 = .ok (.ifCond .le 23, 3) := by decide +kernel
theorem dX7_readAll_251 : decode cX7_readAll 251 = .ok (.aload_n 0, 1) := by decide +kernel
theorem dX7_readAll_252 : decode cX7_readAll 252 = .ok (.invokevirtual 177, 3) := by decide +kernel
theorem dX7_readAll_255 : decode cX7_readAll 255 = .ok (.ifCond .ne 11, 3) := by decide +kernel
theorem dX7_readAll_258 : decode cX7_readAll 258 = .ok (.iload_n 2, 1) := by decide +kernel
theorem dX7_readAll_259 : decode cX7_readAll 259 = .ok (.ifCond .eq 7, 3) := by decide +kernel
theorem dX7_readAll_262 : decode cX7_readAll 262 = .ok (.iconst 1, 1) := by decide +kernel
theorem dX7_readAll_263 : decode cX7_readAll 263 = .ok (.goto 4, 3) := by decide +kernel
theorem dX7_readAll_266 : decode cX7_readAll 266 = .ok (.iconst 0, 1) := by decide +kernel
theorem dX7_readAll_267 : decode cX7_readAll 267 = .ok (.istore_n 2, 1) := by decide +kernel
theorem dX7_readAll_268 : decode cX7_readAll 268 = .ok (.goto (-24), 3) := by decide +kernel
theorem dX7_readAll_271 : decode cX7_readAll 271 = .ok (.iload_n 2, 1) := by decide +kernel
theorem dX7_readAll_272 : decode cX7_readAll 272 = .ok (.ifCond .eq 14, 3) := by decide +kernel
theorem dX7_readAll_275 : decode cX7_readAll 275 = .ok (.aload_n 0, 1) := by decide +kernel
theorem dX7_readAll_276 : decode cX7_readAll 276 = .ok (.getfield 165, 3) := by decide +kernel
theorem dX7_readAll_279 : decode cX7_readAll 279 = .ok (.aload_n 0, 1) := by decide +kernel
theorem dX7_readAll_280 : decode cX7_readAll 280 = .ok (.getfield 96, 3) := by decide +kernel
theorem dX7_readAll_283 : decode cX7_readAll 283 = .ok (.if_icmp .ge 9, 3) := by decide +kernel
theorem dX7_readAll_286 : decode cX7_readAll 286 = .ok (.aload_n 0, 1) := by decide +kernel
theorem dX7_readAll_287 : decode cX7_readAll 287 = .ok (.bipush 6, 2) := by decide +kernel
theorem dX7_readAll_289 : decode cX7_readAll 289 = .ok (.invokevirtual 168, 3) := by decide +kernel
theorem dX7_readAll_292 : decode cX7_readAll 292 = .ok (.return_, 1) := by decide +kernel
theorem dX7_read_0 : decode cX7_read 0 = .ok (.aload_n 0, 1) := by decide +kernel
theorem dX7_read_1 : decode cX7_read 1 = .ok (.iconst 0, 1) := by decide +kernel
theorem dX7_read_2 : decode cX7_read 2 = .ok (.putfield 62, 3) := by decide +kernel
theorem dX7_read_5 : decode cX7_read 5 = .ok (.aload_n 0, 1) := by decide +kernel
theorem dX7_read_6 : decode cX7_read 6 = .ok (.invokevirtual 220, 3) := by decide +kernel
theorem dX7_read_9 : decode cX7_read 9 = .ok (.aload_n 0, 1) := by decide +kernel
theorem dX7_read_10 : decode cX7_read 10 = .ok (.aload_n 0, 1) := by decide +kernel
theorem dX7_read_11 : decode cX7_read 11 = .ok (.getfield 162, 3) := by decide +kernel
theorem dX7_read_14 : decode cX7_read 14 = .ok (.putfield 223, 3) := by decide +kernel
theorem dX7_read_17 : decode cX7_read 17 = .ok (.aload_n 0, 1) := by decide +kernel
theorem dX7_read_18 : decode cX7_read 18 = .ok (.getfield 162, 3) := by decide +kernel
theorem dX7_read_21 : decode cX7_read 21 = .ok (.ifCond .le 13, 3) := by decide +kernel
theorem dX7_read_24 : decode cX7_read 24 = .ok (.bipush (-10), 2) := by decide +kernel
theorem dX7_read_26 : decode cX7_read 26 = .ok (.aload_n 0, 1) := by decide +kernel
theorem dX7_read_27 : decode cX7_read 27 = .ok (.getfield 165, 3) := by decide +kernel
theorem dX7_read_30 : decode cX7_read 30 = .ok (.isub, 1) := by decide +kernel
theorem dX7_read_31 : decode cX7_read 31 = .ok (.goto 7, 3) := by decide +kernel
theorem dX7_read_34 : decode cX7_read 34 = .ok (.aload_n 0, 1) := by decide +kernel
theorem dX7_read_35 : decode cX7_read 35 = .ok (.getfield 195, 3) := by decide +kernel
theorem dX7_read_38 : decode cX7_read 38 = .ok (.ireturn, 1) := by decide +kernel
theorem dX7_rule_0 : decode cX7_rule 0 = .ok (.aload_n 0, 1) := by decide +kernel
theorem dX7_rule_1 : decode cX7_rule 1 = .ok (.iconst 0, 1) := by decide +kernel
theorem dX7_rule_2 : decode cX7_rule 2 = .ok (.putfield 62, 3) := by decide +kernel
theorem dX7_rule_5 : decode cX7_rule 5 = .ok (.aload_n 0, 1) := by decide +kernel
theorem dX7_rule_6 : decode cX7_rule 6 = .ok (.getfield 223, 3) := by decide +kernel
theorem dX7_rule_9 : decode cX7_rule 9 = .ok (.ireturn, 1) := by decide +kernel
theorem dX7_sign_0 : decode cX7_sign 0 = .ok (.aload_n 0, 1) := by decide +kernel
theorem dX7_sign_1 : decode cX7_sign 1 = .ok (.iconst 0, 1) := by decide +kernel
theorem dX7_sign_2 : decode cX7_sign 2 = .ok (.putfield 62, 3) := by decide +kernel
theorem dX7_sign_5 : decode cX7_sign 5 = .ok (.iload_n 1, 1) := by decide +kernel
theorem dX7_sign_6 : decode cX7_sign 6 = .ok (.ifCond .lt 11, 3) := by decide +kernel
theorem dX7_sign_9 : decode cX7_sign 9 = .ok (.iload_n 1, 1) := by decide +kernel
theorem dX7_sign_10 : decode cX7_sign 10 = .ok (.aload_n 0, 1) := by decide +kernel
theorem dX7_sign_11 : decode cX7_sign 11 = .ok (.getfield 195, 3) := by decide +kernel
theorem dX7_sign_14 : decode cX7_sign 14 = .ok (.if_icmp .lt 7, 3) := by decide +kernel
theorem dX7_sign_17 : decode cX7_sign 17 = .ok (.iconst (-1), 1) := by decide +kernel
theorem dX7_sign_18 : decode cX7_sign 18 = .ok (.goto 9, 3) := by decide +kernel
theorem dX7_sign_21 : decode cX7_sign 21 = .ok (.aload_n 0, 1) := by decide +kernel
theorem dX7_sign_22 : decode cX7_sign 22 = .ok (.getfield 53, 3) := by decide +kernel
theorem dX7_sign_25 : decode cX7_sign 25 = .ok (.iload_n 1, 1) := by decide +kernel
theorem dX7_sign_26 : decode cX7_sign 26 = .ok (.iaload, 1) := by decide +kernel
theorem dX7_sign_27 : decode cX7_sign 27 = .ok (.ireturn, 1) := by decide +kernel
theorem dX7_state_0 : decode cX7_state 0 = .ok (.aload_n 0, 1) := by decide +kernel
theorem dX7_state_1 : decode cX7_state 1 = .ok (.iconst 0, 1) := by decide +kernel
theorem dX7_state_2 : decode cX7_state 2 = .ok (.putfield 62, 3) := by decide +kernel
theorem dX7_state_5 : decode cX7_state 5 = .ok (.iload_n 1, 1) := by decide +kernel
theorem dX7_state_6 : decode cX7_state 6 = .ok (.ifCond .ne 28, 3) := by decide +kernel
theorem dX7_state_9 : decode cX7_state 9 = .ok (.iload_n 2, 1) := by decide +kernel
theorem dX7_state_10 : decode cX7_state 10 = .ok (.ifCond .lt 11, 3) := by decide +kernel
theorem dX7_state_13 : decode cX7_state 13 = .ok (.iload_n 2, 1) := by decide +kernel
theorem dX7_state_14 : decode cX7_state 14 = .ok (.aload_n 0, 1) := by decide +kernel
theorem dX7_state_15 : decode cX7_state 15 = .ok (.getfield 152, 3) := by decide +kernel
theorem dX7_state_18 : decode cX7_state 18 = .ok (.if_icmp .lt 9, 3) := by decide +kernel
theorem dX7_state_21 : decode cX7_state 21 = .ok (.ldc2_w 81, 3) := by decide +kernel
theorem dX7_state_24 : decode cX7_state 24 = .ok (.goto 9, 3) := by decide +kernel
theorem dX7_state_27 : decode cX7_state 27 = .ok (.aload_n 0, 1) := by decide +kernel
theorem dX7_state_28 : decode cX7_state 28 = .ok (.getfield 45, 3) := by decide +kernel
theorem dX7_state_31 : decode cX7_state 31 = .ok (.iload_n 2, 1) := by decide +kernel
theorem dX7_state_32 : decode cX7_state 32 = .ok (.laload, 1) := by decide +kernel
theorem dX7_state_33 : decode cX7_state 33 = .ok (.lreturn, 1) := by decide +kernel
theorem dX7_state_34 : decode cX7_state 34 = .ok (.iload_n 1, 1) := by decide +kernel
theorem dX7_state_35 : decode cX7_state 35 = .ok (.iconst 1, 1) := by decide +kernel
theorem dX7_state_36 : decode cX7_state 36 = .ok (.if_icmp .ne 22, 3) := by decide +kernel
theorem dX7_state_39 : decode cX7_state 39 = .ok (.aload_n 0, 1) := by decide +kernel
theorem dX7_state_40 : decode cX7_state 40 = .ok (.getfield 204, 3) := by decide +kernel
theorem dX7_state_43 : decode cX7_state 43 = .ok (.ifCond .eq 15, 3) := by decide +kernel
theorem dX7_state_46 : decode cX7_state 46 = .ok (.iload_n 2, 1) := by decide +kernel
theorem dX7_state_47 : decode cX7_state 47 = .ok (.ifCond .lt 11, 3) := by decide +kernel
theorem dX7_state_50 : decode cX7_state 50 = .ok (.iload_n 2, 1) := by decide +kernel
theorem dX7_state_51 : decode cX7_state 51 = .ok (.aload_n 0, 1) := by decide +kernel
theorem dX7_state_52 : decode cX7_state 52 = .ok (.getfield 201, 3) := by decide +kernel
theorem dX7_state_55 : decode cX7_state 55 = .ok (.if_icmp .lt 9, 3) := by decide +kernel
theorem dX7_state_58 : decode cX7_state 58 = .ok (.ldc2_w 81, 3) := by decide +kernel
theorem dX7_state_61 : decode cX7_state 61 = .ok (.goto 9, 3) := by decide +kernel
theorem dX7_state_64 : decode cX7_state 64 = .ok (.aload_n 0, 1) := by decide +kernel
theorem dX7_state_65 : decode cX7_state 65 = .ok (.getfield 56, 3) := by decide +kernel
theorem dX7_state_68 : decode cX7_state 68 = .ok (.iload_n 2, 1) := by decide +kernel
theorem dX7_state_69 : decode cX7_state 69 = .ok (.laload, 1) := by decide +kernel
theorem dX7_state_70 : decode cX7_state 70 = .ok (.lreturn, 1) := by decide +kernel
theorem dX7_out_0 : decode cX7_out 0 = .ok (.aload_n 0, 1) := by decide +kernel
theorem dX7_out_1 : decode cX7_out 1 = .ok (.iconst 0, 1) := by decide +kernel
theorem dX7_out_2 : decode cX7_out 2 = .ok (.putfield 62, 3) := by decide +kernel
theorem dX7_out_5 : decode cX7_out 5 = .ok (.iload_n 1, 1) := by decide +kernel
theorem dX7_out_6 : decode cX7_out 6 = .ok (.ifCond .lt 11, 3) := by decide +kernel
theorem dX7_out_9 : decode cX7_out 9 = .ok (.iload_n 1, 1) := by decide +kernel
theorem dX7_out_10 : decode cX7_out 10 = .ok (.aload_n 0, 1) := by decide +kernel
theorem dX7_out_11 : decode cX7_out 11 = .ok (.getfield 96, 3) := by decide +kernel
theorem dX7_out_14 : decode cX7_out 14 = .ok (.if_icmp .lt 7, 3) := by decide +kernel
theorem dX7_out_17 : decode cX7_out 17 = .ok (.iconst (-1), 1) := by decide +kernel
theorem dX7_out_18 : decode cX7_out 18 = .ok (.goto 9, 3) := by decide +kernel
theorem dX7_out_21 : decode cX7_out 21 = .ok (.aload_n 0, 1) := by decide +kernel
theorem dX7_out_22 : decode cX7_out 22 = .ok (.getfield 38, 3) := by decide +kernel
theorem dX7_out_25 : decode cX7_out 25 = .ok (.iload_n 1, 1) := by decide +kernel
theorem dX7_out_26 : decode cX7_out 26 = .ok (.iaload, 1) := by decide +kernel
theorem dX7_out_27 : decode cX7_out 27 = .ok (.ireturn, 1) := by decide +kernel
theorem dX7_spoil_0 : decode cX7_spoil 0 = .ok (.aload_n 0, 1) := by decide +kernel
theorem dX7_spoil_1 : decode cX7_spoil 1 = .ok (.iconst 0, 1) := by decide +kernel
theorem dX7_spoil_2 : decode cX7_spoil 2 = .ok (.putfield 62, 3) := by decide +kernel
theorem dX7_spoil_5 : decode cX7_spoil 5 = .ok (.iload_n 1, 1) := by decide +kernel
theorem dX7_spoil_6 : decode cX7_spoil 6 = .ok (.ifCond .lt 23, 3) := by decide +kernel
theorem dX7_spoil_9 : decode cX7_spoil 9 = .ok (.iload_n 1, 1) := by decide +kernel
theorem dX7_spoil_10 : decode cX7_spoil 10 = .ok (.aload_n 0, 1) := by decide +kernel
theorem dX7_spoil_11 : decode cX7_spoil 11 = .ok (.getfield 96, 3) := by decide +kernel
theorem dX7_spoil_14 : decode cX7_spoil 14 = .ok (.if_icmp .ge 15, 3) := by decide +kernel
theorem dX7_spoil_17 : decode cX7_spoil 17 = .ok (.iload_n 2, 1) := by decide +kernel
theorem dX7_spoil_18 : decode cX7_spoil 18 = .ok (.iconst 1, 1) := by decide +kernel
theorem dX7_spoil_19 : decode cX7_spoil 19 = .ok (.if_icmp .lt 10, 3) := by decide +kernel
theorem dX7_spoil_22 : decode cX7_spoil 22 = .ok (.iload_n 2, 1) := by decide +kernel
theorem dX7_spoil_23 : decode cX7_spoil 23 = .ok (.sipush 255, 3) := by decide +kernel
theorem dX7_spoil_26 : decode cX7_spoil 26 = .ok (.if_icmp .le 5, 3) := by decide +kernel
theorem dX7_spoil_29 : decode cX7_spoil 29 = .ok (.iconst (-1), 1) := by decide +kernel
theorem dX7_spoil_30 : decode cX7_spoil 30 = .ok (.ireturn, 1) := by decide +kernel
theorem dX7_spoil_31 : decode cX7_spoil 31 = .ok (.aload_n 0, 1) := by decide +kernel
theorem dX7_spoil_32 : decode cX7_spoil 32 = .ok (.getfield 38, 3) := by decide +kernel
theorem dX7_spoil_35 : decode cX7_spoil 35 = .ok (.iload_n 1, 1) := by decide +kernel
theorem dX7_spoil_36 : decode cX7_spoil 36 = .ok (.dup2, 1) := by decide +kernel
theorem dX7_spoil_37 : decode cX7_spoil 37 = .ok (.iaload, 1) := by decide +kernel
theorem dX7_spoil_38 : decode cX7_spoil 38 = .ok (.iload_n 2, 1) := by decide +kernel
theorem dX7_spoil_39 : decode cX7_spoil 39 = .ok (.ixor, 1) := by decide +kernel
theorem dX7_spoil_40 : decode cX7_spoil 40 = .ok (.iastore, 1) := by decide +kernel
theorem dX7_spoil_41 : decode cX7_spoil 41 = .ok (.aload_n 0, 1) := by decide +kernel
theorem dX7_spoil_42 : decode cX7_spoil 42 = .ok (.getfield 38, 3) := by decide +kernel
theorem dX7_spoil_45 : decode cX7_spoil 45 = .ok (.iload_n 1, 1) := by decide +kernel
theorem dX7_spoil_46 : decode cX7_spoil 46 = .ok (.iaload, 1) := by decide +kernel
theorem dX7_spoil_47 : decode cX7_spoil 47 = .ok (.ireturn, 1) := by decide +kernel
theorem dX7_cut_0 : decode cX7_cut 0 = .ok (.aload_n 0, 1) := by decide +kernel
theorem dX7_cut_1 : decode cX7_cut 1 = .ok (.iconst 0, 1) := by decide +kernel
theorem dX7_cut_2 : decode cX7_cut 2 = .ok (.putfield 62, 3) := by decide +kernel
theorem dX7_cut_5 : decode cX7_cut 5 = .ok (.iload_n 1, 1) := by decide +kernel
theorem dX7_cut_6 : decode cX7_cut 6 = .ok (.ifCond .lt 11, 3) := by decide +kernel
theorem dX7_cut_9 : decode cX7_cut 9 = .ok (.iload_n 1, 1) := by decide +kernel
theorem dX7_cut_10 : decode cX7_cut 10 = .ok (.aload_n 0, 1) := by decide +kernel
theorem dX7_cut_11 : decode cX7_cut 11 = .ok (.getfield 96, 3) := by decide +kernel
theorem dX7_cut_14 : decode cX7_cut 14 = .ok (.if_icmp .le 5, 3) := by decide +kernel
theorem dX7_cut_17 : decode cX7_cut 17 = .ok (.iconst (-1), 1) := by decide +kernel
theorem dX7_cut_18 : decode cX7_cut 18 = .ok (.ireturn, 1) := by decide +kernel
theorem dX7_cut_19 : decode cX7_cut 19 = .ok (.aload_n 0, 1) := by decide +kernel
theorem dX7_cut_20 : decode cX7_cut 20 = .ok (.dup, 1) := by decide +kernel
theorem dX7_cut_21 : decode cX7_cut 21 = .ok (.getfield 96, 3) := by decide +kernel
theorem dX7_cut_24 : decode cX7_cut 24 = .ok (.iload_n 1, 1) := by decide +kernel
theorem dX7_cut_25 : decode cX7_cut 25 = .ok (.isub, 1) := by decide +kernel
theorem dX7_cut_26 : decode cX7_cut 26 = .ok (.putfield 96, 3) := by decide +kernel
theorem dX7_cut_29 : decode cX7_cut 29 = .ok (.aload_n 0, 1) := by decide +kernel
theorem dX7_cut_30 : decode cX7_cut 30 = .ok (.getfield 96, 3) := by decide +kernel
theorem dX7_cut_33 : decode cX7_cut 33 = .ok (.ireturn, 1) := by decide +kernel
theorem dX7_octet_0 : decode cX7_octet 0 = .ok (.aload_n 0, 1) := by decide +kernel
theorem dX7_octet_1 : decode cX7_octet 1 = .ok (.iconst 0, 1) := by decide +kernel
theorem dX7_octet_2 : decode cX7_octet 2 = .ok (.putfield 62, 3) := by decide +kernel
theorem dX7_octet_5 : decode cX7_octet 5 = .ok (.aload_n 0, 1) := by decide +kernel
theorem dX7_octet_6 : decode cX7_octet 6 = .ok (.getfield 96, 3) := by decide +kernel
theorem dX7_octet_9 : decode cX7_octet 9 = .ok (.sipush 8000, 3) := by decide +kernel
theorem dX7_octet_12 : decode cX7_octet 12 = .ok (.if_icmp .lt 6, 3) := by decide +kernel
theorem dX7_octet_15 : decode cX7_octet 15 = .ok (.bipush (-3), 2) := by decide +kernel
theorem dX7_octet_17 : decode cX7_octet 17 = .ok (.ireturn, 1) := by decide +kernel
theorem dX7_octet_18 : decode cX7_octet 18 = .ok (.aload_n 0, 1) := by decide +kernel
theorem dX7_octet_19 : decode cX7_octet 19 = .ok (.iload_n 1, 1) := by decide +kernel
theorem dX7_octet_20 : decode cX7_octet 20 = .ok (.invokevirtual 99, 3) := by decide +kernel
theorem dX7_octet_23 : decode cX7_octet 23 = .ok (.aload_n 0, 1) := by decide +kernel
theorem dX7_octet_24 : decode cX7_octet 24 = .ok (.getfield 96, 3) := by decide +kernel
theorem dX7_octet_27 : decode cX7_octet 27 = .ok (.ireturn, 1) := by decide +kernel
theorem dX7_agree_0 : decode cX7_agree 0 = .ok (.aload_n 0, 1) := by decide +kernel
theorem dX7_agree_1 : decode cX7_agree 1 = .ok (.iconst 0, 1) := by decide +kernel
theorem dX7_agree_2 : decode cX7_agree 2 = .ok (.putfield 62, 3) := by decide +kernel
theorem dX7_agree_5 : decode cX7_agree 5 = .ok (.aload_n 0, 1) := by decide +kernel
theorem dX7_agree_6 : decode cX7_agree 6 = .ok (.invokevirtual 155, 3) := by decide +kernel
theorem dX7_agree_9 : decode cX7_agree 9 = .ok (.ifCond .ne 6, 3) := by decide +kernel
theorem dX7_agree_12 : decode cX7_agree 12 = .ok (.bipush (-2), 2) := by decide +kernel
theorem dX7_agree_14 : decode cX7_agree 14 = .ok (.ireturn, 1) := by decide +kernel
theorem dX7_agree_15 : decode cX7_agree 15 = .ok (.iconst 1, 1) := by decide +kernel
theorem dX7_agree_16 : decode cX7_agree 16 = .ok (.istore_n 1, 1) := by decide +kernel
theorem dX7_agree_17 : decode cX7_agree 17 = .ok (.iconst 0, 1) := by decide +kernel
theorem dX7_agree_18 : decode cX7_agree 18 = .ok (.istore_n 2, 1) := by decide +kernel
theorem dX7_agree_19 : decode cX7_agree 19 = .ok (.iload_n 2, 1) := by decide +kernel
theorem dX7_agree_20 : decode cX7_agree 20 = .ok (.iconst 4, 1) := by decide +kernel
theorem dX7_agree_21 : decode cX7_agree 21 = .ok (.if_icmp .ge 105, 3) := by decide +kernel
theorem dX7_agree_24 : decode cX7_agree 24 = .ok (.aload_n 0, 1) := by decide +kernel
theorem dX7_agree_25 : decode cX7_agree 25 = .ok (.iload_n 2, 1) := by decide +kernel
theorem dX7_agree_26 : decode cX7_agree 26 = .ok (.invokevirtual 159, 3) := by decide +kernel
theorem dX7_agree_29 : decode cX7_agree 29 = .ok (.aload_n 0, 1) := by decide +kernel
theorem dX7_agree_30 : decode cX7_agree 30 = .ok (.invokevirtual 220, 3) := by decide +kernel
theorem dX7_agree_33 : decode cX7_agree 33 = .ok (.aload_n 0, 1) := by decide +kernel
theorem dX7_agree_34 : decode cX7_agree 34 = .ok (.aload_n 0, 1) := by decide +kernel
theorem dX7_agree_35 : decode cX7_agree 35 = .ok (.getfield 162, 3) := by decide +kernel
theorem dX7_agree_38 : decode cX7_agree 38 = .ok (.putfield 223, 3) := by decide +kernel
theorem dX7_agree_41 : decode cX7_agree 41 = .ok (.aload_n 0, 1) := by decide +kernel
theorem dX7_agree_42 : decode cX7_agree 42 = .ok (.getfield 162, 3) := by decide +kernel
theorem dX7_agree_45 : decode cX7_agree 45 = .ok (.ifCond .ne 18, 3) := by decide +kernel
theorem dX7_agree_48 : decode cX7_agree 48 = .ok (.aload_n 0, 1) := by decide +kernel
theorem dX7_agree_49 : decode cX7_agree 49 = .ok (.getfield 195, 3) := by decide +kernel
theorem dX7_agree_52 : decode cX7_agree 52 = .ok (.aload_n 0, 1) := by decide +kernel
theorem dX7_agree_53 : decode cX7_agree 53 = .ok (.getfield 65, 3) := by decide +kernel
theorem dX7_agree_56 : decode cX7_agree 56 = .ok (.if_icmp .ne 7, 3) := by decide +kernel
theorem dX7_agree_59 : decode cX7_agree 59 = .ok (.iconst 1, 1) := by decide +kernel
theorem dX7_agree_60 : decode cX7_agree 60 = .ok (.goto 4, 3) := by decide +kernel
theorem dX7_agree_63 : decode cX7_agree 63 = .ok (.iconst 0, 1) := by decide +kernel
theorem dX7_agree_64 : decode cX7_agree 64 = .ok (.istore_n 3, 1) := by decide +kernel
theorem dX7_agree_65 : decode cX7_agree 65 = .ok (.iconst 0, 1) := by decide +kernel
theorem dX7_agree_66 : decode cX7_agree 66 = .ok (.istore 4, 2) := by decide +kernel
theorem dX7_agree_68 : decode cX7_agree 68 = .ok (.iload 4, 2) := by decide +kernel
theorem dX7_agree_70 : decode cX7_agree 70 = .ok (.aload_n 0, 1) := by decide +kernel
theorem dX7_agree_71 : decode cX7_agree 71 = .ok (.getfield 65, 3) := by decide +kernel
theorem dX7_agree_74 : decode cX7_agree 74 = .ok (.if_icmp .ge 36, 3) := by decide +kernel
theorem dX7_agree_77 : decode cX7_agree 77 = .ok (.iload_n 3, 1) := by decide +kernel
theorem dX7_agree_78 : decode cX7_agree 78 = .ok (.ifCond .eq 32, 3) := by decide +kernel
theorem dX7_agree_81 : decode cX7_agree 81 = .ok (.aload_n 0, 1) := by decide +kernel
theorem dX7_agree_82 : decode cX7_agree 82 = .ok (.getfield 53, 3) := by decide +kernel
theorem dX7_agree_85 : decode cX7_agree 85 = .ok (.iload 4, 2) := by decide +kernel
theorem dX7_agree_87 : decode cX7_agree 87 = .ok (.iaload, 1) := by decide +kernel
theorem dX7_agree_88 : decode cX7_agree 88 = .ok (.aload_n 0, 1) := by decide +kernel
theorem dX7_agree_89 : decode cX7_agree 89 = .ok (.getfield 13, 3) := by decide +kernel
theorem dX7_agree_92 : decode cX7_agree 92 = .ok (.iload 4, 2) := by decide +kernel
theorem dX7_agree_94 : decode cX7_agree 94 = .ok (.iaload, 1) := by decide +kernel
theorem dX7_agree_95 : decode cX7_agree 95 = .ok (.if_icmp .ne 7, 3) := by decide +kernel
theorem dX7_agree_98 : decode cX7_agree 98 = .ok (.iconst 1, 1) := by decide +kernel
theorem dX7_agree_99 : decode cX7_agree 99 = .ok (.goto 4, 3) := by decide +kernel
theorem dX7_agree_102 : decode cX7_agree 102 = .ok (.iconst 0, 1) := by decide +kernel
theorem dX7_agree_103 : decode cX7_agree 103 = .ok (.istore_n 3, 1) := by decide +kernel
theorem dX7_agree_104 : decode cX7_agree 104 = .ok (.iinc 4 1, 3) := by decide +kernel
theorem dX7_agree_107 : decode cX7_agree 107 = .ok (.goto (-39), 3) := by decide +kernel
theorem dX7_agree_110 : decode cX7_agree 110 = .ok (.iload_n 3, 1) := by decide +kernel
theorem dX7_agree_111 : decode cX7_agree 111 = .ok (.ifCond .eq 7, 3) := by decide +kernel
theorem dX7_agree_114 : decode cX7_agree 114 = .ok (.iload_n 1, 1) := by decide +kernel
theorem dX7_agree_115 : decode cX7_agree 115 = .ok (.goto 4, 3) := by decide +kernel
theorem dX7_agree_118 : decode cX7_agree 118 = .ok (.iconst 0, 1) := by decide +kernel
theorem dX7_agree_119 : decode cX7_agree 119 = .ok (.istore_n 1, 1) := by decide +kernel
theorem dX7_agree_120 : decode cX7_agree 120 = .ok (.iinc 2 1, 3) := by decide +kernel
theorem dX7_agree_123 : decode cX7_agree 123 = .ok (.goto (-104), 3) := by decide +kernel
theorem dX7_agree_126 : decode cX7_agree 126 = .ok (.iload_n 1, 1) := by decide +kernel
theorem dX7_agree_127 : decode cX7_agree 127 = .ok (.ireturn, 1) := by decide +kernel
theorem dX7_told_0 : decode cX7_told 0 = .ok (.aload_n 0, 1) := by decide +kernel
theorem dX7_told_1 : decode cX7_told 1 = .ok (.iconst 0, 1) := by decide +kernel
theorem dX7_told_2 : decode cX7_told 2 = .ok (.putfield 62, 3) := by decide +kernel
theorem dX7_told_5 : decode cX7_told 5 = .ok (.iload_n 1, 1) := by decide +kernel
theorem dX7_told_6 : decode cX7_told 6 = .ok (.tableswitch 85 0 6 #[42, 47, 52, 57, 62, 67, 72], 42) := by decide +kernel
theorem dX7_told_48 : decode cX7_told 48 = .ok (.aload_n 0, 1) := by decide +kernel
theorem dX7_told_49 : decode cX7_told 49 = .ok (.getfield 59, 3) := by decide +kernel
theorem dX7_told_52 : decode cX7_told 52 = .ok (.ireturn, 1) := by decide +kernel
theorem dX7_told_53 : decode cX7_told 53 = .ok (.aload_n 0, 1) := by decide +kernel
theorem dX7_told_54 : decode cX7_told 54 = .ok (.getfield 65, 3) := by decide +kernel
theorem dX7_told_57 : decode cX7_told 57 = .ok (.ireturn, 1) := by decide +kernel
theorem dX7_told_58 : decode cX7_told 58 = .ok (.aload_n 0, 1) := by decide +kernel
theorem dX7_told_59 : decode cX7_told 59 = .ok (.getfield 96, 3) := by decide +kernel
theorem dX7_told_62 : decode cX7_told 62 = .ok (.ireturn, 1) := by decide +kernel
theorem dX7_told_63 : decode cX7_told 63 = .ok (.aload_n 0, 1) := by decide +kernel
theorem dX7_told_64 : decode cX7_told 64 = .ok (.getfield 195, 3) := by decide +kernel
theorem dX7_told_67 : decode cX7_told 67 = .ok (.ireturn, 1) := by decide +kernel
theorem dX7_told_68 : decode cX7_told 68 = .ok (.aload_n 0, 1) := by decide +kernel
theorem dX7_told_69 : decode cX7_told 69 = .ok (.getfield 91, 3) := by decide +kernel
theorem dX7_told_72 : decode cX7_told 72 = .ok (.ireturn, 1) := by decide +kernel
theorem dX7_told_73 : decode cX7_told 73 = .ok (.aload_n 0, 1) := by decide +kernel
theorem dX7_told_74 : decode cX7_told 74 = .ok (.getfield 7, 3) := by decide +kernel
theorem dX7_told_77 : decode cX7_told 77 = .ok (.ireturn, 1) := by decide +kernel
theorem dX7_told_78 : decode cX7_told 78 = .ok (.aload_n 0, 1) := by decide +kernel
theorem dX7_told_79 : decode cX7_told 79 = .ok (.getfield 69, 3) := by decide +kernel
theorem dX7_told_82 : decode cX7_told 82 = .ok (.ifCond .eq 7, 3) := by decide +kernel
theorem dX7_told_85 : decode cX7_told 85 = .ok (.iconst 1, 1) := by decide +kernel
theorem dX7_told_86 : decode cX7_told 86 = .ok (.goto 4, 3) := by decide +kernel
theorem dX7_told_89 : decode cX7_told 89 = .ok (.iconst 0, 1) := by decide +kernel
theorem dX7_told_90 : decode cX7_told 90 = .ok (.ireturn, 1) := by decide +kernel
theorem dX7_told_91 : decode cX7_told 91 = .ok (.iconst (-1), 1) := by decide +kernel
theorem dX7_told_92 : decode cX7_told 92 = .ok (.ireturn, 1) := by decide +kernel
end
section
theorem dX6_bitLength_0 : decode cX6_bitLength 0 = .ok (.iconst 0, 1) := by decide +kernel
theorem dX6_bitLength_1 : decode cX6_bitLength 1 = .ok (.istore_n 1, 1) := by decide +kernel
theorem dX6_bitLength_2 : decode cX6_bitLength 2 = .ok (.iconst 0, 1) := by decide +kernel
theorem dX6_bitLength_3 : decode cX6_bitLength 3 = .ok (.istore_n 2, 1) := by decide +kernel
theorem dX6_bitLength_4 : decode cX6_bitLength 4 = .ok (.iload_n 2, 1) := by decide +kernel
theorem dX6_bitLength_5 : decode cX6_bitLength 5 = .ok (.bipush 31, 2) := by decide +kernel
theorem dX6_bitLength_7 : decode cX6_bitLength 7 = .ok (.if_icmp .ge 19, 3) := by decide +kernel
theorem dX6_bitLength_10 : decode cX6_bitLength 10 = .ok (.iload_n 0, 1) := by decide +kernel
theorem dX6_bitLength_11 : decode cX6_bitLength 11 = .ok (.iload_n 2, 1) := by decide +kernel
theorem dX6_bitLength_12 : decode cX6_bitLength 12 = .ok (.ishr, 1) := by decide +kernel
theorem dX6_bitLength_13 : decode cX6_bitLength 13 = .ok (.ifCond .le 7, 3) := by decide +kernel
theorem dX6_bitLength_16 : decode cX6_bitLength 16 = .ok (.iload_n 2, 1) := by decide +kernel
theorem dX6_bitLength_17 : decode cX6_bitLength 17 = .ok (.iconst 1, 1) := by decide +kernel
theorem dX6_bitLength_18 : decode cX6_bitLength 18 = .ok (.iadd, 1) := by decide +kernel
theorem dX6_bitLength_19 : decode cX6_bitLength 19 = .ok (.istore_n 1, 1) := by decide +kernel
theorem dX6_bitLength_20 : decode cX6_bitLength 20 = .ok (.iinc 2 1, 3) := by decide +kernel
theorem dX6_bitLength_23 : decode cX6_bitLength 23 = .ok (.goto (-19), 3) := by decide +kernel
theorem dX6_bitLength_26 : decode cX6_bitLength 26 = .ok (.iload_n 1, 1) := by decide +kernel
theorem dX6_bitLength_27 : decode cX6_bitLength 27 = .ok (.ireturn, 1) := by decide +kernel
theorem dX0_reckon_0 : decode cX0_reckon 0 = .ok (.iload_n 0, 1) := by decide +kernel
theorem dX0_reckon_1 : decode cX0_reckon 1 = .ok (.invokestatic 27, 3) := by decide +kernel
theorem dX0_reckon_4 : decode cX0_reckon 4 = .ok (.iconst 1, 1) := by decide +kernel
theorem dX0_reckon_5 : decode cX0_reckon 5 = .ok (.isub, 1) := by decide +kernel
theorem dX0_reckon_6 : decode cX0_reckon 6 = .ok (.istore_n 1, 1) := by decide +kernel
theorem dX0_reckon_7 : decode cX0_reckon 7 = .ok (.iload_n 0, 1) := by decide +kernel
theorem dX0_reckon_8 : decode cX0_reckon 8 = .ok (.i2l, 1) := by decide +kernel
theorem dX0_reckon_9 : decode cX0_reckon 9 = .ok (.bipush 30, 2) := by decide +kernel
theorem dX0_reckon_11 : decode cX0_reckon 11 = .ok (.iload_n 1, 1) := by decide +kernel
theorem dX0_reckon_12 : decode cX0_reckon 12 = .ok (.isub, 1) := by decide +kernel
theorem dX0_reckon_13 : decode cX0_reckon 13 = .ok (.lshl, 1) := by decide +kernel
theorem dX0_reckon_14 : decode cX0_reckon 14 = .ok (.lstore_n 2, 1) := by decide +kernel
theorem dX0_reckon_15 : decode cX0_reckon 15 = .ok (.iload_n 1, 1) := by decide +kernel
theorem dX0_reckon_16 : decode cX0_reckon 16 = .ok (.i2l, 1) := by decide +kernel
theorem dX0_reckon_17 : decode cX0_reckon 17 = .ok (.lstore 4, 2) := by decide +kernel
theorem dX0_reckon_19 : decode cX0_reckon 19 = .ok (.iconst 0, 1) := by decide +kernel
theorem dX0_reckon_20 : decode cX0_reckon 20 = .ok (.istore 6, 2) := by decide +kernel
theorem dX0_reckon_22 : decode cX0_reckon 22 = .ok (.iload 6, 2) := by decide +kernel
theorem dX0_reckon_24 : decode cX0_reckon 24 = .ok (.bipush 30, 2) := by decide +kernel
theorem dX0_reckon_26 : decode cX0_reckon 26 = .ok (.if_icmp .ge 40, 3) := by decide +kernel
theorem dX0_reckon_29 : decode cX0_reckon 29 = .ok (.lload_n 2, 1) := by decide +kernel
theorem dX0_reckon_30 : decode cX0_reckon 30 = .ok (.lload_n 2, 1) := by decide +kernel
theorem dX0_reckon_31 : decode cX0_reckon 31 = .ok (.lmul, 1) := by decide +kernel
theorem dX0_reckon_32 : decode cX0_reckon 32 = .ok (.bipush 30, 2) := by decide +kernel
theorem dX0_reckon_34 : decode cX0_reckon 34 = .ok (.lshr, 1) := by decide +kernel
theorem dX0_reckon_35 : decode cX0_reckon 35 = .ok (.lstore_n 2, 1) := by decide +kernel
theorem dX0_reckon_36 : decode cX0_reckon 36 = .ok (.lload_n 2, 1) := by decide +kernel
theorem dX0_reckon_37 : decode cX0_reckon 37 = .ok (.bipush 31, 2) := by decide +kernel
theorem dX0_reckon_39 : decode cX0_reckon 39 = .ok (.lshr, 1) := by decide +kernel
theorem dX0_reckon_40 : decode cX0_reckon 40 = .ok (.l2i, 1) := by decide +kernel
theorem dX0_reckon_41 : decode cX0_reckon 41 = .ok (.istore 7, 2) := by decide +kernel
theorem dX0_reckon_43 : decode cX0_reckon 43 = .ok (.ldc2_w 31, 3) := by decide +kernel
theorem dX0_reckon_46 : decode cX0_reckon 46 = .ok (.lload 4, 2) := by decide +kernel
theorem dX0_reckon_48 : decode cX0_reckon 48 = .ok (.lmul, 1) := by decide +kernel
theorem dX0_reckon_49 : decode cX0_reckon 49 = .ok (.iload 7, 2) := by decide +kernel
theorem dX0_reckon_51 : decode cX0_reckon 51 = .ok (.i2l, 1) := by decide +kernel
theorem dX0_reckon_52 : decode cX0_reckon 52 = .ok (.ladd, 1) := by decide +kernel
theorem dX0_reckon_53 : decode cX0_reckon 53 = .ok (.lstore 4, 2) := by decide +kernel
theorem dX0_reckon_55 : decode cX0_reckon 55 = .ok (.lload_n 2, 1) := by decide +kernel
theorem dX0_reckon_56 : decode cX0_reckon 56 = .ok (.iload 7, 2) := by decide +kernel
theorem dX0_reckon_58 : decode cX0_reckon 58 = .ok (.lshr, 1) := by decide +kernel
theorem dX0_reckon_59 : decode cX0_reckon 59 = .ok (.lstore_n 2, 1) := by decide +kernel
theorem dX0_reckon_60 : decode cX0_reckon 60 = .ok (.iinc 6 1, 3) := by decide +kernel
theorem dX0_reckon_63 : decode cX0_reckon 63 = .ok (.goto (-41), 3) := by decide +kernel
theorem dX0_reckon_66 : decode cX0_reckon 66 = .ok (.lload 4, 2) := by decide +kernel
theorem dX0_reckon_68 : decode cX0_reckon 68 = .ok (.lreturn, 1) := by decide +kernel
theorem dX0_of_0 : decode cX0_of 0 = .ok (.iload_n 1, 1) := by decide +kernel
theorem dX0_of_1 : decode cX0_of 1 = .ok (.iconst 1, 1) := by decide +kernel
theorem dX0_of_2 : decode cX0_of 2 = .ok (.if_icmp .lt 12, 3) := by decide +kernel
theorem dX0_of_5 : decode cX0_of 5 = .ok (.iload_n 1, 1) := by decide +kernel
theorem dX0_of_6 : decode cX0_of 6 = .ok (.aload_n 0, 1) := by decide +kernel
theorem dX0_of_7 : decode cX0_of 7 = .ok (.getfield 9, 3) := by decide +kernel
theorem dX0_of_10 : decode cX0_of 10 = .ok (.arraylength, 1) := by decide +kernel
theorem dX0_of_11 : decode cX0_of 11 = .ok (.if_icmp .lt 7, 3) := by decide +kernel
theorem dX0_of_14 : decode cX0_of 14 = .ok (.ldc2_w 15, 3) := by decide +kernel
theorem dX0_of_17 : decode cX0_of 17 = .ok (.lreturn, 1) := by decide +kernel
theorem dX0_of_18 : decode cX0_of 18 = .ok (.aload_n 0, 1) := by decide +kernel
theorem dX0_of_19 : decode cX0_of 19 = .ok (.getfield 9, 3) := by decide +kernel
theorem dX0_of_22 : decode cX0_of 22 = .ok (.iload_n 1, 1) := by decide +kernel
theorem dX0_of_23 : decode cX0_of 23 = .ok (.laload, 1) := by decide +kernel
theorem dX0_of_24 : decode cX0_of 24 = .ok (.ldc2_w 15, 3) := by decide +kernel
theorem dX0_of_27 : decode cX0_of 27 = .ok (.lcmp, 1) := by decide +kernel
theorem dX0_of_28 : decode cX0_of 28 = .ok (.ifCond .ne 13, 3) := by decide +kernel
theorem dX0_of_31 : decode cX0_of 31 = .ok (.aload_n 0, 1) := by decide +kernel
theorem dX0_of_32 : decode cX0_of 32 = .ok (.getfield 9, 3) := by decide +kernel
theorem dX0_of_35 : decode cX0_of 35 = .ok (.iload_n 1, 1) := by decide +kernel
theorem dX0_of_36 : decode cX0_of 36 = .ok (.iload_n 1, 1) := by decide +kernel
theorem dX0_of_37 : decode cX0_of 37 = .ok (.invokestatic 23, 3) := by decide +kernel
theorem dX0_of_40 : decode cX0_of 40 = .ok (.lastore, 1) := by decide +kernel
theorem dX0_of_41 : decode cX0_of 41 = .ok (.aload_n 0, 1) := by decide +kernel
theorem dX0_of_42 : decode cX0_of 42 = .ok (.getfield 9, 3) := by decide +kernel
theorem dX0_of_45 : decode cX0_of 45 = .ok (.iload_n 1, 1) := by decide +kernel
theorem dX0_of_46 : decode cX0_of 46 = .ok (.laload, 1) := by decide +kernel
theorem dX0_of_47 : decode cX0_of 47 = .ok (.lreturn, 1) := by decide +kernel
theorem dX1_restart_0 : decode cX1_restart 0 = .ok (.aload_n 0, 1) := by decide +kernel
theorem dX1_restart_1 : decode cX1_restart 1 = .ok (.iconst 0, 1) := by decide +kernel
theorem dX1_restart_2 : decode cX1_restart 2 = .ok (.putfield 15, 3) := by decide +kernel
theorem dX1_restart_5 : decode cX1_restart 5 = .ok (.aload_n 0, 1) := by decide +kernel
theorem dX1_restart_6 : decode cX1_restart 6 = .ok (.iconst 0, 1) := by decide +kernel
theorem dX1_restart_7 : decode cX1_restart 7 = .ok (.putfield 19, 3) := by decide +kernel
theorem dX1_restart_10 : decode cX1_restart 10 = .ok (.return_, 1) := by decide +kernel
theorem dX1_append_0 : decode cX1_append 0 = .ok (.aload_n 0, 1) := by decide +kernel
theorem dX1_append_1 : decode cX1_append 1 = .ok (.aload_n 0, 1) := by decide +kernel
theorem dX1_append_2 : decode cX1_append 2 = .ok (.getfield 9, 3) := by decide +kernel
theorem dX1_append_5 : decode cX1_append 5 = .ok (.aload_n 0, 1) := by decide +kernel
theorem dX1_append_6 : decode cX1_append 6 = .ok (.getfield 15, 3) := by decide +kernel
theorem dX1_append_9 : decode cX1_append 9 = .ok (.sipush 8000, 3) := by decide +kernel
theorem dX1_append_12 : decode cX1_append 12 = .ok (.invokestatic 22, 3) := by decide +kernel
theorem dX1_append_15 : decode cX1_append 15 = .ok (.putfield 9, 3) := by decide +kernel
theorem dX1_append_18 : decode cX1_append 18 = .ok (.aload_n 0, 1) := by decide +kernel
theorem dX1_append_19 : decode cX1_append 19 = .ok (.getfield 15, 3) := by decide +kernel
theorem dX1_append_22 : decode cX1_append 22 = .ok (.aload_n 0, 1) := by decide +kernel
theorem dX1_append_23 : decode cX1_append 23 = .ok (.getfield 9, 3) := by decide +kernel
theorem dX1_append_26 : decode cX1_append 26 = .ok (.arraylength, 1) := by decide +kernel
theorem dX1_append_27 : decode cX1_append 27 = .ok (.if_icmp .lt 5, 3) := by decide +kernel
theorem dX1_append_30 : decode cX1_append 30 = .ok (.iconst 0, 1) := by decide +kernel
theorem dX1_append_31 : decode cX1_append 31 = .ok (.ireturn, 1) := by decide +kernel
theorem dX1_append_32 : decode cX1_append 32 = .ok (.aload_n 0, 1) := by decide +kernel
theorem dX1_append_33 : decode cX1_append 33 = .ok (.getfield 9, 3) := by decide +kernel
theorem dX1_append_36 : decode cX1_append 36 = .ok (.aload_n 0, 1) := by decide +kernel
theorem dX1_append_37 : decode cX1_append 37 = .ok (.getfield 15, 3) := by decide +kernel
theorem dX1_append_40 : decode cX1_append 40 = .ok (.iload_n 1, 1) := by decide +kernel
theorem dX1_append_41 : decode cX1_append 41 = .ok (.sipush 255, 3) := by decide +kernel
theorem dX1_append_44 : decode cX1_append 44 = .ok (.iand, 1) := by decide +kernel
theorem dX1_append_45 : decode cX1_append 45 = .ok (.iastore, 1) := by decide +kernel
theorem dX1_append_46 : decode cX1_append 46 = .ok (.aload_n 0, 1) := by decide +kernel
theorem dX1_append_47 : decode cX1_append 47 = .ok (.dup, 1) := by decide +kernel
theorem dX1_append_48 : decode cX1_append 48 = .ok (.getfield 15, 3) := by decide +kernel
theorem dX1_append_51 : decode cX1_append 51 = .ok (.iconst 1, 1) := by decide +kernel
theorem dX1_append_52 : decode cX1_append 52 = .ok (.iadd, 1) := by decide +kernel
theorem dX1_append_53 : decode cX1_append 53 = .ok (.putfield 15, 3) := by decide +kernel
theorem dX1_append_56 : decode cX1_append 56 = .ok (.iconst 1, 1) := by decide +kernel
theorem dX1_append_57 : decode cX1_append 57 = .ok (.ireturn, 1) := by decide +kernel
theorem dX1_valueAt_0 : decode cX1_valueAt 0 = .ok (.iload_n 1, 1) := by decide +kernel
theorem dX1_valueAt_1 : decode cX1_valueAt 1 = .ok (.ifCond .lt 29, 3) := by decide +kernel
theorem dX1_valueAt_4 : decode cX1_valueAt 4 = .ok (.iload_n 1, 1) := by decide +kernel
theorem dX1_valueAt_5 : decode cX1_valueAt 5 = .ok (.aload_n 0, 1) := by decide +kernel
theorem dX1_valueAt_6 : decode cX1_valueAt 6 = .ok (.getfield 15, 3) := by decide +kernel
theorem dX1_valueAt_9 : decode cX1_valueAt 9 = .ok (.if_icmp .ge 21, 3) := by decide +kernel
theorem dX1_valueAt_12 : decode cX1_valueAt 12 = .ok (.iload_n 1, 1) := by decide +kernel
theorem dX1_valueAt_13 : decode cX1_valueAt 13 = .ok (.aload_n 0, 1) := by decide +kernel
theorem dX1_valueAt_14 : decode cX1_valueAt 14 = .ok (.getfield 9, 3) := by decide +kernel
theorem dX1_valueAt_17 : decode cX1_valueAt 17 = .ok (.arraylength, 1) := by decide +kernel
theorem dX1_valueAt_18 : decode cX1_valueAt 18 = .ok (.if_icmp .ge 12, 3) := by decide +kernel
theorem dX1_valueAt_21 : decode cX1_valueAt 21 = .ok (.aload_n 0, 1) := by decide +kernel
theorem dX1_valueAt_22 : decode cX1_valueAt 22 = .ok (.getfield 9, 3) := by decide +kernel
theorem dX1_valueAt_25 : decode cX1_valueAt 25 = .ok (.iload_n 1, 1) := by decide +kernel
theorem dX1_valueAt_26 : decode cX1_valueAt 26 = .ok (.iaload, 1) := by decide +kernel
theorem dX1_valueAt_27 : decode cX1_valueAt 27 = .ok (.goto 4, 3) := by decide +kernel
theorem dX1_valueAt_30 : decode cX1_valueAt 30 = .ok (.iconst (-1), 1) := by decide +kernel
theorem dX1_valueAt_31 : decode cX1_valueAt 31 = .ok (.ireturn, 1) := by decide +kernel
theorem dX1_change_0 : decode cX1_change 0 = .ok (.iload_n 1, 1) := by decide +kernel
theorem dX1_change_1 : decode cX1_change 1 = .ok (.ifCond .lt 20, 3) := by decide +kernel
theorem dX1_change_4 : decode cX1_change 4 = .ok (.iload_n 1, 1) := by decide +kernel
theorem dX1_change_5 : decode cX1_change 5 = .ok (.aload_n 0, 1) := by decide +kernel
theorem dX1_change_6 : decode cX1_change 6 = .ok (.getfield 15, 3) := by decide +kernel
theorem dX1_change_9 : decode cX1_change 9 = .ok (.if_icmp .ge 12, 3) := by decide +kernel
theorem dX1_change_12 : decode cX1_change 12 = .ok (.iload_n 1, 1) := by decide +kernel
theorem dX1_change_13 : decode cX1_change 13 = .ok (.aload_n 0, 1) := by decide +kernel
theorem dX1_change_14 : decode cX1_change 14 = .ok (.getfield 9, 3) := by decide +kernel
theorem dX1_change_17 : decode cX1_change 17 = .ok (.arraylength, 1) := by decide +kernel
theorem dX1_change_18 : decode cX1_change 18 = .ok (.if_icmp .lt 5, 3) := by decide +kernel
theorem dX1_change_21 : decode cX1_change 21 = .ok (.iconst (-1), 1) := by decide +kernel
theorem dX1_change_22 : decode cX1_change 22 = .ok (.ireturn, 1) := by decide +kernel
theorem dX1_change_23 : decode cX1_change 23 = .ok (.aload_n 0, 1) := by decide +kernel
theorem dX1_change_24 : decode cX1_change 24 = .ok (.getfield 9, 3) := by decide +kernel
theorem dX1_change_27 : decode cX1_change 27 = .ok (.iload_n 1, 1) := by decide +kernel
theorem dX1_change_28 : decode cX1_change 28 = .ok (.dup2, 1) := by decide +kernel
theorem dX1_change_29 : decode cX1_change 29 = .ok (.iaload, 1) := by decide +kernel
theorem dX1_change_30 : decode cX1_change 30 = .ok (.iload_n 2, 1) := by decide +kernel
theorem dX1_change_31 : decode cX1_change 31 = .ok (.ixor, 1) := by decide +kernel
theorem dX1_change_32 : decode cX1_change 32 = .ok (.iastore, 1) := by decide +kernel
theorem dX1_change_33 : decode cX1_change 33 = .ok (.aload_n 0, 1) := by decide +kernel
theorem dX1_change_34 : decode cX1_change 34 = .ok (.getfield 9, 3) := by decide +kernel
theorem dX1_change_37 : decode cX1_change 37 = .ok (.iload_n 1, 1) := by decide +kernel
theorem dX1_change_38 : decode cX1_change 38 = .ok (.iaload, 1) := by decide +kernel
theorem dX1_change_39 : decode cX1_change 39 = .ok (.ireturn, 1) := by decide +kernel
theorem dX1_appendNumber_0 : decode cX1_appendNumber 0 = .ok (.iload_n 3, 1) := by decide +kernel
theorem dX1_appendNumber_1 : decode cX1_appendNumber 1 = .ok (.iconst 1, 1) := by decide +kernel
theorem dX1_appendNumber_2 : decode cX1_appendNumber 2 = .ok (.isub, 1) := by decide +kernel
theorem dX1_appendNumber_3 : decode cX1_appendNumber 3 = .ok (.istore 4, 2) := by decide +kernel
theorem dX1_appendNumber_5 : decode cX1_appendNumber 5 = .ok (.iload 4, 2) := by decide +kernel
theorem dX1_appendNumber_7 : decode cX1_appendNumber 7 = .ok (.ifCond .lt 22, 3) := by decide +kernel
theorem dX1_appendNumber_10 : decode cX1_appendNumber 10 = .ok (.aload_n 0, 1) := by decide +kernel
theorem dX1_appendNumber_11 : decode cX1_appendNumber 11 = .ok (.lload_n 1, 1) := by decide +kernel
theorem dX1_appendNumber_12 : decode cX1_appendNumber 12 = .ok (.bipush 8, 2) := by decide +kernel
theorem dX1_appendNumber_14 : decode cX1_appendNumber 14 = .ok (.iload 4, 2) := by decide +kernel
theorem dX1_appendNumber_16 : decode cX1_appendNumber 16 = .ok (.imul, 1) := by decide +kernel
theorem dX1_appendNumber_17 : decode cX1_appendNumber 17 = .ok (.lushr, 1) := by decide +kernel
theorem dX1_appendNumber_18 : decode cX1_appendNumber 18 = .ok (.l2i, 1) := by decide +kernel
theorem dX1_appendNumber_19 : decode cX1_appendNumber 19 = .ok (.invokevirtual 26, 3) := by decide +kernel
theorem dX1_appendNumber_22 : decode cX1_appendNumber 22 = .ok (.pop, 1) := by decide +kernel
theorem dX1_appendNumber_23 : decode cX1_appendNumber 23 = .ok (.iinc 4 (-1), 3) := by decide +kernel
theorem dX1_appendNumber_26 : decode cX1_appendNumber 26 = .ok (.goto (-21), 3) := by decide +kernel
theorem dX1_appendNumber_29 : decode cX1_appendNumber 29 = .ok (.return_, 1) := by decide +kernel
theorem dX1_appendBits_0 : decode cX1_appendBits 0 = .ok (.iload_n 2, 1) := by decide +kernel
theorem dX1_appendBits_1 : decode cX1_appendBits 1 = .ok (.iconst 1, 1) := by decide +kernel
theorem dX1_appendBits_2 : decode cX1_appendBits 2 = .ok (.isub, 1) := by decide +kernel
theorem dX1_appendBits_3 : decode cX1_appendBits 3 = .ok (.istore_n 3, 1) := by decide +kernel
theorem dX1_appendBits_4 : decode cX1_appendBits 4 = .ok (.iload_n 3, 1) := by decide +kernel
theorem dX1_appendBits_5 : decode cX1_appendBits 5 = .ok (.ifCond .lt 69, 3) := by decide +kernel
theorem dX1_appendBits_8 : decode cX1_appendBits 8 = .ok (.aload_n 0, 1) := by decide +kernel
theorem dX1_appendBits_9 : decode cX1_appendBits 9 = .ok (.getfield 19, 3) := by decide +kernel
theorem dX1_appendBits_12 : decode cX1_appendBits 12 = .ok (.ifCond .ne 15, 3) := by decide +kernel
theorem dX1_appendBits_15 : decode cX1_appendBits 15 = .ok (.aload_n 0, 1) := by decide +kernel
theorem dX1_appendBits_16 : decode cX1_appendBits 16 = .ok (.iconst 0, 1) := by decide +kernel
theorem dX1_appendBits_17 : decode cX1_appendBits 17 = .ok (.invokevirtual 26, 3) := by decide +kernel
theorem dX1_appendBits_20 : decode cX1_appendBits 20 = .ok (.pop, 1) := by decide +kernel
theorem dX1_appendBits_21 : decode cX1_appendBits 21 = .ok (.aload_n 0, 1) := by decide +kernel
theorem dX1_appendBits_22 : decode cX1_appendBits 22 = .ok (.bipush 8, 2) := by decide +kernel
theorem dX1_appendBits_24 : decode cX1_appendBits 24 = .ok (.putfield 19, 3) := by decide +kernel
theorem dX1_appendBits_27 : decode cX1_appendBits 27 = .ok (.aload_n 0, 1) := by decide +kernel
theorem dX1_appendBits_28 : decode cX1_appendBits 28 = .ok (.dup, 1) := by decide +kernel
theorem dX1_appendBits_29 : decode cX1_appendBits 29 = .ok (.getfield 19, 3) := by decide +kernel
theorem dX1_appendBits_32 : decode cX1_appendBits 32 = .ok (.iconst 1, 1) := by decide +kernel
theorem dX1_appendBits_33 : decode cX1_appendBits 33 = .ok (.isub, 1) := by decide +kernel
theorem dX1_appendBits_34 : decode cX1_appendBits 34 = .ok (.putfield 19, 3) := by decide +kernel
theorem dX1_appendBits_37 : decode cX1_appendBits 37 = .ok (.aload_n 0, 1) := by decide +kernel
theorem dX1_appendBits_38 : decode cX1_appendBits 38 = .ok (.getfield 15, 3) := by decide +kernel
theorem dX1_appendBits_41 : decode cX1_appendBits 41 = .ok (.ifCond .le 27, 3) := by decide +kernel
theorem dX1_appendBits_44 : decode cX1_appendBits 44 = .ok (.aload_n 0, 1) := by decide +kernel
theorem dX1_appendBits_45 : decode cX1_appendBits 45 = .ok (.getfield 9, 3) := by decide +kernel
theorem dX1_appendBits_48 : decode cX1_appendBits 48 = .ok (.aload_n 0, 1) := by decide +kernel
theorem dX1_appendBits_49 : decode cX1_appendBits 49 = .ok (.getfield 15, 3) := by decide +kernel
theorem dX1_appendBits_52 : decode cX1_appendBits 52 = .ok (.iconst 1, 1) := by decide +kernel
theorem dX1_appendBits_53 : decode cX1_appendBits 53 = .ok (.isub, 1) := by decide +kernel
theorem dX1_appendBits_54 : decode cX1_appendBits 54 = .ok (.dup2, 1) := by decide +kernel
theorem dX1_appendBits_55 : decode cX1_appendBits 55 = .ok (.iaload, 1) := by decide +kernel
theorem dX1_appendBits_56 : decode cX1_appendBits 56 = .ok (.iload_n 1, 1) := by decide +kernel
theorem dX1_appendBits_57 : decode cX1_appendBits 57 = .ok (.iload_n 3, 1) := by decide +kernel
theorem dX1_appendBits_58 : decode cX1_appendBits 58 = .ok (.ishr, 1) := by decide +kernel
theorem dX1_appendBits_59 : decode cX1_appendBits 59 = .ok (.iconst 1, 1) := by decide +kernel
theorem dX1_appendBits_60 : decode cX1_appendBits 60 = .ok (.iand, 1) := by decide +kernel
theorem dX1_appendBits_61 : decode cX1_appendBits 61 = .ok (.aload_n 0, 1) := by decide +kernel
theorem dX1_appendBits_62 : decode cX1_appendBits 62 = .ok (.getfield 19, 3) := by decide +kernel
theorem dX1_appendBits_65 : decode cX1_appendBits 65 = .ok (.ishl, 1) := by decide +kernel
theorem dX1_appendBits_66 : decode cX1_appendBits 66 = .ok (.ior, 1) := by decide +kernel
theorem dX1_appendBits_67 : decode cX1_appendBits 67 = .ok (.iastore, 1) := by decide +kernel
theorem dX1_appendBits_68 : decode cX1_appendBits 68 = .ok (.iinc 3 (-1), 3) := by decide +kernel
theorem dX1_appendBits_71 : decode cX1_appendBits 71 = .ok (.goto (-67), 3) := by decide +kernel
theorem dX1_appendBits_74 : decode cX1_appendBits 74 = .ok (.return_, 1) := by decide +kernel
theorem dX2_empty_0 : decode cX2_empty 0 = .ok (.aload_n 0, 1) := by decide +kernel
theorem dX2_empty_1 : decode cX2_empty 1 = .ok (.iconst 0, 1) := by decide +kernel
theorem dX2_empty_2 : decode cX2_empty 2 = .ok (.putfield 15, 3) := by decide +kernel
theorem dX2_empty_5 : decode cX2_empty 5 = .ok (.return_, 1) := by decide +kernel
theorem dX2_makeRoomForSign_0 : decode cX2_makeRoomForSign 0 = .ok (.aload_n 0, 1) := by decide +kernel
theorem dX2_makeRoomForSign_1 : decode cX2_makeRoomForSign 1 = .ok (.aload_n 0, 1) := by decide +kernel
theorem dX2_makeRoomForSign_2 : decode cX2_makeRoomForSign 2 = .ok (.getfield 9, 3) := by decide +kernel
theorem dX2_makeRoomForSign_5 : decode cX2_makeRoomForSign 5 = .ok (.aload_n 0, 1) := by decide +kernel
theorem dX2_makeRoomForSign_6 : decode cX2_makeRoomForSign 6 = .ok (.getfield 15, 3) := by decide +kernel
theorem dX2_makeRoomForSign_9 : decode cX2_makeRoomForSign 9 = .ok (.bipush 8, 2) := by decide +kernel
theorem dX2_makeRoomForSign_11 : decode cX2_makeRoomForSign 11 = .ok (.idiv, 1) := by decide +kernel
theorem dX2_makeRoomForSign_12 : decode cX2_makeRoomForSign 12 = .ok (.bipush 10, 2) := by decide +kernel
theorem dX2_makeRoomForSign_14 : decode cX2_makeRoomForSign 14 = .ok (.iadd, 1) := by decide +kernel
theorem dX2_makeRoomForSign_15 : decode cX2_makeRoomForSign 15 = .ok (.sipush 8000, 3) := by decide +kernel
theorem dX2_makeRoomForSign_18 : decode cX2_makeRoomForSign 18 = .ok (.invokestatic 19, 3) := by decide +kernel
theorem dX2_makeRoomForSign_21 : decode cX2_makeRoomForSign 21 = .ok (.putfield 9, 3) := by decide +kernel
theorem dX2_makeRoomForSign_24 : decode cX2_makeRoomForSign 24 = .ok (.return_, 1) := by decide +kernel
theorem dX2_pushOctet_0 : decode cX2_pushOctet 0 = .ok (.aload_n 0, 1) := by decide +kernel
theorem dX2_pushOctet_1 : decode cX2_pushOctet 1 = .ok (.getfield 15, 3) := by decide +kernel
theorem dX2_pushOctet_4 : decode cX2_pushOctet 4 = .ok (.bipush 8, 2) := by decide +kernel
theorem dX2_pushOctet_6 : decode cX2_pushOctet 6 = .ok (.idiv, 1) := by decide +kernel
theorem dX2_pushOctet_7 : decode cX2_pushOctet 7 = .ok (.istore_n 2, 1) := by decide +kernel
theorem dX2_pushOctet_8 : decode cX2_pushOctet 8 = .ok (.iload_n 2, 1) := by decide +kernel
theorem dX2_pushOctet_9 : decode cX2_pushOctet 9 = .ok (.aload_n 0, 1) := by decide +kernel
theorem dX2_pushOctet_10 : decode cX2_pushOctet 10 = .ok (.getfield 9, 3) := by decide +kernel
theorem dX2_pushOctet_13 : decode cX2_pushOctet 13 = .ok (.arraylength, 1) := by decide +kernel
theorem dX2_pushOctet_14 : decode cX2_pushOctet 14 = .ok (.if_icmp .ge 25, 3) := by decide +kernel
theorem dX2_pushOctet_17 : decode cX2_pushOctet 17 = .ok (.aload_n 0, 1) := by decide +kernel
theorem dX2_pushOctet_18 : decode cX2_pushOctet 18 = .ok (.getfield 9, 3) := by decide +kernel
theorem dX2_pushOctet_21 : decode cX2_pushOctet 21 = .ok (.iload_n 2, 1) := by decide +kernel
theorem dX2_pushOctet_22 : decode cX2_pushOctet 22 = .ok (.iload_n 1, 1) := by decide +kernel
theorem dX2_pushOctet_23 : decode cX2_pushOctet 23 = .ok (.sipush 255, 3) := by decide +kernel
theorem dX2_pushOctet_26 : decode cX2_pushOctet 26 = .ok (.iand, 1) := by decide +kernel
theorem dX2_pushOctet_27 : decode cX2_pushOctet 27 = .ok (.iastore, 1) := by decide +kernel
theorem dX2_pushOctet_28 : decode cX2_pushOctet 28 = .ok (.aload_n 0, 1) := by decide +kernel
theorem dX2_pushOctet_29 : decode cX2_pushOctet 29 = .ok (.dup, 1) := by decide +kernel
theorem dX2_pushOctet_30 : decode cX2_pushOctet 30 = .ok (.getfield 15, 3) := by decide +kernel
theorem dX2_pushOctet_33 : decode cX2_pushOctet 33 = .ok (.bipush 8, 2) := by decide +kernel
theorem dX2_pushOctet_35 : decode cX2_pushOctet 35 = .ok (.iadd, 1) := by decide +kernel
theorem dX2_pushOctet_36 : decode cX2_pushOctet 36 = .ok (.putfield 15, 3) := by decide +kernel
theorem dX2_pushOctet_39 : decode cX2_pushOctet 39 = .ok (.return_, 1) := by decide +kernel
theorem dX2_pushBit_0 : decode cX2_pushBit 0 = .ok (.aload_n 0, 1) := by decide +kernel
theorem dX2_pushBit_1 : decode cX2_pushBit 1 = .ok (.getfield 15, 3) := by decide +kernel
theorem dX2_pushBit_4 : decode cX2_pushBit 4 = .ok (.bipush 8, 2) := by decide +kernel
theorem dX2_pushBit_6 : decode cX2_pushBit 6 = .ok (.idiv, 1) := by decide +kernel
theorem dX2_pushBit_7 : decode cX2_pushBit 7 = .ok (.istore_n 2, 1) := by decide +kernel
theorem dX2_pushBit_8 : decode cX2_pushBit 8 = .ok (.iload_n 2, 1) := by decide +kernel
theorem dX2_pushBit_9 : decode cX2_pushBit 9 = .ok (.aload_n 0, 1) := by decide +kernel
theorem dX2_pushBit_10 : decode cX2_pushBit 10 = .ok (.getfield 9, 3) := by decide +kernel
theorem dX2_pushBit_13 : decode cX2_pushBit 13 = .ok (.arraylength, 1) := by decide +kernel
theorem dX2_pushBit_14 : decode cX2_pushBit 14 = .ok (.if_icmp .ge 53, 3) := by decide +kernel
theorem dX2_pushBit_17 : decode cX2_pushBit 17 = .ok (.aload_n 0, 1) := by decide +kernel
theorem dX2_pushBit_18 : decode cX2_pushBit 18 = .ok (.getfield 15, 3) := by decide +kernel
theorem dX2_pushBit_21 : decode cX2_pushBit 21 = .ok (.bipush 8, 2) := by decide +kernel
theorem dX2_pushBit_23 : decode cX2_pushBit 23 = .ok (.irem, 1) := by decide +kernel
theorem dX2_pushBit_24 : decode cX2_pushBit 24 = .ok (.ifCond .ne 7, 3) := by decide +kernel
theorem dX2_pushBit_27 : decode cX2_pushBit 27 = .ok (.iconst 0, 1) := by decide +kernel
theorem dX2_pushBit_28 : decode cX2_pushBit 28 = .ok (.goto 9, 3) := by decide +kernel
theorem dX2_pushBit_31 : decode cX2_pushBit 31 = .ok (.aload_n 0, 1) := by decide +kernel
theorem dX2_pushBit_32 : decode cX2_pushBit 32 = .ok (.getfield 9, 3) := by decide +kernel
theorem dX2_pushBit_35 : decode cX2_pushBit 35 = .ok (.iload_n 2, 1) := by decide +kernel
theorem dX2_pushBit_36 : decode cX2_pushBit 36 = .ok (.iaload, 1) := by decide +kernel
theorem dX2_pushBit_37 : decode cX2_pushBit 37 = .ok (.istore_n 3, 1) := by decide +kernel
theorem dX2_pushBit_38 : decode cX2_pushBit 38 = .ok (.aload_n 0, 1) := by decide +kernel
theorem dX2_pushBit_39 : decode cX2_pushBit 39 = .ok (.getfield 9, 3) := by decide +kernel
theorem dX2_pushBit_42 : decode cX2_pushBit 42 = .ok (.iload_n 2, 1) := by decide +kernel
theorem dX2_pushBit_43 : decode cX2_pushBit 43 = .ok (.iload_n 3, 1) := by decide +kernel
theorem dX2_pushBit_44 : decode cX2_pushBit 44 = .ok (.iload_n 1, 1) := by decide +kernel
theorem dX2_pushBit_45 : decode cX2_pushBit 45 = .ok (.iconst 1, 1) := by decide +kernel
theorem dX2_pushBit_46 : decode cX2_pushBit 46 = .ok (.iand, 1) := by decide +kernel
theorem dX2_pushBit_47 : decode cX2_pushBit 47 = .ok (.aload_n 0, 1) := by decide +kernel
theorem dX2_pushBit_48 : decode cX2_pushBit 48 = .ok (.getfield 15, 3) := by decide +kernel
theorem dX2_pushBit_51 : decode cX2_pushBit 51 = .ok (.bipush 8, 2) := by decide +kernel
theorem dX2_pushBit_53 : decode cX2_pushBit 53 = .ok (.irem, 1) := by decide +kernel
theorem dX2_pushBit_54 : decode cX2_pushBit 54 = .ok (.ishl, 1) := by decide +kernel
theorem dX2_pushBit_55 : decode cX2_pushBit 55 = .ok (.ior, 1) := by decide +kernel
theorem dX2_pushBit_56 : decode cX2_pushBit 56 = .ok (.iastore, 1) := by decide +kernel
theorem dX2_pushBit_57 : decode cX2_pushBit 57 = .ok (.aload_n 0, 1) := by decide +kernel
theorem dX2_pushBit_58 : decode cX2_pushBit 58 = .ok (.dup, 1) := by decide +kernel
theorem dX2_pushBit_59 : decode cX2_pushBit 59 = .ok (.getfield 15, 3) := by decide +kernel
theorem dX2_pushBit_62 : decode cX2_pushBit 62 = .ok (.iconst 1, 1) := by decide +kernel
theorem dX2_pushBit_63 : decode cX2_pushBit 63 = .ok (.iadd, 1) := by decide +kernel
theorem dX2_pushBit_64 : decode cX2_pushBit 64 = .ok (.putfield 15, 3) := by decide +kernel
theorem dX2_pushBit_67 : decode cX2_pushBit 67 = .ok (.return_, 1) := by decide +kernel
theorem dX2_pourInto_0 : decode cX2_pourInto 0 = .ok (.aload_n 0, 1) := by decide +kernel
theorem dX2_pourInto_1 : decode cX2_pourInto 1 = .ok (.getfield 15, 3) := by decide +kernel
theorem dX2_pourInto_4 : decode cX2_pourInto 4 = .ok (.bipush 7, 2) := by decide +kernel
theorem dX2_pourInto_6 : decode cX2_pourInto 6 = .ok (.iadd, 1) := by decide +kernel
theorem dX2_pourInto_7 : decode cX2_pourInto 7 = .ok (.bipush 8, 2) := by decide +kernel
theorem dX2_pourInto_9 : decode cX2_pourInto 9 = .ok (.idiv, 1) := by decide +kernel
theorem dX2_pourInto_10 : decode cX2_pourInto 10 = .ok (.istore_n 2, 1) := by decide +kernel
theorem dX2_pourInto_11 : decode cX2_pourInto 11 = .ok (.aload_n 0, 1) := by decide +kernel
theorem dX2_pourInto_12 : decode cX2_pourInto 12 = .ok (.getfield 15, 3) := by decide +kernel
theorem dX2_pourInto_15 : decode cX2_pourInto 15 = .ok (.bipush 8, 2) := by decide +kernel
theorem dX2_pourInto_17 : decode cX2_pourInto 17 = .ok (.iload_n 2, 1) := by decide +kernel
theorem dX2_pourInto_18 : decode cX2_pourInto 18 = .ok (.iconst 1, 1) := by decide +kernel
theorem dX2_pourInto_19 : decode cX2_pourInto 19 = .ok (.isub, 1) := by decide +kernel
theorem dX2_pourInto_20 : decode cX2_pourInto 20 = .ok (.imul, 1) := by decide +kernel
theorem dX2_pourInto_21 : decode cX2_pourInto 21 = .ok (.isub, 1) := by decide +kernel
theorem dX2_pourInto_22 : decode cX2_pourInto 22 = .ok (.istore_n 3, 1) := by decide +kernel
theorem dX2_pourInto_23 : decode cX2_pourInto 23 = .ok (.iload_n 2, 1) := by decide +kernel
theorem dX2_pourInto_24 : decode cX2_pourInto 24 = .ok (.iconst 1, 1) := by decide +kernel
theorem dX2_pourInto_25 : decode cX2_pourInto 25 = .ok (.isub, 1) := by decide +kernel
theorem dX2_pourInto_26 : decode cX2_pourInto 26 = .ok (.istore 4, 2) := by decide +kernel
theorem dX2_pourInto_28 : decode cX2_pourInto 28 = .ok (.iload 4, 2) := by decide +kernel
theorem dX2_pourInto_30 : decode cX2_pourInto 30 = .ok (.ifCond .lt 51, 3) := by decide +kernel
theorem dX2_pourInto_33 : decode cX2_pourInto 33 = .ok (.iload 4, 2) := by decide +kernel
theorem dX2_pourInto_35 : decode cX2_pourInto 35 = .ok (.ifCond .le 15, 3) := by decide +kernel
theorem dX2_pourInto_38 : decode cX2_pourInto 38 = .ok (.aload_n 0, 1) := by decide +kernel
theorem dX2_pourInto_39 : decode cX2_pourInto 39 = .ok (.getfield 9, 3) := by decide +kernel
theorem dX2_pourInto_42 : decode cX2_pourInto 42 = .ok (.iload 4, 2) := by decide +kernel
theorem dX2_pourInto_44 : decode cX2_pourInto 44 = .ok (.iconst 1, 1) := by decide +kernel
theorem dX2_pourInto_45 : decode cX2_pourInto 45 = .ok (.isub, 1) := by decide +kernel
theorem dX2_pourInto_46 : decode cX2_pourInto 46 = .ok (.iaload, 1) := by decide +kernel
theorem dX2_pourInto_47 : decode cX2_pourInto 47 = .ok (.goto 4, 3) := by decide +kernel
theorem dX2_pourInto_50 : decode cX2_pourInto 50 = .ok (.iconst 0, 1) := by decide +kernel
theorem dX2_pourInto_51 : decode cX2_pourInto 51 = .ok (.istore 5, 2) := by decide +kernel
theorem dX2_pourInto_53 : decode cX2_pourInto 53 = .ok (.aload_n 1, 1) := by decide +kernel
theorem dX2_pourInto_54 : decode cX2_pourInto 54 = .ok (.aload_n 0, 1) := by decide +kernel
theorem dX2_pourInto_55 : decode cX2_pourInto 55 = .ok (.getfield 9, 3) := by decide +kernel
theorem dX2_pourInto_58 : decode cX2_pourInto 58 = .ok (.iload 4, 2) := by decide +kernel
theorem dX2_pourInto_60 : decode cX2_pourInto 60 = .ok (.iaload, 1) := by decide +kernel
theorem dX2_pourInto_61 : decode cX2_pourInto 61 = .ok (.bipush 8, 2) := by decide +kernel
theorem dX2_pourInto_63 : decode cX2_pourInto 63 = .ok (.iload_n 3, 1) := by decide +kernel
theorem dX2_pourInto_64 : decode cX2_pourInto 64 = .ok (.isub, 1) := by decide +kernel
theorem dX2_pourInto_65 : decode cX2_pourInto 65 = .ok (.ishl, 1) := by decide +kernel
theorem dX2_pourInto_66 : decode cX2_pourInto 66 = .ok (.iload 5, 2) := by decide +kernel
theorem dX2_pourInto_68 : decode cX2_pourInto 68 = .ok (.iload_n 3, 1) := by decide +kernel
theorem dX2_pourInto_69 : decode cX2_pourInto 69 = .ok (.ishr, 1) := by decide +kernel
theorem dX2_pourInto_70 : decode cX2_pourInto 70 = .ok (.ior, 1) := by decide +kernel
theorem dX2_pourInto_71 : decode cX2_pourInto 71 = .ok (.invokevirtual 23, 3) := by decide +kernel
theorem dX2_pourInto_74 : decode cX2_pourInto 74 = .ok (.pop, 1) := by decide +kernel
theorem dX2_pourInto_75 : decode cX2_pourInto 75 = .ok (.iinc 4 (-1), 3) := by decide +kernel
theorem dX2_pourInto_78 : decode cX2_pourInto 78 = .ok (.goto (-50), 3) := by decide +kernel
theorem dX2_pourInto_81 : decode cX2_pourInto 81 = .ok (.return_, 1) := by decide +kernel
theorem dX3_nextNumber_0 : decode cX3_nextNumber 0 = .ok (.lconst 0, 1) := by decide +kernel
theorem dX3_nextNumber_1 : decode cX3_nextNumber 1 = .ok (.lstore_n 3, 1) := by decide +kernel
theorem dX3_nextNumber_2 : decode cX3_nextNumber 2 = .ok (.iconst 0, 1) := by decide +kernel
theorem dX3_nextNumber_3 : decode cX3_nextNumber 3 = .ok (.istore 5, 2) := by decide +kernel
theorem dX3_nextNumber_5 : decode cX3_nextNumber 5 = .ok (.iload 5, 2) := by decide +kernel
theorem dX3_nextNumber_7 : decode cX3_nextNumber 7 = .ok (.iload_n 2, 1) := by decide +kernel
theorem dX3_nextNumber_8 : decode cX3_nextNumber 8 = .ok (.if_icmp .ge 67, 3) := by decide +kernel
theorem dX3_nextNumber_11 : decode cX3_nextNumber 11 = .ok (.aload_n 0, 1) := by decide +kernel
theorem dX3_nextNumber_12 : decode cX3_nextNumber 12 = .ok (.getfield 35, 3) := by decide +kernel
theorem dX3_nextNumber_15 : decode cX3_nextNumber 15 = .ok (.aload_n 1, 1) := by decide +kernel
theorem dX3_nextNumber_16 : decode cX3_nextNumber 16 = .ok (.getfield 159, 3) := by decide +kernel
theorem dX3_nextNumber_19 : decode cX3_nextNumber 19 = .ok (.if_icmp .ge 15, 3) := by decide +kernel
theorem dX3_nextNumber_22 : decode cX3_nextNumber 22 = .ok (.aload_n 0, 1) := by decide +kernel
theorem dX3_nextNumber_23 : decode cX3_nextNumber 23 = .ok (.getfield 35, 3) := by decide +kernel
theorem dX3_nextNumber_26 : decode cX3_nextNumber 26 = .ok (.aload_n 1, 1) := by decide +kernel
theorem dX3_nextNumber_27 : decode cX3_nextNumber 27 = .ok (.getfield 162, 3) := by decide +kernel
theorem dX3_nextNumber_30 : decode cX3_nextNumber 30 = .ok (.arraylength, 1) := by decide +kernel
theorem dX3_nextNumber_31 : decode cX3_nextNumber 31 = .ok (.if_icmp .lt 12, 3) := by decide +kernel
theorem dX3_nextNumber_34 : decode cX3_nextNumber 34 = .ok (.aload_n 0, 1) := by decide +kernel
theorem dX3_nextNumber_35 : decode cX3_nextNumber 35 = .ok (.iconst 1, 1) := by decide +kernel
theorem dX3_nextNumber_36 : decode cX3_nextNumber 36 = .ok (.putfield 32, 3) := by decide +kernel
theorem dX3_nextNumber_39 : decode cX3_nextNumber 39 = .ok (.ldc2_w 165, 3) := by decide +kernel
theorem dX3_nextNumber_42 : decode cX3_nextNumber 42 = .ok (.lreturn, 1) := by decide +kernel
theorem dX3_nextNumber_43 : decode cX3_nextNumber 43 = .ok (.lload_n 3, 1) := by decide +kernel
theorem dX3_nextNumber_44 : decode cX3_nextNumber 44 = .ok (.bipush 8, 2) := by decide +kernel
theorem dX3_nextNumber_46 : decode cX3_nextNumber 46 = .ok (.lshl, 1) := by decide +kernel
theorem dX3_nextNumber_47 : decode cX3_nextNumber 47 = .ok (.aload_n 1, 1) := by decide +kernel
theorem dX3_nextNumber_48 : decode cX3_nextNumber 48 = .ok (.getfield 162, 3) := by decide +kernel
theorem dX3_nextNumber_51 : decode cX3_nextNumber 51 = .ok (.aload_n 0, 1) := by decide +kernel
theorem dX3_nextNumber_52 : decode cX3_nextNumber 52 = .ok (.getfield 35, 3) := by decide +kernel
theorem dX3_nextNumber_55 : decode cX3_nextNumber 55 = .ok (.iaload, 1) := by decide +kernel
theorem dX3_nextNumber_56 : decode cX3_nextNumber 56 = .ok (.i2l, 1) := by decide +kernel
theorem dX3_nextNumber_57 : decode cX3_nextNumber 57 = .ok (.lor, 1) := by decide +kernel
theorem dX3_nextNumber_58 : decode cX3_nextNumber 58 = .ok (.lstore_n 3, 1) := by decide +kernel
theorem dX3_nextNumber_59 : decode cX3_nextNumber 59 = .ok (.aload_n 0, 1) := by decide +kernel
theorem dX3_nextNumber_60 : decode cX3_nextNumber 60 = .ok (.dup, 1) := by decide +kernel
theorem dX3_nextNumber_61 : decode cX3_nextNumber 61 = .ok (.getfield 35, 3) := by decide +kernel
theorem dX3_nextNumber_64 : decode cX3_nextNumber 64 = .ok (.iconst 1, 1) := by decide +kernel
theorem dX3_nextNumber_65 : decode cX3_nextNumber 65 = .ok (.iadd, 1) := by decide +kernel
theorem dX3_nextNumber_66 : decode cX3_nextNumber 66 = .ok (.putfield 35, 3) := by decide +kernel
theorem dX3_nextNumber_69 : decode cX3_nextNumber 69 = .ok (.iinc 5 1, 3) := by decide +kernel
theorem dX3_nextNumber_72 : decode cX3_nextNumber 72 = .ok (.goto (-67), 3) := by decide +kernel
theorem dX3_nextNumber_75 : decode cX3_nextNumber 75 = .ok (.lload_n 3, 1) := by decide +kernel
theorem dX3_nextNumber_76 : decode cX3_nextNumber 76 = .ok (.lreturn, 1) := by decide +kernel
theorem dX4_forget_0 : decode cX4_forget 0 = .ok (.aload_n 0, 1) := by decide +kernel
theorem dX4_forget_1 : decode cX4_forget 1 = .ok (.getfield 9, 3) := by decide +kernel
theorem dX4_forget_4 : decode cX4_forget 4 = .ok (.iconst 0, 1) := by decide +kernel
theorem dX4_forget_5 : decode cX4_forget 5 = .ok (.invokestatic 41, 3) := by decide +kernel
theorem dX4_forget_8 : decode cX4_forget 8 = .ok (.aload_n 0, 1) := by decide +kernel
theorem dX4_forget_9 : decode cX4_forget 9 = .ok (.iconst 0, 1) := by decide +kernel
theorem dX4_forget_10 : decode cX4_forget 10 = .ok (.putfield 47, 3) := by decide +kernel
theorem dX4_forget_13 : decode cX4_forget 13 = .ok (.aload_n 0, 1) := by decide +kernel
theorem dX4_forget_14 : decode cX4_forget 14 = .ok (.iconst 0, 1) := by decide +kernel
theorem dX4_forget_15 : decode cX4_forget 15 = .ok (.putfield 51, 3) := by decide +kernel
theorem dX4_forget_18 : decode cX4_forget 18 = .ok (.return_, 1) := by decide +kernel
theorem dX4_beginWith_0 : decode cX4_beginWith 0 = .ok (.aload_n 0, 1) := by decide +kernel
theorem dX4_beginWith_1 : decode cX4_beginWith 1 = .ok (.invokevirtual 54, 3) := by decide +kernel
theorem dX4_beginWith_4 : decode cX4_beginWith 4 = .ok (.aload_n 0, 1) := by decide +kernel
theorem dX4_beginWith_5 : decode cX4_beginWith 5 = .ok (.iload_n 1, 1) := by decide +kernel
theorem dX4_beginWith_6 : decode cX4_beginWith 6 = .ok (.putfield 34, 3) := by decide +kernel
theorem dX4_beginWith_9 : decode cX4_beginWith 9 = .ok (.aload_n 0, 1) := by decide +kernel
theorem dX4_beginWith_10 : decode cX4_beginWith 10 = .ok (.iconst 1, 1) := by decide +kernel
theorem dX4_beginWith_11 : decode cX4_beginWith 11 = .ok (.iload_n 1, 1) := by decide +kernel
theorem dX4_beginWith_12 : decode cX4_beginWith 12 = .ok (.ishl, 1) := by decide +kernel
theorem dX4_beginWith_13 : decode cX4_beginWith 13 = .ok (.putfield 38, 3) := by decide +kernel
theorem dX4_beginWith_16 : decode cX4_beginWith 16 = .ok (.return_, 1) := by decide +kernel
end
section
theorem dX3_takeHead_0 : decode cX3_takeHead 0 = .ok (.aload_n 0, 1) := by decide +kernel
theorem dX3_takeHead_1 : decode cX3_takeHead 1 = .ok (.aload_n 1, 1) := by decide +kernel
theorem dX3_takeHead_2 : decode cX3_takeHead 2 = .ok (.iconst 1, 1) := by decide +kernel
theorem dX3_takeHead_3 : decode cX3_takeHead 3 = .ok (.invokevirtual 61, 3) := by decide +kernel
theorem dX3_takeHead_6 : decode cX3_takeHead 6 = .ok (.l2i, 1) := by decide +kernel
theorem dX3_takeHead_7 : decode cX3_takeHead 7 = .ok (.istore_n 2, 1) := by decide +kernel
theorem dX3_takeHead_8 : decode cX3_takeHead 8 = .ok (.aload_n 0, 1) := by decide +kernel
theorem dX3_takeHead_9 : decode cX3_takeHead 9 = .ok (.getfield 32, 3) := by decide +kernel
theorem dX3_takeHead_12 : decode cX3_takeHead 12 = .ok (.ifCond .ne 22, 3) := by decide +kernel
theorem dX3_takeHead_15 : decode cX3_takeHead 15 = .ok (.iload_n 2, 1) := by decide +kernel
theorem dX3_takeHead_16 : decode cX3_takeHead 16 = .ok (.iconst 2, 1) := by decide +kernel
theorem dX3_takeHead_17 : decode cX3_takeHead 17 = .ok (.ishr, 1) := by decide +kernel
theorem dX3_takeHead_18 : decode cX3_takeHead 18 = .ok (.iconst 3, 1) := by decide +kernel
theorem dX3_takeHead_19 : decode cX3_takeHead 19 = .ok (.if_icmp .gt 10, 3) := by decide +kernel
theorem dX3_takeHead_22 : decode cX3_takeHead 22 = .ok (.iload_n 2, 1) := by decide +kernel
theorem dX3_takeHead_23 : decode cX3_takeHead 23 = .ok (.iconst 3, 1) := by decide +kernel
theorem dX3_takeHead_24 : decode cX3_takeHead 24 = .ok (.iand, 1) := by decide +kernel
theorem dX3_takeHead_25 : decode cX3_takeHead 25 = .ok (.iconst 3, 1) := by decide +kernel
theorem dX3_takeHead_26 : decode cX3_takeHead 26 = .ok (.if_icmp .ne 8, 3) := by decide +kernel
theorem dX3_takeHead_29 : decode cX3_takeHead 29 = .ok (.aload_n 0, 1) := by decide +kernel
theorem dX3_takeHead_30 : decode cX3_takeHead 30 = .ok (.iconst 2, 1) := by decide +kernel
theorem dX3_takeHead_31 : decode cX3_takeHead 31 = .ok (.putfield 32, 3) := by decide +kernel
theorem dX3_takeHead_34 : decode cX3_takeHead 34 = .ok (.aload_n 0, 1) := by decide +kernel
theorem dX3_takeHead_35 : decode cX3_takeHead 35 = .ok (.getfield 32, 3) := by decide +kernel
theorem dX3_takeHead_38 : decode cX3_takeHead 38 = .ok (.ifCond .eq 4, 3) := by decide +kernel
theorem dX3_takeHead_41 : decode cX3_takeHead 41 = .ok (.return_, 1) := by decide +kernel
theorem dX3_takeHead_42 : decode cX3_takeHead 42 = .ok (.aload_n 0, 1) := by decide +kernel
theorem dX3_takeHead_43 : decode cX3_takeHead 43 = .ok (.aload_n 1, 1) := by decide +kernel
theorem dX3_takeHead_44 : decode cX3_takeHead 44 = .ok (.iconst 1, 1) := by decide +kernel
theorem dX3_takeHead_45 : decode cX3_takeHead 45 = .ok (.invokevirtual 61, 3) := by decide +kernel
theorem dX3_takeHead_48 : decode cX3_takeHead 48 = .ok (.l2i, 1) := by decide +kernel
theorem dX3_takeHead_49 : decode cX3_takeHead 49 = .ok (.istore_n 3, 1) := by decide +kernel
theorem dX3_takeHead_50 : decode cX3_takeHead 50 = .ok (.aload_n 0, 1) := by decide +kernel
theorem dX3_takeHead_51 : decode cX3_takeHead 51 = .ok (.getfield 32, 3) := by decide +kernel
theorem dX3_takeHead_54 : decode cX3_takeHead 54 = .ok (.ifCond .ne 19, 3) := by decide +kernel
theorem dX3_takeHead_57 : decode cX3_takeHead 57 = .ok (.iload_n 3, 1) := by decide +kernel
theorem dX3_takeHead_58 : decode cX3_takeHead 58 = .ok (.iconst 5, 1) := by decide +kernel
theorem dX3_takeHead_59 : decode cX3_takeHead 59 = .ok (.if_icmp .lt 9, 3) := by decide +kernel
theorem dX3_takeHead_62 : decode cX3_takeHead 62 = .ok (.iload_n 3, 1) := by decide +kernel
theorem dX3_takeHead_63 : decode cX3_takeHead 63 = .ok (.bipush 12, 2) := by decide +kernel
theorem dX3_takeHead_65 : decode cX3_takeHead 65 = .ok (.if_icmp .le 8, 3) := by decide +kernel
theorem dX3_takeHead_68 : decode cX3_takeHead 68 = .ok (.aload_n 0, 1) := by decide +kernel
theorem dX3_takeHead_69 : decode cX3_takeHead 69 = .ok (.iconst 2, 1) := by decide +kernel
theorem dX3_takeHead_70 : decode cX3_takeHead 70 = .ok (.putfield 32, 3) := by decide +kernel
theorem dX3_takeHead_73 : decode cX3_takeHead 73 = .ok (.aload_n 0, 1) := by decide +kernel
theorem dX3_takeHead_74 : decode cX3_takeHead 74 = .ok (.getfield 32, 3) := by decide +kernel
theorem dX3_takeHead_77 : decode cX3_takeHead 77 = .ok (.ifCond .eq 4, 3) := by decide +kernel
theorem dX3_takeHead_80 : decode cX3_takeHead 80 = .ok (.return_, 1) := by decide +kernel
theorem dX3_takeHead_81 : decode cX3_takeHead 81 = .ok (.aload_n 0, 1) := by decide +kernel
theorem dX3_takeHead_82 : decode cX3_takeHead 82 = .ok (.iload_n 2, 1) := by decide +kernel
theorem dX3_takeHead_83 : decode cX3_takeHead 83 = .ok (.iconst 2, 1) := by decide +kernel
theorem dX3_takeHead_84 : decode cX3_takeHead 84 = .ok (.ishr, 1) := by decide +kernel
theorem dX3_takeHead_85 : decode cX3_takeHead 85 = .ok (.putfield 65, 3) := by decide +kernel
theorem dX3_takeHead_88 : decode cX3_takeHead 88 = .ok (.aload_n 0, 1) := by decide +kernel
theorem dX3_takeHead_89 : decode cX3_takeHead 89 = .ok (.iconst 1, 1) := by decide +kernel
theorem dX3_takeHead_90 : decode cX3_takeHead 90 = .ok (.iload_n 2, 1) := by decide +kernel
theorem dX3_takeHead_91 : decode cX3_takeHead 91 = .ok (.iconst 3, 1) := by decide +kernel
theorem dX3_takeHead_92 : decode cX3_takeHead 92 = .ok (.iand, 1) := by decide +kernel
theorem dX3_takeHead_93 : decode cX3_takeHead 93 = .ok (.ishl, 1) := by decide +kernel
theorem dX3_takeHead_94 : decode cX3_takeHead 94 = .ok (.putfield 68, 3) := by decide +kernel
theorem dX3_takeHead_97 : decode cX3_takeHead 97 = .ok (.aload_n 0, 1) := by decide +kernel
theorem dX3_takeHead_98 : decode cX3_takeHead 98 = .ok (.getfield 14, 3) := by decide +kernel
theorem dX3_takeHead_101 : decode cX3_takeHead 101 = .ok (.iload_n 3, 1) := by decide +kernel
theorem dX3_takeHead_102 : decode cX3_takeHead 102 = .ok (.invokevirtual 71, 3) := by decide +kernel
theorem dX3_takeHead_105 : decode cX3_takeHead 105 = .ok (.aload_n 0, 1) := by decide +kernel
theorem dX3_takeHead_106 : decode cX3_takeHead 106 = .ok (.aload_n 0, 1) := by decide +kernel
theorem dX3_takeHead_107 : decode cX3_takeHead 107 = .ok (.aload_n 1, 1) := by decide +kernel
theorem dX3_takeHead_108 : decode cX3_takeHead 108 = .ok (.iconst 2, 1) := by decide +kernel
theorem dX3_takeHead_109 : decode cX3_takeHead 109 = .ok (.invokevirtual 61, 3) := by decide +kernel
theorem dX3_takeHead_112 : decode cX3_takeHead 112 = .ok (.l2i, 1) := by decide +kernel
theorem dX3_takeHead_113 : decode cX3_takeHead 113 = .ok (.putfield 74, 3) := by decide +kernel
theorem dX3_takeHead_116 : decode cX3_takeHead 116 = .ok (.return_, 1) := by decide +kernel
theorem dX3_nextBits_0 : decode cX3_nextBits 0 = .ok (.iconst 0, 1) := by decide +kernel
theorem dX3_nextBits_1 : decode cX3_nextBits 1 = .ok (.istore_n 3, 1) := by decide +kernel
theorem dX3_nextBits_2 : decode cX3_nextBits 2 = .ok (.iconst 0, 1) := by decide +kernel
theorem dX3_nextBits_3 : decode cX3_nextBits 3 = .ok (.istore 4, 2) := by decide +kernel
theorem dX3_nextBits_5 : decode cX3_nextBits 5 = .ok (.iload 4, 2) := by decide +kernel
theorem dX3_nextBits_7 : decode cX3_nextBits 7 = .ok (.iload_n 2, 1) := by decide +kernel
theorem dX3_nextBits_8 : decode cX3_nextBits 8 = .ok (.if_icmp .ge 68, 3) := by decide +kernel
theorem dX3_nextBits_11 : decode cX3_nextBits 11 = .ok (.aload_n 0, 1) := by decide +kernel
theorem dX3_nextBits_12 : decode cX3_nextBits 12 = .ok (.getfield 38, 3) := by decide +kernel
theorem dX3_nextBits_15 : decode cX3_nextBits 15 = .ok (.ifCond .ne 29, 3) := by decide +kernel
theorem dX3_nextBits_18 : decode cX3_nextBits 18 = .ok (.aload_n 0, 1) := by decide +kernel
theorem dX3_nextBits_19 : decode cX3_nextBits 19 = .ok (.aload_n 0, 1) := by decide +kernel
theorem dX3_nextBits_20 : decode cX3_nextBits 20 = .ok (.aload_n 1, 1) := by decide +kernel
theorem dX3_nextBits_21 : decode cX3_nextBits 21 = .ok (.iconst 1, 1) := by decide +kernel
theorem dX3_nextBits_22 : decode cX3_nextBits 22 = .ok (.invokevirtual 61, 3) := by decide +kernel
theorem dX3_nextBits_25 : decode cX3_nextBits 25 = .ok (.l2i, 1) := by decide +kernel
theorem dX3_nextBits_26 : decode cX3_nextBits 26 = .ok (.putfield 167, 3) := by decide +kernel
theorem dX3_nextBits_29 : decode cX3_nextBits 29 = .ok (.aload_n 0, 1) := by decide +kernel
theorem dX3_nextBits_30 : decode cX3_nextBits 30 = .ok (.getfield 32, 3) := by decide +kernel
theorem dX3_nextBits_33 : decode cX3_nextBits 33 = .ok (.ifCond .eq 5, 3) := by decide +kernel
theorem dX3_nextBits_36 : decode cX3_nextBits 36 = .ok (.iconst (-1), 1) := by decide +kernel
theorem dX3_nextBits_37 : decode cX3_nextBits 37 = .ok (.ireturn, 1) := by decide +kernel
theorem dX3_nextBits_38 : decode cX3_nextBits 38 = .ok (.aload_n 0, 1) := by decide +kernel
theorem dX3_nextBits_39 : decode cX3_nextBits 39 = .ok (.bipush 8, 2) := by decide +kernel
theorem dX3_nextBits_41 : decode cX3_nextBits 41 = .ok (.putfield 38, 3) := by decide +kernel
theorem dX3_nextBits_44 : decode cX3_nextBits 44 = .ok (.aload_n 0, 1) := by decide +kernel
theorem dX3_nextBits_45 : decode cX3_nextBits 45 = .ok (.dup, 1) := by decide +kernel
theorem dX3_nextBits_46 : decode cX3_nextBits 46 = .ok (.getfield 38, 3) := by decide +kernel
theorem dX3_nextBits_49 : decode cX3_nextBits 49 = .ok (.iconst 1, 1) := by decide +kernel
theorem dX3_nextBits_50 : decode cX3_nextBits 50 = .ok (.isub, 1) := by decide +kernel
theorem dX3_nextBits_51 : decode cX3_nextBits 51 = .ok (.putfield 38, 3) := by decide +kernel
theorem dX3_nextBits_54 : decode cX3_nextBits 54 = .ok (.iconst 2, 1) := by decide +kernel
theorem dX3_nextBits_55 : decode cX3_nextBits 55 = .ok (.iload_n 3, 1) := by decide +kernel
theorem dX3_nextBits_56 : decode cX3_nextBits 56 = .ok (.imul, 1) := by decide +kernel
theorem dX3_nextBits_57 : decode cX3_nextBits 57 = .ok (.aload_n 0, 1) := by decide +kernel
theorem dX3_nextBits_58 : decode cX3_nextBits 58 = .ok (.getfield 167, 3) := by decide +kernel
theorem dX3_nextBits_61 : decode cX3_nextBits 61 = .ok (.aload_n 0, 1) := by decide +kernel
theorem dX3_nextBits_62 : decode cX3_nextBits 62 = .ok (.getfield 38, 3) := by decide +kernel
theorem dX3_nextBits_65 : decode cX3_nextBits 65 = .ok (.ishr, 1) := by decide +kernel
theorem dX3_nextBits_66 : decode cX3_nextBits 66 = .ok (.iconst 1, 1) := by decide +kernel
theorem dX3_nextBits_67 : decode cX3_nextBits 67 = .ok (.iand, 1) := by decide +kernel
theorem dX3_nextBits_68 : decode cX3_nextBits 68 = .ok (.iadd, 1) := by decide +kernel
theorem dX3_nextBits_69 : decode cX3_nextBits 69 = .ok (.istore_n 3, 1) := by decide +kernel
theorem dX3_nextBits_70 : decode cX3_nextBits 70 = .ok (.iinc 4 1, 3) := by decide +kernel
theorem dX3_nextBits_73 : decode cX3_nextBits 73 = .ok (.goto (-68), 3) := by decide +kernel
theorem dX3_nextBits_76 : decode cX3_nextBits 76 = .ok (.iload_n 3, 1) := by decide +kernel
theorem dX3_nextBits_77 : decode cX3_nextBits 77 = .ok (.ireturn, 1) := by decide +kernel
theorem dX6_isSign_0 : decode cX6_isSign 0 = .ok (.iload_n 0, 1) := by decide +kernel
theorem dX6_isSign_1 : decode cX6_isSign 1 = .ok (.ifCond .lt 13, 3) := by decide +kernel
theorem dX6_isSign_4 : decode cX6_isSign 4 = .ok (.iload_n 0, 1) := by decide +kernel
theorem dX6_isSign_5 : decode cX6_isSign 5 = .ok (.bipush 32, 2) := by decide +kernel
theorem dX6_isSign_7 : decode cX6_isSign 7 = .ok (.if_icmp .ge 7, 3) := by decide +kernel
theorem dX6_isSign_10 : decode cX6_isSign 10 = .ok (.iconst 1, 1) := by decide +kernel
theorem dX6_isSign_11 : decode cX6_isSign 11 = .ok (.goto 4, 3) := by decide +kernel
theorem dX6_isSign_14 : decode cX6_isSign 14 = .ok (.iconst 0, 1) := by decide +kernel
theorem dX6_isSign_15 : decode cX6_isSign 15 = .ok (.ireturn, 1) := by decide +kernel
theorem dX4_give_0 : decode cX4_give 0 = .ok (.iload_n 1, 1) := by decide +kernel
theorem dX4_give_1 : decode cX4_give 1 = .ok (.invokestatic 57, 3) := by decide +kernel
theorem dX4_give_4 : decode cX4_give 4 = .ok (.ifCond .eq 10, 3) := by decide +kernel
theorem dX4_give_7 : decode cX4_give 7 = .ok (.aload_n 0, 1) := by decide +kernel
theorem dX4_give_8 : decode cX4_give 8 = .ok (.getfield 9, 3) := by decide +kernel
theorem dX4_give_11 : decode cX4_give 11 = .ok (.iload_n 1, 1) := by decide +kernel
theorem dX4_give_12 : decode cX4_give 12 = .ok (.iload_n 2, 1) := by decide +kernel
theorem dX4_give_13 : decode cX4_give 13 = .ok (.iastore, 1) := by decide +kernel
theorem dX4_give_14 : decode cX4_give 14 = .ok (.return_, 1) := by decide +kernel
theorem dX3_restIsSet_0 : decode cX3_restIsSet 0 = .ok (.aload_n 0, 1) := by decide +kernel
theorem dX3_restIsSet_1 : decode cX3_restIsSet 1 = .ok (.getfield 167, 3) := by decide +kernel
theorem dX3_restIsSet_4 : decode cX3_restIsSet 4 = .ok (.iconst 1, 1) := by decide +kernel
theorem dX3_restIsSet_5 : decode cX3_restIsSet 5 = .ok (.aload_n 0, 1) := by decide +kernel
theorem dX3_restIsSet_6 : decode cX3_restIsSet 6 = .ok (.getfield 38, 3) := by decide +kernel
theorem dX3_restIsSet_9 : decode cX3_restIsSet 9 = .ok (.ishl, 1) := by decide +kernel
theorem dX3_restIsSet_10 : decode cX3_restIsSet 10 = .ok (.iconst 1, 1) := by decide +kernel
theorem dX3_restIsSet_11 : decode cX3_restIsSet 11 = .ok (.isub, 1) := by decide +kernel
theorem dX3_restIsSet_12 : decode cX3_restIsSet 12 = .ok (.iand, 1) := by decide +kernel
theorem dX3_restIsSet_13 : decode cX3_restIsSet 13 = .ok (.ifCond .eq 7, 3) := by decide +kernel
theorem dX3_restIsSet_16 : decode cX3_restIsSet 16 = .ok (.iconst 1, 1) := by decide +kernel
theorem dX3_restIsSet_17 : decode cX3_restIsSet 17 = .ok (.goto 4, 3) := by decide +kernel
theorem dX3_restIsSet_20 : decode cX3_restIsSet 20 = .ok (.iconst 0, 1) := by decide +kernel
theorem dX3_restIsSet_21 : decode cX3_restIsSet 21 = .ok (.ireturn, 1) := by decide +kernel
theorem dX4_finish_0 : decode cX4_finish 0 = .ok (.iconst 0, 1) := by decide +kernel
theorem dX4_finish_1 : decode cX4_finish 1 = .ok (.istore_n 1, 1) := by decide +kernel
theorem dX4_finish_2 : decode cX4_finish 2 = .ok (.iconst 0, 1) := by decide +kernel
theorem dX4_finish_3 : decode cX4_finish 3 = .ok (.istore_n 2, 1) := by decide +kernel
theorem dX4_finish_4 : decode cX4_finish 4 = .ok (.iload_n 2, 1) := by decide +kernel
theorem dX4_finish_5 : decode cX4_finish 5 = .ok (.bipush 32, 2) := by decide +kernel
theorem dX4_finish_7 : decode cX4_finish 7 = .ok (.if_icmp .ge 25, 3) := by decide +kernel
theorem dX4_finish_10 : decode cX4_finish 10 = .ok (.aload_n 0, 1) := by decide +kernel
theorem dX4_finish_11 : decode cX4_finish 11 = .ok (.getfield 15, 3) := by decide +kernel
theorem dX4_finish_14 : decode cX4_finish 14 = .ok (.iload_n 2, 1) := by decide +kernel
theorem dX4_finish_15 : decode cX4_finish 15 = .ok (.iload_n 1, 1) := by decide +kernel
theorem dX4_finish_16 : decode cX4_finish 16 = .ok (.iastore, 1) := by decide +kernel
theorem dX4_finish_17 : decode cX4_finish 17 = .ok (.iload_n 1, 1) := by decide +kernel
theorem dX4_finish_18 : decode cX4_finish 18 = .ok (.aload_n 0, 1) := by decide +kernel
theorem dX4_finish_19 : decode cX4_finish 19 = .ok (.getfield 9, 3) := by decide +kernel
theorem dX4_finish_22 : decode cX4_finish 22 = .ok (.iload_n 2, 1) := by decide +kernel
theorem dX4_finish_23 : decode cX4_finish 23 = .ok (.iaload, 1) := by decide +kernel
theorem dX4_finish_24 : decode cX4_finish 24 = .ok (.iadd, 1) := by decide +kernel
theorem dX4_finish_25 : decode cX4_finish 25 = .ok (.istore_n 1, 1) := by decide +kernel
theorem dX4_finish_26 : decode cX4_finish 26 = .ok (.iinc 2 1, 3) := by decide +kernel
theorem dX4_finish_29 : decode cX4_finish 29 = .ok (.goto (-25), 3) := by decide +kernel
theorem dX4_finish_32 : decode cX4_finish 32 = .ok (.aload_n 0, 1) := by decide +kernel
theorem dX4_finish_33 : decode cX4_finish 33 = .ok (.getfield 15, 3) := by decide +kernel
theorem dX4_finish_36 : decode cX4_finish 36 = .ok (.bipush 32, 2) := by decide +kernel
theorem dX4_finish_38 : decode cX4_finish 38 = .ok (.iload_n 1, 1) := by decide +kernel
theorem dX4_finish_39 : decode cX4_finish 39 = .ok (.iastore, 1) := by decide +kernel
theorem dX4_finish_40 : decode cX4_finish 40 = .ok (.aload_n 0, 1) := by decide +kernel
theorem dX4_finish_41 : decode cX4_finish 41 = .ok (.iload_n 1, 1) := by decide +kernel
theorem dX4_finish_42 : decode cX4_finish 42 = .ok (.aload_n 0, 1) := by decide +kernel
theorem dX4_finish_43 : decode cX4_finish 43 = .ok (.getfield 38, 3) := by decide +kernel
theorem dX4_finish_46 : decode cX4_finish 46 = .ok (.if_icmp .ne 7, 3) := by decide +kernel
theorem dX4_finish_49 : decode cX4_finish 49 = .ok (.iconst 1, 1) := by decide +kernel
theorem dX4_finish_50 : decode cX4_finish 50 = .ok (.goto 4, 3) := by decide +kernel
theorem dX4_finish_53 : decode cX4_finish 53 = .ok (.iconst 0, 1) := by decide +kernel
theorem dX4_finish_54 : decode cX4_finish 54 = .ok (.putfield 47, 3) := by decide +kernel
theorem dX4_finish_57 : decode cX4_finish 57 = .ok (.return_, 1) := by decide +kernel
theorem dX3_takeTable_0 : decode cX3_takeTable 0 = .ok (.aload_n 0, 1) := by decide +kernel
theorem dX3_takeTable_1 : decode cX3_takeTable 1 = .ok (.getfield 14, 3) := by decide +kernel
theorem dX3_takeTable_4 : decode cX3_takeTable 4 = .ok (.getfield 77, 3) := by decide +kernel
theorem dX3_takeTable_7 : decode cX3_takeTable 7 = .ok (.istore_n 2, 1) := by decide +kernel
theorem dX3_takeTable_8 : decode cX3_takeTable 8 = .ok (.iconst 0, 1) := by decide +kernel
theorem dX3_takeTable_9 : decode cX3_takeTable 9 = .ok (.istore_n 3, 1) := by decide +kernel
theorem dX3_takeTable_10 : decode cX3_takeTable 10 = .ok (.iload_n 3, 1) := by decide +kernel
theorem dX3_takeTable_11 : decode cX3_takeTable 11 = .ok (.bipush 32, 2) := by decide +kernel
theorem dX3_takeTable_13 : decode cX3_takeTable 13 = .ok (.if_icmp .ge 47, 3) := by decide +kernel
theorem dX3_takeTable_16 : decode cX3_takeTable 16 = .ok (.iload_n 2, 1) := by decide +kernel
theorem dX3_takeTable_17 : decode cX3_takeTable 17 = .ok (.ifCond .le 43, 3) := by decide +kernel
theorem dX3_takeTable_20 : decode cX3_takeTable 20 = .ok (.aload_n 0, 1) := by decide +kernel
theorem dX3_takeTable_21 : decode cX3_takeTable 21 = .ok (.aload_n 1, 1) := by decide +kernel
theorem dX3_takeTable_22 : decode cX3_takeTable 22 = .ok (.iload_n 2, 1) := by decide +kernel
theorem dX3_takeTable_23 : decode cX3_takeTable 23 = .ok (.invokestatic 80, 3) := by decide +kernel
theorem dX3_takeTable_26 : decode cX3_takeTable 26 = .ok (.invokevirtual 84, 3) := by decide +kernel
theorem dX3_takeTable_29 : decode cX3_takeTable 29 = .ok (.istore 4, 2) := by decide +kernel
theorem dX3_takeTable_31 : decode cX3_takeTable 31 = .ok (.aload_n 0, 1) := by decide +kernel
theorem dX3_takeTable_32 : decode cX3_takeTable 32 = .ok (.getfield 32, 3) := by decide +kernel
theorem dX3_takeTable_35 : decode cX3_takeTable 35 = .ok (.ifCond .eq 4, 3) := by decide +kernel
theorem dX3_takeTable_38 : decode cX3_takeTable 38 = .ok (.return_, 1) := by decide +kernel
theorem dX3_takeTable_39 : decode cX3_takeTable 39 = .ok (.aload_n 0, 1) := by decide +kernel
theorem dX3_takeTable_40 : decode cX3_takeTable 40 = .ok (.getfield 14, 3) := by decide +kernel
theorem dX3_takeTable_43 : decode cX3_takeTable 43 = .ok (.iload_n 3, 1) := by decide +kernel
theorem dX3_takeTable_44 : decode cX3_takeTable 44 = .ok (.iload 4, 2) := by decide +kernel
theorem dX3_takeTable_46 : decode cX3_takeTable 46 = .ok (.invokevirtual 88, 3) := by decide +kernel
theorem dX3_takeTable_49 : decode cX3_takeTable 49 = .ok (.iload_n 2, 1) := by decide +kernel
theorem dX3_takeTable_50 : decode cX3_takeTable 50 = .ok (.iload 4, 2) := by decide +kernel
theorem dX3_takeTable_52 : decode cX3_takeTable 52 = .ok (.isub, 1) := by decide +kernel
theorem dX3_takeTable_53 : decode cX3_takeTable 53 = .ok (.istore_n 2, 1) := by decide +kernel
theorem dX3_takeTable_54 : decode cX3_takeTable 54 = .ok (.iinc 3 1, 3) := by decide +kernel
theorem dX3_takeTable_57 : decode cX3_takeTable 57 = .ok (.goto (-47), 3) := by decide +kernel
theorem dX3_takeTable_60 : decode cX3_takeTable 60 = .ok (.iload_n 2, 1) := by decide +kernel
theorem dX3_takeTable_61 : decode cX3_takeTable 61 = .ok (.ifCond .ne 10, 3) := by decide +kernel
theorem dX3_takeTable_64 : decode cX3_takeTable 64 = .ok (.aload_n 0, 1) := by decide +kernel
theorem dX3_takeTable_65 : decode cX3_takeTable 65 = .ok (.invokevirtual 92, 3) := by decide +kernel
theorem dX3_takeTable_68 : decode cX3_takeTable 68 = .ok (.ifCond .eq 9, 3) := by decide +kernel
theorem dX3_takeTable_71 : decode cX3_takeTable 71 = .ok (.aload_n 0, 1) := by decide +kernel
theorem dX3_takeTable_72 : decode cX3_takeTable 72 = .ok (.iconst 3, 1) := by decide +kernel
theorem dX3_takeTable_73 : decode cX3_takeTable 73 = .ok (.putfield 32, 3) := by decide +kernel
theorem dX3_takeTable_76 : decode cX3_takeTable 76 = .ok (.return_, 1) := by decide +kernel
theorem dX3_takeTable_77 : decode cX3_takeTable 77 = .ok (.aload_n 0, 1) := by decide +kernel
theorem dX3_takeTable_78 : decode cX3_takeTable 78 = .ok (.iconst 0, 1) := by decide +kernel
theorem dX3_takeTable_79 : decode cX3_takeTable 79 = .ok (.putfield 38, 3) := by decide +kernel
theorem dX3_takeTable_82 : decode cX3_takeTable 82 = .ok (.aload_n 0, 1) := by decide +kernel
theorem dX3_takeTable_83 : decode cX3_takeTable 83 = .ok (.getfield 14, 3) := by decide +kernel
theorem dX3_takeTable_86 : decode cX3_takeTable 86 = .ok (.invokevirtual 96, 3) := by decide +kernel
theorem dX3_takeTable_89 : decode cX3_takeTable 89 = .ok (.return_, 1) := by decide +kernel
theorem dX6_firstState_0 : decode cX6_firstState 0 = .ok (.iload_n 0, 1) := by decide +kernel
theorem dX6_firstState_1 : decode cX6_firstState 1 = .ok (.iconst 2, 1) := by decide +kernel
theorem dX6_firstState_2 : decode cX6_firstState 2 = .ok (.if_icmp .ne 6, 3) := by decide +kernel
theorem dX6_firstState_5 : decode cX6_firstState 5 = .ok (.iload_n 1, 1) := by decide +kernel
theorem dX6_firstState_6 : decode cX6_firstState 6 = .ok (.i2l, 1) := by decide +kernel
theorem dX6_firstState_7 : decode cX6_firstState 7 = .ok (.lreturn, 1) := by decide +kernel
theorem dX6_firstState_8 : decode cX6_firstState 8 = .ok (.iload_n 0, 1) := by decide +kernel
theorem dX6_firstState_9 : decode cX6_firstState 9 = .ok (.iconst 1, 1) := by decide +kernel
theorem dX6_firstState_10 : decode cX6_firstState 10 = .ok (.if_icmp .ne 9, 3) := by decide +kernel
theorem dX6_firstState_13 : decode cX6_firstState 13 = .ok (.ldc2_w 180, 3) := by decide +kernel
theorem dX6_firstState_16 : decode cX6_firstState 16 = .ok (.goto 6, 3) := by decide +kernel
theorem dX6_firstState_19 : decode cX6_firstState 19 = .ok (.ldc2_w 182, 3) := by decide +kernel
theorem dX6_firstState_22 : decode cX6_firstState 22 = .ok (.lreturn, 1) := by decide +kernel
theorem dX6_lastState_0 : decode cX6_lastState 0 = .ok (.iload_n 0, 1) := by decide +kernel
theorem dX6_lastState_1 : decode cX6_lastState 1 = .ok (.iconst 2, 1) := by decide +kernel
theorem dX6_lastState_2 : decode cX6_lastState 2 = .ok (.if_icmp .ne 12, 3) := by decide +kernel
theorem dX6_lastState_5 : decode cX6_lastState 5 = .ok (.ldc2_w 184, 3) := by decide +kernel
theorem dX6_lastState_8 : decode cX6_lastState 8 = .ok (.iload_n 1, 1) := by decide +kernel
theorem dX6_lastState_9 : decode cX6_lastState 9 = .ok (.i2l, 1) := by decide +kernel
theorem dX6_lastState_10 : decode cX6_lastState 10 = .ok (.lmul, 1) := by decide +kernel
theorem dX6_lastState_11 : decode cX6_lastState 11 = .ok (.lconst 1, 1) := by decide +kernel
theorem dX6_lastState_12 : decode cX6_lastState 12 = .ok (.lsub, 1) := by decide +kernel
theorem dX6_lastState_13 : decode cX6_lastState 13 = .ok (.lreturn, 1) := by decide +kernel
theorem dX6_lastState_14 : decode cX6_lastState 14 = .ok (.iload_n 0, 1) := by decide +kernel
theorem dX6_lastState_15 : decode cX6_lastState 15 = .ok (.iconst 1, 1) := by decide +kernel
theorem dX6_lastState_16 : decode cX6_lastState 16 = .ok (.if_icmp .ne 9, 3) := by decide +kernel
theorem dX6_lastState_19 : decode cX6_lastState 19 = .ok (.ldc2_w 186, 3) := by decide +kernel
theorem dX6_lastState_22 : decode cX6_lastState 22 = .ok (.goto 6, 3) := by decide +kernel
theorem dX6_lastState_25 : decode cX6_lastState 25 = .ok (.ldc2_w 188, 3) := by decide +kernel
theorem dX6_lastState_28 : decode cX6_lastState 28 = .ok (.lreturn, 1) := by decide +kernel
theorem dX6_stateWidth_0 : decode cX6_stateWidth 0 = .ok (.iload_n 0, 1) := by decide +kernel
theorem dX6_stateWidth_1 : decode cX6_stateWidth 1 = .ok (.iconst 2, 1) := by decide +kernel
theorem dX6_stateWidth_2 : decode cX6_stateWidth 2 = .ok (.if_icmp .ne 5, 3) := by decide +kernel
theorem dX6_stateWidth_5 : decode cX6_stateWidth 5 = .ok (.iconst 2, 1) := by decide +kernel
theorem dX6_stateWidth_6 : decode cX6_stateWidth 6 = .ok (.ireturn, 1) := by decide +kernel
theorem dX6_stateWidth_7 : decode cX6_stateWidth 7 = .ok (.iload_n 0, 1) := by decide +kernel
theorem dX6_stateWidth_8 : decode cX6_stateWidth 8 = .ok (.iconst 1, 1) := by decide +kernel
theorem dX6_stateWidth_9 : decode cX6_stateWidth 9 = .ok (.if_icmp .ne 8, 3) := by decide +kernel
theorem dX6_stateWidth_12 : decode cX6_stateWidth 12 = .ok (.bipush 8, 2) := by decide +kernel
theorem dX6_stateWidth_14 : decode cX6_stateWidth 14 = .ok (.goto 4, 3) := by decide +kernel
theorem dX6_stateWidth_17 : decode cX6_stateWidth 17 = .ok (.iconst 4, 1) := by decide +kernel
theorem dX6_stateWidth_18 : decode cX6_stateWidth 18 = .ok (.ireturn, 1) := by decide +kernel
theorem dX3_takeStates_0 : decode cX3_takeStates 0 = .ok (.aload_n 0, 1) := by decide +kernel
theorem dX3_takeStates_1 : decode cX3_takeStates 1 = .ok (.getfield 65, 3) := by decide +kernel
theorem dX3_takeStates_4 : decode cX3_takeStates 4 = .ok (.aload_n 0, 1) := by decide +kernel
theorem dX3_takeStates_5 : decode cX3_takeStates 5 = .ok (.getfield 14, 3) := by decide +kernel
theorem dX3_takeStates_8 : decode cX3_takeStates 8 = .ok (.getfield 77, 3) := by decide +kernel
theorem dX3_takeStates_11 : decode cX3_takeStates 11 = .ok (.invokestatic 99, 3) := by decide +kernel
theorem dX3_takeStates_14 : decode cX3_takeStates 14 = .ok (.lstore_n 2, 1) := by decide +kernel
theorem dX3_takeStates_15 : decode cX3_takeStates 15 = .ok (.aload_n 0, 1) := by decide +kernel
theorem dX3_takeStates_16 : decode cX3_takeStates 16 = .ok (.getfield 65, 3) := by decide +kernel
theorem dX3_takeStates_19 : decode cX3_takeStates 19 = .ok (.aload_n 0, 1) := by decide +kernel
theorem dX3_takeStates_20 : decode cX3_takeStates 20 = .ok (.getfield 14, 3) := by decide +kernel
theorem dX3_takeStates_23 : decode cX3_takeStates 23 = .ok (.getfield 77, 3) := by decide +kernel
theorem dX3_takeStates_26 : decode cX3_takeStates 26 = .ok (.invokestatic 103, 3) := by decide +kernel
theorem dX3_takeStates_29 : decode cX3_takeStates 29 = .ok (.lstore 4, 2) := by decide +kernel
theorem dX3_takeStates_31 : decode cX3_takeStates 31 = .ok (.iconst 0, 1) := by decide +kernel
theorem dX3_takeStates_32 : decode cX3_takeStates 32 = .ok (.istore 6, 2) := by decide +kernel
theorem dX3_takeStates_34 : decode cX3_takeStates 34 = .ok (.iload 6, 2) := by decide +kernel
theorem dX3_takeStates_36 : decode cX3_takeStates 36 = .ok (.aload_n 0, 1) := by decide +kernel
theorem dX3_takeStates_37 : decode cX3_takeStates 37 = .ok (.getfield 68, 3) := by decide +kernel
theorem dX3_takeStates_40 : decode cX3_takeStates 40 = .ok (.if_icmp .ge 79, 3) := by decide +kernel
theorem dX3_takeStates_43 : decode cX3_takeStates 43 = .ok (.iload 6, 2) := by decide +kernel
theorem dX3_takeStates_45 : decode cX3_takeStates 45 = .ok (.iconst 4, 1) := by decide +kernel
theorem dX3_takeStates_46 : decode cX3_takeStates 46 = .ok (.if_icmp .ge 73, 3) := by decide +kernel
theorem dX3_takeStates_49 : decode cX3_takeStates 49 = .ok (.aload_n 0, 1) := by decide +kernel
theorem dX3_takeStates_50 : decode cX3_takeStates 50 = .ok (.getfield 20, 3) := by decide +kernel
theorem dX3_takeStates_53 : decode cX3_takeStates 53 = .ok (.iload 6, 2) := by decide +kernel
theorem dX3_takeStates_55 : decode cX3_takeStates 55 = .ok (.aload_n 0, 1) := by decide +kernel
theorem dX3_takeStates_56 : decode cX3_takeStates 56 = .ok (.aload_n 1, 1) := by decide +kernel
theorem dX3_takeStates_57 : decode cX3_takeStates 57 = .ok (.aload_n 0, 1) := by decide +kernel
theorem dX3_takeStates_58 : decode cX3_takeStates 58 = .ok (.getfield 65, 3) := by decide +kernel
theorem dX3_takeStates_61 : decode cX3_takeStates 61 = .ok (.invokestatic 106, 3) := by decide +kernel
theorem dX3_takeStates_64 : decode cX3_takeStates 64 = .ok (.invokevirtual 61, 3) := by decide +kernel
theorem dX3_takeStates_67 : decode cX3_takeStates 67 = .ok (.lastore, 1) := by decide +kernel
theorem dX3_takeStates_68 : decode cX3_takeStates 68 = .ok (.aload_n 0, 1) := by decide +kernel
theorem dX3_takeStates_69 : decode cX3_takeStates 69 = .ok (.getfield 32, 3) := by decide +kernel
theorem dX3_takeStates_72 : decode cX3_takeStates 72 = .ok (.ifCond .ne 33, 3) := by decide +kernel
theorem dX3_takeStates_75 : decode cX3_takeStates 75 = .ok (.aload_n 0, 1) := by decide +kernel
theorem dX3_takeStates_76 : decode cX3_takeStates 76 = .ok (.getfield 20, 3) := by decide +kernel
theorem dX3_takeStates_79 : decode cX3_takeStates 79 = .ok (.iload 6, 2) := by decide +kernel
theorem dX3_takeStates_81 : decode cX3_takeStates 81 = .ok (.laload, 1) := by decide +kernel
theorem dX3_takeStates_82 : decode cX3_takeStates 82 = .ok (.lload_n 2, 1) := by decide +kernel
theorem dX3_takeStates_83 : decode cX3_takeStates 83 = .ok (.lcmp, 1) := by decide +kernel
theorem dX3_takeStates_84 : decode cX3_takeStates 84 = .ok (.ifCond .lt 16, 3) := by decide +kernel
theorem dX3_takeStates_87 : decode cX3_takeStates 87 = .ok (.aload_n 0, 1) := by decide +kernel
theorem dX3_takeStates_88 : decode cX3_takeStates 88 = .ok (.getfield 20, 3) := by decide +kernel
theorem dX3_takeStates_91 : decode cX3_takeStates 91 = .ok (.iload 6, 2) := by decide +kernel
theorem dX3_takeStates_93 : decode cX3_takeStates 93 = .ok (.laload, 1) := by decide +kernel
theorem dX3_takeStates_94 : decode cX3_takeStates 94 = .ok (.lload 4, 2) := by decide +kernel
theorem dX3_takeStates_96 : decode cX3_takeStates 96 = .ok (.lcmp, 1) := by decide +kernel
theorem dX3_takeStates_97 : decode cX3_takeStates 97 = .ok (.ifCond .le 8, 3) := by decide +kernel
theorem dX3_takeStates_100 : decode cX3_takeStates 100 = .ok (.aload_n 0, 1) := by decide +kernel
theorem dX3_takeStates_101 : decode cX3_takeStates 101 = .ok (.iconst 4, 1) := by decide +kernel
theorem dX3_takeStates_102 : decode cX3_takeStates 102 = .ok (.putfield 32, 3) := by decide +kernel
theorem dX3_takeStates_105 : decode cX3_takeStates 105 = .ok (.aload_n 0, 1) := by decide +kernel
theorem dX3_takeStates_106 : decode cX3_takeStates 106 = .ok (.getfield 32, 3) := by decide +kernel
theorem dX3_takeStates_109 : decode cX3_takeStates 109 = .ok (.ifCond .eq 4, 3) := by decide +kernel
theorem dX3_takeStates_112 : decode cX3_takeStates 112 = .ok (.return_, 1) := by decide +kernel
theorem dX3_takeStates_113 : decode cX3_takeStates 113 = .ok (.iinc 6 1, 3) := by decide +kernel
theorem dX3_takeStates_116 : decode cX3_takeStates 116 = .ok (.goto (-82), 3) := by decide +kernel
theorem dX3_takeStates_119 : decode cX3_takeStates 119 = .ok (.aload_n 0, 1) := by decide +kernel
theorem dX3_takeStates_120 : decode cX3_takeStates 120 = .ok (.iconst 1, 1) := by decide +kernel
theorem dX3_takeStates_121 : decode cX3_takeStates 121 = .ok (.putfield 41, 3) := by decide +kernel
theorem dX3_takeStates_124 : decode cX3_takeStates 124 = .ok (.return_, 1) := by decide +kernel
theorem dX4_numberPlaces_0 : decode cX4_numberPlaces 0 = .ok (.aload_n 0, 1) := by decide +kernel
theorem dX4_numberPlaces_1 : decode cX4_numberPlaces 1 = .ok (.getfield 22, 3) := by decide +kernel
theorem dX4_numberPlaces_4 : decode cX4_numberPlaces 4 = .ok (.iconst 0, 1) := by decide +kernel
theorem dX4_numberPlaces_5 : decode cX4_numberPlaces 5 = .ok (.invokestatic 41, 3) := by decide +kernel
theorem dX4_numberPlaces_8 : decode cX4_numberPlaces 8 = .ok (.iconst 0, 1) := by decide +kernel
theorem dX4_numberPlaces_9 : decode cX4_numberPlaces 9 = .ok (.istore_n 1, 1) := by decide +kernel
theorem dX4_numberPlaces_10 : decode cX4_numberPlaces 10 = .ok (.iload_n 1, 1) := by decide +kernel
theorem dX4_numberPlaces_11 : decode cX4_numberPlaces 11 = .ok (.aload_n 0, 1) := by decide +kernel
theorem dX4_numberPlaces_12 : decode cX4_numberPlaces 12 = .ok (.getfield 38, 3) := by decide +kernel
theorem dX4_numberPlaces_15 : decode cX4_numberPlaces 15 = .ok (.if_icmp .ge 84, 3) := by decide +kernel
theorem dX4_numberPlaces_18 : decode cX4_numberPlaces 18 = .ok (.iload_n 1, 1) := by decide +kernel
theorem dX4_numberPlaces_19 : decode cX4_numberPlaces 19 = .ok (.aload_n 0, 1) := by decide +kernel
theorem dX4_numberPlaces_20 : decode cX4_numberPlaces 20 = .ok (.getfield 25, 3) := by decide +kernel
theorem dX4_numberPlaces_23 : decode cX4_numberPlaces 23 = .ok (.arraylength, 1) := by decide +kernel
theorem dX4_numberPlaces_24 : decode cX4_numberPlaces 24 = .ok (.if_icmp .ge 75, 3) := by decide +kernel
theorem dX4_numberPlaces_27 : decode cX4_numberPlaces 27 = .ok (.aload_n 0, 1) := by decide +kernel
theorem dX4_numberPlaces_28 : decode cX4_numberPlaces 28 = .ok (.getfield 25, 3) := by decide +kernel
theorem dX4_numberPlaces_31 : decode cX4_numberPlaces 31 = .ok (.iload_n 1, 1) := by decide +kernel
theorem dX4_numberPlaces_32 : decode cX4_numberPlaces 32 = .ok (.iaload, 1) := by decide +kernel
theorem dX4_numberPlaces_33 : decode cX4_numberPlaces 33 = .ok (.istore_n 2, 1) := by decide +kernel
theorem dX4_numberPlaces_34 : decode cX4_numberPlaces 34 = .ok (.aload_n 0, 1) := by decide +kernel
theorem dX4_numberPlaces_35 : decode cX4_numberPlaces 35 = .ok (.getfield 15, 3) := by decide +kernel
theorem dX4_numberPlaces_38 : decode cX4_numberPlaces 38 = .ok (.iload_n 2, 1) := by decide +kernel
theorem dX4_numberPlaces_39 : decode cX4_numberPlaces 39 = .ok (.iaload, 1) := by decide +kernel
theorem dX4_numberPlaces_40 : decode cX4_numberPlaces 40 = .ok (.aload_n 0, 1) := by decide +kernel
theorem dX4_numberPlaces_41 : decode cX4_numberPlaces 41 = .ok (.getfield 22, 3) := by decide +kernel
theorem dX4_numberPlaces_44 : decode cX4_numberPlaces 44 = .ok (.iload_n 2, 1) := by decide +kernel
theorem dX4_numberPlaces_45 : decode cX4_numberPlaces 45 = .ok (.iaload, 1) := by decide +kernel
theorem dX4_numberPlaces_46 : decode cX4_numberPlaces 46 = .ok (.iadd, 1) := by decide +kernel
theorem dX4_numberPlaces_47 : decode cX4_numberPlaces 47 = .ok (.istore_n 3, 1) := by decide +kernel
theorem dX4_numberPlaces_48 : decode cX4_numberPlaces 48 = .ok (.aload_n 0, 1) := by decide +kernel
theorem dX4_numberPlaces_49 : decode cX4_numberPlaces 49 = .ok (.getfield 28, 3) := by decide +kernel
theorem dX4_numberPlaces_52 : decode cX4_numberPlaces 52 = .ok (.iload_n 1, 1) := by decide +kernel
theorem dX4_numberPlaces_53 : decode cX4_numberPlaces 53 = .ok (.aload_n 0, 1) := by decide +kernel
theorem dX4_numberPlaces_54 : decode cX4_numberPlaces 54 = .ok (.getfield 9, 3) := by decide +kernel
theorem dX4_numberPlaces_57 : decode cX4_numberPlaces 57 = .ok (.iload_n 2, 1) := by decide +kernel
theorem dX4_numberPlaces_58 : decode cX4_numberPlaces 58 = .ok (.iaload, 1) := by decide +kernel
theorem dX4_numberPlaces_59 : decode cX4_numberPlaces 59 = .ok (.aload_n 0, 1) := by decide +kernel
theorem dX4_numberPlaces_60 : decode cX4_numberPlaces 60 = .ok (.getfield 22, 3) := by decide +kernel
theorem dX4_numberPlaces_63 : decode cX4_numberPlaces 63 = .ok (.iload_n 2, 1) := by decide +kernel
theorem dX4_numberPlaces_64 : decode cX4_numberPlaces 64 = .ok (.iaload, 1) := by decide +kernel
theorem dX4_numberPlaces_65 : decode cX4_numberPlaces 65 = .ok (.iadd, 1) := by decide +kernel
theorem dX4_numberPlaces_66 : decode cX4_numberPlaces 66 = .ok (.iastore, 1) := by decide +kernel
theorem dX4_numberPlaces_67 : decode cX4_numberPlaces 67 = .ok (.iload_n 3, 1) := by decide +kernel
theorem dX4_numberPlaces_68 : decode cX4_numberPlaces 68 = .ok (.aload_n 0, 1) := by decide +kernel
theorem dX4_numberPlaces_69 : decode cX4_numberPlaces 69 = .ok (.getfield 31, 3) := by decide +kernel
theorem dX4_numberPlaces_72 : decode cX4_numberPlaces 72 = .ok (.arraylength, 1) := by decide +kernel
theorem dX4_numberPlaces_73 : decode cX4_numberPlaces 73 = .ok (.if_icmp .ge 10, 3) := by decide +kernel
theorem dX4_numberPlaces_76 : decode cX4_numberPlaces 76 = .ok (.aload_n 0, 1) := by decide +kernel
theorem dX4_numberPlaces_77 : decode cX4_numberPlaces 77 = .ok (.getfield 31, 3) := by decide +kernel
theorem dX4_numberPlaces_80 : decode cX4_numberPlaces 80 = .ok (.iload_n 3, 1) := by decide +kernel
theorem dX4_numberPlaces_81 : decode cX4_numberPlaces 81 = .ok (.iload_n 1, 1) := by decide +kernel
theorem dX4_numberPlaces_82 : decode cX4_numberPlaces 82 = .ok (.iastore, 1) := by decide +kernel
theorem dX4_numberPlaces_83 : decode cX4_numberPlaces 83 = .ok (.aload_n 0, 1) := by decide +kernel
theorem dX4_numberPlaces_84 : decode cX4_numberPlaces 84 = .ok (.getfield 22, 3) := by decide +kernel
theorem dX4_numberPlaces_87 : decode cX4_numberPlaces 87 = .ok (.iload_n 2, 1) := by decide +kernel
theorem dX4_numberPlaces_88 : decode cX4_numberPlaces 88 = .ok (.dup2, 1) := by decide +kernel
theorem dX4_numberPlaces_89 : decode cX4_numberPlaces 89 = .ok (.iaload, 1) := by decide +kernel
theorem dX4_numberPlaces_90 : decode cX4_numberPlaces 90 = .ok (.iconst 1, 1) := by decide +kernel
theorem dX4_numberPlaces_91 : decode cX4_numberPlaces 91 = .ok (.iadd, 1) := by decide +kernel
theorem dX4_numberPlaces_92 : decode cX4_numberPlaces 92 = .ok (.iastore, 1) := by decide +kernel
theorem dX4_numberPlaces_93 : decode cX4_numberPlaces 93 = .ok (.iinc 1 1, 3) := by decide +kernel
theorem dX4_numberPlaces_96 : decode cX4_numberPlaces 96 = .ok (.goto (-86), 3) := by decide +kernel
theorem dX4_numberPlaces_99 : decode cX4_numberPlaces 99 = .ok (.return_, 1) := by decide +kernel
theorem dX4_makeSpread_0 : decode cX4_makeSpread 0 = .ok (.aload_n 0, 1) := by decide +kernel
theorem dX4_makeSpread_1 : decode cX4_makeSpread 1 = .ok (.getfield 51, 3) := by decide +kernel
theorem dX4_makeSpread_4 : decode cX4_makeSpread 4 = .ok (.ifCond .eq 4, 3) := by decide +kernel
theorem dX4_makeSpread_7 : decode cX4_makeSpread 7 = .ok (.return_, 1) := by decide +kernel
theorem dX4_makeSpread_8 : decode cX4_makeSpread 8 = .ok (.aload_n 0, 1) := by decide +kernel
theorem dX4_makeSpread_9 : decode cX4_makeSpread 9 = .ok (.getfield 25, 3) := by decide +kernel
theorem dX4_makeSpread_12 : decode cX4_makeSpread 12 = .ok (.arraylength, 1) := by decide +kernel
theorem dX4_makeSpread_13 : decode cX4_makeSpread 13 = .ok (.aload_n 0, 1) := by decide +kernel
theorem dX4_makeSpread_14 : decode cX4_makeSpread 14 = .ok (.getfield 38, 3) := by decide +kernel
theorem dX4_makeSpread_17 : decode cX4_makeSpread 17 = .ok (.if_icmp .ge 33, 3) := by decide +kernel
theorem dX4_makeSpread_20 : decode cX4_makeSpread 20 = .ok (.aload_n 0, 1) := by decide +kernel
theorem dX4_makeSpread_21 : decode cX4_makeSpread 21 = .ok (.aload_n 0, 1) := by decide +kernel
theorem dX4_makeSpread_22 : decode cX4_makeSpread 22 = .ok (.getfield 38, 3) := by decide +kernel
theorem dX4_makeSpread_25 : decode cX4_makeSpread 25 = .ok (.newarray .int, 2) := by decide +kernel
theorem dX4_makeSpread_27 : decode cX4_makeSpread 27 = .ok (.putfield 25, 3) := by decide +kernel
theorem dX4_makeSpread_30 : decode cX4_makeSpread 30 = .ok (.aload_n 0, 1) := by decide +kernel
theorem dX4_makeSpread_31 : decode cX4_makeSpread 31 = .ok (.aload_n 0, 1) := by decide +kernel
theorem dX4_makeSpread_32 : decode cX4_makeSpread 32 = .ok (.getfield 38, 3) := by decide +kernel
theorem dX4_makeSpread_35 : decode cX4_makeSpread 35 = .ok (.newarray .int, 2) := by decide +kernel
theorem dX4_makeSpread_37 : decode cX4_makeSpread 37 = .ok (.putfield 28, 3) := by decide +kernel
theorem dX4_makeSpread_40 : decode cX4_makeSpread 40 = .ok (.aload_n 0, 1) := by decide +kernel
theorem dX4_makeSpread_41 : decode cX4_makeSpread 41 = .ok (.aload_n 0, 1) := by decide +kernel
theorem dX4_makeSpread_42 : decode cX4_makeSpread 42 = .ok (.getfield 38, 3) := by decide +kernel
theorem dX4_makeSpread_45 : decode cX4_makeSpread 45 = .ok (.newarray .int, 2) := by decide +kernel
theorem dX4_makeSpread_47 : decode cX4_makeSpread 47 = .ok (.putfield 31, 3) := by decide +kernel
theorem dX4_makeSpread_50 : decode cX4_makeSpread 50 = .ok (.aload_n 0, 1) := by decide +kernel
theorem dX4_makeSpread_51 : decode cX4_makeSpread 51 = .ok (.getfield 38, 3) := by decide +kernel
theorem dX4_makeSpread_54 : decode cX4_makeSpread 54 = .ok (.iconst 2, 1) := by decide +kernel
theorem dX4_makeSpread_55 : decode cX4_makeSpread 55 = .ok (.idiv, 1) := by decide +kernel
theorem dX4_makeSpread_56 : decode cX4_makeSpread 56 = .ok (.aload_n 0, 1) := by decide +kernel
theorem dX4_makeSpread_57 : decode cX4_makeSpread 57 = .ok (.getfield 38, 3) := by decide +kernel
theorem dX4_makeSpread_60 : decode cX4_makeSpread 60 = .ok (.bipush 8, 2) := by decide +kernel
theorem dX4_makeSpread_62 : decode cX4_makeSpread 62 = .ok (.idiv, 1) := by decide +kernel
theorem dX4_makeSpread_63 : decode cX4_makeSpread 63 = .ok (.iadd, 1) := by decide +kernel
theorem dX4_makeSpread_64 : decode cX4_makeSpread 64 = .ok (.iconst 3, 1) := by decide +kernel
theorem dX4_makeSpread_65 : decode cX4_makeSpread 65 = .ok (.iadd, 1) := by decide +kernel
theorem dX4_makeSpread_66 : decode cX4_makeSpread 66 = .ok (.istore_n 1, 1) := by decide +kernel
theorem dX4_makeSpread_67 : decode cX4_makeSpread 67 = .ok (.iconst 0, 1) := by decide +kernel
theorem dX4_makeSpread_68 : decode cX4_makeSpread 68 = .ok (.istore_n 2, 1) := by decide +kernel
theorem dX4_makeSpread_69 : decode cX4_makeSpread 69 = .ok (.iconst 0, 1) := by decide +kernel
theorem dX4_makeSpread_70 : decode cX4_makeSpread 70 = .ok (.istore_n 3, 1) := by decide +kernel
theorem dX4_makeSpread_71 : decode cX4_makeSpread 71 = .ok (.iload_n 3, 1) := by decide +kernel
theorem dX4_makeSpread_72 : decode cX4_makeSpread 72 = .ok (.bipush 32, 2) := by decide +kernel
theorem dX4_makeSpread_74 : decode cX4_makeSpread 74 = .ok (.if_icmp .ge 56, 3) := by decide +kernel
theorem dX4_makeSpread_77 : decode cX4_makeSpread 77 = .ok (.iconst 0, 1) := by decide +kernel
theorem dX4_makeSpread_78 : decode cX4_makeSpread 78 = .ok (.istore 4, 2) := by decide +kernel
theorem dX4_makeSpread_80 : decode cX4_makeSpread 80 = .ok (.iload 4, 2) := by decide +kernel
theorem dX4_makeSpread_82 : decode cX4_makeSpread 82 = .ok (.aload_n 0, 1) := by decide +kernel
theorem dX4_makeSpread_83 : decode cX4_makeSpread 83 = .ok (.getfield 9, 3) := by decide +kernel
theorem dX4_makeSpread_86 : decode cX4_makeSpread 86 = .ok (.iload_n 3, 1) := by decide +kernel
theorem dX4_makeSpread_87 : decode cX4_makeSpread 87 = .ok (.iaload, 1) := by decide +kernel
theorem dX4_makeSpread_88 : decode cX4_makeSpread 88 = .ok (.if_icmp .ge 36, 3) := by decide +kernel
theorem dX4_makeSpread_91 : decode cX4_makeSpread 91 = .ok (.iload 4, 2) := by decide +kernel
theorem dX4_makeSpread_93 : decode cX4_makeSpread 93 = .ok (.aload_n 0, 1) := by decide +kernel
theorem dX4_makeSpread_94 : decode cX4_makeSpread 94 = .ok (.getfield 38, 3) := by decide +kernel
theorem dX4_makeSpread_97 : decode cX4_makeSpread 97 = .ok (.if_icmp .ge 27, 3) := by decide +kernel
theorem dX4_makeSpread_100 : decode cX4_makeSpread 100 = .ok (.aload_n 0, 1) := by decide +kernel
theorem dX4_makeSpread_101 : decode cX4_makeSpread 101 = .ok (.getfield 25, 3) := by decide +kernel
theorem dX4_makeSpread_104 : decode cX4_makeSpread 104 = .ok (.iload_n 2, 1) := by decide +kernel
theorem dX4_makeSpread_105 : decode cX4_makeSpread 105 = .ok (.iload_n 3, 1) := by decide +kernel
theorem dX4_makeSpread_106 : decode cX4_makeSpread 106 = .ok (.iastore, 1) := by decide +kernel
theorem dX4_makeSpread_107 : decode cX4_makeSpread 107 = .ok (.iload_n 2, 1) := by decide +kernel
theorem dX4_makeSpread_108 : decode cX4_makeSpread 108 = .ok (.iload_n 1, 1) := by decide +kernel
theorem dX4_makeSpread_109 : decode cX4_makeSpread 109 = .ok (.iadd, 1) := by decide +kernel
theorem dX4_makeSpread_110 : decode cX4_makeSpread 110 = .ok (.aload_n 0, 1) := by decide +kernel
theorem dX4_makeSpread_111 : decode cX4_makeSpread 111 = .ok (.getfield 38, 3) := by decide +kernel
theorem dX4_makeSpread_114 : decode cX4_makeSpread 114 = .ok (.iconst 1, 1) := by decide +kernel
theorem dX4_makeSpread_115 : decode cX4_makeSpread 115 = .ok (.isub, 1) := by decide +kernel
theorem dX4_makeSpread_116 : decode cX4_makeSpread 116 = .ok (.iand, 1) := by decide +kernel
theorem dX4_makeSpread_117 : decode cX4_makeSpread 117 = .ok (.istore_n 2, 1) := by decide +kernel
theorem dX4_makeSpread_118 : decode cX4_makeSpread 118 = .ok (.iinc 4 1, 3) := by decide +kernel
theorem dX4_makeSpread_121 : decode cX4_makeSpread 121 = .ok (.goto (-41), 3) := by decide +kernel
theorem dX4_makeSpread_124 : decode cX4_makeSpread 124 = .ok (.iinc 3 1, 3) := by decide +kernel
theorem dX4_makeSpread_127 : decode cX4_makeSpread 127 = .ok (.goto (-56), 3) := by decide +kernel
theorem dX4_makeSpread_130 : decode cX4_makeSpread 130 = .ok (.aload_n 0, 1) := by decide +kernel
theorem dX4_makeSpread_131 : decode cX4_makeSpread 131 = .ok (.invokevirtual 87, 3) := by decide +kernel
theorem dX4_makeSpread_134 : decode cX4_makeSpread 134 = .ok (.aload_n 0, 1) := by decide +kernel
theorem dX4_makeSpread_135 : decode cX4_makeSpread 135 = .ok (.iconst 1, 1) := by decide +kernel
theorem dX4_makeSpread_136 : decode cX4_makeSpread 136 = .ok (.putfield 51, 3) := by decide +kernel
theorem dX4_makeSpread_139 : decode cX4_makeSpread 139 = .ok (.return_, 1) := by decide +kernel
theorem dX3_restOf_0 : decode cX3_restOf 0 = .ok (.aload_n 0, 1) := by decide +kernel
theorem dX3_restOf_1 : decode cX3_restOf 1 = .ok (.getfield 20, 3) := by decide +kernel
theorem dX3_restOf_4 : decode cX3_restOf 4 = .ok (.iload_n 1, 1) := by decide +kernel
theorem dX3_restOf_5 : decode cX3_restOf 5 = .ok (.laload, 1) := by decide +kernel
theorem dX3_restOf_6 : decode cX3_restOf 6 = .ok (.l2i, 1) := by decide +kernel
theorem dX3_restOf_7 : decode cX3_restOf 7 = .ok (.aload_n 0, 1) := by decide +kernel
theorem dX3_restOf_8 : decode cX3_restOf 8 = .ok (.getfield 14, 3) := by decide +kernel
theorem dX3_restOf_11 : decode cX3_restOf 11 = .ok (.getfield 77, 3) := by decide +kernel
theorem dX3_restOf_14 : decode cX3_restOf 14 = .ok (.iconst 1, 1) := by decide +kernel
theorem dX3_restOf_15 : decode cX3_restOf 15 = .ok (.isub, 1) := by decide +kernel
theorem dX3_restOf_16 : decode cX3_restOf 16 = .ok (.iand, 1) := by decide +kernel
theorem dX3_restOf_17 : decode cX3_restOf 17 = .ok (.ireturn, 1) := by decide +kernel
end
section
theorem dX4_signOver_0 : decode cX4_signOver 0 = .ok (.iconst 0, 1) := by decide +kernel
theorem dX4_signOver_1 : decode cX4_signOver 1 = .ok (.istore_n 2, 1) := by decide +kernel
theorem dX4_signOver_2 : decode cX4_signOver 2 = .ok (.bipush 16, 2) := by decide +kernel
theorem dX4_signOver_4 : decode cX4_signOver 4 = .ok (.istore_n 3, 1) := by decide +kernel
theorem dX4_signOver_5 : decode cX4_signOver 5 = .ok (.iload_n 3, 1) := by decide +kernel
theorem dX4_signOver_6 : decode cX4_signOver 6 = .ok (.ifCond .le 26, 3) := by decide +kernel
theorem dX4_signOver_9 : decode cX4_signOver 9 = .ok (.aload_n 0, 1) := by decide +kernel
theorem dX4_signOver_10 : decode cX4_signOver 10 = .ok (.getfield 15, 3) := by decide +kernel
theorem dX4_signOver_13 : decode cX4_signOver 13 = .ok (.iload_n 2, 1) := by decide +kernel
theorem dX4_signOver_14 : decode cX4_signOver 14 = .ok (.iload_n 3, 1) := by decide +kernel
theorem dX4_signOver_15 : decode cX4_signOver 15 = .ok (.iadd, 1) := by decide +kernel
theorem dX4_signOver_16 : decode cX4_signOver 16 = .ok (.iaload, 1) := by decide +kernel
theorem dX4_signOver_17 : decode cX4_signOver 17 = .ok (.iload_n 1, 1) := by decide +kernel
theorem dX4_signOver_18 : decode cX4_signOver 18 = .ok (.if_icmp .gt 7, 3) := by decide +kernel
theorem dX4_signOver_21 : decode cX4_signOver 21 = .ok (.iload_n 2, 1) := by decide +kernel
theorem dX4_signOver_22 : decode cX4_signOver 22 = .ok (.iload_n 3, 1) := by decide +kernel
theorem dX4_signOver_23 : decode cX4_signOver 23 = .ok (.iadd, 1) := by decide +kernel
theorem dX4_signOver_24 : decode cX4_signOver 24 = .ok (.istore_n 2, 1) := by decide +kernel
theorem dX4_signOver_25 : decode cX4_signOver 25 = .ok (.iload_n 3, 1) := by decide +kernel
theorem dX4_signOver_26 : decode cX4_signOver 26 = .ok (.iconst 2, 1) := by decide +kernel
theorem dX4_signOver_27 : decode cX4_signOver 27 = .ok (.idiv, 1) := by decide +kernel
theorem dX4_signOver_28 : decode cX4_signOver 28 = .ok (.istore_n 3, 1) := by decide +kernel
theorem dX4_signOver_29 : decode cX4_signOver 29 = .ok (.goto (-24), 3) := by decide +kernel
theorem dX4_signOver_32 : decode cX4_signOver 32 = .ok (.iload_n 2, 1) := by decide +kernel
theorem dX4_signOver_33 : decode cX4_signOver 33 = .ok (.ireturn, 1) := by decide +kernel
theorem dX4_shareOf_0 : decode cX4_shareOf 0 = .ok (.iload_n 1, 1) := by decide +kernel
theorem dX4_shareOf_1 : decode cX4_shareOf 1 = .ok (.invokestatic 57, 3) := by decide +kernel
theorem dX4_shareOf_4 : decode cX4_shareOf 4 = .ok (.ifCond .eq 12, 3) := by decide +kernel
theorem dX4_shareOf_7 : decode cX4_shareOf 7 = .ok (.aload_n 0, 1) := by decide +kernel
theorem dX4_shareOf_8 : decode cX4_shareOf 8 = .ok (.getfield 9, 3) := by decide +kernel
theorem dX4_shareOf_11 : decode cX4_shareOf 11 = .ok (.iload_n 1, 1) := by decide +kernel
theorem dX4_shareOf_12 : decode cX4_shareOf 12 = .ok (.iaload, 1) := by decide +kernel
theorem dX4_shareOf_13 : decode cX4_shareOf 13 = .ok (.goto 4, 3) := by decide +kernel
theorem dX4_shareOf_16 : decode cX4_shareOf 16 = .ok (.iconst 0, 1) := by decide +kernel
theorem dX4_shareOf_17 : decode cX4_shareOf 17 = .ok (.ireturn, 1) := by decide +kernel
theorem dX4_fromOf_0 : decode cX4_fromOf 0 = .ok (.iload_n 1, 1) := by decide +kernel
theorem dX4_fromOf_1 : decode cX4_fromOf 1 = .ok (.invokestatic 57, 3) := by decide +kernel
theorem dX4_fromOf_4 : decode cX4_fromOf 4 = .ok (.ifCond .eq 12, 3) := by decide +kernel
theorem dX4_fromOf_7 : decode cX4_fromOf 7 = .ok (.aload_n 0, 1) := by decide +kernel
theorem dX4_fromOf_8 : decode cX4_fromOf 8 = .ok (.getfield 15, 3) := by decide +kernel
theorem dX4_fromOf_11 : decode cX4_fromOf 11 = .ok (.iload_n 1, 1) := by decide +kernel
theorem dX4_fromOf_12 : decode cX4_fromOf 12 = .ok (.iaload, 1) := by decide +kernel
theorem dX4_fromOf_13 : decode cX4_fromOf 13 = .ok (.goto 4, 3) := by decide +kernel
theorem dX4_fromOf_16 : decode cX4_fromOf 16 = .ok (.iconst 0, 1) := by decide +kernel
theorem dX4_fromOf_17 : decode cX4_fromOf 17 = .ok (.ireturn, 1) := by decide +kernel
theorem dX3_narrow_0 : decode cX3_narrow 0 = .ok (.aload_n 0, 1) := by decide +kernel
theorem dX3_narrow_1 : decode cX3_narrow 1 = .ok (.getfield 65, 3) := by decide +kernel
theorem dX3_narrow_4 : decode cX3_narrow 4 = .ok (.aload_n 0, 1) := by decide +kernel
theorem dX3_narrow_5 : decode cX3_narrow 5 = .ok (.getfield 14, 3) := by decide +kernel
theorem dX3_narrow_8 : decode cX3_narrow 8 = .ok (.getfield 77, 3) := by decide +kernel
theorem dX3_narrow_11 : decode cX3_narrow 11 = .ok (.invokestatic 99, 3) := by decide +kernel
theorem dX3_narrow_14 : decode cX3_narrow 14 = .ok (.lstore 5, 2) := by decide +kernel
theorem dX3_narrow_16 : decode cX3_narrow 16 = .ok (.aload_n 0, 1) := by decide +kernel
theorem dX3_narrow_17 : decode cX3_narrow 17 = .ok (.getfield 65, 3) := by decide +kernel
theorem dX3_narrow_20 : decode cX3_narrow 20 = .ok (.iconst 1, 1) := by decide +kernel
theorem dX3_narrow_21 : decode cX3_narrow 21 = .ok (.if_icmp .ne 7, 3) := by decide +kernel
theorem dX3_narrow_24 : decode cX3_narrow 24 = .ok (.iconst 4, 1) := by decide +kernel
theorem dX3_narrow_25 : decode cX3_narrow 25 = .ok (.goto 4, 3) := by decide +kernel
theorem dX3_narrow_28 : decode cX3_narrow 28 = .ok (.iconst 1, 1) := by decide +kernel
theorem dX3_narrow_29 : decode cX3_narrow 29 = .ok (.istore 7, 2) := by decide +kernel
theorem dX3_narrow_31 : decode cX3_narrow 31 = .ok (.iload_n 2, 1) := by decide +kernel
theorem dX3_narrow_32 : decode cX3_narrow 32 = .ok (.i2l, 1) := by decide +kernel
theorem dX3_narrow_33 : decode cX3_narrow 33 = .ok (.aload_n 0, 1) := by decide +kernel
theorem dX3_narrow_34 : decode cX3_narrow 34 = .ok (.getfield 20, 3) := by decide +kernel
theorem dX3_narrow_37 : decode cX3_narrow 37 = .ok (.iload_n 1, 1) := by decide +kernel
theorem dX3_narrow_38 : decode cX3_narrow 38 = .ok (.laload, 1) := by decide +kernel
theorem dX3_narrow_39 : decode cX3_narrow 39 = .ok (.aload_n 0, 1) := by decide +kernel
theorem dX3_narrow_40 : decode cX3_narrow 40 = .ok (.getfield 14, 3) := by decide +kernel
theorem dX3_narrow_43 : decode cX3_narrow 43 = .ok (.getfield 146, 3) := by decide +kernel
theorem dX3_narrow_46 : decode cX3_narrow 46 = .ok (.lshr, 1) := by decide +kernel
theorem dX3_narrow_47 : decode cX3_narrow 47 = .ok (.lmul, 1) := by decide +kernel
theorem dX3_narrow_48 : decode cX3_narrow 48 = .ok (.aload_n 0, 1) := by decide +kernel
theorem dX3_narrow_49 : decode cX3_narrow 49 = .ok (.iload_n 1, 1) := by decide +kernel
theorem dX3_narrow_50 : decode cX3_narrow 50 = .ok (.invokevirtual 130, 3) := by decide +kernel
theorem dX3_narrow_53 : decode cX3_narrow 53 = .ok (.i2l, 1) := by decide +kernel
theorem dX3_narrow_54 : decode cX3_narrow 54 = .ok (.ladd, 1) := by decide +kernel
theorem dX3_narrow_55 : decode cX3_narrow 55 = .ok (.iload_n 3, 1) := by decide +kernel
theorem dX3_narrow_56 : decode cX3_narrow 56 = .ok (.i2l, 1) := by decide +kernel
theorem dX3_narrow_57 : decode cX3_narrow 57 = .ok (.lsub, 1) := by decide +kernel
theorem dX3_narrow_58 : decode cX3_narrow 58 = .ok (.lstore 8, 2) := by decide +kernel
theorem dX3_narrow_60 : decode cX3_narrow 60 = .ok (.iconst 0, 1) := by decide +kernel
theorem dX3_narrow_61 : decode cX3_narrow 61 = .ok (.istore 10, 2) := by decide +kernel
theorem dX3_narrow_63 : decode cX3_narrow 63 = .ok (.iload 10, 2) := by decide +kernel
theorem dX3_narrow_65 : decode cX3_narrow 65 = .ok (.iconst 2, 1) := by decide +kernel
theorem dX3_narrow_66 : decode cX3_narrow 66 = .ok (.if_icmp .ge 48, 3) := by decide +kernel
theorem dX3_narrow_69 : decode cX3_narrow 69 = .ok (.lload 8, 2) := by decide +kernel
theorem dX3_narrow_71 : decode cX3_narrow 71 = .ok (.lload 5, 2) := by decide +kernel
theorem dX3_narrow_73 : decode cX3_narrow 73 = .ok (.lcmp, 1) := by decide +kernel
theorem dX3_narrow_74 : decode cX3_narrow 74 = .ok (.ifCond .ge 40, 3) := by decide +kernel
theorem dX3_narrow_77 : decode cX3_narrow 77 = .ok (.aload_n 0, 1) := by decide +kernel
theorem dX3_narrow_78 : decode cX3_narrow 78 = .ok (.aload 4, 2) := by decide +kernel
theorem dX3_narrow_80 : decode cX3_narrow 80 = .ok (.iload 7, 2) := by decide +kernel
theorem dX3_narrow_82 : decode cX3_narrow 82 = .ok (.invokevirtual 61, 3) := by decide +kernel
theorem dX3_narrow_85 : decode cX3_narrow 85 = .ok (.lstore 11, 2) := by decide +kernel
theorem dX3_narrow_87 : decode cX3_narrow 87 = .ok (.aload_n 0, 1) := by decide +kernel
theorem dX3_narrow_88 : decode cX3_narrow 88 = .ok (.getfield 32, 3) := by decide +kernel
theorem dX3_narrow_91 : decode cX3_narrow 91 = .ok (.ifCond .eq 4, 3) := by decide +kernel
theorem dX3_narrow_94 : decode cX3_narrow 94 = .ok (.return_, 1) := by decide +kernel
theorem dX3_narrow_95 : decode cX3_narrow 95 = .ok (.lload 8, 2) := by decide +kernel
theorem dX3_narrow_97 : decode cX3_narrow 97 = .ok (.bipush 8, 2) := by decide +kernel
theorem dX3_narrow_99 : decode cX3_narrow 99 = .ok (.iload 7, 2) := by decide +kernel
theorem dX3_narrow_101 : decode cX3_narrow 101 = .ok (.imul, 1) := by decide +kernel
theorem dX3_narrow_102 : decode cX3_narrow 102 = .ok (.lshl, 1) := by decide +kernel
theorem dX3_narrow_103 : decode cX3_narrow 103 = .ok (.lload 11, 2) := by decide +kernel
theorem dX3_narrow_105 : decode cX3_narrow 105 = .ok (.ladd, 1) := by decide +kernel
theorem dX3_narrow_106 : decode cX3_narrow 106 = .ok (.lstore 8, 2) := by decide +kernel
theorem dX3_narrow_108 : decode cX3_narrow 108 = .ok (.iinc 10 1, 3) := by decide +kernel
theorem dX3_narrow_111 : decode cX3_narrow 111 = .ok (.goto (-48), 3) := by decide +kernel
theorem dX3_narrow_114 : decode cX3_narrow 114 = .ok (.aload_n 0, 1) := by decide +kernel
theorem dX3_narrow_115 : decode cX3_narrow 115 = .ok (.getfield 20, 3) := by decide +kernel
theorem dX3_narrow_118 : decode cX3_narrow 118 = .ok (.iload_n 1, 1) := by decide +kernel
theorem dX3_narrow_119 : decode cX3_narrow 119 = .ok (.lload 8, 2) := by decide +kernel
theorem dX3_narrow_121 : decode cX3_narrow 121 = .ok (.lastore, 1) := by decide +kernel
theorem dX3_narrow_122 : decode cX3_narrow 122 = .ok (.return_, 1) := by decide +kernel
theorem dX4_shareOfZero_0 : decode cX4_shareOfZero 0 = .ok (.iload_n 1, 1) := by decide +kernel
theorem dX4_shareOfZero_1 : decode cX4_shareOfZero 1 = .ok (.ifCond .lt 24, 3) := by decide +kernel
theorem dX4_shareOfZero_4 : decode cX4_shareOfZero 4 = .ok (.iload_n 2, 1) := by decide +kernel
theorem dX4_shareOfZero_5 : decode cX4_shareOfZero 5 = .ok (.iconst 1, 1) := by decide +kernel
theorem dX4_shareOfZero_6 : decode cX4_shareOfZero 6 = .ok (.if_icmp .lt 19, 3) := by decide +kernel
theorem dX4_shareOfZero_9 : decode cX4_shareOfZero 9 = .ok (.iload_n 2, 1) := by decide +kernel
theorem dX4_shareOfZero_10 : decode cX4_shareOfZero 10 = .ok (.bipush 16, 2) := by decide +kernel
theorem dX4_shareOfZero_12 : decode cX4_shareOfZero 12 = .ok (.if_icmp .gt 13, 3) := by decide +kernel
theorem dX4_shareOfZero_15 : decode cX4_shareOfZero 15 = .ok (.iload_n 1, 1) := by decide +kernel
theorem dX4_shareOfZero_16 : decode cX4_shareOfZero 16 = .ok (.bipush 32, 2) := by decide +kernel
theorem dX4_shareOfZero_18 : decode cX4_shareOfZero 18 = .ok (.iconst 2, 1) := by decide +kernel
theorem dX4_shareOfZero_19 : decode cX4_shareOfZero 19 = .ok (.iload_n 2, 1) := by decide +kernel
theorem dX4_shareOfZero_20 : decode cX4_shareOfZero 20 = .ok (.imul, 1) := by decide +kernel
theorem dX4_shareOfZero_21 : decode cX4_shareOfZero 21 = .ok (.isub, 1) := by decide +kernel
theorem dX4_shareOfZero_22 : decode cX4_shareOfZero 22 = .ok (.if_icmp .le 8, 3) := by decide +kernel
theorem dX4_shareOfZero_25 : decode cX4_shareOfZero 25 = .ok (.aload_n 0, 1) := by decide +kernel
theorem dX4_shareOfZero_26 : decode cX4_shareOfZero 26 = .ok (.getfield 38, 3) := by decide +kernel
theorem dX4_shareOfZero_29 : decode cX4_shareOfZero 29 = .ok (.ireturn, 1) := by decide +kernel
theorem dX4_shareOfZero_30 : decode cX4_shareOfZero 30 = .ok (.aload_n 0, 1) := by decide +kernel
theorem dX4_shareOfZero_31 : decode cX4_shareOfZero 31 = .ok (.getfield 15, 3) := by decide +kernel
theorem dX4_shareOfZero_34 : decode cX4_shareOfZero 34 = .ok (.iload_n 1, 1) := by decide +kernel
theorem dX4_shareOfZero_35 : decode cX4_shareOfZero 35 = .ok (.iconst 2, 1) := by decide +kernel
theorem dX4_shareOfZero_36 : decode cX4_shareOfZero 36 = .ok (.iload_n 2, 1) := by decide +kernel
theorem dX4_shareOfZero_37 : decode cX4_shareOfZero 37 = .ok (.imul, 1) := by decide +kernel
theorem dX4_shareOfZero_38 : decode cX4_shareOfZero 38 = .ok (.iadd, 1) := by decide +kernel
theorem dX4_shareOfZero_39 : decode cX4_shareOfZero 39 = .ok (.iaload, 1) := by decide +kernel
theorem dX4_shareOfZero_40 : decode cX4_shareOfZero 40 = .ok (.aload_n 0, 1) := by decide +kernel
theorem dX4_shareOfZero_41 : decode cX4_shareOfZero 41 = .ok (.getfield 15, 3) := by decide +kernel
theorem dX4_shareOfZero_44 : decode cX4_shareOfZero 44 = .ok (.iload_n 1, 1) := by decide +kernel
theorem dX4_shareOfZero_45 : decode cX4_shareOfZero 45 = .ok (.iaload, 1) := by decide +kernel
theorem dX4_shareOfZero_46 : decode cX4_shareOfZero 46 = .ok (.isub, 1) := by decide +kernel
theorem dX4_shareOfZero_47 : decode cX4_shareOfZero 47 = .ok (.istore_n 3, 1) := by decide +kernel
theorem dX4_shareOfZero_48 : decode cX4_shareOfZero 48 = .ok (.aload_n 0, 1) := by decide +kernel
theorem dX4_shareOfZero_49 : decode cX4_shareOfZero 49 = .ok (.getfield 15, 3) := by decide +kernel
theorem dX4_shareOfZero_52 : decode cX4_shareOfZero 52 = .ok (.iload_n 1, 1) := by decide +kernel
theorem dX4_shareOfZero_53 : decode cX4_shareOfZero 53 = .ok (.iload_n 2, 1) := by decide +kernel
theorem dX4_shareOfZero_54 : decode cX4_shareOfZero 54 = .ok (.iadd, 1) := by decide +kernel
theorem dX4_shareOfZero_55 : decode cX4_shareOfZero 55 = .ok (.iaload, 1) := by decide +kernel
theorem dX4_shareOfZero_56 : decode cX4_shareOfZero 56 = .ok (.aload_n 0, 1) := by decide +kernel
theorem dX4_shareOfZero_57 : decode cX4_shareOfZero 57 = .ok (.getfield 15, 3) := by decide +kernel
theorem dX4_shareOfZero_60 : decode cX4_shareOfZero 60 = .ok (.iload_n 1, 1) := by decide +kernel
theorem dX4_shareOfZero_61 : decode cX4_shareOfZero 61 = .ok (.iaload, 1) := by decide +kernel
theorem dX4_shareOfZero_62 : decode cX4_shareOfZero 62 = .ok (.isub, 1) := by decide +kernel
theorem dX4_shareOfZero_63 : decode cX4_shareOfZero 63 = .ok (.istore 4, 2) := by decide +kernel
theorem dX4_shareOfZero_65 : decode cX4_shareOfZero 65 = .ok (.iload_n 3, 1) := by decide +kernel
theorem dX4_shareOfZero_66 : decode cX4_shareOfZero 66 = .ok (.ifCond .le 9, 3) := by decide +kernel
theorem dX4_shareOfZero_69 : decode cX4_shareOfZero 69 = .ok (.iload 4, 2) := by decide +kernel
theorem dX4_shareOfZero_71 : decode cX4_shareOfZero 71 = .ok (.iload_n 3, 1) := by decide +kernel
theorem dX4_shareOfZero_72 : decode cX4_shareOfZero 72 = .ok (.if_icmp .ne 8, 3) := by decide +kernel
theorem dX4_shareOfZero_75 : decode cX4_shareOfZero 75 = .ok (.aload_n 0, 1) := by decide +kernel
theorem dX4_shareOfZero_76 : decode cX4_shareOfZero 76 = .ok (.getfield 38, 3) := by decide +kernel
theorem dX4_shareOfZero_79 : decode cX4_shareOfZero 79 = .ok (.ireturn, 1) := by decide +kernel
theorem dX4_shareOfZero_80 : decode cX4_shareOfZero 80 = .ok (.iload 4, 2) := by decide +kernel
theorem dX4_shareOfZero_82 : decode cX4_shareOfZero 82 = .ok (.ifCond .ne 5, 3) := by decide +kernel
theorem dX4_shareOfZero_85 : decode cX4_shareOfZero 85 = .ok (.iconst 0, 1) := by decide +kernel
theorem dX4_shareOfZero_86 : decode cX4_shareOfZero 86 = .ok (.ireturn, 1) := by decide +kernel
theorem dX4_shareOfZero_87 : decode cX4_shareOfZero 87 = .ok (.iload 4, 2) := by decide +kernel
theorem dX4_shareOfZero_89 : decode cX4_shareOfZero 89 = .ok (.aload_n 0, 1) := by decide +kernel
theorem dX4_shareOfZero_90 : decode cX4_shareOfZero 90 = .ok (.getfield 38, 3) := by decide +kernel
theorem dX4_shareOfZero_93 : decode cX4_shareOfZero 93 = .ok (.imul, 1) := by decide +kernel
theorem dX4_shareOfZero_94 : decode cX4_shareOfZero 94 = .ok (.iload_n 3, 1) := by decide +kernel
theorem dX4_shareOfZero_95 : decode cX4_shareOfZero 95 = .ok (.iconst 2, 1) := by decide +kernel
theorem dX4_shareOfZero_96 : decode cX4_shareOfZero 96 = .ok (.idiv, 1) := by decide +kernel
theorem dX4_shareOfZero_97 : decode cX4_shareOfZero 97 = .ok (.iadd, 1) := by decide +kernel
theorem dX4_shareOfZero_98 : decode cX4_shareOfZero 98 = .ok (.iload_n 3, 1) := by decide +kernel
theorem dX4_shareOfZero_99 : decode cX4_shareOfZero 99 = .ok (.idiv, 1) := by decide +kernel
theorem dX4_shareOfZero_100 : decode cX4_shareOfZero 100 = .ok (.istore 5, 2) := by decide +kernel
theorem dX4_shareOfZero_102 : decode cX4_shareOfZero 102 = .ok (.iload 5, 2) := by decide +kernel
theorem dX4_shareOfZero_104 : decode cX4_shareOfZero 104 = .ok (.iconst 1, 1) := by decide +kernel
theorem dX4_shareOfZero_105 : decode cX4_shareOfZero 105 = .ok (.invokestatic 78, 3) := by decide +kernel
theorem dX4_shareOfZero_108 : decode cX4_shareOfZero 108 = .ok (.aload_n 0, 1) := by decide +kernel
theorem dX4_shareOfZero_109 : decode cX4_shareOfZero 109 = .ok (.getfield 38, 3) := by decide +kernel
theorem dX4_shareOfZero_112 : decode cX4_shareOfZero 112 = .ok (.iconst 1, 1) := by decide +kernel
theorem dX4_shareOfZero_113 : decode cX4_shareOfZero 113 = .ok (.isub, 1) := by decide +kernel
theorem dX4_shareOfZero_114 : decode cX4_shareOfZero 114 = .ok (.invokestatic 84, 3) := by decide +kernel
theorem dX4_shareOfZero_117 : decode cX4_shareOfZero 117 = .ok (.ireturn, 1) := by decide +kernel
theorem dX3_takeTwoSided_0 : decode cX3_takeTwoSided 0 = .ok (.iconst 0, 1) := by decide +kernel
theorem dX3_takeTwoSided_1 : decode cX3_takeTwoSided 1 = .ok (.istore_n 3, 1) := by decide +kernel
theorem dX3_takeTwoSided_2 : decode cX3_takeTwoSided 2 = .ok (.bipush 16, 2) := by decide +kernel
theorem dX3_takeTwoSided_4 : decode cX3_takeTwoSided 4 = .ok (.istore 4, 2) := by decide +kernel
theorem dX3_takeTwoSided_6 : decode cX3_takeTwoSided 6 = .ok (.iload 4, 2) := by decide +kernel
theorem dX3_takeTwoSided_8 : decode cX3_takeTwoSided 8 = .ok (.ifCond .le 78, 3) := by decide +kernel
theorem dX3_takeTwoSided_11 : decode cX3_takeTwoSided 11 = .ok (.aload_n 0, 1) := by decide +kernel
theorem dX3_takeTwoSided_12 : decode cX3_takeTwoSided 12 = .ok (.getfield 14, 3) := by decide +kernel
theorem dX3_takeTwoSided_15 : decode cX3_takeTwoSided 15 = .ok (.iload_n 3, 1) := by decide +kernel
theorem dX3_takeTwoSided_16 : decode cX3_takeTwoSided 16 = .ok (.iload 4, 2) := by decide +kernel
theorem dX3_takeTwoSided_18 : decode cX3_takeTwoSided 18 = .ok (.invokevirtual 155, 3) := by decide +kernel
theorem dX3_takeTwoSided_21 : decode cX3_takeTwoSided 21 = .ok (.istore 5, 2) := by decide +kernel
theorem dX3_takeTwoSided_23 : decode cX3_takeTwoSided 23 = .ok (.aload_n 0, 1) := by decide +kernel
theorem dX3_takeTwoSided_24 : decode cX3_takeTwoSided 24 = .ok (.iload_n 1, 1) := by decide +kernel
theorem dX3_takeTwoSided_25 : decode cX3_takeTwoSided 25 = .ok (.invokevirtual 130, 3) := by decide +kernel
theorem dX3_takeTwoSided_28 : decode cX3_takeTwoSided 28 = .ok (.iload 5, 2) := by decide +kernel
theorem dX3_takeTwoSided_30 : decode cX3_takeTwoSided 30 = .ok (.if_icmp .ge 15, 3) := by decide +kernel
theorem dX3_takeTwoSided_33 : decode cX3_takeTwoSided 33 = .ok (.aload_n 0, 1) := by decide +kernel
theorem dX3_takeTwoSided_34 : decode cX3_takeTwoSided 34 = .ok (.iload_n 1, 1) := by decide +kernel
theorem dX3_takeTwoSided_35 : decode cX3_takeTwoSided 35 = .ok (.iload 5, 2) := by decide +kernel
theorem dX3_takeTwoSided_37 : decode cX3_takeTwoSided 37 = .ok (.iconst 0, 1) := by decide +kernel
theorem dX3_takeTwoSided_38 : decode cX3_takeTwoSided 38 = .ok (.aload_n 2, 1) := by decide +kernel
theorem dX3_takeTwoSided_39 : decode cX3_takeTwoSided 39 = .ok (.invokevirtual 142, 3) := by decide +kernel
theorem dX3_takeTwoSided_42 : decode cX3_takeTwoSided 42 = .ok (.goto 26, 3) := by decide +kernel
theorem dX3_takeTwoSided_45 : decode cX3_takeTwoSided 45 = .ok (.aload_n 0, 1) := by decide +kernel
theorem dX3_takeTwoSided_46 : decode cX3_takeTwoSided 46 = .ok (.iload_n 1, 1) := by decide +kernel
theorem dX3_takeTwoSided_47 : decode cX3_takeTwoSided 47 = .ok (.aload_n 0, 1) := by decide +kernel
theorem dX3_takeTwoSided_48 : decode cX3_takeTwoSided 48 = .ok (.getfield 14, 3) := by decide +kernel
theorem dX3_takeTwoSided_51 : decode cX3_takeTwoSided 51 = .ok (.getfield 77, 3) := by decide +kernel
theorem dX3_takeTwoSided_54 : decode cX3_takeTwoSided 54 = .ok (.iload 5, 2) := by decide +kernel
theorem dX3_takeTwoSided_56 : decode cX3_takeTwoSided 56 = .ok (.isub, 1) := by decide +kernel
theorem dX3_takeTwoSided_57 : decode cX3_takeTwoSided 57 = .ok (.iload 5, 2) := by decide +kernel
theorem dX3_takeTwoSided_59 : decode cX3_takeTwoSided 59 = .ok (.aload_n 2, 1) := by decide +kernel
theorem dX3_takeTwoSided_60 : decode cX3_takeTwoSided 60 = .ok (.invokevirtual 142, 3) := by decide +kernel
theorem dX3_takeTwoSided_63 : decode cX3_takeTwoSided 63 = .ok (.iload_n 3, 1) := by decide +kernel
theorem dX3_takeTwoSided_64 : decode cX3_takeTwoSided 64 = .ok (.iload 4, 2) := by decide +kernel
theorem dX3_takeTwoSided_66 : decode cX3_takeTwoSided 66 = .ok (.iadd, 1) := by decide +kernel
theorem dX3_takeTwoSided_67 : decode cX3_takeTwoSided 67 = .ok (.istore_n 3, 1) := by decide +kernel
theorem dX3_takeTwoSided_68 : decode cX3_takeTwoSided 68 = .ok (.aload_n 0, 1) := by decide +kernel
theorem dX3_takeTwoSided_69 : decode cX3_takeTwoSided 69 = .ok (.getfield 32, 3) := by decide +kernel
theorem dX3_takeTwoSided_72 : decode cX3_takeTwoSided 72 = .ok (.ifCond .eq 5, 3) := by decide +kernel
theorem dX3_takeTwoSided_75 : decode cX3_takeTwoSided 75 = .ok (.iconst (-1), 1) := by decide +kernel
theorem dX3_takeTwoSided_76 : decode cX3_takeTwoSided 76 = .ok (.ireturn, 1) := by decide +kernel
theorem dX3_takeTwoSided_77 : decode cX3_takeTwoSided 77 = .ok (.iload 4, 2) := by decide +kernel
theorem dX3_takeTwoSided_79 : decode cX3_takeTwoSided 79 = .ok (.iconst 2, 1) := by decide +kernel
theorem dX3_takeTwoSided_80 : decode cX3_takeTwoSided 80 = .ok (.idiv, 1) := by decide +kernel
theorem dX3_takeTwoSided_81 : decode cX3_takeTwoSided 81 = .ok (.istore 4, 2) := by decide +kernel
theorem dX3_takeTwoSided_83 : decode cX3_takeTwoSided 83 = .ok (.goto (-77), 3) := by decide +kernel
theorem dX3_takeTwoSided_86 : decode cX3_takeTwoSided 86 = .ok (.iload_n 3, 1) := by decide +kernel
theorem dX3_takeTwoSided_87 : decode cX3_takeTwoSided 87 = .ok (.ireturn, 1) := by decide +kernel
theorem dX4_numberAt_0 : decode cX4_numberAt 0 = .ok (.iload_n 1, 1) := by decide +kernel
theorem dX4_numberAt_1 : decode cX4_numberAt 1 = .ok (.ifCond .lt 29, 3) := by decide +kernel
theorem dX4_numberAt_4 : decode cX4_numberAt 4 = .ok (.iload_n 1, 1) := by decide +kernel
theorem dX4_numberAt_5 : decode cX4_numberAt 5 = .ok (.aload_n 0, 1) := by decide +kernel
theorem dX4_numberAt_6 : decode cX4_numberAt 6 = .ok (.getfield 38, 3) := by decide +kernel
theorem dX4_numberAt_9 : decode cX4_numberAt 9 = .ok (.if_icmp .ge 21, 3) := by decide +kernel
theorem dX4_numberAt_12 : decode cX4_numberAt 12 = .ok (.iload_n 1, 1) := by decide +kernel
theorem dX4_numberAt_13 : decode cX4_numberAt 13 = .ok (.aload_n 0, 1) := by decide +kernel
theorem dX4_numberAt_14 : decode cX4_numberAt 14 = .ok (.getfield 28, 3) := by decide +kernel
theorem dX4_numberAt_17 : decode cX4_numberAt 17 = .ok (.arraylength, 1) := by decide +kernel
theorem dX4_numberAt_18 : decode cX4_numberAt 18 = .ok (.if_icmp .ge 12, 3) := by decide +kernel
theorem dX4_numberAt_21 : decode cX4_numberAt 21 = .ok (.aload_n 0, 1) := by decide +kernel
theorem dX4_numberAt_22 : decode cX4_numberAt 22 = .ok (.getfield 28, 3) := by decide +kernel
theorem dX4_numberAt_25 : decode cX4_numberAt 25 = .ok (.iload_n 1, 1) := by decide +kernel
theorem dX4_numberAt_26 : decode cX4_numberAt 26 = .ok (.iaload, 1) := by decide +kernel
theorem dX4_numberAt_27 : decode cX4_numberAt 27 = .ok (.goto 4, 3) := by decide +kernel
theorem dX4_numberAt_30 : decode cX4_numberAt 30 = .ok (.iconst (-1), 1) := by decide +kernel
theorem dX4_numberAt_31 : decode cX4_numberAt 31 = .ok (.ireturn, 1) := by decide +kernel
theorem dX4_signAt_0 : decode cX4_signAt 0 = .ok (.iload_n 1, 1) := by decide +kernel
theorem dX4_signAt_1 : decode cX4_signAt 1 = .ok (.ifCond .lt 29, 3) := by decide +kernel
theorem dX4_signAt_4 : decode cX4_signAt 4 = .ok (.iload_n 1, 1) := by decide +kernel
theorem dX4_signAt_5 : decode cX4_signAt 5 = .ok (.aload_n 0, 1) := by decide +kernel
theorem dX4_signAt_6 : decode cX4_signAt 6 = .ok (.getfield 38, 3) := by decide +kernel
theorem dX4_signAt_9 : decode cX4_signAt 9 = .ok (.if_icmp .ge 21, 3) := by decide +kernel
theorem dX4_signAt_12 : decode cX4_signAt 12 = .ok (.iload_n 1, 1) := by decide +kernel
theorem dX4_signAt_13 : decode cX4_signAt 13 = .ok (.aload_n 0, 1) := by decide +kernel
theorem dX4_signAt_14 : decode cX4_signAt 14 = .ok (.getfield 25, 3) := by decide +kernel
theorem dX4_signAt_17 : decode cX4_signAt 17 = .ok (.arraylength, 1) := by decide +kernel
theorem dX4_signAt_18 : decode cX4_signAt 18 = .ok (.if_icmp .ge 12, 3) := by decide +kernel
theorem dX4_signAt_21 : decode cX4_signAt 21 = .ok (.aload_n 0, 1) := by decide +kernel
theorem dX4_signAt_22 : decode cX4_signAt 22 = .ok (.getfield 25, 3) := by decide +kernel
theorem dX4_signAt_25 : decode cX4_signAt 25 = .ok (.iload_n 1, 1) := by decide +kernel
theorem dX4_signAt_26 : decode cX4_signAt 26 = .ok (.iaload, 1) := by decide +kernel
theorem dX4_signAt_27 : decode cX4_signAt 27 = .ok (.goto 4, 3) := by decide +kernel
theorem dX4_signAt_30 : decode cX4_signAt 30 = .ok (.iconst (-1), 1) := by decide +kernel
theorem dX4_signAt_31 : decode cX4_signAt 31 = .ok (.ireturn, 1) := by decide +kernel
theorem dX3_takeByTable_0 : decode cX3_takeByTable 0 = .ok (.aload_n 0, 1) := by decide +kernel
theorem dX3_takeByTable_1 : decode cX3_takeByTable 1 = .ok (.getfield 20, 3) := by decide +kernel
theorem dX3_takeByTable_4 : decode cX3_takeByTable 4 = .ok (.iload_n 1, 1) := by decide +kernel
theorem dX3_takeByTable_5 : decode cX3_takeByTable 5 = .ok (.laload, 1) := by decide +kernel
theorem dX3_takeByTable_6 : decode cX3_takeByTable 6 = .ok (.l2i, 1) := by decide +kernel
theorem dX3_takeByTable_7 : decode cX3_takeByTable 7 = .ok (.aload_n 0, 1) := by decide +kernel
theorem dX3_takeByTable_8 : decode cX3_takeByTable 8 = .ok (.getfield 14, 3) := by decide +kernel
theorem dX3_takeByTable_11 : decode cX3_takeByTable 11 = .ok (.getfield 77, 3) := by decide +kernel
theorem dX3_takeByTable_14 : decode cX3_takeByTable 14 = .ok (.isub, 1) := by decide +kernel
theorem dX3_takeByTable_15 : decode cX3_takeByTable 15 = .ok (.istore_n 3, 1) := by decide +kernel
theorem dX3_takeByTable_16 : decode cX3_takeByTable 16 = .ok (.aload_n 0, 1) := by decide +kernel
theorem dX3_takeByTable_17 : decode cX3_takeByTable 17 = .ok (.getfield 14, 3) := by decide +kernel
theorem dX3_takeByTable_20 : decode cX3_takeByTable 20 = .ok (.iload_n 3, 1) := by decide +kernel
theorem dX3_takeByTable_21 : decode cX3_takeByTable 21 = .ok (.invokevirtual 149, 3) := by decide +kernel
theorem dX3_takeByTable_24 : decode cX3_takeByTable 24 = .ok (.istore 4, 2) := by decide +kernel
theorem dX3_takeByTable_26 : decode cX3_takeByTable 26 = .ok (.iconst 0, 1) := by decide +kernel
theorem dX3_takeByTable_27 : decode cX3_takeByTable 27 = .ok (.istore 5, 2) := by decide +kernel
theorem dX3_takeByTable_29 : decode cX3_takeByTable 29 = .ok (.iload 5, 2) := by decide +kernel
theorem dX3_takeByTable_31 : decode cX3_takeByTable 31 = .ok (.bipush 12, 2) := by decide +kernel
theorem dX3_takeByTable_33 : decode cX3_takeByTable 33 = .ok (.if_icmp .gt 47, 3) := by decide +kernel
theorem dX3_takeByTable_36 : decode cX3_takeByTable 36 = .ok (.iload 4, 2) := by decide +kernel
theorem dX3_takeByTable_38 : decode cX3_takeByTable 38 = .ok (.aload_n 0, 1) := by decide +kernel
theorem dX3_takeByTable_39 : decode cX3_takeByTable 39 = .ok (.getfield 14, 3) := by decide +kernel
theorem dX3_takeByTable_42 : decode cX3_takeByTable 42 = .ok (.getfield 77, 3) := by decide +kernel
theorem dX3_takeByTable_45 : decode cX3_takeByTable 45 = .ok (.if_icmp .ge 35, 3) := by decide +kernel
theorem dX3_takeByTable_48 : decode cX3_takeByTable 48 = .ok (.aload_n 0, 1) := by decide +kernel
theorem dX3_takeByTable_49 : decode cX3_takeByTable 49 = .ok (.aload_n 2, 1) := by decide +kernel
theorem dX3_takeByTable_50 : decode cX3_takeByTable 50 = .ok (.iconst 1, 1) := by decide +kernel
theorem dX3_takeByTable_51 : decode cX3_takeByTable 51 = .ok (.invokevirtual 84, 3) := by decide +kernel
theorem dX3_takeByTable_54 : decode cX3_takeByTable 54 = .ok (.istore 6, 2) := by decide +kernel
theorem dX3_takeByTable_56 : decode cX3_takeByTable 56 = .ok (.aload_n 0, 1) := by decide +kernel
theorem dX3_takeByTable_57 : decode cX3_takeByTable 57 = .ok (.getfield 32, 3) := by decide +kernel
theorem dX3_takeByTable_60 : decode cX3_takeByTable 60 = .ok (.ifCond .eq 5, 3) := by decide +kernel
theorem dX3_takeByTable_63 : decode cX3_takeByTable 63 = .ok (.iconst (-1), 1) := by decide +kernel
theorem dX3_takeByTable_64 : decode cX3_takeByTable 64 = .ok (.ireturn, 1) := by decide +kernel
theorem dX3_takeByTable_65 : decode cX3_takeByTable 65 = .ok (.iconst 2, 1) := by decide +kernel
theorem dX3_takeByTable_66 : decode cX3_takeByTable 66 = .ok (.iload 4, 2) := by decide +kernel
theorem dX3_takeByTable_68 : decode cX3_takeByTable 68 = .ok (.imul, 1) := by decide +kernel
theorem dX3_takeByTable_69 : decode cX3_takeByTable 69 = .ok (.iload 6, 2) := by decide +kernel
theorem dX3_takeByTable_71 : decode cX3_takeByTable 71 = .ok (.iadd, 1) := by decide +kernel
theorem dX3_takeByTable_72 : decode cX3_takeByTable 72 = .ok (.istore 4, 2) := by decide +kernel
theorem dX3_takeByTable_74 : decode cX3_takeByTable 74 = .ok (.iinc 5 1, 3) := by decide +kernel
theorem dX3_takeByTable_77 : decode cX3_takeByTable 77 = .ok (.goto (-48), 3) := by decide +kernel
theorem dX3_takeByTable_80 : decode cX3_takeByTable 80 = .ok (.aload_n 0, 1) := by decide +kernel
theorem dX3_takeByTable_81 : decode cX3_takeByTable 81 = .ok (.getfield 20, 3) := by decide +kernel
theorem dX3_takeByTable_84 : decode cX3_takeByTable 84 = .ok (.iload_n 1, 1) := by decide +kernel
theorem dX3_takeByTable_85 : decode cX3_takeByTable 85 = .ok (.iload 4, 2) := by decide +kernel
theorem dX3_takeByTable_87 : decode cX3_takeByTable 87 = .ok (.i2l, 1) := by decide +kernel
theorem dX3_takeByTable_88 : decode cX3_takeByTable 88 = .ok (.lastore, 1) := by decide +kernel
theorem dX3_takeByTable_89 : decode cX3_takeByTable 89 = .ok (.aload_n 0, 1) := by decide +kernel
theorem dX3_takeByTable_90 : decode cX3_takeByTable 90 = .ok (.getfield 14, 3) := by decide +kernel
theorem dX3_takeByTable_93 : decode cX3_takeByTable 93 = .ok (.iload_n 3, 1) := by decide +kernel
theorem dX3_takeByTable_94 : decode cX3_takeByTable 94 = .ok (.invokevirtual 152, 3) := by decide +kernel
theorem dX3_takeByTable_97 : decode cX3_takeByTable 97 = .ok (.ireturn, 1) := by decide +kernel
theorem dX3_takeSign_0 : decode cX3_takeSign 0 = .ok (.aload_n 0, 1) := by decide +kernel
theorem dX3_takeSign_1 : decode cX3_takeSign 1 = .ok (.getfield 65, 3) := by decide +kernel
theorem dX3_takeSign_4 : decode cX3_takeSign 4 = .ok (.iconst 2, 1) := by decide +kernel
theorem dX3_takeSign_5 : decode cX3_takeSign 5 = .ok (.if_icmp .ne 10, 3) := by decide +kernel
theorem dX3_takeSign_8 : decode cX3_takeSign 8 = .ok (.aload_n 0, 1) := by decide +kernel
theorem dX3_takeSign_9 : decode cX3_takeSign 9 = .ok (.iload_n 1, 1) := by decide +kernel
theorem dX3_takeSign_10 : decode cX3_takeSign 10 = .ok (.aload_n 2, 1) := by decide +kernel
theorem dX3_takeSign_11 : decode cX3_takeSign 11 = .ok (.invokevirtual 124, 3) := by decide +kernel
theorem dX3_takeSign_14 : decode cX3_takeSign 14 = .ok (.ireturn, 1) := by decide +kernel
theorem dX3_takeSign_15 : decode cX3_takeSign 15 = .ok (.aload_n 0, 1) := by decide +kernel
theorem dX3_takeSign_16 : decode cX3_takeSign 16 = .ok (.getfield 65, 3) := by decide +kernel
theorem dX3_takeSign_19 : decode cX3_takeSign 19 = .ok (.iconst 3, 1) := by decide +kernel
theorem dX3_takeSign_20 : decode cX3_takeSign 20 = .ok (.if_icmp .ne 10, 3) := by decide +kernel
theorem dX3_takeSign_23 : decode cX3_takeSign 23 = .ok (.aload_n 0, 1) := by decide +kernel
theorem dX3_takeSign_24 : decode cX3_takeSign 24 = .ok (.iload_n 1, 1) := by decide +kernel
theorem dX3_takeSign_25 : decode cX3_takeSign 25 = .ok (.aload_n 2, 1) := by decide +kernel
theorem dX3_takeSign_26 : decode cX3_takeSign 26 = .ok (.invokevirtual 127, 3) := by decide +kernel
theorem dX3_takeSign_29 : decode cX3_takeSign 29 = .ok (.ireturn, 1) := by decide +kernel
theorem dX3_takeSign_30 : decode cX3_takeSign 30 = .ok (.aload_n 0, 1) := by decide +kernel
theorem dX3_takeSign_31 : decode cX3_takeSign 31 = .ok (.getfield 14, 3) := by decide +kernel
theorem dX3_takeSign_34 : decode cX3_takeSign 34 = .ok (.aload_n 0, 1) := by decide +kernel
theorem dX3_takeSign_35 : decode cX3_takeSign 35 = .ok (.iload_n 1, 1) := by decide +kernel
theorem dX3_takeSign_36 : decode cX3_takeSign 36 = .ok (.invokevirtual 130, 3) := by decide +kernel
theorem dX3_takeSign_39 : decode cX3_takeSign 39 = .ok (.invokevirtual 133, 3) := by decide +kernel
theorem dX3_takeSign_42 : decode cX3_takeSign 42 = .ok (.istore_n 3, 1) := by decide +kernel
theorem dX3_takeSign_43 : decode cX3_takeSign 43 = .ok (.aload_n 0, 1) := by decide +kernel
theorem dX3_takeSign_44 : decode cX3_takeSign 44 = .ok (.iload_n 1, 1) := by decide +kernel
theorem dX3_takeSign_45 : decode cX3_takeSign 45 = .ok (.aload_n 0, 1) := by decide +kernel
theorem dX3_takeSign_46 : decode cX3_takeSign 46 = .ok (.getfield 14, 3) := by decide +kernel
theorem dX3_takeSign_49 : decode cX3_takeSign 49 = .ok (.iload_n 3, 1) := by decide +kernel
theorem dX3_takeSign_50 : decode cX3_takeSign 50 = .ok (.invokevirtual 136, 3) := by decide +kernel
theorem dX3_takeSign_53 : decode cX3_takeSign 53 = .ok (.aload_n 0, 1) := by decide +kernel
theorem dX3_takeSign_54 : decode cX3_takeSign 54 = .ok (.getfield 14, 3) := by decide +kernel
theorem dX3_takeSign_57 : decode cX3_takeSign 57 = .ok (.iload_n 3, 1) := by decide +kernel
theorem dX3_takeSign_58 : decode cX3_takeSign 58 = .ok (.invokevirtual 139, 3) := by decide +kernel
theorem dX3_takeSign_61 : decode cX3_takeSign 61 = .ok (.aload_n 2, 1) := by decide +kernel
theorem dX3_takeSign_62 : decode cX3_takeSign 62 = .ok (.invokevirtual 142, 3) := by decide +kernel
theorem dX3_takeSign_65 : decode cX3_takeSign 65 = .ok (.iload_n 3, 1) := by decide +kernel
theorem dX3_takeSign_66 : decode cX3_takeSign 66 = .ok (.ireturn, 1) := by decide +kernel
theorem dX3_keep_0 : decode cX3_keep 0 = .ok (.aload_n 0, 1) := by decide +kernel
theorem dX3_keep_1 : decode cX3_keep 1 = .ok (.aload_n 0, 1) := by decide +kernel
theorem dX3_keep_2 : decode cX3_keep 2 = .ok (.getfield 24, 3) := by decide +kernel
theorem dX3_keep_5 : decode cX3_keep 5 = .ok (.aload_n 0, 1) := by decide +kernel
theorem dX3_keep_6 : decode cX3_keep 6 = .ok (.getfield 28, 3) := by decide +kernel
theorem dX3_keep_9 : decode cX3_keep 9 = .ok (.ldc 112, 2) := by decide +kernel
theorem dX3_keep_11 : decode cX3_keep 11 = .ok (.invokestatic 120, 3) := by decide +kernel
theorem dX3_keep_14 : decode cX3_keep 14 = .ok (.putfield 24, 3) := by decide +kernel
theorem dX3_keep_17 : decode cX3_keep 17 = .ok (.aload_n 0, 1) := by decide +kernel
theorem dX3_keep_18 : decode cX3_keep 18 = .ok (.getfield 28, 3) := by decide +kernel
theorem dX3_keep_21 : decode cX3_keep 21 = .ok (.aload_n 0, 1) := by decide +kernel
theorem dX3_keep_22 : decode cX3_keep 22 = .ok (.getfield 24, 3) := by decide +kernel
theorem dX3_keep_25 : decode cX3_keep 25 = .ok (.arraylength, 1) := by decide +kernel
theorem dX3_keep_26 : decode cX3_keep 26 = .ok (.if_icmp .ge 23, 3) := by decide +kernel
theorem dX3_keep_29 : decode cX3_keep 29 = .ok (.aload_n 0, 1) := by decide +kernel
theorem dX3_keep_30 : decode cX3_keep 30 = .ok (.getfield 24, 3) := by decide +kernel
theorem dX3_keep_33 : decode cX3_keep 33 = .ok (.aload_n 0, 1) := by decide +kernel
theorem dX3_keep_34 : decode cX3_keep 34 = .ok (.getfield 28, 3) := by decide +kernel
theorem dX3_keep_37 : decode cX3_keep 37 = .ok (.iload_n 1, 1) := by decide +kernel
theorem dX3_keep_38 : decode cX3_keep 38 = .ok (.iastore, 1) := by decide +kernel
theorem dX3_keep_39 : decode cX3_keep 39 = .ok (.aload_n 0, 1) := by decide +kernel
theorem dX3_keep_40 : decode cX3_keep 40 = .ok (.dup, 1) := by decide +kernel
theorem dX3_keep_41 : decode cX3_keep 41 = .ok (.getfield 28, 3) := by decide +kernel
theorem dX3_keep_44 : decode cX3_keep 44 = .ok (.iconst 1, 1) := by decide +kernel
theorem dX3_keep_45 : decode cX3_keep 45 = .ok (.iadd, 1) := by decide +kernel
theorem dX3_keep_46 : decode cX3_keep 46 = .ok (.putfield 28, 3) := by decide +kernel
theorem dX3_keep_49 : decode cX3_keep 49 = .ok (.return_, 1) := by decide +kernel
theorem dX3_takeRow_0 : decode cX3_takeRow 0 = .ok (.aload_n 0, 1) := by decide +kernel
theorem dX3_takeRow_1 : decode cX3_takeRow 1 = .ok (.getfield 65, 3) := by decide +kernel
theorem dX3_takeRow_4 : decode cX3_takeRow 4 = .ok (.iconst 2, 1) := by decide +kernel
theorem dX3_takeRow_5 : decode cX3_takeRow 5 = .ok (.if_icmp .ne 10, 3) := by decide +kernel
theorem dX3_takeRow_8 : decode cX3_takeRow 8 = .ok (.aload_n 0, 1) := by decide +kernel
theorem dX3_takeRow_9 : decode cX3_takeRow 9 = .ok (.getfield 14, 3) := by decide +kernel
theorem dX3_takeRow_12 : decode cX3_takeRow 12 = .ok (.invokevirtual 109, 3) := by decide +kernel
theorem dX3_takeRow_15 : decode cX3_takeRow 15 = .ok (.iconst 0, 1) := by decide +kernel
theorem dX3_takeRow_16 : decode cX3_takeRow 16 = .ok (.istore_n 2, 1) := by decide +kernel
theorem dX3_takeRow_17 : decode cX3_takeRow 17 = .ok (.iload_n 2, 1) := by decide +kernel
theorem dX3_takeRow_18 : decode cX3_takeRow 18 = .ok (.aload_n 0, 1) := by decide +kernel
theorem dX3_takeRow_19 : decode cX3_takeRow 19 = .ok (.getfield 74, 3) := by decide +kernel
theorem dX3_takeRow_22 : decode cX3_takeRow 22 = .ok (.if_icmp .ge 42, 3) := by decide +kernel
theorem dX3_takeRow_25 : decode cX3_takeRow 25 = .ok (.iload_n 2, 1) := by decide +kernel
theorem dX3_takeRow_26 : decode cX3_takeRow 26 = .ok (.ldc 112, 2) := by decide +kernel
theorem dX3_takeRow_28 : decode cX3_takeRow 28 = .ok (.if_icmp .ge 36, 3) := by decide +kernel
theorem dX3_takeRow_31 : decode cX3_takeRow 31 = .ok (.aload_n 0, 1) := by decide +kernel
theorem dX3_takeRow_32 : decode cX3_takeRow 32 = .ok (.iload_n 2, 1) := by decide +kernel
theorem dX3_takeRow_33 : decode cX3_takeRow 33 = .ok (.aload_n 0, 1) := by decide +kernel
theorem dX3_takeRow_34 : decode cX3_takeRow 34 = .ok (.getfield 68, 3) := by decide +kernel
theorem dX3_takeRow_37 : decode cX3_takeRow 37 = .ok (.iconst 1, 1) := by decide +kernel
theorem dX3_takeRow_38 : decode cX3_takeRow 38 = .ok (.isub, 1) := by decide +kernel
theorem dX3_takeRow_39 : decode cX3_takeRow 39 = .ok (.iand, 1) := by decide +kernel
theorem dX3_takeRow_40 : decode cX3_takeRow 40 = .ok (.aload_n 1, 1) := by decide +kernel
theorem dX3_takeRow_41 : decode cX3_takeRow 41 = .ok (.invokevirtual 113, 3) := by decide +kernel
theorem dX3_takeRow_44 : decode cX3_takeRow 44 = .ok (.istore_n 3, 1) := by decide +kernel
theorem dX3_takeRow_45 : decode cX3_takeRow 45 = .ok (.aload_n 0, 1) := by decide +kernel
theorem dX3_takeRow_46 : decode cX3_takeRow 46 = .ok (.getfield 32, 3) := by decide +kernel
theorem dX3_takeRow_49 : decode cX3_takeRow 49 = .ok (.ifCond .eq 4, 3) := by decide +kernel
theorem dX3_takeRow_52 : decode cX3_takeRow 52 = .ok (.return_, 1) := by decide +kernel
theorem dX3_takeRow_53 : decode cX3_takeRow 53 = .ok (.aload_n 0, 1) := by decide +kernel
theorem dX3_takeRow_54 : decode cX3_takeRow 54 = .ok (.iload_n 3, 1) := by decide +kernel
theorem dX3_takeRow_55 : decode cX3_takeRow 55 = .ok (.invokevirtual 117, 3) := by decide +kernel
theorem dX3_takeRow_58 : decode cX3_takeRow 58 = .ok (.iinc 2 1, 3) := by decide +kernel
theorem dX3_takeRow_61 : decode cX3_takeRow 61 = .ok (.goto (-44), 3) := by decide +kernel
theorem dX3_takeRow_64 : decode cX3_takeRow 64 = .ok (.return_, 1) := by decide +kernel
theorem dX3_judgeEnd_0 : decode cX3_judgeEnd 0 = .ok (.aload_n 0, 1) := by decide +kernel
theorem dX3_judgeEnd_1 : decode cX3_judgeEnd 1 = .ok (.getfield 65, 3) := by decide +kernel
theorem dX3_judgeEnd_4 : decode cX3_judgeEnd 4 = .ok (.aload_n 0, 1) := by decide +kernel
theorem dX3_judgeEnd_5 : decode cX3_judgeEnd 5 = .ok (.getfield 14, 3) := by decide +kernel
theorem dX3_judgeEnd_8 : decode cX3_judgeEnd 8 = .ok (.getfield 77, 3) := by decide +kernel
theorem dX3_judgeEnd_11 : decode cX3_judgeEnd 11 = .ok (.invokestatic 99, 3) := by decide +kernel
theorem dX3_judgeEnd_14 : decode cX3_judgeEnd 14 = .ok (.lstore_n 2, 1) := by decide +kernel
theorem dX3_judgeEnd_15 : decode cX3_judgeEnd 15 = .ok (.iconst 0, 1) := by decide +kernel
theorem dX3_judgeEnd_16 : decode cX3_judgeEnd 16 = .ok (.istore 4, 2) := by decide +kernel
theorem dX3_judgeEnd_18 : decode cX3_judgeEnd 18 = .ok (.iload 4, 2) := by decide +kernel
theorem dX3_judgeEnd_20 : decode cX3_judgeEnd 20 = .ok (.aload_n 0, 1) := by decide +kernel
theorem dX3_judgeEnd_21 : decode cX3_judgeEnd 21 = .ok (.getfield 68, 3) := by decide +kernel
theorem dX3_judgeEnd_24 : decode cX3_judgeEnd 24 = .ok (.if_icmp .ge 33, 3) := by decide +kernel
theorem dX3_judgeEnd_27 : decode cX3_judgeEnd 27 = .ok (.iload 4, 2) := by decide +kernel
theorem dX3_judgeEnd_29 : decode cX3_judgeEnd 29 = .ok (.iconst 4, 1) := by decide +kernel
theorem dX3_judgeEnd_30 : decode cX3_judgeEnd 30 = .ok (.if_icmp .ge 27, 3) := by decide +kernel
theorem dX3_judgeEnd_33 : decode cX3_judgeEnd 33 = .ok (.aload_n 0, 1) := by decide +kernel
theorem dX3_judgeEnd_34 : decode cX3_judgeEnd 34 = .ok (.getfield 20, 3) := by decide +kernel
theorem dX3_judgeEnd_37 : decode cX3_judgeEnd 37 = .ok (.iload 4, 2) := by decide +kernel
theorem dX3_judgeEnd_39 : decode cX3_judgeEnd 39 = .ok (.laload, 1) := by decide +kernel
theorem dX3_judgeEnd_40 : decode cX3_judgeEnd 40 = .ok (.lload_n 2, 1) := by decide +kernel
theorem dX3_judgeEnd_41 : decode cX3_judgeEnd 41 = .ok (.lcmp, 1) := by decide +kernel
theorem dX3_judgeEnd_42 : decode cX3_judgeEnd 42 = .ok (.ifCond .eq 9, 3) := by decide +kernel
theorem dX3_judgeEnd_45 : decode cX3_judgeEnd 45 = .ok (.aload_n 0, 1) := by decide +kernel
theorem dX3_judgeEnd_46 : decode cX3_judgeEnd 46 = .ok (.iconst 5, 1) := by decide +kernel
theorem dX3_judgeEnd_47 : decode cX3_judgeEnd 47 = .ok (.putfield 32, 3) := by decide +kernel
theorem dX3_judgeEnd_50 : decode cX3_judgeEnd 50 = .ok (.return_, 1) := by decide +kernel
theorem dX3_judgeEnd_51 : decode cX3_judgeEnd 51 = .ok (.iinc 4 1, 3) := by decide +kernel
theorem dX3_judgeEnd_54 : decode cX3_judgeEnd 54 = .ok (.goto (-36), 3) := by decide +kernel
theorem dX3_judgeEnd_57 : decode cX3_judgeEnd 57 = .ok (.aload_n 0, 1) := by decide +kernel
theorem dX3_judgeEnd_58 : decode cX3_judgeEnd 58 = .ok (.getfield 35, 3) := by decide +kernel
theorem dX3_judgeEnd_61 : decode cX3_judgeEnd 61 = .ok (.aload_n 1, 1) := by decide +kernel
theorem dX3_judgeEnd_62 : decode cX3_judgeEnd 62 = .ok (.getfield 159, 3) := by decide +kernel
theorem dX3_judgeEnd_65 : decode cX3_judgeEnd 65 = .ok (.if_icmp .lt 10, 3) := by decide +kernel
theorem dX3_judgeEnd_68 : decode cX3_judgeEnd 68 = .ok (.aload_n 0, 1) := by decide +kernel
theorem dX3_judgeEnd_69 : decode cX3_judgeEnd 69 = .ok (.invokevirtual 92, 3) := by decide +kernel
theorem dX3_judgeEnd_72 : decode cX3_judgeEnd 72 = .ok (.ifCond .eq 9, 3) := by decide +kernel
theorem dX3_judgeEnd_75 : decode cX3_judgeEnd 75 = .ok (.aload_n 0, 1) := by decide +kernel
theorem dX3_judgeEnd_76 : decode cX3_judgeEnd 76 = .ok (.bipush 6, 2) := by decide +kernel
theorem dX3_judgeEnd_78 : decode cX3_judgeEnd 78 = .ok (.putfield 32, 3) := by decide +kernel
theorem dX3_judgeEnd_81 : decode cX3_judgeEnd 81 = .ok (.return_, 1) := by decide +kernel
end
section
theorem dX3_takeIn_0 : decode cX3_takeIn 0 = .ok (.aload_n 0, 1) := by decide +kernel
theorem dX3_takeIn_1 : decode cX3_takeIn 1 = .ok (.iconst 0, 1) := by decide +kernel
theorem dX3_takeIn_2 : decode cX3_takeIn 2 = .ok (.putfield 28, 3) := by decide +kernel
theorem dX3_takeIn_5 : decode cX3_takeIn 5 = .ok (.aload_n 0, 1) := by decide +kernel
theorem dX3_takeIn_6 : decode cX3_takeIn 6 = .ok (.iconst 0, 1) := by decide +kernel
theorem dX3_takeIn_7 : decode cX3_takeIn 7 = .ok (.putfield 32, 3) := by decide +kernel
theorem dX3_takeIn_10 : decode cX3_takeIn 10 = .ok (.aload_n 0, 1) := by decide +kernel
theorem dX3_takeIn_11 : decode cX3_takeIn 11 = .ok (.iconst 0, 1) := by decide +kernel
theorem dX3_takeIn_12 : decode cX3_takeIn 12 = .ok (.putfield 35, 3) := by decide +kernel
theorem dX3_takeIn_15 : decode cX3_takeIn 15 = .ok (.aload_n 0, 1) := by decide +kernel
theorem dX3_takeIn_16 : decode cX3_takeIn 16 = .ok (.iconst 0, 1) := by decide +kernel
theorem dX3_takeIn_17 : decode cX3_takeIn 17 = .ok (.putfield 38, 3) := by decide +kernel
theorem dX3_takeIn_20 : decode cX3_takeIn 20 = .ok (.aload_n 0, 1) := by decide +kernel
theorem dX3_takeIn_21 : decode cX3_takeIn 21 = .ok (.iconst 0, 1) := by decide +kernel
theorem dX3_takeIn_22 : decode cX3_takeIn 22 = .ok (.putfield 41, 3) := by decide +kernel
theorem dX3_takeIn_25 : decode cX3_takeIn 25 = .ok (.aload_n 0, 1) := by decide +kernel
theorem dX3_takeIn_26 : decode cX3_takeIn 26 = .ok (.aload_n 1, 1) := by decide +kernel
theorem dX3_takeIn_27 : decode cX3_takeIn 27 = .ok (.invokevirtual 45, 3) := by decide +kernel
theorem dX3_takeIn_30 : decode cX3_takeIn 30 = .ok (.aload_n 0, 1) := by decide +kernel
theorem dX3_takeIn_31 : decode cX3_takeIn 31 = .ok (.getfield 32, 3) := by decide +kernel
theorem dX3_takeIn_34 : decode cX3_takeIn 34 = .ok (.ifCond .ne 8, 3) := by decide +kernel
theorem dX3_takeIn_37 : decode cX3_takeIn 37 = .ok (.aload_n 0, 1) := by decide +kernel
theorem dX3_takeIn_38 : decode cX3_takeIn 38 = .ok (.aload_n 1, 1) := by decide +kernel
theorem dX3_takeIn_39 : decode cX3_takeIn 39 = .ok (.invokevirtual 49, 3) := by decide +kernel
theorem dX3_takeIn_42 : decode cX3_takeIn 42 = .ok (.aload_n 0, 1) := by decide +kernel
theorem dX3_takeIn_43 : decode cX3_takeIn 43 = .ok (.getfield 32, 3) := by decide +kernel
theorem dX3_takeIn_46 : decode cX3_takeIn 46 = .ok (.ifCond .ne 8, 3) := by decide +kernel
theorem dX3_takeIn_49 : decode cX3_takeIn 49 = .ok (.aload_n 0, 1) := by decide +kernel
theorem dX3_takeIn_50 : decode cX3_takeIn 50 = .ok (.aload_n 1, 1) := by decide +kernel
theorem dX3_takeIn_51 : decode cX3_takeIn 51 = .ok (.invokevirtual 52, 3) := by decide +kernel
theorem dX3_takeIn_54 : decode cX3_takeIn 54 = .ok (.aload_n 0, 1) := by decide +kernel
theorem dX3_takeIn_55 : decode cX3_takeIn 55 = .ok (.getfield 32, 3) := by decide +kernel
theorem dX3_takeIn_58 : decode cX3_takeIn 58 = .ok (.ifCond .ne 8, 3) := by decide +kernel
theorem dX3_takeIn_61 : decode cX3_takeIn 61 = .ok (.aload_n 0, 1) := by decide +kernel
theorem dX3_takeIn_62 : decode cX3_takeIn 62 = .ok (.aload_n 1, 1) := by decide +kernel
theorem dX3_takeIn_63 : decode cX3_takeIn 63 = .ok (.invokevirtual 55, 3) := by decide +kernel
theorem dX3_takeIn_66 : decode cX3_takeIn 66 = .ok (.aload_n 0, 1) := by decide +kernel
theorem dX3_takeIn_67 : decode cX3_takeIn 67 = .ok (.getfield 32, 3) := by decide +kernel
theorem dX3_takeIn_70 : decode cX3_takeIn 70 = .ok (.ifCond .ne 8, 3) := by decide +kernel
theorem dX3_takeIn_73 : decode cX3_takeIn 73 = .ok (.aload_n 0, 1) := by decide +kernel
theorem dX3_takeIn_74 : decode cX3_takeIn 74 = .ok (.aload_n 1, 1) := by decide +kernel
theorem dX3_takeIn_75 : decode cX3_takeIn 75 = .ok (.invokevirtual 58, 3) := by decide +kernel
theorem dX3_takeIn_78 : decode cX3_takeIn 78 = .ok (.aload_n 0, 1) := by decide +kernel
theorem dX3_takeIn_79 : decode cX3_takeIn 79 = .ok (.getfield 32, 3) := by decide +kernel
theorem dX3_takeIn_82 : decode cX3_takeIn 82 = .ok (.ifCond .ne 10, 3) := by decide +kernel
theorem dX3_takeIn_85 : decode cX3_takeIn 85 = .ok (.aload_n 0, 1) := by decide +kernel
theorem dX3_takeIn_86 : decode cX3_takeIn 86 = .ok (.getfield 28, 3) := by decide +kernel
theorem dX3_takeIn_89 : decode cX3_takeIn 89 = .ok (.goto 10, 3) := by decide +kernel
theorem dX3_takeIn_92 : decode cX3_takeIn 92 = .ok (.bipush (-10), 2) := by decide +kernel
theorem dX3_takeIn_94 : decode cX3_takeIn 94 = .ok (.aload_n 0, 1) := by decide +kernel
theorem dX3_takeIn_95 : decode cX3_takeIn 95 = .ok (.getfield 35, 3) := by decide +kernel
theorem dX3_takeIn_98 : decode cX3_takeIn 98 = .ok (.isub, 1) := by decide +kernel
theorem dX3_takeIn_99 : decode cX3_takeIn 99 = .ok (.ireturn, 1) := by decide +kernel
theorem dX3_signAt_0 : decode cX3_signAt 0 = .ok (.iload_n 1, 1) := by decide +kernel
theorem dX3_signAt_1 : decode cX3_signAt 1 = .ok (.ifCond .lt 29, 3) := by decide +kernel
theorem dX3_signAt_4 : decode cX3_signAt 4 = .ok (.iload_n 1, 1) := by decide +kernel
theorem dX3_signAt_5 : decode cX3_signAt 5 = .ok (.aload_n 0, 1) := by decide +kernel
theorem dX3_signAt_6 : decode cX3_signAt 6 = .ok (.getfield 28, 3) := by decide +kernel
theorem dX3_signAt_9 : decode cX3_signAt 9 = .ok (.if_icmp .ge 21, 3) := by decide +kernel
theorem dX3_signAt_12 : decode cX3_signAt 12 = .ok (.iload_n 1, 1) := by decide +kernel
theorem dX3_signAt_13 : decode cX3_signAt 13 = .ok (.aload_n 0, 1) := by decide +kernel
theorem dX3_signAt_14 : decode cX3_signAt 14 = .ok (.getfield 24, 3) := by decide +kernel
theorem dX3_signAt_17 : decode cX3_signAt 17 = .ok (.arraylength, 1) := by decide +kernel
theorem dX3_signAt_18 : decode cX3_signAt 18 = .ok (.if_icmp .ge 12, 3) := by decide +kernel
theorem dX3_signAt_21 : decode cX3_signAt 21 = .ok (.aload_n 0, 1) := by decide +kernel
theorem dX3_signAt_22 : decode cX3_signAt 22 = .ok (.getfield 24, 3) := by decide +kernel
theorem dX3_signAt_25 : decode cX3_signAt 25 = .ok (.iload_n 1, 1) := by decide +kernel
theorem dX3_signAt_26 : decode cX3_signAt 26 = .ok (.iaload, 1) := by decide +kernel
theorem dX3_signAt_27 : decode cX3_signAt 27 = .ok (.goto 4, 3) := by decide +kernel
theorem dX3_signAt_30 : decode cX3_signAt 30 = .ok (.iconst (-1), 1) := by decide +kernel
theorem dX3_signAt_31 : decode cX3_signAt 31 = .ok (.ireturn, 1) := by decide +kernel
theorem dX4_howMany_0 : decode cX4_howMany 0 = .ok (.iconst 0, 1) := by decide +kernel
theorem dX4_howMany_1 : decode cX4_howMany 1 = .ok (.istore_n 1, 1) := by decide +kernel
theorem dX4_howMany_2 : decode cX4_howMany 2 = .ok (.iconst 0, 1) := by decide +kernel
theorem dX4_howMany_3 : decode cX4_howMany 3 = .ok (.istore_n 2, 1) := by decide +kernel
theorem dX4_howMany_4 : decode cX4_howMany 4 = .ok (.iload_n 2, 1) := by decide +kernel
theorem dX4_howMany_5 : decode cX4_howMany 5 = .ok (.bipush 32, 2) := by decide +kernel
theorem dX4_howMany_7 : decode cX4_howMany 7 = .ok (.if_icmp .ge 26, 3) := by decide +kernel
theorem dX4_howMany_10 : decode cX4_howMany 10 = .ok (.iload_n 1, 1) := by decide +kernel
theorem dX4_howMany_11 : decode cX4_howMany 11 = .ok (.aload_n 0, 1) := by decide +kernel
theorem dX4_howMany_12 : decode cX4_howMany 12 = .ok (.getfield 9, 3) := by decide +kernel
theorem dX4_howMany_15 : decode cX4_howMany 15 = .ok (.iload_n 2, 1) := by decide +kernel
theorem dX4_howMany_16 : decode cX4_howMany 16 = .ok (.iaload, 1) := by decide +kernel
theorem dX4_howMany_17 : decode cX4_howMany 17 = .ok (.ifCond .le 7, 3) := by decide +kernel
theorem dX4_howMany_20 : decode cX4_howMany 20 = .ok (.iconst 1, 1) := by decide +kernel
theorem dX4_howMany_21 : decode cX4_howMany 21 = .ok (.goto 4, 3) := by decide +kernel
theorem dX4_howMany_24 : decode cX4_howMany 24 = .ok (.iconst 0, 1) := by decide +kernel
theorem dX4_howMany_25 : decode cX4_howMany 25 = .ok (.iadd, 1) := by decide +kernel
theorem dX4_howMany_26 : decode cX4_howMany 26 = .ok (.istore_n 1, 1) := by decide +kernel
theorem dX4_howMany_27 : decode cX4_howMany 27 = .ok (.iinc 2 1, 3) := by decide +kernel
theorem dX4_howMany_30 : decode cX4_howMany 30 = .ok (.goto (-26), 3) := by decide +kernel
theorem dX4_howMany_33 : decode cX4_howMany 33 = .ok (.iload_n 1, 1) := by decide +kernel
theorem dX4_howMany_34 : decode cX4_howMany 34 = .ok (.ireturn, 1) := by decide +kernel
theorem dX4_gainOf_0 : decode cX4_gainOf 0 = .ok (.iload_n 2, 1) := by decide +kernel
theorem dX4_gainOf_1 : decode cX4_gainOf 1 = .ok (.ifCond .le 16, 3) := by decide +kernel
theorem dX4_gainOf_4 : decode cX4_gainOf 4 = .ok (.aload_n 0, 1) := by decide +kernel
theorem dX4_gainOf_5 : decode cX4_gainOf 5 = .ok (.getfield 9, 3) := by decide +kernel
theorem dX4_gainOf_8 : decode cX4_gainOf 8 = .ok (.iload_n 1, 1) := by decide +kernel
theorem dX4_gainOf_9 : decode cX4_gainOf 9 = .ok (.iaload, 1) := by decide +kernel
theorem dX4_gainOf_10 : decode cX4_gainOf 10 = .ok (.aload_n 0, 1) := by decide +kernel
theorem dX4_gainOf_11 : decode cX4_gainOf 11 = .ok (.getfield 38, 3) := by decide +kernel
theorem dX4_gainOf_14 : decode cX4_gainOf 14 = .ok (.if_icmp .lt 5, 3) := by decide +kernel
theorem dX4_gainOf_17 : decode cX4_gainOf 17 = .ok (.lconst 0, 1) := by decide +kernel
theorem dX4_gainOf_18 : decode cX4_gainOf 18 = .ok (.lreturn, 1) := by decide +kernel
theorem dX4_gainOf_19 : decode cX4_gainOf 19 = .ok (.iload_n 2, 1) := by decide +kernel
theorem dX4_gainOf_20 : decode cX4_gainOf 20 = .ok (.i2l, 1) := by decide +kernel
theorem dX4_gainOf_21 : decode cX4_gainOf 21 = .ok (.aload_n 3, 1) := by decide +kernel
theorem dX4_gainOf_22 : decode cX4_gainOf 22 = .ok (.aload_n 0, 1) := by decide +kernel
theorem dX4_gainOf_23 : decode cX4_gainOf 23 = .ok (.getfield 9, 3) := by decide +kernel
theorem dX4_gainOf_26 : decode cX4_gainOf 26 = .ok (.iload_n 1, 1) := by decide +kernel
theorem dX4_gainOf_27 : decode cX4_gainOf 27 = .ok (.iaload, 1) := by decide +kernel
theorem dX4_gainOf_28 : decode cX4_gainOf 28 = .ok (.iconst 1, 1) := by decide +kernel
theorem dX4_gainOf_29 : decode cX4_gainOf 29 = .ok (.iadd, 1) := by decide +kernel
theorem dX4_gainOf_30 : decode cX4_gainOf 30 = .ok (.invokevirtual 72, 3) := by decide +kernel
theorem dX4_gainOf_33 : decode cX4_gainOf 33 = .ok (.aload_n 3, 1) := by decide +kernel
theorem dX4_gainOf_34 : decode cX4_gainOf 34 = .ok (.aload_n 0, 1) := by decide +kernel
theorem dX4_gainOf_35 : decode cX4_gainOf 35 = .ok (.getfield 9, 3) := by decide +kernel
theorem dX4_gainOf_38 : decode cX4_gainOf 38 = .ok (.iload_n 1, 1) := by decide +kernel
theorem dX4_gainOf_39 : decode cX4_gainOf 39 = .ok (.iaload, 1) := by decide +kernel
theorem dX4_gainOf_40 : decode cX4_gainOf 40 = .ok (.invokevirtual 72, 3) := by decide +kernel
theorem dX4_gainOf_43 : decode cX4_gainOf 43 = .ok (.lsub, 1) := by decide +kernel
theorem dX4_gainOf_44 : decode cX4_gainOf 44 = .ok (.lmul, 1) := by decide +kernel
theorem dX4_gainOf_45 : decode cX4_gainOf 45 = .ok (.lreturn, 1) := by decide +kernel
theorem dX4_greatestGain_0 : decode cX4_greatestGain 0 = .ok (.iconst 0, 1) := by decide +kernel
theorem dX4_greatestGain_1 : decode cX4_greatestGain 1 = .ok (.istore_n 1, 1) := by decide +kernel
theorem dX4_greatestGain_2 : decode cX4_greatestGain 2 = .ok (.iconst 1, 1) := by decide +kernel
theorem dX4_greatestGain_3 : decode cX4_greatestGain 3 = .ok (.istore_n 2, 1) := by decide +kernel
theorem dX4_greatestGain_4 : decode cX4_greatestGain 4 = .ok (.iload_n 2, 1) := by decide +kernel
theorem dX4_greatestGain_5 : decode cX4_greatestGain 5 = .ok (.bipush 32, 2) := by decide +kernel
theorem dX4_greatestGain_7 : decode cX4_greatestGain 7 = .ok (.if_icmp .ge 27, 3) := by decide +kernel
theorem dX4_greatestGain_10 : decode cX4_greatestGain 10 = .ok (.aload_n 0, 1) := by decide +kernel
theorem dX4_greatestGain_11 : decode cX4_greatestGain 11 = .ok (.getfield 18, 3) := by decide +kernel
theorem dX4_greatestGain_14 : decode cX4_greatestGain 14 = .ok (.iload_n 2, 1) := by decide +kernel
theorem dX4_greatestGain_15 : decode cX4_greatestGain 15 = .ok (.laload, 1) := by decide +kernel
theorem dX4_greatestGain_16 : decode cX4_greatestGain 16 = .ok (.aload_n 0, 1) := by decide +kernel
theorem dX4_greatestGain_17 : decode cX4_greatestGain 17 = .ok (.getfield 18, 3) := by decide +kernel
theorem dX4_greatestGain_20 : decode cX4_greatestGain 20 = .ok (.iload_n 1, 1) := by decide +kernel
theorem dX4_greatestGain_21 : decode cX4_greatestGain 21 = .ok (.laload, 1) := by decide +kernel
theorem dX4_greatestGain_22 : decode cX4_greatestGain 22 = .ok (.lcmp, 1) := by decide +kernel
theorem dX4_greatestGain_23 : decode cX4_greatestGain 23 = .ok (.ifCond .le 5, 3) := by decide +kernel
theorem dX4_greatestGain_26 : decode cX4_greatestGain 26 = .ok (.iload_n 2, 1) := by decide +kernel
theorem dX4_greatestGain_27 : decode cX4_greatestGain 27 = .ok (.istore_n 1, 1) := by decide +kernel
theorem dX4_greatestGain_28 : decode cX4_greatestGain 28 = .ok (.iinc 2 1, 3) := by decide +kernel
theorem dX4_greatestGain_31 : decode cX4_greatestGain 31 = .ok (.goto (-27), 3) := by decide +kernel
theorem dX4_greatestGain_34 : decode cX4_greatestGain 34 = .ok (.iload_n 1, 1) := by decide +kernel
theorem dX4_greatestGain_35 : decode cX4_greatestGain 35 = .ok (.ireturn, 1) := by decide +kernel
theorem dX4_makeOf_0 : decode cX4_makeOf 0 = .ok (.aload_n 0, 1) := by decide +kernel
theorem dX4_makeOf_1 : decode cX4_makeOf 1 = .ok (.invokevirtual 54, 3) := by decide +kernel
theorem dX4_makeOf_4 : decode cX4_makeOf 4 = .ok (.iconst 0, 1) := by decide +kernel
theorem dX4_makeOf_5 : decode cX4_makeOf 5 = .ok (.istore_n 3, 1) := by decide +kernel
theorem dX4_makeOf_6 : decode cX4_makeOf 6 = .ok (.iconst 0, 1) := by decide +kernel
theorem dX4_makeOf_7 : decode cX4_makeOf 7 = .ok (.istore 4, 2) := by decide +kernel
theorem dX4_makeOf_9 : decode cX4_makeOf 9 = .ok (.iload 4, 2) := by decide +kernel
theorem dX4_makeOf_11 : decode cX4_makeOf 11 = .ok (.bipush 32, 2) := by decide +kernel
theorem dX4_makeOf_13 : decode cX4_makeOf 13 = .ok (.if_icmp .ge 63, 3) := by decide +kernel
theorem dX4_makeOf_16 : decode cX4_makeOf 16 = .ok (.iload 4, 2) := by decide +kernel
theorem dX4_makeOf_18 : decode cX4_makeOf 18 = .ok (.aload_n 1, 1) := by decide +kernel
theorem dX4_makeOf_19 : decode cX4_makeOf 19 = .ok (.arraylength, 1) := by decide +kernel
theorem dX4_makeOf_20 : decode cX4_makeOf 20 = .ok (.if_icmp .ge 56, 3) := by decide +kernel
theorem dX4_makeOf_23 : decode cX4_makeOf 23 = .ok (.aload_n 0, 1) := by decide +kernel
theorem dX4_makeOf_24 : decode cX4_makeOf 24 = .ok (.getfield 9, 3) := by decide +kernel
theorem dX4_makeOf_27 : decode cX4_makeOf 27 = .ok (.iload 4, 2) := by decide +kernel
theorem dX4_makeOf_29 : decode cX4_makeOf 29 = .ok (.aload_n 1, 1) := by decide +kernel
theorem dX4_makeOf_30 : decode cX4_makeOf 30 = .ok (.iload 4, 2) := by decide +kernel
theorem dX4_makeOf_32 : decode cX4_makeOf 32 = .ok (.iaload, 1) := by decide +kernel
theorem dX4_makeOf_33 : decode cX4_makeOf 33 = .ok (.ifCond .le 7, 3) := by decide +kernel
theorem dX4_makeOf_36 : decode cX4_makeOf 36 = .ok (.iconst 1, 1) := by decide +kernel
theorem dX4_makeOf_37 : decode cX4_makeOf 37 = .ok (.goto 4, 3) := by decide +kernel
theorem dX4_makeOf_40 : decode cX4_makeOf 40 = .ok (.iconst 0, 1) := by decide +kernel
theorem dX4_makeOf_41 : decode cX4_makeOf 41 = .ok (.iastore, 1) := by decide +kernel
theorem dX4_makeOf_42 : decode cX4_makeOf 42 = .ok (.aload_n 0, 1) := by decide +kernel
theorem dX4_makeOf_43 : decode cX4_makeOf 43 = .ok (.getfield 18, 3) := by decide +kernel
theorem dX4_makeOf_46 : decode cX4_makeOf 46 = .ok (.iload 4, 2) := by decide +kernel
theorem dX4_makeOf_48 : decode cX4_makeOf 48 = .ok (.aload_n 0, 1) := by decide +kernel
theorem dX4_makeOf_49 : decode cX4_makeOf 49 = .ok (.iload 4, 2) := by decide +kernel
theorem dX4_makeOf_51 : decode cX4_makeOf 51 = .ok (.aload_n 1, 1) := by decide +kernel
theorem dX4_makeOf_52 : decode cX4_makeOf 52 = .ok (.iload 4, 2) := by decide +kernel
theorem dX4_makeOf_54 : decode cX4_makeOf 54 = .ok (.iaload, 1) := by decide +kernel
theorem dX4_makeOf_55 : decode cX4_makeOf 55 = .ok (.aload_n 2, 1) := by decide +kernel
theorem dX4_makeOf_56 : decode cX4_makeOf 56 = .ok (.invokevirtual 61, 3) := by decide +kernel
theorem dX4_makeOf_59 : decode cX4_makeOf 59 = .ok (.lastore, 1) := by decide +kernel
theorem dX4_makeOf_60 : decode cX4_makeOf 60 = .ok (.iload_n 3, 1) := by decide +kernel
theorem dX4_makeOf_61 : decode cX4_makeOf 61 = .ok (.aload_n 0, 1) := by decide +kernel
theorem dX4_makeOf_62 : decode cX4_makeOf 62 = .ok (.getfield 9, 3) := by decide +kernel
theorem dX4_makeOf_65 : decode cX4_makeOf 65 = .ok (.iload 4, 2) := by decide +kernel
theorem dX4_makeOf_67 : decode cX4_makeOf 67 = .ok (.iaload, 1) := by decide +kernel
theorem dX4_makeOf_68 : decode cX4_makeOf 68 = .ok (.iadd, 1) := by decide +kernel
theorem dX4_makeOf_69 : decode cX4_makeOf 69 = .ok (.istore_n 3, 1) := by decide +kernel
theorem dX4_makeOf_70 : decode cX4_makeOf 70 = .ok (.iinc 4 1, 3) := by decide +kernel
theorem dX4_makeOf_73 : decode cX4_makeOf 73 = .ok (.goto (-64), 3) := by decide +kernel
theorem dX4_makeOf_76 : decode cX4_makeOf 76 = .ok (.iload_n 3, 1) := by decide +kernel
theorem dX4_makeOf_77 : decode cX4_makeOf 77 = .ok (.ifCond .ne 4, 3) := by decide +kernel
theorem dX4_makeOf_80 : decode cX4_makeOf 80 = .ok (.return_, 1) := by decide +kernel
theorem dX4_makeOf_81 : decode cX4_makeOf 81 = .ok (.iload_n 3, 1) := by decide +kernel
theorem dX4_makeOf_82 : decode cX4_makeOf 82 = .ok (.istore 4, 2) := by decide +kernel
theorem dX4_makeOf_84 : decode cX4_makeOf 84 = .ok (.iload 4, 2) := by decide +kernel
theorem dX4_makeOf_86 : decode cX4_makeOf 86 = .ok (.aload_n 0, 1) := by decide +kernel
theorem dX4_makeOf_87 : decode cX4_makeOf 87 = .ok (.getfield 38, 3) := by decide +kernel
theorem dX4_makeOf_90 : decode cX4_makeOf 90 = .ok (.if_icmp .ge 55, 3) := by decide +kernel
theorem dX4_makeOf_93 : decode cX4_makeOf 93 = .ok (.aload_n 0, 1) := by decide +kernel
theorem dX4_makeOf_94 : decode cX4_makeOf 94 = .ok (.invokevirtual 65, 3) := by decide +kernel
theorem dX4_makeOf_97 : decode cX4_makeOf 97 = .ok (.istore 5, 2) := by decide +kernel
theorem dX4_makeOf_99 : decode cX4_makeOf 99 = .ok (.aload_n 0, 1) := by decide +kernel
theorem dX4_makeOf_100 : decode cX4_makeOf 100 = .ok (.getfield 9, 3) := by decide +kernel
theorem dX4_makeOf_103 : decode cX4_makeOf 103 = .ok (.iload 5, 2) := by decide +kernel
theorem dX4_makeOf_105 : decode cX4_makeOf 105 = .ok (.dup2, 1) := by decide +kernel
theorem dX4_makeOf_106 : decode cX4_makeOf 106 = .ok (.iaload, 1) := by decide +kernel
theorem dX4_makeOf_107 : decode cX4_makeOf 107 = .ok (.iconst 1, 1) := by decide +kernel
theorem dX4_makeOf_108 : decode cX4_makeOf 108 = .ok (.iadd, 1) := by decide +kernel
theorem dX4_makeOf_109 : decode cX4_makeOf 109 = .ok (.iastore, 1) := by decide +kernel
theorem dX4_makeOf_110 : decode cX4_makeOf 110 = .ok (.aload_n 0, 1) := by decide +kernel
theorem dX4_makeOf_111 : decode cX4_makeOf 111 = .ok (.getfield 18, 3) := by decide +kernel
theorem dX4_makeOf_114 : decode cX4_makeOf 114 = .ok (.iload 5, 2) := by decide +kernel
theorem dX4_makeOf_116 : decode cX4_makeOf 116 = .ok (.aload_n 0, 1) := by decide +kernel
theorem dX4_makeOf_117 : decode cX4_makeOf 117 = .ok (.iload 5, 2) := by decide +kernel
theorem dX4_makeOf_119 : decode cX4_makeOf 119 = .ok (.iload 5, 2) := by decide +kernel
theorem dX4_makeOf_121 : decode cX4_makeOf 121 = .ok (.aload_n 1, 1) := by decide +kernel
theorem dX4_makeOf_122 : decode cX4_makeOf 122 = .ok (.arraylength, 1) := by decide +kernel
theorem dX4_makeOf_123 : decode cX4_makeOf 123 = .ok (.if_icmp .ge 10, 3) := by decide +kernel
theorem dX4_makeOf_126 : decode cX4_makeOf 126 = .ok (.aload_n 1, 1) := by decide +kernel
theorem dX4_makeOf_127 : decode cX4_makeOf 127 = .ok (.iload 5, 2) := by decide +kernel
theorem dX4_makeOf_129 : decode cX4_makeOf 129 = .ok (.iaload, 1) := by decide +kernel
theorem dX4_makeOf_130 : decode cX4_makeOf 130 = .ok (.goto 4, 3) := by decide +kernel
theorem dX4_makeOf_133 : decode cX4_makeOf 133 = .ok (.iconst 0, 1) := by decide +kernel
theorem dX4_makeOf_134 : decode cX4_makeOf 134 = .ok (.aload_n 2, 1) := by decide +kernel
theorem dX4_makeOf_135 : decode cX4_makeOf 135 = .ok (.invokevirtual 61, 3) := by decide +kernel
theorem dX4_makeOf_138 : decode cX4_makeOf 138 = .ok (.lastore, 1) := by decide +kernel
theorem dX4_makeOf_139 : decode cX4_makeOf 139 = .ok (.iinc 4 1, 3) := by decide +kernel
theorem dX4_makeOf_142 : decode cX4_makeOf 142 = .ok (.goto (-58), 3) := by decide +kernel
theorem dX4_makeOf_145 : decode cX4_makeOf 145 = .ok (.aload_n 0, 1) := by decide +kernel
theorem dX4_makeOf_146 : decode cX4_makeOf 146 = .ok (.invokevirtual 69, 3) := by decide +kernel
theorem dX4_makeOf_149 : decode cX4_makeOf 149 = .ok (.return_, 1) := by decide +kernel
theorem dX4_placeOf_0 : decode cX4_placeOf 0 = .ok (.aload_n 0, 1) := by decide +kernel
theorem dX4_placeOf_1 : decode cX4_placeOf 1 = .ok (.iload_n 1, 1) := by decide +kernel
theorem dX4_placeOf_2 : decode cX4_placeOf 2 = .ok (.invokevirtual 90, 3) := by decide +kernel
theorem dX4_placeOf_5 : decode cX4_placeOf 5 = .ok (.iload_n 2, 1) := by decide +kernel
theorem dX4_placeOf_6 : decode cX4_placeOf 6 = .ok (.iadd, 1) := by decide +kernel
theorem dX4_placeOf_7 : decode cX4_placeOf 7 = .ok (.aload_n 0, 1) := by decide +kernel
theorem dX4_placeOf_8 : decode cX4_placeOf 8 = .ok (.iload_n 1, 1) := by decide +kernel
theorem dX4_placeOf_9 : decode cX4_placeOf 9 = .ok (.invokevirtual 94, 3) := by decide +kernel
theorem dX4_placeOf_12 : decode cX4_placeOf 12 = .ok (.isub, 1) := by decide +kernel
theorem dX4_placeOf_13 : decode cX4_placeOf 13 = .ok (.istore_n 3, 1) := by decide +kernel
theorem dX4_placeOf_14 : decode cX4_placeOf 14 = .ok (.iload_n 3, 1) := by decide +kernel
theorem dX4_placeOf_15 : decode cX4_placeOf 15 = .ok (.ifCond .lt 29, 3) := by decide +kernel
theorem dX4_placeOf_18 : decode cX4_placeOf 18 = .ok (.iload_n 3, 1) := by decide +kernel
theorem dX4_placeOf_19 : decode cX4_placeOf 19 = .ok (.aload_n 0, 1) := by decide +kernel
theorem dX4_placeOf_20 : decode cX4_placeOf 20 = .ok (.getfield 38, 3) := by decide +kernel
theorem dX4_placeOf_23 : decode cX4_placeOf 23 = .ok (.if_icmp .ge 21, 3) := by decide +kernel
theorem dX4_placeOf_26 : decode cX4_placeOf 26 = .ok (.iload_n 3, 1) := by decide +kernel
theorem dX4_placeOf_27 : decode cX4_placeOf 27 = .ok (.aload_n 0, 1) := by decide +kernel
theorem dX4_placeOf_28 : decode cX4_placeOf 28 = .ok (.getfield 31, 3) := by decide +kernel
theorem dX4_placeOf_31 : decode cX4_placeOf 31 = .ok (.arraylength, 1) := by decide +kernel
theorem dX4_placeOf_32 : decode cX4_placeOf 32 = .ok (.if_icmp .ge 12, 3) := by decide +kernel
theorem dX4_placeOf_35 : decode cX4_placeOf 35 = .ok (.aload_n 0, 1) := by decide +kernel
theorem dX4_placeOf_36 : decode cX4_placeOf 36 = .ok (.getfield 31, 3) := by decide +kernel
theorem dX4_placeOf_39 : decode cX4_placeOf 39 = .ok (.iload_n 3, 1) := by decide +kernel
theorem dX4_placeOf_40 : decode cX4_placeOf 40 = .ok (.iaload, 1) := by decide +kernel
theorem dX4_placeOf_41 : decode cX4_placeOf 41 = .ok (.goto 4, 3) := by decide +kernel
theorem dX4_placeOf_44 : decode cX4_placeOf 44 = .ok (.iconst 0, 1) := by decide +kernel
theorem dX4_placeOf_45 : decode cX4_placeOf 45 = .ok (.ireturn, 1) := by decide +kernel
theorem dX5_putByTable_0 : decode cX5_putByTable 0 = .ok (.aload_n 0, 1) := by decide +kernel
theorem dX5_putByTable_1 : decode cX5_putByTable 1 = .ok (.getfield 9, 3) := by decide +kernel
theorem dX5_putByTable_4 : decode cX5_putByTable 4 = .ok (.iload_n 1, 1) := by decide +kernel
theorem dX5_putByTable_5 : decode cX5_putByTable 5 = .ok (.laload, 1) := by decide +kernel
theorem dX5_putByTable_6 : decode cX5_putByTable 6 = .ok (.l2i, 1) := by decide +kernel
theorem dX5_putByTable_7 : decode cX5_putByTable 7 = .ok (.istore 4, 2) := by decide +kernel
theorem dX5_putByTable_9 : decode cX5_putByTable 9 = .ok (.aload_n 3, 1) := by decide +kernel
theorem dX5_putByTable_10 : decode cX5_putByTable 10 = .ok (.iload_n 2, 1) := by decide +kernel
theorem dX5_putByTable_11 : decode cX5_putByTable 11 = .ok (.invokevirtual 96, 3) := by decide +kernel
theorem dX5_putByTable_14 : decode cX5_putByTable 14 = .ok (.istore 5, 2) := by decide +kernel
theorem dX5_putByTable_16 : decode cX5_putByTable 16 = .ok (.iconst 0, 1) := by decide +kernel
theorem dX5_putByTable_17 : decode cX5_putByTable 17 = .ok (.istore 6, 2) := by decide +kernel
theorem dX5_putByTable_19 : decode cX5_putByTable 19 = .ok (.iload 6, 2) := by decide +kernel
theorem dX5_putByTable_21 : decode cX5_putByTable 21 = .ok (.bipush 12, 2) := by decide +kernel
theorem dX5_putByTable_23 : decode cX5_putByTable 23 = .ok (.if_icmp .gt 33, 3) := by decide +kernel
theorem dX5_putByTable_26 : decode cX5_putByTable 26 = .ok (.iload 4, 2) := by decide +kernel
theorem dX5_putByTable_28 : decode cX5_putByTable 28 = .ok (.iconst 2, 1) := by decide +kernel
theorem dX5_putByTable_29 : decode cX5_putByTable 29 = .ok (.iload 5, 2) := by decide +kernel
theorem dX5_putByTable_31 : decode cX5_putByTable 31 = .ok (.imul, 1) := by decide +kernel
theorem dX5_putByTable_32 : decode cX5_putByTable 32 = .ok (.if_icmp .lt 24, 3) := by decide +kernel
theorem dX5_putByTable_35 : decode cX5_putByTable 35 = .ok (.aload_n 0, 1) := by decide +kernel
theorem dX5_putByTable_36 : decode cX5_putByTable 36 = .ok (.getfield 18, 3) := by decide +kernel
theorem dX5_putByTable_39 : decode cX5_putByTable 39 = .ok (.iload 4, 2) := by decide +kernel
theorem dX5_putByTable_41 : decode cX5_putByTable 41 = .ok (.invokevirtual 124, 3) := by decide +kernel
theorem dX5_putByTable_44 : decode cX5_putByTable 44 = .ok (.iload 4, 2) := by decide +kernel
theorem dX5_putByTable_46 : decode cX5_putByTable 46 = .ok (.iconst 2, 1) := by decide +kernel
theorem dX5_putByTable_47 : decode cX5_putByTable 47 = .ok (.idiv, 1) := by decide +kernel
theorem dX5_putByTable_48 : decode cX5_putByTable 48 = .ok (.istore 4, 2) := by decide +kernel
theorem dX5_putByTable_50 : decode cX5_putByTable 50 = .ok (.iinc 6 1, 3) := by decide +kernel
theorem dX5_putByTable_53 : decode cX5_putByTable 53 = .ok (.goto (-34), 3) := by decide +kernel
theorem dX5_putByTable_56 : decode cX5_putByTable 56 = .ok (.aload_n 0, 1) := by decide +kernel
theorem dX5_putByTable_57 : decode cX5_putByTable 57 = .ok (.getfield 9, 3) := by decide +kernel
theorem dX5_putByTable_60 : decode cX5_putByTable 60 = .ok (.iload_n 1, 1) := by decide +kernel
theorem dX5_putByTable_61 : decode cX5_putByTable 61 = .ok (.aload_n 3, 1) := by decide +kernel
theorem dX5_putByTable_62 : decode cX5_putByTable 62 = .ok (.getfield 35, 3) := by decide +kernel
theorem dX5_putByTable_65 : decode cX5_putByTable 65 = .ok (.aload_n 3, 1) := by decide +kernel
theorem dX5_putByTable_66 : decode cX5_putByTable 66 = .ok (.iload_n 2, 1) := by decide +kernel
theorem dX5_putByTable_67 : decode cX5_putByTable 67 = .ok (.iload 4, 2) := by decide +kernel
theorem dX5_putByTable_69 : decode cX5_putByTable 69 = .ok (.invokevirtual 127, 3) := by decide +kernel
theorem dX5_putByTable_72 : decode cX5_putByTable 72 = .ok (.iadd, 1) := by decide +kernel
theorem dX5_putByTable_73 : decode cX5_putByTable 73 = .ok (.i2l, 1) := by decide +kernel
theorem dX5_putByTable_74 : decode cX5_putByTable 74 = .ok (.lastore, 1) := by decide +kernel
theorem dX5_putByTable_75 : decode cX5_putByTable 75 = .ok (.return_, 1) := by decide +kernel
theorem dX5_widen_0 : decode cX5_widen 0 = .ok (.iload_n 2, 1) := by decide +kernel
theorem dX5_widen_1 : decode cX5_widen 1 = .ok (.ifCond .le 11, 3) := by decide +kernel
theorem dX5_widen_4 : decode cX5_widen 4 = .ok (.iload_n 2, 1) := by decide +kernel
theorem dX5_widen_5 : decode cX5_widen 5 = .ok (.iconst 1, 1) := by decide +kernel
theorem dX5_widen_6 : decode cX5_widen 6 = .ok (.iload 4, 2) := by decide +kernel
theorem dX5_widen_8 : decode cX5_widen 8 = .ok (.ishl, 1) := by decide +kernel
theorem dX5_widen_9 : decode cX5_widen 9 = .ok (.if_icmp .lt 4, 3) := by decide +kernel
theorem dX5_widen_12 : decode cX5_widen 12 = .ok (.return_, 1) := by decide +kernel
theorem dX5_widen_13 : decode cX5_widen 13 = .ok (.iload 5, 2) := by decide +kernel
theorem dX5_widen_15 : decode cX5_widen 15 = .ok (.iconst 1, 1) := by decide +kernel
theorem dX5_widen_16 : decode cX5_widen 16 = .ok (.if_icmp .ne 7, 3) := by decide +kernel
theorem dX5_widen_19 : decode cX5_widen 19 = .ok (.iconst 4, 1) := by decide +kernel
theorem dX5_widen_20 : decode cX5_widen 20 = .ok (.goto 4, 3) := by decide +kernel
theorem dX5_widen_23 : decode cX5_widen 23 = .ok (.iconst 1, 1) := by decide +kernel
theorem dX5_widen_24 : decode cX5_widen 24 = .ok (.istore 6, 2) := by decide +kernel
theorem dX5_widen_26 : decode cX5_widen 26 = .ok (.lconst 1, 1) := by decide +kernel
theorem dX5_widen_27 : decode cX5_widen 27 = .ok (.iload 5, 2) := by decide +kernel
theorem dX5_widen_29 : decode cX5_widen 29 = .ok (.iconst 1, 1) := by decide +kernel
theorem dX5_widen_30 : decode cX5_widen 30 = .ok (.if_icmp .ne 8, 3) := by decide +kernel
theorem dX5_widen_33 : decode cX5_widen 33 = .ok (.bipush 63, 2) := by decide +kernel
theorem dX5_widen_35 : decode cX5_widen 35 = .ok (.goto 5, 3) := by decide +kernel
theorem dX5_widen_38 : decode cX5_widen 38 = .ok (.bipush 31, 2) := by decide +kernel
theorem dX5_widen_40 : decode cX5_widen 40 = .ok (.iload 4, 2) := by decide +kernel
theorem dX5_widen_42 : decode cX5_widen 42 = .ok (.isub, 1) := by decide +kernel
theorem dX5_widen_43 : decode cX5_widen 43 = .ok (.lshl, 1) := by decide +kernel
theorem dX5_widen_44 : decode cX5_widen 44 = .ok (.iload_n 2, 1) := by decide +kernel
theorem dX5_widen_45 : decode cX5_widen 45 = .ok (.i2l, 1) := by decide +kernel
theorem dX5_widen_46 : decode cX5_widen 46 = .ok (.lmul, 1) := by decide +kernel
theorem dX5_widen_47 : decode cX5_widen 47 = .ok (.lstore 7, 2) := by decide +kernel
theorem dX5_widen_49 : decode cX5_widen 49 = .ok (.aload_n 0, 1) := by decide +kernel
theorem dX5_widen_50 : decode cX5_widen 50 = .ok (.getfield 9, 3) := by decide +kernel
theorem dX5_widen_53 : decode cX5_widen 53 = .ok (.iload_n 1, 1) := by decide +kernel
theorem dX5_widen_54 : decode cX5_widen 54 = .ok (.laload, 1) := by decide +kernel
theorem dX5_widen_55 : decode cX5_widen 55 = .ok (.lstore 9, 2) := by decide +kernel
theorem dX5_widen_57 : decode cX5_widen 57 = .ok (.iconst 0, 1) := by decide +kernel
theorem dX5_widen_58 : decode cX5_widen 58 = .ok (.istore 11, 2) := by decide +kernel
theorem dX5_widen_60 : decode cX5_widen 60 = .ok (.iload 11, 2) := by decide +kernel
theorem dX5_widen_62 : decode cX5_widen 62 = .ok (.iconst 2, 1) := by decide +kernel
theorem dX5_widen_63 : decode cX5_widen 63 = .ok (.if_icmp .ge 50, 3) := by decide +kernel
theorem dX5_widen_66 : decode cX5_widen 66 = .ok (.lload 9, 2) := by decide +kernel
theorem dX5_widen_68 : decode cX5_widen 68 = .ok (.lload 7, 2) := by decide +kernel
theorem dX5_widen_70 : decode cX5_widen 70 = .ok (.lcmp, 1) := by decide +kernel
theorem dX5_widen_71 : decode cX5_widen 71 = .ok (.ifCond .lt 42, 3) := by decide +kernel
theorem dX5_widen_74 : decode cX5_widen 74 = .ok (.iconst 0, 1) := by decide +kernel
theorem dX5_widen_75 : decode cX5_widen 75 = .ok (.istore 12, 2) := by decide +kernel
theorem dX5_widen_77 : decode cX5_widen 77 = .ok (.iload 12, 2) := by decide +kernel
theorem dX5_widen_79 : decode cX5_widen 79 = .ok (.iload 6, 2) := by decide +kernel
theorem dX5_widen_81 : decode cX5_widen 81 = .ok (.if_icmp .ge 26, 3) := by decide +kernel
theorem dX5_widen_84 : decode cX5_widen 84 = .ok (.aload_n 0, 1) := by decide +kernel
theorem dX5_widen_85 : decode cX5_widen 85 = .ok (.getfield 18, 3) := by decide +kernel
theorem dX5_widen_88 : decode cX5_widen 88 = .ok (.lload 9, 2) := by decide +kernel
theorem dX5_widen_90 : decode cX5_widen 90 = .ok (.l2i, 1) := by decide +kernel
theorem dX5_widen_91 : decode cX5_widen 91 = .ok (.invokevirtual 120, 3) := by decide +kernel
theorem dX5_widen_94 : decode cX5_widen 94 = .ok (.lload 9, 2) := by decide +kernel
theorem dX5_widen_96 : decode cX5_widen 96 = .ok (.bipush 8, 2) := by decide +kernel
theorem dX5_widen_98 : decode cX5_widen 98 = .ok (.lshr, 1) := by decide +kernel
theorem dX5_widen_99 : decode cX5_widen 99 = .ok (.lstore 9, 2) := by decide +kernel
theorem dX5_widen_101 : decode cX5_widen 101 = .ok (.iinc 12 1, 3) := by decide +kernel
theorem dX5_widen_104 : decode cX5_widen 104 = .ok (.goto (-27), 3) := by decide +kernel
theorem dX5_widen_107 : decode cX5_widen 107 = .ok (.iinc 11 1, 3) := by decide +kernel
theorem dX5_widen_110 : decode cX5_widen 110 = .ok (.goto (-50), 3) := by decide +kernel
theorem dX5_widen_113 : decode cX5_widen 113 = .ok (.aload_n 0, 1) := by decide +kernel
theorem dX5_widen_114 : decode cX5_widen 114 = .ok (.getfield 9, 3) := by decide +kernel
theorem dX5_widen_117 : decode cX5_widen 117 = .ok (.iload_n 1, 1) := by decide +kernel
theorem dX5_widen_118 : decode cX5_widen 118 = .ok (.lload 9, 2) := by decide +kernel
theorem dX5_widen_120 : decode cX5_widen 120 = .ok (.iload_n 2, 1) := by decide +kernel
theorem dX5_widen_121 : decode cX5_widen 121 = .ok (.i2l, 1) := by decide +kernel
theorem dX5_widen_122 : decode cX5_widen 122 = .ok (.ldiv, 1) := by decide +kernel
theorem dX5_widen_123 : decode cX5_widen 123 = .ok (.iload 4, 2) := by decide +kernel
theorem dX5_widen_125 : decode cX5_widen 125 = .ok (.lshl, 1) := by decide +kernel
theorem dX5_widen_126 : decode cX5_widen 126 = .ok (.lload 9, 2) := by decide +kernel
theorem dX5_widen_128 : decode cX5_widen 128 = .ok (.iload_n 2, 1) := by decide +kernel
theorem dX5_widen_129 : decode cX5_widen 129 = .ok (.i2l, 1) := by decide +kernel
theorem dX5_widen_130 : decode cX5_widen 130 = .ok (.lrem, 1) := by decide +kernel
theorem dX5_widen_131 : decode cX5_widen 131 = .ok (.ladd, 1) := by decide +kernel
theorem dX5_widen_132 : decode cX5_widen 132 = .ok (.iload_n 3, 1) := by decide +kernel
theorem dX5_widen_133 : decode cX5_widen 133 = .ok (.i2l, 1) := by decide +kernel
theorem dX5_widen_134 : decode cX5_widen 134 = .ok (.ladd, 1) := by decide +kernel
theorem dX5_widen_135 : decode cX5_widen 135 = .ok (.lastore, 1) := by decide +kernel
theorem dX5_widen_136 : decode cX5_widen 136 = .ok (.return_, 1) := by decide +kernel
theorem dX5_putTwoSided_0 : decode cX5_putTwoSided 0 = .ok (.iconst 1, 1) := by decide +kernel
theorem dX5_putTwoSided_1 : decode cX5_putTwoSided 1 = .ok (.istore 4, 2) := by decide +kernel
theorem dX5_putTwoSided_3 : decode cX5_putTwoSided 3 = .ok (.iload 4, 2) := by decide +kernel
theorem dX5_putTwoSided_5 : decode cX5_putTwoSided 5 = .ok (.bipush 32, 2) := by decide +kernel
theorem dX5_putTwoSided_7 : decode cX5_putTwoSided 7 = .ok (.if_icmp .ge 69, 3) := by decide +kernel
theorem dX5_putTwoSided_10 : decode cX5_putTwoSided 10 = .ok (.aload_n 3, 1) := by decide +kernel
theorem dX5_putTwoSided_11 : decode cX5_putTwoSided 11 = .ok (.iload_n 2, 1) := by decide +kernel
theorem dX5_putTwoSided_12 : decode cX5_putTwoSided 12 = .ok (.bipush (-2), 2) := by decide +kernel
theorem dX5_putTwoSided_14 : decode cX5_putTwoSided 14 = .ok (.iload 4, 2) := by decide +kernel
theorem dX5_putTwoSided_16 : decode cX5_putTwoSided 16 = .ok (.imul, 1) := by decide +kernel
theorem dX5_putTwoSided_17 : decode cX5_putTwoSided 17 = .ok (.iand, 1) := by decide +kernel
theorem dX5_putTwoSided_18 : decode cX5_putTwoSided 18 = .ok (.iload 4, 2) := by decide +kernel
theorem dX5_putTwoSided_20 : decode cX5_putTwoSided 20 = .ok (.invokevirtual 130, 3) := by decide +kernel
theorem dX5_putTwoSided_23 : decode cX5_putTwoSided 23 = .ok (.istore 5, 2) := by decide +kernel
theorem dX5_putTwoSided_25 : decode cX5_putTwoSided 25 = .ok (.iload_n 2, 1) := by decide +kernel
theorem dX5_putTwoSided_26 : decode cX5_putTwoSided 26 = .ok (.iload 4, 2) := by decide +kernel
theorem dX5_putTwoSided_28 : decode cX5_putTwoSided 28 = .ok (.iand, 1) := by decide +kernel
theorem dX5_putTwoSided_29 : decode cX5_putTwoSided 29 = .ok (.ifCond .ne 19, 3) := by decide +kernel
theorem dX5_putTwoSided_32 : decode cX5_putTwoSided 32 = .ok (.aload_n 0, 1) := by decide +kernel
theorem dX5_putTwoSided_33 : decode cX5_putTwoSided 33 = .ok (.iload_n 1, 1) := by decide +kernel
theorem dX5_putTwoSided_34 : decode cX5_putTwoSided 34 = .ok (.iload 5, 2) := by decide +kernel
theorem dX5_putTwoSided_36 : decode cX5_putTwoSided 36 = .ok (.iconst 0, 1) := by decide +kernel
theorem dX5_putTwoSided_37 : decode cX5_putTwoSided 37 = .ok (.aload_n 3, 1) := by decide +kernel
theorem dX5_putTwoSided_38 : decode cX5_putTwoSided 38 = .ok (.getfield 93, 3) := by decide +kernel
theorem dX5_putTwoSided_41 : decode cX5_putTwoSided 41 = .ok (.iconst 3, 1) := by decide +kernel
theorem dX5_putTwoSided_42 : decode cX5_putTwoSided 42 = .ok (.invokevirtual 116, 3) := by decide +kernel
theorem dX5_putTwoSided_45 : decode cX5_putTwoSided 45 = .ok (.goto 22, 3) := by decide +kernel
theorem dX5_putTwoSided_48 : decode cX5_putTwoSided 48 = .ok (.aload_n 0, 1) := by decide +kernel
theorem dX5_putTwoSided_49 : decode cX5_putTwoSided 49 = .ok (.iload_n 1, 1) := by decide +kernel
theorem dX5_putTwoSided_50 : decode cX5_putTwoSided 50 = .ok (.aload_n 3, 1) := by decide +kernel
theorem dX5_putTwoSided_51 : decode cX5_putTwoSided 51 = .ok (.getfield 35, 3) := by decide +kernel
theorem dX5_putTwoSided_54 : decode cX5_putTwoSided 54 = .ok (.iload 5, 2) := by decide +kernel
theorem dX5_putTwoSided_56 : decode cX5_putTwoSided 56 = .ok (.isub, 1) := by decide +kernel
theorem dX5_putTwoSided_57 : decode cX5_putTwoSided 57 = .ok (.iload 5, 2) := by decide +kernel
theorem dX5_putTwoSided_59 : decode cX5_putTwoSided 59 = .ok (.aload_n 3, 1) := by decide +kernel
theorem dX5_putTwoSided_60 : decode cX5_putTwoSided 60 = .ok (.getfield 93, 3) := by decide +kernel
theorem dX5_putTwoSided_63 : decode cX5_putTwoSided 63 = .ok (.iconst 3, 1) := by decide +kernel
theorem dX5_putTwoSided_64 : decode cX5_putTwoSided 64 = .ok (.invokevirtual 116, 3) := by decide +kernel
theorem dX5_putTwoSided_67 : decode cX5_putTwoSided 67 = .ok (.iload 4, 2) := by decide +kernel
theorem dX5_putTwoSided_69 : decode cX5_putTwoSided 69 = .ok (.iconst 2, 1) := by decide +kernel
theorem dX5_putTwoSided_70 : decode cX5_putTwoSided 70 = .ok (.imul, 1) := by decide +kernel
theorem dX5_putTwoSided_71 : decode cX5_putTwoSided 71 = .ok (.istore 4, 2) := by decide +kernel
theorem dX5_putTwoSided_73 : decode cX5_putTwoSided 73 = .ok (.goto (-70), 3) := by decide +kernel
theorem dX5_putTwoSided_76 : decode cX5_putTwoSided 76 = .ok (.return_, 1) := by decide +kernel
theorem dX5_putSign_0 : decode cX5_putSign 0 = .ok (.iload_n 1, 1) := by decide +kernel
theorem dX5_putSign_1 : decode cX5_putSign 1 = .ok (.lookupswitch 49 #[(2, 27), (3, 38)], 27) := by decide +kernel
theorem dX5_putSign_28 : decode cX5_putSign 28 = .ok (.aload_n 0, 1) := by decide +kernel
theorem dX5_putSign_29 : decode cX5_putSign 29 = .ok (.iload_n 2, 1) := by decide +kernel
theorem dX5_putSign_30 : decode cX5_putSign 30 = .ok (.iload_n 3, 1) := by decide +kernel
theorem dX5_putSign_31 : decode cX5_putSign 31 = .ok (.aload 4, 2) := by decide +kernel
theorem dX5_putSign_33 : decode cX5_putSign 33 = .ok (.invokevirtual 106, 3) := by decide +kernel
theorem dX5_putSign_36 : decode cX5_putSign 36 = .ok (.goto 37, 3) := by decide +kernel
theorem dX5_putSign_39 : decode cX5_putSign 39 = .ok (.aload_n 0, 1) := by decide +kernel
theorem dX5_putSign_40 : decode cX5_putSign 40 = .ok (.iload_n 2, 1) := by decide +kernel
theorem dX5_putSign_41 : decode cX5_putSign 41 = .ok (.iload_n 3, 1) := by decide +kernel
theorem dX5_putSign_42 : decode cX5_putSign 42 = .ok (.aload 4, 2) := by decide +kernel
theorem dX5_putSign_44 : decode cX5_putSign 44 = .ok (.invokevirtual 110, 3) := by decide +kernel
theorem dX5_putSign_47 : decode cX5_putSign 47 = .ok (.goto 26, 3) := by decide +kernel
theorem dX5_putSign_50 : decode cX5_putSign 50 = .ok (.aload_n 0, 1) := by decide +kernel
theorem dX5_putSign_51 : decode cX5_putSign 51 = .ok (.iload_n 2, 1) := by decide +kernel
theorem dX5_putSign_52 : decode cX5_putSign 52 = .ok (.aload 4, 2) := by decide +kernel
theorem dX5_putSign_54 : decode cX5_putSign 54 = .ok (.iload_n 3, 1) := by decide +kernel
theorem dX5_putSign_55 : decode cX5_putSign 55 = .ok (.invokevirtual 96, 3) := by decide +kernel
theorem dX5_putSign_58 : decode cX5_putSign 58 = .ok (.aload 4, 2) := by decide +kernel
theorem dX5_putSign_60 : decode cX5_putSign 60 = .ok (.iload_n 3, 1) := by decide +kernel
theorem dX5_putSign_61 : decode cX5_putSign 61 = .ok (.invokevirtual 113, 3) := by decide +kernel
theorem dX5_putSign_64 : decode cX5_putSign 64 = .ok (.aload 4, 2) := by decide +kernel
theorem dX5_putSign_66 : decode cX5_putSign 66 = .ok (.getfield 93, 3) := by decide +kernel
theorem dX5_putSign_69 : decode cX5_putSign 69 = .ok (.iload_n 1, 1) := by decide +kernel
theorem dX5_putSign_70 : decode cX5_putSign 70 = .ok (.invokevirtual 116, 3) := by decide +kernel
theorem dX5_putSign_73 : decode cX5_putSign 73 = .ok (.return_, 1) := by decide +kernel
theorem dX5_putHead_0 : decode cX5_putHead 0 = .ok (.aload 4, 2) := by decide +kernel
theorem dX5_putHead_2 : decode cX5_putHead 2 = .ok (.iload_n 1, 1) := by decide +kernel
theorem dX5_putHead_3 : decode cX5_putHead 3 = .ok (.iconst 4, 1) := by decide +kernel
theorem dX5_putHead_4 : decode cX5_putHead 4 = .ok (.imul, 1) := by decide +kernel
theorem dX5_putHead_5 : decode cX5_putHead 5 = .ok (.aload_n 0, 1) := by decide +kernel
theorem dX5_putHead_6 : decode cX5_putHead 6 = .ok (.getfield 28, 3) := by decide +kernel
theorem dX5_putHead_9 : decode cX5_putHead 9 = .ok (.iconst 2, 1) := by decide +kernel
theorem dX5_putHead_10 : decode cX5_putHead 10 = .ok (.idiv, 1) := by decide +kernel
theorem dX5_putHead_11 : decode cX5_putHead 11 = .ok (.iadd, 1) := by decide +kernel
theorem dX5_putHead_12 : decode cX5_putHead 12 = .ok (.invokevirtual 89, 3) := by decide +kernel
theorem dX5_putHead_15 : decode cX5_putHead 15 = .ok (.pop, 1) := by decide +kernel
theorem dX5_putHead_16 : decode cX5_putHead 16 = .ok (.aload 4, 2) := by decide +kernel
theorem dX5_putHead_18 : decode cX5_putHead 18 = .ok (.aload_n 3, 1) := by decide +kernel
theorem dX5_putHead_19 : decode cX5_putHead 19 = .ok (.getfield 93, 3) := by decide +kernel
theorem dX5_putHead_22 : decode cX5_putHead 22 = .ok (.invokevirtual 89, 3) := by decide +kernel
theorem dX5_putHead_25 : decode cX5_putHead 25 = .ok (.pop, 1) := by decide +kernel
theorem dX5_putHead_26 : decode cX5_putHead 26 = .ok (.aload 4, 2) := by decide +kernel
theorem dX5_putHead_28 : decode cX5_putHead 28 = .ok (.iload_n 2, 1) := by decide +kernel
theorem dX5_putHead_29 : decode cX5_putHead 29 = .ok (.i2l, 1) := by decide +kernel
theorem dX5_putHead_30 : decode cX5_putHead 30 = .ok (.iconst 2, 1) := by decide +kernel
theorem dX5_putHead_31 : decode cX5_putHead 31 = .ok (.invokevirtual 77, 3) := by decide +kernel
theorem dX5_putHead_34 : decode cX5_putHead 34 = .ok (.return_, 1) := by decide +kernel
end
section
theorem dX5_putTable_0 : decode cX5_putTable 0 = .ok (.aload_n 1, 1) := by decide +kernel
theorem dX5_putTable_1 : decode cX5_putTable 1 = .ok (.getfield 35, 3) := by decide +kernel
theorem dX5_putTable_4 : decode cX5_putTable 4 = .ok (.istore_n 3, 1) := by decide +kernel
theorem dX5_putTable_5 : decode cX5_putTable 5 = .ok (.iconst 0, 1) := by decide +kernel
theorem dX5_putTable_6 : decode cX5_putTable 6 = .ok (.istore 4, 2) := by decide +kernel
theorem dX5_putTable_8 : decode cX5_putTable 8 = .ok (.iload 4, 2) := by decide +kernel
theorem dX5_putTable_10 : decode cX5_putTable 10 = .ok (.bipush 32, 2) := by decide +kernel
theorem dX5_putTable_12 : decode cX5_putTable 12 = .ok (.if_icmp .ge 36, 3) := by decide +kernel
theorem dX5_putTable_15 : decode cX5_putTable 15 = .ok (.iload_n 3, 1) := by decide +kernel
theorem dX5_putTable_16 : decode cX5_putTable 16 = .ok (.ifCond .le 32, 3) := by decide +kernel
theorem dX5_putTable_19 : decode cX5_putTable 19 = .ok (.aload_n 2, 1) := by decide +kernel
theorem dX5_putTable_20 : decode cX5_putTable 20 = .ok (.aload_n 1, 1) := by decide +kernel
theorem dX5_putTable_21 : decode cX5_putTable 21 = .ok (.iload 4, 2) := by decide +kernel
theorem dX5_putTable_23 : decode cX5_putTable 23 = .ok (.invokevirtual 96, 3) := by decide +kernel
theorem dX5_putTable_26 : decode cX5_putTable 26 = .ok (.iload_n 3, 1) := by decide +kernel
theorem dX5_putTable_27 : decode cX5_putTable 27 = .ok (.invokestatic 99, 3) := by decide +kernel
theorem dX5_putTable_30 : decode cX5_putTable 30 = .ok (.invokevirtual 102, 3) := by decide +kernel
theorem dX5_putTable_33 : decode cX5_putTable 33 = .ok (.iload_n 3, 1) := by decide +kernel
theorem dX5_putTable_34 : decode cX5_putTable 34 = .ok (.aload_n 1, 1) := by decide +kernel
theorem dX5_putTable_35 : decode cX5_putTable 35 = .ok (.iload 4, 2) := by decide +kernel
theorem dX5_putTable_37 : decode cX5_putTable 37 = .ok (.invokevirtual 96, 3) := by decide +kernel
theorem dX5_putTable_40 : decode cX5_putTable 40 = .ok (.isub, 1) := by decide +kernel
theorem dX5_putTable_41 : decode cX5_putTable 41 = .ok (.istore_n 3, 1) := by decide +kernel
theorem dX5_putTable_42 : decode cX5_putTable 42 = .ok (.iinc 4 1, 3) := by decide +kernel
theorem dX5_putTable_45 : decode cX5_putTable 45 = .ok (.goto (-37), 3) := by decide +kernel
theorem dX5_putTable_48 : decode cX5_putTable 48 = .ok (.return_, 1) := by decide +kernel
theorem dX5_writeRow_0 : decode cX5_writeRow 0 = .ok (.aload_n 0, 1) := by decide +kernel
theorem dX5_writeRow_1 : decode cX5_writeRow 1 = .ok (.iload 5, 2) := by decide +kernel
theorem dX5_writeRow_3 : decode cX5_writeRow 3 = .ok (.iconst 4, 1) := by decide +kernel
theorem dX5_writeRow_4 : decode cX5_writeRow 4 = .ok (.invokestatic 22, 3) := by decide +kernel
theorem dX5_writeRow_7 : decode cX5_writeRow 7 = .ok (.putfield 28, 3) := by decide +kernel
theorem dX5_writeRow_10 : decode cX5_writeRow 10 = .ok (.aload_n 0, 1) := by decide +kernel
theorem dX5_writeRow_11 : decode cX5_writeRow 11 = .ok (.getfield 18, 3) := by decide +kernel
theorem dX5_writeRow_14 : decode cX5_writeRow 14 = .ok (.invokevirtual 32, 3) := by decide +kernel
theorem dX5_writeRow_17 : decode cX5_writeRow 17 = .ok (.aload_n 0, 1) := by decide +kernel
theorem dX5_writeRow_18 : decode cX5_writeRow 18 = .ok (.getfield 9, 3) := by decide +kernel
theorem dX5_writeRow_21 : decode cX5_writeRow 21 = .ok (.iload 4, 2) := by decide +kernel
theorem dX5_writeRow_23 : decode cX5_writeRow 23 = .ok (.aload_n 3, 1) := by decide +kernel
theorem dX5_writeRow_24 : decode cX5_writeRow 24 = .ok (.getfield 35, 3) := by decide +kernel
theorem dX5_writeRow_27 : decode cX5_writeRow 27 = .ok (.invokestatic 40, 3) := by decide +kernel
theorem dX5_writeRow_30 : decode cX5_writeRow 30 = .ok (.invokestatic 44, 3) := by decide +kernel
theorem dX5_writeRow_33 : decode cX5_writeRow 33 = .ok (.iload 4, 2) := by decide +kernel
theorem dX5_writeRow_35 : decode cX5_writeRow 35 = .ok (.iconst 2, 1) := by decide +kernel
theorem dX5_writeRow_36 : decode cX5_writeRow 36 = .ok (.if_icmp .ne 7, 3) := by decide +kernel
theorem dX5_writeRow_39 : decode cX5_writeRow 39 = .ok (.aload_n 3, 1) := by decide +kernel
theorem dX5_writeRow_40 : decode cX5_writeRow 40 = .ok (.invokevirtual 50, 3) := by decide +kernel
theorem dX5_writeRow_43 : decode cX5_writeRow 43 = .ok (.iload_n 2, 1) := by decide +kernel
theorem dX5_writeRow_44 : decode cX5_writeRow 44 = .ok (.aload_n 1, 1) := by decide +kernel
theorem dX5_writeRow_45 : decode cX5_writeRow 45 = .ok (.arraylength, 1) := by decide +kernel
theorem dX5_writeRow_46 : decode cX5_writeRow 46 = .ok (.invokestatic 22, 3) := by decide +kernel
theorem dX5_writeRow_49 : decode cX5_writeRow 49 = .ok (.iconst 1, 1) := by decide +kernel
theorem dX5_writeRow_50 : decode cX5_writeRow 50 = .ok (.isub, 1) := by decide +kernel
theorem dX5_writeRow_51 : decode cX5_writeRow 51 = .ok (.istore 7, 2) := by decide +kernel
theorem dX5_writeRow_53 : decode cX5_writeRow 53 = .ok (.iload 7, 2) := by decide +kernel
theorem dX5_writeRow_55 : decode cX5_writeRow 55 = .ok (.ifCond .lt 36, 3) := by decide +kernel
theorem dX5_writeRow_58 : decode cX5_writeRow 58 = .ok (.aload_n 0, 1) := by decide +kernel
theorem dX5_writeRow_59 : decode cX5_writeRow 59 = .ok (.getfield 18, 3) := by decide +kernel
theorem dX5_writeRow_62 : decode cX5_writeRow 62 = .ok (.invokevirtual 53, 3) := by decide +kernel
theorem dX5_writeRow_65 : decode cX5_writeRow 65 = .ok (.aload_n 0, 1) := by decide +kernel
theorem dX5_writeRow_66 : decode cX5_writeRow 66 = .ok (.iload 4, 2) := by decide +kernel
theorem dX5_writeRow_68 : decode cX5_writeRow 68 = .ok (.iload 7, 2) := by decide +kernel
theorem dX5_writeRow_70 : decode cX5_writeRow 70 = .ok (.aload_n 0, 1) := by decide +kernel
theorem dX5_writeRow_71 : decode cX5_writeRow 71 = .ok (.getfield 28, 3) := by decide +kernel
theorem dX5_writeRow_74 : decode cX5_writeRow 74 = .ok (.iconst 1, 1) := by decide +kernel
theorem dX5_writeRow_75 : decode cX5_writeRow 75 = .ok (.isub, 1) := by decide +kernel
theorem dX5_writeRow_76 : decode cX5_writeRow 76 = .ok (.iand, 1) := by decide +kernel
theorem dX5_writeRow_77 : decode cX5_writeRow 77 = .ok (.aload_n 1, 1) := by decide +kernel
theorem dX5_writeRow_78 : decode cX5_writeRow 78 = .ok (.iload 7, 2) := by decide +kernel
theorem dX5_writeRow_80 : decode cX5_writeRow 80 = .ok (.iaload, 1) := by decide +kernel
theorem dX5_writeRow_81 : decode cX5_writeRow 81 = .ok (.aload_n 3, 1) := by decide +kernel
theorem dX5_writeRow_82 : decode cX5_writeRow 82 = .ok (.invokevirtual 56, 3) := by decide +kernel
theorem dX5_writeRow_85 : decode cX5_writeRow 85 = .ok (.iinc 7 (-1), 3) := by decide +kernel
theorem dX5_writeRow_88 : decode cX5_writeRow 88 = .ok (.goto (-35), 3) := by decide +kernel
theorem dX5_writeRow_91 : decode cX5_writeRow 91 = .ok (.aload 6, 2) := by decide +kernel
theorem dX5_writeRow_93 : decode cX5_writeRow 93 = .ok (.invokevirtual 60, 3) := by decide +kernel
theorem dX5_writeRow_96 : decode cX5_writeRow 96 = .ok (.aload_n 0, 1) := by decide +kernel
theorem dX5_writeRow_97 : decode cX5_writeRow 97 = .ok (.iload 4, 2) := by decide +kernel
theorem dX5_writeRow_99 : decode cX5_writeRow 99 = .ok (.iload_n 2, 1) := by decide +kernel
theorem dX5_writeRow_100 : decode cX5_writeRow 100 = .ok (.aload_n 3, 1) := by decide +kernel
theorem dX5_writeRow_101 : decode cX5_writeRow 101 = .ok (.aload 6, 2) := by decide +kernel
theorem dX5_writeRow_103 : decode cX5_writeRow 103 = .ok (.invokevirtual 65, 3) := by decide +kernel
theorem dX5_writeRow_106 : decode cX5_writeRow 106 = .ok (.aload_n 0, 1) := by decide +kernel
theorem dX5_writeRow_107 : decode cX5_writeRow 107 = .ok (.aload_n 3, 1) := by decide +kernel
theorem dX5_writeRow_108 : decode cX5_writeRow 108 = .ok (.aload 6, 2) := by decide +kernel
theorem dX5_writeRow_110 : decode cX5_writeRow 110 = .ok (.invokevirtual 69, 3) := by decide +kernel
theorem dX5_writeRow_113 : decode cX5_writeRow 113 = .ok (.iconst 0, 1) := by decide +kernel
theorem dX5_writeRow_114 : decode cX5_writeRow 114 = .ok (.istore 7, 2) := by decide +kernel
theorem dX5_writeRow_116 : decode cX5_writeRow 116 = .ok (.iload 7, 2) := by decide +kernel
theorem dX5_writeRow_118 : decode cX5_writeRow 118 = .ok (.aload_n 0, 1) := by decide +kernel
theorem dX5_writeRow_119 : decode cX5_writeRow 119 = .ok (.getfield 28, 3) := by decide +kernel
theorem dX5_writeRow_122 : decode cX5_writeRow 122 = .ok (.if_icmp .ge 26, 3) := by decide +kernel
theorem dX5_writeRow_125 : decode cX5_writeRow 125 = .ok (.aload 6, 2) := by decide +kernel
theorem dX5_writeRow_127 : decode cX5_writeRow 127 = .ok (.aload_n 0, 1) := by decide +kernel
theorem dX5_writeRow_128 : decode cX5_writeRow 128 = .ok (.getfield 9, 3) := by decide +kernel
theorem dX5_writeRow_131 : decode cX5_writeRow 131 = .ok (.iload 7, 2) := by decide +kernel
theorem dX5_writeRow_133 : decode cX5_writeRow 133 = .ok (.laload, 1) := by decide +kernel
theorem dX5_writeRow_134 : decode cX5_writeRow 134 = .ok (.iload 4, 2) := by decide +kernel
theorem dX5_writeRow_136 : decode cX5_writeRow 136 = .ok (.invokestatic 73, 3) := by decide +kernel
theorem dX5_writeRow_139 : decode cX5_writeRow 139 = .ok (.invokevirtual 77, 3) := by decide +kernel
theorem dX5_writeRow_142 : decode cX5_writeRow 142 = .ok (.iinc 7 1, 3) := by decide +kernel
theorem dX5_writeRow_145 : decode cX5_writeRow 145 = .ok (.goto (-29), 3) := by decide +kernel
theorem dX5_writeRow_148 : decode cX5_writeRow 148 = .ok (.aload_n 0, 1) := by decide +kernel
theorem dX5_writeRow_149 : decode cX5_writeRow 149 = .ok (.getfield 18, 3) := by decide +kernel
theorem dX5_writeRow_152 : decode cX5_writeRow 152 = .ok (.aload 6, 2) := by decide +kernel
theorem dX5_writeRow_154 : decode cX5_writeRow 154 = .ok (.invokevirtual 81, 3) := by decide +kernel
theorem dX5_writeRow_157 : decode cX5_writeRow 157 = .ok (.aload_n 0, 1) := by decide +kernel
theorem dX5_writeRow_158 : decode cX5_writeRow 158 = .ok (.iconst 1, 1) := by decide +kernel
theorem dX5_writeRow_159 : decode cX5_writeRow 159 = .ok (.putfield 85, 3) := by decide +kernel
theorem dX5_writeRow_162 : decode cX5_writeRow 162 = .ok (.return_, 1) := by decide +kernel
theorem dX6_add_0 : decode cX6_add 0 = .ok (.iload_n 1, 1) := by decide +kernel
theorem dX6_add_1 : decode cX6_add 1 = .ok (.invokestatic 69, 3) := by decide +kernel
theorem dX6_add_4 : decode cX6_add 4 = .ok (.ifCond .ne 5, 3) := by decide +kernel
theorem dX6_add_7 : decode cX6_add 7 = .ok (.iconst (-1), 1) := by decide +kernel
theorem dX6_add_8 : decode cX6_add 8 = .ok (.ireturn, 1) := by decide +kernel
theorem dX6_add_9 : decode cX6_add 9 = .ok (.aload_n 0, 1) := by decide +kernel
theorem dX6_add_10 : decode cX6_add 10 = .ok (.aload_n 0, 1) := by decide +kernel
theorem dX6_add_11 : decode cX6_add 11 = .ok (.getfield 59, 3) := by decide +kernel
theorem dX6_add_14 : decode cX6_add 14 = .ok (.aload_n 0, 1) := by decide +kernel
theorem dX6_add_15 : decode cX6_add 15 = .ok (.getfield 73, 3) := by decide +kernel
theorem dX6_add_18 : decode cX6_add 18 = .ok (.sipush 1000, 3) := by decide +kernel
theorem dX6_add_21 : decode cX6_add 21 = .ok (.invokestatic 76, 3) := by decide +kernel
theorem dX6_add_24 : decode cX6_add 24 = .ok (.putfield 59, 3) := by decide +kernel
theorem dX6_add_27 : decode cX6_add 27 = .ok (.aload_n 0, 1) := by decide +kernel
theorem dX6_add_28 : decode cX6_add 28 = .ok (.getfield 73, 3) := by decide +kernel
theorem dX6_add_31 : decode cX6_add 31 = .ok (.aload_n 0, 1) := by decide +kernel
theorem dX6_add_32 : decode cX6_add 32 = .ok (.getfield 59, 3) := by decide +kernel
theorem dX6_add_35 : decode cX6_add 35 = .ok (.arraylength, 1) := by decide +kernel
theorem dX6_add_36 : decode cX6_add 36 = .ok (.if_icmp .lt 6, 3) := by decide +kernel
theorem dX6_add_39 : decode cX6_add 39 = .ok (.bipush (-3), 2) := by decide +kernel
theorem dX6_add_41 : decode cX6_add 41 = .ok (.ireturn, 1) := by decide +kernel
theorem dX6_add_42 : decode cX6_add 42 = .ok (.aload_n 0, 1) := by decide +kernel
theorem dX6_add_43 : decode cX6_add 43 = .ok (.getfield 59, 3) := by decide +kernel
theorem dX6_add_46 : decode cX6_add 46 = .ok (.aload_n 0, 1) := by decide +kernel
theorem dX6_add_47 : decode cX6_add 47 = .ok (.getfield 73, 3) := by decide +kernel
theorem dX6_add_50 : decode cX6_add 50 = .ok (.iload_n 1, 1) := by decide +kernel
theorem dX6_add_51 : decode cX6_add 51 = .ok (.iastore, 1) := by decide +kernel
theorem dX6_add_52 : decode cX6_add 52 = .ok (.aload_n 0, 1) := by decide +kernel
theorem dX6_add_53 : decode cX6_add 53 = .ok (.dup, 1) := by decide +kernel
theorem dX6_add_54 : decode cX6_add 54 = .ok (.getfield 73, 3) := by decide +kernel
theorem dX6_add_57 : decode cX6_add 57 = .ok (.iconst 1, 1) := by decide +kernel
theorem dX6_add_58 : decode cX6_add 58 = .ok (.iadd, 1) := by decide +kernel
theorem dX6_add_59 : decode cX6_add 59 = .ok (.putfield 73, 3) := by decide +kernel
theorem dX6_add_62 : decode cX6_add 62 = .ok (.aload_n 0, 1) := by decide +kernel
theorem dX6_add_63 : decode cX6_add 63 = .ok (.getfield 73, 3) := by decide +kernel
theorem dX6_add_66 : decode cX6_add 66 = .ok (.ireturn, 1) := by decide +kernel
theorem dX6_clear_0 : decode cX6_clear 0 = .ok (.aload_n 0, 1) := by decide +kernel
theorem dX6_clear_1 : decode cX6_clear 1 = .ok (.getfield 73, 3) := by decide +kernel
theorem dX6_clear_4 : decode cX6_clear 4 = .ok (.istore_n 1, 1) := by decide +kernel
theorem dX6_clear_5 : decode cX6_clear 5 = .ok (.aload_n 0, 1) := by decide +kernel
theorem dX6_clear_6 : decode cX6_clear 6 = .ok (.iconst 0, 1) := by decide +kernel
theorem dX6_clear_7 : decode cX6_clear 7 = .ok (.putfield 73, 3) := by decide +kernel
theorem dX6_clear_10 : decode cX6_clear 10 = .ok (.iload_n 1, 1) := by decide +kernel
theorem dX6_clear_11 : decode cX6_clear 11 = .ok (.ireturn, 1) := by decide +kernel
theorem dX6_count_0 : decode cX6_count 0 = .ok (.iload_n 1, 1) := by decide +kernel
theorem dX6_count_1 : decode cX6_count 1 = .ok (.invokestatic 69, 3) := by decide +kernel
theorem dX6_count_4 : decode cX6_count 4 = .ok (.ifCond .eq 13, 3) := by decide +kernel
theorem dX6_count_7 : decode cX6_count 7 = .ok (.iload_n 2, 1) := by decide +kernel
theorem dX6_count_8 : decode cX6_count 8 = .ok (.ifCond .lt 9, 3) := by decide +kernel
theorem dX6_count_11 : decode cX6_count 11 = .ok (.iload_n 2, 1) := by decide +kernel
theorem dX6_count_12 : decode cX6_count 12 = .ok (.ldc 80, 2) := by decide +kernel
theorem dX6_count_14 : decode cX6_count 14 = .ok (.if_icmp .le 5, 3) := by decide +kernel
theorem dX6_count_17 : decode cX6_count 17 = .ok (.iconst (-1), 1) := by decide +kernel
theorem dX6_count_18 : decode cX6_count 18 = .ok (.ireturn, 1) := by decide +kernel
theorem dX6_count_19 : decode cX6_count 19 = .ok (.aload_n 0, 1) := by decide +kernel
theorem dX6_count_20 : decode cX6_count 20 = .ok (.getfield 55, 3) := by decide +kernel
theorem dX6_count_23 : decode cX6_count 23 = .ok (.iload_n 1, 1) := by decide +kernel
theorem dX6_count_24 : decode cX6_count 24 = .ok (.iaload, 1) := by decide +kernel
theorem dX6_count_25 : decode cX6_count 25 = .ok (.istore_n 3, 1) := by decide +kernel
theorem dX6_count_26 : decode cX6_count 26 = .ok (.aload_n 0, 1) := by decide +kernel
theorem dX6_count_27 : decode cX6_count 27 = .ok (.getfield 55, 3) := by decide +kernel
theorem dX6_count_30 : decode cX6_count 30 = .ok (.iload_n 1, 1) := by decide +kernel
theorem dX6_count_31 : decode cX6_count 31 = .ok (.iload_n 2, 1) := by decide +kernel
theorem dX6_count_32 : decode cX6_count 32 = .ok (.iastore, 1) := by decide +kernel
theorem dX6_count_33 : decode cX6_count 33 = .ok (.aload_n 0, 1) := by decide +kernel
theorem dX6_count_34 : decode cX6_count 34 = .ok (.getfield 30, 3) := by decide +kernel
theorem dX6_count_37 : decode cX6_count 37 = .ok (.invokevirtual 81, 3) := by decide +kernel
theorem dX6_count_40 : decode cX6_count 40 = .ok (.iload_n 3, 1) := by decide +kernel
theorem dX6_count_41 : decode cX6_count 41 = .ok (.ireturn, 1) := by decide +kernel
theorem dX6_counts_0 : decode cX6_counts 0 = .ok (.aload_n 0, 1) := by decide +kernel
theorem dX6_counts_1 : decode cX6_counts 1 = .ok (.getfield 55, 3) := by decide +kernel
theorem dX6_counts_4 : decode cX6_counts 4 = .ok (.iconst 0, 1) := by decide +kernel
theorem dX6_counts_5 : decode cX6_counts 5 = .ok (.invokestatic 84, 3) := by decide +kernel
theorem dX6_counts_8 : decode cX6_counts 8 = .ok (.iconst 0, 1) := by decide +kernel
theorem dX6_counts_9 : decode cX6_counts 9 = .ok (.istore_n 1, 1) := by decide +kernel
theorem dX6_counts_10 : decode cX6_counts 10 = .ok (.iload_n 1, 1) := by decide +kernel
theorem dX6_counts_11 : decode cX6_counts 11 = .ok (.aload_n 0, 1) := by decide +kernel
theorem dX6_counts_12 : decode cX6_counts 12 = .ok (.getfield 73, 3) := by decide +kernel
theorem dX6_counts_15 : decode cX6_counts 15 = .ok (.if_icmp .ge 45, 3) := by decide +kernel
theorem dX6_counts_18 : decode cX6_counts 18 = .ok (.iload_n 1, 1) := by decide +kernel
theorem dX6_counts_19 : decode cX6_counts 19 = .ok (.aload_n 0, 1) := by decide +kernel
theorem dX6_counts_20 : decode cX6_counts 20 = .ok (.getfield 59, 3) := by decide +kernel
theorem dX6_counts_23 : decode cX6_counts 23 = .ok (.arraylength, 1) := by decide +kernel
theorem dX6_counts_24 : decode cX6_counts 24 = .ok (.if_icmp .ge 36, 3) := by decide +kernel
theorem dX6_counts_27 : decode cX6_counts 27 = .ok (.aload_n 0, 1) := by decide +kernel
theorem dX6_counts_28 : decode cX6_counts 28 = .ok (.getfield 59, 3) := by decide +kernel
theorem dX6_counts_31 : decode cX6_counts 31 = .ok (.iload_n 1, 1) := by decide +kernel
theorem dX6_counts_32 : decode cX6_counts 32 = .ok (.iaload, 1) := by decide +kernel
theorem dX6_counts_33 : decode cX6_counts 33 = .ok (.invokestatic 69, 3) := by decide +kernel
theorem dX6_counts_36 : decode cX6_counts 36 = .ok (.ifCond .eq 18, 3) := by decide +kernel
theorem dX6_counts_39 : decode cX6_counts 39 = .ok (.aload_n 0, 1) := by decide +kernel
theorem dX6_counts_40 : decode cX6_counts 40 = .ok (.getfield 55, 3) := by decide +kernel
theorem dX6_counts_43 : decode cX6_counts 43 = .ok (.aload_n 0, 1) := by decide +kernel
theorem dX6_counts_44 : decode cX6_counts 44 = .ok (.getfield 59, 3) := by decide +kernel
theorem dX6_counts_47 : decode cX6_counts 47 = .ok (.iload_n 1, 1) := by decide +kernel
theorem dX6_counts_48 : decode cX6_counts 48 = .ok (.iaload, 1) := by decide +kernel
theorem dX6_counts_49 : decode cX6_counts 49 = .ok (.dup2, 1) := by decide +kernel
theorem dX6_counts_50 : decode cX6_counts 50 = .ok (.iaload, 1) := by decide +kernel
theorem dX6_counts_51 : decode cX6_counts 51 = .ok (.iconst 1, 1) := by decide +kernel
theorem dX6_counts_52 : decode cX6_counts 52 = .ok (.iadd, 1) := by decide +kernel
theorem dX6_counts_53 : decode cX6_counts 53 = .ok (.iastore, 1) := by decide +kernel
theorem dX6_counts_54 : decode cX6_counts 54 = .ok (.iinc 1 1, 3) := by decide +kernel
theorem dX6_counts_57 : decode cX6_counts 57 = .ok (.goto (-47), 3) := by decide +kernel
theorem dX6_counts_60 : decode cX6_counts 60 = .ok (.aload_n 0, 1) := by decide +kernel
theorem dX6_counts_61 : decode cX6_counts 61 = .ok (.getfield 30, 3) := by decide +kernel
theorem dX6_counts_64 : decode cX6_counts 64 = .ok (.invokevirtual 81, 3) := by decide +kernel
theorem dX6_counts_67 : decode cX6_counts 67 = .ok (.iconst 0, 1) := by decide +kernel
theorem dX6_counts_68 : decode cX6_counts 68 = .ok (.istore_n 1, 1) := by decide +kernel
theorem dX6_counts_69 : decode cX6_counts 69 = .ok (.iconst 0, 1) := by decide +kernel
theorem dX6_counts_70 : decode cX6_counts 70 = .ok (.istore_n 2, 1) := by decide +kernel
theorem dX6_counts_71 : decode cX6_counts 71 = .ok (.iload_n 2, 1) := by decide +kernel
theorem dX6_counts_72 : decode cX6_counts 72 = .ok (.bipush 32, 2) := by decide +kernel
theorem dX6_counts_74 : decode cX6_counts 74 = .ok (.if_icmp .ge 26, 3) := by decide +kernel
theorem dX6_counts_77 : decode cX6_counts 77 = .ok (.iload_n 1, 1) := by decide +kernel
theorem dX6_counts_78 : decode cX6_counts 78 = .ok (.aload_n 0, 1) := by decide +kernel
theorem dX6_counts_79 : decode cX6_counts 79 = .ok (.getfield 55, 3) := by decide +kernel
theorem dX6_counts_82 : decode cX6_counts 82 = .ok (.iload_n 2, 1) := by decide +kernel
theorem dX6_counts_83 : decode cX6_counts 83 = .ok (.iaload, 1) := by decide +kernel
theorem dX6_counts_84 : decode cX6_counts 84 = .ok (.ifCond .le 7, 3) := by decide +kernel
theorem dX6_counts_87 : decode cX6_counts 87 = .ok (.iconst 1, 1) := by decide +kernel
theorem dX6_counts_88 : decode cX6_counts 88 = .ok (.goto 4, 3) := by decide +kernel
theorem dX6_counts_91 : decode cX6_counts 91 = .ok (.iconst 0, 1) := by decide +kernel
theorem dX6_counts_92 : decode cX6_counts 92 = .ok (.iadd, 1) := by decide +kernel
theorem dX6_counts_93 : decode cX6_counts 93 = .ok (.istore_n 1, 1) := by decide +kernel
theorem dX6_counts_94 : decode cX6_counts 94 = .ok (.iinc 2 1, 3) := by decide +kernel
theorem dX6_counts_97 : decode cX6_counts 97 = .ok (.goto (-26), 3) := by decide +kernel
theorem dX6_counts_100 : decode cX6_counts 100 = .ok (.iload_n 1, 1) := by decide +kernel
theorem dX6_counts_101 : decode cX6_counts 101 = .ok (.ireturn, 1) := by decide +kernel
theorem dX6_normal_0 : decode cX6_normal 0 = .ok (.aload_n 0, 1) := by decide +kernel
theorem dX6_normal_1 : decode cX6_normal 1 = .ok (.getfield 30, 3) := by decide +kernel
theorem dX6_normal_4 : decode cX6_normal 4 = .ok (.getfield 90, 3) := by decide +kernel
theorem dX6_normal_7 : decode cX6_normal 7 = .ok (.ifCond .ne 18, 3) := by decide +kernel
theorem dX6_normal_10 : decode cX6_normal 10 = .ok (.aload_n 0, 1) := by decide +kernel
theorem dX6_normal_11 : decode cX6_normal 11 = .ok (.getfield 30, 3) := by decide +kernel
theorem dX6_normal_14 : decode cX6_normal 14 = .ok (.aload_n 0, 1) := by decide +kernel
theorem dX6_normal_15 : decode cX6_normal 15 = .ok (.getfield 55, 3) := by decide +kernel
theorem dX6_normal_18 : decode cX6_normal 18 = .ok (.aload_n 0, 1) := by decide +kernel
theorem dX6_normal_19 : decode cX6_normal 19 = .ok (.getfield 23, 3) := by decide +kernel
theorem dX6_normal_22 : decode cX6_normal 22 = .ok (.invokevirtual 94, 3) := by decide +kernel
theorem dX6_normal_25 : decode cX6_normal 25 = .ok (.aload_n 0, 1) := by decide +kernel
theorem dX6_normal_26 : decode cX6_normal 26 = .ok (.getfield 30, 3) := by decide +kernel
theorem dX6_normal_29 : decode cX6_normal 29 = .ok (.getfield 90, 3) := by decide +kernel
theorem dX6_normal_32 : decode cX6_normal 32 = .ok (.ifCond .eq 13, 3) := by decide +kernel
theorem dX6_normal_35 : decode cX6_normal 35 = .ok (.aload_n 0, 1) := by decide +kernel
theorem dX6_normal_36 : decode cX6_normal 36 = .ok (.getfield 30, 3) := by decide +kernel
theorem dX6_normal_39 : decode cX6_normal 39 = .ok (.invokevirtual 98, 3) := by decide +kernel
theorem dX6_normal_42 : decode cX6_normal 42 = .ok (.goto 5, 3) := by decide +kernel
theorem dX6_normal_45 : decode cX6_normal 45 = .ok (.bipush (-2), 2) := by decide +kernel
theorem dX6_normal_47 : decode cX6_normal 47 = .ok (.ireturn, 1) := by decide +kernel
theorem dX6_share_0 : decode cX6_share 0 = .ok (.iload_n 1, 1) := by decide +kernel
theorem dX6_share_1 : decode cX6_share 1 = .ok (.invokestatic 69, 3) := by decide +kernel
theorem dX6_share_4 : decode cX6_share 4 = .ok (.ifCond .eq 14, 3) := by decide +kernel
theorem dX6_share_7 : decode cX6_share 7 = .ok (.aload_n 0, 1) := by decide +kernel
theorem dX6_share_8 : decode cX6_share 8 = .ok (.getfield 30, 3) := by decide +kernel
theorem dX6_share_11 : decode cX6_share 11 = .ok (.iload_n 1, 1) := by decide +kernel
theorem dX6_share_12 : decode cX6_share 12 = .ok (.invokevirtual 102, 3) := by decide +kernel
theorem dX6_share_15 : decode cX6_share 15 = .ok (.goto 4, 3) := by decide +kernel
theorem dX6_share_18 : decode cX6_share 18 = .ok (.iconst (-1), 1) := by decide +kernel
theorem dX6_share_19 : decode cX6_share 19 = .ok (.ireturn, 1) := by decide +kernel
theorem dX6_loss_0 : decode cX6_loss 0 = .ok (.aload_n 0, 1) := by decide +kernel
theorem dX6_loss_1 : decode cX6_loss 1 = .ok (.getfield 30, 3) := by decide +kernel
theorem dX6_loss_4 : decode cX6_loss 4 = .ok (.getfield 90, 3) := by decide +kernel
theorem dX6_loss_7 : decode cX6_loss 7 = .ok (.ifCond .ne 7, 3) := by decide +kernel
theorem dX6_loss_10 : decode cX6_loss 10 = .ok (.ldc2_w 106, 3) := by decide +kernel
theorem dX6_loss_13 : decode cX6_loss 13 = .ok (.lreturn, 1) := by decide +kernel
theorem dX6_loss_14 : decode cX6_loss 14 = .ok (.lconst 0, 1) := by decide +kernel
theorem dX6_loss_15 : decode cX6_loss 15 = .ok (.lstore_n 1, 1) := by decide +kernel
theorem dX6_loss_16 : decode cX6_loss 16 = .ok (.iconst 0, 1) := by decide +kernel
theorem dX6_loss_17 : decode cX6_loss 17 = .ok (.istore_n 3, 1) := by decide +kernel
theorem dX6_loss_18 : decode cX6_loss 18 = .ok (.iload_n 3, 1) := by decide +kernel
theorem dX6_loss_19 : decode cX6_loss 19 = .ok (.bipush 32, 2) := by decide +kernel
theorem dX6_loss_21 : decode cX6_loss 21 = .ok (.if_icmp .ge 59, 3) := by decide +kernel
theorem dX6_loss_24 : decode cX6_loss 24 = .ok (.aload_n 0, 1) := by decide +kernel
theorem dX6_loss_25 : decode cX6_loss 25 = .ok (.getfield 55, 3) := by decide +kernel
theorem dX6_loss_28 : decode cX6_loss 28 = .ok (.iload_n 3, 1) := by decide +kernel
theorem dX6_loss_29 : decode cX6_loss 29 = .ok (.iaload, 1) := by decide +kernel
theorem dX6_loss_30 : decode cX6_loss 30 = .ok (.ifCond .le 44, 3) := by decide +kernel
theorem dX6_loss_33 : decode cX6_loss 33 = .ok (.lload_n 1, 1) := by decide +kernel
theorem dX6_loss_34 : decode cX6_loss 34 = .ok (.aload_n 0, 1) := by decide +kernel
theorem dX6_loss_35 : decode cX6_loss 35 = .ok (.getfield 55, 3) := by decide +kernel
theorem dX6_loss_38 : decode cX6_loss 38 = .ok (.iload_n 3, 1) := by decide +kernel
theorem dX6_loss_39 : decode cX6_loss 39 = .ok (.iaload, 1) := by decide +kernel
theorem dX6_loss_40 : decode cX6_loss 40 = .ok (.i2l, 1) := by decide +kernel
theorem dX6_loss_41 : decode cX6_loss 41 = .ok (.aload_n 0, 1) := by decide +kernel
theorem dX6_loss_42 : decode cX6_loss 42 = .ok (.getfield 23, 3) := by decide +kernel
theorem dX6_loss_45 : decode cX6_loss 45 = .ok (.aload_n 0, 1) := by decide +kernel
theorem dX6_loss_46 : decode cX6_loss 46 = .ok (.getfield 30, 3) := by decide +kernel
theorem dX6_loss_49 : decode cX6_loss 49 = .ok (.getfield 108, 3) := by decide +kernel
theorem dX6_loss_52 : decode cX6_loss 52 = .ok (.invokevirtual 111, 3) := by decide +kernel
theorem dX6_loss_55 : decode cX6_loss 55 = .ok (.aload_n 0, 1) := by decide +kernel
theorem dX6_loss_56 : decode cX6_loss 56 = .ok (.getfield 23, 3) := by decide +kernel
theorem dX6_loss_59 : decode cX6_loss 59 = .ok (.aload_n 0, 1) := by decide +kernel
theorem dX6_loss_60 : decode cX6_loss 60 = .ok (.getfield 30, 3) := by decide +kernel
theorem dX6_loss_63 : decode cX6_loss 63 = .ok (.iload_n 3, 1) := by decide +kernel
theorem dX6_loss_64 : decode cX6_loss 64 = .ok (.invokevirtual 102, 3) := by decide +kernel
theorem dX6_loss_67 : decode cX6_loss 67 = .ok (.invokevirtual 111, 3) := by decide +kernel
theorem dX6_loss_70 : decode cX6_loss 70 = .ok (.lsub, 1) := by decide +kernel
theorem dX6_loss_71 : decode cX6_loss 71 = .ok (.lmul, 1) := by decide +kernel
theorem dX6_loss_72 : decode cX6_loss 72 = .ok (.ladd, 1) := by decide +kernel
theorem dX6_loss_73 : decode cX6_loss 73 = .ok (.lstore_n 1, 1) := by decide +kernel
theorem dX6_loss_74 : decode cX6_loss 74 = .ok (.iinc 3 1, 3) := by decide +kernel
theorem dX6_loss_77 : decode cX6_loss 77 = .ok (.goto (-59), 3) := by decide +kernel
theorem dX6_loss_80 : decode cX6_loss 80 = .ok (.lload_n 1, 1) := by decide +kernel
theorem dX6_loss_81 : decode cX6_loss 81 = .ok (.lreturn, 1) := by decide +kernel
theorem dX6_lg_0 : decode cX6_lg 0 = .ok (.aload_n 0, 1) := by decide +kernel
theorem dX6_lg_1 : decode cX6_lg 1 = .ok (.getfield 23, 3) := by decide +kernel
theorem dX6_lg_4 : decode cX6_lg 4 = .ok (.iload_n 1, 1) := by decide +kernel
theorem dX6_lg_5 : decode cX6_lg 5 = .ok (.invokevirtual 111, 3) := by decide +kernel
theorem dX6_lg_8 : decode cX6_lg 8 = .ok (.lreturn, 1) := by decide +kernel
theorem dX6_form_0 : decode cX6_form 0 = .ok (.iload_n 1, 1) := by decide +kernel
theorem dX6_form_1 : decode cX6_form 1 = .ok (.ifCond .lt 8, 3) := by decide +kernel
theorem dX6_form_4 : decode cX6_form 4 = .ok (.iload_n 1, 1) := by decide +kernel
theorem dX6_form_5 : decode cX6_form 5 = .ok (.iconst 3, 1) := by decide +kernel
theorem dX6_form_6 : decode cX6_form 6 = .ok (.if_icmp .le 5, 3) := by decide +kernel
theorem dX6_form_9 : decode cX6_form 9 = .ok (.iconst (-1), 1) := by decide +kernel
theorem dX6_form_10 : decode cX6_form 10 = .ok (.ireturn, 1) := by decide +kernel
theorem dX6_form_11 : decode cX6_form 11 = .ok (.aload_n 0, 1) := by decide +kernel
theorem dX6_form_12 : decode cX6_form 12 = .ok (.getfield 62, 3) := by decide +kernel
theorem dX6_form_15 : decode cX6_form 15 = .ok (.istore_n 2, 1) := by decide +kernel
theorem dX6_form_16 : decode cX6_form 16 = .ok (.aload_n 0, 1) := by decide +kernel
theorem dX6_form_17 : decode cX6_form 17 = .ok (.iload_n 1, 1) := by decide +kernel
theorem dX6_form_18 : decode cX6_form 18 = .ok (.putfield 62, 3) := by decide +kernel
theorem dX6_form_21 : decode cX6_form 21 = .ok (.iload_n 2, 1) := by decide +kernel
theorem dX6_form_22 : decode cX6_form 22 = .ok (.ireturn, 1) := by decide +kernel
theorem dX6_lanes_0 : decode cX6_lanes 0 = .ok (.iload_n 1, 1) := by decide +kernel
theorem dX6_lanes_1 : decode cX6_lanes 1 = .ok (.iconst 1, 1) := by decide +kernel
theorem dX6_lanes_2 : decode cX6_lanes 2 = .ok (.if_icmp .eq 15, 3) := by decide +kernel
theorem dX6_lanes_5 : decode cX6_lanes 5 = .ok (.iload_n 1, 1) := by decide +kernel
theorem dX6_lanes_6 : decode cX6_lanes 6 = .ok (.iconst 2, 1) := by decide +kernel
theorem dX6_lanes_7 : decode cX6_lanes 7 = .ok (.if_icmp .eq 10, 3) := by decide +kernel
theorem dX6_lanes_10 : decode cX6_lanes 10 = .ok (.iload_n 1, 1) := by decide +kernel
theorem dX6_lanes_11 : decode cX6_lanes 11 = .ok (.iconst 4, 1) := by decide +kernel
theorem dX6_lanes_12 : decode cX6_lanes 12 = .ok (.if_icmp .eq 5, 3) := by decide +kernel
theorem dX6_lanes_15 : decode cX6_lanes 15 = .ok (.iconst (-1), 1) := by decide +kernel
theorem dX6_lanes_16 : decode cX6_lanes 16 = .ok (.ireturn, 1) := by decide +kernel
theorem dX6_lanes_17 : decode cX6_lanes 17 = .ok (.aload_n 0, 1) := by decide +kernel
theorem dX6_lanes_18 : decode cX6_lanes 18 = .ok (.getfield 66, 3) := by decide +kernel
theorem dX6_lanes_21 : decode cX6_lanes 21 = .ok (.istore_n 2, 1) := by decide +kernel
theorem dX6_lanes_22 : decode cX6_lanes 22 = .ok (.aload_n 0, 1) := by decide +kernel
theorem dX6_lanes_23 : decode cX6_lanes 23 = .ok (.iload_n 1, 1) := by decide +kernel
theorem dX6_lanes_24 : decode cX6_lanes 24 = .ok (.putfield 66, 3) := by decide +kernel
theorem dX6_lanes_27 : decode cX6_lanes 27 = .ok (.iload_n 2, 1) := by decide +kernel
theorem dX6_lanes_28 : decode cX6_lanes 28 = .ok (.ireturn, 1) := by decide +kernel
theorem dX6_isWritable_0 : decode cX6_isWritable 0 = .ok (.aload_n 0, 1) := by decide +kernel
theorem dX6_isWritable_1 : decode cX6_isWritable 1 = .ok (.getfield 30, 3) := by decide +kernel
theorem dX6_isWritable_4 : decode cX6_isWritable 4 = .ok (.getfield 90, 3) := by decide +kernel
theorem dX6_isWritable_7 : decode cX6_isWritable 7 = .ok (.ifCond .ne 5, 3) := by decide +kernel
theorem dX6_isWritable_10 : decode cX6_isWritable 10 = .ok (.iconst 0, 1) := by decide +kernel
theorem dX6_isWritable_11 : decode cX6_isWritable 11 = .ok (.ireturn, 1) := by decide +kernel
theorem dX6_isWritable_12 : decode cX6_isWritable 12 = .ok (.iconst 0, 1) := by decide +kernel
theorem dX6_isWritable_13 : decode cX6_isWritable 13 = .ok (.istore_n 1, 1) := by decide +kernel
theorem dX6_isWritable_14 : decode cX6_isWritable 14 = .ok (.iload_n 1, 1) := by decide +kernel
theorem dX6_isWritable_15 : decode cX6_isWritable 15 = .ok (.aload_n 0, 1) := by decide +kernel
theorem dX6_isWritable_16 : decode cX6_isWritable 16 = .ok (.getfield 73, 3) := by decide +kernel
theorem dX6_isWritable_19 : decode cX6_isWritable 19 = .ok (.if_icmp .ge 36, 3) := by decide +kernel
theorem dX6_isWritable_22 : decode cX6_isWritable 22 = .ok (.iload_n 1, 1) := by decide +kernel
theorem dX6_isWritable_23 : decode cX6_isWritable 23 = .ok (.aload_n 0, 1) := by decide +kernel
theorem dX6_isWritable_24 : decode cX6_isWritable 24 = .ok (.getfield 59, 3) := by decide +kernel
theorem dX6_isWritable_27 : decode cX6_isWritable 27 = .ok (.arraylength, 1) := by decide +kernel
theorem dX6_isWritable_28 : decode cX6_isWritable 28 = .ok (.if_icmp .ge 27, 3) := by decide +kernel
theorem dX6_isWritable_31 : decode cX6_isWritable 31 = .ok (.aload_n 0, 1) := by decide +kernel
theorem dX6_isWritable_32 : decode cX6_isWritable 32 = .ok (.getfield 30, 3) := by decide +kernel
theorem dX6_isWritable_35 : decode cX6_isWritable 35 = .ok (.aload_n 0, 1) := by decide +kernel
theorem dX6_isWritable_36 : decode cX6_isWritable 36 = .ok (.getfield 59, 3) := by decide +kernel
theorem dX6_isWritable_39 : decode cX6_isWritable 39 = .ok (.iload_n 1, 1) := by decide +kernel
theorem dX6_isWritable_40 : decode cX6_isWritable 40 = .ok (.iaload, 1) := by decide +kernel
theorem dX6_isWritable_41 : decode cX6_isWritable 41 = .ok (.invokevirtual 102, 3) := by decide +kernel
theorem dX6_isWritable_44 : decode cX6_isWritable 44 = .ok (.ifCond .ne 5, 3) := by decide +kernel
theorem dX6_isWritable_47 : decode cX6_isWritable 47 = .ok (.iconst 0, 1) := by decide +kernel
theorem dX6_isWritable_48 : decode cX6_isWritable 48 = .ok (.ireturn, 1) := by decide +kernel
theorem dX6_isWritable_49 : decode cX6_isWritable 49 = .ok (.iinc 1 1, 3) := by decide +kernel
theorem dX6_isWritable_52 : decode cX6_isWritable 52 = .ok (.goto (-38), 3) := by decide +kernel
theorem dX6_isWritable_55 : decode cX6_isWritable 55 = .ok (.iconst 1, 1) := by decide +kernel
theorem dX6_isWritable_56 : decode cX6_isWritable 56 = .ok (.ireturn, 1) := by decide +kernel
theorem dX6_write_0 : decode cX6_write 0 = .ok (.aload_n 0, 1) := by decide +kernel
theorem dX6_write_1 : decode cX6_write 1 = .ok (.invokevirtual 115, 3) := by decide +kernel
theorem dX6_write_4 : decode cX6_write 4 = .ok (.ifCond .ne 6, 3) := by decide +kernel
theorem dX6_write_7 : decode cX6_write 7 = .ok (.bipush (-2), 2) := by decide +kernel
theorem dX6_write_9 : decode cX6_write 9 = .ok (.ireturn, 1) := by decide +kernel
theorem dX6_write_10 : decode cX6_write 10 = .ok (.aload_n 0, 1) := by decide +kernel
theorem dX6_write_11 : decode cX6_write 11 = .ok (.getfield 37, 3) := by decide +kernel
theorem dX6_write_14 : decode cX6_write 14 = .ok (.aload_n 0, 1) := by decide +kernel
theorem dX6_write_15 : decode cX6_write 15 = .ok (.getfield 59, 3) := by decide +kernel
theorem dX6_write_18 : decode cX6_write 18 = .ok (.aload_n 0, 1) := by decide +kernel
theorem dX6_write_19 : decode cX6_write 19 = .ok (.getfield 73, 3) := by decide +kernel
theorem dX6_write_22 : decode cX6_write 22 = .ok (.aload_n 0, 1) := by decide +kernel
theorem dX6_write_23 : decode cX6_write 23 = .ok (.getfield 30, 3) := by decide +kernel
theorem dX6_write_26 : decode cX6_write 26 = .ok (.aload_n 0, 1) := by decide +kernel
theorem dX6_write_27 : decode cX6_write 27 = .ok (.getfield 62, 3) := by decide +kernel
theorem dX6_write_30 : decode cX6_write 30 = .ok (.aload_n 0, 1) := by decide +kernel
theorem dX6_write_31 : decode cX6_write 31 = .ok (.getfield 66, 3) := by decide +kernel
theorem dX6_write_34 : decode cX6_write 34 = .ok (.aload_n 0, 1) := by decide +kernel
theorem dX6_write_35 : decode cX6_write 35 = .ok (.getfield 51, 3) := by decide +kernel
theorem dX6_write_38 : decode cX6_write 38 = .ok (.invokevirtual 119, 3) := by decide +kernel
theorem dX6_write_41 : decode cX6_write 41 = .ok (.aload_n 0, 1) := by decide +kernel
theorem dX6_write_42 : decode cX6_write 42 = .ok (.getfield 51, 3) := by decide +kernel
theorem dX6_write_45 : decode cX6_write 45 = .ok (.getfield 123, 3) := by decide +kernel
theorem dX6_write_48 : decode cX6_write 48 = .ok (.ireturn, 1) := by decide +kernel
theorem dX6_read_0 : decode cX6_read 0 = .ok (.aload_n 0, 1) := by decide +kernel
theorem dX6_read_1 : decode cX6_read 1 = .ok (.getfield 44, 3) := by decide +kernel
theorem dX6_read_4 : decode cX6_read 4 = .ok (.aload_n 0, 1) := by decide +kernel
theorem dX6_read_5 : decode cX6_read 5 = .ok (.getfield 51, 3) := by decide +kernel
theorem dX6_read_8 : decode cX6_read 8 = .ok (.invokevirtual 126, 3) := by decide +kernel
theorem dX6_read_11 : decode cX6_read 11 = .ok (.ireturn, 1) := by decide +kernel
theorem dX6_rule_0 : decode cX6_rule 0 = .ok (.aload_n 0, 1) := by decide +kernel
theorem dX6_rule_1 : decode cX6_rule 1 = .ok (.getfield 44, 3) := by decide +kernel
theorem dX6_rule_4 : decode cX6_rule 4 = .ok (.getfield 130, 3) := by decide +kernel
theorem dX6_rule_7 : decode cX6_rule 7 = .ok (.ireturn, 1) := by decide +kernel
theorem dX6_sign_0 : decode cX6_sign 0 = .ok (.aload_n 0, 1) := by decide +kernel
theorem dX6_sign_1 : decode cX6_sign 1 = .ok (.getfield 44, 3) := by decide +kernel
theorem dX6_sign_4 : decode cX6_sign 4 = .ok (.iload_n 1, 1) := by decide +kernel
theorem dX6_sign_5 : decode cX6_sign 5 = .ok (.invokevirtual 133, 3) := by decide +kernel
theorem dX6_sign_8 : decode cX6_sign 8 = .ok (.ireturn, 1) := by decide +kernel
theorem dX6_spread_0 : decode cX6_spread 0 = .ok (.iload_n 1, 1) := by decide +kernel
theorem dX6_spread_1 : decode cX6_spread 1 = .ok (.ifCond .lt 14, 3) := by decide +kernel
theorem dX6_spread_4 : decode cX6_spread 4 = .ok (.iload_n 1, 1) := by decide +kernel
theorem dX6_spread_5 : decode cX6_spread 5 = .ok (.aload_n 0, 1) := by decide +kernel
theorem dX6_spread_6 : decode cX6_spread 6 = .ok (.getfield 30, 3) := by decide +kernel
theorem dX6_spread_9 : decode cX6_spread 9 = .ok (.getfield 108, 3) := by decide +kernel
theorem dX6_spread_12 : decode cX6_spread 12 = .ok (.if_icmp .lt 13, 3) := by decide +kernel
theorem dX6_spread_15 : decode cX6_spread 15 = .ok (.new 136, 3) := by decide +kernel
theorem dX6_spread_18 : decode cX6_spread 18 = .ok (.dup, 1) := by decide +kernel
theorem dX6_spread_19 : decode cX6_spread 19 = .ok (.ldc 138, 2) := by decide +kernel
theorem dX6_spread_21 : decode cX6_spread 21 = .ok (.invokespecial 140, 3) := by decide +kernel
theorem dX6_spread_24 : decode cX6_spread 24 = .ok (.athrow, 1) := by decide +kernel
theorem dX6_spread_25 : decode cX6_spread 25 = .ok (.aload_n 0, 1) := by decide +kernel
theorem dX6_spread_26 : decode cX6_spread 26 = .ok (.getfield 30, 3) := by decide +kernel
theorem dX6_spread_29 : decode cX6_spread 29 = .ok (.getfield 90, 3) := by decide +kernel
theorem dX6_spread_32 : decode cX6_spread 32 = .ok (.ifCond .ne 6, 3) := by decide +kernel
theorem dX6_spread_35 : decode cX6_spread 35 = .ok (.bipush (-2), 2) := by decide +kernel
theorem dX6_spread_37 : decode cX6_spread 37 = .ok (.ireturn, 1) := by decide +kernel
theorem dX6_spread_38 : decode cX6_spread 38 = .ok (.aload_n 0, 1) := by decide +kernel
theorem dX6_spread_39 : decode cX6_spread 39 = .ok (.getfield 30, 3) := by decide +kernel
theorem dX6_spread_42 : decode cX6_spread 42 = .ok (.invokevirtual 143, 3) := by decide +kernel
theorem dX6_spread_45 : decode cX6_spread 45 = .ok (.aload_n 0, 1) := by decide +kernel
theorem dX6_spread_46 : decode cX6_spread 46 = .ok (.getfield 30, 3) := by decide +kernel
theorem dX6_spread_49 : decode cX6_spread 49 = .ok (.iload_n 1, 1) := by decide +kernel
theorem dX6_spread_50 : decode cX6_spread 50 = .ok (.invokevirtual 146, 3) := by decide +kernel
theorem dX6_spread_53 : decode cX6_spread 53 = .ok (.ireturn, 1) := by decide +kernel
theorem dX6_state_0 : decode cX6_state 0 = .ok (.iload_n 2, 1) := by decide +kernel
theorem dX6_state_1 : decode cX6_state 1 = .ok (.ifCond .ge 7, 3) := by decide +kernel
theorem dX6_state_4 : decode cX6_state 4 = .ok (.ldc2_w 106, 3) := by decide +kernel
theorem dX6_state_7 : decode cX6_state 7 = .ok (.lreturn, 1) := by decide +kernel
theorem dX6_state_8 : decode cX6_state 8 = .ok (.iload_n 1, 1) := by decide +kernel
theorem dX6_state_9 : decode cX6_state 9 = .ok (.ifCond .ne 40, 3) := by decide +kernel
theorem dX6_state_12 : decode cX6_state 12 = .ok (.aload_n 0, 1) := by decide +kernel
theorem dX6_state_13 : decode cX6_state 13 = .ok (.getfield 37, 3) := by decide +kernel
theorem dX6_state_16 : decode cX6_state 16 = .ok (.getfield 147, 3) := by decide +kernel
theorem dX6_state_19 : decode cX6_state 19 = .ok (.ifCond .eq 26, 3) := by decide +kernel
theorem dX6_state_22 : decode cX6_state 22 = .ok (.iload_n 2, 1) := by decide +kernel
theorem dX6_state_23 : decode cX6_state 23 = .ok (.aload_n 0, 1) := by decide +kernel
theorem dX6_state_24 : decode cX6_state 24 = .ok (.getfield 37, 3) := by decide +kernel
theorem dX6_state_27 : decode cX6_state 27 = .ok (.getfield 150, 3) := by decide +kernel
theorem dX6_state_30 : decode cX6_state 30 = .ok (.if_icmp .ge 15, 3) := by decide +kernel
theorem dX6_state_33 : decode cX6_state 33 = .ok (.aload_n 0, 1) := by decide +kernel
theorem dX6_state_34 : decode cX6_state 34 = .ok (.getfield 37, 3) := by decide +kernel
theorem dX6_state_37 : decode cX6_state 37 = .ok (.getfield 151, 3) := by decide +kernel
theorem dX6_state_40 : decode cX6_state 40 = .ok (.iload_n 2, 1) := by decide +kernel
theorem dX6_state_41 : decode cX6_state 41 = .ok (.laload, 1) := by decide +kernel
theorem dX6_state_42 : decode cX6_state 42 = .ok (.goto 6, 3) := by decide +kernel
theorem dX6_state_45 : decode cX6_state 45 = .ok (.ldc2_w 106, 3) := by decide +kernel
theorem dX6_state_48 : decode cX6_state 48 = .ok (.lreturn, 1) := by decide +kernel
theorem dX6_state_49 : decode cX6_state 49 = .ok (.iload_n 1, 1) := by decide +kernel
theorem dX6_state_50 : decode cX6_state 50 = .ok (.iconst 1, 1) := by decide +kernel
theorem dX6_state_51 : decode cX6_state 51 = .ok (.if_icmp .ne 40, 3) := by decide +kernel
theorem dX6_state_54 : decode cX6_state 54 = .ok (.aload_n 0, 1) := by decide +kernel
theorem dX6_state_55 : decode cX6_state 55 = .ok (.getfield 44, 3) := by decide +kernel
theorem dX6_state_58 : decode cX6_state 58 = .ok (.getfield 155, 3) := by decide +kernel
theorem dX6_state_61 : decode cX6_state 61 = .ok (.ifCond .eq 26, 3) := by decide +kernel
theorem dX6_state_64 : decode cX6_state 64 = .ok (.iload_n 2, 1) := by decide +kernel
theorem dX6_state_65 : decode cX6_state 65 = .ok (.aload_n 0, 1) := by decide +kernel
theorem dX6_state_66 : decode cX6_state 66 = .ok (.getfield 44, 3) := by decide +kernel
theorem dX6_state_69 : decode cX6_state 69 = .ok (.getfield 158, 3) := by decide +kernel
theorem dX6_state_72 : decode cX6_state 72 = .ok (.if_icmp .ge 15, 3) := by decide +kernel
theorem dX6_state_75 : decode cX6_state 75 = .ok (.aload_n 0, 1) := by decide +kernel
theorem dX6_state_76 : decode cX6_state 76 = .ok (.getfield 44, 3) := by decide +kernel
theorem dX6_state_79 : decode cX6_state 79 = .ok (.getfield 159, 3) := by decide +kernel
theorem dX6_state_82 : decode cX6_state 82 = .ok (.iload_n 2, 1) := by decide +kernel
theorem dX6_state_83 : decode cX6_state 83 = .ok (.laload, 1) := by decide +kernel
theorem dX6_state_84 : decode cX6_state 84 = .ok (.goto 6, 3) := by decide +kernel
theorem dX6_state_87 : decode cX6_state 87 = .ok (.ldc2_w 106, 3) := by decide +kernel
theorem dX6_state_90 : decode cX6_state 90 = .ok (.lreturn, 1) := by decide +kernel
theorem dX6_state_91 : decode cX6_state 91 = .ok (.ldc2_w 106, 3) := by decide +kernel
theorem dX6_state_94 : decode cX6_state 94 = .ok (.lreturn, 1) := by decide +kernel
theorem dX6_out_0 : decode cX6_out 0 = .ok (.aload_n 0, 1) := by decide +kernel
theorem dX6_out_1 : decode cX6_out 1 = .ok (.getfield 51, 3) := by decide +kernel
theorem dX6_out_4 : decode cX6_out 4 = .ok (.iload_n 1, 1) := by decide +kernel
theorem dX6_out_5 : decode cX6_out 5 = .ok (.invokevirtual 160, 3) := by decide +kernel
theorem dX6_out_8 : decode cX6_out 8 = .ok (.ireturn, 1) := by decide +kernel
end
section
theorem dX6_spoil_0 : decode cX6_spoil 0 = .ok (.iload_n 2, 1) := by decide +kernel
theorem dX6_spoil_1 : decode cX6_spoil 1 = .ok (.iconst 1, 1) := by decide +kernel
theorem dX6_spoil_2 : decode cX6_spoil 2 = .ok (.if_icmp .lt 10, 3) := by decide +kernel
theorem dX6_spoil_5 : decode cX6_spoil 5 = .ok (.iload_n 2, 1) := by decide +kernel
theorem dX6_spoil_6 : decode cX6_spoil 6 = .ok (.sipush 255, 3) := by decide +kernel
theorem dX6_spoil_9 : decode cX6_spoil 9 = .ok (.if_icmp .le 5, 3) := by decide +kernel
theorem dX6_spoil_12 : decode cX6_spoil 12 = .ok (.iconst (-1), 1) := by decide +kernel
theorem dX6_spoil_13 : decode cX6_spoil 13 = .ok (.ireturn, 1) := by decide +kernel
theorem dX6_spoil_14 : decode cX6_spoil 14 = .ok (.aload_n 0, 1) := by decide +kernel
theorem dX6_spoil_15 : decode cX6_spoil 15 = .ok (.getfield 51, 3) := by decide +kernel
theorem dX6_spoil_18 : decode cX6_spoil 18 = .ok (.iload_n 1, 1) := by decide +kernel
theorem dX6_spoil_19 : decode cX6_spoil 19 = .ok (.iload_n 2, 1) := by decide +kernel
theorem dX6_spoil_20 : decode cX6_spoil 20 = .ok (.invokevirtual 163, 3) := by decide +kernel
theorem dX6_spoil_23 : decode cX6_spoil 23 = .ok (.ireturn, 1) := by decide +kernel
theorem dX6_cut_0 : decode cX6_cut 0 = .ok (.iload_n 1, 1) := by decide +kernel
theorem dX6_cut_1 : decode cX6_cut 1 = .ok (.ifCond .lt 14, 3) := by decide +kernel
theorem dX6_cut_4 : decode cX6_cut 4 = .ok (.iload_n 1, 1) := by decide +kernel
theorem dX6_cut_5 : decode cX6_cut 5 = .ok (.aload_n 0, 1) := by decide +kernel
theorem dX6_cut_6 : decode cX6_cut 6 = .ok (.getfield 51, 3) := by decide +kernel
theorem dX6_cut_9 : decode cX6_cut 9 = .ok (.getfield 123, 3) := by decide +kernel
theorem dX6_cut_12 : decode cX6_cut 12 = .ok (.if_icmp .le 5, 3) := by decide +kernel
theorem dX6_cut_15 : decode cX6_cut 15 = .ok (.iconst (-1), 1) := by decide +kernel
theorem dX6_cut_16 : decode cX6_cut 16 = .ok (.ireturn, 1) := by decide +kernel
theorem dX6_cut_17 : decode cX6_cut 17 = .ok (.aload_n 0, 1) := by decide +kernel
theorem dX6_cut_18 : decode cX6_cut 18 = .ok (.getfield 51, 3) := by decide +kernel
theorem dX6_cut_21 : decode cX6_cut 21 = .ok (.dup, 1) := by decide +kernel
theorem dX6_cut_22 : decode cX6_cut 22 = .ok (.getfield 123, 3) := by decide +kernel
theorem dX6_cut_25 : decode cX6_cut 25 = .ok (.iload_n 1, 1) := by decide +kernel
theorem dX6_cut_26 : decode cX6_cut 26 = .ok (.isub, 1) := by decide +kernel
theorem dX6_cut_27 : decode cX6_cut 27 = .ok (.putfield 123, 3) := by decide +kernel
theorem dX6_cut_30 : decode cX6_cut 30 = .ok (.aload_n 0, 1) := by decide +kernel
theorem dX6_cut_31 : decode cX6_cut 31 = .ok (.getfield 51, 3) := by decide +kernel
theorem dX6_cut_34 : decode cX6_cut 34 = .ok (.getfield 123, 3) := by decide +kernel
theorem dX6_cut_37 : decode cX6_cut 37 = .ok (.ireturn, 1) := by decide +kernel
theorem dX6_octet_0 : decode cX6_octet 0 = .ok (.aload_n 0, 1) := by decide +kernel
theorem dX6_octet_1 : decode cX6_octet 1 = .ok (.getfield 51, 3) := by decide +kernel
theorem dX6_octet_4 : decode cX6_octet 4 = .ok (.iload_n 1, 1) := by decide +kernel
theorem dX6_octet_5 : decode cX6_octet 5 = .ok (.invokevirtual 166, 3) := by decide +kernel
theorem dX6_octet_8 : decode cX6_octet 8 = .ok (.ifCond .eq 13, 3) := by decide +kernel
theorem dX6_octet_11 : decode cX6_octet 11 = .ok (.aload_n 0, 1) := by decide +kernel
theorem dX6_octet_12 : decode cX6_octet 12 = .ok (.getfield 51, 3) := by decide +kernel
theorem dX6_octet_15 : decode cX6_octet 15 = .ok (.getfield 123, 3) := by decide +kernel
theorem dX6_octet_18 : decode cX6_octet 18 = .ok (.goto 5, 3) := by decide +kernel
theorem dX6_octet_21 : decode cX6_octet 21 = .ok (.bipush (-3), 2) := by decide +kernel
theorem dX6_octet_23 : decode cX6_octet 23 = .ok (.ireturn, 1) := by decide +kernel
theorem dX6_readIsRow_0 : decode cX6_readIsRow 0 = .ok (.iconst 0, 1) := by decide +kernel
theorem dX6_readIsRow_1 : decode cX6_readIsRow 1 = .ok (.istore_n 1, 1) := by decide +kernel
theorem dX6_readIsRow_2 : decode cX6_readIsRow 2 = .ok (.iload_n 1, 1) := by decide +kernel
theorem dX6_readIsRow_3 : decode cX6_readIsRow 3 = .ok (.aload_n 0, 1) := by decide +kernel
theorem dX6_readIsRow_4 : decode cX6_readIsRow 4 = .ok (.getfield 73, 3) := by decide +kernel
theorem dX6_readIsRow_7 : decode cX6_readIsRow 7 = .ok (.if_icmp .ge 37, 3) := by decide +kernel
theorem dX6_readIsRow_10 : decode cX6_readIsRow 10 = .ok (.iload_n 1, 1) := by decide +kernel
theorem dX6_readIsRow_11 : decode cX6_readIsRow 11 = .ok (.aload_n 0, 1) := by decide +kernel
theorem dX6_readIsRow_12 : decode cX6_readIsRow 12 = .ok (.getfield 59, 3) := by decide +kernel
theorem dX6_readIsRow_15 : decode cX6_readIsRow 15 = .ok (.arraylength, 1) := by decide +kernel
theorem dX6_readIsRow_16 : decode cX6_readIsRow 16 = .ok (.if_icmp .ge 28, 3) := by decide +kernel
theorem dX6_readIsRow_19 : decode cX6_readIsRow 19 = .ok (.aload_n 0, 1) := by decide +kernel
theorem dX6_readIsRow_20 : decode cX6_readIsRow 20 = .ok (.getfield 44, 3) := by decide +kernel
theorem dX6_readIsRow_23 : decode cX6_readIsRow 23 = .ok (.iload_n 1, 1) := by decide +kernel
theorem dX6_readIsRow_24 : decode cX6_readIsRow 24 = .ok (.invokevirtual 133, 3) := by decide +kernel
theorem dX6_readIsRow_27 : decode cX6_readIsRow 27 = .ok (.aload_n 0, 1) := by decide +kernel
theorem dX6_readIsRow_28 : decode cX6_readIsRow 28 = .ok (.getfield 59, 3) := by decide +kernel
theorem dX6_readIsRow_31 : decode cX6_readIsRow 31 = .ok (.iload_n 1, 1) := by decide +kernel
theorem dX6_readIsRow_32 : decode cX6_readIsRow 32 = .ok (.iaload, 1) := by decide +kernel
theorem dX6_readIsRow_33 : decode cX6_readIsRow 33 = .ok (.if_icmp .eq 5, 3) := by decide +kernel
theorem dX6_readIsRow_36 : decode cX6_readIsRow 36 = .ok (.iconst 0, 1) := by decide +kernel
theorem dX6_readIsRow_37 : decode cX6_readIsRow 37 = .ok (.ireturn, 1) := by decide +kernel
theorem dX6_readIsRow_38 : decode cX6_readIsRow 38 = .ok (.iinc 1 1, 3) := by decide +kernel
theorem dX6_readIsRow_41 : decode cX6_readIsRow 41 = .ok (.goto (-39), 3) := by decide +kernel
theorem dX6_readIsRow_44 : decode cX6_readIsRow 44 = .ok (.iconst 1, 1) := by decide +kernel
theorem dX6_readIsRow_45 : decode cX6_readIsRow 45 = .ok (.ireturn, 1) := by decide +kernel
theorem dX6_agree_0 : decode cX6_agree 0 = .ok (.aload_n 0, 1) := by decide +kernel
theorem dX6_agree_1 : decode cX6_agree 1 = .ok (.invokevirtual 115, 3) := by decide +kernel
theorem dX6_agree_4 : decode cX6_agree 4 = .ok (.ifCond .ne 6, 3) := by decide +kernel
theorem dX6_agree_7 : decode cX6_agree 7 = .ok (.bipush (-2), 2) := by decide +kernel
theorem dX6_agree_9 : decode cX6_agree 9 = .ok (.ireturn, 1) := by decide +kernel
theorem dX6_agree_10 : decode cX6_agree 10 = .ok (.iconst 1, 1) := by decide +kernel
theorem dX6_agree_11 : decode cX6_agree 11 = .ok (.istore_n 1, 1) := by decide +kernel
theorem dX6_agree_12 : decode cX6_agree 12 = .ok (.iconst 0, 1) := by decide +kernel
theorem dX6_agree_13 : decode cX6_agree 13 = .ok (.istore_n 2, 1) := by decide +kernel
theorem dX6_agree_14 : decode cX6_agree 14 = .ok (.iload_n 2, 1) := by decide +kernel
theorem dX6_agree_15 : decode cX6_agree 15 = .ok (.iconst 3, 1) := by decide +kernel
theorem dX6_agree_16 : decode cX6_agree 16 = .ok (.if_icmp .gt 66, 3) := by decide +kernel
theorem dX6_agree_19 : decode cX6_agree 19 = .ok (.aload_n 0, 1) := by decide +kernel
theorem dX6_agree_20 : decode cX6_agree 20 = .ok (.getfield 37, 3) := by decide +kernel
theorem dX6_agree_23 : decode cX6_agree 23 = .ok (.aload_n 0, 1) := by decide +kernel
theorem dX6_agree_24 : decode cX6_agree 24 = .ok (.getfield 59, 3) := by decide +kernel
theorem dX6_agree_27 : decode cX6_agree 27 = .ok (.aload_n 0, 1) := by decide +kernel
theorem dX6_agree_28 : decode cX6_agree 28 = .ok (.getfield 73, 3) := by decide +kernel
theorem dX6_agree_31 : decode cX6_agree 31 = .ok (.aload_n 0, 1) := by decide +kernel
theorem dX6_agree_32 : decode cX6_agree 32 = .ok (.getfield 30, 3) := by decide +kernel
theorem dX6_agree_35 : decode cX6_agree 35 = .ok (.iload_n 2, 1) := by decide +kernel
theorem dX6_agree_36 : decode cX6_agree 36 = .ok (.aload_n 0, 1) := by decide +kernel
theorem dX6_agree_37 : decode cX6_agree 37 = .ok (.getfield 66, 3) := by decide +kernel
theorem dX6_agree_40 : decode cX6_agree 40 = .ok (.aload_n 0, 1) := by decide +kernel
theorem dX6_agree_41 : decode cX6_agree 41 = .ok (.getfield 51, 3) := by decide +kernel
theorem dX6_agree_44 : decode cX6_agree 44 = .ok (.invokevirtual 119, 3) := by decide +kernel
theorem dX6_agree_47 : decode cX6_agree 47 = .ok (.aload_n 0, 1) := by decide +kernel
theorem dX6_agree_48 : decode cX6_agree 48 = .ok (.getfield 44, 3) := by decide +kernel
theorem dX6_agree_51 : decode cX6_agree 51 = .ok (.aload_n 0, 1) := by decide +kernel
theorem dX6_agree_52 : decode cX6_agree 52 = .ok (.getfield 51, 3) := by decide +kernel
theorem dX6_agree_55 : decode cX6_agree 55 = .ok (.invokevirtual 126, 3) := by decide +kernel
theorem dX6_agree_58 : decode cX6_agree 58 = .ok (.istore_n 3, 1) := by decide +kernel
theorem dX6_agree_59 : decode cX6_agree 59 = .ok (.iload_n 3, 1) := by decide +kernel
theorem dX6_agree_60 : decode cX6_agree 60 = .ok (.aload_n 0, 1) := by decide +kernel
theorem dX6_agree_61 : decode cX6_agree 61 = .ok (.getfield 73, 3) := by decide +kernel
theorem dX6_agree_64 : decode cX6_agree 64 = .ok (.if_icmp .ne 10, 3) := by decide +kernel
theorem dX6_agree_67 : decode cX6_agree 67 = .ok (.aload_n 0, 1) := by decide +kernel
theorem dX6_agree_68 : decode cX6_agree 68 = .ok (.invokevirtual 169, 3) := by decide +kernel
theorem dX6_agree_71 : decode cX6_agree 71 = .ok (.ifCond .ne 5, 3) := by decide +kernel
theorem dX6_agree_74 : decode cX6_agree 74 = .ok (.iconst 0, 1) := by decide +kernel
theorem dX6_agree_75 : decode cX6_agree 75 = .ok (.istore_n 1, 1) := by decide +kernel
theorem dX6_agree_76 : decode cX6_agree 76 = .ok (.iinc 2 1, 3) := by decide +kernel
theorem dX6_agree_79 : decode cX6_agree 79 = .ok (.goto (-65), 3) := by decide +kernel
theorem dX6_agree_82 : decode cX6_agree 82 = .ok (.iload_n 1, 1) := by decide +kernel
theorem dX6_agree_83 : decode cX6_agree 83 = .ok (.ireturn, 1) := by decide +kernel
theorem dX6_told_0 : decode cX6_told 0 = .ok (.iload_n 1, 1) := by decide +kernel
theorem dX6_told_1 : decode cX6_told 1 = .ok (.tableswitch 98 0 6 #[43, 51, 56, 64, 72, 77, 82], 43) := by decide +kernel
theorem dX6_told_44 : decode cX6_told 44 = .ok (.aload_n 0, 1) := by decide +kernel
theorem dX6_told_45 : decode cX6_told 45 = .ok (.getfield 30, 3) := by decide +kernel
theorem dX6_told_48 : decode cX6_told 48 = .ok (.getfield 172, 3) := by decide +kernel
theorem dX6_told_51 : decode cX6_told 51 = .ok (.ireturn, 1) := by decide +kernel
theorem dX6_told_52 : decode cX6_told 52 = .ok (.aload_n 0, 1) := by decide +kernel
theorem dX6_told_53 : decode cX6_told 53 = .ok (.getfield 73, 3) := by decide +kernel
theorem dX6_told_56 : decode cX6_told 56 = .ok (.ireturn, 1) := by decide +kernel
theorem dX6_told_57 : decode cX6_told 57 = .ok (.aload_n 0, 1) := by decide +kernel
theorem dX6_told_58 : decode cX6_told 58 = .ok (.getfield 51, 3) := by decide +kernel
theorem dX6_told_61 : decode cX6_told 61 = .ok (.getfield 123, 3) := by decide +kernel
theorem dX6_told_64 : decode cX6_told 64 = .ok (.ireturn, 1) := by decide +kernel
theorem dX6_told_65 : decode cX6_told 65 = .ok (.aload_n 0, 1) := by decide +kernel
theorem dX6_told_66 : decode cX6_told 66 = .ok (.getfield 44, 3) := by decide +kernel
theorem dX6_told_69 : decode cX6_told 69 = .ok (.getfield 175, 3) := by decide +kernel
theorem dX6_told_72 : decode cX6_told 72 = .ok (.ireturn, 1) := by decide +kernel
theorem dX6_told_73 : decode cX6_told 73 = .ok (.aload_n 0, 1) := by decide +kernel
theorem dX6_told_74 : decode cX6_told 74 = .ok (.getfield 62, 3) := by decide +kernel
theorem dX6_told_77 : decode cX6_told 77 = .ok (.ireturn, 1) := by decide +kernel
theorem dX6_told_78 : decode cX6_told 78 = .ok (.aload_n 0, 1) := by decide +kernel
theorem dX6_told_79 : decode cX6_told 79 = .ok (.getfield 66, 3) := by decide +kernel
theorem dX6_told_82 : decode cX6_told 82 = .ok (.ireturn, 1) := by decide +kernel
theorem dX6_told_83 : decode cX6_told 83 = .ok (.aload_n 0, 1) := by decide +kernel
theorem dX6_told_84 : decode cX6_told 84 = .ok (.getfield 30, 3) := by decide +kernel
theorem dX6_told_87 : decode cX6_told 87 = .ok (.getfield 90, 3) := by decide +kernel
theorem dX6_told_90 : decode cX6_told 90 = .ok (.ifCond .eq 7, 3) := by decide +kernel
theorem dX6_told_93 : decode cX6_told 93 = .ok (.iconst 1, 1) := by decide +kernel
theorem dX6_told_94 : decode cX6_told 94 = .ok (.goto 4, 3) := by decide +kernel
theorem dX6_told_97 : decode cX6_told 97 = .ok (.iconst 0, 1) := by decide +kernel
theorem dX6_told_98 : decode cX6_told 98 = .ok (.ireturn, 1) := by decide +kernel
theorem dX6_told_99 : decode cX6_told 99 = .ok (.iconst (-1), 1) := by decide +kernel
theorem dX6_told_100 : decode cX6_told 100 = .ok (.ireturn, 1) := by decide +kernel
theorem dX1_init_0 : decode cX1_init 0 = .ok (.aload_n 0, 1) := by decide +kernel
theorem dX1_init_1 : decode cX1_init 1 = .ok (.invokespecial 3, 3) := by decide +kernel
theorem dX1_init_4 : decode cX1_init 4 = .ok (.aload_n 0, 1) := by decide +kernel
theorem dX1_init_5 : decode cX1_init 5 = .ok (.sipush 256, 3) := by decide +kernel
theorem dX1_init_8 : decode cX1_init 8 = .ok (.newarray .int, 2) := by decide +kernel
theorem dX1_init_10 : decode cX1_init 10 = .ok (.putfield 9, 3) := by decide +kernel
theorem dX1_init_13 : decode cX1_init 13 = .ok (.return_, 1) := by decide +kernel
theorem dX2_init_0 : decode cX2_init 0 = .ok (.aload_n 0, 1) := by decide +kernel
theorem dX2_init_1 : decode cX2_init 1 = .ok (.invokespecial 3, 3) := by decide +kernel
theorem dX2_init_4 : decode cX2_init 4 = .ok (.aload_n 0, 1) := by decide +kernel
theorem dX2_init_5 : decode cX2_init 5 = .ok (.sipush 256, 3) := by decide +kernel
theorem dX2_init_8 : decode cX2_init 8 = .ok (.newarray .int, 2) := by decide +kernel
theorem dX2_init_10 : decode cX2_init 10 = .ok (.putfield 9, 3) := by decide +kernel
theorem dX2_init_13 : decode cX2_init 13 = .ok (.return_, 1) := by decide +kernel
theorem dX0_init_0 : decode cX0_init 0 = .ok (.aload_n 0, 1) := by decide +kernel
theorem dX0_init_1 : decode cX0_init 1 = .ok (.invokespecial 3, 3) := by decide +kernel
theorem dX0_init_4 : decode cX0_init 4 = .ok (.aload_n 0, 1) := by decide +kernel
theorem dX0_init_5 : decode cX0_init 5 = .ok (.iload_n 1, 1) := by decide +kernel
theorem dX0_init_6 : decode cX0_init 6 = .ok (.iconst 1, 1) := by decide +kernel
theorem dX0_init_7 : decode cX0_init 7 = .ok (.iadd, 1) := by decide +kernel
theorem dX0_init_8 : decode cX0_init 8 = .ok (.newarray .long, 2) := by decide +kernel
theorem dX0_init_10 : decode cX0_init 10 = .ok (.putfield 9, 3) := by decide +kernel
theorem dX0_init_13 : decode cX0_init 13 = .ok (.aload_n 0, 1) := by decide +kernel
theorem dX0_init_14 : decode cX0_init 14 = .ok (.getfield 9, 3) := by decide +kernel
theorem dX0_init_17 : decode cX0_init 17 = .ok (.ldc2_w 15, 3) := by decide +kernel
theorem dX0_init_20 : decode cX0_init 20 = .ok (.invokestatic 17, 3) := by decide +kernel
theorem dX0_init_23 : decode cX0_init 23 = .ok (.return_, 1) := by decide +kernel
theorem dX4_init_0 : decode cX4_init 0 = .ok (.aload_n 0, 1) := by decide +kernel
theorem dX4_init_1 : decode cX4_init 1 = .ok (.invokespecial 3, 3) := by decide +kernel
theorem dX4_init_4 : decode cX4_init 4 = .ok (.aload_n 0, 1) := by decide +kernel
theorem dX4_init_5 : decode cX4_init 5 = .ok (.bipush 32, 2) := by decide +kernel
theorem dX4_init_7 : decode cX4_init 7 = .ok (.newarray .int, 2) := by decide +kernel
theorem dX4_init_9 : decode cX4_init 9 = .ok (.putfield 9, 3) := by decide +kernel
theorem dX4_init_12 : decode cX4_init 12 = .ok (.aload_n 0, 1) := by decide +kernel
theorem dX4_init_13 : decode cX4_init 13 = .ok (.bipush 33, 2) := by decide +kernel
theorem dX4_init_15 : decode cX4_init 15 = .ok (.newarray .int, 2) := by decide +kernel
theorem dX4_init_17 : decode cX4_init 17 = .ok (.putfield 15, 3) := by decide +kernel
theorem dX4_init_20 : decode cX4_init 20 = .ok (.aload_n 0, 1) := by decide +kernel
theorem dX4_init_21 : decode cX4_init 21 = .ok (.bipush 32, 2) := by decide +kernel
theorem dX4_init_23 : decode cX4_init 23 = .ok (.newarray .long, 2) := by decide +kernel
theorem dX4_init_25 : decode cX4_init 25 = .ok (.putfield 18, 3) := by decide +kernel
theorem dX4_init_28 : decode cX4_init 28 = .ok (.aload_n 0, 1) := by decide +kernel
theorem dX4_init_29 : decode cX4_init 29 = .ok (.bipush 32, 2) := by decide +kernel
theorem dX4_init_31 : decode cX4_init 31 = .ok (.newarray .int, 2) := by decide +kernel
theorem dX4_init_33 : decode cX4_init 33 = .ok (.putfield 22, 3) := by decide +kernel
theorem dX4_init_36 : decode cX4_init 36 = .ok (.aload_n 0, 1) := by decide +kernel
theorem dX4_init_37 : decode cX4_init 37 = .ok (.iconst 0, 1) := by decide +kernel
theorem dX4_init_38 : decode cX4_init 38 = .ok (.newarray .int, 2) := by decide +kernel
theorem dX4_init_40 : decode cX4_init 40 = .ok (.putfield 25, 3) := by decide +kernel
theorem dX4_init_43 : decode cX4_init 43 = .ok (.aload_n 0, 1) := by decide +kernel
theorem dX4_init_44 : decode cX4_init 44 = .ok (.iconst 0, 1) := by decide +kernel
theorem dX4_init_45 : decode cX4_init 45 = .ok (.newarray .int, 2) := by decide +kernel
theorem dX4_init_47 : decode cX4_init 47 = .ok (.putfield 28, 3) := by decide +kernel
theorem dX4_init_50 : decode cX4_init 50 = .ok (.aload_n 0, 1) := by decide +kernel
theorem dX4_init_51 : decode cX4_init 51 = .ok (.iconst 0, 1) := by decide +kernel
theorem dX4_init_52 : decode cX4_init 52 = .ok (.newarray .int, 2) := by decide +kernel
theorem dX4_init_54 : decode cX4_init 54 = .ok (.putfield 31, 3) := by decide +kernel
theorem dX4_init_57 : decode cX4_init 57 = .ok (.aload_n 0, 1) := by decide +kernel
theorem dX4_init_58 : decode cX4_init 58 = .ok (.iload_n 1, 1) := by decide +kernel
theorem dX4_init_59 : decode cX4_init 59 = .ok (.putfield 34, 3) := by decide +kernel
theorem dX4_init_62 : decode cX4_init 62 = .ok (.aload_n 0, 1) := by decide +kernel
theorem dX4_init_63 : decode cX4_init 63 = .ok (.iconst 1, 1) := by decide +kernel
theorem dX4_init_64 : decode cX4_init 64 = .ok (.iload_n 1, 1) := by decide +kernel
theorem dX4_init_65 : decode cX4_init 65 = .ok (.ishl, 1) := by decide +kernel
theorem dX4_init_66 : decode cX4_init 66 = .ok (.putfield 38, 3) := by decide +kernel
theorem dX4_init_69 : decode cX4_init 69 = .ok (.return_, 1) := by decide +kernel
theorem dX5_init_0 : decode cX5_init 0 = .ok (.aload_n 0, 1) := by decide +kernel
theorem dX5_init_1 : decode cX5_init 1 = .ok (.invokespecial 3, 3) := by decide +kernel
theorem dX5_init_4 : decode cX5_init 4 = .ok (.aload_n 0, 1) := by decide +kernel
theorem dX5_init_5 : decode cX5_init 5 = .ok (.iconst 4, 1) := by decide +kernel
theorem dX5_init_6 : decode cX5_init 6 = .ok (.newarray .long, 2) := by decide +kernel
theorem dX5_init_8 : decode cX5_init 8 = .ok (.putfield 9, 3) := by decide +kernel
theorem dX5_init_11 : decode cX5_init 11 = .ok (.aload_n 0, 1) := by decide +kernel
theorem dX5_init_12 : decode cX5_init 12 = .ok (.new 15, 3) := by decide +kernel
theorem dX5_init_15 : decode cX5_init 15 = .ok (.dup, 1) := by decide +kernel
theorem dX5_init_16 : decode cX5_init 16 = .ok (.invokespecial 17, 3) := by decide +kernel
theorem dX5_init_19 : decode cX5_init 19 = .ok (.putfield 18, 3) := by decide +kernel
theorem dX5_init_22 : decode cX5_init 22 = .ok (.return_, 1) := by decide +kernel
theorem dX3_init_0 : decode cX3_init 0 = .ok (.aload_n 0, 1) := by decide +kernel
theorem dX3_init_1 : decode cX3_init 1 = .ok (.invokespecial 3, 3) := by decide +kernel
theorem dX3_init_4 : decode cX3_init 4 = .ok (.aload_n 0, 1) := by decide +kernel
theorem dX3_init_5 : decode cX3_init 5 = .ok (.new 9, 3) := by decide +kernel
theorem dX3_init_8 : decode cX3_init 8 = .ok (.dup, 1) := by decide +kernel
theorem dX3_init_9 : decode cX3_init 9 = .ok (.iconst 5, 1) := by decide +kernel
theorem dX3_init_10 : decode cX3_init 10 = .ok (.invokespecial 11, 3) := by decide +kernel
theorem dX3_init_13 : decode cX3_init 13 = .ok (.putfield 14, 3) := by decide +kernel
theorem dX3_init_16 : decode cX3_init 16 = .ok (.aload_n 0, 1) := by decide +kernel
theorem dX3_init_17 : decode cX3_init 17 = .ok (.iconst 4, 1) := by decide +kernel
theorem dX3_init_18 : decode cX3_init 18 = .ok (.newarray .long, 2) := by decide +kernel
theorem dX3_init_20 : decode cX3_init 20 = .ok (.putfield 20, 3) := by decide +kernel
theorem dX3_init_23 : decode cX3_init 23 = .ok (.aload_n 0, 1) := by decide +kernel
theorem dX3_init_24 : decode cX3_init 24 = .ok (.sipush 256, 3) := by decide +kernel
theorem dX3_init_27 : decode cX3_init 27 = .ok (.newarray .int, 2) := by decide +kernel
theorem dX3_init_29 : decode cX3_init 29 = .ok (.putfield 24, 3) := by decide +kernel
theorem dX3_init_32 : decode cX3_init 32 = .ok (.return_, 1) := by decide +kernel
theorem dX6_init_0 : decode cX6_init 0 = .ok (.aload_n 0, 1) := by decide +kernel
theorem dX6_init_1 : decode cX6_init 1 = .ok (.invokespecial 1, 3) := by decide +kernel
theorem dX6_init_4 : decode cX6_init 4 = .ok (.iload_n 1, 1) := by decide +kernel
theorem dX6_init_5 : decode cX6_init 5 = .ok (.iconst 5, 1) := by decide +kernel
theorem dX6_init_6 : decode cX6_init 6 = .ok (.invokestatic 9, 3) := by decide +kernel
theorem dX6_init_9 : decode cX6_init 9 = .ok (.bipush 12, 2) := by decide +kernel
theorem dX6_init_11 : decode cX6_init 11 = .ok (.invokestatic 15, 3) := by decide +kernel
theorem dX6_init_14 : decode cX6_init 14 = .ok (.istore_n 2, 1) := by decide +kernel
theorem dX6_init_15 : decode cX6_init 15 = .ok (.aload_n 0, 1) := by decide +kernel
theorem dX6_init_16 : decode cX6_init 16 = .ok (.new 18, 3) := by decide +kernel
theorem dX6_init_19 : decode cX6_init 19 = .ok (.dup, 1) := by decide +kernel
theorem dX6_init_20 : decode cX6_init 20 = .ok (.iconst 1, 1) := by decide +kernel
theorem dX6_init_21 : decode cX6_init 21 = .ok (.iload_n 2, 1) := by decide +kernel
theorem dX6_init_22 : decode cX6_init 22 = .ok (.ishl, 1) := by decide +kernel
theorem dX6_init_23 : decode cX6_init 23 = .ok (.invokespecial 20, 3) := by decide +kernel
theorem dX6_init_26 : decode cX6_init 26 = .ok (.putfield 23, 3) := by decide +kernel
theorem dX6_init_29 : decode cX6_init 29 = .ok (.aload_n 0, 1) := by decide +kernel
theorem dX6_init_30 : decode cX6_init 30 = .ok (.new 27, 3) := by decide +kernel
theorem dX6_init_33 : decode cX6_init 33 = .ok (.dup, 1) := by decide +kernel
theorem dX6_init_34 : decode cX6_init 34 = .ok (.iload_n 2, 1) := by decide +kernel
theorem dX6_init_35 : decode cX6_init 35 = .ok (.invokespecial 29, 3) := by decide +kernel
theorem dX6_init_38 : decode cX6_init 38 = .ok (.putfield 30, 3) := by decide +kernel
theorem dX6_init_41 : decode cX6_init 41 = .ok (.aload_n 0, 1) := by decide +kernel
theorem dX6_init_42 : decode cX6_init 42 = .ok (.new 34, 3) := by decide +kernel
theorem dX6_init_45 : decode cX6_init 45 = .ok (.dup, 1) := by decide +kernel
theorem dX6_init_46 : decode cX6_init 46 = .ok (.invokespecial 36, 3) := by decide +kernel
theorem dX6_init_49 : decode cX6_init 49 = .ok (.putfield 37, 3) := by decide +kernel
theorem dX6_init_52 : decode cX6_init 52 = .ok (.aload_n 0, 1) := by decide +kernel
theorem dX6_init_53 : decode cX6_init 53 = .ok (.new 41, 3) := by decide +kernel
theorem dX6_init_56 : decode cX6_init 56 = .ok (.dup, 1) := by decide +kernel
theorem dX6_init_57 : decode cX6_init 57 = .ok (.invokespecial 43, 3) := by decide +kernel
theorem dX6_init_60 : decode cX6_init 60 = .ok (.putfield 44, 3) := by decide +kernel
theorem dX6_init_63 : decode cX6_init 63 = .ok (.aload_n 0, 1) := by decide +kernel
theorem dX6_init_64 : decode cX6_init 64 = .ok (.new 48, 3) := by decide +kernel
theorem dX6_init_67 : decode cX6_init 67 = .ok (.dup, 1) := by decide +kernel
theorem dX6_init_68 : decode cX6_init 68 = .ok (.invokespecial 50, 3) := by decide +kernel
theorem dX6_init_71 : decode cX6_init 71 = .ok (.putfield 51, 3) := by decide +kernel
theorem dX6_init_74 : decode cX6_init 74 = .ok (.aload_n 0, 1) := by decide +kernel
theorem dX6_init_75 : decode cX6_init 75 = .ok (.bipush 32, 2) := by decide +kernel
theorem dX6_init_77 : decode cX6_init 77 = .ok (.newarray .int, 2) := by decide +kernel
theorem dX6_init_79 : decode cX6_init 79 = .ok (.putfield 55, 3) := by decide +kernel
theorem dX6_init_82 : decode cX6_init 82 = .ok (.aload_n 0, 1) := by decide +kernel
theorem dX6_init_83 : decode cX6_init 83 = .ok (.sipush 256, 3) := by decide +kernel
theorem dX6_init_86 : decode cX6_init 86 = .ok (.newarray .int, 2) := by decide +kernel
theorem dX6_init_88 : decode cX6_init 88 = .ok (.putfield 59, 3) := by decide +kernel
theorem dX6_init_91 : decode cX6_init 91 = .ok (.aload_n 0, 1) := by decide +kernel
theorem dX6_init_92 : decode cX6_init 92 = .ok (.iconst 0, 1) := by decide +kernel
theorem dX6_init_93 : decode cX6_init 93 = .ok (.putfield 62, 3) := by decide +kernel
theorem dX6_init_96 : decode cX6_init 96 = .ok (.aload_n 0, 1) := by decide +kernel
theorem dX6_init_97 : decode cX6_init 97 = .ok (.iconst 1, 1) := by decide +kernel
theorem dX6_init_98 : decode cX6_init 98 = .ok (.putfield 66, 3) := by decide +kernel
theorem dX6_init_101 : decode cX6_init 101 = .ok (.return_, 1) := by decide +kernel
theorem dX7_init_0 : decode cX7_init 0 = .ok (.aload_n 0, 1) := by decide +kernel
theorem dX7_init_1 : decode cX7_init 1 = .ok (.invokespecial 1, 3) := by decide +kernel
theorem dX7_init_4 : decode cX7_init 4 = .ok (.aload_n 0, 1) := by decide +kernel
theorem dX7_init_5 : decode cX7_init 5 = .ok (.iconst 1, 1) := by decide +kernel
theorem dX7_init_6 : decode cX7_init 6 = .ok (.putfield 7, 3) := by decide +kernel
theorem dX7_init_9 : decode cX7_init 9 = .ok (.aload_n 0, 1) := by decide +kernel
theorem dX7_init_10 : decode cX7_init 10 = .ok (.sipush 1000, 3) := by decide +kernel
theorem dX7_init_13 : decode cX7_init 13 = .ok (.newarray .int, 2) := by decide +kernel
theorem dX7_init_15 : decode cX7_init 15 = .ok (.putfield 13, 3) := by decide +kernel
theorem dX7_init_18 : decode cX7_init 18 = .ok (.aload_n 0, 1) := by decide +kernel
theorem dX7_init_19 : decode cX7_init 19 = .ok (.bipush 32, 2) := by decide +kernel
theorem dX7_init_21 : decode cX7_init 21 = .ok (.newarray .int, 2) := by decide +kernel
theorem dX7_init_23 : decode cX7_init 23 = .ok (.putfield 17, 3) := by decide +kernel
theorem dX7_init_26 : decode cX7_init 26 = .ok (.aload_n 0, 1) := by decide +kernel
theorem dX7_init_27 : decode cX7_init 27 = .ok (.bipush 64, 2) := by decide +kernel
theorem dX7_init_29 : decode cX7_init 29 = .ok (.newarray .int, 2) := by decide +kernel
theorem dX7_init_31 : decode cX7_init 31 = .ok (.putfield 20, 3) := by decide +kernel
theorem dX7_init_34 : decode cX7_init 34 = .ok (.aload_n 0, 1) := by decide +kernel
theorem dX7_init_35 : decode cX7_init 35 = .ok (.bipush 64, 2) := by decide +kernel
theorem dX7_init_37 : decode cX7_init 37 = .ok (.newarray .int, 2) := by decide +kernel
theorem dX7_init_39 : decode cX7_init 39 = .ok (.putfield 23, 3) := by decide +kernel
theorem dX7_init_42 : decode cX7_init 42 = .ok (.aload_n 0, 1) := by decide +kernel
theorem dX7_init_43 : decode cX7_init 43 = .ok (.iconst 2, 1) := by decide +kernel
theorem dX7_init_44 : decode cX7_init 44 = .ok (.newarray .int, 2) := by decide +kernel
theorem dX7_init_46 : decode cX7_init 46 = .ok (.putfield 26, 3) := by decide +kernel
theorem dX7_init_49 : decode cX7_init 49 = .ok (.aload_n 0, 1) := by decide +kernel
theorem dX7_init_50 : decode cX7_init 50 = .ok (.sipush 8192, 3) := by decide +kernel
theorem dX7_init_53 : decode cX7_init 53 = .ok (.newarray .int, 2) := by decide +kernel
theorem dX7_init_55 : decode cX7_init 55 = .ok (.putfield 29, 3) := by decide +kernel
theorem dX7_init_58 : decode cX7_init 58 = .ok (.aload_n 0, 1) := by decide +kernel
theorem dX7_init_59 : decode cX7_init 59 = .ok (.sipush 8192, 3) := by decide +kernel
theorem dX7_init_62 : decode cX7_init 62 = .ok (.newarray .int, 2) := by decide +kernel
theorem dX7_init_64 : decode cX7_init 64 = .ok (.putfield 32, 3) := by decide +kernel
theorem dX7_init_67 : decode cX7_init 67 = .ok (.aload_n 0, 1) := by decide +kernel
theorem dX7_init_68 : decode cX7_init 68 = .ok (.sipush 8192, 3) := by decide +kernel
theorem dX7_init_71 : decode cX7_init 71 = .ok (.newarray .int, 2) := by decide +kernel
theorem dX7_init_73 : decode cX7_init 73 = .ok (.putfield 35, 3) := by decide +kernel
theorem dX7_init_76 : decode cX7_init 76 = .ok (.aload_n 0, 1) := by decide +kernel
theorem dX7_init_77 : decode cX7_init 77 = .ok (.sipush 20000, 3) := by decide +kernel
theorem dX7_init_80 : decode cX7_init 80 = .ok (.newarray .int, 2) := by decide +kernel
theorem dX7_init_82 : decode cX7_init 82 = .ok (.putfield 38, 3) := by decide +kernel
theorem dX7_init_85 : decode cX7_init 85 = .ok (.aload_n 0, 1) := by decide +kernel
theorem dX7_init_86 : decode cX7_init 86 = .ok (.iconst 4, 1) := by decide +kernel
theorem dX7_init_87 : decode cX7_init 87 = .ok (.newarray .long, 2) := by decide +kernel
theorem dX7_init_89 : decode cX7_init 89 = .ok (.putfield 41, 3) := by decide +kernel
theorem dX7_init_92 : decode cX7_init 92 = .ok (.aload_n 0, 1) := by decide +kernel
theorem dX7_init_93 : decode cX7_init 93 = .ok (.iconst 4, 1) := by decide +kernel
theorem dX7_init_94 : decode cX7_init 94 = .ok (.newarray .long, 2) := by decide +kernel
theorem dX7_init_96 : decode cX7_init 96 = .ok (.putfield 45, 3) := by decide +kernel
theorem dX7_init_99 : decode cX7_init 99 = .ok (.aload_n 0, 1) := by decide +kernel
theorem dX7_init_100 : decode cX7_init 100 = .ok (.ldc 48, 2) := by decide +kernel
theorem dX7_init_102 : decode cX7_init 102 = .ok (.newarray .int, 2) := by decide +kernel
theorem dX7_init_104 : decode cX7_init 104 = .ok (.putfield 49, 3) := by decide +kernel
theorem dX7_init_107 : decode cX7_init 107 = .ok (.aload_n 0, 1) := by decide +kernel
theorem dX7_init_108 : decode cX7_init 108 = .ok (.ldc 52, 2) := by decide +kernel
theorem dX7_init_110 : decode cX7_init 110 = .ok (.newarray .int, 2) := by decide +kernel
theorem dX7_init_112 : decode cX7_init 112 = .ok (.putfield 53, 3) := by decide +kernel
theorem dX7_init_115 : decode cX7_init 115 = .ok (.aload_n 0, 1) := by decide +kernel
theorem dX7_init_116 : decode cX7_init 116 = .ok (.iconst 4, 1) := by decide +kernel
theorem dX7_init_117 : decode cX7_init 117 = .ok (.newarray .long, 2) := by decide +kernel
theorem dX7_init_119 : decode cX7_init 119 = .ok (.putfield 56, 3) := by decide +kernel
theorem dX7_init_122 : decode cX7_init 122 = .ok (.aload_n 0, 1) := by decide +kernel
theorem dX7_init_123 : decode cX7_init 123 = .ok (.iload_n 1, 1) := by decide +kernel
theorem dX7_init_124 : decode cX7_init 124 = .ok (.iconst 5, 1) := by decide +kernel
theorem dX7_init_125 : decode cX7_init 125 = .ok (.if_icmp .ge 7, 3) := by decide +kernel
theorem dX7_init_128 : decode cX7_init 128 = .ok (.iconst 5, 1) := by decide +kernel
theorem dX7_init_129 : decode cX7_init 129 = .ok (.goto 15, 3) := by decide +kernel
theorem dX7_init_132 : decode cX7_init 132 = .ok (.iload_n 1, 1) := by decide +kernel
theorem dX7_init_133 : decode cX7_init 133 = .ok (.bipush 12, 2) := by decide +kernel
theorem dX7_init_135 : decode cX7_init 135 = .ok (.if_icmp .le 8, 3) := by decide +kernel
theorem dX7_init_138 : decode cX7_init 138 = .ok (.bipush 12, 2) := by decide +kernel
theorem dX7_init_140 : decode cX7_init 140 = .ok (.goto 4, 3) := by decide +kernel
theorem dX7_init_143 : decode cX7_init 143 = .ok (.iload_n 1, 1) := by decide +kernel
theorem dX7_init_144 : decode cX7_init 144 = .ok (.putfield 59, 3) := by decide +kernel
theorem dX7_init_147 : decode cX7_init 147 = .ok (.aload_n 0, 1) := by decide +kernel
theorem dX7_init_148 : decode cX7_init 148 = .ok (.getfield 26, 3) := by decide +kernel
theorem dX7_init_151 : decode cX7_init 151 = .ok (.iconst 0, 1) := by decide +kernel
theorem dX7_init_152 : decode cX7_init 152 = .ok (.aload_n 0, 1) := by decide +kernel
theorem dX7_init_153 : decode cX7_init 153 = .ok (.getfield 59, 3) := by decide +kernel
theorem dX7_init_156 : decode cX7_init 156 = .ok (.iastore, 1) := by decide +kernel
theorem dX7_init_157 : decode cX7_init 157 = .ok (.return_, 1) := by decide +kernel
theorem dX6_withRoom_0 : decode cX6_withRoom 0 = .ok (.iload_n 1, 1) := by decide +kernel
theorem dX6_withRoom_1 : decode cX6_withRoom 1 = .ok (.aload_n 0, 1) := by decide +kernel
theorem dX6_withRoom_2 : decode cX6_withRoom 2 = .ok (.arraylength, 1) := by decide +kernel
theorem dX6_withRoom_3 : decode cX6_withRoom 3 = .ok (.if_icmp .lt 8, 3) := by decide +kernel
theorem dX6_withRoom_6 : decode cX6_withRoom 6 = .ok (.iload_n 1, 1) := by decide +kernel
theorem dX6_withRoom_7 : decode cX6_withRoom 7 = .ok (.iload_n 2, 1) := by decide +kernel
theorem dX6_withRoom_8 : decode cX6_withRoom 8 = .ok (.if_icmp .lt 5, 3) := by decide +kernel
theorem dX6_withRoom_11 : decode cX6_withRoom 11 = .ok (.aload_n 0, 1) := by decide +kernel
theorem dX6_withRoom_12 : decode cX6_withRoom 12 = .ok (.areturn, 1) := by decide +kernel
theorem dX6_withRoom_13 : decode cX6_withRoom 13 = .ok (.aload_n 0, 1) := by decide +kernel
theorem dX6_withRoom_14 : decode cX6_withRoom 14 = .ok (.iconst 2, 1) := by decide +kernel
theorem dX6_withRoom_15 : decode cX6_withRoom 15 = .ok (.iload_n 1, 1) := by decide +kernel
theorem dX6_withRoom_16 : decode cX6_withRoom 16 = .ok (.imul, 1) := by decide +kernel
theorem dX6_withRoom_17 : decode cX6_withRoom 17 = .ok (.iload_n 2, 1) := by decide +kernel
theorem dX6_withRoom_18 : decode cX6_withRoom 18 = .ok (.invokestatic 15, 3) := by decide +kernel
theorem dX6_withRoom_21 : decode cX6_withRoom 21 = .ok (.invokestatic 176, 3) := by decide +kernel
theorem dX6_withRoom_24 : decode cX6_withRoom 24 = .ok (.areturn, 1) := by decide +kernel
theorem dJ7_fill_53178_0 : decode cJ7_fill_53178 0 = .ok (.iconst 0, 1) := by decide +kernel
theorem dJ7_fill_53178_1 : decode cJ7_fill_53178 1 = .ok (.istore_n 2, 1) := by decide +kernel
theorem dJ7_fill_53178_2 : decode cJ7_fill_53178 2 = .ok (.aload_n 0, 1) := by decide +kernel
theorem dJ7_fill_53178_3 : decode cJ7_fill_53178 3 = .ok (.arraylength, 1) := by decide +kernel
theorem dJ7_fill_53178_4 : decode cJ7_fill_53178 4 = .ok (.istore_n 3, 1) := by decide +kernel
theorem dJ7_fill_53178_5 : decode cJ7_fill_53178 5 = .ok (.iload_n 2, 1) := by decide +kernel
theorem dJ7_fill_53178_6 : decode cJ7_fill_53178 6 = .ok (.iload_n 3, 1) := by decide +kernel
theorem dJ7_fill_53178_7 : decode cJ7_fill_53178 7 = .ok (.if_icmp .ge 13, 3) := by decide +kernel
theorem dJ7_fill_53178_10 : decode cJ7_fill_53178 10 = .ok (.aload_n 0, 1) := by decide +kernel
theorem dJ7_fill_53178_11 : decode cJ7_fill_53178 11 = .ok (.iload_n 2, 1) := by decide +kernel
theorem dJ7_fill_53178_12 : decode cJ7_fill_53178 12 = .ok (.iload_n 1, 1) := by decide +kernel
theorem dJ7_fill_53178_13 : decode cJ7_fill_53178 13 = .ok (.iastore, 1) := by decide +kernel
theorem dJ7_fill_53178_14 : decode cJ7_fill_53178 14 = .ok (.iinc 2 1, 3) := by decide +kernel
theorem dJ7_fill_53178_17 : decode cJ7_fill_53178 17 = .ok (.goto (-12), 3) := by decide +kernel
theorem dJ7_fill_53178_20 : decode cJ7_fill_53178 20 = .ok (.return_, 1) := by decide +kernel
theorem dJ7_fill_d0a16_0 : decode cJ7_fill_d0a16 0 = .ok (.iconst 0, 1) := by decide +kernel
theorem dJ7_fill_d0a16_1 : decode cJ7_fill_d0a16 1 = .ok (.istore_n 3, 1) := by decide +kernel
theorem dJ7_fill_d0a16_2 : decode cJ7_fill_d0a16 2 = .ok (.aload_n 0, 1) := by decide +kernel
theorem dJ7_fill_d0a16_3 : decode cJ7_fill_d0a16 3 = .ok (.arraylength, 1) := by decide +kernel
theorem dJ7_fill_d0a16_4 : decode cJ7_fill_d0a16 4 = .ok (.istore 4, 2) := by decide +kernel
theorem dJ7_fill_d0a16_6 : decode cJ7_fill_d0a16 6 = .ok (.iload_n 3, 1) := by decide +kernel
theorem dJ7_fill_d0a16_7 : decode cJ7_fill_d0a16 7 = .ok (.iload 4, 2) := by decide +kernel
theorem dJ7_fill_d0a16_9 : decode cJ7_fill_d0a16 9 = .ok (.if_icmp .ge 13, 3) := by decide +kernel
theorem dJ7_fill_d0a16_12 : decode cJ7_fill_d0a16 12 = .ok (.aload_n 0, 1) := by decide +kernel
theorem dJ7_fill_d0a16_13 : decode cJ7_fill_d0a16 13 = .ok (.iload_n 3, 1) := by decide +kernel
theorem dJ7_fill_d0a16_14 : decode cJ7_fill_d0a16 14 = .ok (.lload_n 1, 1) := by decide +kernel
theorem dJ7_fill_d0a16_15 : decode cJ7_fill_d0a16 15 = .ok (.lastore, 1) := by decide +kernel
theorem dJ7_fill_d0a16_16 : decode cJ7_fill_d0a16 16 = .ok (.iinc 3 1, 3) := by decide +kernel
theorem dJ7_fill_d0a16_19 : decode cJ7_fill_d0a16 19 = .ok (.goto (-13), 3) := by decide +kernel
theorem dJ7_fill_d0a16_22 : decode cJ7_fill_d0a16 22 = .ok (.return_, 1) := by decide +kernel
theorem dJ7_copyOf_59c91_0 : decode cJ7_copyOf_59c91 0 = .ok (.iload_n 1, 1) := by decide +kernel
theorem dJ7_copyOf_59c91_1 : decode cJ7_copyOf_59c91 1 = .ok (.aload_n 0, 1) := by decide +kernel
theorem dJ7_copyOf_59c91_2 : decode cJ7_copyOf_59c91 2 = .ok (.arraylength, 1) := by decide +kernel
theorem dJ7_copyOf_59c91_3 : decode cJ7_copyOf_59c91 3 = .ok (.if_icmp .ne 11, 3) := by decide +kernel
theorem dJ7_copyOf_59c91_6 : decode cJ7_copyOf_59c91 6 = .ok (.aload_n 0, 1) := by decide +kernel
theorem dJ7_copyOf_59c91_7 : decode cJ7_copyOf_59c91 7 = .ok (.invokevirtual 316, 3) := by decide +kernel
theorem dJ7_copyOf_59c91_10 : decode cJ7_copyOf_59c91 10 = .ok (.checkcast 317, 3) := by decide +kernel
theorem dJ7_copyOf_59c91_13 : decode cJ7_copyOf_59c91 13 = .ok (.areturn, 1) := by decide +kernel
theorem dJ7_copyOf_59c91_14 : decode cJ7_copyOf_59c91 14 = .ok (.iload_n 1, 1) := by decide +kernel
theorem dJ7_copyOf_59c91_15 : decode cJ7_copyOf_59c91 15 = .ok (.newarray .int, 2) := by decide +kernel
theorem dJ7_copyOf_59c91_17 : decode cJ7_copyOf_59c91 17 = .ok (.astore_n 2, 1) := by decide +kernel
theorem dJ7_copyOf_59c91_18 : decode cJ7_copyOf_59c91 18 = .ok (.aload_n 0, 1) := by decide +kernel
theorem dJ7_copyOf_59c91_19 : decode cJ7_copyOf_59c91 19 = .ok (.iconst 0, 1) := by decide +kernel
theorem dJ7_copyOf_59c91_20 : decode cJ7_copyOf_59c91 20 = .ok (.aload_n 2, 1) := by decide +kernel
theorem dJ7_copyOf_59c91_21 : decode cJ7_copyOf_59c91 21 = .ok (.iconst 0, 1) := by decide +kernel
theorem dJ7_copyOf_59c91_22 : decode cJ7_copyOf_59c91 22 = .ok (.aload_n 0, 1) := by decide +kernel
theorem dJ7_copyOf_59c91_23 : decode cJ7_copyOf_59c91 23 = .ok (.arraylength, 1) := by decide +kernel
theorem dJ7_copyOf_59c91_24 : decode cJ7_copyOf_59c91 24 = .ok (.iload_n 1, 1) := by decide +kernel
theorem dJ7_copyOf_59c91_25 : decode cJ7_copyOf_59c91 25 = .ok (.invokestatic 304, 3) := by decide +kernel
theorem dJ7_copyOf_59c91_28 : decode cJ7_copyOf_59c91 28 = .ok (.invokestatic 150, 3) := by decide +kernel
theorem dJ7_copyOf_59c91_31 : decode cJ7_copyOf_59c91 31 = .ok (.aload_n 2, 1) := by decide +kernel
theorem dJ7_copyOf_59c91_32 : decode cJ7_copyOf_59c91 32 = .ok (.areturn, 1) := by decide +kernel
end
section
-- ===== states of objects: scalars, int rows, long rows, lengths =====
abbrev OS : Type := (Nat → Int32) × (Nat → Nat → Int32) × (Nat → Nat → Int64) × (Nat → Nat)
def sF (u : OS) (k : Nat) (v : Int32) : OS := (va_up u.1 k v, u.2)
def sA (u : OS) (k : Nat) (i v : Int32) : OS := (u.1, va_up u.2.1 k (upd (u.2.1 k) i.toNatClampNeg v), u.2.2)
def sL (u : OS) (k : Nat) (i : Int32) (v : Int64) : OS := (u.1, u.2.1, va_up u.2.2.1 k (vp_updL (u.2.2.1 k) i.toNatClampNeg v), u.2.2.2)
def sG (u : OS) (k : Nat) (f : Nat → Int32) : OS := (u.1, va_up u.2.1 k f, u.2.2)
def sGL (u : OS) (k : Nat) (f : Nat → Int64) : OS := (u.1, u.2.1, va_up u.2.2.1 k f, u.2.2.2)
def sR (u : OS) (k : Nat) (n : Nat) (f : Nat → Int32) : OS := (u.1, va_up u.2.1 k f, u.2.2.1, va_up u.2.2.2 k n)
def mkA (n : Nat) (f : Nat → Int32) : OS := (fun _ => 0, fun _ => f, fun _ _ => 0, fun _ => n)
def FU : Nat := 100000
-- ===== pure binders =====
def bnd {α β : Type} (e : α) (k : α → β) : β := k e
theorem bnd_nm {α β : Type} {e x : α} {k : α → β} {r : β} (ex : x = e) (h : bnd e k = r) : k x = r := by subst ex; exact h
theorem bnd_ex {α β : Type} {e : α} {k : α → β} {r : β} (h : bnd e k = r) : ∃ x, x = e ∧ k x = r := ⟨e, rfl, h⟩
theorem ex_eq {α : Sort _} (e : α) : ∃ x, x = e := ⟨e, rfl⟩
theorem ite_t {c : Prop} [Decidable c] {α : Type} {a b r : α} (hc : c) (h : (if c then a else b) = r) : a = r := by rw [if_pos hc] at h; exact h
theorem ite_f {c : Prop} [Decidable c] {α : Type} {a b r : α} (hc : ¬ c) (h : (if c then a else b) = r) : b = r := by rw [if_neg hc] at h; exact h
def gdi {γ : Type} (i : Int32) (n : Nat) (t : Option γ) : Option γ := if i < 0 ∨ n ≤ i.toNatClampNeg then none else t
theorem gdi_of {γ : Type} {i : Int32} {n : Nat} {t : Option γ} {r : γ} (h : gdi i n t = some r) : vp_in i n ∧ t = some r := by
  unfold gdi at h
  by_cases c : i < 0 ∨ n ≤ i.toNatClampNeg
  · rw [if_pos c] at h; cases h
  · rw [if_neg c] at h; exact ⟨c, h⟩
theorem gdi_in {γ : Type} {i : Int32} {n : Nat} {t : Option γ} (h : vp_in i n) : gdi i n t = t := if_neg h
def gdz {γ : Type} (y : Int32) (t : Option γ) : Option γ := if y = 0 then none else t
theorem gdz_of {γ : Type} {y : Int32} {t : Option γ} {r : γ} (h : gdz y t = some r) : ¬ y = 0 ∧ t = some r := by
  unfold gdz at h
  by_cases c : y = 0
  · rw [if_pos c] at h; cases h
  · rw [if_neg c] at h; exact ⟨c, h⟩
def gdzl {γ : Type} (y : Int64) (t : Option γ) : Option γ := if y = 0 then none else t
theorem gdzl_of {γ : Type} {y : Int64} {t : Option γ} {r : γ} (h : gdzl y t = some r) : ¬ y = 0 ∧ t = some r := by
  unfold gdzl at h
  by_cases c : y = 0
  · rw [if_pos c] at h; cases h
  · rw [if_neg c] at h; exact ⟨c, h⟩
def gdb {γ : Type} (x : Int32) (t : Option γ) : Option γ := if x = 0 ∨ x = 1 then t else none
theorem gdb_of {γ : Type} {x : Int32} {t : Option γ} {r : γ} (h : gdb x t = some r) : (x = 0 ∨ x = 1) ∧ t = some r := by
  unfold gdb at h
  by_cases c : x = 0 ∨ x = 1
  · rw [if_pos c] at h; exact ⟨c, h⟩
  · rw [if_neg c] at h; cases h
theorem nb_of {x : Int32} (h : x = 0 ∨ x = 1) : narrow .boolean (.int x) = .int x := by rcases h with rfl | rfl <;> rfl
theorem fb_of {x : Int32} (h : x = 0 ∨ x = 1) : fits .boolean (.int x) = true := by rcases h with rfl | rfl <;> rfl
def oC0 {r : Type} (x : Option Unit) (k : Option r) : Option r := match x with
  | some _ => k
  | none => none
theorem oC0_of {r : Type} {x : Option Unit} {k : Option r} {o : r} (h : oC0 x k = some o) : x = some () ∧ k = some o := by
  cases x with
  | none => cases h
  | some z => exact ⟨rfl, h⟩
def oC1 {a r : Type} (x : Option a) (k : a → Option r) : Option r := match x with
  | some z => k z
  | none => none
theorem oC1_of {a r : Type} {x : Option a} {k : a → Option r} {o : r} (h : oC1 x k = some o) : ∃ z, x = some z ∧ k z = some o := by
  cases x with
  | none => cases h
  | some z => exact ⟨z, rfl, h⟩
def oC2 {a b r : Type} (x : Option (a × b)) (k : a → b → Option r) : Option r := match x with
  | some (z, y) => k z y
  | none => none
theorem oC2_of {a b r : Type} {x : Option (a × b)} {k : a → b → Option r} {o : r} (h : oC2 x k = some o) : ∃ z y, x = some (z, y) ∧ k z y = some o := by
  cases x with
  | none => cases h
  | some q => obtain ⟨z, y⟩ := q; exact ⟨z, y, rfl, h⟩
def oC3 {a b c r : Type} (x : Option (a × b × c)) (k : a → b → c → Option r) : Option r := match x with
  | some (z, y, w) => k z y w
  | none => none
theorem oC3_of {a b c r : Type} {x : Option (a × b × c)} {k : a → b → c → Option r} {o : r} (h : oC3 x k = some o) : ∃ z y w, x = some (z, y, w) ∧ k z y w = some o := by
  cases x with
  | none => cases h
  | some q => obtain ⟨z, y, w⟩ := q; exact ⟨z, y, w, rfl, h⟩
def oC4 {a b c d r : Type} (x : Option (a × b × c × d)) (k : a → b → c → d → Option r) : Option r := match x with
  | some (z, y, w, v) => k z y w v
  | none => none
theorem oC4_of {a b c d r : Type} {x : Option (a × b × c × d)} {k : a → b → c → d → Option r} {o : r} (h : oC4 x k = some o) : ∃ z y w v, x = some (z, y, w, v) ∧ k z y w v = some o := by
  cases x with
  | none => cases h
  | some q => obtain ⟨z, y, w, v⟩ := q; exact ⟨z, y, w, v, rfl, h⟩
def addc {γ : Type} (a b : Nat) (t : Option (γ × Nat × Nat)) : Option (γ × Nat × Nat) := match t with
  | some (o, kc, ks) => some (o, a + kc, b + ks)
  | none => none
theorem addc_of {γ : Type} {a b kc ks : Nat} {t : Option (γ × Nat × Nat)} {o : γ} (h : addc a b t = some (o, kc, ks)) : ∃ k n, t = some (o, k, n) ∧ kc = a + k ∧ ks = b + n := by
  cases t with
  | none => cases h
  | some q => obtain ⟨x, k, n⟩ := q; cases h; exact ⟨k, n, rfl, rfl, rfl⟩
theorem ret0 {γ : Type} {x o : γ} {kc ks : Nat} (h : some (x, 0, 0) = some (o, kc, ks)) : some x = some o ∧ 0 = kc ∧ 0 = ks := by cases h; exact ⟨rfl, rfl, rfl⟩
def oA0 {r : Type} (x : Option (Unit × Nat × Nat)) (k : Nat → Nat → Option r) : Option r := match x with
  | some (_, m, n) => k m n
  | none => none
theorem oA0_of {r : Type} {x : Option (Unit × Nat × Nat)} {k : Nat → Nat → Option r} {o : r} (h : oA0 x k = some o) : ∃ m n, x = some ((), m, n) ∧ k m n = some o := by
  cases x with
  | none => cases h
  | some q => obtain ⟨⟨⟩, m, n⟩ := q; exact ⟨m, n, rfl, h⟩
def oA1 {a r : Type} (x : Option (a × Nat × Nat)) (k : a → Nat → Nat → Option r) : Option r := match x with
  | some (z, m, n) => k z m n
  | none => none
theorem oA1_of {a r : Type} {x : Option (a × Nat × Nat)} {k : a → Nat → Nat → Option r} {o : r} (h : oA1 x k = some o) : ∃ z m n, x = some (z, m, n) ∧ k z m n = some o := by
  cases x with
  | none => cases h
  | some q => obtain ⟨z, m, n⟩ := q; exact ⟨z, m, n, rfl, h⟩
def oA2 {a b r : Type} (x : Option ((a × b) × Nat × Nat)) (k : a → b → Nat → Nat → Option r) : Option r := match x with
  | some ((z, y), m, n) => k z y m n
  | none => none
theorem oA2_of {a b r : Type} {x : Option ((a × b) × Nat × Nat)} {k : a → b → Nat → Nat → Option r} {o : r} (h : oA2 x k = some o) : ∃ z y m n, x = some ((z, y), m, n) ∧ k z y m n = some o := by
  cases x with
  | none => cases h
  | some q => obtain ⟨⟨z, y⟩, m, n⟩ := q; exact ⟨z, y, m, n, rfl, h⟩
def oA3 {a b c r : Type} (x : Option ((a × b × c) × Nat × Nat)) (k : a → b → c → Nat → Nat → Option r) : Option r := match x with
  | some ((z, y, w), m, n) => k z y w m n
  | none => none
theorem oA3_of {a b c r : Type} {x : Option ((a × b × c) × Nat × Nat)} {k : a → b → c → Nat → Nat → Option r} {o : r} (h : oA3 x k = some o) : ∃ z y w m n, x = some ((z, y, w), m, n) ∧ k z y w m n = some o := by
  cases x with
  | none => cases h
  | some q => obtain ⟨⟨z, y, w⟩, m, n⟩ := q; exact ⟨z, y, w, m, n, rfl, h⟩
def oA4 {a b c d r : Type} (x : Option ((a × b × c × d) × Nat × Nat)) (k : a → b → c → d → Nat → Nat → Option r) : Option r := match x with
  | some ((z, y, w, v), m, n) => k z y w v m n
  | none => none
theorem oA4_of {a b c d r : Type} {x : Option ((a × b × c × d) × Nat × Nat)} {k : a → b → c → d → Nat → Nat → Option r} {o : r} (h : oA4 x k = some o) : ∃ z y w v m n, x = some ((z, y, w, v), m, n) ∧ k z y w v m n = some o := by
  cases x with
  | none => cases h
  | some q => obtain ⟨⟨z, y, w, v⟩, m, n⟩ := q; exact ⟨z, y, w, v, m, n, rfl, h⟩
theorem inj2 {a b : Type} {x x' : a} {y y' : b} (h : some (x, y) = some (x', y')) : x = x' ∧ y = y' := by cases h; exact ⟨rfl, rfl⟩
theorem inj3 {a b c : Type} {x x' : a} {y y' : b} {z z' : c} (h : some (x, y, z) = some (x', y', z')) : x = x' ∧ y = y' ∧ z = z' := by cases h; exact ⟨rfl, rfl, rfl⟩
theorem inj4 {a b c d : Type} {x x' : a} {y y' : b} {z z' : c} {w w' : d} (h : some (x, y, z, w) = some (x', y', z', w')) : x = x' ∧ y = y' ∧ z = z' ∧ w = w' := by cases h; exact ⟨rfl, rfl, rfl, rfl⟩
theorem ap0 {r : Type} {K K' r' : r} (e : K = K') (h : K = r') : K' = r' := e ▸ h
theorem ap1 {a r : Type} {K K' : a → r} {x : a} {o : r} (e : K = K') (h : K x = o) : K' x = o := e ▸ h
theorem ap2 {a b r : Type} {K K' : a → b → r} {x : a} {y : b} {o : r} (e : K = K') (h : K x y = o) : K' x y = o := e ▸ h
theorem ap3 {a b c r : Type} {K K' : a → b → c → r} {x : a} {y : b} {z : c} {o : r} (e : K = K') (h : K x y z = o) : K' x y z = o := e ▸ h
theorem ap4 {a b c d r : Type} {K K' : a → b → c → d → r} {x : a} {y : b} {z : c} {w : d} {o : r} (e : K = K') (h : K x y z w = o) : K' x y z w = o := e ▸ h
theorem ap5 {a b c d f r : Type} {K K' : a → b → c → d → f → r} {x : a} {y : b} {z : c} {w : d} {v : f} {o : r} (e : K = K') (h : K x y z w v = o) : K' x y z w v = o := e ▸ h
theorem ap6 {a b c d f g r : Type} {K K' : a → b → c → d → f → g → r} {x : a} {y : b} {z : c} {w : d} {v : f} {t : g} {o : r} (e : K = K') (h : K x y z w v t = o) : K' x y z w v t = o := e ▸ h
theorem ap7 {a b c d f g i r : Type} {K K' : a → b → c → d → f → g → i → r} {x : a} {y : b} {z : c} {w : d} {v : f} {t : g} {q : i} {o : r} (e : K = K') (h : K x y z w v t q = o) : K' x y z w v t q = o := e ▸ h
theorem ap8 {a b c d f g i j r : Type} {K K' : a → b → c → d → f → g → i → j → r} {x : a} {y : b} {z : c} {w : d} {v : f} {t : g} {q : i} {p : j} {o : r} (e : K = K') (h : K x y z w v t q p = o) : K' x y z w v t q p = o := e ▸ h
theorem ap9 {a b c d f g i j k r : Type} {K K' : a → b → c → d → f → g → i → j → k → r} {x : a} {y : b} {z : c} {w : d} {v : f} {t : g} {q : i} {p : j} {n : k} {o : r} (e : K = K') (h : K x y z w v t q p n = o) : K' x y z w v t q p n = o := e ▸ h
theorem lgc_lt {x y : Int64} : lg_cmp x y < 0 ↔ x < y := by
  rcases lg_tri x y with h | h | h
  · have h2 := lg_lt_not h; have h3 := lg_lt_ne h; simp [lg_cmp, h, h2, h3]
  · subst h; simp [lg_cmp]
  · have h2 := lg_lt_not h; simp [lg_cmp, h, h2]
theorem lgc_gt {x y : Int64} : 0 < lg_cmp x y ↔ y < x := by
  rcases lg_tri x y with h | h | h
  · have h2 := lg_lt_not h; have h3 := lg_lt_ne h; simp [lg_cmp, h2, h3]
  · subst h; simp [lg_cmp]
  · have h2 := lg_lt_not h; simp [lg_cmp, h]
theorem lgc_eq {x y : Int64} : lg_cmp x y = 0 ↔ x = y := by
  rcases lg_tri x y with h | h | h
  · have h2 := lg_lt_not h; have h3 := lg_lt_ne h; simp [lg_cmp, h2, h3]
  · subst h; simp [lg_cmp]
  · have h2 := lg_lt_not h; have h3 := lg_lt_ne h; have h4 : ¬ x = y := fun q => h3 q.symm; simp [lg_cmp, h, h4]
theorem lgc_le {x y : Int64} : lg_cmp x y ≤ 0 ↔ x ≤ y := by
  rcases lg_tri x y with h | h | h
  · have h2 := lg_lt_not h; have h3 := lg_lt_ne h; simp [lg_cmp, h2, h3, Int64.le_of_lt h]
  · subst h; simp [lg_cmp, Int64.le_refl]
  · have h2 := lg_lt_not_le h; simp [lg_cmp, h, h2]
theorem lgc_ge {x y : Int64} : 0 ≤ lg_cmp x y ↔ y ≤ x := by
  rcases lg_tri x y with h | h | h
  · have h2 := lg_lt_not h; have h3 := lg_lt_ne h; have h4 := lg_lt_not_le h; simp [lg_cmp, h2, h3, h4]
  · subst h; simp [lg_cmp, Int64.le_refl]
  · simp [lg_cmp, h, Int64.le_of_lt h]
theorem sw_out {x : Int32} (n : Nat) (hn : n < 2 ^ 31) (h : ∀ j, j < n → ¬ x = nI j) : x.toInt < 0 ∨ ((n : Int) - 1) < x.toInt := by
  rcases pk_ix x hn with c | c | ⟨j, hj, e⟩
  · exact Or.inl (Int32.lt_iff_toInt_lt.mp c)
  · refine Or.inr ?_
    have h2 := Int32.le_iff_toInt_le.mp c
    rw [nI_toInt hn] at h2
    omega
  · exact absurd e (h j hj)
theorem i32_ne {x y : Int32} (h : ¬ x = y) : ¬ x.toInt = y.toInt := fun q => h (Int32.toInt_inj.mp q)
theorem lk_out2 {x : Int32} {o1 o2 d : Int} (h1 : ¬ x = (2 : Int32)) (h2 : ¬ x = (3 : Int32)) : Op.lookupswitch.offset [((2 : Int), o1), ((3 : Int), o2)] d x.toInt = d := by
  have g1 : ¬ (2 : Int) = x.toInt := fun q => h1 (Int32.toInt_inj.mp (q.symm.trans (by decide : (2 : Int) = (2 : Int32).toInt)))
  have g2 : ¬ (3 : Int) = x.toInt := fun q => h2 (Int32.toInt_inj.mp (q.symm.trans (by decide : (3 : Int) = (3 : Int32).toInt)))
  show (if (2 : Int) = x.toInt then o1 else if (3 : Int) = x.toInt then o2 else d) = d
  rw [if_neg g1, if_neg g2]
theorem cle {ce kc a k mc : Nat} (h : ce + kc = mc) (e : kc = a + k) : ce + a ≤ mc := by omega
theorem cle0 {ce kc mc : Nat} (h : ce + kc = mc) : ce + 0 ≤ mc := by omega
theorem cle1 {ce kc mc : Nat} (h : ce + kc = mc) : ce ≤ mc := by omega
theorem cadd {ce kc a k mc : Nat} (h : ce + kc = mc) (e : kc = a + k) : (ce + a) + k = mc := by omega
def gdn {γ : Type} (x : Int32) (t : Option γ) : Option γ := if x < 0 ∨ 536870912 < x.toNatClampNeg * 4 then none else t
theorem gdn_of {γ : Type} {x : Int32} {t : Option γ} {r : γ} (h : gdn x t = some r) : (¬ x < 0 ∧ x.toNatClampNeg * componentBytes .int ≤ 536870912) ∧ t = some r := by
  unfold gdn at h
  by_cases c : x < 0 ∨ 536870912 < x.toNatClampNeg * 4
  · rw [if_pos c] at h; cases h
  · rw [if_neg c] at h; exact ⟨⟨fun q => c (Or.inl q), Nat.not_lt.mp (fun q => c (Or.inr q))⟩, h⟩
def gdl {γ : Type} (n : Nat) (t : Option γ) : Option γ := if n < 2 ^ 31 then t else none
theorem gdl_of {γ : Type} {n : Nat} {t : Option γ} {r : γ} (h : gdl n t = some r) : n < 2 ^ 31 ∧ t = some r := by
  unfold gdl at h
  by_cases c : n < 2 ^ 31
  · rw [if_pos c] at h; exact ⟨c, h⟩
  · rw [if_neg c] at h; cases h
theorem cA_eq {D : va_G} {cl : List vw_C} {cI cJ cA : ClassId} {s : State} (h1 : va_K D cl [(cI, .int), (cJ, .long)] s) (h2 : va_K D cl ([(cI, .int), (cJ, .long)] ++ [(cA, .int)]) s) : cI = cA := by
  have a1 := (h1.2 0 _ rfl).2
  have a2 := (h2.2 2 _ rfl).2
  exact Option.some.inj (a1.symm.trans a2)
theorem cA_eqL {D : va_G} {cl : List vw_C} {cI cJ cA : ClassId} {s : State} (h1 : va_K D cl [(cI, .int), (cJ, .long)] s) (h2 : va_K D cl ([(cI, .int), (cJ, .long)] ++ [(cA, .long)]) s) : cJ = cA := by
  have a1 := (h1.2 1 _ rfl).2
  have a2 := (h2.2 2 _ rfl).2
  exact Option.some.inj (a1.symm.trans a2)
theorem vpc_i (n : Nat) (cA : ClassId) : vp_cell cA (n, .inl (fun _ => 0)) = arrV cA n (fun _ => defaultValue .int) := rfl
theorem vpc_l (n : Nat) (cA : ClassId) : vp_cell cA (n, .inr (.inl (fun _ => 0))) = arrV cA n (fun _ => defaultValue .long) := rfl
def flI (n : Nat) (f : Nat → Int32) (v : Int32) : Nat → Int32 := fun j => if j < n then v else f j
def flL (n : Nat) (f : Nat → Int64) (v : Int64) : Nat → Int64 := fun j => if j < n then v else f j
def cpf (f : Nat → Int32) (n k : Nat) : Nat → Int32 := va_cpy f (fun _ => 0) 0 0 (if k < n then k else n)
def f_withRoom (n0 : Nat) (f : Nat → Int32) (ln lim : Int32) : Option ((Nat × (Nat → Int32)) × Nat × Nat) :=
  if ln < nI n0 then some ((n0, f), 0, 0) else
  if ln < lim then
    bnd (if lim < (2 : Int32) * ln then lim else (2 : Int32) * ln) fun k =>
    if k < 0 ∨ 536870912 < k.toNatClampNeg * 4 ∨ k.toNatClampNeg = n0 ∨ 2 ^ 31 ≤ n0 then none else
    some ((k.toNatClampNeg, cpf f n0 k.toNatClampNeg), 1, k.toNatClampNeg)
  else some ((n0, f), 0, 0)
-- ===== words =====
def lw_good : List Cond := lw_tbl.filter goodWord
theorem lg_mem {w : Cond} (h : w ∈ lw_tbl) (g : goodWord w = true) : w ∈ lw_good := List.mem_filter.mpr ⟨h, g⟩
theorem tb1 {w : Cond} (h : w ∈ tables_1_1) : w ∈ lw_tbl := List.mem_append_right _ (List.mem_append_left _ h)
theorem tb2 {w : Cond} (h : w ∈ tables_1_2) : w ∈ lw_tbl := List.mem_append_right _ (List.mem_append_right _ (List.mem_append_left _ h))
theorem tb3 {w : Cond} (h : w ∈ tables_1_3) : w ∈ lw_tbl := List.mem_append_right _ (List.mem_append_right _ (List.mem_append_right _ (List.mem_append_left _ h)))
theorem tb4 {w : Cond} (h : w ∈ tables_1_4) : w ∈ lw_tbl := List.mem_append_right _ (List.mem_append_right _ (List.mem_append_right _ (List.mem_append_right _ (List.mem_append_left _ h))))
theorem tb5 {w : Cond} (h : w ∈ tables_1_5) : w ∈ lw_tbl := List.mem_append_right _ (List.mem_append_right _ (List.mem_append_right _ (List.mem_append_right _ (List.mem_append_right _ h))))
theorem tb0 {w : Cond} (h : w ∈ k2_sels lw_privs) : w ∈ lw_tbl := List.mem_append_left _ h
def wq (y : MethodName) (c : ByteArray) (n : Nat) (r : Option FieldType) : List Cond := .code y c n r :: lw_good
theorem wq_mem {y : MethodName} {c : ByteArray} {n : Nat} {r : Option FieldType} {w : Cond} (h : w ∈ lw_good) : w ∈ wq y c n r := List.mem_cons_of_mem _ h
theorem good_in {w : Cond} (h : w ∈ lw_good) : (w.onTables && w.keeps) = true ∨ ∃ ty, w = .arrayClass ty := good_of_word (List.mem_filter.mp h).2
theorem gdC {y : MethodName} {c : ByteArray} {n : Nat} {r : Option FieldType} (h : Cond.code y c n r ∈ lw_good) : GoodIn lw_good (wq y c n r) := by
  intro w hw
  rcases List.mem_cons.mp hw with rfl | hw
  · exact ⟨h, good_in h⟩
  · exact ⟨hw, good_in hw⟩
theorem gdV {own C : String} {idx : Nat} {y : MethodName} {c : ByteArray} {n : Nat} {r : Option FieldType} (h1 : Cond.methodLink own idx y ∈ lw_good) (h2 : Cond.instanceMethod y ∈ lw_good) (h3 : Cond.selects C y y ∈ lw_good) (h4 : Cond.initialized C ∈ lw_good) (h : Cond.code y c n r ∈ lw_good) : GoodIn lw_good (wsV own idx C y (wq y c n r)) := by
  intro w hw
  rcases List.mem_append.mp hw with hw | hw
  · simp only [List.mem_cons, List.not_mem_nil, or_false] at hw
    rcases hw with rfl | rfl | rfl | rfl
    · exact ⟨h1, good_in h1⟩
    · exact ⟨h2, good_in h2⟩
    · exact ⟨h3, good_in h3⟩
    · exact ⟨h4, good_in h4⟩
  · exact gdC h w hw
theorem gdS {own : String} {idx : Nat} {y : MethodName} {c : ByteArray} {n : Nat} {r : Option FieldType} (h1 : Cond.methodLink own idx y ∈ lw_good) (h2 : Cond.static y ∈ lw_good) (h4 : Cond.initialized y.cls ∈ lw_good) (h : Cond.code y c n r ∈ lw_good) : GoodIn lw_good (va_wsS own idx y (wq y c n r)) := by
  intro w hw
  rcases List.mem_append.mp hw with hw | hw
  · simp only [List.mem_cons, List.not_mem_nil, or_false] at hw
    rcases hw with rfl | rfl | rfl
    · exact ⟨h1, good_in h1⟩
    · exact ⟨h2, good_in h2⟩
    · exact ⟨h4, good_in h4⟩
  · exact gdC h w hw
def nwL : List Cond := [Cond.methodLinkNest RX6 36 yX5_init "AnsTables",
  Cond.methodLinkNest RX6 43 yX3_init "AnsTables",
  Cond.methodLinkNest RX6 50 yX1_init "AnsTables",
  Cond.fieldLinkNest RX6 90 "AnsTables$Shares" "made" "Z" "AnsTables",
  Cond.fieldLinkNest RX6 108 "AnsTables$Shares" "size" "I" "AnsTables",
  Cond.fieldLinkNest RX6 123 "AnsTables$Octets" "length" "I" "AnsTables",
  Cond.fieldLinkNest RX6 130 "AnsTables$Reader" "broken" "I" "AnsTables",
  Cond.fieldLinkNest RX6 147 "AnsTables$Writer" "done" "Z" "AnsTables",
  Cond.fieldLinkNest RX6 150 "AnsTables$Writer" "laneCount" "I" "AnsTables",
  Cond.fieldLinkNest RX6 151 "AnsTables$Writer" "states" "[J" "AnsTables",
  Cond.fieldLinkNest RX6 155 "AnsTables$Reader" "hasStates" "Z" "AnsTables",
  Cond.fieldLinkNest RX6 158 "AnsTables$Reader" "laneCount" "I" "AnsTables",
  Cond.fieldLinkNest RX6 159 "AnsTables$Reader" "states" "[J" "AnsTables",
  Cond.fieldLinkNest RX6 172 "AnsTables$Shares" "log" "I" "AnsTables",
  Cond.fieldLinkNest RX6 175 "AnsTables$Reader" "length" "I" "AnsTables",
  Cond.methodLinkNest RX0 27 yX6_bitLength "AnsTables",
  Cond.methodLinkNest RX1 22 yX6_withRoom "AnsTables",
  Cond.methodLinkNest RX2 19 yX6_withRoom "AnsTables",
  Cond.fieldLinkNest RX3 77 "AnsTables$Shares" "size" "I" "AnsTables",
  Cond.methodLinkNest RX3 80 yX6_bitLength "AnsTables",
  Cond.methodLinkNest RX3 99 yX6_firstState "AnsTables",
  Cond.methodLinkNest RX3 103 yX6_lastState "AnsTables",
  Cond.methodLinkNest RX3 106 yX6_stateWidth "AnsTables",
  Cond.methodLinkNest RX3 120 yX6_withRoom "AnsTables",
  Cond.fieldLinkNest RX3 146 "AnsTables$Shares" "log" "I" "AnsTables",
  Cond.fieldLinkNest RX3 159 "AnsTables$Octets" "length" "I" "AnsTables",
  Cond.fieldLinkNest RX3 162 "AnsTables$Octets" "values" "[I" "AnsTables",
  Cond.methodLinkNest RX4 57 yX6_isSign "AnsTables",
  Cond.methodLinkNest RX5 17 yX2_init "AnsTables",
  Cond.fieldLinkNest RX5 35 "AnsTables$Shares" "size" "I" "AnsTables",
  Cond.methodLinkNest RX5 40 yX6_firstState "AnsTables",
  Cond.methodLinkNest RX5 73 yX6_stateWidth "AnsTables",
  Cond.fieldLinkNest RX5 93 "AnsTables$Shares" "log" "I" "AnsTables",
  Cond.methodLinkNest RX5 99 yX6_bitLength "AnsTables"]
def nestB : Cond → Bool
  | .fieldLinkNest _ _ _ _ _ _ => true
  | .methodLinkNest _ _ _ _ => true
  | _ => false
theorem nwL_ok : nwL.all (fun w => nestB w && w.onTables) = true := by decide +kernel
def NW (U : State) : Prop := ∀ w ∈ nwL, va_Nw w U
theorem NW.warm {s U : State} (hW : s.WarmedH U.vm) (h : NW s) : NW U := by
  intro w hw
  have h1 := List.all_eq_true.mp nwL_ok w hw
  have h2 := h w hw
  clear hw
  cases w <;> first | exact va_Nw.warmF hW h2 | exact va_Nw.warmM hW h2 | exact absurd h1 (by simp [nestB])
theorem NW.same {u U : State} (e : u.vm = U.vm) (h : NW u) : NW U := fun w hw => va_Nw.same (by have h1 := List.all_eq_true.mp nwL_ok w hw; simp only [Bool.and_eq_true] at h1; exact h1.2) e (h w hw)
/-- a method's start: the world's cells, the tables, the nest's words -/
def pcW (dC : Nat → ClassId) (dI : Nat → Nat → Nat) (cI cJ : ClassId) (sz : Nat) (w : va_W) (U : State) : Prop := U.heap.size = sz ∧ va_P (dC, dI) vwCl w U.heap ∧ va_K (dC, dI) vwCl [(cI, .int), (cJ, .long)] U ∧ va_D (fun _ => True) w ∧ NW U
theorem pcW_blind {dC : Nat → ClassId} {dI : Nat → Nat → Nat} {cI cJ : ClassId} {sz : Nat} {w : va_W} {av : List Value} : FrameBlind (va_Pc av (pcW dC dI cI cJ sz w)) := fun a U g mk q => by
  obtain ⟨q0, q1, qP, qK, qD, qN⟩ := q
  exact ⟨q0, q1, qP, va_K.moved (u := U) (U := U.calling g mk a) (Vm.Alike.refl U.vm) qK, qD, NW.same (u := U) (U := U.calling g mk a) rfl qN⟩
theorem pcW_pre {dC : Nat → ClassId} {dI : Nat → Nat → Nat} {cI cJ : ClassId} {w : va_W} {A : Nat → Prop} {s : State} {H : Heap} {av : List Value} (hP : va_P (dC, dI) vwCl w H) (hK : va_K (dC, dI) vwCl [(cI, .int), (cJ, .long)] s) (hD : va_D A w) (hN : NW s) : ∀ U : State, U.heap = H → s.WarmedH U.vm → va_Pc av (pcW dC dI cI cJ H.size w) av.toArray U := fun U hU hW => ⟨rfl, by rw [hU], by rw [hU]; exact hP, va_K.moved hW.alike hK, hD.weaken (fun _ _ _ _ => trivial), hN.warm hW⟩
-- ===== worlds as lists of families =====
theorem vP_mem {D : va_G} {cl : List vw_C} {ws : va_W} {H : Heap} : va_P D cl ws H ↔ ∀ q ∈ ws, va_at D cl q H := by
  constructor
  · intro h q hq
    obtain ⟨k, hk⟩ := List.getElem?_of_mem hq
    exact h k q hk
  · intro h k q hk
    exact h q (List.mem_of_getElem? hk)
theorem vD_mem {A : Nat → Prop} {ws : va_W} : va_D A ws ↔ (ws.Pairwise (fun p q => p.1 ≠ q.1)) ∧ ∀ q ∈ ws, A q.1 := by
  constructor
  · intro h
    refine ⟨List.pairwise_iff_getElem.mpr (fun i j hi hj hij e => ?_), fun q hq => ?_⟩
    · have := h.1 i j _ _ (List.getElem?_eq_getElem hi) (List.getElem?_eq_getElem hj) e
      omega
    · obtain ⟨k, hk⟩ := List.getElem?_of_mem hq
      exact h.2 k q hk
  · intro h
    refine ⟨fun i j p q hi hj e => ?_, fun k q hk => h.2 q (List.mem_of_getElem? hk)⟩
    obtain ⟨hi', ei⟩ := List.getElem?_eq_some_iff.mp hi
    obtain ⟨hj', ej⟩ := List.getElem?_eq_some_iff.mp hj
    rcases Nat.lt_trichotomy i j with c | c | c
    · exact absurd (by rw [ei, ej]; exact e) (List.pairwise_iff_getElem.mp h.1 i j hi' hj' c)
    · exact c
    · exact absurd (by rw [ei, ej]; exact e.symm) (List.pairwise_iff_getElem.mp h.1 j i hj' hi' c)
theorem pick_at {α : Type} {is : List Nat} {fs fs' : List α} (hs : is.map (fun i => fs[i]?) = fs'.map some) {k : Nat} {f : α} (hk : fs'[k]? = some f) : ∃ i, is[k]? = some i ∧ fs[i]? = some f := by
  have h1 : (is.map (fun i => fs[i]?))[k]? = some (some f) := by rw [hs, List.getElem?_map, hk]; rfl
  rw [List.getElem?_map] at h1
  cases hi : is[k]? with
  | none => rw [hi] at h1; cases h1
  | some i => rw [hi] at h1; exact ⟨i, rfl, Option.some.inj h1⟩
theorem pick_mem {is : List Nat} {fs fs' : List va_W} (hs : is.map (fun i => fs[i]?) = fs'.map some) {q : Nat × va_E} (hq : q ∈ fs'.flatten) : q ∈ fs.flatten := by
  obtain ⟨f, hf, hqf⟩ := List.mem_flatten.mp hq
  obtain ⟨k, hk⟩ := List.getElem?_of_mem hf
  obtain ⟨i, -, h2⟩ := pick_at hs hk
  exact List.mem_flatten.mpr ⟨f, List.mem_of_getElem? h2, hqf⟩
theorem va_P.subF {D : va_G} {cl : List vw_C} {fs fs' : List va_W} {H : Heap} (h : va_P D cl fs.flatten H) (is : List Nat) (hs : is.map (fun i => fs[i]?) = fs'.map some) : va_P D cl fs'.flatten H :=
  vP_mem.mpr fun q hq => vP_mem.mp h q (pick_mem hs hq)
theorem va_D.subF {A : Nat → Prop} {fs fs' : List va_W} (h : va_D A fs.flatten) (is : List Nat) (hn : va_nd is = true) (hs : is.map (fun i => fs[i]?) = fs'.map some) : va_D A fs'.flatten := by
  obtain ⟨h1, h2⟩ := vD_mem.mp h
  rw [List.pairwise_flatten] at h1
  refine vD_mem.mpr ⟨?_, fun q hq => h2 q (pick_mem hs hq)⟩
  rw [List.pairwise_flatten]
  refine ⟨fun f hf => ?_, List.pairwise_iff_getElem.mpr (fun a b ha hb hab => ?_)⟩
  · obtain ⟨k, hk⟩ := List.getElem?_of_mem hf
    obtain ⟨i, -, hi⟩ := pick_at hs hk
    exact h1.1 f (List.mem_of_getElem? hi)
  · obtain ⟨i, ia, hi⟩ := pick_at hs (List.getElem?_eq_getElem ha)
    obtain ⟨j, ib, hj⟩ := pick_at hs (List.getElem?_eq_getElem hb)
    have hij : i ≠ j := fun e => by
      subst e
      have := va_nd_inj is hn a b i ia ib
      omega
    obtain ⟨hi', ei⟩ := List.getElem?_eq_some_iff.mp hi
    obtain ⟨hj', ej⟩ := List.getElem?_eq_some_iff.mp hj
    rw [← ei, ← ej]
    rcases Nat.lt_or_gt_of_ne hij with c | c
    · exact List.pairwise_iff_getElem.mp h1.2 i j hi' hj' c
    · intro x hx y hy e
      exact List.pairwise_iff_getElem.mp h1.2 j i hj' hi' c y hy x hx e.symm
theorem vA_mem {ws : va_W} {sz q : Nat} : va_A ws sz q ↔ (∃ x ∈ ws, x.1 = q) ∨ sz ≤ q := by
  constructor
  · rintro (⟨k, e, h⟩ | h)
    · exact Or.inl ⟨(q, e), List.mem_of_getElem? h, rfl⟩
    · exact Or.inr h
  · rintro (⟨x, hx, rfl⟩ | h)
    · obtain ⟨k, hk⟩ := List.getElem?_of_mem hx
      exact Or.inl ⟨k, x.2, hk⟩
    · exact Or.inr h
theorem va_freeF {A0 : Nat → Prop} {fs fc : List va_W} {H0 H : Heap} {locs : List Loc} (hD : va_D A0 fs.flatten) (hS : va_S A0 H0 H locs) (hA : ∀ q, H0.size ≤ q → A0 q) (isC : List Nat) (hC : isC.map (fun i => fs[i]?) = fc.map some) : ∀ q, va_A fc.flatten H.size q → A0 q := by
  intro q h
  rcases vA_mem.mp h with ⟨x, hx, rfl⟩ | h
  · exact (vD_mem.mp hD).2 x (pick_mem hC hx)
  · exact hA q (Nat.le_trans hS.1 h)
theorem va_joinF {A0 : Nat → Prop} {D : va_G} {cl : List vw_C} {fs fc fr f1 : List va_W} {H H1 : Heap} (hP : va_P D cl fs.flatten H) (hD : va_D A0 fs.flatten) (isC isR : List Nat) (hC : isC.map (fun i => fs[i]?) = fc.map some) (hR : isR.map (fun i => fs[i]?) = fr.map some) (hn : va_nd isR = true) (hdis : ∀ i ∈ isR, i ∉ isC)
    (hk : ∀ q : Nat, q < H.size → ¬ va_A fc.flatten H.size q → H1[q]? = H[q]?) (hF : ∀ q, va_A fc.flatten H.size q → A0 q) (hP1 : va_P D cl f1.flatten H1) (hD1 : va_D (va_A fc.flatten H.size) f1.flatten) : va_P D cl (fr ++ f1).flatten H1 ∧ va_D A0 (fr ++ f1).flatten := by
  have h0 := (vD_mem.mp hD).1
  rw [List.pairwise_flatten] at h0
  have apart : ∀ x ∈ fr.flatten, x.1 < H.size ∧ ¬ va_A fc.flatten H.size x.1 := by
    intro x hx
    have hl := (vP_mem.mp hP x (pick_mem hR hx)).lt
    refine ⟨hl, fun h => ?_⟩
    rcases vA_mem.mp h with ⟨y, hy, e⟩ | h
    · obtain ⟨f, hf, hxf⟩ := List.mem_flatten.mp hx
      obtain ⟨g, hg, hyg⟩ := List.mem_flatten.mp hy
      obtain ⟨a, ha⟩ := List.getElem?_of_mem hf
      obtain ⟨b, hb⟩ := List.getElem?_of_mem hg
      obtain ⟨i, ia, hi⟩ := pick_at hR ha
      obtain ⟨j, jb, hj⟩ := pick_at hC hb
      have hij : i ≠ j := fun e => by
        subst e
        exact hdis i (List.mem_of_getElem? ia) (List.mem_of_getElem? jb)
      obtain ⟨hi', ei⟩ := List.getElem?_eq_some_iff.mp hi
      obtain ⟨hj', ej⟩ := List.getElem?_eq_some_iff.mp hj
      rcases Nat.lt_or_gt_of_ne hij with c | c
      · exact List.pairwise_iff_getElem.mp h0.2 i j hi' hj' c x (by rw [ei]; exact hxf) y (by rw [ej]; exact hyg) e.symm
      · exact List.pairwise_iff_getElem.mp h0.2 j i hj' hi' c y (by rw [ej]; exact hyg) x (by rw [ei]; exact hxf) e
    · omega
  have hDr := vD_mem.mp (hD.subF isR hn hR)
  have hD1' := vD_mem.mp hD1
  rw [List.flatten_append]
  refine ⟨vP_mem.mpr fun q hq => ?_, vD_mem.mpr ⟨?_, fun q hq => ?_⟩⟩
  · rcases List.mem_append.mp hq with h | h
    · obtain ⟨g1, g2⟩ := apart q h
      exact (vP_mem.mp hP q (pick_mem hR h)).kept (hk q.1 g1 g2)
    · exact vP_mem.mp hP1 q h
  · refine List.pairwise_append.mpr ⟨hDr.1, hD1'.1, fun x hx y hy e => ?_⟩
    exact (apart x hx).2 (by rw [e]; exact hD1'.2 y hy)
  · rcases List.mem_append.mp hq with h | h
    · exact hDr.2 q h
    · exact hF q.1 (hD1'.2 q h)
abbrev wM (cI cJ : ClassId) (a : Nat) (h : Nat → Nat) (u : OS) : va_W := [(a, .inr (8, [.int (u.1 0), .int (u.1 1), .int (u.1 2), .int (u.1 3), .ref (h 4), .int (u.1 5), .ref (h 6), .int (u.1 7), .ref (h 8), .ref (h 9), .ref (h 10), .ref (h 11), .ref (h 12), .ref (h 13), .ref (h 14), .int (u.1 15), .ref (h 16), .ref (h 17), .int (u.1 18), .ref (h 19), .int (u.1 20), .int (u.1 21), .int (u.1 22), .int (u.1 23), .ref (h 24), .int (u.1 25), .int (u.1 26), .int (u.1 27), .int (u.1 28), .int (u.1 29), .int (u.1 30), .int (u.1 31), .int (u.1 32), .ref (h 33)])), (h 4, .inl (cI, 1000, .inl (u.2.1 4))), (h 6, .inl (cI, 32, .inl (u.2.1 6))), (h 8, .inl (cI, 64, .inl (u.2.1 8))), (h 9, .inl (cI, 64, .inl (u.2.1 9))), (h 10, .inl (cI, 2, .inl (u.2.1 10))), (h 11, .inl (cI, 8192, .inl (u.2.1 11))), (h 12, .inl (cI, 8192, .inl (u.2.1 12))), (h 13, .inl (cI, 8192, .inl (u.2.1 13))), (h 14, .inl (cI, 20000, .inl (u.2.1 14))), (h 16, .inl (cJ, 4, .inr (.inl (u.2.2.1 16)))), (h 17, .inl (cJ, 4, .inr (.inl (u.2.2.1 17)))), (h 19, .inl (cI, 70000, .inl (u.2.1 19))), (h 24, .inl (cI, 65536, .inl (u.2.1 24))), (h 33, .inl (cJ, 4, .inr (.inl (u.2.2.1 33))))]
abbrev wL (cI cJ : ClassId) (a : Nat) (h : Nat → Nat) (u : OS) : va_W := [(a, .inr (1, [.ref (h 0)])), (h 0, .inl (cJ, (u.2.2.2 0), .inr (.inl (u.2.2.1 0))))]
abbrev wO (cI cJ : ClassId) (a : Nat) (h : Nat → Nat) (u : OS) : va_W := [(a, .inr (2, [.ref (h 0), .int (u.1 1), .int (u.1 2)])), (h 0, .inl (cI, (u.2.2.2 0), .inl (u.2.1 0)))]
abbrev wP (cI cJ : ClassId) (a : Nat) (h : Nat → Nat) (u : OS) : va_W := [(a, .inr (3, [.ref (h 0), .int (u.1 1)])), (h 0, .inl (cI, (u.2.2.2 0), .inl (u.2.1 0)))]
abbrev wS (cI cJ : ClassId) (a : Nat) (h : Nat → Nat) (u : OS) : va_W := [(a, .inr (5, [.int (u.1 0), .int (u.1 1), .int (u.1 2), .ref (h 3), .ref (h 4), .ref (h 5), .ref (h 6), .int (u.1 7), .ref (h 8), .ref (h 9), .ref (h 10)])), (h 3, .inl (cI, 32, .inl (u.2.1 3))), (h 4, .inl (cI, 33, .inl (u.2.1 4))), (h 5, .inl (cJ, 32, .inr (.inl (u.2.2.1 5)))), (h 6, .inl (cI, 32, .inl (u.2.1 6))), (h 8, .inl (cI, (u.2.2.2 8), .inl (u.2.1 8))), (h 9, .inl (cI, (u.2.2.2 9), .inl (u.2.1 9))), (h 10, .inl (cI, (u.2.2.2 10), .inl (u.2.1 10)))]
abbrev wZ (cI cJ : ClassId) (a : Nat) (h : Nat → Nat) (u : OS) : va_W := [(a, .inr (5, [.int (u.1 0), .int (u.1 1), .int (u.1 2), .ref (h 3), .ref (h 4), .ref (h 5), .ref (h 6), .int (u.1 7), .ref (h 8), .ref (h 9), .ref (h 10)])), (h 3, .inl (cI, 32, .inl (u.2.1 3))), (h 4, .inl (cI, 33, .inl (u.2.1 4))), (h 5, .inl (cJ, 32, .inr (.inl (u.2.2.1 5)))), (h 6, .inl (cI, 32, .inl (u.2.1 6))), (h 8, .inl (cI, (u.2.2.2 8), .inl (u.2.1 8))), (h 9, .inl (cI, (u.2.2.2 9), .inl (u.2.1 9))), (h 10, .inl (cI, (u.2.2.2 10), .inl (u.2.1 10)))]
abbrev wW (cI cJ : ClassId) (a : Nat) (h : Nat → Nat) (bP : Nat) (u : OS) : va_W := [(a, .inr (6, [.ref (h 0), .ref bP, .int (u.1 2), .int (u.1 3)])), (h 0, .inl (cJ, 4, .inr (.inl (u.2.2.1 0))))]
abbrev wR (cI cJ : ClassId) (a : Nat) (h : Nat → Nat) (bZ : Nat) (u : OS) : va_W := [(a, .inr (4, [.ref bZ, .ref (h 1), .ref (h 2), .int (u.1 3), .int (u.1 4), .int (u.1 5), .int (u.1 6), .int (u.1 7), .int (u.1 8), .int (u.1 9), .int (u.1 10), .int (u.1 11)])), (h 1, .inl (cJ, 4, .inr (.inl (u.2.2.1 1)))), (h 2, .inl (cI, (u.2.2.2 2), .inl (u.2.1 2)))]
abbrev wX (cI cJ : ClassId) (a : Nat) (h : Nat → Nat) (bL : Nat) (bS : Nat) (bW : Nat) (bR : Nat) (bO : Nat) (u : OS) : va_W := [(a, .inr (7, [.ref bL, .ref bS, .ref bW, .ref bR, .ref bO, .ref (h 5), .ref (h 6), .int (u.1 7), .int (u.1 8), .int (u.1 9)])), (h 5, .inl (cI, 32, .inl (u.2.1 5))), (h 6, .inl (cI, (u.2.2.2 6), .inl (u.2.1 6)))]
abbrev wA (cI cJ : ClassId) (h : Nat → Nat) (u : OS) : va_W := [(h 0, .inl (cI, (u.2.2.2 0), .inl (u.2.1 0)))]
end
section
theorem inX0 : ∀ w ∈ wsX00, w ∈ lw_good := fun w h => lg_mem ((by decide +kernel : ∀ w ∈ wsX00, w ∈ lw_tbl) w h) (List.all_eq_true.mp (by decide +kernel : wsX00.all goodWord = true) w h)
theorem inX1 : ∀ w ∈ wsX10, w ∈ lw_good := fun w h => lg_mem ((by decide +kernel : ∀ w ∈ wsX10, w ∈ lw_tbl) w h) (List.all_eq_true.mp (by decide +kernel : wsX10.all goodWord = true) w h)
theorem inX2 : ∀ w ∈ wsX20, w ∈ lw_good := fun w h => lg_mem ((by decide +kernel : ∀ w ∈ wsX20, w ∈ lw_tbl) w h) (List.all_eq_true.mp (by decide +kernel : wsX20.all goodWord = true) w h)
theorem inX3 : ∀ w ∈ wsX30, w ∈ lw_good := fun w h => lg_mem ((by decide +kernel : ∀ w ∈ wsX30, w ∈ lw_tbl) w h) (List.all_eq_true.mp (by decide +kernel : wsX30.all goodWord = true) w h)
theorem inX4 : ∀ w ∈ wsX40, w ∈ lw_good := fun w h => lg_mem ((by decide +kernel : ∀ w ∈ wsX40, w ∈ lw_tbl) w h) (List.all_eq_true.mp (by decide +kernel : wsX40.all goodWord = true) w h)
theorem inX5 : ∀ w ∈ wsX50, w ∈ lw_good := fun w h => lg_mem ((by decide +kernel : ∀ w ∈ wsX50, w ∈ lw_tbl) w h) (List.all_eq_true.mp (by decide +kernel : wsX50.all goodWord = true) w h)
theorem inX6 : ∀ w ∈ wsX60, w ∈ lw_good := fun w h => lg_mem ((by decide +kernel : ∀ w ∈ wsX60, w ∈ lw_tbl) w h) (List.all_eq_true.mp (by decide +kernel : wsX60.all goodWord = true) w h)
theorem inX7 : ∀ w ∈ wsX70, w ∈ lw_good := fun w h => lg_mem ((by decide +kernel : ∀ w ∈ wsX70, w ∈ lw_tbl) w h) (List.all_eq_true.mp (by decide +kernel : wsX70.all goodWord = true) w h)
theorem kw_0 : Cond.fieldLink RX7 62 "AnsTablesModel" "thrown" "I" ∈ lw_good := lg_mem (tb3 (List.mem_of_getElem? (i := 216) rfl)) (by decide +kernel)
theorem kw_1 : Cond.fieldLink RX7 65 "AnsTablesModel" "rowSize" "I" ∈ lw_good := lg_mem (tb3 (List.mem_of_getElem? (i := 220) rfl)) (by decide +kernel)
theorem kw_2 : Cond.fieldLink RX7 13 "AnsTablesModel" "row" "[I" ∈ lw_good := lg_mem (tb3 (List.mem_of_getElem? (i := 219) rfl)) (by decide +kernel)
theorem kw_3 : Cond.constant RX7 68 (1000000) ∈ lw_good := lg_mem (tb4 (List.mem_of_getElem? (i := 90) rfl)) (by decide +kernel)
theorem kw_4 : Cond.fieldLink RX7 17 "AnsTablesModel" "counts" "[I" ∈ lw_good := lg_mem (tb3 (List.mem_of_getElem? (i := 221) rfl)) (by decide +kernel)
theorem kw_5 : Cond.fieldLink RX7 69 "AnsTablesModel" "hasShares" "Z" ∈ lw_good := lg_mem (tb3 (List.mem_of_getElem? (i := 222) rfl)) (by decide +kernel)
theorem kw_6 : Cond.code yX7_signsCounted cX7_signsCounted 3 (some .int) ∈ lw_good := lg_mem (tb4 (List.mem_of_getElem? (i := 98) rfl)) (by decide +kernel)
theorem kw_7 : Cond.initialized RX7 ∈ lw_good := lg_mem (tb1 (List.mem_of_getElem? (i := 10) rfl)) (by decide +kernel)
theorem kw_8 : Cond.instanceMethod yX7_signsCounted ∈ lw_good := lg_mem (tb4 (List.mem_of_getElem? (i := 97) rfl)) (by decide +kernel)
theorem kw_9 : Cond.selects RX7 yX7_signsCounted yX7_signsCounted ∈ lw_good := lg_mem (tb0 (by decide +kernel)) (by decide +kernel)
theorem kw_10 : Cond.methodLink RX7 73 yX7_signsCounted ∈ lw_good := lg_mem (tb4 (List.mem_of_getElem? (i := 95) rfl)) (by decide +kernel)
theorem kw_11 : Cond.constantLong RX7 77 (2147483648) ∈ lw_good := lg_mem (tb4 (List.mem_of_getElem? (i := 107) rfl)) (by decide +kernel)
theorem kw_12 : Cond.constantLong RX7 79 (2) ∈ lw_good := lg_mem (tb4 (List.mem_of_getElem? (i := 108) rfl)) (by decide +kernel)
theorem kw_13 : Cond.constantLong RX7 81 (-1) ∈ lw_good := lg_mem (tb4 (List.mem_of_getElem? (i := 103) rfl)) (by decide +kernel)
theorem kw_14 : Cond.fieldLink RX7 59 "AnsTablesModel" "log" "I" ∈ lw_good := lg_mem (tb3 (List.mem_of_getElem? (i := 215) rfl)) (by decide +kernel)
theorem kw_15 : Cond.code yX7_logarithm cX7_logarithm 8 (some .long) ∈ lw_good := lg_mem (tb4 (List.mem_of_getElem? (i := 106) rfl)) (by decide +kernel)
theorem kw_16 : Cond.static yX7_logarithm ∈ lw_good := lg_mem (tb4 (List.mem_of_getElem? (i := 105) rfl)) (by decide +kernel)
theorem kw_17 : Cond.methodLink RX7 83 yX7_logarithm ∈ lw_good := lg_mem (tb4 (List.mem_of_getElem? (i := 104) rfl)) (by decide +kernel)
theorem kw_18 : Cond.fieldLink RX7 20 "AnsTablesModel" "share" "[I" ∈ lw_good := lg_mem (tb3 (List.mem_of_getElem? (i := 223) rfl)) (by decide +kernel)
theorem kw_19 : Cond.fieldLink RX7 26 "AnsTablesModel" "logOf" "[I" ∈ lw_good := lg_mem (tb3 (List.mem_of_getElem? (i := 225) rfl)) (by decide +kernel)
theorem kw_20 : Cond.fieldLink RX7 23 "AnsTablesModel" "from" "[I" ∈ lw_good := lg_mem (tb3 (List.mem_of_getElem? (i := 224) rfl)) (by decide +kernel)
theorem kw_21 : Cond.fieldLink RX7 29 "AnsTablesModel" "signAt" "[I" ∈ lw_good := lg_mem (tb3 (List.mem_of_getElem? (i := 226) rfl)) (by decide +kernel)
theorem kw_22 : Cond.fieldLink RX7 32 "AnsTablesModel" "numberAt" "[I" ∈ lw_good := lg_mem (tb3 (List.mem_of_getElem? (i := 227) rfl)) (by decide +kernel)
theorem kw_23 : Cond.fieldLink RX7 35 "AnsTablesModel" "placeOf" "[I" ∈ lw_good := lg_mem (tb3 (List.mem_of_getElem? (i := 228) rfl)) (by decide +kernel)
theorem kw_24 : Cond.code yX7_lay cX7_lay 8 none ∈ lw_good := lg_mem (tb4 (List.mem_of_getElem? (i := 116) rfl)) (by decide +kernel)
theorem kw_25 : Cond.instanceMethod yX7_lay ∈ lw_good := lg_mem (tb4 (List.mem_of_getElem? (i := 115) rfl)) (by decide +kernel)
theorem kw_26 : Cond.selects RX7 yX7_lay yX7_lay ∈ lw_good := lg_mem (tb0 (by decide +kernel)) (by decide +kernel)
theorem kw_27 : Cond.methodLink RX7 87 yX7_lay ∈ lw_good := lg_mem (tb4 (List.mem_of_getElem? (i := 113) rfl)) (by decide +kernel)
theorem kw_28 : Cond.fieldLink RX7 91 "AnsTablesModel" "kind" "I" ∈ lw_good := lg_mem (tb3 (List.mem_of_getElem? (i := 217) rfl)) (by decide +kernel)
theorem kw_29 : Cond.fieldLink RX7 7 "AnsTablesModel" "lanes" "I" ∈ lw_good := lg_mem (tb3 (List.mem_of_getElem? (i := 218) rfl)) (by decide +kernel)
theorem kw_30 : Cond.constantLong RX7 94 (8388608) ∈ lw_good := lg_mem (tb4 (List.mem_of_getElem? (i := 171) rfl)) (by decide +kernel)
theorem kw_31 : Cond.fieldLink RX7 38 "AnsTablesModel" "out" "[I" ∈ lw_good := lg_mem (tb3 (List.mem_of_getElem? (i := 229) rfl)) (by decide +kernel)
theorem kw_32 : Cond.fieldLink RX7 96 "AnsTablesModel" "outSize" "I" ∈ lw_good := lg_mem (tb3 (List.mem_of_getElem? (i := 230) rfl)) (by decide +kernel)
theorem kw_33 : Cond.code yX7_putByte cX7_putByte 2 none ∈ lw_good := lg_mem (tb4 (List.mem_of_getElem? (i := 152) rfl)) (by decide +kernel)
theorem kw_34 : Cond.instanceMethod yX7_putByte ∈ lw_good := lg_mem (tb4 (List.mem_of_getElem? (i := 151) rfl)) (by decide +kernel)
theorem kw_35 : Cond.selects RX7 yX7_putByte yX7_putByte ∈ lw_good := lg_mem (tb0 (by decide +kernel)) (by decide +kernel)
theorem kw_36 : Cond.methodLink RX7 99 yX7_putByte ∈ lw_good := lg_mem (tb4 (List.mem_of_getElem? (i := 149) rfl)) (by decide +kernel)
theorem kw_37 : Cond.fieldLink RX7 102 "AnsTablesModel" "bitAt" "I" ∈ lw_good := lg_mem (tb3 (List.mem_of_getElem? (i := 236) rfl)) (by decide +kernel)
theorem kw_38 : Cond.code yX7_bitsOf cX7_bitsOf 2 (some .int) ∈ lw_good := lg_mem (tb4 (List.mem_of_getElem? (i := 163) rfl)) (by decide +kernel)
theorem kw_39 : Cond.static yX7_bitsOf ∈ lw_good := lg_mem (tb4 (List.mem_of_getElem? (i := 162) rfl)) (by decide +kernel)
theorem kw_40 : Cond.methodLink RX7 105 yX7_bitsOf ∈ lw_good := lg_mem (tb4 (List.mem_of_getElem? (i := 161) rfl)) (by decide +kernel)
theorem kw_41 : Cond.code yX7_putBits cX7_putBits 4 none ∈ lw_good := lg_mem (tb4 (List.mem_of_getElem? (i := 167) rfl)) (by decide +kernel)
theorem kw_42 : Cond.instanceMethod yX7_putBits ∈ lw_good := lg_mem (tb4 (List.mem_of_getElem? (i := 166) rfl)) (by decide +kernel)
theorem kw_43 : Cond.selects RX7 yX7_putBits yX7_putBits ∈ lw_good := lg_mem (tb0 (by decide +kernel)) (by decide +kernel)
theorem kw_44 : Cond.methodLink RX7 109 yX7_putBits ∈ lw_good := lg_mem (tb4 (List.mem_of_getElem? (i := 164) rfl)) (by decide +kernel)
theorem kw_45 : Cond.fieldLink RX7 41 "AnsTablesModel" "state" "[J" ∈ lw_good := lg_mem (tb3 (List.mem_of_getElem? (i := 231) rfl)) (by decide +kernel)
theorem kw_46 : Cond.fieldLink RX7 49 "AnsTablesModel" "put" "[I" ∈ lw_good := lg_mem (tb3 (List.mem_of_getElem? (i := 234) rfl)) (by decide +kernel)
theorem kw_47 : Cond.fieldLink RX7 113 "AnsTablesModel" "putSize" "I" ∈ lw_good := lg_mem (tb3 (List.mem_of_getElem? (i := 235) rfl)) (by decide +kernel)
theorem kw_48 : Cond.fieldLink RX7 116 "AnsTablesModel" "sideAll" "I" ∈ lw_good := lg_mem (tb3 (List.mem_of_getElem? (i := 237) rfl)) (by decide +kernel)
theorem kw_49 : Cond.fieldLink RX7 119 "AnsTablesModel" "sideZero" "I" ∈ lw_good := lg_mem (tb3 (List.mem_of_getElem? (i := 238) rfl)) (by decide +kernel)
theorem kw_50 : Cond.code yX7_laySides cX7_laySides 5 none ∈ lw_good := lg_mem (tb4 (List.mem_of_getElem? (i := 179) rfl)) (by decide +kernel)
theorem kw_51 : Cond.instanceMethod yX7_laySides ∈ lw_good := lg_mem (tb4 (List.mem_of_getElem? (i := 178) rfl)) (by decide +kernel)
theorem kw_52 : Cond.selects RX7 yX7_laySides yX7_laySides ∈ lw_good := lg_mem (tb0 (by decide +kernel)) (by decide +kernel)
theorem kw_53 : Cond.methodLink RX7 122 yX7_laySides ∈ lw_good := lg_mem (tb4 (List.mem_of_getElem? (i := 176) rfl)) (by decide +kernel)
theorem kw_54 : Cond.code yX7_sideChance cX7_sideChance 3 (some .int) ∈ lw_good := lg_mem (tb4 (List.mem_of_getElem? (i := 183) rfl)) (by decide +kernel)
theorem kw_55 : Cond.instanceMethod yX7_sideChance ∈ lw_good := lg_mem (tb4 (List.mem_of_getElem? (i := 182) rfl)) (by decide +kernel)
theorem kw_56 : Cond.selects RX7 yX7_sideChance yX7_sideChance ∈ lw_good := lg_mem (tb0 (by decide +kernel)) (by decide +kernel)
theorem kw_57 : Cond.methodLink RX7 126 yX7_sideChance ∈ lw_good := lg_mem (tb4 (List.mem_of_getElem? (i := 180) rfl)) (by decide +kernel)
theorem kw_58 : Cond.code yX7_writeBytes cX7_writeBytes 6 none ∈ lw_good := lg_mem (tb4 (List.mem_of_getElem? (i := 187) rfl)) (by decide +kernel)
theorem kw_59 : Cond.instanceMethod yX7_writeBytes ∈ lw_good := lg_mem (tb4 (List.mem_of_getElem? (i := 186) rfl)) (by decide +kernel)
theorem kw_60 : Cond.selects RX7 yX7_writeBytes yX7_writeBytes ∈ lw_good := lg_mem (tb0 (by decide +kernel)) (by decide +kernel)
theorem kw_61 : Cond.methodLink RX7 129 yX7_writeBytes ∈ lw_good := lg_mem (tb4 (List.mem_of_getElem? (i := 184) rfl)) (by decide +kernel)
theorem kw_62 : Cond.fieldLink RX7 45 "AnsTablesModel" "written" "[J" ∈ lw_good := lg_mem (tb3 (List.mem_of_getElem? (i := 232) rfl)) (by decide +kernel)
theorem kw_63 : Cond.fieldLink RX7 152 "AnsTablesModel" "writtenLanes" "I" ∈ lw_good := lg_mem (tb3 (List.mem_of_getElem? (i := 233) rfl)) (by decide +kernel)
theorem kw_64 : Cond.code yX7_putWide cX7_putWide 5 none ∈ lw_good := lg_mem (tb4 (List.mem_of_getElem? (i := 156) rfl)) (by decide +kernel)
theorem kw_65 : Cond.instanceMethod yX7_putWide ∈ lw_good := lg_mem (tb4 (List.mem_of_getElem? (i := 155) rfl)) (by decide +kernel)
theorem kw_66 : Cond.selects RX7 yX7_putWide yX7_putWide ∈ lw_good := lg_mem (tb0 (by decide +kernel)) (by decide +kernel)
theorem kw_67 : Cond.methodLink RX7 132 yX7_putWide ∈ lw_good := lg_mem (tb4 (List.mem_of_getElem? (i := 153) rfl)) (by decide +kernel)
theorem kw_68 : Cond.code yX7_writeTable cX7_writeTable 3 none ∈ lw_good := lg_mem (tb4 (List.mem_of_getElem? (i := 160) rfl)) (by decide +kernel)
theorem kw_69 : Cond.instanceMethod yX7_writeTable ∈ lw_good := lg_mem (tb4 (List.mem_of_getElem? (i := 159) rfl)) (by decide +kernel)
theorem kw_70 : Cond.selects RX7 yX7_writeTable yX7_writeTable ∈ lw_good := lg_mem (tb0 (by decide +kernel)) (by decide +kernel)
theorem kw_71 : Cond.methodLink RX7 136 yX7_writeTable ∈ lw_good := lg_mem (tb4 (List.mem_of_getElem? (i := 157) rfl)) (by decide +kernel)
theorem kw_72 : Cond.code yX7_writeBitsOf cX7_writeBitsOf 6 none ∈ lw_good := lg_mem (tb4 (List.mem_of_getElem? (i := 195) rfl)) (by decide +kernel)
theorem kw_73 : Cond.instanceMethod yX7_writeBitsOf ∈ lw_good := lg_mem (tb4 (List.mem_of_getElem? (i := 194) rfl)) (by decide +kernel)
theorem kw_74 : Cond.selects RX7 yX7_writeBitsOf yX7_writeBitsOf ∈ lw_good := lg_mem (tb0 (by decide +kernel)) (by decide +kernel)
theorem kw_75 : Cond.methodLink RX7 149 yX7_writeBitsOf ∈ lw_good := lg_mem (tb4 (List.mem_of_getElem? (i := 192) rfl)) (by decide +kernel)
theorem kw_76 : Cond.code yX7_writeWords cX7_writeWords 6 none ∈ lw_good := lg_mem (tb4 (List.mem_of_getElem? (i := 191) rfl)) (by decide +kernel)
theorem kw_77 : Cond.instanceMethod yX7_writeWords ∈ lw_good := lg_mem (tb4 (List.mem_of_getElem? (i := 190) rfl)) (by decide +kernel)
theorem kw_78 : Cond.selects RX7 yX7_writeWords yX7_writeWords ∈ lw_good := lg_mem (tb0 (by decide +kernel)) (by decide +kernel)
theorem kw_79 : Cond.methodLink RX7 146 yX7_writeWords ∈ lw_good := lg_mem (tb4 (List.mem_of_getElem? (i := 188) rfl)) (by decide +kernel)
theorem kw_80 : Cond.code yX7_writeSides cX7_writeSides 5 none ∈ lw_good := lg_mem (tb4 (List.mem_of_getElem? (i := 175) rfl)) (by decide +kernel)
theorem kw_81 : Cond.instanceMethod yX7_writeSides ∈ lw_good := lg_mem (tb4 (List.mem_of_getElem? (i := 174) rfl)) (by decide +kernel)
theorem kw_82 : Cond.selects RX7 yX7_writeSides yX7_writeSides ∈ lw_good := lg_mem (tb0 (by decide +kernel)) (by decide +kernel)
theorem kw_83 : Cond.methodLink RX7 143 yX7_writeSides ∈ lw_good := lg_mem (tb4 (List.mem_of_getElem? (i := 172) rfl)) (by decide +kernel)
theorem kw_84 : Cond.code yX7_firstState cX7_firstState 2 (some .long) ∈ lw_good := lg_mem (tb4 (List.mem_of_getElem? (i := 170) rfl)) (by decide +kernel)
theorem kw_85 : Cond.static yX7_firstState ∈ lw_good := lg_mem (tb4 (List.mem_of_getElem? (i := 169) rfl)) (by decide +kernel)
theorem kw_86 : Cond.methodLink RX7 139 yX7_firstState ∈ lw_good := lg_mem (tb4 (List.mem_of_getElem? (i := 168) rfl)) (by decide +kernel)
theorem kw_87 : Cond.code yX7_mayWrite cX7_mayWrite 3 (some .boolean) ∈ lw_good := lg_mem (tb4 (List.mem_of_getElem? (i := 144) rfl)) (by decide +kernel)
theorem kw_88 : Cond.instanceMethod yX7_mayWrite ∈ lw_good := lg_mem (tb4 (List.mem_of_getElem? (i := 143) rfl)) (by decide +kernel)
theorem kw_89 : Cond.selects RX7 yX7_mayWrite yX7_mayWrite ∈ lw_good := lg_mem (tb0 (by decide +kernel)) (by decide +kernel)
theorem kw_90 : Cond.methodLink RX7 155 yX7_mayWrite ∈ lw_good := lg_mem (tb4 (List.mem_of_getElem? (i := 141) rfl)) (by decide +kernel)
theorem kw_91 : Cond.code yX7_writeForm cX7_writeForm 5 none ∈ lw_good := lg_mem (tb4 (List.mem_of_getElem? (i := 148) rfl)) (by decide +kernel)
theorem kw_92 : Cond.instanceMethod yX7_writeForm ∈ lw_good := lg_mem (tb4 (List.mem_of_getElem? (i := 147) rfl)) (by decide +kernel)
theorem kw_93 : Cond.selects RX7 yX7_writeForm yX7_writeForm ∈ lw_good := lg_mem (tb0 (by decide +kernel)) (by decide +kernel)
theorem kw_94 : Cond.methodLink RX7 159 yX7_writeForm ∈ lw_good := lg_mem (tb4 (List.mem_of_getElem? (i := 145) rfl)) (by decide +kernel)
theorem kw_95 : Cond.fieldLink RX7 162 "AnsTablesModel" "broken" "I" ∈ lw_good := lg_mem (tb4 (List.mem_of_getElem? (i := 2) rfl)) (by decide +kernel)
theorem kw_96 : Cond.fieldLink RX7 165 "AnsTablesModel" "at" "I" ∈ lw_good := lg_mem (tb4 (List.mem_of_getElem? (i := 1) rfl)) (by decide +kernel)
theorem kw_97 : Cond.code yX7_fail cX7_fail 2 none ∈ lw_good := lg_mem (tb4 (List.mem_of_getElem? (i := 215) rfl)) (by decide +kernel)
theorem kw_98 : Cond.instanceMethod yX7_fail ∈ lw_good := lg_mem (tb4 (List.mem_of_getElem? (i := 214) rfl)) (by decide +kernel)
theorem kw_99 : Cond.selects RX7 yX7_fail yX7_fail ∈ lw_good := lg_mem (tb0 (by decide +kernel)) (by decide +kernel)
theorem kw_100 : Cond.methodLink RX7 168 yX7_fail ∈ lw_good := lg_mem (tb4 (List.mem_of_getElem? (i := 212) rfl)) (by decide +kernel)
theorem kw_101 : Cond.code yX7_next cX7_next 1 (some .int) ∈ lw_good := lg_mem (tb4 (List.mem_of_getElem? (i := 211) rfl)) (by decide +kernel)
theorem kw_102 : Cond.instanceMethod yX7_next ∈ lw_good := lg_mem (tb4 (List.mem_of_getElem? (i := 210) rfl)) (by decide +kernel)
theorem kw_103 : Cond.selects RX7 yX7_next yX7_next ∈ lw_good := lg_mem (tb0 (by decide +kernel)) (by decide +kernel)
theorem kw_104 : Cond.methodLink RX7 171 yX7_next ∈ lw_good := lg_mem (tb4 (List.mem_of_getElem? (i := 208) rfl)) (by decide +kernel)
theorem kw_105 : Cond.fieldLink RX7 174 "AnsTablesModel" "bitLeft" "I" ∈ lw_good := lg_mem (tb4 (List.mem_of_getElem? (i := 4) rfl)) (by decide +kernel)
theorem kw_106 : Cond.code yX7_nextBit cX7_nextBit 2 (some .int) ∈ lw_good := lg_mem (tb4 (List.mem_of_getElem? (i := 227) rfl)) (by decide +kernel)
theorem kw_107 : Cond.instanceMethod yX7_nextBit ∈ lw_good := lg_mem (tb4 (List.mem_of_getElem? (i := 226) rfl)) (by decide +kernel)
theorem kw_108 : Cond.selects RX7 yX7_nextBit yX7_nextBit ∈ lw_good := lg_mem (tb0 (by decide +kernel)) (by decide +kernel)
theorem kw_109 : Cond.methodLink RX7 177 yX7_nextBit ∈ lw_good := lg_mem (tb4 (List.mem_of_getElem? (i := 224) rfl)) (by decide +kernel)
theorem kw_110 : Cond.fieldLink RX7 180 "AnsTablesModel" "readForm" "I" ∈ lw_good := lg_mem (tb4 (List.mem_of_getElem? (i := 5) rfl)) (by decide +kernel)
theorem kw_111 : Cond.fieldLink RX7 56 "AnsTablesModel" "now" "[J" ∈ lw_good := lg_mem (tb4 (List.mem_of_getElem? (i := 8) rfl)) (by decide +kernel)
theorem kw_112 : Cond.code yX7_nextWide cX7_nextWide 5 (some .long) ∈ lw_good := lg_mem (tb4 (List.mem_of_getElem? (i := 219) rfl)) (by decide +kernel)
theorem kw_113 : Cond.instanceMethod yX7_nextWide ∈ lw_good := lg_mem (tb4 (List.mem_of_getElem? (i := 218) rfl)) (by decide +kernel)
theorem kw_114 : Cond.selects RX7 yX7_nextWide yX7_nextWide ∈ lw_good := lg_mem (tb0 (by decide +kernel)) (by decide +kernel)
theorem kw_115 : Cond.methodLink RX7 198 yX7_nextWide ∈ lw_good := lg_mem (tb4 (List.mem_of_getElem? (i := 216) rfl)) (by decide +kernel)
theorem kw_116 : Cond.code yX7_readBytes cX7_readBytes 7 none ∈ lw_good := lg_mem (tb5 (List.mem_of_getElem? (i := 3) rfl)) (by decide +kernel)
theorem kw_117 : Cond.instanceMethod yX7_readBytes ∈ lw_good := lg_mem (tb5 (List.mem_of_getElem? (i := 2) rfl)) (by decide +kernel)
theorem kw_118 : Cond.selects RX7 yX7_readBytes yX7_readBytes ∈ lw_good := lg_mem (tb0 (by decide +kernel)) (by decide +kernel)
theorem kw_119 : Cond.methodLink RX7 189 yX7_readBytes ∈ lw_good := lg_mem (tb5 (List.mem_of_getElem? (i := 0) rfl)) (by decide +kernel)
theorem kw_120 : Cond.fieldLink RX7 53 "AnsTablesModel" "read" "[I" ∈ lw_good := lg_mem (tb3 (List.mem_of_getElem? (i := 239) rfl)) (by decide +kernel)
theorem kw_121 : Cond.fieldLink RX7 195 "AnsTablesModel" "readSize" "I" ∈ lw_good := lg_mem (tb4 (List.mem_of_getElem? (i := 0) rfl)) (by decide +kernel)
theorem kw_122 : Cond.code yX7_signOf cX7_signOf 3 (some .int) ∈ lw_good := lg_mem (tb5 (List.mem_of_getElem? (i := 7) rfl)) (by decide +kernel)
theorem kw_123 : Cond.instanceMethod yX7_signOf ∈ lw_good := lg_mem (tb5 (List.mem_of_getElem? (i := 6) rfl)) (by decide +kernel)
theorem kw_124 : Cond.selects RX7 yX7_signOf yX7_signOf ∈ lw_good := lg_mem (tb0 (by decide +kernel)) (by decide +kernel)
theorem kw_125 : Cond.methodLink RX7 186 yX7_signOf ∈ lw_good := lg_mem (tb5 (List.mem_of_getElem? (i := 4) rfl)) (by decide +kernel)
theorem kw_126 : Cond.code yX7_readWords cX7_readWords 7 none ∈ lw_good := lg_mem (tb5 (List.mem_of_getElem? (i := 11) rfl)) (by decide +kernel)
theorem kw_127 : Cond.instanceMethod yX7_readWords ∈ lw_good := lg_mem (tb5 (List.mem_of_getElem? (i := 10) rfl)) (by decide +kernel)
theorem kw_128 : Cond.selects RX7 yX7_readWords yX7_readWords ∈ lw_good := lg_mem (tb0 (by decide +kernel)) (by decide +kernel)
theorem kw_129 : Cond.methodLink RX7 192 yX7_readWords ∈ lw_good := lg_mem (tb5 (List.mem_of_getElem? (i := 8) rfl)) (by decide +kernel)
theorem kw_130 : Cond.code yX7_readSides cX7_readSides 7 (some .int) ∈ lw_good := lg_mem (tb4 (List.mem_of_getElem? (i := 239) rfl)) (by decide +kernel)
theorem kw_131 : Cond.instanceMethod yX7_readSides ∈ lw_good := lg_mem (tb4 (List.mem_of_getElem? (i := 238) rfl)) (by decide +kernel)
theorem kw_132 : Cond.selects RX7 yX7_readSides yX7_readSides ∈ lw_good := lg_mem (tb0 (by decide +kernel)) (by decide +kernel)
theorem kw_133 : Cond.methodLink RX7 183 yX7_readSides ∈ lw_good := lg_mem (tb4 (List.mem_of_getElem? (i := 236) rfl)) (by decide +kernel)
theorem kw_134 : Cond.fieldLink RX7 201 "AnsTablesModel" "readLanes" "I" ∈ lw_good := lg_mem (tb4 (List.mem_of_getElem? (i := 6) rfl)) (by decide +kernel)
theorem kw_135 : Cond.fieldLink RX7 204 "AnsTablesModel" "hasStates" "Z" ∈ lw_good := lg_mem (tb4 (List.mem_of_getElem? (i := 7) rfl)) (by decide +kernel)
theorem kw_136 : Cond.code yX7_readHead cX7_readHead 3 (some .int) ∈ lw_good := lg_mem (tb4 (List.mem_of_getElem? (i := 207) rfl)) (by decide +kernel)
theorem kw_137 : Cond.instanceMethod yX7_readHead ∈ lw_good := lg_mem (tb4 (List.mem_of_getElem? (i := 206) rfl)) (by decide +kernel)
theorem kw_138 : Cond.selects RX7 yX7_readHead yX7_readHead ∈ lw_good := lg_mem (tb0 (by decide +kernel)) (by decide +kernel)
theorem kw_139 : Cond.methodLink RX7 207 yX7_readHead ∈ lw_good := lg_mem (tb4 (List.mem_of_getElem? (i := 204) rfl)) (by decide +kernel)
theorem kw_140 : Cond.code yX7_readSign cX7_readSign 8 none ∈ lw_good := lg_mem (tb4 (List.mem_of_getElem? (i := 235) rfl)) (by decide +kernel)
theorem kw_141 : Cond.instanceMethod yX7_readSign ∈ lw_good := lg_mem (tb4 (List.mem_of_getElem? (i := 234) rfl)) (by decide +kernel)
theorem kw_142 : Cond.selects RX7 yX7_readSign yX7_readSign ∈ lw_good := lg_mem (tb0 (by decide +kernel)) (by decide +kernel)
theorem kw_143 : Cond.methodLink RX7 217 yX7_readSign ∈ lw_good := lg_mem (tb4 (List.mem_of_getElem? (i := 232) rfl)) (by decide +kernel)
theorem kw_144 : Cond.code yX7_isInSpan cX7_isInSpan 3 (some .boolean) ∈ lw_good := lg_mem (tb4 (List.mem_of_getElem? (i := 231) rfl)) (by decide +kernel)
theorem kw_145 : Cond.instanceMethod yX7_isInSpan ∈ lw_good := lg_mem (tb4 (List.mem_of_getElem? (i := 230) rfl)) (by decide +kernel)
theorem kw_146 : Cond.selects RX7 yX7_isInSpan yX7_isInSpan ∈ lw_good := lg_mem (tb0 (by decide +kernel)) (by decide +kernel)
theorem kw_147 : Cond.methodLink RX7 213 yX7_isInSpan ∈ lw_good := lg_mem (tb4 (List.mem_of_getElem? (i := 228) rfl)) (by decide +kernel)
theorem kw_148 : Cond.code yX7_readTable cX7_readTable 5 none ∈ lw_good := lg_mem (tb4 (List.mem_of_getElem? (i := 223) rfl)) (by decide +kernel)
theorem kw_149 : Cond.instanceMethod yX7_readTable ∈ lw_good := lg_mem (tb4 (List.mem_of_getElem? (i := 222) rfl)) (by decide +kernel)
theorem kw_150 : Cond.selects RX7 yX7_readTable yX7_readTable ∈ lw_good := lg_mem (tb0 (by decide +kernel)) (by decide +kernel)
theorem kw_151 : Cond.methodLink RX7 210 yX7_readTable ∈ lw_good := lg_mem (tb4 (List.mem_of_getElem? (i := 220) rfl)) (by decide +kernel)
theorem kw_152 : Cond.fieldLink RX7 223 "AnsTablesModel" "rule" "I" ∈ lw_good := lg_mem (tb4 (List.mem_of_getElem? (i := 3) rfl)) (by decide +kernel)
theorem kw_153 : Cond.code yX7_readAll cX7_readAll 3 none ∈ lw_good := lg_mem (tb4 (List.mem_of_getElem? (i := 203) rfl)) (by decide +kernel)
theorem kw_154 : Cond.instanceMethod yX7_readAll ∈ lw_good := lg_mem (tb4 (List.mem_of_getElem? (i := 202) rfl)) (by decide +kernel)
theorem kw_155 : Cond.selects RX7 yX7_readAll yX7_readAll ∈ lw_good := lg_mem (tb0 (by decide +kernel)) (by decide +kernel)
theorem kw_156 : Cond.methodLink RX7 220 yX7_readAll ∈ lw_good := lg_mem (tb4 (List.mem_of_getElem? (i := 200) rfl)) (by decide +kernel)
theorem kw_157 : Cond.constantLong RX0 15 (-1) ∈ lw_good := lg_mem (tb1 (List.mem_of_getElem? (i := 37) rfl)) (by decide +kernel)
theorem kw_158 : Cond.fieldLink RX0 9 "AnsTables$Logs" "known" "[J" ∈ lw_good := lg_mem (tb1 (List.mem_of_getElem? (i := 41) rfl)) (by decide +kernel)
theorem kw_159 : Cond.constantLong RX0 31 (2) ∈ lw_good := lg_mem (tb2 (List.mem_of_getElem? (i := 57) rfl)) (by decide +kernel)
theorem kw_160 : Cond.code yX6_bitLength cX6_bitLength 3 (some .int) ∈ lw_good := lg_mem (tb2 (List.mem_of_getElem? (i := 56) rfl)) (by decide +kernel)
theorem kw_161 : Cond.initialized RX6 ∈ lw_good := lg_mem (tb1 (List.mem_of_getElem? (i := 1) rfl)) (by decide +kernel)
theorem kw_162 : Cond.static yX6_bitLength ∈ lw_good := lg_mem (tb2 (List.mem_of_getElem? (i := 55) rfl)) (by decide +kernel)
theorem kw_163 : Cond.code yX0_reckon cX0_reckon 8 (some .long) ∈ lw_good := lg_mem (tb2 (List.mem_of_getElem? (i := 53) rfl)) (by decide +kernel)
theorem kw_164 : Cond.initialized RX0 ∈ lw_good := lg_mem (tb1 (List.mem_of_getElem? (i := 3) rfl)) (by decide +kernel)
theorem kw_165 : Cond.static yX0_reckon ∈ lw_good := lg_mem (tb2 (List.mem_of_getElem? (i := 52) rfl)) (by decide +kernel)
theorem kw_166 : Cond.methodLink RX0 23 yX0_reckon ∈ lw_good := lg_mem (tb2 (List.mem_of_getElem? (i := 51) rfl)) (by decide +kernel)
theorem kw_167 : Cond.fieldLink RX1 15 "AnsTables$Octets" "length" "I" ∈ lw_good := lg_mem (tb1 (List.mem_of_getElem? (i := 187) rfl)) (by decide +kernel)
theorem kw_168 : Cond.fieldLink RX1 19 "AnsTables$Octets" "spareBits" "I" ∈ lw_good := lg_mem (tb1 (List.mem_of_getElem? (i := 190) rfl)) (by decide +kernel)
theorem kw_169 : Cond.fieldLink RX1 9 "AnsTables$Octets" "values" "[I" ∈ lw_good := lg_mem (tb1 (List.mem_of_getElem? (i := 185) rfl)) (by decide +kernel)
theorem kw_170 : Cond.code yX6_withRoom cX6_withRoom 3 (some (.array .int)) ∈ lw_good := lg_mem (tb1 (List.mem_of_getElem? (i := 238) rfl)) (by decide +kernel)
theorem kw_171 : Cond.static yX6_withRoom ∈ lw_good := lg_mem (tb1 (List.mem_of_getElem? (i := 237) rfl)) (by decide +kernel)
theorem kw_172 : Cond.code yX1_append cX1_append 2 (some .boolean) ∈ lw_good := lg_mem (tb2 (List.mem_of_getElem? (i := 185) rfl)) (by decide +kernel)
theorem kw_173 : Cond.initialized RX1 ∈ lw_good := lg_mem (tb1 (List.mem_of_getElem? (i := 9) rfl)) (by decide +kernel)
theorem kw_174 : Cond.instanceMethod yX1_append ∈ lw_good := lg_mem (tb2 (List.mem_of_getElem? (i := 183) rfl)) (by decide +kernel)
theorem kw_175 : Cond.selects RX1 yX1_append yX1_append ∈ lw_good := lg_mem (tb2 (List.mem_of_getElem? (i := 184) rfl)) (by decide +kernel)
theorem kw_176 : Cond.methodLink RX1 26 yX1_append ∈ lw_good := lg_mem (tb2 (List.mem_of_getElem? (i := 191) rfl)) (by decide +kernel)
theorem kw_177 : Cond.fieldLink RX2 15 "AnsTables$Pile" "bits" "I" ∈ lw_good := lg_mem (tb1 (List.mem_of_getElem? (i := 107) rfl)) (by decide +kernel)
theorem kw_178 : Cond.fieldLink RX2 9 "AnsTables$Pile" "values" "[I" ∈ lw_good := lg_mem (tb1 (List.mem_of_getElem? (i := 106) rfl)) (by decide +kernel)
theorem kw_179 : Cond.methodLink RX2 23 yX1_append ∈ lw_good := lg_mem (tb2 (List.mem_of_getElem? (i := 208) rfl)) (by decide +kernel)
theorem kw_180 : Cond.fieldLink RX3 28 "AnsTables$Reader" "length" "I" ∈ lw_good := lg_mem (tb1 (List.mem_of_getElem? (i := 141) rfl)) (by decide +kernel)
theorem kw_181 : Cond.fieldLink RX3 32 "AnsTables$Reader" "broken" "I" ∈ lw_good := lg_mem (tb1 (List.mem_of_getElem? (i := 143) rfl)) (by decide +kernel)
theorem kw_182 : Cond.fieldLink RX3 35 "AnsTables$Reader" "bytesRead" "I" ∈ lw_good := lg_mem (tb1 (List.mem_of_getElem? (i := 145) rfl)) (by decide +kernel)
theorem kw_183 : Cond.fieldLink RX3 38 "AnsTables$Reader" "bitsLeft" "I" ∈ lw_good := lg_mem (tb1 (List.mem_of_getElem? (i := 147) rfl)) (by decide +kernel)
theorem kw_184 : Cond.fieldLink RX3 41 "AnsTables$Reader" "hasStates" "Z" ∈ lw_good := lg_mem (tb1 (List.mem_of_getElem? (i := 152) rfl)) (by decide +kernel)
theorem kw_185 : Cond.constantLong RX3 165 (-1) ∈ lw_good := lg_mem (tb2 (List.mem_of_getElem? (i := 225) rfl)) (by decide +kernel)
theorem kw_186 : Cond.fieldLink RX3 65 "AnsTables$Reader" "form" "I" ∈ lw_good := lg_mem (tb1 (List.mem_of_getElem? (i := 148) rfl)) (by decide +kernel)
theorem kw_187 : Cond.fieldLink RX3 68 "AnsTables$Reader" "laneCount" "I" ∈ lw_good := lg_mem (tb1 (List.mem_of_getElem? (i := 149) rfl)) (by decide +kernel)
theorem kw_188 : Cond.fieldLink RX3 14 "AnsTables$Reader" "shares" "LAnsTables$Shares;" ∈ lw_good := lg_mem (tb1 (List.mem_of_getElem? (i := 137) rfl)) (by decide +kernel)
theorem kw_189 : Cond.fieldLink RX4 9 "AnsTables$Shares" "share" "[I" ∈ lw_good := lg_mem (tb1 (List.mem_of_getElem? (i := 62) rfl)) (by decide +kernel)
theorem kw_190 : Cond.fieldLink RX4 47 "AnsTables$Shares" "made" "Z" ∈ lw_good := lg_mem (tb1 (List.mem_of_getElem? (i := 60) rfl)) (by decide +kernel)
theorem kw_191 : Cond.fieldLink RX4 51 "AnsTables$Shares" "isSpread" "Z" ∈ lw_good := lg_mem (tb1 (List.mem_of_getElem? (i := 66) rfl)) (by decide +kernel)
theorem kw_192 : Cond.code yJ7_fill_53178 cJ7_fill_53178 4 none ∈ lw_good := lg_mem (tb2 (List.mem_of_getElem? (i := 28) rfl)) (by decide +kernel)
theorem kw_193 : Cond.static yJ7_fill_53178 ∈ lw_good := lg_mem (tb2 (List.mem_of_getElem? (i := 27) rfl)) (by decide +kernel)
theorem kw_194 : Cond.initialized RJ7 ∈ lw_good := lg_mem (tb1 (List.mem_of_getElem? (i := 4) rfl)) (by decide +kernel)
theorem kw_195 : Cond.methodLink RX4 41 yJ7_fill_53178 ∈ lw_good := lg_mem (tb2 (List.mem_of_getElem? (i := 26) rfl)) (by decide +kernel)
theorem kw_196 : Cond.fieldLink RX4 34 "AnsTables$Shares" "log" "I" ∈ lw_good := lg_mem (tb1 (List.mem_of_getElem? (i := 52) rfl)) (by decide +kernel)
theorem kw_197 : Cond.fieldLink RX4 38 "AnsTables$Shares" "size" "I" ∈ lw_good := lg_mem (tb1 (List.mem_of_getElem? (i := 56) rfl)) (by decide +kernel)
theorem kw_198 : Cond.code yX4_forget cX4_forget 1 none ∈ lw_good := lg_mem (tb2 (List.mem_of_getElem? (i := 25) rfl)) (by decide +kernel)
theorem kw_199 : Cond.initialized RX4 ∈ lw_good := lg_mem (tb1 (List.mem_of_getElem? (i := 5) rfl)) (by decide +kernel)
theorem kw_200 : Cond.instanceMethod yX4_forget ∈ lw_good := lg_mem (tb2 (List.mem_of_getElem? (i := 23) rfl)) (by decide +kernel)
theorem kw_201 : Cond.selects RX4 yX4_forget yX4_forget ∈ lw_good := lg_mem (tb2 (List.mem_of_getElem? (i := 24) rfl)) (by decide +kernel)
theorem kw_202 : Cond.methodLink RX4 54 yX4_forget ∈ lw_good := lg_mem (tb2 (List.mem_of_getElem? (i := 42) rfl)) (by decide +kernel)
theorem kw_203 : Cond.fieldLink RX3 74 "AnsTables$Reader" "due" "I" ∈ lw_good := lg_mem (tb1 (List.mem_of_getElem? (i := 151) rfl)) (by decide +kernel)
theorem kw_204 : Cond.code yX3_nextNumber cX3_nextNumber 6 (some .long) ∈ lw_good := lg_mem (tb2 (List.mem_of_getElem? (i := 224) rfl)) (by decide +kernel)
theorem kw_205 : Cond.initialized RX3 ∈ lw_good := lg_mem (tb1 (List.mem_of_getElem? (i := 8) rfl)) (by decide +kernel)
theorem kw_206 : Cond.instanceMethod yX3_nextNumber ∈ lw_good := lg_mem (tb2 (List.mem_of_getElem? (i := 223) rfl)) (by decide +kernel)
theorem kw_207 : Cond.selects RX3 yX3_nextNumber yX3_nextNumber ∈ lw_good := lg_mem (tb0 (by decide +kernel)) (by decide +kernel)
theorem kw_208 : Cond.methodLink RX3 61 yX3_nextNumber ∈ lw_good := lg_mem (tb2 (List.mem_of_getElem? (i := 221) rfl)) (by decide +kernel)
theorem kw_209 : Cond.code yX4_beginWith cX4_beginWith 2 none ∈ lw_good := lg_mem (tb2 (List.mem_of_getElem? (i := 229) rfl)) (by decide +kernel)
theorem kw_210 : Cond.instanceMethod yX4_beginWith ∈ lw_good := lg_mem (tb2 (List.mem_of_getElem? (i := 227) rfl)) (by decide +kernel)
theorem kw_211 : Cond.selects RX4 yX4_beginWith yX4_beginWith ∈ lw_good := lg_mem (tb2 (List.mem_of_getElem? (i := 228) rfl)) (by decide +kernel)
theorem kw_212 : Cond.methodLink RX3 71 yX4_beginWith ∈ lw_good := lg_mem (tb2 (List.mem_of_getElem? (i := 226) rfl)) (by decide +kernel)
theorem kw_213 : Cond.fieldLink RX3 167 "AnsTables$Reader" "lastByte" "I" ∈ lw_good := lg_mem (tb1 (List.mem_of_getElem? (i := 146) rfl)) (by decide +kernel)
theorem kw_214 : Cond.code yX6_isSign cX6_isSign 1 (some .boolean) ∈ lw_good := lg_mem (tb1 (List.mem_of_getElem? (i := 235) rfl)) (by decide +kernel)
theorem kw_215 : Cond.static yX6_isSign ∈ lw_good := lg_mem (tb1 (List.mem_of_getElem? (i := 234) rfl)) (by decide +kernel)
theorem kw_216 : Cond.fieldLink RX4 15 "AnsTables$Shares" "from" "[I" ∈ lw_good := lg_mem (tb1 (List.mem_of_getElem? (i := 63) rfl)) (by decide +kernel)
theorem kw_217 : Cond.code yX3_restIsSet cX3_restIsSet 1 (some .boolean) ∈ lw_good := lg_mem (tb3 (List.mem_of_getElem? (i := 6) rfl)) (by decide +kernel)
theorem kw_218 : Cond.instanceMethod yX3_restIsSet ∈ lw_good := lg_mem (tb3 (List.mem_of_getElem? (i := 5) rfl)) (by decide +kernel)
theorem kw_219 : Cond.selects RX3 yX3_restIsSet yX3_restIsSet ∈ lw_good := lg_mem (tb0 (by decide +kernel)) (by decide +kernel)
theorem kw_220 : Cond.methodLink RX3 92 yX3_restIsSet ∈ lw_good := lg_mem (tb3 (List.mem_of_getElem? (i := 3) rfl)) (by decide +kernel)
theorem kw_221 : Cond.code yX4_finish cX4_finish 3 none ∈ lw_good := lg_mem (tb2 (List.mem_of_getElem? (i := 65) rfl)) (by decide +kernel)
theorem kw_222 : Cond.instanceMethod yX4_finish ∈ lw_good := lg_mem (tb2 (List.mem_of_getElem? (i := 63) rfl)) (by decide +kernel)
theorem kw_223 : Cond.selects RX4 yX4_finish yX4_finish ∈ lw_good := lg_mem (tb2 (List.mem_of_getElem? (i := 64) rfl)) (by decide +kernel)
theorem kw_224 : Cond.methodLink RX3 96 yX4_finish ∈ lw_good := lg_mem (tb3 (List.mem_of_getElem? (i := 7) rfl)) (by decide +kernel)
theorem kw_225 : Cond.code yX3_nextBits cX3_nextBits 5 (some .int) ∈ lw_good := lg_mem (tb2 (List.mem_of_getElem? (i := 238) rfl)) (by decide +kernel)
theorem kw_226 : Cond.instanceMethod yX3_nextBits ∈ lw_good := lg_mem (tb2 (List.mem_of_getElem? (i := 237) rfl)) (by decide +kernel)
theorem kw_227 : Cond.selects RX3 yX3_nextBits yX3_nextBits ∈ lw_good := lg_mem (tb0 (by decide +kernel)) (by decide +kernel)
theorem kw_228 : Cond.methodLink RX3 84 yX3_nextBits ∈ lw_good := lg_mem (tb2 (List.mem_of_getElem? (i := 235) rfl)) (by decide +kernel)
theorem kw_229 : Cond.code yX4_give cX4_give 3 none ∈ lw_good := lg_mem (tb3 (List.mem_of_getElem? (i := 2) rfl)) (by decide +kernel)
theorem kw_230 : Cond.instanceMethod yX4_give ∈ lw_good := lg_mem (tb3 (List.mem_of_getElem? (i := 0) rfl)) (by decide +kernel)
theorem kw_231 : Cond.selects RX4 yX4_give yX4_give ∈ lw_good := lg_mem (tb3 (List.mem_of_getElem? (i := 1) rfl)) (by decide +kernel)
theorem kw_232 : Cond.methodLink RX3 88 yX4_give ∈ lw_good := lg_mem (tb2 (List.mem_of_getElem? (i := 239) rfl)) (by decide +kernel)
theorem kw_233 : Cond.constantLong RX6 182 (8388608) ∈ lw_good := lg_mem (tb2 (List.mem_of_getElem? (i := 118) rfl)) (by decide +kernel)
theorem kw_234 : Cond.constantLong RX6 180 (2147483648) ∈ lw_good := lg_mem (tb2 (List.mem_of_getElem? (i := 117) rfl)) (by decide +kernel)
theorem kw_235 : Cond.constantLong RX6 188 (2147483647) ∈ lw_good := lg_mem (tb3 (List.mem_of_getElem? (i := 18) rfl)) (by decide +kernel)
theorem kw_236 : Cond.constantLong RX6 186 (9223372036854775807) ∈ lw_good := lg_mem (tb3 (List.mem_of_getElem? (i := 17) rfl)) (by decide +kernel)
theorem kw_237 : Cond.constantLong RX6 184 (2) ∈ lw_good := lg_mem (tb3 (List.mem_of_getElem? (i := 16) rfl)) (by decide +kernel)
theorem kw_238 : Cond.fieldLink RX3 20 "AnsTables$Reader" "states" "[J" ∈ lw_good := lg_mem (tb1 (List.mem_of_getElem? (i := 138) rfl)) (by decide +kernel)
theorem kw_239 : Cond.code yX6_firstState cX6_firstState 2 (some .long) ∈ lw_good := lg_mem (tb2 (List.mem_of_getElem? (i := 116) rfl)) (by decide +kernel)
theorem kw_240 : Cond.static yX6_firstState ∈ lw_good := lg_mem (tb2 (List.mem_of_getElem? (i := 115) rfl)) (by decide +kernel)
theorem kw_241 : Cond.code yX6_lastState cX6_lastState 2 (some .long) ∈ lw_good := lg_mem (tb3 (List.mem_of_getElem? (i := 15) rfl)) (by decide +kernel)
theorem kw_242 : Cond.static yX6_lastState ∈ lw_good := lg_mem (tb3 (List.mem_of_getElem? (i := 14) rfl)) (by decide +kernel)
theorem kw_243 : Cond.code yX6_stateWidth cX6_stateWidth 1 (some .int) ∈ lw_good := lg_mem (tb2 (List.mem_of_getElem? (i := 203) rfl)) (by decide +kernel)
theorem kw_244 : Cond.static yX6_stateWidth ∈ lw_good := lg_mem (tb2 (List.mem_of_getElem? (i := 202) rfl)) (by decide +kernel)
theorem kw_245 : Cond.fieldLink RX4 25 "AnsTables$Shares" "signs" "[I" ∈ lw_good := lg_mem (tb1 (List.mem_of_getElem? (i := 67) rfl)) (by decide +kernel)
theorem kw_246 : Cond.fieldLink RX4 28 "AnsTables$Shares" "numbers" "[I" ∈ lw_good := lg_mem (tb1 (List.mem_of_getElem? (i := 68) rfl)) (by decide +kernel)
theorem kw_247 : Cond.fieldLink RX4 31 "AnsTables$Shares" "places" "[I" ∈ lw_good := lg_mem (tb1 (List.mem_of_getElem? (i := 69) rfl)) (by decide +kernel)
theorem kw_248 : Cond.fieldLink RX4 22 "AnsTables$Shares" "seen" "[I" ∈ lw_good := lg_mem (tb1 (List.mem_of_getElem? (i := 65) rfl)) (by decide +kernel)
theorem kw_249 : Cond.code yX4_numberPlaces cX4_numberPlaces 4 none ∈ lw_good := lg_mem (tb2 (List.mem_of_getElem? (i := 127) rfl)) (by decide +kernel)
theorem kw_250 : Cond.instanceMethod yX4_numberPlaces ∈ lw_good := lg_mem (tb2 (List.mem_of_getElem? (i := 126) rfl)) (by decide +kernel)
theorem kw_251 : Cond.selects RX4 yX4_numberPlaces yX4_numberPlaces ∈ lw_good := lg_mem (tb0 (by decide +kernel)) (by decide +kernel)
theorem kw_252 : Cond.methodLink RX4 87 yX4_numberPlaces ∈ lw_good := lg_mem (tb2 (List.mem_of_getElem? (i := 124) rfl)) (by decide +kernel)
theorem kw_253 : Cond.arrayClass .int ∈ lw_good := lg_mem (by decide +kernel) (by decide +kernel)
theorem kw_254 : Cond.constant RX3 112 (65535) ∈ lw_good := lg_mem (tb3 (List.mem_of_getElem? (i := 25) rfl)) (by decide +kernel)
theorem kw_255 : Cond.code yX3_restOf cX3_restOf 2 (some .int) ∈ lw_good := lg_mem (tb3 (List.mem_of_getElem? (i := 50) rfl)) (by decide +kernel)
theorem kw_256 : Cond.instanceMethod yX3_restOf ∈ lw_good := lg_mem (tb3 (List.mem_of_getElem? (i := 49) rfl)) (by decide +kernel)
theorem kw_257 : Cond.selects RX3 yX3_restOf yX3_restOf ∈ lw_good := lg_mem (tb0 (by decide +kernel)) (by decide +kernel)
theorem kw_258 : Cond.methodLink RX3 130 yX3_restOf ∈ lw_good := lg_mem (tb3 (List.mem_of_getElem? (i := 47) rfl)) (by decide +kernel)
theorem kw_259 : Cond.methodLink RX4 78 Lib.Math.max.name ∈ lw_good := lg_mem (tb2 (List.mem_of_getElem? (i := 163) rfl)) (by decide +kernel)
theorem kw_260 : Cond.static Lib.Math.max.name ∈ lw_good := lg_mem (tb1 (List.mem_of_getElem? (i := 26) rfl)) (by decide +kernel)
theorem kw_261 : Cond.initialized "java/lang/Math" ∈ lw_good := lg_mem (tb1 (List.mem_of_getElem? (i := 2) rfl)) (by decide +kernel)
theorem kw_262 : Cond.code Lib.Math.max.name Lib.Math.max.code 2 (some .int) ∈ lw_good := lg_mem (tb1 (List.mem_of_getElem? (i := 27) rfl)) (by decide +kernel)
theorem kw_263 : Cond.methodLink RX4 84 Lib.Math.min.name ∈ lw_good := lg_mem (tb2 (List.mem_of_getElem? (i := 164) rfl)) (by decide +kernel)
theorem kw_264 : Cond.static Lib.Math.min.name ∈ lw_good := lg_mem (tb1 (List.mem_of_getElem? (i := 29) rfl)) (by decide +kernel)
theorem kw_265 : Cond.code Lib.Math.min.name Lib.Math.min.code 2 (some .int) ∈ lw_good := lg_mem (tb1 (List.mem_of_getElem? (i := 30) rfl)) (by decide +kernel)
theorem kw_266 : Cond.code yX4_shareOfZero cX4_shareOfZero 6 (some .int) ∈ lw_good := lg_mem (tb2 (List.mem_of_getElem? (i := 162) rfl)) (by decide +kernel)
theorem kw_267 : Cond.instanceMethod yX4_shareOfZero ∈ lw_good := lg_mem (tb2 (List.mem_of_getElem? (i := 160) rfl)) (by decide +kernel)
theorem kw_268 : Cond.selects RX4 yX4_shareOfZero yX4_shareOfZero ∈ lw_good := lg_mem (tb2 (List.mem_of_getElem? (i := 161) rfl)) (by decide +kernel)
theorem kw_269 : Cond.methodLink RX3 155 yX4_shareOfZero ∈ lw_good := lg_mem (tb3 (List.mem_of_getElem? (i := 46) rfl)) (by decide +kernel)
theorem kw_270 : Cond.code yX3_narrow cX3_narrow 13 none ∈ lw_good := lg_mem (tb3 (List.mem_of_getElem? (i := 54) rfl)) (by decide +kernel)
theorem kw_271 : Cond.instanceMethod yX3_narrow ∈ lw_good := lg_mem (tb3 (List.mem_of_getElem? (i := 53) rfl)) (by decide +kernel)
theorem kw_272 : Cond.selects RX3 yX3_narrow yX3_narrow ∈ lw_good := lg_mem (tb0 (by decide +kernel)) (by decide +kernel)
theorem kw_273 : Cond.methodLink RX3 142 yX3_narrow ∈ lw_good := lg_mem (tb3 (List.mem_of_getElem? (i := 51) rfl)) (by decide +kernel)
theorem kw_274 : Cond.code yX4_numberAt cX4_numberAt 2 (some .int) ∈ lw_good := lg_mem (tb3 (List.mem_of_getElem? (i := 37) rfl)) (by decide +kernel)
theorem kw_275 : Cond.instanceMethod yX4_numberAt ∈ lw_good := lg_mem (tb3 (List.mem_of_getElem? (i := 35) rfl)) (by decide +kernel)
theorem kw_276 : Cond.selects RX4 yX4_numberAt yX4_numberAt ∈ lw_good := lg_mem (tb3 (List.mem_of_getElem? (i := 36) rfl)) (by decide +kernel)
theorem kw_277 : Cond.methodLink RX3 149 yX4_numberAt ∈ lw_good := lg_mem (tb3 (List.mem_of_getElem? (i := 34) rfl)) (by decide +kernel)
theorem kw_278 : Cond.code yX4_signAt cX4_signAt 2 (some .int) ∈ lw_good := lg_mem (tb3 (List.mem_of_getElem? (i := 41) rfl)) (by decide +kernel)
theorem kw_279 : Cond.instanceMethod yX4_signAt ∈ lw_good := lg_mem (tb3 (List.mem_of_getElem? (i := 39) rfl)) (by decide +kernel)
theorem kw_280 : Cond.selects RX4 yX4_signAt yX4_signAt ∈ lw_good := lg_mem (tb3 (List.mem_of_getElem? (i := 40) rfl)) (by decide +kernel)
theorem kw_281 : Cond.methodLink RX3 152 yX4_signAt ∈ lw_good := lg_mem (tb3 (List.mem_of_getElem? (i := 38) rfl)) (by decide +kernel)
theorem kw_282 : Cond.code yX4_signOver cX4_signOver 4 (some .int) ∈ lw_good := lg_mem (tb3 (List.mem_of_getElem? (i := 58) rfl)) (by decide +kernel)
theorem kw_283 : Cond.instanceMethod yX4_signOver ∈ lw_good := lg_mem (tb3 (List.mem_of_getElem? (i := 56) rfl)) (by decide +kernel)
theorem kw_284 : Cond.selects RX4 yX4_signOver yX4_signOver ∈ lw_good := lg_mem (tb3 (List.mem_of_getElem? (i := 57) rfl)) (by decide +kernel)
theorem kw_285 : Cond.methodLink RX3 133 yX4_signOver ∈ lw_good := lg_mem (tb3 (List.mem_of_getElem? (i := 55) rfl)) (by decide +kernel)
theorem kw_286 : Cond.code yX4_shareOf cX4_shareOf 2 (some .int) ∈ lw_good := lg_mem (tb2 (List.mem_of_getElem? (i := 77) rfl)) (by decide +kernel)
theorem kw_287 : Cond.instanceMethod yX4_shareOf ∈ lw_good := lg_mem (tb2 (List.mem_of_getElem? (i := 75) rfl)) (by decide +kernel)
theorem kw_288 : Cond.selects RX4 yX4_shareOf yX4_shareOf ∈ lw_good := lg_mem (tb2 (List.mem_of_getElem? (i := 76) rfl)) (by decide +kernel)
theorem kw_289 : Cond.methodLink RX3 136 yX4_shareOf ∈ lw_good := lg_mem (tb3 (List.mem_of_getElem? (i := 59) rfl)) (by decide +kernel)
theorem kw_290 : Cond.code yX4_fromOf cX4_fromOf 2 (some .int) ∈ lw_good := lg_mem (tb2 (List.mem_of_getElem? (i := 153) rfl)) (by decide +kernel)
theorem kw_291 : Cond.instanceMethod yX4_fromOf ∈ lw_good := lg_mem (tb2 (List.mem_of_getElem? (i := 151) rfl)) (by decide +kernel)
theorem kw_292 : Cond.selects RX4 yX4_fromOf yX4_fromOf ∈ lw_good := lg_mem (tb2 (List.mem_of_getElem? (i := 152) rfl)) (by decide +kernel)
theorem kw_293 : Cond.methodLink RX3 139 yX4_fromOf ∈ lw_good := lg_mem (tb3 (List.mem_of_getElem? (i := 60) rfl)) (by decide +kernel)
theorem kw_294 : Cond.code yX3_takeTwoSided cX3_takeTwoSided 6 (some .int) ∈ lw_good := lg_mem (tb3 (List.mem_of_getElem? (i := 45) rfl)) (by decide +kernel)
theorem kw_295 : Cond.instanceMethod yX3_takeTwoSided ∈ lw_good := lg_mem (tb3 (List.mem_of_getElem? (i := 44) rfl)) (by decide +kernel)
theorem kw_296 : Cond.selects RX3 yX3_takeTwoSided yX3_takeTwoSided ∈ lw_good := lg_mem (tb0 (by decide +kernel)) (by decide +kernel)
theorem kw_297 : Cond.methodLink RX3 127 yX3_takeTwoSided ∈ lw_good := lg_mem (tb3 (List.mem_of_getElem? (i := 42) rfl)) (by decide +kernel)
theorem kw_298 : Cond.code yX3_takeByTable cX3_takeByTable 7 (some .int) ∈ lw_good := lg_mem (tb3 (List.mem_of_getElem? (i := 33) rfl)) (by decide +kernel)
theorem kw_299 : Cond.instanceMethod yX3_takeByTable ∈ lw_good := lg_mem (tb3 (List.mem_of_getElem? (i := 32) rfl)) (by decide +kernel)
theorem kw_300 : Cond.selects RX3 yX3_takeByTable yX3_takeByTable ∈ lw_good := lg_mem (tb0 (by decide +kernel)) (by decide +kernel)
theorem kw_301 : Cond.methodLink RX3 124 yX3_takeByTable ∈ lw_good := lg_mem (tb3 (List.mem_of_getElem? (i := 30) rfl)) (by decide +kernel)
theorem kw_302 : Cond.fieldLink RX3 24 "AnsTables$Reader" "signs" "[I" ∈ lw_good := lg_mem (tb1 (List.mem_of_getElem? (i := 140) rfl)) (by decide +kernel)
theorem kw_303 : Cond.code yX3_takeSign cX3_takeSign 4 (some .int) ∈ lw_good := lg_mem (tb3 (List.mem_of_getElem? (i := 29) rfl)) (by decide +kernel)
theorem kw_304 : Cond.instanceMethod yX3_takeSign ∈ lw_good := lg_mem (tb3 (List.mem_of_getElem? (i := 28) rfl)) (by decide +kernel)
theorem kw_305 : Cond.selects RX3 yX3_takeSign yX3_takeSign ∈ lw_good := lg_mem (tb0 (by decide +kernel)) (by decide +kernel)
theorem kw_306 : Cond.methodLink RX3 113 yX3_takeSign ∈ lw_good := lg_mem (tb3 (List.mem_of_getElem? (i := 26) rfl)) (by decide +kernel)
theorem kw_307 : Cond.code yX3_keep cX3_keep 2 none ∈ lw_good := lg_mem (tb3 (List.mem_of_getElem? (i := 64) rfl)) (by decide +kernel)
theorem kw_308 : Cond.instanceMethod yX3_keep ∈ lw_good := lg_mem (tb3 (List.mem_of_getElem? (i := 63) rfl)) (by decide +kernel)
theorem kw_309 : Cond.selects RX3 yX3_keep yX3_keep ∈ lw_good := lg_mem (tb0 (by decide +kernel)) (by decide +kernel)
theorem kw_310 : Cond.methodLink RX3 117 yX3_keep ∈ lw_good := lg_mem (tb3 (List.mem_of_getElem? (i := 61) rfl)) (by decide +kernel)
theorem kw_311 : Cond.code yX4_makeSpread cX4_makeSpread 5 none ∈ lw_good := lg_mem (tb2 (List.mem_of_getElem? (i := 123) rfl)) (by decide +kernel)
theorem kw_312 : Cond.instanceMethod yX4_makeSpread ∈ lw_good := lg_mem (tb2 (List.mem_of_getElem? (i := 121) rfl)) (by decide +kernel)
theorem kw_313 : Cond.selects RX4 yX4_makeSpread yX4_makeSpread ∈ lw_good := lg_mem (tb2 (List.mem_of_getElem? (i := 122) rfl)) (by decide +kernel)
theorem kw_314 : Cond.methodLink RX3 109 yX4_makeSpread ∈ lw_good := lg_mem (tb3 (List.mem_of_getElem? (i := 24) rfl)) (by decide +kernel)
theorem kw_315 : Cond.code yX3_takeHead cX3_takeHead 4 none ∈ lw_good := lg_mem (tb2 (List.mem_of_getElem? (i := 220) rfl)) (by decide +kernel)
theorem kw_316 : Cond.instanceMethod yX3_takeHead ∈ lw_good := lg_mem (tb2 (List.mem_of_getElem? (i := 219) rfl)) (by decide +kernel)
theorem kw_317 : Cond.selects RX3 yX3_takeHead yX3_takeHead ∈ lw_good := lg_mem (tb0 (by decide +kernel)) (by decide +kernel)
theorem kw_318 : Cond.methodLink RX3 45 yX3_takeHead ∈ lw_good := lg_mem (tb2 (List.mem_of_getElem? (i := 217) rfl)) (by decide +kernel)
theorem kw_319 : Cond.code yX3_judgeEnd cX3_judgeEnd 5 none ∈ lw_good := lg_mem (tb3 (List.mem_of_getElem? (i := 69) rfl)) (by decide +kernel)
theorem kw_320 : Cond.instanceMethod yX3_judgeEnd ∈ lw_good := lg_mem (tb3 (List.mem_of_getElem? (i := 68) rfl)) (by decide +kernel)
theorem kw_321 : Cond.selects RX3 yX3_judgeEnd yX3_judgeEnd ∈ lw_good := lg_mem (tb0 (by decide +kernel)) (by decide +kernel)
theorem kw_322 : Cond.methodLink RX3 58 yX3_judgeEnd ∈ lw_good := lg_mem (tb3 (List.mem_of_getElem? (i := 66) rfl)) (by decide +kernel)
theorem kw_323 : Cond.code yX3_takeRow cX3_takeRow 4 none ∈ lw_good := lg_mem (tb3 (List.mem_of_getElem? (i := 23) rfl)) (by decide +kernel)
theorem kw_324 : Cond.instanceMethod yX3_takeRow ∈ lw_good := lg_mem (tb3 (List.mem_of_getElem? (i := 22) rfl)) (by decide +kernel)
theorem kw_325 : Cond.selects RX3 yX3_takeRow yX3_takeRow ∈ lw_good := lg_mem (tb0 (by decide +kernel)) (by decide +kernel)
theorem kw_326 : Cond.methodLink RX3 55 yX3_takeRow ∈ lw_good := lg_mem (tb3 (List.mem_of_getElem? (i := 20) rfl)) (by decide +kernel)
theorem kw_327 : Cond.code yX3_takeStates cX3_takeStates 7 none ∈ lw_good := lg_mem (tb3 (List.mem_of_getElem? (i := 11) rfl)) (by decide +kernel)
theorem kw_328 : Cond.instanceMethod yX3_takeStates ∈ lw_good := lg_mem (tb3 (List.mem_of_getElem? (i := 10) rfl)) (by decide +kernel)
theorem kw_329 : Cond.selects RX3 yX3_takeStates yX3_takeStates ∈ lw_good := lg_mem (tb0 (by decide +kernel)) (by decide +kernel)
theorem kw_330 : Cond.methodLink RX3 52 yX3_takeStates ∈ lw_good := lg_mem (tb3 (List.mem_of_getElem? (i := 8) rfl)) (by decide +kernel)
theorem kw_331 : Cond.code yX3_takeTable cX3_takeTable 5 none ∈ lw_good := lg_mem (tb2 (List.mem_of_getElem? (i := 233) rfl)) (by decide +kernel)
theorem kw_332 : Cond.instanceMethod yX3_takeTable ∈ lw_good := lg_mem (tb2 (List.mem_of_getElem? (i := 232) rfl)) (by decide +kernel)
theorem kw_333 : Cond.selects RX3 yX3_takeTable yX3_takeTable ∈ lw_good := lg_mem (tb0 (by decide +kernel)) (by decide +kernel)
theorem kw_334 : Cond.methodLink RX3 49 yX3_takeTable ∈ lw_good := lg_mem (tb2 (List.mem_of_getElem? (i := 230) rfl)) (by decide +kernel)
theorem kw_335 : Cond.fieldLink RX4 18 "AnsTables$Shares" "gain" "[J" ∈ lw_good := lg_mem (tb1 (List.mem_of_getElem? (i := 64) rfl)) (by decide +kernel)
theorem kw_336 : Cond.code yX0_of cX0_of 2 (some .long) ∈ lw_good := lg_mem (tb2 (List.mem_of_getElem? (i := 50) rfl)) (by decide +kernel)
theorem kw_337 : Cond.instanceMethod yX0_of ∈ lw_good := lg_mem (tb2 (List.mem_of_getElem? (i := 48) rfl)) (by decide +kernel)
theorem kw_338 : Cond.selects RX0 yX0_of yX0_of ∈ lw_good := lg_mem (tb2 (List.mem_of_getElem? (i := 49) rfl)) (by decide +kernel)
theorem kw_339 : Cond.methodLink RX4 72 yX0_of ∈ lw_good := lg_mem (tb2 (List.mem_of_getElem? (i := 47) rfl)) (by decide +kernel)
theorem kw_340 : Cond.methodLink RX4 69 yX4_finish ∈ lw_good := lg_mem (tb2 (List.mem_of_getElem? (i := 62) rfl)) (by decide +kernel)
theorem kw_341 : Cond.code yX4_greatestGain cX4_greatestGain 3 (some .int) ∈ lw_good := lg_mem (tb2 (List.mem_of_getElem? (i := 61) rfl)) (by decide +kernel)
theorem kw_342 : Cond.instanceMethod yX4_greatestGain ∈ lw_good := lg_mem (tb2 (List.mem_of_getElem? (i := 60) rfl)) (by decide +kernel)
theorem kw_343 : Cond.selects RX4 yX4_greatestGain yX4_greatestGain ∈ lw_good := lg_mem (tb0 (by decide +kernel)) (by decide +kernel)
theorem kw_344 : Cond.methodLink RX4 65 yX4_greatestGain ∈ lw_good := lg_mem (tb2 (List.mem_of_getElem? (i := 58) rfl)) (by decide +kernel)
theorem kw_345 : Cond.code yX4_gainOf cX4_gainOf 4 (some .long) ∈ lw_good := lg_mem (tb2 (List.mem_of_getElem? (i := 46) rfl)) (by decide +kernel)
theorem kw_346 : Cond.instanceMethod yX4_gainOf ∈ lw_good := lg_mem (tb2 (List.mem_of_getElem? (i := 45) rfl)) (by decide +kernel)
theorem kw_347 : Cond.selects RX4 yX4_gainOf yX4_gainOf ∈ lw_good := lg_mem (tb0 (by decide +kernel)) (by decide +kernel)
theorem kw_348 : Cond.methodLink RX4 61 yX4_gainOf ∈ lw_good := lg_mem (tb2 (List.mem_of_getElem? (i := 43) rfl)) (by decide +kernel)
theorem kw_349 : Cond.methodLink RX4 90 yX4_fromOf ∈ lw_good := lg_mem (tb2 (List.mem_of_getElem? (i := 150) rfl)) (by decide +kernel)
theorem kw_350 : Cond.methodLink RX4 94 yX4_shareOf ∈ lw_good := lg_mem (tb2 (List.mem_of_getElem? (i := 154) rfl)) (by decide +kernel)
theorem kw_351 : Cond.methodLink RX5 22 Lib.Math.min.name ∈ lw_good := lg_mem (tb2 (List.mem_of_getElem? (i := 109) rfl)) (by decide +kernel)
theorem kw_352 : Cond.fieldLink RX5 28 "AnsTables$Writer" "laneCount" "I" ∈ lw_good := lg_mem (tb1 (List.mem_of_getElem? (i := 116) rfl)) (by decide +kernel)
theorem kw_353 : Cond.fieldLink RX5 18 "AnsTables$Writer" "pile" "LAnsTables$Pile;" ∈ lw_good := lg_mem (tb1 (List.mem_of_getElem? (i := 115) rfl)) (by decide +kernel)
theorem kw_354 : Cond.fieldLink RX5 9 "AnsTables$Writer" "states" "[J" ∈ lw_good := lg_mem (tb1 (List.mem_of_getElem? (i := 113) rfl)) (by decide +kernel)
theorem kw_355 : Cond.methodLink RX5 96 yX4_shareOf ∈ lw_good := lg_mem (tb2 (List.mem_of_getElem? (i := 141) rfl)) (by decide +kernel)
theorem kw_356 : Cond.code yX4_placeOf cX4_placeOf 4 (some .int) ∈ lw_good := lg_mem (tb2 (List.mem_of_getElem? (i := 149) rfl)) (by decide +kernel)
theorem kw_357 : Cond.instanceMethod yX4_placeOf ∈ lw_good := lg_mem (tb2 (List.mem_of_getElem? (i := 147) rfl)) (by decide +kernel)
theorem kw_358 : Cond.selects RX4 yX4_placeOf yX4_placeOf ∈ lw_good := lg_mem (tb2 (List.mem_of_getElem? (i := 148) rfl)) (by decide +kernel)
theorem kw_359 : Cond.methodLink RX5 127 yX4_placeOf ∈ lw_good := lg_mem (tb2 (List.mem_of_getElem? (i := 146) rfl)) (by decide +kernel)
theorem kw_360 : Cond.code yX2_pushBit cX2_pushBit 4 none ∈ lw_good := lg_mem (tb2 (List.mem_of_getElem? (i := 145) rfl)) (by decide +kernel)
theorem kw_361 : Cond.initialized RX2 ∈ lw_good := lg_mem (tb1 (List.mem_of_getElem? (i := 7) rfl)) (by decide +kernel)
theorem kw_362 : Cond.instanceMethod yX2_pushBit ∈ lw_good := lg_mem (tb2 (List.mem_of_getElem? (i := 143) rfl)) (by decide +kernel)
theorem kw_363 : Cond.selects RX2 yX2_pushBit yX2_pushBit ∈ lw_good := lg_mem (tb2 (List.mem_of_getElem? (i := 144) rfl)) (by decide +kernel)
theorem kw_364 : Cond.methodLink RX5 124 yX2_pushBit ∈ lw_good := lg_mem (tb2 (List.mem_of_getElem? (i := 142) rfl)) (by decide +kernel)
theorem kw_365 : Cond.code yX2_pushOctet cX2_pushOctet 3 none ∈ lw_good := lg_mem (tb2 (List.mem_of_getElem? (i := 172) rfl)) (by decide +kernel)
theorem kw_366 : Cond.instanceMethod yX2_pushOctet ∈ lw_good := lg_mem (tb2 (List.mem_of_getElem? (i := 170) rfl)) (by decide +kernel)
theorem kw_367 : Cond.selects RX2 yX2_pushOctet yX2_pushOctet ∈ lw_good := lg_mem (tb2 (List.mem_of_getElem? (i := 171) rfl)) (by decide +kernel)
theorem kw_368 : Cond.methodLink RX5 120 yX2_pushOctet ∈ lw_good := lg_mem (tb2 (List.mem_of_getElem? (i := 169) rfl)) (by decide +kernel)
theorem kw_369 : Cond.methodLink RX5 130 yX4_shareOfZero ∈ lw_good := lg_mem (tb2 (List.mem_of_getElem? (i := 159) rfl)) (by decide +kernel)
theorem kw_370 : Cond.code yX5_widen cX5_widen 13 none ∈ lw_good := lg_mem (tb2 (List.mem_of_getElem? (i := 168) rfl)) (by decide +kernel)
theorem kw_371 : Cond.initialized RX5 ∈ lw_good := lg_mem (tb1 (List.mem_of_getElem? (i := 6) rfl)) (by decide +kernel)
theorem kw_372 : Cond.instanceMethod yX5_widen ∈ lw_good := lg_mem (tb2 (List.mem_of_getElem? (i := 167) rfl)) (by decide +kernel)
theorem kw_373 : Cond.selects RX5 yX5_widen yX5_widen ∈ lw_good := lg_mem (tb0 (by decide +kernel)) (by decide +kernel)
theorem kw_374 : Cond.methodLink RX5 116 yX5_widen ∈ lw_good := lg_mem (tb2 (List.mem_of_getElem? (i := 165) rfl)) (by decide +kernel)
theorem kw_375 : Cond.code yX5_putByTable cX5_putByTable 7 none ∈ lw_good := lg_mem (tb2 (List.mem_of_getElem? (i := 140) rfl)) (by decide +kernel)
theorem kw_376 : Cond.instanceMethod yX5_putByTable ∈ lw_good := lg_mem (tb2 (List.mem_of_getElem? (i := 139) rfl)) (by decide +kernel)
theorem kw_377 : Cond.selects RX5 yX5_putByTable yX5_putByTable ∈ lw_good := lg_mem (tb0 (by decide +kernel)) (by decide +kernel)
theorem kw_378 : Cond.methodLink RX5 106 yX5_putByTable ∈ lw_good := lg_mem (tb2 (List.mem_of_getElem? (i := 137) rfl)) (by decide +kernel)
theorem kw_379 : Cond.code yX5_putTwoSided cX5_putTwoSided 6 none ∈ lw_good := lg_mem (tb2 (List.mem_of_getElem? (i := 158) rfl)) (by decide +kernel)
theorem kw_380 : Cond.instanceMethod yX5_putTwoSided ∈ lw_good := lg_mem (tb2 (List.mem_of_getElem? (i := 157) rfl)) (by decide +kernel)
theorem kw_381 : Cond.selects RX5 yX5_putTwoSided yX5_putTwoSided ∈ lw_good := lg_mem (tb0 (by decide +kernel)) (by decide +kernel)
theorem kw_382 : Cond.methodLink RX5 110 yX5_putTwoSided ∈ lw_good := lg_mem (tb2 (List.mem_of_getElem? (i := 155) rfl)) (by decide +kernel)
theorem kw_383 : Cond.methodLink RX5 113 yX4_fromOf ∈ lw_good := lg_mem (tb2 (List.mem_of_getElem? (i := 173) rfl)) (by decide +kernel)
theorem kw_384 : Cond.methodLink RX5 89 yX1_append ∈ lw_good := lg_mem (tb2 (List.mem_of_getElem? (i := 182) rfl)) (by decide +kernel)
theorem kw_385 : Cond.code yX1_appendNumber cX1_appendNumber 5 none ∈ lw_good := lg_mem (tb2 (List.mem_of_getElem? (i := 190) rfl)) (by decide +kernel)
theorem kw_386 : Cond.instanceMethod yX1_appendNumber ∈ lw_good := lg_mem (tb2 (List.mem_of_getElem? (i := 188) rfl)) (by decide +kernel)
theorem kw_387 : Cond.selects RX1 yX1_appendNumber yX1_appendNumber ∈ lw_good := lg_mem (tb2 (List.mem_of_getElem? (i := 189) rfl)) (by decide +kernel)
theorem kw_388 : Cond.methodLink RX5 77 yX1_appendNumber ∈ lw_good := lg_mem (tb2 (List.mem_of_getElem? (i := 187) rfl)) (by decide +kernel)
theorem kw_389 : Cond.code yX1_appendBits cX1_appendBits 4 none ∈ lw_good := lg_mem (tb2 (List.mem_of_getElem? (i := 200) rfl)) (by decide +kernel)
theorem kw_390 : Cond.instanceMethod yX1_appendBits ∈ lw_good := lg_mem (tb2 (List.mem_of_getElem? (i := 198) rfl)) (by decide +kernel)
theorem kw_391 : Cond.selects RX1 yX1_appendBits yX1_appendBits ∈ lw_good := lg_mem (tb2 (List.mem_of_getElem? (i := 199) rfl)) (by decide +kernel)
theorem kw_392 : Cond.methodLink RX5 102 yX1_appendBits ∈ lw_good := lg_mem (tb2 (List.mem_of_getElem? (i := 197) rfl)) (by decide +kernel)
theorem kw_393 : Cond.fieldLink RX5 85 "AnsTables$Writer" "done" "Z" ∈ lw_good := lg_mem (tb1 (List.mem_of_getElem? (i := 118) rfl)) (by decide +kernel)
theorem kw_394 : Cond.code yX2_empty cX2_empty 1 none ∈ lw_good := lg_mem (tb2 (List.mem_of_getElem? (i := 113) rfl)) (by decide +kernel)
theorem kw_395 : Cond.instanceMethod yX2_empty ∈ lw_good := lg_mem (tb2 (List.mem_of_getElem? (i := 111) rfl)) (by decide +kernel)
theorem kw_396 : Cond.selects RX2 yX2_empty yX2_empty ∈ lw_good := lg_mem (tb2 (List.mem_of_getElem? (i := 112) rfl)) (by decide +kernel)
theorem kw_397 : Cond.methodLink RX5 32 yX2_empty ∈ lw_good := lg_mem (tb2 (List.mem_of_getElem? (i := 110) rfl)) (by decide +kernel)
theorem kw_398 : Cond.code yJ7_fill_d0a16 cJ7_fill_d0a16 5 none ∈ lw_good := lg_mem (tb1 (List.mem_of_getElem? (i := 40) rfl)) (by decide +kernel)
theorem kw_399 : Cond.static yJ7_fill_d0a16 ∈ lw_good := lg_mem (tb1 (List.mem_of_getElem? (i := 39) rfl)) (by decide +kernel)
theorem kw_400 : Cond.methodLink RX5 44 yJ7_fill_d0a16 ∈ lw_good := lg_mem (tb2 (List.mem_of_getElem? (i := 119) rfl)) (by decide +kernel)
theorem kw_401 : Cond.code yX1_restart cX1_restart 1 none ∈ lw_good := lg_mem (tb2 (List.mem_of_getElem? (i := 177) rfl)) (by decide +kernel)
theorem kw_402 : Cond.instanceMethod yX1_restart ∈ lw_good := lg_mem (tb2 (List.mem_of_getElem? (i := 175) rfl)) (by decide +kernel)
theorem kw_403 : Cond.selects RX1 yX1_restart yX1_restart ∈ lw_good := lg_mem (tb2 (List.mem_of_getElem? (i := 176) rfl)) (by decide +kernel)
theorem kw_404 : Cond.methodLink RX5 60 yX1_restart ∈ lw_good := lg_mem (tb2 (List.mem_of_getElem? (i := 174) rfl)) (by decide +kernel)
theorem kw_405 : Cond.code yX5_putHead cX5_putHead 5 none ∈ lw_good := lg_mem (tb2 (List.mem_of_getElem? (i := 181) rfl)) (by decide +kernel)
theorem kw_406 : Cond.instanceMethod yX5_putHead ∈ lw_good := lg_mem (tb2 (List.mem_of_getElem? (i := 180) rfl)) (by decide +kernel)
theorem kw_407 : Cond.selects RX5 yX5_putHead yX5_putHead ∈ lw_good := lg_mem (tb0 (by decide +kernel)) (by decide +kernel)
theorem kw_408 : Cond.methodLink RX5 65 yX5_putHead ∈ lw_good := lg_mem (tb2 (List.mem_of_getElem? (i := 178) rfl)) (by decide +kernel)
theorem kw_409 : Cond.code yX5_putTable cX5_putTable 5 none ∈ lw_good := lg_mem (tb2 (List.mem_of_getElem? (i := 195) rfl)) (by decide +kernel)
theorem kw_410 : Cond.instanceMethod yX5_putTable ∈ lw_good := lg_mem (tb2 (List.mem_of_getElem? (i := 194) rfl)) (by decide +kernel)
theorem kw_411 : Cond.selects RX5 yX5_putTable yX5_putTable ∈ lw_good := lg_mem (tb0 (by decide +kernel)) (by decide +kernel)
theorem kw_412 : Cond.methodLink RX5 69 yX5_putTable ∈ lw_good := lg_mem (tb2 (List.mem_of_getElem? (i := 192) rfl)) (by decide +kernel)
theorem kw_413 : Cond.code yX2_pourInto cX2_pourInto 6 none ∈ lw_good := lg_mem (tb2 (List.mem_of_getElem? (i := 207) rfl)) (by decide +kernel)
theorem kw_414 : Cond.instanceMethod yX2_pourInto ∈ lw_good := lg_mem (tb2 (List.mem_of_getElem? (i := 205) rfl)) (by decide +kernel)
theorem kw_415 : Cond.selects RX2 yX2_pourInto yX2_pourInto ∈ lw_good := lg_mem (tb2 (List.mem_of_getElem? (i := 206) rfl)) (by decide +kernel)
theorem kw_416 : Cond.methodLink RX5 81 yX2_pourInto ∈ lw_good := lg_mem (tb2 (List.mem_of_getElem? (i := 204) rfl)) (by decide +kernel)
theorem kw_417 : Cond.code yX2_makeRoomForSign cX2_makeRoomForSign 1 none ∈ lw_good := lg_mem (tb2 (List.mem_of_getElem? (i := 131) rfl)) (by decide +kernel)
theorem kw_418 : Cond.instanceMethod yX2_makeRoomForSign ∈ lw_good := lg_mem (tb2 (List.mem_of_getElem? (i := 129) rfl)) (by decide +kernel)
theorem kw_419 : Cond.selects RX2 yX2_makeRoomForSign yX2_makeRoomForSign ∈ lw_good := lg_mem (tb2 (List.mem_of_getElem? (i := 130) rfl)) (by decide +kernel)
theorem kw_420 : Cond.methodLink RX5 53 yX2_makeRoomForSign ∈ lw_good := lg_mem (tb2 (List.mem_of_getElem? (i := 128) rfl)) (by decide +kernel)
theorem kw_421 : Cond.code yX5_putSign cX5_putSign 5 none ∈ lw_good := lg_mem (tb2 (List.mem_of_getElem? (i := 136) rfl)) (by decide +kernel)
theorem kw_422 : Cond.instanceMethod yX5_putSign ∈ lw_good := lg_mem (tb2 (List.mem_of_getElem? (i := 135) rfl)) (by decide +kernel)
theorem kw_423 : Cond.selects RX5 yX5_putSign yX5_putSign ∈ lw_good := lg_mem (tb0 (by decide +kernel)) (by decide +kernel)
theorem kw_424 : Cond.methodLink RX5 56 yX5_putSign ∈ lw_good := lg_mem (tb2 (List.mem_of_getElem? (i := 133) rfl)) (by decide +kernel)
theorem kw_425 : Cond.methodLink RX5 50 yX4_makeSpread ∈ lw_good := lg_mem (tb2 (List.mem_of_getElem? (i := 120) rfl)) (by decide +kernel)
theorem kw_426 : Cond.fieldLink RX6 59 "AnsTables" "row" "[I" ∈ lw_good := lg_mem (tb1 (List.mem_of_getElem? (i := 204) rfl)) (by decide +kernel)
theorem kw_427 : Cond.fieldLink RX6 73 "AnsTables" "rowLength" "I" ∈ lw_good := lg_mem (tb1 (List.mem_of_getElem? (i := 205) rfl)) (by decide +kernel)
theorem kw_428 : Cond.methodLink RX6 69 yX6_isSign ∈ lw_good := lg_mem (tb1 (List.mem_of_getElem? (i := 233) rfl)) (by decide +kernel)
theorem kw_429 : Cond.methodLink RX6 76 yX6_withRoom ∈ lw_good := lg_mem (tb1 (List.mem_of_getElem? (i := 236) rfl)) (by decide +kernel)
theorem kw_430 : Cond.constant RX6 80 (1000000) ∈ lw_good := lg_mem (tb2 (List.mem_of_getElem? (i := 21) rfl)) (by decide +kernel)
theorem kw_431 : Cond.fieldLink RX6 55 "AnsTables" "tally" "[I" ∈ lw_good := lg_mem (tb1 (List.mem_of_getElem? (i := 203) rfl)) (by decide +kernel)
theorem kw_432 : Cond.fieldLink RX6 30 "AnsTables" "shares" "LAnsTables$Shares;" ∈ lw_good := lg_mem (tb1 (List.mem_of_getElem? (i := 199) rfl)) (by decide +kernel)
theorem kw_433 : Cond.methodLink RX6 81 yX4_forget ∈ lw_good := lg_mem (tb2 (List.mem_of_getElem? (i := 22) rfl)) (by decide +kernel)
theorem kw_434 : Cond.methodLink RX6 84 yJ7_fill_53178 ∈ lw_good := lg_mem (tb2 (List.mem_of_getElem? (i := 33) rfl)) (by decide +kernel)
theorem kw_435 : Cond.fieldLink RX6 23 "AnsTables" "logs" "LAnsTables$Logs;" ∈ lw_good := lg_mem (tb1 (List.mem_of_getElem? (i := 198) rfl)) (by decide +kernel)
theorem kw_436 : Cond.code yX4_howMany cX4_howMany 3 (some .int) ∈ lw_good := lg_mem (tb2 (List.mem_of_getElem? (i := 69) rfl)) (by decide +kernel)
theorem kw_437 : Cond.instanceMethod yX4_howMany ∈ lw_good := lg_mem (tb2 (List.mem_of_getElem? (i := 67) rfl)) (by decide +kernel)
theorem kw_438 : Cond.selects RX4 yX4_howMany yX4_howMany ∈ lw_good := lg_mem (tb2 (List.mem_of_getElem? (i := 68) rfl)) (by decide +kernel)
theorem kw_439 : Cond.methodLink RX6 98 yX4_howMany ∈ lw_good := lg_mem (tb2 (List.mem_of_getElem? (i := 66) rfl)) (by decide +kernel)
theorem kw_440 : Cond.code yX4_makeOf cX4_makeOf 6 none ∈ lw_good := lg_mem (tb2 (List.mem_of_getElem? (i := 41) rfl)) (by decide +kernel)
theorem kw_441 : Cond.instanceMethod yX4_makeOf ∈ lw_good := lg_mem (tb2 (List.mem_of_getElem? (i := 39) rfl)) (by decide +kernel)
theorem kw_442 : Cond.selects RX4 yX4_makeOf yX4_makeOf ∈ lw_good := lg_mem (tb2 (List.mem_of_getElem? (i := 40) rfl)) (by decide +kernel)
theorem kw_443 : Cond.methodLink RX6 94 yX4_makeOf ∈ lw_good := lg_mem (tb2 (List.mem_of_getElem? (i := 38) rfl)) (by decide +kernel)
theorem kw_444 : Cond.methodLink RX6 102 yX4_shareOf ∈ lw_good := lg_mem (tb2 (List.mem_of_getElem? (i := 74) rfl)) (by decide +kernel)
theorem kw_445 : Cond.constantLong RX6 106 (-1) ∈ lw_good := lg_mem (tb2 (List.mem_of_getElem? (i := 83) rfl)) (by decide +kernel)
theorem kw_446 : Cond.methodLink RX6 111 yX0_of ∈ lw_good := lg_mem (tb2 (List.mem_of_getElem? (i := 84) rfl)) (by decide +kernel)
theorem kw_447 : Cond.fieldLink RX6 62 "AnsTables" "kind" "I" ∈ lw_good := lg_mem (tb1 (List.mem_of_getElem? (i := 206) rfl)) (by decide +kernel)
theorem kw_448 : Cond.fieldLink RX6 66 "AnsTables" "laneCount" "I" ∈ lw_good := lg_mem (tb1 (List.mem_of_getElem? (i := 207) rfl)) (by decide +kernel)
theorem kw_449 : Cond.fieldLink RX6 37 "AnsTables" "writer" "LAnsTables$Writer;" ∈ lw_good := lg_mem (tb1 (List.mem_of_getElem? (i := 200) rfl)) (by decide +kernel)
theorem kw_450 : Cond.fieldLink RX6 51 "AnsTables" "octets" "LAnsTables$Octets;" ∈ lw_good := lg_mem (tb1 (List.mem_of_getElem? (i := 202) rfl)) (by decide +kernel)
theorem kw_451 : Cond.code yX6_isWritable cX6_isWritable 2 (some .boolean) ∈ lw_good := lg_mem (tb2 (List.mem_of_getElem? (i := 104) rfl)) (by decide +kernel)
theorem kw_452 : Cond.instanceMethod yX6_isWritable ∈ lw_good := lg_mem (tb2 (List.mem_of_getElem? (i := 103) rfl)) (by decide +kernel)
theorem kw_453 : Cond.selects RX6 yX6_isWritable yX6_isWritable ∈ lw_good := lg_mem (tb0 (by decide +kernel)) (by decide +kernel)
theorem kw_454 : Cond.methodLink RX6 115 yX6_isWritable ∈ lw_good := lg_mem (tb2 (List.mem_of_getElem? (i := 101) rfl)) (by decide +kernel)
theorem kw_455 : Cond.code yX5_writeRow cX5_writeRow 8 none ∈ lw_good := lg_mem (tb2 (List.mem_of_getElem? (i := 108) rfl)) (by decide +kernel)
theorem kw_456 : Cond.instanceMethod yX5_writeRow ∈ lw_good := lg_mem (tb2 (List.mem_of_getElem? (i := 106) rfl)) (by decide +kernel)
theorem kw_457 : Cond.selects RX5 yX5_writeRow yX5_writeRow ∈ lw_good := lg_mem (tb2 (List.mem_of_getElem? (i := 107) rfl)) (by decide +kernel)
theorem kw_458 : Cond.methodLink RX6 119 yX5_writeRow ∈ lw_good := lg_mem (tb2 (List.mem_of_getElem? (i := 105) rfl)) (by decide +kernel)
theorem kw_459 : Cond.fieldLink RX6 44 "AnsTables" "reader" "LAnsTables$Reader;" ∈ lw_good := lg_mem (tb1 (List.mem_of_getElem? (i := 201) rfl)) (by decide +kernel)
theorem kw_460 : Cond.code yX3_takeIn cX3_takeIn 2 (some .int) ∈ lw_good := lg_mem (tb2 (List.mem_of_getElem? (i := 216) rfl)) (by decide +kernel)
theorem kw_461 : Cond.instanceMethod yX3_takeIn ∈ lw_good := lg_mem (tb2 (List.mem_of_getElem? (i := 214) rfl)) (by decide +kernel)
theorem kw_462 : Cond.selects RX3 yX3_takeIn yX3_takeIn ∈ lw_good := lg_mem (tb2 (List.mem_of_getElem? (i := 215) rfl)) (by decide +kernel)
theorem kw_463 : Cond.methodLink RX6 126 yX3_takeIn ∈ lw_good := lg_mem (tb2 (List.mem_of_getElem? (i := 213) rfl)) (by decide +kernel)
theorem kw_464 : Cond.code yX3_signAt cX3_signAt 2 (some .int) ∈ lw_good := lg_mem (tb3 (List.mem_of_getElem? (i := 81) rfl)) (by decide +kernel)
theorem kw_465 : Cond.instanceMethod yX3_signAt ∈ lw_good := lg_mem (tb3 (List.mem_of_getElem? (i := 79) rfl)) (by decide +kernel)
theorem kw_466 : Cond.selects RX3 yX3_signAt yX3_signAt ∈ lw_good := lg_mem (tb3 (List.mem_of_getElem? (i := 80) rfl)) (by decide +kernel)
theorem kw_467 : Cond.methodLink RX6 133 yX3_signAt ∈ lw_good := lg_mem (tb3 (List.mem_of_getElem? (i := 78) rfl)) (by decide +kernel)
theorem kw_468 : Cond.methodLink RX6 143 yX4_makeSpread ∈ lw_good := lg_mem (tb3 (List.mem_of_getElem? (i := 205) rfl)) (by decide +kernel)
theorem kw_469 : Cond.methodLink RX6 146 yX4_signAt ∈ lw_good := lg_mem (tb3 (List.mem_of_getElem? (i := 206) rfl)) (by decide +kernel)
theorem kw_470 : Cond.code yX1_valueAt cX1_valueAt 2 (some .int) ∈ lw_good := lg_mem (tb3 (List.mem_of_getElem? (i := 93) rfl)) (by decide +kernel)
theorem kw_471 : Cond.instanceMethod yX1_valueAt ∈ lw_good := lg_mem (tb3 (List.mem_of_getElem? (i := 91) rfl)) (by decide +kernel)
theorem kw_472 : Cond.selects RX1 yX1_valueAt yX1_valueAt ∈ lw_good := lg_mem (tb3 (List.mem_of_getElem? (i := 92) rfl)) (by decide +kernel)
theorem kw_473 : Cond.methodLink RX6 160 yX1_valueAt ∈ lw_good := lg_mem (tb3 (List.mem_of_getElem? (i := 90) rfl)) (by decide +kernel)
theorem kw_474 : Cond.code yX1_change cX1_change 3 (some .int) ∈ lw_good := lg_mem (tb3 (List.mem_of_getElem? (i := 101) rfl)) (by decide +kernel)
theorem kw_475 : Cond.instanceMethod yX1_change ∈ lw_good := lg_mem (tb3 (List.mem_of_getElem? (i := 99) rfl)) (by decide +kernel)
theorem kw_476 : Cond.selects RX1 yX1_change yX1_change ∈ lw_good := lg_mem (tb3 (List.mem_of_getElem? (i := 100) rfl)) (by decide +kernel)
theorem kw_477 : Cond.methodLink RX6 163 yX1_change ∈ lw_good := lg_mem (tb3 (List.mem_of_getElem? (i := 98) rfl)) (by decide +kernel)
theorem kw_478 : Cond.methodLink RX6 166 yX1_append ∈ lw_good := lg_mem (tb3 (List.mem_of_getElem? (i := 110) rfl)) (by decide +kernel)
theorem kw_479 : Cond.code yX6_readIsRow cX6_readIsRow 2 (some .boolean) ∈ lw_good := lg_mem (tb3 (List.mem_of_getElem? (i := 118) rfl)) (by decide +kernel)
theorem kw_480 : Cond.instanceMethod yX6_readIsRow ∈ lw_good := lg_mem (tb3 (List.mem_of_getElem? (i := 117) rfl)) (by decide +kernel)
theorem kw_481 : Cond.selects RX6 yX6_readIsRow yX6_readIsRow ∈ lw_good := lg_mem (tb0 (by decide +kernel)) (by decide +kernel)
theorem kw_482 : Cond.methodLink RX6 169 yX6_readIsRow ∈ lw_good := lg_mem (tb3 (List.mem_of_getElem? (i := 115) rfl)) (by decide +kernel)
theorem kw_483 : Cond.methodLink RX1 3 objectInit ∈ lw_good := lg_mem (tb1 (List.mem_of_getElem? (i := 184) rfl)) (by decide +kernel)
theorem kw_484 : Cond.instanceMethod objectInit ∈ lw_good := lg_mem (tb1 (List.mem_of_getElem? (i := 23) rfl)) (by decide +kernel)
theorem kw_485 : Cond.code objectInit ⟨#[0xb1]⟩ 1 none ∈ lw_good := lg_mem (tb1 (List.mem_of_getElem? (i := 24) rfl)) (by decide +kernel)
theorem kw_486 : Cond.methodLink RX2 3 objectInit ∈ lw_good := lg_mem (tb1 (List.mem_of_getElem? (i := 105) rfl)) (by decide +kernel)
theorem kw_487 : Cond.methodLink RX0 3 objectInit ∈ lw_good := lg_mem (tb1 (List.mem_of_getElem? (i := 36) rfl)) (by decide +kernel)
theorem kw_488 : Cond.arrayClass .long ∈ lw_good := lg_mem (by decide +kernel) (by decide +kernel)
theorem kw_489 : Cond.methodLink RX0 17 yJ7_fill_d0a16 ∈ lw_good := lg_mem (tb1 (List.mem_of_getElem? (i := 38) rfl)) (by decide +kernel)
theorem kw_490 : Cond.methodLink RX4 3 objectInit ∈ lw_good := lg_mem (tb1 (List.mem_of_getElem? (i := 51) rfl)) (by decide +kernel)
theorem kw_491 : Cond.methodLink RX5 3 objectInit ∈ lw_good := lg_mem (tb1 (List.mem_of_getElem? (i := 99) rfl)) (by decide +kernel)
theorem kw_492 : Cond.classLink RX5 15 RX2 ∈ lw_good := lg_mem (tb1 (List.mem_of_getElem? (i := 100) rfl)) (by decide +kernel)
theorem kw_493 : Cond.instantiable RX2 2 ∈ lw_good := lg_mem (tb1 (List.mem_of_getElem? (i := 101) rfl)) (by decide +kernel)
theorem kw_494 : Cond.code yX2_init cX2_init 1 none ∈ lw_good := lg_mem (tb1 (List.mem_of_getElem? (i := 104) rfl)) (by decide +kernel)
theorem kw_495 : Cond.instanceMethod yX2_init ∈ lw_good := lg_mem (tb1 (List.mem_of_getElem? (i := 103) rfl)) (by decide +kernel)
theorem kw_496 : Cond.methodLink RX3 3 objectInit ∈ lw_good := lg_mem (tb1 (List.mem_of_getElem? (i := 134) rfl)) (by decide +kernel)
theorem kw_497 : Cond.classLink RX3 9 RX4 ∈ lw_good := lg_mem (tb1 (List.mem_of_getElem? (i := 135) rfl)) (by decide +kernel)
theorem kw_498 : Cond.instantiable RX4 11 ∈ lw_good := lg_mem (tb1 (List.mem_of_getElem? (i := 47) rfl)) (by decide +kernel)
theorem kw_499 : Cond.code yX4_init cX4_init 2 none ∈ lw_good := lg_mem (tb1 (List.mem_of_getElem? (i := 50) rfl)) (by decide +kernel)
theorem kw_500 : Cond.instanceMethod yX4_init ∈ lw_good := lg_mem (tb1 (List.mem_of_getElem? (i := 49) rfl)) (by decide +kernel)
theorem kw_501 : Cond.methodLink RX3 11 yX4_init ∈ lw_good := lg_mem (tb1 (List.mem_of_getElem? (i := 136) rfl)) (by decide +kernel)
theorem kw_502 : Cond.methodLink RX6 1 objectInit ∈ lw_good := lg_mem (tb1 (List.mem_of_getElem? (i := 22) rfl)) (by decide +kernel)
theorem kw_503 : Cond.methodLink RX6 9 Lib.Math.max.name ∈ lw_good := lg_mem (tb1 (List.mem_of_getElem? (i := 25) rfl)) (by decide +kernel)
theorem kw_504 : Cond.methodLink RX6 15 Lib.Math.min.name ∈ lw_good := lg_mem (tb1 (List.mem_of_getElem? (i := 28) rfl)) (by decide +kernel)
theorem kw_505 : Cond.classLink RX6 18 RX0 ∈ lw_good := lg_mem (tb1 (List.mem_of_getElem? (i := 31) rfl)) (by decide +kernel)
theorem kw_506 : Cond.instantiable RX0 1 ∈ lw_good := lg_mem (tb1 (List.mem_of_getElem? (i := 32) rfl)) (by decide +kernel)
theorem kw_507 : Cond.code yX0_init cX0_init 2 none ∈ lw_good := lg_mem (tb1 (List.mem_of_getElem? (i := 35) rfl)) (by decide +kernel)
theorem kw_508 : Cond.instanceMethod yX0_init ∈ lw_good := lg_mem (tb1 (List.mem_of_getElem? (i := 34) rfl)) (by decide +kernel)
theorem kw_509 : Cond.methodLink RX6 20 yX0_init ∈ lw_good := lg_mem (tb1 (List.mem_of_getElem? (i := 33) rfl)) (by decide +kernel)
theorem kw_510 : Cond.classLink RX6 27 RX4 ∈ lw_good := lg_mem (tb1 (List.mem_of_getElem? (i := 46) rfl)) (by decide +kernel)
theorem kw_511 : Cond.methodLink RX6 29 yX4_init ∈ lw_good := lg_mem (tb1 (List.mem_of_getElem? (i := 48) rfl)) (by decide +kernel)
theorem kw_512 : Cond.classLink RX6 34 RX5 ∈ lw_good := lg_mem (tb1 (List.mem_of_getElem? (i := 94) rfl)) (by decide +kernel)
theorem kw_513 : Cond.instantiable RX5 4 ∈ lw_good := lg_mem (tb1 (List.mem_of_getElem? (i := 95) rfl)) (by decide +kernel)
theorem kw_514 : Cond.code yX5_init cX5_init 1 none ∈ lw_good := lg_mem (tb1 (List.mem_of_getElem? (i := 98) rfl)) (by decide +kernel)
theorem kw_515 : Cond.instanceMethod yX5_init ∈ lw_good := lg_mem (tb1 (List.mem_of_getElem? (i := 97) rfl)) (by decide +kernel)
theorem kw_516 : Cond.classLink RX6 41 RX3 ∈ lw_good := lg_mem (tb1 (List.mem_of_getElem? (i := 129) rfl)) (by decide +kernel)
theorem kw_517 : Cond.instantiable RX3 12 ∈ lw_good := lg_mem (tb1 (List.mem_of_getElem? (i := 130) rfl)) (by decide +kernel)
theorem kw_518 : Cond.code yX3_init cX3_init 1 none ∈ lw_good := lg_mem (tb1 (List.mem_of_getElem? (i := 133) rfl)) (by decide +kernel)
theorem kw_519 : Cond.instanceMethod yX3_init ∈ lw_good := lg_mem (tb1 (List.mem_of_getElem? (i := 132) rfl)) (by decide +kernel)
theorem kw_520 : Cond.classLink RX6 48 RX1 ∈ lw_good := lg_mem (tb1 (List.mem_of_getElem? (i := 179) rfl)) (by decide +kernel)
theorem kw_521 : Cond.instantiable RX1 3 ∈ lw_good := lg_mem (tb1 (List.mem_of_getElem? (i := 180) rfl)) (by decide +kernel)
theorem kw_522 : Cond.code yX1_init cX1_init 1 none ∈ lw_good := lg_mem (tb1 (List.mem_of_getElem? (i := 183) rfl)) (by decide +kernel)
theorem kw_523 : Cond.instanceMethod yX1_init ∈ lw_good := lg_mem (tb1 (List.mem_of_getElem? (i := 182) rfl)) (by decide +kernel)
theorem kw_524 : Cond.methodLink RX7 1 objectInit ∈ lw_good := lg_mem (tb3 (List.mem_of_getElem? (i := 212) rfl)) (by decide +kernel)
theorem kw_525 : Cond.constant RX7 48 (70000) ∈ lw_good := lg_mem (tb3 (List.mem_of_getElem? (i := 213) rfl)) (by decide +kernel)
theorem kw_526 : Cond.constant RX7 52 (65536) ∈ lw_good := lg_mem (tb3 (List.mem_of_getElem? (i := 214) rfl)) (by decide +kernel)
theorem kw_aI : Cond.arrayClass .int ∈ lw_good := lg_mem (by decide +kernel) (by decide +kernel)
theorem kw_cl136 : Cond.classLink RX6 136 RJx00060 ∈ lw_good := lg_mem (tb3 (List.mem_of_getElem? (i := 134) rfl)) (by decide +kernel)
theorem kw_inE : Cond.instantiable RJx00060 6 ∈ lw_good := lg_mem (tb3 (List.mem_of_getElem? (i := 135) rfl)) (by decide +kernel)
theorem kw_iniE : Cond.initialized RJx00060 ∈ lw_good := lg_mem (tb1 (List.mem_of_getElem? (i := 16) rfl)) (by decide +kernel)
theorem kw_x630 : Cond.fieldLink RX6 30 "AnsTables" "shares" "LAnsTables$Shares;" ∈ lw_good := lg_mem (tb1 (List.mem_of_getElem? (i := 199) rfl)) (by decide +kernel)
theorem kw_c304 : Cond.methodLink RJ7 304 Lib.Math.min.name ∈ lw_good := lg_mem (tb2 (List.mem_of_getElem? (i := 9) rfl)) (by decide +kernel)
theorem kw_minS : Cond.static Lib.Math.min.name ∈ lw_good := lg_mem (tb1 (List.mem_of_getElem? (i := 29) rfl)) (by decide +kernel)
theorem kw_mathI : Cond.initialized "java/lang/Math" ∈ lw_good := lg_mem (tb1 (List.mem_of_getElem? (i := 2) rfl)) (by decide +kernel)
theorem kw_minC : Cond.code Lib.Math.min.name Lib.Math.min.code 2 (some .int) ∈ lw_good := lg_mem (tb1 (List.mem_of_getElem? (i := 30) rfl)) (by decide +kernel)
theorem kw_c150 : Cond.methodLink RJ7 150 arraycopyName ∈ lw_good := lg_mem (tb2 (List.mem_of_getElem? (i := 10) rfl)) (by decide +kernel)
theorem kw_acN : Cond.native arraycopyName ∈ lw_good := lg_mem (tb2 (List.mem_of_getElem? (i := 12) rfl)) (by decide +kernel)
theorem kw_acS : Cond.static arraycopyName ∈ lw_good := lg_mem (tb2 (List.mem_of_getElem? (i := 11) rfl)) (by decide +kernel)
theorem kw_sysI : Cond.initialized "java/lang/System" ∈ lw_good := lg_mem (tb1 (List.mem_of_getElem? (i := 11) rfl)) (by decide +kernel)
theorem kw_x615 : Cond.methodLink RX6 15 Lib.Math.min.name ∈ lw_good := lg_mem (tb1 (List.mem_of_getElem? (i := 28) rfl)) (by decide +kernel)
theorem kw_x6176 : Cond.methodLink RX6 176 yJ7_copyOf_59c91 ∈ lw_good := lg_mem (tb1 (List.mem_of_getElem? (i := 239) rfl)) (by decide +kernel)
theorem kw_cpS : Cond.static yJ7_copyOf_59c91 ∈ lw_good := lg_mem (tb2 (List.mem_of_getElem? (i := 0) rfl)) (by decide +kernel)
theorem kw_arI : Cond.initialized RJ7 ∈ lw_good := lg_mem (tb1 (List.mem_of_getElem? (i := 4) rfl)) (by decide +kernel)
theorem kw_cpC : Cond.code yJ7_copyOf_59c91 cJ7_copyOf_59c91 3 (some (.array .int)) ∈ lw_good := lg_mem (tb2 (List.mem_of_getElem? (i := 1) rfl)) (by decide +kernel)
theorem kn_108 : Cond.fieldLinkNest RX6 108 "AnsTables$Shares" "size" "I" "AnsTables" ∈ nwL := List.mem_of_getElem? (i := 4) rfl
theorem kn_0 : Cond.methodLinkNest RX0 27 yX6_bitLength "AnsTables" ∈ nwL := List.mem_of_getElem? (i := 15) rfl
theorem kn_1 : Cond.methodLinkNest RX1 22 yX6_withRoom "AnsTables" ∈ nwL := List.mem_of_getElem? (i := 16) rfl
theorem kn_2 : Cond.methodLinkNest RX2 19 yX6_withRoom "AnsTables" ∈ nwL := List.mem_of_getElem? (i := 17) rfl
theorem kn_3 : Cond.fieldLinkNest RX3 159 "AnsTables$Octets" "length" "I" "AnsTables" ∈ nwL := List.mem_of_getElem? (i := 25) rfl
theorem kn_4 : Cond.fieldLinkNest RX3 162 "AnsTables$Octets" "values" "[I" "AnsTables" ∈ nwL := List.mem_of_getElem? (i := 26) rfl
theorem kn_5 : Cond.fieldLinkNest RX3 77 "AnsTables$Shares" "size" "I" "AnsTables" ∈ nwL := List.mem_of_getElem? (i := 18) rfl
theorem kn_6 : Cond.methodLinkNest RX4 57 yX6_isSign "AnsTables" ∈ nwL := List.mem_of_getElem? (i := 27) rfl
theorem kn_7 : Cond.methodLinkNest RX3 80 yX6_bitLength "AnsTables" ∈ nwL := List.mem_of_getElem? (i := 19) rfl
theorem kn_8 : Cond.methodLinkNest RX3 99 yX6_firstState "AnsTables" ∈ nwL := List.mem_of_getElem? (i := 20) rfl
theorem kn_9 : Cond.methodLinkNest RX3 103 yX6_lastState "AnsTables" ∈ nwL := List.mem_of_getElem? (i := 21) rfl
theorem kn_10 : Cond.methodLinkNest RX3 106 yX6_stateWidth "AnsTables" ∈ nwL := List.mem_of_getElem? (i := 22) rfl
theorem kn_11 : Cond.fieldLinkNest RX3 146 "AnsTables$Shares" "log" "I" "AnsTables" ∈ nwL := List.mem_of_getElem? (i := 24) rfl
theorem kn_12 : Cond.methodLinkNest RX3 120 yX6_withRoom "AnsTables" ∈ nwL := List.mem_of_getElem? (i := 23) rfl
theorem kn_13 : Cond.fieldLinkNest RX5 35 "AnsTables$Shares" "size" "I" "AnsTables" ∈ nwL := List.mem_of_getElem? (i := 29) rfl
theorem kn_14 : Cond.fieldLinkNest RX5 93 "AnsTables$Shares" "log" "I" "AnsTables" ∈ nwL := List.mem_of_getElem? (i := 32) rfl
theorem kn_15 : Cond.methodLinkNest RX5 99 yX6_bitLength "AnsTables" ∈ nwL := List.mem_of_getElem? (i := 33) rfl
theorem kn_16 : Cond.methodLinkNest RX5 40 yX6_firstState "AnsTables" ∈ nwL := List.mem_of_getElem? (i := 30) rfl
theorem kn_17 : Cond.methodLinkNest RX5 73 yX6_stateWidth "AnsTables" ∈ nwL := List.mem_of_getElem? (i := 31) rfl
theorem kn_18 : Cond.fieldLinkNest RX6 90 "AnsTables$Shares" "made" "Z" "AnsTables" ∈ nwL := List.mem_of_getElem? (i := 3) rfl
theorem kn_19 : Cond.fieldLinkNest RX6 108 "AnsTables$Shares" "size" "I" "AnsTables" ∈ nwL := List.mem_of_getElem? (i := 4) rfl
theorem kn_20 : Cond.fieldLinkNest RX6 123 "AnsTables$Octets" "length" "I" "AnsTables" ∈ nwL := List.mem_of_getElem? (i := 5) rfl
theorem kn_21 : Cond.fieldLinkNest RX6 130 "AnsTables$Reader" "broken" "I" "AnsTables" ∈ nwL := List.mem_of_getElem? (i := 6) rfl
theorem kn_22 : Cond.fieldLinkNest RX6 155 "AnsTables$Reader" "hasStates" "Z" "AnsTables" ∈ nwL := List.mem_of_getElem? (i := 10) rfl
theorem kn_23 : Cond.fieldLinkNest RX6 158 "AnsTables$Reader" "laneCount" "I" "AnsTables" ∈ nwL := List.mem_of_getElem? (i := 11) rfl
theorem kn_24 : Cond.fieldLinkNest RX6 159 "AnsTables$Reader" "states" "[J" "AnsTables" ∈ nwL := List.mem_of_getElem? (i := 12) rfl
theorem kn_25 : Cond.fieldLinkNest RX6 147 "AnsTables$Writer" "done" "Z" "AnsTables" ∈ nwL := List.mem_of_getElem? (i := 7) rfl
theorem kn_26 : Cond.fieldLinkNest RX6 150 "AnsTables$Writer" "laneCount" "I" "AnsTables" ∈ nwL := List.mem_of_getElem? (i := 8) rfl
theorem kn_27 : Cond.fieldLinkNest RX6 151 "AnsTables$Writer" "states" "[J" "AnsTables" ∈ nwL := List.mem_of_getElem? (i := 9) rfl
theorem kn_28 : Cond.fieldLinkNest RX6 172 "AnsTables$Shares" "log" "I" "AnsTables" ∈ nwL := List.mem_of_getElem? (i := 13) rfl
theorem kn_29 : Cond.fieldLinkNest RX6 175 "AnsTables$Reader" "length" "I" "AnsTables" ∈ nwL := List.mem_of_getElem? (i := 14) rfl
theorem kn_30 : Cond.methodLinkNest RX5 17 yX2_init "AnsTables" ∈ nwL := List.mem_of_getElem? (i := 28) rfl
theorem kn_31 : Cond.methodLinkNest RX6 36 yX5_init "AnsTables" ∈ nwL := List.mem_of_getElem? (i := 0) rfl
theorem kn_32 : Cond.methodLinkNest RX6 43 yX3_init "AnsTables" ∈ nwL := List.mem_of_getElem? (i := 1) rfl
theorem kn_33 : Cond.methodLinkNest RX6 50 yX1_init "AnsTables" ∈ nwL := List.mem_of_getElem? (i := 2) rfl
theorem nd_J7_copyOf_59c91 : yJ7_copyOf_59c91.cls ≠ "java/lang/invoke/MethodHandle" ∧ yJ7_copyOf_59c91.cls ≠ "java/lang/invoke/VarHandle" ∧ (parseMethodDescriptor yJ7_copyOf_59c91.desc).map (fun d => d.parameters.length) = some 2 := by decide +kernel
theorem nd_J7_fill_53178 : yJ7_fill_53178.cls ≠ "java/lang/invoke/MethodHandle" ∧ yJ7_fill_53178.cls ≠ "java/lang/invoke/VarHandle" ∧ (parseMethodDescriptor yJ7_fill_53178.desc).map (fun d => d.parameters.length) = some 2 := by decide +kernel
theorem nd_J7_fill_d0a16 : yJ7_fill_d0a16.cls ≠ "java/lang/invoke/MethodHandle" ∧ yJ7_fill_d0a16.cls ≠ "java/lang/invoke/VarHandle" ∧ (parseMethodDescriptor yJ7_fill_d0a16.desc).map (fun d => d.parameters.length) = some 2 := by decide +kernel
theorem nd_X0_init : yX0_init.cls ≠ "java/lang/invoke/MethodHandle" ∧ yX0_init.cls ≠ "java/lang/invoke/VarHandle" ∧ (parseMethodDescriptor yX0_init.desc).map (fun d => d.parameters.length) = some 1 := by decide +kernel
theorem nd_X0_of : yX0_of.cls ≠ "java/lang/invoke/MethodHandle" ∧ yX0_of.cls ≠ "java/lang/invoke/VarHandle" ∧ (parseMethodDescriptor yX0_of.desc).map (fun d => d.parameters.length) = some 1 := by decide +kernel
theorem nd_X0_reckon : yX0_reckon.cls ≠ "java/lang/invoke/MethodHandle" ∧ yX0_reckon.cls ≠ "java/lang/invoke/VarHandle" ∧ (parseMethodDescriptor yX0_reckon.desc).map (fun d => d.parameters.length) = some 1 := by decide +kernel
theorem nd_X1_append : yX1_append.cls ≠ "java/lang/invoke/MethodHandle" ∧ yX1_append.cls ≠ "java/lang/invoke/VarHandle" ∧ (parseMethodDescriptor yX1_append.desc).map (fun d => d.parameters.length) = some 1 := by decide +kernel
theorem nd_X1_appendBits : yX1_appendBits.cls ≠ "java/lang/invoke/MethodHandle" ∧ yX1_appendBits.cls ≠ "java/lang/invoke/VarHandle" ∧ (parseMethodDescriptor yX1_appendBits.desc).map (fun d => d.parameters.length) = some 2 := by decide +kernel
theorem nd_X1_appendNumber : yX1_appendNumber.cls ≠ "java/lang/invoke/MethodHandle" ∧ yX1_appendNumber.cls ≠ "java/lang/invoke/VarHandle" ∧ (parseMethodDescriptor yX1_appendNumber.desc).map (fun d => d.parameters.length) = some 2 := by decide +kernel
theorem nd_X1_change : yX1_change.cls ≠ "java/lang/invoke/MethodHandle" ∧ yX1_change.cls ≠ "java/lang/invoke/VarHandle" ∧ (parseMethodDescriptor yX1_change.desc).map (fun d => d.parameters.length) = some 2 := by decide +kernel
theorem nd_X1_init : yX1_init.cls ≠ "java/lang/invoke/MethodHandle" ∧ yX1_init.cls ≠ "java/lang/invoke/VarHandle" ∧ (parseMethodDescriptor yX1_init.desc).map (fun d => d.parameters.length) = some 0 := by decide +kernel
theorem nd_X1_restart : yX1_restart.cls ≠ "java/lang/invoke/MethodHandle" ∧ yX1_restart.cls ≠ "java/lang/invoke/VarHandle" ∧ (parseMethodDescriptor yX1_restart.desc).map (fun d => d.parameters.length) = some 0 := by decide +kernel
theorem nd_X1_valueAt : yX1_valueAt.cls ≠ "java/lang/invoke/MethodHandle" ∧ yX1_valueAt.cls ≠ "java/lang/invoke/VarHandle" ∧ (parseMethodDescriptor yX1_valueAt.desc).map (fun d => d.parameters.length) = some 1 := by decide +kernel
theorem nd_X2_empty : yX2_empty.cls ≠ "java/lang/invoke/MethodHandle" ∧ yX2_empty.cls ≠ "java/lang/invoke/VarHandle" ∧ (parseMethodDescriptor yX2_empty.desc).map (fun d => d.parameters.length) = some 0 := by decide +kernel
theorem nd_X2_init : yX2_init.cls ≠ "java/lang/invoke/MethodHandle" ∧ yX2_init.cls ≠ "java/lang/invoke/VarHandle" ∧ (parseMethodDescriptor yX2_init.desc).map (fun d => d.parameters.length) = some 0 := by decide +kernel
theorem nd_X2_makeRoomForSign : yX2_makeRoomForSign.cls ≠ "java/lang/invoke/MethodHandle" ∧ yX2_makeRoomForSign.cls ≠ "java/lang/invoke/VarHandle" ∧ (parseMethodDescriptor yX2_makeRoomForSign.desc).map (fun d => d.parameters.length) = some 0 := by decide +kernel
theorem nd_X2_pourInto : yX2_pourInto.cls ≠ "java/lang/invoke/MethodHandle" ∧ yX2_pourInto.cls ≠ "java/lang/invoke/VarHandle" ∧ (parseMethodDescriptor yX2_pourInto.desc).map (fun d => d.parameters.length) = some 1 := by decide +kernel
theorem nd_X2_pushBit : yX2_pushBit.cls ≠ "java/lang/invoke/MethodHandle" ∧ yX2_pushBit.cls ≠ "java/lang/invoke/VarHandle" ∧ (parseMethodDescriptor yX2_pushBit.desc).map (fun d => d.parameters.length) = some 1 := by decide +kernel
theorem nd_X2_pushOctet : yX2_pushOctet.cls ≠ "java/lang/invoke/MethodHandle" ∧ yX2_pushOctet.cls ≠ "java/lang/invoke/VarHandle" ∧ (parseMethodDescriptor yX2_pushOctet.desc).map (fun d => d.parameters.length) = some 1 := by decide +kernel
theorem nd_X3_init : yX3_init.cls ≠ "java/lang/invoke/MethodHandle" ∧ yX3_init.cls ≠ "java/lang/invoke/VarHandle" ∧ (parseMethodDescriptor yX3_init.desc).map (fun d => d.parameters.length) = some 0 := by decide +kernel
theorem nd_X3_judgeEnd : yX3_judgeEnd.cls ≠ "java/lang/invoke/MethodHandle" ∧ yX3_judgeEnd.cls ≠ "java/lang/invoke/VarHandle" ∧ (parseMethodDescriptor yX3_judgeEnd.desc).map (fun d => d.parameters.length) = some 1 := by decide +kernel
theorem nd_X3_keep : yX3_keep.cls ≠ "java/lang/invoke/MethodHandle" ∧ yX3_keep.cls ≠ "java/lang/invoke/VarHandle" ∧ (parseMethodDescriptor yX3_keep.desc).map (fun d => d.parameters.length) = some 1 := by decide +kernel
theorem nd_X3_narrow : yX3_narrow.cls ≠ "java/lang/invoke/MethodHandle" ∧ yX3_narrow.cls ≠ "java/lang/invoke/VarHandle" ∧ (parseMethodDescriptor yX3_narrow.desc).map (fun d => d.parameters.length) = some 4 := by decide +kernel
theorem nd_X3_nextBits : yX3_nextBits.cls ≠ "java/lang/invoke/MethodHandle" ∧ yX3_nextBits.cls ≠ "java/lang/invoke/VarHandle" ∧ (parseMethodDescriptor yX3_nextBits.desc).map (fun d => d.parameters.length) = some 2 := by decide +kernel
theorem nd_X3_nextNumber : yX3_nextNumber.cls ≠ "java/lang/invoke/MethodHandle" ∧ yX3_nextNumber.cls ≠ "java/lang/invoke/VarHandle" ∧ (parseMethodDescriptor yX3_nextNumber.desc).map (fun d => d.parameters.length) = some 2 := by decide +kernel
theorem nd_X3_restIsSet : yX3_restIsSet.cls ≠ "java/lang/invoke/MethodHandle" ∧ yX3_restIsSet.cls ≠ "java/lang/invoke/VarHandle" ∧ (parseMethodDescriptor yX3_restIsSet.desc).map (fun d => d.parameters.length) = some 0 := by decide +kernel
theorem nd_X3_restOf : yX3_restOf.cls ≠ "java/lang/invoke/MethodHandle" ∧ yX3_restOf.cls ≠ "java/lang/invoke/VarHandle" ∧ (parseMethodDescriptor yX3_restOf.desc).map (fun d => d.parameters.length) = some 1 := by decide +kernel
theorem nd_X3_signAt : yX3_signAt.cls ≠ "java/lang/invoke/MethodHandle" ∧ yX3_signAt.cls ≠ "java/lang/invoke/VarHandle" ∧ (parseMethodDescriptor yX3_signAt.desc).map (fun d => d.parameters.length) = some 1 := by decide +kernel
theorem nd_X3_takeByTable : yX3_takeByTable.cls ≠ "java/lang/invoke/MethodHandle" ∧ yX3_takeByTable.cls ≠ "java/lang/invoke/VarHandle" ∧ (parseMethodDescriptor yX3_takeByTable.desc).map (fun d => d.parameters.length) = some 2 := by decide +kernel
theorem nd_X3_takeHead : yX3_takeHead.cls ≠ "java/lang/invoke/MethodHandle" ∧ yX3_takeHead.cls ≠ "java/lang/invoke/VarHandle" ∧ (parseMethodDescriptor yX3_takeHead.desc).map (fun d => d.parameters.length) = some 1 := by decide +kernel
theorem nd_X3_takeIn : yX3_takeIn.cls ≠ "java/lang/invoke/MethodHandle" ∧ yX3_takeIn.cls ≠ "java/lang/invoke/VarHandle" ∧ (parseMethodDescriptor yX3_takeIn.desc).map (fun d => d.parameters.length) = some 1 := by decide +kernel
theorem nd_X3_takeRow : yX3_takeRow.cls ≠ "java/lang/invoke/MethodHandle" ∧ yX3_takeRow.cls ≠ "java/lang/invoke/VarHandle" ∧ (parseMethodDescriptor yX3_takeRow.desc).map (fun d => d.parameters.length) = some 1 := by decide +kernel
theorem nd_X3_takeSign : yX3_takeSign.cls ≠ "java/lang/invoke/MethodHandle" ∧ yX3_takeSign.cls ≠ "java/lang/invoke/VarHandle" ∧ (parseMethodDescriptor yX3_takeSign.desc).map (fun d => d.parameters.length) = some 2 := by decide +kernel
theorem nd_X3_takeStates : yX3_takeStates.cls ≠ "java/lang/invoke/MethodHandle" ∧ yX3_takeStates.cls ≠ "java/lang/invoke/VarHandle" ∧ (parseMethodDescriptor yX3_takeStates.desc).map (fun d => d.parameters.length) = some 1 := by decide +kernel
theorem nd_X3_takeTable : yX3_takeTable.cls ≠ "java/lang/invoke/MethodHandle" ∧ yX3_takeTable.cls ≠ "java/lang/invoke/VarHandle" ∧ (parseMethodDescriptor yX3_takeTable.desc).map (fun d => d.parameters.length) = some 1 := by decide +kernel
theorem nd_X3_takeTwoSided : yX3_takeTwoSided.cls ≠ "java/lang/invoke/MethodHandle" ∧ yX3_takeTwoSided.cls ≠ "java/lang/invoke/VarHandle" ∧ (parseMethodDescriptor yX3_takeTwoSided.desc).map (fun d => d.parameters.length) = some 2 := by decide +kernel
theorem nd_X4_beginWith : yX4_beginWith.cls ≠ "java/lang/invoke/MethodHandle" ∧ yX4_beginWith.cls ≠ "java/lang/invoke/VarHandle" ∧ (parseMethodDescriptor yX4_beginWith.desc).map (fun d => d.parameters.length) = some 1 := by decide +kernel
theorem nd_X4_finish : yX4_finish.cls ≠ "java/lang/invoke/MethodHandle" ∧ yX4_finish.cls ≠ "java/lang/invoke/VarHandle" ∧ (parseMethodDescriptor yX4_finish.desc).map (fun d => d.parameters.length) = some 0 := by decide +kernel
theorem nd_X4_forget : yX4_forget.cls ≠ "java/lang/invoke/MethodHandle" ∧ yX4_forget.cls ≠ "java/lang/invoke/VarHandle" ∧ (parseMethodDescriptor yX4_forget.desc).map (fun d => d.parameters.length) = some 0 := by decide +kernel
theorem nd_X4_fromOf : yX4_fromOf.cls ≠ "java/lang/invoke/MethodHandle" ∧ yX4_fromOf.cls ≠ "java/lang/invoke/VarHandle" ∧ (parseMethodDescriptor yX4_fromOf.desc).map (fun d => d.parameters.length) = some 1 := by decide +kernel
theorem nd_X4_gainOf : yX4_gainOf.cls ≠ "java/lang/invoke/MethodHandle" ∧ yX4_gainOf.cls ≠ "java/lang/invoke/VarHandle" ∧ (parseMethodDescriptor yX4_gainOf.desc).map (fun d => d.parameters.length) = some 3 := by decide +kernel
theorem nd_X4_give : yX4_give.cls ≠ "java/lang/invoke/MethodHandle" ∧ yX4_give.cls ≠ "java/lang/invoke/VarHandle" ∧ (parseMethodDescriptor yX4_give.desc).map (fun d => d.parameters.length) = some 2 := by decide +kernel
theorem nd_X4_greatestGain : yX4_greatestGain.cls ≠ "java/lang/invoke/MethodHandle" ∧ yX4_greatestGain.cls ≠ "java/lang/invoke/VarHandle" ∧ (parseMethodDescriptor yX4_greatestGain.desc).map (fun d => d.parameters.length) = some 0 := by decide +kernel
theorem nd_X4_howMany : yX4_howMany.cls ≠ "java/lang/invoke/MethodHandle" ∧ yX4_howMany.cls ≠ "java/lang/invoke/VarHandle" ∧ (parseMethodDescriptor yX4_howMany.desc).map (fun d => d.parameters.length) = some 0 := by decide +kernel
theorem nd_X4_init : yX4_init.cls ≠ "java/lang/invoke/MethodHandle" ∧ yX4_init.cls ≠ "java/lang/invoke/VarHandle" ∧ (parseMethodDescriptor yX4_init.desc).map (fun d => d.parameters.length) = some 1 := by decide +kernel
theorem nd_X4_makeOf : yX4_makeOf.cls ≠ "java/lang/invoke/MethodHandle" ∧ yX4_makeOf.cls ≠ "java/lang/invoke/VarHandle" ∧ (parseMethodDescriptor yX4_makeOf.desc).map (fun d => d.parameters.length) = some 2 := by decide +kernel
theorem nd_X4_makeSpread : yX4_makeSpread.cls ≠ "java/lang/invoke/MethodHandle" ∧ yX4_makeSpread.cls ≠ "java/lang/invoke/VarHandle" ∧ (parseMethodDescriptor yX4_makeSpread.desc).map (fun d => d.parameters.length) = some 0 := by decide +kernel
theorem nd_X4_numberAt : yX4_numberAt.cls ≠ "java/lang/invoke/MethodHandle" ∧ yX4_numberAt.cls ≠ "java/lang/invoke/VarHandle" ∧ (parseMethodDescriptor yX4_numberAt.desc).map (fun d => d.parameters.length) = some 1 := by decide +kernel
theorem nd_X4_numberPlaces : yX4_numberPlaces.cls ≠ "java/lang/invoke/MethodHandle" ∧ yX4_numberPlaces.cls ≠ "java/lang/invoke/VarHandle" ∧ (parseMethodDescriptor yX4_numberPlaces.desc).map (fun d => d.parameters.length) = some 0 := by decide +kernel
theorem nd_X4_placeOf : yX4_placeOf.cls ≠ "java/lang/invoke/MethodHandle" ∧ yX4_placeOf.cls ≠ "java/lang/invoke/VarHandle" ∧ (parseMethodDescriptor yX4_placeOf.desc).map (fun d => d.parameters.length) = some 2 := by decide +kernel
theorem nd_X4_shareOf : yX4_shareOf.cls ≠ "java/lang/invoke/MethodHandle" ∧ yX4_shareOf.cls ≠ "java/lang/invoke/VarHandle" ∧ (parseMethodDescriptor yX4_shareOf.desc).map (fun d => d.parameters.length) = some 1 := by decide +kernel
theorem nd_X4_shareOfZero : yX4_shareOfZero.cls ≠ "java/lang/invoke/MethodHandle" ∧ yX4_shareOfZero.cls ≠ "java/lang/invoke/VarHandle" ∧ (parseMethodDescriptor yX4_shareOfZero.desc).map (fun d => d.parameters.length) = some 2 := by decide +kernel
theorem nd_X4_signAt : yX4_signAt.cls ≠ "java/lang/invoke/MethodHandle" ∧ yX4_signAt.cls ≠ "java/lang/invoke/VarHandle" ∧ (parseMethodDescriptor yX4_signAt.desc).map (fun d => d.parameters.length) = some 1 := by decide +kernel
theorem nd_X4_signOver : yX4_signOver.cls ≠ "java/lang/invoke/MethodHandle" ∧ yX4_signOver.cls ≠ "java/lang/invoke/VarHandle" ∧ (parseMethodDescriptor yX4_signOver.desc).map (fun d => d.parameters.length) = some 1 := by decide +kernel
theorem nd_X5_init : yX5_init.cls ≠ "java/lang/invoke/MethodHandle" ∧ yX5_init.cls ≠ "java/lang/invoke/VarHandle" ∧ (parseMethodDescriptor yX5_init.desc).map (fun d => d.parameters.length) = some 0 := by decide +kernel
theorem nd_X5_putByTable : yX5_putByTable.cls ≠ "java/lang/invoke/MethodHandle" ∧ yX5_putByTable.cls ≠ "java/lang/invoke/VarHandle" ∧ (parseMethodDescriptor yX5_putByTable.desc).map (fun d => d.parameters.length) = some 3 := by decide +kernel
theorem nd_X5_putHead : yX5_putHead.cls ≠ "java/lang/invoke/MethodHandle" ∧ yX5_putHead.cls ≠ "java/lang/invoke/VarHandle" ∧ (parseMethodDescriptor yX5_putHead.desc).map (fun d => d.parameters.length) = some 4 := by decide +kernel
theorem nd_X5_putSign : yX5_putSign.cls ≠ "java/lang/invoke/MethodHandle" ∧ yX5_putSign.cls ≠ "java/lang/invoke/VarHandle" ∧ (parseMethodDescriptor yX5_putSign.desc).map (fun d => d.parameters.length) = some 4 := by decide +kernel
theorem nd_X5_putTable : yX5_putTable.cls ≠ "java/lang/invoke/MethodHandle" ∧ yX5_putTable.cls ≠ "java/lang/invoke/VarHandle" ∧ (parseMethodDescriptor yX5_putTable.desc).map (fun d => d.parameters.length) = some 2 := by decide +kernel
theorem nd_X5_putTwoSided : yX5_putTwoSided.cls ≠ "java/lang/invoke/MethodHandle" ∧ yX5_putTwoSided.cls ≠ "java/lang/invoke/VarHandle" ∧ (parseMethodDescriptor yX5_putTwoSided.desc).map (fun d => d.parameters.length) = some 3 := by decide +kernel
theorem nd_X5_widen : yX5_widen.cls ≠ "java/lang/invoke/MethodHandle" ∧ yX5_widen.cls ≠ "java/lang/invoke/VarHandle" ∧ (parseMethodDescriptor yX5_widen.desc).map (fun d => d.parameters.length) = some 5 := by decide +kernel
theorem nd_X5_writeRow : yX5_writeRow.cls ≠ "java/lang/invoke/MethodHandle" ∧ yX5_writeRow.cls ≠ "java/lang/invoke/VarHandle" ∧ (parseMethodDescriptor yX5_writeRow.desc).map (fun d => d.parameters.length) = some 6 := by decide +kernel
theorem nd_X6_bitLength : yX6_bitLength.cls ≠ "java/lang/invoke/MethodHandle" ∧ yX6_bitLength.cls ≠ "java/lang/invoke/VarHandle" ∧ (parseMethodDescriptor yX6_bitLength.desc).map (fun d => d.parameters.length) = some 1 := by decide +kernel
theorem nd_X6_firstState : yX6_firstState.cls ≠ "java/lang/invoke/MethodHandle" ∧ yX6_firstState.cls ≠ "java/lang/invoke/VarHandle" ∧ (parseMethodDescriptor yX6_firstState.desc).map (fun d => d.parameters.length) = some 2 := by decide +kernel
theorem nd_X6_isSign : yX6_isSign.cls ≠ "java/lang/invoke/MethodHandle" ∧ yX6_isSign.cls ≠ "java/lang/invoke/VarHandle" ∧ (parseMethodDescriptor yX6_isSign.desc).map (fun d => d.parameters.length) = some 1 := by decide +kernel
theorem nd_X6_isWritable : yX6_isWritable.cls ≠ "java/lang/invoke/MethodHandle" ∧ yX6_isWritable.cls ≠ "java/lang/invoke/VarHandle" ∧ (parseMethodDescriptor yX6_isWritable.desc).map (fun d => d.parameters.length) = some 0 := by decide +kernel
theorem nd_X6_lastState : yX6_lastState.cls ≠ "java/lang/invoke/MethodHandle" ∧ yX6_lastState.cls ≠ "java/lang/invoke/VarHandle" ∧ (parseMethodDescriptor yX6_lastState.desc).map (fun d => d.parameters.length) = some 2 := by decide +kernel
theorem nd_X6_readIsRow : yX6_readIsRow.cls ≠ "java/lang/invoke/MethodHandle" ∧ yX6_readIsRow.cls ≠ "java/lang/invoke/VarHandle" ∧ (parseMethodDescriptor yX6_readIsRow.desc).map (fun d => d.parameters.length) = some 0 := by decide +kernel
theorem nd_X6_stateWidth : yX6_stateWidth.cls ≠ "java/lang/invoke/MethodHandle" ∧ yX6_stateWidth.cls ≠ "java/lang/invoke/VarHandle" ∧ (parseMethodDescriptor yX6_stateWidth.desc).map (fun d => d.parameters.length) = some 1 := by decide +kernel
theorem nd_X6_withRoom : yX6_withRoom.cls ≠ "java/lang/invoke/MethodHandle" ∧ yX6_withRoom.cls ≠ "java/lang/invoke/VarHandle" ∧ (parseMethodDescriptor yX6_withRoom.desc).map (fun d => d.parameters.length) = some 3 := by decide +kernel
theorem nd_X7_bitsOf : yX7_bitsOf.cls ≠ "java/lang/invoke/MethodHandle" ∧ yX7_bitsOf.cls ≠ "java/lang/invoke/VarHandle" ∧ (parseMethodDescriptor yX7_bitsOf.desc).map (fun d => d.parameters.length) = some 1 := by decide +kernel
theorem nd_X7_fail : yX7_fail.cls ≠ "java/lang/invoke/MethodHandle" ∧ yX7_fail.cls ≠ "java/lang/invoke/VarHandle" ∧ (parseMethodDescriptor yX7_fail.desc).map (fun d => d.parameters.length) = some 1 := by decide +kernel
theorem nd_X7_firstState : yX7_firstState.cls ≠ "java/lang/invoke/MethodHandle" ∧ yX7_firstState.cls ≠ "java/lang/invoke/VarHandle" ∧ (parseMethodDescriptor yX7_firstState.desc).map (fun d => d.parameters.length) = some 2 := by decide +kernel
theorem nd_X7_isInSpan : yX7_isInSpan.cls ≠ "java/lang/invoke/MethodHandle" ∧ yX7_isInSpan.cls ≠ "java/lang/invoke/VarHandle" ∧ (parseMethodDescriptor yX7_isInSpan.desc).map (fun d => d.parameters.length) = some 1 := by decide +kernel
theorem nd_X7_lay : yX7_lay.cls ≠ "java/lang/invoke/MethodHandle" ∧ yX7_lay.cls ≠ "java/lang/invoke/VarHandle" ∧ (parseMethodDescriptor yX7_lay.desc).map (fun d => d.parameters.length) = some 1 := by decide +kernel
theorem nd_X7_laySides : yX7_laySides.cls ≠ "java/lang/invoke/MethodHandle" ∧ yX7_laySides.cls ≠ "java/lang/invoke/VarHandle" ∧ (parseMethodDescriptor yX7_laySides.desc).map (fun d => d.parameters.length) = some 3 := by decide +kernel
theorem nd_X7_logarithm : yX7_logarithm.cls ≠ "java/lang/invoke/MethodHandle" ∧ yX7_logarithm.cls ≠ "java/lang/invoke/VarHandle" ∧ (parseMethodDescriptor yX7_logarithm.desc).map (fun d => d.parameters.length) = some 1 := by decide +kernel
theorem nd_X7_mayWrite : yX7_mayWrite.cls ≠ "java/lang/invoke/MethodHandle" ∧ yX7_mayWrite.cls ≠ "java/lang/invoke/VarHandle" ∧ (parseMethodDescriptor yX7_mayWrite.desc).map (fun d => d.parameters.length) = some 0 := by decide +kernel
theorem nd_X7_next : yX7_next.cls ≠ "java/lang/invoke/MethodHandle" ∧ yX7_next.cls ≠ "java/lang/invoke/VarHandle" ∧ (parseMethodDescriptor yX7_next.desc).map (fun d => d.parameters.length) = some 0 := by decide +kernel
theorem nd_X7_nextBit : yX7_nextBit.cls ≠ "java/lang/invoke/MethodHandle" ∧ yX7_nextBit.cls ≠ "java/lang/invoke/VarHandle" ∧ (parseMethodDescriptor yX7_nextBit.desc).map (fun d => d.parameters.length) = some 0 := by decide +kernel
theorem nd_X7_nextWide : yX7_nextWide.cls ≠ "java/lang/invoke/MethodHandle" ∧ yX7_nextWide.cls ≠ "java/lang/invoke/VarHandle" ∧ (parseMethodDescriptor yX7_nextWide.desc).map (fun d => d.parameters.length) = some 1 := by decide +kernel
theorem nd_X7_putBits : yX7_putBits.cls ≠ "java/lang/invoke/MethodHandle" ∧ yX7_putBits.cls ≠ "java/lang/invoke/VarHandle" ∧ (parseMethodDescriptor yX7_putBits.desc).map (fun d => d.parameters.length) = some 2 := by decide +kernel
theorem nd_X7_putByte : yX7_putByte.cls ≠ "java/lang/invoke/MethodHandle" ∧ yX7_putByte.cls ≠ "java/lang/invoke/VarHandle" ∧ (parseMethodDescriptor yX7_putByte.desc).map (fun d => d.parameters.length) = some 1 := by decide +kernel
theorem nd_X7_putWide : yX7_putWide.cls ≠ "java/lang/invoke/MethodHandle" ∧ yX7_putWide.cls ≠ "java/lang/invoke/VarHandle" ∧ (parseMethodDescriptor yX7_putWide.desc).map (fun d => d.parameters.length) = some 2 := by decide +kernel
theorem nd_X7_readAll : yX7_readAll.cls ≠ "java/lang/invoke/MethodHandle" ∧ yX7_readAll.cls ≠ "java/lang/invoke/VarHandle" ∧ (parseMethodDescriptor yX7_readAll.desc).map (fun d => d.parameters.length) = some 0 := by decide +kernel
theorem nd_X7_readBytes : yX7_readBytes.cls ≠ "java/lang/invoke/MethodHandle" ∧ yX7_readBytes.cls ≠ "java/lang/invoke/VarHandle" ∧ (parseMethodDescriptor yX7_readBytes.desc).map (fun d => d.parameters.length) = some 3 := by decide +kernel
theorem nd_X7_readHead : yX7_readHead.cls ≠ "java/lang/invoke/MethodHandle" ∧ yX7_readHead.cls ≠ "java/lang/invoke/VarHandle" ∧ (parseMethodDescriptor yX7_readHead.desc).map (fun d => d.parameters.length) = some 0 := by decide +kernel
theorem nd_X7_readSides : yX7_readSides.cls ≠ "java/lang/invoke/MethodHandle" ∧ yX7_readSides.cls ≠ "java/lang/invoke/VarHandle" ∧ (parseMethodDescriptor yX7_readSides.desc).map (fun d => d.parameters.length) = some 1 := by decide +kernel
theorem nd_X7_readSign : yX7_readSign.cls ≠ "java/lang/invoke/MethodHandle" ∧ yX7_readSign.cls ≠ "java/lang/invoke/VarHandle" ∧ (parseMethodDescriptor yX7_readSign.desc).map (fun d => d.parameters.length) = some 1 := by decide +kernel
theorem nd_X7_readTable : yX7_readTable.cls ≠ "java/lang/invoke/MethodHandle" ∧ yX7_readTable.cls ≠ "java/lang/invoke/VarHandle" ∧ (parseMethodDescriptor yX7_readTable.desc).map (fun d => d.parameters.length) = some 0 := by decide +kernel
theorem nd_X7_readWords : yX7_readWords.cls ≠ "java/lang/invoke/MethodHandle" ∧ yX7_readWords.cls ≠ "java/lang/invoke/VarHandle" ∧ (parseMethodDescriptor yX7_readWords.desc).map (fun d => d.parameters.length) = some 3 := by decide +kernel
theorem nd_X7_sideChance : yX7_sideChance.cls ≠ "java/lang/invoke/MethodHandle" ∧ yX7_sideChance.cls ≠ "java/lang/invoke/VarHandle" ∧ (parseMethodDescriptor yX7_sideChance.desc).map (fun d => d.parameters.length) = some 1 := by decide +kernel
theorem nd_X7_signOf : yX7_signOf.cls ≠ "java/lang/invoke/MethodHandle" ∧ yX7_signOf.cls ≠ "java/lang/invoke/VarHandle" ∧ (parseMethodDescriptor yX7_signOf.desc).map (fun d => d.parameters.length) = some 1 := by decide +kernel
theorem nd_X7_signsCounted : yX7_signsCounted.cls ≠ "java/lang/invoke/MethodHandle" ∧ yX7_signsCounted.cls ≠ "java/lang/invoke/VarHandle" ∧ (parseMethodDescriptor yX7_signsCounted.desc).map (fun d => d.parameters.length) = some 0 := by decide +kernel
theorem nd_X7_writeBitsOf : yX7_writeBitsOf.cls ≠ "java/lang/invoke/MethodHandle" ∧ yX7_writeBitsOf.cls ≠ "java/lang/invoke/VarHandle" ∧ (parseMethodDescriptor yX7_writeBitsOf.desc).map (fun d => d.parameters.length) = some 3 := by decide +kernel
theorem nd_X7_writeBytes : yX7_writeBytes.cls ≠ "java/lang/invoke/MethodHandle" ∧ yX7_writeBytes.cls ≠ "java/lang/invoke/VarHandle" ∧ (parseMethodDescriptor yX7_writeBytes.desc).map (fun d => d.parameters.length) = some 3 := by decide +kernel
theorem nd_X7_writeForm : yX7_writeForm.cls ≠ "java/lang/invoke/MethodHandle" ∧ yX7_writeForm.cls ≠ "java/lang/invoke/VarHandle" ∧ (parseMethodDescriptor yX7_writeForm.desc).map (fun d => d.parameters.length) = some 1 := by decide +kernel
theorem nd_X7_writeSides : yX7_writeSides.cls ≠ "java/lang/invoke/MethodHandle" ∧ yX7_writeSides.cls ≠ "java/lang/invoke/VarHandle" ∧ (parseMethodDescriptor yX7_writeSides.desc).map (fun d => d.parameters.length) = some 2 := by decide +kernel
theorem nd_X7_writeTable : yX7_writeTable.cls ≠ "java/lang/invoke/MethodHandle" ∧ yX7_writeTable.cls ≠ "java/lang/invoke/VarHandle" ∧ (parseMethodDescriptor yX7_writeTable.desc).map (fun d => d.parameters.length) = some 0 := by decide +kernel
theorem nd_X7_writeWords : yX7_writeWords.cls ≠ "java/lang/invoke/MethodHandle" ∧ yX7_writeWords.cls ≠ "java/lang/invoke/VarHandle" ∧ (parseMethodDescriptor yX7_writeWords.desc).map (fun d => d.parameters.length) = some 3 := by decide +kernel
end
section
theorem fl_step {f : Nat → Int32} {i : Nat} {v : Int32} : upd (flI i f v) i v = flI (i + 1) f v := by
  funext j
  by_cases c : j = i
  · subst c; simp [upd, flI]
  · by_cases d : j < i
    · simp [upd, flI, c, d, show j < i + 1 by omega]
    · simp [upd, flI, c, d, show ¬ j < i + 1 by omega]
theorem fl_stepL {f : Nat → Int64} {i : Nat} {v : Int64} : vp_updL (flL i f v) i v = flL (i + 1) f v := by
  funext j
  by_cases c : j = i
  · subst c; simp [vp_updL, flL]
  · by_cases d : j < i
    · simp [vp_updL, flL, c, d, show j < i + 1 by omega]
    · simp [vp_updL, flL, c, d, show ¬ j < i + 1 by omega]
theorem fl_0 {f : Nat → Int32} {v : Int32} : flI 0 f v = f := by funext j; simp [flI]
theorem fl_0L {f : Nat → Int64} {v : Int64} : flL 0 f v = f := by funext j; simp [flL]
set_option maxHeartbeats 4000000 in
set_option maxRecDepth 100000 in
theorem c_fillI (l : Launch) (dC : Nat → ClassId) (dI : Nat → Nat → Nat) (cI cJ : ClassId) (q0 sz n : Nat) (hn : n < 2 ^ 31) (f : Nat → Int32) (v : Int32) : Met l yJ7_fill_53178 (wq yJ7_fill_53178 cJ7_fill_53178 4 none) ({ frames := 0, cells := 0, slots := 0, locals := 0 } : Room) (va_Pc [.ref q0, .int v] (pcW dC dI cI cJ sz [(q0, .inl (cI, n, .inl f))])) (va_Qv (S := Nat → Int32) (fun g => g = flI n f v) (fun g t => va_P (dC, dI) vwCl [(q0, .inl (cI, n, .inl g))] t.heap ∧ va_D (va_A [(q0, .inl (cI, n, .inl f))] sz) [(q0, .inl (cI, n, .inl g))]) (va_A [(q0, .inl (cI, n, .inl f))] sz)) 0 0 (va_A [(q0, .inl (cI, n, .inl f))] sz) := by
  refine Met.ofW (cc := cJ7_fill_53178) (maxL := 4) (ret := none) (by decide) rfl ?_
  intro p e s m args below meth c s₁ B hml hv
  obtain ⟨rfl, hsz, hP, hK, hD0, hN⟩ := hv
  have hx := B.exec
  have hb := B.bytes
  have hr := B.returns
  have hlocks := B.notSynchronized
  subst hsz
  have hD := hD0.self (sz := s.heap.size)
  generalize hAe : va_A [(q0, .inl (cI, n, .inl f))] s.heap.size = A at hD ⊢
  have hA : ∀ q : Nat, s.heap.size ≤ q → A q := fun q h => by rw [← hAe]; exact Or.inr h
  have hl := lv_entry ([.ref q0, .int v]) (n := 4) (Nat.le_of_ble_eq_true rfl)
  rw [lg_entry_eq]
  generalize (lg_sl ([.ref q0, .int v]) ++ List.replicate (4 - (lg_sl ([.ref q0, .int v])).length) Slot.unset).toArray = ls at hl ⊢
  have hl : lv_has ls 4 [(0, .ref q0), (1, .int v)] := hl
  generalize hQ : MQ below _ _ s _ _ _ = Q
  generalize hH : s.heap = H at hP ⊢
  have hS : va_S A s.heap H [] := by rw [← hH]; exact va_S.rf
  show W p l e ({ frames := 0, cells := 0, slots := 0, locals := 0 } : Room) s m ([.ref q0, .int v] : List Value).toArray below meth c H [] 0 0 Q (F0 m 0 ls [])
  refine lv_iconst (v := (0 : Int32)) hx hb dJ7_fill_53178_0 (by decide) ?_
  refine lv_istore_n (lv' := [(2, .int (0 : Int32)), (0, .ref q0), (1, .int v)]) hx hb dJ7_fill_53178_1 rfl hl (by decide) rfl (fun ls hl => ?_)
  refine lv_aload_n hx hb dJ7_fill_53178_2 rfl (lv_at hl 1 rfl) ?_
  refine va_alen (v := (nI n)) hx hb hK hP 0 0 rfl rfl rfl dJ7_fill_53178_3 ?_
  refine lv_istore_n (lv' := [(3, .int (nI n)), (2, .int (0 : Int32)), (0, .ref q0), (1, .int v)]) hx hb dJ7_fill_53178_4 rfl hl (by decide) rfl (fun ls hl => ?_)
  have LP : ∀ (k i : Nat), i ≤ n → n + 1 ≤ i + k → ∀ (H : Heap) (locs : List Loc) (ls : Array Slot), va_P (dC, dI) vwCl [(q0, .inl (cI, n, .inl (flI i f v)))] H → va_D A [(q0, .inl (cI, n, .inl (flI i f v)))] → va_S A s.heap H locs → lv_has ls 4 [(0, .ref q0), (1, .int v), (2, .int (nI i)), (3, .int (nI n))] → W p l e ({ frames := 0, cells := 0, slots := 0, locals := 0 } : Room) s m ([.ref q0, .int v] : List Value).toArray below meth c H locs 0 0 Q (F0 m 5 ls []) := by
    intro k
    induction k with
    | zero => intro i h1 h2; exact absurd h2 (by omega)
    | succ k ih =>
      intro i hi hk H locs ls hP hD hS hl
      refine lv_iload_n hx hb dJ7_fill_53178_5 rfl (lv_at hl 2 rfl) ?_
      refine lv_iload_n hx hb dJ7_fill_53178_6 rfl (lv_at hl 3 rfl) ?_
      refine lv_icmp_ge (tgt := 20) hx hb dJ7_fill_53178_7 (by decide) (fun c1 => ?_) (fun c1 => ?_)
      · have hin : i = n := by
          have := (nI_leI hn (by omega : i < 2 ^ 31)).mp c1
          omega
        subst hin
        rw [← hQ]
        exact W.vret hx hb hr (fun t ht1 hW => ⟨⟨_, rfl, rfl, by rw [ht1]; exact hP, hD⟩, hS.F ht1⟩) hS.2.2 dJ7_fill_53178_20
      · have hlt : i < n := by
          rcases Nat.lt_or_ge i n with q | q
          · exact q
          · exact absurd ((nI_leI hn (by omega : i < 2 ^ 31)).mpr q) c1
        refine lv_aload_n hx hb dJ7_fill_53178_10 rfl (lv_at hl 0 rfl) ?_
        refine lv_iload_n hx hb dJ7_fill_53178_11 rfl (lv_at hl 2 rfl) ?_
        refine lv_iload_n hx hb dJ7_fill_53178_12 rfl (lv_at hl 1 rfl) ?_
        refine va_iast hx hb hK hP hD hS 0 0 rfl rfl (vp_in_nI hlt hn) dJ7_fill_53178_13 (fun H locs hP hD hS => ?_)
        have hP : va_P (dC, dI) vwCl [(q0, .inl (cI, n, .inl (flI (i + 1) f v)))] H := by
          have h2 := hP
          rw [nI_clamp (by omega : i < 2 ^ 31), fl_step] at h2
          exact h2
        have hD : va_D A [(q0, .inl (cI, n, .inl (flI (i + 1) f v)))] := by
          have h2 := hD
          rw [nI_clamp (by omega : i < 2 ^ 31), fl_step] at h2
          exact h2
        refine lv_iinc (v := nI (i + 1)) (lv' := [(2, .int (nI (i + 1))), (0, .ref q0), (1, .int v), (3, .int (nI n))]) hx hb dJ7_fill_53178_14 hl (k := 2) rfl (nI_1 i) (by decide) rfl (fun ls hl => ?_)
        refine lv_goto (tgt := 5) hx hb dJ7_fill_53178_17 (by decide) ?_
        exact ih (i + 1) hlt (by omega) _ _ _ hP hD hS (lv_sub hl [1, 2, 0, 3] rfl)
  exact LP (n + 1) 0 (Nat.zero_le _) (by omega) _ _ _ (by rw [fl_0]; exact hP) (by rw [fl_0]; exact hD) hS (lv_sub hl [2, 3, 1, 0] rfl)
set_option maxHeartbeats 4000000 in
set_option maxRecDepth 100000 in
theorem c_fillL (l : Launch) (dC : Nat → ClassId) (dI : Nat → Nat → Nat) (cI cJ : ClassId) (q0 sz n : Nat) (hn : n < 2 ^ 31) (f : Nat → Int64) (v : Int64) : Met l yJ7_fill_d0a16 (wq yJ7_fill_d0a16 cJ7_fill_d0a16 5 none) ({ frames := 0, cells := 0, slots := 0, locals := 0 } : Room) (va_Pc [.ref q0, .long v] (pcW dC dI cI cJ sz [(q0, .inl (cJ, n, .inr (.inl f)))])) (va_Qv (S := Nat → Int64) (fun g => g = flL n f v) (fun g t => va_P (dC, dI) vwCl [(q0, .inl (cJ, n, .inr (.inl g)))] t.heap ∧ va_D (va_A [(q0, .inl (cJ, n, .inr (.inl f)))] sz) [(q0, .inl (cJ, n, .inr (.inl g)))]) (va_A [(q0, .inl (cJ, n, .inr (.inl f)))] sz)) 0 0 (va_A [(q0, .inl (cJ, n, .inr (.inl f)))] sz) := by
  refine Met.ofW (cc := cJ7_fill_d0a16) (maxL := 5) (ret := none) (by decide) rfl ?_
  intro p e s m args below meth c s₁ B hml hv
  obtain ⟨rfl, hsz, hP, hK, hD0, hN⟩ := hv
  have hx := B.exec
  have hb := B.bytes
  have hr := B.returns
  have hlocks := B.notSynchronized
  subst hsz
  have hD := hD0.self (sz := s.heap.size)
  generalize hAe : va_A [(q0, .inl (cJ, n, .inr (.inl f)))] s.heap.size = A at hD ⊢
  have hA : ∀ q : Nat, s.heap.size ≤ q → A q := fun q h => by rw [← hAe]; exact Or.inr h
  have hl := lv_entry ([.ref q0, .long v]) (n := 5) (Nat.le_of_ble_eq_true rfl)
  rw [lg_entry_eq]
  generalize (lg_sl ([.ref q0, .long v]) ++ List.replicate (5 - (lg_sl ([.ref q0, .long v])).length) Slot.unset).toArray = ls at hl ⊢
  have hl : lv_has ls 5 [(0, .ref q0), (1, .long v)] := hl
  generalize hQ : MQ below _ _ s _ _ _ = Q
  generalize hH : s.heap = H at hP ⊢
  have hS : va_S A s.heap H [] := by rw [← hH]; exact va_S.rf
  show W p l e ({ frames := 0, cells := 0, slots := 0, locals := 0 } : Room) s m ([.ref q0, .long v] : List Value).toArray below meth c H [] 0 0 Q (F0 m 0 ls [])
  refine lv_iconst (v := (0 : Int32)) hx hb dJ7_fill_d0a16_0 (by decide) ?_
  refine lv_istore_n (lv' := [(3, .int (0 : Int32)), (0, .ref q0), (1, .long v)]) hx hb dJ7_fill_d0a16_1 rfl hl (by decide) rfl (fun ls hl => ?_)
  refine lv_aload_n hx hb dJ7_fill_d0a16_2 rfl (lv_at hl 1 rfl) ?_
  refine va_alen (v := (nI n)) hx hb hK hP 0 1 rfl rfl rfl dJ7_fill_d0a16_3 ?_
  refine lv_istore (lv' := [(4, .int (nI n)), (3, .int (0 : Int32)), (0, .ref q0), (1, .long v)]) hx hb dJ7_fill_d0a16_4 hl (by decide) rfl (fun ls hl => ?_)
  have LP : ∀ (k i : Nat), i ≤ n → n + 1 ≤ i + k → ∀ (H : Heap) (locs : List Loc) (ls : Array Slot), va_P (dC, dI) vwCl [(q0, .inl (cJ, n, .inr (.inl (flL i f v))))] H → va_D A [(q0, .inl (cJ, n, .inr (.inl (flL i f v))))] → va_S A s.heap H locs → lv_has ls 5 [(0, .ref q0), (1, .long v), (3, .int (nI i)), (4, .int (nI n))] → W p l e ({ frames := 0, cells := 0, slots := 0, locals := 0 } : Room) s m ([.ref q0, .long v] : List Value).toArray below meth c H locs 0 0 Q (F0 m 6 ls []) := by
    intro k
    induction k with
    | zero => intro i h1 h2; exact absurd h2 (by omega)
    | succ k ih =>
      intro i hi hk H locs ls hP hD hS hl
      refine lv_iload_n hx hb dJ7_fill_d0a16_6 rfl (lv_at hl 2 rfl) ?_
      refine lv_iload hx hb dJ7_fill_d0a16_7 (lv_at hl 3 rfl) ?_
      refine lv_icmp_ge (tgt := 22) hx hb dJ7_fill_d0a16_9 (by decide) (fun c1 => ?_) (fun c1 => ?_)
      · have hin : i = n := by
          have := (nI_leI hn (by omega : i < 2 ^ 31)).mp c1
          omega
        subst hin
        rw [← hQ]
        exact W.vret hx hb hr (fun t ht1 hW => ⟨⟨_, rfl, rfl, by rw [ht1]; exact hP, hD⟩, hS.F ht1⟩) hS.2.2 dJ7_fill_d0a16_22
      · have hlt : i < n := by
          rcases Nat.lt_or_ge i n with q | q
          · exact q
          · exact absurd ((nI_leI hn (by omega : i < 2 ^ 31)).mpr q) c1
        refine lv_aload_n hx hb dJ7_fill_d0a16_12 rfl (lv_at hl 0 rfl) ?_
        refine lv_iload_n hx hb dJ7_fill_d0a16_13 rfl (lv_at hl 2 rfl) ?_
        refine lv_lload_n hx hb dJ7_fill_d0a16_14 rfl (lv_at hl 1 rfl) ?_
        refine va_last hx hb hK hP hD hS 0 1 rfl rfl (vp_in_nI hlt hn) dJ7_fill_d0a16_15 (fun H locs hP hD hS => ?_)
        have hP : va_P (dC, dI) vwCl [(q0, .inl (cJ, n, .inr (.inl (flL (i + 1) f v))))] H := by
          have h2 := hP
          rw [nI_clamp (by omega : i < 2 ^ 31), fl_stepL] at h2
          exact h2
        have hD : va_D A [(q0, .inl (cJ, n, .inr (.inl (flL (i + 1) f v))))] := by
          have h2 := hD
          rw [nI_clamp (by omega : i < 2 ^ 31), fl_stepL] at h2
          exact h2
        refine lv_iinc (v := nI (i + 1)) (lv' := [(3, .int (nI (i + 1))), (0, .ref q0), (1, .long v), (4, .int (nI n))]) hx hb dJ7_fill_d0a16_16 hl (k := 2) rfl (nI_1 i) (by decide) rfl (fun ls hl => ?_)
        refine lv_goto (tgt := 6) hx hb dJ7_fill_d0a16_19 (by decide) ?_
        exact ih (i + 1) hlt (by omega) _ _ _ hP hD hS (lv_sub hl [1, 2, 0, 3] rfl)
  exact LP (n + 1) 0 (Nat.zero_le _) (by omega) _ _ _ (by rw [fl_0L]; exact hP) (by rw [fl_0L]; exact hD) hS (lv_sub hl [2, 3, 1, 0] rfl)
set_option maxHeartbeats 4000000 in
set_option maxRecDepth 100000 in
theorem c_copyOf (l : Launch) (dC : Nat → ClassId) (dI : Nat → Nat → Nat) (cI cJ : ClassId) (q0 sz n : Nat) (hn : n < 2 ^ 31) (f : Nat → Int32) (k : Int32) (hk0 : ¬ k < 0) (hkb : k.toNatClampNeg * componentBytes .int ≤ 536870912) (hne : k.toNatClampNeg ≠ n) : Met l yJ7_copyOf_59c91 (wq yJ7_copyOf_59c91 cJ7_copyOf_59c91 3 (some (.array .int))) ({ frames := 1, cells := 1, slots := k.toNatClampNeg, locals := 58 } : Room) (va_Pc [.ref q0, .int k] (pcW dC dI cI cJ sz [(q0, .inl (cI, n, .inl f))])) (va_Qr (S := Unit) (fun _ => True) (fun _ a t => va_P (dC, dI) vwCl [(a, .inl (cI, k.toNatClampNeg, .inl (cpf f n k.toNatClampNeg)))] t.heap ∧ va_D (va_A [(q0, .inl (cI, n, .inl f))] sz) [(a, .inl (cI, k.toNatClampNeg, .inl (cpf f n k.toNatClampNeg)))]) (va_A [(q0, .inl (cI, n, .inl f))] sz)) 1 k.toNatClampNeg (va_A [(q0, .inl (cI, n, .inl f))] sz) := by
  refine Met.ofW (cc := cJ7_copyOf_59c91) (maxL := 3) (ret := some (.array .int)) (by decide) rfl ?_
  intro p e s m args below meth c s₁ B hml hv
  obtain ⟨rfl, hsz, hP, hK, hD0, hN⟩ := hv
  have hx := B.exec
  have hb := B.bytes
  have hr := B.returns
  have ht : ∀ w ∈ lw_good, w.before _ s = true := fun w h => atoms_spec (ws := wq yJ7_copyOf_59c91 cJ7_copyOf_59c91 3 (some (.array .int))) B.pre w (wq_mem h)
  have hown : s.vm.findClass RJ7 = some m.cls := findClass_of_methodNamed B.named
  have hlocks := B.notSynchronized
  subst hsz
  have hD := hD0.self (sz := s.heap.size)
  generalize hAe : va_A [(q0, .inl (cI, n, .inl f))] s.heap.size = A at hD ⊢
  have hA : ∀ q : Nat, s.heap.size ≤ q → A q := fun q h => by rw [← hAe]; exact Or.inr h
  have hl := lv_entry ([.ref q0, .int k]) (n := 3) (Nat.le_of_ble_eq_true rfl)
  rw [lg_entry_eq]
  generalize (lg_sl ([.ref q0, .int k]) ++ List.replicate (3 - (lg_sl ([.ref q0, .int k])).length) Slot.unset).toArray = ls at hl ⊢
  have hl : lv_has ls 3 [(0, .ref q0), (1, .int k)] := hl
  generalize hQ : MQ below _ _ s _ _ _ = Q
  generalize hH : s.heap = H at hP ⊢
  have hS : va_S A s.heap H [] := by rw [← hH]; exact va_S.rf
  show W p l e ({ frames := 1, cells := 1, slots := k.toNatClampNeg, locals := 58 } : Room) s m ([.ref q0, .int k] : List Value).toArray below meth c H [] 0 0 Q (F0 m 0 ls [])
  obtain ⟨j, hj, ej⟩ := nI_of hk0
  have ejn : k.toNatClampNeg = j := by rw [ej, nI_clamp hj]
  refine lv_iload_n hx hb dJ7_copyOf_59c91_0 rfl (lv_at hl 1 rfl) ?_
  refine lv_aload_n hx hb dJ7_copyOf_59c91_1 rfl (lv_at hl 0 rfl) ?_
  refine va_alen (v := (nI n)) hx hb hK hP 0 0 rfl rfl rfl dJ7_copyOf_59c91_2 ?_
  refine lv_icmp_ne (tgt := 14) hx hb dJ7_copyOf_59c91_3 (by decide) (fun c1 => ?_) (fun c1 => absurd (by rw [c1, nI_clamp hn]) hne)
  refine lv_iload_n hx hb dJ7_copyOf_59c91_14 rfl (lv_at hl 1 rfl) ?_
  refine va_newa (atype := .int) (a0 := (k.toNatClampNeg, .inl (fun _ => 0))) hx hb (ht _ kw_aI) rfl hK hP hD hS hA (vpc_i k.toNatClampNeg) hk0 rfl hkb (Nat.le_refl 1) (by show 0 + k.toNatClampNeg ≤ k.toNatClampNeg; omega) dJ7_copyOf_59c91_15 (fun q1 cA H hKn hP hD hS => ?_)
  obtain rfl := cA_eq hK hKn
  refine lv_astore_n (lv' := [(2, .ref q1), (0, .ref q0), (1, .int k)]) hx hb dJ7_copyOf_59c91_17 rfl hl (by decide) rfl (fun ls hl => ?_)
  refine lv_aload_n hx hb dJ7_copyOf_59c91_18 rfl (lv_at hl 1 rfl) ?_
  refine lv_iconst (v := (0 : Int32)) hx hb dJ7_copyOf_59c91_19 (by decide) ?_
  refine lv_aload_n hx hb dJ7_copyOf_59c91_20 rfl (lv_at hl 0 rfl) ?_
  refine lv_iconst (v := (0 : Int32)) hx hb dJ7_copyOf_59c91_21 (by decide) ?_
  refine lv_aload_n hx hb dJ7_copyOf_59c91_22 rfl (lv_at hl 1 rfl) ?_
  refine va_alen (v := (nI n)) hx hb hK hP 0 0 rfl rfl rfl dJ7_copyOf_59c91_23 ?_
  refine lv_iload_n hx hb dJ7_copyOf_59c91_24 rfl (lv_at hl 2 rfl) ?_
  refine va_mmin hx hb (hml.trans hl.1.symm) hown (ht _ kw_c304) (ht _ kw_minS) (ht _ kw_mathI) (ht _ kw_minC) (Nat.le_of_ble_eq_true rfl) (Nat.le_of_ble_eq_true rfl) (Nat.le_refl 1) (by show 0 + k.toNatClampNeg ≤ k.toNatClampNeg; omega) dJ7_copyOf_59c91_25 ?_
  have emin : (if k < nI n then k else nI n) = nI (if j < n then j else n) := by
    rw [ej]
    by_cases c2 : j < n
    · rw [if_pos ((nI_ltI hj hn).mpr c2), if_pos c2]
    · rw [if_neg (fun q => c2 ((nI_ltI hj hn).mp q)), if_neg c2]
  have hmb : (if j < n then j else n) < 2 ^ 31 := by by_cases c2 : j < n <;> simp [c2] <;> omega
  rw [emin]
  refine va_copyi hx hb (hml.trans hl.1.symm) hown (ht _ kw_c150) (ht _ kw_acN) (ht _ kw_acS) (ht _ kw_sysI) hK hP hD hS 0 1 0 0 rfl rfl rfl rfl rfl (by decide) (by decide) (nI_pos hmb) (by rw [nI_clamp hmb]; show 0 + _ ≤ n; by_cases c2 : j < n <;> simp [c2] <;> omega) (by rw [nI_clamp hmb]; show 0 + _ ≤ k.toNatClampNeg; rw [ejn]; by_cases c2 : j < n <;> simp [c2] <;> omega) (fun _ _ => rfl) (Nat.le_of_ble_eq_true rfl) (by show _ ≤ 58; decide +kernel) dJ7_copyOf_59c91_28 (fun H locs hP hD hS => ?_)
  have hP : va_P (dC, dI) vwCl [(q0, .inl (cI, n, .inl f)), (q1, .inl (cI, k.toNatClampNeg, .inl (cpf f n k.toNatClampNeg)))] H := by
    have h2 := hP
    rw [nI_clamp hmb] at h2
    rw [show cpf f n k.toNatClampNeg = va_cpy f (fun _ => 0) 0 0 (if j < n then j else n) by rw [cpf, ejn]]
    exact h2
  have hD : va_D A [(q0, .inl (cI, n, .inl f)), (q1, .inl (cI, k.toNatClampNeg, .inl (cpf f n k.toNatClampNeg)))] := by
    have h2 := hD
    rw [nI_clamp hmb] at h2
    rw [show cpf f n k.toNatClampNeg = va_cpy f (fun _ => 0) 0 0 (if j < n then j else n) by rw [cpf, ejn]]
    exact h2
  have hP := hP.sub (ws' := [(q1, .inl (cI, k.toNatClampNeg, .inl (cpf f n k.toNatClampNeg)))]) [1] rfl
  have hD := hD.sub (ws' := [(q1, .inl (cI, k.toNatClampNeg, .inl (cpf f n k.toNatClampNeg)))]) [1] (by decide) rfl
  refine lv_aload_n hx hb dJ7_copyOf_59c91_31 rfl (lv_at hl 0 rfl) ?_
  refine W.cs (cells' := 1) (slots' := k.toNatClampNeg) rfl (Nat.zero_add _) ?_
  rw [← hQ]
  exact W.aret (v := .ref q1) hx hb hr (Or.inr ⟨_, rfl⟩) (Or.inr ⟨_, rfl⟩) (fun t ht1 hW => ⟨⟨(), q1, rfl, trivial, by rw [ht1]; exact hP, hD⟩, hS.F ht1⟩) hS.2.2 dJ7_copyOf_59c91_32
set_option maxHeartbeats 4000000 in
set_option maxRecDepth 100000 in
theorem c_withRoom (l : Launch) (dC : Nat → ClassId) (dI : Nat → Nat → Nat) (cI cJ : ClassId) (q0 sz n0 : Nat) (f : Nat → Int32) (ln lim : Int32) (n1 : Nat) (f1 : Nat → Int32) (mc ms : Nat) (hm : f_withRoom n0 f ln lim = some ((n1, f1), mc, ms)) : Met l yX6_withRoom (wq yX6_withRoom cX6_withRoom 3 (some (.array .int))) ({ frames := 2, cells := mc, slots := ms, locals := 80 } : Room) (va_Pc [.ref q0, .int ln, .int lim] (pcW dC dI cI cJ sz [(q0, .inl (cI, n0, .inl f))])) (va_Qr (S := Unit) (fun _ => True) (fun _ a t => va_P (dC, dI) vwCl [(a, .inl (cI, n1, .inl f1))] t.heap ∧ va_D (va_A [(q0, .inl (cI, n0, .inl f))] sz) [(a, .inl (cI, n1, .inl f1))]) (va_A [(q0, .inl (cI, n0, .inl f))] sz)) mc ms (va_A [(q0, .inl (cI, n0, .inl f))] sz) := by
  refine Met.ofW (cc := cX6_withRoom) (maxL := 3) (ret := some (.array .int)) (by decide) rfl ?_
  intro p e s m args below meth c s₁ B hml hv
  obtain ⟨rfl, hsz, hP, hK, hD0, hN⟩ := hv
  have hx := B.exec
  have hb := B.bytes
  have hr := B.returns
  have ht : ∀ w ∈ lw_good, w.before _ s = true := fun w h => atoms_spec (ws := wq yX6_withRoom cX6_withRoom 3 (some (.array .int))) B.pre w (wq_mem h)
  have hown : s.vm.findClass RX6 = some m.cls := findClass_of_methodNamed B.named
  have hlocks := B.notSynchronized
  subst hsz
  have hD := hD0.self (sz := s.heap.size)
  generalize hAe : va_A [(q0, .inl (cI, n0, .inl f))] s.heap.size = A at hD ⊢
  have hA : ∀ q : Nat, s.heap.size ≤ q → A q := fun q h => by rw [← hAe]; exact Or.inr h
  have hl := lv_entry ([.ref q0, .int ln, .int lim]) (n := 3) (Nat.le_of_ble_eq_true rfl)
  rw [lg_entry_eq]
  generalize (lg_sl ([.ref q0, .int ln, .int lim]) ++ List.replicate (3 - (lg_sl ([.ref q0, .int ln, .int lim])).length) Slot.unset).toArray = ls at hl ⊢
  have hl : lv_has ls 3 [(0, .ref q0), (1, .int ln), (2, .int lim)] := hl
  generalize hQ : MQ below _ _ s _ _ _ = Q
  generalize hH : s.heap = H at hP ⊢
  have hS : va_S A s.heap H [] := by rw [← hH]; exact va_S.rf
  show W p l e ({ frames := 2, cells := mc, slots := ms, locals := 80 } : Room) s m ([.ref q0, .int ln, .int lim] : List Value).toArray below meth c H [] 0 0 Q (F0 m 0 ls [])
  unfold f_withRoom at hm
  refine lv_iload_n hx hb dX6_withRoom_0 rfl (lv_at hl 1 rfl) ?_
  refine lv_aload_n hx hb dX6_withRoom_1 rfl (lv_at hl 0 rfl) ?_
  refine va_alen (v := (nI n0)) hx hb hK hP 0 0 rfl rfl rfl dX6_withRoom_2 ?_
  refine lv_icmp_lt (tgt := 11) hx hb dX6_withRoom_3 (by decide) (fun c1 => ?_) (fun c1 => ?_)
  · have hm := ite_t c1 hm
    cases hm
    refine lv_aload_n hx hb dX6_withRoom_11 rfl (lv_at hl 0 rfl) ?_
    rw [← hQ]
    exact W.aret (v := .ref q0) hx hb hr (Or.inr ⟨_, rfl⟩) (Or.inr ⟨_, rfl⟩) (fun t ht1 hW => ⟨⟨(), q0, rfl, trivial, by rw [ht1]; exact hP, hD⟩, hS.F ht1⟩) hS.2.2 dX6_withRoom_12
  · have hm := ite_f c1 hm
    refine lv_iload_n hx hb dX6_withRoom_6 rfl (lv_at hl 1 rfl) ?_
    refine lv_iload_n hx hb dX6_withRoom_7 rfl (lv_at hl 2 rfl) ?_
    refine lv_icmp_lt (tgt := 13) hx hb dX6_withRoom_8 (by decide) (fun c2 => ?_) (fun c2 => ?_)
    · have hm := ite_t c2 hm
      obtain ⟨k, ek, hm⟩ := bnd_ex hm
      by_cases c3 : k < 0 ∨ 536870912 < k.toNatClampNeg * 4 ∨ k.toNatClampNeg = n0 ∨ 2 ^ 31 ≤ n0
      · have hm := ite_t c3 hm
        cases hm
      · have hm := ite_f c3 hm
        cases hm
        refine lv_aload_n hx hb dX6_withRoom_13 rfl (lv_at hl 0 rfl) ?_
        refine lv_iconst (v := (2 : Int32)) hx hb dX6_withRoom_14 (by decide) ?_
        refine lv_iload_n hx hb dX6_withRoom_15 rfl (lv_at hl 1 rfl) ?_
        refine lv_imul hx hb dX6_withRoom_16 ?_
        refine lv_iload_n hx hb dX6_withRoom_17 rfl (lv_at hl 2 rfl) ?_
        refine va_mmin hx hb (hml.trans hl.1.symm) hown (ht _ kw_x615) (ht _ kw_minS) (ht _ kw_mathI) (ht _ kw_minC) (Nat.le_of_ble_eq_true rfl) (Nat.le_of_ble_eq_true rfl) (Nat.zero_le _) (Nat.zero_le _) dX6_withRoom_18 ?_
        rw [← ek]
        have hFc := va_free (wc := [(q0, .inl (cI, n0, .inl f))]) hD hS hA [0] rfl
        refine va_callr (va_runS (As := [.ref q0, .int k]) (rest := []) ⟨hx, hb, hml, hown, ht⟩ (c_copyOf l dC dI cI cJ q0 H.size n0 (by omega) f k (fun q => c3 (Or.inl q)) (by show _ * 4 ≤ _; omega) (fun q => c3 (Or.inr (Or.inr (Or.inl q))))) (va_cwS 2 ht (gdS kw_x6176 kw_cpS kw_arI kw_cpC) rfl rfl rfl nd_J7_copyOf_59c91 ⟨Nat.le_of_ble_eq_true rfl, Nat.le_of_ble_eq_true rfl⟩) ⟨pcW_blind, pcW_pre hP hK hD hN⟩ rfl rfl hl.1 rfl (lv_room (Nat.le_of_ble_eq_true rfl)) dX6_withRoom_21 ⟨Nat.le_refl _, by show 0 + k.toNatClampNeg ≤ k.toNatClampNeg; omega⟩) hS (fun q _ z => hFc q z) hFc (fun uu ra t H1 locs ht1 hvm hw hB hz1 hk1 hS => ?_)
        obtain ⟨hP1, hD1⟩ := hB
        rw [ht1] at hP1
        have hD1 := hD1.weaken (fun _ q _ z => hFc q.1 z)
        refine W.cs (cells' := 1) (slots' := k.toNatClampNeg) rfl (Nat.zero_add _) ?_
        rw [← hQ]
        exact W.aret (v := .ref ra) hx hb hr (Or.inr ⟨_, rfl⟩) (Or.inr ⟨_, rfl⟩) (fun t ht1 hW => ⟨⟨(), ra, rfl, trivial, by rw [ht1]; exact hP1, hD1⟩, hS.F ht1⟩) hS.2.2 dX6_withRoom_24
    · have hm := ite_f c2 hm
      cases hm
      refine lv_aload_n hx hb dX6_withRoom_11 rfl (lv_at hl 0 rfl) ?_
      rw [← hQ]
      exact W.aret (v := .ref q0) hx hb hr (Or.inr ⟨_, rfl⟩) (Or.inr ⟨_, rfl⟩) (fun t ht1 hW => ⟨⟨(), q0, rfl, trivial, by rw [ht1]; exact hP, hD⟩, hS.F ht1⟩) hS.2.2 dX6_withRoom_12
end
section
-- ===== a catch whose class may still have to be resolved =====
theorem fh_cold {E : CtlPost} {e : Env} {d : Bool} {acts : List Action} {s : State} {f : JFrame} {a : Addr} {Q : Handler → Pre} {x : ExceptionTableEntry} {t : List ExceptionTableEntry} {c : ClassId} {vm' : Vm} {cell : Cell} (hx : covers x f.pc = true) (h0 : x.catchType ≠ 0) (hg : (Jvm.resolveClass f.method.cls x.catchType).Gives e.toSetting s.vm (.ok c) vm') (hsz : vm'.classes.size ≤ s.vm.classes.size) (hcell : s.heap[a]? = some cell) (hobj : ∀ k, cell.vm ≠ .statics k) (hk : ∃ k, vm'.classes[cell.cls]? = some k) (hc : ∃ k, vm'.classes[c]? = some k) (hfit : vm'.assignable cell.cls c = true) : wp (findHandler.go f a (x :: t)) Q E e d acts s ↔ Q (.found x.handlerPc) d acts (s.setVm vm') := by
  obtain ⟨ha, ht⟩ := hg.op (op := VmOp.resolveClass f.method.cls x.catchType) rfl
  simp only [covers] at hx
  simp [findHandler.go, hx, h0, ha, ht, hsz, hcell, hobj, hk, hc, hfit, VmOp.dirties, VmOp.acts]
def FindsV (e : Env) (s : State) (f : JFrame) (a : Addr) (h : Handler) (vm' : Vm) : Prop :=
  ∀ (Q : Handler → Pre) (E : CtlPost) (d : Bool) (acts : List Action), wp (findHandler f a) Q E e d acts s ↔ Q h d acts (s.setVm vm')
theorem stepThrowing_catchV {e : Env} {s : State} {a : Addr} {f : JFrame} {r : List Frame} {pc : Nat} {vm' : Vm} (hfind : FindsV e s f a (.found pc) vm') :
    (stepThrowing e s a (.java f :: r)).Is ((s.setVm vm').setFrames (.java { f with pc := pc, stack := [.ref a] } :: r)) [] := by
  simp only [stepThrowing, searchFrame, vmDo]
  generalize hr : Sem.go _ e false [] s = res
  obtain ⟨as, rfl, ha⟩ := Sem.eq_ok_of hr (a := Handler.found pc) (s' := s.setVm vm') (acts' := []) (by simp [hfind _ _ _ _])
  exact ⟨rfl, ha⟩
theorem Steps_caughtV {tb : Tables} {e : Env} {s target : State} {g : JFrame} {c : Code} {below : List Frame} {a : Addr} (h : At s g.method c below) {pc : Nat} {vm' : Vm} (hfind : FindsV e ((s.setTop g).pushFrame (.throwing a)) g a (.found pc) vm')
    (hrest : Steps tb e below ((s.setVm vm').setTop { g with pc := pc, stack := [.ref a] }) target) :
    Steps tb e below ((s.setTop g).pushFrame (.throwing a)) target := by
  obtain ⟨hgo, hw⟩ := h.throwing a
  refine Steps.head hgo hw ?_
  rw [stepThread_throwing (frames_entered h.top _), (stepThrowing_catchV (s := (s.setTop g).pushFrame (.throwing a)) hfind).1]
  obtain ⟨g₀, hg⟩ := Option.isSome_iff_exists.mp h.top
  obtain ⟨r, hr⟩ := State.topJava?_eq_some.mp hg
  have hr2 : (s.setVm vm').frames = .java g₀ :: r := hr
  rw [State.setTop_of_frames _ hr2] at hrest
  rw [State.pushFrame, State.setTop_of_frames _ hr, hr]
  show Steps tb e below ((((s.setVm vm').setFrames _).setFrames _).setFrames _) target
  rw [State.setFrames_setFrames, State.setFrames_setFrames]
  exact hrest
-- ===== a contract of a method that throws its own new exception =====
def qT (_ : Array Value) (st : State) (o : Outcome) (t : State) : Prop := ∃ x : Nat, o = .threw x ∧ st.heap.size ≤ x ∧ (∃ ce : Cell, t.heap[x]? = some ce ∧ st.vm.findClass RJx00060 = some ce.cls ∧ (∀ k, ce.vm ≠ .statics k) ∧ st.vm.assignable ce.cls ce.cls = true) ∧ st.WarmedH t.vm ∧ st.sameButNew ({ t with vm := st.vm } : State) [] 1 6
def MetT (l : Launch) (y : MethodName) (ws : List Cond) (rm : Room) (Pc : Array Value → State → Prop) : Prop := MetFree l y (headSpec ws rm) Pc (fun _ _ _ _ _ => True) qT
theorem MetT.ofW {l : Launch} {y : MethodName} {ws ws' : List Cond} {rm : Room} {Pc : Array Value → State → Prop} {cc : ByteArray} {maxL : Nat} {ret : Option FieldType}
    (hy : plainName y.cls = true) (hw : ws = Cond.code y cc maxL ret :: ws')
    (body : ∀ p e s m args below meth c s₁, BodyLoose p l y (headSpec ws rm) cc maxL ret e s m args below meth c s₁ → c.maxLocals = maxL → Pc args s →
      W p l e (headSpec ws rm).room s m args below meth c s.heap [] 0 0 (fun t => ∃ o, t.status = .running ∧ Ended t below o ∧ qT args s o t) (entryFrame m args maxL)) : MetT l y ws rm Pc := by
  refine MetFree.of_bodyS (code := cc) (maxLocals := maxL) (ret := ret) hy ?_ ?_
  · intro args s m h hn
    obtain ⟨meth, c, h1, h2, h3, h4, h5, h6, -, -⟩ := Cond.code_spec hn (atoms_spec (ws := ws) h _ (by rw [hw]; exact List.mem_cons_self))
    exact ⟨meth, c, h1, h2, h3, h4, h5, h6⟩
  · intro p e s m args below meth c s₁ B hml hP _
    have hh0 : s₁.heap = s.heap := by rw [B.state]; rfl
    obtain ⟨t, a1, o, b1, b2, b3⟩ := body p e s m args below meth c s₁ B hml hP s₁ hh0 (Stand.of_body B)
    exact ⟨t, o, a1, b1, b2, b3⟩
theorem same_cells {s t : State} {k n : Nat} (h : s.sameButNew t [] k n) : s.heap.size ≤ t.heap.size ∧ ∀ q : Nat, q < s.heap.size → t.heap[q]? = s.heap[q]? := by
  refine ⟨h.2.1, fun q hq => ?_⟩
  obtain ⟨cell', h1, h2, h3, h4⟩ := h.2.2.2.2.2 q _ (Array.getElem?_eq_getElem hq)
  rw [h1, Array.getElem?_eq_getElem hq]
  congr 1
  have hs : cell'.slots = s.heap[q].slots := by
    apply Array.ext_getElem?
    intro i
    exact h4 i (by simp)
  rw [h2, hs]
section BT
variable {l : Launch} {R : Room} {p : Program} {e : Env} {below : List Frame} {s : State} {sargs : Array Value} {y : MethodName}
theorem backT {ws : List Cond} {rm : Room} {Pc : Array Value → State → Prop} {bytes : ByteArray} {maxL : Nat} {ret : Option FieldType}
    (hM : MetT l y ws rm Pc) (hblind : FrameBlind Pc) (hrc : rm.cells = 1) (hrs : rm.slots = 6)
    (hframes : rm.frames + 1 ≤ R.frames) (hlocals : 8 + (maxL + 11) + rm.locals ≤ R.locals)
    (hws : ∀ w ∈ ws, ∀ a' U, s.WarmedH U.vm → w.before a' U = true) (hcode : Cond.code y bytes maxL ret ∈ ws) (hinit : ∀ a' U, s.WarmedH U.vm → (Cond.initialized y.cls).before a' U = true)
    {m : MethodId} {meth : Method} {c : Code} {U : State} {Ls : List Loc} {c0 s0 : Nat} {g : JFrame} {ig : Instr} {mk : MethodId} {a : Array Value}
    (X : Stand p l e R s m sargs below meth c U Ls c0 s0) (hg : g.method = m) (hsize : g.locals.size = c.maxLocals) (hdg : decode c.code g.pc = .ok (ig, 3))
    (hW : 2 * g.monitorRoom + (g.stack.map fun v => v.category).sum ≤ 8) (hn : U.methodNamed? y = some mk) (h4 : c0 + 1 ≤ R.cells) (h5 : s0 + 6 ≤ R.slots) (hPc : Pc a U) :
    ∃ (x : Nat) (T₂ : State), Stand p l e R s m sargs below meth c T₂ Ls (c0 + 1) (s0 + 6) ∧ U.heap.size ≤ x ∧ (∃ ce : Cell, T₂.heap[x]? = some ce ∧ U.vm.findClass RJx00060 = some ce.cls ∧ (∀ k, ce.vm ≠ .statics k) ∧ U.vm.assignable ce.cls ce.cls = true) ∧ U.WarmedH T₂.vm ∧
      U.heap.size ≤ T₂.heap.size ∧ (∀ q : Nat, q < U.heap.size → T₂.heap[q]? = U.heap[q]?) ∧
      Steps p.tables e below (doInvoke e (U.setTop g) [] mk a).1 ((T₂.setTop g).pushFrame (.throwing x)) := by
  have h1 : (headSpec ws rm).pre.before a U = true := atoms_intro fun w hw => hws w hw _ _ X.warmed
  have h2 := hws _ hcode a U X.warmed
  have h3 := hinit a U X.warmed
  obtain ⟨methY, cY, hmY, hcY, -, hlY, -⟩ := Cond.code_spec hn h2
  obtain ⟨kY, hkY, -⟩ := className_of_methodNamed hn
  have hinitY : kY.init = .initialized := Cond.initialized_spec (findClass_of_methodNamed hn) hkY h3
  have h : At U g.method c below := by rw [hg]; exact X.here
  have happ : (headSpec ws rm).appliesLoose y e.platform (U.calling g mk a) = true :=
    Spec.appliesLoose_calling (g := g) h hdg hn hkY hinitY
      (X.room_calling (g := g) (R' := (headSpec ws rm).room) hsize hmY hcY hframes (by rw [hlY]; show _ + rm.locals ≤ _; omega) (by show c0 + rm.cells ≤ _; omega) (by show s0 + rm.slots ≤ _; omega)) h1
  obtain ⟨mid, hmid⟩ := h.above
  have hfr : (U.setTop g).frames = (.java g :: mid) ++ below := by rw [State.frames_setTop' g h.top, hmid]; rfl
  obtain ⟨o, s₂, hsteps, hrun, hend, hq⟩ := Steps.callFree hM p X.admits X.cas X.clock (acts := []) hfr happ (hblind a U g mk hPc) trivial
  obtain ⟨x, rfl, hx, ⟨ce, hce, hcc, hcs, hca⟩, hW₂, hsm⟩ := (show qT a (U.calling g mk a) o s₂ from hq)
  have hsc := same_cells hsm
  obtain ⟨e2, q2, q3, q4, q5, q6⟩ := id hsm
  have e3 : s₂ = ({ (U.calling g mk a).setFrames s₂.frames with heap := s₂.heap, slotsUsed := s₂.slotsUsed } : State).setVm s₂.vm := by
    have : s₂ = ({ s₂ with vm := (U.calling g mk a).vm } : State).setVm s₂.vm := rfl
    rw [e2] at this
    exact this
  have hf₂ : s₂.frames = .throwing x :: (U.setTop g).frames := hend
  rw [State.frames_setTop' g h.top] at hf₂
  have hW' : U.WarmedH s₂.vm := hW₂
  obtain ⟨g₀, hg0⟩ := Option.isSome_iff_exists.mp h.top
  obtain ⟨r, hr⟩ := State.topJava?_eq_some.mp hg0
  have hs₂ : s₂ = ((((({ U with heap := s₂.heap, slotsUsed := s₂.slotsUsed } : State).setVm s₂.vm)).setTop g).pushFrame (.throwing x)) := by
    have hr' : (({ U with heap := s₂.heap, slotsUsed := s₂.slotsUsed } : State).setVm s₂.vm).frames = .java g₀ :: r := hr
    refine e3.trans ?_
    rw [hf₂, State.calling_eq h.top, State.setFrames_setFrames, State.pushFrame, State.setTop_of_frames _ hr', hr]
    have hcur : (({ U with heap := s₂.heap, slotsUsed := s₂.slotsUsed } : State).setVm s₂.vm).cur < (({ U with heap := s₂.heap, slotsUsed := s₂.slotsUsed } : State).setVm s₂.vm).threads.size := State.cur_lt_of_frames hr
    rw [State.frames_setFrames _ hcur, State.setFrames_setFrames]
    rfl
  have hsame : U.sameButNew ({ U with heap := s₂.heap, slotsUsed := s₂.slotsUsed } : State) [] 1 6 := by
    refine ⟨?_, q2, q3, q4, q5, q6⟩
    obtain ⟨t, ht, -⟩ := State.frames_cons hr
    show ({ U with heap := s₂.heap, slotsUsed := s₂.slotsUsed } : State) = { U.setFrames U.frames with heap := s₂.heap, slotsUsed := s₂.slotsUsed }
    rw [State.setFrames_self ht]
  have X2 : Stand p l e R s m sargs below meth c (({ U with heap := s₂.heap, slotsUsed := s₂.slotsUsed } : State).setVm s₂.vm) (Ls ++ []) (c0 + 1) (s0 + 6) :=
    ⟨X.admits, X.cas, X.clock, X.frames, X.room, X.hears, X.method, X.code, (X.here.setHeapUsed s₂.heap s₂.slotsUsed).setVm hW'.alike, X.tail, State.WarmedH.trans X.warmed hW', X.limits, X.bytes, X.same.trans (hsame.setVm s.vm)⟩
  rw [List.append_nil] at X2
  refine ⟨x, _, X2, hx, ⟨ce, hce, hcc, hcs, hca⟩, hW', hsc.1, hsc.2, ?_⟩
  rw [← hs₂]
  exact hsteps
end BT
section CT
variable {p : Program} {l : Launch} {e : Env} {R : Room} {s : State} {m : MethodId} {args : Array Value} {below : List Frame} {meth : Method} {c : Code} {H : Heap} {locs : List Loc} {cells slots : Nat} {Q : State → Prop}
/-- a call that ends in a throw of the callee's own, caught in this method by the first row of its table -/
theorem va_callT {y : MethodName} {bytes cc : ByteArray} {maxL nL n index ci hp_ : Nat} {ret : Option FieldType} {ws : List Cond} {rm : Room} {Pc : Array Value → State → Prop} {Ts : List Cond} {own C : String} {b : Addr} {As rest : List Value} {g : JFrame}
    (S : CallFix p m c cc nL s args Ts own) (hM : MetT l y ws rm Pc) (cw : CallW R s args own C index y bytes maxL ret ws rm 1 6 n) (hp : PreV s H C b Pc As)
    (hg : g.method = m) (hn : As.length = n) (hsize : g.locals.size = nL) (hstack : g.stack = As.reverse ++ .ref b :: rest) (hW : 2 * g.monitorRoom + (rest.map fun v => v.category).sum ≤ 8) (hdg : decode cc g.pc = .ok (.invokevirtual index, 3)) (hf : cells + 1 ≤ R.cells ∧ slots + 6 ≤ R.slots)
    {xe : ExceptionTableEntry} {xr : List ExceptionTableEntry} (htab : c.exceptionTable.toList = xe :: xr) (hcov : covers xe g.pc = true) (hct : xe.catchType = ci) (hci : ci ≠ 0) (hhp : xe.handlerPc = hp_) (hclink : (Cond.classLink own ci RJx00060).before args s = true)
    (kk : ∀ (x : Nat) (H1 : Heap), H.size ≤ x → H.size ≤ H1.size → (∀ q : Nat, q < H.size → H1[q]? = H[q]?) → W p l e R s m args below meth c H1 locs (cells + 1) (slots + 6) Q { g with pc := hp_, stack := [.ref x] }) : W p l e R s m args below meth c H locs cells slots Q g := by
  obtain ⟨⟨hrc, hrs, hfr, hlo, hws, hcw, hcode, hini, hy, hlen, hlink⟩, hinst, hsel⟩ := cw
  obtain ⟨hexec, hb, hml, hown, -⟩ := S
  obtain ⟨hbl, ⟨cellB, hcell, hobj, hcls⟩, hPc⟩ := hp
  intro T hT X
  subst hT
  obtain ⟨mk, methM, hnamed, hmethM, hstM, habM⟩ := Cond.instanceMethod_spec hinst
  obtain ⟨methM', cM, hmethM', -, -, -, -, -, -, hsigM⟩ := Cond.code_spec hnamed hcode
  cases hmethM.symm.trans hmethM'
  obtain ⟨c2, r2, m2, q1, q2, q3, q4, kP, hkP, hkPi⟩ := Cond.selects_spec hsel
  cases hcls.symm.trans q1
  cases (State.methodFound?_of_named hnamed hy).symm.trans q2
  cases hnamed.symm.trans q3
  have hselP : selectMethod e.platform s.vm cellB.cls mk = .method mk := by rw [Launch.admits_selectMethod X.admits]; exact q4
  have hdg' : decode c.code g.pc = .ok (.invokevirtual index, 3) := by rw [hb]; exact hdg
  obtain ⟨vm₁, X₁, hstep₁⟩ := X.invokevirtual hexec hown hlink hnamed hmethM hstM hkP hkPi hy (a := b) (cell := cellB) hcell
    (fun z h => by rw [h] at hobj; cases hobj) hselP hmethM habM hkP hkPi (g := g) hg (argsL := As) (rest := rest) (hn.trans (hlen _ hsigM)) hstack hdg'
  obtain ⟨x, T₂, X₂, hx, ⟨ce, hce, hcc, hcs, hca⟩, hW₂, hsz, hkeep, hst⟩ := backT hM hbl hrc hrs hfr hlo hws hcw (fun a' U hW => word_at hW (Or.inl (by first | rfl | simp [Cond.onTables, Cond.keeps, Cond.steady])) hini) (g := { g with stack := rest }) X₁ hg (hsize.trans hml.symm) hdg' hW (X₁.named hnamed) hf.1 hf.2 (hPc (T.setVm vm₁) rfl X₁.warmed)
  have hpl : e.platform.magicAccessors = ({} : Platform).magicAccessors := by rw [X.admits.platform]
  obtain ⟨cT, hcT, hcl⟩ := Cond.classLink_spec hown hclink e.platform hpl
  obtain ⟨dk, _, _, kt, hd, _, _, _, _, hkt, _, hopen⟩ := hcl.here
  have hcl₀ := X₂.warmed.classLinks hcl
  have hW' : s.WarmedH (T₂.vm.noted m.cls ci (.cls cT)) := X₂.warmed.noted hd hopen (State.rightAt_cls hcl)
  obtain ⟨kt', hkt', -⟩ := hW'.alike.2.2 _ _ hkt
  have hf1 : s.vm.findClass RJx00060 = some ce.cls := by
    have h9 : (T.setVm vm₁).vm.findClass RJx00060 = some ce.cls := hcc
    rw [X₁.warmed.alike.findClass] at h9
    exact h9
  have hcc2 : ce.cls = cT := Option.some.inj (hf1.symm.trans hcT)
  have hasg : (T₂.vm.noted m.cls ci (.cls cT)).assignable ce.cls cT = true := by
    rw [hW'.alike.assignable, ← hcc2]
    have h9 : (T.setVm vm₁).vm.assignable ce.cls ce.cls = true := hca
    rw [X₁.warmed.alike.assignable] at h9
    exact h9
  obtain ⟨t, a1, b1⟩ := kk x T₂.heap hx hsz hkeep (T₂.setVm (T₂.vm.noted m.cls ci (.cls cT))) rfl (X₂.noted hW')
  refine ⟨t, hstep₁ _ fun acts => ?_, b1⟩
  rw [doInvoke_state]
  refine hst.trans ?_
  subst hg
  refine Steps_caughtV (g := { g with stack := rest }) X₂.here (pc := hp_) (vm' := T₂.vm.noted g.method.cls ci (.cls cT)) ?_ a1
  intro Q2 E2 d2 acts2
  have hvm : (((T₂.setTop { g with stack := rest }).pushFrame (.throwing x))).vm = T₂.vm := throwing_vm T₂ _ x
  have hhp2 : (((T₂.setTop { g with stack := rest }).pushFrame (.throwing x))).heap = T₂.heap := throwing_heap T₂ _ x
  rw [Jvm.W.findHandler_eq (meth := meth) (code := c) (by rw [hvm]; exact X₂.method') X.code, htab]
  have := fh_cold (e := e) (s := (T₂.setTop { g with stack := rest }).pushFrame (.throwing x)) (f := { g with stack := rest }) (a := x) (Q := Q2) (E := E2) (d := d2) (acts := acts2) (x := xe) (t := xr) (c := cT) (vm' := T₂.vm.noted g.method.cls ci (.cls cT)) (cell := ce) hcov (by rw [hct]; exact hci) (by rw [hvm, hct]; exact resolveClass_links e.toSetting hcl₀) (by rw [hvm, Vm.size_noted]; exact Nat.le_refl _) (by rw [hhp2]; exact hce) hcs ⟨kt', by rw [hcc2]; exact hkt'⟩ ⟨kt', hkt'⟩ hasg
  rw [this, hhp]
end CT
-- ===== a static call of a method that has a table of handlers =====
section CSW
variable {p : Program} {l : Launch} {e : Env} {R : Room} {s : State} {m : MethodId} {args : Array Value} {below : List Frame} {meth : Method} {c : Code} {H : Heap} {locs : List Loc} {cells slots : Nat} {Q : State → Prop}
theorem va_runSW {y : MethodName} {bytes cc : ByteArray} {maxL nL mc ms n index : Nat} {ret : Option FieldType} {hh : List (Nat × Nat × Nat × Nat)} {ws : List Cond} {rm : Room} {Pc : Array Value → State → Prop} {Qc : Array Value → State → Outcome → State → Prop} {free : Addr → Prop} {Ts : List Cond} {own : String} {As rest : List Value} {g : JFrame}
    (S : CallFix p m c cc nL s args Ts own) (hM : Met l y ws rm Pc Qc mc ms free) (hrc : rm.cells = mc) (hrs : rm.slots = ms) (hfr : rm.frames + 1 ≤ R.frames) (hlo : 8 + (maxL + 11) + rm.locals ≤ R.locals) (hws : ∀ w ∈ ws, ∀ (a' : Array Value) (U : State), s.WarmedH U.vm → w.before a' U = true) (hcw : Cond.codeWith y bytes maxL ret hh ∈ ws)
    (hini : (Cond.initialized y.cls).before args s = true) (hy : y.cls ≠ "java/lang/invoke/MethodHandle" ∧ y.cls ≠ "java/lang/invoke/VarHandle" ∧ (parseMethodDescriptor y.desc).map (fun d => d.parameters.length) = some n) (hl : (Cond.methodLink own index y).before args s = true) (hstt : (Cond.static y).before args s = true) (hp : PreS s H Pc As)
    (hg : g.method = m) (hn : As.length = n) (hsize : g.locals.size = nL) (hstack : g.stack = As.reverse ++ rest) (hW : 2 * g.monitorRoom + (rest.map fun v => v.category).sum ≤ 8) (hdg : decode cc g.pc = .ok (.invokestatic index, 3)) (hf : cells + mc ≤ R.cells ∧ slots + ms ≤ R.slots) :
    va_Run p l e R s m args below meth c H locs cells slots mc ms g rest (Qc As.toArray) (free) := by
  have hK : Back l R p e below s args y 3 8 (PreOf R mc ms Pc) (PostOf Qc mc ms free) := va_backW (bytes := bytes) (maxL := maxL) (ret := ret) (hh := hh) hM hp.1 hrc hrs hfr hlo hws hcw (fun a' U hW => word_at hW (Or.inl (by first | rfl | simp [Cond.onTables, Cond.keeps, Cond.steady])) hini)
  obtain ⟨hexec, hb, hml, hown, -⟩ := S
  intro T hT X
  have hcode : (Cond.codeWith y bytes maxL ret hh).before args s = true := hws _ hcw args s (State.WarmedH.refl s)
  obtain ⟨mk, methM, cM, hnamed, hmethM, -, -, -, -, -, -, hsigM⟩ := Cond.codeWith_spec hcode
  have hstatic : methM.isStatic = true := Cond.static_spec hnamed hmethM hstt
  obtain ⟨kP, hkP, -⟩ := className_of_methodNamed hnamed
  have hinitP : kP.init = .initialized := Cond.initialized_spec (findClass_of_methodNamed hnamed) hkP hini
  have hlen : As.length = methM.sig.parameters.length := by
    have h2 := hy.2.2
    rw [hsigM] at h2
    rw [hn]
    exact (Option.some.inj h2).symm
  obtain ⟨vm₁, X₁, hstep₁⟩ := X.invokestatic hexec hown hl hnamed hmethM hstatic hkP hinitP ⟨hy.1, hy.2.1⟩ (g := g) hg (argsL := As) (rest := rest) hlen hstack (by rw [hb]; exact hdg)
  obtain ⟨v, ⟨U', l2, c2, s2⟩, X', ⟨g', mk', t, L, e1, e2, hq, h1, hL, h2, h3⟩, hsteps⟩ := hK m meth c ⟨T.setVm vm₁, locs, cells, slots⟩ { g with stack := rest } (.invokestatic index) mk As.toArray X₁ hg (hsize.trans hml.symm) (by rw [hb]; exact hdg) hW (X₁.named hnamed) ⟨hf.1, hf.2, hp.2 (T.setVm vm₁) hT X₁.warmed⟩
  dsimp only [Pt.U, Pt.locs, Pt.cells, Pt.slots] at X' e1 e2 h1 h2 h3 hsteps
  subst h1; subst h2; subst h3
  exact ⟨v, (T.setVm vm₁).calling g' mk' As.toArray, t, U', L, hT, X', hL, e1, e2, hq, fun target h => hstep₁ _ fun acts => by rw [doInvoke_state]; exact hsteps.trans h⟩
end CSW

-- ===== what a throw of the class's own needs =====
def thN : List String := ["java/lang/IndexOutOfBoundsException", "java/lang/RuntimeException", "java/lang/Exception"]
def thT : String := "java/lang/Throwable"
def thS : String := "[Ljava/lang/StackTraceElement;"
def thL : String := "Ljava/util/List;"
def notRef : Cond → Bool
  | .isRef _ => false
  | _ => true
def thW : List Cond := (Jvm.Bundle.ownAtoms RX6 140 RJx00060 thN).filter notRef
def thB (w : Cond) : Bool := match w with
  | .castable _ _ => true
  | .declares _ => true
  | .laysStatic _ _ _ => true
  | w => goodWord w
theorem thW_ok : thW.all thB = true := by decide +kernel
theorem thW_ref : ∀ w ∈ Jvm.Bundle.ownAtoms RX6 140 RJx00060 thN, notRef w = true ∨ w = .isRef (.static thT "UNASSIGNED_STACK" thS) ∨ w = .isRef (.static thT "SUPPRESSED_SENTINEL" thL) := by decide +kernel
def TH (U : State) : Prop := (∀ w ∈ thW, ∀ A : Array Value, w.before A U = true) ∧ va_Zq thT "UNASSIGNED_STACK" thS (fun _ => False) U U.heap ∧ va_Zq thT "SUPPRESSED_SENTINEL" thL (fun _ => False) U U.heap ∧ ∃ q, vk_R RX6 138 "no such place" q U
theorem castable_warm {a b : String} {s U : State} (hW : s.WarmedH U.vm) {A A' : Array Value} (h : (Cond.castable a b).before A s = true) : (Cond.castable a b).before A' U = true := by
  have h1 : (Cond.castable a b).before A (s.setVm U.vm) = true := Cond.before_shiftedFace (State.Shifted.of_warmed hW) _ rfl h
  exact va_tabs rfl (rfl : (s.setVm U.vm).vm = U.vm) h1
theorem laysS_move {o n d : String} {s U : State} (hW : s.WarmedH U.vm) (hk : ∀ q : Nat, q < s.heap.size → U.heap[q]? = s.heap[q]?) {A A' : Array Value} (h : (Cond.laysStatic o n d).before A s = true) : (Cond.laysStatic o n d).before A' U = true := by
  have h1 : (Cond.laysStatic o n d).before A' (s.setVm U.vm) = true := Cond.laysStatic_setVm hW.alike (h : (Cond.laysStatic o n d).before A' s = true)
  obtain ⟨c, k, i, f, a, cell, hc, hi, hst, ha, hcell, hs, hcls, hlt, hty⟩ := Cond.laysStatic_spec h1
  have hcell' : s.heap[a]? = some cell := hcell
  exact Cond.laysStatic_of (s := U) hc hi hst ha (by rw [hk a (Array.getElem?_eq_some_iff.mp hcell').1]; exact hcell') hs hcls hlt hty
theorem TH.move {s U : State} (hW : s.WarmedH U.vm) (hk : ∀ q : Nat, q < s.heap.size → U.heap[q]? = s.heap[q]?) (h : TH s) : TH U := by
  obtain ⟨h1, h2, h3, q, h4⟩ := h
  refine ⟨fun w hw A => ?_, ?_, ?_, q, h4.warm hW⟩
  · have hb := List.all_eq_true.mp thW_ok w hw
    have hs := h1 w hw #[]
    clear hw
    cases w with
    | castable a b => exact castable_warm hW hs
    | declares y => exact va_Nw.use rfl (va_Nw.warmD hW (va_Nw.of rfl hs))
    | laysStatic o n d => exact laysS_move hW hk hs
    | _ => exact word_at hW (good_of_word hb) hs
  · exact (va_Zq.moved hW.alike h2).kept (fun a ha _ => hk a ha)
  · exact (va_Zq.moved hW.alike h3).kept (fun a ha _ => hk a ha)
theorem Z_isRef {C n d : String} {A : Nat → Prop} {U : State} {args : Array Value} (h : va_Zq C n d A U U.heap) : (Cond.isRef (.static C n d)).before args U = true := by
  rcases h with ⟨cf, kf, fi, f, a, cell, h1, h2, h3, h4, h5, h6, h7, h8⟩ | ⟨t, cf, kf, fi, f, a, cell, h1, h2, h3, h4, h5, h6, h7, h8⟩
  · simp [Cond.before, Cond.holds, Cond.value, Term.eval, State.fieldNamed?, h1, h2, h4, h5, h6, h7]
  · simp [Cond.before, Cond.holds, Cond.value, Term.eval, State.fieldNamed?, h1, h2, h4, h5, h6, h7]
theorem TH.own {U : State} (h : TH U) (A : Array Value) : ∀ w ∈ Jvm.Bundle.ownAtoms RX6 140 RJx00060 thN, w.before A U = true := by
  intro w hw
  rcases thW_ref w hw with c | rfl | rfl
  · exact h.1 w (List.mem_filter.mpr ⟨hw, c⟩) A
  · exact Z_isRef h.2.1
  · exact Z_isRef h.2.2.1
theorem TH.same {u U : State} (e : u.vm = U.vm) (hh : u.heap = U.heap) (h : TH u) : TH U := by
  refine TH.move (s := u) (U := U) ?_ (fun q _ => by rw [hh]) h
  rw [← e]
  exact State.WarmedH.refl u
def pcT (dC : Nat → ClassId) (dI : Nat → Nat → Nat) (cI cJ : ClassId) (sz : Nat) (w : va_W) (U : State) : Prop := pcW dC dI cI cJ sz w U ∧ TH U
theorem pcT_blind {dC : Nat → ClassId} {dI : Nat → Nat → Nat} {cI cJ : ClassId} {sz : Nat} {w : va_W} {av : List Value} : FrameBlind (va_Pc av (pcT dC dI cI cJ sz w)) := fun a U g mk q => by
  obtain ⟨q0, q1, q2⟩ := q
  obtain ⟨r0, r1⟩ := pcW_blind (dC := dC) (dI := dI) (cI := cI) (cJ := cJ) (sz := sz) (w := w) (av := av) a U g mk ⟨q0, q1⟩
  exact ⟨r0, r1, TH.same (u := U) (U := U.calling g mk a) rfl rfl q2⟩
theorem pcT_pre {dC : Nat → ClassId} {dI : Nat → Nat → Nat} {cI cJ : ClassId} {w : va_W} {A : Nat → Prop} {s : State} {H : Heap} {av : List Value} (hP : va_P (dC, dI) vwCl w H) (hK : va_K (dC, dI) vwCl [(cI, .int), (cJ, .long)] s) (hD : va_D A w) (hN : NW s) (hT : TH s) (hk : ∀ q : Nat, q < s.heap.size → H[q]? = s.heap[q]?) : ∀ U : State, U.heap = H → s.WarmedH U.vm → va_Pc av (pcT dC dI cI cJ H.size w) av.toArray U := fun U hU hW =>
  ⟨rfl, (pcW_pre (av := av) hP hK hD hN U hU hW).2, hT.move hW (fun q hq => by rw [hU]; exact hk q hq)⟩
set_option maxHeartbeats 4000000 in
set_option maxRecDepth 100000 in
theorem c_spreadT (l : Launch) (hfl : l.flags = pinnedFlags ++ [noTraceFlag]) (dC : Nat → ClassId) (dI : Nat → Nat → Nat) (cI cJ : ClassId) (aX : Nat) (jX : Nat → Nat) (aS : Nat) (jS : Nat → Nat) (aL aW aR aO : Nat) (sz : Nat) (uX uS : OS) (p1 : Int32) (hbad : p1 < (0 : Int32) ∨ ¬ p1 < (uS.1 1)) : MetT l yX6_spread (wq yX6_spread cX6_spread 2 (some .int)) ({ frames := 7, cells := 1, slots := 6, locals := 95 } : Room) (va_Pc [.ref aX, .int p1] (pcT dC dI cI cJ sz ([wX cI cJ aX jX aL aS aW aR aO uX, wS cI cJ aS jS uS] : List va_W).flatten)) := by
  refine MetT.ofW (cc := cX6_spread) (maxL := 2) (ret := (some .int)) (by decide) rfl ?_
  intro p e s m args below meth c s₁ B hml hv
  obtain ⟨rfl, ⟨hsz, hP, hK, hD0, hN⟩, hTH⟩ := hv
  have hx := B.exec
  have hb := B.bytes
  have hr := B.returns
  have ht : ∀ w ∈ lw_good, w.before _ s = true := fun w h => atoms_spec (ws := wq yX6_spread cX6_spread 2 (some .int)) B.pre w (wq_mem h)
  have hcw : (Cond.code yX6_spread cX6_spread 2 (some .int)).before _ s = true := atoms_spec (ws := wq yX6_spread cX6_spread 2 (some .int)) B.pre _ List.mem_cons_self
  have hown : s.vm.findClass RX6 = some m.cls := findClass_of_methodNamed B.named
  have hlocks := B.notSynchronized
  have hempty : c.exceptionTable.toList = [] := by
    obtain ⟨meth', c', hm', hc', -, -, -, -, hemp, -⟩ := Cond.code_spec B.named hcw
    have e1 : meth = meth' := Option.some.inj (B.method.symm.trans hm')
    subst e1
    have e2 : c = c' := by
      have X := Stand.of_body B
      exact Option.some.inj (X.code.symm.trans hc')
    subst e2
    have h0 : c.exceptionTable.size = 0 := by simpa [Array.isEmpty] using hemp
    exact List.eq_nil_of_length_eq_zero (by simpa using h0)
  have hl := lv_entry ([.ref aX, .int p1]) (n := 2) (Nat.le_of_ble_eq_true rfl)
  rw [lg_entry_eq]
  generalize (lg_sl ([.ref aX, .int p1]) ++ List.replicate (2 - (lg_sl ([.ref aX, .int p1])).length) Slot.unset).toArray = ls at hl ⊢
  have hl : lv_has ls 2 [(0, .ref aX), (1, .int p1)] := hl
  obtain ⟨q, hq⟩ := hTH.2.2.2
  generalize hQ : (fun t => ∃ o, t.status = .running ∧ Ended t below o ∧ qT ([.ref aX, .int p1] : List Value).toArray s o t) = Q
  have key : W p l e ({ frames := 7, cells := 1, slots := 6, locals := 95 } : Room) s m ([.ref aX, .int p1] : List Value).toArray below meth c s.heap [] 0 0 Q (F0 m 15 ls []) := by
    refine W.newc hx hb hown (ht _ kw_cl136) (ht _ kw_inE) (ht _ kw_iniE) rfl dX6_spread_15 (Nat.le_refl 1) (Nat.le_refl 6) (fun cC kC h1 h2 h3 h4 => ?_)
    refine W.eq (g2 := F0 m 18 ls [.ref s.heap.size]) rfl ?_
    refine lv_dup hx hb dX6_spread_18 rfl ?_
    refine va_ldcS hx hb hown hq dX6_spread_19 ?_
    intro T hT X
    have htr : e.platform.stackTraces = false := Launch.traces_off hfl X.admits
    obtain ⟨U, g1, g2, g3, g4, g5, ce, g6, g7⟩ := X.ctorThrowS hx htr (own := RX6) (cls := RJx00060) (names := thN) (ic := 140) hown (by decide +kernel) (by decide +kernel) (hTH.own _) (fun x hx => by cases hx) (a := s.heap.size) (cX := cC) (kX := kC) h1 h2 (by rw [hT]; simp [freshCell]) (Nat.le_refl _) (msg := .ref q) rfl (g := F0 m 21 ls [.ref q, .ref s.heap.size, .ref s.heap.size]) rfl (by rw [hml]; exact hl.1) rfl rfl (rest := []) rfl (by rw [hb]; exact dX6_spread_21) (by rw [hb]; exact dX6_spread_24) (fun x hx => by rw [hempty] at hx; cases hx) (by show thN.length + 3 < 7; decide) (by show 2 * 0 + 1 + (13 * (thN.length + 1) + 42) ≤ 95; decide)
    rw [← hQ]
    exact ⟨U, g1, .threw s.heap.size, g2, g3, s.heap.size, rfl, Nat.le_refl _, ⟨ce, g6, g7.cls, (fun k ek => by rw [g7.vm] at ek; cases ek), g7.self⟩, g4, g5⟩
  show W p l e ({ frames := 7, cells := 1, slots := 6, locals := 95 } : Room) s m ([.ref aX, .int p1] : List Value).toArray below meth c s.heap [] 0 0 Q (F0 m 0 ls [])
  refine lv_iload_n hx hb dX6_spread_0 rfl (lv_at hl 1 rfl) ?_
  refine lv_if_lt (tgt := 15) hx hb dX6_spread_1 (by decide) (fun c1 => key) (fun c1 => ?_)
  refine lv_iload_n hx hb dX6_spread_4 rfl (lv_at hl 1 rfl) ?_
  refine lv_aload_n hx hb dX6_spread_5 rfl (lv_at hl 0 rfl) ?_
  refine va_get (D := (dC, dI)) (ci := 7) (v := .ref aS) (C := RX6) (T := TX6) (N := 10) hx hb ht inX6 hown hK hP 0 rfl rfl 1 (by decide) (ht _ kw_x630) (fun _ h9 => h9) rfl dX6_spread_6 ?_
  refine va_getN (D := (dC, dI)) (ci := 5) (v := .int (uS.1 1)) (C := RX4) (T := TX4) (N := 11) hx hb ht inX4 hown hK hP 3 rfl rfl 1 (by decide) (va_Nw.use rfl (hN _ kn_108)) (fun _ h9 => h9) rfl dX6_spread_9 ?_
  refine lv_icmp_lt (tgt := 25) hx hb dX6_spread_12 (by decide) (fun c2 => ?_) (fun c2 => key)
  exact absurd hbad (fun h => h.elim c1 (fun h2 => h2 c2))
end
