section
-- ===== PART A: goes FIRST, ahead of the names: the tables' words, and 'selects' of the private methods out of them =====
/-- a private method of a class that the tables say can be made, by its rows of tables_1 -/
def lw_okq (q : MethodName × Nat) : Prop := (q.1.cls ≠ "java/lang/invoke/MethodHandle" ∧ q.1.cls ≠ "java/lang/invoke/VarHandle") ∧ Cond.instantiable q.1.cls q.2 ∈ tables_1 ∧ Cond.privateMethod q.1 ∈ tables_1 ∧ Cond.instanceMethod q.1 ∈ tables_1
theorem lw_p0 : lw_okq (⟨"AnsTables$Shares", "gainOf", "(IILAnsTables$Logs;)J"⟩, 11) := ⟨⟨by decide +kernel, by decide +kernel⟩, List.mem_of_getElem? (i := 47) (by decide +kernel), List.mem_of_getElem? (i := 284) (by decide +kernel), List.mem_of_getElem? (i := 285) (by decide +kernel)⟩
theorem lw_p1 : lw_okq (⟨"AnsTables$Shares", "greatestGain", "()I"⟩, 11) := ⟨⟨by decide +kernel, by decide +kernel⟩, List.mem_of_getElem? (i := 47) (by decide +kernel), List.mem_of_getElem? (i := 299) (by decide +kernel), List.mem_of_getElem? (i := 300) (by decide +kernel)⟩
theorem lw_p2 : lw_okq (⟨"AnsTables", "isWritable", "()Z"⟩, 10) := ⟨⟨by decide +kernel, by decide +kernel⟩, List.mem_of_getElem? (i := 18) (by decide +kernel), List.mem_of_getElem? (i := 342) (by decide +kernel), List.mem_of_getElem? (i := 343) (by decide +kernel)⟩
theorem lw_p3 : lw_okq (⟨"AnsTables$Shares", "numberPlaces", "()V"⟩, 11) := ⟨⟨by decide +kernel, by decide +kernel⟩, List.mem_of_getElem? (i := 47) (by decide +kernel), List.mem_of_getElem? (i := 365) (by decide +kernel), List.mem_of_getElem? (i := 366) (by decide +kernel)⟩
theorem lw_p4 : lw_okq (⟨"AnsTables$Writer", "putSign", "(IIILAnsTables$Shares;)V"⟩, 4) := ⟨⟨by decide +kernel, by decide +kernel⟩, List.mem_of_getElem? (i := 95) (by decide +kernel), List.mem_of_getElem? (i := 374) (by decide +kernel), List.mem_of_getElem? (i := 375) (by decide +kernel)⟩
theorem lw_p5 : lw_okq (⟨"AnsTables$Writer", "putByTable", "(IILAnsTables$Shares;)V"⟩, 4) := ⟨⟨by decide +kernel, by decide +kernel⟩, List.mem_of_getElem? (i := 95) (by decide +kernel), List.mem_of_getElem? (i := 378) (by decide +kernel), List.mem_of_getElem? (i := 379) (by decide +kernel)⟩
theorem lw_p6 : lw_okq (⟨"AnsTables$Writer", "putTwoSided", "(IILAnsTables$Shares;)V"⟩, 4) := ⟨⟨by decide +kernel, by decide +kernel⟩, List.mem_of_getElem? (i := 95) (by decide +kernel), List.mem_of_getElem? (i := 396) (by decide +kernel), List.mem_of_getElem? (i := 397) (by decide +kernel)⟩
theorem lw_p7 : lw_okq (⟨"AnsTables$Writer", "widen", "(IIIII)V"⟩, 4) := ⟨⟨by decide +kernel, by decide +kernel⟩, List.mem_of_getElem? (i := 95) (by decide +kernel), List.mem_of_getElem? (i := 406) (by decide +kernel), List.mem_of_getElem? (i := 407) (by decide +kernel)⟩
theorem lw_p8 : lw_okq (⟨"AnsTables$Writer", "putHead", "(IILAnsTables$Shares;LAnsTables$Octets;)V"⟩, 4) := ⟨⟨by decide +kernel, by decide +kernel⟩, List.mem_of_getElem? (i := 95) (by decide +kernel), List.mem_of_getElem? (i := 419) (by decide +kernel), List.mem_of_getElem? (i := 420) (by decide +kernel)⟩
theorem lw_p9 : lw_okq (⟨"AnsTables$Writer", "putTable", "(LAnsTables$Shares;LAnsTables$Octets;)V"⟩, 4) := ⟨⟨by decide +kernel, by decide +kernel⟩, List.mem_of_getElem? (i := 95) (by decide +kernel), List.mem_of_getElem? (i := 433) (by decide +kernel), List.mem_of_getElem? (i := 434) (by decide +kernel)⟩
theorem lw_p10 : lw_okq (⟨"AnsTables$Reader", "takeHead", "(LAnsTables$Octets;)V"⟩, 12) := ⟨⟨by decide +kernel, by decide +kernel⟩, List.mem_of_getElem? (i := 130) (by decide +kernel), List.mem_of_getElem? (i := 458) (by decide +kernel), List.mem_of_getElem? (i := 459) (by decide +kernel)⟩
theorem lw_p11 : lw_okq (⟨"AnsTables$Reader", "nextNumber", "(LAnsTables$Octets;I)J"⟩, 12) := ⟨⟨by decide +kernel, by decide +kernel⟩, List.mem_of_getElem? (i := 130) (by decide +kernel), List.mem_of_getElem? (i := 462) (by decide +kernel), List.mem_of_getElem? (i := 463) (by decide +kernel)⟩
theorem lw_p12 : lw_okq (⟨"AnsTables$Reader", "takeTable", "(LAnsTables$Octets;)V"⟩, 12) := ⟨⟨by decide +kernel, by decide +kernel⟩, List.mem_of_getElem? (i := 130) (by decide +kernel), List.mem_of_getElem? (i := 471) (by decide +kernel), List.mem_of_getElem? (i := 472) (by decide +kernel)⟩
theorem lw_p13 : lw_okq (⟨"AnsTables$Reader", "nextBits", "(LAnsTables$Octets;I)I"⟩, 12) := ⟨⟨by decide +kernel, by decide +kernel⟩, List.mem_of_getElem? (i := 130) (by decide +kernel), List.mem_of_getElem? (i := 476) (by decide +kernel), List.mem_of_getElem? (i := 477) (by decide +kernel)⟩
theorem lw_p14 : lw_okq (⟨"AnsTables$Reader", "restIsSet", "()Z"⟩, 12) := ⟨⟨by decide +kernel, by decide +kernel⟩, List.mem_of_getElem? (i := 130) (by decide +kernel), List.mem_of_getElem? (i := 484) (by decide +kernel), List.mem_of_getElem? (i := 485) (by decide +kernel)⟩
theorem lw_p15 : lw_okq (⟨"AnsTables$Reader", "takeStates", "(LAnsTables$Octets;)V"⟩, 12) := ⟨⟨by decide +kernel, by decide +kernel⟩, List.mem_of_getElem? (i := 130) (by decide +kernel), List.mem_of_getElem? (i := 489) (by decide +kernel), List.mem_of_getElem? (i := 490) (by decide +kernel)⟩
def lw_privs_1 : List (MethodName × Nat) := [(⟨"AnsTables$Shares", "gainOf", "(IILAnsTables$Logs;)J"⟩, 11), (⟨"AnsTables$Shares", "greatestGain", "()I"⟩, 11), (⟨"AnsTables", "isWritable", "()Z"⟩, 10), (⟨"AnsTables$Shares", "numberPlaces", "()V"⟩, 11), (⟨"AnsTables$Writer", "putSign", "(IIILAnsTables$Shares;)V"⟩, 4), (⟨"AnsTables$Writer", "putByTable", "(IILAnsTables$Shares;)V"⟩, 4), (⟨"AnsTables$Writer", "putTwoSided", "(IILAnsTables$Shares;)V"⟩, 4), (⟨"AnsTables$Writer", "widen", "(IIIII)V"⟩, 4), (⟨"AnsTables$Writer", "putHead", "(IILAnsTables$Shares;LAnsTables$Octets;)V"⟩, 4), (⟨"AnsTables$Writer", "putTable", "(LAnsTables$Shares;LAnsTables$Octets;)V"⟩, 4), (⟨"AnsTables$Reader", "takeHead", "(LAnsTables$Octets;)V"⟩, 12), (⟨"AnsTables$Reader", "nextNumber", "(LAnsTables$Octets;I)J"⟩, 12), (⟨"AnsTables$Reader", "takeTable", "(LAnsTables$Octets;)V"⟩, 12), (⟨"AnsTables$Reader", "nextBits", "(LAnsTables$Octets;I)I"⟩, 12), (⟨"AnsTables$Reader", "restIsSet", "()Z"⟩, 12), (⟨"AnsTables$Reader", "takeStates", "(LAnsTables$Octets;)V"⟩, 12)]
theorem lw_r1 : ∀ q ∈ lw_privs_1, lw_okq q := List.forall_mem_cons.mpr ⟨lw_p0, List.forall_mem_cons.mpr ⟨lw_p1, List.forall_mem_cons.mpr ⟨lw_p2, List.forall_mem_cons.mpr ⟨lw_p3, List.forall_mem_cons.mpr ⟨lw_p4, List.forall_mem_cons.mpr ⟨lw_p5, List.forall_mem_cons.mpr ⟨lw_p6, List.forall_mem_cons.mpr ⟨lw_p7, List.forall_mem_cons.mpr ⟨lw_p8, List.forall_mem_cons.mpr ⟨lw_p9, List.forall_mem_cons.mpr ⟨lw_p10, List.forall_mem_cons.mpr ⟨lw_p11, List.forall_mem_cons.mpr ⟨lw_p12, List.forall_mem_cons.mpr ⟨lw_p13, List.forall_mem_cons.mpr ⟨lw_p14, List.forall_mem_cons.mpr ⟨lw_p15, fun _ h => absurd h List.not_mem_nil⟩⟩⟩⟩⟩⟩⟩⟩⟩⟩⟩⟩⟩⟩⟩⟩
theorem lw_p16 : lw_okq (⟨"AnsTables$Reader", "takeRow", "(LAnsTables$Octets;)V"⟩, 12) := ⟨⟨by decide +kernel, by decide +kernel⟩, List.mem_of_getElem? (i := 130) (by decide +kernel), List.mem_of_getElem? (i := 501) (by decide +kernel), List.mem_of_getElem? (i := 502) (by decide +kernel)⟩
theorem lw_p17 : lw_okq (⟨"AnsTables$Reader", "takeSign", "(ILAnsTables$Octets;)I"⟩, 12) := ⟨⟨by decide +kernel, by decide +kernel⟩, List.mem_of_getElem? (i := 130) (by decide +kernel), List.mem_of_getElem? (i := 507) (by decide +kernel), List.mem_of_getElem? (i := 508) (by decide +kernel)⟩
theorem lw_p18 : lw_okq (⟨"AnsTables$Reader", "takeByTable", "(ILAnsTables$Octets;)I"⟩, 12) := ⟨⟨by decide +kernel, by decide +kernel⟩, List.mem_of_getElem? (i := 130) (by decide +kernel), List.mem_of_getElem? (i := 511) (by decide +kernel), List.mem_of_getElem? (i := 512) (by decide +kernel)⟩
theorem lw_p19 : lw_okq (⟨"AnsTables$Reader", "takeTwoSided", "(ILAnsTables$Octets;)I"⟩, 12) := ⟨⟨by decide +kernel, by decide +kernel⟩, List.mem_of_getElem? (i := 130) (by decide +kernel), List.mem_of_getElem? (i := 523) (by decide +kernel), List.mem_of_getElem? (i := 524) (by decide +kernel)⟩
theorem lw_p20 : lw_okq (⟨"AnsTables$Reader", "restOf", "(I)I"⟩, 12) := ⟨⟨by decide +kernel, by decide +kernel⟩, List.mem_of_getElem? (i := 130) (by decide +kernel), List.mem_of_getElem? (i := 528) (by decide +kernel), List.mem_of_getElem? (i := 529) (by decide +kernel)⟩
theorem lw_p21 : lw_okq (⟨"AnsTables$Reader", "narrow", "(IIILAnsTables$Octets;)V"⟩, 12) := ⟨⟨by decide +kernel, by decide +kernel⟩, List.mem_of_getElem? (i := 130) (by decide +kernel), List.mem_of_getElem? (i := 532) (by decide +kernel), List.mem_of_getElem? (i := 533) (by decide +kernel)⟩
theorem lw_p22 : lw_okq (⟨"AnsTables$Reader", "keep", "(I)V"⟩, 12) := ⟨⟨by decide +kernel, by decide +kernel⟩, List.mem_of_getElem? (i := 130) (by decide +kernel), List.mem_of_getElem? (i := 542) (by decide +kernel), List.mem_of_getElem? (i := 543) (by decide +kernel)⟩
theorem lw_p23 : lw_okq (⟨"AnsTables$Reader", "judgeEnd", "(LAnsTables$Octets;)V"⟩, 12) := ⟨⟨by decide +kernel, by decide +kernel⟩, List.mem_of_getElem? (i := 130) (by decide +kernel), List.mem_of_getElem? (i := 547) (by decide +kernel), List.mem_of_getElem? (i := 548) (by decide +kernel)⟩
theorem lw_p24 : lw_okq (⟨"AnsTables", "readIsRow", "()Z"⟩, 10) := ⟨⟨by decide +kernel, by decide +kernel⟩, List.mem_of_getElem? (i := 18) (by decide +kernel), List.mem_of_getElem? (i := 596) (by decide +kernel), List.mem_of_getElem? (i := 597) (by decide +kernel)⟩
theorem lw_p25 : lw_okq (⟨"java/lang/Throwable", "fillInStackTrace", "(I)Ljava/lang/Throwable;"⟩, 6) := ⟨⟨by decide +kernel, by decide +kernel⟩, List.mem_of_getElem? (i := 653) (by decide +kernel), List.mem_of_getElem? (i := 651) (by decide +kernel), List.mem_of_getElem? (i := 652) (by decide +kernel)⟩
theorem lw_p26 : lw_okq (⟨"AnsTablesModel", "signsCounted", "()I"⟩, 34) := ⟨⟨by decide +kernel, by decide +kernel⟩, List.mem_of_getElem? (i := 688) (by decide +kernel), List.mem_of_getElem? (i := 816) (by decide +kernel), List.mem_of_getElem? (i := 817) (by decide +kernel)⟩
theorem lw_p27 : lw_okq (⟨"AnsTablesModel", "lay", "(I)V"⟩, 34) := ⟨⟨by decide +kernel, by decide +kernel⟩, List.mem_of_getElem? (i := 688) (by decide +kernel), List.mem_of_getElem? (i := 834) (by decide +kernel), List.mem_of_getElem? (i := 835) (by decide +kernel)⟩
theorem lw_p28 : lw_okq (⟨"AnsTablesModel", "mayWrite", "()Z"⟩, 34) := ⟨⟨by decide +kernel, by decide +kernel⟩, List.mem_of_getElem? (i := 688) (by decide +kernel), List.mem_of_getElem? (i := 862) (by decide +kernel), List.mem_of_getElem? (i := 863) (by decide +kernel)⟩
theorem lw_p29 : lw_okq (⟨"AnsTablesModel", "writeForm", "(I)V"⟩, 34) := ⟨⟨by decide +kernel, by decide +kernel⟩, List.mem_of_getElem? (i := 688) (by decide +kernel), List.mem_of_getElem? (i := 866) (by decide +kernel), List.mem_of_getElem? (i := 867) (by decide +kernel)⟩
theorem lw_p30 : lw_okq (⟨"AnsTablesModel", "putByte", "(I)V"⟩, 34) := ⟨⟨by decide +kernel, by decide +kernel⟩, List.mem_of_getElem? (i := 688) (by decide +kernel), List.mem_of_getElem? (i := 870) (by decide +kernel), List.mem_of_getElem? (i := 871) (by decide +kernel)⟩
theorem lw_p31 : lw_okq (⟨"AnsTablesModel", "putWide", "(JI)V"⟩, 34) := ⟨⟨by decide +kernel, by decide +kernel⟩, List.mem_of_getElem? (i := 688) (by decide +kernel), List.mem_of_getElem? (i := 874) (by decide +kernel), List.mem_of_getElem? (i := 875) (by decide +kernel)⟩
def lw_privs_2 : List (MethodName × Nat) := [(⟨"AnsTables$Reader", "takeRow", "(LAnsTables$Octets;)V"⟩, 12), (⟨"AnsTables$Reader", "takeSign", "(ILAnsTables$Octets;)I"⟩, 12), (⟨"AnsTables$Reader", "takeByTable", "(ILAnsTables$Octets;)I"⟩, 12), (⟨"AnsTables$Reader", "takeTwoSided", "(ILAnsTables$Octets;)I"⟩, 12), (⟨"AnsTables$Reader", "restOf", "(I)I"⟩, 12), (⟨"AnsTables$Reader", "narrow", "(IIILAnsTables$Octets;)V"⟩, 12), (⟨"AnsTables$Reader", "keep", "(I)V"⟩, 12), (⟨"AnsTables$Reader", "judgeEnd", "(LAnsTables$Octets;)V"⟩, 12), (⟨"AnsTables", "readIsRow", "()Z"⟩, 10), (⟨"java/lang/Throwable", "fillInStackTrace", "(I)Ljava/lang/Throwable;"⟩, 6), (⟨"AnsTablesModel", "signsCounted", "()I"⟩, 34), (⟨"AnsTablesModel", "lay", "(I)V"⟩, 34), (⟨"AnsTablesModel", "mayWrite", "()Z"⟩, 34), (⟨"AnsTablesModel", "writeForm", "(I)V"⟩, 34), (⟨"AnsTablesModel", "putByte", "(I)V"⟩, 34), (⟨"AnsTablesModel", "putWide", "(JI)V"⟩, 34)]
theorem lw_r2 : ∀ q ∈ lw_privs_2, lw_okq q := List.forall_mem_cons.mpr ⟨lw_p16, List.forall_mem_cons.mpr ⟨lw_p17, List.forall_mem_cons.mpr ⟨lw_p18, List.forall_mem_cons.mpr ⟨lw_p19, List.forall_mem_cons.mpr ⟨lw_p20, List.forall_mem_cons.mpr ⟨lw_p21, List.forall_mem_cons.mpr ⟨lw_p22, List.forall_mem_cons.mpr ⟨lw_p23, List.forall_mem_cons.mpr ⟨lw_p24, List.forall_mem_cons.mpr ⟨lw_p25, List.forall_mem_cons.mpr ⟨lw_p26, List.forall_mem_cons.mpr ⟨lw_p27, List.forall_mem_cons.mpr ⟨lw_p28, List.forall_mem_cons.mpr ⟨lw_p29, List.forall_mem_cons.mpr ⟨lw_p30, List.forall_mem_cons.mpr ⟨lw_p31, fun _ h => absurd h List.not_mem_nil⟩⟩⟩⟩⟩⟩⟩⟩⟩⟩⟩⟩⟩⟩⟩⟩
theorem lw_p32 : lw_okq (⟨"AnsTablesModel", "writeTable", "()V"⟩, 34) := ⟨⟨by decide +kernel, by decide +kernel⟩, List.mem_of_getElem? (i := 688) (by decide +kernel), List.mem_of_getElem? (i := 878) (by decide +kernel), List.mem_of_getElem? (i := 879) (by decide +kernel)⟩
theorem lw_p33 : lw_okq (⟨"AnsTablesModel", "putBits", "(II)V"⟩, 34) := ⟨⟨by decide +kernel, by decide +kernel⟩, List.mem_of_getElem? (i := 688) (by decide +kernel), List.mem_of_getElem? (i := 885) (by decide +kernel), List.mem_of_getElem? (i := 886) (by decide +kernel)⟩
theorem lw_p34 : lw_okq (⟨"AnsTablesModel", "writeSides", "(II)V"⟩, 34) := ⟨⟨by decide +kernel, by decide +kernel⟩, List.mem_of_getElem? (i := 688) (by decide +kernel), List.mem_of_getElem? (i := 893) (by decide +kernel), List.mem_of_getElem? (i := 894) (by decide +kernel)⟩
theorem lw_p35 : lw_okq (⟨"AnsTablesModel", "laySides", "(III)V"⟩, 34) := ⟨⟨by decide +kernel, by decide +kernel⟩, List.mem_of_getElem? (i := 688) (by decide +kernel), List.mem_of_getElem? (i := 897) (by decide +kernel), List.mem_of_getElem? (i := 898) (by decide +kernel)⟩
theorem lw_p36 : lw_okq (⟨"AnsTablesModel", "sideChance", "(I)I"⟩, 34) := ⟨⟨by decide +kernel, by decide +kernel⟩, List.mem_of_getElem? (i := 688) (by decide +kernel), List.mem_of_getElem? (i := 901) (by decide +kernel), List.mem_of_getElem? (i := 902) (by decide +kernel)⟩
theorem lw_p37 : lw_okq (⟨"AnsTablesModel", "writeBytes", "(III)V"⟩, 34) := ⟨⟨by decide +kernel, by decide +kernel⟩, List.mem_of_getElem? (i := 688) (by decide +kernel), List.mem_of_getElem? (i := 905) (by decide +kernel), List.mem_of_getElem? (i := 906) (by decide +kernel)⟩
theorem lw_p38 : lw_okq (⟨"AnsTablesModel", "writeWords", "(III)V"⟩, 34) := ⟨⟨by decide +kernel, by decide +kernel⟩, List.mem_of_getElem? (i := 688) (by decide +kernel), List.mem_of_getElem? (i := 909) (by decide +kernel), List.mem_of_getElem? (i := 910) (by decide +kernel)⟩
theorem lw_p39 : lw_okq (⟨"AnsTablesModel", "writeBitsOf", "(III)V"⟩, 34) := ⟨⟨by decide +kernel, by decide +kernel⟩, List.mem_of_getElem? (i := 688) (by decide +kernel), List.mem_of_getElem? (i := 913) (by decide +kernel), List.mem_of_getElem? (i := 914) (by decide +kernel)⟩
theorem lw_p40 : lw_okq (⟨"AnsTablesModel", "readAll", "()V"⟩, 34) := ⟨⟨by decide +kernel, by decide +kernel⟩, List.mem_of_getElem? (i := 688) (by decide +kernel), List.mem_of_getElem? (i := 921) (by decide +kernel), List.mem_of_getElem? (i := 922) (by decide +kernel)⟩
theorem lw_p41 : lw_okq (⟨"AnsTablesModel", "readHead", "()I"⟩, 34) := ⟨⟨by decide +kernel, by decide +kernel⟩, List.mem_of_getElem? (i := 688) (by decide +kernel), List.mem_of_getElem? (i := 925) (by decide +kernel), List.mem_of_getElem? (i := 926) (by decide +kernel)⟩
theorem lw_p42 : lw_okq (⟨"AnsTablesModel", "next", "()I"⟩, 34) := ⟨⟨by decide +kernel, by decide +kernel⟩, List.mem_of_getElem? (i := 688) (by decide +kernel), List.mem_of_getElem? (i := 929) (by decide +kernel), List.mem_of_getElem? (i := 930) (by decide +kernel)⟩
theorem lw_p43 : lw_okq (⟨"AnsTablesModel", "fail", "(I)V"⟩, 34) := ⟨⟨by decide +kernel, by decide +kernel⟩, List.mem_of_getElem? (i := 688) (by decide +kernel), List.mem_of_getElem? (i := 933) (by decide +kernel), List.mem_of_getElem? (i := 934) (by decide +kernel)⟩
theorem lw_p44 : lw_okq (⟨"AnsTablesModel", "nextWide", "(I)J"⟩, 34) := ⟨⟨by decide +kernel, by decide +kernel⟩, List.mem_of_getElem? (i := 688) (by decide +kernel), List.mem_of_getElem? (i := 937) (by decide +kernel), List.mem_of_getElem? (i := 938) (by decide +kernel)⟩
theorem lw_p45 : lw_okq (⟨"AnsTablesModel", "readTable", "()V"⟩, 34) := ⟨⟨by decide +kernel, by decide +kernel⟩, List.mem_of_getElem? (i := 688) (by decide +kernel), List.mem_of_getElem? (i := 941) (by decide +kernel), List.mem_of_getElem? (i := 942) (by decide +kernel)⟩
theorem lw_p46 : lw_okq (⟨"AnsTablesModel", "nextBit", "()I"⟩, 34) := ⟨⟨by decide +kernel, by decide +kernel⟩, List.mem_of_getElem? (i := 688) (by decide +kernel), List.mem_of_getElem? (i := 945) (by decide +kernel), List.mem_of_getElem? (i := 946) (by decide +kernel)⟩
theorem lw_p47 : lw_okq (⟨"AnsTablesModel", "isInSpan", "(J)Z"⟩, 34) := ⟨⟨by decide +kernel, by decide +kernel⟩, List.mem_of_getElem? (i := 688) (by decide +kernel), List.mem_of_getElem? (i := 949) (by decide +kernel), List.mem_of_getElem? (i := 950) (by decide +kernel)⟩
def lw_privs_3 : List (MethodName × Nat) := [(⟨"AnsTablesModel", "writeTable", "()V"⟩, 34), (⟨"AnsTablesModel", "putBits", "(II)V"⟩, 34), (⟨"AnsTablesModel", "writeSides", "(II)V"⟩, 34), (⟨"AnsTablesModel", "laySides", "(III)V"⟩, 34), (⟨"AnsTablesModel", "sideChance", "(I)I"⟩, 34), (⟨"AnsTablesModel", "writeBytes", "(III)V"⟩, 34), (⟨"AnsTablesModel", "writeWords", "(III)V"⟩, 34), (⟨"AnsTablesModel", "writeBitsOf", "(III)V"⟩, 34), (⟨"AnsTablesModel", "readAll", "()V"⟩, 34), (⟨"AnsTablesModel", "readHead", "()I"⟩, 34), (⟨"AnsTablesModel", "next", "()I"⟩, 34), (⟨"AnsTablesModel", "fail", "(I)V"⟩, 34), (⟨"AnsTablesModel", "nextWide", "(I)J"⟩, 34), (⟨"AnsTablesModel", "readTable", "()V"⟩, 34), (⟨"AnsTablesModel", "nextBit", "()I"⟩, 34), (⟨"AnsTablesModel", "isInSpan", "(J)Z"⟩, 34)]
theorem lw_r3 : ∀ q ∈ lw_privs_3, lw_okq q := List.forall_mem_cons.mpr ⟨lw_p32, List.forall_mem_cons.mpr ⟨lw_p33, List.forall_mem_cons.mpr ⟨lw_p34, List.forall_mem_cons.mpr ⟨lw_p35, List.forall_mem_cons.mpr ⟨lw_p36, List.forall_mem_cons.mpr ⟨lw_p37, List.forall_mem_cons.mpr ⟨lw_p38, List.forall_mem_cons.mpr ⟨lw_p39, List.forall_mem_cons.mpr ⟨lw_p40, List.forall_mem_cons.mpr ⟨lw_p41, List.forall_mem_cons.mpr ⟨lw_p42, List.forall_mem_cons.mpr ⟨lw_p43, List.forall_mem_cons.mpr ⟨lw_p44, List.forall_mem_cons.mpr ⟨lw_p45, List.forall_mem_cons.mpr ⟨lw_p46, List.forall_mem_cons.mpr ⟨lw_p47, fun _ h => absurd h List.not_mem_nil⟩⟩⟩⟩⟩⟩⟩⟩⟩⟩⟩⟩⟩⟩⟩⟩
theorem lw_p48 : lw_okq (⟨"AnsTablesModel", "readSign", "(I)V"⟩, 34) := ⟨⟨by decide +kernel, by decide +kernel⟩, List.mem_of_getElem? (i := 688) (by decide +kernel), List.mem_of_getElem? (i := 953) (by decide +kernel), List.mem_of_getElem? (i := 954) (by decide +kernel)⟩
theorem lw_p49 : lw_okq (⟨"AnsTablesModel", "readSides", "(I)I"⟩, 34) := ⟨⟨by decide +kernel, by decide +kernel⟩, List.mem_of_getElem? (i := 688) (by decide +kernel), List.mem_of_getElem? (i := 957) (by decide +kernel), List.mem_of_getElem? (i := 958) (by decide +kernel)⟩
theorem lw_p50 : lw_okq (⟨"AnsTablesModel", "readBytes", "(III)V"⟩, 34) := ⟨⟨by decide +kernel, by decide +kernel⟩, List.mem_of_getElem? (i := 688) (by decide +kernel), List.mem_of_getElem? (i := 961) (by decide +kernel), List.mem_of_getElem? (i := 962) (by decide +kernel)⟩
theorem lw_p51 : lw_okq (⟨"AnsTablesModel", "signOf", "(I)I"⟩, 34) := ⟨⟨by decide +kernel, by decide +kernel⟩, List.mem_of_getElem? (i := 688) (by decide +kernel), List.mem_of_getElem? (i := 965) (by decide +kernel), List.mem_of_getElem? (i := 966) (by decide +kernel)⟩
theorem lw_p52 : lw_okq (⟨"AnsTablesModel", "readWords", "(III)V"⟩, 34) := ⟨⟨by decide +kernel, by decide +kernel⟩, List.mem_of_getElem? (i := 688) (by decide +kernel), List.mem_of_getElem? (i := 969) (by decide +kernel), List.mem_of_getElem? (i := 970) (by decide +kernel)⟩
def lw_privs_4 : List (MethodName × Nat) := [(⟨"AnsTablesModel", "readSign", "(I)V"⟩, 34), (⟨"AnsTablesModel", "readSides", "(I)I"⟩, 34), (⟨"AnsTablesModel", "readBytes", "(III)V"⟩, 34), (⟨"AnsTablesModel", "signOf", "(I)I"⟩, 34), (⟨"AnsTablesModel", "readWords", "(III)V"⟩, 34)]
theorem lw_r4 : ∀ q ∈ lw_privs_4, lw_okq q := List.forall_mem_cons.mpr ⟨lw_p48, List.forall_mem_cons.mpr ⟨lw_p49, List.forall_mem_cons.mpr ⟨lw_p50, List.forall_mem_cons.mpr ⟨lw_p51, List.forall_mem_cons.mpr ⟨lw_p52, fun _ h => absurd h List.not_mem_nil⟩⟩⟩⟩⟩
def lw_privs : List (MethodName × Nat) := lw_privs_1 ++ (lw_privs_2 ++ (lw_privs_3 ++ (lw_privs_4)))
def lw_tbl : List Cond := k2_sels lw_privs ++ tables_1
theorem lw_privs_ok : ∀ q ∈ lw_privs, lw_okq q := by
  show ∀ q ∈ lw_privs_1 ++ (lw_privs_2 ++ (lw_privs_3 ++ (lw_privs_4))), lw_okq q
  exact List.forall_mem_append.mpr ⟨lw_r1, List.forall_mem_append.mpr ⟨lw_r2, List.forall_mem_append.mpr ⟨lw_r3, lw_r4⟩⟩⟩
end
section
/-! ===== BEGIN words of one list among another's, by their places ===== -/
theorem goodIn_r {big : List Cond} (ws : List Cond) (ps : List Nat) (hp : ws = ps.filterMap (fun i => big[i]?)) (h : ws.all goodWord = true) : GoodIn big ws := by
  intro w hw
  have h1 := List.all_eq_true.mp h w hw
  rw [hp] at hw
  obtain ⟨i, -, hi⟩ := List.mem_filterMap.mp hw
  have hm : w ∈ big := by first | exact List.mem_of_getElem? hi | exact List.getElem?_mem hi
  exact ⟨hm, good_of_word h1⟩
theorem goodIn_app {big a b : List Cond} (ha : GoodIn big a) (hb : GoodIn big b) : GoodIn big (a ++ b) := fun w h => (List.mem_append.mp h).elim (ha w) (hb w)
theorem goodIn_ca {big a b : List Cond} {c : Cond} (ha : GoodIn big (c :: a)) (hb : GoodIn big b) : GoodIn big (c :: (a ++ b)) := fun w h => (List.mem_cons.mp h).elim (fun e => ha w (List.mem_cons.mpr (Or.inl e))) (fun h => (List.mem_append.mp h).elim (fun h => ha w (List.mem_cons.mpr (Or.inr h))) (hb w))
theorem goodIn_sub {big ws : List Cond} (hm : ∀ w ∈ ws, w ∈ big) (h : ws.all goodWord = true) : GoodIn big ws := fun w hw => ⟨hm w hw, good_of_word (List.all_eq_true.mp h w hw)⟩
/-! ===== END ===== -/

/-! ===== BEGIN printed: names, fields, word lists, decode rows ===== -/
def RX0 : String := "AnsTables$Logs"
def TX0 : u_T := fun k => match k with
  | _ => ("AnsTables$Logs", "known", "[J", true)
def tyX0 : Nat → FieldType := fun k => match k with
  | _ => .array .long
abbrev wsX00 : List Cond := u_ws RX0 TX0 1
theorem nmX0 : ∀ a, a < 1 → ∀ b, b < 1 → a ≠ b → (TX0 a).2.1 ≠ (TX0 b).2.1 := by decide +kernel
theorem tyX0_ok : ∀ k, k < 1 → parseFieldDescriptor (TX0 k).2.2.1 = some (tyX0 k) := by decide +kernel
abbrev cX0_init : ByteArray := prog_2_method_1_code
def yX0_init : MethodName := ⟨RX0, "<init>", "(I)V"⟩
abbrev cX0_of : ByteArray := prog_2_method_2_code
def yX0_of : MethodName := ⟨RX0, "of", "(I)J"⟩
abbrev cX0_reckon : ByteArray := prog_2_method_3_code
def yX0_reckon : MethodName := ⟨RX0, "reckon", "(I)J"⟩
def RX1 : String := "AnsTables$Octets"
def TX1 : u_T := fun k => match k with
  | 0 => ("AnsTables$Octets", "values", "[I", false)
  | 1 => ("AnsTables$Octets", "length", "I", false)
  | _ => ("AnsTables$Octets", "spareBits", "I", false)
def tyX1 : Nat → FieldType := fun k => match k with
  | 0 => .array .int
  | 1 => .int
  | _ => .int
abbrev wsX10 : List Cond := u_ws RX1 TX1 3
theorem nmX1 : ∀ a, a < 3 → ∀ b, b < 3 → a ≠ b → (TX1 a).2.1 ≠ (TX1 b).2.1 := by decide +kernel
theorem tyX1_ok : ∀ k, k < 3 → parseFieldDescriptor (TX1 k).2.2.1 = some (tyX1 k) := by decide +kernel
abbrev cX1_init : ByteArray := prog_3_method_1_code
def yX1_init : MethodName := ⟨RX1, "<init>", "()V"⟩
abbrev cX1_restart : ByteArray := prog_3_method_2_code
def yX1_restart : MethodName := ⟨RX1, "restart", "()V"⟩
abbrev cX1_append : ByteArray := prog_3_method_3_code
def yX1_append : MethodName := ⟨RX1, "append", "(I)Z"⟩
abbrev cX1_valueAt : ByteArray := prog_3_method_4_code
def yX1_valueAt : MethodName := ⟨RX1, "valueAt", "(I)I"⟩
abbrev cX1_change : ByteArray := prog_3_method_5_code
def yX1_change : MethodName := ⟨RX1, "change", "(II)I"⟩
abbrev cX1_appendNumber : ByteArray := prog_3_method_6_code
def yX1_appendNumber : MethodName := ⟨RX1, "appendNumber", "(JI)V"⟩
abbrev cX1_appendBits : ByteArray := prog_3_method_7_code
def yX1_appendBits : MethodName := ⟨RX1, "appendBits", "(II)V"⟩
def RX2 : String := "AnsTables$Pile"
def TX2 : u_T := fun k => match k with
  | 0 => ("AnsTables$Pile", "values", "[I", false)
  | _ => ("AnsTables$Pile", "bits", "I", false)
def tyX2 : Nat → FieldType := fun k => match k with
  | 0 => .array .int
  | _ => .int
abbrev wsX20 : List Cond := u_ws RX2 TX2 2
theorem nmX2 : ∀ a, a < 2 → ∀ b, b < 2 → a ≠ b → (TX2 a).2.1 ≠ (TX2 b).2.1 := by decide +kernel
theorem tyX2_ok : ∀ k, k < 2 → parseFieldDescriptor (TX2 k).2.2.1 = some (tyX2 k) := by decide +kernel
abbrev cX2_init : ByteArray := prog_4_method_1_code
def yX2_init : MethodName := ⟨RX2, "<init>", "()V"⟩
abbrev cX2_empty : ByteArray := prog_4_method_2_code
def yX2_empty : MethodName := ⟨RX2, "empty", "()V"⟩
abbrev cX2_makeRoomForSign : ByteArray := prog_4_method_3_code
def yX2_makeRoomForSign : MethodName := ⟨RX2, "makeRoomForSign", "()V"⟩
abbrev cX2_pushOctet : ByteArray := prog_4_method_4_code
def yX2_pushOctet : MethodName := ⟨RX2, "pushOctet", "(I)V"⟩
abbrev cX2_pushBit : ByteArray := prog_4_method_5_code
def yX2_pushBit : MethodName := ⟨RX2, "pushBit", "(I)V"⟩
abbrev cX2_pourInto : ByteArray := prog_4_method_6_code
def yX2_pourInto : MethodName := ⟨RX2, "pourInto", "(LAnsTables$Octets;)V"⟩
def RX3 : String := "AnsTables$Reader"
def TX3 : u_T := fun k => match k with
  | 0 => ("AnsTables$Reader", "shares", "LAnsTables$Shares;", true)
  | 1 => ("AnsTables$Reader", "states", "[J", true)
  | 2 => ("AnsTables$Reader", "signs", "[I", false)
  | 3 => ("AnsTables$Reader", "length", "I", false)
  | 4 => ("AnsTables$Reader", "broken", "I", false)
  | 5 => ("AnsTables$Reader", "bytesRead", "I", false)
  | 6 => ("AnsTables$Reader", "lastByte", "I", false)
  | 7 => ("AnsTables$Reader", "bitsLeft", "I", false)
  | 8 => ("AnsTables$Reader", "form", "I", false)
  | 9 => ("AnsTables$Reader", "laneCount", "I", false)
  | 10 => ("AnsTables$Reader", "due", "I", false)
  | _ => ("AnsTables$Reader", "hasStates", "Z", false)
def tyX3 : Nat → FieldType := fun k => match k with
  | 0 => .object "AnsTables$Shares"
  | 1 => .array .long
  | 2 => .array .int
  | 3 => .int
  | 4 => .int
  | 5 => .int
  | 6 => .int
  | 7 => .int
  | 8 => .int
  | 9 => .int
  | 10 => .int
  | _ => .boolean
abbrev wsX30 : List Cond := u_ws RX3 TX3 12
theorem nmX3 : ∀ a, a < 12 → ∀ b, b < 12 → a ≠ b → (TX3 a).2.1 ≠ (TX3 b).2.1 := by decide +kernel
theorem tyX3_ok : ∀ k, k < 12 → parseFieldDescriptor (TX3 k).2.2.1 = some (tyX3 k) := by decide +kernel
abbrev cX3_init : ByteArray := prog_5_method_1_code
def yX3_init : MethodName := ⟨RX3, "<init>", "()V"⟩
abbrev cX3_takeIn : ByteArray := prog_5_method_2_code
def yX3_takeIn : MethodName := ⟨RX3, "takeIn", "(LAnsTables$Octets;)I"⟩
abbrev cX3_signAt : ByteArray := prog_5_method_3_code
def yX3_signAt : MethodName := ⟨RX3, "signAt", "(I)I"⟩
abbrev cX3_takeHead : ByteArray := prog_5_method_4_code
def yX3_takeHead : MethodName := ⟨RX3, "takeHead", "(LAnsTables$Octets;)V"⟩
abbrev cX3_takeTable : ByteArray := prog_5_method_5_code
def yX3_takeTable : MethodName := ⟨RX3, "takeTable", "(LAnsTables$Octets;)V"⟩
abbrev cX3_takeStates : ByteArray := prog_5_method_6_code
def yX3_takeStates : MethodName := ⟨RX3, "takeStates", "(LAnsTables$Octets;)V"⟩
abbrev cX3_takeRow : ByteArray := prog_5_method_7_code
def yX3_takeRow : MethodName := ⟨RX3, "takeRow", "(LAnsTables$Octets;)V"⟩
abbrev cX3_keep : ByteArray := prog_5_method_8_code
def yX3_keep : MethodName := ⟨RX3, "keep", "(I)V"⟩
abbrev cX3_takeSign : ByteArray := prog_5_method_9_code
def yX3_takeSign : MethodName := ⟨RX3, "takeSign", "(ILAnsTables$Octets;)I"⟩
abbrev cX3_restOf : ByteArray := prog_5_method_10_code
def yX3_restOf : MethodName := ⟨RX3, "restOf", "(I)I"⟩
abbrev cX3_narrow : ByteArray := prog_5_method_11_code
def yX3_narrow : MethodName := ⟨RX3, "narrow", "(IIILAnsTables$Octets;)V"⟩
abbrev cX3_takeByTable : ByteArray := prog_5_method_12_code
def yX3_takeByTable : MethodName := ⟨RX3, "takeByTable", "(ILAnsTables$Octets;)I"⟩
abbrev cX3_takeTwoSided : ByteArray := prog_5_method_13_code
def yX3_takeTwoSided : MethodName := ⟨RX3, "takeTwoSided", "(ILAnsTables$Octets;)I"⟩
abbrev cX3_judgeEnd : ByteArray := prog_5_method_14_code
def yX3_judgeEnd : MethodName := ⟨RX3, "judgeEnd", "(LAnsTables$Octets;)V"⟩
abbrev cX3_nextNumber : ByteArray := prog_5_method_15_code
def yX3_nextNumber : MethodName := ⟨RX3, "nextNumber", "(LAnsTables$Octets;I)J"⟩
abbrev cX3_nextBits : ByteArray := prog_5_method_16_code
def yX3_nextBits : MethodName := ⟨RX3, "nextBits", "(LAnsTables$Octets;I)I"⟩
abbrev cX3_restIsSet : ByteArray := prog_5_method_17_code
def yX3_restIsSet : MethodName := ⟨RX3, "restIsSet", "()Z"⟩
def RX4 : String := "AnsTables$Shares"
def TX4 : u_T := fun k => match k with
  | 0 => ("AnsTables$Shares", "log", "I", false)
  | 1 => ("AnsTables$Shares", "size", "I", false)
  | 2 => ("AnsTables$Shares", "made", "Z", false)
  | 3 => ("AnsTables$Shares", "share", "[I", true)
  | 4 => ("AnsTables$Shares", "from", "[I", true)
  | 5 => ("AnsTables$Shares", "gain", "[J", true)
  | 6 => ("AnsTables$Shares", "seen", "[I", true)
  | 7 => ("AnsTables$Shares", "isSpread", "Z", false)
  | 8 => ("AnsTables$Shares", "signs", "[I", false)
  | 9 => ("AnsTables$Shares", "numbers", "[I", false)
  | _ => ("AnsTables$Shares", "places", "[I", false)
def tyX4 : Nat → FieldType := fun k => match k with
  | 0 => .int
  | 1 => .int
  | 2 => .boolean
  | 3 => .array .int
  | 4 => .array .int
  | 5 => .array .long
  | 6 => .array .int
  | 7 => .boolean
  | 8 => .array .int
  | 9 => .array .int
  | _ => .array .int
abbrev wsX40 : List Cond := u_ws RX4 TX4 11
theorem nmX4 : ∀ a, a < 11 → ∀ b, b < 11 → a ≠ b → (TX4 a).2.1 ≠ (TX4 b).2.1 := by decide +kernel
theorem tyX4_ok : ∀ k, k < 11 → parseFieldDescriptor (TX4 k).2.2.1 = some (tyX4 k) := by decide +kernel
abbrev cX4_init : ByteArray := prog_6_method_1_code
def yX4_init : MethodName := ⟨RX4, "<init>", "(I)V"⟩
abbrev cX4_forget : ByteArray := prog_6_method_2_code
def yX4_forget : MethodName := ⟨RX4, "forget", "()V"⟩
abbrev cX4_beginWith : ByteArray := prog_6_method_3_code
def yX4_beginWith : MethodName := ⟨RX4, "beginWith", "(I)V"⟩
abbrev cX4_give : ByteArray := prog_6_method_4_code
def yX4_give : MethodName := ⟨RX4, "give", "(II)V"⟩
abbrev cX4_finish : ByteArray := prog_6_method_5_code
def yX4_finish : MethodName := ⟨RX4, "finish", "()V"⟩
abbrev cX4_shareOf : ByteArray := prog_6_method_6_code
def yX4_shareOf : MethodName := ⟨RX4, "shareOf", "(I)I"⟩
abbrev cX4_fromOf : ByteArray := prog_6_method_7_code
def yX4_fromOf : MethodName := ⟨RX4, "fromOf", "(I)I"⟩
abbrev cX4_howMany : ByteArray := prog_6_method_8_code
def yX4_howMany : MethodName := ⟨RX4, "howMany", "()I"⟩
abbrev cX4_makeOf : ByteArray := prog_6_method_9_code
def yX4_makeOf : MethodName := ⟨RX4, "makeOf", "([ILAnsTables$Logs;)V"⟩
abbrev cX4_gainOf : ByteArray := prog_6_method_10_code
def yX4_gainOf : MethodName := ⟨RX4, "gainOf", "(IILAnsTables$Logs;)J"⟩
abbrev cX4_greatestGain : ByteArray := prog_6_method_11_code
def yX4_greatestGain : MethodName := ⟨RX4, "greatestGain", "()I"⟩
abbrev cX4_signOver : ByteArray := prog_6_method_12_code
def yX4_signOver : MethodName := ⟨RX4, "signOver", "(I)I"⟩
abbrev cX4_shareOfZero : ByteArray := prog_6_method_13_code
def yX4_shareOfZero : MethodName := ⟨RX4, "shareOfZero", "(II)I"⟩
abbrev cX4_makeSpread : ByteArray := prog_6_method_14_code
def yX4_makeSpread : MethodName := ⟨RX4, "makeSpread", "()V"⟩
abbrev cX4_numberPlaces : ByteArray := prog_6_method_15_code
def yX4_numberPlaces : MethodName := ⟨RX4, "numberPlaces", "()V"⟩
abbrev cX4_signAt : ByteArray := prog_6_method_16_code
def yX4_signAt : MethodName := ⟨RX4, "signAt", "(I)I"⟩
abbrev cX4_numberAt : ByteArray := prog_6_method_17_code
def yX4_numberAt : MethodName := ⟨RX4, "numberAt", "(I)I"⟩
abbrev cX4_placeOf : ByteArray := prog_6_method_18_code
def yX4_placeOf : MethodName := ⟨RX4, "placeOf", "(II)I"⟩
def RX5 : String := "AnsTables$Writer"
def TX5 : u_T := fun k => match k with
  | 0 => ("AnsTables$Writer", "states", "[J", true)
  | 1 => ("AnsTables$Writer", "pile", "LAnsTables$Pile;", true)
  | 2 => ("AnsTables$Writer", "laneCount", "I", false)
  | _ => ("AnsTables$Writer", "done", "Z", false)
def tyX5 : Nat → FieldType := fun k => match k with
  | 0 => .array .long
  | 1 => .object "AnsTables$Pile"
  | 2 => .int
  | _ => .boolean
abbrev wsX50 : List Cond := u_ws RX5 TX5 4
theorem nmX5 : ∀ a, a < 4 → ∀ b, b < 4 → a ≠ b → (TX5 a).2.1 ≠ (TX5 b).2.1 := by decide +kernel
theorem tyX5_ok : ∀ k, k < 4 → parseFieldDescriptor (TX5 k).2.2.1 = some (tyX5 k) := by decide +kernel
abbrev cX5_init : ByteArray := prog_7_method_1_code
def yX5_init : MethodName := ⟨RX5, "<init>", "()V"⟩
abbrev cX5_writeRow : ByteArray := prog_7_method_2_code
def yX5_writeRow : MethodName := ⟨RX5, "writeRow", "([IILAnsTables$Shares;IILAnsTables$Octets;)V"⟩
abbrev cX5_putHead : ByteArray := prog_7_method_3_code
def yX5_putHead : MethodName := ⟨RX5, "putHead", "(IILAnsTables$Shares;LAnsTables$Octets;)V"⟩
abbrev cX5_putTable : ByteArray := prog_7_method_4_code
def yX5_putTable : MethodName := ⟨RX5, "putTable", "(LAnsTables$Shares;LAnsTables$Octets;)V"⟩
abbrev cX5_putSign : ByteArray := prog_7_method_5_code
def yX5_putSign : MethodName := ⟨RX5, "putSign", "(IIILAnsTables$Shares;)V"⟩
abbrev cX5_widen : ByteArray := prog_7_method_6_code
def yX5_widen : MethodName := ⟨RX5, "widen", "(IIIII)V"⟩
abbrev cX5_putByTable : ByteArray := prog_7_method_7_code
def yX5_putByTable : MethodName := ⟨RX5, "putByTable", "(IILAnsTables$Shares;)V"⟩
abbrev cX5_putTwoSided : ByteArray := prog_7_method_8_code
def yX5_putTwoSided : MethodName := ⟨RX5, "putTwoSided", "(IILAnsTables$Shares;)V"⟩
def RX6 : String := "AnsTables"
def TX6 : u_T := fun k => match k with
  | 0 => ("AnsTables", "logs", "LAnsTables$Logs;", true)
  | 1 => ("AnsTables", "shares", "LAnsTables$Shares;", true)
  | 2 => ("AnsTables", "writer", "LAnsTables$Writer;", true)
  | 3 => ("AnsTables", "reader", "LAnsTables$Reader;", true)
  | 4 => ("AnsTables", "octets", "LAnsTables$Octets;", true)
  | 5 => ("AnsTables", "tally", "[I", true)
  | 6 => ("AnsTables", "row", "[I", false)
  | 7 => ("AnsTables", "rowLength", "I", false)
  | 8 => ("AnsTables", "kind", "I", false)
  | _ => ("AnsTables", "laneCount", "I", false)
def tyX6 : Nat → FieldType := fun k => match k with
  | 0 => .object "AnsTables$Logs"
  | 1 => .object "AnsTables$Shares"
  | 2 => .object "AnsTables$Writer"
  | 3 => .object "AnsTables$Reader"
  | 4 => .object "AnsTables$Octets"
  | 5 => .array .int
  | 6 => .array .int
  | 7 => .int
  | 8 => .int
  | _ => .int
abbrev wsX60 : List Cond := u_ws RX6 TX6 10
theorem nmX6 : ∀ a, a < 10 → ∀ b, b < 10 → a ≠ b → (TX6 a).2.1 ≠ (TX6 b).2.1 := by decide +kernel
theorem tyX6_ok : ∀ k, k < 10 → parseFieldDescriptor (TX6 k).2.2.1 = some (tyX6 k) := by decide +kernel
abbrev cX6_init : ByteArray := prog_1_method_1_code
def yX6_init : MethodName := ⟨RX6, "<init>", "(I)V"⟩
abbrev cX6_add : ByteArray := prog_1_method_2_code
def yX6_add : MethodName := ⟨RX6, "add", "(I)I"⟩
abbrev cX6_clear : ByteArray := prog_1_method_3_code
def yX6_clear : MethodName := ⟨RX6, "clear", "()I"⟩
abbrev cX6_count : ByteArray := prog_1_method_4_code
def yX6_count : MethodName := ⟨RX6, "count", "(II)I"⟩
abbrev cX6_counts : ByteArray := prog_1_method_5_code
def yX6_counts : MethodName := ⟨RX6, "counts", "()I"⟩
abbrev cX6_normal : ByteArray := prog_1_method_6_code
def yX6_normal : MethodName := ⟨RX6, "normal", "()I"⟩
abbrev cX6_share : ByteArray := prog_1_method_7_code
def yX6_share : MethodName := ⟨RX6, "share", "(I)I"⟩
abbrev cX6_loss : ByteArray := prog_1_method_8_code
def yX6_loss : MethodName := ⟨RX6, "loss", "()J"⟩
abbrev cX6_lg : ByteArray := prog_1_method_9_code
def yX6_lg : MethodName := ⟨RX6, "lg", "(I)J"⟩
abbrev cX6_form : ByteArray := prog_1_method_10_code
def yX6_form : MethodName := ⟨RX6, "form", "(I)I"⟩
abbrev cX6_lanes : ByteArray := prog_1_method_11_code
def yX6_lanes : MethodName := ⟨RX6, "lanes", "(I)I"⟩
abbrev cX6_write : ByteArray := prog_1_method_12_code
def yX6_write : MethodName := ⟨RX6, "write", "()I"⟩
abbrev cX6_read : ByteArray := prog_1_method_13_code
def yX6_read : MethodName := ⟨RX6, "read", "()I"⟩
abbrev cX6_rule : ByteArray := prog_1_method_14_code
def yX6_rule : MethodName := ⟨RX6, "rule", "()I"⟩
abbrev cX6_sign : ByteArray := prog_1_method_15_code
def yX6_sign : MethodName := ⟨RX6, "sign", "(I)I"⟩
abbrev cX6_spread : ByteArray := prog_1_method_16_code
def yX6_spread : MethodName := ⟨RX6, "spread", "(I)I"⟩
abbrev cX6_state : ByteArray := prog_1_method_17_code
def yX6_state : MethodName := ⟨RX6, "state", "(II)J"⟩
abbrev cX6_out : ByteArray := prog_1_method_18_code
def yX6_out : MethodName := ⟨RX6, "out", "(I)I"⟩
abbrev cX6_spoil : ByteArray := prog_1_method_19_code
def yX6_spoil : MethodName := ⟨RX6, "spoil", "(II)I"⟩
abbrev cX6_cut : ByteArray := prog_1_method_20_code
def yX6_cut : MethodName := ⟨RX6, "cut", "(I)I"⟩
abbrev cX6_octet : ByteArray := prog_1_method_21_code
def yX6_octet : MethodName := ⟨RX6, "octet", "(I)I"⟩
abbrev cX6_agree : ByteArray := prog_1_method_22_code
def yX6_agree : MethodName := ⟨RX6, "agree", "()I"⟩
abbrev cX6_told : ByteArray := prog_1_method_23_code
def yX6_told : MethodName := ⟨RX6, "told", "(I)I"⟩
abbrev cX6_isWritable : ByteArray := prog_1_method_24_code
def yX6_isWritable : MethodName := ⟨RX6, "isWritable", "()Z"⟩
abbrev cX6_readIsRow : ByteArray := prog_1_method_25_code
def yX6_readIsRow : MethodName := ⟨RX6, "readIsRow", "()Z"⟩
abbrev cX6_isSign : ByteArray := prog_1_method_26_code
def yX6_isSign : MethodName := ⟨RX6, "isSign", "(I)Z"⟩
abbrev cX6_withRoom : ByteArray := prog_1_method_27_code
def yX6_withRoom : MethodName := ⟨RX6, "withRoom", "([III)[I"⟩
abbrev cX6_bitLength : ByteArray := prog_1_method_28_code
def yX6_bitLength : MethodName := ⟨RX6, "bitLength", "(I)I"⟩
abbrev cX6_firstState : ByteArray := prog_1_method_29_code
def yX6_firstState : MethodName := ⟨RX6, "firstState", "(II)J"⟩
abbrev cX6_lastState : ByteArray := prog_1_method_30_code
def yX6_lastState : MethodName := ⟨RX6, "lastState", "(II)J"⟩
abbrev cX6_stateWidth : ByteArray := prog_1_method_31_code
def yX6_stateWidth : MethodName := ⟨RX6, "stateWidth", "(I)I"⟩
def RX7 : String := "AnsTablesModel"
def TX7 : u_T := fun k => match k with
  | 0 => ("AnsTablesModel", "log", "I", true)
  | 1 => ("AnsTablesModel", "thrown", "I", false)
  | 2 => ("AnsTablesModel", "kind", "I", false)
  | 3 => ("AnsTablesModel", "lanes", "I", false)
  | 4 => ("AnsTablesModel", "row", "[I", true)
  | 5 => ("AnsTablesModel", "rowSize", "I", false)
  | 6 => ("AnsTablesModel", "counts", "[I", true)
  | 7 => ("AnsTablesModel", "hasShares", "Z", false)
  | 8 => ("AnsTablesModel", "share", "[I", true)
  | 9 => ("AnsTablesModel", "from", "[I", true)
  | 10 => ("AnsTablesModel", "logOf", "[I", true)
  | 11 => ("AnsTablesModel", "signAt", "[I", true)
  | 12 => ("AnsTablesModel", "numberAt", "[I", true)
  | 13 => ("AnsTablesModel", "placeOf", "[I", true)
  | 14 => ("AnsTablesModel", "out", "[I", true)
  | 15 => ("AnsTablesModel", "outSize", "I", false)
  | 16 => ("AnsTablesModel", "state", "[J", true)
  | 17 => ("AnsTablesModel", "written", "[J", true)
  | 18 => ("AnsTablesModel", "writtenLanes", "I", false)
  | 19 => ("AnsTablesModel", "put", "[I", true)
  | 20 => ("AnsTablesModel", "putSize", "I", false)
  | 21 => ("AnsTablesModel", "bitAt", "I", false)
  | 22 => ("AnsTablesModel", "sideAll", "I", false)
  | 23 => ("AnsTablesModel", "sideZero", "I", false)
  | 24 => ("AnsTablesModel", "read", "[I", true)
  | 25 => ("AnsTablesModel", "readSize", "I", false)
  | 26 => ("AnsTablesModel", "at", "I", false)
  | 27 => ("AnsTablesModel", "broken", "I", false)
  | 28 => ("AnsTablesModel", "rule", "I", false)
  | 29 => ("AnsTablesModel", "bitLeft", "I", false)
  | 30 => ("AnsTablesModel", "readForm", "I", false)
  | 31 => ("AnsTablesModel", "readLanes", "I", false)
  | 32 => ("AnsTablesModel", "hasStates", "Z", false)
  | _ => ("AnsTablesModel", "now", "[J", true)
def tyX7 : Nat → FieldType := fun k => match k with
  | 0 => .int
  | 1 => .int
  | 2 => .int
  | 3 => .int
  | 4 => .array .int
  | 5 => .int
  | 6 => .array .int
  | 7 => .boolean
  | 8 => .array .int
  | 9 => .array .int
  | 10 => .array .int
  | 11 => .array .int
  | 12 => .array .int
  | 13 => .array .int
  | 14 => .array .int
  | 15 => .int
  | 16 => .array .long
  | 17 => .array .long
  | 18 => .int
  | 19 => .array .int
  | 20 => .int
  | 21 => .int
  | 22 => .int
  | 23 => .int
  | 24 => .array .int
  | 25 => .int
  | 26 => .int
  | 27 => .int
  | 28 => .int
  | 29 => .int
  | 30 => .int
  | 31 => .int
  | 32 => .boolean
  | _ => .array .long
abbrev wsX70 : List Cond := u_ws RX7 TX7 34
theorem nmX7 : ∀ a, a < 34 → ∀ b, b < 34 → a ≠ b → (TX7 a).2.1 ≠ (TX7 b).2.1 := by decide +kernel
theorem tyX7_ok : ∀ k, k < 34 → parseFieldDescriptor (TX7 k).2.2.1 = some (tyX7 k) := by decide +kernel
abbrev cX7_init : ByteArray := prog_9_method_1_code
def yX7_init : MethodName := ⟨RX7, "<init>", "(I)V"⟩
abbrev cX7_add : ByteArray := prog_9_method_3_code
def yX7_add : MethodName := ⟨RX7, "add", "(I)I"⟩
abbrev cX7_clear : ByteArray := prog_9_method_4_code
def yX7_clear : MethodName := ⟨RX7, "clear", "()I"⟩
abbrev cX7_count : ByteArray := prog_9_method_5_code
def yX7_count : MethodName := ⟨RX7, "count", "(II)I"⟩
abbrev cX7_counts : ByteArray := prog_9_method_6_code
def yX7_counts : MethodName := ⟨RX7, "counts", "()I"⟩
abbrev cX7_signsCounted : ByteArray := prog_9_method_7_code
def yX7_signsCounted : MethodName := ⟨RX7, "signsCounted", "()I"⟩
abbrev cX7_logarithm : ByteArray := prog_9_method_8_code
def yX7_logarithm : MethodName := ⟨RX7, "logarithm", "(I)J"⟩
abbrev cX7_lg : ByteArray := prog_9_method_9_code
def yX7_lg : MethodName := ⟨RX7, "lg", "(I)J"⟩
abbrev cX7_normal : ByteArray := prog_9_method_10_code
def yX7_normal : MethodName := ⟨RX7, "normal", "()I"⟩
abbrev cX7_lay : ByteArray := prog_9_method_11_code
def yX7_lay : MethodName := ⟨RX7, "lay", "(I)V"⟩
abbrev cX7_share : ByteArray := prog_9_method_12_code
def yX7_share : MethodName := ⟨RX7, "share", "(I)I"⟩
abbrev cX7_loss : ByteArray := prog_9_method_13_code
def yX7_loss : MethodName := ⟨RX7, "loss", "()J"⟩
abbrev cX7_spread : ByteArray := prog_9_method_14_code
def yX7_spread : MethodName := ⟨RX7, "spread", "(I)I"⟩
abbrev cX7_form : ByteArray := prog_9_method_15_code
def yX7_form : MethodName := ⟨RX7, "form", "(I)I"⟩
abbrev cX7_lanes : ByteArray := prog_9_method_16_code
def yX7_lanes : MethodName := ⟨RX7, "lanes", "(I)I"⟩
abbrev cX7_firstState : ByteArray := prog_9_method_17_code
def yX7_firstState : MethodName := ⟨RX7, "firstState", "(II)J"⟩
abbrev cX7_putByte : ByteArray := prog_9_method_18_code
def yX7_putByte : MethodName := ⟨RX7, "putByte", "(I)V"⟩
abbrev cX7_putWide : ByteArray := prog_9_method_19_code
def yX7_putWide : MethodName := ⟨RX7, "putWide", "(JI)V"⟩
abbrev cX7_putBits : ByteArray := prog_9_method_20_code
def yX7_putBits : MethodName := ⟨RX7, "putBits", "(II)V"⟩
abbrev cX7_bitsOf : ByteArray := prog_9_method_21_code
def yX7_bitsOf : MethodName := ⟨RX7, "bitsOf", "(I)I"⟩
abbrev cX7_writeTable : ByteArray := prog_9_method_22_code
def yX7_writeTable : MethodName := ⟨RX7, "writeTable", "()V"⟩
abbrev cX7_writeBytes : ByteArray := prog_9_method_23_code
def yX7_writeBytes : MethodName := ⟨RX7, "writeBytes", "(III)V"⟩
abbrev cX7_writeWords : ByteArray := prog_9_method_24_code
def yX7_writeWords : MethodName := ⟨RX7, "writeWords", "(III)V"⟩
abbrev cX7_writeBitsOf : ByteArray := prog_9_method_25_code
def yX7_writeBitsOf : MethodName := ⟨RX7, "writeBitsOf", "(III)V"⟩
abbrev cX7_laySides : ByteArray := prog_9_method_26_code
def yX7_laySides : MethodName := ⟨RX7, "laySides", "(III)V"⟩
abbrev cX7_sideChance : ByteArray := prog_9_method_27_code
def yX7_sideChance : MethodName := ⟨RX7, "sideChance", "(I)I"⟩
abbrev cX7_writeSides : ByteArray := prog_9_method_28_code
def yX7_writeSides : MethodName := ⟨RX7, "writeSides", "(II)V"⟩
abbrev cX7_mayWrite : ByteArray := prog_9_method_29_code
def yX7_mayWrite : MethodName := ⟨RX7, "mayWrite", "()Z"⟩
abbrev cX7_writeForm : ByteArray := prog_9_method_30_code
def yX7_writeForm : MethodName := ⟨RX7, "writeForm", "(I)V"⟩
abbrev cX7_write : ByteArray := prog_9_method_31_code
def yX7_write : MethodName := ⟨RX7, "write", "()I"⟩
abbrev cX7_fail : ByteArray := prog_9_method_32_code
def yX7_fail : MethodName := ⟨RX7, "fail", "(I)V"⟩
abbrev cX7_next : ByteArray := prog_9_method_33_code
def yX7_next : MethodName := ⟨RX7, "next", "()I"⟩
abbrev cX7_nextWide : ByteArray := prog_9_method_34_code
def yX7_nextWide : MethodName := ⟨RX7, "nextWide", "(I)J"⟩
abbrev cX7_nextBit : ByteArray := prog_9_method_35_code
def yX7_nextBit : MethodName := ⟨RX7, "nextBit", "()I"⟩
abbrev cX7_readTable : ByteArray := prog_9_method_36_code
def yX7_readTable : MethodName := ⟨RX7, "readTable", "()V"⟩
abbrev cX7_isInSpan : ByteArray := prog_9_method_37_code
def yX7_isInSpan : MethodName := ⟨RX7, "isInSpan", "(J)Z"⟩
abbrev cX7_signOf : ByteArray := prog_9_method_38_code
def yX7_signOf : MethodName := ⟨RX7, "signOf", "(I)I"⟩
abbrev cX7_readBytes : ByteArray := prog_9_method_39_code
def yX7_readBytes : MethodName := ⟨RX7, "readBytes", "(III)V"⟩
abbrev cX7_readSign : ByteArray := prog_9_method_40_code
def yX7_readSign : MethodName := ⟨RX7, "readSign", "(I)V"⟩
abbrev cX7_readWords : ByteArray := prog_9_method_41_code
def yX7_readWords : MethodName := ⟨RX7, "readWords", "(III)V"⟩
abbrev cX7_readSides : ByteArray := prog_9_method_42_code
def yX7_readSides : MethodName := ⟨RX7, "readSides", "(I)I"⟩
abbrev cX7_readHead : ByteArray := prog_9_method_43_code
def yX7_readHead : MethodName := ⟨RX7, "readHead", "()I"⟩
abbrev cX7_readAll : ByteArray := prog_9_method_44_code
def yX7_readAll : MethodName := ⟨RX7, "readAll", "()V"⟩
abbrev cX7_read : ByteArray := prog_9_method_45_code
def yX7_read : MethodName := ⟨RX7, "read", "()I"⟩
abbrev cX7_rule : ByteArray := prog_9_method_46_code
def yX7_rule : MethodName := ⟨RX7, "rule", "()I"⟩
abbrev cX7_sign : ByteArray := prog_9_method_47_code
def yX7_sign : MethodName := ⟨RX7, "sign", "(I)I"⟩
abbrev cX7_state : ByteArray := prog_9_method_48_code
def yX7_state : MethodName := ⟨RX7, "state", "(II)J"⟩
abbrev cX7_out : ByteArray := prog_9_method_49_code
def yX7_out : MethodName := ⟨RX7, "out", "(I)I"⟩
abbrev cX7_spoil : ByteArray := prog_9_method_50_code
def yX7_spoil : MethodName := ⟨RX7, "spoil", "(II)I"⟩
abbrev cX7_cut : ByteArray := prog_9_method_51_code
def yX7_cut : MethodName := ⟨RX7, "cut", "(I)I"⟩
abbrev cX7_octet : ByteArray := prog_9_method_52_code
def yX7_octet : MethodName := ⟨RX7, "octet", "(I)I"⟩
abbrev cX7_agree : ByteArray := prog_9_method_53_code
def yX7_agree : MethodName := ⟨RX7, "agree", "()I"⟩
abbrev cX7_told : ByteArray := prog_9_method_54_code
def yX7_told : MethodName := ⟨RX7, "told", "(I)I"⟩
def RJx00060 : String := "java/lang/ArrayIndexOutOfBoundsException"
def TJx00060 : u_T := fun k => match k with
  | 0 => ("java/lang/Throwable", "cause", "Ljava/lang/Throwable;", false)
  | 1 => ("java/lang/Throwable", "stackTrace", "[Ljava/lang/StackTraceElement;", false)
  | 2 => ("java/lang/Throwable", "suppressedExceptions", "Ljava/util/List;", false)
  | 3 => ("java/lang/Throwable", "detailMessage", "Ljava/lang/String;", false)
  | 4 => ("java/lang/Throwable", "backtrace", "Ljava/lang/Object;", false)
  | _ => ("java/lang/Throwable", "depth", "I", false)
def tyJx00060 : Nat → FieldType := fun k => match k with
  | 0 => .object "java/lang/Throwable"
  | 1 => .array (.object "java/lang/StackTraceElement")
  | 2 => .object "java/util/List"
  | 3 => .object "java/lang/String"
  | 4 => .object "java/lang/Object"
  | _ => .int
abbrev wsJx000600 : List Cond := u_ws RJx00060 TJx00060 6
theorem nmJx00060 : ∀ a, a < 6 → ∀ b, b < 6 → a ≠ b → (TJx00060 a).2.1 ≠ (TJx00060 b).2.1 := by decide +kernel
theorem tyJx00060_ok : ∀ k, k < 6 → parseFieldDescriptor (TJx00060 k).2.2.1 = some (tyJx00060 k) := by decide +kernel
abbrev cJx00060_init_a7421 : ByteArray := prog_10_method_2_code
def yJx00060_init_a7421 : MethodName := ⟨RJx00060, "<init>", "(Ljava/lang/String;)V"⟩
def RJx8e188 : String := "java/lang/Cloneable"
def TJx8e188 : u_T := fun k => match k with
  | _ => ("", "", "", false)
def tyJx8e188 : Nat → FieldType := fun k => match k with
  | _ => .int
abbrev wsJx8e1880 : List Cond := u_ws RJx8e188 TJx8e188 0
theorem nmJx8e188 : ∀ a, a < 0 → ∀ b, b < 0 → a ≠ b → (TJx8e188 a).2.1 ≠ (TJx8e188 b).2.1 := by decide +kernel
theorem tyJx8e188_ok : ∀ k, k < 0 → parseFieldDescriptor (TJx8e188 k).2.2.1 = some (tyJx8e188 k) := by decide +kernel
def RJ9 : String := "java/lang/Math"
def TJ9 : u_T := fun k => match k with
  | _ => ("", "", "", false)
def tyJ9 : Nat → FieldType := fun k => match k with
  | _ => .int
abbrev wsJ90 : List Cond := u_ws RJ9 TJ9 0
theorem nmJ9 : ∀ a, a < 0 → ∀ b, b < 0 → a ≠ b → (TJ9 a).2.1 ≠ (TJ9 b).2.1 := by decide +kernel
theorem tyJ9_ok : ∀ k, k < 0 → parseFieldDescriptor (TJ9 k).2.2.1 = some (tyJ9 k) := by decide +kernel
abbrev cJ9_max_7cf53 : ByteArray := prog_14_method_65_code
def yJ9_max_7cf53 : MethodName := ⟨RJ9, "max", "(II)I"⟩
abbrev cJ9_min_7cf53 : ByteArray := prog_14_method_69_code
def yJ9_min_7cf53 : MethodName := ⟨RJ9, "min", "(II)I"⟩
def RJ0 : String := "java/lang/String"
def TJ0 : u_T := fun k => match k with
  | _ => ("", "", "", false)
def tyJ0 : Nat → FieldType := fun k => match k with
  | _ => .int
abbrev wsJ00 : List Cond := u_ws RJ0 TJ0 0
theorem nmJ0 : ∀ a, a < 0 → ∀ b, b < 0 → a ≠ b → (TJ0 a).2.1 ≠ (TJ0 b).2.1 := by decide +kernel
theorem tyJ0_ok : ∀ k, k < 0 → parseFieldDescriptor (TJ0 k).2.2.1 = some (tyJ0 k) := by decide +kernel
def RJ10 : String := "java/lang/System"
def TJ10 : u_T := fun k => match k with
  | _ => ("", "", "", false)
def tyJ10 : Nat → FieldType := fun k => match k with
  | _ => .int
abbrev wsJ100 : List Cond := u_ws RJ10 TJ10 0
theorem nmJ10 : ∀ a, a < 0 → ∀ b, b < 0 → a ≠ b → (TJ10 a).2.1 ≠ (TJ10 b).2.1 := by decide +kernel
theorem tyJ10_ok : ∀ k, k < 0 → parseFieldDescriptor (TJ10 k).2.2.1 = some (tyJ10 k) := by decide +kernel
def RJ7 : String := "java/util/Arrays"
def TJ7 : u_T := fun k => match k with
  | _ => ("", "", "", false)
def tyJ7 : Nat → FieldType := fun k => match k with
  | _ => .int
abbrev wsJ70 : List Cond := u_ws RJ7 TJ7 0
theorem nmJ7 : ∀ a, a < 0 → ∀ b, b < 0 → a ≠ b → (TJ7 a).2.1 ≠ (TJ7 b).2.1 := by decide +kernel
theorem tyJ7_ok : ∀ k, k < 0 → parseFieldDescriptor (TJ7 k).2.2.1 = some (tyJ7 k) := by decide +kernel
abbrev cJ7_fill_d0a16 : ByteArray := prog_19_method_101_code
def yJ7_fill_d0a16 : MethodName := ⟨RJ7, "fill", "([JJ)V"⟩
abbrev cJ7_fill_53178 : ByteArray := prog_19_method_103_code
def yJ7_fill_53178 : MethodName := ⟨RJ7, "fill", "([II)V"⟩
abbrev cJ7_copyOf_59c91 : ByteArray := prog_19_method_123_code
def yJ7_copyOf_59c91 : MethodName := ⟨RJ7, "copyOf", "([II)[I"⟩
def RL : String := "AnsTablesLaw"
abbrev cL_cell : ByteArray := method_2_code
def yL_cell : MethodName := ⟨RL, "cell", "([II)I"⟩
abbrev cL_spread : ByteArray := method_3_code
def yL_spread : MethodName := ⟨RL, "spread", "(LAnsTables;I[J)I"⟩
abbrev cL_law : ByteArray := code
def yL_law : MethodName := ⟨RL, "law", "([I)Z"⟩
abbrev vwCl : List vw_C := [(RJx00060, TJx00060, 6), (RX0, TX0, 1), (RX1, TX1, 3), (RX2, TX2, 2), (RX3, TX3, 12), (RX4, TX4, 11), (RX5, TX5, 4), (RX6, TX6, 10), (RX7, TX7, 34)]
end
section
-- ===== states of objects: scalars, int rows, long rows, lengths =====
abbrev OS : Type := (Nat → Int32) × (Nat → Nat → Int32) × (Nat → Nat → Int64) × (Nat → Nat)
def sF (u : OS) (k : Nat) (v : Int32) : OS := (va_up u.1 k v, u.2)
def sA (u : OS) (k : Nat) (i v : Int32) : OS := (u.1, va_up u.2.1 k (upd (u.2.1 k) i.toNatClampNeg v), u.2.2)
def sL (u : OS) (k : Nat) (i : Int32) (v : Int64) : OS := (u.1, u.2.1, va_up u.2.2.1 k (vp_updL (u.2.2.1 k) i.toNatClampNeg v), u.2.2.2)
def sG (u : OS) (k : Nat) (f : Nat → Int32) : OS := (u.1, va_up u.2.1 k f, u.2.2)
def sGL (u : OS) (k : Nat) (f : Nat → Int64) : OS := (u.1, u.2.1, va_up u.2.2.1 k f, u.2.2.2)
def sR (u : OS) (k : Nat) (n : Nat) (f : Nat → Int32) : OS := (u.1, va_up u.2.1 k f, u.2.2.1, va_up u.2.2.2 k n)
def mkA (n : Nat) (f : Nat → Int32) : OS := (fun _ => 0, fun _ => f, fun _ _ => 0, fun _ => n)
def FU : Nat := 100000
-- ===== pure binders =====
def bnd {α β : Type} (e : α) (k : α → β) : β := k e
theorem bnd_nm {α β : Type} {e x : α} {k : α → β} {r : β} (ex : x = e) (h : bnd e k = r) : k x = r := by subst ex; exact h
theorem bnd_ex {α β : Type} {e : α} {k : α → β} {r : β} (h : bnd e k = r) : ∃ x, x = e ∧ k x = r := ⟨e, rfl, h⟩
theorem ex_eq {α : Sort _} (e : α) : ∃ x, x = e := ⟨e, rfl⟩
theorem ite_t {c : Prop} [Decidable c] {α : Type} {a b r : α} (hc : c) (h : (if c then a else b) = r) : a = r := by rw [if_pos hc] at h; exact h
theorem ite_f {c : Prop} [Decidable c] {α : Type} {a b r : α} (hc : ¬ c) (h : (if c then a else b) = r) : b = r := by rw [if_neg hc] at h; exact h
def gdi {γ : Type} (i : Int32) (n : Nat) (t : Option γ) : Option γ := if i < 0 ∨ n ≤ i.toNatClampNeg then none else t
theorem gdi_of {γ : Type} {i : Int32} {n : Nat} {t : Option γ} {r : γ} (h : gdi i n t = some r) : vp_in i n ∧ t = some r := by
  unfold gdi at h
  by_cases c : i < 0 ∨ n ≤ i.toNatClampNeg
  · rw [if_pos c] at h; cases h
  · rw [if_neg c] at h; exact ⟨c, h⟩
theorem gdi_in {γ : Type} {i : Int32} {n : Nat} {t : Option γ} (h : vp_in i n) : gdi i n t = t := if_neg h
def gdz {γ : Type} (y : Int32) (t : Option γ) : Option γ := if y = 0 then none else t
theorem gdz_of {γ : Type} {y : Int32} {t : Option γ} {r : γ} (h : gdz y t = some r) : ¬ y = 0 ∧ t = some r := by
  unfold gdz at h
  by_cases c : y = 0
  · rw [if_pos c] at h; cases h
  · rw [if_neg c] at h; exact ⟨c, h⟩
def gdzl {γ : Type} (y : Int64) (t : Option γ) : Option γ := if y = 0 then none else t
theorem gdzl_of {γ : Type} {y : Int64} {t : Option γ} {r : γ} (h : gdzl y t = some r) : ¬ y = 0 ∧ t = some r := by
  unfold gdzl at h
  by_cases c : y = 0
  · rw [if_pos c] at h; cases h
  · rw [if_neg c] at h; exact ⟨c, h⟩
def gdb {γ : Type} (x : Int32) (t : Option γ) : Option γ := if x = 0 ∨ x = 1 then t else none
theorem gdb_of {γ : Type} {x : Int32} {t : Option γ} {r : γ} (h : gdb x t = some r) : (x = 0 ∨ x = 1) ∧ t = some r := by
  unfold gdb at h
  by_cases c : x = 0 ∨ x = 1
  · rw [if_pos c] at h; exact ⟨c, h⟩
  · rw [if_neg c] at h; cases h
theorem nb_of {x : Int32} (h : x = 0 ∨ x = 1) : narrow .boolean (.int x) = .int x := by rcases h with rfl | rfl <;> rfl
theorem fb_of {x : Int32} (h : x = 0 ∨ x = 1) : fits .boolean (.int x) = true := by rcases h with rfl | rfl <;> rfl
def oC0 {r : Type} (x : Option Unit) (k : Option r) : Option r := match x with
  | some _ => k
  | none => none
theorem oC0_of {r : Type} {x : Option Unit} {k : Option r} {o : r} (h : oC0 x k = some o) : x = some () ∧ k = some o := by
  cases x with
  | none => cases h
  | some z => exact ⟨rfl, h⟩
def oC1 {a r : Type} (x : Option a) (k : a → Option r) : Option r := match x with
  | some z => k z
  | none => none
theorem oC1_of {a r : Type} {x : Option a} {k : a → Option r} {o : r} (h : oC1 x k = some o) : ∃ z, x = some z ∧ k z = some o := by
  cases x with
  | none => cases h
  | some z => exact ⟨z, rfl, h⟩
def oC2 {a b r : Type} (x : Option (a × b)) (k : a → b → Option r) : Option r := match x with
  | some (z, y) => k z y
  | none => none
theorem oC2_of {a b r : Type} {x : Option (a × b)} {k : a → b → Option r} {o : r} (h : oC2 x k = some o) : ∃ z y, x = some (z, y) ∧ k z y = some o := by
  cases x with
  | none => cases h
  | some q => obtain ⟨z, y⟩ := q; exact ⟨z, y, rfl, h⟩
def oC3 {a b c r : Type} (x : Option (a × b × c)) (k : a → b → c → Option r) : Option r := match x with
  | some (z, y, w) => k z y w
  | none => none
theorem oC3_of {a b c r : Type} {x : Option (a × b × c)} {k : a → b → c → Option r} {o : r} (h : oC3 x k = some o) : ∃ z y w, x = some (z, y, w) ∧ k z y w = some o := by
  cases x with
  | none => cases h
  | some q => obtain ⟨z, y, w⟩ := q; exact ⟨z, y, w, rfl, h⟩
def oC4 {a b c d r : Type} (x : Option (a × b × c × d)) (k : a → b → c → d → Option r) : Option r := match x with
  | some (z, y, w, v) => k z y w v
  | none => none
theorem oC4_of {a b c d r : Type} {x : Option (a × b × c × d)} {k : a → b → c → d → Option r} {o : r} (h : oC4 x k = some o) : ∃ z y w v, x = some (z, y, w, v) ∧ k z y w v = some o := by
  cases x with
  | none => cases h
  | some q => obtain ⟨z, y, w, v⟩ := q; exact ⟨z, y, w, v, rfl, h⟩
def addc {γ : Type} (a b : Nat) (t : Option (γ × Nat × Nat)) : Option (γ × Nat × Nat) := match t with
  | some (o, kc, ks) => some (o, a + kc, b + ks)
  | none => none
theorem addc_of {γ : Type} {a b kc ks : Nat} {t : Option (γ × Nat × Nat)} {o : γ} (h : addc a b t = some (o, kc, ks)) : ∃ k n, t = some (o, k, n) ∧ kc = a + k ∧ ks = b + n := by
  cases t with
  | none => cases h
  | some q => obtain ⟨x, k, n⟩ := q; cases h; exact ⟨k, n, rfl, rfl, rfl⟩
theorem ret0 {γ : Type} {x o : γ} {kc ks : Nat} (h : some (x, 0, 0) = some (o, kc, ks)) : some x = some o ∧ 0 = kc ∧ 0 = ks := by cases h; exact ⟨rfl, rfl, rfl⟩
def oA0 {r : Type} (x : Option (Unit × Nat × Nat)) (k : Nat → Nat → Option r) : Option r := match x with
  | some (_, m, n) => k m n
  | none => none
theorem oA0_of {r : Type} {x : Option (Unit × Nat × Nat)} {k : Nat → Nat → Option r} {o : r} (h : oA0 x k = some o) : ∃ m n, x = some ((), m, n) ∧ k m n = some o := by
  cases x with
  | none => cases h
  | some q => obtain ⟨⟨⟩, m, n⟩ := q; exact ⟨m, n, rfl, h⟩
def oA1 {a r : Type} (x : Option (a × Nat × Nat)) (k : a → Nat → Nat → Option r) : Option r := match x with
  | some (z, m, n) => k z m n
  | none => none
theorem oA1_of {a r : Type} {x : Option (a × Nat × Nat)} {k : a → Nat → Nat → Option r} {o : r} (h : oA1 x k = some o) : ∃ z m n, x = some (z, m, n) ∧ k z m n = some o := by
  cases x with
  | none => cases h
  | some q => obtain ⟨z, m, n⟩ := q; exact ⟨z, m, n, rfl, h⟩
def oA2 {a b r : Type} (x : Option ((a × b) × Nat × Nat)) (k : a → b → Nat → Nat → Option r) : Option r := match x with
  | some ((z, y), m, n) => k z y m n
  | none => none
theorem oA2_of {a b r : Type} {x : Option ((a × b) × Nat × Nat)} {k : a → b → Nat → Nat → Option r} {o : r} (h : oA2 x k = some o) : ∃ z y m n, x = some ((z, y), m, n) ∧ k z y m n = some o := by
  cases x with
  | none => cases h
  | some q => obtain ⟨⟨z, y⟩, m, n⟩ := q; exact ⟨z, y, m, n, rfl, h⟩
def oA3 {a b c r : Type} (x : Option ((a × b × c) × Nat × Nat)) (k : a → b → c → Nat → Nat → Option r) : Option r := match x with
  | some ((z, y, w), m, n) => k z y w m n
  | none => none
theorem oA3_of {a b c r : Type} {x : Option ((a × b × c) × Nat × Nat)} {k : a → b → c → Nat → Nat → Option r} {o : r} (h : oA3 x k = some o) : ∃ z y w m n, x = some ((z, y, w), m, n) ∧ k z y w m n = some o := by
  cases x with
  | none => cases h
  | some q => obtain ⟨⟨z, y, w⟩, m, n⟩ := q; exact ⟨z, y, w, m, n, rfl, h⟩
def oA4 {a b c d r : Type} (x : Option ((a × b × c × d) × Nat × Nat)) (k : a → b → c → d → Nat → Nat → Option r) : Option r := match x with
  | some ((z, y, w, v), m, n) => k z y w v m n
  | none => none
theorem oA4_of {a b c d r : Type} {x : Option ((a × b × c × d) × Nat × Nat)} {k : a → b → c → d → Nat → Nat → Option r} {o : r} (h : oA4 x k = some o) : ∃ z y w v m n, x = some ((z, y, w, v), m, n) ∧ k z y w v m n = some o := by
  cases x with
  | none => cases h
  | some q => obtain ⟨⟨z, y, w, v⟩, m, n⟩ := q; exact ⟨z, y, w, v, m, n, rfl, h⟩
theorem inj2 {a b : Type} {x x' : a} {y y' : b} (h : some (x, y) = some (x', y')) : x = x' ∧ y = y' := by cases h; exact ⟨rfl, rfl⟩
theorem inj3 {a b c : Type} {x x' : a} {y y' : b} {z z' : c} (h : some (x, y, z) = some (x', y', z')) : x = x' ∧ y = y' ∧ z = z' := by cases h; exact ⟨rfl, rfl, rfl⟩
theorem inj4 {a b c d : Type} {x x' : a} {y y' : b} {z z' : c} {w w' : d} (h : some (x, y, z, w) = some (x', y', z', w')) : x = x' ∧ y = y' ∧ z = z' ∧ w = w' := by cases h; exact ⟨rfl, rfl, rfl, rfl⟩
theorem ap0 {r : Type} {K K' r' : r} (e : K = K') (h : K = r') : K' = r' := e ▸ h
theorem ap1 {a r : Type} {K K' : a → r} {x : a} {o : r} (e : K = K') (h : K x = o) : K' x = o := e ▸ h
theorem ap2 {a b r : Type} {K K' : a → b → r} {x : a} {y : b} {o : r} (e : K = K') (h : K x y = o) : K' x y = o := e ▸ h
theorem ap3 {a b c r : Type} {K K' : a → b → c → r} {x : a} {y : b} {z : c} {o : r} (e : K = K') (h : K x y z = o) : K' x y z = o := e ▸ h
theorem ap4 {a b c d r : Type} {K K' : a → b → c → d → r} {x : a} {y : b} {z : c} {w : d} {o : r} (e : K = K') (h : K x y z w = o) : K' x y z w = o := e ▸ h
theorem ap5 {a b c d f r : Type} {K K' : a → b → c → d → f → r} {x : a} {y : b} {z : c} {w : d} {v : f} {o : r} (e : K = K') (h : K x y z w v = o) : K' x y z w v = o := e ▸ h
theorem ap6 {a b c d f g r : Type} {K K' : a → b → c → d → f → g → r} {x : a} {y : b} {z : c} {w : d} {v : f} {t : g} {o : r} (e : K = K') (h : K x y z w v t = o) : K' x y z w v t = o := e ▸ h
theorem ap7 {a b c d f g i r : Type} {K K' : a → b → c → d → f → g → i → r} {x : a} {y : b} {z : c} {w : d} {v : f} {t : g} {q : i} {o : r} (e : K = K') (h : K x y z w v t q = o) : K' x y z w v t q = o := e ▸ h
theorem ap8 {a b c d f g i j r : Type} {K K' : a → b → c → d → f → g → i → j → r} {x : a} {y : b} {z : c} {w : d} {v : f} {t : g} {q : i} {p : j} {o : r} (e : K = K') (h : K x y z w v t q p = o) : K' x y z w v t q p = o := e ▸ h
theorem ap9 {a b c d f g i j k r : Type} {K K' : a → b → c → d → f → g → i → j → k → r} {x : a} {y : b} {z : c} {w : d} {v : f} {t : g} {q : i} {p : j} {n : k} {o : r} (e : K = K') (h : K x y z w v t q p n = o) : K' x y z w v t q p n = o := e ▸ h
theorem lgc_lt {x y : Int64} : lg_cmp x y < 0 ↔ x < y := by
  rcases lg_tri x y with h | h | h
  · have h2 := lg_lt_not h; have h3 := lg_lt_ne h; simp [lg_cmp, h, h2, h3]
  · subst h; simp [lg_cmp]
  · have h2 := lg_lt_not h; simp [lg_cmp, h, h2]
theorem lgc_gt {x y : Int64} : 0 < lg_cmp x y ↔ y < x := by
  rcases lg_tri x y with h | h | h
  · have h2 := lg_lt_not h; have h3 := lg_lt_ne h; simp [lg_cmp, h2, h3]
  · subst h; simp [lg_cmp]
  · have h2 := lg_lt_not h; simp [lg_cmp, h]
theorem lgc_eq {x y : Int64} : lg_cmp x y = 0 ↔ x = y := by
  rcases lg_tri x y with h | h | h
  · have h2 := lg_lt_not h; have h3 := lg_lt_ne h; simp [lg_cmp, h2, h3]
  · subst h; simp [lg_cmp]
  · have h2 := lg_lt_not h; have h3 := lg_lt_ne h; have h4 : ¬ x = y := fun q => h3 q.symm; simp [lg_cmp, h, h4]
theorem lgc_le {x y : Int64} : lg_cmp x y ≤ 0 ↔ x ≤ y := by
  rcases lg_tri x y with h | h | h
  · have h2 := lg_lt_not h; have h3 := lg_lt_ne h; simp [lg_cmp, h2, h3, Int64.le_of_lt h]
  · subst h; simp [lg_cmp, Int64.le_refl]
  · have h2 := lg_lt_not_le h; simp [lg_cmp, h, h2]
theorem lgc_ge {x y : Int64} : 0 ≤ lg_cmp x y ↔ y ≤ x := by
  rcases lg_tri x y with h | h | h
  · have h2 := lg_lt_not h; have h3 := lg_lt_ne h; have h4 := lg_lt_not_le h; simp [lg_cmp, h2, h3, h4]
  · subst h; simp [lg_cmp, Int64.le_refl]
  · simp [lg_cmp, h, Int64.le_of_lt h]
theorem sw_out {x : Int32} (n : Nat) (hn : n < 2 ^ 31) (h : ∀ j, j < n → ¬ x = nI j) : x.toInt < 0 ∨ ((n : Int) - 1) < x.toInt := by
  rcases pk_ix x hn with c | c | ⟨j, hj, e⟩
  · exact Or.inl (Int32.lt_iff_toInt_lt.mp c)
  · refine Or.inr ?_
    have h2 := Int32.le_iff_toInt_le.mp c
    rw [nI_toInt hn] at h2
    omega
  · exact absurd e (h j hj)
theorem i32_ne {x y : Int32} (h : ¬ x = y) : ¬ x.toInt = y.toInt := fun q => h (Int32.toInt_inj.mp q)
-- ===== words =====
def lw_good : List Cond := lw_tbl.filter goodWord
theorem lg_mem {w : Cond} (h : w ∈ lw_tbl) (g : goodWord w = true) : w ∈ lw_good := List.mem_filter.mpr ⟨h, g⟩
theorem tb1 {w : Cond} (h : w ∈ tables_1_1) : w ∈ lw_tbl := List.mem_append_right _ (List.mem_append_left _ h)
theorem tb2 {w : Cond} (h : w ∈ tables_1_2) : w ∈ lw_tbl := List.mem_append_right _ (List.mem_append_right _ (List.mem_append_left _ h))
theorem tb3 {w : Cond} (h : w ∈ tables_1_3) : w ∈ lw_tbl := List.mem_append_right _ (List.mem_append_right _ (List.mem_append_right _ (List.mem_append_left _ h)))
theorem tb4 {w : Cond} (h : w ∈ tables_1_4) : w ∈ lw_tbl := List.mem_append_right _ (List.mem_append_right _ (List.mem_append_right _ (List.mem_append_right _ (List.mem_append_left _ h))))
theorem tb5 {w : Cond} (h : w ∈ tables_1_5) : w ∈ lw_tbl := List.mem_append_right _ (List.mem_append_right _ (List.mem_append_right _ (List.mem_append_right _ (List.mem_append_right _ h))))
theorem tb0 {w : Cond} (h : w ∈ k2_sels lw_privs) : w ∈ lw_tbl := List.mem_append_left _ h
def wq (y : MethodName) (c : ByteArray) (n : Nat) (r : Option FieldType) : List Cond := .code y c n r :: lw_good
theorem wq_mem {y : MethodName} {c : ByteArray} {n : Nat} {r : Option FieldType} {w : Cond} (h : w ∈ lw_good) : w ∈ wq y c n r := List.mem_cons_of_mem _ h
theorem good_in {w : Cond} (h : w ∈ lw_good) : (w.onTables && w.keeps) = true ∨ ∃ ty, w = .arrayClass ty := good_of_word (List.mem_filter.mp h).2
theorem gdC {y : MethodName} {c : ByteArray} {n : Nat} {r : Option FieldType} (h : Cond.code y c n r ∈ lw_good) : GoodIn lw_good (wq y c n r) := by
  intro w hw
  rcases List.mem_cons.mp hw with rfl | hw
  · exact ⟨h, good_in h⟩
  · exact ⟨hw, good_in hw⟩
theorem gdV {own C : String} {idx : Nat} {y : MethodName} {c : ByteArray} {n : Nat} {r : Option FieldType} (h1 : Cond.methodLink own idx y ∈ lw_good) (h2 : Cond.instanceMethod y ∈ lw_good) (h3 : Cond.selects C y y ∈ lw_good) (h4 : Cond.initialized C ∈ lw_good) (h : Cond.code y c n r ∈ lw_good) : GoodIn lw_good (wsV own idx C y (wq y c n r)) := by
  intro w hw
  rcases List.mem_append.mp hw with hw | hw
  · simp only [List.mem_cons, List.not_mem_nil, or_false] at hw
    rcases hw with rfl | rfl | rfl | rfl
    · exact ⟨h1, good_in h1⟩
    · exact ⟨h2, good_in h2⟩
    · exact ⟨h3, good_in h3⟩
    · exact ⟨h4, good_in h4⟩
  · exact gdC h w hw
theorem gdS {own : String} {idx : Nat} {y : MethodName} {c : ByteArray} {n : Nat} {r : Option FieldType} (h1 : Cond.methodLink own idx y ∈ lw_good) (h2 : Cond.static y ∈ lw_good) (h4 : Cond.initialized y.cls ∈ lw_good) (h : Cond.code y c n r ∈ lw_good) : GoodIn lw_good (va_wsS own idx y (wq y c n r)) := by
  intro w hw
  rcases List.mem_append.mp hw with hw | hw
  · simp only [List.mem_cons, List.not_mem_nil, or_false] at hw
    rcases hw with rfl | rfl | rfl
    · exact ⟨h1, good_in h1⟩
    · exact ⟨h2, good_in h2⟩
    · exact ⟨h4, good_in h4⟩
  · exact gdC h w hw
def nwL : List Cond := [Cond.methodLinkNest RX6 36 yX5_init "AnsTables",
  Cond.methodLinkNest RX6 43 yX3_init "AnsTables",
  Cond.methodLinkNest RX6 50 yX1_init "AnsTables",
  Cond.fieldLinkNest RX6 90 "AnsTables$Shares" "made" "Z" "AnsTables",
  Cond.fieldLinkNest RX6 108 "AnsTables$Shares" "size" "I" "AnsTables",
  Cond.fieldLinkNest RX6 123 "AnsTables$Octets" "length" "I" "AnsTables",
  Cond.fieldLinkNest RX6 130 "AnsTables$Reader" "broken" "I" "AnsTables",
  Cond.fieldLinkNest RX6 147 "AnsTables$Writer" "done" "Z" "AnsTables",
  Cond.fieldLinkNest RX6 150 "AnsTables$Writer" "laneCount" "I" "AnsTables",
  Cond.fieldLinkNest RX6 151 "AnsTables$Writer" "states" "[J" "AnsTables",
  Cond.fieldLinkNest RX6 155 "AnsTables$Reader" "hasStates" "Z" "AnsTables",
  Cond.fieldLinkNest RX6 158 "AnsTables$Reader" "laneCount" "I" "AnsTables",
  Cond.fieldLinkNest RX6 159 "AnsTables$Reader" "states" "[J" "AnsTables",
  Cond.fieldLinkNest RX6 172 "AnsTables$Shares" "log" "I" "AnsTables",
  Cond.fieldLinkNest RX6 175 "AnsTables$Reader" "length" "I" "AnsTables",
  Cond.methodLinkNest RX0 27 yX6_bitLength "AnsTables",
  Cond.methodLinkNest RX1 22 yX6_withRoom "AnsTables",
  Cond.methodLinkNest RX2 19 yX6_withRoom "AnsTables",
  Cond.fieldLinkNest RX3 77 "AnsTables$Shares" "size" "I" "AnsTables",
  Cond.methodLinkNest RX3 80 yX6_bitLength "AnsTables",
  Cond.methodLinkNest RX3 99 yX6_firstState "AnsTables",
  Cond.methodLinkNest RX3 103 yX6_lastState "AnsTables",
  Cond.methodLinkNest RX3 106 yX6_stateWidth "AnsTables",
  Cond.methodLinkNest RX3 120 yX6_withRoom "AnsTables",
  Cond.fieldLinkNest RX3 146 "AnsTables$Shares" "log" "I" "AnsTables",
  Cond.fieldLinkNest RX3 159 "AnsTables$Octets" "length" "I" "AnsTables",
  Cond.fieldLinkNest RX3 162 "AnsTables$Octets" "values" "[I" "AnsTables",
  Cond.methodLinkNest RX4 57 yX6_isSign "AnsTables",
  Cond.methodLinkNest RX5 17 yX2_init "AnsTables",
  Cond.fieldLinkNest RX5 35 "AnsTables$Shares" "size" "I" "AnsTables",
  Cond.methodLinkNest RX5 40 yX6_firstState "AnsTables",
  Cond.methodLinkNest RX5 73 yX6_stateWidth "AnsTables",
  Cond.fieldLinkNest RX5 93 "AnsTables$Shares" "log" "I" "AnsTables",
  Cond.methodLinkNest RX5 99 yX6_bitLength "AnsTables"]
def nestB : Cond → Bool
  | .fieldLinkNest _ _ _ _ _ _ => true
  | .methodLinkNest _ _ _ _ => true
  | _ => false
theorem nwL_ok : nwL.all (fun w => nestB w && w.onTables) = true := by decide +kernel
def NW (U : State) : Prop := ∀ w ∈ nwL, va_Nw w U
theorem NW.warm {s U : State} (hW : s.WarmedH U.vm) (h : NW s) : NW U := by
  intro w hw
  have h1 := List.all_eq_true.mp nwL_ok w hw
  have h2 := h w hw
  clear hw
  cases w <;> first | exact va_Nw.warmF hW h2 | exact va_Nw.warmM hW h2 | exact absurd h1 (by simp [nestB])
theorem NW.same {u U : State} (e : u.vm = U.vm) (h : NW u) : NW U := fun w hw => va_Nw.same (by have h1 := List.all_eq_true.mp nwL_ok w hw; simp only [Bool.and_eq_true] at h1; exact h1.2) e (h w hw)
/-- a method's start: the world's cells, the tables, the nest's words -/
def pcW (dC : Nat → ClassId) (dI : Nat → Nat → Nat) (cI cJ : ClassId) (sz : Nat) (w : va_W) (U : State) : Prop := U.heap.size = sz ∧ va_P (dC, dI) vwCl w U.heap ∧ va_K (dC, dI) vwCl [(cI, .int), (cJ, .long)] U ∧ va_D (fun _ => True) w ∧ NW U
theorem pcW_blind {dC : Nat → ClassId} {dI : Nat → Nat → Nat} {cI cJ : ClassId} {sz : Nat} {w : va_W} {av : List Value} : FrameBlind (va_Pc av (pcW dC dI cI cJ sz w)) := fun a U g mk q => by
  obtain ⟨q0, q1, qP, qK, qD, qN⟩ := q
  exact ⟨q0, q1, qP, va_K.moved (u := U) (U := U.calling g mk a) (Vm.Alike.refl U.vm) qK, qD, NW.same (u := U) (U := U.calling g mk a) rfl qN⟩
theorem pcW_pre {dC : Nat → ClassId} {dI : Nat → Nat → Nat} {cI cJ : ClassId} {w : va_W} {A : Nat → Prop} {s : State} {H : Heap} {av : List Value} (hP : va_P (dC, dI) vwCl w H) (hK : va_K (dC, dI) vwCl [(cI, .int), (cJ, .long)] s) (hD : va_D A w) (hN : NW s) : ∀ U : State, U.heap = H → s.WarmedH U.vm → va_Pc av (pcW dC dI cI cJ H.size w) av.toArray U := fun U hU hW => ⟨rfl, by rw [hU], by rw [hU]; exact hP, va_K.moved hW.alike hK, hD.weaken (fun _ _ _ _ => trivial), hN.warm hW⟩
abbrev wM (cI cJ : ClassId) (a : Nat) (h : Nat → Nat) (u : OS) : va_W := [(a, .inr (8, [.int (u.1 0), .int (u.1 1), .int (u.1 2), .int (u.1 3), .ref (h 4), .int (u.1 5), .ref (h 6), .int (u.1 7), .ref (h 8), .ref (h 9), .ref (h 10), .ref (h 11), .ref (h 12), .ref (h 13), .ref (h 14), .int (u.1 15), .ref (h 16), .ref (h 17), .int (u.1 18), .ref (h 19), .int (u.1 20), .int (u.1 21), .int (u.1 22), .int (u.1 23), .ref (h 24), .int (u.1 25), .int (u.1 26), .int (u.1 27), .int (u.1 28), .int (u.1 29), .int (u.1 30), .int (u.1 31), .int (u.1 32), .ref (h 33)])), (h 4, .inl (cI, 1000, .inl (u.2.1 4))), (h 6, .inl (cI, 32, .inl (u.2.1 6))), (h 8, .inl (cI, 64, .inl (u.2.1 8))), (h 9, .inl (cI, 64, .inl (u.2.1 9))), (h 10, .inl (cI, 2, .inl (u.2.1 10))), (h 11, .inl (cI, 8192, .inl (u.2.1 11))), (h 12, .inl (cI, 8192, .inl (u.2.1 12))), (h 13, .inl (cI, 8192, .inl (u.2.1 13))), (h 14, .inl (cI, 20000, .inl (u.2.1 14))), (h 16, .inl (cJ, 4, .inr (.inl (u.2.2.1 16)))), (h 17, .inl (cJ, 4, .inr (.inl (u.2.2.1 17)))), (h 19, .inl (cI, 70000, .inl (u.2.1 19))), (h 24, .inl (cI, 65536, .inl (u.2.1 24))), (h 33, .inl (cJ, 4, .inr (.inl (u.2.2.1 33))))]
abbrev wL (cI cJ : ClassId) (a : Nat) (h : Nat → Nat) (u : OS) : va_W := [(a, .inr (1, [.ref (h 0)])), (h 0, .inl (cJ, (u.2.2.2 0), .inr (.inl (u.2.2.1 0))))]
abbrev wO (cI cJ : ClassId) (a : Nat) (h : Nat → Nat) (u : OS) : va_W := [(a, .inr (2, [.ref (h 0), .int (u.1 1), .int (u.1 2)])), (h 0, .inl (cI, (u.2.2.2 0), .inl (u.2.1 0)))]
abbrev wP (cI cJ : ClassId) (a : Nat) (h : Nat → Nat) (u : OS) : va_W := [(a, .inr (3, [.ref (h 0), .int (u.1 1)])), (h 0, .inl (cI, (u.2.2.2 0), .inl (u.2.1 0)))]
abbrev wS (cI cJ : ClassId) (a : Nat) (h : Nat → Nat) (u : OS) : va_W := [(a, .inr (5, [.int (u.1 0), .int (u.1 1), .int (u.1 2), .ref (h 3), .ref (h 4), .ref (h 5), .ref (h 6), .int (u.1 7), .ref (h 8), .ref (h 9), .ref (h 10)])), (h 3, .inl (cI, 32, .inl (u.2.1 3))), (h 4, .inl (cI, 33, .inl (u.2.1 4))), (h 5, .inl (cJ, 32, .inr (.inl (u.2.2.1 5)))), (h 6, .inl (cI, 32, .inl (u.2.1 6))), (h 8, .inl (cI, (u.2.2.2 8), .inl (u.2.1 8))), (h 9, .inl (cI, (u.2.2.2 9), .inl (u.2.1 9))), (h 10, .inl (cI, (u.2.2.2 10), .inl (u.2.1 10)))]
abbrev wZ (cI cJ : ClassId) (a : Nat) (h : Nat → Nat) (u : OS) : va_W := [(a, .inr (5, [.int (u.1 0), .int (u.1 1), .int (u.1 2), .ref (h 3), .ref (h 4), .ref (h 5), .ref (h 6), .int (u.1 7), .ref (h 8), .ref (h 9), .ref (h 10)])), (h 3, .inl (cI, 32, .inl (u.2.1 3))), (h 4, .inl (cI, 33, .inl (u.2.1 4))), (h 5, .inl (cJ, 32, .inr (.inl (u.2.2.1 5)))), (h 6, .inl (cI, 32, .inl (u.2.1 6))), (h 8, .inl (cI, (u.2.2.2 8), .inl (u.2.1 8))), (h 9, .inl (cI, (u.2.2.2 9), .inl (u.2.1 9))), (h 10, .inl (cI, (u.2.2.2 10), .inl (u.2.1 10)))]
abbrev wW (cI cJ : ClassId) (a : Nat) (h : Nat → Nat) (bP : Nat) (u : OS) : va_W := [(a, .inr (6, [.ref (h 0), .ref bP, .int (u.1 2), .int (u.1 3)])), (h 0, .inl (cJ, 4, .inr (.inl (u.2.2.1 0))))]
abbrev wR (cI cJ : ClassId) (a : Nat) (h : Nat → Nat) (bZ : Nat) (u : OS) : va_W := [(a, .inr (4, [.ref bZ, .ref (h 1), .ref (h 2), .int (u.1 3), .int (u.1 4), .int (u.1 5), .int (u.1 6), .int (u.1 7), .int (u.1 8), .int (u.1 9), .int (u.1 10), .int (u.1 11)])), (h 1, .inl (cJ, 4, .inr (.inl (u.2.2.1 1)))), (h 2, .inl (cI, (u.2.2.2 2), .inl (u.2.1 2)))]
abbrev wX (cI cJ : ClassId) (a : Nat) (h : Nat → Nat) (bL : Nat) (bS : Nat) (bW : Nat) (bR : Nat) (bO : Nat) (u : OS) : va_W := [(a, .inr (7, [.ref bL, .ref bS, .ref bW, .ref bR, .ref bO, .ref (h 5), .ref (h 6), .int (u.1 7), .int (u.1 8), .int (u.1 9)])), (h 5, .inl (cI, 32, .inl (u.2.1 5))), (h 6, .inl (cI, (u.2.2.2 6), .inl (u.2.1 6)))]
abbrev wA (cI cJ : ClassId) (h : Nat → Nat) (u : OS) : va_W := [(h 0, .inl (cI, (u.2.2.2 0), .inl (u.2.1 0)))]
end
section
theorem inX0 : ∀ w ∈ wsX00, w ∈ lw_good := fun w h => lg_mem ((by decide +kernel : ∀ w ∈ wsX00, w ∈ lw_tbl) w h) (List.all_eq_true.mp (by decide +kernel : wsX00.all goodWord = true) w h)
theorem inX1 : ∀ w ∈ wsX10, w ∈ lw_good := fun w h => lg_mem ((by decide +kernel : ∀ w ∈ wsX10, w ∈ lw_tbl) w h) (List.all_eq_true.mp (by decide +kernel : wsX10.all goodWord = true) w h)
theorem inX2 : ∀ w ∈ wsX20, w ∈ lw_good := fun w h => lg_mem ((by decide +kernel : ∀ w ∈ wsX20, w ∈ lw_tbl) w h) (List.all_eq_true.mp (by decide +kernel : wsX20.all goodWord = true) w h)
theorem inX3 : ∀ w ∈ wsX30, w ∈ lw_good := fun w h => lg_mem ((by decide +kernel : ∀ w ∈ wsX30, w ∈ lw_tbl) w h) (List.all_eq_true.mp (by decide +kernel : wsX30.all goodWord = true) w h)
theorem inX4 : ∀ w ∈ wsX40, w ∈ lw_good := fun w h => lg_mem ((by decide +kernel : ∀ w ∈ wsX40, w ∈ lw_tbl) w h) (List.all_eq_true.mp (by decide +kernel : wsX40.all goodWord = true) w h)
theorem inX5 : ∀ w ∈ wsX50, w ∈ lw_good := fun w h => lg_mem ((by decide +kernel : ∀ w ∈ wsX50, w ∈ lw_tbl) w h) (List.all_eq_true.mp (by decide +kernel : wsX50.all goodWord = true) w h)
theorem inX6 : ∀ w ∈ wsX60, w ∈ lw_good := fun w h => lg_mem ((by decide +kernel : ∀ w ∈ wsX60, w ∈ lw_tbl) w h) (List.all_eq_true.mp (by decide +kernel : wsX60.all goodWord = true) w h)
theorem inX7 : ∀ w ∈ wsX70, w ∈ lw_good := fun w h => lg_mem ((by decide +kernel : ∀ w ∈ wsX70, w ∈ lw_tbl) w h) (List.all_eq_true.mp (by decide +kernel : wsX70.all goodWord = true) w h)
theorem kw_0 : Cond.fieldLink RX7 62 "AnsTablesModel" "thrown" "I" ∈ lw_good := lg_mem (tb3 (List.mem_of_getElem? (i := 216) rfl)) (by decide +kernel)
theorem kw_1 : Cond.fieldLink RX7 91 "AnsTablesModel" "kind" "I" ∈ lw_good := lg_mem (tb3 (List.mem_of_getElem? (i := 217) rfl)) (by decide +kernel)
theorem kw_2 : Cond.fieldLink RX7 65 "AnsTablesModel" "rowSize" "I" ∈ lw_good := lg_mem (tb3 (List.mem_of_getElem? (i := 220) rfl)) (by decide +kernel)
theorem kw_3 : Cond.fieldLink RX7 17 "AnsTablesModel" "counts" "[I" ∈ lw_good := lg_mem (tb3 (List.mem_of_getElem? (i := 221) rfl)) (by decide +kernel)
theorem kw_4 : Cond.fieldLink RX7 162 "AnsTablesModel" "broken" "I" ∈ lw_good := lg_mem (tb4 (List.mem_of_getElem? (i := 2) rfl)) (by decide +kernel)
theorem kw_5 : Cond.fieldLink RX7 165 "AnsTablesModel" "at" "I" ∈ lw_good := lg_mem (tb4 (List.mem_of_getElem? (i := 1) rfl)) (by decide +kernel)
theorem kw_6 : Cond.fieldLink RX7 96 "AnsTablesModel" "outSize" "I" ∈ lw_good := lg_mem (tb3 (List.mem_of_getElem? (i := 230) rfl)) (by decide +kernel)
theorem kw_7 : Cond.fieldLink RX7 38 "AnsTablesModel" "out" "[I" ∈ lw_good := lg_mem (tb3 (List.mem_of_getElem? (i := 229) rfl)) (by decide +kernel)
theorem kw_8 : Cond.code yX7_fail cX7_fail 2 none ∈ lw_good := lg_mem (tb4 (List.mem_of_getElem? (i := 215) rfl)) (by decide +kernel)
theorem kw_9 : Cond.initialized RX7 ∈ lw_good := lg_mem (tb1 (List.mem_of_getElem? (i := 10) rfl)) (by decide +kernel)
theorem kw_10 : Cond.instanceMethod yX7_fail ∈ lw_good := lg_mem (tb4 (List.mem_of_getElem? (i := 214) rfl)) (by decide +kernel)
theorem kw_11 : Cond.selects RX7 yX7_fail yX7_fail ∈ lw_good := lg_mem (tb0 (by decide +kernel)) (by decide +kernel)
theorem kw_12 : Cond.methodLink RX7 168 yX7_fail ∈ lw_good := lg_mem (tb4 (List.mem_of_getElem? (i := 212) rfl)) (by decide +kernel)
theorem kw_13 : Cond.code yX7_next cX7_next 1 (some .int) ∈ lw_good := lg_mem (tb4 (List.mem_of_getElem? (i := 211) rfl)) (by decide +kernel)
theorem kw_14 : Cond.instanceMethod yX7_next ∈ lw_good := lg_mem (tb4 (List.mem_of_getElem? (i := 210) rfl)) (by decide +kernel)
theorem kw_15 : Cond.selects RX7 yX7_next yX7_next ∈ lw_good := lg_mem (tb0 (by decide +kernel)) (by decide +kernel)
theorem kw_16 : Cond.methodLink RX7 171 yX7_next ∈ lw_good := lg_mem (tb4 (List.mem_of_getElem? (i := 208) rfl)) (by decide +kernel)
theorem kw_17 : Cond.fieldLink RX7 174 "AnsTablesModel" "bitLeft" "I" ∈ lw_good := lg_mem (tb4 (List.mem_of_getElem? (i := 4) rfl)) (by decide +kernel)
theorem nd_X7_fail : yX7_fail.cls ≠ "java/lang/invoke/MethodHandle" ∧ yX7_fail.cls ≠ "java/lang/invoke/VarHandle" ∧ (parseMethodDescriptor yX7_fail.desc).map (fun d => d.parameters.length) = some 1 := by decide +kernel
theorem nd_X7_next : yX7_next.cls ≠ "java/lang/invoke/MethodHandle" ∧ yX7_next.cls ≠ "java/lang/invoke/VarHandle" ∧ (parseMethodDescriptor yX7_next.desc).map (fun d => d.parameters.length) = some 0 := by decide +kernel
end
section
theorem dX7_form_0 : decode cX7_form 0 = .ok (.aload_n 0, 1) := by decide +kernel
theorem dX7_form_1 : decode cX7_form 1 = .ok (.iconst 0, 1) := by decide +kernel
theorem dX7_form_2 : decode cX7_form 2 = .ok (.putfield 62, 3) := by decide +kernel
theorem dX7_form_5 : decode cX7_form 5 = .ok (.iload_n 1, 1) := by decide +kernel
theorem dX7_form_6 : decode cX7_form 6 = .ok (.ifCond .lt 8, 3) := by decide +kernel
theorem dX7_form_9 : decode cX7_form 9 = .ok (.iload_n 1, 1) := by decide +kernel
theorem dX7_form_10 : decode cX7_form 10 = .ok (.iconst 3, 1) := by decide +kernel
theorem dX7_form_11 : decode cX7_form 11 = .ok (.if_icmp .le 5, 3) := by decide +kernel
theorem dX7_form_14 : decode cX7_form 14 = .ok (.iconst (-1), 1) := by decide +kernel
theorem dX7_form_15 : decode cX7_form 15 = .ok (.ireturn, 1) := by decide +kernel
theorem dX7_form_16 : decode cX7_form 16 = .ok (.aload_n 0, 1) := by decide +kernel
theorem dX7_form_17 : decode cX7_form 17 = .ok (.getfield 91, 3) := by decide +kernel
theorem dX7_form_20 : decode cX7_form 20 = .ok (.istore_n 2, 1) := by decide +kernel
theorem dX7_form_21 : decode cX7_form 21 = .ok (.aload_n 0, 1) := by decide +kernel
theorem dX7_form_22 : decode cX7_form 22 = .ok (.iload_n 1, 1) := by decide +kernel
theorem dX7_form_23 : decode cX7_form 23 = .ok (.putfield 91, 3) := by decide +kernel
theorem dX7_form_26 : decode cX7_form 26 = .ok (.iload_n 2, 1) := by decide +kernel
theorem dX7_form_27 : decode cX7_form 27 = .ok (.ireturn, 1) := by decide +kernel
theorem dX7_clear_0 : decode cX7_clear 0 = .ok (.aload_n 0, 1) := by decide +kernel
theorem dX7_clear_1 : decode cX7_clear 1 = .ok (.iconst 0, 1) := by decide +kernel
theorem dX7_clear_2 : decode cX7_clear 2 = .ok (.putfield 62, 3) := by decide +kernel
theorem dX7_clear_5 : decode cX7_clear 5 = .ok (.aload_n 0, 1) := by decide +kernel
theorem dX7_clear_6 : decode cX7_clear 6 = .ok (.getfield 65, 3) := by decide +kernel
theorem dX7_clear_9 : decode cX7_clear 9 = .ok (.istore_n 1, 1) := by decide +kernel
theorem dX7_clear_10 : decode cX7_clear 10 = .ok (.aload_n 0, 1) := by decide +kernel
theorem dX7_clear_11 : decode cX7_clear 11 = .ok (.iconst 0, 1) := by decide +kernel
theorem dX7_clear_12 : decode cX7_clear 12 = .ok (.putfield 65, 3) := by decide +kernel
theorem dX7_clear_15 : decode cX7_clear 15 = .ok (.iload_n 1, 1) := by decide +kernel
theorem dX7_clear_16 : decode cX7_clear 16 = .ok (.ireturn, 1) := by decide +kernel
theorem dX7_signsCounted_0 : decode cX7_signsCounted 0 = .ok (.iconst 0, 1) := by decide +kernel
theorem dX7_signsCounted_1 : decode cX7_signsCounted 1 = .ok (.istore_n 1, 1) := by decide +kernel
theorem dX7_signsCounted_2 : decode cX7_signsCounted 2 = .ok (.iconst 0, 1) := by decide +kernel
theorem dX7_signsCounted_3 : decode cX7_signsCounted 3 = .ok (.istore_n 2, 1) := by decide +kernel
theorem dX7_signsCounted_4 : decode cX7_signsCounted 4 = .ok (.iload_n 2, 1) := by decide +kernel
theorem dX7_signsCounted_5 : decode cX7_signsCounted 5 = .ok (.bipush 32, 2) := by decide +kernel
theorem dX7_signsCounted_7 : decode cX7_signsCounted 7 = .ok (.if_icmp .ge 26, 3) := by decide +kernel
theorem dX7_signsCounted_10 : decode cX7_signsCounted 10 = .ok (.iload_n 1, 1) := by decide +kernel
theorem dX7_signsCounted_11 : decode cX7_signsCounted 11 = .ok (.aload_n 0, 1) := by decide +kernel
theorem dX7_signsCounted_12 : decode cX7_signsCounted 12 = .ok (.getfield 17, 3) := by decide +kernel
theorem dX7_signsCounted_15 : decode cX7_signsCounted 15 = .ok (.iload_n 2, 1) := by decide +kernel
theorem dX7_signsCounted_16 : decode cX7_signsCounted 16 = .ok (.iaload, 1) := by decide +kernel
theorem dX7_signsCounted_17 : decode cX7_signsCounted 17 = .ok (.ifCond .le 7, 3) := by decide +kernel
theorem dX7_signsCounted_20 : decode cX7_signsCounted 20 = .ok (.iconst 1, 1) := by decide +kernel
theorem dX7_signsCounted_21 : decode cX7_signsCounted 21 = .ok (.goto 4, 3) := by decide +kernel
theorem dX7_signsCounted_24 : decode cX7_signsCounted 24 = .ok (.iconst 0, 1) := by decide +kernel
theorem dX7_signsCounted_25 : decode cX7_signsCounted 25 = .ok (.iadd, 1) := by decide +kernel
theorem dX7_signsCounted_26 : decode cX7_signsCounted 26 = .ok (.istore_n 1, 1) := by decide +kernel
theorem dX7_signsCounted_27 : decode cX7_signsCounted 27 = .ok (.iinc 2 1, 3) := by decide +kernel
theorem dX7_signsCounted_30 : decode cX7_signsCounted 30 = .ok (.goto (-26), 3) := by decide +kernel
theorem dX7_signsCounted_33 : decode cX7_signsCounted 33 = .ok (.iload_n 1, 1) := by decide +kernel
theorem dX7_signsCounted_34 : decode cX7_signsCounted 34 = .ok (.ireturn, 1) := by decide +kernel
theorem dX7_fail_0 : decode cX7_fail 0 = .ok (.aload_n 0, 1) := by decide +kernel
theorem dX7_fail_1 : decode cX7_fail 1 = .ok (.getfield 162, 3) := by decide +kernel
theorem dX7_fail_4 : decode cX7_fail 4 = .ok (.ifCond .ne 8, 3) := by decide +kernel
theorem dX7_fail_7 : decode cX7_fail 7 = .ok (.aload_n 0, 1) := by decide +kernel
theorem dX7_fail_8 : decode cX7_fail 8 = .ok (.iload_n 1, 1) := by decide +kernel
theorem dX7_fail_9 : decode cX7_fail 9 = .ok (.putfield 162, 3) := by decide +kernel
theorem dX7_fail_12 : decode cX7_fail 12 = .ok (.return_, 1) := by decide +kernel
theorem dX7_next_0 : decode cX7_next 0 = .ok (.aload_n 0, 1) := by decide +kernel
theorem dX7_next_1 : decode cX7_next 1 = .ok (.getfield 162, 3) := by decide +kernel
theorem dX7_next_4 : decode cX7_next 4 = .ok (.ifCond .le 5, 3) := by decide +kernel
theorem dX7_next_7 : decode cX7_next 7 = .ok (.iconst 0, 1) := by decide +kernel
theorem dX7_next_8 : decode cX7_next 8 = .ok (.ireturn, 1) := by decide +kernel
theorem dX7_next_9 : decode cX7_next 9 = .ok (.aload_n 0, 1) := by decide +kernel
theorem dX7_next_10 : decode cX7_next 10 = .ok (.getfield 165, 3) := by decide +kernel
theorem dX7_next_13 : decode cX7_next 13 = .ok (.aload_n 0, 1) := by decide +kernel
theorem dX7_next_14 : decode cX7_next 14 = .ok (.getfield 96, 3) := by decide +kernel
theorem dX7_next_17 : decode cX7_next 17 = .ok (.if_icmp .lt 10, 3) := by decide +kernel
theorem dX7_next_20 : decode cX7_next 20 = .ok (.aload_n 0, 1) := by decide +kernel
theorem dX7_next_21 : decode cX7_next 21 = .ok (.iconst 1, 1) := by decide +kernel
theorem dX7_next_22 : decode cX7_next 22 = .ok (.invokevirtual 168, 3) := by decide +kernel
theorem dX7_next_25 : decode cX7_next 25 = .ok (.iconst 0, 1) := by decide +kernel
theorem dX7_next_26 : decode cX7_next 26 = .ok (.ireturn, 1) := by decide +kernel
theorem dX7_next_27 : decode cX7_next 27 = .ok (.aload_n 0, 1) := by decide +kernel
theorem dX7_next_28 : decode cX7_next 28 = .ok (.dup, 1) := by decide +kernel
theorem dX7_next_29 : decode cX7_next 29 = .ok (.getfield 165, 3) := by decide +kernel
theorem dX7_next_32 : decode cX7_next 32 = .ok (.iconst 1, 1) := by decide +kernel
theorem dX7_next_33 : decode cX7_next 33 = .ok (.iadd, 1) := by decide +kernel
theorem dX7_next_34 : decode cX7_next 34 = .ok (.putfield 165, 3) := by decide +kernel
theorem dX7_next_37 : decode cX7_next 37 = .ok (.aload_n 0, 1) := by decide +kernel
theorem dX7_next_38 : decode cX7_next 38 = .ok (.getfield 38, 3) := by decide +kernel
theorem dX7_next_41 : decode cX7_next 41 = .ok (.aload_n 0, 1) := by decide +kernel
theorem dX7_next_42 : decode cX7_next 42 = .ok (.getfield 165, 3) := by decide +kernel
theorem dX7_next_45 : decode cX7_next 45 = .ok (.iconst 1, 1) := by decide +kernel
theorem dX7_next_46 : decode cX7_next 46 = .ok (.isub, 1) := by decide +kernel
theorem dX7_next_47 : decode cX7_next 47 = .ok (.iaload, 1) := by decide +kernel
theorem dX7_next_48 : decode cX7_next 48 = .ok (.ireturn, 1) := by decide +kernel
theorem dX7_nextWide_0 : decode cX7_nextWide 0 = .ok (.lconst 0, 1) := by decide +kernel
theorem dX7_nextWide_1 : decode cX7_nextWide 1 = .ok (.lstore_n 2, 1) := by decide +kernel
theorem dX7_nextWide_2 : decode cX7_nextWide 2 = .ok (.iconst 0, 1) := by decide +kernel
theorem dX7_nextWide_3 : decode cX7_nextWide 3 = .ok (.istore 4, 2) := by decide +kernel
theorem dX7_nextWide_5 : decode cX7_nextWide 5 = .ok (.iload 4, 2) := by decide +kernel
theorem dX7_nextWide_7 : decode cX7_nextWide 7 = .ok (.iload_n 1, 1) := by decide +kernel
theorem dX7_nextWide_8 : decode cX7_nextWide 8 = .ok (.if_icmp .ge 20, 3) := by decide +kernel
theorem dX7_nextWide_11 : decode cX7_nextWide 11 = .ok (.lload_n 2, 1) := by decide +kernel
theorem dX7_nextWide_12 : decode cX7_nextWide 12 = .ok (.bipush 8, 2) := by decide +kernel
theorem dX7_nextWide_14 : decode cX7_nextWide 14 = .ok (.lshl, 1) := by decide +kernel
theorem dX7_nextWide_15 : decode cX7_nextWide 15 = .ok (.aload_n 0, 1) := by decide +kernel
theorem dX7_nextWide_16 : decode cX7_nextWide 16 = .ok (.invokevirtual 171, 3) := by decide +kernel
theorem dX7_nextWide_19 : decode cX7_nextWide 19 = .ok (.i2l, 1) := by decide +kernel
theorem dX7_nextWide_20 : decode cX7_nextWide 20 = .ok (.lor, 1) := by decide +kernel
theorem dX7_nextWide_21 : decode cX7_nextWide 21 = .ok (.lstore_n 2, 1) := by decide +kernel
theorem dX7_nextWide_22 : decode cX7_nextWide 22 = .ok (.iinc 4 1, 3) := by decide +kernel
theorem dX7_nextWide_25 : decode cX7_nextWide 25 = .ok (.goto (-20), 3) := by decide +kernel
theorem dX7_nextWide_28 : decode cX7_nextWide 28 = .ok (.lload_n 2, 1) := by decide +kernel
theorem dX7_nextWide_29 : decode cX7_nextWide 29 = .ok (.lreturn, 1) := by decide +kernel
theorem dX7_nextBit_0 : decode cX7_nextBit 0 = .ok (.aload_n 0, 1) := by decide +kernel
theorem dX7_nextBit_1 : decode cX7_nextBit 1 = .ok (.getfield 174, 3) := by decide +kernel
theorem dX7_nextBit_4 : decode cX7_nextBit 4 = .ok (.ifCond .ne 23, 3) := by decide +kernel
theorem dX7_nextBit_7 : decode cX7_nextBit 7 = .ok (.aload_n 0, 1) := by decide +kernel
theorem dX7_nextBit_8 : decode cX7_nextBit 8 = .ok (.invokevirtual 171, 3) := by decide +kernel
theorem dX7_nextBit_11 : decode cX7_nextBit 11 = .ok (.istore_n 1, 1) := by decide +kernel
theorem dX7_nextBit_12 : decode cX7_nextBit 12 = .ok (.aload_n 0, 1) := by decide +kernel
theorem dX7_nextBit_13 : decode cX7_nextBit 13 = .ok (.getfield 162, 3) := by decide +kernel
theorem dX7_nextBit_16 : decode cX7_nextBit 16 = .ok (.ifCond .le 5, 3) := by decide +kernel
theorem dX7_nextBit_19 : decode cX7_nextBit 19 = .ok (.iconst 0, 1) := by decide +kernel
theorem dX7_nextBit_20 : decode cX7_nextBit 20 = .ok (.ireturn, 1) := by decide +kernel
theorem dX7_nextBit_21 : decode cX7_nextBit 21 = .ok (.aload_n 0, 1) := by decide +kernel
theorem dX7_nextBit_22 : decode cX7_nextBit 22 = .ok (.bipush 8, 2) := by decide +kernel
theorem dX7_nextBit_24 : decode cX7_nextBit 24 = .ok (.putfield 174, 3) := by decide +kernel
theorem dX7_nextBit_27 : decode cX7_nextBit 27 = .ok (.aload_n 0, 1) := by decide +kernel
theorem dX7_nextBit_28 : decode cX7_nextBit 28 = .ok (.dup, 1) := by decide +kernel
theorem dX7_nextBit_29 : decode cX7_nextBit 29 = .ok (.getfield 174, 3) := by decide +kernel
theorem dX7_nextBit_32 : decode cX7_nextBit 32 = .ok (.iconst 1, 1) := by decide +kernel
theorem dX7_nextBit_33 : decode cX7_nextBit 33 = .ok (.isub, 1) := by decide +kernel
theorem dX7_nextBit_34 : decode cX7_nextBit 34 = .ok (.putfield 174, 3) := by decide +kernel
theorem dX7_nextBit_37 : decode cX7_nextBit 37 = .ok (.aload_n 0, 1) := by decide +kernel
theorem dX7_nextBit_38 : decode cX7_nextBit 38 = .ok (.getfield 38, 3) := by decide +kernel
theorem dX7_nextBit_41 : decode cX7_nextBit 41 = .ok (.aload_n 0, 1) := by decide +kernel
theorem dX7_nextBit_42 : decode cX7_nextBit 42 = .ok (.getfield 165, 3) := by decide +kernel
theorem dX7_nextBit_45 : decode cX7_nextBit 45 = .ok (.iconst 1, 1) := by decide +kernel
theorem dX7_nextBit_46 : decode cX7_nextBit 46 = .ok (.isub, 1) := by decide +kernel
theorem dX7_nextBit_47 : decode cX7_nextBit 47 = .ok (.iaload, 1) := by decide +kernel
theorem dX7_nextBit_48 : decode cX7_nextBit 48 = .ok (.aload_n 0, 1) := by decide +kernel
theorem dX7_nextBit_49 : decode cX7_nextBit 49 = .ok (.getfield 174, 3) := by decide +kernel
theorem dX7_nextBit_52 : decode cX7_nextBit 52 = .ok (.ishr, 1) := by decide +kernel
theorem dX7_nextBit_53 : decode cX7_nextBit 53 = .ok (.iconst 1, 1) := by decide +kernel
theorem dX7_nextBit_54 : decode cX7_nextBit 54 = .ok (.iand, 1) := by decide +kernel
theorem dX7_nextBit_55 : decode cX7_nextBit 55 = .ok (.ireturn, 1) := by decide +kernel
end
section
def f_X7_form (uM : OS) (p1 : Int32) : Option (OS × Int32) :=
  bnd (sF uM 1 (0 : Int32)) fun u1 =>
  if p1 < (0 : Int32) then (
  some (u1, (-1 : Int32))) else (
  if p1 ≤ (3 : Int32) then (
  bnd (u1.1 2) fun x4 =>
  bnd (sF u1 2 p1) fun u5 =>
  some (u5, x4)) else (
  some (u1, (-1 : Int32))))

set_option maxHeartbeats 4000000 in
set_option maxRecDepth 100000 in
theorem c_X7_form (l : Launch) (dC : Nat → ClassId) (dI : Nat → Nat → Nat) (cI cJ : ClassId) (aM : Nat) (hM : Nat → Nat) (sz : Nat) (uM : OS) (p1 : Int32) (o : OS × Int32) (hm : f_X7_form uM p1 = some o) : Met l yX7_form (wq yX7_form cX7_form 3 (some .int)) ({ frames := 0, cells := 0, slots := 0, locals := 0 } : Room) (va_Pc [.ref aM, .int p1] (pcW dC dI cI cJ sz (wM cI cJ aM hM uM))) (va_Qi (S := OS) (fun r u => some (u, r) = some o) (fun (u : OS) t => va_P (dC, dI) vwCl (wM cI cJ aM hM u) t.heap ∧ va_D (va_A (wM cI cJ aM hM uM) sz) (wM cI cJ aM hM u)) (va_A (wM cI cJ aM hM uM) sz)) 0 0 (va_A (wM cI cJ aM hM uM) sz) := by
  refine Met.ofW (cc := cX7_form) (maxL := 3) (ret := (some .int)) (by decide) rfl ?_
  intro p e s m args below meth c s₁ B hml hv
  obtain ⟨rfl, hsz, hP, hK, hD0, hN⟩ := hv
  have hx := B.exec
  have hb := B.bytes
  have hr := B.returns
  have ht : ∀ w ∈ lw_good, w.before _ s = true := fun w h => atoms_spec (ws := wq yX7_form cX7_form 3 (some .int)) B.pre w (wq_mem h)
  have hown : s.vm.findClass RX7 = some m.cls := findClass_of_methodNamed B.named
  have hlocks := B.notSynchronized
  subst hsz
  have hD := hD0.self (sz := s.heap.size)
  generalize hAe : va_A (wM cI cJ aM hM uM) s.heap.size = A at hD ⊢
  have hA : ∀ q : Nat, s.heap.size ≤ q → A q := fun q h => by rw [← hAe]; exact Or.inr h
  have hS : va_S A s.heap s.heap [] := va_S.rf
  have hl := lv_entry ([.ref aM, .int p1]) (n := 3) (Nat.le_of_ble_eq_true rfl)
  rw [lg_entry_eq]
  generalize (lg_sl ([.ref aM, .int p1]) ++ List.replicate (3 - (lg_sl ([.ref aM, .int p1])).length) Slot.unset).toArray = ls at hl ⊢
  have hl : lv_has ls 3 [(0, .ref aM), (1, .int p1)] := hl
  generalize hQ : MQ below _ _ s _ _ _ = Q
  generalize hH : s.heap = H at hP ⊢
  have hS : va_S A s.heap H [] := by rw [← hH]; exact va_S.rf
  show W p l e ({ frames := 0, cells := 0, slots := 0, locals := 0 } : Room) s m ([.ref aM, .int p1] : List Value).toArray below meth c H [] 0 0 Q (F0 m 0 ls [])
  unfold f_X7_form at hm
  refine lv_aload_n hx hb dX7_form_0 rfl (lv_at hl 0 rfl) ?_
  refine lv_iconst (v := (0 : Int32)) hx hb dX7_form_1 (by decide) ?_
  refine va_put (D := (dC, dI)) (ci := 8) (v := .int (0 : Int32)) (ty := .int) (C := RX7) (T := TX7) (N := 34) hx hb ht inX7 tyX7 tyX7_ok nmX7 hown hK hP hD hS 0 rfl rfl 1 (by decide) (ht _ kw_0) (fun _ h9 => h9) rfl (by decide +kernel) rfl rfl (Nat.le_of_ble_eq_true rfl) dX7_form_2 (fun H locs hP hD hS => ?_)
  obtain ⟨u1, eu1, hm⟩ := bnd_ex hm
  have hP : va_P (dC, dI) vwCl (wM cI cJ aM hM u1) H := by rw [eu1]; exact hP
  have hD : va_D A (wM cI cJ aM hM u1) := by rw [eu1]; exact hD
  refine lv_iload_n hx hb dX7_form_5 rfl (lv_at hl 1 rfl) ?_
  refine lv_if_lt (tgt := 14) hx hb dX7_form_6 (by decide) (fun c2 => ?_) (fun c2 => ?_)
  · have hm := ite_t c2 hm
    refine lv_iconst (v := (-1 : Int32)) hx hb dX7_form_14 (by decide) ?_
    rw [← hQ]
    exact W.iret (v := (-1 : Int32)) hx hb hr (fun t ht1 hW => ⟨⟨_, u1, rfl, hm, by rw [ht1]; exact hP, hD⟩, hS.F ht1⟩) hS.2.2 dX7_form_15
  · have hm := ite_f c2 hm
    refine lv_iload_n hx hb dX7_form_9 rfl (lv_at hl 1 rfl) ?_
    refine lv_iconst (v := (3 : Int32)) hx hb dX7_form_10 (by decide) ?_
    refine lv_icmp_le (tgt := 16) hx hb dX7_form_11 (by decide) (fun c3 => ?_) (fun c3 => ?_)
    · have hm := ite_t c3 hm
      refine lv_aload_n hx hb dX7_form_16 rfl (lv_at hl 0 rfl) ?_
      refine va_get (D := (dC, dI)) (ci := 8) (v := .int (u1.1 2)) (C := RX7) (T := TX7) (N := 34) hx hb ht inX7 hown hK hP 0 rfl rfl 2 (by decide) (ht _ kw_1) (fun _ h9 => h9) rfl dX7_form_17 ?_
      refine lv_topi (fun x4 ex4 => ?_)
      have hm := bnd_nm ex4 hm
      refine lv_istore_n (lv' := [(2, .int x4), (0, .ref aM), (1, .int p1)]) hx hb dX7_form_20 rfl hl (by decide) rfl (fun ls hl => ?_)
      refine lv_aload_n hx hb dX7_form_21 rfl (lv_at hl 1 rfl) ?_
      refine lv_iload_n hx hb dX7_form_22 rfl (lv_at hl 2 rfl) ?_
      refine va_put (D := (dC, dI)) (ci := 8) (v := .int p1) (ty := .int) (C := RX7) (T := TX7) (N := 34) hx hb ht inX7 tyX7 tyX7_ok nmX7 hown hK hP hD hS 0 rfl rfl 2 (by decide) (ht _ kw_1) (fun _ h9 => h9) rfl (by decide +kernel) rfl rfl (Nat.le_of_ble_eq_true rfl) dX7_form_23 (fun H locs hP hD hS => ?_)
      obtain ⟨u5, eu5, hm⟩ := bnd_ex hm
      have hP : va_P (dC, dI) vwCl (wM cI cJ aM hM u5) H := by rw [eu5]; exact hP
      have hD : va_D A (wM cI cJ aM hM u5) := by rw [eu5]; exact hD
      refine lv_iload_n hx hb dX7_form_26 rfl (lv_at hl 0 rfl) ?_
      rw [← hQ]
      exact W.iret (v := x4) hx hb hr (fun t ht1 hW => ⟨⟨_, u5, rfl, hm, by rw [ht1]; exact hP, hD⟩, hS.F ht1⟩) hS.2.2 dX7_form_27
    · have hm := ite_f c3 hm
      refine lv_iconst (v := (-1 : Int32)) hx hb dX7_form_14 (by decide) ?_
      rw [← hQ]
      exact W.iret (v := (-1 : Int32)) hx hb hr (fun t ht1 hW => ⟨⟨_, u1, rfl, hm, by rw [ht1]; exact hP, hD⟩, hS.F ht1⟩) hS.2.2 dX7_form_15

def f_X7_clear (uM : OS) : Option (OS × Int32) :=
  bnd (sF uM 1 (0 : Int32)) fun u1 =>
  bnd (u1.1 5) fun x2 =>
  bnd (sF u1 5 (0 : Int32)) fun u3 =>
  some (u3, x2)

set_option maxHeartbeats 4000000 in
set_option maxRecDepth 100000 in
theorem c_X7_clear (l : Launch) (dC : Nat → ClassId) (dI : Nat → Nat → Nat) (cI cJ : ClassId) (aM : Nat) (hM : Nat → Nat) (sz : Nat) (uM : OS) (o : OS × Int32) (hm : f_X7_clear uM = some o) : Met l yX7_clear (wq yX7_clear cX7_clear 2 (some .int)) ({ frames := 0, cells := 0, slots := 0, locals := 0 } : Room) (va_Pc [.ref aM] (pcW dC dI cI cJ sz (wM cI cJ aM hM uM))) (va_Qi (S := OS) (fun r u => some (u, r) = some o) (fun (u : OS) t => va_P (dC, dI) vwCl (wM cI cJ aM hM u) t.heap ∧ va_D (va_A (wM cI cJ aM hM uM) sz) (wM cI cJ aM hM u)) (va_A (wM cI cJ aM hM uM) sz)) 0 0 (va_A (wM cI cJ aM hM uM) sz) := by
  refine Met.ofW (cc := cX7_clear) (maxL := 2) (ret := (some .int)) (by decide) rfl ?_
  intro p e s m args below meth c s₁ B hml hv
  obtain ⟨rfl, hsz, hP, hK, hD0, hN⟩ := hv
  have hx := B.exec
  have hb := B.bytes
  have hr := B.returns
  have ht : ∀ w ∈ lw_good, w.before _ s = true := fun w h => atoms_spec (ws := wq yX7_clear cX7_clear 2 (some .int)) B.pre w (wq_mem h)
  have hown : s.vm.findClass RX7 = some m.cls := findClass_of_methodNamed B.named
  have hlocks := B.notSynchronized
  subst hsz
  have hD := hD0.self (sz := s.heap.size)
  generalize hAe : va_A (wM cI cJ aM hM uM) s.heap.size = A at hD ⊢
  have hA : ∀ q : Nat, s.heap.size ≤ q → A q := fun q h => by rw [← hAe]; exact Or.inr h
  have hS : va_S A s.heap s.heap [] := va_S.rf
  have hl := lv_entry ([.ref aM]) (n := 2) (Nat.le_of_ble_eq_true rfl)
  rw [lg_entry_eq]
  generalize (lg_sl ([.ref aM]) ++ List.replicate (2 - (lg_sl ([.ref aM])).length) Slot.unset).toArray = ls at hl ⊢
  have hl : lv_has ls 2 [(0, .ref aM)] := hl
  generalize hQ : MQ below _ _ s _ _ _ = Q
  generalize hH : s.heap = H at hP ⊢
  have hS : va_S A s.heap H [] := by rw [← hH]; exact va_S.rf
  show W p l e ({ frames := 0, cells := 0, slots := 0, locals := 0 } : Room) s m ([.ref aM] : List Value).toArray below meth c H [] 0 0 Q (F0 m 0 ls [])
  unfold f_X7_clear at hm
  refine lv_aload_n hx hb dX7_clear_0 rfl (lv_at hl 0 rfl) ?_
  refine lv_iconst (v := (0 : Int32)) hx hb dX7_clear_1 (by decide) ?_
  refine va_put (D := (dC, dI)) (ci := 8) (v := .int (0 : Int32)) (ty := .int) (C := RX7) (T := TX7) (N := 34) hx hb ht inX7 tyX7 tyX7_ok nmX7 hown hK hP hD hS 0 rfl rfl 1 (by decide) (ht _ kw_0) (fun _ h9 => h9) rfl (by decide +kernel) rfl rfl (Nat.le_of_ble_eq_true rfl) dX7_clear_2 (fun H locs hP hD hS => ?_)
  obtain ⟨u1, eu1, hm⟩ := bnd_ex hm
  have hP : va_P (dC, dI) vwCl (wM cI cJ aM hM u1) H := by rw [eu1]; exact hP
  have hD : va_D A (wM cI cJ aM hM u1) := by rw [eu1]; exact hD
  refine lv_aload_n hx hb dX7_clear_5 rfl (lv_at hl 0 rfl) ?_
  refine va_get (D := (dC, dI)) (ci := 8) (v := .int (u1.1 5)) (C := RX7) (T := TX7) (N := 34) hx hb ht inX7 hown hK hP 0 rfl rfl 5 (by decide) (ht _ kw_2) (fun _ h9 => h9) rfl dX7_clear_6 ?_
  refine lv_topi (fun x2 ex2 => ?_)
  have hm := bnd_nm ex2 hm
  refine lv_istore_n (lv' := [(1, .int x2), (0, .ref aM)]) hx hb dX7_clear_9 rfl hl (by decide) rfl (fun ls hl => ?_)
  refine lv_aload_n hx hb dX7_clear_10 rfl (lv_at hl 1 rfl) ?_
  refine lv_iconst (v := (0 : Int32)) hx hb dX7_clear_11 (by decide) ?_
  refine va_put (D := (dC, dI)) (ci := 8) (v := .int (0 : Int32)) (ty := .int) (C := RX7) (T := TX7) (N := 34) hx hb ht inX7 tyX7 tyX7_ok nmX7 hown hK hP hD hS 0 rfl rfl 5 (by decide) (ht _ kw_2) (fun _ h9 => h9) rfl (by decide +kernel) rfl rfl (Nat.le_of_ble_eq_true rfl) dX7_clear_12 (fun H locs hP hD hS => ?_)
  obtain ⟨u3, eu3, hm⟩ := bnd_ex hm
  have hP : va_P (dC, dI) vwCl (wM cI cJ aM hM u3) H := by rw [eu3]; exact hP
  have hD : va_D A (wM cI cJ aM hM u3) := by rw [eu3]; exact hD
  refine lv_iload_n hx hb dX7_clear_15 rfl (lv_at hl 0 rfl) ?_
  rw [← hQ]
  exact W.iret (v := x2) hx hb hr (fun t ht1 hW => ⟨⟨_, u3, rfl, hm, by rw [ht1]; exact hP, hD⟩, hS.F ht1⟩) hS.2.2 dX7_clear_16

def f_X7_signsCounted_L4 (uM : OS) : Nat → (Int32 → Int32 → Option (Int32)) → Int32 → Int32 → Option (Int32)
  | 0, _, _, _ => none
  | n4 + 1, K33_5, x1, x2 =>
    if (32 : Int32) ≤ x1 then (
    K33_5 x2 x1) else (
    gdi x1 32 <|
    if (uM.2.1 6 (x1).toNatClampNeg) ≤ (0 : Int32) then (
    bnd (x2 + (0 : Int32)) fun x9 =>
    bnd (x1 + (1 : Int32)) fun x10 =>
    f_X7_signsCounted_L4 uM n4 K33_5 x10 x9) else (
    bnd (x2 + (1 : Int32)) fun x11 =>
    bnd (x1 + (1 : Int32)) fun x12 =>
    f_X7_signsCounted_L4 uM n4 K33_5 x12 x11))

def f_X7_signsCounted (uM : OS) : Option (Int32) :=
  bnd (fun (x3 : Int32) (x4 : Int32) =>
  some x3) fun K33_5 =>
  f_X7_signsCounted_L4 uM FU K33_5 (0 : Int32) (0 : Int32)

set_option maxHeartbeats 4000000 in
set_option maxRecDepth 100000 in
theorem c_X7_signsCounted (l : Launch) (dC : Nat → ClassId) (dI : Nat → Nat → Nat) (cI cJ : ClassId) (aM : Nat) (hM : Nat → Nat) (sz : Nat) (uM : OS) (o : Int32) (hm : f_X7_signsCounted uM = some o) : Met l yX7_signsCounted (wq yX7_signsCounted cX7_signsCounted 3 (some .int)) ({ frames := 0, cells := 0, slots := 0, locals := 0 } : Room) (va_Pc [.ref aM] (pcW dC dI cI cJ sz (wM cI cJ aM hM uM))) (va_Qi (S := Unit) (fun r u => some r = some o) (fun (u : Unit) t => va_P (dC, dI) vwCl (wM cI cJ aM hM uM) t.heap ∧ va_D (va_A (wM cI cJ aM hM uM) sz) (wM cI cJ aM hM uM)) (va_A (wM cI cJ aM hM uM) sz)) 0 0 (va_A (wM cI cJ aM hM uM) sz) := by
  refine Met.ofW (cc := cX7_signsCounted) (maxL := 3) (ret := (some .int)) (by decide) rfl ?_
  intro p e s m args below meth c s₁ B hml hv
  obtain ⟨rfl, hsz, hP, hK, hD0, hN⟩ := hv
  have hx := B.exec
  have hb := B.bytes
  have hr := B.returns
  have ht : ∀ w ∈ lw_good, w.before _ s = true := fun w h => atoms_spec (ws := wq yX7_signsCounted cX7_signsCounted 3 (some .int)) B.pre w (wq_mem h)
  have hown : s.vm.findClass RX7 = some m.cls := findClass_of_methodNamed B.named
  have hlocks := B.notSynchronized
  subst hsz
  have hD := hD0.self (sz := s.heap.size)
  generalize hAe : va_A (wM cI cJ aM hM uM) s.heap.size = A at hD ⊢
  have hA : ∀ q : Nat, s.heap.size ≤ q → A q := fun q h => by rw [← hAe]; exact Or.inr h
  have hS : va_S A s.heap s.heap [] := va_S.rf
  have hl := lv_entry ([.ref aM]) (n := 3) (Nat.le_of_ble_eq_true rfl)
  rw [lg_entry_eq]
  generalize (lg_sl ([.ref aM]) ++ List.replicate (3 - (lg_sl ([.ref aM])).length) Slot.unset).toArray = ls at hl ⊢
  have hl : lv_has ls 3 [(0, .ref aM)] := hl
  generalize hQ : MQ below _ _ s _ _ _ = Q
  generalize hH : s.heap = H at hP ⊢
  have hS : va_S A s.heap H [] := by rw [← hH]; exact va_S.rf
  show W p l e ({ frames := 0, cells := 0, slots := 0, locals := 0 } : Room) s m ([.ref aM] : List Value).toArray below meth c H [] 0 0 Q (F0 m 0 ls [])
  unfold f_X7_signsCounted at hm
  refine lv_iconst (v := (0 : Int32)) hx hb dX7_signsCounted_0 (by decide) ?_
  refine lv_istore_n (lv' := [(1, .int (0 : Int32)), (0, .ref aM)]) hx hb dX7_signsCounted_1 rfl hl (by decide) rfl (fun ls hl => ?_)
  refine lv_iconst (v := (0 : Int32)) hx hb dX7_signsCounted_2 (by decide) ?_
  refine lv_istore_n (lv' := [(2, .int (0 : Int32)), (1, .int (0 : Int32)), (0, .ref aM)]) hx hb dX7_signsCounted_3 rfl hl (by decide) rfl (fun ls hl => ?_)
  obtain ⟨K33_5, eK33_5, hm⟩ := bnd_ex hm
  have X33_5 : ∀ (x3 : Int32) (x4 : Int32) (H : Heap) (locs : List Loc) (ls : Array Slot), K33_5 x3 x4 = some o → va_P (dC, dI) vwCl (wM cI cJ aM hM uM) H → va_D A (wM cI cJ aM hM uM) → va_S A s.heap H locs → lv_has ls 3 [(0, .ref aM), (1, .int x3), (2, .int x4)] → W p l e ({ frames := 0, cells := 0, slots := 0, locals := 0 } : Room) s m ([.ref aM] : List Value).toArray below meth c H locs 0 0 Q (F0 m 33 ls []) := by
    intro x3 x4 H locs ls hm hP hD hS hl
    have hm := ap2 eK33_5 hm
    refine lv_iload_n hx hb dX7_signsCounted_33 rfl (lv_at hl 1 rfl) ?_
    rw [← hQ]
    exact W.iret (v := x3) hx hb hr (fun t ht1 hW => ⟨⟨_, (), rfl, hm, by rw [ht1]; exact hP, hD⟩, hS.F ht1⟩) hS.2.2 dX7_signsCounted_34
  have LP4 : ∀ (n4 : Nat) (x1 : Int32) (x2 : Int32) (H : Heap) (locs : List Loc) (ls : Array Slot), f_X7_signsCounted_L4 uM n4 K33_5 x1 x2 = some o → va_P (dC, dI) vwCl (wM cI cJ aM hM uM) H → va_D A (wM cI cJ aM hM uM) → va_S A s.heap H locs → lv_has ls 3 [(0, .ref aM), (1, .int x2), (2, .int x1)] → W p l e ({ frames := 0, cells := 0, slots := 0, locals := 0 } : Room) s m ([.ref aM] : List Value).toArray below meth c H locs 0 0 Q (F0 m 4 ls []) := by
    intro n4
    induction n4 with
    | zero => intro x1 x2 H locs ls hm; exact nomatch (show (none : Option _) = some _ from hm)
    | succ n4 ih4 =>
      intro x1 x2 H locs ls hm hP hD hS hl
      unfold f_X7_signsCounted_L4 at hm
      refine lv_iload_n hx hb dX7_signsCounted_4 rfl (lv_at hl 2 rfl) ?_
      refine lv_bipush (v := (32 : Int32)) hx hb dX7_signsCounted_5 (by decide) ?_
      refine lv_icmp_ge (tgt := 33) hx hb dX7_signsCounted_7 (by decide) (fun c6 => ?_) (fun c6 => ?_)
      · have hm := ite_t c6 hm
        exact X33_5 x2 x1 _ _ _ hm hP hD hS (lv_sub hl [0, 1, 2] rfl)
      · have hm := ite_f c6 hm
        refine lv_iload_n hx hb dX7_signsCounted_10 rfl (lv_at hl 1 rfl) ?_
        refine lv_aload_n hx hb dX7_signsCounted_11 rfl (lv_at hl 0 rfl) ?_
        refine va_get (D := (dC, dI)) (ci := 8) (v := .ref (hM 6)) (C := RX7) (T := TX7) (N := 34) hx hb ht inX7 hown hK hP 0 rfl rfl 6 (by decide) (ht _ kw_3) (fun _ h9 => h9) rfl dX7_signsCounted_12 ?_
        refine lv_iload_n hx hb dX7_signsCounted_15 rfl (lv_at hl 2 rfl) ?_
        obtain ⟨g7, hm⟩ := gdi_of hm
        refine va_iald hx hb hK hP 2 0 rfl rfl g7 dX7_signsCounted_16 ?_
        refine lv_if_le (tgt := 24) hx hb dX7_signsCounted_17 (by decide) (fun c8 => ?_) (fun c8 => ?_)
        · have hm := ite_t c8 hm
          refine lv_iconst (v := (0 : Int32)) hx hb dX7_signsCounted_24 (by decide) ?_
          refine lv_iadd hx hb dX7_signsCounted_25 ?_
          refine lv_topi (fun x9 ex9 => ?_)
          have hm := bnd_nm ex9 hm
          refine lv_istore_n (lv' := [(1, .int x9), (0, .ref aM), (2, .int x1)]) hx hb dX7_signsCounted_26 rfl hl (by decide) rfl (fun ls hl => ?_)
          obtain ⟨x10, ex10, hm⟩ := bnd_ex hm
          refine lv_iinc (v := x10) (lv' := [(2, .int x10), (1, .int x9), (0, .ref aM)]) hx hb dX7_signsCounted_27 hl (k := 2) rfl (by rw [ex10]; exact congrArg _ (by decide)) (by decide) rfl (fun ls hl => ?_)
          refine lv_goto (tgt := 4) hx hb dX7_signsCounted_30 (by decide) ?_
          exact ih4 x10 x9 _ _ _ hm hP hD hS (lv_sub hl [2, 1, 0] rfl)
        · have hm := ite_f c8 hm
          refine lv_iconst (v := (1 : Int32)) hx hb dX7_signsCounted_20 (by decide) ?_
          refine lv_goto (tgt := 25) hx hb dX7_signsCounted_21 (by decide) ?_
          refine lv_iadd hx hb dX7_signsCounted_25 ?_
          refine lv_topi (fun x11 ex11 => ?_)
          have hm := bnd_nm ex11 hm
          refine lv_istore_n (lv' := [(1, .int x11), (0, .ref aM), (2, .int x1)]) hx hb dX7_signsCounted_26 rfl hl (by decide) rfl (fun ls hl => ?_)
          obtain ⟨x12, ex12, hm⟩ := bnd_ex hm
          refine lv_iinc (v := x12) (lv' := [(2, .int x12), (1, .int x11), (0, .ref aM)]) hx hb dX7_signsCounted_27 hl (k := 2) rfl (by rw [ex12]; exact congrArg _ (by decide)) (by decide) rfl (fun ls hl => ?_)
          refine lv_goto (tgt := 4) hx hb dX7_signsCounted_30 (by decide) ?_
          exact ih4 x12 x11 _ _ _ hm hP hD hS (lv_sub hl [2, 1, 0] rfl)
  exact LP4 FU (0 : Int32) (0 : Int32) _ _ _ hm hP hD hS (lv_sub hl [2, 1, 0] rfl)

def f_X7_fail (uM : OS) (p1 : Int32) : Option (OS) :=
  if (uM.1 27) = (0 : Int32) then (
  bnd (sF uM 27 p1) fun u2 =>
  some u2) else (
  some uM)

set_option maxHeartbeats 4000000 in
set_option maxRecDepth 100000 in
theorem c_X7_fail (l : Launch) (dC : Nat → ClassId) (dI : Nat → Nat → Nat) (cI cJ : ClassId) (aM : Nat) (hM : Nat → Nat) (sz : Nat) (uM : OS) (p1 : Int32) (o : OS) (hm : f_X7_fail uM p1 = some o) : Met l yX7_fail (wq yX7_fail cX7_fail 2 none) ({ frames := 0, cells := 0, slots := 0, locals := 0 } : Room) (va_Pc [.ref aM, .int p1] (pcW dC dI cI cJ sz (wM cI cJ aM hM uM))) (va_Qv (S := OS) (fun u => some u = some o) (fun (u : OS) t => va_P (dC, dI) vwCl (wM cI cJ aM hM u) t.heap ∧ va_D (va_A (wM cI cJ aM hM uM) sz) (wM cI cJ aM hM u)) (va_A (wM cI cJ aM hM uM) sz)) 0 0 (va_A (wM cI cJ aM hM uM) sz) := by
  refine Met.ofW (cc := cX7_fail) (maxL := 2) (ret := none) (by decide) rfl ?_
  intro p e s m args below meth c s₁ B hml hv
  obtain ⟨rfl, hsz, hP, hK, hD0, hN⟩ := hv
  have hx := B.exec
  have hb := B.bytes
  have hr := B.returns
  have ht : ∀ w ∈ lw_good, w.before _ s = true := fun w h => atoms_spec (ws := wq yX7_fail cX7_fail 2 none) B.pre w (wq_mem h)
  have hown : s.vm.findClass RX7 = some m.cls := findClass_of_methodNamed B.named
  have hlocks := B.notSynchronized
  subst hsz
  have hD := hD0.self (sz := s.heap.size)
  generalize hAe : va_A (wM cI cJ aM hM uM) s.heap.size = A at hD ⊢
  have hA : ∀ q : Nat, s.heap.size ≤ q → A q := fun q h => by rw [← hAe]; exact Or.inr h
  have hS : va_S A s.heap s.heap [] := va_S.rf
  have hl := lv_entry ([.ref aM, .int p1]) (n := 2) (Nat.le_of_ble_eq_true rfl)
  rw [lg_entry_eq]
  generalize (lg_sl ([.ref aM, .int p1]) ++ List.replicate (2 - (lg_sl ([.ref aM, .int p1])).length) Slot.unset).toArray = ls at hl ⊢
  have hl : lv_has ls 2 [(0, .ref aM), (1, .int p1)] := hl
  generalize hQ : MQ below _ _ s _ _ _ = Q
  generalize hH : s.heap = H at hP ⊢
  have hS : va_S A s.heap H [] := by rw [← hH]; exact va_S.rf
  show W p l e ({ frames := 0, cells := 0, slots := 0, locals := 0 } : Room) s m ([.ref aM, .int p1] : List Value).toArray below meth c H [] 0 0 Q (F0 m 0 ls [])
  unfold f_X7_fail at hm
  refine lv_aload_n hx hb dX7_fail_0 rfl (lv_at hl 0 rfl) ?_
  refine va_get (D := (dC, dI)) (ci := 8) (v := .int (uM.1 27)) (C := RX7) (T := TX7) (N := 34) hx hb ht inX7 hown hK hP 0 rfl rfl 27 (by decide) (ht _ kw_4) (fun _ h9 => h9) rfl dX7_fail_1 ?_
  refine lv_if_ne (tgt := 12) hx hb dX7_fail_4 (by decide) (fun c1 => ?_) (fun c1 => ?_)
  · have hm := ite_f c1 hm
    rw [← hQ]
    exact W.vret hx hb hr (fun t ht1 hW => ⟨⟨uM, rfl, hm, by rw [ht1]; exact hP, hD⟩, hS.F ht1⟩) hS.2.2 dX7_fail_12
  · have hm := ite_t c1 hm
    refine lv_aload_n hx hb dX7_fail_7 rfl (lv_at hl 0 rfl) ?_
    refine lv_iload_n hx hb dX7_fail_8 rfl (lv_at hl 1 rfl) ?_
    refine va_put (D := (dC, dI)) (ci := 8) (v := .int p1) (ty := .int) (C := RX7) (T := TX7) (N := 34) hx hb ht inX7 tyX7 tyX7_ok nmX7 hown hK hP hD hS 0 rfl rfl 27 (by decide) (ht _ kw_4) (fun _ h9 => h9) rfl (by decide +kernel) rfl rfl (Nat.le_of_ble_eq_true rfl) dX7_fail_9 (fun H locs hP hD hS => ?_)
    obtain ⟨u2, eu2, hm⟩ := bnd_ex hm
    have hP : va_P (dC, dI) vwCl (wM cI cJ aM hM u2) H := by rw [eu2]; exact hP
    have hD : va_D A (wM cI cJ aM hM u2) := by rw [eu2]; exact hD
    rw [← hQ]
    exact W.vret hx hb hr (fun t ht1 hW => ⟨⟨u2, rfl, hm, by rw [ht1]; exact hP, hD⟩, hS.F ht1⟩) hS.2.2 dX7_fail_12

def f_X7_next (uM : OS) : Option (OS × Int32) :=
  if (uM.1 27) ≤ (0 : Int32) then (
  if (uM.1 26) < (uM.1 15) then (
  bnd (sF uM 26 ((uM.1 26) + (1 : Int32))) fun u3 =>
  gdi ((u3.1 26) - (1 : Int32)) 20000 <|
  some (u3, (u3.2.1 14 (((u3.1 26) - (1 : Int32))).toNatClampNeg))) else (
  oC1 (f_X7_fail uM (1 : Int32)) fun u5 =>
  some (u5, (0 : Int32)))) else (
  some (uM, (0 : Int32)))

set_option maxHeartbeats 4000000 in
set_option maxRecDepth 100000 in
theorem c_X7_next (l : Launch) (dC : Nat → ClassId) (dI : Nat → Nat → Nat) (cI cJ : ClassId) (aM : Nat) (hM : Nat → Nat) (sz : Nat) (uM : OS) (o : OS × Int32) (hm : f_X7_next uM = some o) : Met l yX7_next (wq yX7_next cX7_next 1 (some .int)) ({ frames := 1, cells := 0, slots := 0, locals := 21 } : Room) (va_Pc [.ref aM] (pcW dC dI cI cJ sz (wM cI cJ aM hM uM))) (va_Qi (S := OS) (fun r u => some (u, r) = some o) (fun (u : OS) t => va_P (dC, dI) vwCl (wM cI cJ aM hM u) t.heap ∧ va_D (va_A (wM cI cJ aM hM uM) sz) (wM cI cJ aM hM u)) (va_A (wM cI cJ aM hM uM) sz)) 0 0 (va_A (wM cI cJ aM hM uM) sz) := by
  refine Met.ofW (cc := cX7_next) (maxL := 1) (ret := (some .int)) (by decide) rfl ?_
  intro p e s m args below meth c s₁ B hml hv
  obtain ⟨rfl, hsz, hP, hK, hD0, hN⟩ := hv
  have hx := B.exec
  have hb := B.bytes
  have hr := B.returns
  have ht : ∀ w ∈ lw_good, w.before _ s = true := fun w h => atoms_spec (ws := wq yX7_next cX7_next 1 (some .int)) B.pre w (wq_mem h)
  have hown : s.vm.findClass RX7 = some m.cls := findClass_of_methodNamed B.named
  have hlocks := B.notSynchronized
  subst hsz
  have hD := hD0.self (sz := s.heap.size)
  generalize hAe : va_A (wM cI cJ aM hM uM) s.heap.size = A at hD ⊢
  have hA : ∀ q : Nat, s.heap.size ≤ q → A q := fun q h => by rw [← hAe]; exact Or.inr h
  have hS : va_S A s.heap s.heap [] := va_S.rf
  have hl := lv_entry ([.ref aM]) (n := 1) (Nat.le_of_ble_eq_true rfl)
  rw [lg_entry_eq]
  generalize (lg_sl ([.ref aM]) ++ List.replicate (1 - (lg_sl ([.ref aM])).length) Slot.unset).toArray = ls at hl ⊢
  have hl : lv_has ls 1 [(0, .ref aM)] := hl
  generalize hQ : MQ below _ _ s _ _ _ = Q
  generalize hH : s.heap = H at hP ⊢
  have hS : va_S A s.heap H [] := by rw [← hH]; exact va_S.rf
  show W p l e ({ frames := 1, cells := 0, slots := 0, locals := 21 } : Room) s m ([.ref aM] : List Value).toArray below meth c H [] 0 0 Q (F0 m 0 ls [])
  unfold f_X7_next at hm
  refine lv_aload_n hx hb dX7_next_0 rfl (lv_at hl 0 rfl) ?_
  refine va_get (D := (dC, dI)) (ci := 8) (v := .int (uM.1 27)) (C := RX7) (T := TX7) (N := 34) hx hb ht inX7 hown hK hP 0 rfl rfl 27 (by decide) (ht _ kw_4) (fun _ h9 => h9) rfl dX7_next_1 ?_
  refine lv_if_le (tgt := 9) hx hb dX7_next_4 (by decide) (fun c1 => ?_) (fun c1 => ?_)
  · have hm := ite_t c1 hm
    refine lv_aload_n hx hb dX7_next_9 rfl (lv_at hl 0 rfl) ?_
    refine va_get (D := (dC, dI)) (ci := 8) (v := .int (uM.1 26)) (C := RX7) (T := TX7) (N := 34) hx hb ht inX7 hown hK hP 0 rfl rfl 26 (by decide) (ht _ kw_5) (fun _ h9 => h9) rfl dX7_next_10 ?_
    refine lv_aload_n hx hb dX7_next_13 rfl (lv_at hl 0 rfl) ?_
    refine va_get (D := (dC, dI)) (ci := 8) (v := .int (uM.1 15)) (C := RX7) (T := TX7) (N := 34) hx hb ht inX7 hown hK hP 0 rfl rfl 15 (by decide) (ht _ kw_6) (fun _ h9 => h9) rfl dX7_next_14 ?_
    refine lv_icmp_lt (tgt := 27) hx hb dX7_next_17 (by decide) (fun c2 => ?_) (fun c2 => ?_)
    · have hm := ite_t c2 hm
      refine lv_aload_n hx hb dX7_next_27 rfl (lv_at hl 0 rfl) ?_
      refine lv_dup hx hb dX7_next_28 rfl ?_
      refine va_get (D := (dC, dI)) (ci := 8) (v := .int (uM.1 26)) (C := RX7) (T := TX7) (N := 34) hx hb ht inX7 hown hK hP 0 rfl rfl 26 (by decide) (ht _ kw_5) (fun _ h9 => h9) rfl dX7_next_29 ?_
      refine lv_iconst (v := (1 : Int32)) hx hb dX7_next_32 (by decide) ?_
      refine lv_iadd hx hb dX7_next_33 ?_
      refine va_put (D := (dC, dI)) (ci := 8) (v := .int ((uM.1 26) + (1 : Int32))) (ty := .int) (C := RX7) (T := TX7) (N := 34) hx hb ht inX7 tyX7 tyX7_ok nmX7 hown hK hP hD hS 0 rfl rfl 26 (by decide) (ht _ kw_5) (fun _ h9 => h9) rfl (by decide +kernel) rfl rfl (Nat.le_of_ble_eq_true rfl) dX7_next_34 (fun H locs hP hD hS => ?_)
      obtain ⟨u3, eu3, hm⟩ := bnd_ex hm
      have hP : va_P (dC, dI) vwCl (wM cI cJ aM hM u3) H := by rw [eu3]; exact hP
      have hD : va_D A (wM cI cJ aM hM u3) := by rw [eu3]; exact hD
      refine lv_aload_n hx hb dX7_next_37 rfl (lv_at hl 0 rfl) ?_
      refine va_get (D := (dC, dI)) (ci := 8) (v := .ref (hM 14)) (C := RX7) (T := TX7) (N := 34) hx hb ht inX7 hown hK hP 0 rfl rfl 14 (by decide) (ht _ kw_7) (fun _ h9 => h9) rfl dX7_next_38 ?_
      refine lv_aload_n hx hb dX7_next_41 rfl (lv_at hl 0 rfl) ?_
      refine va_get (D := (dC, dI)) (ci := 8) (v := .int (u3.1 26)) (C := RX7) (T := TX7) (N := 34) hx hb ht inX7 hown hK hP 0 rfl rfl 26 (by decide) (ht _ kw_5) (fun _ h9 => h9) rfl dX7_next_42 ?_
      refine lv_iconst (v := (1 : Int32)) hx hb dX7_next_45 (by decide) ?_
      refine lv_isub hx hb dX7_next_46 ?_
      obtain ⟨g4, hm⟩ := gdi_of hm
      refine va_iald hx hb hK hP 9 0 rfl rfl g4 dX7_next_47 ?_
      rw [← hQ]
      exact W.iret (v := (u3.2.1 14 (((u3.1 26) - (1 : Int32))).toNatClampNeg)) hx hb hr (fun t ht1 hW => ⟨⟨_, u3, rfl, hm, by rw [ht1]; exact hP, hD⟩, hS.F ht1⟩) hS.2.2 dX7_next_48
    · have hm := ite_f c2 hm
      refine lv_aload_n hx hb dX7_next_20 rfl (lv_at hl 0 rfl) ?_
      refine lv_iconst (v := (1 : Int32)) hx hb dX7_next_21 (by decide) ?_
      have hPc : va_P (dC, dI) vwCl (wM cI cJ aM hM uM) _ := hP
      have hDc : va_D A (wM cI cJ aM hM uM) := hD
      have hFc := va_free (wc := (wM cI cJ aM hM uM)) hD hS hA [0, 1, 2, 3, 4, 5, 6, 7, 8, 9, 10, 11, 12, 13, 14] rfl
      obtain ⟨u5o, e6, hm⟩ := oC1_of hm
      refine va_callv (va_runV (As := [.int (1 : Int32)]) (rest := []) ⟨hx, hb, hml, hown, ht⟩ (c_X7_fail l dC dI cI cJ aM hM H.size uM (1 : Int32) u5o e6) (cwV 1 ht (gdV kw_12 kw_10 kw_11 kw_9 kw_8) rfl rfl rfl ⟨rfl, nd_X7_fail⟩ ⟨Nat.le_of_ble_eq_true rfl, Nat.le_of_ble_eq_true rfl⟩) ⟨pcW_blind, va_recv hK hPc (ci := 8) (q0 := 0) rfl rfl, pcW_pre hPc hK hDc hN⟩ rfl rfl hl.1 rfl (lv_room (Nat.le_of_ble_eq_true rfl)) dX7_next_22 ⟨Nat.zero_le _, Nat.zero_le _⟩) hS (fun q _ z => hFc q z) hFc (fun uu t H1 locs ht1 hvm hw hB hz1 hk1 hS => ?_)
      obtain ⟨u5, rfl⟩ : ∃ z, z = uu := ⟨_, rfl⟩
      obtain ⟨hP1, hD1⟩ := hB
      rw [ht1] at hP1
      obtain rfl : u5 = u5o := Option.some.inj hw
      have hP : va_P (dC, dI) vwCl (wM cI cJ aM hM u5) H1 := hP1
      have hD : va_D A (wM cI cJ aM hM u5) := hD1.weaken (fun _ q _ z => hFc q.1 z)
      generalize H1 = H at hP hS ⊢
      refine lv_iconst (v := (0 : Int32)) hx hb dX7_next_25 (by decide) ?_
      rw [← hQ]
      exact W.iret (v := (0 : Int32)) hx hb hr (fun t ht1 hW => ⟨⟨_, u5, rfl, hm, by rw [ht1]; exact hP, hD⟩, hS.F ht1⟩) hS.2.2 dX7_next_26
  · have hm := ite_f c1 hm
    refine lv_iconst (v := (0 : Int32)) hx hb dX7_next_7 (by decide) ?_
    rw [← hQ]
    exact W.iret (v := (0 : Int32)) hx hb hr (fun t ht1 hW => ⟨⟨_, uM, rfl, hm, by rw [ht1]; exact hP, hD⟩, hS.F ht1⟩) hS.2.2 dX7_next_8

def f_X7_nextWide_L5 (p1 : Int32) : Nat → (Int64 → Int32 → OS → Option (OS × Int64)) → Int32 → Int64 → OS → Option (OS × Int64)
  | 0, _, _, _, _ => none
  | n5 + 1, K28_7, x1, y2, u3 =>
    if p1 ≤ x1 then (
    K28_7 y2 x1 u3) else (
    oC2 (f_X7_next u3) fun u9 r10 =>
    bnd ((y2 <<< (((8 : Int32)).toInt64 &&& (63 : Int64))) ||| (r10).toInt64) fun y12 =>
    bnd (x1 + (1 : Int32)) fun x13 =>
    f_X7_nextWide_L5 p1 n5 K28_7 x13 y12 u9)

def f_X7_nextWide (uM : OS) (p1 : Int32) : Option (OS × Int64) :=
  bnd (fun (y4 : Int64) (x5 : Int32) (u6 : OS) =>
  some (u6, y4)) fun K28_7 =>
  f_X7_nextWide_L5 p1 FU K28_7 (0 : Int32) (0 : Int64) uM

set_option maxHeartbeats 4000000 in
set_option maxRecDepth 100000 in
theorem c_X7_nextWide (l : Launch) (dC : Nat → ClassId) (dI : Nat → Nat → Nat) (cI cJ : ClassId) (aM : Nat) (hM : Nat → Nat) (sz : Nat) (uM : OS) (p1 : Int32) (o : OS × Int64) (hm : f_X7_nextWide uM p1 = some o) : Met l yX7_nextWide (wq yX7_nextWide cX7_nextWide 5 (some .long)) ({ frames := 2, cells := 0, slots := 0, locals := 41 } : Room) (va_Pc [.ref aM, .int p1] (pcW dC dI cI cJ sz (wM cI cJ aM hM uM))) (va_Ql (S := OS) (fun r u => some (u, r) = some o) (fun (u : OS) t => va_P (dC, dI) vwCl (wM cI cJ aM hM u) t.heap ∧ va_D (va_A (wM cI cJ aM hM uM) sz) (wM cI cJ aM hM u)) (va_A (wM cI cJ aM hM uM) sz)) 0 0 (va_A (wM cI cJ aM hM uM) sz) := by
  refine Met.ofW (cc := cX7_nextWide) (maxL := 5) (ret := (some .long)) (by decide) rfl ?_
  intro p e s m args below meth c s₁ B hml hv
  obtain ⟨rfl, hsz, hP, hK, hD0, hN⟩ := hv
  have hx := B.exec
  have hb := B.bytes
  have hr := B.returns
  have ht : ∀ w ∈ lw_good, w.before _ s = true := fun w h => atoms_spec (ws := wq yX7_nextWide cX7_nextWide 5 (some .long)) B.pre w (wq_mem h)
  have hown : s.vm.findClass RX7 = some m.cls := findClass_of_methodNamed B.named
  have hlocks := B.notSynchronized
  subst hsz
  have hD := hD0.self (sz := s.heap.size)
  generalize hAe : va_A (wM cI cJ aM hM uM) s.heap.size = A at hD ⊢
  have hA : ∀ q : Nat, s.heap.size ≤ q → A q := fun q h => by rw [← hAe]; exact Or.inr h
  have hS : va_S A s.heap s.heap [] := va_S.rf
  have hl := lv_entry ([.ref aM, .int p1]) (n := 5) (Nat.le_of_ble_eq_true rfl)
  rw [lg_entry_eq]
  generalize (lg_sl ([.ref aM, .int p1]) ++ List.replicate (5 - (lg_sl ([.ref aM, .int p1])).length) Slot.unset).toArray = ls at hl ⊢
  have hl : lv_has ls 5 [(0, .ref aM), (1, .int p1)] := hl
  generalize hQ : MQ below _ _ s _ _ _ = Q
  generalize hH : s.heap = H at hP ⊢
  have hS : va_S A s.heap H [] := by rw [← hH]; exact va_S.rf
  show W p l e ({ frames := 2, cells := 0, slots := 0, locals := 41 } : Room) s m ([.ref aM, .int p1] : List Value).toArray below meth c H [] 0 0 Q (F0 m 0 ls [])
  unfold f_X7_nextWide at hm
  refine lv_lconst (v := (0 : Int64)) hx hb dX7_nextWide_0 (by decide) ?_
  refine lv_lstore_n (lv' := [(2, .long (0 : Int64)), (0, .ref aM), (1, .int p1)]) hx hb dX7_nextWide_1 rfl hl (by decide) rfl (fun ls hl => ?_)
  refine lv_iconst (v := (0 : Int32)) hx hb dX7_nextWide_2 (by decide) ?_
  refine lv_istore (lv' := [(4, .int (0 : Int32)), (2, .long (0 : Int64)), (0, .ref aM), (1, .int p1)]) hx hb dX7_nextWide_3 hl (by decide) rfl (fun ls hl => ?_)
  obtain ⟨K28_7, eK28_7, hm⟩ := bnd_ex hm
  have X28_7 : ∀ (y4 : Int64) (x5 : Int32) (u6 : OS) (H : Heap) (locs : List Loc) (ls : Array Slot), K28_7 y4 x5 u6 = some o → va_P (dC, dI) vwCl (wM cI cJ aM hM u6) H → va_D A (wM cI cJ aM hM u6) → va_S A s.heap H locs → lv_has ls 5 [(0, .ref aM), (1, .int p1), (2, .long y4), (4, .int x5)] → W p l e ({ frames := 2, cells := 0, slots := 0, locals := 41 } : Room) s m ([.ref aM, .int p1] : List Value).toArray below meth c H locs 0 0 Q (F0 m 28 ls []) := by
    intro y4 x5 u6 H locs ls hm hP hD hS hl
    have hm := ap3 eK28_7 hm
    refine lv_lload_n hx hb dX7_nextWide_28 rfl (lv_at hl 2 rfl) ?_
    rw [← hQ]
    exact W.lret (v := y4) hx hb hr (fun t ht1 hW => ⟨⟨_, u6, rfl, hm, by rw [ht1]; exact hP, hD⟩, hS.F ht1⟩) hS.2.2 dX7_nextWide_29
  have LP5 : ∀ (n5 : Nat) (x1 : Int32) (y2 : Int64) (u3 : OS) (H : Heap) (locs : List Loc) (ls : Array Slot), f_X7_nextWide_L5 p1 n5 K28_7 x1 y2 u3 = some o → va_P (dC, dI) vwCl (wM cI cJ aM hM u3) H → va_D A (wM cI cJ aM hM u3) → va_S A s.heap H locs → lv_has ls 5 [(0, .ref aM), (1, .int p1), (2, .long y2), (4, .int x1)] → W p l e ({ frames := 2, cells := 0, slots := 0, locals := 41 } : Room) s m ([.ref aM, .int p1] : List Value).toArray below meth c H locs 0 0 Q (F0 m 5 ls []) := by
    intro n5
    induction n5 with
    | zero => intro x1 y2 u3 H locs ls hm; exact nomatch (show (none : Option _) = some _ from hm)
    | succ n5 ih5 =>
      intro x1 y2 u3 H locs ls hm hP hD hS hl
      unfold f_X7_nextWide_L5 at hm
      refine lv_iload hx hb dX7_nextWide_5 (lv_at hl 3 rfl) ?_
      refine lv_iload_n hx hb dX7_nextWide_7 rfl (lv_at hl 1 rfl) ?_
      refine lv_icmp_ge (tgt := 28) hx hb dX7_nextWide_8 (by decide) (fun c8 => ?_) (fun c8 => ?_)
      · have hm := ite_t c8 hm
        exact X28_7 y2 x1 u3 _ _ _ hm hP hD hS (lv_sub hl [0, 1, 2, 3] rfl)
      · have hm := ite_f c8 hm
        refine lv_lload_n hx hb dX7_nextWide_11 rfl (lv_at hl 2 rfl) ?_
        refine lv_bipush (v := (8 : Int32)) hx hb dX7_nextWide_12 (by decide) ?_
        refine lv_lshl hx hb dX7_nextWide_14 rfl ?_
        refine lv_aload_n hx hb dX7_nextWide_15 rfl (lv_at hl 0 rfl) ?_
        have hPc : va_P (dC, dI) vwCl (wM cI cJ aM hM u3) _ := hP
        have hDc : va_D A (wM cI cJ aM hM u3) := hD
        have hFc := va_free (wc := (wM cI cJ aM hM u3)) hD hS hA [0, 1, 2, 3, 4, 5, 6, 7, 8, 9, 10, 11, 12, 13, 14] rfl
        obtain ⟨u9o, r10o, e11, hm⟩ := oC2_of hm
        refine va_calli (va_runV (As := []) (rest := [.long (y2 <<< (((8 : Int32)).toInt64 &&& (63 : Int64)))]) ⟨hx, hb, hml, hown, ht⟩ (c_X7_next l dC dI cI cJ aM hM H.size u3 (u9o, r10o) e11) (cwV 0 ht (gdV kw_16 kw_14 kw_15 kw_9 kw_13) rfl rfl rfl ⟨rfl, nd_X7_next⟩ ⟨Nat.le_of_ble_eq_true rfl, Nat.le_of_ble_eq_true rfl⟩) ⟨pcW_blind, va_recv hK hPc (ci := 8) (q0 := 0) rfl rfl, pcW_pre hPc hK hDc hN⟩ rfl rfl hl.1 rfl (lv_room (Nat.le_of_ble_eq_true rfl)) dX7_nextWide_16 ⟨Nat.zero_le _, Nat.zero_le _⟩) hS (fun q _ z => hFc q z) hFc (fun r10 uu t H1 locs ht1 hvm hw hB hz1 hk1 hS => ?_)
        obtain ⟨u9, rfl⟩ : ∃ z, z = uu := ⟨_, rfl⟩
        obtain ⟨hP1, hD1⟩ := hB
        rw [ht1] at hP1
        obtain ⟨q0, q1⟩ := inj2 hw
        subst q0
        subst q1
        have hP : va_P (dC, dI) vwCl (wM cI cJ aM hM u9) H1 := hP1
        have hD : va_D A (wM cI cJ aM hM u9) := hD1.weaken (fun _ q _ z => hFc q.1 z)
        generalize H1 = H at hP hS ⊢
        refine lv_i2l hx hb dX7_nextWide_19 rfl ?_
        refine lv_lor hx hb dX7_nextWide_20 ?_
        refine lv_topl (fun y12 ey12 => ?_)
        have hm := bnd_nm ey12 hm
        refine lv_lstore_n (lv' := [(2, .long y12), (0, .ref aM), (1, .int p1), (4, .int x1)]) hx hb dX7_nextWide_21 rfl hl (by decide) rfl (fun ls hl => ?_)
        obtain ⟨x13, ex13, hm⟩ := bnd_ex hm
        refine lv_iinc (v := x13) (lv' := [(4, .int x13), (2, .long y12), (0, .ref aM), (1, .int p1)]) hx hb dX7_nextWide_22 hl (k := 3) rfl (by rw [ex13]; exact congrArg _ (by decide)) (by decide) rfl (fun ls hl => ?_)
        refine lv_goto (tgt := 5) hx hb dX7_nextWide_25 (by decide) ?_
        exact ih5 x13 y12 u9 _ _ _ hm hP hD hS (lv_sub hl [2, 3, 1, 0] rfl)
  exact LP5 FU (0 : Int32) (0 : Int64) uM _ _ _ hm hP hD hS (lv_sub hl [2, 3, 1, 0] rfl)

def f_X7_nextBit (uM : OS) : Option (OS × Int32) :=
  bnd (fun (u1 : OS) =>
  bnd (sF u1 29 ((u1.1 29) - (1 : Int32))) fun u3 =>
  gdi ((u3.1 26) - (1 : Int32)) 20000 <|
  some (u3, (((u3.2.1 14 (((u3.1 26) - (1 : Int32))).toNatClampNeg) >>> ((u3.1 29) &&& (31 : Int32))) &&& (1 : Int32)))) fun K27_2 =>
  if (uM.1 29) = (0 : Int32) then (
  oC2 (f_X7_next uM) fun u6 r7 =>
  if (u6.1 27) ≤ (0 : Int32) then (
  bnd (sF u6 29 (8 : Int32)) fun u10 =>
  K27_2 u10) else (
  some (u6, (0 : Int32)))) else (
  K27_2 uM)

set_option maxHeartbeats 4000000 in
set_option maxRecDepth 100000 in
theorem c_X7_nextBit (l : Launch) (dC : Nat → ClassId) (dI : Nat → Nat → Nat) (cI cJ : ClassId) (aM : Nat) (hM : Nat → Nat) (sz : Nat) (uM : OS) (o : OS × Int32) (hm : f_X7_nextBit uM = some o) : Met l yX7_nextBit (wq yX7_nextBit cX7_nextBit 2 (some .int)) ({ frames := 2, cells := 0, slots := 0, locals := 41 } : Room) (va_Pc [.ref aM] (pcW dC dI cI cJ sz (wM cI cJ aM hM uM))) (va_Qi (S := OS) (fun r u => some (u, r) = some o) (fun (u : OS) t => va_P (dC, dI) vwCl (wM cI cJ aM hM u) t.heap ∧ va_D (va_A (wM cI cJ aM hM uM) sz) (wM cI cJ aM hM u)) (va_A (wM cI cJ aM hM uM) sz)) 0 0 (va_A (wM cI cJ aM hM uM) sz) := by
  refine Met.ofW (cc := cX7_nextBit) (maxL := 2) (ret := (some .int)) (by decide) rfl ?_
  intro p e s m args below meth c s₁ B hml hv
  obtain ⟨rfl, hsz, hP, hK, hD0, hN⟩ := hv
  have hx := B.exec
  have hb := B.bytes
  have hr := B.returns
  have ht : ∀ w ∈ lw_good, w.before _ s = true := fun w h => atoms_spec (ws := wq yX7_nextBit cX7_nextBit 2 (some .int)) B.pre w (wq_mem h)
  have hown : s.vm.findClass RX7 = some m.cls := findClass_of_methodNamed B.named
  have hlocks := B.notSynchronized
  subst hsz
  have hD := hD0.self (sz := s.heap.size)
  generalize hAe : va_A (wM cI cJ aM hM uM) s.heap.size = A at hD ⊢
  have hA : ∀ q : Nat, s.heap.size ≤ q → A q := fun q h => by rw [← hAe]; exact Or.inr h
  have hS : va_S A s.heap s.heap [] := va_S.rf
  have hl := lv_entry ([.ref aM]) (n := 2) (Nat.le_of_ble_eq_true rfl)
  rw [lg_entry_eq]
  generalize (lg_sl ([.ref aM]) ++ List.replicate (2 - (lg_sl ([.ref aM])).length) Slot.unset).toArray = ls at hl ⊢
  have hl : lv_has ls 2 [(0, .ref aM)] := hl
  generalize hQ : MQ below _ _ s _ _ _ = Q
  generalize hH : s.heap = H at hP ⊢
  have hS : va_S A s.heap H [] := by rw [← hH]; exact va_S.rf
  show W p l e ({ frames := 2, cells := 0, slots := 0, locals := 41 } : Room) s m ([.ref aM] : List Value).toArray below meth c H [] 0 0 Q (F0 m 0 ls [])
  unfold f_X7_nextBit at hm
  refine lv_aload_n hx hb dX7_nextBit_0 rfl (lv_at hl 0 rfl) ?_
  refine va_get (D := (dC, dI)) (ci := 8) (v := .int (uM.1 29)) (C := RX7) (T := TX7) (N := 34) hx hb ht inX7 hown hK hP 0 rfl rfl 29 (by decide) (ht _ kw_17) (fun _ h9 => h9) rfl dX7_nextBit_1 ?_
  obtain ⟨K27_2, eK27_2, hm⟩ := bnd_ex hm
  have J27_2 : ∀ (u1 : OS) (H : Heap) (locs : List Loc) (ls : Array Slot), K27_2 u1 = some o → va_P (dC, dI) vwCl (wM cI cJ aM hM u1) H → va_D A (wM cI cJ aM hM u1) → va_S A s.heap H locs → lv_has ls 2 [(0, .ref aM)] → W p l e ({ frames := 2, cells := 0, slots := 0, locals := 41 } : Room) s m ([.ref aM] : List Value).toArray below meth c H locs 0 0 Q (F0 m 27 ls []) := by
    intro u1 H locs ls hm hP hD hS hl
    have hm := ap1 eK27_2 hm
    refine lv_aload_n hx hb dX7_nextBit_27 rfl (lv_at hl 0 rfl) ?_
    refine lv_dup hx hb dX7_nextBit_28 rfl ?_
    refine va_get (D := (dC, dI)) (ci := 8) (v := .int (u1.1 29)) (C := RX7) (T := TX7) (N := 34) hx hb ht inX7 hown hK hP 0 rfl rfl 29 (by decide) (ht _ kw_17) (fun _ h9 => h9) rfl dX7_nextBit_29 ?_
    refine lv_iconst (v := (1 : Int32)) hx hb dX7_nextBit_32 (by decide) ?_
    refine lv_isub hx hb dX7_nextBit_33 ?_
    refine va_put (D := (dC, dI)) (ci := 8) (v := .int ((u1.1 29) - (1 : Int32))) (ty := .int) (C := RX7) (T := TX7) (N := 34) hx hb ht inX7 tyX7 tyX7_ok nmX7 hown hK hP hD hS 0 rfl rfl 29 (by decide) (ht _ kw_17) (fun _ h9 => h9) rfl (by decide +kernel) rfl rfl (Nat.le_of_ble_eq_true rfl) dX7_nextBit_34 (fun H locs hP hD hS => ?_)
    obtain ⟨u3, eu3, hm⟩ := bnd_ex hm
    have hP : va_P (dC, dI) vwCl (wM cI cJ aM hM u3) H := by rw [eu3]; exact hP
    have hD : va_D A (wM cI cJ aM hM u3) := by rw [eu3]; exact hD
    refine lv_aload_n hx hb dX7_nextBit_37 rfl (lv_at hl 0 rfl) ?_
    refine va_get (D := (dC, dI)) (ci := 8) (v := .ref (hM 14)) (C := RX7) (T := TX7) (N := 34) hx hb ht inX7 hown hK hP 0 rfl rfl 14 (by decide) (ht _ kw_7) (fun _ h9 => h9) rfl dX7_nextBit_38 ?_
    refine lv_aload_n hx hb dX7_nextBit_41 rfl (lv_at hl 0 rfl) ?_
    refine va_get (D := (dC, dI)) (ci := 8) (v := .int (u3.1 26)) (C := RX7) (T := TX7) (N := 34) hx hb ht inX7 hown hK hP 0 rfl rfl 26 (by decide) (ht _ kw_5) (fun _ h9 => h9) rfl dX7_nextBit_42 ?_
    refine lv_iconst (v := (1 : Int32)) hx hb dX7_nextBit_45 (by decide) ?_
    refine lv_isub hx hb dX7_nextBit_46 ?_
    obtain ⟨g4, hm⟩ := gdi_of hm
    refine va_iald hx hb hK hP 9 0 rfl rfl g4 dX7_nextBit_47 ?_
    refine lv_aload_n hx hb dX7_nextBit_48 rfl (lv_at hl 0 rfl) ?_
    refine va_get (D := (dC, dI)) (ci := 8) (v := .int (u3.1 29)) (C := RX7) (T := TX7) (N := 34) hx hb ht inX7 hown hK hP 0 rfl rfl 29 (by decide) (ht _ kw_17) (fun _ h9 => h9) rfl dX7_nextBit_49 ?_
    refine lv_ishr hx hb dX7_nextBit_52 ?_
    refine lv_iconst (v := (1 : Int32)) hx hb dX7_nextBit_53 (by decide) ?_
    refine lv_iand hx hb dX7_nextBit_54 ?_
    rw [← hQ]
    exact W.iret (v := (((u3.2.1 14 (((u3.1 26) - (1 : Int32))).toNatClampNeg) >>> ((u3.1 29) &&& (31 : Int32))) &&& (1 : Int32))) hx hb hr (fun t ht1 hW => ⟨⟨_, u3, rfl, hm, by rw [ht1]; exact hP, hD⟩, hS.F ht1⟩) hS.2.2 dX7_nextBit_55
  refine lv_if_ne (tgt := 27) hx hb dX7_nextBit_4 (by decide) (fun c5 => ?_) (fun c5 => ?_)
  · have hm := ite_f c5 hm
    exact J27_2 uM _ _ _ hm hP hD hS (lv_sub hl [0] rfl)
  · have hm := ite_t c5 hm
    refine lv_aload_n hx hb dX7_nextBit_7 rfl (lv_at hl 0 rfl) ?_
    have hPc : va_P (dC, dI) vwCl (wM cI cJ aM hM uM) _ := hP
    have hDc : va_D A (wM cI cJ aM hM uM) := hD
    have hFc := va_free (wc := (wM cI cJ aM hM uM)) hD hS hA [0, 1, 2, 3, 4, 5, 6, 7, 8, 9, 10, 11, 12, 13, 14] rfl
    obtain ⟨u6o, r7o, e8, hm⟩ := oC2_of hm
    refine va_calli (va_runV (As := []) (rest := []) ⟨hx, hb, hml, hown, ht⟩ (c_X7_next l dC dI cI cJ aM hM H.size uM (u6o, r7o) e8) (cwV 0 ht (gdV kw_16 kw_14 kw_15 kw_9 kw_13) rfl rfl rfl ⟨rfl, nd_X7_next⟩ ⟨Nat.le_of_ble_eq_true rfl, Nat.le_of_ble_eq_true rfl⟩) ⟨pcW_blind, va_recv hK hPc (ci := 8) (q0 := 0) rfl rfl, pcW_pre hPc hK hDc hN⟩ rfl rfl hl.1 rfl (lv_room (Nat.le_of_ble_eq_true rfl)) dX7_nextBit_8 ⟨Nat.zero_le _, Nat.zero_le _⟩) hS (fun q _ z => hFc q z) hFc (fun r7 uu t H1 locs ht1 hvm hw hB hz1 hk1 hS => ?_)
    obtain ⟨u6, rfl⟩ : ∃ z, z = uu := ⟨_, rfl⟩
    obtain ⟨hP1, hD1⟩ := hB
    rw [ht1] at hP1
    obtain ⟨q0, q1⟩ := inj2 hw
    subst q0
    subst q1
    have hP : va_P (dC, dI) vwCl (wM cI cJ aM hM u6) H1 := hP1
    have hD : va_D A (wM cI cJ aM hM u6) := hD1.weaken (fun _ q _ z => hFc q.1 z)
    generalize H1 = H at hP hS ⊢
    refine lv_istore_n (lv' := [(1, .int r7), (0, .ref aM)]) hx hb dX7_nextBit_11 rfl hl (by decide) rfl (fun ls hl => ?_)
    refine lv_aload_n hx hb dX7_nextBit_12 rfl (lv_at hl 1 rfl) ?_
    refine va_get (D := (dC, dI)) (ci := 8) (v := .int (u6.1 27)) (C := RX7) (T := TX7) (N := 34) hx hb ht inX7 hown hK hP 0 rfl rfl 27 (by decide) (ht _ kw_4) (fun _ h9 => h9) rfl dX7_nextBit_13 ?_
    refine lv_if_le (tgt := 21) hx hb dX7_nextBit_16 (by decide) (fun c9 => ?_) (fun c9 => ?_)
    · have hm := ite_t c9 hm
      refine lv_aload_n hx hb dX7_nextBit_21 rfl (lv_at hl 1 rfl) ?_
      refine lv_bipush (v := (8 : Int32)) hx hb dX7_nextBit_22 (by decide) ?_
      refine va_put (D := (dC, dI)) (ci := 8) (v := .int (8 : Int32)) (ty := .int) (C := RX7) (T := TX7) (N := 34) hx hb ht inX7 tyX7 tyX7_ok nmX7 hown hK hP hD hS 0 rfl rfl 29 (by decide) (ht _ kw_17) (fun _ h9 => h9) rfl (by decide +kernel) rfl rfl (Nat.le_of_ble_eq_true rfl) dX7_nextBit_24 (fun H locs hP hD hS => ?_)
      obtain ⟨u10, eu10, hm⟩ := bnd_ex hm
      have hP : va_P (dC, dI) vwCl (wM cI cJ aM hM u10) H := by rw [eu10]; exact hP
      have hD : va_D A (wM cI cJ aM hM u10) := by rw [eu10]; exact hD
      exact J27_2 u10 _ _ _ hm hP hD hS (lv_sub hl [1] rfl)
    · have hm := ite_f c9 hm
      refine lv_iconst (v := (0 : Int32)) hx hb dX7_nextBit_19 (by decide) ?_
      rw [← hQ]
      exact W.iret (v := (0 : Int32)) hx hb hr (fun t ht1 hW => ⟨⟨_, u6, rfl, hm, by rw [ht1]; exact hP, hD⟩, hS.F ht1⟩) hS.2.2 dX7_nextBit_20
end
