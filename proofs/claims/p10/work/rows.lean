section
-- ===== PART A: goes FIRST, ahead of the names: the tables' words, and 'selects' of the private methods out of them =====
/-- a private method of a class that the tables say can be made, by its rows of tables_1 -/
def lw_okq (q : MethodName × Nat) : Prop := (q.1.cls ≠ "java/lang/invoke/MethodHandle" ∧ q.1.cls ≠ "java/lang/invoke/VarHandle") ∧ Cond.instantiable q.1.cls q.2 ∈ tables_1 ∧ Cond.privateMethod q.1 ∈ tables_1 ∧ Cond.instanceMethod q.1 ∈ tables_1
theorem lw_p0 : lw_okq (⟨"AnsTables$Shares", "gainOf", "(IILAnsTables$Logs;)J"⟩, 11) := ⟨⟨by decide +kernel, by decide +kernel⟩, List.mem_of_getElem? (i := 47) (by decide +kernel), List.mem_of_getElem? (i := 284) (by decide +kernel), List.mem_of_getElem? (i := 285) (by decide +kernel)⟩
theorem lw_p1 : lw_okq (⟨"AnsTables$Shares", "greatestGain", "()I"⟩, 11) := ⟨⟨by decide +kernel, by decide +kernel⟩, List.mem_of_getElem? (i := 47) (by decide +kernel), List.mem_of_getElem? (i := 299) (by decide +kernel), List.mem_of_getElem? (i := 300) (by decide +kernel)⟩
theorem lw_p2 : lw_okq (⟨"AnsTables", "isWritable", "()Z"⟩, 10) := ⟨⟨by decide +kernel, by decide +kernel⟩, List.mem_of_getElem? (i := 18) (by decide +kernel), List.mem_of_getElem? (i := 342) (by decide +kernel), List.mem_of_getElem? (i := 343) (by decide +kernel)⟩
theorem lw_p3 : lw_okq (⟨"AnsTables$Shares", "numberPlaces", "()V"⟩, 11) := ⟨⟨by decide +kernel, by decide +kernel⟩, List.mem_of_getElem? (i := 47) (by decide +kernel), List.mem_of_getElem? (i := 365) (by decide +kernel), List.mem_of_getElem? (i := 366) (by decide +kernel)⟩
theorem lw_p4 : lw_okq (⟨"AnsTables$Writer", "putSign", "(IIILAnsTables$Shares;)V"⟩, 4) := ⟨⟨by decide +kernel, by decide +kernel⟩, List.mem_of_getElem? (i := 95) (by decide +kernel), List.mem_of_getElem? (i := 374) (by decide +kernel), List.mem_of_getElem? (i := 375) (by decide +kernel)⟩
theorem lw_p5 : lw_okq (⟨"AnsTables$Writer", "putByTable", "(IILAnsTables$Shares;)V"⟩, 4) := ⟨⟨by decide +kernel, by decide +kernel⟩, List.mem_of_getElem? (i := 95) (by decide +kernel), List.mem_of_getElem? (i := 378) (by decide +kernel), List.mem_of_getElem? (i := 379) (by decide +kernel)⟩
theorem lw_p6 : lw_okq (⟨"AnsTables$Writer", "putTwoSided", "(IILAnsTables$Shares;)V"⟩, 4) := ⟨⟨by decide +kernel, by decide +kernel⟩, List.mem_of_getElem? (i := 95) (by decide +kernel), List.mem_of_getElem? (i := 396) (by decide +kernel), List.mem_of_getElem? (i := 397) (by decide +kernel)⟩
theorem lw_p7 : lw_okq (⟨"AnsTables$Writer", "widen", "(IIIII)V"⟩, 4) := ⟨⟨by decide +kernel, by decide +kernel⟩, List.mem_of_getElem? (i := 95) (by decide +kernel), List.mem_of_getElem? (i := 406) (by decide +kernel), List.mem_of_getElem? (i := 407) (by decide +kernel)⟩
theorem lw_p8 : lw_okq (⟨"AnsTables$Writer", "putHead", "(IILAnsTables$Shares;LAnsTables$Octets;)V"⟩, 4) := ⟨⟨by decide +kernel, by decide +kernel⟩, List.mem_of_getElem? (i := 95) (by decide +kernel), List.mem_of_getElem? (i := 419) (by decide +kernel), List.mem_of_getElem? (i := 420) (by decide +kernel)⟩
theorem lw_p9 : lw_okq (⟨"AnsTables$Writer", "putTable", "(LAnsTables$Shares;LAnsTables$Octets;)V"⟩, 4) := ⟨⟨by decide +kernel, by decide +kernel⟩, List.mem_of_getElem? (i := 95) (by decide +kernel), List.mem_of_getElem? (i := 433) (by decide +kernel), List.mem_of_getElem? (i := 434) (by decide +kernel)⟩
theorem lw_p10 : lw_okq (⟨"AnsTables$Reader", "takeHead", "(LAnsTables$Octets;)V"⟩, 12) := ⟨⟨by decide +kernel, by decide +kernel⟩, List.mem_of_getElem? (i := 130) (by decide +kernel), List.mem_of_getElem? (i := 458) (by decide +kernel), List.mem_of_getElem? (i := 459) (by decide +kernel)⟩
theorem lw_p11 : lw_okq (⟨"AnsTables$Reader", "nextNumber", "(LAnsTables$Octets;I)J"⟩, 12) := ⟨⟨by decide +kernel, by decide +kernel⟩, List.mem_of_getElem? (i := 130) (by decide +kernel), List.mem_of_getElem? (i := 462) (by decide +kernel), List.mem_of_getElem? (i := 463) (by decide +kernel)⟩
theorem lw_p12 : lw_okq (⟨"AnsTables$Reader", "takeTable", "(LAnsTables$Octets;)V"⟩, 12) := ⟨⟨by decide +kernel, by decide +kernel⟩, List.mem_of_getElem? (i := 130) (by decide +kernel), List.mem_of_getElem? (i := 471) (by decide +kernel), List.mem_of_getElem? (i := 472) (by decide +kernel)⟩
theorem lw_p13 : lw_okq (⟨"AnsTables$Reader", "nextBits", "(LAnsTables$Octets;I)I"⟩, 12) := ⟨⟨by decide +kernel, by decide +kernel⟩, List.mem_of_getElem? (i := 130) (by decide +kernel), List.mem_of_getElem? (i := 476) (by decide +kernel), List.mem_of_getElem? (i := 477) (by decide +kernel)⟩
theorem lw_p14 : lw_okq (⟨"AnsTables$Reader", "restIsSet", "()Z"⟩, 12) := ⟨⟨by decide +kernel, by decide +kernel⟩, List.mem_of_getElem? (i := 130) (by decide +kernel), List.mem_of_getElem? (i := 484) (by decide +kernel), List.mem_of_getElem? (i := 485) (by decide +kernel)⟩
theorem lw_p15 : lw_okq (⟨"AnsTables$Reader", "takeStates", "(LAnsTables$Octets;)V"⟩, 12) := ⟨⟨by decide +kernel, by decide +kernel⟩, List.mem_of_getElem? (i := 130) (by decide +kernel), List.mem_of_getElem? (i := 489) (by decide +kernel), List.mem_of_getElem? (i := 490) (by decide +kernel)⟩
def lw_privs_1 : List (MethodName × Nat) := [(⟨"AnsTables$Shares", "gainOf", "(IILAnsTables$Logs;)J"⟩, 11), (⟨"AnsTables$Shares", "greatestGain", "()I"⟩, 11), (⟨"AnsTables", "isWritable", "()Z"⟩, 10), (⟨"AnsTables$Shares", "numberPlaces", "()V"⟩, 11), (⟨"AnsTables$Writer", "putSign", "(IIILAnsTables$Shares;)V"⟩, 4), (⟨"AnsTables$Writer", "putByTable", "(IILAnsTables$Shares;)V"⟩, 4), (⟨"AnsTables$Writer", "putTwoSided", "(IILAnsTables$Shares;)V"⟩, 4), (⟨"AnsTables$Writer", "widen", "(IIIII)V"⟩, 4), (⟨"AnsTables$Writer", "putHead", "(IILAnsTables$Shares;LAnsTables$Octets;)V"⟩, 4), (⟨"AnsTables$Writer", "putTable", "(LAnsTables$Shares;LAnsTables$Octets;)V"⟩, 4), (⟨"AnsTables$Reader", "takeHead", "(LAnsTables$Octets;)V"⟩, 12), (⟨"AnsTables$Reader", "nextNumber", "(LAnsTables$Octets;I)J"⟩, 12), (⟨"AnsTables$Reader", "takeTable", "(LAnsTables$Octets;)V"⟩, 12), (⟨"AnsTables$Reader", "nextBits", "(LAnsTables$Octets;I)I"⟩, 12), (⟨"AnsTables$Reader", "restIsSet", "()Z"⟩, 12), (⟨"AnsTables$Reader", "takeStates", "(LAnsTables$Octets;)V"⟩, 12)]
theorem lw_r1 : ∀ q ∈ lw_privs_1, lw_okq q := List.forall_mem_cons.mpr ⟨lw_p0, List.forall_mem_cons.mpr ⟨lw_p1, List.forall_mem_cons.mpr ⟨lw_p2, List.forall_mem_cons.mpr ⟨lw_p3, List.forall_mem_cons.mpr ⟨lw_p4, List.forall_mem_cons.mpr ⟨lw_p5, List.forall_mem_cons.mpr ⟨lw_p6, List.forall_mem_cons.mpr ⟨lw_p7, List.forall_mem_cons.mpr ⟨lw_p8, List.forall_mem_cons.mpr ⟨lw_p9, List.forall_mem_cons.mpr ⟨lw_p10, List.forall_mem_cons.mpr ⟨lw_p11, List.forall_mem_cons.mpr ⟨lw_p12, List.forall_mem_cons.mpr ⟨lw_p13, List.forall_mem_cons.mpr ⟨lw_p14, List.forall_mem_cons.mpr ⟨lw_p15, fun _ h => absurd h List.not_mem_nil⟩⟩⟩⟩⟩⟩⟩⟩⟩⟩⟩⟩⟩⟩⟩⟩
theorem lw_p16 : lw_okq (⟨"AnsTables$Reader", "takeRow", "(LAnsTables$Octets;)V"⟩, 12) := ⟨⟨by decide +kernel, by decide +kernel⟩, List.mem_of_getElem? (i := 130) (by decide +kernel), List.mem_of_getElem? (i := 501) (by decide +kernel), List.mem_of_getElem? (i := 502) (by decide +kernel)⟩
theorem lw_p17 : lw_okq (⟨"AnsTables$Reader", "takeSign", "(ILAnsTables$Octets;)I"⟩, 12) := ⟨⟨by decide +kernel, by decide +kernel⟩, List.mem_of_getElem? (i := 130) (by decide +kernel), List.mem_of_getElem? (i := 507) (by decide +kernel), List.mem_of_getElem? (i := 508) (by decide +kernel)⟩
theorem lw_p18 : lw_okq (⟨"AnsTables$Reader", "takeByTable", "(ILAnsTables$Octets;)I"⟩, 12) := ⟨⟨by decide +kernel, by decide +kernel⟩, List.mem_of_getElem? (i := 130) (by decide +kernel), List.mem_of_getElem? (i := 511) (by decide +kernel), List.mem_of_getElem? (i := 512) (by decide +kernel)⟩
theorem lw_p19 : lw_okq (⟨"AnsTables$Reader", "takeTwoSided", "(ILAnsTables$Octets;)I"⟩, 12) := ⟨⟨by decide +kernel, by decide +kernel⟩, List.mem_of_getElem? (i := 130) (by decide +kernel), List.mem_of_getElem? (i := 523) (by decide +kernel), List.mem_of_getElem? (i := 524) (by decide +kernel)⟩
theorem lw_p20 : lw_okq (⟨"AnsTables$Reader", "restOf", "(I)I"⟩, 12) := ⟨⟨by decide +kernel, by decide +kernel⟩, List.mem_of_getElem? (i := 130) (by decide +kernel), List.mem_of_getElem? (i := 528) (by decide +kernel), List.mem_of_getElem? (i := 529) (by decide +kernel)⟩
theorem lw_p21 : lw_okq (⟨"AnsTables$Reader", "narrow", "(IIILAnsTables$Octets;)V"⟩, 12) := ⟨⟨by decide +kernel, by decide +kernel⟩, List.mem_of_getElem? (i := 130) (by decide +kernel), List.mem_of_getElem? (i := 532) (by decide +kernel), List.mem_of_getElem? (i := 533) (by decide +kernel)⟩
theorem lw_p22 : lw_okq (⟨"AnsTables$Reader", "keep", "(I)V"⟩, 12) := ⟨⟨by decide +kernel, by decide +kernel⟩, List.mem_of_getElem? (i := 130) (by decide +kernel), List.mem_of_getElem? (i := 542) (by decide +kernel), List.mem_of_getElem? (i := 543) (by decide +kernel)⟩
theorem lw_p23 : lw_okq (⟨"AnsTables$Reader", "judgeEnd", "(LAnsTables$Octets;)V"⟩, 12) := ⟨⟨by decide +kernel, by decide +kernel⟩, List.mem_of_getElem? (i := 130) (by decide +kernel), List.mem_of_getElem? (i := 547) (by decide +kernel), List.mem_of_getElem? (i := 548) (by decide +kernel)⟩
theorem lw_p24 : lw_okq (⟨"AnsTables", "readIsRow", "()Z"⟩, 10) := ⟨⟨by decide +kernel, by decide +kernel⟩, List.mem_of_getElem? (i := 18) (by decide +kernel), List.mem_of_getElem? (i := 596) (by decide +kernel), List.mem_of_getElem? (i := 597) (by decide +kernel)⟩
theorem lw_p25 : lw_okq (⟨"java/lang/Throwable", "fillInStackTrace", "(I)Ljava/lang/Throwable;"⟩, 6) := ⟨⟨by decide +kernel, by decide +kernel⟩, List.mem_of_getElem? (i := 653) (by decide +kernel), List.mem_of_getElem? (i := 651) (by decide +kernel), List.mem_of_getElem? (i := 652) (by decide +kernel)⟩
theorem lw_p26 : lw_okq (⟨"AnsTablesModel", "signsCounted", "()I"⟩, 34) := ⟨⟨by decide +kernel, by decide +kernel⟩, List.mem_of_getElem? (i := 688) (by decide +kernel), List.mem_of_getElem? (i := 816) (by decide +kernel), List.mem_of_getElem? (i := 817) (by decide +kernel)⟩
theorem lw_p27 : lw_okq (⟨"AnsTablesModel", "lay", "(I)V"⟩, 34) := ⟨⟨by decide +kernel, by decide +kernel⟩, List.mem_of_getElem? (i := 688) (by decide +kernel), List.mem_of_getElem? (i := 834) (by decide +kernel), List.mem_of_getElem? (i := 835) (by decide +kernel)⟩
theorem lw_p28 : lw_okq (⟨"AnsTablesModel", "mayWrite", "()Z"⟩, 34) := ⟨⟨by decide +kernel, by decide +kernel⟩, List.mem_of_getElem? (i := 688) (by decide +kernel), List.mem_of_getElem? (i := 862) (by decide +kernel), List.mem_of_getElem? (i := 863) (by decide +kernel)⟩
theorem lw_p29 : lw_okq (⟨"AnsTablesModel", "writeForm", "(I)V"⟩, 34) := ⟨⟨by decide +kernel, by decide +kernel⟩, List.mem_of_getElem? (i := 688) (by decide +kernel), List.mem_of_getElem? (i := 866) (by decide +kernel), List.mem_of_getElem? (i := 867) (by decide +kernel)⟩
theorem lw_p30 : lw_okq (⟨"AnsTablesModel", "putByte", "(I)V"⟩, 34) := ⟨⟨by decide +kernel, by decide +kernel⟩, List.mem_of_getElem? (i := 688) (by decide +kernel), List.mem_of_getElem? (i := 870) (by decide +kernel), List.mem_of_getElem? (i := 871) (by decide +kernel)⟩
theorem lw_p31 : lw_okq (⟨"AnsTablesModel", "putWide", "(JI)V"⟩, 34) := ⟨⟨by decide +kernel, by decide +kernel⟩, List.mem_of_getElem? (i := 688) (by decide +kernel), List.mem_of_getElem? (i := 874) (by decide +kernel), List.mem_of_getElem? (i := 875) (by decide +kernel)⟩
def lw_privs_2 : List (MethodName × Nat) := [(⟨"AnsTables$Reader", "takeRow", "(LAnsTables$Octets;)V"⟩, 12), (⟨"AnsTables$Reader", "takeSign", "(ILAnsTables$Octets;)I"⟩, 12), (⟨"AnsTables$Reader", "takeByTable", "(ILAnsTables$Octets;)I"⟩, 12), (⟨"AnsTables$Reader", "takeTwoSided", "(ILAnsTables$Octets;)I"⟩, 12), (⟨"AnsTables$Reader", "restOf", "(I)I"⟩, 12), (⟨"AnsTables$Reader", "narrow", "(IIILAnsTables$Octets;)V"⟩, 12), (⟨"AnsTables$Reader", "keep", "(I)V"⟩, 12), (⟨"AnsTables$Reader", "judgeEnd", "(LAnsTables$Octets;)V"⟩, 12), (⟨"AnsTables", "readIsRow", "()Z"⟩, 10), (⟨"java/lang/Throwable", "fillInStackTrace", "(I)Ljava/lang/Throwable;"⟩, 6), (⟨"AnsTablesModel", "signsCounted", "()I"⟩, 34), (⟨"AnsTablesModel", "lay", "(I)V"⟩, 34), (⟨"AnsTablesModel", "mayWrite", "()Z"⟩, 34), (⟨"AnsTablesModel", "writeForm", "(I)V"⟩, 34), (⟨"AnsTablesModel", "putByte", "(I)V"⟩, 34), (⟨"AnsTablesModel", "putWide", "(JI)V"⟩, 34)]
theorem lw_r2 : ∀ q ∈ lw_privs_2, lw_okq q := List.forall_mem_cons.mpr ⟨lw_p16, List.forall_mem_cons.mpr ⟨lw_p17, List.forall_mem_cons.mpr ⟨lw_p18, List.forall_mem_cons.mpr ⟨lw_p19, List.forall_mem_cons.mpr ⟨lw_p20, List.forall_mem_cons.mpr ⟨lw_p21, List.forall_mem_cons.mpr ⟨lw_p22, List.forall_mem_cons.mpr ⟨lw_p23, List.forall_mem_cons.mpr ⟨lw_p24, List.forall_mem_cons.mpr ⟨lw_p25, List.forall_mem_cons.mpr ⟨lw_p26, List.forall_mem_cons.mpr ⟨lw_p27, List.forall_mem_cons.mpr ⟨lw_p28, List.forall_mem_cons.mpr ⟨lw_p29, List.forall_mem_cons.mpr ⟨lw_p30, List.forall_mem_cons.mpr ⟨lw_p31, fun _ h => absurd h List.not_mem_nil⟩⟩⟩⟩⟩⟩⟩⟩⟩⟩⟩⟩⟩⟩⟩⟩
theorem lw_p32 : lw_okq (⟨"AnsTablesModel", "writeTable", "()V"⟩, 34) := ⟨⟨by decide +kernel, by decide +kernel⟩, List.mem_of_getElem? (i := 688) (by decide +kernel), List.mem_of_getElem? (i := 878) (by decide +kernel), List.mem_of_getElem? (i := 879) (by decide +kernel)⟩
theorem lw_p33 : lw_okq (⟨"AnsTablesModel", "putBits", "(II)V"⟩, 34) := ⟨⟨by decide +kernel, by decide +kernel⟩, List.mem_of_getElem? (i := 688) (by decide +kernel), List.mem_of_getElem? (i := 885) (by decide +kernel), List.mem_of_getElem? (i := 886) (by decide +kernel)⟩
theorem lw_p34 : lw_okq (⟨"AnsTablesModel", "writeSides", "(II)V"⟩, 34) := ⟨⟨by decide +kernel, by decide +kernel⟩, List.mem_of_getElem? (i := 688) (by decide +kernel), List.mem_of_getElem? (i := 893) (by decide +kernel), List.mem_of_getElem? (i := 894) (by decide +kernel)⟩
theorem lw_p35 : lw_okq (⟨"AnsTablesModel", "laySides", "(III)V"⟩, 34) := ⟨⟨by decide +kernel, by decide +kernel⟩, List.mem_of_getElem? (i := 688) (by decide +kernel), List.mem_of_getElem? (i := 897) (by decide +kernel), List.mem_of_getElem? (i := 898) (by decide +kernel)⟩
theorem lw_p36 : lw_okq (⟨"AnsTablesModel", "sideChance", "(I)I"⟩, 34) := ⟨⟨by decide +kernel, by decide +kernel⟩, List.mem_of_getElem? (i := 688) (by decide +kernel), List.mem_of_getElem? (i := 901) (by decide +kernel), List.mem_of_getElem? (i := 902) (by decide +kernel)⟩
theorem lw_p37 : lw_okq (⟨"AnsTablesModel", "writeBytes", "(III)V"⟩, 34) := ⟨⟨by decide +kernel, by decide +kernel⟩, List.mem_of_getElem? (i := 688) (by decide +kernel), List.mem_of_getElem? (i := 905) (by decide +kernel), List.mem_of_getElem? (i := 906) (by decide +kernel)⟩
theorem lw_p38 : lw_okq (⟨"AnsTablesModel", "writeWords", "(III)V"⟩, 34) := ⟨⟨by decide +kernel, by decide +kernel⟩, List.mem_of_getElem? (i := 688) (by decide +kernel), List.mem_of_getElem? (i := 909) (by decide +kernel), List.mem_of_getElem? (i := 910) (by decide +kernel)⟩
theorem lw_p39 : lw_okq (⟨"AnsTablesModel", "writeBitsOf", "(III)V"⟩, 34) := ⟨⟨by decide +kernel, by decide +kernel⟩, List.mem_of_getElem? (i := 688) (by decide +kernel), List.mem_of_getElem? (i := 913) (by decide +kernel), List.mem_of_getElem? (i := 914) (by decide +kernel)⟩
theorem lw_p40 : lw_okq (⟨"AnsTablesModel", "readAll", "()V"⟩, 34) := ⟨⟨by decide +kernel, by decide +kernel⟩, List.mem_of_getElem? (i := 688) (by decide +kernel), List.mem_of_getElem? (i := 921) (by decide +kernel), List.mem_of_getElem? (i := 922) (by decide +kernel)⟩
theorem lw_p41 : lw_okq (⟨"AnsTablesModel", "readHead", "()I"⟩, 34) := ⟨⟨by decide +kernel, by decide +kernel⟩, List.mem_of_getElem? (i := 688) (by decide +kernel), List.mem_of_getElem? (i := 925) (by decide +kernel), List.mem_of_getElem? (i := 926) (by decide +kernel)⟩
theorem lw_p42 : lw_okq (⟨"AnsTablesModel", "next", "()I"⟩, 34) := ⟨⟨by decide +kernel, by decide +kernel⟩, List.mem_of_getElem? (i := 688) (by decide +kernel), List.mem_of_getElem? (i := 929) (by decide +kernel), List.mem_of_getElem? (i := 930) (by decide +kernel)⟩
theorem lw_p43 : lw_okq (⟨"AnsTablesModel", "fail", "(I)V"⟩, 34) := ⟨⟨by decide +kernel, by decide +kernel⟩, List.mem_of_getElem? (i := 688) (by decide +kernel), List.mem_of_getElem? (i := 933) (by decide +kernel), List.mem_of_getElem? (i := 934) (by decide +kernel)⟩
theorem lw_p44 : lw_okq (⟨"AnsTablesModel", "nextWide", "(I)J"⟩, 34) := ⟨⟨by decide +kernel, by decide +kernel⟩, List.mem_of_getElem? (i := 688) (by decide +kernel), List.mem_of_getElem? (i := 937) (by decide +kernel), List.mem_of_getElem? (i := 938) (by decide +kernel)⟩
theorem lw_p45 : lw_okq (⟨"AnsTablesModel", "readTable", "()V"⟩, 34) := ⟨⟨by decide +kernel, by decide +kernel⟩, List.mem_of_getElem? (i := 688) (by decide +kernel), List.mem_of_getElem? (i := 941) (by decide +kernel), List.mem_of_getElem? (i := 942) (by decide +kernel)⟩
theorem lw_p46 : lw_okq (⟨"AnsTablesModel", "nextBit", "()I"⟩, 34) := ⟨⟨by decide +kernel, by decide +kernel⟩, List.mem_of_getElem? (i := 688) (by decide +kernel), List.mem_of_getElem? (i := 945) (by decide +kernel), List.mem_of_getElem? (i := 946) (by decide +kernel)⟩
theorem lw_p47 : lw_okq (⟨"AnsTablesModel", "isInSpan", "(J)Z"⟩, 34) := ⟨⟨by decide +kernel, by decide +kernel⟩, List.mem_of_getElem? (i := 688) (by decide +kernel), List.mem_of_getElem? (i := 949) (by decide +kernel), List.mem_of_getElem? (i := 950) (by decide +kernel)⟩
def lw_privs_3 : List (MethodName × Nat) := [(⟨"AnsTablesModel", "writeTable", "()V"⟩, 34), (⟨"AnsTablesModel", "putBits", "(II)V"⟩, 34), (⟨"AnsTablesModel", "writeSides", "(II)V"⟩, 34), (⟨"AnsTablesModel", "laySides", "(III)V"⟩, 34), (⟨"AnsTablesModel", "sideChance", "(I)I"⟩, 34), (⟨"AnsTablesModel", "writeBytes", "(III)V"⟩, 34), (⟨"AnsTablesModel", "writeWords", "(III)V"⟩, 34), (⟨"AnsTablesModel", "writeBitsOf", "(III)V"⟩, 34), (⟨"AnsTablesModel", "readAll", "()V"⟩, 34), (⟨"AnsTablesModel", "readHead", "()I"⟩, 34), (⟨"AnsTablesModel", "next", "()I"⟩, 34), (⟨"AnsTablesModel", "fail", "(I)V"⟩, 34), (⟨"AnsTablesModel", "nextWide", "(I)J"⟩, 34), (⟨"AnsTablesModel", "readTable", "()V"⟩, 34), (⟨"AnsTablesModel", "nextBit", "()I"⟩, 34), (⟨"AnsTablesModel", "isInSpan", "(J)Z"⟩, 34)]
theorem lw_r3 : ∀ q ∈ lw_privs_3, lw_okq q := List.forall_mem_cons.mpr ⟨lw_p32, List.forall_mem_cons.mpr ⟨lw_p33, List.forall_mem_cons.mpr ⟨lw_p34, List.forall_mem_cons.mpr ⟨lw_p35, List.forall_mem_cons.mpr ⟨lw_p36, List.forall_mem_cons.mpr ⟨lw_p37, List.forall_mem_cons.mpr ⟨lw_p38, List.forall_mem_cons.mpr ⟨lw_p39, List.forall_mem_cons.mpr ⟨lw_p40, List.forall_mem_cons.mpr ⟨lw_p41, List.forall_mem_cons.mpr ⟨lw_p42, List.forall_mem_cons.mpr ⟨lw_p43, List.forall_mem_cons.mpr ⟨lw_p44, List.forall_mem_cons.mpr ⟨lw_p45, List.forall_mem_cons.mpr ⟨lw_p46, List.forall_mem_cons.mpr ⟨lw_p47, fun _ h => absurd h List.not_mem_nil⟩⟩⟩⟩⟩⟩⟩⟩⟩⟩⟩⟩⟩⟩⟩⟩
theorem lw_p48 : lw_okq (⟨"AnsTablesModel", "readSign", "(I)V"⟩, 34) := ⟨⟨by decide +kernel, by decide +kernel⟩, List.mem_of_getElem? (i := 688) (by decide +kernel), List.mem_of_getElem? (i := 953) (by decide +kernel), List.mem_of_getElem? (i := 954) (by decide +kernel)⟩
theorem lw_p49 : lw_okq (⟨"AnsTablesModel", "readSides", "(I)I"⟩, 34) := ⟨⟨by decide +kernel, by decide +kernel⟩, List.mem_of_getElem? (i := 688) (by decide +kernel), List.mem_of_getElem? (i := 957) (by decide +kernel), List.mem_of_getElem? (i := 958) (by decide +kernel)⟩
theorem lw_p50 : lw_okq (⟨"AnsTablesModel", "readBytes", "(III)V"⟩, 34) := ⟨⟨by decide +kernel, by decide +kernel⟩, List.mem_of_getElem? (i := 688) (by decide +kernel), List.mem_of_getElem? (i := 961) (by decide +kernel), List.mem_of_getElem? (i := 962) (by decide +kernel)⟩
theorem lw_p51 : lw_okq (⟨"AnsTablesModel", "signOf", "(I)I"⟩, 34) := ⟨⟨by decide +kernel, by decide +kernel⟩, List.mem_of_getElem? (i := 688) (by decide +kernel), List.mem_of_getElem? (i := 965) (by decide +kernel), List.mem_of_getElem? (i := 966) (by decide +kernel)⟩
theorem lw_p52 : lw_okq (⟨"AnsTablesModel", "readWords", "(III)V"⟩, 34) := ⟨⟨by decide +kernel, by decide +kernel⟩, List.mem_of_getElem? (i := 688) (by decide +kernel), List.mem_of_getElem? (i := 969) (by decide +kernel), List.mem_of_getElem? (i := 970) (by decide +kernel)⟩
def lw_privs_4 : List (MethodName × Nat) := [(⟨"AnsTablesModel", "readSign", "(I)V"⟩, 34), (⟨"AnsTablesModel", "readSides", "(I)I"⟩, 34), (⟨"AnsTablesModel", "readBytes", "(III)V"⟩, 34), (⟨"AnsTablesModel", "signOf", "(I)I"⟩, 34), (⟨"AnsTablesModel", "readWords", "(III)V"⟩, 34)]
theorem lw_r4 : ∀ q ∈ lw_privs_4, lw_okq q := List.forall_mem_cons.mpr ⟨lw_p48, List.forall_mem_cons.mpr ⟨lw_p49, List.forall_mem_cons.mpr ⟨lw_p50, List.forall_mem_cons.mpr ⟨lw_p51, List.forall_mem_cons.mpr ⟨lw_p52, fun _ h => absurd h List.not_mem_nil⟩⟩⟩⟩⟩
def lw_privs : List (MethodName × Nat) := lw_privs_1 ++ (lw_privs_2 ++ (lw_privs_3 ++ (lw_privs_4)))
def lw_tbl : List Cond := k2_sels lw_privs ++ tables_1
theorem lw_privs_ok : ∀ q ∈ lw_privs, lw_okq q := by
  show ∀ q ∈ lw_privs_1 ++ (lw_privs_2 ++ (lw_privs_3 ++ (lw_privs_4))), lw_okq q
  exact List.forall_mem_append.mpr ⟨lw_r1, List.forall_mem_append.mpr ⟨lw_r2, List.forall_mem_append.mpr ⟨lw_r3, lw_r4⟩⟩⟩
end
section
/-! ===== BEGIN words of one list among another's, by their places ===== -/
theorem goodIn_r {big : List Cond} (ws : List Cond) (ps : List Nat) (hp : ws = ps.filterMap (fun i => big[i]?)) (h : ws.all goodWord = true) : GoodIn big ws := by
  intro w hw
  have h1 := List.all_eq_true.mp h w hw
  rw [hp] at hw
  obtain ⟨i, -, hi⟩ := List.mem_filterMap.mp hw
  have hm : w ∈ big := by first | exact List.mem_of_getElem? hi | exact List.getElem?_mem hi
  exact ⟨hm, good_of_word h1⟩
theorem goodIn_app {big a b : List Cond} (ha : GoodIn big a) (hb : GoodIn big b) : GoodIn big (a ++ b) := fun w h => (List.mem_append.mp h).elim (ha w) (hb w)
theorem goodIn_ca {big a b : List Cond} {c : Cond} (ha : GoodIn big (c :: a)) (hb : GoodIn big b) : GoodIn big (c :: (a ++ b)) := fun w h => (List.mem_cons.mp h).elim (fun e => ha w (List.mem_cons.mpr (Or.inl e))) (fun h => (List.mem_append.mp h).elim (fun h => ha w (List.mem_cons.mpr (Or.inr h))) (hb w))
theorem goodIn_sub {big ws : List Cond} (hm : ∀ w ∈ ws, w ∈ big) (h : ws.all goodWord = true) : GoodIn big ws := fun w hw => ⟨hm w hw, good_of_word (List.all_eq_true.mp h w hw)⟩
/-! ===== END ===== -/

/-! ===== BEGIN printed: names, fields, word lists, decode rows ===== -/
def RX0 : String := "AnsTables$Logs"
def TX0 : u_T := fun k => match k with
  | _ => ("AnsTables$Logs", "known", "[J", true)
def tyX0 : Nat → FieldType := fun k => match k with
  | _ => .array .long
abbrev wsX00 : List Cond := u_ws RX0 TX0 1
theorem nmX0 : ∀ a, a < 1 → ∀ b, b < 1 → a ≠ b → (TX0 a).2.1 ≠ (TX0 b).2.1 := by decide +kernel
theorem tyX0_ok : ∀ k, k < 1 → parseFieldDescriptor (TX0 k).2.2.1 = some (tyX0 k) := by decide +kernel
abbrev cX0_init : ByteArray := prog_2_method_1_code
def yX0_init : MethodName := ⟨RX0, "<init>", "(I)V"⟩
abbrev cX0_of : ByteArray := prog_2_method_2_code
def yX0_of : MethodName := ⟨RX0, "of", "(I)J"⟩
abbrev cX0_reckon : ByteArray := prog_2_method_3_code
def yX0_reckon : MethodName := ⟨RX0, "reckon", "(I)J"⟩
def RX1 : String := "AnsTables$Octets"
def TX1 : u_T := fun k => match k with
  | 0 => ("AnsTables$Octets", "values", "[I", false)
  | 1 => ("AnsTables$Octets", "length", "I", false)
  | _ => ("AnsTables$Octets", "spareBits", "I", false)
def tyX1 : Nat → FieldType := fun k => match k with
  | 0 => .array .int
  | 1 => .int
  | _ => .int
abbrev wsX10 : List Cond := u_ws RX1 TX1 3
theorem nmX1 : ∀ a, a < 3 → ∀ b, b < 3 → a ≠ b → (TX1 a).2.1 ≠ (TX1 b).2.1 := by decide +kernel
theorem tyX1_ok : ∀ k, k < 3 → parseFieldDescriptor (TX1 k).2.2.1 = some (tyX1 k) := by decide +kernel
abbrev cX1_init : ByteArray := prog_3_method_1_code
def yX1_init : MethodName := ⟨RX1, "<init>", "()V"⟩
abbrev cX1_restart : ByteArray := prog_3_method_2_code
def yX1_restart : MethodName := ⟨RX1, "restart", "()V"⟩
abbrev cX1_append : ByteArray := prog_3_method_3_code
def yX1_append : MethodName := ⟨RX1, "append", "(I)Z"⟩
abbrev cX1_valueAt : ByteArray := prog_3_method_4_code
def yX1_valueAt : MethodName := ⟨RX1, "valueAt", "(I)I"⟩
abbrev cX1_change : ByteArray := prog_3_method_5_code
def yX1_change : MethodName := ⟨RX1, "change", "(II)I"⟩
abbrev cX1_appendNumber : ByteArray := prog_3_method_6_code
def yX1_appendNumber : MethodName := ⟨RX1, "appendNumber", "(JI)V"⟩
abbrev cX1_appendBits : ByteArray := prog_3_method_7_code
def yX1_appendBits : MethodName := ⟨RX1, "appendBits", "(II)V"⟩
def RX2 : String := "AnsTables$Pile"
def TX2 : u_T := fun k => match k with
  | 0 => ("AnsTables$Pile", "values", "[I", false)
  | _ => ("AnsTables$Pile", "bits", "I", false)
def tyX2 : Nat → FieldType := fun k => match k with
  | 0 => .array .int
  | _ => .int
abbrev wsX20 : List Cond := u_ws RX2 TX2 2
theorem nmX2 : ∀ a, a < 2 → ∀ b, b < 2 → a ≠ b → (TX2 a).2.1 ≠ (TX2 b).2.1 := by decide +kernel
theorem tyX2_ok : ∀ k, k < 2 → parseFieldDescriptor (TX2 k).2.2.1 = some (tyX2 k) := by decide +kernel
abbrev cX2_init : ByteArray := prog_4_method_1_code
def yX2_init : MethodName := ⟨RX2, "<init>", "()V"⟩
abbrev cX2_empty : ByteArray := prog_4_method_2_code
def yX2_empty : MethodName := ⟨RX2, "empty", "()V"⟩
abbrev cX2_makeRoomForSign : ByteArray := prog_4_method_3_code
def yX2_makeRoomForSign : MethodName := ⟨RX2, "makeRoomForSign", "()V"⟩
abbrev cX2_pushOctet : ByteArray := prog_4_method_4_code
def yX2_pushOctet : MethodName := ⟨RX2, "pushOctet", "(I)V"⟩
abbrev cX2_pushBit : ByteArray := prog_4_method_5_code
def yX2_pushBit : MethodName := ⟨RX2, "pushBit", "(I)V"⟩
abbrev cX2_pourInto : ByteArray := prog_4_method_6_code
def yX2_pourInto : MethodName := ⟨RX2, "pourInto", "(LAnsTables$Octets;)V"⟩
def RX3 : String := "AnsTables$Reader"
def TX3 : u_T := fun k => match k with
  | 0 => ("AnsTables$Reader", "shares", "LAnsTables$Shares;", true)
  | 1 => ("AnsTables$Reader", "states", "[J", true)
  | 2 => ("AnsTables$Reader", "signs", "[I", false)
  | 3 => ("AnsTables$Reader", "length", "I", false)
  | 4 => ("AnsTables$Reader", "broken", "I", false)
  | 5 => ("AnsTables$Reader", "bytesRead", "I", false)
  | 6 => ("AnsTables$Reader", "lastByte", "I", false)
  | 7 => ("AnsTables$Reader", "bitsLeft", "I", false)
  | 8 => ("AnsTables$Reader", "form", "I", false)
  | 9 => ("AnsTables$Reader", "laneCount", "I", false)
  | 10 => ("AnsTables$Reader", "due", "I", false)
  | _ => ("AnsTables$Reader", "hasStates", "Z", false)
def tyX3 : Nat → FieldType := fun k => match k with
  | 0 => .object "AnsTables$Shares"
  | 1 => .array .long
  | 2 => .array .int
  | 3 => .int
  | 4 => .int
  | 5 => .int
  | 6 => .int
  | 7 => .int
  | 8 => .int
  | 9 => .int
  | 10 => .int
  | _ => .boolean
abbrev wsX30 : List Cond := u_ws RX3 TX3 12
theorem nmX3 : ∀ a, a < 12 → ∀ b, b < 12 → a ≠ b → (TX3 a).2.1 ≠ (TX3 b).2.1 := by decide +kernel
theorem tyX3_ok : ∀ k, k < 12 → parseFieldDescriptor (TX3 k).2.2.1 = some (tyX3 k) := by decide +kernel
abbrev cX3_init : ByteArray := prog_5_method_1_code
def yX3_init : MethodName := ⟨RX3, "<init>", "()V"⟩
abbrev cX3_takeIn : ByteArray := prog_5_method_2_code
def yX3_takeIn : MethodName := ⟨RX3, "takeIn", "(LAnsTables$Octets;)I"⟩
abbrev cX3_signAt : ByteArray := prog_5_method_3_code
def yX3_signAt : MethodName := ⟨RX3, "signAt", "(I)I"⟩
abbrev cX3_takeHead : ByteArray := prog_5_method_4_code
def yX3_takeHead : MethodName := ⟨RX3, "takeHead", "(LAnsTables$Octets;)V"⟩
abbrev cX3_takeTable : ByteArray := prog_5_method_5_code
def yX3_takeTable : MethodName := ⟨RX3, "takeTable", "(LAnsTables$Octets;)V"⟩
abbrev cX3_takeStates : ByteArray := prog_5_method_6_code
def yX3_takeStates : MethodName := ⟨RX3, "takeStates", "(LAnsTables$Octets;)V"⟩
abbrev cX3_takeRow : ByteArray := prog_5_method_7_code
def yX3_takeRow : MethodName := ⟨RX3, "takeRow", "(LAnsTables$Octets;)V"⟩
abbrev cX3_keep : ByteArray := prog_5_method_8_code
def yX3_keep : MethodName := ⟨RX3, "keep", "(I)V"⟩
abbrev cX3_takeSign : ByteArray := prog_5_method_9_code
def yX3_takeSign : MethodName := ⟨RX3, "takeSign", "(ILAnsTables$Octets;)I"⟩
abbrev cX3_restOf : ByteArray := prog_5_method_10_code
def yX3_restOf : MethodName := ⟨RX3, "restOf", "(I)I"⟩
abbrev cX3_narrow : ByteArray := prog_5_method_11_code
def yX3_narrow : MethodName := ⟨RX3, "narrow", "(IIILAnsTables$Octets;)V"⟩
abbrev cX3_takeByTable : ByteArray := prog_5_method_12_code
def yX3_takeByTable : MethodName := ⟨RX3, "takeByTable", "(ILAnsTables$Octets;)I"⟩
abbrev cX3_takeTwoSided : ByteArray := prog_5_method_13_code
def yX3_takeTwoSided : MethodName := ⟨RX3, "takeTwoSided", "(ILAnsTables$Octets;)I"⟩
abbrev cX3_judgeEnd : ByteArray := prog_5_method_14_code
def yX3_judgeEnd : MethodName := ⟨RX3, "judgeEnd", "(LAnsTables$Octets;)V"⟩
abbrev cX3_nextNumber : ByteArray := prog_5_method_15_code
def yX3_nextNumber : MethodName := ⟨RX3, "nextNumber", "(LAnsTables$Octets;I)J"⟩
abbrev cX3_nextBits : ByteArray := prog_5_method_16_code
def yX3_nextBits : MethodName := ⟨RX3, "nextBits", "(LAnsTables$Octets;I)I"⟩
abbrev cX3_restIsSet : ByteArray := prog_5_method_17_code
def yX3_restIsSet : MethodName := ⟨RX3, "restIsSet", "()Z"⟩
def RX4 : String := "AnsTables$Shares"
def TX4 : u_T := fun k => match k with
  | 0 => ("AnsTables$Shares", "log", "I", false)
  | 1 => ("AnsTables$Shares", "size", "I", false)
  | 2 => ("AnsTables$Shares", "made", "Z", false)
  | 3 => ("AnsTables$Shares", "share", "[I", true)
  | 4 => ("AnsTables$Shares", "from", "[I", true)
  | 5 => ("AnsTables$Shares", "gain", "[J", true)
  | 6 => ("AnsTables$Shares", "seen", "[I", true)
  | 7 => ("AnsTables$Shares", "isSpread", "Z", false)
  | 8 => ("AnsTables$Shares", "signs", "[I", false)
  | 9 => ("AnsTables$Shares", "numbers", "[I", false)
  | _ => ("AnsTables$Shares", "places", "[I", false)
def tyX4 : Nat → FieldType := fun k => match k with
  | 0 => .int
  | 1 => .int
  | 2 => .boolean
  | 3 => .array .int
  | 4 => .array .int
  | 5 => .array .long
  | 6 => .array .int
  | 7 => .boolean
  | 8 => .array .int
  | 9 => .array .int
  | _ => .array .int
abbrev wsX40 : List Cond := u_ws RX4 TX4 11
theorem nmX4 : ∀ a, a < 11 → ∀ b, b < 11 → a ≠ b → (TX4 a).2.1 ≠ (TX4 b).2.1 := by decide +kernel
theorem tyX4_ok : ∀ k, k < 11 → parseFieldDescriptor (TX4 k).2.2.1 = some (tyX4 k) := by decide +kernel
abbrev cX4_init : ByteArray := prog_6_method_1_code
def yX4_init : MethodName := ⟨RX4, "<init>", "(I)V"⟩
abbrev cX4_forget : ByteArray := prog_6_method_2_code
def yX4_forget : MethodName := ⟨RX4, "forget", "()V"⟩
abbrev cX4_beginWith : ByteArray := prog_6_method_3_code
def yX4_beginWith : MethodName := ⟨RX4, "beginWith", "(I)V"⟩
abbrev cX4_give : ByteArray := prog_6_method_4_code
def yX4_give : MethodName := ⟨RX4, "give", "(II)V"⟩
abbrev cX4_finish : ByteArray := prog_6_method_5_code
def yX4_finish : MethodName := ⟨RX4, "finish", "()V"⟩
abbrev cX4_shareOf : ByteArray := prog_6_method_6_code
def yX4_shareOf : MethodName := ⟨RX4, "shareOf", "(I)I"⟩
abbrev cX4_fromOf : ByteArray := prog_6_method_7_code
def yX4_fromOf : MethodName := ⟨RX4, "fromOf", "(I)I"⟩
abbrev cX4_howMany : ByteArray := prog_6_method_8_code
def yX4_howMany : MethodName := ⟨RX4, "howMany", "()I"⟩
abbrev cX4_makeOf : ByteArray := prog_6_method_9_code
def yX4_makeOf : MethodName := ⟨RX4, "makeOf", "([ILAnsTables$Logs;)V"⟩
abbrev cX4_gainOf : ByteArray := prog_6_method_10_code
def yX4_gainOf : MethodName := ⟨RX4, "gainOf", "(IILAnsTables$Logs;)J"⟩
abbrev cX4_greatestGain : ByteArray := prog_6_method_11_code
def yX4_greatestGain : MethodName := ⟨RX4, "greatestGain", "()I"⟩
abbrev cX4_signOver : ByteArray := prog_6_method_12_code
def yX4_signOver : MethodName := ⟨RX4, "signOver", "(I)I"⟩
abbrev cX4_shareOfZero : ByteArray := prog_6_method_13_code
def yX4_shareOfZero : MethodName := ⟨RX4, "shareOfZero", "(II)I"⟩
abbrev cX4_makeSpread : ByteArray := prog_6_method_14_code
def yX4_makeSpread : MethodName := ⟨RX4, "makeSpread", "()V"⟩
abbrev cX4_numberPlaces : ByteArray := prog_6_method_15_code
def yX4_numberPlaces : MethodName := ⟨RX4, "numberPlaces", "()V"⟩
abbrev cX4_signAt : ByteArray := prog_6_method_16_code
def yX4_signAt : MethodName := ⟨RX4, "signAt", "(I)I"⟩
abbrev cX4_numberAt : ByteArray := prog_6_method_17_code
def yX4_numberAt : MethodName := ⟨RX4, "numberAt", "(I)I"⟩
abbrev cX4_placeOf : ByteArray := prog_6_method_18_code
def yX4_placeOf : MethodName := ⟨RX4, "placeOf", "(II)I"⟩
def RX5 : String := "AnsTables$Writer"
def TX5 : u_T := fun k => match k with
  | 0 => ("AnsTables$Writer", "states", "[J", true)
  | 1 => ("AnsTables$Writer", "pile", "LAnsTables$Pile;", true)
  | 2 => ("AnsTables$Writer", "laneCount", "I", false)
  | _ => ("AnsTables$Writer", "done", "Z", false)
def tyX5 : Nat → FieldType := fun k => match k with
  | 0 => .array .long
  | 1 => .object "AnsTables$Pile"
  | 2 => .int
  | _ => .boolean
abbrev wsX50 : List Cond := u_ws RX5 TX5 4
theorem nmX5 : ∀ a, a < 4 → ∀ b, b < 4 → a ≠ b → (TX5 a).2.1 ≠ (TX5 b).2.1 := by decide +kernel
theorem tyX5_ok : ∀ k, k < 4 → parseFieldDescriptor (TX5 k).2.2.1 = some (tyX5 k) := by decide +kernel
abbrev cX5_init : ByteArray := prog_7_method_1_code
def yX5_init : MethodName := ⟨RX5, "<init>", "()V"⟩
abbrev cX5_writeRow : ByteArray := prog_7_method_2_code
def yX5_writeRow : MethodName := ⟨RX5, "writeRow", "([IILAnsTables$Shares;IILAnsTables$Octets;)V"⟩
abbrev cX5_putHead : ByteArray := prog_7_method_3_code
def yX5_putHead : MethodName := ⟨RX5, "putHead", "(IILAnsTables$Shares;LAnsTables$Octets;)V"⟩
abbrev cX5_putTable : ByteArray := prog_7_method_4_code
def yX5_putTable : MethodName := ⟨RX5, "putTable", "(LAnsTables$Shares;LAnsTables$Octets;)V"⟩
abbrev cX5_putSign : ByteArray := prog_7_method_5_code
def yX5_putSign : MethodName := ⟨RX5, "putSign", "(IIILAnsTables$Shares;)V"⟩
abbrev cX5_widen : ByteArray := prog_7_method_6_code
def yX5_widen : MethodName := ⟨RX5, "widen", "(IIIII)V"⟩
abbrev cX5_putByTable : ByteArray := prog_7_method_7_code
def yX5_putByTable : MethodName := ⟨RX5, "putByTable", "(IILAnsTables$Shares;)V"⟩
abbrev cX5_putTwoSided : ByteArray := prog_7_method_8_code
def yX5_putTwoSided : MethodName := ⟨RX5, "putTwoSided", "(IILAnsTables$Shares;)V"⟩
def RX6 : String := "AnsTables"
def TX6 : u_T := fun k => match k with
  | 0 => ("AnsTables", "logs", "LAnsTables$Logs;", true)
  | 1 => ("AnsTables", "shares", "LAnsTables$Shares;", true)
  | 2 => ("AnsTables", "writer", "LAnsTables$Writer;", true)
  | 3 => ("AnsTables", "reader", "LAnsTables$Reader;", true)
  | 4 => ("AnsTables", "octets", "LAnsTables$Octets;", true)
  | 5 => ("AnsTables", "tally", "[I", true)
  | 6 => ("AnsTables", "row", "[I", false)
  | 7 => ("AnsTables", "rowLength", "I", false)
  | 8 => ("AnsTables", "kind", "I", false)
  | _ => ("AnsTables", "laneCount", "I", false)
def tyX6 : Nat → FieldType := fun k => match k with
  | 0 => .object "AnsTables$Logs"
  | 1 => .object "AnsTables$Shares"
  | 2 => .object "AnsTables$Writer"
  | 3 => .object "AnsTables$Reader"
  | 4 => .object "AnsTables$Octets"
  | 5 => .array .int
  | 6 => .array .int
  | 7 => .int
  | 8 => .int
  | _ => .int
abbrev wsX60 : List Cond := u_ws RX6 TX6 10
theorem nmX6 : ∀ a, a < 10 → ∀ b, b < 10 → a ≠ b → (TX6 a).2.1 ≠ (TX6 b).2.1 := by decide +kernel
theorem tyX6_ok : ∀ k, k < 10 → parseFieldDescriptor (TX6 k).2.2.1 = some (tyX6 k) := by decide +kernel
abbrev cX6_init : ByteArray := prog_1_method_1_code
def yX6_init : MethodName := ⟨RX6, "<init>", "(I)V"⟩
abbrev cX6_add : ByteArray := prog_1_method_2_code
def yX6_add : MethodName := ⟨RX6, "add", "(I)I"⟩
abbrev cX6_clear : ByteArray := prog_1_method_3_code
def yX6_clear : MethodName := ⟨RX6, "clear", "()I"⟩
abbrev cX6_count : ByteArray := prog_1_method_4_code
def yX6_count : MethodName := ⟨RX6, "count", "(II)I"⟩
abbrev cX6_counts : ByteArray := prog_1_method_5_code
def yX6_counts : MethodName := ⟨RX6, "counts", "()I"⟩
abbrev cX6_normal : ByteArray := prog_1_method_6_code
def yX6_normal : MethodName := ⟨RX6, "normal", "()I"⟩
abbrev cX6_share : ByteArray := prog_1_method_7_code
def yX6_share : MethodName := ⟨RX6, "share", "(I)I"⟩
abbrev cX6_loss : ByteArray := prog_1_method_8_code
def yX6_loss : MethodName := ⟨RX6, "loss", "()J"⟩
abbrev cX6_lg : ByteArray := prog_1_method_9_code
def yX6_lg : MethodName := ⟨RX6, "lg", "(I)J"⟩
abbrev cX6_form : ByteArray := prog_1_method_10_code
def yX6_form : MethodName := ⟨RX6, "form", "(I)I"⟩
abbrev cX6_lanes : ByteArray := prog_1_method_11_code
def yX6_lanes : MethodName := ⟨RX6, "lanes", "(I)I"⟩
abbrev cX6_write : ByteArray := prog_1_method_12_code
def yX6_write : MethodName := ⟨RX6, "write", "()I"⟩
abbrev cX6_read : ByteArray := prog_1_method_13_code
def yX6_read : MethodName := ⟨RX6, "read", "()I"⟩
abbrev cX6_rule : ByteArray := prog_1_method_14_code
def yX6_rule : MethodName := ⟨RX6, "rule", "()I"⟩
abbrev cX6_sign : ByteArray := prog_1_method_15_code
def yX6_sign : MethodName := ⟨RX6, "sign", "(I)I"⟩
abbrev cX6_spread : ByteArray := prog_1_method_16_code
def yX6_spread : MethodName := ⟨RX6, "spread", "(I)I"⟩
abbrev cX6_state : ByteArray := prog_1_method_17_code
def yX6_state : MethodName := ⟨RX6, "state", "(II)J"⟩
abbrev cX6_out : ByteArray := prog_1_method_18_code
def yX6_out : MethodName := ⟨RX6, "out", "(I)I"⟩
abbrev cX6_spoil : ByteArray := prog_1_method_19_code
def yX6_spoil : MethodName := ⟨RX6, "spoil", "(II)I"⟩
abbrev cX6_cut : ByteArray := prog_1_method_20_code
def yX6_cut : MethodName := ⟨RX6, "cut", "(I)I"⟩
abbrev cX6_octet : ByteArray := prog_1_method_21_code
def yX6_octet : MethodName := ⟨RX6, "octet", "(I)I"⟩
abbrev cX6_agree : ByteArray := prog_1_method_22_code
def yX6_agree : MethodName := ⟨RX6, "agree", "()I"⟩
abbrev cX6_told : ByteArray := prog_1_method_23_code
def yX6_told : MethodName := ⟨RX6, "told", "(I)I"⟩
abbrev cX6_isWritable : ByteArray := prog_1_method_24_code
def yX6_isWritable : MethodName := ⟨RX6, "isWritable", "()Z"⟩
abbrev cX6_readIsRow : ByteArray := prog_1_method_25_code
def yX6_readIsRow : MethodName := ⟨RX6, "readIsRow", "()Z"⟩
abbrev cX6_isSign : ByteArray := prog_1_method_26_code
def yX6_isSign : MethodName := ⟨RX6, "isSign", "(I)Z"⟩
abbrev cX6_withRoom : ByteArray := prog_1_method_27_code
def yX6_withRoom : MethodName := ⟨RX6, "withRoom", "([III)[I"⟩
abbrev cX6_bitLength : ByteArray := prog_1_method_28_code
def yX6_bitLength : MethodName := ⟨RX6, "bitLength", "(I)I"⟩
abbrev cX6_firstState : ByteArray := prog_1_method_29_code
def yX6_firstState : MethodName := ⟨RX6, "firstState", "(II)J"⟩
abbrev cX6_lastState : ByteArray := prog_1_method_30_code
def yX6_lastState : MethodName := ⟨RX6, "lastState", "(II)J"⟩
abbrev cX6_stateWidth : ByteArray := prog_1_method_31_code
def yX6_stateWidth : MethodName := ⟨RX6, "stateWidth", "(I)I"⟩
def RX7 : String := "AnsTablesModel"
def TX7 : u_T := fun k => match k with
  | 0 => ("AnsTablesModel", "log", "I", true)
  | 1 => ("AnsTablesModel", "thrown", "I", false)
  | 2 => ("AnsTablesModel", "kind", "I", false)
  | 3 => ("AnsTablesModel", "lanes", "I", false)
  | 4 => ("AnsTablesModel", "row", "[I", true)
  | 5 => ("AnsTablesModel", "rowSize", "I", false)
  | 6 => ("AnsTablesModel", "counts", "[I", true)
  | 7 => ("AnsTablesModel", "hasShares", "Z", false)
  | 8 => ("AnsTablesModel", "share", "[I", true)
  | 9 => ("AnsTablesModel", "from", "[I", true)
  | 10 => ("AnsTablesModel", "logOf", "[I", true)
  | 11 => ("AnsTablesModel", "signAt", "[I", true)
  | 12 => ("AnsTablesModel", "numberAt", "[I", true)
  | 13 => ("AnsTablesModel", "placeOf", "[I", true)
  | 14 => ("AnsTablesModel", "out", "[I", true)
  | 15 => ("AnsTablesModel", "outSize", "I", false)
  | 16 => ("AnsTablesModel", "state", "[J", true)
  | 17 => ("AnsTablesModel", "written", "[J", true)
  | 18 => ("AnsTablesModel", "writtenLanes", "I", false)
  | 19 => ("AnsTablesModel", "put", "[I", true)
  | 20 => ("AnsTablesModel", "putSize", "I", false)
  | 21 => ("AnsTablesModel", "bitAt", "I", false)
  | 22 => ("AnsTablesModel", "sideAll", "I", false)
  | 23 => ("AnsTablesModel", "sideZero", "I", false)
  | 24 => ("AnsTablesModel", "read", "[I", true)
  | 25 => ("AnsTablesModel", "readSize", "I", false)
  | 26 => ("AnsTablesModel", "at", "I", false)
  | 27 => ("AnsTablesModel", "broken", "I", false)
  | 28 => ("AnsTablesModel", "rule", "I", false)
  | 29 => ("AnsTablesModel", "bitLeft", "I", false)
  | 30 => ("AnsTablesModel", "readForm", "I", false)
  | 31 => ("AnsTablesModel", "readLanes", "I", false)
  | 32 => ("AnsTablesModel", "hasStates", "Z", false)
  | _ => ("AnsTablesModel", "now", "[J", true)
def tyX7 : Nat → FieldType := fun k => match k with
  | 0 => .int
  | 1 => .int
  | 2 => .int
  | 3 => .int
  | 4 => .array .int
  | 5 => .int
  | 6 => .array .int
  | 7 => .boolean
  | 8 => .array .int
  | 9 => .array .int
  | 10 => .array .int
  | 11 => .array .int
  | 12 => .array .int
  | 13 => .array .int
  | 14 => .array .int
  | 15 => .int
  | 16 => .array .long
  | 17 => .array .long
  | 18 => .int
  | 19 => .array .int
  | 20 => .int
  | 21 => .int
  | 22 => .int
  | 23 => .int
  | 24 => .array .int
  | 25 => .int
  | 26 => .int
  | 27 => .int
  | 28 => .int
  | 29 => .int
  | 30 => .int
  | 31 => .int
  | 32 => .boolean
  | _ => .array .long
abbrev wsX70 : List Cond := u_ws RX7 TX7 34
theorem nmX7 : ∀ a, a < 34 → ∀ b, b < 34 → a ≠ b → (TX7 a).2.1 ≠ (TX7 b).2.1 := by decide +kernel
theorem tyX7_ok : ∀ k, k < 34 → parseFieldDescriptor (TX7 k).2.2.1 = some (tyX7 k) := by decide +kernel
abbrev cX7_init : ByteArray := prog_9_method_1_code
def yX7_init : MethodName := ⟨RX7, "<init>", "(I)V"⟩
abbrev cX7_add : ByteArray := prog_9_method_3_code
def yX7_add : MethodName := ⟨RX7, "add", "(I)I"⟩
abbrev cX7_clear : ByteArray := prog_9_method_4_code
def yX7_clear : MethodName := ⟨RX7, "clear", "()I"⟩
abbrev cX7_count : ByteArray := prog_9_method_5_code
def yX7_count : MethodName := ⟨RX7, "count", "(II)I"⟩
abbrev cX7_counts : ByteArray := prog_9_method_6_code
def yX7_counts : MethodName := ⟨RX7, "counts", "()I"⟩
abbrev cX7_signsCounted : ByteArray := prog_9_method_7_code
def yX7_signsCounted : MethodName := ⟨RX7, "signsCounted", "()I"⟩
abbrev cX7_logarithm : ByteArray := prog_9_method_8_code
def yX7_logarithm : MethodName := ⟨RX7, "logarithm", "(I)J"⟩
abbrev cX7_lg : ByteArray := prog_9_method_9_code
def yX7_lg : MethodName := ⟨RX7, "lg", "(I)J"⟩
abbrev cX7_normal : ByteArray := prog_9_method_10_code
def yX7_normal : MethodName := ⟨RX7, "normal", "()I"⟩
abbrev cX7_lay : ByteArray := prog_9_method_11_code
def yX7_lay : MethodName := ⟨RX7, "lay", "(I)V"⟩
abbrev cX7_share : ByteArray := prog_9_method_12_code
def yX7_share : MethodName := ⟨RX7, "share", "(I)I"⟩
abbrev cX7_loss : ByteArray := prog_9_method_13_code
def yX7_loss : MethodName := ⟨RX7, "loss", "()J"⟩
abbrev cX7_spread : ByteArray := prog_9_method_14_code
def yX7_spread : MethodName := ⟨RX7, "spread", "(I)I"⟩
abbrev cX7_form : ByteArray := prog_9_method_15_code
def yX7_form : MethodName := ⟨RX7, "form", "(I)I"⟩
abbrev cX7_lanes : ByteArray := prog_9_method_16_code
def yX7_lanes : MethodName := ⟨RX7, "lanes", "(I)I"⟩
abbrev cX7_firstState : ByteArray := prog_9_method_17_code
def yX7_firstState : MethodName := ⟨RX7, "firstState", "(II)J"⟩
abbrev cX7_putByte : ByteArray := prog_9_method_18_code
def yX7_putByte : MethodName := ⟨RX7, "putByte", "(I)V"⟩
abbrev cX7_putWide : ByteArray := prog_9_method_19_code
def yX7_putWide : MethodName := ⟨RX7, "putWide", "(JI)V"⟩
abbrev cX7_putBits : ByteArray := prog_9_method_20_code
def yX7_putBits : MethodName := ⟨RX7, "putBits", "(II)V"⟩
abbrev cX7_bitsOf : ByteArray := prog_9_method_21_code
def yX7_bitsOf : MethodName := ⟨RX7, "bitsOf", "(I)I"⟩
abbrev cX7_writeTable : ByteArray := prog_9_method_22_code
def yX7_writeTable : MethodName := ⟨RX7, "writeTable", "()V"⟩
abbrev cX7_writeBytes : ByteArray := prog_9_method_23_code
def yX7_writeBytes : MethodName := ⟨RX7, "writeBytes", "(III)V"⟩
abbrev cX7_writeWords : ByteArray := prog_9_method_24_code
def yX7_writeWords : MethodName := ⟨RX7, "writeWords", "(III)V"⟩
abbrev cX7_writeBitsOf : ByteArray := prog_9_method_25_code
def yX7_writeBitsOf : MethodName := ⟨RX7, "writeBitsOf", "(III)V"⟩
abbrev cX7_laySides : ByteArray := prog_9_method_26_code
def yX7_laySides : MethodName := ⟨RX7, "laySides", "(III)V"⟩
abbrev cX7_sideChance : ByteArray := prog_9_method_27_code
def yX7_sideChance : MethodName := ⟨RX7, "sideChance", "(I)I"⟩
abbrev cX7_writeSides : ByteArray := prog_9_method_28_code
def yX7_writeSides : MethodName := ⟨RX7, "writeSides", "(II)V"⟩
abbrev cX7_mayWrite : ByteArray := prog_9_method_29_code
def yX7_mayWrite : MethodName := ⟨RX7, "mayWrite", "()Z"⟩
abbrev cX7_writeForm : ByteArray := prog_9_method_30_code
def yX7_writeForm : MethodName := ⟨RX7, "writeForm", "(I)V"⟩
abbrev cX7_write : ByteArray := prog_9_method_31_code
def yX7_write : MethodName := ⟨RX7, "write", "()I"⟩
abbrev cX7_fail : ByteArray := prog_9_method_32_code
def yX7_fail : MethodName := ⟨RX7, "fail", "(I)V"⟩
abbrev cX7_next : ByteArray := prog_9_method_33_code
def yX7_next : MethodName := ⟨RX7, "next", "()I"⟩
abbrev cX7_nextWide : ByteArray := prog_9_method_34_code
def yX7_nextWide : MethodName := ⟨RX7, "nextWide", "(I)J"⟩
abbrev cX7_nextBit : ByteArray := prog_9_method_35_code
def yX7_nextBit : MethodName := ⟨RX7, "nextBit", "()I"⟩
abbrev cX7_readTable : ByteArray := prog_9_method_36_code
def yX7_readTable : MethodName := ⟨RX7, "readTable", "()V"⟩
abbrev cX7_isInSpan : ByteArray := prog_9_method_37_code
def yX7_isInSpan : MethodName := ⟨RX7, "isInSpan", "(J)Z"⟩
abbrev cX7_signOf : ByteArray := prog_9_method_38_code
def yX7_signOf : MethodName := ⟨RX7, "signOf", "(I)I"⟩
abbrev cX7_readBytes : ByteArray := prog_9_method_39_code
def yX7_readBytes : MethodName := ⟨RX7, "readBytes", "(III)V"⟩
abbrev cX7_readSign : ByteArray := prog_9_method_40_code
def yX7_readSign : MethodName := ⟨RX7, "readSign", "(I)V"⟩
abbrev cX7_readWords : ByteArray := prog_9_method_41_code
def yX7_readWords : MethodName := ⟨RX7, "readWords", "(III)V"⟩
abbrev cX7_readSides : ByteArray := prog_9_method_42_code
def yX7_readSides : MethodName := ⟨RX7, "readSides", "(I)I"⟩
abbrev cX7_readHead : ByteArray := prog_9_method_43_code
def yX7_readHead : MethodName := ⟨RX7, "readHead", "()I"⟩
abbrev cX7_readAll : ByteArray := prog_9_method_44_code
def yX7_readAll : MethodName := ⟨RX7, "readAll", "()V"⟩
abbrev cX7_read : ByteArray := prog_9_method_45_code
def yX7_read : MethodName := ⟨RX7, "read", "()I"⟩
abbrev cX7_rule : ByteArray := prog_9_method_46_code
def yX7_rule : MethodName := ⟨RX7, "rule", "()I"⟩
abbrev cX7_sign : ByteArray := prog_9_method_47_code
def yX7_sign : MethodName := ⟨RX7, "sign", "(I)I"⟩
abbrev cX7_state : ByteArray := prog_9_method_48_code
def yX7_state : MethodName := ⟨RX7, "state", "(II)J"⟩
abbrev cX7_out : ByteArray := prog_9_method_49_code
def yX7_out : MethodName := ⟨RX7, "out", "(I)I"⟩
abbrev cX7_spoil : ByteArray := prog_9_method_50_code
def yX7_spoil : MethodName := ⟨RX7, "spoil", "(II)I"⟩
abbrev cX7_cut : ByteArray := prog_9_method_51_code
def yX7_cut : MethodName := ⟨RX7, "cut", "(I)I"⟩
abbrev cX7_octet : ByteArray := prog_9_method_52_code
def yX7_octet : MethodName := ⟨RX7, "octet", "(I)I"⟩
abbrev cX7_agree : ByteArray := prog_9_method_53_code
def yX7_agree : MethodName := ⟨RX7, "agree", "()I"⟩
abbrev cX7_told : ByteArray := prog_9_method_54_code
def yX7_told : MethodName := ⟨RX7, "told", "(I)I"⟩
def RJx00060 : String := "java/lang/ArrayIndexOutOfBoundsException"
def TJx00060 : u_T := fun k => match k with
  | 0 => ("java/lang/Throwable", "cause", "Ljava/lang/Throwable;", false)
  | 1 => ("java/lang/Throwable", "stackTrace", "[Ljava/lang/StackTraceElement;", false)
  | 2 => ("java/lang/Throwable", "suppressedExceptions", "Ljava/util/List;", false)
  | 3 => ("java/lang/Throwable", "detailMessage", "Ljava/lang/String;", false)
  | 4 => ("java/lang/Throwable", "backtrace", "Ljava/lang/Object;", false)
  | _ => ("java/lang/Throwable", "depth", "I", false)
def tyJx00060 : Nat → FieldType := fun k => match k with
  | 0 => .object "java/lang/Throwable"
  | 1 => .array (.object "java/lang/StackTraceElement")
  | 2 => .object "java/util/List"
  | 3 => .object "java/lang/String"
  | 4 => .object "java/lang/Object"
  | _ => .int
abbrev wsJx000600 : List Cond := u_ws RJx00060 TJx00060 6
theorem nmJx00060 : ∀ a, a < 6 → ∀ b, b < 6 → a ≠ b → (TJx00060 a).2.1 ≠ (TJx00060 b).2.1 := by decide +kernel
theorem tyJx00060_ok : ∀ k, k < 6 → parseFieldDescriptor (TJx00060 k).2.2.1 = some (tyJx00060 k) := by decide +kernel
abbrev cJx00060_init_a7421 : ByteArray := prog_10_method_2_code
def yJx00060_init_a7421 : MethodName := ⟨RJx00060, "<init>", "(Ljava/lang/String;)V"⟩
def RJx8e188 : String := "java/lang/Cloneable"
def TJx8e188 : u_T := fun k => match k with
  | _ => ("", "", "", false)
def tyJx8e188 : Nat → FieldType := fun k => match k with
  | _ => .int
abbrev wsJx8e1880 : List Cond := u_ws RJx8e188 TJx8e188 0
theorem nmJx8e188 : ∀ a, a < 0 → ∀ b, b < 0 → a ≠ b → (TJx8e188 a).2.1 ≠ (TJx8e188 b).2.1 := by decide +kernel
theorem tyJx8e188_ok : ∀ k, k < 0 → parseFieldDescriptor (TJx8e188 k).2.2.1 = some (tyJx8e188 k) := by decide +kernel
def RJ9 : String := "java/lang/Math"
def TJ9 : u_T := fun k => match k with
  | _ => ("", "", "", false)
def tyJ9 : Nat → FieldType := fun k => match k with
  | _ => .int
abbrev wsJ90 : List Cond := u_ws RJ9 TJ9 0
theorem nmJ9 : ∀ a, a < 0 → ∀ b, b < 0 → a ≠ b → (TJ9 a).2.1 ≠ (TJ9 b).2.1 := by decide +kernel
theorem tyJ9_ok : ∀ k, k < 0 → parseFieldDescriptor (TJ9 k).2.2.1 = some (tyJ9 k) := by decide +kernel
abbrev cJ9_max_7cf53 : ByteArray := prog_14_method_65_code
def yJ9_max_7cf53 : MethodName := ⟨RJ9, "max", "(II)I"⟩
abbrev cJ9_min_7cf53 : ByteArray := prog_14_method_69_code
def yJ9_min_7cf53 : MethodName := ⟨RJ9, "min", "(II)I"⟩
def RJ0 : String := "java/lang/String"
def TJ0 : u_T := fun k => match k with
  | _ => ("", "", "", false)
def tyJ0 : Nat → FieldType := fun k => match k with
  | _ => .int
abbrev wsJ00 : List Cond := u_ws RJ0 TJ0 0
theorem nmJ0 : ∀ a, a < 0 → ∀ b, b < 0 → a ≠ b → (TJ0 a).2.1 ≠ (TJ0 b).2.1 := by decide +kernel
theorem tyJ0_ok : ∀ k, k < 0 → parseFieldDescriptor (TJ0 k).2.2.1 = some (tyJ0 k) := by decide +kernel
def RJ10 : String := "java/lang/System"
def TJ10 : u_T := fun k => match k with
  | _ => ("", "", "", false)
def tyJ10 : Nat → FieldType := fun k => match k with
  | _ => .int
abbrev wsJ100 : List Cond := u_ws RJ10 TJ10 0
theorem nmJ10 : ∀ a, a < 0 → ∀ b, b < 0 → a ≠ b → (TJ10 a).2.1 ≠ (TJ10 b).2.1 := by decide +kernel
theorem tyJ10_ok : ∀ k, k < 0 → parseFieldDescriptor (TJ10 k).2.2.1 = some (tyJ10 k) := by decide +kernel
def RJ7 : String := "java/util/Arrays"
def TJ7 : u_T := fun k => match k with
  | _ => ("", "", "", false)
def tyJ7 : Nat → FieldType := fun k => match k with
  | _ => .int
abbrev wsJ70 : List Cond := u_ws RJ7 TJ7 0
theorem nmJ7 : ∀ a, a < 0 → ∀ b, b < 0 → a ≠ b → (TJ7 a).2.1 ≠ (TJ7 b).2.1 := by decide +kernel
theorem tyJ7_ok : ∀ k, k < 0 → parseFieldDescriptor (TJ7 k).2.2.1 = some (tyJ7 k) := by decide +kernel
abbrev cJ7_fill_d0a16 : ByteArray := prog_19_method_101_code
def yJ7_fill_d0a16 : MethodName := ⟨RJ7, "fill", "([JJ)V"⟩
abbrev cJ7_fill_53178 : ByteArray := prog_19_method_103_code
def yJ7_fill_53178 : MethodName := ⟨RJ7, "fill", "([II)V"⟩
abbrev cJ7_copyOf_59c91 : ByteArray := prog_19_method_123_code
def yJ7_copyOf_59c91 : MethodName := ⟨RJ7, "copyOf", "([II)[I"⟩
def RL : String := "AnsTablesLaw"
abbrev cL_cell : ByteArray := method_2_code
def yL_cell : MethodName := ⟨RL, "cell", "([II)I"⟩
abbrev cL_spread : ByteArray := method_3_code
def yL_spread : MethodName := ⟨RL, "spread", "(LAnsTables;I[J)I"⟩
abbrev cL_law : ByteArray := code
def yL_law : MethodName := ⟨RL, "law", "([I)Z"⟩
abbrev vwCl : List vw_C := [(RJx00060, TJx00060, 6), (RX0, TX0, 1), (RX1, TX1, 3), (RX2, TX2, 2), (RX3, TX3, 12), (RX4, TX4, 11), (RX5, TX5, 4), (RX6, TX6, 10), (RX7, TX7, 34)]
end
section
-- ===== states of objects: scalars, int rows, long rows, lengths =====
abbrev OS : Type := (Nat → Int32) × (Nat → Nat → Int32) × (Nat → Nat → Int64) × (Nat → Nat)
def sF (u : OS) (k : Nat) (v : Int32) : OS := (va_up u.1 k v, u.2)
def sA (u : OS) (k : Nat) (i v : Int32) : OS := (u.1, va_up u.2.1 k (upd (u.2.1 k) i.toNatClampNeg v), u.2.2)
def sL (u : OS) (k : Nat) (i : Int32) (v : Int64) : OS := (u.1, u.2.1, va_up u.2.2.1 k (vp_updL (u.2.2.1 k) i.toNatClampNeg v), u.2.2.2)
def sG (u : OS) (k : Nat) (f : Nat → Int32) : OS := (u.1, va_up u.2.1 k f, u.2.2)
def sGL (u : OS) (k : Nat) (f : Nat → Int64) : OS := (u.1, u.2.1, va_up u.2.2.1 k f, u.2.2.2)
def sR (u : OS) (k : Nat) (n : Nat) (f : Nat → Int32) : OS := (u.1, va_up u.2.1 k f, u.2.2.1, va_up u.2.2.2 k n)
def mkA (n : Nat) (f : Nat → Int32) : OS := (fun _ => 0, fun _ => f, fun _ _ => 0, fun _ => n)
def FU : Nat := 100000
-- ===== pure binders =====
def bnd {α β : Type} (e : α) (k : α → β) : β := k e
theorem bnd_nm {α β : Type} {e x : α} {k : α → β} {r : β} (ex : x = e) (h : bnd e k = r) : k x = r := by subst ex; exact h
theorem bnd_ex {α β : Type} {e : α} {k : α → β} {r : β} (h : bnd e k = r) : ∃ x, x = e ∧ k x = r := ⟨e, rfl, h⟩
theorem ex_eq {α : Sort _} (e : α) : ∃ x, x = e := ⟨e, rfl⟩
theorem ite_t {c : Prop} [Decidable c] {α : Type} {a b r : α} (hc : c) (h : (if c then a else b) = r) : a = r := by rw [if_pos hc] at h; exact h
theorem ite_f {c : Prop} [Decidable c] {α : Type} {a b r : α} (hc : ¬ c) (h : (if c then a else b) = r) : b = r := by rw [if_neg hc] at h; exact h
def gdi {γ : Type} (i : Int32) (n : Nat) (t : Option γ) : Option γ := if i < 0 ∨ n ≤ i.toNatClampNeg then none else t
theorem gdi_of {γ : Type} {i : Int32} {n : Nat} {t : Option γ} {r : γ} (h : gdi i n t = some r) : vp_in i n ∧ t = some r := by
  unfold gdi at h
  by_cases c : i < 0 ∨ n ≤ i.toNatClampNeg
  · rw [if_pos c] at h; cases h
  · rw [if_neg c] at h; exact ⟨c, h⟩
theorem gdi_in {γ : Type} {i : Int32} {n : Nat} {t : Option γ} (h : vp_in i n) : gdi i n t = t := if_neg h
def gdz {γ : Type} (y : Int32) (t : Option γ) : Option γ := if y = 0 then none else t
theorem gdz_of {γ : Type} {y : Int32} {t : Option γ} {r : γ} (h : gdz y t = some r) : ¬ y = 0 ∧ t = some r := by
  unfold gdz at h
  by_cases c : y = 0
  · rw [if_pos c] at h; cases h
  · rw [if_neg c] at h; exact ⟨c, h⟩
def gdzl {γ : Type} (y : Int64) (t : Option γ) : Option γ := if y = 0 then none else t
theorem gdzl_of {γ : Type} {y : Int64} {t : Option γ} {r : γ} (h : gdzl y t = some r) : ¬ y = 0 ∧ t = some r := by
  unfold gdzl at h
  by_cases c : y = 0
  · rw [if_pos c] at h; cases h
  · rw [if_neg c] at h; exact ⟨c, h⟩
def gdb {γ : Type} (x : Int32) (t : Option γ) : Option γ := if x = 0 ∨ x = 1 then t else none
theorem gdb_of {γ : Type} {x : Int32} {t : Option γ} {r : γ} (h : gdb x t = some r) : (x = 0 ∨ x = 1) ∧ t = some r := by
  unfold gdb at h
  by_cases c : x = 0 ∨ x = 1
  · rw [if_pos c] at h; exact ⟨c, h⟩
  · rw [if_neg c] at h; cases h
theorem nb_of {x : Int32} (h : x = 0 ∨ x = 1) : narrow .boolean (.int x) = .int x := by rcases h with rfl | rfl <;> rfl
theorem fb_of {x : Int32} (h : x = 0 ∨ x = 1) : fits .boolean (.int x) = true := by rcases h with rfl | rfl <;> rfl
def oC0 {r : Type} (x : Option Unit) (k : Option r) : Option r := match x with
  | some _ => k
  | none => none
theorem oC0_of {r : Type} {x : Option Unit} {k : Option r} {o : r} (h : oC0 x k = some o) : x = some () ∧ k = some o := by
  cases x with
  | none => cases h
  | some z => exact ⟨rfl, h⟩
def oC1 {a r : Type} (x : Option a) (k : a → Option r) : Option r := match x with
  | some z => k z
  | none => none
theorem oC1_of {a r : Type} {x : Option a} {k : a → Option r} {o : r} (h : oC1 x k = some o) : ∃ z, x = some z ∧ k z = some o := by
  cases x with
  | none => cases h
  | some z => exact ⟨z, rfl, h⟩
def oC2 {a b r : Type} (x : Option (a × b)) (k : a → b → Option r) : Option r := match x with
  | some (z, y) => k z y
  | none => none
theorem oC2_of {a b r : Type} {x : Option (a × b)} {k : a → b → Option r} {o : r} (h : oC2 x k = some o) : ∃ z y, x = some (z, y) ∧ k z y = some o := by
  cases x with
  | none => cases h
  | some q => obtain ⟨z, y⟩ := q; exact ⟨z, y, rfl, h⟩
def oC3 {a b c r : Type} (x : Option (a × b × c)) (k : a → b → c → Option r) : Option r := match x with
  | some (z, y, w) => k z y w
  | none => none
theorem oC3_of {a b c r : Type} {x : Option (a × b × c)} {k : a → b → c → Option r} {o : r} (h : oC3 x k = some o) : ∃ z y w, x = some (z, y, w) ∧ k z y w = some o := by
  cases x with
  | none => cases h
  | some q => obtain ⟨z, y, w⟩ := q; exact ⟨z, y, w, rfl, h⟩
def oC4 {a b c d r : Type} (x : Option (a × b × c × d)) (k : a → b → c → d → Option r) : Option r := match x with
  | some (z, y, w, v) => k z y w v
  | none => none
theorem oC4_of {a b c d r : Type} {x : Option (a × b × c × d)} {k : a → b → c → d → Option r} {o : r} (h : oC4 x k = some o) : ∃ z y w v, x = some (z, y, w, v) ∧ k z y w v = some o := by
  cases x with
  | none => cases h
  | some q => obtain ⟨z, y, w, v⟩ := q; exact ⟨z, y, w, v, rfl, h⟩
def addc {γ : Type} (a b : Nat) (t : Option (γ × Nat × Nat)) : Option (γ × Nat × Nat) := match t with
  | some (o, kc, ks) => some (o, a + kc, b + ks)
  | none => none
theorem addc_of {γ : Type} {a b kc ks : Nat} {t : Option (γ × Nat × Nat)} {o : γ} (h : addc a b t = some (o, kc, ks)) : ∃ k n, t = some (o, k, n) ∧ kc = a + k ∧ ks = b + n := by
  cases t with
  | none => cases h
  | some q => obtain ⟨x, k, n⟩ := q; cases h; exact ⟨k, n, rfl, rfl, rfl⟩
theorem ret0 {γ : Type} {x o : γ} {kc ks : Nat} (h : some (x, 0, 0) = some (o, kc, ks)) : some x = some o ∧ 0 = kc ∧ 0 = ks := by cases h; exact ⟨rfl, rfl, rfl⟩
def oA0 {r : Type} (x : Option (Unit × Nat × Nat)) (k : Nat → Nat → Option r) : Option r := match x with
  | some (_, m, n) => k m n
  | none => none
theorem oA0_of {r : Type} {x : Option (Unit × Nat × Nat)} {k : Nat → Nat → Option r} {o : r} (h : oA0 x k = some o) : ∃ m n, x = some ((), m, n) ∧ k m n = some o := by
  cases x with
  | none => cases h
  | some q => obtain ⟨⟨⟩, m, n⟩ := q; exact ⟨m, n, rfl, h⟩
def oA1 {a r : Type} (x : Option (a × Nat × Nat)) (k : a → Nat → Nat → Option r) : Option r := match x with
  | some (z, m, n) => k z m n
  | none => none
theorem oA1_of {a r : Type} {x : Option (a × Nat × Nat)} {k : a → Nat → Nat → Option r} {o : r} (h : oA1 x k = some o) : ∃ z m n, x = some (z, m, n) ∧ k z m n = some o := by
  cases x with
  | none => cases h
  | some q => obtain ⟨z, m, n⟩ := q; exact ⟨z, m, n, rfl, h⟩
def oA2 {a b r : Type} (x : Option ((a × b) × Nat × Nat)) (k : a → b → Nat → Nat → Option r) : Option r := match x with
  | some ((z, y), m, n) => k z y m n
  | none => none
theorem oA2_of {a b r : Type} {x : Option ((a × b) × Nat × Nat)} {k : a → b → Nat → Nat → Option r} {o : r} (h : oA2 x k = some o) : ∃ z y m n, x = some ((z, y), m, n) ∧ k z y m n = some o := by
  cases x with
  | none => cases h
  | some q => obtain ⟨⟨z, y⟩, m, n⟩ := q; exact ⟨z, y, m, n, rfl, h⟩
def oA3 {a b c r : Type} (x : Option ((a × b × c) × Nat × Nat)) (k : a → b → c → Nat → Nat → Option r) : Option r := match x with
  | some ((z, y, w), m, n) => k z y w m n
  | none => none
theorem oA3_of {a b c r : Type} {x : Option ((a × b × c) × Nat × Nat)} {k : a → b → c → Nat → Nat → Option r} {o : r} (h : oA3 x k = some o) : ∃ z y w m n, x = some ((z, y, w), m, n) ∧ k z y w m n = some o := by
  cases x with
  | none => cases h
  | some q => obtain ⟨⟨z, y, w⟩, m, n⟩ := q; exact ⟨z, y, w, m, n, rfl, h⟩
def oA4 {a b c d r : Type} (x : Option ((a × b × c × d) × Nat × Nat)) (k : a → b → c → d → Nat → Nat → Option r) : Option r := match x with
  | some ((z, y, w, v), m, n) => k z y w v m n
  | none => none
theorem oA4_of {a b c d r : Type} {x : Option ((a × b × c × d) × Nat × Nat)} {k : a → b → c → d → Nat → Nat → Option r} {o : r} (h : oA4 x k = some o) : ∃ z y w v m n, x = some ((z, y, w, v), m, n) ∧ k z y w v m n = some o := by
  cases x with
  | none => cases h
  | some q => obtain ⟨⟨z, y, w, v⟩, m, n⟩ := q; exact ⟨z, y, w, v, m, n, rfl, h⟩
theorem inj2 {a b : Type} {x x' : a} {y y' : b} (h : some (x, y) = some (x', y')) : x = x' ∧ y = y' := by cases h; exact ⟨rfl, rfl⟩
theorem inj3 {a b c : Type} {x x' : a} {y y' : b} {z z' : c} (h : some (x, y, z) = some (x', y', z')) : x = x' ∧ y = y' ∧ z = z' := by cases h; exact ⟨rfl, rfl, rfl⟩
theorem inj4 {a b c d : Type} {x x' : a} {y y' : b} {z z' : c} {w w' : d} (h : some (x, y, z, w) = some (x', y', z', w')) : x = x' ∧ y = y' ∧ z = z' ∧ w = w' := by cases h; exact ⟨rfl, rfl, rfl, rfl⟩
theorem ap0 {r : Type} {K K' r' : r} (e : K = K') (h : K = r') : K' = r' := e ▸ h
theorem ap1 {a r : Type} {K K' : a → r} {x : a} {o : r} (e : K = K') (h : K x = o) : K' x = o := e ▸ h
theorem ap2 {a b r : Type} {K K' : a → b → r} {x : a} {y : b} {o : r} (e : K = K') (h : K x y = o) : K' x y = o := e ▸ h
theorem ap3 {a b c r : Type} {K K' : a → b → c → r} {x : a} {y : b} {z : c} {o : r} (e : K = K') (h : K x y z = o) : K' x y z = o := e ▸ h
theorem ap4 {a b c d r : Type} {K K' : a → b → c → d → r} {x : a} {y : b} {z : c} {w : d} {o : r} (e : K = K') (h : K x y z w = o) : K' x y z w = o := e ▸ h
theorem ap5 {a b c d f r : Type} {K K' : a → b → c → d → f → r} {x : a} {y : b} {z : c} {w : d} {v : f} {o : r} (e : K = K') (h : K x y z w v = o) : K' x y z w v = o := e ▸ h
theorem ap6 {a b c d f g r : Type} {K K' : a → b → c → d → f → g → r} {x : a} {y : b} {z : c} {w : d} {v : f} {t : g} {o : r} (e : K = K') (h : K x y z w v t = o) : K' x y z w v t = o := e ▸ h
theorem ap7 {a b c d f g i r : Type} {K K' : a → b → c → d → f → g → i → r} {x : a} {y : b} {z : c} {w : d} {v : f} {t : g} {q : i} {o : r} (e : K = K') (h : K x y z w v t q = o) : K' x y z w v t q = o := e ▸ h
theorem ap8 {a b c d f g i j r : Type} {K K' : a → b → c → d → f → g → i → j → r} {x : a} {y : b} {z : c} {w : d} {v : f} {t : g} {q : i} {p : j} {o : r} (e : K = K') (h : K x y z w v t q p = o) : K' x y z w v t q p = o := e ▸ h
theorem ap9 {a b c d f g i j k r : Type} {K K' : a → b → c → d → f → g → i → j → k → r} {x : a} {y : b} {z : c} {w : d} {v : f} {t : g} {q : i} {p : j} {n : k} {o : r} (e : K = K') (h : K x y z w v t q p n = o) : K' x y z w v t q p n = o := e ▸ h
theorem lgc_lt {x y : Int64} : lg_cmp x y < 0 ↔ x < y := by
  rcases lg_tri x y with h | h | h
  · have h2 := lg_lt_not h; have h3 := lg_lt_ne h; simp [lg_cmp, h, h2, h3]
  · subst h; simp [lg_cmp]
  · have h2 := lg_lt_not h; simp [lg_cmp, h, h2]
theorem lgc_gt {x y : Int64} : 0 < lg_cmp x y ↔ y < x := by
  rcases lg_tri x y with h | h | h
  · have h2 := lg_lt_not h; have h3 := lg_lt_ne h; simp [lg_cmp, h2, h3]
  · subst h; simp [lg_cmp]
  · have h2 := lg_lt_not h; simp [lg_cmp, h]
theorem lgc_eq {x y : Int64} : lg_cmp x y = 0 ↔ x = y := by
  rcases lg_tri x y with h | h | h
  · have h2 := lg_lt_not h; have h3 := lg_lt_ne h; simp [lg_cmp, h2, h3]
  · subst h; simp [lg_cmp]
  · have h2 := lg_lt_not h; have h3 := lg_lt_ne h; have h4 : ¬ x = y := fun q => h3 q.symm; simp [lg_cmp, h, h4]
theorem lgc_le {x y : Int64} : lg_cmp x y ≤ 0 ↔ x ≤ y := by
  rcases lg_tri x y with h | h | h
  · have h2 := lg_lt_not h; have h3 := lg_lt_ne h; simp [lg_cmp, h2, h3, Int64.le_of_lt h]
  · subst h; simp [lg_cmp, Int64.le_refl]
  · have h2 := lg_lt_not_le h; simp [lg_cmp, h, h2]
theorem lgc_ge {x y : Int64} : 0 ≤ lg_cmp x y ↔ y ≤ x := by
  rcases lg_tri x y with h | h | h
  · have h2 := lg_lt_not h; have h3 := lg_lt_ne h; have h4 := lg_lt_not_le h; simp [lg_cmp, h2, h3, h4]
  · subst h; simp [lg_cmp, Int64.le_refl]
  · simp [lg_cmp, h, Int64.le_of_lt h]
theorem sw_out {x : Int32} (n : Nat) (hn : n < 2 ^ 31) (h : ∀ j, j < n → ¬ x = nI j) : x.toInt < 0 ∨ ((n : Int) - 1) < x.toInt := by
  rcases pk_ix x hn with c | c | ⟨j, hj, e⟩
  · exact Or.inl (Int32.lt_iff_toInt_lt.mp c)
  · refine Or.inr ?_
    have h2 := Int32.le_iff_toInt_le.mp c
    rw [nI_toInt hn] at h2
    omega
  · exact absurd e (h j hj)
theorem i32_ne {x y : Int32} (h : ¬ x = y) : ¬ x.toInt = y.toInt := fun q => h (Int32.toInt_inj.mp q)
-- ===== words =====
def lw_good : List Cond := lw_tbl.filter goodWord
theorem lg_mem {w : Cond} (h : w ∈ lw_tbl) (g : goodWord w = true) : w ∈ lw_good := List.mem_filter.mpr ⟨h, g⟩
theorem tb1 {w : Cond} (h : w ∈ tables_1_1) : w ∈ lw_tbl := List.mem_append_right _ (List.mem_append_left _ h)
theorem tb2 {w : Cond} (h : w ∈ tables_1_2) : w ∈ lw_tbl := List.mem_append_right _ (List.mem_append_right _ (List.mem_append_left _ h))
theorem tb3 {w : Cond} (h : w ∈ tables_1_3) : w ∈ lw_tbl := List.mem_append_right _ (List.mem_append_right _ (List.mem_append_right _ (List.mem_append_left _ h)))
theorem tb4 {w : Cond} (h : w ∈ tables_1_4) : w ∈ lw_tbl := List.mem_append_right _ (List.mem_append_right _ (List.mem_append_right _ (List.mem_append_right _ (List.mem_append_left _ h))))
theorem tb5 {w : Cond} (h : w ∈ tables_1_5) : w ∈ lw_tbl := List.mem_append_right _ (List.mem_append_right _ (List.mem_append_right _ (List.mem_append_right _ (List.mem_append_right _ h))))
theorem tb0 {w : Cond} (h : w ∈ k2_sels lw_privs) : w ∈ lw_tbl := List.mem_append_left _ h
def wq (y : MethodName) (c : ByteArray) (n : Nat) (r : Option FieldType) : List Cond := .code y c n r :: lw_good
theorem wq_mem {y : MethodName} {c : ByteArray} {n : Nat} {r : Option FieldType} {w : Cond} (h : w ∈ lw_good) : w ∈ wq y c n r := List.mem_cons_of_mem _ h
theorem good_in {w : Cond} (h : w ∈ lw_good) : (w.onTables && w.keeps) = true ∨ ∃ ty, w = .arrayClass ty := good_of_word (List.mem_filter.mp h).2
theorem gdC {y : MethodName} {c : ByteArray} {n : Nat} {r : Option FieldType} (h : Cond.code y c n r ∈ lw_good) : GoodIn lw_good (wq y c n r) := by
  intro w hw
  rcases List.mem_cons.mp hw with rfl | hw
  · exact ⟨h, good_in h⟩
  · exact ⟨hw, good_in hw⟩
theorem gdV {own C : String} {idx : Nat} {y : MethodName} {c : ByteArray} {n : Nat} {r : Option FieldType} (h1 : Cond.methodLink own idx y ∈ lw_good) (h2 : Cond.instanceMethod y ∈ lw_good) (h3 : Cond.selects C y y ∈ lw_good) (h4 : Cond.initialized C ∈ lw_good) (h : Cond.code y c n r ∈ lw_good) : GoodIn lw_good (wsV own idx C y (wq y c n r)) := by
  intro w hw
  rcases List.mem_append.mp hw with hw | hw
  · simp only [List.mem_cons, List.not_mem_nil, or_false] at hw
    rcases hw with rfl | rfl | rfl | rfl
    · exact ⟨h1, good_in h1⟩
    · exact ⟨h2, good_in h2⟩
    · exact ⟨h3, good_in h3⟩
    · exact ⟨h4, good_in h4⟩
  · exact gdC h w hw
theorem gdS {own : String} {idx : Nat} {y : MethodName} {c : ByteArray} {n : Nat} {r : Option FieldType} (h1 : Cond.methodLink own idx y ∈ lw_good) (h2 : Cond.static y ∈ lw_good) (h4 : Cond.initialized y.cls ∈ lw_good) (h : Cond.code y c n r ∈ lw_good) : GoodIn lw_good (va_wsS own idx y (wq y c n r)) := by
  intro w hw
  rcases List.mem_append.mp hw with hw | hw
  · simp only [List.mem_cons, List.not_mem_nil, or_false] at hw
    rcases hw with rfl | rfl | rfl
    · exact ⟨h1, good_in h1⟩
    · exact ⟨h2, good_in h2⟩
    · exact ⟨h4, good_in h4⟩
  · exact gdC h w hw
def nwL : List Cond := [Cond.methodLinkNest RX6 36 yX5_init "AnsTables",
  Cond.methodLinkNest RX6 43 yX3_init "AnsTables",
  Cond.methodLinkNest RX6 50 yX1_init "AnsTables",
  Cond.fieldLinkNest RX6 90 "AnsTables$Shares" "made" "Z" "AnsTables",
  Cond.fieldLinkNest RX6 108 "AnsTables$Shares" "size" "I" "AnsTables",
  Cond.fieldLinkNest RX6 123 "AnsTables$Octets" "length" "I" "AnsTables",
  Cond.fieldLinkNest RX6 130 "AnsTables$Reader" "broken" "I" "AnsTables",
  Cond.fieldLinkNest RX6 147 "AnsTables$Writer" "done" "Z" "AnsTables",
  Cond.fieldLinkNest RX6 150 "AnsTables$Writer" "laneCount" "I" "AnsTables",
  Cond.fieldLinkNest RX6 151 "AnsTables$Writer" "states" "[J" "AnsTables",
  Cond.fieldLinkNest RX6 155 "AnsTables$Reader" "hasStates" "Z" "AnsTables",
  Cond.fieldLinkNest RX6 158 "AnsTables$Reader" "laneCount" "I" "AnsTables",
  Cond.fieldLinkNest RX6 159 "AnsTables$Reader" "states" "[J" "AnsTables",
  Cond.fieldLinkNest RX6 172 "AnsTables$Shares" "log" "I" "AnsTables",
  Cond.fieldLinkNest RX6 175 "AnsTables$Reader" "length" "I" "AnsTables",
  Cond.methodLinkNest RX0 27 yX6_bitLength "AnsTables",
  Cond.methodLinkNest RX1 22 yX6_withRoom "AnsTables",
  Cond.methodLinkNest RX2 19 yX6_withRoom "AnsTables",
  Cond.fieldLinkNest RX3 77 "AnsTables$Shares" "size" "I" "AnsTables",
  Cond.methodLinkNest RX3 80 yX6_bitLength "AnsTables",
  Cond.methodLinkNest RX3 99 yX6_firstState "AnsTables",
  Cond.methodLinkNest RX3 103 yX6_lastState "AnsTables",
  Cond.methodLinkNest RX3 106 yX6_stateWidth "AnsTables",
  Cond.methodLinkNest RX3 120 yX6_withRoom "AnsTables",
  Cond.fieldLinkNest RX3 146 "AnsTables$Shares" "log" "I" "AnsTables",
  Cond.fieldLinkNest RX3 159 "AnsTables$Octets" "length" "I" "AnsTables",
  Cond.fieldLinkNest RX3 162 "AnsTables$Octets" "values" "[I" "AnsTables",
  Cond.methodLinkNest RX4 57 yX6_isSign "AnsTables",
  Cond.methodLinkNest RX5 17 yX2_init "AnsTables",
  Cond.fieldLinkNest RX5 35 "AnsTables$Shares" "size" "I" "AnsTables",
  Cond.methodLinkNest RX5 40 yX6_firstState "AnsTables",
  Cond.methodLinkNest RX5 73 yX6_stateWidth "AnsTables",
  Cond.fieldLinkNest RX5 93 "AnsTables$Shares" "log" "I" "AnsTables",
  Cond.methodLinkNest RX5 99 yX6_bitLength "AnsTables"]
def nestB : Cond → Bool
  | .fieldLinkNest _ _ _ _ _ _ => true
  | .methodLinkNest _ _ _ _ => true
  | _ => false
theorem nwL_ok : nwL.all (fun w => nestB w && w.onTables) = true := by decide +kernel
def NW (U : State) : Prop := ∀ w ∈ nwL, va_Nw w U
theorem NW.warm {s U : State} (hW : s.WarmedH U.vm) (h : NW s) : NW U := by
  intro w hw
  have h1 := List.all_eq_true.mp nwL_ok w hw
  have h2 := h w hw
  clear hw
  cases w <;> first | exact va_Nw.warmF hW h2 | exact va_Nw.warmM hW h2 | exact absurd h1 (by simp [nestB])
theorem NW.same {u U : State} (e : u.vm = U.vm) (h : NW u) : NW U := fun w hw => va_Nw.same (by have h1 := List.all_eq_true.mp nwL_ok w hw; simp only [Bool.and_eq_true] at h1; exact h1.2) e (h w hw)
/-- a method's start: the world's cells, the tables, the nest's words -/
def pcW (dC : Nat → ClassId) (dI : Nat → Nat → Nat) (cI cJ : ClassId) (sz : Nat) (w : va_W) (U : State) : Prop := U.heap.size = sz ∧ va_P (dC, dI) vwCl w U.heap ∧ va_K (dC, dI) vwCl [(cI, .int), (cJ, .long)] U ∧ va_D (fun _ => True) w ∧ NW U
theorem pcW_blind {dC : Nat → ClassId} {dI : Nat → Nat → Nat} {cI cJ : ClassId} {sz : Nat} {w : va_W} {av : List Value} : FrameBlind (va_Pc av (pcW dC dI cI cJ sz w)) := fun a U g mk q => by
  obtain ⟨q0, q1, qP, qK, qD, qN⟩ := q
  exact ⟨q0, q1, qP, va_K.moved (u := U) (U := U.calling g mk a) (Vm.Alike.refl U.vm) qK, qD, NW.same (u := U) (U := U.calling g mk a) rfl qN⟩
theorem pcW_pre {dC : Nat → ClassId} {dI : Nat → Nat → Nat} {cI cJ : ClassId} {w : va_W} {A : Nat → Prop} {s : State} {H : Heap} {av : List Value} (hP : va_P (dC, dI) vwCl w H) (hK : va_K (dC, dI) vwCl [(cI, .int), (cJ, .long)] s) (hD : va_D A w) (hN : NW s) : ∀ U : State, U.heap = H → s.WarmedH U.vm → va_Pc av (pcW dC dI cI cJ H.size w) av.toArray U := fun U hU hW => ⟨rfl, by rw [hU], by rw [hU]; exact hP, va_K.moved hW.alike hK, hD.weaken (fun _ _ _ _ => trivial), hN.warm hW⟩
abbrev wM (cI cJ : ClassId) (a : Nat) (h : Nat → Nat) (u : OS) : va_W := [(a, .inr (8, [.int (u.1 0), .int (u.1 1), .int (u.1 2), .int (u.1 3), .ref (h 4), .int (u.1 5), .ref (h 6), .int (u.1 7), .ref (h 8), .ref (h 9), .ref (h 10), .ref (h 11), .ref (h 12), .ref (h 13), .ref (h 14), .int (u.1 15), .ref (h 16), .ref (h 17), .int (u.1 18), .ref (h 19), .int (u.1 20), .int (u.1 21), .int (u.1 22), .int (u.1 23), .ref (h 24), .int (u.1 25), .int (u.1 26), .int (u.1 27), .int (u.1 28), .int (u.1 29), .int (u.1 30), .int (u.1 31), .int (u.1 32), .ref (h 33)])), (h 4, .inl (cI, 1000, .inl (u.2.1 4))), (h 6, .inl (cI, 32, .inl (u.2.1 6))), (h 8, .inl (cI, 64, .inl (u.2.1 8))), (h 9, .inl (cI, 64, .inl (u.2.1 9))), (h 10, .inl (cI, 2, .inl (u.2.1 10))), (h 11, .inl (cI, 8192, .inl (u.2.1 11))), (h 12, .inl (cI, 8192, .inl (u.2.1 12))), (h 13, .inl (cI, 8192, .inl (u.2.1 13))), (h 14, .inl (cI, 20000, .inl (u.2.1 14))), (h 16, .inl (cJ, 4, .inr (.inl (u.2.2.1 16)))), (h 17, .inl (cJ, 4, .inr (.inl (u.2.2.1 17)))), (h 19, .inl (cI, 70000, .inl (u.2.1 19))), (h 24, .inl (cI, 65536, .inl (u.2.1 24))), (h 33, .inl (cJ, 4, .inr (.inl (u.2.2.1 33))))]
abbrev wL (cI cJ : ClassId) (a : Nat) (h : Nat → Nat) (u : OS) : va_W := [(a, .inr (1, [.ref (h 0)])), (h 0, .inl (cJ, (u.2.2.2 0), .inr (.inl (u.2.2.1 0))))]
abbrev wO (cI cJ : ClassId) (a : Nat) (h : Nat → Nat) (u : OS) : va_W := [(a, .inr (2, [.ref (h 0), .int (u.1 1), .int (u.1 2)])), (h 0, .inl (cI, (u.2.2.2 0), .inl (u.2.1 0)))]
abbrev wP (cI cJ : ClassId) (a : Nat) (h : Nat → Nat) (u : OS) : va_W := [(a, .inr (3, [.ref (h 0), .int (u.1 1)])), (h 0, .inl (cI, (u.2.2.2 0), .inl (u.2.1 0)))]
abbrev wS (cI cJ : ClassId) (a : Nat) (h : Nat → Nat) (u : OS) : va_W := [(a, .inr (5, [.int (u.1 0), .int (u.1 1), .int (u.1 2), .ref (h 3), .ref (h 4), .ref (h 5), .ref (h 6), .int (u.1 7), .ref (h 8), .ref (h 9), .ref (h 10)])), (h 3, .inl (cI, 32, .inl (u.2.1 3))), (h 4, .inl (cI, 33, .inl (u.2.1 4))), (h 5, .inl (cJ, 32, .inr (.inl (u.2.2.1 5)))), (h 6, .inl (cI, 32, .inl (u.2.1 6))), (h 8, .inl (cI, (u.2.2.2 8), .inl (u.2.1 8))), (h 9, .inl (cI, (u.2.2.2 9), .inl (u.2.1 9))), (h 10, .inl (cI, (u.2.2.2 10), .inl (u.2.1 10)))]
abbrev wZ (cI cJ : ClassId) (a : Nat) (h : Nat → Nat) (u : OS) : va_W := [(a, .inr (5, [.int (u.1 0), .int (u.1 1), .int (u.1 2), .ref (h 3), .ref (h 4), .ref (h 5), .ref (h 6), .int (u.1 7), .ref (h 8), .ref (h 9), .ref (h 10)])), (h 3, .inl (cI, 32, .inl (u.2.1 3))), (h 4, .inl (cI, 33, .inl (u.2.1 4))), (h 5, .inl (cJ, 32, .inr (.inl (u.2.2.1 5)))), (h 6, .inl (cI, 32, .inl (u.2.1 6))), (h 8, .inl (cI, (u.2.2.2 8), .inl (u.2.1 8))), (h 9, .inl (cI, (u.2.2.2 9), .inl (u.2.1 9))), (h 10, .inl (cI, (u.2.2.2 10), .inl (u.2.1 10)))]
abbrev wW (cI cJ : ClassId) (a : Nat) (h : Nat → Nat) (bP : Nat) (u : OS) : va_W := [(a, .inr (6, [.ref (h 0), .ref bP, .int (u.1 2), .int (u.1 3)])), (h 0, .inl (cJ, 4, .inr (.inl (u.2.2.1 0))))]
abbrev wR (cI cJ : ClassId) (a : Nat) (h : Nat → Nat) (bZ : Nat) (u : OS) : va_W := [(a, .inr (4, [.ref bZ, .ref (h 1), .ref (h 2), .int (u.1 3), .int (u.1 4), .int (u.1 5), .int (u.1 6), .int (u.1 7), .int (u.1 8), .int (u.1 9), .int (u.1 10), .int (u.1 11)])), (h 1, .inl (cJ, 4, .inr (.inl (u.2.2.1 1)))), (h 2, .inl (cI, (u.2.2.2 2), .inl (u.2.1 2)))]
abbrev wX (cI cJ : ClassId) (a : Nat) (h : Nat → Nat) (bL : Nat) (bS : Nat) (bW : Nat) (bR : Nat) (bO : Nat) (u : OS) : va_W := [(a, .inr (7, [.ref bL, .ref bS, .ref bW, .ref bR, .ref bO, .ref (h 5), .ref (h 6), .int (u.1 7), .int (u.1 8), .int (u.1 9)])), (h 5, .inl (cI, 32, .inl (u.2.1 5))), (h 6, .inl (cI, (u.2.2.2 6), .inl (u.2.1 6)))]
abbrev wA (cI cJ : ClassId) (h : Nat → Nat) (u : OS) : va_W := [(h 0, .inl (cI, (u.2.2.2 0), .inl (u.2.1 0)))]
end
section
theorem inX0 : ∀ w ∈ wsX00, w ∈ lw_good := fun w h => lg_mem ((by decide +kernel : ∀ w ∈ wsX00, w ∈ lw_tbl) w h) (List.all_eq_true.mp (by decide +kernel : wsX00.all goodWord = true) w h)
theorem inX1 : ∀ w ∈ wsX10, w ∈ lw_good := fun w h => lg_mem ((by decide +kernel : ∀ w ∈ wsX10, w ∈ lw_tbl) w h) (List.all_eq_true.mp (by decide +kernel : wsX10.all goodWord = true) w h)
theorem inX2 : ∀ w ∈ wsX20, w ∈ lw_good := fun w h => lg_mem ((by decide +kernel : ∀ w ∈ wsX20, w ∈ lw_tbl) w h) (List.all_eq_true.mp (by decide +kernel : wsX20.all goodWord = true) w h)
theorem inX3 : ∀ w ∈ wsX30, w ∈ lw_good := fun w h => lg_mem ((by decide +kernel : ∀ w ∈ wsX30, w ∈ lw_tbl) w h) (List.all_eq_true.mp (by decide +kernel : wsX30.all goodWord = true) w h)
theorem inX4 : ∀ w ∈ wsX40, w ∈ lw_good := fun w h => lg_mem ((by decide +kernel : ∀ w ∈ wsX40, w ∈ lw_tbl) w h) (List.all_eq_true.mp (by decide +kernel : wsX40.all goodWord = true) w h)
theorem inX5 : ∀ w ∈ wsX50, w ∈ lw_good := fun w h => lg_mem ((by decide +kernel : ∀ w ∈ wsX50, w ∈ lw_tbl) w h) (List.all_eq_true.mp (by decide +kernel : wsX50.all goodWord = true) w h)
theorem inX6 : ∀ w ∈ wsX60, w ∈ lw_good := fun w h => lg_mem ((by decide +kernel : ∀ w ∈ wsX60, w ∈ lw_tbl) w h) (List.all_eq_true.mp (by decide +kernel : wsX60.all goodWord = true) w h)
theorem inX7 : ∀ w ∈ wsX70, w ∈ lw_good := fun w h => lg_mem ((by decide +kernel : ∀ w ∈ wsX70, w ∈ lw_tbl) w h) (List.all_eq_true.mp (by decide +kernel : wsX70.all goodWord = true) w h)
theorem kw_0 : Cond.fieldLink RX7 62 "AnsTablesModel" "thrown" "I" ∈ lw_good := lg_mem (tb3 (List.mem_of_getElem? (i := 216) rfl)) (by decide +kernel)
theorem kw_1 : Cond.fieldLink RX7 65 "AnsTablesModel" "rowSize" "I" ∈ lw_good := lg_mem (tb3 (List.mem_of_getElem? (i := 220) rfl)) (by decide +kernel)
theorem kw_2 : Cond.fieldLink RX7 13 "AnsTablesModel" "row" "[I" ∈ lw_good := lg_mem (tb3 (List.mem_of_getElem? (i := 219) rfl)) (by decide +kernel)
theorem kw_3 : Cond.constant RX7 68 (1000000) ∈ lw_good := lg_mem (tb4 (List.mem_of_getElem? (i := 90) rfl)) (by decide +kernel)
theorem kw_4 : Cond.fieldLink RX7 17 "AnsTablesModel" "counts" "[I" ∈ lw_good := lg_mem (tb3 (List.mem_of_getElem? (i := 221) rfl)) (by decide +kernel)
theorem kw_5 : Cond.fieldLink RX7 69 "AnsTablesModel" "hasShares" "Z" ∈ lw_good := lg_mem (tb3 (List.mem_of_getElem? (i := 222) rfl)) (by decide +kernel)
theorem kw_6 : Cond.code yX7_signsCounted cX7_signsCounted 3 (some .int) ∈ lw_good := lg_mem (tb4 (List.mem_of_getElem? (i := 98) rfl)) (by decide +kernel)
theorem kw_7 : Cond.initialized RX7 ∈ lw_good := lg_mem (tb1 (List.mem_of_getElem? (i := 10) rfl)) (by decide +kernel)
theorem kw_8 : Cond.instanceMethod yX7_signsCounted ∈ lw_good := lg_mem (tb4 (List.mem_of_getElem? (i := 97) rfl)) (by decide +kernel)
theorem kw_9 : Cond.selects RX7 yX7_signsCounted yX7_signsCounted ∈ lw_good := lg_mem (tb0 (by decide +kernel)) (by decide +kernel)
theorem kw_10 : Cond.methodLink RX7 73 yX7_signsCounted ∈ lw_good := lg_mem (tb4 (List.mem_of_getElem? (i := 95) rfl)) (by decide +kernel)
theorem kw_11 : Cond.constantLong RX7 77 (2147483648) ∈ lw_good := lg_mem (tb4 (List.mem_of_getElem? (i := 107) rfl)) (by decide +kernel)
theorem kw_12 : Cond.constantLong RX7 79 (2) ∈ lw_good := lg_mem (tb4 (List.mem_of_getElem? (i := 108) rfl)) (by decide +kernel)
theorem kw_13 : Cond.constantLong RX7 81 (-1) ∈ lw_good := lg_mem (tb4 (List.mem_of_getElem? (i := 103) rfl)) (by decide +kernel)
theorem kw_14 : Cond.fieldLink RX7 59 "AnsTablesModel" "log" "I" ∈ lw_good := lg_mem (tb3 (List.mem_of_getElem? (i := 215) rfl)) (by decide +kernel)
theorem kw_15 : Cond.code yX7_logarithm cX7_logarithm 8 (some .long) ∈ lw_good := lg_mem (tb4 (List.mem_of_getElem? (i := 106) rfl)) (by decide +kernel)
theorem kw_16 : Cond.static yX7_logarithm ∈ lw_good := lg_mem (tb4 (List.mem_of_getElem? (i := 105) rfl)) (by decide +kernel)
theorem kw_17 : Cond.methodLink RX7 83 yX7_logarithm ∈ lw_good := lg_mem (tb4 (List.mem_of_getElem? (i := 104) rfl)) (by decide +kernel)
theorem kw_18 : Cond.fieldLink RX7 20 "AnsTablesModel" "share" "[I" ∈ lw_good := lg_mem (tb3 (List.mem_of_getElem? (i := 223) rfl)) (by decide +kernel)
theorem kw_19 : Cond.fieldLink RX7 26 "AnsTablesModel" "logOf" "[I" ∈ lw_good := lg_mem (tb3 (List.mem_of_getElem? (i := 225) rfl)) (by decide +kernel)
theorem kw_20 : Cond.fieldLink RX7 23 "AnsTablesModel" "from" "[I" ∈ lw_good := lg_mem (tb3 (List.mem_of_getElem? (i := 224) rfl)) (by decide +kernel)
theorem kw_21 : Cond.fieldLink RX7 29 "AnsTablesModel" "signAt" "[I" ∈ lw_good := lg_mem (tb3 (List.mem_of_getElem? (i := 226) rfl)) (by decide +kernel)
theorem kw_22 : Cond.fieldLink RX7 32 "AnsTablesModel" "numberAt" "[I" ∈ lw_good := lg_mem (tb3 (List.mem_of_getElem? (i := 227) rfl)) (by decide +kernel)
theorem kw_23 : Cond.fieldLink RX7 35 "AnsTablesModel" "placeOf" "[I" ∈ lw_good := lg_mem (tb3 (List.mem_of_getElem? (i := 228) rfl)) (by decide +kernel)
theorem kw_24 : Cond.code yX7_lay cX7_lay 8 none ∈ lw_good := lg_mem (tb4 (List.mem_of_getElem? (i := 116) rfl)) (by decide +kernel)
theorem kw_25 : Cond.instanceMethod yX7_lay ∈ lw_good := lg_mem (tb4 (List.mem_of_getElem? (i := 115) rfl)) (by decide +kernel)
theorem kw_26 : Cond.selects RX7 yX7_lay yX7_lay ∈ lw_good := lg_mem (tb0 (by decide +kernel)) (by decide +kernel)
theorem kw_27 : Cond.methodLink RX7 87 yX7_lay ∈ lw_good := lg_mem (tb4 (List.mem_of_getElem? (i := 113) rfl)) (by decide +kernel)
theorem kw_28 : Cond.fieldLink RX7 91 "AnsTablesModel" "kind" "I" ∈ lw_good := lg_mem (tb3 (List.mem_of_getElem? (i := 217) rfl)) (by decide +kernel)
theorem kw_29 : Cond.fieldLink RX7 7 "AnsTablesModel" "lanes" "I" ∈ lw_good := lg_mem (tb3 (List.mem_of_getElem? (i := 218) rfl)) (by decide +kernel)
theorem kw_30 : Cond.constantLong RX7 94 (8388608) ∈ lw_good := lg_mem (tb4 (List.mem_of_getElem? (i := 171) rfl)) (by decide +kernel)
theorem kw_31 : Cond.fieldLink RX7 38 "AnsTablesModel" "out" "[I" ∈ lw_good := lg_mem (tb3 (List.mem_of_getElem? (i := 229) rfl)) (by decide +kernel)
theorem kw_32 : Cond.fieldLink RX7 96 "AnsTablesModel" "outSize" "I" ∈ lw_good := lg_mem (tb3 (List.mem_of_getElem? (i := 230) rfl)) (by decide +kernel)
theorem kw_33 : Cond.code yX7_putByte cX7_putByte 2 none ∈ lw_good := lg_mem (tb4 (List.mem_of_getElem? (i := 152) rfl)) (by decide +kernel)
theorem kw_34 : Cond.instanceMethod yX7_putByte ∈ lw_good := lg_mem (tb4 (List.mem_of_getElem? (i := 151) rfl)) (by decide +kernel)
theorem kw_35 : Cond.selects RX7 yX7_putByte yX7_putByte ∈ lw_good := lg_mem (tb0 (by decide +kernel)) (by decide +kernel)
theorem kw_36 : Cond.methodLink RX7 99 yX7_putByte ∈ lw_good := lg_mem (tb4 (List.mem_of_getElem? (i := 149) rfl)) (by decide +kernel)
theorem kw_37 : Cond.fieldLink RX7 102 "AnsTablesModel" "bitAt" "I" ∈ lw_good := lg_mem (tb3 (List.mem_of_getElem? (i := 236) rfl)) (by decide +kernel)
theorem kw_38 : Cond.code yX7_bitsOf cX7_bitsOf 2 (some .int) ∈ lw_good := lg_mem (tb4 (List.mem_of_getElem? (i := 163) rfl)) (by decide +kernel)
theorem kw_39 : Cond.static yX7_bitsOf ∈ lw_good := lg_mem (tb4 (List.mem_of_getElem? (i := 162) rfl)) (by decide +kernel)
theorem kw_40 : Cond.methodLink RX7 105 yX7_bitsOf ∈ lw_good := lg_mem (tb4 (List.mem_of_getElem? (i := 161) rfl)) (by decide +kernel)
theorem kw_41 : Cond.code yX7_putBits cX7_putBits 4 none ∈ lw_good := lg_mem (tb4 (List.mem_of_getElem? (i := 167) rfl)) (by decide +kernel)
theorem kw_42 : Cond.instanceMethod yX7_putBits ∈ lw_good := lg_mem (tb4 (List.mem_of_getElem? (i := 166) rfl)) (by decide +kernel)
theorem kw_43 : Cond.selects RX7 yX7_putBits yX7_putBits ∈ lw_good := lg_mem (tb0 (by decide +kernel)) (by decide +kernel)
theorem kw_44 : Cond.methodLink RX7 109 yX7_putBits ∈ lw_good := lg_mem (tb4 (List.mem_of_getElem? (i := 164) rfl)) (by decide +kernel)
theorem kw_45 : Cond.fieldLink RX7 41 "AnsTablesModel" "state" "[J" ∈ lw_good := lg_mem (tb3 (List.mem_of_getElem? (i := 231) rfl)) (by decide +kernel)
theorem kw_46 : Cond.fieldLink RX7 49 "AnsTablesModel" "put" "[I" ∈ lw_good := lg_mem (tb3 (List.mem_of_getElem? (i := 234) rfl)) (by decide +kernel)
theorem kw_47 : Cond.fieldLink RX7 113 "AnsTablesModel" "putSize" "I" ∈ lw_good := lg_mem (tb3 (List.mem_of_getElem? (i := 235) rfl)) (by decide +kernel)
theorem kw_48 : Cond.fieldLink RX7 116 "AnsTablesModel" "sideAll" "I" ∈ lw_good := lg_mem (tb3 (List.mem_of_getElem? (i := 237) rfl)) (by decide +kernel)
theorem kw_49 : Cond.fieldLink RX7 119 "AnsTablesModel" "sideZero" "I" ∈ lw_good := lg_mem (tb3 (List.mem_of_getElem? (i := 238) rfl)) (by decide +kernel)
theorem kw_50 : Cond.code yX7_laySides cX7_laySides 5 none ∈ lw_good := lg_mem (tb4 (List.mem_of_getElem? (i := 179) rfl)) (by decide +kernel)
theorem kw_51 : Cond.instanceMethod yX7_laySides ∈ lw_good := lg_mem (tb4 (List.mem_of_getElem? (i := 178) rfl)) (by decide +kernel)
theorem kw_52 : Cond.selects RX7 yX7_laySides yX7_laySides ∈ lw_good := lg_mem (tb0 (by decide +kernel)) (by decide +kernel)
theorem kw_53 : Cond.methodLink RX7 122 yX7_laySides ∈ lw_good := lg_mem (tb4 (List.mem_of_getElem? (i := 176) rfl)) (by decide +kernel)
theorem kw_54 : Cond.code yX7_sideChance cX7_sideChance 3 (some .int) ∈ lw_good := lg_mem (tb4 (List.mem_of_getElem? (i := 183) rfl)) (by decide +kernel)
theorem kw_55 : Cond.instanceMethod yX7_sideChance ∈ lw_good := lg_mem (tb4 (List.mem_of_getElem? (i := 182) rfl)) (by decide +kernel)
theorem kw_56 : Cond.selects RX7 yX7_sideChance yX7_sideChance ∈ lw_good := lg_mem (tb0 (by decide +kernel)) (by decide +kernel)
theorem kw_57 : Cond.methodLink RX7 126 yX7_sideChance ∈ lw_good := lg_mem (tb4 (List.mem_of_getElem? (i := 180) rfl)) (by decide +kernel)
theorem kw_58 : Cond.code yX7_writeBytes cX7_writeBytes 6 none ∈ lw_good := lg_mem (tb4 (List.mem_of_getElem? (i := 187) rfl)) (by decide +kernel)
theorem kw_59 : Cond.instanceMethod yX7_writeBytes ∈ lw_good := lg_mem (tb4 (List.mem_of_getElem? (i := 186) rfl)) (by decide +kernel)
theorem kw_60 : Cond.selects RX7 yX7_writeBytes yX7_writeBytes ∈ lw_good := lg_mem (tb0 (by decide +kernel)) (by decide +kernel)
theorem kw_61 : Cond.methodLink RX7 129 yX7_writeBytes ∈ lw_good := lg_mem (tb4 (List.mem_of_getElem? (i := 184) rfl)) (by decide +kernel)
theorem kw_62 : Cond.fieldLink RX7 45 "AnsTablesModel" "written" "[J" ∈ lw_good := lg_mem (tb3 (List.mem_of_getElem? (i := 232) rfl)) (by decide +kernel)
theorem kw_63 : Cond.fieldLink RX7 152 "AnsTablesModel" "writtenLanes" "I" ∈ lw_good := lg_mem (tb3 (List.mem_of_getElem? (i := 233) rfl)) (by decide +kernel)
theorem kw_64 : Cond.code yX7_putWide cX7_putWide 5 none ∈ lw_good := lg_mem (tb4 (List.mem_of_getElem? (i := 156) rfl)) (by decide +kernel)
theorem kw_65 : Cond.instanceMethod yX7_putWide ∈ lw_good := lg_mem (tb4 (List.mem_of_getElem? (i := 155) rfl)) (by decide +kernel)
theorem kw_66 : Cond.selects RX7 yX7_putWide yX7_putWide ∈ lw_good := lg_mem (tb0 (by decide +kernel)) (by decide +kernel)
theorem kw_67 : Cond.methodLink RX7 132 yX7_putWide ∈ lw_good := lg_mem (tb4 (List.mem_of_getElem? (i := 153) rfl)) (by decide +kernel)
theorem kw_68 : Cond.code yX7_writeTable cX7_writeTable 3 none ∈ lw_good := lg_mem (tb4 (List.mem_of_getElem? (i := 160) rfl)) (by decide +kernel)
theorem kw_69 : Cond.instanceMethod yX7_writeTable ∈ lw_good := lg_mem (tb4 (List.mem_of_getElem? (i := 159) rfl)) (by decide +kernel)
theorem kw_70 : Cond.selects RX7 yX7_writeTable yX7_writeTable ∈ lw_good := lg_mem (tb0 (by decide +kernel)) (by decide +kernel)
theorem kw_71 : Cond.methodLink RX7 136 yX7_writeTable ∈ lw_good := lg_mem (tb4 (List.mem_of_getElem? (i := 157) rfl)) (by decide +kernel)
theorem kw_72 : Cond.code yX7_writeBitsOf cX7_writeBitsOf 6 none ∈ lw_good := lg_mem (tb4 (List.mem_of_getElem? (i := 195) rfl)) (by decide +kernel)
theorem kw_73 : Cond.instanceMethod yX7_writeBitsOf ∈ lw_good := lg_mem (tb4 (List.mem_of_getElem? (i := 194) rfl)) (by decide +kernel)
theorem kw_74 : Cond.selects RX7 yX7_writeBitsOf yX7_writeBitsOf ∈ lw_good := lg_mem (tb0 (by decide +kernel)) (by decide +kernel)
theorem kw_75 : Cond.methodLink RX7 149 yX7_writeBitsOf ∈ lw_good := lg_mem (tb4 (List.mem_of_getElem? (i := 192) rfl)) (by decide +kernel)
theorem kw_76 : Cond.code yX7_writeWords cX7_writeWords 6 none ∈ lw_good := lg_mem (tb4 (List.mem_of_getElem? (i := 191) rfl)) (by decide +kernel)
theorem kw_77 : Cond.instanceMethod yX7_writeWords ∈ lw_good := lg_mem (tb4 (List.mem_of_getElem? (i := 190) rfl)) (by decide +kernel)
theorem kw_78 : Cond.selects RX7 yX7_writeWords yX7_writeWords ∈ lw_good := lg_mem (tb0 (by decide +kernel)) (by decide +kernel)
theorem kw_79 : Cond.methodLink RX7 146 yX7_writeWords ∈ lw_good := lg_mem (tb4 (List.mem_of_getElem? (i := 188) rfl)) (by decide +kernel)
theorem kw_80 : Cond.code yX7_writeSides cX7_writeSides 5 none ∈ lw_good := lg_mem (tb4 (List.mem_of_getElem? (i := 175) rfl)) (by decide +kernel)
theorem kw_81 : Cond.instanceMethod yX7_writeSides ∈ lw_good := lg_mem (tb4 (List.mem_of_getElem? (i := 174) rfl)) (by decide +kernel)
theorem kw_82 : Cond.selects RX7 yX7_writeSides yX7_writeSides ∈ lw_good := lg_mem (tb0 (by decide +kernel)) (by decide +kernel)
theorem kw_83 : Cond.methodLink RX7 143 yX7_writeSides ∈ lw_good := lg_mem (tb4 (List.mem_of_getElem? (i := 172) rfl)) (by decide +kernel)
theorem kw_84 : Cond.code yX7_firstState cX7_firstState 2 (some .long) ∈ lw_good := lg_mem (tb4 (List.mem_of_getElem? (i := 170) rfl)) (by decide +kernel)
theorem kw_85 : Cond.static yX7_firstState ∈ lw_good := lg_mem (tb4 (List.mem_of_getElem? (i := 169) rfl)) (by decide +kernel)
theorem kw_86 : Cond.methodLink RX7 139 yX7_firstState ∈ lw_good := lg_mem (tb4 (List.mem_of_getElem? (i := 168) rfl)) (by decide +kernel)
theorem kw_87 : Cond.code yX7_mayWrite cX7_mayWrite 3 (some .boolean) ∈ lw_good := lg_mem (tb4 (List.mem_of_getElem? (i := 144) rfl)) (by decide +kernel)
theorem kw_88 : Cond.instanceMethod yX7_mayWrite ∈ lw_good := lg_mem (tb4 (List.mem_of_getElem? (i := 143) rfl)) (by decide +kernel)
theorem kw_89 : Cond.selects RX7 yX7_mayWrite yX7_mayWrite ∈ lw_good := lg_mem (tb0 (by decide +kernel)) (by decide +kernel)
theorem kw_90 : Cond.methodLink RX7 155 yX7_mayWrite ∈ lw_good := lg_mem (tb4 (List.mem_of_getElem? (i := 141) rfl)) (by decide +kernel)
theorem kw_91 : Cond.code yX7_writeForm cX7_writeForm 5 none ∈ lw_good := lg_mem (tb4 (List.mem_of_getElem? (i := 148) rfl)) (by decide +kernel)
theorem kw_92 : Cond.instanceMethod yX7_writeForm ∈ lw_good := lg_mem (tb4 (List.mem_of_getElem? (i := 147) rfl)) (by decide +kernel)
theorem kw_93 : Cond.selects RX7 yX7_writeForm yX7_writeForm ∈ lw_good := lg_mem (tb0 (by decide +kernel)) (by decide +kernel)
theorem kw_94 : Cond.methodLink RX7 159 yX7_writeForm ∈ lw_good := lg_mem (tb4 (List.mem_of_getElem? (i := 145) rfl)) (by decide +kernel)
theorem kw_95 : Cond.fieldLink RX7 162 "AnsTablesModel" "broken" "I" ∈ lw_good := lg_mem (tb4 (List.mem_of_getElem? (i := 2) rfl)) (by decide +kernel)
theorem kw_96 : Cond.fieldLink RX7 165 "AnsTablesModel" "at" "I" ∈ lw_good := lg_mem (tb4 (List.mem_of_getElem? (i := 1) rfl)) (by decide +kernel)
theorem kw_97 : Cond.code yX7_fail cX7_fail 2 none ∈ lw_good := lg_mem (tb4 (List.mem_of_getElem? (i := 215) rfl)) (by decide +kernel)
theorem kw_98 : Cond.instanceMethod yX7_fail ∈ lw_good := lg_mem (tb4 (List.mem_of_getElem? (i := 214) rfl)) (by decide +kernel)
theorem kw_99 : Cond.selects RX7 yX7_fail yX7_fail ∈ lw_good := lg_mem (tb0 (by decide +kernel)) (by decide +kernel)
theorem kw_100 : Cond.methodLink RX7 168 yX7_fail ∈ lw_good := lg_mem (tb4 (List.mem_of_getElem? (i := 212) rfl)) (by decide +kernel)
theorem kw_101 : Cond.code yX7_next cX7_next 1 (some .int) ∈ lw_good := lg_mem (tb4 (List.mem_of_getElem? (i := 211) rfl)) (by decide +kernel)
theorem kw_102 : Cond.instanceMethod yX7_next ∈ lw_good := lg_mem (tb4 (List.mem_of_getElem? (i := 210) rfl)) (by decide +kernel)
theorem kw_103 : Cond.selects RX7 yX7_next yX7_next ∈ lw_good := lg_mem (tb0 (by decide +kernel)) (by decide +kernel)
theorem kw_104 : Cond.methodLink RX7 171 yX7_next ∈ lw_good := lg_mem (tb4 (List.mem_of_getElem? (i := 208) rfl)) (by decide +kernel)
theorem kw_105 : Cond.fieldLink RX7 174 "AnsTablesModel" "bitLeft" "I" ∈ lw_good := lg_mem (tb4 (List.mem_of_getElem? (i := 4) rfl)) (by decide +kernel)
theorem kw_106 : Cond.code yX7_nextBit cX7_nextBit 2 (some .int) ∈ lw_good := lg_mem (tb4 (List.mem_of_getElem? (i := 227) rfl)) (by decide +kernel)
theorem kw_107 : Cond.instanceMethod yX7_nextBit ∈ lw_good := lg_mem (tb4 (List.mem_of_getElem? (i := 226) rfl)) (by decide +kernel)
theorem kw_108 : Cond.selects RX7 yX7_nextBit yX7_nextBit ∈ lw_good := lg_mem (tb0 (by decide +kernel)) (by decide +kernel)
theorem kw_109 : Cond.methodLink RX7 177 yX7_nextBit ∈ lw_good := lg_mem (tb4 (List.mem_of_getElem? (i := 224) rfl)) (by decide +kernel)
theorem kw_110 : Cond.fieldLink RX7 180 "AnsTablesModel" "readForm" "I" ∈ lw_good := lg_mem (tb4 (List.mem_of_getElem? (i := 5) rfl)) (by decide +kernel)
theorem kw_111 : Cond.fieldLink RX7 56 "AnsTablesModel" "now" "[J" ∈ lw_good := lg_mem (tb4 (List.mem_of_getElem? (i := 8) rfl)) (by decide +kernel)
theorem kw_112 : Cond.code yX7_nextWide cX7_nextWide 5 (some .long) ∈ lw_good := lg_mem (tb4 (List.mem_of_getElem? (i := 219) rfl)) (by decide +kernel)
theorem kw_113 : Cond.instanceMethod yX7_nextWide ∈ lw_good := lg_mem (tb4 (List.mem_of_getElem? (i := 218) rfl)) (by decide +kernel)
theorem kw_114 : Cond.selects RX7 yX7_nextWide yX7_nextWide ∈ lw_good := lg_mem (tb0 (by decide +kernel)) (by decide +kernel)
theorem kw_115 : Cond.methodLink RX7 198 yX7_nextWide ∈ lw_good := lg_mem (tb4 (List.mem_of_getElem? (i := 216) rfl)) (by decide +kernel)
theorem kw_116 : Cond.code yX7_readBytes cX7_readBytes 7 none ∈ lw_good := lg_mem (tb5 (List.mem_of_getElem? (i := 3) rfl)) (by decide +kernel)
theorem kw_117 : Cond.instanceMethod yX7_readBytes ∈ lw_good := lg_mem (tb5 (List.mem_of_getElem? (i := 2) rfl)) (by decide +kernel)
theorem kw_118 : Cond.selects RX7 yX7_readBytes yX7_readBytes ∈ lw_good := lg_mem (tb0 (by decide +kernel)) (by decide +kernel)
theorem kw_119 : Cond.methodLink RX7 189 yX7_readBytes ∈ lw_good := lg_mem (tb5 (List.mem_of_getElem? (i := 0) rfl)) (by decide +kernel)
theorem kw_120 : Cond.fieldLink RX7 53 "AnsTablesModel" "read" "[I" ∈ lw_good := lg_mem (tb3 (List.mem_of_getElem? (i := 239) rfl)) (by decide +kernel)
theorem kw_121 : Cond.fieldLink RX7 195 "AnsTablesModel" "readSize" "I" ∈ lw_good := lg_mem (tb4 (List.mem_of_getElem? (i := 0) rfl)) (by decide +kernel)
theorem kw_122 : Cond.code yX7_signOf cX7_signOf 3 (some .int) ∈ lw_good := lg_mem (tb5 (List.mem_of_getElem? (i := 7) rfl)) (by decide +kernel)
theorem kw_123 : Cond.instanceMethod yX7_signOf ∈ lw_good := lg_mem (tb5 (List.mem_of_getElem? (i := 6) rfl)) (by decide +kernel)
theorem kw_124 : Cond.selects RX7 yX7_signOf yX7_signOf ∈ lw_good := lg_mem (tb0 (by decide +kernel)) (by decide +kernel)
theorem kw_125 : Cond.methodLink RX7 186 yX7_signOf ∈ lw_good := lg_mem (tb5 (List.mem_of_getElem? (i := 4) rfl)) (by decide +kernel)
theorem kw_126 : Cond.code yX7_readWords cX7_readWords 7 none ∈ lw_good := lg_mem (tb5 (List.mem_of_getElem? (i := 11) rfl)) (by decide +kernel)
theorem kw_127 : Cond.instanceMethod yX7_readWords ∈ lw_good := lg_mem (tb5 (List.mem_of_getElem? (i := 10) rfl)) (by decide +kernel)
theorem kw_128 : Cond.selects RX7 yX7_readWords yX7_readWords ∈ lw_good := lg_mem (tb0 (by decide +kernel)) (by decide +kernel)
theorem kw_129 : Cond.methodLink RX7 192 yX7_readWords ∈ lw_good := lg_mem (tb5 (List.mem_of_getElem? (i := 8) rfl)) (by decide +kernel)
theorem kw_130 : Cond.code yX7_readSides cX7_readSides 7 (some .int) ∈ lw_good := lg_mem (tb4 (List.mem_of_getElem? (i := 239) rfl)) (by decide +kernel)
theorem kw_131 : Cond.instanceMethod yX7_readSides ∈ lw_good := lg_mem (tb4 (List.mem_of_getElem? (i := 238) rfl)) (by decide +kernel)
theorem kw_132 : Cond.selects RX7 yX7_readSides yX7_readSides ∈ lw_good := lg_mem (tb0 (by decide +kernel)) (by decide +kernel)
theorem kw_133 : Cond.methodLink RX7 183 yX7_readSides ∈ lw_good := lg_mem (tb4 (List.mem_of_getElem? (i := 236) rfl)) (by decide +kernel)
theorem kw_134 : Cond.fieldLink RX7 201 "AnsTablesModel" "readLanes" "I" ∈ lw_good := lg_mem (tb4 (List.mem_of_getElem? (i := 6) rfl)) (by decide +kernel)
theorem kw_135 : Cond.fieldLink RX7 204 "AnsTablesModel" "hasStates" "Z" ∈ lw_good := lg_mem (tb4 (List.mem_of_getElem? (i := 7) rfl)) (by decide +kernel)
theorem kw_136 : Cond.code yX7_readHead cX7_readHead 3 (some .int) ∈ lw_good := lg_mem (tb4 (List.mem_of_getElem? (i := 207) rfl)) (by decide +kernel)
theorem kw_137 : Cond.instanceMethod yX7_readHead ∈ lw_good := lg_mem (tb4 (List.mem_of_getElem? (i := 206) rfl)) (by decide +kernel)
theorem kw_138 : Cond.selects RX7 yX7_readHead yX7_readHead ∈ lw_good := lg_mem (tb0 (by decide +kernel)) (by decide +kernel)
theorem kw_139 : Cond.methodLink RX7 207 yX7_readHead ∈ lw_good := lg_mem (tb4 (List.mem_of_getElem? (i := 204) rfl)) (by decide +kernel)
theorem kw_140 : Cond.code yX7_readSign cX7_readSign 8 none ∈ lw_good := lg_mem (tb4 (List.mem_of_getElem? (i := 235) rfl)) (by decide +kernel)
theorem kw_141 : Cond.instanceMethod yX7_readSign ∈ lw_good := lg_mem (tb4 (List.mem_of_getElem? (i := 234) rfl)) (by decide +kernel)
theorem kw_142 : Cond.selects RX7 yX7_readSign yX7_readSign ∈ lw_good := lg_mem (tb0 (by decide +kernel)) (by decide +kernel)
theorem kw_143 : Cond.methodLink RX7 217 yX7_readSign ∈ lw_good := lg_mem (tb4 (List.mem_of_getElem? (i := 232) rfl)) (by decide +kernel)
theorem kw_144 : Cond.code yX7_isInSpan cX7_isInSpan 3 (some .boolean) ∈ lw_good := lg_mem (tb4 (List.mem_of_getElem? (i := 231) rfl)) (by decide +kernel)
theorem kw_145 : Cond.instanceMethod yX7_isInSpan ∈ lw_good := lg_mem (tb4 (List.mem_of_getElem? (i := 230) rfl)) (by decide +kernel)
theorem kw_146 : Cond.selects RX7 yX7_isInSpan yX7_isInSpan ∈ lw_good := lg_mem (tb0 (by decide +kernel)) (by decide +kernel)
theorem kw_147 : Cond.methodLink RX7 213 yX7_isInSpan ∈ lw_good := lg_mem (tb4 (List.mem_of_getElem? (i := 228) rfl)) (by decide +kernel)
theorem kw_148 : Cond.code yX7_readTable cX7_readTable 5 none ∈ lw_good := lg_mem (tb4 (List.mem_of_getElem? (i := 223) rfl)) (by decide +kernel)
theorem kw_149 : Cond.instanceMethod yX7_readTable ∈ lw_good := lg_mem (tb4 (List.mem_of_getElem? (i := 222) rfl)) (by decide +kernel)
theorem kw_150 : Cond.selects RX7 yX7_readTable yX7_readTable ∈ lw_good := lg_mem (tb0 (by decide +kernel)) (by decide +kernel)
theorem kw_151 : Cond.methodLink RX7 210 yX7_readTable ∈ lw_good := lg_mem (tb4 (List.mem_of_getElem? (i := 220) rfl)) (by decide +kernel)
theorem kw_152 : Cond.fieldLink RX7 223 "AnsTablesModel" "rule" "I" ∈ lw_good := lg_mem (tb4 (List.mem_of_getElem? (i := 3) rfl)) (by decide +kernel)
theorem kw_153 : Cond.code yX7_readAll cX7_readAll 3 none ∈ lw_good := lg_mem (tb4 (List.mem_of_getElem? (i := 203) rfl)) (by decide +kernel)
theorem kw_154 : Cond.instanceMethod yX7_readAll ∈ lw_good := lg_mem (tb4 (List.mem_of_getElem? (i := 202) rfl)) (by decide +kernel)
theorem kw_155 : Cond.selects RX7 yX7_readAll yX7_readAll ∈ lw_good := lg_mem (tb0 (by decide +kernel)) (by decide +kernel)
theorem kw_156 : Cond.methodLink RX7 220 yX7_readAll ∈ lw_good := lg_mem (tb4 (List.mem_of_getElem? (i := 200) rfl)) (by decide +kernel)
theorem nd_X7_bitsOf : yX7_bitsOf.cls ≠ "java/lang/invoke/MethodHandle" ∧ yX7_bitsOf.cls ≠ "java/lang/invoke/VarHandle" ∧ (parseMethodDescriptor yX7_bitsOf.desc).map (fun d => d.parameters.length) = some 1 := by decide +kernel
theorem nd_X7_fail : yX7_fail.cls ≠ "java/lang/invoke/MethodHandle" ∧ yX7_fail.cls ≠ "java/lang/invoke/VarHandle" ∧ (parseMethodDescriptor yX7_fail.desc).map (fun d => d.parameters.length) = some 1 := by decide +kernel
theorem nd_X7_firstState : yX7_firstState.cls ≠ "java/lang/invoke/MethodHandle" ∧ yX7_firstState.cls ≠ "java/lang/invoke/VarHandle" ∧ (parseMethodDescriptor yX7_firstState.desc).map (fun d => d.parameters.length) = some 2 := by decide +kernel
theorem nd_X7_isInSpan : yX7_isInSpan.cls ≠ "java/lang/invoke/MethodHandle" ∧ yX7_isInSpan.cls ≠ "java/lang/invoke/VarHandle" ∧ (parseMethodDescriptor yX7_isInSpan.desc).map (fun d => d.parameters.length) = some 1 := by decide +kernel
theorem nd_X7_lay : yX7_lay.cls ≠ "java/lang/invoke/MethodHandle" ∧ yX7_lay.cls ≠ "java/lang/invoke/VarHandle" ∧ (parseMethodDescriptor yX7_lay.desc).map (fun d => d.parameters.length) = some 1 := by decide +kernel
theorem nd_X7_laySides : yX7_laySides.cls ≠ "java/lang/invoke/MethodHandle" ∧ yX7_laySides.cls ≠ "java/lang/invoke/VarHandle" ∧ (parseMethodDescriptor yX7_laySides.desc).map (fun d => d.parameters.length) = some 3 := by decide +kernel
theorem nd_X7_logarithm : yX7_logarithm.cls ≠ "java/lang/invoke/MethodHandle" ∧ yX7_logarithm.cls ≠ "java/lang/invoke/VarHandle" ∧ (parseMethodDescriptor yX7_logarithm.desc).map (fun d => d.parameters.length) = some 1 := by decide +kernel
theorem nd_X7_mayWrite : yX7_mayWrite.cls ≠ "java/lang/invoke/MethodHandle" ∧ yX7_mayWrite.cls ≠ "java/lang/invoke/VarHandle" ∧ (parseMethodDescriptor yX7_mayWrite.desc).map (fun d => d.parameters.length) = some 0 := by decide +kernel
theorem nd_X7_next : yX7_next.cls ≠ "java/lang/invoke/MethodHandle" ∧ yX7_next.cls ≠ "java/lang/invoke/VarHandle" ∧ (parseMethodDescriptor yX7_next.desc).map (fun d => d.parameters.length) = some 0 := by decide +kernel
theorem nd_X7_nextBit : yX7_nextBit.cls ≠ "java/lang/invoke/MethodHandle" ∧ yX7_nextBit.cls ≠ "java/lang/invoke/VarHandle" ∧ (parseMethodDescriptor yX7_nextBit.desc).map (fun d => d.parameters.length) = some 0 := by decide +kernel
theorem nd_X7_nextWide : yX7_nextWide.cls ≠ "java/lang/invoke/MethodHandle" ∧ yX7_nextWide.cls ≠ "java/lang/invoke/VarHandle" ∧ (parseMethodDescriptor yX7_nextWide.desc).map (fun d => d.parameters.length) = some 1 := by decide +kernel
theorem nd_X7_putBits : yX7_putBits.cls ≠ "java/lang/invoke/MethodHandle" ∧ yX7_putBits.cls ≠ "java/lang/invoke/VarHandle" ∧ (parseMethodDescriptor yX7_putBits.desc).map (fun d => d.parameters.length) = some 2 := by decide +kernel
theorem nd_X7_putByte : yX7_putByte.cls ≠ "java/lang/invoke/MethodHandle" ∧ yX7_putByte.cls ≠ "java/lang/invoke/VarHandle" ∧ (parseMethodDescriptor yX7_putByte.desc).map (fun d => d.parameters.length) = some 1 := by decide +kernel
theorem nd_X7_putWide : yX7_putWide.cls ≠ "java/lang/invoke/MethodHandle" ∧ yX7_putWide.cls ≠ "java/lang/invoke/VarHandle" ∧ (parseMethodDescriptor yX7_putWide.desc).map (fun d => d.parameters.length) = some 2 := by decide +kernel
theorem nd_X7_readAll : yX7_readAll.cls ≠ "java/lang/invoke/MethodHandle" ∧ yX7_readAll.cls ≠ "java/lang/invoke/VarHandle" ∧ (parseMethodDescriptor yX7_readAll.desc).map (fun d => d.parameters.length) = some 0 := by decide +kernel
theorem nd_X7_readBytes : yX7_readBytes.cls ≠ "java/lang/invoke/MethodHandle" ∧ yX7_readBytes.cls ≠ "java/lang/invoke/VarHandle" ∧ (parseMethodDescriptor yX7_readBytes.desc).map (fun d => d.parameters.length) = some 3 := by decide +kernel
theorem nd_X7_readHead : yX7_readHead.cls ≠ "java/lang/invoke/MethodHandle" ∧ yX7_readHead.cls ≠ "java/lang/invoke/VarHandle" ∧ (parseMethodDescriptor yX7_readHead.desc).map (fun d => d.parameters.length) = some 0 := by decide +kernel
theorem nd_X7_readSides : yX7_readSides.cls ≠ "java/lang/invoke/MethodHandle" ∧ yX7_readSides.cls ≠ "java/lang/invoke/VarHandle" ∧ (parseMethodDescriptor yX7_readSides.desc).map (fun d => d.parameters.length) = some 1 := by decide +kernel
theorem nd_X7_readSign : yX7_readSign.cls ≠ "java/lang/invoke/MethodHandle" ∧ yX7_readSign.cls ≠ "java/lang/invoke/VarHandle" ∧ (parseMethodDescriptor yX7_readSign.desc).map (fun d => d.parameters.length) = some 1 := by decide +kernel
theorem nd_X7_readTable : yX7_readTable.cls ≠ "java/lang/invoke/MethodHandle" ∧ yX7_readTable.cls ≠ "java/lang/invoke/VarHandle" ∧ (parseMethodDescriptor yX7_readTable.desc).map (fun d => d.parameters.length) = some 0 := by decide +kernel
theorem nd_X7_readWords : yX7_readWords.cls ≠ "java/lang/invoke/MethodHandle" ∧ yX7_readWords.cls ≠ "java/lang/invoke/VarHandle" ∧ (parseMethodDescriptor yX7_readWords.desc).map (fun d => d.parameters.length) = some 3 := by decide +kernel
theorem nd_X7_sideChance : yX7_sideChance.cls ≠ "java/lang/invoke/MethodHandle" ∧ yX7_sideChance.cls ≠ "java/lang/invoke/VarHandle" ∧ (parseMethodDescriptor yX7_sideChance.desc).map (fun d => d.parameters.length) = some 1 := by decide +kernel
theorem nd_X7_signOf : yX7_signOf.cls ≠ "java/lang/invoke/MethodHandle" ∧ yX7_signOf.cls ≠ "java/lang/invoke/VarHandle" ∧ (parseMethodDescriptor yX7_signOf.desc).map (fun d => d.parameters.length) = some 1 := by decide +kernel
theorem nd_X7_signsCounted : yX7_signsCounted.cls ≠ "java/lang/invoke/MethodHandle" ∧ yX7_signsCounted.cls ≠ "java/lang/invoke/VarHandle" ∧ (parseMethodDescriptor yX7_signsCounted.desc).map (fun d => d.parameters.length) = some 0 := by decide +kernel
theorem nd_X7_writeBitsOf : yX7_writeBitsOf.cls ≠ "java/lang/invoke/MethodHandle" ∧ yX7_writeBitsOf.cls ≠ "java/lang/invoke/VarHandle" ∧ (parseMethodDescriptor yX7_writeBitsOf.desc).map (fun d => d.parameters.length) = some 3 := by decide +kernel
theorem nd_X7_writeBytes : yX7_writeBytes.cls ≠ "java/lang/invoke/MethodHandle" ∧ yX7_writeBytes.cls ≠ "java/lang/invoke/VarHandle" ∧ (parseMethodDescriptor yX7_writeBytes.desc).map (fun d => d.parameters.length) = some 3 := by decide +kernel
theorem nd_X7_writeForm : yX7_writeForm.cls ≠ "java/lang/invoke/MethodHandle" ∧ yX7_writeForm.cls ≠ "java/lang/invoke/VarHandle" ∧ (parseMethodDescriptor yX7_writeForm.desc).map (fun d => d.parameters.length) = some 1 := by decide +kernel
theorem nd_X7_writeSides : yX7_writeSides.cls ≠ "java/lang/invoke/MethodHandle" ∧ yX7_writeSides.cls ≠ "java/lang/invoke/VarHandle" ∧ (parseMethodDescriptor yX7_writeSides.desc).map (fun d => d.parameters.length) = some 2 := by decide +kernel
theorem nd_X7_writeTable : yX7_writeTable.cls ≠ "java/lang/invoke/MethodHandle" ∧ yX7_writeTable.cls ≠ "java/lang/invoke/VarHandle" ∧ (parseMethodDescriptor yX7_writeTable.desc).map (fun d => d.parameters.length) = some 0 := by decide +kernel
theorem nd_X7_writeWords : yX7_writeWords.cls ≠ "java/lang/invoke/MethodHandle" ∧ yX7_writeWords.cls ≠ "java/lang/invoke/VarHandle" ∧ (parseMethodDescriptor yX7_writeWords.desc).map (fun d => d.parameters.length) = some 3 := by decide +kernel
end
section
theorem dX7_add_0 : decode cX7_add 0 = .ok (.aload_n 0, 1) := by decide +kernel
theorem dX7_add_1 : decode cX7_add 1 = .ok (.iconst 0, 1) := by decide +kernel
theorem dX7_add_2 : decode cX7_add 2 = .ok (.putfield 62, 3) := by decide +kernel
theorem dX7_add_5 : decode cX7_add 5 = .ok (.iload_n 1, 1) := by decide +kernel
theorem dX7_add_6 : decode cX7_add 6 = .ok (.ifCond .lt 9, 3) := by decide +kernel
theorem dX7_add_9 : decode cX7_add 9 = .ok (.iload_n 1, 1) := by decide +kernel
theorem dX7_add_10 : decode cX7_add 10 = .ok (.bipush 32, 2) := by decide +kernel
theorem dX7_add_12 : decode cX7_add 12 = .ok (.if_icmp .lt 5, 3) := by decide +kernel
theorem dX7_add_15 : decode cX7_add 15 = .ok (.iconst (-1), 1) := by decide +kernel
theorem dX7_add_16 : decode cX7_add 16 = .ok (.ireturn, 1) := by decide +kernel
theorem dX7_add_17 : decode cX7_add 17 = .ok (.aload_n 0, 1) := by decide +kernel
theorem dX7_add_18 : decode cX7_add 18 = .ok (.getfield 65, 3) := by decide +kernel
theorem dX7_add_21 : decode cX7_add 21 = .ok (.sipush 1000, 3) := by decide +kernel
theorem dX7_add_24 : decode cX7_add 24 = .ok (.if_icmp .ne 6, 3) := by decide +kernel
theorem dX7_add_27 : decode cX7_add 27 = .ok (.bipush (-3), 2) := by decide +kernel
theorem dX7_add_29 : decode cX7_add 29 = .ok (.ireturn, 1) := by decide +kernel
theorem dX7_add_30 : decode cX7_add 30 = .ok (.aload_n 0, 1) := by decide +kernel
theorem dX7_add_31 : decode cX7_add 31 = .ok (.getfield 13, 3) := by decide +kernel
theorem dX7_add_34 : decode cX7_add 34 = .ok (.aload_n 0, 1) := by decide +kernel
theorem dX7_add_35 : decode cX7_add 35 = .ok (.getfield 65, 3) := by decide +kernel
theorem dX7_add_38 : decode cX7_add 38 = .ok (.iload_n 1, 1) := by decide +kernel
theorem dX7_add_39 : decode cX7_add 39 = .ok (.iastore, 1) := by decide +kernel
theorem dX7_add_40 : decode cX7_add 40 = .ok (.aload_n 0, 1) := by decide +kernel
theorem dX7_add_41 : decode cX7_add 41 = .ok (.dup, 1) := by decide +kernel
theorem dX7_add_42 : decode cX7_add 42 = .ok (.getfield 65, 3) := by decide +kernel
theorem dX7_add_45 : decode cX7_add 45 = .ok (.iconst 1, 1) := by decide +kernel
theorem dX7_add_46 : decode cX7_add 46 = .ok (.iadd, 1) := by decide +kernel
theorem dX7_add_47 : decode cX7_add 47 = .ok (.putfield 65, 3) := by decide +kernel
theorem dX7_add_50 : decode cX7_add 50 = .ok (.aload_n 0, 1) := by decide +kernel
theorem dX7_add_51 : decode cX7_add 51 = .ok (.getfield 65, 3) := by decide +kernel
theorem dX7_add_54 : decode cX7_add 54 = .ok (.ireturn, 1) := by decide +kernel
theorem dX7_clear_0 : decode cX7_clear 0 = .ok (.aload_n 0, 1) := by decide +kernel
theorem dX7_clear_1 : decode cX7_clear 1 = .ok (.iconst 0, 1) := by decide +kernel
theorem dX7_clear_2 : decode cX7_clear 2 = .ok (.putfield 62, 3) := by decide +kernel
theorem dX7_clear_5 : decode cX7_clear 5 = .ok (.aload_n 0, 1) := by decide +kernel
theorem dX7_clear_6 : decode cX7_clear 6 = .ok (.getfield 65, 3) := by decide +kernel
theorem dX7_clear_9 : decode cX7_clear 9 = .ok (.istore_n 1, 1) := by decide +kernel
theorem dX7_clear_10 : decode cX7_clear 10 = .ok (.aload_n 0, 1) := by decide +kernel
theorem dX7_clear_11 : decode cX7_clear 11 = .ok (.iconst 0, 1) := by decide +kernel
theorem dX7_clear_12 : decode cX7_clear 12 = .ok (.putfield 65, 3) := by decide +kernel
theorem dX7_clear_15 : decode cX7_clear 15 = .ok (.iload_n 1, 1) := by decide +kernel
theorem dX7_clear_16 : decode cX7_clear 16 = .ok (.ireturn, 1) := by decide +kernel
theorem dX7_count_0 : decode cX7_count 0 = .ok (.aload_n 0, 1) := by decide +kernel
theorem dX7_count_1 : decode cX7_count 1 = .ok (.iconst 0, 1) := by decide +kernel
theorem dX7_count_2 : decode cX7_count 2 = .ok (.putfield 62, 3) := by decide +kernel
theorem dX7_count_5 : decode cX7_count 5 = .ok (.iload_n 1, 1) := by decide +kernel
theorem dX7_count_6 : decode cX7_count 6 = .ok (.ifCond .lt 19, 3) := by decide +kernel
theorem dX7_count_9 : decode cX7_count 9 = .ok (.iload_n 1, 1) := by decide +kernel
theorem dX7_count_10 : decode cX7_count 10 = .ok (.bipush 32, 2) := by decide +kernel
theorem dX7_count_12 : decode cX7_count 12 = .ok (.if_icmp .ge 13, 3) := by decide +kernel
theorem dX7_count_15 : decode cX7_count 15 = .ok (.iload_n 2, 1) := by decide +kernel
theorem dX7_count_16 : decode cX7_count 16 = .ok (.ifCond .lt 9, 3) := by decide +kernel
theorem dX7_count_19 : decode cX7_count 19 = .ok (.iload_n 2, 1) := by decide +kernel
theorem dX7_count_20 : decode cX7_count 20 = .ok (.ldc 68, 2) := by decide +kernel
theorem dX7_count_22 : decode cX7_count 22 = .ok (.if_icmp .le 5, 3) := by decide +kernel
theorem dX7_count_25 : decode cX7_count 25 = .ok (.iconst (-1), 1) := by decide +kernel
theorem dX7_count_26 : decode cX7_count 26 = .ok (.ireturn, 1) := by decide +kernel
theorem dX7_count_27 : decode cX7_count 27 = .ok (.aload_n 0, 1) := by decide +kernel
theorem dX7_count_28 : decode cX7_count 28 = .ok (.getfield 17, 3) := by decide +kernel
theorem dX7_count_31 : decode cX7_count 31 = .ok (.iload_n 1, 1) := by decide +kernel
theorem dX7_count_32 : decode cX7_count 32 = .ok (.iaload, 1) := by decide +kernel
theorem dX7_count_33 : decode cX7_count 33 = .ok (.istore_n 3, 1) := by decide +kernel
theorem dX7_count_34 : decode cX7_count 34 = .ok (.aload_n 0, 1) := by decide +kernel
theorem dX7_count_35 : decode cX7_count 35 = .ok (.getfield 17, 3) := by decide +kernel
theorem dX7_count_38 : decode cX7_count 38 = .ok (.iload_n 1, 1) := by decide +kernel
theorem dX7_count_39 : decode cX7_count 39 = .ok (.iload_n 2, 1) := by decide +kernel
theorem dX7_count_40 : decode cX7_count 40 = .ok (.iastore, 1) := by decide +kernel
theorem dX7_count_41 : decode cX7_count 41 = .ok (.aload_n 0, 1) := by decide +kernel
theorem dX7_count_42 : decode cX7_count 42 = .ok (.iconst 0, 1) := by decide +kernel
theorem dX7_count_43 : decode cX7_count 43 = .ok (.putfield 69, 3) := by decide +kernel
theorem dX7_count_46 : decode cX7_count 46 = .ok (.iload_n 3, 1) := by decide +kernel
theorem dX7_count_47 : decode cX7_count 47 = .ok (.ireturn, 1) := by decide +kernel
theorem dX7_signsCounted_0 : decode cX7_signsCounted 0 = .ok (.iconst 0, 1) := by decide +kernel
theorem dX7_signsCounted_1 : decode cX7_signsCounted 1 = .ok (.istore_n 1, 1) := by decide +kernel
theorem dX7_signsCounted_2 : decode cX7_signsCounted 2 = .ok (.iconst 0, 1) := by decide +kernel
theorem dX7_signsCounted_3 : decode cX7_signsCounted 3 = .ok (.istore_n 2, 1) := by decide +kernel
theorem dX7_signsCounted_4 : decode cX7_signsCounted 4 = .ok (.iload_n 2, 1) := by decide +kernel
theorem dX7_signsCounted_5 : decode cX7_signsCounted 5 = .ok (.bipush 32, 2) := by decide +kernel
theorem dX7_signsCounted_7 : decode cX7_signsCounted 7 = .ok (.if_icmp .ge 26, 3) := by decide +kernel
theorem dX7_signsCounted_10 : decode cX7_signsCounted 10 = .ok (.iload_n 1, 1) := by decide +kernel
theorem dX7_signsCounted_11 : decode cX7_signsCounted 11 = .ok (.aload_n 0, 1) := by decide +kernel
theorem dX7_signsCounted_12 : decode cX7_signsCounted 12 = .ok (.getfield 17, 3) := by decide +kernel
theorem dX7_signsCounted_15 : decode cX7_signsCounted 15 = .ok (.iload_n 2, 1) := by decide +kernel
theorem dX7_signsCounted_16 : decode cX7_signsCounted 16 = .ok (.iaload, 1) := by decide +kernel
theorem dX7_signsCounted_17 : decode cX7_signsCounted 17 = .ok (.ifCond .le 7, 3) := by decide +kernel
theorem dX7_signsCounted_20 : decode cX7_signsCounted 20 = .ok (.iconst 1, 1) := by decide +kernel
theorem dX7_signsCounted_21 : decode cX7_signsCounted 21 = .ok (.goto 4, 3) := by decide +kernel
theorem dX7_signsCounted_24 : decode cX7_signsCounted 24 = .ok (.iconst 0, 1) := by decide +kernel
theorem dX7_signsCounted_25 : decode cX7_signsCounted 25 = .ok (.iadd, 1) := by decide +kernel
theorem dX7_signsCounted_26 : decode cX7_signsCounted 26 = .ok (.istore_n 1, 1) := by decide +kernel
theorem dX7_signsCounted_27 : decode cX7_signsCounted 27 = .ok (.iinc 2 1, 3) := by decide +kernel
theorem dX7_signsCounted_30 : decode cX7_signsCounted 30 = .ok (.goto (-26), 3) := by decide +kernel
theorem dX7_signsCounted_33 : decode cX7_signsCounted 33 = .ok (.iload_n 1, 1) := by decide +kernel
theorem dX7_signsCounted_34 : decode cX7_signsCounted 34 = .ok (.ireturn, 1) := by decide +kernel
theorem dX7_counts_0 : decode cX7_counts 0 = .ok (.aload_n 0, 1) := by decide +kernel
theorem dX7_counts_1 : decode cX7_counts 1 = .ok (.iconst 0, 1) := by decide +kernel
theorem dX7_counts_2 : decode cX7_counts 2 = .ok (.putfield 62, 3) := by decide +kernel
theorem dX7_counts_5 : decode cX7_counts 5 = .ok (.iconst 0, 1) := by decide +kernel
theorem dX7_counts_6 : decode cX7_counts 6 = .ok (.istore_n 1, 1) := by decide +kernel
theorem dX7_counts_7 : decode cX7_counts 7 = .ok (.iload_n 1, 1) := by decide +kernel
theorem dX7_counts_8 : decode cX7_counts 8 = .ok (.bipush 32, 2) := by decide +kernel
theorem dX7_counts_10 : decode cX7_counts 10 = .ok (.if_icmp .ge 16, 3) := by decide +kernel
theorem dX7_counts_13 : decode cX7_counts 13 = .ok (.aload_n 0, 1) := by decide +kernel
theorem dX7_counts_14 : decode cX7_counts 14 = .ok (.getfield 17, 3) := by decide +kernel
theorem dX7_counts_17 : decode cX7_counts 17 = .ok (.iload_n 1, 1) := by decide +kernel
theorem dX7_counts_18 : decode cX7_counts 18 = .ok (.iconst 0, 1) := by decide +kernel
theorem dX7_counts_19 : decode cX7_counts 19 = .ok (.iastore, 1) := by decide +kernel
theorem dX7_counts_20 : decode cX7_counts 20 = .ok (.iinc 1 1, 3) := by decide +kernel
theorem dX7_counts_23 : decode cX7_counts 23 = .ok (.goto (-16), 3) := by decide +kernel
theorem dX7_counts_26 : decode cX7_counts 26 = .ok (.iconst 0, 1) := by decide +kernel
theorem dX7_counts_27 : decode cX7_counts 27 = .ok (.istore_n 1, 1) := by decide +kernel
theorem dX7_counts_28 : decode cX7_counts 28 = .ok (.iload_n 1, 1) := by decide +kernel
theorem dX7_counts_29 : decode cX7_counts 29 = .ok (.aload_n 0, 1) := by decide +kernel
theorem dX7_counts_30 : decode cX7_counts 30 = .ok (.getfield 65, 3) := by decide +kernel
theorem dX7_counts_33 : decode cX7_counts 33 = .ok (.if_icmp .ge 24, 3) := by decide +kernel
theorem dX7_counts_36 : decode cX7_counts 36 = .ok (.aload_n 0, 1) := by decide +kernel
theorem dX7_counts_37 : decode cX7_counts 37 = .ok (.getfield 17, 3) := by decide +kernel
theorem dX7_counts_40 : decode cX7_counts 40 = .ok (.aload_n 0, 1) := by decide +kernel
theorem dX7_counts_41 : decode cX7_counts 41 = .ok (.getfield 13, 3) := by decide +kernel
theorem dX7_counts_44 : decode cX7_counts 44 = .ok (.iload_n 1, 1) := by decide +kernel
theorem dX7_counts_45 : decode cX7_counts 45 = .ok (.iaload, 1) := by decide +kernel
theorem dX7_counts_46 : decode cX7_counts 46 = .ok (.dup2, 1) := by decide +kernel
theorem dX7_counts_47 : decode cX7_counts 47 = .ok (.iaload, 1) := by decide +kernel
theorem dX7_counts_48 : decode cX7_counts 48 = .ok (.iconst 1, 1) := by decide +kernel
theorem dX7_counts_49 : decode cX7_counts 49 = .ok (.iadd, 1) := by decide +kernel
theorem dX7_counts_50 : decode cX7_counts 50 = .ok (.iastore, 1) := by decide +kernel
theorem dX7_counts_51 : decode cX7_counts 51 = .ok (.iinc 1 1, 3) := by decide +kernel
theorem dX7_counts_54 : decode cX7_counts 54 = .ok (.goto (-26), 3) := by decide +kernel
theorem dX7_counts_57 : decode cX7_counts 57 = .ok (.aload_n 0, 1) := by decide +kernel
theorem dX7_counts_58 : decode cX7_counts 58 = .ok (.iconst 0, 1) := by decide +kernel
theorem dX7_counts_59 : decode cX7_counts 59 = .ok (.putfield 69, 3) := by decide +kernel
theorem dX7_counts_62 : decode cX7_counts 62 = .ok (.aload_n 0, 1) := by decide +kernel
theorem dX7_counts_63 : decode cX7_counts 63 = .ok (.invokevirtual 73, 3) := by decide +kernel
theorem dX7_counts_66 : decode cX7_counts 66 = .ok (.ireturn, 1) := by decide +kernel
theorem dX7_logarithm_0 : decode cX7_logarithm 0 = .ok (.iconst 0, 1) := by decide +kernel
theorem dX7_logarithm_1 : decode cX7_logarithm 1 = .ok (.istore_n 1, 1) := by decide +kernel
theorem dX7_logarithm_2 : decode cX7_logarithm 2 = .ok (.iload_n 0, 1) := by decide +kernel
theorem dX7_logarithm_3 : decode cX7_logarithm 3 = .ok (.iload_n 1, 1) := by decide +kernel
theorem dX7_logarithm_4 : decode cX7_logarithm 4 = .ok (.ishr, 1) := by decide +kernel
theorem dX7_logarithm_5 : decode cX7_logarithm 5 = .ok (.iconst 1, 1) := by decide +kernel
theorem dX7_logarithm_6 : decode cX7_logarithm 6 = .ok (.if_icmp .le 9, 3) := by decide +kernel
theorem dX7_logarithm_9 : decode cX7_logarithm 9 = .ok (.iinc 1 1, 3) := by decide +kernel
theorem dX7_logarithm_12 : decode cX7_logarithm 12 = .ok (.goto (-10), 3) := by decide +kernel
theorem dX7_logarithm_15 : decode cX7_logarithm 15 = .ok (.iload_n 0, 1) := by decide +kernel
theorem dX7_logarithm_16 : decode cX7_logarithm 16 = .ok (.i2l, 1) := by decide +kernel
theorem dX7_logarithm_17 : decode cX7_logarithm 17 = .ok (.bipush 30, 2) := by decide +kernel
theorem dX7_logarithm_19 : decode cX7_logarithm 19 = .ok (.iload_n 1, 1) := by decide +kernel
theorem dX7_logarithm_20 : decode cX7_logarithm 20 = .ok (.isub, 1) := by decide +kernel
theorem dX7_logarithm_21 : decode cX7_logarithm 21 = .ok (.lshl, 1) := by decide +kernel
theorem dX7_logarithm_22 : decode cX7_logarithm 22 = .ok (.lstore_n 2, 1) := by decide +kernel
theorem dX7_logarithm_23 : decode cX7_logarithm 23 = .ok (.iload_n 1, 1) := by decide +kernel
theorem dX7_logarithm_24 : decode cX7_logarithm 24 = .ok (.i2l, 1) := by decide +kernel
theorem dX7_logarithm_25 : decode cX7_logarithm 25 = .ok (.lstore 4, 2) := by decide +kernel
theorem dX7_logarithm_27 : decode cX7_logarithm 27 = .ok (.iconst 0, 1) := by decide +kernel
theorem dX7_logarithm_28 : decode cX7_logarithm 28 = .ok (.istore 6, 2) := by decide +kernel
theorem dX7_logarithm_30 : decode cX7_logarithm 30 = .ok (.iload 6, 2) := by decide +kernel
theorem dX7_logarithm_32 : decode cX7_logarithm 32 = .ok (.bipush 30, 2) := by decide +kernel
theorem dX7_logarithm_34 : decode cX7_logarithm 34 = .ok (.if_icmp .ge 48, 3) := by decide +kernel
theorem dX7_logarithm_37 : decode cX7_logarithm 37 = .ok (.lload_n 2, 1) := by decide +kernel
theorem dX7_logarithm_38 : decode cX7_logarithm 38 = .ok (.lload_n 2, 1) := by decide +kernel
theorem dX7_logarithm_39 : decode cX7_logarithm 39 = .ok (.lmul, 1) := by decide +kernel
theorem dX7_logarithm_40 : decode cX7_logarithm 40 = .ok (.bipush 30, 2) := by decide +kernel
theorem dX7_logarithm_42 : decode cX7_logarithm 42 = .ok (.lshr, 1) := by decide +kernel
theorem dX7_logarithm_43 : decode cX7_logarithm 43 = .ok (.lstore_n 2, 1) := by decide +kernel
theorem dX7_logarithm_44 : decode cX7_logarithm 44 = .ok (.lload_n 2, 1) := by decide +kernel
theorem dX7_logarithm_45 : decode cX7_logarithm 45 = .ok (.ldc2_w 77, 3) := by decide +kernel
theorem dX7_logarithm_48 : decode cX7_logarithm 48 = .ok (.lcmp, 1) := by decide +kernel
theorem dX7_logarithm_49 : decode cX7_logarithm 49 = .ok (.ifCond .lt 7, 3) := by decide +kernel
theorem dX7_logarithm_52 : decode cX7_logarithm 52 = .ok (.iconst 1, 1) := by decide +kernel
theorem dX7_logarithm_53 : decode cX7_logarithm 53 = .ok (.goto 4, 3) := by decide +kernel
theorem dX7_logarithm_56 : decode cX7_logarithm 56 = .ok (.iconst 0, 1) := by decide +kernel
theorem dX7_logarithm_57 : decode cX7_logarithm 57 = .ok (.istore 7, 2) := by decide +kernel
theorem dX7_logarithm_59 : decode cX7_logarithm 59 = .ok (.lload_n 2, 1) := by decide +kernel
theorem dX7_logarithm_60 : decode cX7_logarithm 60 = .ok (.iload 7, 2) := by decide +kernel
theorem dX7_logarithm_62 : decode cX7_logarithm 62 = .ok (.lshr, 1) := by decide +kernel
theorem dX7_logarithm_63 : decode cX7_logarithm 63 = .ok (.lstore_n 2, 1) := by decide +kernel
theorem dX7_logarithm_64 : decode cX7_logarithm 64 = .ok (.ldc2_w 79, 3) := by decide +kernel
theorem dX7_logarithm_67 : decode cX7_logarithm 67 = .ok (.lload 4, 2) := by decide +kernel
theorem dX7_logarithm_69 : decode cX7_logarithm 69 = .ok (.lmul, 1) := by decide +kernel
theorem dX7_logarithm_70 : decode cX7_logarithm 70 = .ok (.iload 7, 2) := by decide +kernel
theorem dX7_logarithm_72 : decode cX7_logarithm 72 = .ok (.i2l, 1) := by decide +kernel
theorem dX7_logarithm_73 : decode cX7_logarithm 73 = .ok (.ladd, 1) := by decide +kernel
theorem dX7_logarithm_74 : decode cX7_logarithm 74 = .ok (.lstore 4, 2) := by decide +kernel
theorem dX7_logarithm_76 : decode cX7_logarithm 76 = .ok (.iinc 6 1, 3) := by decide +kernel
theorem dX7_logarithm_79 : decode cX7_logarithm 79 = .ok (.goto (-49), 3) := by decide +kernel
theorem dX7_logarithm_82 : decode cX7_logarithm 82 = .ok (.lload 4, 2) := by decide +kernel
theorem dX7_logarithm_84 : decode cX7_logarithm 84 = .ok (.lreturn, 1) := by decide +kernel
theorem dX7_lg_0 : decode cX7_lg 0 = .ok (.aload_n 0, 1) := by decide +kernel
theorem dX7_lg_1 : decode cX7_lg 1 = .ok (.iconst 0, 1) := by decide +kernel
theorem dX7_lg_2 : decode cX7_lg 2 = .ok (.putfield 62, 3) := by decide +kernel
theorem dX7_lg_5 : decode cX7_lg 5 = .ok (.iload_n 1, 1) := by decide +kernel
theorem dX7_lg_6 : decode cX7_lg 6 = .ok (.iconst 1, 1) := by decide +kernel
theorem dX7_lg_7 : decode cX7_lg 7 = .ok (.if_icmp .lt 13, 3) := by decide +kernel
theorem dX7_lg_10 : decode cX7_lg 10 = .ok (.iload_n 1, 1) := by decide +kernel
theorem dX7_lg_11 : decode cX7_lg 11 = .ok (.iconst 1, 1) := by decide +kernel
theorem dX7_lg_12 : decode cX7_lg 12 = .ok (.aload_n 0, 1) := by decide +kernel
theorem dX7_lg_13 : decode cX7_lg 13 = .ok (.getfield 59, 3) := by decide +kernel
theorem dX7_lg_16 : decode cX7_lg 16 = .ok (.ishl, 1) := by decide +kernel
theorem dX7_lg_17 : decode cX7_lg 17 = .ok (.if_icmp .le 9, 3) := by decide +kernel
theorem dX7_lg_20 : decode cX7_lg 20 = .ok (.ldc2_w 81, 3) := by decide +kernel
theorem dX7_lg_23 : decode cX7_lg 23 = .ok (.goto 7, 3) := by decide +kernel
theorem dX7_lg_26 : decode cX7_lg 26 = .ok (.iload_n 1, 1) := by decide +kernel
theorem dX7_lg_27 : decode cX7_lg 27 = .ok (.invokestatic 83, 3) := by decide +kernel
theorem dX7_lg_30 : decode cX7_lg 30 = .ok (.lreturn, 1) := by decide +kernel
theorem dX7_lay_0 : decode cX7_lay 0 = .ok (.iconst 1, 1) := by decide +kernel
theorem dX7_lay_1 : decode cX7_lay 1 = .ok (.aload_n 0, 1) := by decide +kernel
theorem dX7_lay_2 : decode cX7_lay 2 = .ok (.getfield 26, 3) := by decide +kernel
theorem dX7_lay_5 : decode cX7_lay 5 = .ok (.iload_n 1, 1) := by decide +kernel
theorem dX7_lay_6 : decode cX7_lay 6 = .ok (.iaload, 1) := by decide +kernel
theorem dX7_lay_7 : decode cX7_lay 7 = .ok (.ishl, 1) := by decide +kernel
theorem dX7_lay_8 : decode cX7_lay 8 = .ok (.istore_n 2, 1) := by decide +kernel
theorem dX7_lay_9 : decode cX7_lay 9 = .ok (.iconst 0, 1) := by decide +kernel
theorem dX7_lay_10 : decode cX7_lay 10 = .ok (.istore_n 3, 1) := by decide +kernel
theorem dX7_lay_11 : decode cX7_lay 11 = .ok (.iconst 0, 1) := by decide +kernel
theorem dX7_lay_12 : decode cX7_lay 12 = .ok (.istore 4, 2) := by decide +kernel
theorem dX7_lay_14 : decode cX7_lay 14 = .ok (.iconst 0, 1) := by decide +kernel
theorem dX7_lay_15 : decode cX7_lay 15 = .ok (.istore 5, 2) := by decide +kernel
theorem dX7_lay_17 : decode cX7_lay 17 = .ok (.iload 5, 2) := by decide +kernel
theorem dX7_lay_19 : decode cX7_lay 19 = .ok (.bipush 32, 2) := by decide +kernel
theorem dX7_lay_21 : decode cX7_lay 21 = .ok (.if_icmp .ge 95, 3) := by decide +kernel
theorem dX7_lay_24 : decode cX7_lay 24 = .ok (.aload_n 0, 1) := by decide +kernel
theorem dX7_lay_25 : decode cX7_lay 25 = .ok (.getfield 23, 3) := by decide +kernel
theorem dX7_lay_28 : decode cX7_lay 28 = .ok (.bipush 32, 2) := by decide +kernel
theorem dX7_lay_30 : decode cX7_lay 30 = .ok (.iload_n 1, 1) := by decide +kernel
theorem dX7_lay_31 : decode cX7_lay 31 = .ok (.imul, 1) := by decide +kernel
theorem dX7_lay_32 : decode cX7_lay 32 = .ok (.iload 5, 2) := by decide +kernel
theorem dX7_lay_34 : decode cX7_lay 34 = .ok (.iadd, 1) := by decide +kernel
theorem dX7_lay_35 : decode cX7_lay 35 = .ok (.iload_n 3, 1) := by decide +kernel
theorem dX7_lay_36 : decode cX7_lay 36 = .ok (.iastore, 1) := by decide +kernel
theorem dX7_lay_37 : decode cX7_lay 37 = .ok (.iload_n 3, 1) := by decide +kernel
theorem dX7_lay_38 : decode cX7_lay 38 = .ok (.aload_n 0, 1) := by decide +kernel
theorem dX7_lay_39 : decode cX7_lay 39 = .ok (.getfield 20, 3) := by decide +kernel
theorem dX7_lay_42 : decode cX7_lay 42 = .ok (.bipush 32, 2) := by decide +kernel
theorem dX7_lay_44 : decode cX7_lay 44 = .ok (.iload_n 1, 1) := by decide +kernel
theorem dX7_lay_45 : decode cX7_lay 45 = .ok (.imul, 1) := by decide +kernel
theorem dX7_lay_46 : decode cX7_lay 46 = .ok (.iload 5, 2) := by decide +kernel
theorem dX7_lay_48 : decode cX7_lay 48 = .ok (.iadd, 1) := by decide +kernel
theorem dX7_lay_49 : decode cX7_lay 49 = .ok (.iaload, 1) := by decide +kernel
theorem dX7_lay_50 : decode cX7_lay 50 = .ok (.iadd, 1) := by decide +kernel
theorem dX7_lay_51 : decode cX7_lay 51 = .ok (.istore_n 3, 1) := by decide +kernel
theorem dX7_lay_52 : decode cX7_lay 52 = .ok (.iconst 0, 1) := by decide +kernel
theorem dX7_lay_53 : decode cX7_lay 53 = .ok (.istore 6, 2) := by decide +kernel
theorem dX7_lay_55 : decode cX7_lay 55 = .ok (.iload 6, 2) := by decide +kernel
theorem dX7_lay_57 : decode cX7_lay 57 = .ok (.aload_n 0, 1) := by decide +kernel
theorem dX7_lay_58 : decode cX7_lay 58 = .ok (.getfield 20, 3) := by decide +kernel
theorem dX7_lay_61 : decode cX7_lay 61 = .ok (.bipush 32, 2) := by decide +kernel
theorem dX7_lay_63 : decode cX7_lay 63 = .ok (.iload_n 1, 1) := by decide +kernel
theorem dX7_lay_64 : decode cX7_lay 64 = .ok (.imul, 1) := by decide +kernel
theorem dX7_lay_65 : decode cX7_lay 65 = .ok (.iload 5, 2) := by decide +kernel
theorem dX7_lay_67 : decode cX7_lay 67 = .ok (.iadd, 1) := by decide +kernel
theorem dX7_lay_68 : decode cX7_lay 68 = .ok (.iaload, 1) := by decide +kernel
theorem dX7_lay_69 : decode cX7_lay 69 = .ok (.if_icmp .ge 41, 3) := by decide +kernel
theorem dX7_lay_72 : decode cX7_lay 72 = .ok (.aload_n 0, 1) := by decide +kernel
theorem dX7_lay_73 : decode cX7_lay 73 = .ok (.getfield 29, 3) := by decide +kernel
theorem dX7_lay_76 : decode cX7_lay 76 = .ok (.sipush 4096, 3) := by decide +kernel
theorem dX7_lay_79 : decode cX7_lay 79 = .ok (.iload_n 1, 1) := by decide +kernel
theorem dX7_lay_80 : decode cX7_lay 80 = .ok (.imul, 1) := by decide +kernel
theorem dX7_lay_81 : decode cX7_lay 81 = .ok (.iload 4, 2) := by decide +kernel
theorem dX7_lay_83 : decode cX7_lay 83 = .ok (.iadd, 1) := by decide +kernel
theorem dX7_lay_84 : decode cX7_lay 84 = .ok (.iload 5, 2) := by decide +kernel
theorem dX7_lay_86 : decode cX7_lay 86 = .ok (.iastore, 1) := by decide +kernel
theorem dX7_lay_87 : decode cX7_lay 87 = .ok (.iload 4, 2) := by decide +kernel
theorem dX7_lay_89 : decode cX7_lay 89 = .ok (.iload_n 2, 1) := by decide +kernel
theorem dX7_lay_90 : decode cX7_lay 90 = .ok (.iconst 2, 1) := by decide +kernel
theorem dX7_lay_91 : decode cX7_lay 91 = .ok (.idiv, 1) := by decide +kernel
theorem dX7_lay_92 : decode cX7_lay 92 = .ok (.iadd, 1) := by decide +kernel
theorem dX7_lay_93 : decode cX7_lay 93 = .ok (.iload_n 2, 1) := by decide +kernel
theorem dX7_lay_94 : decode cX7_lay 94 = .ok (.bipush 8, 2) := by decide +kernel
theorem dX7_lay_96 : decode cX7_lay 96 = .ok (.idiv, 1) := by decide +kernel
theorem dX7_lay_97 : decode cX7_lay 97 = .ok (.iadd, 1) := by decide +kernel
theorem dX7_lay_98 : decode cX7_lay 98 = .ok (.iconst 3, 1) := by decide +kernel
theorem dX7_lay_99 : decode cX7_lay 99 = .ok (.iadd, 1) := by decide +kernel
theorem dX7_lay_100 : decode cX7_lay 100 = .ok (.iload_n 2, 1) := by decide +kernel
theorem dX7_lay_101 : decode cX7_lay 101 = .ok (.irem, 1) := by decide +kernel
theorem dX7_lay_102 : decode cX7_lay 102 = .ok (.istore 4, 2) := by decide +kernel
theorem dX7_lay_104 : decode cX7_lay 104 = .ok (.iinc 6 1, 3) := by decide +kernel
theorem dX7_lay_107 : decode cX7_lay 107 = .ok (.goto (-52), 3) := by decide +kernel
theorem dX7_lay_110 : decode cX7_lay 110 = .ok (.iinc 5 1, 3) := by decide +kernel
theorem dX7_lay_113 : decode cX7_lay 113 = .ok (.goto (-96), 3) := by decide +kernel
theorem dX7_lay_116 : decode cX7_lay 116 = .ok (.iconst 0, 1) := by decide +kernel
theorem dX7_lay_117 : decode cX7_lay 117 = .ok (.istore 5, 2) := by decide +kernel
theorem dX7_lay_119 : decode cX7_lay 119 = .ok (.iload 5, 2) := by decide +kernel
theorem dX7_lay_121 : decode cX7_lay 121 = .ok (.bipush 32, 2) := by decide +kernel
theorem dX7_lay_123 : decode cX7_lay 123 = .ok (.if_icmp .ge 119, 3) := by decide +kernel
theorem dX7_lay_126 : decode cX7_lay 126 = .ok (.iconst 0, 1) := by decide +kernel
theorem dX7_lay_127 : decode cX7_lay 127 = .ok (.istore 6, 2) := by decide +kernel
theorem dX7_lay_129 : decode cX7_lay 129 = .ok (.iconst 0, 1) := by decide +kernel
theorem dX7_lay_130 : decode cX7_lay 130 = .ok (.istore 7, 2) := by decide +kernel
theorem dX7_lay_132 : decode cX7_lay 132 = .ok (.iload 7, 2) := by decide +kernel
theorem dX7_lay_134 : decode cX7_lay 134 = .ok (.iload_n 2, 1) := by decide +kernel
theorem dX7_lay_135 : decode cX7_lay 135 = .ok (.if_icmp .ge 101, 3) := by decide +kernel
theorem dX7_lay_138 : decode cX7_lay 138 = .ok (.aload_n 0, 1) := by decide +kernel
theorem dX7_lay_139 : decode cX7_lay 139 = .ok (.getfield 20, 3) := by decide +kernel
theorem dX7_lay_142 : decode cX7_lay 142 = .ok (.bipush 32, 2) := by decide +kernel
theorem dX7_lay_144 : decode cX7_lay 144 = .ok (.iload_n 1, 1) := by decide +kernel
theorem dX7_lay_145 : decode cX7_lay 145 = .ok (.imul, 1) := by decide +kernel
theorem dX7_lay_146 : decode cX7_lay 146 = .ok (.iload 5, 2) := by decide +kernel
theorem dX7_lay_148 : decode cX7_lay 148 = .ok (.iadd, 1) := by decide +kernel
theorem dX7_lay_149 : decode cX7_lay 149 = .ok (.iaload, 1) := by decide +kernel
theorem dX7_lay_150 : decode cX7_lay 150 = .ok (.ifCond .le 80, 3) := by decide +kernel
theorem dX7_lay_153 : decode cX7_lay 153 = .ok (.aload_n 0, 1) := by decide +kernel
theorem dX7_lay_154 : decode cX7_lay 154 = .ok (.getfield 29, 3) := by decide +kernel
theorem dX7_lay_157 : decode cX7_lay 157 = .ok (.sipush 4096, 3) := by decide +kernel
theorem dX7_lay_160 : decode cX7_lay 160 = .ok (.iload_n 1, 1) := by decide +kernel
theorem dX7_lay_161 : decode cX7_lay 161 = .ok (.imul, 1) := by decide +kernel
theorem dX7_lay_162 : decode cX7_lay 162 = .ok (.iload 7, 2) := by decide +kernel
theorem dX7_lay_164 : decode cX7_lay 164 = .ok (.iadd, 1) := by decide +kernel
theorem dX7_lay_165 : decode cX7_lay 165 = .ok (.iaload, 1) := by decide +kernel
theorem dX7_lay_166 : decode cX7_lay 166 = .ok (.iload 5, 2) := by decide +kernel
theorem dX7_lay_168 : decode cX7_lay 168 = .ok (.if_icmp .ne 62, 3) := by decide +kernel
theorem dX7_lay_171 : decode cX7_lay 171 = .ok (.aload_n 0, 1) := by decide +kernel
theorem dX7_lay_172 : decode cX7_lay 172 = .ok (.getfield 32, 3) := by decide +kernel
theorem dX7_lay_175 : decode cX7_lay 175 = .ok (.sipush 4096, 3) := by decide +kernel
theorem dX7_lay_178 : decode cX7_lay 178 = .ok (.iload_n 1, 1) := by decide +kernel
theorem dX7_lay_179 : decode cX7_lay 179 = .ok (.imul, 1) := by decide +kernel
theorem dX7_lay_180 : decode cX7_lay 180 = .ok (.iload 7, 2) := by decide +kernel
theorem dX7_lay_182 : decode cX7_lay 182 = .ok (.iadd, 1) := by decide +kernel
theorem dX7_lay_183 : decode cX7_lay 183 = .ok (.aload_n 0, 1) := by decide +kernel
theorem dX7_lay_184 : decode cX7_lay 184 = .ok (.getfield 20, 3) := by decide +kernel
theorem dX7_lay_187 : decode cX7_lay 187 = .ok (.bipush 32, 2) := by decide +kernel
theorem dX7_lay_189 : decode cX7_lay 189 = .ok (.iload_n 1, 1) := by decide +kernel
theorem dX7_lay_190 : decode cX7_lay 190 = .ok (.imul, 1) := by decide +kernel
theorem dX7_lay_191 : decode cX7_lay 191 = .ok (.iload 5, 2) := by decide +kernel
theorem dX7_lay_193 : decode cX7_lay 193 = .ok (.iadd, 1) := by decide +kernel
theorem dX7_lay_194 : decode cX7_lay 194 = .ok (.iaload, 1) := by decide +kernel
theorem dX7_lay_195 : decode cX7_lay 195 = .ok (.iload 6, 2) := by decide +kernel
theorem dX7_lay_197 : decode cX7_lay 197 = .ok (.iadd, 1) := by decide +kernel
theorem dX7_lay_198 : decode cX7_lay 198 = .ok (.iastore, 1) := by decide +kernel
theorem dX7_lay_199 : decode cX7_lay 199 = .ok (.aload_n 0, 1) := by decide +kernel
theorem dX7_lay_200 : decode cX7_lay 200 = .ok (.getfield 35, 3) := by decide +kernel
theorem dX7_lay_203 : decode cX7_lay 203 = .ok (.sipush 4096, 3) := by decide +kernel
theorem dX7_lay_206 : decode cX7_lay 206 = .ok (.iload_n 1, 1) := by decide +kernel
theorem dX7_lay_207 : decode cX7_lay 207 = .ok (.imul, 1) := by decide +kernel
theorem dX7_lay_208 : decode cX7_lay 208 = .ok (.aload_n 0, 1) := by decide +kernel
theorem dX7_lay_209 : decode cX7_lay 209 = .ok (.getfield 23, 3) := by decide +kernel
theorem dX7_lay_212 : decode cX7_lay 212 = .ok (.bipush 32, 2) := by decide +kernel
theorem dX7_lay_214 : decode cX7_lay 214 = .ok (.iload_n 1, 1) := by decide +kernel
theorem dX7_lay_215 : decode cX7_lay 215 = .ok (.imul, 1) := by decide +kernel
theorem dX7_lay_216 : decode cX7_lay 216 = .ok (.iload 5, 2) := by decide +kernel
theorem dX7_lay_218 : decode cX7_lay 218 = .ok (.iadd, 1) := by decide +kernel
theorem dX7_lay_219 : decode cX7_lay 219 = .ok (.iaload, 1) := by decide +kernel
theorem dX7_lay_220 : decode cX7_lay 220 = .ok (.iadd, 1) := by decide +kernel
theorem dX7_lay_221 : decode cX7_lay 221 = .ok (.iload 6, 2) := by decide +kernel
theorem dX7_lay_223 : decode cX7_lay 223 = .ok (.iadd, 1) := by decide +kernel
theorem dX7_lay_224 : decode cX7_lay 224 = .ok (.iload 7, 2) := by decide +kernel
theorem dX7_lay_226 : decode cX7_lay 226 = .ok (.iastore, 1) := by decide +kernel
theorem dX7_lay_227 : decode cX7_lay 227 = .ok (.iinc 6 1, 3) := by decide +kernel
theorem dX7_lay_230 : decode cX7_lay 230 = .ok (.iinc 7 1, 3) := by decide +kernel
theorem dX7_lay_233 : decode cX7_lay 233 = .ok (.goto (-101), 3) := by decide +kernel
theorem dX7_lay_236 : decode cX7_lay 236 = .ok (.iinc 5 1, 3) := by decide +kernel
theorem dX7_lay_239 : decode cX7_lay 239 = .ok (.goto (-120), 3) := by decide +kernel
theorem dX7_lay_242 : decode cX7_lay 242 = .ok (.return_, 1) := by decide +kernel
theorem dX7_normal_0 : decode cX7_normal 0 = .ok (.aload_n 0, 1) := by decide +kernel
theorem dX7_normal_1 : decode cX7_normal 1 = .ok (.iconst 0, 1) := by decide +kernel
theorem dX7_normal_2 : decode cX7_normal 2 = .ok (.putfield 62, 3) := by decide +kernel
theorem dX7_normal_5 : decode cX7_normal 5 = .ok (.aload_n 0, 1) := by decide +kernel
theorem dX7_normal_6 : decode cX7_normal 6 = .ok (.iconst 0, 1) := by decide +kernel
theorem dX7_normal_7 : decode cX7_normal 7 = .ok (.putfield 69, 3) := by decide +kernel
theorem dX7_normal_10 : decode cX7_normal 10 = .ok (.aload_n 0, 1) := by decide +kernel
theorem dX7_normal_11 : decode cX7_normal 11 = .ok (.invokevirtual 73, 3) := by decide +kernel
theorem dX7_normal_14 : decode cX7_normal 14 = .ok (.istore_n 1, 1) := by decide +kernel
theorem dX7_normal_15 : decode cX7_normal 15 = .ok (.iload_n 1, 1) := by decide +kernel
theorem dX7_normal_16 : decode cX7_normal 16 = .ok (.ifCond .ne 6, 3) := by decide +kernel
theorem dX7_normal_19 : decode cX7_normal 19 = .ok (.bipush (-2), 2) := by decide +kernel
theorem dX7_normal_21 : decode cX7_normal 21 = .ok (.ireturn, 1) := by decide +kernel
theorem dX7_normal_22 : decode cX7_normal 22 = .ok (.iconst 0, 1) := by decide +kernel
theorem dX7_normal_23 : decode cX7_normal 23 = .ok (.istore_n 2, 1) := by decide +kernel
theorem dX7_normal_24 : decode cX7_normal 24 = .ok (.iload_n 2, 1) := by decide +kernel
theorem dX7_normal_25 : decode cX7_normal 25 = .ok (.bipush 32, 2) := by decide +kernel
theorem dX7_normal_27 : decode cX7_normal 27 = .ok (.if_icmp .ge 29, 3) := by decide +kernel
theorem dX7_normal_30 : decode cX7_normal 30 = .ok (.aload_n 0, 1) := by decide +kernel
theorem dX7_normal_31 : decode cX7_normal 31 = .ok (.getfield 20, 3) := by decide +kernel
theorem dX7_normal_34 : decode cX7_normal 34 = .ok (.iload_n 2, 1) := by decide +kernel
theorem dX7_normal_35 : decode cX7_normal 35 = .ok (.aload_n 0, 1) := by decide +kernel
theorem dX7_normal_36 : decode cX7_normal 36 = .ok (.getfield 17, 3) := by decide +kernel
theorem dX7_normal_39 : decode cX7_normal 39 = .ok (.iload_n 2, 1) := by decide +kernel
theorem dX7_normal_40 : decode cX7_normal 40 = .ok (.iaload, 1) := by decide +kernel
theorem dX7_normal_41 : decode cX7_normal 41 = .ok (.ifCond .le 7, 3) := by decide +kernel
theorem dX7_normal_44 : decode cX7_normal 44 = .ok (.iconst 1, 1) := by decide +kernel
theorem dX7_normal_45 : decode cX7_normal 45 = .ok (.goto 4, 3) := by decide +kernel
theorem dX7_normal_48 : decode cX7_normal 48 = .ok (.iconst 0, 1) := by decide +kernel
theorem dX7_normal_49 : decode cX7_normal 49 = .ok (.iastore, 1) := by decide +kernel
theorem dX7_normal_50 : decode cX7_normal 50 = .ok (.iinc 2 1, 3) := by decide +kernel
theorem dX7_normal_53 : decode cX7_normal 53 = .ok (.goto (-29), 3) := by decide +kernel
theorem dX7_normal_56 : decode cX7_normal 56 = .ok (.iconst 1, 1) := by decide +kernel
theorem dX7_normal_57 : decode cX7_normal 57 = .ok (.aload_n 0, 1) := by decide +kernel
theorem dX7_normal_58 : decode cX7_normal 58 = .ok (.getfield 59, 3) := by decide +kernel
theorem dX7_normal_61 : decode cX7_normal 61 = .ok (.ishl, 1) := by decide +kernel
theorem dX7_normal_62 : decode cX7_normal 62 = .ok (.iload_n 1, 1) := by decide +kernel
theorem dX7_normal_63 : decode cX7_normal 63 = .ok (.isub, 1) := by decide +kernel
theorem dX7_normal_64 : decode cX7_normal 64 = .ok (.istore_n 2, 1) := by decide +kernel
theorem dX7_normal_65 : decode cX7_normal 65 = .ok (.iload_n 2, 1) := by decide +kernel
theorem dX7_normal_66 : decode cX7_normal 66 = .ok (.ifCond .le 106, 3) := by decide +kernel
theorem dX7_normal_69 : decode cX7_normal 69 = .ok (.bipush (-2), 2) := by decide +kernel
theorem dX7_normal_71 : decode cX7_normal 71 = .ok (.istore_n 3, 1) := by decide +kernel
theorem dX7_normal_72 : decode cX7_normal 72 = .ok (.lconst 0, 1) := by decide +kernel
theorem dX7_normal_73 : decode cX7_normal 73 = .ok (.lstore 4, 2) := by decide +kernel
theorem dX7_normal_75 : decode cX7_normal 75 = .ok (.iconst 0, 1) := by decide +kernel
theorem dX7_normal_76 : decode cX7_normal 76 = .ok (.istore 6, 2) := by decide +kernel
theorem dX7_normal_78 : decode cX7_normal 78 = .ok (.iload 6, 2) := by decide +kernel
theorem dX7_normal_80 : decode cX7_normal 80 = .ok (.bipush 32, 2) := by decide +kernel
theorem dX7_normal_82 : decode cX7_normal 82 = .ok (.if_icmp .ge 74, 3) := by decide +kernel
theorem dX7_normal_85 : decode cX7_normal 85 = .ok (.aload_n 0, 1) := by decide +kernel
theorem dX7_normal_86 : decode cX7_normal 86 = .ok (.getfield 20, 3) := by decide +kernel
theorem dX7_normal_89 : decode cX7_normal 89 = .ok (.iload 6, 2) := by decide +kernel
theorem dX7_normal_91 : decode cX7_normal 91 = .ok (.iaload, 1) := by decide +kernel
theorem dX7_normal_92 : decode cX7_normal 92 = .ok (.ifCond .le 58, 3) := by decide +kernel
theorem dX7_normal_95 : decode cX7_normal 95 = .ok (.aload_n 0, 1) := by decide +kernel
theorem dX7_normal_96 : decode cX7_normal 96 = .ok (.getfield 17, 3) := by decide +kernel
theorem dX7_normal_99 : decode cX7_normal 99 = .ok (.iload 6, 2) := by decide +kernel
theorem dX7_normal_101 : decode cX7_normal 101 = .ok (.iaload, 1) := by decide +kernel
theorem dX7_normal_102 : decode cX7_normal 102 = .ok (.i2l, 1) := by decide +kernel
theorem dX7_normal_103 : decode cX7_normal 103 = .ok (.aload_n 0, 1) := by decide +kernel
theorem dX7_normal_104 : decode cX7_normal 104 = .ok (.getfield 20, 3) := by decide +kernel
theorem dX7_normal_107 : decode cX7_normal 107 = .ok (.iload 6, 2) := by decide +kernel
theorem dX7_normal_109 : decode cX7_normal 109 = .ok (.iaload, 1) := by decide +kernel
theorem dX7_normal_110 : decode cX7_normal 110 = .ok (.iconst 1, 1) := by decide +kernel
theorem dX7_normal_111 : decode cX7_normal 111 = .ok (.iadd, 1) := by decide +kernel
theorem dX7_normal_112 : decode cX7_normal 112 = .ok (.invokestatic 83, 3) := by decide +kernel
theorem dX7_normal_115 : decode cX7_normal 115 = .ok (.aload_n 0, 1) := by decide +kernel
theorem dX7_normal_116 : decode cX7_normal 116 = .ok (.getfield 20, 3) := by decide +kernel
theorem dX7_normal_119 : decode cX7_normal 119 = .ok (.iload 6, 2) := by decide +kernel
theorem dX7_normal_121 : decode cX7_normal 121 = .ok (.iaload, 1) := by decide +kernel
theorem dX7_normal_122 : decode cX7_normal 122 = .ok (.invokestatic 83, 3) := by decide +kernel
theorem dX7_normal_125 : decode cX7_normal 125 = .ok (.lsub, 1) := by decide +kernel
theorem dX7_normal_126 : decode cX7_normal 126 = .ok (.lmul, 1) := by decide +kernel
theorem dX7_normal_127 : decode cX7_normal 127 = .ok (.lstore 7, 2) := by decide +kernel
theorem dX7_normal_129 : decode cX7_normal 129 = .ok (.iload_n 3, 1) := by decide +kernel
theorem dX7_normal_130 : decode cX7_normal 130 = .ok (.bipush (-2), 2) := by decide +kernel
theorem dX7_normal_132 : decode cX7_normal 132 = .ok (.if_icmp .eq 11, 3) := by decide +kernel
theorem dX7_normal_135 : decode cX7_normal 135 = .ok (.lload 7, 2) := by decide +kernel
theorem dX7_normal_137 : decode cX7_normal 137 = .ok (.lload 4, 2) := by decide +kernel
theorem dX7_normal_139 : decode cX7_normal 139 = .ok (.lcmp, 1) := by decide +kernel
theorem dX7_normal_140 : decode cX7_normal 140 = .ok (.ifCond .le 10, 3) := by decide +kernel
theorem dX7_normal_143 : decode cX7_normal 143 = .ok (.iload 6, 2) := by decide +kernel
theorem dX7_normal_145 : decode cX7_normal 145 = .ok (.istore_n 3, 1) := by decide +kernel
theorem dX7_normal_146 : decode cX7_normal 146 = .ok (.lload 7, 2) := by decide +kernel
theorem dX7_normal_148 : decode cX7_normal 148 = .ok (.lstore 4, 2) := by decide +kernel
theorem dX7_normal_150 : decode cX7_normal 150 = .ok (.iinc 6 1, 3) := by decide +kernel
theorem dX7_normal_153 : decode cX7_normal 153 = .ok (.goto (-75), 3) := by decide +kernel
theorem dX7_normal_156 : decode cX7_normal 156 = .ok (.aload_n 0, 1) := by decide +kernel
theorem dX7_normal_157 : decode cX7_normal 157 = .ok (.getfield 20, 3) := by decide +kernel
theorem dX7_normal_160 : decode cX7_normal 160 = .ok (.iload_n 3, 1) := by decide +kernel
theorem dX7_normal_161 : decode cX7_normal 161 = .ok (.dup2, 1) := by decide +kernel
theorem dX7_normal_162 : decode cX7_normal 162 = .ok (.iaload, 1) := by decide +kernel
theorem dX7_normal_163 : decode cX7_normal 163 = .ok (.iconst 1, 1) := by decide +kernel
theorem dX7_normal_164 : decode cX7_normal 164 = .ok (.iadd, 1) := by decide +kernel
theorem dX7_normal_165 : decode cX7_normal 165 = .ok (.iastore, 1) := by decide +kernel
theorem dX7_normal_166 : decode cX7_normal 166 = .ok (.iinc 2 (-1), 3) := by decide +kernel
theorem dX7_normal_169 : decode cX7_normal 169 = .ok (.goto (-104), 3) := by decide +kernel
theorem dX7_normal_172 : decode cX7_normal 172 = .ok (.aload_n 0, 1) := by decide +kernel
theorem dX7_normal_173 : decode cX7_normal 173 = .ok (.iconst 1, 1) := by decide +kernel
theorem dX7_normal_174 : decode cX7_normal 174 = .ok (.putfield 69, 3) := by decide +kernel
theorem dX7_normal_177 : decode cX7_normal 177 = .ok (.aload_n 0, 1) := by decide +kernel
theorem dX7_normal_178 : decode cX7_normal 178 = .ok (.iconst 0, 1) := by decide +kernel
theorem dX7_normal_179 : decode cX7_normal 179 = .ok (.invokevirtual 87, 3) := by decide +kernel
theorem dX7_normal_182 : decode cX7_normal 182 = .ok (.iload_n 1, 1) := by decide +kernel
theorem dX7_normal_183 : decode cX7_normal 183 = .ok (.ireturn, 1) := by decide +kernel
theorem dX7_share_0 : decode cX7_share 0 = .ok (.aload_n 0, 1) := by decide +kernel
theorem dX7_share_1 : decode cX7_share 1 = .ok (.iconst 0, 1) := by decide +kernel
theorem dX7_share_2 : decode cX7_share 2 = .ok (.putfield 62, 3) := by decide +kernel
theorem dX7_share_5 : decode cX7_share 5 = .ok (.iload_n 1, 1) := by decide +kernel
theorem dX7_share_6 : decode cX7_share 6 = .ok (.ifCond .lt 9, 3) := by decide +kernel
theorem dX7_share_9 : decode cX7_share 9 = .ok (.iload_n 1, 1) := by decide +kernel
theorem dX7_share_10 : decode cX7_share 10 = .ok (.bipush 32, 2) := by decide +kernel
theorem dX7_share_12 : decode cX7_share 12 = .ok (.if_icmp .lt 7, 3) := by decide +kernel
theorem dX7_share_15 : decode cX7_share 15 = .ok (.iconst (-1), 1) := by decide +kernel
theorem dX7_share_16 : decode cX7_share 16 = .ok (.goto 20, 3) := by decide +kernel
theorem dX7_share_19 : decode cX7_share 19 = .ok (.aload_n 0, 1) := by decide +kernel
theorem dX7_share_20 : decode cX7_share 20 = .ok (.getfield 69, 3) := by decide +kernel
theorem dX7_share_23 : decode cX7_share 23 = .ok (.ifCond .eq 12, 3) := by decide +kernel
theorem dX7_share_26 : decode cX7_share 26 = .ok (.aload_n 0, 1) := by decide +kernel
theorem dX7_share_27 : decode cX7_share 27 = .ok (.getfield 20, 3) := by decide +kernel
theorem dX7_share_30 : decode cX7_share 30 = .ok (.iload_n 1, 1) := by decide +kernel
theorem dX7_share_31 : decode cX7_share 31 = .ok (.iaload, 1) := by decide +kernel
theorem dX7_share_32 : decode cX7_share 32 = .ok (.goto 4, 3) := by decide +kernel
theorem dX7_share_35 : decode cX7_share 35 = .ok (.iconst 0, 1) := by decide +kernel
theorem dX7_share_36 : decode cX7_share 36 = .ok (.ireturn, 1) := by decide +kernel
end
section
theorem dX7_loss_0 : decode cX7_loss 0 = .ok (.aload_n 0, 1) := by decide +kernel
theorem dX7_loss_1 : decode cX7_loss 1 = .ok (.iconst 0, 1) := by decide +kernel
theorem dX7_loss_2 : decode cX7_loss 2 = .ok (.putfield 62, 3) := by decide +kernel
theorem dX7_loss_5 : decode cX7_loss 5 = .ok (.aload_n 0, 1) := by decide +kernel
theorem dX7_loss_6 : decode cX7_loss 6 = .ok (.getfield 69, 3) := by decide +kernel
theorem dX7_loss_9 : decode cX7_loss 9 = .ok (.ifCond .ne 7, 3) := by decide +kernel
theorem dX7_loss_12 : decode cX7_loss 12 = .ok (.ldc2_w 81, 3) := by decide +kernel
theorem dX7_loss_15 : decode cX7_loss 15 = .ok (.lreturn, 1) := by decide +kernel
theorem dX7_loss_16 : decode cX7_loss 16 = .ok (.lconst 0, 1) := by decide +kernel
theorem dX7_loss_17 : decode cX7_loss 17 = .ok (.lstore_n 1, 1) := by decide +kernel
theorem dX7_loss_18 : decode cX7_loss 18 = .ok (.iconst 0, 1) := by decide +kernel
theorem dX7_loss_19 : decode cX7_loss 19 = .ok (.istore_n 3, 1) := by decide +kernel
theorem dX7_loss_20 : decode cX7_loss 20 = .ok (.iload_n 3, 1) := by decide +kernel
theorem dX7_loss_21 : decode cX7_loss 21 = .ok (.bipush 32, 2) := by decide +kernel
theorem dX7_loss_23 : decode cX7_loss 23 = .ok (.if_icmp .ge 51, 3) := by decide +kernel
theorem dX7_loss_26 : decode cX7_loss 26 = .ok (.lload_n 1, 1) := by decide +kernel
theorem dX7_loss_27 : decode cX7_loss 27 = .ok (.aload_n 0, 1) := by decide +kernel
theorem dX7_loss_28 : decode cX7_loss 28 = .ok (.getfield 20, 3) := by decide +kernel
theorem dX7_loss_31 : decode cX7_loss 31 = .ok (.iload_n 3, 1) := by decide +kernel
theorem dX7_loss_32 : decode cX7_loss 32 = .ok (.iaload, 1) := by decide +kernel
theorem dX7_loss_33 : decode cX7_loss 33 = .ok (.ifCond .le 32, 3) := by decide +kernel
theorem dX7_loss_36 : decode cX7_loss 36 = .ok (.aload_n 0, 1) := by decide +kernel
theorem dX7_loss_37 : decode cX7_loss 37 = .ok (.getfield 17, 3) := by decide +kernel
theorem dX7_loss_40 : decode cX7_loss 40 = .ok (.iload_n 3, 1) := by decide +kernel
theorem dX7_loss_41 : decode cX7_loss 41 = .ok (.iaload, 1) := by decide +kernel
theorem dX7_loss_42 : decode cX7_loss 42 = .ok (.i2l, 1) := by decide +kernel
theorem dX7_loss_43 : decode cX7_loss 43 = .ok (.aload_n 0, 1) := by decide +kernel
theorem dX7_loss_44 : decode cX7_loss 44 = .ok (.getfield 59, 3) := by decide +kernel
theorem dX7_loss_47 : decode cX7_loss 47 = .ok (.i2l, 1) := by decide +kernel
theorem dX7_loss_48 : decode cX7_loss 48 = .ok (.bipush 30, 2) := by decide +kernel
theorem dX7_loss_50 : decode cX7_loss 50 = .ok (.lshl, 1) := by decide +kernel
theorem dX7_loss_51 : decode cX7_loss 51 = .ok (.aload_n 0, 1) := by decide +kernel
theorem dX7_loss_52 : decode cX7_loss 52 = .ok (.getfield 20, 3) := by decide +kernel
theorem dX7_loss_55 : decode cX7_loss 55 = .ok (.iload_n 3, 1) := by decide +kernel
theorem dX7_loss_56 : decode cX7_loss 56 = .ok (.iaload, 1) := by decide +kernel
theorem dX7_loss_57 : decode cX7_loss 57 = .ok (.invokestatic 83, 3) := by decide +kernel
theorem dX7_loss_60 : decode cX7_loss 60 = .ok (.lsub, 1) := by decide +kernel
theorem dX7_loss_61 : decode cX7_loss 61 = .ok (.lmul, 1) := by decide +kernel
theorem dX7_loss_62 : decode cX7_loss 62 = .ok (.goto 4, 3) := by decide +kernel
theorem dX7_loss_65 : decode cX7_loss 65 = .ok (.lconst 0, 1) := by decide +kernel
theorem dX7_loss_66 : decode cX7_loss 66 = .ok (.ladd, 1) := by decide +kernel
theorem dX7_loss_67 : decode cX7_loss 67 = .ok (.lstore_n 1, 1) := by decide +kernel
theorem dX7_loss_68 : decode cX7_loss 68 = .ok (.iinc 3 1, 3) := by decide +kernel
theorem dX7_loss_71 : decode cX7_loss 71 = .ok (.goto (-51), 3) := by decide +kernel
theorem dX7_loss_74 : decode cX7_loss 74 = .ok (.lload_n 1, 1) := by decide +kernel
theorem dX7_loss_75 : decode cX7_loss 75 = .ok (.lreturn, 1) := by decide +kernel
theorem dX7_spread_0 : decode cX7_spread 0 = .ok (.aload_n 0, 1) := by decide +kernel
theorem dX7_spread_1 : decode cX7_spread 1 = .ok (.iconst 0, 1) := by decide +kernel
theorem dX7_spread_2 : decode cX7_spread 2 = .ok (.putfield 62, 3) := by decide +kernel
theorem dX7_spread_5 : decode cX7_spread 5 = .ok (.aload_n 0, 1) := by decide +kernel
theorem dX7_spread_6 : decode cX7_spread 6 = .ok (.getfield 69, 3) := by decide +kernel
theorem dX7_spread_9 : decode cX7_spread 9 = .ok (.ifCond .ne 6, 3) := by decide +kernel
theorem dX7_spread_12 : decode cX7_spread 12 = .ok (.bipush (-2), 2) := by decide +kernel
theorem dX7_spread_14 : decode cX7_spread 14 = .ok (.ireturn, 1) := by decide +kernel
theorem dX7_spread_15 : decode cX7_spread 15 = .ok (.aload_n 0, 1) := by decide +kernel
theorem dX7_spread_16 : decode cX7_spread 16 = .ok (.iload_n 1, 1) := by decide +kernel
theorem dX7_spread_17 : decode cX7_spread 17 = .ok (.ifCond .lt 13, 3) := by decide +kernel
theorem dX7_spread_20 : decode cX7_spread 20 = .ok (.iload_n 1, 1) := by decide +kernel
theorem dX7_spread_21 : decode cX7_spread 21 = .ok (.iconst 1, 1) := by decide +kernel
theorem dX7_spread_22 : decode cX7_spread 22 = .ok (.aload_n 0, 1) := by decide +kernel
theorem dX7_spread_23 : decode cX7_spread 23 = .ok (.getfield 59, 3) := by decide +kernel
theorem dX7_spread_26 : decode cX7_spread 26 = .ok (.ishl, 1) := by decide +kernel
theorem dX7_spread_27 : decode cX7_spread 27 = .ok (.if_icmp .lt 7, 3) := by decide +kernel
theorem dX7_spread_30 : decode cX7_spread 30 = .ok (.iconst 1, 1) := by decide +kernel
theorem dX7_spread_31 : decode cX7_spread 31 = .ok (.goto 4, 3) := by decide +kernel
theorem dX7_spread_34 : decode cX7_spread 34 = .ok (.iconst 0, 1) := by decide +kernel
theorem dX7_spread_35 : decode cX7_spread 35 = .ok (.putfield 62, 3) := by decide +kernel
theorem dX7_spread_38 : decode cX7_spread 38 = .ok (.aload_n 0, 1) := by decide +kernel
theorem dX7_spread_39 : decode cX7_spread 39 = .ok (.getfield 62, 3) := by decide +kernel
theorem dX7_spread_42 : decode cX7_spread 42 = .ok (.ifCond .le 7, 3) := by decide +kernel
theorem dX7_spread_45 : decode cX7_spread 45 = .ok (.iconst 0, 1) := by decide +kernel
theorem dX7_spread_46 : decode cX7_spread 46 = .ok (.goto 9, 3) := by decide +kernel
theorem dX7_spread_49 : decode cX7_spread 49 = .ok (.aload_n 0, 1) := by decide +kernel
theorem dX7_spread_50 : decode cX7_spread 50 = .ok (.getfield 29, 3) := by decide +kernel
theorem dX7_spread_53 : decode cX7_spread 53 = .ok (.iload_n 1, 1) := by decide +kernel
theorem dX7_spread_54 : decode cX7_spread 54 = .ok (.iaload, 1) := by decide +kernel
theorem dX7_spread_55 : decode cX7_spread 55 = .ok (.ireturn, 1) := by decide +kernel
theorem dX7_form_0 : decode cX7_form 0 = .ok (.aload_n 0, 1) := by decide +kernel
theorem dX7_form_1 : decode cX7_form 1 = .ok (.iconst 0, 1) := by decide +kernel
theorem dX7_form_2 : decode cX7_form 2 = .ok (.putfield 62, 3) := by decide +kernel
theorem dX7_form_5 : decode cX7_form 5 = .ok (.iload_n 1, 1) := by decide +kernel
theorem dX7_form_6 : decode cX7_form 6 = .ok (.ifCond .lt 8, 3) := by decide +kernel
theorem dX7_form_9 : decode cX7_form 9 = .ok (.iload_n 1, 1) := by decide +kernel
theorem dX7_form_10 : decode cX7_form 10 = .ok (.iconst 3, 1) := by decide +kernel
theorem dX7_form_11 : decode cX7_form 11 = .ok (.if_icmp .le 5, 3) := by decide +kernel
theorem dX7_form_14 : decode cX7_form 14 = .ok (.iconst (-1), 1) := by decide +kernel
theorem dX7_form_15 : decode cX7_form 15 = .ok (.ireturn, 1) := by decide +kernel
theorem dX7_form_16 : decode cX7_form 16 = .ok (.aload_n 0, 1) := by decide +kernel
theorem dX7_form_17 : decode cX7_form 17 = .ok (.getfield 91, 3) := by decide +kernel
theorem dX7_form_20 : decode cX7_form 20 = .ok (.istore_n 2, 1) := by decide +kernel
theorem dX7_form_21 : decode cX7_form 21 = .ok (.aload_n 0, 1) := by decide +kernel
theorem dX7_form_22 : decode cX7_form 22 = .ok (.iload_n 1, 1) := by decide +kernel
theorem dX7_form_23 : decode cX7_form 23 = .ok (.putfield 91, 3) := by decide +kernel
theorem dX7_form_26 : decode cX7_form 26 = .ok (.iload_n 2, 1) := by decide +kernel
theorem dX7_form_27 : decode cX7_form 27 = .ok (.ireturn, 1) := by decide +kernel
theorem dX7_lanes_0 : decode cX7_lanes 0 = .ok (.aload_n 0, 1) := by decide +kernel
theorem dX7_lanes_1 : decode cX7_lanes 1 = .ok (.iconst 0, 1) := by decide +kernel
theorem dX7_lanes_2 : decode cX7_lanes 2 = .ok (.putfield 62, 3) := by decide +kernel
theorem dX7_lanes_5 : decode cX7_lanes 5 = .ok (.iload_n 1, 1) := by decide +kernel
theorem dX7_lanes_6 : decode cX7_lanes 6 = .ok (.iconst 1, 1) := by decide +kernel
theorem dX7_lanes_7 : decode cX7_lanes 7 = .ok (.if_icmp .eq 15, 3) := by decide +kernel
theorem dX7_lanes_10 : decode cX7_lanes 10 = .ok (.iload_n 1, 1) := by decide +kernel
theorem dX7_lanes_11 : decode cX7_lanes 11 = .ok (.iconst 2, 1) := by decide +kernel
theorem dX7_lanes_12 : decode cX7_lanes 12 = .ok (.if_icmp .eq 10, 3) := by decide +kernel
theorem dX7_lanes_15 : decode cX7_lanes 15 = .ok (.iload_n 1, 1) := by decide +kernel
theorem dX7_lanes_16 : decode cX7_lanes 16 = .ok (.iconst 4, 1) := by decide +kernel
theorem dX7_lanes_17 : decode cX7_lanes 17 = .ok (.if_icmp .eq 5, 3) := by decide +kernel
theorem dX7_lanes_20 : decode cX7_lanes 20 = .ok (.iconst (-1), 1) := by decide +kernel
theorem dX7_lanes_21 : decode cX7_lanes 21 = .ok (.ireturn, 1) := by decide +kernel
theorem dX7_lanes_22 : decode cX7_lanes 22 = .ok (.aload_n 0, 1) := by decide +kernel
theorem dX7_lanes_23 : decode cX7_lanes 23 = .ok (.getfield 7, 3) := by decide +kernel
theorem dX7_lanes_26 : decode cX7_lanes 26 = .ok (.istore_n 2, 1) := by decide +kernel
theorem dX7_lanes_27 : decode cX7_lanes 27 = .ok (.aload_n 0, 1) := by decide +kernel
theorem dX7_lanes_28 : decode cX7_lanes 28 = .ok (.iload_n 1, 1) := by decide +kernel
theorem dX7_lanes_29 : decode cX7_lanes 29 = .ok (.putfield 7, 3) := by decide +kernel
theorem dX7_lanes_32 : decode cX7_lanes 32 = .ok (.iload_n 2, 1) := by decide +kernel
theorem dX7_lanes_33 : decode cX7_lanes 33 = .ok (.ireturn, 1) := by decide +kernel
theorem dX7_firstState_0 : decode cX7_firstState 0 = .ok (.iload_n 0, 1) := by decide +kernel
theorem dX7_firstState_1 : decode cX7_firstState 1 = .ok (.iconst 1, 1) := by decide +kernel
theorem dX7_firstState_2 : decode cX7_firstState 2 = .ok (.if_icmp .ne 9, 3) := by decide +kernel
theorem dX7_firstState_5 : decode cX7_firstState 5 = .ok (.ldc2_w 77, 3) := by decide +kernel
theorem dX7_firstState_8 : decode cX7_firstState 8 = .ok (.goto 17, 3) := by decide +kernel
theorem dX7_firstState_11 : decode cX7_firstState 11 = .ok (.iload_n 0, 1) := by decide +kernel
theorem dX7_firstState_12 : decode cX7_firstState 12 = .ok (.iconst 2, 1) := by decide +kernel
theorem dX7_firstState_13 : decode cX7_firstState 13 = .ok (.if_icmp .ne 9, 3) := by decide +kernel
theorem dX7_firstState_16 : decode cX7_firstState 16 = .ok (.lconst 1, 1) := by decide +kernel
theorem dX7_firstState_17 : decode cX7_firstState 17 = .ok (.iload_n 1, 1) := by decide +kernel
theorem dX7_firstState_18 : decode cX7_firstState 18 = .ok (.lshl, 1) := by decide +kernel
theorem dX7_firstState_19 : decode cX7_firstState 19 = .ok (.goto 6, 3) := by decide +kernel
theorem dX7_firstState_22 : decode cX7_firstState 22 = .ok (.ldc2_w 94, 3) := by decide +kernel
theorem dX7_firstState_25 : decode cX7_firstState 25 = .ok (.lreturn, 1) := by decide +kernel
theorem dX7_putByte_0 : decode cX7_putByte 0 = .ok (.aload_n 0, 1) := by decide +kernel
theorem dX7_putByte_1 : decode cX7_putByte 1 = .ok (.getfield 38, 3) := by decide +kernel
theorem dX7_putByte_4 : decode cX7_putByte 4 = .ok (.aload_n 0, 1) := by decide +kernel
theorem dX7_putByte_5 : decode cX7_putByte 5 = .ok (.getfield 96, 3) := by decide +kernel
theorem dX7_putByte_8 : decode cX7_putByte 8 = .ok (.iload_n 1, 1) := by decide +kernel
theorem dX7_putByte_9 : decode cX7_putByte 9 = .ok (.sipush 255, 3) := by decide +kernel
theorem dX7_putByte_12 : decode cX7_putByte 12 = .ok (.iand, 1) := by decide +kernel
theorem dX7_putByte_13 : decode cX7_putByte 13 = .ok (.iastore, 1) := by decide +kernel
theorem dX7_putByte_14 : decode cX7_putByte 14 = .ok (.aload_n 0, 1) := by decide +kernel
theorem dX7_putByte_15 : decode cX7_putByte 15 = .ok (.dup, 1) := by decide +kernel
theorem dX7_putByte_16 : decode cX7_putByte 16 = .ok (.getfield 96, 3) := by decide +kernel
theorem dX7_putByte_19 : decode cX7_putByte 19 = .ok (.iconst 1, 1) := by decide +kernel
theorem dX7_putByte_20 : decode cX7_putByte 20 = .ok (.iadd, 1) := by decide +kernel
theorem dX7_putByte_21 : decode cX7_putByte 21 = .ok (.putfield 96, 3) := by decide +kernel
theorem dX7_putByte_24 : decode cX7_putByte 24 = .ok (.return_, 1) := by decide +kernel
theorem dX7_putWide_0 : decode cX7_putWide 0 = .ok (.iload_n 3, 1) := by decide +kernel
theorem dX7_putWide_1 : decode cX7_putWide 1 = .ok (.iconst 1, 1) := by decide +kernel
theorem dX7_putWide_2 : decode cX7_putWide 2 = .ok (.isub, 1) := by decide +kernel
theorem dX7_putWide_3 : decode cX7_putWide 3 = .ok (.istore 4, 2) := by decide +kernel
theorem dX7_putWide_5 : decode cX7_putWide 5 = .ok (.iload 4, 2) := by decide +kernel
theorem dX7_putWide_7 : decode cX7_putWide 7 = .ok (.ifCond .lt 21, 3) := by decide +kernel
theorem dX7_putWide_10 : decode cX7_putWide 10 = .ok (.aload_n 0, 1) := by decide +kernel
theorem dX7_putWide_11 : decode cX7_putWide 11 = .ok (.lload_n 1, 1) := by decide +kernel
theorem dX7_putWide_12 : decode cX7_putWide 12 = .ok (.bipush 8, 2) := by decide +kernel
theorem dX7_putWide_14 : decode cX7_putWide 14 = .ok (.iload 4, 2) := by decide +kernel
theorem dX7_putWide_16 : decode cX7_putWide 16 = .ok (.imul, 1) := by decide +kernel
theorem dX7_putWide_17 : decode cX7_putWide 17 = .ok (.lshr, 1) := by decide +kernel
theorem dX7_putWide_18 : decode cX7_putWide 18 = .ok (.l2i, 1) := by decide +kernel
theorem dX7_putWide_19 : decode cX7_putWide 19 = .ok (.invokevirtual 99, 3) := by decide +kernel
theorem dX7_putWide_22 : decode cX7_putWide 22 = .ok (.iinc 4 (-1), 3) := by decide +kernel
theorem dX7_putWide_25 : decode cX7_putWide 25 = .ok (.goto (-20), 3) := by decide +kernel
theorem dX7_putWide_28 : decode cX7_putWide 28 = .ok (.return_, 1) := by decide +kernel
theorem dX7_putBits_0 : decode cX7_putBits 0 = .ok (.iload_n 2, 1) := by decide +kernel
theorem dX7_putBits_1 : decode cX7_putBits 1 = .ok (.iconst 1, 1) := by decide +kernel
theorem dX7_putBits_2 : decode cX7_putBits 2 = .ok (.isub, 1) := by decide +kernel
theorem dX7_putBits_3 : decode cX7_putBits 3 = .ok (.istore_n 3, 1) := by decide +kernel
theorem dX7_putBits_4 : decode cX7_putBits 4 = .ok (.iload_n 3, 1) := by decide +kernel
theorem dX7_putBits_5 : decode cX7_putBits 5 = .ok (.ifCond .lt 61, 3) := by decide +kernel
theorem dX7_putBits_8 : decode cX7_putBits 8 = .ok (.aload_n 0, 1) := by decide +kernel
theorem dX7_putBits_9 : decode cX7_putBits 9 = .ok (.getfield 102, 3) := by decide +kernel
theorem dX7_putBits_12 : decode cX7_putBits 12 = .ok (.ifCond .ne 8, 3) := by decide +kernel
theorem dX7_putBits_15 : decode cX7_putBits 15 = .ok (.aload_n 0, 1) := by decide +kernel
theorem dX7_putBits_16 : decode cX7_putBits 16 = .ok (.iconst 0, 1) := by decide +kernel
theorem dX7_putBits_17 : decode cX7_putBits 17 = .ok (.invokevirtual 99, 3) := by decide +kernel
theorem dX7_putBits_20 : decode cX7_putBits 20 = .ok (.aload_n 0, 1) := by decide +kernel
theorem dX7_putBits_21 : decode cX7_putBits 21 = .ok (.getfield 38, 3) := by decide +kernel
theorem dX7_putBits_24 : decode cX7_putBits 24 = .ok (.aload_n 0, 1) := by decide +kernel
theorem dX7_putBits_25 : decode cX7_putBits 25 = .ok (.getfield 96, 3) := by decide +kernel
theorem dX7_putBits_28 : decode cX7_putBits 28 = .ok (.iconst 1, 1) := by decide +kernel
theorem dX7_putBits_29 : decode cX7_putBits 29 = .ok (.isub, 1) := by decide +kernel
theorem dX7_putBits_30 : decode cX7_putBits 30 = .ok (.dup2, 1) := by decide +kernel
theorem dX7_putBits_31 : decode cX7_putBits 31 = .ok (.iaload, 1) := by decide +kernel
theorem dX7_putBits_32 : decode cX7_putBits 32 = .ok (.iload_n 1, 1) := by decide +kernel
theorem dX7_putBits_33 : decode cX7_putBits 33 = .ok (.iload_n 3, 1) := by decide +kernel
theorem dX7_putBits_34 : decode cX7_putBits 34 = .ok (.ishr, 1) := by decide +kernel
theorem dX7_putBits_35 : decode cX7_putBits 35 = .ok (.iconst 1, 1) := by decide +kernel
theorem dX7_putBits_36 : decode cX7_putBits 36 = .ok (.iand, 1) := by decide +kernel
theorem dX7_putBits_37 : decode cX7_putBits 37 = .ok (.bipush 7, 2) := by decide +kernel
theorem dX7_putBits_39 : decode cX7_putBits 39 = .ok (.aload_n 0, 1) := by decide +kernel
theorem dX7_putBits_40 : decode cX7_putBits 40 = .ok (.getfield 102, 3) := by decide +kernel
theorem dX7_putBits_43 : decode cX7_putBits 43 = .ok (.isub, 1) := by decide +kernel
theorem dX7_putBits_44 : decode cX7_putBits 44 = .ok (.ishl, 1) := by decide +kernel
theorem dX7_putBits_45 : decode cX7_putBits 45 = .ok (.ior, 1) := by decide +kernel
theorem dX7_putBits_46 : decode cX7_putBits 46 = .ok (.iastore, 1) := by decide +kernel
theorem dX7_putBits_47 : decode cX7_putBits 47 = .ok (.aload_n 0, 1) := by decide +kernel
theorem dX7_putBits_48 : decode cX7_putBits 48 = .ok (.aload_n 0, 1) := by decide +kernel
theorem dX7_putBits_49 : decode cX7_putBits 49 = .ok (.getfield 102, 3) := by decide +kernel
theorem dX7_putBits_52 : decode cX7_putBits 52 = .ok (.iconst 1, 1) := by decide +kernel
theorem dX7_putBits_53 : decode cX7_putBits 53 = .ok (.iadd, 1) := by decide +kernel
theorem dX7_putBits_54 : decode cX7_putBits 54 = .ok (.bipush 8, 2) := by decide +kernel
theorem dX7_putBits_56 : decode cX7_putBits 56 = .ok (.irem, 1) := by decide +kernel
theorem dX7_putBits_57 : decode cX7_putBits 57 = .ok (.putfield 102, 3) := by decide +kernel
theorem dX7_putBits_60 : decode cX7_putBits 60 = .ok (.iinc 3 (-1), 3) := by decide +kernel
theorem dX7_putBits_63 : decode cX7_putBits 63 = .ok (.goto (-59), 3) := by decide +kernel
theorem dX7_putBits_66 : decode cX7_putBits 66 = .ok (.return_, 1) := by decide +kernel
theorem dX7_bitsOf_0 : decode cX7_bitsOf 0 = .ok (.iconst 0, 1) := by decide +kernel
theorem dX7_bitsOf_1 : decode cX7_bitsOf 1 = .ok (.istore_n 1, 1) := by decide +kernel
theorem dX7_bitsOf_2 : decode cX7_bitsOf 2 = .ok (.iload_n 0, 1) := by decide +kernel
theorem dX7_bitsOf_3 : decode cX7_bitsOf 3 = .ok (.iload_n 1, 1) := by decide +kernel
theorem dX7_bitsOf_4 : decode cX7_bitsOf 4 = .ok (.ishr, 1) := by decide +kernel
theorem dX7_bitsOf_5 : decode cX7_bitsOf 5 = .ok (.ifCond .le 9, 3) := by decide +kernel
theorem dX7_bitsOf_8 : decode cX7_bitsOf 8 = .ok (.iinc 1 1, 3) := by decide +kernel
theorem dX7_bitsOf_11 : decode cX7_bitsOf 11 = .ok (.goto (-9), 3) := by decide +kernel
theorem dX7_bitsOf_14 : decode cX7_bitsOf 14 = .ok (.iload_n 1, 1) := by decide +kernel
theorem dX7_bitsOf_15 : decode cX7_bitsOf 15 = .ok (.ireturn, 1) := by decide +kernel
theorem dX7_writeTable_0 : decode cX7_writeTable 0 = .ok (.iconst 1, 1) := by decide +kernel
theorem dX7_writeTable_1 : decode cX7_writeTable 1 = .ok (.aload_n 0, 1) := by decide +kernel
theorem dX7_writeTable_2 : decode cX7_writeTable 2 = .ok (.getfield 59, 3) := by decide +kernel
theorem dX7_writeTable_5 : decode cX7_writeTable 5 = .ok (.ishl, 1) := by decide +kernel
theorem dX7_writeTable_6 : decode cX7_writeTable 6 = .ok (.istore_n 1, 1) := by decide +kernel
theorem dX7_writeTable_7 : decode cX7_writeTable 7 = .ok (.aload_n 0, 1) := by decide +kernel
theorem dX7_writeTable_8 : decode cX7_writeTable 8 = .ok (.iconst 0, 1) := by decide +kernel
theorem dX7_writeTable_9 : decode cX7_writeTable 9 = .ok (.putfield 102, 3) := by decide +kernel
theorem dX7_writeTable_12 : decode cX7_writeTable 12 = .ok (.iconst 0, 1) := by decide +kernel
theorem dX7_writeTable_13 : decode cX7_writeTable 13 = .ok (.istore_n 2, 1) := by decide +kernel
theorem dX7_writeTable_14 : decode cX7_writeTable 14 = .ok (.iload_n 2, 1) := by decide +kernel
theorem dX7_writeTable_15 : decode cX7_writeTable 15 = .ok (.bipush 32, 2) := by decide +kernel
theorem dX7_writeTable_17 : decode cX7_writeTable 17 = .ok (.if_icmp .ge 36, 3) := by decide +kernel
theorem dX7_writeTable_20 : decode cX7_writeTable 20 = .ok (.iload_n 1, 1) := by decide +kernel
theorem dX7_writeTable_21 : decode cX7_writeTable 21 = .ok (.ifCond .le 32, 3) := by decide +kernel
theorem dX7_writeTable_24 : decode cX7_writeTable 24 = .ok (.aload_n 0, 1) := by decide +kernel
theorem dX7_writeTable_25 : decode cX7_writeTable 25 = .ok (.aload_n 0, 1) := by decide +kernel
theorem dX7_writeTable_26 : decode cX7_writeTable 26 = .ok (.getfield 20, 3) := by decide +kernel
theorem dX7_writeTable_29 : decode cX7_writeTable 29 = .ok (.iload_n 2, 1) := by decide +kernel
theorem dX7_writeTable_30 : decode cX7_writeTable 30 = .ok (.iaload, 1) := by decide +kernel
theorem dX7_writeTable_31 : decode cX7_writeTable 31 = .ok (.iload_n 1, 1) := by decide +kernel
theorem dX7_writeTable_32 : decode cX7_writeTable 32 = .ok (.invokestatic 105, 3) := by decide +kernel
theorem dX7_writeTable_35 : decode cX7_writeTable 35 = .ok (.invokevirtual 109, 3) := by decide +kernel
theorem dX7_writeTable_38 : decode cX7_writeTable 38 = .ok (.iload_n 1, 1) := by decide +kernel
theorem dX7_writeTable_39 : decode cX7_writeTable 39 = .ok (.aload_n 0, 1) := by decide +kernel
theorem dX7_writeTable_40 : decode cX7_writeTable 40 = .ok (.getfield 20, 3) := by decide +kernel
theorem dX7_writeTable_43 : decode cX7_writeTable 43 = .ok (.iload_n 2, 1) := by decide +kernel
theorem dX7_writeTable_44 : decode cX7_writeTable 44 = .ok (.iaload, 1) := by decide +kernel
theorem dX7_writeTable_45 : decode cX7_writeTable 45 = .ok (.isub, 1) := by decide +kernel
theorem dX7_writeTable_46 : decode cX7_writeTable 46 = .ok (.istore_n 1, 1) := by decide +kernel
theorem dX7_writeTable_47 : decode cX7_writeTable 47 = .ok (.iinc 2 1, 3) := by decide +kernel
theorem dX7_writeTable_50 : decode cX7_writeTable 50 = .ok (.goto (-36), 3) := by decide +kernel
theorem dX7_writeTable_53 : decode cX7_writeTable 53 = .ok (.aload_n 0, 1) := by decide +kernel
theorem dX7_writeTable_54 : decode cX7_writeTable 54 = .ok (.iconst 0, 1) := by decide +kernel
theorem dX7_writeTable_55 : decode cX7_writeTable 55 = .ok (.putfield 102, 3) := by decide +kernel
theorem dX7_writeTable_58 : decode cX7_writeTable 58 = .ok (.return_, 1) := by decide +kernel
theorem dX7_writeBytes_0 : decode cX7_writeBytes 0 = .ok (.aload_n 0, 1) := by decide +kernel
theorem dX7_writeBytes_1 : decode cX7_writeBytes 1 = .ok (.getfield 41, 3) := by decide +kernel
theorem dX7_writeBytes_4 : decode cX7_writeBytes 4 = .ok (.iload_n 1, 1) := by decide +kernel
theorem dX7_writeBytes_5 : decode cX7_writeBytes 5 = .ok (.laload, 1) := by decide +kernel
theorem dX7_writeBytes_6 : decode cX7_writeBytes 6 = .ok (.lstore 4, 2) := by decide +kernel
theorem dX7_writeBytes_8 : decode cX7_writeBytes 8 = .ok (.lload 4, 2) := by decide +kernel
theorem dX7_writeBytes_10 : decode cX7_writeBytes 10 = .ok (.lconst 1, 1) := by decide +kernel
theorem dX7_writeBytes_11 : decode cX7_writeBytes 11 = .ok (.bipush 31, 2) := by decide +kernel
theorem dX7_writeBytes_13 : decode cX7_writeBytes 13 = .ok (.aload_n 0, 1) := by decide +kernel
theorem dX7_writeBytes_14 : decode cX7_writeBytes 14 = .ok (.getfield 59, 3) := by decide +kernel
theorem dX7_writeBytes_17 : decode cX7_writeBytes 17 = .ok (.isub, 1) := by decide +kernel
theorem dX7_writeBytes_18 : decode cX7_writeBytes 18 = .ok (.lshl, 1) := by decide +kernel
theorem dX7_writeBytes_19 : decode cX7_writeBytes 19 = .ok (.iload_n 2, 1) := by decide +kernel
theorem dX7_writeBytes_20 : decode cX7_writeBytes 20 = .ok (.i2l, 1) := by decide +kernel
theorem dX7_writeBytes_21 : decode cX7_writeBytes 21 = .ok (.lmul, 1) := by decide +kernel
theorem dX7_writeBytes_22 : decode cX7_writeBytes 22 = .ok (.lcmp, 1) := by decide +kernel
theorem dX7_writeBytes_23 : decode cX7_writeBytes 23 = .ok (.ifCond .lt 39, 3) := by decide +kernel
theorem dX7_writeBytes_26 : decode cX7_writeBytes 26 = .ok (.aload_n 0, 1) := by decide +kernel
theorem dX7_writeBytes_27 : decode cX7_writeBytes 27 = .ok (.getfield 49, 3) := by decide +kernel
theorem dX7_writeBytes_30 : decode cX7_writeBytes 30 = .ok (.aload_n 0, 1) := by decide +kernel
theorem dX7_writeBytes_31 : decode cX7_writeBytes 31 = .ok (.getfield 113, 3) := by decide +kernel
theorem dX7_writeBytes_34 : decode cX7_writeBytes 34 = .ok (.lload 4, 2) := by decide +kernel
theorem dX7_writeBytes_36 : decode cX7_writeBytes 36 = .ok (.l2i, 1) := by decide +kernel
theorem dX7_writeBytes_37 : decode cX7_writeBytes 37 = .ok (.sipush 255, 3) := by decide +kernel
theorem dX7_writeBytes_40 : decode cX7_writeBytes 40 = .ok (.iand, 1) := by decide +kernel
theorem dX7_writeBytes_41 : decode cX7_writeBytes 41 = .ok (.iastore, 1) := by decide +kernel
theorem dX7_writeBytes_42 : decode cX7_writeBytes 42 = .ok (.aload_n 0, 1) := by decide +kernel
theorem dX7_writeBytes_43 : decode cX7_writeBytes 43 = .ok (.dup, 1) := by decide +kernel
theorem dX7_writeBytes_44 : decode cX7_writeBytes 44 = .ok (.getfield 113, 3) := by decide +kernel
theorem dX7_writeBytes_47 : decode cX7_writeBytes 47 = .ok (.iconst 1, 1) := by decide +kernel
theorem dX7_writeBytes_48 : decode cX7_writeBytes 48 = .ok (.iadd, 1) := by decide +kernel
theorem dX7_writeBytes_49 : decode cX7_writeBytes 49 = .ok (.putfield 113, 3) := by decide +kernel
theorem dX7_writeBytes_52 : decode cX7_writeBytes 52 = .ok (.lload 4, 2) := by decide +kernel
theorem dX7_writeBytes_54 : decode cX7_writeBytes 54 = .ok (.bipush 8, 2) := by decide +kernel
theorem dX7_writeBytes_56 : decode cX7_writeBytes 56 = .ok (.lshr, 1) := by decide +kernel
theorem dX7_writeBytes_57 : decode cX7_writeBytes 57 = .ok (.lstore 4, 2) := by decide +kernel
theorem dX7_writeBytes_59 : decode cX7_writeBytes 59 = .ok (.goto (-51), 3) := by decide +kernel
theorem dX7_writeBytes_62 : decode cX7_writeBytes 62 = .ok (.aload_n 0, 1) := by decide +kernel
theorem dX7_writeBytes_63 : decode cX7_writeBytes 63 = .ok (.getfield 41, 3) := by decide +kernel
theorem dX7_writeBytes_66 : decode cX7_writeBytes 66 = .ok (.iload_n 1, 1) := by decide +kernel
theorem dX7_writeBytes_67 : decode cX7_writeBytes 67 = .ok (.lload 4, 2) := by decide +kernel
theorem dX7_writeBytes_69 : decode cX7_writeBytes 69 = .ok (.iload_n 2, 1) := by decide +kernel
theorem dX7_writeBytes_70 : decode cX7_writeBytes 70 = .ok (.i2l, 1) := by decide +kernel
theorem dX7_writeBytes_71 : decode cX7_writeBytes 71 = .ok (.ldiv, 1) := by decide +kernel
theorem dX7_writeBytes_72 : decode cX7_writeBytes 72 = .ok (.aload_n 0, 1) := by decide +kernel
theorem dX7_writeBytes_73 : decode cX7_writeBytes 73 = .ok (.getfield 59, 3) := by decide +kernel
theorem dX7_writeBytes_76 : decode cX7_writeBytes 76 = .ok (.lshl, 1) := by decide +kernel
theorem dX7_writeBytes_77 : decode cX7_writeBytes 77 = .ok (.lload 4, 2) := by decide +kernel
theorem dX7_writeBytes_79 : decode cX7_writeBytes 79 = .ok (.iload_n 2, 1) := by decide +kernel
theorem dX7_writeBytes_80 : decode cX7_writeBytes 80 = .ok (.i2l, 1) := by decide +kernel
theorem dX7_writeBytes_81 : decode cX7_writeBytes 81 = .ok (.lrem, 1) := by decide +kernel
theorem dX7_writeBytes_82 : decode cX7_writeBytes 82 = .ok (.ladd, 1) := by decide +kernel
theorem dX7_writeBytes_83 : decode cX7_writeBytes 83 = .ok (.iload_n 3, 1) := by decide +kernel
theorem dX7_writeBytes_84 : decode cX7_writeBytes 84 = .ok (.i2l, 1) := by decide +kernel
theorem dX7_writeBytes_85 : decode cX7_writeBytes 85 = .ok (.ladd, 1) := by decide +kernel
theorem dX7_writeBytes_86 : decode cX7_writeBytes 86 = .ok (.lastore, 1) := by decide +kernel
theorem dX7_writeBytes_87 : decode cX7_writeBytes 87 = .ok (.return_, 1) := by decide +kernel
theorem dX7_writeWords_0 : decode cX7_writeWords 0 = .ok (.aload_n 0, 1) := by decide +kernel
theorem dX7_writeWords_1 : decode cX7_writeWords 1 = .ok (.getfield 41, 3) := by decide +kernel
theorem dX7_writeWords_4 : decode cX7_writeWords 4 = .ok (.iload_n 1, 1) := by decide +kernel
theorem dX7_writeWords_5 : decode cX7_writeWords 5 = .ok (.laload, 1) := by decide +kernel
theorem dX7_writeWords_6 : decode cX7_writeWords 6 = .ok (.lstore 4, 2) := by decide +kernel
theorem dX7_writeWords_8 : decode cX7_writeWords 8 = .ok (.lload 4, 2) := by decide +kernel
theorem dX7_writeWords_10 : decode cX7_writeWords 10 = .ok (.lconst 1, 1) := by decide +kernel
theorem dX7_writeWords_11 : decode cX7_writeWords 11 = .ok (.bipush 63, 2) := by decide +kernel
theorem dX7_writeWords_13 : decode cX7_writeWords 13 = .ok (.aload_n 0, 1) := by decide +kernel
theorem dX7_writeWords_14 : decode cX7_writeWords 14 = .ok (.getfield 59, 3) := by decide +kernel
theorem dX7_writeWords_17 : decode cX7_writeWords 17 = .ok (.isub, 1) := by decide +kernel
theorem dX7_writeWords_18 : decode cX7_writeWords 18 = .ok (.lshl, 1) := by decide +kernel
theorem dX7_writeWords_19 : decode cX7_writeWords 19 = .ok (.iload_n 2, 1) := by decide +kernel
theorem dX7_writeWords_20 : decode cX7_writeWords 20 = .ok (.i2l, 1) := by decide +kernel
theorem dX7_writeWords_21 : decode cX7_writeWords 21 = .ok (.lmul, 1) := by decide +kernel
theorem dX7_writeWords_22 : decode cX7_writeWords 22 = .ok (.lcmp, 1) := by decide +kernel
theorem dX7_writeWords_23 : decode cX7_writeWords 23 = .ok (.ifCond .lt 35, 3) := by decide +kernel
theorem dX7_writeWords_26 : decode cX7_writeWords 26 = .ok (.aload_n 0, 1) := by decide +kernel
theorem dX7_writeWords_27 : decode cX7_writeWords 27 = .ok (.getfield 49, 3) := by decide +kernel
theorem dX7_writeWords_30 : decode cX7_writeWords 30 = .ok (.aload_n 0, 1) := by decide +kernel
theorem dX7_writeWords_31 : decode cX7_writeWords 31 = .ok (.getfield 113, 3) := by decide +kernel
theorem dX7_writeWords_34 : decode cX7_writeWords 34 = .ok (.lload 4, 2) := by decide +kernel
theorem dX7_writeWords_36 : decode cX7_writeWords 36 = .ok (.l2i, 1) := by decide +kernel
theorem dX7_writeWords_37 : decode cX7_writeWords 37 = .ok (.iastore, 1) := by decide +kernel
theorem dX7_writeWords_38 : decode cX7_writeWords 38 = .ok (.aload_n 0, 1) := by decide +kernel
theorem dX7_writeWords_39 : decode cX7_writeWords 39 = .ok (.dup, 1) := by decide +kernel
theorem dX7_writeWords_40 : decode cX7_writeWords 40 = .ok (.getfield 113, 3) := by decide +kernel
theorem dX7_writeWords_43 : decode cX7_writeWords 43 = .ok (.iconst 1, 1) := by decide +kernel
theorem dX7_writeWords_44 : decode cX7_writeWords 44 = .ok (.iadd, 1) := by decide +kernel
theorem dX7_writeWords_45 : decode cX7_writeWords 45 = .ok (.putfield 113, 3) := by decide +kernel
theorem dX7_writeWords_48 : decode cX7_writeWords 48 = .ok (.lload 4, 2) := by decide +kernel
theorem dX7_writeWords_50 : decode cX7_writeWords 50 = .ok (.bipush 32, 2) := by decide +kernel
theorem dX7_writeWords_52 : decode cX7_writeWords 52 = .ok (.lushr, 1) := by decide +kernel
theorem dX7_writeWords_53 : decode cX7_writeWords 53 = .ok (.lstore 4, 2) := by decide +kernel
theorem dX7_writeWords_55 : decode cX7_writeWords 55 = .ok (.goto (-47), 3) := by decide +kernel
theorem dX7_writeWords_58 : decode cX7_writeWords 58 = .ok (.aload_n 0, 1) := by decide +kernel
theorem dX7_writeWords_59 : decode cX7_writeWords 59 = .ok (.getfield 41, 3) := by decide +kernel
theorem dX7_writeWords_62 : decode cX7_writeWords 62 = .ok (.iload_n 1, 1) := by decide +kernel
theorem dX7_writeWords_63 : decode cX7_writeWords 63 = .ok (.lload 4, 2) := by decide +kernel
theorem dX7_writeWords_65 : decode cX7_writeWords 65 = .ok (.iload_n 2, 1) := by decide +kernel
theorem dX7_writeWords_66 : decode cX7_writeWords 66 = .ok (.i2l, 1) := by decide +kernel
theorem dX7_writeWords_67 : decode cX7_writeWords 67 = .ok (.ldiv, 1) := by decide +kernel
theorem dX7_writeWords_68 : decode cX7_writeWords 68 = .ok (.aload_n 0, 1) := by decide +kernel
theorem dX7_writeWords_69 : decode cX7_writeWords 69 = .ok (.getfield 59, 3) := by decide +kernel
theorem dX7_writeWords_72 : decode cX7_writeWords 72 = .ok (.lshl, 1) := by decide +kernel
theorem dX7_writeWords_73 : decode cX7_writeWords 73 = .ok (.lload 4, 2) := by decide +kernel
theorem dX7_writeWords_75 : decode cX7_writeWords 75 = .ok (.iload_n 2, 1) := by decide +kernel
theorem dX7_writeWords_76 : decode cX7_writeWords 76 = .ok (.i2l, 1) := by decide +kernel
theorem dX7_writeWords_77 : decode cX7_writeWords 77 = .ok (.lrem, 1) := by decide +kernel
theorem dX7_writeWords_78 : decode cX7_writeWords 78 = .ok (.ladd, 1) := by decide +kernel
theorem dX7_writeWords_79 : decode cX7_writeWords 79 = .ok (.iload_n 3, 1) := by decide +kernel
theorem dX7_writeWords_80 : decode cX7_writeWords 80 = .ok (.i2l, 1) := by decide +kernel
theorem dX7_writeWords_81 : decode cX7_writeWords 81 = .ok (.ladd, 1) := by decide +kernel
theorem dX7_writeWords_82 : decode cX7_writeWords 82 = .ok (.lastore, 1) := by decide +kernel
theorem dX7_writeWords_83 : decode cX7_writeWords 83 = .ok (.return_, 1) := by decide +kernel
theorem dX7_writeBitsOf_0 : decode cX7_writeBitsOf 0 = .ok (.aload_n 0, 1) := by decide +kernel
theorem dX7_writeBitsOf_1 : decode cX7_writeBitsOf 1 = .ok (.getfield 41, 3) := by decide +kernel
theorem dX7_writeBitsOf_4 : decode cX7_writeBitsOf 4 = .ok (.iload_n 1, 1) := by decide +kernel
theorem dX7_writeBitsOf_5 : decode cX7_writeBitsOf 5 = .ok (.laload, 1) := by decide +kernel
theorem dX7_writeBitsOf_6 : decode cX7_writeBitsOf 6 = .ok (.lstore 4, 2) := by decide +kernel
theorem dX7_writeBitsOf_8 : decode cX7_writeBitsOf 8 = .ok (.lload 4, 2) := by decide +kernel
theorem dX7_writeBitsOf_10 : decode cX7_writeBitsOf 10 = .ok (.ldc2_w 79, 3) := by decide +kernel
theorem dX7_writeBitsOf_13 : decode cX7_writeBitsOf 13 = .ok (.iload_n 2, 1) := by decide +kernel
theorem dX7_writeBitsOf_14 : decode cX7_writeBitsOf 14 = .ok (.i2l, 1) := by decide +kernel
theorem dX7_writeBitsOf_15 : decode cX7_writeBitsOf 15 = .ok (.lmul, 1) := by decide +kernel
theorem dX7_writeBitsOf_16 : decode cX7_writeBitsOf 16 = .ok (.lcmp, 1) := by decide +kernel
theorem dX7_writeBitsOf_17 : decode cX7_writeBitsOf 17 = .ok (.ifCond .lt 36, 3) := by decide +kernel
theorem dX7_writeBitsOf_20 : decode cX7_writeBitsOf 20 = .ok (.aload_n 0, 1) := by decide +kernel
theorem dX7_writeBitsOf_21 : decode cX7_writeBitsOf 21 = .ok (.getfield 49, 3) := by decide +kernel
theorem dX7_writeBitsOf_24 : decode cX7_writeBitsOf 24 = .ok (.aload_n 0, 1) := by decide +kernel
theorem dX7_writeBitsOf_25 : decode cX7_writeBitsOf 25 = .ok (.getfield 113, 3) := by decide +kernel
theorem dX7_writeBitsOf_28 : decode cX7_writeBitsOf 28 = .ok (.lload 4, 2) := by decide +kernel
theorem dX7_writeBitsOf_30 : decode cX7_writeBitsOf 30 = .ok (.l2i, 1) := by decide +kernel
theorem dX7_writeBitsOf_31 : decode cX7_writeBitsOf 31 = .ok (.iconst 1, 1) := by decide +kernel
theorem dX7_writeBitsOf_32 : decode cX7_writeBitsOf 32 = .ok (.iand, 1) := by decide +kernel
theorem dX7_writeBitsOf_33 : decode cX7_writeBitsOf 33 = .ok (.iastore, 1) := by decide +kernel
theorem dX7_writeBitsOf_34 : decode cX7_writeBitsOf 34 = .ok (.aload_n 0, 1) := by decide +kernel
theorem dX7_writeBitsOf_35 : decode cX7_writeBitsOf 35 = .ok (.dup, 1) := by decide +kernel
theorem dX7_writeBitsOf_36 : decode cX7_writeBitsOf 36 = .ok (.getfield 113, 3) := by decide +kernel
theorem dX7_writeBitsOf_39 : decode cX7_writeBitsOf 39 = .ok (.iconst 1, 1) := by decide +kernel
theorem dX7_writeBitsOf_40 : decode cX7_writeBitsOf 40 = .ok (.iadd, 1) := by decide +kernel
theorem dX7_writeBitsOf_41 : decode cX7_writeBitsOf 41 = .ok (.putfield 113, 3) := by decide +kernel
theorem dX7_writeBitsOf_44 : decode cX7_writeBitsOf 44 = .ok (.lload 4, 2) := by decide +kernel
theorem dX7_writeBitsOf_46 : decode cX7_writeBitsOf 46 = .ok (.iconst 1, 1) := by decide +kernel
theorem dX7_writeBitsOf_47 : decode cX7_writeBitsOf 47 = .ok (.lshr, 1) := by decide +kernel
theorem dX7_writeBitsOf_48 : decode cX7_writeBitsOf 48 = .ok (.lstore 4, 2) := by decide +kernel
theorem dX7_writeBitsOf_50 : decode cX7_writeBitsOf 50 = .ok (.goto (-42), 3) := by decide +kernel
theorem dX7_writeBitsOf_53 : decode cX7_writeBitsOf 53 = .ok (.aload_n 0, 1) := by decide +kernel
theorem dX7_writeBitsOf_54 : decode cX7_writeBitsOf 54 = .ok (.getfield 41, 3) := by decide +kernel
theorem dX7_writeBitsOf_57 : decode cX7_writeBitsOf 57 = .ok (.iload_n 1, 1) := by decide +kernel
theorem dX7_writeBitsOf_58 : decode cX7_writeBitsOf 58 = .ok (.lconst 1, 1) := by decide +kernel
theorem dX7_writeBitsOf_59 : decode cX7_writeBitsOf 59 = .ok (.aload_n 0, 1) := by decide +kernel
theorem dX7_writeBitsOf_60 : decode cX7_writeBitsOf 60 = .ok (.getfield 59, 3) := by decide +kernel
theorem dX7_writeBitsOf_63 : decode cX7_writeBitsOf 63 = .ok (.lshl, 1) := by decide +kernel
theorem dX7_writeBitsOf_64 : decode cX7_writeBitsOf 64 = .ok (.aload_n 0, 1) := by decide +kernel
theorem dX7_writeBitsOf_65 : decode cX7_writeBitsOf 65 = .ok (.getfield 35, 3) := by decide +kernel
theorem dX7_writeBitsOf_68 : decode cX7_writeBitsOf 68 = .ok (.iload_n 3, 1) := by decide +kernel
theorem dX7_writeBitsOf_69 : decode cX7_writeBitsOf 69 = .ok (.lload 4, 2) := by decide +kernel
theorem dX7_writeBitsOf_71 : decode cX7_writeBitsOf 71 = .ok (.l2i, 1) := by decide +kernel
theorem dX7_writeBitsOf_72 : decode cX7_writeBitsOf 72 = .ok (.iadd, 1) := by decide +kernel
theorem dX7_writeBitsOf_73 : decode cX7_writeBitsOf 73 = .ok (.iload_n 2, 1) := by decide +kernel
theorem dX7_writeBitsOf_74 : decode cX7_writeBitsOf 74 = .ok (.isub, 1) := by decide +kernel
theorem dX7_writeBitsOf_75 : decode cX7_writeBitsOf 75 = .ok (.iaload, 1) := by decide +kernel
theorem dX7_writeBitsOf_76 : decode cX7_writeBitsOf 76 = .ok (.i2l, 1) := by decide +kernel
theorem dX7_writeBitsOf_77 : decode cX7_writeBitsOf 77 = .ok (.ladd, 1) := by decide +kernel
theorem dX7_writeBitsOf_78 : decode cX7_writeBitsOf 78 = .ok (.lastore, 1) := by decide +kernel
theorem dX7_writeBitsOf_79 : decode cX7_writeBitsOf 79 = .ok (.return_, 1) := by decide +kernel
theorem dX7_laySides_0 : decode cX7_laySides 0 = .ok (.aload_n 0, 1) := by decide +kernel
theorem dX7_laySides_1 : decode cX7_laySides 1 = .ok (.iconst 0, 1) := by decide +kernel
theorem dX7_laySides_2 : decode cX7_laySides 2 = .ok (.putfield 116, 3) := by decide +kernel
theorem dX7_laySides_5 : decode cX7_laySides 5 = .ok (.aload_n 0, 1) := by decide +kernel
theorem dX7_laySides_6 : decode cX7_laySides 6 = .ok (.iconst 0, 1) := by decide +kernel
theorem dX7_laySides_7 : decode cX7_laySides 7 = .ok (.putfield 119, 3) := by decide +kernel
theorem dX7_laySides_10 : decode cX7_laySides 10 = .ok (.iconst 0, 1) := by decide +kernel
theorem dX7_laySides_11 : decode cX7_laySides 11 = .ok (.istore 4, 2) := by decide +kernel
theorem dX7_laySides_13 : decode cX7_laySides 13 = .ok (.iload 4, 2) := by decide +kernel
theorem dX7_laySides_15 : decode cX7_laySides 15 = .ok (.bipush 32, 2) := by decide +kernel
theorem dX7_laySides_17 : decode cX7_laySides 17 = .ok (.if_icmp .ge 76, 3) := by decide +kernel
theorem dX7_laySides_20 : decode cX7_laySides 20 = .ok (.iload 4, 2) := by decide +kernel
theorem dX7_laySides_22 : decode cX7_laySides 22 = .ok (.iconst 5, 1) := by decide +kernel
theorem dX7_laySides_23 : decode cX7_laySides 23 = .ok (.iload_n 3, 1) := by decide +kernel
theorem dX7_laySides_24 : decode cX7_laySides 24 = .ok (.isub, 1) := by decide +kernel
theorem dX7_laySides_25 : decode cX7_laySides 25 = .ok (.ishr, 1) := by decide +kernel
theorem dX7_laySides_26 : decode cX7_laySides 26 = .ok (.iload_n 2, 1) := by decide +kernel
theorem dX7_laySides_27 : decode cX7_laySides 27 = .ok (.if_icmp .ne 60, 3) := by decide +kernel
theorem dX7_laySides_30 : decode cX7_laySides 30 = .ok (.aload_n 0, 1) := by decide +kernel
theorem dX7_laySides_31 : decode cX7_laySides 31 = .ok (.dup, 1) := by decide +kernel
theorem dX7_laySides_32 : decode cX7_laySides 32 = .ok (.getfield 116, 3) := by decide +kernel
theorem dX7_laySides_35 : decode cX7_laySides 35 = .ok (.aload_n 0, 1) := by decide +kernel
theorem dX7_laySides_36 : decode cX7_laySides 36 = .ok (.getfield 20, 3) := by decide +kernel
theorem dX7_laySides_39 : decode cX7_laySides 39 = .ok (.bipush 32, 2) := by decide +kernel
theorem dX7_laySides_41 : decode cX7_laySides 41 = .ok (.iload_n 1, 1) := by decide +kernel
theorem dX7_laySides_42 : decode cX7_laySides 42 = .ok (.imul, 1) := by decide +kernel
theorem dX7_laySides_43 : decode cX7_laySides 43 = .ok (.iload 4, 2) := by decide +kernel
theorem dX7_laySides_45 : decode cX7_laySides 45 = .ok (.iadd, 1) := by decide +kernel
theorem dX7_laySides_46 : decode cX7_laySides 46 = .ok (.iaload, 1) := by decide +kernel
theorem dX7_laySides_47 : decode cX7_laySides 47 = .ok (.iadd, 1) := by decide +kernel
theorem dX7_laySides_48 : decode cX7_laySides 48 = .ok (.putfield 116, 3) := by decide +kernel
theorem dX7_laySides_51 : decode cX7_laySides 51 = .ok (.aload_n 0, 1) := by decide +kernel
theorem dX7_laySides_52 : decode cX7_laySides 52 = .ok (.dup, 1) := by decide +kernel
theorem dX7_laySides_53 : decode cX7_laySides 53 = .ok (.getfield 119, 3) := by decide +kernel
theorem dX7_laySides_56 : decode cX7_laySides 56 = .ok (.iload 4, 2) := by decide +kernel
theorem dX7_laySides_58 : decode cX7_laySides 58 = .ok (.iconst 4, 1) := by decide +kernel
theorem dX7_laySides_59 : decode cX7_laySides 59 = .ok (.iload_n 3, 1) := by decide +kernel
theorem dX7_laySides_60 : decode cX7_laySides 60 = .ok (.isub, 1) := by decide +kernel
theorem dX7_laySides_61 : decode cX7_laySides 61 = .ok (.ishr, 1) := by decide +kernel
theorem dX7_laySides_62 : decode cX7_laySides 62 = .ok (.iconst 1, 1) := by decide +kernel
theorem dX7_laySides_63 : decode cX7_laySides 63 = .ok (.iand, 1) := by decide +kernel
theorem dX7_laySides_64 : decode cX7_laySides 64 = .ok (.ifCond .ne 18, 3) := by decide +kernel
theorem dX7_laySides_67 : decode cX7_laySides 67 = .ok (.aload_n 0, 1) := by decide +kernel
theorem dX7_laySides_68 : decode cX7_laySides 68 = .ok (.getfield 20, 3) := by decide +kernel
theorem dX7_laySides_71 : decode cX7_laySides 71 = .ok (.bipush 32, 2) := by decide +kernel
theorem dX7_laySides_73 : decode cX7_laySides 73 = .ok (.iload_n 1, 1) := by decide +kernel
theorem dX7_laySides_74 : decode cX7_laySides 74 = .ok (.imul, 1) := by decide +kernel
theorem dX7_laySides_75 : decode cX7_laySides 75 = .ok (.iload 4, 2) := by decide +kernel
theorem dX7_laySides_77 : decode cX7_laySides 77 = .ok (.iadd, 1) := by decide +kernel
theorem dX7_laySides_78 : decode cX7_laySides 78 = .ok (.iaload, 1) := by decide +kernel
theorem dX7_laySides_79 : decode cX7_laySides 79 = .ok (.goto 4, 3) := by decide +kernel
theorem dX7_laySides_82 : decode cX7_laySides 82 = .ok (.iconst 0, 1) := by decide +kernel
theorem dX7_laySides_83 : decode cX7_laySides 83 = .ok (.iadd, 1) := by decide +kernel
theorem dX7_laySides_84 : decode cX7_laySides 84 = .ok (.putfield 119, 3) := by decide +kernel
theorem dX7_laySides_87 : decode cX7_laySides 87 = .ok (.iinc 4 1, 3) := by decide +kernel
theorem dX7_laySides_90 : decode cX7_laySides 90 = .ok (.goto (-77), 3) := by decide +kernel
theorem dX7_laySides_93 : decode cX7_laySides 93 = .ok (.return_, 1) := by decide +kernel
end
section
theorem dX7_sideChance_0 : decode cX7_sideChance 0 = .ok (.aload_n 0, 1) := by decide +kernel
theorem dX7_sideChance_1 : decode cX7_sideChance 1 = .ok (.getfield 119, 3) := by decide +kernel
theorem dX7_sideChance_4 : decode cX7_sideChance 4 = .ok (.iload_n 1, 1) := by decide +kernel
theorem dX7_sideChance_5 : decode cX7_sideChance 5 = .ok (.imul, 1) := by decide +kernel
theorem dX7_sideChance_6 : decode cX7_sideChance 6 = .ok (.aload_n 0, 1) := by decide +kernel
theorem dX7_sideChance_7 : decode cX7_sideChance 7 = .ok (.getfield 116, 3) := by decide +kernel
theorem dX7_sideChance_10 : decode cX7_sideChance 10 = .ok (.iconst 2, 1) := by decide +kernel
theorem dX7_sideChance_11 : decode cX7_sideChance 11 = .ok (.idiv, 1) := by decide +kernel
theorem dX7_sideChance_12 : decode cX7_sideChance 12 = .ok (.iadd, 1) := by decide +kernel
theorem dX7_sideChance_13 : decode cX7_sideChance 13 = .ok (.aload_n 0, 1) := by decide +kernel
theorem dX7_sideChance_14 : decode cX7_sideChance 14 = .ok (.getfield 116, 3) := by decide +kernel
theorem dX7_sideChance_17 : decode cX7_sideChance 17 = .ok (.idiv, 1) := by decide +kernel
theorem dX7_sideChance_18 : decode cX7_sideChance 18 = .ok (.istore_n 2, 1) := by decide +kernel
theorem dX7_sideChance_19 : decode cX7_sideChance 19 = .ok (.iload_n 2, 1) := by decide +kernel
theorem dX7_sideChance_20 : decode cX7_sideChance 20 = .ok (.iconst 1, 1) := by decide +kernel
theorem dX7_sideChance_21 : decode cX7_sideChance 21 = .ok (.if_icmp .ge 7, 3) := by decide +kernel
theorem dX7_sideChance_24 : decode cX7_sideChance 24 = .ok (.iconst 1, 1) := by decide +kernel
theorem dX7_sideChance_25 : decode cX7_sideChance 25 = .ok (.goto 17, 3) := by decide +kernel
theorem dX7_sideChance_28 : decode cX7_sideChance 28 = .ok (.iload_n 2, 1) := by decide +kernel
theorem dX7_sideChance_29 : decode cX7_sideChance 29 = .ok (.iload_n 1, 1) := by decide +kernel
theorem dX7_sideChance_30 : decode cX7_sideChance 30 = .ok (.iconst 1, 1) := by decide +kernel
theorem dX7_sideChance_31 : decode cX7_sideChance 31 = .ok (.isub, 1) := by decide +kernel
theorem dX7_sideChance_32 : decode cX7_sideChance 32 = .ok (.if_icmp .le 9, 3) := by decide +kernel
theorem dX7_sideChance_35 : decode cX7_sideChance 35 = .ok (.iload_n 1, 1) := by decide +kernel
theorem dX7_sideChance_36 : decode cX7_sideChance 36 = .ok (.iconst 1, 1) := by decide +kernel
theorem dX7_sideChance_37 : decode cX7_sideChance 37 = .ok (.isub, 1) := by decide +kernel
theorem dX7_sideChance_38 : decode cX7_sideChance 38 = .ok (.goto 4, 3) := by decide +kernel
theorem dX7_sideChance_41 : decode cX7_sideChance 41 = .ok (.iload_n 2, 1) := by decide +kernel
theorem dX7_sideChance_42 : decode cX7_sideChance 42 = .ok (.ireturn, 1) := by decide +kernel
theorem dX7_writeSides_0 : decode cX7_writeSides 0 = .ok (.iconst 4, 1) := by decide +kernel
theorem dX7_writeSides_1 : decode cX7_writeSides 1 = .ok (.istore_n 3, 1) := by decide +kernel
theorem dX7_writeSides_2 : decode cX7_writeSides 2 = .ok (.iload_n 3, 1) := by decide +kernel
theorem dX7_writeSides_3 : decode cX7_writeSides 3 = .ok (.ifCond .lt 87, 3) := by decide +kernel
theorem dX7_writeSides_6 : decode cX7_writeSides 6 = .ok (.aload_n 0, 1) := by decide +kernel
theorem dX7_writeSides_7 : decode cX7_writeSides 7 = .ok (.iconst 0, 1) := by decide +kernel
theorem dX7_writeSides_8 : decode cX7_writeSides 8 = .ok (.iload_n 2, 1) := by decide +kernel
theorem dX7_writeSides_9 : decode cX7_writeSides 9 = .ok (.iconst 5, 1) := by decide +kernel
theorem dX7_writeSides_10 : decode cX7_writeSides 10 = .ok (.iload_n 3, 1) := by decide +kernel
theorem dX7_writeSides_11 : decode cX7_writeSides 11 = .ok (.isub, 1) := by decide +kernel
theorem dX7_writeSides_12 : decode cX7_writeSides 12 = .ok (.ishr, 1) := by decide +kernel
theorem dX7_writeSides_13 : decode cX7_writeSides 13 = .ok (.iload_n 3, 1) := by decide +kernel
theorem dX7_writeSides_14 : decode cX7_writeSides 14 = .ok (.invokevirtual 122, 3) := by decide +kernel
theorem dX7_writeSides_17 : decode cX7_writeSides 17 = .ok (.aload_n 0, 1) := by decide +kernel
theorem dX7_writeSides_18 : decode cX7_writeSides 18 = .ok (.getfield 119, 3) := by decide +kernel
theorem dX7_writeSides_21 : decode cX7_writeSides 21 = .ok (.ifCond .le 63, 3) := by decide +kernel
theorem dX7_writeSides_24 : decode cX7_writeSides 24 = .ok (.aload_n 0, 1) := by decide +kernel
theorem dX7_writeSides_25 : decode cX7_writeSides 25 = .ok (.getfield 119, 3) := by decide +kernel
theorem dX7_writeSides_28 : decode cX7_writeSides 28 = .ok (.aload_n 0, 1) := by decide +kernel
theorem dX7_writeSides_29 : decode cX7_writeSides 29 = .ok (.getfield 116, 3) := by decide +kernel
theorem dX7_writeSides_32 : decode cX7_writeSides 32 = .ok (.if_icmp .ge 52, 3) := by decide +kernel
theorem dX7_writeSides_35 : decode cX7_writeSides 35 = .ok (.aload_n 0, 1) := by decide +kernel
theorem dX7_writeSides_36 : decode cX7_writeSides 36 = .ok (.iconst 1, 1) := by decide +kernel
theorem dX7_writeSides_37 : decode cX7_writeSides 37 = .ok (.aload_n 0, 1) := by decide +kernel
theorem dX7_writeSides_38 : decode cX7_writeSides 38 = .ok (.getfield 59, 3) := by decide +kernel
theorem dX7_writeSides_41 : decode cX7_writeSides 41 = .ok (.ishl, 1) := by decide +kernel
theorem dX7_writeSides_42 : decode cX7_writeSides 42 = .ok (.invokevirtual 126, 3) := by decide +kernel
theorem dX7_writeSides_45 : decode cX7_writeSides 45 = .ok (.istore 4, 2) := by decide +kernel
theorem dX7_writeSides_47 : decode cX7_writeSides 47 = .ok (.iload_n 2, 1) := by decide +kernel
theorem dX7_writeSides_48 : decode cX7_writeSides 48 = .ok (.iconst 4, 1) := by decide +kernel
theorem dX7_writeSides_49 : decode cX7_writeSides 49 = .ok (.iload_n 3, 1) := by decide +kernel
theorem dX7_writeSides_50 : decode cX7_writeSides 50 = .ok (.isub, 1) := by decide +kernel
theorem dX7_writeSides_51 : decode cX7_writeSides 51 = .ok (.ishr, 1) := by decide +kernel
theorem dX7_writeSides_52 : decode cX7_writeSides 52 = .ok (.iconst 1, 1) := by decide +kernel
theorem dX7_writeSides_53 : decode cX7_writeSides 53 = .ok (.iand, 1) := by decide +kernel
theorem dX7_writeSides_54 : decode cX7_writeSides 54 = .ok (.ifCond .ne 14, 3) := by decide +kernel
theorem dX7_writeSides_57 : decode cX7_writeSides 57 = .ok (.aload_n 0, 1) := by decide +kernel
theorem dX7_writeSides_58 : decode cX7_writeSides 58 = .ok (.iload_n 1, 1) := by decide +kernel
theorem dX7_writeSides_59 : decode cX7_writeSides 59 = .ok (.iload 4, 2) := by decide +kernel
theorem dX7_writeSides_61 : decode cX7_writeSides 61 = .ok (.iconst 0, 1) := by decide +kernel
theorem dX7_writeSides_62 : decode cX7_writeSides 62 = .ok (.invokevirtual 129, 3) := by decide +kernel
theorem dX7_writeSides_65 : decode cX7_writeSides 65 = .ok (.goto 19, 3) := by decide +kernel
theorem dX7_writeSides_68 : decode cX7_writeSides 68 = .ok (.aload_n 0, 1) := by decide +kernel
theorem dX7_writeSides_69 : decode cX7_writeSides 69 = .ok (.iload_n 1, 1) := by decide +kernel
theorem dX7_writeSides_70 : decode cX7_writeSides 70 = .ok (.iconst 1, 1) := by decide +kernel
theorem dX7_writeSides_71 : decode cX7_writeSides 71 = .ok (.aload_n 0, 1) := by decide +kernel
theorem dX7_writeSides_72 : decode cX7_writeSides 72 = .ok (.getfield 59, 3) := by decide +kernel
theorem dX7_writeSides_75 : decode cX7_writeSides 75 = .ok (.ishl, 1) := by decide +kernel
theorem dX7_writeSides_76 : decode cX7_writeSides 76 = .ok (.iload 4, 2) := by decide +kernel
theorem dX7_writeSides_78 : decode cX7_writeSides 78 = .ok (.isub, 1) := by decide +kernel
theorem dX7_writeSides_79 : decode cX7_writeSides 79 = .ok (.iload 4, 2) := by decide +kernel
theorem dX7_writeSides_81 : decode cX7_writeSides 81 = .ok (.invokevirtual 129, 3) := by decide +kernel
theorem dX7_writeSides_84 : decode cX7_writeSides 84 = .ok (.iinc 3 (-1), 3) := by decide +kernel
theorem dX7_writeSides_87 : decode cX7_writeSides 87 = .ok (.goto (-85), 3) := by decide +kernel
theorem dX7_writeSides_90 : decode cX7_writeSides 90 = .ok (.return_, 1) := by decide +kernel
theorem dX7_mayWrite_0 : decode cX7_mayWrite 0 = .ok (.aload_n 0, 1) := by decide +kernel
theorem dX7_mayWrite_1 : decode cX7_mayWrite 1 = .ok (.getfield 69, 3) := by decide +kernel
theorem dX7_mayWrite_4 : decode cX7_mayWrite 4 = .ok (.istore_n 1, 1) := by decide +kernel
theorem dX7_mayWrite_5 : decode cX7_mayWrite 5 = .ok (.iconst 0, 1) := by decide +kernel
theorem dX7_mayWrite_6 : decode cX7_mayWrite 6 = .ok (.istore_n 2, 1) := by decide +kernel
theorem dX7_mayWrite_7 : decode cX7_mayWrite 7 = .ok (.iload_n 2, 1) := by decide +kernel
theorem dX7_mayWrite_8 : decode cX7_mayWrite 8 = .ok (.aload_n 0, 1) := by decide +kernel
theorem dX7_mayWrite_9 : decode cX7_mayWrite 9 = .ok (.getfield 65, 3) := by decide +kernel
theorem dX7_mayWrite_12 : decode cX7_mayWrite 12 = .ok (.if_icmp .ge 33, 3) := by decide +kernel
theorem dX7_mayWrite_15 : decode cX7_mayWrite 15 = .ok (.iload_n 1, 1) := by decide +kernel
theorem dX7_mayWrite_16 : decode cX7_mayWrite 16 = .ok (.ifCond .eq 29, 3) := by decide +kernel
theorem dX7_mayWrite_19 : decode cX7_mayWrite 19 = .ok (.aload_n 0, 1) := by decide +kernel
theorem dX7_mayWrite_20 : decode cX7_mayWrite 20 = .ok (.getfield 20, 3) := by decide +kernel
theorem dX7_mayWrite_23 : decode cX7_mayWrite 23 = .ok (.aload_n 0, 1) := by decide +kernel
theorem dX7_mayWrite_24 : decode cX7_mayWrite 24 = .ok (.getfield 13, 3) := by decide +kernel
theorem dX7_mayWrite_27 : decode cX7_mayWrite 27 = .ok (.iload_n 2, 1) := by decide +kernel
theorem dX7_mayWrite_28 : decode cX7_mayWrite 28 = .ok (.iaload, 1) := by decide +kernel
theorem dX7_mayWrite_29 : decode cX7_mayWrite 29 = .ok (.iaload, 1) := by decide +kernel
theorem dX7_mayWrite_30 : decode cX7_mayWrite 30 = .ok (.ifCond .le 7, 3) := by decide +kernel
theorem dX7_mayWrite_33 : decode cX7_mayWrite 33 = .ok (.iconst 1, 1) := by decide +kernel
theorem dX7_mayWrite_34 : decode cX7_mayWrite 34 = .ok (.goto 4, 3) := by decide +kernel
theorem dX7_mayWrite_37 : decode cX7_mayWrite 37 = .ok (.iconst 0, 1) := by decide +kernel
theorem dX7_mayWrite_38 : decode cX7_mayWrite 38 = .ok (.istore_n 1, 1) := by decide +kernel
theorem dX7_mayWrite_39 : decode cX7_mayWrite 39 = .ok (.iinc 2 1, 3) := by decide +kernel
theorem dX7_mayWrite_42 : decode cX7_mayWrite 42 = .ok (.goto (-35), 3) := by decide +kernel
theorem dX7_mayWrite_45 : decode cX7_mayWrite 45 = .ok (.iload_n 1, 1) := by decide +kernel
theorem dX7_mayWrite_46 : decode cX7_mayWrite 46 = .ok (.ireturn, 1) := by decide +kernel
theorem dX7_writeForm_0 : decode cX7_writeForm 0 = .ok (.aload_n 0, 1) := by decide +kernel
theorem dX7_writeForm_1 : decode cX7_writeForm 1 = .ok (.iconst 0, 1) := by decide +kernel
theorem dX7_writeForm_2 : decode cX7_writeForm 2 = .ok (.putfield 96, 3) := by decide +kernel
theorem dX7_writeForm_5 : decode cX7_writeForm 5 = .ok (.aload_n 0, 1) := by decide +kernel
theorem dX7_writeForm_6 : decode cX7_writeForm 6 = .ok (.iconst 4, 1) := by decide +kernel
theorem dX7_writeForm_7 : decode cX7_writeForm 7 = .ok (.iload_n 1, 1) := by decide +kernel
theorem dX7_writeForm_8 : decode cX7_writeForm 8 = .ok (.imul, 1) := by decide +kernel
theorem dX7_writeForm_9 : decode cX7_writeForm 9 = .ok (.aload_n 0, 1) := by decide +kernel
theorem dX7_writeForm_10 : decode cX7_writeForm 10 = .ok (.getfield 7, 3) := by decide +kernel
theorem dX7_writeForm_13 : decode cX7_writeForm 13 = .ok (.iconst 4, 1) := by decide +kernel
theorem dX7_writeForm_14 : decode cX7_writeForm 14 = .ok (.if_icmp .ne 7, 3) := by decide +kernel
theorem dX7_writeForm_17 : decode cX7_writeForm 17 = .ok (.iconst 2, 1) := by decide +kernel
theorem dX7_writeForm_18 : decode cX7_writeForm 18 = .ok (.goto 9, 3) := by decide +kernel
theorem dX7_writeForm_21 : decode cX7_writeForm 21 = .ok (.aload_n 0, 1) := by decide +kernel
theorem dX7_writeForm_22 : decode cX7_writeForm 22 = .ok (.getfield 7, 3) := by decide +kernel
theorem dX7_writeForm_25 : decode cX7_writeForm 25 = .ok (.iconst 1, 1) := by decide +kernel
theorem dX7_writeForm_26 : decode cX7_writeForm 26 = .ok (.isub, 1) := by decide +kernel
theorem dX7_writeForm_27 : decode cX7_writeForm 27 = .ok (.iadd, 1) := by decide +kernel
theorem dX7_writeForm_28 : decode cX7_writeForm 28 = .ok (.invokevirtual 99, 3) := by decide +kernel
theorem dX7_writeForm_31 : decode cX7_writeForm 31 = .ok (.aload_n 0, 1) := by decide +kernel
theorem dX7_writeForm_32 : decode cX7_writeForm 32 = .ok (.aload_n 0, 1) := by decide +kernel
theorem dX7_writeForm_33 : decode cX7_writeForm 33 = .ok (.getfield 59, 3) := by decide +kernel
theorem dX7_writeForm_36 : decode cX7_writeForm 36 = .ok (.invokevirtual 99, 3) := by decide +kernel
theorem dX7_writeForm_39 : decode cX7_writeForm 39 = .ok (.aload_n 0, 1) := by decide +kernel
theorem dX7_writeForm_40 : decode cX7_writeForm 40 = .ok (.aload_n 0, 1) := by decide +kernel
theorem dX7_writeForm_41 : decode cX7_writeForm 41 = .ok (.getfield 65, 3) := by decide +kernel
theorem dX7_writeForm_44 : decode cX7_writeForm 44 = .ok (.i2l, 1) := by decide +kernel
theorem dX7_writeForm_45 : decode cX7_writeForm 45 = .ok (.iconst 2, 1) := by decide +kernel
theorem dX7_writeForm_46 : decode cX7_writeForm 46 = .ok (.invokevirtual 132, 3) := by decide +kernel
theorem dX7_writeForm_49 : decode cX7_writeForm 49 = .ok (.aload_n 0, 1) := by decide +kernel
theorem dX7_writeForm_50 : decode cX7_writeForm 50 = .ok (.invokevirtual 136, 3) := by decide +kernel
theorem dX7_writeForm_53 : decode cX7_writeForm 53 = .ok (.iconst 0, 1) := by decide +kernel
theorem dX7_writeForm_54 : decode cX7_writeForm 54 = .ok (.istore_n 2, 1) := by decide +kernel
theorem dX7_writeForm_55 : decode cX7_writeForm 55 = .ok (.iload_n 2, 1) := by decide +kernel
theorem dX7_writeForm_56 : decode cX7_writeForm 56 = .ok (.iconst 4, 1) := by decide +kernel
theorem dX7_writeForm_57 : decode cX7_writeForm 57 = .ok (.if_icmp .ge 23, 3) := by decide +kernel
theorem dX7_writeForm_60 : decode cX7_writeForm 60 = .ok (.aload_n 0, 1) := by decide +kernel
theorem dX7_writeForm_61 : decode cX7_writeForm 61 = .ok (.getfield 41, 3) := by decide +kernel
theorem dX7_writeForm_64 : decode cX7_writeForm 64 = .ok (.iload_n 2, 1) := by decide +kernel
theorem dX7_writeForm_65 : decode cX7_writeForm 65 = .ok (.iload_n 1, 1) := by decide +kernel
theorem dX7_writeForm_66 : decode cX7_writeForm 66 = .ok (.aload_n 0, 1) := by decide +kernel
theorem dX7_writeForm_67 : decode cX7_writeForm 67 = .ok (.getfield 59, 3) := by decide +kernel
theorem dX7_writeForm_70 : decode cX7_writeForm 70 = .ok (.invokestatic 139, 3) := by decide +kernel
theorem dX7_writeForm_73 : decode cX7_writeForm 73 = .ok (.lastore, 1) := by decide +kernel
theorem dX7_writeForm_74 : decode cX7_writeForm 74 = .ok (.iinc 2 1, 3) := by decide +kernel
theorem dX7_writeForm_77 : decode cX7_writeForm 77 = .ok (.goto (-22), 3) := by decide +kernel
theorem dX7_writeForm_80 : decode cX7_writeForm 80 = .ok (.aload_n 0, 1) := by decide +kernel
theorem dX7_writeForm_81 : decode cX7_writeForm 81 = .ok (.iconst 0, 1) := by decide +kernel
theorem dX7_writeForm_82 : decode cX7_writeForm 82 = .ok (.putfield 113, 3) := by decide +kernel
theorem dX7_writeForm_85 : decode cX7_writeForm 85 = .ok (.aload_n 0, 1) := by decide +kernel
theorem dX7_writeForm_86 : decode cX7_writeForm 86 = .ok (.getfield 65, 3) := by decide +kernel
theorem dX7_writeForm_89 : decode cX7_writeForm 89 = .ok (.iconst 1, 1) := by decide +kernel
theorem dX7_writeForm_90 : decode cX7_writeForm 90 = .ok (.isub, 1) := by decide +kernel
theorem dX7_writeForm_91 : decode cX7_writeForm 91 = .ok (.istore_n 2, 1) := by decide +kernel
theorem dX7_writeForm_92 : decode cX7_writeForm 92 = .ok (.iload_n 2, 1) := by decide +kernel
theorem dX7_writeForm_93 : decode cX7_writeForm 93 = .ok (.ifCond .lt 123, 3) := by decide +kernel
theorem dX7_writeForm_96 : decode cX7_writeForm 96 = .ok (.aload_n 0, 1) := by decide +kernel
theorem dX7_writeForm_97 : decode cX7_writeForm 97 = .ok (.getfield 13, 3) := by decide +kernel
theorem dX7_writeForm_100 : decode cX7_writeForm 100 = .ok (.iload_n 2, 1) := by decide +kernel
theorem dX7_writeForm_101 : decode cX7_writeForm 101 = .ok (.iaload, 1) := by decide +kernel
theorem dX7_writeForm_102 : decode cX7_writeForm 102 = .ok (.istore_n 3, 1) := by decide +kernel
theorem dX7_writeForm_103 : decode cX7_writeForm 103 = .ok (.iload_n 2, 1) := by decide +kernel
theorem dX7_writeForm_104 : decode cX7_writeForm 104 = .ok (.aload_n 0, 1) := by decide +kernel
theorem dX7_writeForm_105 : decode cX7_writeForm 105 = .ok (.getfield 7, 3) := by decide +kernel
theorem dX7_writeForm_108 : decode cX7_writeForm 108 = .ok (.irem, 1) := by decide +kernel
theorem dX7_writeForm_109 : decode cX7_writeForm 109 = .ok (.istore 4, 2) := by decide +kernel
theorem dX7_writeForm_111 : decode cX7_writeForm 111 = .ok (.iload_n 1, 1) := by decide +kernel
theorem dX7_writeForm_112 : decode cX7_writeForm 112 = .ok (.iconst 3, 1) := by decide +kernel
theorem dX7_writeForm_113 : decode cX7_writeForm 113 = .ok (.if_icmp .ne 13, 3) := by decide +kernel
theorem dX7_writeForm_116 : decode cX7_writeForm 116 = .ok (.aload_n 0, 1) := by decide +kernel
theorem dX7_writeForm_117 : decode cX7_writeForm 117 = .ok (.iload 4, 2) := by decide +kernel
theorem dX7_writeForm_119 : decode cX7_writeForm 119 = .ok (.iload_n 3, 1) := by decide +kernel
theorem dX7_writeForm_120 : decode cX7_writeForm 120 = .ok (.invokevirtual 143, 3) := by decide +kernel
theorem dX7_writeForm_123 : decode cX7_writeForm 123 = .ok (.goto 87, 3) := by decide +kernel
theorem dX7_writeForm_126 : decode cX7_writeForm 126 = .ok (.aload_n 0, 1) := by decide +kernel
theorem dX7_writeForm_127 : decode cX7_writeForm 127 = .ok (.getfield 20, 3) := by decide +kernel
theorem dX7_writeForm_130 : decode cX7_writeForm 130 = .ok (.iload_n 3, 1) := by decide +kernel
theorem dX7_writeForm_131 : decode cX7_writeForm 131 = .ok (.iaload, 1) := by decide +kernel
theorem dX7_writeForm_132 : decode cX7_writeForm 132 = .ok (.iconst 1, 1) := by decide +kernel
theorem dX7_writeForm_133 : decode cX7_writeForm 133 = .ok (.aload_n 0, 1) := by decide +kernel
theorem dX7_writeForm_134 : decode cX7_writeForm 134 = .ok (.getfield 59, 3) := by decide +kernel
theorem dX7_writeForm_137 : decode cX7_writeForm 137 = .ok (.ishl, 1) := by decide +kernel
theorem dX7_writeForm_138 : decode cX7_writeForm 138 = .ok (.if_icmp .ge 72, 3) := by decide +kernel
theorem dX7_writeForm_141 : decode cX7_writeForm 141 = .ok (.iload_n 1, 1) := by decide +kernel
theorem dX7_writeForm_142 : decode cX7_writeForm 142 = .ok (.ifCond .ne 24, 3) := by decide +kernel
theorem dX7_writeForm_145 : decode cX7_writeForm 145 = .ok (.aload_n 0, 1) := by decide +kernel
theorem dX7_writeForm_146 : decode cX7_writeForm 146 = .ok (.iload 4, 2) := by decide +kernel
theorem dX7_writeForm_148 : decode cX7_writeForm 148 = .ok (.aload_n 0, 1) := by decide +kernel
theorem dX7_writeForm_149 : decode cX7_writeForm 149 = .ok (.getfield 20, 3) := by decide +kernel
theorem dX7_writeForm_152 : decode cX7_writeForm 152 = .ok (.iload_n 3, 1) := by decide +kernel
theorem dX7_writeForm_153 : decode cX7_writeForm 153 = .ok (.iaload, 1) := by decide +kernel
theorem dX7_writeForm_154 : decode cX7_writeForm 154 = .ok (.aload_n 0, 1) := by decide +kernel
theorem dX7_writeForm_155 : decode cX7_writeForm 155 = .ok (.getfield 23, 3) := by decide +kernel
theorem dX7_writeForm_158 : decode cX7_writeForm 158 = .ok (.iload_n 3, 1) := by decide +kernel
theorem dX7_writeForm_159 : decode cX7_writeForm 159 = .ok (.iaload, 1) := by decide +kernel
theorem dX7_writeForm_160 : decode cX7_writeForm 160 = .ok (.invokevirtual 129, 3) := by decide +kernel
theorem dX7_writeForm_163 : decode cX7_writeForm 163 = .ok (.goto 47, 3) := by decide +kernel
theorem dX7_writeForm_166 : decode cX7_writeForm 166 = .ok (.iload_n 1, 1) := by decide +kernel
theorem dX7_writeForm_167 : decode cX7_writeForm 167 = .ok (.iconst 1, 1) := by decide +kernel
theorem dX7_writeForm_168 : decode cX7_writeForm 168 = .ok (.if_icmp .ne 24, 3) := by decide +kernel
theorem dX7_writeForm_171 : decode cX7_writeForm 171 = .ok (.aload_n 0, 1) := by decide +kernel
theorem dX7_writeForm_172 : decode cX7_writeForm 172 = .ok (.iload 4, 2) := by decide +kernel
theorem dX7_writeForm_174 : decode cX7_writeForm 174 = .ok (.aload_n 0, 1) := by decide +kernel
theorem dX7_writeForm_175 : decode cX7_writeForm 175 = .ok (.getfield 20, 3) := by decide +kernel
theorem dX7_writeForm_178 : decode cX7_writeForm 178 = .ok (.iload_n 3, 1) := by decide +kernel
theorem dX7_writeForm_179 : decode cX7_writeForm 179 = .ok (.iaload, 1) := by decide +kernel
theorem dX7_writeForm_180 : decode cX7_writeForm 180 = .ok (.aload_n 0, 1) := by decide +kernel
theorem dX7_writeForm_181 : decode cX7_writeForm 181 = .ok (.getfield 23, 3) := by decide +kernel
theorem dX7_writeForm_184 : decode cX7_writeForm 184 = .ok (.iload_n 3, 1) := by decide +kernel
theorem dX7_writeForm_185 : decode cX7_writeForm 185 = .ok (.iaload, 1) := by decide +kernel
theorem dX7_writeForm_186 : decode cX7_writeForm 186 = .ok (.invokevirtual 146, 3) := by decide +kernel
theorem dX7_writeForm_189 : decode cX7_writeForm 189 = .ok (.goto 21, 3) := by decide +kernel
theorem dX7_writeForm_192 : decode cX7_writeForm 192 = .ok (.aload_n 0, 1) := by decide +kernel
theorem dX7_writeForm_193 : decode cX7_writeForm 193 = .ok (.iload 4, 2) := by decide +kernel
theorem dX7_writeForm_195 : decode cX7_writeForm 195 = .ok (.aload_n 0, 1) := by decide +kernel
theorem dX7_writeForm_196 : decode cX7_writeForm 196 = .ok (.getfield 20, 3) := by decide +kernel
theorem dX7_writeForm_199 : decode cX7_writeForm 199 = .ok (.iload_n 3, 1) := by decide +kernel
theorem dX7_writeForm_200 : decode cX7_writeForm 200 = .ok (.iaload, 1) := by decide +kernel
theorem dX7_writeForm_201 : decode cX7_writeForm 201 = .ok (.aload_n 0, 1) := by decide +kernel
theorem dX7_writeForm_202 : decode cX7_writeForm 202 = .ok (.getfield 23, 3) := by decide +kernel
theorem dX7_writeForm_205 : decode cX7_writeForm 205 = .ok (.iload_n 3, 1) := by decide +kernel
theorem dX7_writeForm_206 : decode cX7_writeForm 206 = .ok (.iaload, 1) := by decide +kernel
theorem dX7_writeForm_207 : decode cX7_writeForm 207 = .ok (.invokevirtual 149, 3) := by decide +kernel
theorem dX7_writeForm_210 : decode cX7_writeForm 210 = .ok (.iinc 2 (-1), 3) := by decide +kernel
theorem dX7_writeForm_213 : decode cX7_writeForm 213 = .ok (.goto (-121), 3) := by decide +kernel
theorem dX7_writeForm_216 : decode cX7_writeForm 216 = .ok (.iconst 0, 1) := by decide +kernel
theorem dX7_writeForm_217 : decode cX7_writeForm 217 = .ok (.istore_n 2, 1) := by decide +kernel
theorem dX7_writeForm_218 : decode cX7_writeForm 218 = .ok (.iload_n 2, 1) := by decide +kernel
theorem dX7_writeForm_219 : decode cX7_writeForm 219 = .ok (.aload_n 0, 1) := by decide +kernel
theorem dX7_writeForm_220 : decode cX7_writeForm 220 = .ok (.getfield 7, 3) := by decide +kernel
theorem dX7_writeForm_223 : decode cX7_writeForm 223 = .ok (.if_icmp .ge 51, 3) := by decide +kernel
theorem dX7_writeForm_226 : decode cX7_writeForm 226 = .ok (.aload_n 0, 1) := by decide +kernel
theorem dX7_writeForm_227 : decode cX7_writeForm 227 = .ok (.aload_n 0, 1) := by decide +kernel
theorem dX7_writeForm_228 : decode cX7_writeForm 228 = .ok (.getfield 41, 3) := by decide +kernel
theorem dX7_writeForm_231 : decode cX7_writeForm 231 = .ok (.iload_n 2, 1) := by decide +kernel
theorem dX7_writeForm_232 : decode cX7_writeForm 232 = .ok (.laload, 1) := by decide +kernel
theorem dX7_writeForm_233 : decode cX7_writeForm 233 = .ok (.iload_n 1, 1) := by decide +kernel
theorem dX7_writeForm_234 : decode cX7_writeForm 234 = .ok (.iconst 1, 1) := by decide +kernel
theorem dX7_writeForm_235 : decode cX7_writeForm 235 = .ok (.if_icmp .ne 8, 3) := by decide +kernel
theorem dX7_writeForm_238 : decode cX7_writeForm 238 = .ok (.bipush 8, 2) := by decide +kernel
theorem dX7_writeForm_240 : decode cX7_writeForm 240 = .ok (.goto 13, 3) := by decide +kernel
theorem dX7_writeForm_243 : decode cX7_writeForm 243 = .ok (.iload_n 1, 1) := by decide +kernel
theorem dX7_writeForm_244 : decode cX7_writeForm 244 = .ok (.iconst 2, 1) := by decide +kernel
theorem dX7_writeForm_245 : decode cX7_writeForm 245 = .ok (.if_icmp .ne 7, 3) := by decide +kernel
theorem dX7_writeForm_248 : decode cX7_writeForm 248 = .ok (.iconst 2, 1) := by decide +kernel
theorem dX7_writeForm_249 : decode cX7_writeForm 249 = .ok (.goto 4, 3) := by decide +kernel
theorem dX7_writeForm_252 : decode cX7_writeForm 252 = .ok (.iconst 4, 1) := by decide +kernel
theorem dX7_writeForm_253 : decode cX7_writeForm 253 = .ok (.invokevirtual 132, 3) := by decide +kernel
theorem dX7_writeForm_256 : decode cX7_writeForm 256 = .ok (.aload_n 0, 1) := by decide +kernel
theorem dX7_writeForm_257 : decode cX7_writeForm 257 = .ok (.getfield 45, 3) := by decide +kernel
theorem dX7_writeForm_260 : decode cX7_writeForm 260 = .ok (.iload_n 2, 1) := by decide +kernel
theorem dX7_writeForm_261 : decode cX7_writeForm 261 = .ok (.aload_n 0, 1) := by decide +kernel
theorem dX7_writeForm_262 : decode cX7_writeForm 262 = .ok (.getfield 41, 3) := by decide +kernel
theorem dX7_writeForm_265 : decode cX7_writeForm 265 = .ok (.iload_n 2, 1) := by decide +kernel
theorem dX7_writeForm_266 : decode cX7_writeForm 266 = .ok (.laload, 1) := by decide +kernel
theorem dX7_writeForm_267 : decode cX7_writeForm 267 = .ok (.lastore, 1) := by decide +kernel
theorem dX7_writeForm_268 : decode cX7_writeForm 268 = .ok (.iinc 2 1, 3) := by decide +kernel
theorem dX7_writeForm_271 : decode cX7_writeForm 271 = .ok (.goto (-53), 3) := by decide +kernel
theorem dX7_writeForm_274 : decode cX7_writeForm 274 = .ok (.aload_n 0, 1) := by decide +kernel
theorem dX7_writeForm_275 : decode cX7_writeForm 275 = .ok (.aload_n 0, 1) := by decide +kernel
theorem dX7_writeForm_276 : decode cX7_writeForm 276 = .ok (.getfield 7, 3) := by decide +kernel
theorem dX7_writeForm_279 : decode cX7_writeForm 279 = .ok (.putfield 152, 3) := by decide +kernel
theorem dX7_writeForm_282 : decode cX7_writeForm 282 = .ok (.aload_n 0, 1) := by decide +kernel
theorem dX7_writeForm_283 : decode cX7_writeForm 283 = .ok (.iconst 0, 1) := by decide +kernel
theorem dX7_writeForm_284 : decode cX7_writeForm 284 = .ok (.putfield 102, 3) := by decide +kernel
theorem dX7_writeForm_287 : decode cX7_writeForm 287 = .ok (.aload_n 0, 1) := by decide +kernel
theorem dX7_writeForm_288 : decode cX7_writeForm 288 = .ok (.getfield 113, 3) := by decide +kernel
theorem dX7_writeForm_291 : decode cX7_writeForm 291 = .ok (.iconst 1, 1) := by decide +kernel
theorem dX7_writeForm_292 : decode cX7_writeForm 292 = .ok (.isub, 1) := by decide +kernel
theorem dX7_writeForm_293 : decode cX7_writeForm 293 = .ok (.istore_n 2, 1) := by decide +kernel
theorem dX7_writeForm_294 : decode cX7_writeForm 294 = .ok (.iload_n 2, 1) := by decide +kernel
theorem dX7_writeForm_295 : decode cX7_writeForm 295 = .ok (.ifCond .lt 58, 3) := by decide +kernel
theorem dX7_writeForm_298 : decode cX7_writeForm 298 = .ok (.iload_n 1, 1) := by decide +kernel
theorem dX7_writeForm_299 : decode cX7_writeForm 299 = .ok (.iconst 1, 1) := by decide +kernel
theorem dX7_writeForm_300 : decode cX7_writeForm 300 = .ok (.if_icmp .ne 18, 3) := by decide +kernel
theorem dX7_writeForm_303 : decode cX7_writeForm 303 = .ok (.aload_n 0, 1) := by decide +kernel
theorem dX7_writeForm_304 : decode cX7_writeForm 304 = .ok (.aload_n 0, 1) := by decide +kernel
theorem dX7_writeForm_305 : decode cX7_writeForm 305 = .ok (.getfield 49, 3) := by decide +kernel
theorem dX7_writeForm_308 : decode cX7_writeForm 308 = .ok (.iload_n 2, 1) := by decide +kernel
theorem dX7_writeForm_309 : decode cX7_writeForm 309 = .ok (.iaload, 1) := by decide +kernel
theorem dX7_writeForm_310 : decode cX7_writeForm 310 = .ok (.i2l, 1) := by decide +kernel
theorem dX7_writeForm_311 : decode cX7_writeForm 311 = .ok (.iconst 4, 1) := by decide +kernel
theorem dX7_writeForm_312 : decode cX7_writeForm 312 = .ok (.invokevirtual 132, 3) := by decide +kernel
theorem dX7_writeForm_315 : decode cX7_writeForm 315 = .ok (.goto 32, 3) := by decide +kernel
theorem dX7_writeForm_318 : decode cX7_writeForm 318 = .ok (.iload_n 1, 1) := by decide +kernel
theorem dX7_writeForm_319 : decode cX7_writeForm 319 = .ok (.iconst 2, 1) := by decide +kernel
theorem dX7_writeForm_320 : decode cX7_writeForm 320 = .ok (.if_icmp .ne 17, 3) := by decide +kernel
theorem dX7_writeForm_323 : decode cX7_writeForm 323 = .ok (.aload_n 0, 1) := by decide +kernel
theorem dX7_writeForm_324 : decode cX7_writeForm 324 = .ok (.aload_n 0, 1) := by decide +kernel
theorem dX7_writeForm_325 : decode cX7_writeForm 325 = .ok (.getfield 49, 3) := by decide +kernel
theorem dX7_writeForm_328 : decode cX7_writeForm 328 = .ok (.iload_n 2, 1) := by decide +kernel
theorem dX7_writeForm_329 : decode cX7_writeForm 329 = .ok (.iaload, 1) := by decide +kernel
theorem dX7_writeForm_330 : decode cX7_writeForm 330 = .ok (.iconst 1, 1) := by decide +kernel
theorem dX7_writeForm_331 : decode cX7_writeForm 331 = .ok (.invokevirtual 109, 3) := by decide +kernel
theorem dX7_writeForm_334 : decode cX7_writeForm 334 = .ok (.goto 13, 3) := by decide +kernel
theorem dX7_writeForm_337 : decode cX7_writeForm 337 = .ok (.aload_n 0, 1) := by decide +kernel
theorem dX7_writeForm_338 : decode cX7_writeForm 338 = .ok (.aload_n 0, 1) := by decide +kernel
theorem dX7_writeForm_339 : decode cX7_writeForm 339 = .ok (.getfield 49, 3) := by decide +kernel
theorem dX7_writeForm_342 : decode cX7_writeForm 342 = .ok (.iload_n 2, 1) := by decide +kernel
theorem dX7_writeForm_343 : decode cX7_writeForm 343 = .ok (.iaload, 1) := by decide +kernel
theorem dX7_writeForm_344 : decode cX7_writeForm 344 = .ok (.invokevirtual 99, 3) := by decide +kernel
theorem dX7_writeForm_347 : decode cX7_writeForm 347 = .ok (.iinc 2 (-1), 3) := by decide +kernel
theorem dX7_writeForm_350 : decode cX7_writeForm 350 = .ok (.goto (-56), 3) := by decide +kernel
theorem dX7_writeForm_353 : decode cX7_writeForm 353 = .ok (.return_, 1) := by decide +kernel
theorem dX7_write_0 : decode cX7_write 0 = .ok (.aload_n 0, 1) := by decide +kernel
theorem dX7_write_1 : decode cX7_write 1 = .ok (.iconst 0, 1) := by decide +kernel
theorem dX7_write_2 : decode cX7_write 2 = .ok (.putfield 62, 3) := by decide +kernel
theorem dX7_write_5 : decode cX7_write 5 = .ok (.aload_n 0, 1) := by decide +kernel
theorem dX7_write_6 : decode cX7_write 6 = .ok (.invokevirtual 155, 3) := by decide +kernel
theorem dX7_write_9 : decode cX7_write 9 = .ok (.ifCond .ne 6, 3) := by decide +kernel
theorem dX7_write_12 : decode cX7_write 12 = .ok (.bipush (-2), 2) := by decide +kernel
theorem dX7_write_14 : decode cX7_write 14 = .ok (.ireturn, 1) := by decide +kernel
theorem dX7_write_15 : decode cX7_write 15 = .ok (.aload_n 0, 1) := by decide +kernel
theorem dX7_write_16 : decode cX7_write 16 = .ok (.aload_n 0, 1) := by decide +kernel
theorem dX7_write_17 : decode cX7_write 17 = .ok (.getfield 91, 3) := by decide +kernel
theorem dX7_write_20 : decode cX7_write 20 = .ok (.invokevirtual 159, 3) := by decide +kernel
theorem dX7_write_23 : decode cX7_write 23 = .ok (.aload_n 0, 1) := by decide +kernel
theorem dX7_write_24 : decode cX7_write 24 = .ok (.getfield 96, 3) := by decide +kernel
theorem dX7_write_27 : decode cX7_write 27 = .ok (.ireturn, 1) := by decide +kernel
theorem dX7_fail_0 : decode cX7_fail 0 = .ok (.aload_n 0, 1) := by decide +kernel
theorem dX7_fail_1 : decode cX7_fail 1 = .ok (.getfield 162, 3) := by decide +kernel
theorem dX7_fail_4 : decode cX7_fail 4 = .ok (.ifCond .ne 8, 3) := by decide +kernel
theorem dX7_fail_7 : decode cX7_fail 7 = .ok (.aload_n 0, 1) := by decide +kernel
theorem dX7_fail_8 : decode cX7_fail 8 = .ok (.iload_n 1, 1) := by decide +kernel
theorem dX7_fail_9 : decode cX7_fail 9 = .ok (.putfield 162, 3) := by decide +kernel
theorem dX7_fail_12 : decode cX7_fail 12 = .ok (.return_, 1) := by decide +kernel
theorem dX7_next_0 : decode cX7_next 0 = .ok (.aload_n 0, 1) := by decide +kernel
theorem dX7_next_1 : decode cX7_next 1 = .ok (.getfield 162, 3) := by decide +kernel
theorem dX7_next_4 : decode cX7_next 4 = .ok (.ifCond .le 5, 3) := by decide +kernel
theorem dX7_next_7 : decode cX7_next 7 = .ok (.iconst 0, 1) := by decide +kernel
theorem dX7_next_8 : decode cX7_next 8 = .ok (.ireturn, 1) := by decide +kernel
theorem dX7_next_9 : decode cX7_next 9 = .ok (.aload_n 0, 1) := by decide +kernel
theorem dX7_next_10 : decode cX7_next 10 = .ok (.getfield 165, 3) := by decide +kernel
theorem dX7_next_13 : decode cX7_next 13 = .ok (.aload_n 0, 1) := by decide +kernel
theorem dX7_next_14 : decode cX7_next 14 = .ok (.getfield 96, 3) := by decide +kernel
theorem dX7_next_17 : decode cX7_next 17 = .ok (.if_icmp .lt 10, 3) := by decide +kernel
theorem dX7_next_20 : decode cX7_next 20 = .ok (.aload_n 0, 1) := by decide +kernel
theorem dX7_next_21 : decode cX7_next 21 = .ok (.iconst 1, 1) := by decide +kernel
theorem dX7_next_22 : decode cX7_next 22 = .ok (.invokevirtual 168, 3) := by decide +kernel
theorem dX7_next_25 : decode cX7_next 25 = .ok (.iconst 0, 1) := by decide +kernel
theorem dX7_next_26 : decode cX7_next 26 = .ok (.ireturn, 1) := by decide +kernel
theorem dX7_next_27 : decode cX7_next 27 = .ok (.aload_n 0, 1) := by decide +kernel
theorem dX7_next_28 : decode cX7_next 28 = .ok (.dup, 1) := by decide +kernel
theorem dX7_next_29 : decode cX7_next 29 = .ok (.getfield 165, 3) := by decide +kernel
theorem dX7_next_32 : decode cX7_next 32 = .ok (.iconst 1, 1) := by decide +kernel
theorem dX7_next_33 : decode cX7_next 33 = .ok (.iadd, 1) := by decide +kernel
theorem dX7_next_34 : decode cX7_next 34 = .ok (.putfield 165, 3) := by decide +kernel
theorem dX7_next_37 : decode cX7_next 37 = .ok (.aload_n 0, 1) := by decide +kernel
theorem dX7_next_38 : decode cX7_next 38 = .ok (.getfield 38, 3) := by decide +kernel
theorem dX7_next_41 : decode cX7_next 41 = .ok (.aload_n 0, 1) := by decide +kernel
theorem dX7_next_42 : decode cX7_next 42 = .ok (.getfield 165, 3) := by decide +kernel
theorem dX7_next_45 : decode cX7_next 45 = .ok (.iconst 1, 1) := by decide +kernel
theorem dX7_next_46 : decode cX7_next 46 = .ok (.isub, 1) := by decide +kernel
theorem dX7_next_47 : decode cX7_next 47 = .ok (.iaload, 1) := by decide +kernel
theorem dX7_next_48 : decode cX7_next 48 = .ok (.ireturn, 1) := by decide +kernel
theorem dX7_nextWide_0 : decode cX7_nextWide 0 = .ok (.lconst 0, 1) := by decide +kernel
theorem dX7_nextWide_1 : decode cX7_nextWide 1 = .ok (.lstore_n 2, 1) := by decide +kernel
theorem dX7_nextWide_2 : decode cX7_nextWide 2 = .ok (.iconst 0, 1) := by decide +kernel
theorem dX7_nextWide_3 : decode cX7_nextWide 3 = .ok (.istore 4, 2) := by decide +kernel
theorem dX7_nextWide_5 : decode cX7_nextWide 5 = .ok (.iload 4, 2) := by decide +kernel
theorem dX7_nextWide_7 : decode cX7_nextWide 7 = .ok (.iload_n 1, 1) := by decide +kernel
theorem dX7_nextWide_8 : decode cX7_nextWide 8 = .ok (.if_icmp .ge 20, 3) := by decide +kernel
theorem dX7_nextWide_11 : decode cX7_nextWide 11 = .ok (.lload_n 2, 1) := by decide +kernel
theorem dX7_nextWide_12 : decode cX7_nextWide 12 = .ok (.bipush 8, 2) := by decide +kernel
theorem dX7_nextWide_14 : decode cX7_nextWide 14 = .ok (.lshl, 1) := by decide +kernel
theorem dX7_nextWide_15 : decode cX7_nextWide 15 = .ok (.aload_n 0, 1) := by decide +kernel
theorem dX7_nextWide_16 : decode cX7_nextWide 16 = .ok (.invokevirtual 171, 3) := by decide +kernel
theorem dX7_nextWide_19 : decode cX7_nextWide 19 = .ok (.i2l, 1) := by decide +kernel
theorem dX7_nextWide_20 : decode cX7_nextWide 20 = .ok (.lor, 1) := by decide +kernel
theorem dX7_nextWide_21 : decode cX7_nextWide 21 = .ok (.lstore_n 2, 1) := by decide +kernel
theorem dX7_nextWide_22 : decode cX7_nextWide 22 = .ok (.iinc 4 1, 3) := by decide +kernel
theorem dX7_nextWide_25 : decode cX7_nextWide 25 = .ok (.goto (-20), 3) := by decide +kernel
theorem dX7_nextWide_28 : decode cX7_nextWide 28 = .ok (.lload_n 2, 1) := by decide +kernel
theorem dX7_nextWide_29 : decode cX7_nextWide 29 = .ok (.lreturn, 1) := by decide +kernel
theorem dX7_nextBit_0 : decode cX7_nextBit 0 = .ok (.aload_n 0, 1) := by decide +kernel
theorem dX7_nextBit_1 : decode cX7_nextBit 1 = .ok (.getfield 174, 3) := by decide +kernel
theorem dX7_nextBit_4 : decode cX7_nextBit 4 = .ok (.ifCond .ne 23, 3) := by decide +kernel
theorem dX7_nextBit_7 : decode cX7_nextBit 7 = .ok (.aload_n 0, 1) := by decide +kernel
theorem dX7_nextBit_8 : decode cX7_nextBit 8 = .ok (.invokevirtual 171, 3) := by decide +kernel
theorem dX7_nextBit_11 : decode cX7_nextBit 11 = .ok (.istore_n 1, 1) := by decide +kernel
theorem dX7_nextBit_12 : decode cX7_nextBit 12 = .ok (.aload_n 0, 1) := by decide +kernel
theorem dX7_nextBit_13 : decode cX7_nextBit 13 = .ok (.getfield 162, 3) := by decide +kernel
theorem dX7_nextBit_16 : decode cX7_nextBit 16 = .ok (.ifCond .le 5, 3) := by decide +kernel
theorem dX7_nextBit_19 : decode cX7_nextBit 19 = .ok (.iconst 0, 1) := by decide +kernel
theorem dX7_nextBit_20 : decode cX7_nextBit 20 = .ok (.ireturn, 1) := by decide +kernel
theorem dX7_nextBit_21 : decode cX7_nextBit 21 = .ok (.aload_n 0, 1) := by decide +kernel
theorem dX7_nextBit_22 : decode cX7_nextBit 22 = .ok (.bipush 8, 2) := by decide +kernel
theorem dX7_nextBit_24 : decode cX7_nextBit 24 = .ok (.putfield 174, 3) := by decide +kernel
theorem dX7_nextBit_27 : decode cX7_nextBit 27 = .ok (.aload_n 0, 1) := by decide +kernel
theorem dX7_nextBit_28 : decode cX7_nextBit 28 = .ok (.dup, 1) := by decide +kernel
theorem dX7_nextBit_29 : decode cX7_nextBit 29 = .ok (.getfield 174, 3) := by decide +kernel
theorem dX7_nextBit_32 : decode cX7_nextBit 32 = .ok (.iconst 1, 1) := by decide +kernel
theorem dX7_nextBit_33 : decode cX7_nextBit 33 = .ok (.isub, 1) := by decide +kernel
theorem dX7_nextBit_34 : decode cX7_nextBit 34 = .ok (.putfield 174, 3) := by decide +kernel
theorem dX7_nextBit_37 : decode cX7_nextBit 37 = .ok (.aload_n 0, 1) := by decide +kernel
theorem dX7_nextBit_38 : decode cX7_nextBit 38 = .ok (.getfield 38, 3) := by decide +kernel
theorem dX7_nextBit_41 : decode cX7_nextBit 41 = .ok (.aload_n 0, 1) := by decide +kernel
theorem dX7_nextBit_42 : decode cX7_nextBit 42 = .ok (.getfield 165, 3) := by decide +kernel
theorem dX7_nextBit_45 : decode cX7_nextBit 45 = .ok (.iconst 1, 1) := by decide +kernel
theorem dX7_nextBit_46 : decode cX7_nextBit 46 = .ok (.isub, 1) := by decide +kernel
theorem dX7_nextBit_47 : decode cX7_nextBit 47 = .ok (.iaload, 1) := by decide +kernel
theorem dX7_nextBit_48 : decode cX7_nextBit 48 = .ok (.aload_n 0, 1) := by decide +kernel
theorem dX7_nextBit_49 : decode cX7_nextBit 49 = .ok (.getfield 174, 3) := by decide +kernel
theorem dX7_nextBit_52 : decode cX7_nextBit 52 = .ok (.ishr, 1) := by decide +kernel
theorem dX7_nextBit_53 : decode cX7_nextBit 53 = .ok (.iconst 1, 1) := by decide +kernel
theorem dX7_nextBit_54 : decode cX7_nextBit 54 = .ok (.iand, 1) := by decide +kernel
theorem dX7_nextBit_55 : decode cX7_nextBit 55 = .ok (.ireturn, 1) := by decide +kernel
theorem dX7_readTable_0 : decode cX7_readTable 0 = .ok (.iconst 1, 1) := by decide +kernel
theorem dX7_readTable_1 : decode cX7_readTable 1 = .ok (.aload_n 0, 1) := by decide +kernel
theorem dX7_readTable_2 : decode cX7_readTable 2 = .ok (.getfield 26, 3) := by decide +kernel
theorem dX7_readTable_5 : decode cX7_readTable 5 = .ok (.iconst 1, 1) := by decide +kernel
theorem dX7_readTable_6 : decode cX7_readTable 6 = .ok (.iaload, 1) := by decide +kernel
theorem dX7_readTable_7 : decode cX7_readTable 7 = .ok (.ishl, 1) := by decide +kernel
theorem dX7_readTable_8 : decode cX7_readTable 8 = .ok (.istore_n 1, 1) := by decide +kernel
theorem dX7_readTable_9 : decode cX7_readTable 9 = .ok (.aload_n 0, 1) := by decide +kernel
theorem dX7_readTable_10 : decode cX7_readTable 10 = .ok (.iconst 0, 1) := by decide +kernel
theorem dX7_readTable_11 : decode cX7_readTable 11 = .ok (.putfield 174, 3) := by decide +kernel
theorem dX7_readTable_14 : decode cX7_readTable 14 = .ok (.iconst 0, 1) := by decide +kernel
theorem dX7_readTable_15 : decode cX7_readTable 15 = .ok (.istore_n 2, 1) := by decide +kernel
theorem dX7_readTable_16 : decode cX7_readTable 16 = .ok (.iload_n 2, 1) := by decide +kernel
theorem dX7_readTable_17 : decode cX7_readTable 17 = .ok (.bipush 32, 2) := by decide +kernel
theorem dX7_readTable_19 : decode cX7_readTable 19 = .ok (.if_icmp .ge 76, 3) := by decide +kernel
theorem dX7_readTable_22 : decode cX7_readTable 22 = .ok (.iconst 0, 1) := by decide +kernel
theorem dX7_readTable_23 : decode cX7_readTable 23 = .ok (.istore_n 3, 1) := by decide +kernel
theorem dX7_readTable_24 : decode cX7_readTable 24 = .ok (.iload_n 1, 1) := by decide +kernel
theorem dX7_readTable_25 : decode cX7_readTable 25 = .ok (.invokestatic 105, 3) := by decide +kernel
theorem dX7_readTable_28 : decode cX7_readTable 28 = .ok (.istore 4, 2) := by decide +kernel
theorem dX7_readTable_30 : decode cX7_readTable 30 = .ok (.iload 4, 2) := by decide +kernel
theorem dX7_readTable_32 : decode cX7_readTable 32 = .ok (.ifCond .le 18, 3) := by decide +kernel
theorem dX7_readTable_35 : decode cX7_readTable 35 = .ok (.iconst 2, 1) := by decide +kernel
theorem dX7_readTable_36 : decode cX7_readTable 36 = .ok (.iload_n 3, 1) := by decide +kernel
theorem dX7_readTable_37 : decode cX7_readTable 37 = .ok (.imul, 1) := by decide +kernel
theorem dX7_readTable_38 : decode cX7_readTable 38 = .ok (.aload_n 0, 1) := by decide +kernel
theorem dX7_readTable_39 : decode cX7_readTable 39 = .ok (.invokevirtual 177, 3) := by decide +kernel
theorem dX7_readTable_42 : decode cX7_readTable 42 = .ok (.iadd, 1) := by decide +kernel
theorem dX7_readTable_43 : decode cX7_readTable 43 = .ok (.istore_n 3, 1) := by decide +kernel
theorem dX7_readTable_44 : decode cX7_readTable 44 = .ok (.iinc 4 (-1), 3) := by decide +kernel
theorem dX7_readTable_47 : decode cX7_readTable 47 = .ok (.goto (-17), 3) := by decide +kernel
theorem dX7_readTable_50 : decode cX7_readTable 50 = .ok (.aload_n 0, 1) := by decide +kernel
theorem dX7_readTable_51 : decode cX7_readTable 51 = .ok (.getfield 162, 3) := by decide +kernel
theorem dX7_readTable_54 : decode cX7_readTable 54 = .ok (.ifCond .ne 13, 3) := by decide +kernel
theorem dX7_readTable_57 : decode cX7_readTable 57 = .ok (.iload_n 3, 1) := by decide +kernel
theorem dX7_readTable_58 : decode cX7_readTable 58 = .ok (.iload_n 1, 1) := by decide +kernel
theorem dX7_readTable_59 : decode cX7_readTable 59 = .ok (.if_icmp .le 8, 3) := by decide +kernel
theorem dX7_readTable_62 : decode cX7_readTable 62 = .ok (.aload_n 0, 1) := by decide +kernel
theorem dX7_readTable_63 : decode cX7_readTable 63 = .ok (.iconst 3, 1) := by decide +kernel
theorem dX7_readTable_64 : decode cX7_readTable 64 = .ok (.invokevirtual 168, 3) := by decide +kernel
theorem dX7_readTable_67 : decode cX7_readTable 67 = .ok (.aload_n 0, 1) := by decide +kernel
theorem dX7_readTable_68 : decode cX7_readTable 68 = .ok (.getfield 20, 3) := by decide +kernel
theorem dX7_readTable_71 : decode cX7_readTable 71 = .ok (.bipush 32, 2) := by decide +kernel
theorem dX7_readTable_73 : decode cX7_readTable 73 = .ok (.iload_n 2, 1) := by decide +kernel
theorem dX7_readTable_74 : decode cX7_readTable 74 = .ok (.iadd, 1) := by decide +kernel
theorem dX7_readTable_75 : decode cX7_readTable 75 = .ok (.iload_n 3, 1) := by decide +kernel
theorem dX7_readTable_76 : decode cX7_readTable 76 = .ok (.iastore, 1) := by decide +kernel
theorem dX7_readTable_77 : decode cX7_readTable 77 = .ok (.iload_n 1, 1) := by decide +kernel
theorem dX7_readTable_78 : decode cX7_readTable 78 = .ok (.iload_n 3, 1) := by decide +kernel
theorem dX7_readTable_79 : decode cX7_readTable 79 = .ok (.isub, 1) := by decide +kernel
theorem dX7_readTable_80 : decode cX7_readTable 80 = .ok (.istore_n 1, 1) := by decide +kernel
theorem dX7_readTable_81 : decode cX7_readTable 81 = .ok (.aload_n 0, 1) := by decide +kernel
theorem dX7_readTable_82 : decode cX7_readTable 82 = .ok (.getfield 162, 3) := by decide +kernel
theorem dX7_readTable_85 : decode cX7_readTable 85 = .ok (.ifCond .le 4, 3) := by decide +kernel
theorem dX7_readTable_88 : decode cX7_readTable 88 = .ok (.return_, 1) := by decide +kernel
theorem dX7_readTable_89 : decode cX7_readTable 89 = .ok (.iinc 2 1, 3) := by decide +kernel
theorem dX7_readTable_92 : decode cX7_readTable 92 = .ok (.goto (-76), 3) := by decide +kernel
theorem dX7_readTable_95 : decode cX7_readTable 95 = .ok (.iconst 1, 1) := by decide +kernel
theorem dX7_readTable_96 : decode cX7_readTable 96 = .ok (.istore_n 2, 1) := by decide +kernel
theorem dX7_readTable_97 : decode cX7_readTable 97 = .ok (.aload_n 0, 1) := by decide +kernel
theorem dX7_readTable_98 : decode cX7_readTable 98 = .ok (.getfield 174, 3) := by decide +kernel
theorem dX7_readTable_101 : decode cX7_readTable 101 = .ok (.ifCond .le 23, 3) := by decide +kernel
theorem dX7_readTable_104 : decode cX7_readTable 104 = .ok (.aload_n 0, 1) := by decide +kernel
theorem dX7_readTable_105 : decode cX7_readTable 105 = .ok (.invokevirtual 177, 3) := by decide +kernel
theorem dX7_readTable_108 : decode cX7_readTable 108 = .ok (.ifCond .ne 11, 3) := by decide +kernel
theorem dX7_readTable_111 : decode cX7_readTable 111 = .ok (.iload_n 2, 1) := by decide +kernel
theorem dX7_readTable_112 : decode cX7_readTable 112 = .ok (.ifCond .eq 7, 3) := by decide +kernel
theorem dX7_readTable_115 : decode cX7_readTable 115 = .ok (.iconst 1, 1) := by decide +kernel
theorem dX7_readTable_116 : decode cX7_readTable 116 = .ok (.goto 4, 3) := by decide +kernel
theorem dX7_readTable_119 : decode cX7_readTable 119 = .ok (.iconst 0, 1) := by decide +kernel
theorem dX7_readTable_120 : decode cX7_readTable 120 = .ok (.istore_n 2, 1) := by decide +kernel
theorem dX7_readTable_121 : decode cX7_readTable 121 = .ok (.goto (-24), 3) := by decide +kernel
theorem dX7_readTable_124 : decode cX7_readTable 124 = .ok (.iload_n 1, 1) := by decide +kernel
theorem dX7_readTable_125 : decode cX7_readTable 125 = .ok (.ifCond .gt 7, 3) := by decide +kernel
theorem dX7_readTable_128 : decode cX7_readTable 128 = .ok (.iload_n 2, 1) := by decide +kernel
theorem dX7_readTable_129 : decode cX7_readTable 129 = .ok (.ifCond .ne 8, 3) := by decide +kernel
theorem dX7_readTable_132 : decode cX7_readTable 132 = .ok (.aload_n 0, 1) := by decide +kernel
theorem dX7_readTable_133 : decode cX7_readTable 133 = .ok (.iconst 3, 1) := by decide +kernel
theorem dX7_readTable_134 : decode cX7_readTable 134 = .ok (.invokevirtual 168, 3) := by decide +kernel
theorem dX7_readTable_137 : decode cX7_readTable 137 = .ok (.return_, 1) := by decide +kernel
end
section
theorem dX7_isInSpan_0 : decode cX7_isInSpan 0 = .ok (.aload_n 0, 1) := by decide +kernel
theorem dX7_isInSpan_1 : decode cX7_isInSpan 1 = .ok (.getfield 180, 3) := by decide +kernel
theorem dX7_isInSpan_4 : decode cX7_isInSpan 4 = .ok (.iconst 1, 1) := by decide +kernel
theorem dX7_isInSpan_5 : decode cX7_isInSpan 5 = .ok (.if_icmp .ne 19, 3) := by decide +kernel
theorem dX7_isInSpan_8 : decode cX7_isInSpan 8 = .ok (.lload_n 1, 1) := by decide +kernel
theorem dX7_isInSpan_9 : decode cX7_isInSpan 9 = .ok (.ldc2_w 77, 3) := by decide +kernel
theorem dX7_isInSpan_12 : decode cX7_isInSpan 12 = .ok (.lcmp, 1) := by decide +kernel
theorem dX7_isInSpan_13 : decode cX7_isInSpan 13 = .ok (.ifCond .lt 7, 3) := by decide +kernel
theorem dX7_isInSpan_16 : decode cX7_isInSpan 16 = .ok (.iconst 1, 1) := by decide +kernel
theorem dX7_isInSpan_17 : decode cX7_isInSpan 17 = .ok (.goto 72, 3) := by decide +kernel
theorem dX7_isInSpan_20 : decode cX7_isInSpan 20 = .ok (.iconst 0, 1) := by decide +kernel
theorem dX7_isInSpan_21 : decode cX7_isInSpan 21 = .ok (.goto 68, 3) := by decide +kernel
theorem dX7_isInSpan_24 : decode cX7_isInSpan 24 = .ok (.aload_n 0, 1) := by decide +kernel
theorem dX7_isInSpan_25 : decode cX7_isInSpan 25 = .ok (.getfield 180, 3) := by decide +kernel
theorem dX7_isInSpan_28 : decode cX7_isInSpan 28 = .ok (.iconst 2, 1) := by decide +kernel
theorem dX7_isInSpan_29 : decode cX7_isInSpan 29 = .ok (.if_icmp .ne 39, 3) := by decide +kernel
theorem dX7_isInSpan_32 : decode cX7_isInSpan 32 = .ok (.lload_n 1, 1) := by decide +kernel
theorem dX7_isInSpan_33 : decode cX7_isInSpan 33 = .ok (.lconst 1, 1) := by decide +kernel
theorem dX7_isInSpan_34 : decode cX7_isInSpan 34 = .ok (.aload_n 0, 1) := by decide +kernel
theorem dX7_isInSpan_35 : decode cX7_isInSpan 35 = .ok (.getfield 26, 3) := by decide +kernel
theorem dX7_isInSpan_38 : decode cX7_isInSpan 38 = .ok (.iconst 1, 1) := by decide +kernel
theorem dX7_isInSpan_39 : decode cX7_isInSpan 39 = .ok (.iaload, 1) := by decide +kernel
theorem dX7_isInSpan_40 : decode cX7_isInSpan 40 = .ok (.lshl, 1) := by decide +kernel
theorem dX7_isInSpan_41 : decode cX7_isInSpan 41 = .ok (.lcmp, 1) := by decide +kernel
theorem dX7_isInSpan_42 : decode cX7_isInSpan 42 = .ok (.ifCond .lt 22, 3) := by decide +kernel
theorem dX7_isInSpan_45 : decode cX7_isInSpan 45 = .ok (.lload_n 1, 1) := by decide +kernel
theorem dX7_isInSpan_46 : decode cX7_isInSpan 46 = .ok (.ldc2_w 79, 3) := by decide +kernel
theorem dX7_isInSpan_49 : decode cX7_isInSpan 49 = .ok (.aload_n 0, 1) := by decide +kernel
theorem dX7_isInSpan_50 : decode cX7_isInSpan 50 = .ok (.getfield 26, 3) := by decide +kernel
theorem dX7_isInSpan_53 : decode cX7_isInSpan 53 = .ok (.iconst 1, 1) := by decide +kernel
theorem dX7_isInSpan_54 : decode cX7_isInSpan 54 = .ok (.iaload, 1) := by decide +kernel
theorem dX7_isInSpan_55 : decode cX7_isInSpan 55 = .ok (.lshl, 1) := by decide +kernel
theorem dX7_isInSpan_56 : decode cX7_isInSpan 56 = .ok (.lcmp, 1) := by decide +kernel
theorem dX7_isInSpan_57 : decode cX7_isInSpan 57 = .ok (.ifCond .ge 7, 3) := by decide +kernel
theorem dX7_isInSpan_60 : decode cX7_isInSpan 60 = .ok (.iconst 1, 1) := by decide +kernel
theorem dX7_isInSpan_61 : decode cX7_isInSpan 61 = .ok (.goto 28, 3) := by decide +kernel
theorem dX7_isInSpan_64 : decode cX7_isInSpan 64 = .ok (.iconst 0, 1) := by decide +kernel
theorem dX7_isInSpan_65 : decode cX7_isInSpan 65 = .ok (.goto 24, 3) := by decide +kernel
theorem dX7_isInSpan_68 : decode cX7_isInSpan 68 = .ok (.lload_n 1, 1) := by decide +kernel
theorem dX7_isInSpan_69 : decode cX7_isInSpan 69 = .ok (.ldc2_w 94, 3) := by decide +kernel
theorem dX7_isInSpan_72 : decode cX7_isInSpan 72 = .ok (.lcmp, 1) := by decide +kernel
theorem dX7_isInSpan_73 : decode cX7_isInSpan 73 = .ok (.ifCond .lt 15, 3) := by decide +kernel
theorem dX7_isInSpan_76 : decode cX7_isInSpan 76 = .ok (.lload_n 1, 1) := by decide +kernel
theorem dX7_isInSpan_77 : decode cX7_isInSpan 77 = .ok (.ldc2_w 77, 3) := by decide +kernel
theorem dX7_isInSpan_80 : decode cX7_isInSpan 80 = .ok (.lcmp, 1) := by decide +kernel
theorem dX7_isInSpan_81 : decode cX7_isInSpan 81 = .ok (.ifCond .ge 7, 3) := by decide +kernel
theorem dX7_isInSpan_84 : decode cX7_isInSpan 84 = .ok (.iconst 1, 1) := by decide +kernel
theorem dX7_isInSpan_85 : decode cX7_isInSpan 85 = .ok (.goto 4, 3) := by decide +kernel
theorem dX7_isInSpan_88 : decode cX7_isInSpan 88 = .ok (.iconst 0, 1) := by decide +kernel
theorem dX7_isInSpan_89 : decode cX7_isInSpan 89 = .ok (.ireturn, 1) := by decide +kernel
theorem dX7_signOf_0 : decode cX7_signOf 0 = .ok (.iconst 0, 1) := by decide +kernel
theorem dX7_signOf_1 : decode cX7_signOf 1 = .ok (.istore_n 2, 1) := by decide +kernel
theorem dX7_signOf_2 : decode cX7_signOf 2 = .ok (.iload_n 1, 1) := by decide +kernel
theorem dX7_signOf_3 : decode cX7_signOf 3 = .ok (.aload_n 0, 1) := by decide +kernel
theorem dX7_signOf_4 : decode cX7_signOf 4 = .ok (.getfield 23, 3) := by decide +kernel
theorem dX7_signOf_7 : decode cX7_signOf 7 = .ok (.bipush 32, 2) := by decide +kernel
theorem dX7_signOf_9 : decode cX7_signOf 9 = .ok (.iload_n 2, 1) := by decide +kernel
theorem dX7_signOf_10 : decode cX7_signOf 10 = .ok (.iadd, 1) := by decide +kernel
theorem dX7_signOf_11 : decode cX7_signOf 11 = .ok (.iaload, 1) := by decide +kernel
theorem dX7_signOf_12 : decode cX7_signOf 12 = .ok (.aload_n 0, 1) := by decide +kernel
theorem dX7_signOf_13 : decode cX7_signOf 13 = .ok (.getfield 20, 3) := by decide +kernel
theorem dX7_signOf_16 : decode cX7_signOf 16 = .ok (.bipush 32, 2) := by decide +kernel
theorem dX7_signOf_18 : decode cX7_signOf 18 = .ok (.iload_n 2, 1) := by decide +kernel
theorem dX7_signOf_19 : decode cX7_signOf 19 = .ok (.iadd, 1) := by decide +kernel
theorem dX7_signOf_20 : decode cX7_signOf 20 = .ok (.iaload, 1) := by decide +kernel
theorem dX7_signOf_21 : decode cX7_signOf 21 = .ok (.iadd, 1) := by decide +kernel
theorem dX7_signOf_22 : decode cX7_signOf 22 = .ok (.if_icmp .lt 9, 3) := by decide +kernel
theorem dX7_signOf_25 : decode cX7_signOf 25 = .ok (.iinc 2 1, 3) := by decide +kernel
theorem dX7_signOf_28 : decode cX7_signOf 28 = .ok (.goto (-26), 3) := by decide +kernel
theorem dX7_signOf_31 : decode cX7_signOf 31 = .ok (.iload_n 2, 1) := by decide +kernel
theorem dX7_signOf_32 : decode cX7_signOf 32 = .ok (.ireturn, 1) := by decide +kernel
theorem dX7_readBytes_0 : decode cX7_readBytes 0 = .ok (.aload_n 0, 1) := by decide +kernel
theorem dX7_readBytes_1 : decode cX7_readBytes 1 = .ok (.getfield 56, 3) := by decide +kernel
theorem dX7_readBytes_4 : decode cX7_readBytes 4 = .ok (.iload_n 1, 1) := by decide +kernel
theorem dX7_readBytes_5 : decode cX7_readBytes 5 = .ok (.laload, 1) := by decide +kernel
theorem dX7_readBytes_6 : decode cX7_readBytes 6 = .ok (.lstore 4, 2) := by decide +kernel
theorem dX7_readBytes_8 : decode cX7_readBytes 8 = .ok (.aload_n 0, 1) := by decide +kernel
theorem dX7_readBytes_9 : decode cX7_readBytes 9 = .ok (.getfield 26, 3) := by decide +kernel
theorem dX7_readBytes_12 : decode cX7_readBytes 12 = .ok (.iconst 1, 1) := by decide +kernel
theorem dX7_readBytes_13 : decode cX7_readBytes 13 = .ok (.iaload, 1) := by decide +kernel
theorem dX7_readBytes_14 : decode cX7_readBytes 14 = .ok (.istore 6, 2) := by decide +kernel
theorem dX7_readBytes_16 : decode cX7_readBytes 16 = .ok (.iload_n 2, 1) := by decide +kernel
theorem dX7_readBytes_17 : decode cX7_readBytes 17 = .ok (.i2l, 1) := by decide +kernel
theorem dX7_readBytes_18 : decode cX7_readBytes 18 = .ok (.lload 4, 2) := by decide +kernel
theorem dX7_readBytes_20 : decode cX7_readBytes 20 = .ok (.iload 6, 2) := by decide +kernel
theorem dX7_readBytes_22 : decode cX7_readBytes 22 = .ok (.lshr, 1) := by decide +kernel
theorem dX7_readBytes_23 : decode cX7_readBytes 23 = .ok (.lmul, 1) := by decide +kernel
theorem dX7_readBytes_24 : decode cX7_readBytes 24 = .ok (.lload 4, 2) := by decide +kernel
theorem dX7_readBytes_26 : decode cX7_readBytes 26 = .ok (.lconst 1, 1) := by decide +kernel
theorem dX7_readBytes_27 : decode cX7_readBytes 27 = .ok (.iload 6, 2) := by decide +kernel
theorem dX7_readBytes_29 : decode cX7_readBytes 29 = .ok (.lshl, 1) := by decide +kernel
theorem dX7_readBytes_30 : decode cX7_readBytes 30 = .ok (.lconst 1, 1) := by decide +kernel
theorem dX7_readBytes_31 : decode cX7_readBytes 31 = .ok (.lsub, 1) := by decide +kernel
theorem dX7_readBytes_32 : decode cX7_readBytes 32 = .ok (.land, 1) := by decide +kernel
theorem dX7_readBytes_33 : decode cX7_readBytes 33 = .ok (.ladd, 1) := by decide +kernel
theorem dX7_readBytes_34 : decode cX7_readBytes 34 = .ok (.iload_n 3, 1) := by decide +kernel
theorem dX7_readBytes_35 : decode cX7_readBytes 35 = .ok (.i2l, 1) := by decide +kernel
theorem dX7_readBytes_36 : decode cX7_readBytes 36 = .ok (.lsub, 1) := by decide +kernel
theorem dX7_readBytes_37 : decode cX7_readBytes 37 = .ok (.lstore 4, 2) := by decide +kernel
theorem dX7_readBytes_39 : decode cX7_readBytes 39 = .ok (.lload 4, 2) := by decide +kernel
theorem dX7_readBytes_41 : decode cX7_readBytes 41 = .ok (.ldc2_w 94, 3) := by decide +kernel
theorem dX7_readBytes_44 : decode cX7_readBytes 44 = .ok (.lcmp, 1) := by decide +kernel
theorem dX7_readBytes_45 : decode cX7_readBytes 45 = .ok (.ifCond .ge 26, 3) := by decide +kernel
theorem dX7_readBytes_48 : decode cX7_readBytes 48 = .ok (.aload_n 0, 1) := by decide +kernel
theorem dX7_readBytes_49 : decode cX7_readBytes 49 = .ok (.getfield 162, 3) := by decide +kernel
theorem dX7_readBytes_52 : decode cX7_readBytes 52 = .ok (.ifCond .ne 19, 3) := by decide +kernel
theorem dX7_readBytes_55 : decode cX7_readBytes 55 = .ok (.lload 4, 2) := by decide +kernel
theorem dX7_readBytes_57 : decode cX7_readBytes 57 = .ok (.bipush 8, 2) := by decide +kernel
theorem dX7_readBytes_59 : decode cX7_readBytes 59 = .ok (.lshl, 1) := by decide +kernel
theorem dX7_readBytes_60 : decode cX7_readBytes 60 = .ok (.aload_n 0, 1) := by decide +kernel
theorem dX7_readBytes_61 : decode cX7_readBytes 61 = .ok (.invokevirtual 171, 3) := by decide +kernel
theorem dX7_readBytes_64 : decode cX7_readBytes 64 = .ok (.i2l, 1) := by decide +kernel
theorem dX7_readBytes_65 : decode cX7_readBytes 65 = .ok (.lor, 1) := by decide +kernel
theorem dX7_readBytes_66 : decode cX7_readBytes 66 = .ok (.lstore 4, 2) := by decide +kernel
theorem dX7_readBytes_68 : decode cX7_readBytes 68 = .ok (.goto (-29), 3) := by decide +kernel
theorem dX7_readBytes_71 : decode cX7_readBytes 71 = .ok (.aload_n 0, 1) := by decide +kernel
theorem dX7_readBytes_72 : decode cX7_readBytes 72 = .ok (.getfield 162, 3) := by decide +kernel
theorem dX7_readBytes_75 : decode cX7_readBytes 75 = .ok (.ifCond .ne 11, 3) := by decide +kernel
theorem dX7_readBytes_78 : decode cX7_readBytes 78 = .ok (.aload_n 0, 1) := by decide +kernel
theorem dX7_readBytes_79 : decode cX7_readBytes 79 = .ok (.getfield 56, 3) := by decide +kernel
theorem dX7_readBytes_82 : decode cX7_readBytes 82 = .ok (.iload_n 1, 1) := by decide +kernel
theorem dX7_readBytes_83 : decode cX7_readBytes 83 = .ok (.lload 4, 2) := by decide +kernel
theorem dX7_readBytes_85 : decode cX7_readBytes 85 = .ok (.lastore, 1) := by decide +kernel
theorem dX7_readBytes_86 : decode cX7_readBytes 86 = .ok (.return_, 1) := by decide +kernel
theorem dX7_readWords_0 : decode cX7_readWords 0 = .ok (.aload_n 0, 1) := by decide +kernel
theorem dX7_readWords_1 : decode cX7_readWords 1 = .ok (.getfield 56, 3) := by decide +kernel
theorem dX7_readWords_4 : decode cX7_readWords 4 = .ok (.iload_n 1, 1) := by decide +kernel
theorem dX7_readWords_5 : decode cX7_readWords 5 = .ok (.laload, 1) := by decide +kernel
theorem dX7_readWords_6 : decode cX7_readWords 6 = .ok (.lstore 4, 2) := by decide +kernel
theorem dX7_readWords_8 : decode cX7_readWords 8 = .ok (.aload_n 0, 1) := by decide +kernel
theorem dX7_readWords_9 : decode cX7_readWords 9 = .ok (.getfield 26, 3) := by decide +kernel
theorem dX7_readWords_12 : decode cX7_readWords 12 = .ok (.iconst 1, 1) := by decide +kernel
theorem dX7_readWords_13 : decode cX7_readWords 13 = .ok (.iaload, 1) := by decide +kernel
theorem dX7_readWords_14 : decode cX7_readWords 14 = .ok (.istore 6, 2) := by decide +kernel
theorem dX7_readWords_16 : decode cX7_readWords 16 = .ok (.iload_n 2, 1) := by decide +kernel
theorem dX7_readWords_17 : decode cX7_readWords 17 = .ok (.i2l, 1) := by decide +kernel
theorem dX7_readWords_18 : decode cX7_readWords 18 = .ok (.lload 4, 2) := by decide +kernel
theorem dX7_readWords_20 : decode cX7_readWords 20 = .ok (.iload 6, 2) := by decide +kernel
theorem dX7_readWords_22 : decode cX7_readWords 22 = .ok (.lshr, 1) := by decide +kernel
theorem dX7_readWords_23 : decode cX7_readWords 23 = .ok (.lmul, 1) := by decide +kernel
theorem dX7_readWords_24 : decode cX7_readWords 24 = .ok (.lload 4, 2) := by decide +kernel
theorem dX7_readWords_26 : decode cX7_readWords 26 = .ok (.lconst 1, 1) := by decide +kernel
theorem dX7_readWords_27 : decode cX7_readWords 27 = .ok (.iload 6, 2) := by decide +kernel
theorem dX7_readWords_29 : decode cX7_readWords 29 = .ok (.lshl, 1) := by decide +kernel
theorem dX7_readWords_30 : decode cX7_readWords 30 = .ok (.lconst 1, 1) := by decide +kernel
theorem dX7_readWords_31 : decode cX7_readWords 31 = .ok (.lsub, 1) := by decide +kernel
theorem dX7_readWords_32 : decode cX7_readWords 32 = .ok (.land, 1) := by decide +kernel
theorem dX7_readWords_33 : decode cX7_readWords 33 = .ok (.ladd, 1) := by decide +kernel
theorem dX7_readWords_34 : decode cX7_readWords 34 = .ok (.iload_n 3, 1) := by decide +kernel
theorem dX7_readWords_35 : decode cX7_readWords 35 = .ok (.i2l, 1) := by decide +kernel
theorem dX7_readWords_36 : decode cX7_readWords 36 = .ok (.lsub, 1) := by decide +kernel
theorem dX7_readWords_37 : decode cX7_readWords 37 = .ok (.lstore 4, 2) := by decide +kernel
theorem dX7_readWords_39 : decode cX7_readWords 39 = .ok (.lload 4, 2) := by decide +kernel
theorem dX7_readWords_41 : decode cX7_readWords 41 = .ok (.ldc2_w 77, 3) := by decide +kernel
theorem dX7_readWords_44 : decode cX7_readWords 44 = .ok (.lcmp, 1) := by decide +kernel
theorem dX7_readWords_45 : decode cX7_readWords 45 = .ok (.ifCond .ge 26, 3) := by decide +kernel
theorem dX7_readWords_48 : decode cX7_readWords 48 = .ok (.aload_n 0, 1) := by decide +kernel
theorem dX7_readWords_49 : decode cX7_readWords 49 = .ok (.getfield 162, 3) := by decide +kernel
theorem dX7_readWords_52 : decode cX7_readWords 52 = .ok (.ifCond .ne 19, 3) := by decide +kernel
theorem dX7_readWords_55 : decode cX7_readWords 55 = .ok (.lload 4, 2) := by decide +kernel
theorem dX7_readWords_57 : decode cX7_readWords 57 = .ok (.bipush 32, 2) := by decide +kernel
theorem dX7_readWords_59 : decode cX7_readWords 59 = .ok (.lshl, 1) := by decide +kernel
theorem dX7_readWords_60 : decode cX7_readWords 60 = .ok (.aload_n 0, 1) := by decide +kernel
theorem dX7_readWords_61 : decode cX7_readWords 61 = .ok (.iconst 4, 1) := by decide +kernel
theorem dX7_readWords_62 : decode cX7_readWords 62 = .ok (.invokevirtual 198, 3) := by decide +kernel
theorem dX7_readWords_65 : decode cX7_readWords 65 = .ok (.lor, 1) := by decide +kernel
theorem dX7_readWords_66 : decode cX7_readWords 66 = .ok (.lstore 4, 2) := by decide +kernel
theorem dX7_readWords_68 : decode cX7_readWords 68 = .ok (.goto (-29), 3) := by decide +kernel
theorem dX7_readWords_71 : decode cX7_readWords 71 = .ok (.aload_n 0, 1) := by decide +kernel
theorem dX7_readWords_72 : decode cX7_readWords 72 = .ok (.getfield 162, 3) := by decide +kernel
theorem dX7_readWords_75 : decode cX7_readWords 75 = .ok (.ifCond .ne 11, 3) := by decide +kernel
theorem dX7_readWords_78 : decode cX7_readWords 78 = .ok (.aload_n 0, 1) := by decide +kernel
theorem dX7_readWords_79 : decode cX7_readWords 79 = .ok (.getfield 56, 3) := by decide +kernel
theorem dX7_readWords_82 : decode cX7_readWords 82 = .ok (.iload_n 1, 1) := by decide +kernel
theorem dX7_readWords_83 : decode cX7_readWords 83 = .ok (.lload 4, 2) := by decide +kernel
theorem dX7_readWords_85 : decode cX7_readWords 85 = .ok (.lastore, 1) := by decide +kernel
theorem dX7_readWords_86 : decode cX7_readWords 86 = .ok (.return_, 1) := by decide +kernel
theorem dX7_readSides_0 : decode cX7_readSides 0 = .ok (.iconst 1, 1) := by decide +kernel
theorem dX7_readSides_1 : decode cX7_readSides 1 = .ok (.aload_n 0, 1) := by decide +kernel
theorem dX7_readSides_2 : decode cX7_readSides 2 = .ok (.getfield 26, 3) := by decide +kernel
theorem dX7_readSides_5 : decode cX7_readSides 5 = .ok (.iconst 1, 1) := by decide +kernel
theorem dX7_readSides_6 : decode cX7_readSides 6 = .ok (.iaload, 1) := by decide +kernel
theorem dX7_readSides_7 : decode cX7_readSides 7 = .ok (.ishl, 1) := by decide +kernel
theorem dX7_readSides_8 : decode cX7_readSides 8 = .ok (.istore_n 2, 1) := by decide +kernel
theorem dX7_readSides_9 : decode cX7_readSides 9 = .ok (.iconst 0, 1) := by decide +kernel
theorem dX7_readSides_10 : decode cX7_readSides 10 = .ok (.istore_n 3, 1) := by decide +kernel
theorem dX7_readSides_11 : decode cX7_readSides 11 = .ok (.iconst 0, 1) := by decide +kernel
theorem dX7_readSides_12 : decode cX7_readSides 12 = .ok (.istore 4, 2) := by decide +kernel
theorem dX7_readSides_14 : decode cX7_readSides 14 = .ok (.iload 4, 2) := by decide +kernel
theorem dX7_readSides_16 : decode cX7_readSides 16 = .ok (.iconst 5, 1) := by decide +kernel
theorem dX7_readSides_17 : decode cX7_readSides 17 = .ok (.if_icmp .ge 125, 3) := by decide +kernel
theorem dX7_readSides_20 : decode cX7_readSides 20 = .ok (.aload_n 0, 1) := by decide +kernel
theorem dX7_readSides_21 : decode cX7_readSides 21 = .ok (.getfield 162, 3) := by decide +kernel
theorem dX7_readSides_24 : decode cX7_readSides 24 = .ok (.ifCond .ne 118, 3) := by decide +kernel
theorem dX7_readSides_27 : decode cX7_readSides 27 = .ok (.aload_n 0, 1) := by decide +kernel
theorem dX7_readSides_28 : decode cX7_readSides 28 = .ok (.iconst 1, 1) := by decide +kernel
theorem dX7_readSides_29 : decode cX7_readSides 29 = .ok (.iload_n 3, 1) := by decide +kernel
theorem dX7_readSides_30 : decode cX7_readSides 30 = .ok (.iload 4, 2) := by decide +kernel
theorem dX7_readSides_32 : decode cX7_readSides 32 = .ok (.invokevirtual 122, 3) := by decide +kernel
theorem dX7_readSides_35 : decode cX7_readSides 35 = .ok (.aload_n 0, 1) := by decide +kernel
theorem dX7_readSides_36 : decode cX7_readSides 36 = .ok (.getfield 119, 3) := by decide +kernel
theorem dX7_readSides_39 : decode cX7_readSides 39 = .ok (.ifCond .le 7, 3) := by decide +kernel
theorem dX7_readSides_42 : decode cX7_readSides 42 = .ok (.iconst 0, 1) := by decide +kernel
theorem dX7_readSides_43 : decode cX7_readSides 43 = .ok (.goto 4, 3) := by decide +kernel
theorem dX7_readSides_46 : decode cX7_readSides 46 = .ok (.iconst 1, 1) := by decide +kernel
theorem dX7_readSides_47 : decode cX7_readSides 47 = .ok (.istore 5, 2) := by decide +kernel
theorem dX7_readSides_49 : decode cX7_readSides 49 = .ok (.aload_n 0, 1) := by decide +kernel
theorem dX7_readSides_50 : decode cX7_readSides 50 = .ok (.getfield 119, 3) := by decide +kernel
theorem dX7_readSides_53 : decode cX7_readSides 53 = .ok (.ifCond .le 76, 3) := by decide +kernel
theorem dX7_readSides_56 : decode cX7_readSides 56 = .ok (.aload_n 0, 1) := by decide +kernel
theorem dX7_readSides_57 : decode cX7_readSides 57 = .ok (.getfield 119, 3) := by decide +kernel
theorem dX7_readSides_60 : decode cX7_readSides 60 = .ok (.aload_n 0, 1) := by decide +kernel
theorem dX7_readSides_61 : decode cX7_readSides 61 = .ok (.getfield 116, 3) := by decide +kernel
theorem dX7_readSides_64 : decode cX7_readSides 64 = .ok (.if_icmp .ge 65, 3) := by decide +kernel
theorem dX7_readSides_67 : decode cX7_readSides 67 = .ok (.aload_n 0, 1) := by decide +kernel
theorem dX7_readSides_68 : decode cX7_readSides 68 = .ok (.iload_n 2, 1) := by decide +kernel
theorem dX7_readSides_69 : decode cX7_readSides 69 = .ok (.invokevirtual 126, 3) := by decide +kernel
theorem dX7_readSides_72 : decode cX7_readSides 72 = .ok (.istore 6, 2) := by decide +kernel
theorem dX7_readSides_74 : decode cX7_readSides 74 = .ok (.aload_n 0, 1) := by decide +kernel
theorem dX7_readSides_75 : decode cX7_readSides 75 = .ok (.getfield 56, 3) := by decide +kernel
theorem dX7_readSides_78 : decode cX7_readSides 78 = .ok (.iload_n 1, 1) := by decide +kernel
theorem dX7_readSides_79 : decode cX7_readSides 79 = .ok (.laload, 1) := by decide +kernel
theorem dX7_readSides_80 : decode cX7_readSides 80 = .ok (.iload_n 2, 1) := by decide +kernel
theorem dX7_readSides_81 : decode cX7_readSides 81 = .ok (.iconst 1, 1) := by decide +kernel
theorem dX7_readSides_82 : decode cX7_readSides 82 = .ok (.isub, 1) := by decide +kernel
theorem dX7_readSides_83 : decode cX7_readSides 83 = .ok (.i2l, 1) := by decide +kernel
theorem dX7_readSides_84 : decode cX7_readSides 84 = .ok (.land, 1) := by decide +kernel
theorem dX7_readSides_85 : decode cX7_readSides 85 = .ok (.iload 6, 2) := by decide +kernel
theorem dX7_readSides_87 : decode cX7_readSides 87 = .ok (.i2l, 1) := by decide +kernel
theorem dX7_readSides_88 : decode cX7_readSides 88 = .ok (.lcmp, 1) := by decide +kernel
theorem dX7_readSides_89 : decode cX7_readSides 89 = .ok (.ifCond .ge 7, 3) := by decide +kernel
theorem dX7_readSides_92 : decode cX7_readSides 92 = .ok (.iconst 0, 1) := by decide +kernel
theorem dX7_readSides_93 : decode cX7_readSides 93 = .ok (.goto 4, 3) := by decide +kernel
theorem dX7_readSides_96 : decode cX7_readSides 96 = .ok (.iconst 1, 1) := by decide +kernel
theorem dX7_readSides_97 : decode cX7_readSides 97 = .ok (.istore 5, 2) := by decide +kernel
theorem dX7_readSides_99 : decode cX7_readSides 99 = .ok (.aload_n 0, 1) := by decide +kernel
theorem dX7_readSides_100 : decode cX7_readSides 100 = .ok (.iload_n 1, 1) := by decide +kernel
theorem dX7_readSides_101 : decode cX7_readSides 101 = .ok (.iload 5, 2) := by decide +kernel
theorem dX7_readSides_103 : decode cX7_readSides 103 = .ok (.ifCond .ne 8, 3) := by decide +kernel
theorem dX7_readSides_106 : decode cX7_readSides 106 = .ok (.iload 6, 2) := by decide +kernel
theorem dX7_readSides_108 : decode cX7_readSides 108 = .ok (.goto 7, 3) := by decide +kernel
theorem dX7_readSides_111 : decode cX7_readSides 111 = .ok (.iload_n 2, 1) := by decide +kernel
theorem dX7_readSides_112 : decode cX7_readSides 112 = .ok (.iload 6, 2) := by decide +kernel
theorem dX7_readSides_114 : decode cX7_readSides 114 = .ok (.isub, 1) := by decide +kernel
theorem dX7_readSides_115 : decode cX7_readSides 115 = .ok (.iload 5, 2) := by decide +kernel
theorem dX7_readSides_117 : decode cX7_readSides 117 = .ok (.ifCond .ne 7, 3) := by decide +kernel
theorem dX7_readSides_120 : decode cX7_readSides 120 = .ok (.iconst 0, 1) := by decide +kernel
theorem dX7_readSides_121 : decode cX7_readSides 121 = .ok (.goto 5, 3) := by decide +kernel
theorem dX7_readSides_124 : decode cX7_readSides 124 = .ok (.iload 6, 2) := by decide +kernel
theorem dX7_readSides_126 : decode cX7_readSides 126 = .ok (.invokevirtual 189, 3) := by decide +kernel
theorem dX7_readSides_129 : decode cX7_readSides 129 = .ok (.iconst 2, 1) := by decide +kernel
theorem dX7_readSides_130 : decode cX7_readSides 130 = .ok (.iload_n 3, 1) := by decide +kernel
theorem dX7_readSides_131 : decode cX7_readSides 131 = .ok (.imul, 1) := by decide +kernel
theorem dX7_readSides_132 : decode cX7_readSides 132 = .ok (.iload 5, 2) := by decide +kernel
theorem dX7_readSides_134 : decode cX7_readSides 134 = .ok (.iadd, 1) := by decide +kernel
theorem dX7_readSides_135 : decode cX7_readSides 135 = .ok (.istore_n 3, 1) := by decide +kernel
theorem dX7_readSides_136 : decode cX7_readSides 136 = .ok (.iinc 4 1, 3) := by decide +kernel
theorem dX7_readSides_139 : decode cX7_readSides 139 = .ok (.goto (-125), 3) := by decide +kernel
theorem dX7_readSides_142 : decode cX7_readSides 142 = .ok (.iload_n 3, 1) := by decide +kernel
theorem dX7_readSides_143 : decode cX7_readSides 143 = .ok (.ireturn, 1) := by decide +kernel
theorem dX7_readSign_0 : decode cX7_readSign 0 = .ok (.aload_n 0, 1) := by decide +kernel
theorem dX7_readSign_1 : decode cX7_readSign 1 = .ok (.getfield 26, 3) := by decide +kernel
theorem dX7_readSign_4 : decode cX7_readSign 4 = .ok (.iconst 1, 1) := by decide +kernel
theorem dX7_readSign_5 : decode cX7_readSign 5 = .ok (.iaload, 1) := by decide +kernel
theorem dX7_readSign_6 : decode cX7_readSign 6 = .ok (.istore_n 2, 1) := by decide +kernel
theorem dX7_readSign_7 : decode cX7_readSign 7 = .ok (.aload_n 0, 1) := by decide +kernel
theorem dX7_readSign_8 : decode cX7_readSign 8 = .ok (.getfield 180, 3) := by decide +kernel
theorem dX7_readSign_11 : decode cX7_readSign 11 = .ok (.iconst 3, 1) := by decide +kernel
theorem dX7_readSign_12 : decode cX7_readSign 12 = .ok (.if_icmp .ne 12, 3) := by decide +kernel
theorem dX7_readSign_15 : decode cX7_readSign 15 = .ok (.aload_n 0, 1) := by decide +kernel
theorem dX7_readSign_16 : decode cX7_readSign 16 = .ok (.iload_n 1, 1) := by decide +kernel
theorem dX7_readSign_17 : decode cX7_readSign 17 = .ok (.invokevirtual 183, 3) := by decide +kernel
theorem dX7_readSign_20 : decode cX7_readSign 20 = .ok (.istore_n 3, 1) := by decide +kernel
theorem dX7_readSign_21 : decode cX7_readSign 21 = .ok (.goto 226, 3) := by decide +kernel
theorem dX7_readSign_24 : decode cX7_readSign 24 = .ok (.aload_n 0, 1) := by decide +kernel
theorem dX7_readSign_25 : decode cX7_readSign 25 = .ok (.getfield 180, 3) := by decide +kernel
theorem dX7_readSign_28 : decode cX7_readSign 28 = .ok (.iconst 2, 1) := by decide +kernel
theorem dX7_readSign_29 : decode cX7_readSign 29 = .ok (.if_icmp .ne 129, 3) := by decide +kernel
theorem dX7_readSign_32 : decode cX7_readSign 32 = .ok (.aload_n 0, 1) := by decide +kernel
theorem dX7_readSign_33 : decode cX7_readSign 33 = .ok (.getfield 56, 3) := by decide +kernel
theorem dX7_readSign_36 : decode cX7_readSign 36 = .ok (.iload_n 1, 1) := by decide +kernel
theorem dX7_readSign_37 : decode cX7_readSign 37 = .ok (.laload, 1) := by decide +kernel
theorem dX7_readSign_38 : decode cX7_readSign 38 = .ok (.l2i, 1) := by decide +kernel
theorem dX7_readSign_39 : decode cX7_readSign 39 = .ok (.iconst 1, 1) := by decide +kernel
theorem dX7_readSign_40 : decode cX7_readSign 40 = .ok (.iload_n 2, 1) := by decide +kernel
theorem dX7_readSign_41 : decode cX7_readSign 41 = .ok (.ishl, 1) := by decide +kernel
theorem dX7_readSign_42 : decode cX7_readSign 42 = .ok (.isub, 1) := by decide +kernel
theorem dX7_readSign_43 : decode cX7_readSign 43 = .ok (.istore 4, 2) := by decide +kernel
theorem dX7_readSign_45 : decode cX7_readSign 45 = .ok (.aload_n 0, 1) := by decide +kernel
theorem dX7_readSign_46 : decode cX7_readSign 46 = .ok (.getfield 29, 3) := by decide +kernel
theorem dX7_readSign_49 : decode cX7_readSign 49 = .ok (.sipush 4096, 3) := by decide +kernel
theorem dX7_readSign_52 : decode cX7_readSign 52 = .ok (.iload 4, 2) := by decide +kernel
theorem dX7_readSign_54 : decode cX7_readSign 54 = .ok (.iadd, 1) := by decide +kernel
theorem dX7_readSign_55 : decode cX7_readSign 55 = .ok (.iaload, 1) := by decide +kernel
theorem dX7_readSign_56 : decode cX7_readSign 56 = .ok (.istore_n 3, 1) := by decide +kernel
theorem dX7_readSign_57 : decode cX7_readSign 57 = .ok (.aload_n 0, 1) := by decide +kernel
theorem dX7_readSign_58 : decode cX7_readSign 58 = .ok (.getfield 32, 3) := by decide +kernel
theorem dX7_readSign_61 : decode cX7_readSign 61 = .ok (.sipush 4096, 3) := by decide +kernel
theorem dX7_readSign_64 : decode cX7_readSign 64 = .ok (.iload 4, 2) := by decide +kernel
theorem dX7_readSign_66 : decode cX7_readSign 66 = .ok (.iadd, 1) := by decide +kernel
theorem dX7_readSign_67 : decode cX7_readSign 67 = .ok (.iaload, 1) := by decide +kernel
theorem dX7_readSign_68 : decode cX7_readSign 68 = .ok (.i2l, 1) := by decide +kernel
theorem dX7_readSign_69 : decode cX7_readSign 69 = .ok (.lstore 5, 2) := by decide +kernel
theorem dX7_readSign_71 : decode cX7_readSign 71 = .ok (.aload_n 0, 1) := by decide +kernel
theorem dX7_readSign_72 : decode cX7_readSign 72 = .ok (.getfield 20, 3) := by decide +kernel
theorem dX7_readSign_75 : decode cX7_readSign 75 = .ok (.bipush 32, 2) := by decide +kernel
theorem dX7_readSign_77 : decode cX7_readSign 77 = .ok (.iload_n 3, 1) := by decide +kernel
theorem dX7_readSign_78 : decode cX7_readSign 78 = .ok (.iadd, 1) := by decide +kernel
theorem dX7_readSign_79 : decode cX7_readSign 79 = .ok (.iaload, 1) := by decide +kernel
theorem dX7_readSign_80 : decode cX7_readSign 80 = .ok (.iconst 1, 1) := by decide +kernel
theorem dX7_readSign_81 : decode cX7_readSign 81 = .ok (.iload_n 2, 1) := by decide +kernel
theorem dX7_readSign_82 : decode cX7_readSign 82 = .ok (.ishl, 1) := by decide +kernel
theorem dX7_readSign_83 : decode cX7_readSign 83 = .ok (.if_icmp .ne 7, 3) := by decide +kernel
theorem dX7_readSign_86 : decode cX7_readSign 86 = .ok (.iconst 1, 1) := by decide +kernel
theorem dX7_readSign_87 : decode cX7_readSign 87 = .ok (.goto 4, 3) := by decide +kernel
theorem dX7_readSign_90 : decode cX7_readSign 90 = .ok (.iconst 0, 1) := by decide +kernel
theorem dX7_readSign_91 : decode cX7_readSign 91 = .ok (.istore 7, 2) := by decide +kernel
theorem dX7_readSign_93 : decode cX7_readSign 93 = .ok (.lload 5, 2) := by decide +kernel
theorem dX7_readSign_95 : decode cX7_readSign 95 = .ok (.lconst 1, 1) := by decide +kernel
theorem dX7_readSign_96 : decode cX7_readSign 96 = .ok (.iload_n 2, 1) := by decide +kernel
theorem dX7_readSign_97 : decode cX7_readSign 97 = .ok (.lshl, 1) := by decide +kernel
theorem dX7_readSign_98 : decode cX7_readSign 98 = .ok (.lcmp, 1) := by decide +kernel
theorem dX7_readSign_99 : decode cX7_readSign 99 = .ok (.ifCond .ge 27, 3) := by decide +kernel
theorem dX7_readSign_102 : decode cX7_readSign 102 = .ok (.aload_n 0, 1) := by decide +kernel
theorem dX7_readSign_103 : decode cX7_readSign 103 = .ok (.getfield 162, 3) := by decide +kernel
theorem dX7_readSign_106 : decode cX7_readSign 106 = .ok (.ifCond .ne 20, 3) := by decide +kernel
theorem dX7_readSign_109 : decode cX7_readSign 109 = .ok (.ldc2_w 79, 3) := by decide +kernel
theorem dX7_readSign_112 : decode cX7_readSign 112 = .ok (.lload 5, 2) := by decide +kernel
theorem dX7_readSign_114 : decode cX7_readSign 114 = .ok (.lmul, 1) := by decide +kernel
theorem dX7_readSign_115 : decode cX7_readSign 115 = .ok (.aload_n 0, 1) := by decide +kernel
theorem dX7_readSign_116 : decode cX7_readSign 116 = .ok (.invokevirtual 177, 3) := by decide +kernel
theorem dX7_readSign_119 : decode cX7_readSign 119 = .ok (.i2l, 1) := by decide +kernel
theorem dX7_readSign_120 : decode cX7_readSign 120 = .ok (.ladd, 1) := by decide +kernel
theorem dX7_readSign_121 : decode cX7_readSign 121 = .ok (.lstore 5, 2) := by decide +kernel
theorem dX7_readSign_123 : decode cX7_readSign 123 = .ok (.goto (-30), 3) := by decide +kernel
theorem dX7_readSign_126 : decode cX7_readSign 126 = .ok (.aload_n 0, 1) := by decide +kernel
theorem dX7_readSign_127 : decode cX7_readSign 127 = .ok (.getfield 56, 3) := by decide +kernel
theorem dX7_readSign_130 : decode cX7_readSign 130 = .ok (.iload_n 1, 1) := by decide +kernel
theorem dX7_readSign_131 : decode cX7_readSign 131 = .ok (.aload_n 0, 1) := by decide +kernel
theorem dX7_readSign_132 : decode cX7_readSign 132 = .ok (.getfield 162, 3) := by decide +kernel
theorem dX7_readSign_135 : decode cX7_readSign 135 = .ok (.ifCond .ne 13, 3) := by decide +kernel
theorem dX7_readSign_138 : decode cX7_readSign 138 = .ok (.iload 7, 2) := by decide +kernel
theorem dX7_readSign_140 : decode cX7_readSign 140 = .ok (.ifCond .ne 8, 3) := by decide +kernel
theorem dX7_readSign_143 : decode cX7_readSign 143 = .ok (.lload 5, 2) := by decide +kernel
theorem dX7_readSign_145 : decode cX7_readSign 145 = .ok (.goto 9, 3) := by decide +kernel
theorem dX7_readSign_148 : decode cX7_readSign 148 = .ok (.aload_n 0, 1) := by decide +kernel
theorem dX7_readSign_149 : decode cX7_readSign 149 = .ok (.getfield 56, 3) := by decide +kernel
theorem dX7_readSign_152 : decode cX7_readSign 152 = .ok (.iload_n 1, 1) := by decide +kernel
theorem dX7_readSign_153 : decode cX7_readSign 153 = .ok (.laload, 1) := by decide +kernel
theorem dX7_readSign_154 : decode cX7_readSign 154 = .ok (.lastore, 1) := by decide +kernel
theorem dX7_readSign_155 : decode cX7_readSign 155 = .ok (.goto 92, 3) := by decide +kernel
theorem dX7_readSign_158 : decode cX7_readSign 158 = .ok (.aload_n 0, 1) := by decide +kernel
theorem dX7_readSign_159 : decode cX7_readSign 159 = .ok (.aload_n 0, 1) := by decide +kernel
theorem dX7_readSign_160 : decode cX7_readSign 160 = .ok (.getfield 56, 3) := by decide +kernel
theorem dX7_readSign_163 : decode cX7_readSign 163 = .ok (.iload_n 1, 1) := by decide +kernel
theorem dX7_readSign_164 : decode cX7_readSign 164 = .ok (.laload, 1) := by decide +kernel
theorem dX7_readSign_165 : decode cX7_readSign 165 = .ok (.lconst 1, 1) := by decide +kernel
theorem dX7_readSign_166 : decode cX7_readSign 166 = .ok (.iload_n 2, 1) := by decide +kernel
theorem dX7_readSign_167 : decode cX7_readSign 167 = .ok (.lshl, 1) := by decide +kernel
theorem dX7_readSign_168 : decode cX7_readSign 168 = .ok (.lconst 1, 1) := by decide +kernel
theorem dX7_readSign_169 : decode cX7_readSign 169 = .ok (.lsub, 1) := by decide +kernel
theorem dX7_readSign_170 : decode cX7_readSign 170 = .ok (.land, 1) := by decide +kernel
theorem dX7_readSign_171 : decode cX7_readSign 171 = .ok (.l2i, 1) := by decide +kernel
theorem dX7_readSign_172 : decode cX7_readSign 172 = .ok (.invokevirtual 186, 3) := by decide +kernel
theorem dX7_readSign_175 : decode cX7_readSign 175 = .ok (.istore_n 3, 1) := by decide +kernel
theorem dX7_readSign_176 : decode cX7_readSign 176 = .ok (.aload_n 0, 1) := by decide +kernel
theorem dX7_readSign_177 : decode cX7_readSign 177 = .ok (.getfield 20, 3) := by decide +kernel
theorem dX7_readSign_180 : decode cX7_readSign 180 = .ok (.bipush 32, 2) := by decide +kernel
theorem dX7_readSign_182 : decode cX7_readSign 182 = .ok (.iload_n 3, 1) := by decide +kernel
theorem dX7_readSign_183 : decode cX7_readSign 183 = .ok (.iadd, 1) := by decide +kernel
theorem dX7_readSign_184 : decode cX7_readSign 184 = .ok (.iaload, 1) := by decide +kernel
theorem dX7_readSign_185 : decode cX7_readSign 185 = .ok (.iconst 1, 1) := by decide +kernel
theorem dX7_readSign_186 : decode cX7_readSign 186 = .ok (.iload_n 2, 1) := by decide +kernel
theorem dX7_readSign_187 : decode cX7_readSign 187 = .ok (.ishl, 1) := by decide +kernel
theorem dX7_readSign_188 : decode cX7_readSign 188 = .ok (.if_icmp .ge 59, 3) := by decide +kernel
theorem dX7_readSign_191 : decode cX7_readSign 191 = .ok (.aload_n 0, 1) := by decide +kernel
theorem dX7_readSign_192 : decode cX7_readSign 192 = .ok (.getfield 180, 3) := by decide +kernel
theorem dX7_readSign_195 : decode cX7_readSign 195 = .ok (.ifCond .ne 29, 3) := by decide +kernel
theorem dX7_readSign_198 : decode cX7_readSign 198 = .ok (.aload_n 0, 1) := by decide +kernel
theorem dX7_readSign_199 : decode cX7_readSign 199 = .ok (.iload_n 1, 1) := by decide +kernel
theorem dX7_readSign_200 : decode cX7_readSign 200 = .ok (.aload_n 0, 1) := by decide +kernel
theorem dX7_readSign_201 : decode cX7_readSign 201 = .ok (.getfield 20, 3) := by decide +kernel
theorem dX7_readSign_204 : decode cX7_readSign 204 = .ok (.bipush 32, 2) := by decide +kernel
theorem dX7_readSign_206 : decode cX7_readSign 206 = .ok (.iload_n 3, 1) := by decide +kernel
theorem dX7_readSign_207 : decode cX7_readSign 207 = .ok (.iadd, 1) := by decide +kernel
theorem dX7_readSign_208 : decode cX7_readSign 208 = .ok (.iaload, 1) := by decide +kernel
theorem dX7_readSign_209 : decode cX7_readSign 209 = .ok (.aload_n 0, 1) := by decide +kernel
theorem dX7_readSign_210 : decode cX7_readSign 210 = .ok (.getfield 23, 3) := by decide +kernel
theorem dX7_readSign_213 : decode cX7_readSign 213 = .ok (.bipush 32, 2) := by decide +kernel
theorem dX7_readSign_215 : decode cX7_readSign 215 = .ok (.iload_n 3, 1) := by decide +kernel
theorem dX7_readSign_216 : decode cX7_readSign 216 = .ok (.iadd, 1) := by decide +kernel
theorem dX7_readSign_217 : decode cX7_readSign 217 = .ok (.iaload, 1) := by decide +kernel
theorem dX7_readSign_218 : decode cX7_readSign 218 = .ok (.invokevirtual 189, 3) := by decide +kernel
theorem dX7_readSign_221 : decode cX7_readSign 221 = .ok (.goto 26, 3) := by decide +kernel
theorem dX7_readSign_224 : decode cX7_readSign 224 = .ok (.aload_n 0, 1) := by decide +kernel
theorem dX7_readSign_225 : decode cX7_readSign 225 = .ok (.iload_n 1, 1) := by decide +kernel
theorem dX7_readSign_226 : decode cX7_readSign 226 = .ok (.aload_n 0, 1) := by decide +kernel
theorem dX7_readSign_227 : decode cX7_readSign 227 = .ok (.getfield 20, 3) := by decide +kernel
theorem dX7_readSign_230 : decode cX7_readSign 230 = .ok (.bipush 32, 2) := by decide +kernel
theorem dX7_readSign_232 : decode cX7_readSign 232 = .ok (.iload_n 3, 1) := by decide +kernel
theorem dX7_readSign_233 : decode cX7_readSign 233 = .ok (.iadd, 1) := by decide +kernel
theorem dX7_readSign_234 : decode cX7_readSign 234 = .ok (.iaload, 1) := by decide +kernel
theorem dX7_readSign_235 : decode cX7_readSign 235 = .ok (.aload_n 0, 1) := by decide +kernel
theorem dX7_readSign_236 : decode cX7_readSign 236 = .ok (.getfield 23, 3) := by decide +kernel
theorem dX7_readSign_239 : decode cX7_readSign 239 = .ok (.bipush 32, 2) := by decide +kernel
theorem dX7_readSign_241 : decode cX7_readSign 241 = .ok (.iload_n 3, 1) := by decide +kernel
theorem dX7_readSign_242 : decode cX7_readSign 242 = .ok (.iadd, 1) := by decide +kernel
theorem dX7_readSign_243 : decode cX7_readSign 243 = .ok (.iaload, 1) := by decide +kernel
theorem dX7_readSign_244 : decode cX7_readSign 244 = .ok (.invokevirtual 192, 3) := by decide +kernel
theorem dX7_readSign_247 : decode cX7_readSign 247 = .ok (.aload_n 0, 1) := by decide +kernel
theorem dX7_readSign_248 : decode cX7_readSign 248 = .ok (.getfield 162, 3) := by decide +kernel
theorem dX7_readSign_251 : decode cX7_readSign 251 = .ok (.ifCond .ne 23, 3) := by decide +kernel
theorem dX7_readSign_254 : decode cX7_readSign 254 = .ok (.aload_n 0, 1) := by decide +kernel
theorem dX7_readSign_255 : decode cX7_readSign 255 = .ok (.getfield 53, 3) := by decide +kernel
theorem dX7_readSign_258 : decode cX7_readSign 258 = .ok (.aload_n 0, 1) := by decide +kernel
theorem dX7_readSign_259 : decode cX7_readSign 259 = .ok (.getfield 195, 3) := by decide +kernel
theorem dX7_readSign_262 : decode cX7_readSign 262 = .ok (.iload_n 3, 1) := by decide +kernel
theorem dX7_readSign_263 : decode cX7_readSign 263 = .ok (.iastore, 1) := by decide +kernel
theorem dX7_readSign_264 : decode cX7_readSign 264 = .ok (.aload_n 0, 1) := by decide +kernel
theorem dX7_readSign_265 : decode cX7_readSign 265 = .ok (.dup, 1) := by decide +kernel
theorem dX7_readSign_266 : decode cX7_readSign 266 = .ok (.getfield 195, 3) := by decide +kernel
theorem dX7_readSign_269 : decode cX7_readSign 269 = .ok (.iconst 1, 1) := by decide +kernel
theorem dX7_readSign_270 : decode cX7_readSign 270 = .ok (.iadd, 1) := by decide +kernel
theorem dX7_readSign_271 : decode cX7_readSign 271 = .ok (.putfield 195, 3) := by decide +kernel
theorem dX7_readSign_274 : decode cX7_readSign 274 = .ok (.return_, 1) := by decide +kernel
theorem dX7_readHead_0 : decode cX7_readHead 0 = .ok (.aload_n 0, 1) := by decide +kernel
theorem dX7_readHead_1 : decode cX7_readHead 1 = .ok (.invokevirtual 171, 3) := by decide +kernel
theorem dX7_readHead_4 : decode cX7_readHead 4 = .ok (.istore_n 1, 1) := by decide +kernel
theorem dX7_readHead_5 : decode cX7_readHead 5 = .ok (.aload_n 0, 1) := by decide +kernel
theorem dX7_readHead_6 : decode cX7_readHead 6 = .ok (.getfield 162, 3) := by decide +kernel
theorem dX7_readHead_9 : decode cX7_readHead 9 = .ok (.ifCond .ne 21, 3) := by decide +kernel
theorem dX7_readHead_12 : decode cX7_readHead 12 = .ok (.iload_n 1, 1) := by decide +kernel
theorem dX7_readHead_13 : decode cX7_readHead 13 = .ok (.bipush 15, 2) := by decide +kernel
theorem dX7_readHead_15 : decode cX7_readHead 15 = .ok (.if_icmp .gt 10, 3) := by decide +kernel
theorem dX7_readHead_18 : decode cX7_readHead 18 = .ok (.iload_n 1, 1) := by decide +kernel
theorem dX7_readHead_19 : decode cX7_readHead 19 = .ok (.iconst 3, 1) := by decide +kernel
theorem dX7_readHead_20 : decode cX7_readHead 20 = .ok (.iand, 1) := by decide +kernel
theorem dX7_readHead_21 : decode cX7_readHead 21 = .ok (.iconst 3, 1) := by decide +kernel
theorem dX7_readHead_22 : decode cX7_readHead 22 = .ok (.if_icmp .ne 8, 3) := by decide +kernel
theorem dX7_readHead_25 : decode cX7_readHead 25 = .ok (.aload_n 0, 1) := by decide +kernel
theorem dX7_readHead_26 : decode cX7_readHead 26 = .ok (.iconst 2, 1) := by decide +kernel
theorem dX7_readHead_27 : decode cX7_readHead 27 = .ok (.invokevirtual 168, 3) := by decide +kernel
theorem dX7_readHead_30 : decode cX7_readHead 30 = .ok (.aload_n 0, 1) := by decide +kernel
theorem dX7_readHead_31 : decode cX7_readHead 31 = .ok (.iload_n 1, 1) := by decide +kernel
theorem dX7_readHead_32 : decode cX7_readHead 32 = .ok (.iconst 2, 1) := by decide +kernel
theorem dX7_readHead_33 : decode cX7_readHead 33 = .ok (.ishr, 1) := by decide +kernel
theorem dX7_readHead_34 : decode cX7_readHead 34 = .ok (.putfield 180, 3) := by decide +kernel
theorem dX7_readHead_37 : decode cX7_readHead 37 = .ok (.aload_n 0, 1) := by decide +kernel
theorem dX7_readHead_38 : decode cX7_readHead 38 = .ok (.iconst 1, 1) := by decide +kernel
theorem dX7_readHead_39 : decode cX7_readHead 39 = .ok (.iload_n 1, 1) := by decide +kernel
theorem dX7_readHead_40 : decode cX7_readHead 40 = .ok (.iconst 3, 1) := by decide +kernel
theorem dX7_readHead_41 : decode cX7_readHead 41 = .ok (.iand, 1) := by decide +kernel
theorem dX7_readHead_42 : decode cX7_readHead 42 = .ok (.ishl, 1) := by decide +kernel
theorem dX7_readHead_43 : decode cX7_readHead 43 = .ok (.putfield 201, 3) := by decide +kernel
theorem dX7_readHead_46 : decode cX7_readHead 46 = .ok (.aload_n 0, 1) := by decide +kernel
theorem dX7_readHead_47 : decode cX7_readHead 47 = .ok (.invokevirtual 171, 3) := by decide +kernel
theorem dX7_readHead_50 : decode cX7_readHead 50 = .ok (.istore_n 2, 1) := by decide +kernel
theorem dX7_readHead_51 : decode cX7_readHead 51 = .ok (.aload_n 0, 1) := by decide +kernel
theorem dX7_readHead_52 : decode cX7_readHead 52 = .ok (.getfield 162, 3) := by decide +kernel
theorem dX7_readHead_55 : decode cX7_readHead 55 = .ok (.ifCond .ne 19, 3) := by decide +kernel
theorem dX7_readHead_58 : decode cX7_readHead 58 = .ok (.iload_n 2, 1) := by decide +kernel
theorem dX7_readHead_59 : decode cX7_readHead 59 = .ok (.iconst 5, 1) := by decide +kernel
theorem dX7_readHead_60 : decode cX7_readHead 60 = .ok (.if_icmp .lt 9, 3) := by decide +kernel
theorem dX7_readHead_63 : decode cX7_readHead 63 = .ok (.iload_n 2, 1) := by decide +kernel
theorem dX7_readHead_64 : decode cX7_readHead 64 = .ok (.bipush 12, 2) := by decide +kernel
theorem dX7_readHead_66 : decode cX7_readHead 66 = .ok (.if_icmp .le 8, 3) := by decide +kernel
theorem dX7_readHead_69 : decode cX7_readHead 69 = .ok (.aload_n 0, 1) := by decide +kernel
theorem dX7_readHead_70 : decode cX7_readHead 70 = .ok (.iconst 2, 1) := by decide +kernel
theorem dX7_readHead_71 : decode cX7_readHead 71 = .ok (.invokevirtual 168, 3) := by decide +kernel
theorem dX7_readHead_74 : decode cX7_readHead 74 = .ok (.aload_n 0, 1) := by decide +kernel
theorem dX7_readHead_75 : decode cX7_readHead 75 = .ok (.getfield 26, 3) := by decide +kernel
theorem dX7_readHead_78 : decode cX7_readHead 78 = .ok (.iconst 1, 1) := by decide +kernel
theorem dX7_readHead_79 : decode cX7_readHead 79 = .ok (.aload_n 0, 1) := by decide +kernel
theorem dX7_readHead_80 : decode cX7_readHead 80 = .ok (.getfield 162, 3) := by decide +kernel
theorem dX7_readHead_83 : decode cX7_readHead 83 = .ok (.ifCond .ne 7, 3) := by decide +kernel
theorem dX7_readHead_86 : decode cX7_readHead 86 = .ok (.iload_n 2, 1) := by decide +kernel
theorem dX7_readHead_87 : decode cX7_readHead 87 = .ok (.goto 4, 3) := by decide +kernel
theorem dX7_readHead_90 : decode cX7_readHead 90 = .ok (.iconst 5, 1) := by decide +kernel
theorem dX7_readHead_91 : decode cX7_readHead 91 = .ok (.iastore, 1) := by decide +kernel
theorem dX7_readHead_92 : decode cX7_readHead 92 = .ok (.aload_n 0, 1) := by decide +kernel
theorem dX7_readHead_93 : decode cX7_readHead 93 = .ok (.iconst 2, 1) := by decide +kernel
theorem dX7_readHead_94 : decode cX7_readHead 94 = .ok (.invokevirtual 198, 3) := by decide +kernel
theorem dX7_readHead_97 : decode cX7_readHead 97 = .ok (.l2i, 1) := by decide +kernel
theorem dX7_readHead_98 : decode cX7_readHead 98 = .ok (.ireturn, 1) := by decide +kernel
end
section
theorem dX7_readAll_0 : decode cX7_readAll 0 = .ok (.aload_n 0, 1) := by decide +kernel
theorem dX7_readAll_1 : decode cX7_readAll 1 = .ok (.iconst 0, 1) := by decide +kernel
theorem dX7_readAll_2 : decode cX7_readAll 2 = .ok (.putfield 195, 3) := by decide +kernel
theorem dX7_readAll_5 : decode cX7_readAll 5 = .ok (.aload_n 0, 1) := by decide +kernel
theorem dX7_readAll_6 : decode cX7_readAll 6 = .ok (.iconst 0, 1) := by decide +kernel
theorem dX7_readAll_7 : decode cX7_readAll 7 = .ok (.putfield 165, 3) := by decide +kernel
theorem dX7_readAll_10 : decode cX7_readAll 10 = .ok (.aload_n 0, 1) := by decide +kernel
theorem dX7_readAll_11 : decode cX7_readAll 11 = .ok (.iconst 0, 1) := by decide +kernel
theorem dX7_readAll_12 : decode cX7_readAll 12 = .ok (.putfield 162, 3) := by decide +kernel
theorem dX7_readAll_15 : decode cX7_readAll 15 = .ok (.aload_n 0, 1) := by decide +kernel
theorem dX7_readAll_16 : decode cX7_readAll 16 = .ok (.iconst 0, 1) := by decide +kernel
theorem dX7_readAll_17 : decode cX7_readAll 17 = .ok (.putfield 204, 3) := by decide +kernel
theorem dX7_readAll_20 : decode cX7_readAll 20 = .ok (.aload_n 0, 1) := by decide +kernel
theorem dX7_readAll_21 : decode cX7_readAll 21 = .ok (.invokevirtual 207, 3) := by decide +kernel
theorem dX7_readAll_24 : decode cX7_readAll 24 = .ok (.istore_n 1, 1) := by decide +kernel
theorem dX7_readAll_25 : decode cX7_readAll 25 = .ok (.aload_n 0, 1) := by decide +kernel
theorem dX7_readAll_26 : decode cX7_readAll 26 = .ok (.getfield 162, 3) := by decide +kernel
theorem dX7_readAll_29 : decode cX7_readAll 29 = .ok (.ifCond .ne 7, 3) := by decide +kernel
theorem dX7_readAll_32 : decode cX7_readAll 32 = .ok (.aload_n 0, 1) := by decide +kernel
theorem dX7_readAll_33 : decode cX7_readAll 33 = .ok (.invokevirtual 210, 3) := by decide +kernel
theorem dX7_readAll_36 : decode cX7_readAll 36 = .ok (.aload_n 0, 1) := by decide +kernel
theorem dX7_readAll_37 : decode cX7_readAll 37 = .ok (.getfield 162, 3) := by decide +kernel
theorem dX7_readAll_40 : decode cX7_readAll 40 = .ok (.ifCond .le 4, 3) := by decide +kernel
theorem dX7_readAll_43 : decode cX7_readAll 43 = .ok (.return_, 1) := by decide +kernel
theorem dX7_readAll_44 : decode cX7_readAll 44 = .ok (.aload_n 0, 1) := by decide +kernel
theorem dX7_readAll_45 : decode cX7_readAll 45 = .ok (.iconst 1, 1) := by decide +kernel
theorem dX7_readAll_46 : decode cX7_readAll 46 = .ok (.invokevirtual 87, 3) := by decide +kernel
theorem dX7_readAll_49 : decode cX7_readAll 49 = .ok (.iconst 0, 1) := by decide +kernel
theorem dX7_readAll_50 : decode cX7_readAll 50 = .ok (.istore_n 2, 1) := by decide +kernel
theorem dX7_readAll_51 : decode cX7_readAll 51 = .ok (.iload_n 2, 1) := by decide +kernel
theorem dX7_readAll_52 : decode cX7_readAll 52 = .ok (.aload_n 0, 1) := by decide +kernel
theorem dX7_readAll_53 : decode cX7_readAll 53 = .ok (.getfield 201, 3) := by decide +kernel
theorem dX7_readAll_56 : decode cX7_readAll 56 = .ok (.if_icmp .ge 77, 3) := by decide +kernel
theorem dX7_readAll_59 : decode cX7_readAll 59 = .ok (.aload_n 0, 1) := by decide +kernel
theorem dX7_readAll_60 : decode cX7_readAll 60 = .ok (.getfield 162, 3) := by decide +kernel
theorem dX7_readAll_63 : decode cX7_readAll 63 = .ok (.ifCond .ne 70, 3) := by decide +kernel
theorem dX7_readAll_66 : decode cX7_readAll 66 = .ok (.aload_n 0, 1) := by decide +kernel
theorem dX7_readAll_67 : decode cX7_readAll 67 = .ok (.getfield 56, 3) := by decide +kernel
theorem dX7_readAll_70 : decode cX7_readAll 70 = .ok (.iload_n 2, 1) := by decide +kernel
theorem dX7_readAll_71 : decode cX7_readAll 71 = .ok (.aload_n 0, 1) := by decide +kernel
theorem dX7_readAll_72 : decode cX7_readAll 72 = .ok (.aload_n 0, 1) := by decide +kernel
theorem dX7_readAll_73 : decode cX7_readAll 73 = .ok (.getfield 180, 3) := by decide +kernel
theorem dX7_readAll_76 : decode cX7_readAll 76 = .ok (.iconst 1, 1) := by decide +kernel
theorem dX7_readAll_77 : decode cX7_readAll 77 = .ok (.if_icmp .ne 8, 3) := by decide +kernel
theorem dX7_readAll_80 : decode cX7_readAll 80 = .ok (.bipush 8, 2) := by decide +kernel
theorem dX7_readAll_82 : decode cX7_readAll 82 = .ok (.goto 16, 3) := by decide +kernel
theorem dX7_readAll_85 : decode cX7_readAll 85 = .ok (.aload_n 0, 1) := by decide +kernel
theorem dX7_readAll_86 : decode cX7_readAll 86 = .ok (.getfield 180, 3) := by decide +kernel
theorem dX7_readAll_89 : decode cX7_readAll 89 = .ok (.iconst 2, 1) := by decide +kernel
theorem dX7_readAll_90 : decode cX7_readAll 90 = .ok (.if_icmp .ne 7, 3) := by decide +kernel
theorem dX7_readAll_93 : decode cX7_readAll 93 = .ok (.iconst 2, 1) := by decide +kernel
theorem dX7_readAll_94 : decode cX7_readAll 94 = .ok (.goto 4, 3) := by decide +kernel
theorem dX7_readAll_97 : decode cX7_readAll 97 = .ok (.iconst 4, 1) := by decide +kernel
theorem dX7_readAll_98 : decode cX7_readAll 98 = .ok (.invokevirtual 198, 3) := by decide +kernel
theorem dX7_readAll_101 : decode cX7_readAll 101 = .ok (.lastore, 1) := by decide +kernel
theorem dX7_readAll_102 : decode cX7_readAll 102 = .ok (.aload_n 0, 1) := by decide +kernel
theorem dX7_readAll_103 : decode cX7_readAll 103 = .ok (.getfield 162, 3) := by decide +kernel
theorem dX7_readAll_106 : decode cX7_readAll 106 = .ok (.ifCond .ne 21, 3) := by decide +kernel
theorem dX7_readAll_109 : decode cX7_readAll 109 = .ok (.aload_n 0, 1) := by decide +kernel
theorem dX7_readAll_110 : decode cX7_readAll 110 = .ok (.aload_n 0, 1) := by decide +kernel
theorem dX7_readAll_111 : decode cX7_readAll 111 = .ok (.getfield 56, 3) := by decide +kernel
theorem dX7_readAll_114 : decode cX7_readAll 114 = .ok (.iload_n 2, 1) := by decide +kernel
theorem dX7_readAll_115 : decode cX7_readAll 115 = .ok (.laload, 1) := by decide +kernel
theorem dX7_readAll_116 : decode cX7_readAll 116 = .ok (.invokevirtual 213, 3) := by decide +kernel
theorem dX7_readAll_119 : decode cX7_readAll 119 = .ok (.ifCond .ne 8, 3) := by decide +kernel
theorem dX7_readAll_122 : decode cX7_readAll 122 = .ok (.aload_n 0, 1) := by decide +kernel
theorem dX7_readAll_123 : decode cX7_readAll 123 = .ok (.iconst 4, 1) := by decide +kernel
theorem dX7_readAll_124 : decode cX7_readAll 124 = .ok (.invokevirtual 168, 3) := by decide +kernel
theorem dX7_readAll_127 : decode cX7_readAll 127 = .ok (.iinc 2 1, 3) := by decide +kernel
theorem dX7_readAll_130 : decode cX7_readAll 130 = .ok (.goto (-79), 3) := by decide +kernel
theorem dX7_readAll_133 : decode cX7_readAll 133 = .ok (.aload_n 0, 1) := by decide +kernel
theorem dX7_readAll_134 : decode cX7_readAll 134 = .ok (.aload_n 0, 1) := by decide +kernel
theorem dX7_readAll_135 : decode cX7_readAll 135 = .ok (.getfield 162, 3) := by decide +kernel
theorem dX7_readAll_138 : decode cX7_readAll 138 = .ok (.ifCond .ne 7, 3) := by decide +kernel
theorem dX7_readAll_141 : decode cX7_readAll 141 = .ok (.iconst 1, 1) := by decide +kernel
theorem dX7_readAll_142 : decode cX7_readAll 142 = .ok (.goto 4, 3) := by decide +kernel
theorem dX7_readAll_145 : decode cX7_readAll 145 = .ok (.iconst 0, 1) := by decide +kernel
theorem dX7_readAll_146 : decode cX7_readAll 146 = .ok (.putfield 204, 3) := by decide +kernel
theorem dX7_readAll_149 : decode cX7_readAll 149 = .ok (.aload_n 0, 1) := by decide +kernel
theorem dX7_readAll_150 : decode cX7_readAll 150 = .ok (.iconst 0, 1) := by decide +kernel
theorem dX7_readAll_151 : decode cX7_readAll 151 = .ok (.putfield 174, 3) := by decide +kernel
theorem dX7_readAll_154 : decode cX7_readAll 154 = .ok (.iconst 0, 1) := by decide +kernel
theorem dX7_readAll_155 : decode cX7_readAll 155 = .ok (.istore_n 2, 1) := by decide +kernel
theorem dX7_readAll_156 : decode cX7_readAll 156 = .ok (.iload_n 2, 1) := by decide +kernel
theorem dX7_readAll_157 : decode cX7_readAll 157 = .ok (.iload_n 1, 1) := by decide +kernel
theorem dX7_readAll_158 : decode cX7_readAll 158 = .ok (.if_icmp .ge 26, 3) := by decide +kernel
theorem dX7_readAll_161 : decode cX7_readAll 161 = .ok (.aload_n 0, 1) := by decide +kernel
theorem dX7_readAll_162 : decode cX7_readAll 162 = .ok (.getfield 162, 3) := by decide +kernel
theorem dX7_readAll_165 : decode cX7_readAll 165 = .ok (.ifCond .ne 19, 3) := by decide +kernel
theorem dX7_readAll_168 : decode cX7_readAll 168 = .ok (.aload_n 0, 1) := by decide +kernel
theorem dX7_readAll_169 : decode cX7_readAll 169 = .ok (.iload_n 2, 1) := by decide +kernel
theorem dX7_readAll_170 : decode cX7_readAll 170 = .ok (.aload_n 0, 1) := by decide +kernel
theorem dX7_readAll_171 : decode cX7_readAll 171 = .ok (.getfield 201, 3) := by decide +kernel
theorem dX7_readAll_174 : decode cX7_readAll 174 = .ok (.irem, 1) := by decide +kernel
theorem dX7_readAll_175 : decode cX7_readAll 175 = .ok (.invokevirtual 217, 3) := by decide +kernel
theorem dX7_readAll_178 : decode cX7_readAll 178 = .ok (.iinc 2 1, 3) := by decide +kernel
theorem dX7_readAll_181 : decode cX7_readAll 181 = .ok (.goto (-25), 3) := by decide +kernel
theorem dX7_readAll_184 : decode cX7_readAll 184 = .ok (.iconst 0, 1) := by decide +kernel
theorem dX7_readAll_185 : decode cX7_readAll 185 = .ok (.istore_n 2, 1) := by decide +kernel
theorem dX7_readAll_186 : decode cX7_readAll 186 = .ok (.iload_n 2, 1) := by decide +kernel
theorem dX7_readAll_187 : decode cX7_readAll 187 = .ok (.aload_n 0, 1) := by decide +kernel
theorem dX7_readAll_188 : decode cX7_readAll 188 = .ok (.getfield 201, 3) := by decide +kernel
theorem dX7_readAll_191 : decode cX7_readAll 191 = .ok (.if_icmp .ge 44, 3) := by decide +kernel
theorem dX7_readAll_194 : decode cX7_readAll 194 = .ok (.aload_n 0, 1) := by decide +kernel
theorem dX7_readAll_195 : decode cX7_readAll 195 = .ok (.getfield 162, 3) := by decide +kernel
theorem dX7_readAll_198 : decode cX7_readAll 198 = .ok (.ifCond .ne 37, 3) := by decide +kernel
theorem dX7_readAll_201 : decode cX7_readAll 201 = .ok (.aload_n 0, 1) := by decide +kernel
theorem dX7_readAll_202 : decode cX7_readAll 202 = .ok (.getfield 56, 3) := by decide +kernel
theorem dX7_readAll_205 : decode cX7_readAll 205 = .ok (.iload_n 2, 1) := by decide +kernel
theorem dX7_readAll_206 : decode cX7_readAll 206 = .ok (.laload, 1) := by decide +kernel
theorem dX7_readAll_207 : decode cX7_readAll 207 = .ok (.aload_n 0, 1) := by decide +kernel
theorem dX7_readAll_208 : decode cX7_readAll 208 = .ok (.getfield 180, 3) := by decide +kernel
theorem dX7_readAll_211 : decode cX7_readAll 211 = .ok (.aload_n 0, 1) := by decide +kernel
theorem dX7_readAll_212 : decode cX7_readAll 212 = .ok (.getfield 26, 3) := by decide +kernel
theorem dX7_readAll_215 : decode cX7_readAll 215 = .ok (.iconst 1, 1) := by decide +kernel
theorem dX7_readAll_216 : decode cX7_readAll 216 = .ok (.iaload, 1) := by decide +kernel
theorem dX7_readAll_217 : decode cX7_readAll 217 = .ok (.invokestatic 139, 3) := by decide +kernel
theorem dX7_readAll_220 : decode cX7_readAll 220 = .ok (.lcmp, 1) := by decide +kernel
theorem dX7_readAll_221 : decode cX7_readAll 221 = .ok (.ifCond .eq 8, 3) := by decide +kernel
theorem dX7_readAll_224 : decode cX7_readAll 224 = .ok (.aload_n 0, 1) := by decide +kernel
theorem dX7_readAll_225 : decode cX7_readAll 225 = .ok (.iconst 5, 1) := by decide +kernel
theorem dX7_readAll_226 : decode cX7_readAll 226 = .ok (.invokevirtual 168, 3) := by decide +kernel
theorem dX7_readAll_229 : decode cX7_readAll 229 = .ok (.iinc 2 1, 3) := by decide +kernel
theorem dX7_readAll_232 : decode cX7_readAll 232 = .ok (.goto (-46), 3) := by decide +kernel
theorem dX7_readAll_235 : decode cX7_readAll 235 = .ok (.aload_n 0, 1) := by decide +kernel
theorem dX7_readAll_236 : decode cX7_readAll 236 = .ok (.getfield 162, 3) := by decide +kernel
theorem dX7_readAll_239 : decode cX7_readAll 239 = .ok (.ifCond .ne 53, 3) := by decide +kernel
theorem dX7_readAll_242 : decode cX7_readAll 242 = .ok (.iconst 1, 1) := by decide +kernel
theorem dX7_readAll_243 : decode cX7_readAll 243 = .ok (.istore_n 2, 1) := by decide +kernel
theorem dX7_readAll_244 : decode cX7_readAll 244 = .ok (.aload_n 0, 1) := by decide +kernel
theorem dX7_readAll_245 : decode cX7_readAll 245 = .ok (.getfield 174, 3) := by decide +kernel
theorem dX7_readAll_248 : decode cX7_readAll 248 = .ok (.ifCond .le 23, 3) := by decide +kernel
theorem dX7_readAll_251 : decode cX7_readAll 251 = .ok (.aload_n 0, 1) := by decide +kernel
theorem dX7_readAll_252 : decode cX7_readAll 252 = .ok (.invokevirtual 177, 3) := by decide +kernel
theorem dX7_readAll_255 : decode cX7_readAll 255 = .ok (.ifCond .ne 11, 3) := by decide +kernel
theorem dX7_readAll_258 : decode cX7_readAll 258 = .ok (.iload_n 2, 1) := by decide +kernel
theorem dX7_readAll_259 : decode cX7_readAll 259 = .ok (.ifCond .eq 7, 3) := by decide +kernel
theorem dX7_readAll_262 : decode cX7_readAll 262 = .ok (.iconst 1, 1) := by decide +kernel
theorem dX7_readAll_263 : decode cX7_readAll 263 = .ok (.goto 4, 3) := by decide +kernel
theorem dX7_readAll_266 : decode cX7_readAll 266 = .ok (.iconst 0, 1) := by decide +kernel
theorem dX7_readAll_267 : decode cX7_readAll 267 = .ok (.istore_n 2, 1) := by decide +kernel
theorem dX7_readAll_268 : decode cX7_readAll 268 = .ok (.goto (-24), 3) := by decide +kernel
theorem dX7_readAll_271 : decode cX7_readAll 271 = .ok (.iload_n 2, 1) := by decide +kernel
theorem dX7_readAll_272 : decode cX7_readAll 272 = .ok (.ifCond .eq 14, 3) := by decide +kernel
theorem dX7_readAll_275 : decode cX7_readAll 275 = .ok (.aload_n 0, 1) := by decide +kernel
theorem dX7_readAll_276 : decode cX7_readAll 276 = .ok (.getfield 165, 3) := by decide +kernel
theorem dX7_readAll_279 : decode cX7_readAll 279 = .ok (.aload_n 0, 1) := by decide +kernel
theorem dX7_readAll_280 : decode cX7_readAll 280 = .ok (.getfield 96, 3) := by decide +kernel
theorem dX7_readAll_283 : decode cX7_readAll 283 = .ok (.if_icmp .ge 9, 3) := by decide +kernel
theorem dX7_readAll_286 : decode cX7_readAll 286 = .ok (.aload_n 0, 1) := by decide +kernel
theorem dX7_readAll_287 : decode cX7_readAll 287 = .ok (.bipush 6, 2) := by decide +kernel
theorem dX7_readAll_289 : decode cX7_readAll 289 = .ok (.invokevirtual 168, 3) := by decide +kernel
theorem dX7_readAll_292 : decode cX7_readAll 292 = .ok (.return_, 1) := by decide +kernel
theorem dX7_read_0 : decode cX7_read 0 = .ok (.aload_n 0, 1) := by decide +kernel
theorem dX7_read_1 : decode cX7_read 1 = .ok (.iconst 0, 1) := by decide +kernel
theorem dX7_read_2 : decode cX7_read 2 = .ok (.putfield 62, 3) := by decide +kernel
theorem dX7_read_5 : decode cX7_read 5 = .ok (.aload_n 0, 1) := by decide +kernel
theorem dX7_read_6 : decode cX7_read 6 = .ok (.invokevirtual 220, 3) := by decide +kernel
theorem dX7_read_9 : decode cX7_read 9 = .ok (.aload_n 0, 1) := by decide +kernel
theorem dX7_read_10 : decode cX7_read 10 = .ok (.aload_n 0, 1) := by decide +kernel
theorem dX7_read_11 : decode cX7_read 11 = .ok (.getfield 162, 3) := by decide +kernel
theorem dX7_read_14 : decode cX7_read 14 = .ok (.putfield 223, 3) := by decide +kernel
theorem dX7_read_17 : decode cX7_read 17 = .ok (.aload_n 0, 1) := by decide +kernel
theorem dX7_read_18 : decode cX7_read 18 = .ok (.getfield 162, 3) := by decide +kernel
theorem dX7_read_21 : decode cX7_read 21 = .ok (.ifCond .le 13, 3) := by decide +kernel
theorem dX7_read_24 : decode cX7_read 24 = .ok (.bipush (-10), 2) := by decide +kernel
theorem dX7_read_26 : decode cX7_read 26 = .ok (.aload_n 0, 1) := by decide +kernel
theorem dX7_read_27 : decode cX7_read 27 = .ok (.getfield 165, 3) := by decide +kernel
theorem dX7_read_30 : decode cX7_read 30 = .ok (.isub, 1) := by decide +kernel
theorem dX7_read_31 : decode cX7_read 31 = .ok (.goto 7, 3) := by decide +kernel
theorem dX7_read_34 : decode cX7_read 34 = .ok (.aload_n 0, 1) := by decide +kernel
theorem dX7_read_35 : decode cX7_read 35 = .ok (.getfield 195, 3) := by decide +kernel
theorem dX7_read_38 : decode cX7_read 38 = .ok (.ireturn, 1) := by decide +kernel
theorem dX7_rule_0 : decode cX7_rule 0 = .ok (.aload_n 0, 1) := by decide +kernel
theorem dX7_rule_1 : decode cX7_rule 1 = .ok (.iconst 0, 1) := by decide +kernel
theorem dX7_rule_2 : decode cX7_rule 2 = .ok (.putfield 62, 3) := by decide +kernel
theorem dX7_rule_5 : decode cX7_rule 5 = .ok (.aload_n 0, 1) := by decide +kernel
theorem dX7_rule_6 : decode cX7_rule 6 = .ok (.getfield 223, 3) := by decide +kernel
theorem dX7_rule_9 : decode cX7_rule 9 = .ok (.ireturn, 1) := by decide +kernel
theorem dX7_sign_0 : decode cX7_sign 0 = .ok (.aload_n 0, 1) := by decide +kernel
theorem dX7_sign_1 : decode cX7_sign 1 = .ok (.iconst 0, 1) := by decide +kernel
theorem dX7_sign_2 : decode cX7_sign 2 = .ok (.putfield 62, 3) := by decide +kernel
theorem dX7_sign_5 : decode cX7_sign 5 = .ok (.iload_n 1, 1) := by decide +kernel
theorem dX7_sign_6 : decode cX7_sign 6 = .ok (.ifCond .lt 11, 3) := by decide +kernel
theorem dX7_sign_9 : decode cX7_sign 9 = .ok (.iload_n 1, 1) := by decide +kernel
theorem dX7_sign_10 : decode cX7_sign 10 = .ok (.aload_n 0, 1) := by decide +kernel
theorem dX7_sign_11 : decode cX7_sign 11 = .ok (.getfield 195, 3) := by decide +kernel
theorem dX7_sign_14 : decode cX7_sign 14 = .ok (.if_icmp .lt 7, 3) := by decide +kernel
theorem dX7_sign_17 : decode cX7_sign 17 = .ok (.iconst (-1), 1) := by decide +kernel
theorem dX7_sign_18 : decode cX7_sign 18 = .ok (.goto 9, 3) := by decide +kernel
theorem dX7_sign_21 : decode cX7_sign 21 = .ok (.aload_n 0, 1) := by decide +kernel
theorem dX7_sign_22 : decode cX7_sign 22 = .ok (.getfield 53, 3) := by decide +kernel
theorem dX7_sign_25 : decode cX7_sign 25 = .ok (.iload_n 1, 1) := by decide +kernel
theorem dX7_sign_26 : decode cX7_sign 26 = .ok (.iaload, 1) := by decide +kernel
theorem dX7_sign_27 : decode cX7_sign 27 = .ok (.ireturn, 1) := by decide +kernel
theorem dX7_state_0 : decode cX7_state 0 = .ok (.aload_n 0, 1) := by decide +kernel
theorem dX7_state_1 : decode cX7_state 1 = .ok (.iconst 0, 1) := by decide +kernel
theorem dX7_state_2 : decode cX7_state 2 = .ok (.putfield 62, 3) := by decide +kernel
theorem dX7_state_5 : decode cX7_state 5 = .ok (.iload_n 1, 1) := by decide +kernel
theorem dX7_state_6 : decode cX7_state 6 = .ok (.ifCond .ne 28, 3) := by decide +kernel
theorem dX7_state_9 : decode cX7_state 9 = .ok (.iload_n 2, 1) := by decide +kernel
theorem dX7_state_10 : decode cX7_state 10 = .ok (.ifCond .lt 11, 3) := by decide +kernel
theorem dX7_state_13 : decode cX7_state 13 = .ok (.iload_n 2, 1) := by decide +kernel
theorem dX7_state_14 : decode cX7_state 14 = .ok (.aload_n 0, 1) := by decide +kernel
theorem dX7_state_15 : decode cX7_state 15 = .ok (.getfield 152, 3) := by decide +kernel
theorem dX7_state_18 : decode cX7_state 18 = .ok (.if_icmp .lt 9, 3) := by decide +kernel
theorem dX7_state_21 : decode cX7_state 21 = .ok (.ldc2_w 81, 3) := by decide +kernel
theorem dX7_state_24 : decode cX7_state 24 = .ok (.goto 9, 3) := by decide +kernel
theorem dX7_state_27 : decode cX7_state 27 = .ok (.aload_n 0, 1) := by decide +kernel
theorem dX7_state_28 : decode cX7_state 28 = .ok (.getfield 45, 3) := by decide +kernel
theorem dX7_state_31 : decode cX7_state 31 = .ok (.iload_n 2, 1) := by decide +kernel
theorem dX7_state_32 : decode cX7_state 32 = .ok (.laload, 1) := by decide +kernel
theorem dX7_state_33 : decode cX7_state 33 = .ok (.lreturn, 1) := by decide +kernel
theorem dX7_state_34 : decode cX7_state 34 = .ok (.iload_n 1, 1) := by decide +kernel
theorem dX7_state_35 : decode cX7_state 35 = .ok (.iconst 1, 1) := by decide +kernel
theorem dX7_state_36 : decode cX7_state 36 = .ok (.if_icmp .ne 22, 3) := by decide +kernel
theorem dX7_state_39 : decode cX7_state 39 = .ok (.aload_n 0, 1) := by decide +kernel
theorem dX7_state_40 : decode cX7_state 40 = .ok (.getfield 204, 3) := by decide +kernel
theorem dX7_state_43 : decode cX7_state 43 = .ok (.ifCond .eq 15, 3) := by decide +kernel
theorem dX7_state_46 : decode cX7_state 46 = .ok (.iload_n 2, 1) := by decide +kernel
theorem dX7_state_47 : decode cX7_state 47 = .ok (.ifCond .lt 11, 3) := by decide +kernel
theorem dX7_state_50 : decode cX7_state 50 = .ok (.iload_n 2, 1) := by decide +kernel
theorem dX7_state_51 : decode cX7_state 51 = .ok (.aload_n 0, 1) := by decide +kernel
theorem dX7_state_52 : decode cX7_state 52 = .ok (.getfield 201, 3) := by decide +kernel
theorem dX7_state_55 : decode cX7_state 55 = .ok (.if_icmp .lt 9, 3) := by decide +kernel
theorem dX7_state_58 : decode cX7_state 58 = .ok (.ldc2_w 81, 3) := by decide +kernel
theorem dX7_state_61 : decode cX7_state 61 = .ok (.goto 9, 3) := by decide +kernel
theorem dX7_state_64 : decode cX7_state 64 = .ok (.aload_n 0, 1) := by decide +kernel
theorem dX7_state_65 : decode cX7_state 65 = .ok (.getfield 56, 3) := by decide +kernel
theorem dX7_state_68 : decode cX7_state 68 = .ok (.iload_n 2, 1) := by decide +kernel
theorem dX7_state_69 : decode cX7_state 69 = .ok (.laload, 1) := by decide +kernel
theorem dX7_state_70 : decode cX7_state 70 = .ok (.lreturn, 1) := by decide +kernel
theorem dX7_out_0 : decode cX7_out 0 = .ok (.aload_n 0, 1) := by decide +kernel
theorem dX7_out_1 : decode cX7_out 1 = .ok (.iconst 0, 1) := by decide +kernel
theorem dX7_out_2 : decode cX7_out 2 = .ok (.putfield 62, 3) := by decide +kernel
theorem dX7_out_5 : decode cX7_out 5 = .ok (.iload_n 1, 1) := by decide +kernel
theorem dX7_out_6 : decode cX7_out 6 = .ok (.ifCond .lt 11, 3) := by decide +kernel
theorem dX7_out_9 : decode cX7_out 9 = .ok (.iload_n 1, 1) := by decide +kernel
theorem dX7_out_10 : decode cX7_out 10 = .ok (.aload_n 0, 1) := by decide +kernel
theorem dX7_out_11 : decode cX7_out 11 = .ok (.getfield 96, 3) := by decide +kernel
theorem dX7_out_14 : decode cX7_out 14 = .ok (.if_icmp .lt 7, 3) := by decide +kernel
theorem dX7_out_17 : decode cX7_out 17 = .ok (.iconst (-1), 1) := by decide +kernel
theorem dX7_out_18 : decode cX7_out 18 = .ok (.goto 9, 3) := by decide +kernel
theorem dX7_out_21 : decode cX7_out 21 = .ok (.aload_n 0, 1) := by decide +kernel
theorem dX7_out_22 : decode cX7_out 22 = .ok (.getfield 38, 3) := by decide +kernel
theorem dX7_out_25 : decode cX7_out 25 = .ok (.iload_n 1, 1) := by decide +kernel
theorem dX7_out_26 : decode cX7_out 26 = .ok (.iaload, 1) := by decide +kernel
theorem dX7_out_27 : decode cX7_out 27 = .ok (.ireturn, 1) := by decide +kernel
theorem dX7_spoil_0 : decode cX7_spoil 0 = .ok (.aload_n 0, 1) := by decide +kernel
theorem dX7_spoil_1 : decode cX7_spoil 1 = .ok (.iconst 0, 1) := by decide +kernel
theorem dX7_spoil_2 : decode cX7_spoil 2 = .ok (.putfield 62, 3) := by decide +kernel
theorem dX7_spoil_5 : decode cX7_spoil 5 = .ok (.iload_n 1, 1) := by decide +kernel
theorem dX7_spoil_6 : decode cX7_spoil 6 = .ok (.ifCond .lt 23, 3) := by decide +kernel
theorem dX7_spoil_9 : decode cX7_spoil 9 = .ok (.iload_n 1, 1) := by decide +kernel
theorem dX7_spoil_10 : decode cX7_spoil 10 = .ok (.aload_n 0, 1) := by decide +kernel
theorem dX7_spoil_11 : decode cX7_spoil 11 = .ok (.getfield 96, 3) := by decide +kernel
theorem dX7_spoil_14 : decode cX7_spoil 14 = .ok (.if_icmp .ge 15, 3) := by decide +kernel
theorem dX7_spoil_17 : decode cX7_spoil 17 = .ok (.iload_n 2, 1) := by decide +kernel
theorem dX7_spoil_18 : decode cX7_spoil 18 = .ok (.iconst 1, 1) := by decide +kernel
theorem dX7_spoil_19 : decode cX7_spoil 19 = .ok (.if_icmp .lt 10, 3) := by decide +kernel
theorem dX7_spoil_22 : decode cX7_spoil 22 = .ok (.iload_n 2, 1) := by decide +kernel
theorem dX7_spoil_23 : decode cX7_spoil 23 = .ok (.sipush 255, 3) := by decide +kernel
theorem dX7_spoil_26 : decode cX7_spoil 26 = .ok (.if_icmp .le 5, 3) := by decide +kernel
theorem dX7_spoil_29 : decode cX7_spoil 29 = .ok (.iconst (-1), 1) := by decide +kernel
theorem dX7_spoil_30 : decode cX7_spoil 30 = .ok (.ireturn, 1) := by decide +kernel
theorem dX7_spoil_31 : decode cX7_spoil 31 = .ok (.aload_n 0, 1) := by decide +kernel
theorem dX7_spoil_32 : decode cX7_spoil 32 = .ok (.getfield 38, 3) := by decide +kernel
theorem dX7_spoil_35 : decode cX7_spoil 35 = .ok (.iload_n 1, 1) := by decide +kernel
theorem dX7_spoil_36 : decode cX7_spoil 36 = .ok (.dup2, 1) := by decide +kernel
theorem dX7_spoil_37 : decode cX7_spoil 37 = .ok (.iaload, 1) := by decide +kernel
theorem dX7_spoil_38 : decode cX7_spoil 38 = .ok (.iload_n 2, 1) := by decide +kernel
theorem dX7_spoil_39 : decode cX7_spoil 39 = .ok (.ixor, 1) := by decide +kernel
theorem dX7_spoil_40 : decode cX7_spoil 40 = .ok (.iastore, 1) := by decide +kernel
theorem dX7_spoil_41 : decode cX7_spoil 41 = .ok (.aload_n 0, 1) := by decide +kernel
theorem dX7_spoil_42 : decode cX7_spoil 42 = .ok (.getfield 38, 3) := by decide +kernel
theorem dX7_spoil_45 : decode cX7_spoil 45 = .ok (.iload_n 1, 1) := by decide +kernel
theorem dX7_spoil_46 : decode cX7_spoil 46 = .ok (.iaload, 1) := by decide +kernel
theorem dX7_spoil_47 : decode cX7_spoil 47 = .ok (.ireturn, 1) := by decide +kernel
theorem dX7_cut_0 : decode cX7_cut 0 = .ok (.aload_n 0, 1) := by decide +kernel
theorem dX7_cut_1 : decode cX7_cut 1 = .ok (.iconst 0, 1) := by decide +kernel
theorem dX7_cut_2 : decode cX7_cut 2 = .ok (.putfield 62, 3) := by decide +kernel
theorem dX7_cut_5 : decode cX7_cut 5 = .ok (.iload_n 1, 1) := by decide +kernel
theorem dX7_cut_6 : decode cX7_cut 6 = .ok (.ifCond .lt 11, 3) := by decide +kernel
theorem dX7_cut_9 : decode cX7_cut 9 = .ok (.iload_n 1, 1) := by decide +kernel
theorem dX7_cut_10 : decode cX7_cut 10 = .ok (.aload_n 0, 1) := by decide +kernel
theorem dX7_cut_11 : decode cX7_cut 11 = .ok (.getfield 96, 3) := by decide +kernel
theorem dX7_cut_14 : decode cX7_cut 14 = .ok (.if_icmp .le 5, 3) := by decide +kernel
theorem dX7_cut_17 : decode cX7_cut 17 = .ok (.iconst (-1), 1) := by decide +kernel
theorem dX7_cut_18 : decode cX7_cut 18 = .ok (.ireturn, 1) := by decide +kernel
theorem dX7_cut_19 : decode cX7_cut 19 = .ok (.aload_n 0, 1) := by decide +kernel
theorem dX7_cut_20 : decode cX7_cut 20 = .ok (.dup, 1) := by decide +kernel
theorem dX7_cut_21 : decode cX7_cut 21 = .ok (.getfield 96, 3) := by decide +kernel
theorem dX7_cut_24 : decode cX7_cut 24 = .ok (.iload_n 1, 1) := by decide +kernel
theorem dX7_cut_25 : decode cX7_cut 25 = .ok (.isub, 1) := by decide +kernel
theorem dX7_cut_26 : decode cX7_cut 26 = .ok (.putfield 96, 3) := by decide +kernel
theorem dX7_cut_29 : decode cX7_cut 29 = .ok (.aload_n 0, 1) := by decide +kernel
theorem dX7_cut_30 : decode cX7_cut 30 = .ok (.getfield 96, 3) := by decide +kernel
theorem dX7_cut_33 : decode cX7_cut 33 = .ok (.ireturn, 1) := by decide +kernel
theorem dX7_octet_0 : decode cX7_octet 0 = .ok (.aload_n 0, 1) := by decide +kernel
theorem dX7_octet_1 : decode cX7_octet 1 = .ok (.iconst 0, 1) := by decide +kernel
theorem dX7_octet_2 : decode cX7_octet 2 = .ok (.putfield 62, 3) := by decide +kernel
theorem dX7_octet_5 : decode cX7_octet 5 = .ok (.aload_n 0, 1) := by decide +kernel
theorem dX7_octet_6 : decode cX7_octet 6 = .ok (.getfield 96, 3) := by decide +kernel
theorem dX7_octet_9 : decode cX7_octet 9 = .ok (.sipush 8000, 3) := by decide +kernel
theorem dX7_octet_12 : decode cX7_octet 12 = .ok (.if_icmp .lt 6, 3) := by decide +kernel
theorem dX7_octet_15 : decode cX7_octet 15 = .ok (.bipush (-3), 2) := by decide +kernel
theorem dX7_octet_17 : decode cX7_octet 17 = .ok (.ireturn, 1) := by decide +kernel
theorem dX7_octet_18 : decode cX7_octet 18 = .ok (.aload_n 0, 1) := by decide +kernel
theorem dX7_octet_19 : decode cX7_octet 19 = .ok (.iload_n 1, 1) := by decide +kernel
theorem dX7_octet_20 : decode cX7_octet 20 = .ok (.invokevirtual 99, 3) := by decide +kernel
theorem dX7_octet_23 : decode cX7_octet 23 = .ok (.aload_n 0, 1) := by decide +kernel
theorem dX7_octet_24 : decode cX7_octet 24 = .ok (.getfield 96, 3) := by decide +kernel
theorem dX7_octet_27 : decode cX7_octet 27 = .ok (.ireturn, 1) := by decide +kernel
theorem dX7_agree_0 : decode cX7_agree 0 = .ok (.aload_n 0, 1) := by decide +kernel
theorem dX7_agree_1 : decode cX7_agree 1 = .ok (.iconst 0, 1) := by decide +kernel
theorem dX7_agree_2 : decode cX7_agree 2 = .ok (.putfield 62, 3) := by decide +kernel
theorem dX7_agree_5 : decode cX7_agree 5 = .ok (.aload_n 0, 1) := by decide +kernel
theorem dX7_agree_6 : decode cX7_agree 6 = .ok (.invokevirtual 155, 3) := by decide +kernel
theorem dX7_agree_9 : decode cX7_agree 9 = .ok (.ifCond .ne 6, 3) := by decide +kernel
theorem dX7_agree_12 : decode cX7_agree 12 = .ok (.bipush (-2), 2) := by decide +kernel
theorem dX7_agree_14 : decode cX7_agree 14 = .ok (.ireturn, 1) := by decide +kernel
theorem dX7_agree_15 : decode cX7_agree 15 = .ok (.iconst 1, 1) := by decide +kernel
theorem dX7_agree_16 : decode cX7_agree 16 = .ok (.istore_n 1, 1) := by decide +kernel
theorem dX7_agree_17 : decode cX7_agree 17 = .ok (.iconst 0, 1) := by decide +kernel
theorem dX7_agree_18 : decode cX7_agree 18 = .ok (.istore_n 2, 1) := by decide +kernel
theorem dX7_agree_19 : decode cX7_agree 19 = .ok (.iload_n 2, 1) := by decide +kernel
theorem dX7_agree_20 : decode cX7_agree 20 = .ok (.iconst 4, 1) := by decide +kernel
theorem dX7_agree_21 : decode cX7_agree 21 = .ok (.if_icmp .ge 105, 3) := by decide +kernel
theorem dX7_agree_24 : decode cX7_agree 24 = .ok (.aload_n 0, 1) := by decide +kernel
theorem dX7_agree_25 : decode cX7_agree 25 = .ok (.iload_n 2, 1) := by decide +kernel
theorem dX7_agree_26 : decode cX7_agree 26 = .ok (.invokevirtual 159, 3) := by decide +kernel
theorem dX7_agree_29 : decode cX7_agree 29 = .ok (.aload_n 0, 1) := by decide +kernel
theorem dX7_agree_30 : decode cX7_agree 30 = .ok (.invokevirtual 220, 3) := by decide +kernel
theorem dX7_agree_33 : decode cX7_agree 33 = .ok (.aload_n 0, 1) := by decide +kernel
theorem dX7_agree_34 : decode cX7_agree 34 = .ok (.aload_n 0, 1) := by decide +kernel
theorem dX7_agree_35 : decode cX7_agree 35 = .ok (.getfield 162, 3) := by decide +kernel
theorem dX7_agree_38 : decode cX7_agree 38 = .ok (.putfield 223, 3) := by decide +kernel
theorem dX7_agree_41 : decode cX7_agree 41 = .ok (.aload_n 0, 1) := by decide +kernel
theorem dX7_agree_42 : decode cX7_agree 42 = .ok (.getfield 162, 3) := by decide +kernel
theorem dX7_agree_45 : decode cX7_agree 45 = .ok (.ifCond .ne 18, 3) := by decide +kernel
theorem dX7_agree_48 : decode cX7_agree 48 = .ok (.aload_n 0, 1) := by decide +kernel
theorem dX7_agree_49 : decode cX7_agree 49 = .ok (.getfield 195, 3) := by decide +kernel
theorem dX7_agree_52 : decode cX7_agree 52 = .ok (.aload_n 0, 1) := by decide +kernel
theorem dX7_agree_53 : decode cX7_agree 53 = .ok (.getfield 65, 3) := by decide +kernel
theorem dX7_agree_56 : decode cX7_agree 56 = .ok (.if_icmp .ne 7, 3) := by decide +kernel
theorem dX7_agree_59 : decode cX7_agree 59 = .ok (.iconst 1, 1) := by decide +kernel
theorem dX7_agree_60 : decode cX7_agree 60 = .ok (.goto 4, 3) := by decide +kernel
theorem dX7_agree_63 : decode cX7_agree 63 = .ok (.iconst 0, 1) := by decide +kernel
theorem dX7_agree_64 : decode cX7_agree 64 = .ok (.istore_n 3, 1) := by decide +kernel
theorem dX7_agree_65 : decode cX7_agree 65 = .ok (.iconst 0, 1) := by decide +kernel
theorem dX7_agree_66 : decode cX7_agree 66 = .ok (.istore 4, 2) := by decide +kernel
theorem dX7_agree_68 : decode cX7_agree 68 = .ok (.iload 4, 2) := by decide +kernel
theorem dX7_agree_70 : decode cX7_agree 70 = .ok (.aload_n 0, 1) := by decide +kernel
theorem dX7_agree_71 : decode cX7_agree 71 = .ok (.getfield 65, 3) := by decide +kernel
theorem dX7_agree_74 : decode cX7_agree 74 = .ok (.if_icmp .ge 36, 3) := by decide +kernel
theorem dX7_agree_77 : decode cX7_agree 77 = .ok (.iload_n 3, 1) := by decide +kernel
theorem dX7_agree_78 : decode cX7_agree 78 = .ok (.ifCond .eq 32, 3) := by decide +kernel
theorem dX7_agree_81 : decode cX7_agree 81 = .ok (.aload_n 0, 1) := by decide +kernel
theorem dX7_agree_82 : decode cX7_agree 82 = .ok (.getfield 53, 3) := by decide +kernel
theorem dX7_agree_85 : decode cX7_agree 85 = .ok (.iload 4, 2) := by decide +kernel
theorem dX7_agree_87 : decode cX7_agree 87 = .ok (.iaload, 1) := by decide +kernel
theorem dX7_agree_88 : decode cX7_agree 88 = .ok (.aload_n 0, 1) := by decide +kernel
theorem dX7_agree_89 : decode cX7_agree 89 = .ok (.getfield 13, 3) := by decide +kernel
theorem dX7_agree_92 : decode cX7_agree 92 = .ok (.iload 4, 2) := by decide +kernel
theorem dX7_agree_94 : decode cX7_agree 94 = .ok (.iaload, 1) := by decide +kernel
theorem dX7_agree_95 : decode cX7_agree 95 = .ok (.if_icmp .ne 7, 3) := by decide +kernel
theorem dX7_agree_98 : decode cX7_agree 98 = .ok (.iconst 1, 1) := by decide +kernel
theorem dX7_agree_99 : decode cX7_agree 99 = .ok (.goto 4, 3) := by decide +kernel
theorem dX7_agree_102 : decode cX7_agree 102 = .ok (.iconst 0, 1) := by decide +kernel
theorem dX7_agree_103 : decode cX7_agree 103 = .ok (.istore_n 3, 1) := by decide +kernel
theorem dX7_agree_104 : decode cX7_agree 104 = .ok (.iinc 4 1, 3) := by decide +kernel
theorem dX7_agree_107 : decode cX7_agree 107 = .ok (.goto (-39), 3) := by decide +kernel
theorem dX7_agree_110 : decode cX7_agree 110 = .ok (.iload_n 3, 1) := by decide +kernel
theorem dX7_agree_111 : decode cX7_agree 111 = .ok (.ifCond .eq 7, 3) := by decide +kernel
theorem dX7_agree_114 : decode cX7_agree 114 = .ok (.iload_n 1, 1) := by decide +kernel
theorem dX7_agree_115 : decode cX7_agree 115 = .ok (.goto 4, 3) := by decide +kernel
theorem dX7_agree_118 : decode cX7_agree 118 = .ok (.iconst 0, 1) := by decide +kernel
theorem dX7_agree_119 : decode cX7_agree 119 = .ok (.istore_n 1, 1) := by decide +kernel
theorem dX7_agree_120 : decode cX7_agree 120 = .ok (.iinc 2 1, 3) := by decide +kernel
theorem dX7_agree_123 : decode cX7_agree 123 = .ok (.goto (-104), 3) := by decide +kernel
theorem dX7_agree_126 : decode cX7_agree 126 = .ok (.iload_n 1, 1) := by decide +kernel
theorem dX7_agree_127 : decode cX7_agree 127 = .ok (.ireturn, 1) := by decide +kernel
theorem dX7_told_0 : decode cX7_told 0 = .ok (.aload_n 0, 1) := by decide +kernel
theorem dX7_told_1 : decode cX7_told 1 = .ok (.iconst 0, 1) := by decide +kernel
theorem dX7_told_2 : decode cX7_told 2 = .ok (.putfield 62, 3) := by decide +kernel
theorem dX7_told_5 : decode cX7_told 5 = .ok (.iload_n 1, 1) := by decide +kernel
theorem dX7_told_6 : decode cX7_told 6 = .ok (.tableswitch 85 0 6 #[42, 47, 52, 57, 62, 67, 72], 42) := by decide +kernel
theorem dX7_told_48 : decode cX7_told 48 = .ok (.aload_n 0, 1) := by decide +kernel
theorem dX7_told_49 : decode cX7_told 49 = .ok (.getfield 59, 3) := by decide +kernel
theorem dX7_told_52 : decode cX7_told 52 = .ok (.ireturn, 1) := by decide +kernel
theorem dX7_told_53 : decode cX7_told 53 = .ok (.aload_n 0, 1) := by decide +kernel
theorem dX7_told_54 : decode cX7_told 54 = .ok (.getfield 65, 3) := by decide +kernel
theorem dX7_told_57 : decode cX7_told 57 = .ok (.ireturn, 1) := by decide +kernel
theorem dX7_told_58 : decode cX7_told 58 = .ok (.aload_n 0, 1) := by decide +kernel
theorem dX7_told_59 : decode cX7_told 59 = .ok (.getfield 96, 3) := by decide +kernel
theorem dX7_told_62 : decode cX7_told 62 = .ok (.ireturn, 1) := by decide +kernel
theorem dX7_told_63 : decode cX7_told 63 = .ok (.aload_n 0, 1) := by decide +kernel
theorem dX7_told_64 : decode cX7_told 64 = .ok (.getfield 195, 3) := by decide +kernel
theorem dX7_told_67 : decode cX7_told 67 = .ok (.ireturn, 1) := by decide +kernel
theorem dX7_told_68 : decode cX7_told 68 = .ok (.aload_n 0, 1) := by decide +kernel
theorem dX7_told_69 : decode cX7_told 69 = .ok (.getfield 91, 3) := by decide +kernel
theorem dX7_told_72 : decode cX7_told 72 = .ok (.ireturn, 1) := by decide +kernel
theorem dX7_told_73 : decode cX7_told 73 = .ok (.aload_n 0, 1) := by decide +kernel
theorem dX7_told_74 : decode cX7_told 74 = .ok (.getfield 7, 3) := by decide +kernel
theorem dX7_told_77 : decode cX7_told 77 = .ok (.ireturn, 1) := by decide +kernel
theorem dX7_told_78 : decode cX7_told 78 = .ok (.aload_n 0, 1) := by decide +kernel
theorem dX7_told_79 : decode cX7_told 79 = .ok (.getfield 69, 3) := by decide +kernel
theorem dX7_told_82 : decode cX7_told 82 = .ok (.ifCond .eq 7, 3) := by decide +kernel
theorem dX7_told_85 : decode cX7_told 85 = .ok (.iconst 1, 1) := by decide +kernel
theorem dX7_told_86 : decode cX7_told 86 = .ok (.goto 4, 3) := by decide +kernel
theorem dX7_told_89 : decode cX7_told 89 = .ok (.iconst 0, 1) := by decide +kernel
theorem dX7_told_90 : decode cX7_told 90 = .ok (.ireturn, 1) := by decide +kernel
theorem dX7_told_91 : decode cX7_told 91 = .ok (.iconst (-1), 1) := by decide +kernel
theorem dX7_told_92 : decode cX7_told 92 = .ok (.ireturn, 1) := by decide +kernel
end
section
def f_X7_add (uM : OS) (p1 : Int32) : Option (OS × Int32) :=
  bnd (sF uM 1 (0 : Int32)) fun u1 =>
  if p1 < (0 : Int32) then (
  some (u1, (-1 : Int32))) else (
  if p1 < (32 : Int32) then (
  if (u1.1 5) = (1000 : Int32) then (
  some (u1, (-3 : Int32))) else (
  gdi (u1.1 5) 1000 <|
  bnd (sA u1 4 (u1.1 5) p1) fun u6 =>
  bnd (sF u6 5 ((u6.1 5) + (1 : Int32))) fun u7 =>
  some (u7, (u7.1 5)))) else (
  some (u1, (-1 : Int32))))

set_option maxHeartbeats 4000000 in
set_option maxRecDepth 100000 in
theorem c_X7_add (l : Launch) (dC : Nat → ClassId) (dI : Nat → Nat → Nat) (cI cJ : ClassId) (aM : Nat) (hM : Nat → Nat) (sz : Nat) (uM : OS) (p1 : Int32) (o : OS × Int32) (hm : f_X7_add uM p1 = some o) : Met l yX7_add (wq yX7_add cX7_add 2 (some .int)) ({ frames := 0, cells := 0, slots := 0, locals := 0 } : Room) (va_Pc [.ref aM, .int p1] (pcW dC dI cI cJ sz (wM cI cJ aM hM uM))) (va_Qi (S := OS) (fun r u => some (u, r) = some o) (fun (u : OS) t => va_P (dC, dI) vwCl (wM cI cJ aM hM u) t.heap ∧ va_D (va_A (wM cI cJ aM hM uM) sz) (wM cI cJ aM hM u)) (va_A (wM cI cJ aM hM uM) sz)) 0 0 (va_A (wM cI cJ aM hM uM) sz) := by
  refine Met.ofW (cc := cX7_add) (maxL := 2) (ret := (some .int)) (by decide) rfl ?_
  intro p e s m args below meth c s₁ B hml hv
  obtain ⟨rfl, hsz, hP, hK, hD0, hN⟩ := hv
  have hx := B.exec
  have hb := B.bytes
  have hr := B.returns
  have ht : ∀ w ∈ lw_good, w.before _ s = true := fun w h => atoms_spec (ws := wq yX7_add cX7_add 2 (some .int)) B.pre w (wq_mem h)
  have hown : s.vm.findClass RX7 = some m.cls := findClass_of_methodNamed B.named
  have hlocks := B.notSynchronized
  subst hsz
  have hD := hD0.self (sz := s.heap.size)
  generalize hAe : va_A (wM cI cJ aM hM uM) s.heap.size = A at hD ⊢
  have hA : ∀ q : Nat, s.heap.size ≤ q → A q := fun q h => by rw [← hAe]; exact Or.inr h
  have hS : va_S A s.heap s.heap [] := va_S.rf
  have hl := lv_entry ([.ref aM, .int p1]) (n := 2) (Nat.le_of_ble_eq_true rfl)
  rw [lg_entry_eq]
  generalize (lg_sl ([.ref aM, .int p1]) ++ List.replicate (2 - (lg_sl ([.ref aM, .int p1])).length) Slot.unset).toArray = ls at hl ⊢
  have hl : lv_has ls 2 [(0, .ref aM), (1, .int p1)] := hl
  generalize hQ : MQ below _ _ s _ _ _ = Q
  generalize hH : s.heap = H at hP ⊢
  have hS : va_S A s.heap H [] := by rw [← hH]; exact va_S.rf
  show W p l e ({ frames := 0, cells := 0, slots := 0, locals := 0 } : Room) s m ([.ref aM, .int p1] : List Value).toArray below meth c H [] 0 0 Q (F0 m 0 ls [])
  unfold f_X7_add at hm
  refine lv_aload_n hx hb dX7_add_0 rfl (lv_at hl 0 rfl) ?_
  refine lv_iconst (v := (0 : Int32)) hx hb dX7_add_1 (by decide) ?_
  refine va_put (D := (dC, dI)) (ci := 8) (v := .int (0 : Int32)) (ty := .int) (C := RX7) (T := TX7) (N := 34) hx hb ht inX7 tyX7 tyX7_ok nmX7 hown hK hP hD hS 0 rfl rfl 1 (by decide) (ht _ kw_0) (fun _ h9 => h9) rfl (by decide +kernel) rfl rfl (Nat.le_of_ble_eq_true rfl) dX7_add_2 (fun H locs hP hD hS => ?_)
  obtain ⟨u1, eu1, hm⟩ := bnd_ex hm
  have hP : va_P (dC, dI) vwCl (wM cI cJ aM hM u1) H := by rw [eu1]; exact hP
  have hD : va_D A (wM cI cJ aM hM u1) := by rw [eu1]; exact hD
  refine lv_iload_n hx hb dX7_add_5 rfl (lv_at hl 1 rfl) ?_
  refine lv_if_lt (tgt := 15) hx hb dX7_add_6 (by decide) (fun c2 => ?_) (fun c2 => ?_)
  · have hm := ite_t c2 hm
    refine lv_iconst (v := (-1 : Int32)) hx hb dX7_add_15 (by decide) ?_
    rw [← hQ]
    exact W.iret (v := (-1 : Int32)) hx hb hr (fun t ht1 hW => ⟨⟨_, u1, rfl, hm, by rw [ht1]; exact hP, hD⟩, hS.F ht1⟩) hS.2.2 dX7_add_16
  · have hm := ite_f c2 hm
    refine lv_iload_n hx hb dX7_add_9 rfl (lv_at hl 1 rfl) ?_
    refine lv_bipush (v := (32 : Int32)) hx hb dX7_add_10 (by decide) ?_
    refine lv_icmp_lt (tgt := 17) hx hb dX7_add_12 (by decide) (fun c3 => ?_) (fun c3 => ?_)
    · have hm := ite_t c3 hm
      refine lv_aload_n hx hb dX7_add_17 rfl (lv_at hl 0 rfl) ?_
      refine va_get (D := (dC, dI)) (ci := 8) (v := .int (u1.1 5)) (C := RX7) (T := TX7) (N := 34) hx hb ht inX7 hown hK hP 0 rfl rfl 5 (by decide) (ht _ kw_1) (fun _ h9 => h9) rfl dX7_add_18 ?_
      refine lv_sipush (v := (1000 : Int32)) hx hb dX7_add_21 (by decide) ?_
      refine lv_icmp_ne (tgt := 30) hx hb dX7_add_24 (by decide) (fun c4 => ?_) (fun c4 => ?_)
      · have hm := ite_f c4 hm
        refine lv_aload_n hx hb dX7_add_30 rfl (lv_at hl 0 rfl) ?_
        refine va_get (D := (dC, dI)) (ci := 8) (v := .ref (hM 4)) (C := RX7) (T := TX7) (N := 34) hx hb ht inX7 hown hK hP 0 rfl rfl 4 (by decide) (ht _ kw_2) (fun _ h9 => h9) rfl dX7_add_31 ?_
        refine lv_aload_n hx hb dX7_add_34 rfl (lv_at hl 0 rfl) ?_
        refine va_get (D := (dC, dI)) (ci := 8) (v := .int (u1.1 5)) (C := RX7) (T := TX7) (N := 34) hx hb ht inX7 hown hK hP 0 rfl rfl 5 (by decide) (ht _ kw_1) (fun _ h9 => h9) rfl dX7_add_35 ?_
        refine lv_iload_n hx hb dX7_add_38 rfl (lv_at hl 1 rfl) ?_
        obtain ⟨g5, hm⟩ := gdi_of hm
        refine va_iast hx hb hK hP hD hS 1 0 rfl rfl g5 dX7_add_39 (fun H locs hP hD hS => ?_)
        obtain ⟨u6, eu6, hm⟩ := bnd_ex hm
        have hP : va_P (dC, dI) vwCl (wM cI cJ aM hM u6) H := by rw [eu6]; exact hP
        have hD : va_D A (wM cI cJ aM hM u6) := by rw [eu6]; exact hD
        refine lv_aload_n hx hb dX7_add_40 rfl (lv_at hl 0 rfl) ?_
        refine lv_dup hx hb dX7_add_41 rfl ?_
        refine va_get (D := (dC, dI)) (ci := 8) (v := .int (u6.1 5)) (C := RX7) (T := TX7) (N := 34) hx hb ht inX7 hown hK hP 0 rfl rfl 5 (by decide) (ht _ kw_1) (fun _ h9 => h9) rfl dX7_add_42 ?_
        refine lv_iconst (v := (1 : Int32)) hx hb dX7_add_45 (by decide) ?_
        refine lv_iadd hx hb dX7_add_46 ?_
        refine va_put (D := (dC, dI)) (ci := 8) (v := .int ((u6.1 5) + (1 : Int32))) (ty := .int) (C := RX7) (T := TX7) (N := 34) hx hb ht inX7 tyX7 tyX7_ok nmX7 hown hK hP hD hS 0 rfl rfl 5 (by decide) (ht _ kw_1) (fun _ h9 => h9) rfl (by decide +kernel) rfl rfl (Nat.le_of_ble_eq_true rfl) dX7_add_47 (fun H locs hP hD hS => ?_)
        obtain ⟨u7, eu7, hm⟩ := bnd_ex hm
        have hP : va_P (dC, dI) vwCl (wM cI cJ aM hM u7) H := by rw [eu7]; exact hP
        have hD : va_D A (wM cI cJ aM hM u7) := by rw [eu7]; exact hD
        refine lv_aload_n hx hb dX7_add_50 rfl (lv_at hl 0 rfl) ?_
        refine va_get (D := (dC, dI)) (ci := 8) (v := .int (u7.1 5)) (C := RX7) (T := TX7) (N := 34) hx hb ht inX7 hown hK hP 0 rfl rfl 5 (by decide) (ht _ kw_1) (fun _ h9 => h9) rfl dX7_add_51 ?_
        rw [← hQ]
        exact W.iret (v := (u7.1 5)) hx hb hr (fun t ht1 hW => ⟨⟨_, u7, rfl, hm, by rw [ht1]; exact hP, hD⟩, hS.F ht1⟩) hS.2.2 dX7_add_54
      · have hm := ite_t c4 hm
        refine lv_bipush (v := (-3 : Int32)) hx hb dX7_add_27 (by decide) ?_
        rw [← hQ]
        exact W.iret (v := (-3 : Int32)) hx hb hr (fun t ht1 hW => ⟨⟨_, u1, rfl, hm, by rw [ht1]; exact hP, hD⟩, hS.F ht1⟩) hS.2.2 dX7_add_29
    · have hm := ite_f c3 hm
      refine lv_iconst (v := (-1 : Int32)) hx hb dX7_add_15 (by decide) ?_
      rw [← hQ]
      exact W.iret (v := (-1 : Int32)) hx hb hr (fun t ht1 hW => ⟨⟨_, u1, rfl, hm, by rw [ht1]; exact hP, hD⟩, hS.F ht1⟩) hS.2.2 dX7_add_16

def f_X7_clear (uM : OS) : Option (OS × Int32) :=
  bnd (sF uM 1 (0 : Int32)) fun u1 =>
  bnd (u1.1 5) fun x2 =>
  bnd (sF u1 5 (0 : Int32)) fun u3 =>
  some (u3, x2)

set_option maxHeartbeats 4000000 in
set_option maxRecDepth 100000 in
theorem c_X7_clear (l : Launch) (dC : Nat → ClassId) (dI : Nat → Nat → Nat) (cI cJ : ClassId) (aM : Nat) (hM : Nat → Nat) (sz : Nat) (uM : OS) (o : OS × Int32) (hm : f_X7_clear uM = some o) : Met l yX7_clear (wq yX7_clear cX7_clear 2 (some .int)) ({ frames := 0, cells := 0, slots := 0, locals := 0 } : Room) (va_Pc [.ref aM] (pcW dC dI cI cJ sz (wM cI cJ aM hM uM))) (va_Qi (S := OS) (fun r u => some (u, r) = some o) (fun (u : OS) t => va_P (dC, dI) vwCl (wM cI cJ aM hM u) t.heap ∧ va_D (va_A (wM cI cJ aM hM uM) sz) (wM cI cJ aM hM u)) (va_A (wM cI cJ aM hM uM) sz)) 0 0 (va_A (wM cI cJ aM hM uM) sz) := by
  refine Met.ofW (cc := cX7_clear) (maxL := 2) (ret := (some .int)) (by decide) rfl ?_
  intro p e s m args below meth c s₁ B hml hv
  obtain ⟨rfl, hsz, hP, hK, hD0, hN⟩ := hv
  have hx := B.exec
  have hb := B.bytes
  have hr := B.returns
  have ht : ∀ w ∈ lw_good, w.before _ s = true := fun w h => atoms_spec (ws := wq yX7_clear cX7_clear 2 (some .int)) B.pre w (wq_mem h)
  have hown : s.vm.findClass RX7 = some m.cls := findClass_of_methodNamed B.named
  have hlocks := B.notSynchronized
  subst hsz
  have hD := hD0.self (sz := s.heap.size)
  generalize hAe : va_A (wM cI cJ aM hM uM) s.heap.size = A at hD ⊢
  have hA : ∀ q : Nat, s.heap.size ≤ q → A q := fun q h => by rw [← hAe]; exact Or.inr h
  have hS : va_S A s.heap s.heap [] := va_S.rf
  have hl := lv_entry ([.ref aM]) (n := 2) (Nat.le_of_ble_eq_true rfl)
  rw [lg_entry_eq]
  generalize (lg_sl ([.ref aM]) ++ List.replicate (2 - (lg_sl ([.ref aM])).length) Slot.unset).toArray = ls at hl ⊢
  have hl : lv_has ls 2 [(0, .ref aM)] := hl
  generalize hQ : MQ below _ _ s _ _ _ = Q
  generalize hH : s.heap = H at hP ⊢
  have hS : va_S A s.heap H [] := by rw [← hH]; exact va_S.rf
  show W p l e ({ frames := 0, cells := 0, slots := 0, locals := 0 } : Room) s m ([.ref aM] : List Value).toArray below meth c H [] 0 0 Q (F0 m 0 ls [])
  unfold f_X7_clear at hm
  refine lv_aload_n hx hb dX7_clear_0 rfl (lv_at hl 0 rfl) ?_
  refine lv_iconst (v := (0 : Int32)) hx hb dX7_clear_1 (by decide) ?_
  refine va_put (D := (dC, dI)) (ci := 8) (v := .int (0 : Int32)) (ty := .int) (C := RX7) (T := TX7) (N := 34) hx hb ht inX7 tyX7 tyX7_ok nmX7 hown hK hP hD hS 0 rfl rfl 1 (by decide) (ht _ kw_0) (fun _ h9 => h9) rfl (by decide +kernel) rfl rfl (Nat.le_of_ble_eq_true rfl) dX7_clear_2 (fun H locs hP hD hS => ?_)
  obtain ⟨u1, eu1, hm⟩ := bnd_ex hm
  have hP : va_P (dC, dI) vwCl (wM cI cJ aM hM u1) H := by rw [eu1]; exact hP
  have hD : va_D A (wM cI cJ aM hM u1) := by rw [eu1]; exact hD
  refine lv_aload_n hx hb dX7_clear_5 rfl (lv_at hl 0 rfl) ?_
  refine va_get (D := (dC, dI)) (ci := 8) (v := .int (u1.1 5)) (C := RX7) (T := TX7) (N := 34) hx hb ht inX7 hown hK hP 0 rfl rfl 5 (by decide) (ht _ kw_1) (fun _ h9 => h9) rfl dX7_clear_6 ?_
  refine lv_topi (fun x2 ex2 => ?_)
  have hm := bnd_nm ex2 hm
  refine lv_istore_n (lv' := [(1, .int x2), (0, .ref aM)]) hx hb dX7_clear_9 rfl hl (by decide) rfl (fun ls hl => ?_)
  refine lv_aload_n hx hb dX7_clear_10 rfl (lv_at hl 1 rfl) ?_
  refine lv_iconst (v := (0 : Int32)) hx hb dX7_clear_11 (by decide) ?_
  refine va_put (D := (dC, dI)) (ci := 8) (v := .int (0 : Int32)) (ty := .int) (C := RX7) (T := TX7) (N := 34) hx hb ht inX7 tyX7 tyX7_ok nmX7 hown hK hP hD hS 0 rfl rfl 5 (by decide) (ht _ kw_1) (fun _ h9 => h9) rfl (by decide +kernel) rfl rfl (Nat.le_of_ble_eq_true rfl) dX7_clear_12 (fun H locs hP hD hS => ?_)
  obtain ⟨u3, eu3, hm⟩ := bnd_ex hm
  have hP : va_P (dC, dI) vwCl (wM cI cJ aM hM u3) H := by rw [eu3]; exact hP
  have hD : va_D A (wM cI cJ aM hM u3) := by rw [eu3]; exact hD
  refine lv_iload_n hx hb dX7_clear_15 rfl (lv_at hl 0 rfl) ?_
  rw [← hQ]
  exact W.iret (v := x2) hx hb hr (fun t ht1 hW => ⟨⟨_, u3, rfl, hm, by rw [ht1]; exact hP, hD⟩, hS.F ht1⟩) hS.2.2 dX7_clear_16

def f_X7_count (uM : OS) (p1 : Int32) (p2 : Int32) : Option (OS × Int32) :=
  bnd (sF uM 1 (0 : Int32)) fun u1 =>
  if p1 < (0 : Int32) then (
  some (u1, (-1 : Int32))) else (
  if (32 : Int32) ≤ p1 then (
  some (u1, (-1 : Int32))) else (
  if p2 < (0 : Int32) then (
  some (u1, (-1 : Int32))) else (
  if p2 ≤ (1000000 : Int32) then (
  gdi p1 32 <|
  bnd (u1.2.1 6 (p1).toNatClampNeg) fun x7 =>
  gdi p1 32 <|
  bnd (sA u1 6 p1 p2) fun u9 =>
  bnd (sF u9 7 (0 : Int32)) fun u10 =>
  some (u10, x7)) else (
  some (u1, (-1 : Int32))))))

set_option maxHeartbeats 4000000 in
set_option maxRecDepth 100000 in
theorem c_X7_count (l : Launch) (dC : Nat → ClassId) (dI : Nat → Nat → Nat) (cI cJ : ClassId) (aM : Nat) (hM : Nat → Nat) (sz : Nat) (uM : OS) (p1 : Int32) (p2 : Int32) (o : OS × Int32) (hm : f_X7_count uM p1 p2 = some o) : Met l yX7_count (wq yX7_count cX7_count 4 (some .int)) ({ frames := 0, cells := 0, slots := 0, locals := 0 } : Room) (va_Pc [.ref aM, .int p1, .int p2] (pcW dC dI cI cJ sz (wM cI cJ aM hM uM))) (va_Qi (S := OS) (fun r u => some (u, r) = some o) (fun (u : OS) t => va_P (dC, dI) vwCl (wM cI cJ aM hM u) t.heap ∧ va_D (va_A (wM cI cJ aM hM uM) sz) (wM cI cJ aM hM u)) (va_A (wM cI cJ aM hM uM) sz)) 0 0 (va_A (wM cI cJ aM hM uM) sz) := by
  refine Met.ofW (cc := cX7_count) (maxL := 4) (ret := (some .int)) (by decide) rfl ?_
  intro p e s m args below meth c s₁ B hml hv
  obtain ⟨rfl, hsz, hP, hK, hD0, hN⟩ := hv
  have hx := B.exec
  have hb := B.bytes
  have hr := B.returns
  have ht : ∀ w ∈ lw_good, w.before _ s = true := fun w h => atoms_spec (ws := wq yX7_count cX7_count 4 (some .int)) B.pre w (wq_mem h)
  have hown : s.vm.findClass RX7 = some m.cls := findClass_of_methodNamed B.named
  have hlocks := B.notSynchronized
  subst hsz
  have hD := hD0.self (sz := s.heap.size)
  generalize hAe : va_A (wM cI cJ aM hM uM) s.heap.size = A at hD ⊢
  have hA : ∀ q : Nat, s.heap.size ≤ q → A q := fun q h => by rw [← hAe]; exact Or.inr h
  have hS : va_S A s.heap s.heap [] := va_S.rf
  have hl := lv_entry ([.ref aM, .int p1, .int p2]) (n := 4) (Nat.le_of_ble_eq_true rfl)
  rw [lg_entry_eq]
  generalize (lg_sl ([.ref aM, .int p1, .int p2]) ++ List.replicate (4 - (lg_sl ([.ref aM, .int p1, .int p2])).length) Slot.unset).toArray = ls at hl ⊢
  have hl : lv_has ls 4 [(0, .ref aM), (1, .int p1), (2, .int p2)] := hl
  generalize hQ : MQ below _ _ s _ _ _ = Q
  generalize hH : s.heap = H at hP ⊢
  have hS : va_S A s.heap H [] := by rw [← hH]; exact va_S.rf
  show W p l e ({ frames := 0, cells := 0, slots := 0, locals := 0 } : Room) s m ([.ref aM, .int p1, .int p2] : List Value).toArray below meth c H [] 0 0 Q (F0 m 0 ls [])
  unfold f_X7_count at hm
  refine lv_aload_n hx hb dX7_count_0 rfl (lv_at hl 0 rfl) ?_
  refine lv_iconst (v := (0 : Int32)) hx hb dX7_count_1 (by decide) ?_
  refine va_put (D := (dC, dI)) (ci := 8) (v := .int (0 : Int32)) (ty := .int) (C := RX7) (T := TX7) (N := 34) hx hb ht inX7 tyX7 tyX7_ok nmX7 hown hK hP hD hS 0 rfl rfl 1 (by decide) (ht _ kw_0) (fun _ h9 => h9) rfl (by decide +kernel) rfl rfl (Nat.le_of_ble_eq_true rfl) dX7_count_2 (fun H locs hP hD hS => ?_)
  obtain ⟨u1, eu1, hm⟩ := bnd_ex hm
  have hP : va_P (dC, dI) vwCl (wM cI cJ aM hM u1) H := by rw [eu1]; exact hP
  have hD : va_D A (wM cI cJ aM hM u1) := by rw [eu1]; exact hD
  refine lv_iload_n hx hb dX7_count_5 rfl (lv_at hl 1 rfl) ?_
  refine lv_if_lt (tgt := 25) hx hb dX7_count_6 (by decide) (fun c2 => ?_) (fun c2 => ?_)
  · have hm := ite_t c2 hm
    refine lv_iconst (v := (-1 : Int32)) hx hb dX7_count_25 (by decide) ?_
    rw [← hQ]
    exact W.iret (v := (-1 : Int32)) hx hb hr (fun t ht1 hW => ⟨⟨_, u1, rfl, hm, by rw [ht1]; exact hP, hD⟩, hS.F ht1⟩) hS.2.2 dX7_count_26
  · have hm := ite_f c2 hm
    refine lv_iload_n hx hb dX7_count_9 rfl (lv_at hl 1 rfl) ?_
    refine lv_bipush (v := (32 : Int32)) hx hb dX7_count_10 (by decide) ?_
    refine lv_icmp_ge (tgt := 25) hx hb dX7_count_12 (by decide) (fun c3 => ?_) (fun c3 => ?_)
    · have hm := ite_t c3 hm
      refine lv_iconst (v := (-1 : Int32)) hx hb dX7_count_25 (by decide) ?_
      rw [← hQ]
      exact W.iret (v := (-1 : Int32)) hx hb hr (fun t ht1 hW => ⟨⟨_, u1, rfl, hm, by rw [ht1]; exact hP, hD⟩, hS.F ht1⟩) hS.2.2 dX7_count_26
    · have hm := ite_f c3 hm
      refine lv_iload_n hx hb dX7_count_15 rfl (lv_at hl 2 rfl) ?_
      refine lv_if_lt (tgt := 25) hx hb dX7_count_16 (by decide) (fun c4 => ?_) (fun c4 => ?_)
      · have hm := ite_t c4 hm
        refine lv_iconst (v := (-1 : Int32)) hx hb dX7_count_25 (by decide) ?_
        rw [← hQ]
        exact W.iret (v := (-1 : Int32)) hx hb hr (fun t ht1 hW => ⟨⟨_, u1, rfl, hm, by rw [ht1]; exact hP, hD⟩, hS.F ht1⟩) hS.2.2 dX7_count_26
      · have hm := ite_f c4 hm
        refine lv_iload_n hx hb dX7_count_19 rfl (lv_at hl 2 rfl) ?_
        refine lv_ldc (v := (1000000 : Int32)) hx hb hown (ht _ kw_3) dX7_count_20 ?_
        refine lv_icmp_le (tgt := 27) hx hb dX7_count_22 (by decide) (fun c5 => ?_) (fun c5 => ?_)
        · have hm := ite_t c5 hm
          refine lv_aload_n hx hb dX7_count_27 rfl (lv_at hl 0 rfl) ?_
          refine va_get (D := (dC, dI)) (ci := 8) (v := .ref (hM 6)) (C := RX7) (T := TX7) (N := 34) hx hb ht inX7 hown hK hP 0 rfl rfl 6 (by decide) (ht _ kw_4) (fun _ h9 => h9) rfl dX7_count_28 ?_
          refine lv_iload_n hx hb dX7_count_31 rfl (lv_at hl 1 rfl) ?_
          obtain ⟨g6, hm⟩ := gdi_of hm
          refine va_iald hx hb hK hP 2 0 rfl rfl g6 dX7_count_32 ?_
          refine lv_topi (fun x7 ex7 => ?_)
          have hm := bnd_nm ex7 hm
          refine lv_istore_n (lv' := [(3, .int x7), (0, .ref aM), (1, .int p1), (2, .int p2)]) hx hb dX7_count_33 rfl hl (by decide) rfl (fun ls hl => ?_)
          refine lv_aload_n hx hb dX7_count_34 rfl (lv_at hl 1 rfl) ?_
          refine va_get (D := (dC, dI)) (ci := 8) (v := .ref (hM 6)) (C := RX7) (T := TX7) (N := 34) hx hb ht inX7 hown hK hP 0 rfl rfl 6 (by decide) (ht _ kw_4) (fun _ h9 => h9) rfl dX7_count_35 ?_
          refine lv_iload_n hx hb dX7_count_38 rfl (lv_at hl 2 rfl) ?_
          refine lv_iload_n hx hb dX7_count_39 rfl (lv_at hl 3 rfl) ?_
          obtain ⟨g8, hm⟩ := gdi_of hm
          refine va_iast hx hb hK hP hD hS 2 0 rfl rfl g8 dX7_count_40 (fun H locs hP hD hS => ?_)
          obtain ⟨u9, eu9, hm⟩ := bnd_ex hm
          have hP : va_P (dC, dI) vwCl (wM cI cJ aM hM u9) H := by rw [eu9]; exact hP
          have hD : va_D A (wM cI cJ aM hM u9) := by rw [eu9]; exact hD
          refine lv_aload_n hx hb dX7_count_41 rfl (lv_at hl 1 rfl) ?_
          refine lv_iconst (v := (0 : Int32)) hx hb dX7_count_42 (by decide) ?_
          refine va_put (D := (dC, dI)) (ci := 8) (v := .int (0 : Int32)) (ty := .boolean) (C := RX7) (T := TX7) (N := 34) hx hb ht inX7 tyX7 tyX7_ok nmX7 hown hK hP hD hS 0 rfl rfl 7 (by decide) (ht _ kw_5) (fun _ h9 => h9) rfl (by decide +kernel) rfl rfl (Nat.le_of_ble_eq_true rfl) dX7_count_43 (fun H locs hP hD hS => ?_)
          obtain ⟨u10, eu10, hm⟩ := bnd_ex hm
          have hP : va_P (dC, dI) vwCl (wM cI cJ aM hM u10) H := by rw [eu10]; exact hP
          have hD : va_D A (wM cI cJ aM hM u10) := by rw [eu10]; exact hD
          refine lv_iload_n hx hb dX7_count_46 rfl (lv_at hl 0 rfl) ?_
          rw [← hQ]
          exact W.iret (v := x7) hx hb hr (fun t ht1 hW => ⟨⟨_, u10, rfl, hm, by rw [ht1]; exact hP, hD⟩, hS.F ht1⟩) hS.2.2 dX7_count_47
        · have hm := ite_f c5 hm
          refine lv_iconst (v := (-1 : Int32)) hx hb dX7_count_25 (by decide) ?_
          rw [← hQ]
          exact W.iret (v := (-1 : Int32)) hx hb hr (fun t ht1 hW => ⟨⟨_, u1, rfl, hm, by rw [ht1]; exact hP, hD⟩, hS.F ht1⟩) hS.2.2 dX7_count_26

def f_X7_signsCounted_L4 (uM : OS) : Nat → (Int32 → Int32 → Option (Int32)) → Int32 → Int32 → Option (Int32)
  | 0, _, _, _ => none
  | n4 + 1, K33_5, x1, x2 =>
    if (32 : Int32) ≤ x1 then (
    K33_5 x2 x1) else (
    gdi x1 32 <|
    if (uM.2.1 6 (x1).toNatClampNeg) ≤ (0 : Int32) then (
    bnd (x2 + (0 : Int32)) fun x9 =>
    bnd (x1 + (1 : Int32)) fun x10 =>
    f_X7_signsCounted_L4 uM n4 K33_5 x10 x9) else (
    bnd (x2 + (1 : Int32)) fun x11 =>
    bnd (x1 + (1 : Int32)) fun x12 =>
    f_X7_signsCounted_L4 uM n4 K33_5 x12 x11))

def f_X7_signsCounted (uM : OS) : Option (Int32) :=
  bnd (fun (x3 : Int32) (x4 : Int32) =>
  some x3) fun K33_5 =>
  f_X7_signsCounted_L4 uM FU K33_5 (0 : Int32) (0 : Int32)

set_option maxHeartbeats 4000000 in
set_option maxRecDepth 100000 in
theorem c_X7_signsCounted (l : Launch) (dC : Nat → ClassId) (dI : Nat → Nat → Nat) (cI cJ : ClassId) (aM : Nat) (hM : Nat → Nat) (sz : Nat) (uM : OS) (o : Int32) (hm : f_X7_signsCounted uM = some o) : Met l yX7_signsCounted (wq yX7_signsCounted cX7_signsCounted 3 (some .int)) ({ frames := 0, cells := 0, slots := 0, locals := 0 } : Room) (va_Pc [.ref aM] (pcW dC dI cI cJ sz (wM cI cJ aM hM uM))) (va_Qi (S := Unit) (fun r u => some r = some o) (fun (u : Unit) t => va_P (dC, dI) vwCl (wM cI cJ aM hM uM) t.heap ∧ va_D (va_A (wM cI cJ aM hM uM) sz) (wM cI cJ aM hM uM)) (va_A (wM cI cJ aM hM uM) sz)) 0 0 (va_A (wM cI cJ aM hM uM) sz) := by
  refine Met.ofW (cc := cX7_signsCounted) (maxL := 3) (ret := (some .int)) (by decide) rfl ?_
  intro p e s m args below meth c s₁ B hml hv
  obtain ⟨rfl, hsz, hP, hK, hD0, hN⟩ := hv
  have hx := B.exec
  have hb := B.bytes
  have hr := B.returns
  have ht : ∀ w ∈ lw_good, w.before _ s = true := fun w h => atoms_spec (ws := wq yX7_signsCounted cX7_signsCounted 3 (some .int)) B.pre w (wq_mem h)
  have hown : s.vm.findClass RX7 = some m.cls := findClass_of_methodNamed B.named
  have hlocks := B.notSynchronized
  subst hsz
  have hD := hD0.self (sz := s.heap.size)
  generalize hAe : va_A (wM cI cJ aM hM uM) s.heap.size = A at hD ⊢
  have hA : ∀ q : Nat, s.heap.size ≤ q → A q := fun q h => by rw [← hAe]; exact Or.inr h
  have hS : va_S A s.heap s.heap [] := va_S.rf
  have hl := lv_entry ([.ref aM]) (n := 3) (Nat.le_of_ble_eq_true rfl)
  rw [lg_entry_eq]
  generalize (lg_sl ([.ref aM]) ++ List.replicate (3 - (lg_sl ([.ref aM])).length) Slot.unset).toArray = ls at hl ⊢
  have hl : lv_has ls 3 [(0, .ref aM)] := hl
  generalize hQ : MQ below _ _ s _ _ _ = Q
  generalize hH : s.heap = H at hP ⊢
  have hS : va_S A s.heap H [] := by rw [← hH]; exact va_S.rf
  show W p l e ({ frames := 0, cells := 0, slots := 0, locals := 0 } : Room) s m ([.ref aM] : List Value).toArray below meth c H [] 0 0 Q (F0 m 0 ls [])
  unfold f_X7_signsCounted at hm
  refine lv_iconst (v := (0 : Int32)) hx hb dX7_signsCounted_0 (by decide) ?_
  refine lv_istore_n (lv' := [(1, .int (0 : Int32)), (0, .ref aM)]) hx hb dX7_signsCounted_1 rfl hl (by decide) rfl (fun ls hl => ?_)
  refine lv_iconst (v := (0 : Int32)) hx hb dX7_signsCounted_2 (by decide) ?_
  refine lv_istore_n (lv' := [(2, .int (0 : Int32)), (1, .int (0 : Int32)), (0, .ref aM)]) hx hb dX7_signsCounted_3 rfl hl (by decide) rfl (fun ls hl => ?_)
  obtain ⟨K33_5, eK33_5, hm⟩ := bnd_ex hm
  have X33_5 : ∀ (x3 : Int32) (x4 : Int32) (H : Heap) (locs : List Loc) (ls : Array Slot), K33_5 x3 x4 = some o → va_P (dC, dI) vwCl (wM cI cJ aM hM uM) H → va_D A (wM cI cJ aM hM uM) → va_S A s.heap H locs → lv_has ls 3 [(0, .ref aM), (1, .int x3), (2, .int x4)] → W p l e ({ frames := 0, cells := 0, slots := 0, locals := 0 } : Room) s m ([.ref aM] : List Value).toArray below meth c H locs 0 0 Q (F0 m 33 ls []) := by
    intro x3 x4 H locs ls hm hP hD hS hl
    have hm := ap2 eK33_5 hm
    refine lv_iload_n hx hb dX7_signsCounted_33 rfl (lv_at hl 1 rfl) ?_
    rw [← hQ]
    exact W.iret (v := x3) hx hb hr (fun t ht1 hW => ⟨⟨_, (), rfl, hm, by rw [ht1]; exact hP, hD⟩, hS.F ht1⟩) hS.2.2 dX7_signsCounted_34
  have LP4 : ∀ (n4 : Nat) (x1 : Int32) (x2 : Int32) (H : Heap) (locs : List Loc) (ls : Array Slot), f_X7_signsCounted_L4 uM n4 K33_5 x1 x2 = some o → va_P (dC, dI) vwCl (wM cI cJ aM hM uM) H → va_D A (wM cI cJ aM hM uM) → va_S A s.heap H locs → lv_has ls 3 [(0, .ref aM), (1, .int x2), (2, .int x1)] → W p l e ({ frames := 0, cells := 0, slots := 0, locals := 0 } : Room) s m ([.ref aM] : List Value).toArray below meth c H locs 0 0 Q (F0 m 4 ls []) := by
    intro n4
    induction n4 with
    | zero => intro x1 x2 H locs ls hm; exact nomatch (show (none : Option _) = some _ from hm)
    | succ n4 ih4 =>
      intro x1 x2 H locs ls hm hP hD hS hl
      unfold f_X7_signsCounted_L4 at hm
      refine lv_iload_n hx hb dX7_signsCounted_4 rfl (lv_at hl 2 rfl) ?_
      refine lv_bipush (v := (32 : Int32)) hx hb dX7_signsCounted_5 (by decide) ?_
      refine lv_icmp_ge (tgt := 33) hx hb dX7_signsCounted_7 (by decide) (fun c6 => ?_) (fun c6 => ?_)
      · have hm := ite_t c6 hm
        exact X33_5 x2 x1 _ _ _ hm hP hD hS (lv_sub hl [0, 1, 2] rfl)
      · have hm := ite_f c6 hm
        refine lv_iload_n hx hb dX7_signsCounted_10 rfl (lv_at hl 1 rfl) ?_
        refine lv_aload_n hx hb dX7_signsCounted_11 rfl (lv_at hl 0 rfl) ?_
        refine va_get (D := (dC, dI)) (ci := 8) (v := .ref (hM 6)) (C := RX7) (T := TX7) (N := 34) hx hb ht inX7 hown hK hP 0 rfl rfl 6 (by decide) (ht _ kw_4) (fun _ h9 => h9) rfl dX7_signsCounted_12 ?_
        refine lv_iload_n hx hb dX7_signsCounted_15 rfl (lv_at hl 2 rfl) ?_
        obtain ⟨g7, hm⟩ := gdi_of hm
        refine va_iald hx hb hK hP 2 0 rfl rfl g7 dX7_signsCounted_16 ?_
        refine lv_if_le (tgt := 24) hx hb dX7_signsCounted_17 (by decide) (fun c8 => ?_) (fun c8 => ?_)
        · have hm := ite_t c8 hm
          refine lv_iconst (v := (0 : Int32)) hx hb dX7_signsCounted_24 (by decide) ?_
          refine lv_iadd hx hb dX7_signsCounted_25 ?_
          refine lv_topi (fun x9 ex9 => ?_)
          have hm := bnd_nm ex9 hm
          refine lv_istore_n (lv' := [(1, .int x9), (0, .ref aM), (2, .int x1)]) hx hb dX7_signsCounted_26 rfl hl (by decide) rfl (fun ls hl => ?_)
          obtain ⟨x10, ex10, hm⟩ := bnd_ex hm
          refine lv_iinc (v := x10) (lv' := [(2, .int x10), (1, .int x9), (0, .ref aM)]) hx hb dX7_signsCounted_27 hl (k := 2) rfl (by rw [ex10]; exact congrArg _ (by decide)) (by decide) rfl (fun ls hl => ?_)
          refine lv_goto (tgt := 4) hx hb dX7_signsCounted_30 (by decide) ?_
          exact ih4 x10 x9 _ _ _ hm hP hD hS (lv_sub hl [2, 1, 0] rfl)
        · have hm := ite_f c8 hm
          refine lv_iconst (v := (1 : Int32)) hx hb dX7_signsCounted_20 (by decide) ?_
          refine lv_goto (tgt := 25) hx hb dX7_signsCounted_21 (by decide) ?_
          refine lv_iadd hx hb dX7_signsCounted_25 ?_
          refine lv_topi (fun x11 ex11 => ?_)
          have hm := bnd_nm ex11 hm
          refine lv_istore_n (lv' := [(1, .int x11), (0, .ref aM), (2, .int x1)]) hx hb dX7_signsCounted_26 rfl hl (by decide) rfl (fun ls hl => ?_)
          obtain ⟨x12, ex12, hm⟩ := bnd_ex hm
          refine lv_iinc (v := x12) (lv' := [(2, .int x12), (1, .int x11), (0, .ref aM)]) hx hb dX7_signsCounted_27 hl (k := 2) rfl (by rw [ex12]; exact congrArg _ (by decide)) (by decide) rfl (fun ls hl => ?_)
          refine lv_goto (tgt := 4) hx hb dX7_signsCounted_30 (by decide) ?_
          exact ih4 x12 x11 _ _ _ hm hP hD hS (lv_sub hl [2, 1, 0] rfl)
  exact LP4 FU (0 : Int32) (0 : Int32) _ _ _ hm hP hD hS (lv_sub hl [2, 1, 0] rfl)

def f_X7_counts_L28 : Nat → (Int32 → OS → Option (OS × Int32)) → Int32 → OS → Option (OS × Int32)
  | 0, _, _, _ => none
  | n28 + 1, K57_11, x7, u8 =>
    if (u8.1 5) ≤ x7 then (
    K57_11 x7 u8) else (
    gdi x7 1000 <|
    gdi (u8.2.1 4 (x7).toNatClampNeg) 32 <|
    gdi (u8.2.1 4 (x7).toNatClampNeg) 32 <|
    bnd (sA u8 6 (u8.2.1 4 (x7).toNatClampNeg) ((u8.2.1 6 ((u8.2.1 4 (x7).toNatClampNeg)).toNatClampNeg) + (1 : Int32))) fun u19 =>
    bnd (x7 + (1 : Int32)) fun x20 =>
    f_X7_counts_L28 n28 K57_11 x20 u19)

def f_X7_counts_L7 : Nat → (Int32 → OS → Option (OS × Int32)) → Int32 → OS → Option (OS × Int32)
  | 0, _, _, _ => none
  | n7 + 1, K26_6, x2, u3 =>
    if (32 : Int32) ≤ x2 then (
    K26_6 x2 u3) else (
    gdi x2 32 <|
    bnd (sA u3 6 x2 (0 : Int32)) fun u23 =>
    bnd (x2 + (1 : Int32)) fun x24 =>
    f_X7_counts_L7 n7 K26_6 x24 u23)

def f_X7_counts (uM : OS) : Option (OS × Int32) :=
  bnd (sF uM 1 (0 : Int32)) fun u1 =>
  bnd (fun (x4 : Int32) (u5 : OS) =>
  bnd (fun (x9 : Int32) (u10 : OS) =>
  bnd (sF u10 7 (0 : Int32)) fun u12 =>
  oC1 (f_X7_signsCounted u12) fun r13 =>
  some (u12, r13)) fun K57_11 =>
  f_X7_counts_L28 FU K57_11 (0 : Int32) u5) fun K26_6 =>
  f_X7_counts_L7 FU K26_6 (0 : Int32) u1

set_option maxHeartbeats 4000000 in
set_option maxRecDepth 100000 in
theorem c_X7_counts (l : Launch) (dC : Nat → ClassId) (dI : Nat → Nat → Nat) (cI cJ : ClassId) (aM : Nat) (hM : Nat → Nat) (sz : Nat) (uM : OS) (o : OS × Int32) (hm : f_X7_counts uM = some o) : Met l yX7_counts (wq yX7_counts cX7_counts 2 (some .int)) ({ frames := 1, cells := 0, slots := 0, locals := 22 } : Room) (va_Pc [.ref aM] (pcW dC dI cI cJ sz (wM cI cJ aM hM uM))) (va_Qi (S := OS) (fun r u => some (u, r) = some o) (fun (u : OS) t => va_P (dC, dI) vwCl (wM cI cJ aM hM u) t.heap ∧ va_D (va_A (wM cI cJ aM hM uM) sz) (wM cI cJ aM hM u)) (va_A (wM cI cJ aM hM uM) sz)) 0 0 (va_A (wM cI cJ aM hM uM) sz) := by
  refine Met.ofW (cc := cX7_counts) (maxL := 2) (ret := (some .int)) (by decide) rfl ?_
  intro p e s m args below meth c s₁ B hml hv
  obtain ⟨rfl, hsz, hP, hK, hD0, hN⟩ := hv
  have hx := B.exec
  have hb := B.bytes
  have hr := B.returns
  have ht : ∀ w ∈ lw_good, w.before _ s = true := fun w h => atoms_spec (ws := wq yX7_counts cX7_counts 2 (some .int)) B.pre w (wq_mem h)
  have hown : s.vm.findClass RX7 = some m.cls := findClass_of_methodNamed B.named
  have hlocks := B.notSynchronized
  subst hsz
  have hD := hD0.self (sz := s.heap.size)
  generalize hAe : va_A (wM cI cJ aM hM uM) s.heap.size = A at hD ⊢
  have hA : ∀ q : Nat, s.heap.size ≤ q → A q := fun q h => by rw [← hAe]; exact Or.inr h
  have hS : va_S A s.heap s.heap [] := va_S.rf
  have hl := lv_entry ([.ref aM]) (n := 2) (Nat.le_of_ble_eq_true rfl)
  rw [lg_entry_eq]
  generalize (lg_sl ([.ref aM]) ++ List.replicate (2 - (lg_sl ([.ref aM])).length) Slot.unset).toArray = ls at hl ⊢
  have hl : lv_has ls 2 [(0, .ref aM)] := hl
  generalize hQ : MQ below _ _ s _ _ _ = Q
  generalize hH : s.heap = H at hP ⊢
  have hS : va_S A s.heap H [] := by rw [← hH]; exact va_S.rf
  show W p l e ({ frames := 1, cells := 0, slots := 0, locals := 22 } : Room) s m ([.ref aM] : List Value).toArray below meth c H [] 0 0 Q (F0 m 0 ls [])
  unfold f_X7_counts at hm
  refine lv_aload_n hx hb dX7_counts_0 rfl (lv_at hl 0 rfl) ?_
  refine lv_iconst (v := (0 : Int32)) hx hb dX7_counts_1 (by decide) ?_
  refine va_put (D := (dC, dI)) (ci := 8) (v := .int (0 : Int32)) (ty := .int) (C := RX7) (T := TX7) (N := 34) hx hb ht inX7 tyX7 tyX7_ok nmX7 hown hK hP hD hS 0 rfl rfl 1 (by decide) (ht _ kw_0) (fun _ h9 => h9) rfl (by decide +kernel) rfl rfl (Nat.le_of_ble_eq_true rfl) dX7_counts_2 (fun H locs hP hD hS => ?_)
  obtain ⟨u1, eu1, hm⟩ := bnd_ex hm
  have hP : va_P (dC, dI) vwCl (wM cI cJ aM hM u1) H := by rw [eu1]; exact hP
  have hD : va_D A (wM cI cJ aM hM u1) := by rw [eu1]; exact hD
  refine lv_iconst (v := (0 : Int32)) hx hb dX7_counts_5 (by decide) ?_
  refine lv_istore_n (lv' := [(1, .int (0 : Int32)), (0, .ref aM)]) hx hb dX7_counts_6 rfl hl (by decide) rfl (fun ls hl => ?_)
  obtain ⟨K26_6, eK26_6, hm⟩ := bnd_ex hm
  have X26_6 : ∀ (x4 : Int32) (u5 : OS) (H : Heap) (locs : List Loc) (ls : Array Slot), K26_6 x4 u5 = some o → va_P (dC, dI) vwCl (wM cI cJ aM hM u5) H → va_D A (wM cI cJ aM hM u5) → va_S A s.heap H locs → lv_has ls 2 [(0, .ref aM), (1, .int x4)] → W p l e ({ frames := 1, cells := 0, slots := 0, locals := 22 } : Room) s m ([.ref aM] : List Value).toArray below meth c H locs 0 0 Q (F0 m 26 ls []) := by
    intro x4 u5 H locs ls hm hP hD hS hl
    have hm := ap2 eK26_6 hm
    refine lv_iconst (v := (0 : Int32)) hx hb dX7_counts_26 (by decide) ?_
    refine lv_istore_n (lv' := [(1, .int (0 : Int32)), (0, .ref aM)]) hx hb dX7_counts_27 rfl hl (by decide) rfl (fun ls hl => ?_)
    obtain ⟨K57_11, eK57_11, hm⟩ := bnd_ex hm
    have X57_11 : ∀ (x9 : Int32) (u10 : OS) (H : Heap) (locs : List Loc) (ls : Array Slot), K57_11 x9 u10 = some o → va_P (dC, dI) vwCl (wM cI cJ aM hM u10) H → va_D A (wM cI cJ aM hM u10) → va_S A s.heap H locs → lv_has ls 2 [(0, .ref aM), (1, .int x9)] → W p l e ({ frames := 1, cells := 0, slots := 0, locals := 22 } : Room) s m ([.ref aM] : List Value).toArray below meth c H locs 0 0 Q (F0 m 57 ls []) := by
      intro x9 u10 H locs ls hm hP hD hS hl
      have hm := ap2 eK57_11 hm
      refine lv_aload_n hx hb dX7_counts_57 rfl (lv_at hl 0 rfl) ?_
      refine lv_iconst (v := (0 : Int32)) hx hb dX7_counts_58 (by decide) ?_
      refine va_put (D := (dC, dI)) (ci := 8) (v := .int (0 : Int32)) (ty := .boolean) (C := RX7) (T := TX7) (N := 34) hx hb ht inX7 tyX7 tyX7_ok nmX7 hown hK hP hD hS 0 rfl rfl 7 (by decide) (ht _ kw_5) (fun _ h9 => h9) rfl (by decide +kernel) rfl rfl (Nat.le_of_ble_eq_true rfl) dX7_counts_59 (fun H locs hP hD hS => ?_)
      obtain ⟨u12, eu12, hm⟩ := bnd_ex hm
      have hP : va_P (dC, dI) vwCl (wM cI cJ aM hM u12) H := by rw [eu12]; exact hP
      have hD : va_D A (wM cI cJ aM hM u12) := by rw [eu12]; exact hD
      refine lv_aload_n hx hb dX7_counts_62 rfl (lv_at hl 0 rfl) ?_
      have hPc : va_P (dC, dI) vwCl (wM cI cJ aM hM u12) _ := hP
      have hDc : va_D A (wM cI cJ aM hM u12) := hD
      have hFc := va_free (wc := (wM cI cJ aM hM u12)) hD hS hA [0, 1, 2, 3, 4, 5, 6, 7, 8, 9, 10, 11, 12, 13, 14] rfl
      obtain ⟨r13o, e14, hm⟩ := oC1_of hm
      refine va_calli (va_runV (As := []) (rest := []) ⟨hx, hb, hml, hown, ht⟩ (c_X7_signsCounted l dC dI cI cJ aM hM H.size u12 r13o e14) (cwV 0 ht (gdV kw_10 kw_8 kw_9 kw_7 kw_6) rfl rfl rfl ⟨rfl, nd_X7_signsCounted⟩ ⟨Nat.le_of_ble_eq_true rfl, Nat.le_of_ble_eq_true rfl⟩) ⟨pcW_blind, va_recv hK hPc (ci := 8) (q0 := 0) rfl rfl, pcW_pre hPc hK hDc hN⟩ rfl rfl hl.1 rfl (lv_room (Nat.le_of_ble_eq_true rfl)) dX7_counts_63 ⟨Nat.zero_le _, Nat.zero_le _⟩) hS (fun q _ z => hFc q z) hFc (fun r13 uu t H1 locs ht1 hvm hw hB hz1 hk1 hS => ?_)
      obtain ⟨⟩ := uu
      obtain ⟨hP1, hD1⟩ := hB
      rw [ht1] at hP1
      obtain rfl : r13 = r13o := Option.some.inj hw
      have hP : va_P (dC, dI) vwCl (wM cI cJ aM hM u12) H1 := hP1
      have hD : va_D A (wM cI cJ aM hM u12) := hD1.weaken (fun _ q _ z => hFc q.1 z)
      generalize H1 = H at hP hS ⊢
      rw [← hQ]
      exact W.iret (v := r13) hx hb hr (fun t ht1 hW => ⟨⟨_, u12, rfl, hm, by rw [ht1]; exact hP, hD⟩, hS.F ht1⟩) hS.2.2 dX7_counts_66
    have LP28 : ∀ (n28 : Nat) (x7 : Int32) (u8 : OS) (H : Heap) (locs : List Loc) (ls : Array Slot), f_X7_counts_L28 n28 K57_11 x7 u8 = some o → va_P (dC, dI) vwCl (wM cI cJ aM hM u8) H → va_D A (wM cI cJ aM hM u8) → va_S A s.heap H locs → lv_has ls 2 [(0, .ref aM), (1, .int x7)] → W p l e ({ frames := 1, cells := 0, slots := 0, locals := 22 } : Room) s m ([.ref aM] : List Value).toArray below meth c H locs 0 0 Q (F0 m 28 ls []) := by
      intro n28
      induction n28 with
      | zero => intro x7 u8 H locs ls hm; exact nomatch (show (none : Option _) = some _ from hm)
      | succ n28 ih28 =>
        intro x7 u8 H locs ls hm hP hD hS hl
        unfold f_X7_counts_L28 at hm
        refine lv_iload_n hx hb dX7_counts_28 rfl (lv_at hl 1 rfl) ?_
        refine lv_aload_n hx hb dX7_counts_29 rfl (lv_at hl 0 rfl) ?_
        refine va_get (D := (dC, dI)) (ci := 8) (v := .int (u8.1 5)) (C := RX7) (T := TX7) (N := 34) hx hb ht inX7 hown hK hP 0 rfl rfl 5 (by decide) (ht _ kw_1) (fun _ h9 => h9) rfl dX7_counts_30 ?_
        refine lv_icmp_ge (tgt := 57) hx hb dX7_counts_33 (by decide) (fun c15 => ?_) (fun c15 => ?_)
        · have hm := ite_t c15 hm
          exact X57_11 x7 u8 _ _ _ hm hP hD hS (lv_sub hl [0, 1] rfl)
        · have hm := ite_f c15 hm
          refine lv_aload_n hx hb dX7_counts_36 rfl (lv_at hl 0 rfl) ?_
          refine va_get (D := (dC, dI)) (ci := 8) (v := .ref (hM 6)) (C := RX7) (T := TX7) (N := 34) hx hb ht inX7 hown hK hP 0 rfl rfl 6 (by decide) (ht _ kw_4) (fun _ h9 => h9) rfl dX7_counts_37 ?_
          refine lv_aload_n hx hb dX7_counts_40 rfl (lv_at hl 0 rfl) ?_
          refine va_get (D := (dC, dI)) (ci := 8) (v := .ref (hM 4)) (C := RX7) (T := TX7) (N := 34) hx hb ht inX7 hown hK hP 0 rfl rfl 4 (by decide) (ht _ kw_2) (fun _ h9 => h9) rfl dX7_counts_41 ?_
          refine lv_iload_n hx hb dX7_counts_44 rfl (lv_at hl 1 rfl) ?_
          obtain ⟨g16, hm⟩ := gdi_of hm
          refine va_iald hx hb hK hP 1 0 rfl rfl g16 dX7_counts_45 ?_
          refine lv_dup2_11 hx hb dX7_counts_46 rfl rfl ?_
          obtain ⟨g17, hm⟩ := gdi_of hm
          refine va_iald hx hb hK hP 2 0 rfl rfl g17 dX7_counts_47 ?_
          refine lv_iconst (v := (1 : Int32)) hx hb dX7_counts_48 (by decide) ?_
          refine lv_iadd hx hb dX7_counts_49 ?_
          obtain ⟨g18, hm⟩ := gdi_of hm
          refine va_iast hx hb hK hP hD hS 2 0 rfl rfl g18 dX7_counts_50 (fun H locs hP hD hS => ?_)
          obtain ⟨u19, eu19, hm⟩ := bnd_ex hm
          have hP : va_P (dC, dI) vwCl (wM cI cJ aM hM u19) H := by rw [eu19]; exact hP
          have hD : va_D A (wM cI cJ aM hM u19) := by rw [eu19]; exact hD
          obtain ⟨x20, ex20, hm⟩ := bnd_ex hm
          refine lv_iinc (v := x20) (lv' := [(1, .int x20), (0, .ref aM)]) hx hb dX7_counts_51 hl (k := 1) rfl (by rw [ex20]; exact congrArg _ (by decide)) (by decide) rfl (fun ls hl => ?_)
          refine lv_goto (tgt := 28) hx hb dX7_counts_54 (by decide) ?_
          exact ih28 x20 u19 _ _ _ hm hP hD hS (lv_sub hl [1, 0] rfl)
    exact LP28 FU (0 : Int32) u5 _ _ _ hm hP hD hS (lv_sub hl [1, 0] rfl)
  have LP7 : ∀ (n7 : Nat) (x2 : Int32) (u3 : OS) (H : Heap) (locs : List Loc) (ls : Array Slot), f_X7_counts_L7 n7 K26_6 x2 u3 = some o → va_P (dC, dI) vwCl (wM cI cJ aM hM u3) H → va_D A (wM cI cJ aM hM u3) → va_S A s.heap H locs → lv_has ls 2 [(0, .ref aM), (1, .int x2)] → W p l e ({ frames := 1, cells := 0, slots := 0, locals := 22 } : Room) s m ([.ref aM] : List Value).toArray below meth c H locs 0 0 Q (F0 m 7 ls []) := by
    intro n7
    induction n7 with
    | zero => intro x2 u3 H locs ls hm; exact nomatch (show (none : Option _) = some _ from hm)
    | succ n7 ih7 =>
      intro x2 u3 H locs ls hm hP hD hS hl
      unfold f_X7_counts_L7 at hm
      refine lv_iload_n hx hb dX7_counts_7 rfl (lv_at hl 1 rfl) ?_
      refine lv_bipush (v := (32 : Int32)) hx hb dX7_counts_8 (by decide) ?_
      refine lv_icmp_ge (tgt := 26) hx hb dX7_counts_10 (by decide) (fun c21 => ?_) (fun c21 => ?_)
      · have hm := ite_t c21 hm
        exact X26_6 x2 u3 _ _ _ hm hP hD hS (lv_sub hl [0, 1] rfl)
      · have hm := ite_f c21 hm
        refine lv_aload_n hx hb dX7_counts_13 rfl (lv_at hl 0 rfl) ?_
        refine va_get (D := (dC, dI)) (ci := 8) (v := .ref (hM 6)) (C := RX7) (T := TX7) (N := 34) hx hb ht inX7 hown hK hP 0 rfl rfl 6 (by decide) (ht _ kw_4) (fun _ h9 => h9) rfl dX7_counts_14 ?_
        refine lv_iload_n hx hb dX7_counts_17 rfl (lv_at hl 1 rfl) ?_
        refine lv_iconst (v := (0 : Int32)) hx hb dX7_counts_18 (by decide) ?_
        obtain ⟨g22, hm⟩ := gdi_of hm
        refine va_iast hx hb hK hP hD hS 2 0 rfl rfl g22 dX7_counts_19 (fun H locs hP hD hS => ?_)
        obtain ⟨u23, eu23, hm⟩ := bnd_ex hm
        have hP : va_P (dC, dI) vwCl (wM cI cJ aM hM u23) H := by rw [eu23]; exact hP
        have hD : va_D A (wM cI cJ aM hM u23) := by rw [eu23]; exact hD
        obtain ⟨x24, ex24, hm⟩ := bnd_ex hm
        refine lv_iinc (v := x24) (lv' := [(1, .int x24), (0, .ref aM)]) hx hb dX7_counts_20 hl (k := 1) rfl (by rw [ex24]; exact congrArg _ (by decide)) (by decide) rfl (fun ls hl => ?_)
        refine lv_goto (tgt := 7) hx hb dX7_counts_23 (by decide) ?_
        exact ih7 x24 u23 _ _ _ hm hP hD hS (lv_sub hl [1, 0] rfl)
  exact LP7 FU (0 : Int32) u1 _ _ _ hm hP hD hS (lv_sub hl [1, 0] rfl)

def f_X7_logarithm_L30 : Nat → (Int64 → Int64 → Int32 → Option (Int64)) → Int32 → Int64 → Int64 → Option (Int64)
  | 0, _, _, _, _ => none
  | n30 + 1, K82_12, x6, y7, y8 =>
    if (30 : Int32) ≤ x6 then (
    K82_12 y8 y7 x6) else (
    bnd ((y8 * y8) >>> (((30 : Int32)).toInt64 &&& (63 : Int64))) fun y14 =>
    bnd (fun (x15 : Int32) =>
    bnd (y14 >>> ((x15).toInt64 &&& (63 : Int64))) fun y17 =>
    bnd (((2 : Int64) * y7) + (x15).toInt64) fun y18 =>
    bnd (x6 + (1 : Int32)) fun x19 =>
    f_X7_logarithm_L30 n30 K82_12 x19 y18 y17) fun K57_16 =>
    if y14 < (2147483648 : Int64) then (
    K57_16 (0 : Int32)) else (
    K57_16 (1 : Int32)))

def f_X7_logarithm_L2 (p1 : Int32) : Nat → (Int32 → Option (Int64)) → Int32 → Option (Int64)
  | 0, _, _ => none
  | n2 + 1, K15_3, x1 =>
    if (p1 >>> (x1 &&& (31 : Int32))) ≤ (1 : Int32) then (
    K15_3 x1) else (
    bnd (x1 + (1 : Int32)) fun x22 =>
    f_X7_logarithm_L2 p1 n2 K15_3 x22)

def f_X7_logarithm (p1 : Int32) : Option (Int64) :=
  bnd (fun (x2 : Int32) =>
  bnd ((p1).toInt64 <<< ((((30 : Int32) - x2)).toInt64 &&& (63 : Int64))) fun y4 =>
  bnd (x2).toInt64 fun y5 =>
  bnd (fun (y9 : Int64) (y10 : Int64) (x11 : Int32) =>
  some y10) fun K82_12 =>
  f_X7_logarithm_L30 FU K82_12 (0 : Int32) y5 y4) fun K15_3 =>
  f_X7_logarithm_L2 p1 FU K15_3 (0 : Int32)

set_option maxHeartbeats 4000000 in
set_option maxRecDepth 100000 in
theorem c_X7_logarithm (l : Launch) (dC : Nat → ClassId) (dI : Nat → Nat → Nat) (cI cJ : ClassId) (sz : Nat) (p1 : Int32) (o : Int64) (hm : f_X7_logarithm p1 = some o) : Met l yX7_logarithm (wq yX7_logarithm cX7_logarithm 8 (some .long)) ({ frames := 0, cells := 0, slots := 0, locals := 0 } : Room) (va_Pc [.int p1] (pcW dC dI cI cJ sz ([] : va_W))) (va_Ql (S := Unit) (fun r u => some r = some o) (fun (u : Unit) t => va_P (dC, dI) vwCl ([] : va_W) t.heap ∧ va_D (va_A ([] : va_W) sz) ([] : va_W)) (va_A ([] : va_W) sz)) 0 0 (va_A ([] : va_W) sz) := by
  refine Met.ofW (cc := cX7_logarithm) (maxL := 8) (ret := (some .long)) (by decide) rfl ?_
  intro p e s m args below meth c s₁ B hml hv
  obtain ⟨rfl, hsz, hP, hK, hD0, hN⟩ := hv
  have hx := B.exec
  have hb := B.bytes
  have hr := B.returns
  have ht : ∀ w ∈ lw_good, w.before _ s = true := fun w h => atoms_spec (ws := wq yX7_logarithm cX7_logarithm 8 (some .long)) B.pre w (wq_mem h)
  have hown : s.vm.findClass RX7 = some m.cls := findClass_of_methodNamed B.named
  have hlocks := B.notSynchronized
  subst hsz
  have hD := hD0.self (sz := s.heap.size)
  generalize hAe : va_A ([] : va_W) s.heap.size = A at hD ⊢
  have hA : ∀ q : Nat, s.heap.size ≤ q → A q := fun q h => by rw [← hAe]; exact Or.inr h
  have hS : va_S A s.heap s.heap [] := va_S.rf
  have hl := lv_entry ([.int p1]) (n := 8) (Nat.le_of_ble_eq_true rfl)
  rw [lg_entry_eq]
  generalize (lg_sl ([.int p1]) ++ List.replicate (8 - (lg_sl ([.int p1])).length) Slot.unset).toArray = ls at hl ⊢
  have hl : lv_has ls 8 [(0, .int p1)] := hl
  generalize hQ : MQ below _ _ s _ _ _ = Q
  generalize hH : s.heap = H at hP ⊢
  have hS : va_S A s.heap H [] := by rw [← hH]; exact va_S.rf
  show W p l e ({ frames := 0, cells := 0, slots := 0, locals := 0 } : Room) s m ([.int p1] : List Value).toArray below meth c H [] 0 0 Q (F0 m 0 ls [])
  unfold f_X7_logarithm at hm
  refine lv_iconst (v := (0 : Int32)) hx hb dX7_logarithm_0 (by decide) ?_
  refine lv_istore_n (lv' := [(1, .int (0 : Int32)), (0, .int p1)]) hx hb dX7_logarithm_1 rfl hl (by decide) rfl (fun ls hl => ?_)
  obtain ⟨K15_3, eK15_3, hm⟩ := bnd_ex hm
  have X15_3 : ∀ (x2 : Int32) (H : Heap) (locs : List Loc) (ls : Array Slot), K15_3 x2 = some o → va_P (dC, dI) vwCl ([] : va_W) H → va_D A ([] : va_W) → va_S A s.heap H locs → lv_has ls 8 [(0, .int p1), (1, .int x2)] → W p l e ({ frames := 0, cells := 0, slots := 0, locals := 0 } : Room) s m ([.int p1] : List Value).toArray below meth c H locs 0 0 Q (F0 m 15 ls []) := by
    intro x2 H locs ls hm hP hD hS hl
    have hm := ap1 eK15_3 hm
    refine lv_iload_n hx hb dX7_logarithm_15 rfl (lv_at hl 0 rfl) ?_
    refine lv_i2l hx hb dX7_logarithm_16 rfl ?_
    refine lv_bipush (v := (30 : Int32)) hx hb dX7_logarithm_17 (by decide) ?_
    refine lv_iload_n hx hb dX7_logarithm_19 rfl (lv_at hl 1 rfl) ?_
    refine lv_isub hx hb dX7_logarithm_20 ?_
    refine lv_lshl hx hb dX7_logarithm_21 rfl ?_
    refine lv_topl (fun y4 ey4 => ?_)
    have hm := bnd_nm ey4 hm
    refine lv_lstore_n (lv' := [(2, .long y4), (0, .int p1), (1, .int x2)]) hx hb dX7_logarithm_22 rfl hl (by decide) rfl (fun ls hl => ?_)
    refine lv_iload_n hx hb dX7_logarithm_23 rfl (lv_at hl 2 rfl) ?_
    refine lv_i2l hx hb dX7_logarithm_24 rfl ?_
    refine lv_topl (fun y5 ey5 => ?_)
    have hm := bnd_nm ey5 hm
    refine lv_lstore (lv' := [(4, .long y5), (2, .long y4), (0, .int p1), (1, .int x2)]) hx hb dX7_logarithm_25 hl (by decide) rfl (fun ls hl => ?_)
    refine lv_iconst (v := (0 : Int32)) hx hb dX7_logarithm_27 (by decide) ?_
    refine lv_istore (lv' := [(6, .int (0 : Int32)), (4, .long y5), (2, .long y4), (0, .int p1), (1, .int x2)]) hx hb dX7_logarithm_28 hl (by decide) rfl (fun ls hl => ?_)
    obtain ⟨K82_12, eK82_12, hm⟩ := bnd_ex hm
    have X82_12 : ∀ (y9 : Int64) (y10 : Int64) (x11 : Int32) (H : Heap) (locs : List Loc) (ls : Array Slot), K82_12 y9 y10 x11 = some o → va_P (dC, dI) vwCl ([] : va_W) H → va_D A ([] : va_W) → va_S A s.heap H locs → lv_has ls 8 [(0, .int p1), (1, .int x2), (2, .long y9), (4, .long y10), (6, .int x11)] → W p l e ({ frames := 0, cells := 0, slots := 0, locals := 0 } : Room) s m ([.int p1] : List Value).toArray below meth c H locs 0 0 Q (F0 m 82 ls []) := by
      intro y9 y10 x11 H locs ls hm hP hD hS hl
      have hm := ap3 eK82_12 hm
      refine lv_lload hx hb dX7_logarithm_82 (lv_at hl 3 rfl) ?_
      rw [← hQ]
      exact W.lret (v := y10) hx hb hr (fun t ht1 hW => ⟨⟨_, (), rfl, hm, by rw [ht1]; exact hP, hD⟩, hS.F ht1⟩) hS.2.2 dX7_logarithm_84
    have LP30 : ∀ (n30 : Nat) (x6 : Int32) (y7 : Int64) (y8 : Int64) (H : Heap) (locs : List Loc) (ls : Array Slot), f_X7_logarithm_L30 n30 K82_12 x6 y7 y8 = some o → va_P (dC, dI) vwCl ([] : va_W) H → va_D A ([] : va_W) → va_S A s.heap H locs → lv_has ls 8 [(0, .int p1), (1, .int x2), (2, .long y8), (4, .long y7), (6, .int x6)] → W p l e ({ frames := 0, cells := 0, slots := 0, locals := 0 } : Room) s m ([.int p1] : List Value).toArray below meth c H locs 0 0 Q (F0 m 30 ls []) := by
      intro n30
      induction n30 with
      | zero => intro x6 y7 y8 H locs ls hm; exact nomatch (show (none : Option _) = some _ from hm)
      | succ n30 ih30 =>
        intro x6 y7 y8 H locs ls hm hP hD hS hl
        unfold f_X7_logarithm_L30 at hm
        refine lv_iload hx hb dX7_logarithm_30 (lv_at hl 4 rfl) ?_
        refine lv_bipush (v := (30 : Int32)) hx hb dX7_logarithm_32 (by decide) ?_
        refine lv_icmp_ge (tgt := 82) hx hb dX7_logarithm_34 (by decide) (fun c13 => ?_) (fun c13 => ?_)
        · have hm := ite_t c13 hm
          exact X82_12 y8 y7 x6 _ _ _ hm hP hD hS (lv_sub hl [0, 1, 2, 3, 4] rfl)
        · have hm := ite_f c13 hm
          refine lv_lload_n hx hb dX7_logarithm_37 rfl (lv_at hl 2 rfl) ?_
          refine lv_lload_n hx hb dX7_logarithm_38 rfl (lv_at hl 2 rfl) ?_
          refine lv_lmul hx hb dX7_logarithm_39 ?_
          refine lv_bipush (v := (30 : Int32)) hx hb dX7_logarithm_40 (by decide) ?_
          refine lv_lshr hx hb dX7_logarithm_42 rfl ?_
          refine lv_topl (fun y14 ey14 => ?_)
          have hm := bnd_nm ey14 hm
          refine lv_lstore_n (lv' := [(2, .long y14), (0, .int p1), (1, .int x2), (4, .long y7), (6, .int x6)]) hx hb dX7_logarithm_43 rfl hl (by decide) rfl (fun ls hl => ?_)
          refine lv_lload_n hx hb dX7_logarithm_44 rfl (lv_at hl 0 rfl) ?_
          refine lv_ldc2 (v := (2147483648 : Int64)) hx hb hown (ht _ kw_11) dX7_logarithm_45 ?_
          refine W.lcmp hx hb dX7_logarithm_48 ?_
          obtain ⟨K57_16, eK57_16, hm⟩ := bnd_ex hm
          have J57_16 : ∀ (x15 : Int32) (H : Heap) (locs : List Loc) (ls : Array Slot), K57_16 x15 = some o → va_P (dC, dI) vwCl ([] : va_W) H → va_D A ([] : va_W) → va_S A s.heap H locs → lv_has ls 8 [(0, .int p1), (1, .int x2), (2, .long y14), (4, .long y7), (6, .int x6)] → W p l e ({ frames := 0, cells := 0, slots := 0, locals := 0 } : Room) s m ([.int p1] : List Value).toArray below meth c H locs 0 0 Q (F0 m 57 ls [.int x15]) := by
            intro x15 H locs ls hm hP hD hS hl
            have hm := ap1 eK57_16 hm
            refine lv_istore (lv' := [(7, .int x15), (0, .int p1), (1, .int x2), (2, .long y14), (4, .long y7), (6, .int x6)]) hx hb dX7_logarithm_57 hl (by decide) rfl (fun ls hl => ?_)
            refine lv_lload_n hx hb dX7_logarithm_59 rfl (lv_at hl 3 rfl) ?_
            refine lv_iload hx hb dX7_logarithm_60 (lv_at hl 0 rfl) ?_
            refine lv_lshr hx hb dX7_logarithm_62 rfl ?_
            refine lv_topl (fun y17 ey17 => ?_)
            have hm := bnd_nm ey17 hm
            refine lv_lstore_n (lv' := [(2, .long y17), (7, .int x15), (0, .int p1), (1, .int x2), (4, .long y7), (6, .int x6)]) hx hb dX7_logarithm_63 rfl hl (by decide) rfl (fun ls hl => ?_)
            refine lv_ldc2 (v := (2 : Int64)) hx hb hown (ht _ kw_12) dX7_logarithm_64 ?_
            refine lv_lload hx hb dX7_logarithm_67 (lv_at hl 4 rfl) ?_
            refine lv_lmul hx hb dX7_logarithm_69 ?_
            refine lv_iload hx hb dX7_logarithm_70 (lv_at hl 1 rfl) ?_
            refine lv_i2l hx hb dX7_logarithm_72 rfl ?_
            refine lv_ladd hx hb dX7_logarithm_73 ?_
            refine lv_topl (fun y18 ey18 => ?_)
            have hm := bnd_nm ey18 hm
            refine lv_lstore (lv' := [(4, .long y18), (2, .long y17), (7, .int x15), (0, .int p1), (1, .int x2), (6, .int x6)]) hx hb dX7_logarithm_74 hl (by decide) rfl (fun ls hl => ?_)
            obtain ⟨x19, ex19, hm⟩ := bnd_ex hm
            refine lv_iinc (v := x19) (lv' := [(6, .int x19), (4, .long y18), (2, .long y17), (7, .int x15), (0, .int p1), (1, .int x2)]) hx hb dX7_logarithm_76 hl (k := 5) rfl (by rw [ex19]; exact congrArg _ (by decide)) (by decide) rfl (fun ls hl => ?_)
            refine lv_goto (tgt := 30) hx hb dX7_logarithm_79 (by decide) ?_
            exact ih30 x19 y18 y17 _ _ _ hm hP hD hS (lv_sub hl [4, 5, 2, 1, 0] rfl)
          refine lv_if_lt (tgt := 56) hx hb dX7_logarithm_49 (by decide) (fun c20 => ?_) (fun c20 => ?_)
          · have c20 := lgc_lt.mp c20
            have hm := ite_t c20 hm
            refine lv_iconst (v := (0 : Int32)) hx hb dX7_logarithm_56 (by decide) ?_
            exact J57_16 (0 : Int32) _ _ _ hm hP hD hS (lv_sub hl [1, 2, 0, 3, 4] rfl)
          · have c20 := mt lgc_lt.mpr c20
            have hm := ite_f c20 hm
            refine lv_iconst (v := (1 : Int32)) hx hb dX7_logarithm_52 (by decide) ?_
            refine lv_goto (tgt := 57) hx hb dX7_logarithm_53 (by decide) ?_
            exact J57_16 (1 : Int32) _ _ _ hm hP hD hS (lv_sub hl [1, 2, 0, 3, 4] rfl)
    exact LP30 FU (0 : Int32) y5 y4 _ _ _ hm hP hD hS (lv_sub hl [3, 4, 2, 1, 0] rfl)
  have LP2 : ∀ (n2 : Nat) (x1 : Int32) (H : Heap) (locs : List Loc) (ls : Array Slot), f_X7_logarithm_L2 p1 n2 K15_3 x1 = some o → va_P (dC, dI) vwCl ([] : va_W) H → va_D A ([] : va_W) → va_S A s.heap H locs → lv_has ls 8 [(0, .int p1), (1, .int x1)] → W p l e ({ frames := 0, cells := 0, slots := 0, locals := 0 } : Room) s m ([.int p1] : List Value).toArray below meth c H locs 0 0 Q (F0 m 2 ls []) := by
    intro n2
    induction n2 with
    | zero => intro x1 H locs ls hm; exact nomatch (show (none : Option _) = some _ from hm)
    | succ n2 ih2 =>
      intro x1 H locs ls hm hP hD hS hl
      unfold f_X7_logarithm_L2 at hm
      refine lv_iload_n hx hb dX7_logarithm_2 rfl (lv_at hl 0 rfl) ?_
      refine lv_iload_n hx hb dX7_logarithm_3 rfl (lv_at hl 1 rfl) ?_
      refine lv_ishr hx hb dX7_logarithm_4 ?_
      refine lv_iconst (v := (1 : Int32)) hx hb dX7_logarithm_5 (by decide) ?_
      refine lv_icmp_le (tgt := 15) hx hb dX7_logarithm_6 (by decide) (fun c21 => ?_) (fun c21 => ?_)
      · have hm := ite_t c21 hm
        exact X15_3 x1 _ _ _ hm hP hD hS (lv_sub hl [0, 1] rfl)
      · have hm := ite_f c21 hm
        obtain ⟨x22, ex22, hm⟩ := bnd_ex hm
        refine lv_iinc (v := x22) (lv' := [(1, .int x22), (0, .int p1)]) hx hb dX7_logarithm_9 hl (k := 1) rfl (by rw [ex22]; exact congrArg _ (by decide)) (by decide) rfl (fun ls hl => ?_)
        refine lv_goto (tgt := 2) hx hb dX7_logarithm_12 (by decide) ?_
        exact ih2 x22 _ _ _ hm hP hD hS (lv_sub hl [1, 0] rfl)
  exact LP2 FU (0 : Int32) _ _ _ hm hP hD hS (lv_sub hl [1, 0] rfl)

def f_X7_lg (uM : OS) (p1 : Int32) : Option (OS × Int64) :=
  bnd (sF uM 1 (0 : Int32)) fun u1 =>
  if p1 < (1 : Int32) then (
  some (u1, (-1 : Int64))) else (
  if p1 ≤ ((1 : Int32) <<< ((u1.1 0) &&& (31 : Int32))) then (
  oC1 (f_X7_logarithm p1) fun r4 =>
  some (u1, r4)) else (
  some (u1, (-1 : Int64))))

set_option maxHeartbeats 4000000 in
set_option maxRecDepth 100000 in
theorem c_X7_lg (l : Launch) (dC : Nat → ClassId) (dI : Nat → Nat → Nat) (cI cJ : ClassId) (aM : Nat) (hM : Nat → Nat) (sz : Nat) (uM : OS) (p1 : Int32) (o : OS × Int64) (hm : f_X7_lg uM p1 = some o) : Met l yX7_lg (wq yX7_lg cX7_lg 2 (some .long)) ({ frames := 1, cells := 0, slots := 0, locals := 27 } : Room) (va_Pc [.ref aM, .int p1] (pcW dC dI cI cJ sz (wM cI cJ aM hM uM))) (va_Ql (S := OS) (fun r u => some (u, r) = some o) (fun (u : OS) t => va_P (dC, dI) vwCl (wM cI cJ aM hM u) t.heap ∧ va_D (va_A (wM cI cJ aM hM uM) sz) (wM cI cJ aM hM u)) (va_A (wM cI cJ aM hM uM) sz)) 0 0 (va_A (wM cI cJ aM hM uM) sz) := by
  refine Met.ofW (cc := cX7_lg) (maxL := 2) (ret := (some .long)) (by decide) rfl ?_
  intro p e s m args below meth c s₁ B hml hv
  obtain ⟨rfl, hsz, hP, hK, hD0, hN⟩ := hv
  have hx := B.exec
  have hb := B.bytes
  have hr := B.returns
  have ht : ∀ w ∈ lw_good, w.before _ s = true := fun w h => atoms_spec (ws := wq yX7_lg cX7_lg 2 (some .long)) B.pre w (wq_mem h)
  have hown : s.vm.findClass RX7 = some m.cls := findClass_of_methodNamed B.named
  have hlocks := B.notSynchronized
  subst hsz
  have hD := hD0.self (sz := s.heap.size)
  generalize hAe : va_A (wM cI cJ aM hM uM) s.heap.size = A at hD ⊢
  have hA : ∀ q : Nat, s.heap.size ≤ q → A q := fun q h => by rw [← hAe]; exact Or.inr h
  have hS : va_S A s.heap s.heap [] := va_S.rf
  have hl := lv_entry ([.ref aM, .int p1]) (n := 2) (Nat.le_of_ble_eq_true rfl)
  rw [lg_entry_eq]
  generalize (lg_sl ([.ref aM, .int p1]) ++ List.replicate (2 - (lg_sl ([.ref aM, .int p1])).length) Slot.unset).toArray = ls at hl ⊢
  have hl : lv_has ls 2 [(0, .ref aM), (1, .int p1)] := hl
  generalize hQ : MQ below _ _ s _ _ _ = Q
  generalize hH : s.heap = H at hP ⊢
  have hS : va_S A s.heap H [] := by rw [← hH]; exact va_S.rf
  show W p l e ({ frames := 1, cells := 0, slots := 0, locals := 27 } : Room) s m ([.ref aM, .int p1] : List Value).toArray below meth c H [] 0 0 Q (F0 m 0 ls [])
  unfold f_X7_lg at hm
  refine lv_aload_n hx hb dX7_lg_0 rfl (lv_at hl 0 rfl) ?_
  refine lv_iconst (v := (0 : Int32)) hx hb dX7_lg_1 (by decide) ?_
  refine va_put (D := (dC, dI)) (ci := 8) (v := .int (0 : Int32)) (ty := .int) (C := RX7) (T := TX7) (N := 34) hx hb ht inX7 tyX7 tyX7_ok nmX7 hown hK hP hD hS 0 rfl rfl 1 (by decide) (ht _ kw_0) (fun _ h9 => h9) rfl (by decide +kernel) rfl rfl (Nat.le_of_ble_eq_true rfl) dX7_lg_2 (fun H locs hP hD hS => ?_)
  obtain ⟨u1, eu1, hm⟩ := bnd_ex hm
  have hP : va_P (dC, dI) vwCl (wM cI cJ aM hM u1) H := by rw [eu1]; exact hP
  have hD : va_D A (wM cI cJ aM hM u1) := by rw [eu1]; exact hD
  refine lv_iload_n hx hb dX7_lg_5 rfl (lv_at hl 1 rfl) ?_
  refine lv_iconst (v := (1 : Int32)) hx hb dX7_lg_6 (by decide) ?_
  refine lv_icmp_lt (tgt := 20) hx hb dX7_lg_7 (by decide) (fun c2 => ?_) (fun c2 => ?_)
  · have hm := ite_t c2 hm
    refine lv_ldc2 (v := (-1 : Int64)) hx hb hown (ht _ kw_13) dX7_lg_20 ?_
    refine lv_goto (tgt := 30) hx hb dX7_lg_23 (by decide) ?_
    rw [← hQ]
    exact W.lret (v := (-1 : Int64)) hx hb hr (fun t ht1 hW => ⟨⟨_, u1, rfl, hm, by rw [ht1]; exact hP, hD⟩, hS.F ht1⟩) hS.2.2 dX7_lg_30
  · have hm := ite_f c2 hm
    refine lv_iload_n hx hb dX7_lg_10 rfl (lv_at hl 1 rfl) ?_
    refine lv_iconst (v := (1 : Int32)) hx hb dX7_lg_11 (by decide) ?_
    refine lv_aload_n hx hb dX7_lg_12 rfl (lv_at hl 0 rfl) ?_
    refine va_get (D := (dC, dI)) (ci := 8) (v := .int (u1.1 0)) (C := RX7) (T := TX7) (N := 34) hx hb ht inX7 hown hK hP 0 rfl rfl 0 (by decide) (ht _ kw_14) (fun _ h9 => h9) rfl dX7_lg_13 ?_
    refine lv_ishl hx hb dX7_lg_16 ?_
    refine lv_icmp_le (tgt := 26) hx hb dX7_lg_17 (by decide) (fun c3 => ?_) (fun c3 => ?_)
    · have hm := ite_t c3 hm
      refine lv_iload_n hx hb dX7_lg_26 rfl (lv_at hl 1 rfl) ?_
      have hPc : va_P (dC, dI) vwCl ([] : va_W) _ := hP.sub [] rfl
      have hDc : va_D A ([] : va_W) := hD.sub [] (by decide) rfl
      have hFc := va_free (wc := ([] : va_W)) hD hS hA [] rfl
      obtain ⟨r4o, e5, hm⟩ := oC1_of hm
      refine va_calll (va_runS (As := [.int p1]) (rest := []) ⟨hx, hb, hml, hown, ht⟩ (c_X7_logarithm l dC dI cI cJ H.size p1 r4o e5) (va_cwS 1 ht (gdS kw_17 kw_16 kw_7 kw_15) rfl rfl rfl nd_X7_logarithm ⟨Nat.le_of_ble_eq_true rfl, Nat.le_of_ble_eq_true rfl⟩) ⟨pcW_blind, pcW_pre hPc hK hDc hN⟩ rfl rfl hl.1 rfl (lv_room (Nat.le_of_ble_eq_true rfl)) dX7_lg_27 ⟨Nat.zero_le _, Nat.zero_le _⟩) hS (fun q _ z => hFc q z) hFc (fun r4 uu t H1 locs ht1 hvm hw hB hz1 hk1 hS => ?_)
      obtain ⟨⟩ := uu
      obtain ⟨hP1, hD1⟩ := hB
      rw [ht1] at hP1
      obtain rfl : r4 = r4o := Option.some.inj hw
      obtain ⟨hP, hD⟩ := va_join (wr := (wM cI cJ aM hM u1)) (w1 := []) hP hD [] [0, 1, 2, 3, 4, 5, 6, 7, 8, 9, 10, 11, 12, 13, 14] rfl rfl (by decide) (by decide) hk1 hFc hP1 hD1
      have hP : va_P (dC, dI) vwCl (wM cI cJ aM hM u1) H1 := hP
      have hD : va_D A (wM cI cJ aM hM u1) := hD
      generalize H1 = H at hP hS ⊢
      rw [← hQ]
      exact W.lret (v := r4) hx hb hr (fun t ht1 hW => ⟨⟨_, u1, rfl, hm, by rw [ht1]; exact hP, hD⟩, hS.F ht1⟩) hS.2.2 dX7_lg_30
    · have hm := ite_f c3 hm
      refine lv_ldc2 (v := (-1 : Int64)) hx hb hown (ht _ kw_13) dX7_lg_20 ?_
      refine lv_goto (tgt := 30) hx hb dX7_lg_23 (by decide) ?_
      rw [← hQ]
      exact W.lret (v := (-1 : Int64)) hx hb hr (fun t ht1 hW => ⟨⟨_, u1, rfl, hm, by rw [ht1]; exact hP, hD⟩, hS.F ht1⟩) hS.2.2 dX7_lg_30

def f_X7_lay_L132 (p1 : Int32) (x2 : Int32) (x12 : Int32) : Nat → (Int32 → Int32 → OS → Option (OS)) → Int32 → Int32 → OS → Option (OS)
  | 0, _, _, _, _ => none
  | n132 + 1, K236_24, x18, x19, u20 =>
    if x2 ≤ x18 then (
    K236_24 x19 x18 u20) else (
    gdi (((32 : Int32) * p1) + x12) 64 <|
    if (u20.2.1 8 ((((32 : Int32) * p1) + x12)).toNatClampNeg) ≤ (0 : Int32) then (
    bnd (x18 + (1 : Int32)) fun x29 =>
    f_X7_lay_L132 p1 x2 x12 n132 K236_24 x29 x19 u20) else (
    gdi (((4096 : Int32) * p1) + x18) 8192 <|
    if (u20.2.1 11 ((((4096 : Int32) * p1) + x18)).toNatClampNeg) = x12 then (
    gdi (((32 : Int32) * p1) + x12) 64 <|
    gdi (((4096 : Int32) * p1) + x18) 8192 <|
    bnd (sA u20 12 (((4096 : Int32) * p1) + x18) ((u20.2.1 8 ((((32 : Int32) * p1) + x12)).toNatClampNeg) + x19)) fun u35 =>
    gdi (((32 : Int32) * p1) + x12) 64 <|
    gdi ((((4096 : Int32) * p1) + (u35.2.1 9 ((((32 : Int32) * p1) + x12)).toNatClampNeg)) + x19) 8192 <|
    bnd (sA u35 13 ((((4096 : Int32) * p1) + (u35.2.1 9 ((((32 : Int32) * p1) + x12)).toNatClampNeg)) + x19) x18) fun u38 =>
    bnd (x19 + (1 : Int32)) fun x39 =>
    bnd (x18 + (1 : Int32)) fun x40 =>
    f_X7_lay_L132 p1 x2 x12 n132 K236_24 x40 x39 u38) else (
    bnd (x18 + (1 : Int32)) fun x32 =>
    f_X7_lay_L132 p1 x2 x12 n132 K236_24 x32 x19 u20)))

def f_X7_lay_L119 (p1 : Int32) (x2 : Int32) : Nat → (Int32 → OS → Option (OS)) → Int32 → OS → Option (OS)
  | 0, _, _, _ => none
  | n119 + 1, K242_16, x12, u13 =>
    if (32 : Int32) ≤ x12 then (
    K242_16 x12 u13) else (
    bnd (fun (x21 : Int32) (x22 : Int32) (u23 : OS) =>
    bnd (x12 + (1 : Int32)) fun x25 =>
    f_X7_lay_L119 p1 x2 n119 K242_16 x25 u23) fun K236_24 =>
    f_X7_lay_L132 p1 x2 x12 FU K236_24 (0 : Int32) (0 : Int32) u13)

def f_X7_lay_L55 (p1 : Int32) (x2 : Int32) (x3 : Int32) : Nat → (Int32 → Int32 → OS → Option (OS)) → Int32 → Int32 → OS → Option (OS)
  | 0, _, _, _, _ => none
  | n55 + 1, K110_52, x46, x47, u48 =>
    gdi (((32 : Int32) * p1) + x3) 64 <|
    if (u48.2.1 8 ((((32 : Int32) * p1) + x3)).toNatClampNeg) ≤ x46 then (
    K110_52 x47 x46 u48) else (
    gdi (((4096 : Int32) * p1) + x47) 8192 <|
    bnd (sA u48 11 (((4096 : Int32) * p1) + x47) x3) fun u57 =>
    gdz x2 <|
    bnd ((((x47 + (x2 / (2 : Int32))) + (x2 / (8 : Int32))) + (3 : Int32)) - (((x47 + (x2 / (2 : Int32))) + (x2 / (8 : Int32))) + (3 : Int32)) / x2 * x2) fun x59 =>
    bnd (x46 + (1 : Int32)) fun x60 =>
    f_X7_lay_L55 p1 x2 x3 n55 K110_52 x60 x59 u57)

def f_X7_lay_L17 (p1 : Int32) (x2 : Int32) : Nat → (Int32 → Int32 → Int32 → OS → Option (OS)) → Int32 → Int32 → Int32 → OS → Option (OS)
  | 0, _, _, _, _, _ => none
  | n17 + 1, K116_11, x3, x4, x5, u6 =>
    if (32 : Int32) ≤ x3 then (
    K116_11 x5 x4 x3 u6) else (
    gdi (((32 : Int32) * p1) + x3) 64 <|
    bnd (sA u6 9 (((32 : Int32) * p1) + x3) x5) fun u43 =>
    gdi (((32 : Int32) * p1) + x3) 64 <|
    bnd (x5 + (u43.2.1 8 ((((32 : Int32) * p1) + x3)).toNatClampNeg)) fun x45 =>
    bnd (fun (x49 : Int32) (x50 : Int32) (u51 : OS) =>
    bnd (x3 + (1 : Int32)) fun x53 =>
    f_X7_lay_L17 p1 x2 n17 K116_11 x53 x49 x45 u51) fun K110_52 =>
    f_X7_lay_L55 p1 x2 x3 FU K110_52 (0 : Int32) x4 u43)

def f_X7_lay (uM : OS) (p1 : Int32) : Option (OS) :=
  gdi p1 2 <|
  bnd ((1 : Int32) <<< ((uM.2.1 10 (p1).toNatClampNeg) &&& (31 : Int32))) fun x2 =>
  bnd (fun (x7 : Int32) (x8 : Int32) (x9 : Int32) (u10 : OS) =>
  bnd (fun (x14 : Int32) (u15 : OS) =>
  some u15) fun K242_16 =>
  f_X7_lay_L119 p1 x2 FU K242_16 (0 : Int32) u10) fun K116_11 =>
  f_X7_lay_L17 p1 x2 FU K116_11 (0 : Int32) (0 : Int32) (0 : Int32) uM

set_option maxHeartbeats 4000000 in
set_option maxRecDepth 100000 in
theorem c_X7_lay (l : Launch) (dC : Nat → ClassId) (dI : Nat → Nat → Nat) (cI cJ : ClassId) (aM : Nat) (hM : Nat → Nat) (sz : Nat) (uM : OS) (p1 : Int32) (o : OS) (hm : f_X7_lay uM p1 = some o) : Met l yX7_lay (wq yX7_lay cX7_lay 8 none) ({ frames := 0, cells := 0, slots := 0, locals := 0 } : Room) (va_Pc [.ref aM, .int p1] (pcW dC dI cI cJ sz (wM cI cJ aM hM uM))) (va_Qv (S := OS) (fun u => some u = some o) (fun (u : OS) t => va_P (dC, dI) vwCl (wM cI cJ aM hM u) t.heap ∧ va_D (va_A (wM cI cJ aM hM uM) sz) (wM cI cJ aM hM u)) (va_A (wM cI cJ aM hM uM) sz)) 0 0 (va_A (wM cI cJ aM hM uM) sz) := by
  refine Met.ofW (cc := cX7_lay) (maxL := 8) (ret := none) (by decide) rfl ?_
  intro p e s m args below meth c s₁ B hml hv
  obtain ⟨rfl, hsz, hP, hK, hD0, hN⟩ := hv
  have hx := B.exec
  have hb := B.bytes
  have hr := B.returns
  have ht : ∀ w ∈ lw_good, w.before _ s = true := fun w h => atoms_spec (ws := wq yX7_lay cX7_lay 8 none) B.pre w (wq_mem h)
  have hown : s.vm.findClass RX7 = some m.cls := findClass_of_methodNamed B.named
  have hlocks := B.notSynchronized
  subst hsz
  have hD := hD0.self (sz := s.heap.size)
  generalize hAe : va_A (wM cI cJ aM hM uM) s.heap.size = A at hD ⊢
  have hA : ∀ q : Nat, s.heap.size ≤ q → A q := fun q h => by rw [← hAe]; exact Or.inr h
  have hS : va_S A s.heap s.heap [] := va_S.rf
  have hl := lv_entry ([.ref aM, .int p1]) (n := 8) (Nat.le_of_ble_eq_true rfl)
  rw [lg_entry_eq]
  generalize (lg_sl ([.ref aM, .int p1]) ++ List.replicate (8 - (lg_sl ([.ref aM, .int p1])).length) Slot.unset).toArray = ls at hl ⊢
  have hl : lv_has ls 8 [(0, .ref aM), (1, .int p1)] := hl
  generalize hQ : MQ below _ _ s _ _ _ = Q
  generalize hH : s.heap = H at hP ⊢
  have hS : va_S A s.heap H [] := by rw [← hH]; exact va_S.rf
  show W p l e ({ frames := 0, cells := 0, slots := 0, locals := 0 } : Room) s m ([.ref aM, .int p1] : List Value).toArray below meth c H [] 0 0 Q (F0 m 0 ls [])
  unfold f_X7_lay at hm
  refine lv_iconst (v := (1 : Int32)) hx hb dX7_lay_0 (by decide) ?_
  refine lv_aload_n hx hb dX7_lay_1 rfl (lv_at hl 0 rfl) ?_
  refine va_get (D := (dC, dI)) (ci := 8) (v := .ref (hM 10)) (C := RX7) (T := TX7) (N := 34) hx hb ht inX7 hown hK hP 0 rfl rfl 10 (by decide) (ht _ kw_19) (fun _ h9 => h9) rfl dX7_lay_2 ?_
  refine lv_iload_n hx hb dX7_lay_5 rfl (lv_at hl 1 rfl) ?_
  obtain ⟨g1, hm⟩ := gdi_of hm
  refine va_iald hx hb hK hP 5 0 rfl rfl g1 dX7_lay_6 ?_
  refine lv_ishl hx hb dX7_lay_7 ?_
  refine lv_topi (fun x2 ex2 => ?_)
  have hm := bnd_nm ex2 hm
  refine lv_istore_n (lv' := [(2, .int x2), (0, .ref aM), (1, .int p1)]) hx hb dX7_lay_8 rfl hl (by decide) rfl (fun ls hl => ?_)
  refine lv_iconst (v := (0 : Int32)) hx hb dX7_lay_9 (by decide) ?_
  refine lv_istore_n (lv' := [(3, .int (0 : Int32)), (2, .int x2), (0, .ref aM), (1, .int p1)]) hx hb dX7_lay_10 rfl hl (by decide) rfl (fun ls hl => ?_)
  refine lv_iconst (v := (0 : Int32)) hx hb dX7_lay_11 (by decide) ?_
  refine lv_istore (lv' := [(4, .int (0 : Int32)), (3, .int (0 : Int32)), (2, .int x2), (0, .ref aM), (1, .int p1)]) hx hb dX7_lay_12 hl (by decide) rfl (fun ls hl => ?_)
  refine lv_iconst (v := (0 : Int32)) hx hb dX7_lay_14 (by decide) ?_
  refine lv_istore (lv' := [(5, .int (0 : Int32)), (4, .int (0 : Int32)), (3, .int (0 : Int32)), (2, .int x2), (0, .ref aM), (1, .int p1)]) hx hb dX7_lay_15 hl (by decide) rfl (fun ls hl => ?_)
  obtain ⟨K116_11, eK116_11, hm⟩ := bnd_ex hm
  have X116_11 : ∀ (x7 : Int32) (x8 : Int32) (x9 : Int32) (u10 : OS) (H : Heap) (locs : List Loc) (ls : Array Slot), K116_11 x7 x8 x9 u10 = some o → va_P (dC, dI) vwCl (wM cI cJ aM hM u10) H → va_D A (wM cI cJ aM hM u10) → va_S A s.heap H locs → lv_has ls 8 [(0, .ref aM), (1, .int p1), (2, .int x2), (3, .int x7), (4, .int x8), (5, .int x9)] → W p l e ({ frames := 0, cells := 0, slots := 0, locals := 0 } : Room) s m ([.ref aM, .int p1] : List Value).toArray below meth c H locs 0 0 Q (F0 m 116 ls []) := by
    intro x7 x8 x9 u10 H locs ls hm hP hD hS hl
    have hm := ap4 eK116_11 hm
    refine lv_iconst (v := (0 : Int32)) hx hb dX7_lay_116 (by decide) ?_
    refine lv_istore (lv' := [(5, .int (0 : Int32)), (0, .ref aM), (1, .int p1), (2, .int x2), (3, .int x7), (4, .int x8)]) hx hb dX7_lay_117 hl (by decide) rfl (fun ls hl => ?_)
    obtain ⟨K242_16, eK242_16, hm⟩ := bnd_ex hm
    have X242_16 : ∀ (x14 : Int32) (u15 : OS) (H : Heap) (locs : List Loc) (ls : Array Slot), K242_16 x14 u15 = some o → va_P (dC, dI) vwCl (wM cI cJ aM hM u15) H → va_D A (wM cI cJ aM hM u15) → va_S A s.heap H locs → lv_has ls 8 [(0, .ref aM), (1, .int p1), (2, .int x2), (3, .int x7), (4, .int x8), (5, .int x14)] → W p l e ({ frames := 0, cells := 0, slots := 0, locals := 0 } : Room) s m ([.ref aM, .int p1] : List Value).toArray below meth c H locs 0 0 Q (F0 m 242 ls []) := by
      intro x14 u15 H locs ls hm hP hD hS hl
      have hm := ap2 eK242_16 hm
      rw [← hQ]
      exact W.vret hx hb hr (fun t ht1 hW => ⟨⟨u15, rfl, hm, by rw [ht1]; exact hP, hD⟩, hS.F ht1⟩) hS.2.2 dX7_lay_242
    have LP119 : ∀ (n119 : Nat) (x12 : Int32) (u13 : OS) (H : Heap) (locs : List Loc) (ls : Array Slot), f_X7_lay_L119 p1 x2 n119 K242_16 x12 u13 = some o → va_P (dC, dI) vwCl (wM cI cJ aM hM u13) H → va_D A (wM cI cJ aM hM u13) → va_S A s.heap H locs → lv_has ls 8 [(0, .ref aM), (1, .int p1), (2, .int x2), (3, .int x7), (4, .int x8), (5, .int x12)] → W p l e ({ frames := 0, cells := 0, slots := 0, locals := 0 } : Room) s m ([.ref aM, .int p1] : List Value).toArray below meth c H locs 0 0 Q (F0 m 119 ls []) := by
      intro n119
      induction n119 with
      | zero => intro x12 u13 H locs ls hm; exact nomatch (show (none : Option _) = some _ from hm)
      | succ n119 ih119 =>
        intro x12 u13 H locs ls hm hP hD hS hl
        unfold f_X7_lay_L119 at hm
        refine lv_iload hx hb dX7_lay_119 (lv_at hl 5 rfl) ?_
        refine lv_bipush (v := (32 : Int32)) hx hb dX7_lay_121 (by decide) ?_
        refine lv_icmp_ge (tgt := 242) hx hb dX7_lay_123 (by decide) (fun c17 => ?_) (fun c17 => ?_)
        · have hm := ite_t c17 hm
          exact X242_16 x12 u13 _ _ _ hm hP hD hS (lv_sub hl [0, 1, 2, 3, 4, 5] rfl)
        · have hm := ite_f c17 hm
          refine lv_iconst (v := (0 : Int32)) hx hb dX7_lay_126 (by decide) ?_
          refine lv_istore (lv' := [(6, .int (0 : Int32)), (0, .ref aM), (1, .int p1), (2, .int x2), (3, .int x7), (4, .int x8), (5, .int x12)]) hx hb dX7_lay_127 hl (by decide) rfl (fun ls hl => ?_)
          refine lv_iconst (v := (0 : Int32)) hx hb dX7_lay_129 (by decide) ?_
          refine lv_istore (lv' := [(7, .int (0 : Int32)), (6, .int (0 : Int32)), (0, .ref aM), (1, .int p1), (2, .int x2), (3, .int x7), (4, .int x8), (5, .int x12)]) hx hb dX7_lay_130 hl (by decide) rfl (fun ls hl => ?_)
          obtain ⟨K236_24, eK236_24, hm⟩ := bnd_ex hm
          have X236_24 : ∀ (x21 : Int32) (x22 : Int32) (u23 : OS) (H : Heap) (locs : List Loc) (ls : Array Slot), K236_24 x21 x22 u23 = some o → va_P (dC, dI) vwCl (wM cI cJ aM hM u23) H → va_D A (wM cI cJ aM hM u23) → va_S A s.heap H locs → lv_has ls 8 [(0, .ref aM), (1, .int p1), (2, .int x2), (3, .int x7), (4, .int x8), (5, .int x12), (6, .int x21), (7, .int x22)] → W p l e ({ frames := 0, cells := 0, slots := 0, locals := 0 } : Room) s m ([.ref aM, .int p1] : List Value).toArray below meth c H locs 0 0 Q (F0 m 236 ls []) := by
            intro x21 x22 u23 H locs ls hm hP hD hS hl
            have hm := ap3 eK236_24 hm
            obtain ⟨x25, ex25, hm⟩ := bnd_ex hm
            refine lv_iinc (v := x25) (lv' := [(5, .int x25), (0, .ref aM), (1, .int p1), (2, .int x2), (3, .int x7), (4, .int x8), (6, .int x21), (7, .int x22)]) hx hb dX7_lay_236 hl (k := 5) rfl (by rw [ex25]; exact congrArg _ (by decide)) (by decide) rfl (fun ls hl => ?_)
            refine lv_goto (tgt := 119) hx hb dX7_lay_239 (by decide) ?_
            exact ih119 x25 u23 _ _ _ hm hP hD hS (lv_sub hl [1, 2, 3, 4, 5, 0] rfl)
          have LP132 : ∀ (n132 : Nat) (x18 : Int32) (x19 : Int32) (u20 : OS) (H : Heap) (locs : List Loc) (ls : Array Slot), f_X7_lay_L132 p1 x2 x12 n132 K236_24 x18 x19 u20 = some o → va_P (dC, dI) vwCl (wM cI cJ aM hM u20) H → va_D A (wM cI cJ aM hM u20) → va_S A s.heap H locs → lv_has ls 8 [(0, .ref aM), (1, .int p1), (2, .int x2), (3, .int x7), (4, .int x8), (5, .int x12), (6, .int x19), (7, .int x18)] → W p l e ({ frames := 0, cells := 0, slots := 0, locals := 0 } : Room) s m ([.ref aM, .int p1] : List Value).toArray below meth c H locs 0 0 Q (F0 m 132 ls []) := by
            intro n132
            induction n132 with
            | zero => intro x18 x19 u20 H locs ls hm; exact nomatch (show (none : Option _) = some _ from hm)
            | succ n132 ih132 =>
              intro x18 x19 u20 H locs ls hm hP hD hS hl
              unfold f_X7_lay_L132 at hm
              refine lv_iload hx hb dX7_lay_132 (lv_at hl 7 rfl) ?_
              refine lv_iload_n hx hb dX7_lay_134 rfl (lv_at hl 2 rfl) ?_
              refine lv_icmp_ge (tgt := 236) hx hb dX7_lay_135 (by decide) (fun c26 => ?_) (fun c26 => ?_)
              · have hm := ite_t c26 hm
                exact X236_24 x19 x18 u20 _ _ _ hm hP hD hS (lv_sub hl [0, 1, 2, 3, 4, 5, 6, 7] rfl)
              · have hm := ite_f c26 hm
                refine lv_aload_n hx hb dX7_lay_138 rfl (lv_at hl 0 rfl) ?_
                refine va_get (D := (dC, dI)) (ci := 8) (v := .ref (hM 8)) (C := RX7) (T := TX7) (N := 34) hx hb ht inX7 hown hK hP 0 rfl rfl 8 (by decide) (ht _ kw_18) (fun _ h9 => h9) rfl dX7_lay_139 ?_
                refine lv_bipush (v := (32 : Int32)) hx hb dX7_lay_142 (by decide) ?_
                refine lv_iload_n hx hb dX7_lay_144 rfl (lv_at hl 1 rfl) ?_
                refine lv_imul hx hb dX7_lay_145 ?_
                refine lv_iload hx hb dX7_lay_146 (lv_at hl 5 rfl) ?_
                refine lv_iadd hx hb dX7_lay_148 ?_
                obtain ⟨g27, hm⟩ := gdi_of hm
                refine va_iald hx hb hK hP 3 0 rfl rfl g27 dX7_lay_149 ?_
                refine lv_if_le (tgt := 230) hx hb dX7_lay_150 (by decide) (fun c28 => ?_) (fun c28 => ?_)
                · have hm := ite_t c28 hm
                  obtain ⟨x29, ex29, hm⟩ := bnd_ex hm
                  refine lv_iinc (v := x29) (lv' := [(7, .int x29), (0, .ref aM), (1, .int p1), (2, .int x2), (3, .int x7), (4, .int x8), (5, .int x12), (6, .int x19)]) hx hb dX7_lay_230 hl (k := 7) rfl (by rw [ex29]; exact congrArg _ (by decide)) (by decide) rfl (fun ls hl => ?_)
                  refine lv_goto (tgt := 132) hx hb dX7_lay_233 (by decide) ?_
                  exact ih132 x29 x19 u20 _ _ _ hm hP hD hS (lv_sub hl [1, 2, 3, 4, 5, 6, 7, 0] rfl)
                · have hm := ite_f c28 hm
                  refine lv_aload_n hx hb dX7_lay_153 rfl (lv_at hl 0 rfl) ?_
                  refine va_get (D := (dC, dI)) (ci := 8) (v := .ref (hM 11)) (C := RX7) (T := TX7) (N := 34) hx hb ht inX7 hown hK hP 0 rfl rfl 11 (by decide) (ht _ kw_21) (fun _ h9 => h9) rfl dX7_lay_154 ?_
                  refine lv_sipush (v := (4096 : Int32)) hx hb dX7_lay_157 (by decide) ?_
                  refine lv_iload_n hx hb dX7_lay_160 rfl (lv_at hl 1 rfl) ?_
                  refine lv_imul hx hb dX7_lay_161 ?_
                  refine lv_iload hx hb dX7_lay_162 (lv_at hl 7 rfl) ?_
                  refine lv_iadd hx hb dX7_lay_164 ?_
                  obtain ⟨g30, hm⟩ := gdi_of hm
                  refine va_iald hx hb hK hP 6 0 rfl rfl g30 dX7_lay_165 ?_
                  refine lv_iload hx hb dX7_lay_166 (lv_at hl 5 rfl) ?_
                  refine lv_icmp_ne (tgt := 230) hx hb dX7_lay_168 (by decide) (fun c31 => ?_) (fun c31 => ?_)
                  · have hm := ite_f c31 hm
                    obtain ⟨x32, ex32, hm⟩ := bnd_ex hm
                    refine lv_iinc (v := x32) (lv' := [(7, .int x32), (0, .ref aM), (1, .int p1), (2, .int x2), (3, .int x7), (4, .int x8), (5, .int x12), (6, .int x19)]) hx hb dX7_lay_230 hl (k := 7) rfl (by rw [ex32]; exact congrArg _ (by decide)) (by decide) rfl (fun ls hl => ?_)
                    refine lv_goto (tgt := 132) hx hb dX7_lay_233 (by decide) ?_
                    exact ih132 x32 x19 u20 _ _ _ hm hP hD hS (lv_sub hl [1, 2, 3, 4, 5, 6, 7, 0] rfl)
                  · have hm := ite_t c31 hm
                    refine lv_aload_n hx hb dX7_lay_171 rfl (lv_at hl 0 rfl) ?_
                    refine va_get (D := (dC, dI)) (ci := 8) (v := .ref (hM 12)) (C := RX7) (T := TX7) (N := 34) hx hb ht inX7 hown hK hP 0 rfl rfl 12 (by decide) (ht _ kw_22) (fun _ h9 => h9) rfl dX7_lay_172 ?_
                    refine lv_sipush (v := (4096 : Int32)) hx hb dX7_lay_175 (by decide) ?_
                    refine lv_iload_n hx hb dX7_lay_178 rfl (lv_at hl 1 rfl) ?_
                    refine lv_imul hx hb dX7_lay_179 ?_
                    refine lv_iload hx hb dX7_lay_180 (lv_at hl 7 rfl) ?_
                    refine lv_iadd hx hb dX7_lay_182 ?_
                    refine lv_aload_n hx hb dX7_lay_183 rfl (lv_at hl 0 rfl) ?_
                    refine va_get (D := (dC, dI)) (ci := 8) (v := .ref (hM 8)) (C := RX7) (T := TX7) (N := 34) hx hb ht inX7 hown hK hP 0 rfl rfl 8 (by decide) (ht _ kw_18) (fun _ h9 => h9) rfl dX7_lay_184 ?_
                    refine lv_bipush (v := (32 : Int32)) hx hb dX7_lay_187 (by decide) ?_
                    refine lv_iload_n hx hb dX7_lay_189 rfl (lv_at hl 1 rfl) ?_
                    refine lv_imul hx hb dX7_lay_190 ?_
                    refine lv_iload hx hb dX7_lay_191 (lv_at hl 5 rfl) ?_
                    refine lv_iadd hx hb dX7_lay_193 ?_
                    obtain ⟨g33, hm⟩ := gdi_of hm
                    refine va_iald hx hb hK hP 3 0 rfl rfl g33 dX7_lay_194 ?_
                    refine lv_iload hx hb dX7_lay_195 (lv_at hl 6 rfl) ?_
                    refine lv_iadd hx hb dX7_lay_197 ?_
                    obtain ⟨g34, hm⟩ := gdi_of hm
                    refine va_iast hx hb hK hP hD hS 7 0 rfl rfl g34 dX7_lay_198 (fun H locs hP hD hS => ?_)
                    obtain ⟨u35, eu35, hm⟩ := bnd_ex hm
                    have hP : va_P (dC, dI) vwCl (wM cI cJ aM hM u35) H := by rw [eu35]; exact hP
                    have hD : va_D A (wM cI cJ aM hM u35) := by rw [eu35]; exact hD
                    refine lv_aload_n hx hb dX7_lay_199 rfl (lv_at hl 0 rfl) ?_
                    refine va_get (D := (dC, dI)) (ci := 8) (v := .ref (hM 13)) (C := RX7) (T := TX7) (N := 34) hx hb ht inX7 hown hK hP 0 rfl rfl 13 (by decide) (ht _ kw_23) (fun _ h9 => h9) rfl dX7_lay_200 ?_
                    refine lv_sipush (v := (4096 : Int32)) hx hb dX7_lay_203 (by decide) ?_
                    refine lv_iload_n hx hb dX7_lay_206 rfl (lv_at hl 1 rfl) ?_
                    refine lv_imul hx hb dX7_lay_207 ?_
                    refine lv_aload_n hx hb dX7_lay_208 rfl (lv_at hl 0 rfl) ?_
                    refine va_get (D := (dC, dI)) (ci := 8) (v := .ref (hM 9)) (C := RX7) (T := TX7) (N := 34) hx hb ht inX7 hown hK hP 0 rfl rfl 9 (by decide) (ht _ kw_20) (fun _ h9 => h9) rfl dX7_lay_209 ?_
                    refine lv_bipush (v := (32 : Int32)) hx hb dX7_lay_212 (by decide) ?_
                    refine lv_iload_n hx hb dX7_lay_214 rfl (lv_at hl 1 rfl) ?_
                    refine lv_imul hx hb dX7_lay_215 ?_
                    refine lv_iload hx hb dX7_lay_216 (lv_at hl 5 rfl) ?_
                    refine lv_iadd hx hb dX7_lay_218 ?_
                    obtain ⟨g36, hm⟩ := gdi_of hm
                    refine va_iald hx hb hK hP 4 0 rfl rfl g36 dX7_lay_219 ?_
                    refine lv_iadd hx hb dX7_lay_220 ?_
                    refine lv_iload hx hb dX7_lay_221 (lv_at hl 6 rfl) ?_
                    refine lv_iadd hx hb dX7_lay_223 ?_
                    refine lv_iload hx hb dX7_lay_224 (lv_at hl 7 rfl) ?_
                    obtain ⟨g37, hm⟩ := gdi_of hm
                    refine va_iast hx hb hK hP hD hS 8 0 rfl rfl g37 dX7_lay_226 (fun H locs hP hD hS => ?_)
                    obtain ⟨u38, eu38, hm⟩ := bnd_ex hm
                    have hP : va_P (dC, dI) vwCl (wM cI cJ aM hM u38) H := by rw [eu38]; exact hP
                    have hD : va_D A (wM cI cJ aM hM u38) := by rw [eu38]; exact hD
                    obtain ⟨x39, ex39, hm⟩ := bnd_ex hm
                    refine lv_iinc (v := x39) (lv' := [(6, .int x39), (0, .ref aM), (1, .int p1), (2, .int x2), (3, .int x7), (4, .int x8), (5, .int x12), (7, .int x18)]) hx hb dX7_lay_227 hl (k := 6) rfl (by rw [ex39]; exact congrArg _ (by decide)) (by decide) rfl (fun ls hl => ?_)
                    obtain ⟨x40, ex40, hm⟩ := bnd_ex hm
                    refine lv_iinc (v := x40) (lv' := [(7, .int x40), (6, .int x39), (0, .ref aM), (1, .int p1), (2, .int x2), (3, .int x7), (4, .int x8), (5, .int x12)]) hx hb dX7_lay_230 hl (k := 7) rfl (by rw [ex40]; exact congrArg _ (by decide)) (by decide) rfl (fun ls hl => ?_)
                    refine lv_goto (tgt := 132) hx hb dX7_lay_233 (by decide) ?_
                    exact ih132 x40 x39 u38 _ _ _ hm hP hD hS (lv_sub hl [2, 3, 4, 5, 6, 7, 1, 0] rfl)
          exact LP132 FU (0 : Int32) (0 : Int32) u13 _ _ _ hm hP hD hS (lv_sub hl [2, 3, 4, 5, 6, 7, 1, 0] rfl)
    exact LP119 FU (0 : Int32) u10 _ _ _ hm hP hD hS (lv_sub hl [1, 2, 3, 4, 5, 0] rfl)
  have LP17 : ∀ (n17 : Nat) (x3 : Int32) (x4 : Int32) (x5 : Int32) (u6 : OS) (H : Heap) (locs : List Loc) (ls : Array Slot), f_X7_lay_L17 p1 x2 n17 K116_11 x3 x4 x5 u6 = some o → va_P (dC, dI) vwCl (wM cI cJ aM hM u6) H → va_D A (wM cI cJ aM hM u6) → va_S A s.heap H locs → lv_has ls 8 [(0, .ref aM), (1, .int p1), (2, .int x2), (3, .int x5), (4, .int x4), (5, .int x3)] → W p l e ({ frames := 0, cells := 0, slots := 0, locals := 0 } : Room) s m ([.ref aM, .int p1] : List Value).toArray below meth c H locs 0 0 Q (F0 m 17 ls []) := by
    intro n17
    induction n17 with
    | zero => intro x3 x4 x5 u6 H locs ls hm; exact nomatch (show (none : Option _) = some _ from hm)
    | succ n17 ih17 =>
      intro x3 x4 x5 u6 H locs ls hm hP hD hS hl
      unfold f_X7_lay_L17 at hm
      refine lv_iload hx hb dX7_lay_17 (lv_at hl 5 rfl) ?_
      refine lv_bipush (v := (32 : Int32)) hx hb dX7_lay_19 (by decide) ?_
      refine lv_icmp_ge (tgt := 116) hx hb dX7_lay_21 (by decide) (fun c41 => ?_) (fun c41 => ?_)
      · have hm := ite_t c41 hm
        exact X116_11 x5 x4 x3 u6 _ _ _ hm hP hD hS (lv_sub hl [0, 1, 2, 3, 4, 5] rfl)
      · have hm := ite_f c41 hm
        refine lv_aload_n hx hb dX7_lay_24 rfl (lv_at hl 0 rfl) ?_
        refine va_get (D := (dC, dI)) (ci := 8) (v := .ref (hM 9)) (C := RX7) (T := TX7) (N := 34) hx hb ht inX7 hown hK hP 0 rfl rfl 9 (by decide) (ht _ kw_20) (fun _ h9 => h9) rfl dX7_lay_25 ?_
        refine lv_bipush (v := (32 : Int32)) hx hb dX7_lay_28 (by decide) ?_
        refine lv_iload_n hx hb dX7_lay_30 rfl (lv_at hl 1 rfl) ?_
        refine lv_imul hx hb dX7_lay_31 ?_
        refine lv_iload hx hb dX7_lay_32 (lv_at hl 5 rfl) ?_
        refine lv_iadd hx hb dX7_lay_34 ?_
        refine lv_iload_n hx hb dX7_lay_35 rfl (lv_at hl 3 rfl) ?_
        obtain ⟨g42, hm⟩ := gdi_of hm
        refine va_iast hx hb hK hP hD hS 4 0 rfl rfl g42 dX7_lay_36 (fun H locs hP hD hS => ?_)
        obtain ⟨u43, eu43, hm⟩ := bnd_ex hm
        have hP : va_P (dC, dI) vwCl (wM cI cJ aM hM u43) H := by rw [eu43]; exact hP
        have hD : va_D A (wM cI cJ aM hM u43) := by rw [eu43]; exact hD
        refine lv_iload_n hx hb dX7_lay_37 rfl (lv_at hl 3 rfl) ?_
        refine lv_aload_n hx hb dX7_lay_38 rfl (lv_at hl 0 rfl) ?_
        refine va_get (D := (dC, dI)) (ci := 8) (v := .ref (hM 8)) (C := RX7) (T := TX7) (N := 34) hx hb ht inX7 hown hK hP 0 rfl rfl 8 (by decide) (ht _ kw_18) (fun _ h9 => h9) rfl dX7_lay_39 ?_
        refine lv_bipush (v := (32 : Int32)) hx hb dX7_lay_42 (by decide) ?_
        refine lv_iload_n hx hb dX7_lay_44 rfl (lv_at hl 1 rfl) ?_
        refine lv_imul hx hb dX7_lay_45 ?_
        refine lv_iload hx hb dX7_lay_46 (lv_at hl 5 rfl) ?_
        refine lv_iadd hx hb dX7_lay_48 ?_
        obtain ⟨g44, hm⟩ := gdi_of hm
        refine va_iald hx hb hK hP 3 0 rfl rfl g44 dX7_lay_49 ?_
        refine lv_iadd hx hb dX7_lay_50 ?_
        refine lv_topi (fun x45 ex45 => ?_)
        have hm := bnd_nm ex45 hm
        refine lv_istore_n (lv' := [(3, .int x45), (0, .ref aM), (1, .int p1), (2, .int x2), (4, .int x4), (5, .int x3)]) hx hb dX7_lay_51 rfl hl (by decide) rfl (fun ls hl => ?_)
        refine lv_iconst (v := (0 : Int32)) hx hb dX7_lay_52 (by decide) ?_
        refine lv_istore (lv' := [(6, .int (0 : Int32)), (3, .int x45), (0, .ref aM), (1, .int p1), (2, .int x2), (4, .int x4), (5, .int x3)]) hx hb dX7_lay_53 hl (by decide) rfl (fun ls hl => ?_)
        obtain ⟨K110_52, eK110_52, hm⟩ := bnd_ex hm
        have X110_52 : ∀ (x49 : Int32) (x50 : Int32) (u51 : OS) (H : Heap) (locs : List Loc) (ls : Array Slot), K110_52 x49 x50 u51 = some o → va_P (dC, dI) vwCl (wM cI cJ aM hM u51) H → va_D A (wM cI cJ aM hM u51) → va_S A s.heap H locs → lv_has ls 8 [(0, .ref aM), (1, .int p1), (2, .int x2), (3, .int x45), (4, .int x49), (5, .int x3), (6, .int x50)] → W p l e ({ frames := 0, cells := 0, slots := 0, locals := 0 } : Room) s m ([.ref aM, .int p1] : List Value).toArray below meth c H locs 0 0 Q (F0 m 110 ls []) := by
          intro x49 x50 u51 H locs ls hm hP hD hS hl
          have hm := ap3 eK110_52 hm
          obtain ⟨x53, ex53, hm⟩ := bnd_ex hm
          refine lv_iinc (v := x53) (lv' := [(5, .int x53), (0, .ref aM), (1, .int p1), (2, .int x2), (3, .int x45), (4, .int x49), (6, .int x50)]) hx hb dX7_lay_110 hl (k := 5) rfl (by rw [ex53]; exact congrArg _ (by decide)) (by decide) rfl (fun ls hl => ?_)
          refine lv_goto (tgt := 17) hx hb dX7_lay_113 (by decide) ?_
          exact ih17 x53 x49 x45 u51 _ _ _ hm hP hD hS (lv_sub hl [1, 2, 3, 4, 5, 0] rfl)
        have LP55 : ∀ (n55 : Nat) (x46 : Int32) (x47 : Int32) (u48 : OS) (H : Heap) (locs : List Loc) (ls : Array Slot), f_X7_lay_L55 p1 x2 x3 n55 K110_52 x46 x47 u48 = some o → va_P (dC, dI) vwCl (wM cI cJ aM hM u48) H → va_D A (wM cI cJ aM hM u48) → va_S A s.heap H locs → lv_has ls 8 [(0, .ref aM), (1, .int p1), (2, .int x2), (3, .int x45), (4, .int x47), (5, .int x3), (6, .int x46)] → W p l e ({ frames := 0, cells := 0, slots := 0, locals := 0 } : Room) s m ([.ref aM, .int p1] : List Value).toArray below meth c H locs 0 0 Q (F0 m 55 ls []) := by
          intro n55
          induction n55 with
          | zero => intro x46 x47 u48 H locs ls hm; exact nomatch (show (none : Option _) = some _ from hm)
          | succ n55 ih55 =>
            intro x46 x47 u48 H locs ls hm hP hD hS hl
            unfold f_X7_lay_L55 at hm
            refine lv_iload hx hb dX7_lay_55 (lv_at hl 6 rfl) ?_
            refine lv_aload_n hx hb dX7_lay_57 rfl (lv_at hl 0 rfl) ?_
            refine va_get (D := (dC, dI)) (ci := 8) (v := .ref (hM 8)) (C := RX7) (T := TX7) (N := 34) hx hb ht inX7 hown hK hP 0 rfl rfl 8 (by decide) (ht _ kw_18) (fun _ h9 => h9) rfl dX7_lay_58 ?_
            refine lv_bipush (v := (32 : Int32)) hx hb dX7_lay_61 (by decide) ?_
            refine lv_iload_n hx hb dX7_lay_63 rfl (lv_at hl 1 rfl) ?_
            refine lv_imul hx hb dX7_lay_64 ?_
            refine lv_iload hx hb dX7_lay_65 (lv_at hl 5 rfl) ?_
            refine lv_iadd hx hb dX7_lay_67 ?_
            obtain ⟨g54, hm⟩ := gdi_of hm
            refine va_iald hx hb hK hP 3 0 rfl rfl g54 dX7_lay_68 ?_
            refine lv_icmp_ge (tgt := 110) hx hb dX7_lay_69 (by decide) (fun c55 => ?_) (fun c55 => ?_)
            · have hm := ite_t c55 hm
              exact X110_52 x47 x46 u48 _ _ _ hm hP hD hS (lv_sub hl [0, 1, 2, 3, 4, 5, 6] rfl)
            · have hm := ite_f c55 hm
              refine lv_aload_n hx hb dX7_lay_72 rfl (lv_at hl 0 rfl) ?_
              refine va_get (D := (dC, dI)) (ci := 8) (v := .ref (hM 11)) (C := RX7) (T := TX7) (N := 34) hx hb ht inX7 hown hK hP 0 rfl rfl 11 (by decide) (ht _ kw_21) (fun _ h9 => h9) rfl dX7_lay_73 ?_
              refine lv_sipush (v := (4096 : Int32)) hx hb dX7_lay_76 (by decide) ?_
              refine lv_iload_n hx hb dX7_lay_79 rfl (lv_at hl 1 rfl) ?_
              refine lv_imul hx hb dX7_lay_80 ?_
              refine lv_iload hx hb dX7_lay_81 (lv_at hl 4 rfl) ?_
              refine lv_iadd hx hb dX7_lay_83 ?_
              refine lv_iload hx hb dX7_lay_84 (lv_at hl 5 rfl) ?_
              obtain ⟨g56, hm⟩ := gdi_of hm
              refine va_iast hx hb hK hP hD hS 6 0 rfl rfl g56 dX7_lay_86 (fun H locs hP hD hS => ?_)
              obtain ⟨u57, eu57, hm⟩ := bnd_ex hm
              have hP : va_P (dC, dI) vwCl (wM cI cJ aM hM u57) H := by rw [eu57]; exact hP
              have hD : va_D A (wM cI cJ aM hM u57) := by rw [eu57]; exact hD
              refine lv_iload hx hb dX7_lay_87 (lv_at hl 4 rfl) ?_
              refine lv_iload_n hx hb dX7_lay_89 rfl (lv_at hl 2 rfl) ?_
              refine lv_iconst (v := (2 : Int32)) hx hb dX7_lay_90 (by decide) ?_
              refine lv_idiv hx hb dX7_lay_91 (by decide) ?_
              refine lv_iadd hx hb dX7_lay_92 ?_
              refine lv_iload_n hx hb dX7_lay_93 rfl (lv_at hl 2 rfl) ?_
              refine lv_bipush (v := (8 : Int32)) hx hb dX7_lay_94 (by decide) ?_
              refine lv_idiv hx hb dX7_lay_96 (by decide) ?_
              refine lv_iadd hx hb dX7_lay_97 ?_
              refine lv_iconst (v := (3 : Int32)) hx hb dX7_lay_98 (by decide) ?_
              refine lv_iadd hx hb dX7_lay_99 ?_
              refine lv_iload_n hx hb dX7_lay_100 rfl (lv_at hl 2 rfl) ?_
              obtain ⟨g58, hm⟩ := gdz_of hm
              refine lv_irem hx hb dX7_lay_101 g58 ?_
              refine lv_topi (fun x59 ex59 => ?_)
              have hm := bnd_nm ex59 hm
              refine lv_istore (lv' := [(4, .int x59), (0, .ref aM), (1, .int p1), (2, .int x2), (3, .int x45), (5, .int x3), (6, .int x46)]) hx hb dX7_lay_102 hl (by decide) rfl (fun ls hl => ?_)
              obtain ⟨x60, ex60, hm⟩ := bnd_ex hm
              refine lv_iinc (v := x60) (lv' := [(6, .int x60), (4, .int x59), (0, .ref aM), (1, .int p1), (2, .int x2), (3, .int x45), (5, .int x3)]) hx hb dX7_lay_104 hl (k := 6) rfl (by rw [ex60]; exact congrArg _ (by decide)) (by decide) rfl (fun ls hl => ?_)
              refine lv_goto (tgt := 55) hx hb dX7_lay_107 (by decide) ?_
              exact ih55 x60 x59 u57 _ _ _ hm hP hD hS (lv_sub hl [2, 3, 4, 5, 1, 6, 0] rfl)
        exact LP55 FU (0 : Int32) x4 u43 _ _ _ hm hP hD hS (lv_sub hl [2, 3, 4, 1, 5, 6, 0] rfl)
  exact LP17 FU (0 : Int32) (0 : Int32) (0 : Int32) uM _ _ _ hm hP hD hS (lv_sub hl [4, 5, 3, 2, 1, 0] rfl)
end
section
def f_X7_normal_L78 (u13 : OS) : Nat → (Int32 → Int64 → Int32 → Option (OS × Int32)) → Int32 → Int64 → Int32 → Option (OS × Int32)
  | 0, _, _, _, _ => none
  | n78 + 1, K156_27, x21, y22, x23 =>
    if (32 : Int32) ≤ x21 then (
    K156_27 x23 y22 x21) else (
    gdi x21 64 <|
    if (u13.2.1 8 (x21).toNatClampNeg) ≤ (0 : Int32) then (
    bnd (x21 + (1 : Int32)) fun x35 =>
    f_X7_normal_L78 u13 n78 K156_27 x35 y22 x23) else (
    gdi x21 32 <|
    gdi x21 64 <|
    oC1 (f_X7_logarithm ((u13.2.1 8 (x21).toNatClampNeg) + (1 : Int32))) fun r38 =>
    gdi x21 64 <|
    oC1 (f_X7_logarithm (u13.2.1 8 (x21).toNatClampNeg)) fun r41 =>
    bnd (((u13.2.1 6 (x21).toNatClampNeg)).toInt64 * (r38 - r41)) fun y43 =>
    if x23 = (-2 : Int32) then (
    bnd (x21 + (1 : Int32)) fun x45 =>
    f_X7_normal_L78 u13 n78 K156_27 x45 y43 x21) else (
    if y43 ≤ y22 then (
    bnd (x21 + (1 : Int32)) fun x47 =>
    f_X7_normal_L78 u13 n78 K156_27 x47 y22 x23) else (
    bnd (x21 + (1 : Int32)) fun x48 =>
    f_X7_normal_L78 u13 n78 K156_27 x48 y43 x21))))

def f_X7_normal_L65 : Nat → (Int32 → OS → Option (OS × Int32)) → Int32 → OS → Option (OS × Int32)
  | 0, _, _, _ => none
  | n65 + 1, K172_16, x12, u13 =>
    if x12 ≤ (0 : Int32) then (
    K172_16 x12 u13) else (
    bnd (fun (x24 : Int32) (y25 : Int64) (x26 : Int32) =>
    gdi x24 64 <|
    gdi x24 64 <|
    bnd (sA u13 8 x24 ((u13.2.1 8 (x24).toNatClampNeg) + (1 : Int32))) fun u30 =>
    bnd (x12 + (-1 : Int32)) fun x31 =>
    f_X7_normal_L65 n65 K172_16 x31 u30) fun K156_27 =>
    f_X7_normal_L78 u13 FU K156_27 (0 : Int32) (0 : Int64) (-2 : Int32))

def f_X7_normal_L24 : Nat → (Int32 → OS → Option (OS × Int32)) → Int32 → OS → Option (OS × Int32)
  | 0, _, _, _ => none
  | n24 + 1, K56_10, x6, u7 =>
    if (32 : Int32) ≤ x6 then (
    K56_10 x6 u7) else (
    gdi x6 32 <|
    if (u7.2.1 6 (x6).toNatClampNeg) ≤ (0 : Int32) then (
    gdi x6 64 <|
    bnd (sA u7 8 x6 (0 : Int32)) fun u53 =>
    bnd (x6 + (1 : Int32)) fun x54 =>
    f_X7_normal_L24 n24 K56_10 x54 u53) else (
    gdi x6 64 <|
    bnd (sA u7 8 x6 (1 : Int32)) fun u56 =>
    bnd (x6 + (1 : Int32)) fun x57 =>
    f_X7_normal_L24 n24 K56_10 x57 u56))

def f_X7_normal (uM : OS) : Option (OS × Int32) :=
  bnd (sF uM 1 (0 : Int32)) fun u1 =>
  bnd (sF u1 7 (0 : Int32)) fun u2 =>
  oC1 (f_X7_signsCounted u2) fun r3 =>
  if r3 = (0 : Int32) then (
  some (u2, (-2 : Int32))) else (
  bnd (fun (x8 : Int32) (u9 : OS) =>
  bnd (((1 : Int32) <<< ((u9.1 0) &&& (31 : Int32))) - r3) fun x11 =>
  bnd (fun (x14 : Int32) (u15 : OS) =>
  bnd (sF u15 7 (1 : Int32)) fun u17 =>
  oC1 (f_X7_lay u17 (0 : Int32)) fun u18 =>
  some (u18, r3)) fun K172_16 =>
  f_X7_normal_L65 FU K172_16 x11 u9) fun K56_10 =>
  f_X7_normal_L24 FU K56_10 (0 : Int32) u2)

set_option maxHeartbeats 4000000 in
set_option maxRecDepth 100000 in
theorem c_X7_normal (l : Launch) (dC : Nat → ClassId) (dI : Nat → Nat → Nat) (cI cJ : ClassId) (aM : Nat) (hM : Nat → Nat) (sz : Nat) (uM : OS) (o : OS × Int32) (hm : f_X7_normal uM = some o) : Met l yX7_normal (wq yX7_normal cX7_normal 9 (some .int)) ({ frames := 1, cells := 0, slots := 0, locals := 27 } : Room) (va_Pc [.ref aM] (pcW dC dI cI cJ sz (wM cI cJ aM hM uM))) (va_Qi (S := OS) (fun r u => some (u, r) = some o) (fun (u : OS) t => va_P (dC, dI) vwCl (wM cI cJ aM hM u) t.heap ∧ va_D (va_A (wM cI cJ aM hM uM) sz) (wM cI cJ aM hM u)) (va_A (wM cI cJ aM hM uM) sz)) 0 0 (va_A (wM cI cJ aM hM uM) sz) := by
  refine Met.ofW (cc := cX7_normal) (maxL := 9) (ret := (some .int)) (by decide) rfl ?_
  intro p e s m args below meth c s₁ B hml hv
  obtain ⟨rfl, hsz, hP, hK, hD0, hN⟩ := hv
  have hx := B.exec
  have hb := B.bytes
  have hr := B.returns
  have ht : ∀ w ∈ lw_good, w.before _ s = true := fun w h => atoms_spec (ws := wq yX7_normal cX7_normal 9 (some .int)) B.pre w (wq_mem h)
  have hown : s.vm.findClass RX7 = some m.cls := findClass_of_methodNamed B.named
  have hlocks := B.notSynchronized
  subst hsz
  have hD := hD0.self (sz := s.heap.size)
  generalize hAe : va_A (wM cI cJ aM hM uM) s.heap.size = A at hD ⊢
  have hA : ∀ q : Nat, s.heap.size ≤ q → A q := fun q h => by rw [← hAe]; exact Or.inr h
  have hS : va_S A s.heap s.heap [] := va_S.rf
  have hl := lv_entry ([.ref aM]) (n := 9) (Nat.le_of_ble_eq_true rfl)
  rw [lg_entry_eq]
  generalize (lg_sl ([.ref aM]) ++ List.replicate (9 - (lg_sl ([.ref aM])).length) Slot.unset).toArray = ls at hl ⊢
  have hl : lv_has ls 9 [(0, .ref aM)] := hl
  generalize hQ : MQ below _ _ s _ _ _ = Q
  generalize hH : s.heap = H at hP ⊢
  have hS : va_S A s.heap H [] := by rw [← hH]; exact va_S.rf
  show W p l e ({ frames := 1, cells := 0, slots := 0, locals := 27 } : Room) s m ([.ref aM] : List Value).toArray below meth c H [] 0 0 Q (F0 m 0 ls [])
  unfold f_X7_normal at hm
  refine lv_aload_n hx hb dX7_normal_0 rfl (lv_at hl 0 rfl) ?_
  refine lv_iconst (v := (0 : Int32)) hx hb dX7_normal_1 (by decide) ?_
  refine va_put (D := (dC, dI)) (ci := 8) (v := .int (0 : Int32)) (ty := .int) (C := RX7) (T := TX7) (N := 34) hx hb ht inX7 tyX7 tyX7_ok nmX7 hown hK hP hD hS 0 rfl rfl 1 (by decide) (ht _ kw_0) (fun _ h9 => h9) rfl (by decide +kernel) rfl rfl (Nat.le_of_ble_eq_true rfl) dX7_normal_2 (fun H locs hP hD hS => ?_)
  obtain ⟨u1, eu1, hm⟩ := bnd_ex hm
  have hP : va_P (dC, dI) vwCl (wM cI cJ aM hM u1) H := by rw [eu1]; exact hP
  have hD : va_D A (wM cI cJ aM hM u1) := by rw [eu1]; exact hD
  refine lv_aload_n hx hb dX7_normal_5 rfl (lv_at hl 0 rfl) ?_
  refine lv_iconst (v := (0 : Int32)) hx hb dX7_normal_6 (by decide) ?_
  refine va_put (D := (dC, dI)) (ci := 8) (v := .int (0 : Int32)) (ty := .boolean) (C := RX7) (T := TX7) (N := 34) hx hb ht inX7 tyX7 tyX7_ok nmX7 hown hK hP hD hS 0 rfl rfl 7 (by decide) (ht _ kw_5) (fun _ h9 => h9) rfl (by decide +kernel) rfl rfl (Nat.le_of_ble_eq_true rfl) dX7_normal_7 (fun H locs hP hD hS => ?_)
  obtain ⟨u2, eu2, hm⟩ := bnd_ex hm
  have hP : va_P (dC, dI) vwCl (wM cI cJ aM hM u2) H := by rw [eu2]; exact hP
  have hD : va_D A (wM cI cJ aM hM u2) := by rw [eu2]; exact hD
  refine lv_aload_n hx hb dX7_normal_10 rfl (lv_at hl 0 rfl) ?_
  have hPc : va_P (dC, dI) vwCl (wM cI cJ aM hM u2) _ := hP
  have hDc : va_D A (wM cI cJ aM hM u2) := hD
  have hFc := va_free (wc := (wM cI cJ aM hM u2)) hD hS hA [0, 1, 2, 3, 4, 5, 6, 7, 8, 9, 10, 11, 12, 13, 14] rfl
  obtain ⟨r3o, e4, hm⟩ := oC1_of hm
  refine va_calli (va_runV (As := []) (rest := []) ⟨hx, hb, hml, hown, ht⟩ (c_X7_signsCounted l dC dI cI cJ aM hM H.size u2 r3o e4) (cwV 0 ht (gdV kw_10 kw_8 kw_9 kw_7 kw_6) rfl rfl rfl ⟨rfl, nd_X7_signsCounted⟩ ⟨Nat.le_of_ble_eq_true rfl, Nat.le_of_ble_eq_true rfl⟩) ⟨pcW_blind, va_recv hK hPc (ci := 8) (q0 := 0) rfl rfl, pcW_pre hPc hK hDc hN⟩ rfl rfl hl.1 rfl (lv_room (Nat.le_of_ble_eq_true rfl)) dX7_normal_11 ⟨Nat.zero_le _, Nat.zero_le _⟩) hS (fun q _ z => hFc q z) hFc (fun r3 uu t H1 locs ht1 hvm hw hB hz1 hk1 hS => ?_)
  obtain ⟨⟩ := uu
  obtain ⟨hP1, hD1⟩ := hB
  rw [ht1] at hP1
  obtain rfl : r3 = r3o := Option.some.inj hw
  have hP : va_P (dC, dI) vwCl (wM cI cJ aM hM u2) H1 := hP1
  have hD : va_D A (wM cI cJ aM hM u2) := hD1.weaken (fun _ q _ z => hFc q.1 z)
  generalize H1 = H at hP hS ⊢
  refine lv_istore_n (lv' := [(1, .int r3), (0, .ref aM)]) hx hb dX7_normal_14 rfl hl (by decide) rfl (fun ls hl => ?_)
  refine lv_iload_n hx hb dX7_normal_15 rfl (lv_at hl 0 rfl) ?_
  refine lv_if_ne (tgt := 22) hx hb dX7_normal_16 (by decide) (fun c5 => ?_) (fun c5 => ?_)
  · have hm := ite_f c5 hm
    refine lv_iconst (v := (0 : Int32)) hx hb dX7_normal_22 (by decide) ?_
    refine lv_istore_n (lv' := [(2, .int (0 : Int32)), (1, .int r3), (0, .ref aM)]) hx hb dX7_normal_23 rfl hl (by decide) rfl (fun ls hl => ?_)
    obtain ⟨K56_10, eK56_10, hm⟩ := bnd_ex hm
    have X56_10 : ∀ (x8 : Int32) (u9 : OS) (H : Heap) (locs : List Loc) (ls : Array Slot), K56_10 x8 u9 = some o → va_P (dC, dI) vwCl (wM cI cJ aM hM u9) H → va_D A (wM cI cJ aM hM u9) → va_S A s.heap H locs → lv_has ls 9 [(0, .ref aM), (1, .int r3), (2, .int x8)] → W p l e ({ frames := 1, cells := 0, slots := 0, locals := 27 } : Room) s m ([.ref aM] : List Value).toArray below meth c H locs 0 0 Q (F0 m 56 ls []) := by
      intro x8 u9 H locs ls hm hP hD hS hl
      have hm := ap2 eK56_10 hm
      refine lv_iconst (v := (1 : Int32)) hx hb dX7_normal_56 (by decide) ?_
      refine lv_aload_n hx hb dX7_normal_57 rfl (lv_at hl 0 rfl) ?_
      refine va_get (D := (dC, dI)) (ci := 8) (v := .int (u9.1 0)) (C := RX7) (T := TX7) (N := 34) hx hb ht inX7 hown hK hP 0 rfl rfl 0 (by decide) (ht _ kw_14) (fun _ h9 => h9) rfl dX7_normal_58 ?_
      refine lv_ishl hx hb dX7_normal_61 ?_
      refine lv_iload_n hx hb dX7_normal_62 rfl (lv_at hl 1 rfl) ?_
      refine lv_isub hx hb dX7_normal_63 ?_
      refine lv_topi (fun x11 ex11 => ?_)
      have hm := bnd_nm ex11 hm
      refine lv_istore_n (lv' := [(2, .int x11), (0, .ref aM), (1, .int r3)]) hx hb dX7_normal_64 rfl hl (by decide) rfl (fun ls hl => ?_)
      obtain ⟨K172_16, eK172_16, hm⟩ := bnd_ex hm
      have X172_16 : ∀ (x14 : Int32) (u15 : OS) (H : Heap) (locs : List Loc) (ls : Array Slot), K172_16 x14 u15 = some o → va_P (dC, dI) vwCl (wM cI cJ aM hM u15) H → va_D A (wM cI cJ aM hM u15) → va_S A s.heap H locs → lv_has ls 9 [(0, .ref aM), (1, .int r3), (2, .int x14)] → W p l e ({ frames := 1, cells := 0, slots := 0, locals := 27 } : Room) s m ([.ref aM] : List Value).toArray below meth c H locs 0 0 Q (F0 m 172 ls []) := by
        intro x14 u15 H locs ls hm hP hD hS hl
        have hm := ap2 eK172_16 hm
        refine lv_aload_n hx hb dX7_normal_172 rfl (lv_at hl 0 rfl) ?_
        refine lv_iconst (v := (1 : Int32)) hx hb dX7_normal_173 (by decide) ?_
        refine va_put (D := (dC, dI)) (ci := 8) (v := .int (1 : Int32)) (ty := .boolean) (C := RX7) (T := TX7) (N := 34) hx hb ht inX7 tyX7 tyX7_ok nmX7 hown hK hP hD hS 0 rfl rfl 7 (by decide) (ht _ kw_5) (fun _ h9 => h9) rfl (by decide +kernel) rfl rfl (Nat.le_of_ble_eq_true rfl) dX7_normal_174 (fun H locs hP hD hS => ?_)
        obtain ⟨u17, eu17, hm⟩ := bnd_ex hm
        have hP : va_P (dC, dI) vwCl (wM cI cJ aM hM u17) H := by rw [eu17]; exact hP
        have hD : va_D A (wM cI cJ aM hM u17) := by rw [eu17]; exact hD
        refine lv_aload_n hx hb dX7_normal_177 rfl (lv_at hl 0 rfl) ?_
        refine lv_iconst (v := (0 : Int32)) hx hb dX7_normal_178 (by decide) ?_
        have hPc : va_P (dC, dI) vwCl (wM cI cJ aM hM u17) _ := hP
        have hDc : va_D A (wM cI cJ aM hM u17) := hD
        have hFc := va_free (wc := (wM cI cJ aM hM u17)) hD hS hA [0, 1, 2, 3, 4, 5, 6, 7, 8, 9, 10, 11, 12, 13, 14] rfl
        obtain ⟨u18o, e19, hm⟩ := oC1_of hm
        refine va_callv (va_runV (As := [.int (0 : Int32)]) (rest := []) ⟨hx, hb, hml, hown, ht⟩ (c_X7_lay l dC dI cI cJ aM hM H.size u17 (0 : Int32) u18o e19) (cwV 1 ht (gdV kw_27 kw_25 kw_26 kw_7 kw_24) rfl rfl rfl ⟨rfl, nd_X7_lay⟩ ⟨Nat.le_of_ble_eq_true rfl, Nat.le_of_ble_eq_true rfl⟩) ⟨pcW_blind, va_recv hK hPc (ci := 8) (q0 := 0) rfl rfl, pcW_pre hPc hK hDc hN⟩ rfl rfl hl.1 rfl (lv_room (Nat.le_of_ble_eq_true rfl)) dX7_normal_179 ⟨Nat.zero_le _, Nat.zero_le _⟩) hS (fun q _ z => hFc q z) hFc (fun uu t H1 locs ht1 hvm hw hB hz1 hk1 hS => ?_)
        obtain ⟨u18, rfl⟩ : ∃ z, z = uu := ⟨_, rfl⟩
        obtain ⟨hP1, hD1⟩ := hB
        rw [ht1] at hP1
        obtain rfl : u18 = u18o := Option.some.inj hw
        have hP : va_P (dC, dI) vwCl (wM cI cJ aM hM u18) H1 := hP1
        have hD : va_D A (wM cI cJ aM hM u18) := hD1.weaken (fun _ q _ z => hFc q.1 z)
        generalize H1 = H at hP hS ⊢
        refine lv_iload_n hx hb dX7_normal_182 rfl (lv_at hl 1 rfl) ?_
        rw [← hQ]
        exact W.iret (v := r3) hx hb hr (fun t ht1 hW => ⟨⟨_, u18, rfl, hm, by rw [ht1]; exact hP, hD⟩, hS.F ht1⟩) hS.2.2 dX7_normal_183
      have LP65 : ∀ (n65 : Nat) (x12 : Int32) (u13 : OS) (H : Heap) (locs : List Loc) (ls : Array Slot), f_X7_normal_L65 n65 K172_16 x12 u13 = some o → va_P (dC, dI) vwCl (wM cI cJ aM hM u13) H → va_D A (wM cI cJ aM hM u13) → va_S A s.heap H locs → lv_has ls 9 [(0, .ref aM), (1, .int r3), (2, .int x12)] → W p l e ({ frames := 1, cells := 0, slots := 0, locals := 27 } : Room) s m ([.ref aM] : List Value).toArray below meth c H locs 0 0 Q (F0 m 65 ls []) := by
        intro n65
        induction n65 with
        | zero => intro x12 u13 H locs ls hm; exact nomatch (show (none : Option _) = some _ from hm)
        | succ n65 ih65 =>
          intro x12 u13 H locs ls hm hP hD hS hl
          unfold f_X7_normal_L65 at hm
          refine lv_iload_n hx hb dX7_normal_65 rfl (lv_at hl 2 rfl) ?_
          refine lv_if_le (tgt := 172) hx hb dX7_normal_66 (by decide) (fun c20 => ?_) (fun c20 => ?_)
          · have hm := ite_t c20 hm
            exact X172_16 x12 u13 _ _ _ hm hP hD hS (lv_sub hl [0, 1, 2] rfl)
          · have hm := ite_f c20 hm
            refine lv_bipush (v := (-2 : Int32)) hx hb dX7_normal_69 (by decide) ?_
            refine lv_istore_n (lv' := [(3, .int (-2 : Int32)), (0, .ref aM), (1, .int r3), (2, .int x12)]) hx hb dX7_normal_71 rfl hl (by decide) rfl (fun ls hl => ?_)
            refine lv_lconst (v := (0 : Int64)) hx hb dX7_normal_72 (by decide) ?_
            refine lv_lstore (lv' := [(4, .long (0 : Int64)), (3, .int (-2 : Int32)), (0, .ref aM), (1, .int r3), (2, .int x12)]) hx hb dX7_normal_73 hl (by decide) rfl (fun ls hl => ?_)
            refine lv_iconst (v := (0 : Int32)) hx hb dX7_normal_75 (by decide) ?_
            refine lv_istore (lv' := [(6, .int (0 : Int32)), (4, .long (0 : Int64)), (3, .int (-2 : Int32)), (0, .ref aM), (1, .int r3), (2, .int x12)]) hx hb dX7_normal_76 hl (by decide) rfl (fun ls hl => ?_)
            obtain ⟨K156_27, eK156_27, hm⟩ := bnd_ex hm
            have X156_27 : ∀ (x24 : Int32) (y25 : Int64) (x26 : Int32) (H : Heap) (locs : List Loc) (ls : Array Slot), K156_27 x24 y25 x26 = some o → va_P (dC, dI) vwCl (wM cI cJ aM hM u13) H → va_D A (wM cI cJ aM hM u13) → va_S A s.heap H locs → lv_has ls 9 [(0, .ref aM), (1, .int r3), (2, .int x12), (3, .int x24), (4, .long y25), (6, .int x26)] → W p l e ({ frames := 1, cells := 0, slots := 0, locals := 27 } : Room) s m ([.ref aM] : List Value).toArray below meth c H locs 0 0 Q (F0 m 156 ls []) := by
              intro x24 y25 x26 H locs ls hm hP hD hS hl
              have hm := ap3 eK156_27 hm
              refine lv_aload_n hx hb dX7_normal_156 rfl (lv_at hl 0 rfl) ?_
              refine va_get (D := (dC, dI)) (ci := 8) (v := .ref (hM 8)) (C := RX7) (T := TX7) (N := 34) hx hb ht inX7 hown hK hP 0 rfl rfl 8 (by decide) (ht _ kw_18) (fun _ h9 => h9) rfl dX7_normal_157 ?_
              refine lv_iload_n hx hb dX7_normal_160 rfl (lv_at hl 3 rfl) ?_
              refine lv_dup2_11 hx hb dX7_normal_161 rfl rfl ?_
              obtain ⟨g28, hm⟩ := gdi_of hm
              refine va_iald hx hb hK hP 3 0 rfl rfl g28 dX7_normal_162 ?_
              refine lv_iconst (v := (1 : Int32)) hx hb dX7_normal_163 (by decide) ?_
              refine lv_iadd hx hb dX7_normal_164 ?_
              obtain ⟨g29, hm⟩ := gdi_of hm
              refine va_iast hx hb hK hP hD hS 3 0 rfl rfl g29 dX7_normal_165 (fun H locs hP hD hS => ?_)
              obtain ⟨u30, eu30, hm⟩ := bnd_ex hm
              have hP : va_P (dC, dI) vwCl (wM cI cJ aM hM u30) H := by rw [eu30]; exact hP
              have hD : va_D A (wM cI cJ aM hM u30) := by rw [eu30]; exact hD
              obtain ⟨x31, ex31, hm⟩ := bnd_ex hm
              refine lv_iinc (v := x31) (lv' := [(2, .int x31), (0, .ref aM), (1, .int r3), (3, .int x24), (4, .long y25), (6, .int x26)]) hx hb dX7_normal_166 hl (k := 2) rfl (by rw [ex31]; exact congrArg _ (by decide)) (by decide) rfl (fun ls hl => ?_)
              refine lv_goto (tgt := 65) hx hb dX7_normal_169 (by decide) ?_
              exact ih65 x31 u30 _ _ _ hm hP hD hS (lv_sub hl [1, 2, 0] rfl)
            have LP78 : ∀ (n78 : Nat) (x21 : Int32) (y22 : Int64) (x23 : Int32) (H : Heap) (locs : List Loc) (ls : Array Slot), f_X7_normal_L78 u13 n78 K156_27 x21 y22 x23 = some o → va_P (dC, dI) vwCl (wM cI cJ aM hM u13) H → va_D A (wM cI cJ aM hM u13) → va_S A s.heap H locs → lv_has ls 9 [(0, .ref aM), (1, .int r3), (2, .int x12), (3, .int x23), (4, .long y22), (6, .int x21)] → W p l e ({ frames := 1, cells := 0, slots := 0, locals := 27 } : Room) s m ([.ref aM] : List Value).toArray below meth c H locs 0 0 Q (F0 m 78 ls []) := by
              intro n78
              induction n78 with
              | zero => intro x21 y22 x23 H locs ls hm; exact nomatch (show (none : Option _) = some _ from hm)
              | succ n78 ih78 =>
                intro x21 y22 x23 H locs ls hm hP hD hS hl
                unfold f_X7_normal_L78 at hm
                refine lv_iload hx hb dX7_normal_78 (lv_at hl 5 rfl) ?_
                refine lv_bipush (v := (32 : Int32)) hx hb dX7_normal_80 (by decide) ?_
                refine lv_icmp_ge (tgt := 156) hx hb dX7_normal_82 (by decide) (fun c32 => ?_) (fun c32 => ?_)
                · have hm := ite_t c32 hm
                  exact X156_27 x23 y22 x21 _ _ _ hm hP hD hS (lv_sub hl [0, 1, 2, 3, 4, 5] rfl)
                · have hm := ite_f c32 hm
                  refine lv_aload_n hx hb dX7_normal_85 rfl (lv_at hl 0 rfl) ?_
                  refine va_get (D := (dC, dI)) (ci := 8) (v := .ref (hM 8)) (C := RX7) (T := TX7) (N := 34) hx hb ht inX7 hown hK hP 0 rfl rfl 8 (by decide) (ht _ kw_18) (fun _ h9 => h9) rfl dX7_normal_86 ?_
                  refine lv_iload hx hb dX7_normal_89 (lv_at hl 5 rfl) ?_
                  obtain ⟨g33, hm⟩ := gdi_of hm
                  refine va_iald hx hb hK hP 3 0 rfl rfl g33 dX7_normal_91 ?_
                  refine lv_if_le (tgt := 150) hx hb dX7_normal_92 (by decide) (fun c34 => ?_) (fun c34 => ?_)
                  · have hm := ite_t c34 hm
                    obtain ⟨x35, ex35, hm⟩ := bnd_ex hm
                    refine lv_iinc (v := x35) (lv' := [(6, .int x35), (0, .ref aM), (1, .int r3), (2, .int x12), (3, .int x23), (4, .long y22)]) hx hb dX7_normal_150 hl (k := 5) rfl (by rw [ex35]; exact congrArg _ (by decide)) (by decide) rfl (fun ls hl => ?_)
                    refine lv_goto (tgt := 78) hx hb dX7_normal_153 (by decide) ?_
                    exact ih78 x35 y22 x23 _ _ _ hm hP hD hS (lv_sub hl [1, 2, 3, 4, 5, 0] rfl)
                  · have hm := ite_f c34 hm
                    refine lv_aload_n hx hb dX7_normal_95 rfl (lv_at hl 0 rfl) ?_
                    refine va_get (D := (dC, dI)) (ci := 8) (v := .ref (hM 6)) (C := RX7) (T := TX7) (N := 34) hx hb ht inX7 hown hK hP 0 rfl rfl 6 (by decide) (ht _ kw_4) (fun _ h9 => h9) rfl dX7_normal_96 ?_
                    refine lv_iload hx hb dX7_normal_99 (lv_at hl 5 rfl) ?_
                    obtain ⟨g36, hm⟩ := gdi_of hm
                    refine va_iald hx hb hK hP 2 0 rfl rfl g36 dX7_normal_101 ?_
                    refine lv_i2l hx hb dX7_normal_102 rfl ?_
                    refine lv_aload_n hx hb dX7_normal_103 rfl (lv_at hl 0 rfl) ?_
                    refine va_get (D := (dC, dI)) (ci := 8) (v := .ref (hM 8)) (C := RX7) (T := TX7) (N := 34) hx hb ht inX7 hown hK hP 0 rfl rfl 8 (by decide) (ht _ kw_18) (fun _ h9 => h9) rfl dX7_normal_104 ?_
                    refine lv_iload hx hb dX7_normal_107 (lv_at hl 5 rfl) ?_
                    obtain ⟨g37, hm⟩ := gdi_of hm
                    refine va_iald hx hb hK hP 3 0 rfl rfl g37 dX7_normal_109 ?_
                    refine lv_iconst (v := (1 : Int32)) hx hb dX7_normal_110 (by decide) ?_
                    refine lv_iadd hx hb dX7_normal_111 ?_
                    have hPc : va_P (dC, dI) vwCl ([] : va_W) _ := hP.sub [] rfl
                    have hDc : va_D A ([] : va_W) := hD.sub [] (by decide) rfl
                    have hFc := va_free (wc := ([] : va_W)) hD hS hA [] rfl
                    obtain ⟨r38o, e39, hm⟩ := oC1_of hm
                    refine va_calll (va_runS (As := [.int ((u13.2.1 8 (x21).toNatClampNeg) + (1 : Int32))]) (rest := [.long ((u13.2.1 6 (x21).toNatClampNeg)).toInt64]) ⟨hx, hb, hml, hown, ht⟩ (c_X7_logarithm l dC dI cI cJ H.size ((u13.2.1 8 (x21).toNatClampNeg) + (1 : Int32)) r38o e39) (va_cwS 1 ht (gdS kw_17 kw_16 kw_7 kw_15) rfl rfl rfl nd_X7_logarithm ⟨Nat.le_of_ble_eq_true rfl, Nat.le_of_ble_eq_true rfl⟩) ⟨pcW_blind, pcW_pre hPc hK hDc hN⟩ rfl rfl hl.1 rfl (lv_room (Nat.le_of_ble_eq_true rfl)) dX7_normal_112 ⟨Nat.zero_le _, Nat.zero_le _⟩) hS (fun q _ z => hFc q z) hFc (fun r38 uu t H1 locs ht1 hvm hw hB hz1 hk1 hS => ?_)
                    obtain ⟨⟩ := uu
                    obtain ⟨hP1, hD1⟩ := hB
                    rw [ht1] at hP1
                    obtain rfl : r38 = r38o := Option.some.inj hw
                    obtain ⟨hP, hD⟩ := va_join (wr := (wM cI cJ aM hM u13)) (w1 := []) hP hD [] [0, 1, 2, 3, 4, 5, 6, 7, 8, 9, 10, 11, 12, 13, 14] rfl rfl (by decide) (by decide) hk1 hFc hP1 hD1
                    have hP : va_P (dC, dI) vwCl (wM cI cJ aM hM u13) H1 := hP
                    have hD : va_D A (wM cI cJ aM hM u13) := hD
                    generalize H1 = H at hP hS ⊢
                    refine lv_aload_n hx hb dX7_normal_115 rfl (lv_at hl 0 rfl) ?_
                    refine va_get (D := (dC, dI)) (ci := 8) (v := .ref (hM 8)) (C := RX7) (T := TX7) (N := 34) hx hb ht inX7 hown hK hP 0 rfl rfl 8 (by decide) (ht _ kw_18) (fun _ h9 => h9) rfl dX7_normal_116 ?_
                    refine lv_iload hx hb dX7_normal_119 (lv_at hl 5 rfl) ?_
                    obtain ⟨g40, hm⟩ := gdi_of hm
                    refine va_iald hx hb hK hP 3 0 rfl rfl g40 dX7_normal_121 ?_
                    have hPc : va_P (dC, dI) vwCl ([] : va_W) _ := hP.sub [] rfl
                    have hDc : va_D A ([] : va_W) := hD.sub [] (by decide) rfl
                    have hFc := va_free (wc := ([] : va_W)) hD hS hA [] rfl
                    obtain ⟨r41o, e42, hm⟩ := oC1_of hm
                    refine va_calll (va_runS (As := [.int (u13.2.1 8 (x21).toNatClampNeg)]) (rest := [.long r38, .long ((u13.2.1 6 (x21).toNatClampNeg)).toInt64]) ⟨hx, hb, hml, hown, ht⟩ (c_X7_logarithm l dC dI cI cJ H.size (u13.2.1 8 (x21).toNatClampNeg) r41o e42) (va_cwS 1 ht (gdS kw_17 kw_16 kw_7 kw_15) rfl rfl rfl nd_X7_logarithm ⟨Nat.le_of_ble_eq_true rfl, Nat.le_of_ble_eq_true rfl⟩) ⟨pcW_blind, pcW_pre hPc hK hDc hN⟩ rfl rfl hl.1 rfl (lv_room (Nat.le_of_ble_eq_true rfl)) dX7_normal_122 ⟨Nat.zero_le _, Nat.zero_le _⟩) hS (fun q _ z => hFc q z) hFc (fun r41 uu t H1 locs ht1 hvm hw hB hz1 hk1 hS => ?_)
                    obtain ⟨⟩ := uu
                    obtain ⟨hP1, hD1⟩ := hB
                    rw [ht1] at hP1
                    obtain rfl : r41 = r41o := Option.some.inj hw
                    obtain ⟨hP, hD⟩ := va_join (wr := (wM cI cJ aM hM u13)) (w1 := []) hP hD [] [0, 1, 2, 3, 4, 5, 6, 7, 8, 9, 10, 11, 12, 13, 14] rfl rfl (by decide) (by decide) hk1 hFc hP1 hD1
                    have hP : va_P (dC, dI) vwCl (wM cI cJ aM hM u13) H1 := hP
                    have hD : va_D A (wM cI cJ aM hM u13) := hD
                    generalize H1 = H at hP hS ⊢
                    refine lv_lsub hx hb dX7_normal_125 ?_
                    refine lv_lmul hx hb dX7_normal_126 ?_
                    refine lv_topl (fun y43 ey43 => ?_)
                    have hm := bnd_nm ey43 hm
                    refine lv_lstore (lv' := [(7, .long y43), (0, .ref aM), (1, .int r3), (2, .int x12), (3, .int x23), (4, .long y22), (6, .int x21)]) hx hb dX7_normal_127 hl (by decide) rfl (fun ls hl => ?_)
                    refine lv_iload_n hx hb dX7_normal_129 rfl (lv_at hl 4 rfl) ?_
                    refine lv_bipush (v := (-2 : Int32)) hx hb dX7_normal_130 (by decide) ?_
                    refine lv_icmp_eq (tgt := 143) hx hb dX7_normal_132 (by decide) (fun c44 => ?_) (fun c44 => ?_)
                    · have hm := ite_t c44 hm
                      refine lv_iload hx hb dX7_normal_143 (lv_at hl 6 rfl) ?_
                      refine lv_istore_n (lv' := [(3, .int x21), (7, .long y43), (0, .ref aM), (1, .int r3), (2, .int x12), (4, .long y22), (6, .int x21)]) hx hb dX7_normal_145 rfl hl (by decide) rfl (fun ls hl => ?_)
                      refine lv_lload hx hb dX7_normal_146 (lv_at hl 1 rfl) ?_
                      refine lv_lstore (lv' := [(4, .long y43), (3, .int x21), (7, .long y43), (0, .ref aM), (1, .int r3), (2, .int x12), (6, .int x21)]) hx hb dX7_normal_148 hl (by decide) rfl (fun ls hl => ?_)
                      obtain ⟨x45, ex45, hm⟩ := bnd_ex hm
                      refine lv_iinc (v := x45) (lv' := [(6, .int x45), (4, .long y43), (3, .int x21), (7, .long y43), (0, .ref aM), (1, .int r3), (2, .int x12)]) hx hb dX7_normal_150 hl (k := 6) rfl (by rw [ex45]; exact congrArg _ (by decide)) (by decide) rfl (fun ls hl => ?_)
                      refine lv_goto (tgt := 78) hx hb dX7_normal_153 (by decide) ?_
                      exact ih78 x45 y43 x21 _ _ _ hm hP hD hS (lv_sub hl [4, 5, 6, 2, 1, 0] rfl)
                    · have hm := ite_f c44 hm
                      refine lv_lload hx hb dX7_normal_135 (lv_at hl 0 rfl) ?_
                      refine lv_lload hx hb dX7_normal_137 (lv_at hl 5 rfl) ?_
                      refine W.lcmp hx hb dX7_normal_139 ?_
                      refine lv_if_le (tgt := 150) hx hb dX7_normal_140 (by decide) (fun c46 => ?_) (fun c46 => ?_)
                      · have c46 := lgc_le.mp c46
                        have hm := ite_t c46 hm
                        obtain ⟨x47, ex47, hm⟩ := bnd_ex hm
                        refine lv_iinc (v := x47) (lv' := [(6, .int x47), (7, .long y43), (0, .ref aM), (1, .int r3), (2, .int x12), (3, .int x23), (4, .long y22)]) hx hb dX7_normal_150 hl (k := 6) rfl (by rw [ex47]; exact congrArg _ (by decide)) (by decide) rfl (fun ls hl => ?_)
                        refine lv_goto (tgt := 78) hx hb dX7_normal_153 (by decide) ?_
                        exact ih78 x47 y22 x23 _ _ _ hm hP hD hS (lv_sub hl [2, 3, 4, 5, 6, 0] rfl)
                      · have c46 := mt lgc_le.mpr c46
                        have hm := ite_f c46 hm
                        refine lv_iload hx hb dX7_normal_143 (lv_at hl 6 rfl) ?_
                        refine lv_istore_n (lv' := [(3, .int x21), (7, .long y43), (0, .ref aM), (1, .int r3), (2, .int x12), (4, .long y22), (6, .int x21)]) hx hb dX7_normal_145 rfl hl (by decide) rfl (fun ls hl => ?_)
                        refine lv_lload hx hb dX7_normal_146 (lv_at hl 1 rfl) ?_
                        refine lv_lstore (lv' := [(4, .long y43), (3, .int x21), (7, .long y43), (0, .ref aM), (1, .int r3), (2, .int x12), (6, .int x21)]) hx hb dX7_normal_148 hl (by decide) rfl (fun ls hl => ?_)
                        obtain ⟨x48, ex48, hm⟩ := bnd_ex hm
                        refine lv_iinc (v := x48) (lv' := [(6, .int x48), (4, .long y43), (3, .int x21), (7, .long y43), (0, .ref aM), (1, .int r3), (2, .int x12)]) hx hb dX7_normal_150 hl (k := 6) rfl (by rw [ex48]; exact congrArg _ (by decide)) (by decide) rfl (fun ls hl => ?_)
                        refine lv_goto (tgt := 78) hx hb dX7_normal_153 (by decide) ?_
                        exact ih78 x48 y43 x21 _ _ _ hm hP hD hS (lv_sub hl [4, 5, 6, 2, 1, 0] rfl)
            exact LP78 FU (0 : Int32) (0 : Int64) (-2 : Int32) _ _ _ hm hP hD hS (lv_sub hl [3, 4, 5, 2, 1, 0] rfl)
      exact LP65 FU x11 u9 _ _ _ hm hP hD hS (lv_sub hl [1, 2, 0] rfl)
    have LP24 : ∀ (n24 : Nat) (x6 : Int32) (u7 : OS) (H : Heap) (locs : List Loc) (ls : Array Slot), f_X7_normal_L24 n24 K56_10 x6 u7 = some o → va_P (dC, dI) vwCl (wM cI cJ aM hM u7) H → va_D A (wM cI cJ aM hM u7) → va_S A s.heap H locs → lv_has ls 9 [(0, .ref aM), (1, .int r3), (2, .int x6)] → W p l e ({ frames := 1, cells := 0, slots := 0, locals := 27 } : Room) s m ([.ref aM] : List Value).toArray below meth c H locs 0 0 Q (F0 m 24 ls []) := by
      intro n24
      induction n24 with
      | zero => intro x6 u7 H locs ls hm; exact nomatch (show (none : Option _) = some _ from hm)
      | succ n24 ih24 =>
        intro x6 u7 H locs ls hm hP hD hS hl
        unfold f_X7_normal_L24 at hm
        refine lv_iload_n hx hb dX7_normal_24 rfl (lv_at hl 2 rfl) ?_
        refine lv_bipush (v := (32 : Int32)) hx hb dX7_normal_25 (by decide) ?_
        refine lv_icmp_ge (tgt := 56) hx hb dX7_normal_27 (by decide) (fun c49 => ?_) (fun c49 => ?_)
        · have hm := ite_t c49 hm
          exact X56_10 x6 u7 _ _ _ hm hP hD hS (lv_sub hl [0, 1, 2] rfl)
        · have hm := ite_f c49 hm
          refine lv_aload_n hx hb dX7_normal_30 rfl (lv_at hl 0 rfl) ?_
          refine va_get (D := (dC, dI)) (ci := 8) (v := .ref (hM 8)) (C := RX7) (T := TX7) (N := 34) hx hb ht inX7 hown hK hP 0 rfl rfl 8 (by decide) (ht _ kw_18) (fun _ h9 => h9) rfl dX7_normal_31 ?_
          refine lv_iload_n hx hb dX7_normal_34 rfl (lv_at hl 2 rfl) ?_
          refine lv_aload_n hx hb dX7_normal_35 rfl (lv_at hl 0 rfl) ?_
          refine va_get (D := (dC, dI)) (ci := 8) (v := .ref (hM 6)) (C := RX7) (T := TX7) (N := 34) hx hb ht inX7 hown hK hP 0 rfl rfl 6 (by decide) (ht _ kw_4) (fun _ h9 => h9) rfl dX7_normal_36 ?_
          refine lv_iload_n hx hb dX7_normal_39 rfl (lv_at hl 2 rfl) ?_
          obtain ⟨g50, hm⟩ := gdi_of hm
          refine va_iald hx hb hK hP 2 0 rfl rfl g50 dX7_normal_40 ?_
          refine lv_if_le (tgt := 48) hx hb dX7_normal_41 (by decide) (fun c51 => ?_) (fun c51 => ?_)
          · have hm := ite_t c51 hm
            refine lv_iconst (v := (0 : Int32)) hx hb dX7_normal_48 (by decide) ?_
            obtain ⟨g52, hm⟩ := gdi_of hm
            refine va_iast hx hb hK hP hD hS 3 0 rfl rfl g52 dX7_normal_49 (fun H locs hP hD hS => ?_)
            obtain ⟨u53, eu53, hm⟩ := bnd_ex hm
            have hP : va_P (dC, dI) vwCl (wM cI cJ aM hM u53) H := by rw [eu53]; exact hP
            have hD : va_D A (wM cI cJ aM hM u53) := by rw [eu53]; exact hD
            obtain ⟨x54, ex54, hm⟩ := bnd_ex hm
            refine lv_iinc (v := x54) (lv' := [(2, .int x54), (0, .ref aM), (1, .int r3)]) hx hb dX7_normal_50 hl (k := 2) rfl (by rw [ex54]; exact congrArg _ (by decide)) (by decide) rfl (fun ls hl => ?_)
            refine lv_goto (tgt := 24) hx hb dX7_normal_53 (by decide) ?_
            exact ih24 x54 u53 _ _ _ hm hP hD hS (lv_sub hl [1, 2, 0] rfl)
          · have hm := ite_f c51 hm
            refine lv_iconst (v := (1 : Int32)) hx hb dX7_normal_44 (by decide) ?_
            refine lv_goto (tgt := 49) hx hb dX7_normal_45 (by decide) ?_
            obtain ⟨g55, hm⟩ := gdi_of hm
            refine va_iast hx hb hK hP hD hS 3 0 rfl rfl g55 dX7_normal_49 (fun H locs hP hD hS => ?_)
            obtain ⟨u56, eu56, hm⟩ := bnd_ex hm
            have hP : va_P (dC, dI) vwCl (wM cI cJ aM hM u56) H := by rw [eu56]; exact hP
            have hD : va_D A (wM cI cJ aM hM u56) := by rw [eu56]; exact hD
            obtain ⟨x57, ex57, hm⟩ := bnd_ex hm
            refine lv_iinc (v := x57) (lv' := [(2, .int x57), (0, .ref aM), (1, .int r3)]) hx hb dX7_normal_50 hl (k := 2) rfl (by rw [ex57]; exact congrArg _ (by decide)) (by decide) rfl (fun ls hl => ?_)
            refine lv_goto (tgt := 24) hx hb dX7_normal_53 (by decide) ?_
            exact ih24 x57 u56 _ _ _ hm hP hD hS (lv_sub hl [1, 2, 0] rfl)
    exact LP24 FU (0 : Int32) u2 _ _ _ hm hP hD hS (lv_sub hl [2, 1, 0] rfl)
  · have hm := ite_t c5 hm
    refine lv_bipush (v := (-2 : Int32)) hx hb dX7_normal_19 (by decide) ?_
    rw [← hQ]
    exact W.iret (v := (-2 : Int32)) hx hb hr (fun t ht1 hW => ⟨⟨_, u2, rfl, hm, by rw [ht1]; exact hP, hD⟩, hS.F ht1⟩) hS.2.2 dX7_normal_21

def f_X7_share (uM : OS) (p1 : Int32) : Option (OS × Int32) :=
  bnd (sF uM 1 (0 : Int32)) fun u1 =>
  if p1 < (0 : Int32) then (
  some (u1, (-1 : Int32))) else (
  if p1 < (32 : Int32) then (
  if (u1.1 7) = (0 : Int32) then (
  some (u1, (0 : Int32))) else (
  gdi p1 64 <|
  some (u1, (u1.2.1 8 (p1).toNatClampNeg)))) else (
  some (u1, (-1 : Int32))))

set_option maxHeartbeats 4000000 in
set_option maxRecDepth 100000 in
theorem c_X7_share (l : Launch) (dC : Nat → ClassId) (dI : Nat → Nat → Nat) (cI cJ : ClassId) (aM : Nat) (hM : Nat → Nat) (sz : Nat) (uM : OS) (p1 : Int32) (o : OS × Int32) (hm : f_X7_share uM p1 = some o) : Met l yX7_share (wq yX7_share cX7_share 2 (some .int)) ({ frames := 0, cells := 0, slots := 0, locals := 0 } : Room) (va_Pc [.ref aM, .int p1] (pcW dC dI cI cJ sz (wM cI cJ aM hM uM))) (va_Qi (S := OS) (fun r u => some (u, r) = some o) (fun (u : OS) t => va_P (dC, dI) vwCl (wM cI cJ aM hM u) t.heap ∧ va_D (va_A (wM cI cJ aM hM uM) sz) (wM cI cJ aM hM u)) (va_A (wM cI cJ aM hM uM) sz)) 0 0 (va_A (wM cI cJ aM hM uM) sz) := by
  refine Met.ofW (cc := cX7_share) (maxL := 2) (ret := (some .int)) (by decide) rfl ?_
  intro p e s m args below meth c s₁ B hml hv
  obtain ⟨rfl, hsz, hP, hK, hD0, hN⟩ := hv
  have hx := B.exec
  have hb := B.bytes
  have hr := B.returns
  have ht : ∀ w ∈ lw_good, w.before _ s = true := fun w h => atoms_spec (ws := wq yX7_share cX7_share 2 (some .int)) B.pre w (wq_mem h)
  have hown : s.vm.findClass RX7 = some m.cls := findClass_of_methodNamed B.named
  have hlocks := B.notSynchronized
  subst hsz
  have hD := hD0.self (sz := s.heap.size)
  generalize hAe : va_A (wM cI cJ aM hM uM) s.heap.size = A at hD ⊢
  have hA : ∀ q : Nat, s.heap.size ≤ q → A q := fun q h => by rw [← hAe]; exact Or.inr h
  have hS : va_S A s.heap s.heap [] := va_S.rf
  have hl := lv_entry ([.ref aM, .int p1]) (n := 2) (Nat.le_of_ble_eq_true rfl)
  rw [lg_entry_eq]
  generalize (lg_sl ([.ref aM, .int p1]) ++ List.replicate (2 - (lg_sl ([.ref aM, .int p1])).length) Slot.unset).toArray = ls at hl ⊢
  have hl : lv_has ls 2 [(0, .ref aM), (1, .int p1)] := hl
  generalize hQ : MQ below _ _ s _ _ _ = Q
  generalize hH : s.heap = H at hP ⊢
  have hS : va_S A s.heap H [] := by rw [← hH]; exact va_S.rf
  show W p l e ({ frames := 0, cells := 0, slots := 0, locals := 0 } : Room) s m ([.ref aM, .int p1] : List Value).toArray below meth c H [] 0 0 Q (F0 m 0 ls [])
  unfold f_X7_share at hm
  refine lv_aload_n hx hb dX7_share_0 rfl (lv_at hl 0 rfl) ?_
  refine lv_iconst (v := (0 : Int32)) hx hb dX7_share_1 (by decide) ?_
  refine va_put (D := (dC, dI)) (ci := 8) (v := .int (0 : Int32)) (ty := .int) (C := RX7) (T := TX7) (N := 34) hx hb ht inX7 tyX7 tyX7_ok nmX7 hown hK hP hD hS 0 rfl rfl 1 (by decide) (ht _ kw_0) (fun _ h9 => h9) rfl (by decide +kernel) rfl rfl (Nat.le_of_ble_eq_true rfl) dX7_share_2 (fun H locs hP hD hS => ?_)
  obtain ⟨u1, eu1, hm⟩ := bnd_ex hm
  have hP : va_P (dC, dI) vwCl (wM cI cJ aM hM u1) H := by rw [eu1]; exact hP
  have hD : va_D A (wM cI cJ aM hM u1) := by rw [eu1]; exact hD
  refine lv_iload_n hx hb dX7_share_5 rfl (lv_at hl 1 rfl) ?_
  refine lv_if_lt (tgt := 15) hx hb dX7_share_6 (by decide) (fun c2 => ?_) (fun c2 => ?_)
  · have hm := ite_t c2 hm
    refine lv_iconst (v := (-1 : Int32)) hx hb dX7_share_15 (by decide) ?_
    refine lv_goto (tgt := 36) hx hb dX7_share_16 (by decide) ?_
    rw [← hQ]
    exact W.iret (v := (-1 : Int32)) hx hb hr (fun t ht1 hW => ⟨⟨_, u1, rfl, hm, by rw [ht1]; exact hP, hD⟩, hS.F ht1⟩) hS.2.2 dX7_share_36
  · have hm := ite_f c2 hm
    refine lv_iload_n hx hb dX7_share_9 rfl (lv_at hl 1 rfl) ?_
    refine lv_bipush (v := (32 : Int32)) hx hb dX7_share_10 (by decide) ?_
    refine lv_icmp_lt (tgt := 19) hx hb dX7_share_12 (by decide) (fun c3 => ?_) (fun c3 => ?_)
    · have hm := ite_t c3 hm
      refine lv_aload_n hx hb dX7_share_19 rfl (lv_at hl 0 rfl) ?_
      refine va_get (D := (dC, dI)) (ci := 8) (v := .int (u1.1 7)) (C := RX7) (T := TX7) (N := 34) hx hb ht inX7 hown hK hP 0 rfl rfl 7 (by decide) (ht _ kw_5) (fun _ h9 => h9) rfl dX7_share_20 ?_
      refine lv_if_eq (tgt := 35) hx hb dX7_share_23 (by decide) (fun c4 => ?_) (fun c4 => ?_)
      · have hm := ite_t c4 hm
        refine lv_iconst (v := (0 : Int32)) hx hb dX7_share_35 (by decide) ?_
        rw [← hQ]
        exact W.iret (v := (0 : Int32)) hx hb hr (fun t ht1 hW => ⟨⟨_, u1, rfl, hm, by rw [ht1]; exact hP, hD⟩, hS.F ht1⟩) hS.2.2 dX7_share_36
      · have hm := ite_f c4 hm
        refine lv_aload_n hx hb dX7_share_26 rfl (lv_at hl 0 rfl) ?_
        refine va_get (D := (dC, dI)) (ci := 8) (v := .ref (hM 8)) (C := RX7) (T := TX7) (N := 34) hx hb ht inX7 hown hK hP 0 rfl rfl 8 (by decide) (ht _ kw_18) (fun _ h9 => h9) rfl dX7_share_27 ?_
        refine lv_iload_n hx hb dX7_share_30 rfl (lv_at hl 1 rfl) ?_
        obtain ⟨g5, hm⟩ := gdi_of hm
        refine va_iald hx hb hK hP 3 0 rfl rfl g5 dX7_share_31 ?_
        refine lv_goto (tgt := 36) hx hb dX7_share_32 (by decide) ?_
        rw [← hQ]
        exact W.iret (v := (u1.2.1 8 (p1).toNatClampNeg)) hx hb hr (fun t ht1 hW => ⟨⟨_, u1, rfl, hm, by rw [ht1]; exact hP, hD⟩, hS.F ht1⟩) hS.2.2 dX7_share_36
    · have hm := ite_f c3 hm
      refine lv_iconst (v := (-1 : Int32)) hx hb dX7_share_15 (by decide) ?_
      refine lv_goto (tgt := 36) hx hb dX7_share_16 (by decide) ?_
      rw [← hQ]
      exact W.iret (v := (-1 : Int32)) hx hb hr (fun t ht1 hW => ⟨⟨_, u1, rfl, hm, by rw [ht1]; exact hP, hD⟩, hS.F ht1⟩) hS.2.2 dX7_share_36

def f_X7_loss_L20 (u1 : OS) : Nat → (Int64 → Int32 → Option (OS × Int64)) → Int32 → Int64 → Option (OS × Int64)
  | 0, _, _, _ => none
  | n20 + 1, K74_7, x3, y4 =>
    if (32 : Int32) ≤ x3 then (
    K74_7 y4 x3) else (
    gdi x3 64 <|
    if (u1.2.1 8 (x3).toNatClampNeg) ≤ (0 : Int32) then (
    bnd (y4 + (0 : Int64)) fun y11 =>
    bnd (x3 + (1 : Int32)) fun x12 =>
    f_X7_loss_L20 u1 n20 K74_7 x12 y11) else (
    gdi x3 32 <|
    gdi x3 64 <|
    oC1 (f_X7_logarithm (u1.2.1 8 (x3).toNatClampNeg)) fun r15 =>
    bnd (y4 + (((u1.2.1 6 (x3).toNatClampNeg)).toInt64 * ((((u1.1 0)).toInt64 <<< (((30 : Int32)).toInt64 &&& (63 : Int64))) - r15))) fun y17 =>
    bnd (x3 + (1 : Int32)) fun x18 =>
    f_X7_loss_L20 u1 n20 K74_7 x18 y17))

def f_X7_loss (uM : OS) : Option (OS × Int64) :=
  bnd (sF uM 1 (0 : Int32)) fun u1 =>
  if (u1.1 7) = (0 : Int32) then (
  some (u1, (-1 : Int64))) else (
  bnd (fun (y5 : Int64) (x6 : Int32) =>
  some (u1, y5)) fun K74_7 =>
  f_X7_loss_L20 u1 FU K74_7 (0 : Int32) (0 : Int64))

set_option maxHeartbeats 4000000 in
set_option maxRecDepth 100000 in
theorem c_X7_loss (l : Launch) (dC : Nat → ClassId) (dI : Nat → Nat → Nat) (cI cJ : ClassId) (aM : Nat) (hM : Nat → Nat) (sz : Nat) (uM : OS) (o : OS × Int64) (hm : f_X7_loss uM = some o) : Met l yX7_loss (wq yX7_loss cX7_loss 4 (some .long)) ({ frames := 1, cells := 0, slots := 0, locals := 27 } : Room) (va_Pc [.ref aM] (pcW dC dI cI cJ sz (wM cI cJ aM hM uM))) (va_Ql (S := OS) (fun r u => some (u, r) = some o) (fun (u : OS) t => va_P (dC, dI) vwCl (wM cI cJ aM hM u) t.heap ∧ va_D (va_A (wM cI cJ aM hM uM) sz) (wM cI cJ aM hM u)) (va_A (wM cI cJ aM hM uM) sz)) 0 0 (va_A (wM cI cJ aM hM uM) sz) := by
  refine Met.ofW (cc := cX7_loss) (maxL := 4) (ret := (some .long)) (by decide) rfl ?_
  intro p e s m args below meth c s₁ B hml hv
  obtain ⟨rfl, hsz, hP, hK, hD0, hN⟩ := hv
  have hx := B.exec
  have hb := B.bytes
  have hr := B.returns
  have ht : ∀ w ∈ lw_good, w.before _ s = true := fun w h => atoms_spec (ws := wq yX7_loss cX7_loss 4 (some .long)) B.pre w (wq_mem h)
  have hown : s.vm.findClass RX7 = some m.cls := findClass_of_methodNamed B.named
  have hlocks := B.notSynchronized
  subst hsz
  have hD := hD0.self (sz := s.heap.size)
  generalize hAe : va_A (wM cI cJ aM hM uM) s.heap.size = A at hD ⊢
  have hA : ∀ q : Nat, s.heap.size ≤ q → A q := fun q h => by rw [← hAe]; exact Or.inr h
  have hS : va_S A s.heap s.heap [] := va_S.rf
  have hl := lv_entry ([.ref aM]) (n := 4) (Nat.le_of_ble_eq_true rfl)
  rw [lg_entry_eq]
  generalize (lg_sl ([.ref aM]) ++ List.replicate (4 - (lg_sl ([.ref aM])).length) Slot.unset).toArray = ls at hl ⊢
  have hl : lv_has ls 4 [(0, .ref aM)] := hl
  generalize hQ : MQ below _ _ s _ _ _ = Q
  generalize hH : s.heap = H at hP ⊢
  have hS : va_S A s.heap H [] := by rw [← hH]; exact va_S.rf
  show W p l e ({ frames := 1, cells := 0, slots := 0, locals := 27 } : Room) s m ([.ref aM] : List Value).toArray below meth c H [] 0 0 Q (F0 m 0 ls [])
  unfold f_X7_loss at hm
  refine lv_aload_n hx hb dX7_loss_0 rfl (lv_at hl 0 rfl) ?_
  refine lv_iconst (v := (0 : Int32)) hx hb dX7_loss_1 (by decide) ?_
  refine va_put (D := (dC, dI)) (ci := 8) (v := .int (0 : Int32)) (ty := .int) (C := RX7) (T := TX7) (N := 34) hx hb ht inX7 tyX7 tyX7_ok nmX7 hown hK hP hD hS 0 rfl rfl 1 (by decide) (ht _ kw_0) (fun _ h9 => h9) rfl (by decide +kernel) rfl rfl (Nat.le_of_ble_eq_true rfl) dX7_loss_2 (fun H locs hP hD hS => ?_)
  obtain ⟨u1, eu1, hm⟩ := bnd_ex hm
  have hP : va_P (dC, dI) vwCl (wM cI cJ aM hM u1) H := by rw [eu1]; exact hP
  have hD : va_D A (wM cI cJ aM hM u1) := by rw [eu1]; exact hD
  refine lv_aload_n hx hb dX7_loss_5 rfl (lv_at hl 0 rfl) ?_
  refine va_get (D := (dC, dI)) (ci := 8) (v := .int (u1.1 7)) (C := RX7) (T := TX7) (N := 34) hx hb ht inX7 hown hK hP 0 rfl rfl 7 (by decide) (ht _ kw_5) (fun _ h9 => h9) rfl dX7_loss_6 ?_
  refine lv_if_ne (tgt := 16) hx hb dX7_loss_9 (by decide) (fun c2 => ?_) (fun c2 => ?_)
  · have hm := ite_f c2 hm
    refine lv_lconst (v := (0 : Int64)) hx hb dX7_loss_16 (by decide) ?_
    refine lv_lstore_n (lv' := [(1, .long (0 : Int64)), (0, .ref aM)]) hx hb dX7_loss_17 rfl hl (by decide) rfl (fun ls hl => ?_)
    refine lv_iconst (v := (0 : Int32)) hx hb dX7_loss_18 (by decide) ?_
    refine lv_istore_n (lv' := [(3, .int (0 : Int32)), (1, .long (0 : Int64)), (0, .ref aM)]) hx hb dX7_loss_19 rfl hl (by decide) rfl (fun ls hl => ?_)
    obtain ⟨K74_7, eK74_7, hm⟩ := bnd_ex hm
    have X74_7 : ∀ (y5 : Int64) (x6 : Int32) (H : Heap) (locs : List Loc) (ls : Array Slot), K74_7 y5 x6 = some o → va_P (dC, dI) vwCl (wM cI cJ aM hM u1) H → va_D A (wM cI cJ aM hM u1) → va_S A s.heap H locs → lv_has ls 4 [(0, .ref aM), (1, .long y5), (3, .int x6)] → W p l e ({ frames := 1, cells := 0, slots := 0, locals := 27 } : Room) s m ([.ref aM] : List Value).toArray below meth c H locs 0 0 Q (F0 m 74 ls []) := by
      intro y5 x6 H locs ls hm hP hD hS hl
      have hm := ap2 eK74_7 hm
      refine lv_lload_n hx hb dX7_loss_74 rfl (lv_at hl 1 rfl) ?_
      rw [← hQ]
      exact W.lret (v := y5) hx hb hr (fun t ht1 hW => ⟨⟨_, u1, rfl, hm, by rw [ht1]; exact hP, hD⟩, hS.F ht1⟩) hS.2.2 dX7_loss_75
    have LP20 : ∀ (n20 : Nat) (x3 : Int32) (y4 : Int64) (H : Heap) (locs : List Loc) (ls : Array Slot), f_X7_loss_L20 u1 n20 K74_7 x3 y4 = some o → va_P (dC, dI) vwCl (wM cI cJ aM hM u1) H → va_D A (wM cI cJ aM hM u1) → va_S A s.heap H locs → lv_has ls 4 [(0, .ref aM), (1, .long y4), (3, .int x3)] → W p l e ({ frames := 1, cells := 0, slots := 0, locals := 27 } : Room) s m ([.ref aM] : List Value).toArray below meth c H locs 0 0 Q (F0 m 20 ls []) := by
      intro n20
      induction n20 with
      | zero => intro x3 y4 H locs ls hm; exact nomatch (show (none : Option _) = some _ from hm)
      | succ n20 ih20 =>
        intro x3 y4 H locs ls hm hP hD hS hl
        unfold f_X7_loss_L20 at hm
        refine lv_iload_n hx hb dX7_loss_20 rfl (lv_at hl 2 rfl) ?_
        refine lv_bipush (v := (32 : Int32)) hx hb dX7_loss_21 (by decide) ?_
        refine lv_icmp_ge (tgt := 74) hx hb dX7_loss_23 (by decide) (fun c8 => ?_) (fun c8 => ?_)
        · have hm := ite_t c8 hm
          exact X74_7 y4 x3 _ _ _ hm hP hD hS (lv_sub hl [0, 1, 2] rfl)
        · have hm := ite_f c8 hm
          refine lv_lload_n hx hb dX7_loss_26 rfl (lv_at hl 1 rfl) ?_
          refine lv_aload_n hx hb dX7_loss_27 rfl (lv_at hl 0 rfl) ?_
          refine va_get (D := (dC, dI)) (ci := 8) (v := .ref (hM 8)) (C := RX7) (T := TX7) (N := 34) hx hb ht inX7 hown hK hP 0 rfl rfl 8 (by decide) (ht _ kw_18) (fun _ h9 => h9) rfl dX7_loss_28 ?_
          refine lv_iload_n hx hb dX7_loss_31 rfl (lv_at hl 2 rfl) ?_
          obtain ⟨g9, hm⟩ := gdi_of hm
          refine va_iald hx hb hK hP 3 0 rfl rfl g9 dX7_loss_32 ?_
          refine lv_if_le (tgt := 65) hx hb dX7_loss_33 (by decide) (fun c10 => ?_) (fun c10 => ?_)
          · have hm := ite_t c10 hm
            refine lv_lconst (v := (0 : Int64)) hx hb dX7_loss_65 (by decide) ?_
            refine lv_ladd hx hb dX7_loss_66 ?_
            refine lv_topl (fun y11 ey11 => ?_)
            have hm := bnd_nm ey11 hm
            refine lv_lstore_n (lv' := [(1, .long y11), (0, .ref aM), (3, .int x3)]) hx hb dX7_loss_67 rfl hl (by decide) rfl (fun ls hl => ?_)
            obtain ⟨x12, ex12, hm⟩ := bnd_ex hm
            refine lv_iinc (v := x12) (lv' := [(3, .int x12), (1, .long y11), (0, .ref aM)]) hx hb dX7_loss_68 hl (k := 2) rfl (by rw [ex12]; exact congrArg _ (by decide)) (by decide) rfl (fun ls hl => ?_)
            refine lv_goto (tgt := 20) hx hb dX7_loss_71 (by decide) ?_
            exact ih20 x12 y11 _ _ _ hm hP hD hS (lv_sub hl [2, 1, 0] rfl)
          · have hm := ite_f c10 hm
            refine lv_aload_n hx hb dX7_loss_36 rfl (lv_at hl 0 rfl) ?_
            refine va_get (D := (dC, dI)) (ci := 8) (v := .ref (hM 6)) (C := RX7) (T := TX7) (N := 34) hx hb ht inX7 hown hK hP 0 rfl rfl 6 (by decide) (ht _ kw_4) (fun _ h9 => h9) rfl dX7_loss_37 ?_
            refine lv_iload_n hx hb dX7_loss_40 rfl (lv_at hl 2 rfl) ?_
            obtain ⟨g13, hm⟩ := gdi_of hm
            refine va_iald hx hb hK hP 2 0 rfl rfl g13 dX7_loss_41 ?_
            refine lv_i2l hx hb dX7_loss_42 rfl ?_
            refine lv_aload_n hx hb dX7_loss_43 rfl (lv_at hl 0 rfl) ?_
            refine va_get (D := (dC, dI)) (ci := 8) (v := .int (u1.1 0)) (C := RX7) (T := TX7) (N := 34) hx hb ht inX7 hown hK hP 0 rfl rfl 0 (by decide) (ht _ kw_14) (fun _ h9 => h9) rfl dX7_loss_44 ?_
            refine lv_i2l hx hb dX7_loss_47 rfl ?_
            refine lv_bipush (v := (30 : Int32)) hx hb dX7_loss_48 (by decide) ?_
            refine lv_lshl hx hb dX7_loss_50 rfl ?_
            refine lv_aload_n hx hb dX7_loss_51 rfl (lv_at hl 0 rfl) ?_
            refine va_get (D := (dC, dI)) (ci := 8) (v := .ref (hM 8)) (C := RX7) (T := TX7) (N := 34) hx hb ht inX7 hown hK hP 0 rfl rfl 8 (by decide) (ht _ kw_18) (fun _ h9 => h9) rfl dX7_loss_52 ?_
            refine lv_iload_n hx hb dX7_loss_55 rfl (lv_at hl 2 rfl) ?_
            obtain ⟨g14, hm⟩ := gdi_of hm
            refine va_iald hx hb hK hP 3 0 rfl rfl g14 dX7_loss_56 ?_
            have hPc : va_P (dC, dI) vwCl ([] : va_W) _ := hP.sub [] rfl
            have hDc : va_D A ([] : va_W) := hD.sub [] (by decide) rfl
            have hFc := va_free (wc := ([] : va_W)) hD hS hA [] rfl
            obtain ⟨r15o, e16, hm⟩ := oC1_of hm
            refine va_calll (va_runS (As := [.int (u1.2.1 8 (x3).toNatClampNeg)]) (rest := [.long (((u1.1 0)).toInt64 <<< (((30 : Int32)).toInt64 &&& (63 : Int64))), .long ((u1.2.1 6 (x3).toNatClampNeg)).toInt64, .long y4]) ⟨hx, hb, hml, hown, ht⟩ (c_X7_logarithm l dC dI cI cJ H.size (u1.2.1 8 (x3).toNatClampNeg) r15o e16) (va_cwS 1 ht (gdS kw_17 kw_16 kw_7 kw_15) rfl rfl rfl nd_X7_logarithm ⟨Nat.le_of_ble_eq_true rfl, Nat.le_of_ble_eq_true rfl⟩) ⟨pcW_blind, pcW_pre hPc hK hDc hN⟩ rfl rfl hl.1 rfl (lv_room (Nat.le_of_ble_eq_true rfl)) dX7_loss_57 ⟨Nat.zero_le _, Nat.zero_le _⟩) hS (fun q _ z => hFc q z) hFc (fun r15 uu t H1 locs ht1 hvm hw hB hz1 hk1 hS => ?_)
            obtain ⟨⟩ := uu
            obtain ⟨hP1, hD1⟩ := hB
            rw [ht1] at hP1
            obtain rfl : r15 = r15o := Option.some.inj hw
            obtain ⟨hP, hD⟩ := va_join (wr := (wM cI cJ aM hM u1)) (w1 := []) hP hD [] [0, 1, 2, 3, 4, 5, 6, 7, 8, 9, 10, 11, 12, 13, 14] rfl rfl (by decide) (by decide) hk1 hFc hP1 hD1
            have hP : va_P (dC, dI) vwCl (wM cI cJ aM hM u1) H1 := hP
            have hD : va_D A (wM cI cJ aM hM u1) := hD
            generalize H1 = H at hP hS ⊢
            refine lv_lsub hx hb dX7_loss_60 ?_
            refine lv_lmul hx hb dX7_loss_61 ?_
            refine lv_goto (tgt := 66) hx hb dX7_loss_62 (by decide) ?_
            refine lv_ladd hx hb dX7_loss_66 ?_
            refine lv_topl (fun y17 ey17 => ?_)
            have hm := bnd_nm ey17 hm
            refine lv_lstore_n (lv' := [(1, .long y17), (0, .ref aM), (3, .int x3)]) hx hb dX7_loss_67 rfl hl (by decide) rfl (fun ls hl => ?_)
            obtain ⟨x18, ex18, hm⟩ := bnd_ex hm
            refine lv_iinc (v := x18) (lv' := [(3, .int x18), (1, .long y17), (0, .ref aM)]) hx hb dX7_loss_68 hl (k := 2) rfl (by rw [ex18]; exact congrArg _ (by decide)) (by decide) rfl (fun ls hl => ?_)
            refine lv_goto (tgt := 20) hx hb dX7_loss_71 (by decide) ?_
            exact ih20 x18 y17 _ _ _ hm hP hD hS (lv_sub hl [2, 1, 0] rfl)
    exact LP20 FU (0 : Int32) (0 : Int64) _ _ _ hm hP hD hS (lv_sub hl [2, 1, 0] rfl)
  · have hm := ite_t c2 hm
    refine lv_ldc2 (v := (-1 : Int64)) hx hb hown (ht _ kw_13) dX7_loss_12 ?_
    rw [← hQ]
    exact W.lret (v := (-1 : Int64)) hx hb hr (fun t ht1 hW => ⟨⟨_, u1, rfl, hm, by rw [ht1]; exact hP, hD⟩, hS.F ht1⟩) hS.2.2 dX7_loss_15

def f_X7_spread (uM : OS) (p1 : Int32) : Option (OS × Int32) :=
  bnd (sF uM 1 (0 : Int32)) fun u1 =>
  if (u1.1 7) = (0 : Int32) then (
  some (u1, (-2 : Int32))) else (
  bnd (fun (x3 : Int32) =>
  bnd (sF u1 1 x3) fun u5 =>
  if (u5.1 1) ≤ (0 : Int32) then (
  gdi p1 8192 <|
  some (u5, (u5.2.1 11 (p1).toNatClampNeg))) else (
  some (u5, (0 : Int32)))) fun K35_4 =>
  bnd (K35_4 (1 : Int32)) fun K30_8 =>
  if p1 < (0 : Int32) then (
  K30_8) else (
  if p1 < ((1 : Int32) <<< ((u1.1 0) &&& (31 : Int32))) then (
  K35_4 (0 : Int32)) else (
  K30_8)))

set_option maxHeartbeats 4000000 in
set_option maxRecDepth 100000 in
theorem c_X7_spread (l : Launch) (dC : Nat → ClassId) (dI : Nat → Nat → Nat) (cI cJ : ClassId) (aM : Nat) (hM : Nat → Nat) (sz : Nat) (uM : OS) (p1 : Int32) (o : OS × Int32) (hm : f_X7_spread uM p1 = some o) : Met l yX7_spread (wq yX7_spread cX7_spread 2 (some .int)) ({ frames := 0, cells := 0, slots := 0, locals := 0 } : Room) (va_Pc [.ref aM, .int p1] (pcW dC dI cI cJ sz (wM cI cJ aM hM uM))) (va_Qi (S := OS) (fun r u => some (u, r) = some o) (fun (u : OS) t => va_P (dC, dI) vwCl (wM cI cJ aM hM u) t.heap ∧ va_D (va_A (wM cI cJ aM hM uM) sz) (wM cI cJ aM hM u)) (va_A (wM cI cJ aM hM uM) sz)) 0 0 (va_A (wM cI cJ aM hM uM) sz) := by
  refine Met.ofW (cc := cX7_spread) (maxL := 2) (ret := (some .int)) (by decide) rfl ?_
  intro p e s m args below meth c s₁ B hml hv
  obtain ⟨rfl, hsz, hP, hK, hD0, hN⟩ := hv
  have hx := B.exec
  have hb := B.bytes
  have hr := B.returns
  have ht : ∀ w ∈ lw_good, w.before _ s = true := fun w h => atoms_spec (ws := wq yX7_spread cX7_spread 2 (some .int)) B.pre w (wq_mem h)
  have hown : s.vm.findClass RX7 = some m.cls := findClass_of_methodNamed B.named
  have hlocks := B.notSynchronized
  subst hsz
  have hD := hD0.self (sz := s.heap.size)
  generalize hAe : va_A (wM cI cJ aM hM uM) s.heap.size = A at hD ⊢
  have hA : ∀ q : Nat, s.heap.size ≤ q → A q := fun q h => by rw [← hAe]; exact Or.inr h
  have hS : va_S A s.heap s.heap [] := va_S.rf
  have hl := lv_entry ([.ref aM, .int p1]) (n := 2) (Nat.le_of_ble_eq_true rfl)
  rw [lg_entry_eq]
  generalize (lg_sl ([.ref aM, .int p1]) ++ List.replicate (2 - (lg_sl ([.ref aM, .int p1])).length) Slot.unset).toArray = ls at hl ⊢
  have hl : lv_has ls 2 [(0, .ref aM), (1, .int p1)] := hl
  generalize hQ : MQ below _ _ s _ _ _ = Q
  generalize hH : s.heap = H at hP ⊢
  have hS : va_S A s.heap H [] := by rw [← hH]; exact va_S.rf
  show W p l e ({ frames := 0, cells := 0, slots := 0, locals := 0 } : Room) s m ([.ref aM, .int p1] : List Value).toArray below meth c H [] 0 0 Q (F0 m 0 ls [])
  unfold f_X7_spread at hm
  refine lv_aload_n hx hb dX7_spread_0 rfl (lv_at hl 0 rfl) ?_
  refine lv_iconst (v := (0 : Int32)) hx hb dX7_spread_1 (by decide) ?_
  refine va_put (D := (dC, dI)) (ci := 8) (v := .int (0 : Int32)) (ty := .int) (C := RX7) (T := TX7) (N := 34) hx hb ht inX7 tyX7 tyX7_ok nmX7 hown hK hP hD hS 0 rfl rfl 1 (by decide) (ht _ kw_0) (fun _ h9 => h9) rfl (by decide +kernel) rfl rfl (Nat.le_of_ble_eq_true rfl) dX7_spread_2 (fun H locs hP hD hS => ?_)
  obtain ⟨u1, eu1, hm⟩ := bnd_ex hm
  have hP : va_P (dC, dI) vwCl (wM cI cJ aM hM u1) H := by rw [eu1]; exact hP
  have hD : va_D A (wM cI cJ aM hM u1) := by rw [eu1]; exact hD
  refine lv_aload_n hx hb dX7_spread_5 rfl (lv_at hl 0 rfl) ?_
  refine va_get (D := (dC, dI)) (ci := 8) (v := .int (u1.1 7)) (C := RX7) (T := TX7) (N := 34) hx hb ht inX7 hown hK hP 0 rfl rfl 7 (by decide) (ht _ kw_5) (fun _ h9 => h9) rfl dX7_spread_6 ?_
  refine lv_if_ne (tgt := 15) hx hb dX7_spread_9 (by decide) (fun c2 => ?_) (fun c2 => ?_)
  · have hm := ite_f c2 hm
    refine lv_aload_n hx hb dX7_spread_15 rfl (lv_at hl 0 rfl) ?_
    refine lv_iload_n hx hb dX7_spread_16 rfl (lv_at hl 1 rfl) ?_
    obtain ⟨K35_4, eK35_4, hm⟩ := bnd_ex hm
    have J35_4 : ∀ (x3 : Int32) (H : Heap) (locs : List Loc) (ls : Array Slot), K35_4 x3 = some o → va_P (dC, dI) vwCl (wM cI cJ aM hM u1) H → va_D A (wM cI cJ aM hM u1) → va_S A s.heap H locs → lv_has ls 2 [(0, .ref aM), (1, .int p1)] → W p l e ({ frames := 0, cells := 0, slots := 0, locals := 0 } : Room) s m ([.ref aM, .int p1] : List Value).toArray below meth c H locs 0 0 Q (F0 m 35 ls [.int x3, .ref aM]) := by
      intro x3 H locs ls hm hP hD hS hl
      have hm := ap1 eK35_4 hm
      refine va_put (D := (dC, dI)) (ci := 8) (v := .int x3) (ty := .int) (C := RX7) (T := TX7) (N := 34) hx hb ht inX7 tyX7 tyX7_ok nmX7 hown hK hP hD hS 0 rfl rfl 1 (by decide) (ht _ kw_0) (fun _ h9 => h9) rfl (by decide +kernel) rfl rfl (Nat.le_of_ble_eq_true rfl) dX7_spread_35 (fun H locs hP hD hS => ?_)
      obtain ⟨u5, eu5, hm⟩ := bnd_ex hm
      have hP : va_P (dC, dI) vwCl (wM cI cJ aM hM u5) H := by rw [eu5]; exact hP
      have hD : va_D A (wM cI cJ aM hM u5) := by rw [eu5]; exact hD
      refine lv_aload_n hx hb dX7_spread_38 rfl (lv_at hl 0 rfl) ?_
      refine va_get (D := (dC, dI)) (ci := 8) (v := .int (u5.1 1)) (C := RX7) (T := TX7) (N := 34) hx hb ht inX7 hown hK hP 0 rfl rfl 1 (by decide) (ht _ kw_0) (fun _ h9 => h9) rfl dX7_spread_39 ?_
      refine lv_if_le (tgt := 49) hx hb dX7_spread_42 (by decide) (fun c6 => ?_) (fun c6 => ?_)
      · have hm := ite_t c6 hm
        refine lv_aload_n hx hb dX7_spread_49 rfl (lv_at hl 0 rfl) ?_
        refine va_get (D := (dC, dI)) (ci := 8) (v := .ref (hM 11)) (C := RX7) (T := TX7) (N := 34) hx hb ht inX7 hown hK hP 0 rfl rfl 11 (by decide) (ht _ kw_21) (fun _ h9 => h9) rfl dX7_spread_50 ?_
        refine lv_iload_n hx hb dX7_spread_53 rfl (lv_at hl 1 rfl) ?_
        obtain ⟨g7, hm⟩ := gdi_of hm
        refine va_iald hx hb hK hP 6 0 rfl rfl g7 dX7_spread_54 ?_
        rw [← hQ]
        exact W.iret (v := (u5.2.1 11 (p1).toNatClampNeg)) hx hb hr (fun t ht1 hW => ⟨⟨_, u5, rfl, hm, by rw [ht1]; exact hP, hD⟩, hS.F ht1⟩) hS.2.2 dX7_spread_55
      · have hm := ite_f c6 hm
        refine lv_iconst (v := (0 : Int32)) hx hb dX7_spread_45 (by decide) ?_
        refine lv_goto (tgt := 55) hx hb dX7_spread_46 (by decide) ?_
        rw [← hQ]
        exact W.iret (v := (0 : Int32)) hx hb hr (fun t ht1 hW => ⟨⟨_, u5, rfl, hm, by rw [ht1]; exact hP, hD⟩, hS.F ht1⟩) hS.2.2 dX7_spread_55
    obtain ⟨K30_8, eK30_8, hm⟩ := bnd_ex hm
    have J30_8 : ∀ (H : Heap) (locs : List Loc) (ls : Array Slot), K30_8 = some o → va_P (dC, dI) vwCl (wM cI cJ aM hM u1) H → va_D A (wM cI cJ aM hM u1) → va_S A s.heap H locs → lv_has ls 2 [(0, .ref aM), (1, .int p1)] → W p l e ({ frames := 0, cells := 0, slots := 0, locals := 0 } : Room) s m ([.ref aM, .int p1] : List Value).toArray below meth c H locs 0 0 Q (F0 m 30 ls [.ref aM]) := by
      intro H locs ls hm hP hD hS hl
      have hm := ap0 eK30_8 hm
      refine lv_iconst (v := (1 : Int32)) hx hb dX7_spread_30 (by decide) ?_
      refine lv_goto (tgt := 35) hx hb dX7_spread_31 (by decide) ?_
      exact J35_4 (1 : Int32) _ _ _ hm hP hD hS (lv_sub hl [0, 1] rfl)
    refine lv_if_lt (tgt := 30) hx hb dX7_spread_17 (by decide) (fun c9 => ?_) (fun c9 => ?_)
    · have hm := ite_t c9 hm
      exact J30_8 _ _ _ hm hP hD hS (lv_sub hl [0, 1] rfl)
    · have hm := ite_f c9 hm
      refine lv_iload_n hx hb dX7_spread_20 rfl (lv_at hl 1 rfl) ?_
      refine lv_iconst (v := (1 : Int32)) hx hb dX7_spread_21 (by decide) ?_
      refine lv_aload_n hx hb dX7_spread_22 rfl (lv_at hl 0 rfl) ?_
      refine va_get (D := (dC, dI)) (ci := 8) (v := .int (u1.1 0)) (C := RX7) (T := TX7) (N := 34) hx hb ht inX7 hown hK hP 0 rfl rfl 0 (by decide) (ht _ kw_14) (fun _ h9 => h9) rfl dX7_spread_23 ?_
      refine lv_ishl hx hb dX7_spread_26 ?_
      refine lv_icmp_lt (tgt := 34) hx hb dX7_spread_27 (by decide) (fun c10 => ?_) (fun c10 => ?_)
      · have hm := ite_t c10 hm
        refine lv_iconst (v := (0 : Int32)) hx hb dX7_spread_34 (by decide) ?_
        exact J35_4 (0 : Int32) _ _ _ hm hP hD hS (lv_sub hl [0, 1] rfl)
      · have hm := ite_f c10 hm
        exact J30_8 _ _ _ hm hP hD hS (lv_sub hl [0, 1] rfl)
  · have hm := ite_t c2 hm
    refine lv_bipush (v := (-2 : Int32)) hx hb dX7_spread_12 (by decide) ?_
    rw [← hQ]
    exact W.iret (v := (-2 : Int32)) hx hb hr (fun t ht1 hW => ⟨⟨_, u1, rfl, hm, by rw [ht1]; exact hP, hD⟩, hS.F ht1⟩) hS.2.2 dX7_spread_14

def f_X7_form (uM : OS) (p1 : Int32) : Option (OS × Int32) :=
  bnd (sF uM 1 (0 : Int32)) fun u1 =>
  if p1 < (0 : Int32) then (
  some (u1, (-1 : Int32))) else (
  if p1 ≤ (3 : Int32) then (
  bnd (u1.1 2) fun x4 =>
  bnd (sF u1 2 p1) fun u5 =>
  some (u5, x4)) else (
  some (u1, (-1 : Int32))))

set_option maxHeartbeats 4000000 in
set_option maxRecDepth 100000 in
theorem c_X7_form (l : Launch) (dC : Nat → ClassId) (dI : Nat → Nat → Nat) (cI cJ : ClassId) (aM : Nat) (hM : Nat → Nat) (sz : Nat) (uM : OS) (p1 : Int32) (o : OS × Int32) (hm : f_X7_form uM p1 = some o) : Met l yX7_form (wq yX7_form cX7_form 3 (some .int)) ({ frames := 0, cells := 0, slots := 0, locals := 0 } : Room) (va_Pc [.ref aM, .int p1] (pcW dC dI cI cJ sz (wM cI cJ aM hM uM))) (va_Qi (S := OS) (fun r u => some (u, r) = some o) (fun (u : OS) t => va_P (dC, dI) vwCl (wM cI cJ aM hM u) t.heap ∧ va_D (va_A (wM cI cJ aM hM uM) sz) (wM cI cJ aM hM u)) (va_A (wM cI cJ aM hM uM) sz)) 0 0 (va_A (wM cI cJ aM hM uM) sz) := by
  refine Met.ofW (cc := cX7_form) (maxL := 3) (ret := (some .int)) (by decide) rfl ?_
  intro p e s m args below meth c s₁ B hml hv
  obtain ⟨rfl, hsz, hP, hK, hD0, hN⟩ := hv
  have hx := B.exec
  have hb := B.bytes
  have hr := B.returns
  have ht : ∀ w ∈ lw_good, w.before _ s = true := fun w h => atoms_spec (ws := wq yX7_form cX7_form 3 (some .int)) B.pre w (wq_mem h)
  have hown : s.vm.findClass RX7 = some m.cls := findClass_of_methodNamed B.named
  have hlocks := B.notSynchronized
  subst hsz
  have hD := hD0.self (sz := s.heap.size)
  generalize hAe : va_A (wM cI cJ aM hM uM) s.heap.size = A at hD ⊢
  have hA : ∀ q : Nat, s.heap.size ≤ q → A q := fun q h => by rw [← hAe]; exact Or.inr h
  have hS : va_S A s.heap s.heap [] := va_S.rf
  have hl := lv_entry ([.ref aM, .int p1]) (n := 3) (Nat.le_of_ble_eq_true rfl)
  rw [lg_entry_eq]
  generalize (lg_sl ([.ref aM, .int p1]) ++ List.replicate (3 - (lg_sl ([.ref aM, .int p1])).length) Slot.unset).toArray = ls at hl ⊢
  have hl : lv_has ls 3 [(0, .ref aM), (1, .int p1)] := hl
  generalize hQ : MQ below _ _ s _ _ _ = Q
  generalize hH : s.heap = H at hP ⊢
  have hS : va_S A s.heap H [] := by rw [← hH]; exact va_S.rf
  show W p l e ({ frames := 0, cells := 0, slots := 0, locals := 0 } : Room) s m ([.ref aM, .int p1] : List Value).toArray below meth c H [] 0 0 Q (F0 m 0 ls [])
  unfold f_X7_form at hm
  refine lv_aload_n hx hb dX7_form_0 rfl (lv_at hl 0 rfl) ?_
  refine lv_iconst (v := (0 : Int32)) hx hb dX7_form_1 (by decide) ?_
  refine va_put (D := (dC, dI)) (ci := 8) (v := .int (0 : Int32)) (ty := .int) (C := RX7) (T := TX7) (N := 34) hx hb ht inX7 tyX7 tyX7_ok nmX7 hown hK hP hD hS 0 rfl rfl 1 (by decide) (ht _ kw_0) (fun _ h9 => h9) rfl (by decide +kernel) rfl rfl (Nat.le_of_ble_eq_true rfl) dX7_form_2 (fun H locs hP hD hS => ?_)
  obtain ⟨u1, eu1, hm⟩ := bnd_ex hm
  have hP : va_P (dC, dI) vwCl (wM cI cJ aM hM u1) H := by rw [eu1]; exact hP
  have hD : va_D A (wM cI cJ aM hM u1) := by rw [eu1]; exact hD
  refine lv_iload_n hx hb dX7_form_5 rfl (lv_at hl 1 rfl) ?_
  refine lv_if_lt (tgt := 14) hx hb dX7_form_6 (by decide) (fun c2 => ?_) (fun c2 => ?_)
  · have hm := ite_t c2 hm
    refine lv_iconst (v := (-1 : Int32)) hx hb dX7_form_14 (by decide) ?_
    rw [← hQ]
    exact W.iret (v := (-1 : Int32)) hx hb hr (fun t ht1 hW => ⟨⟨_, u1, rfl, hm, by rw [ht1]; exact hP, hD⟩, hS.F ht1⟩) hS.2.2 dX7_form_15
  · have hm := ite_f c2 hm
    refine lv_iload_n hx hb dX7_form_9 rfl (lv_at hl 1 rfl) ?_
    refine lv_iconst (v := (3 : Int32)) hx hb dX7_form_10 (by decide) ?_
    refine lv_icmp_le (tgt := 16) hx hb dX7_form_11 (by decide) (fun c3 => ?_) (fun c3 => ?_)
    · have hm := ite_t c3 hm
      refine lv_aload_n hx hb dX7_form_16 rfl (lv_at hl 0 rfl) ?_
      refine va_get (D := (dC, dI)) (ci := 8) (v := .int (u1.1 2)) (C := RX7) (T := TX7) (N := 34) hx hb ht inX7 hown hK hP 0 rfl rfl 2 (by decide) (ht _ kw_28) (fun _ h9 => h9) rfl dX7_form_17 ?_
      refine lv_topi (fun x4 ex4 => ?_)
      have hm := bnd_nm ex4 hm
      refine lv_istore_n (lv' := [(2, .int x4), (0, .ref aM), (1, .int p1)]) hx hb dX7_form_20 rfl hl (by decide) rfl (fun ls hl => ?_)
      refine lv_aload_n hx hb dX7_form_21 rfl (lv_at hl 1 rfl) ?_
      refine lv_iload_n hx hb dX7_form_22 rfl (lv_at hl 2 rfl) ?_
      refine va_put (D := (dC, dI)) (ci := 8) (v := .int p1) (ty := .int) (C := RX7) (T := TX7) (N := 34) hx hb ht inX7 tyX7 tyX7_ok nmX7 hown hK hP hD hS 0 rfl rfl 2 (by decide) (ht _ kw_28) (fun _ h9 => h9) rfl (by decide +kernel) rfl rfl (Nat.le_of_ble_eq_true rfl) dX7_form_23 (fun H locs hP hD hS => ?_)
      obtain ⟨u5, eu5, hm⟩ := bnd_ex hm
      have hP : va_P (dC, dI) vwCl (wM cI cJ aM hM u5) H := by rw [eu5]; exact hP
      have hD : va_D A (wM cI cJ aM hM u5) := by rw [eu5]; exact hD
      refine lv_iload_n hx hb dX7_form_26 rfl (lv_at hl 0 rfl) ?_
      rw [← hQ]
      exact W.iret (v := x4) hx hb hr (fun t ht1 hW => ⟨⟨_, u5, rfl, hm, by rw [ht1]; exact hP, hD⟩, hS.F ht1⟩) hS.2.2 dX7_form_27
    · have hm := ite_f c3 hm
      refine lv_iconst (v := (-1 : Int32)) hx hb dX7_form_14 (by decide) ?_
      rw [← hQ]
      exact W.iret (v := (-1 : Int32)) hx hb hr (fun t ht1 hW => ⟨⟨_, u1, rfl, hm, by rw [ht1]; exact hP, hD⟩, hS.F ht1⟩) hS.2.2 dX7_form_15

def f_X7_lanes (uM : OS) (p1 : Int32) : Option (OS × Int32) :=
  bnd (sF uM 1 (0 : Int32)) fun u1 =>
  bnd (bnd (u1.1 3) fun x3 =>
  bnd (sF u1 3 p1) fun u4 =>
  some (u4, x3)) fun K22_2 =>
  if p1 = (1 : Int32) then (
  K22_2) else (
  if p1 = (2 : Int32) then (
  K22_2) else (
  if p1 = (4 : Int32) then (
  K22_2) else (
  some (u1, (-1 : Int32)))))

set_option maxHeartbeats 4000000 in
set_option maxRecDepth 100000 in
theorem c_X7_lanes (l : Launch) (dC : Nat → ClassId) (dI : Nat → Nat → Nat) (cI cJ : ClassId) (aM : Nat) (hM : Nat → Nat) (sz : Nat) (uM : OS) (p1 : Int32) (o : OS × Int32) (hm : f_X7_lanes uM p1 = some o) : Met l yX7_lanes (wq yX7_lanes cX7_lanes 3 (some .int)) ({ frames := 0, cells := 0, slots := 0, locals := 0 } : Room) (va_Pc [.ref aM, .int p1] (pcW dC dI cI cJ sz (wM cI cJ aM hM uM))) (va_Qi (S := OS) (fun r u => some (u, r) = some o) (fun (u : OS) t => va_P (dC, dI) vwCl (wM cI cJ aM hM u) t.heap ∧ va_D (va_A (wM cI cJ aM hM uM) sz) (wM cI cJ aM hM u)) (va_A (wM cI cJ aM hM uM) sz)) 0 0 (va_A (wM cI cJ aM hM uM) sz) := by
  refine Met.ofW (cc := cX7_lanes) (maxL := 3) (ret := (some .int)) (by decide) rfl ?_
  intro p e s m args below meth c s₁ B hml hv
  obtain ⟨rfl, hsz, hP, hK, hD0, hN⟩ := hv
  have hx := B.exec
  have hb := B.bytes
  have hr := B.returns
  have ht : ∀ w ∈ lw_good, w.before _ s = true := fun w h => atoms_spec (ws := wq yX7_lanes cX7_lanes 3 (some .int)) B.pre w (wq_mem h)
  have hown : s.vm.findClass RX7 = some m.cls := findClass_of_methodNamed B.named
  have hlocks := B.notSynchronized
  subst hsz
  have hD := hD0.self (sz := s.heap.size)
  generalize hAe : va_A (wM cI cJ aM hM uM) s.heap.size = A at hD ⊢
  have hA : ∀ q : Nat, s.heap.size ≤ q → A q := fun q h => by rw [← hAe]; exact Or.inr h
  have hS : va_S A s.heap s.heap [] := va_S.rf
  have hl := lv_entry ([.ref aM, .int p1]) (n := 3) (Nat.le_of_ble_eq_true rfl)
  rw [lg_entry_eq]
  generalize (lg_sl ([.ref aM, .int p1]) ++ List.replicate (3 - (lg_sl ([.ref aM, .int p1])).length) Slot.unset).toArray = ls at hl ⊢
  have hl : lv_has ls 3 [(0, .ref aM), (1, .int p1)] := hl
  generalize hQ : MQ below _ _ s _ _ _ = Q
  generalize hH : s.heap = H at hP ⊢
  have hS : va_S A s.heap H [] := by rw [← hH]; exact va_S.rf
  show W p l e ({ frames := 0, cells := 0, slots := 0, locals := 0 } : Room) s m ([.ref aM, .int p1] : List Value).toArray below meth c H [] 0 0 Q (F0 m 0 ls [])
  unfold f_X7_lanes at hm
  refine lv_aload_n hx hb dX7_lanes_0 rfl (lv_at hl 0 rfl) ?_
  refine lv_iconst (v := (0 : Int32)) hx hb dX7_lanes_1 (by decide) ?_
  refine va_put (D := (dC, dI)) (ci := 8) (v := .int (0 : Int32)) (ty := .int) (C := RX7) (T := TX7) (N := 34) hx hb ht inX7 tyX7 tyX7_ok nmX7 hown hK hP hD hS 0 rfl rfl 1 (by decide) (ht _ kw_0) (fun _ h9 => h9) rfl (by decide +kernel) rfl rfl (Nat.le_of_ble_eq_true rfl) dX7_lanes_2 (fun H locs hP hD hS => ?_)
  obtain ⟨u1, eu1, hm⟩ := bnd_ex hm
  have hP : va_P (dC, dI) vwCl (wM cI cJ aM hM u1) H := by rw [eu1]; exact hP
  have hD : va_D A (wM cI cJ aM hM u1) := by rw [eu1]; exact hD
  refine lv_iload_n hx hb dX7_lanes_5 rfl (lv_at hl 1 rfl) ?_
  refine lv_iconst (v := (1 : Int32)) hx hb dX7_lanes_6 (by decide) ?_
  obtain ⟨K22_2, eK22_2, hm⟩ := bnd_ex hm
  have J22_2 : ∀ (H : Heap) (locs : List Loc) (ls : Array Slot), K22_2 = some o → va_P (dC, dI) vwCl (wM cI cJ aM hM u1) H → va_D A (wM cI cJ aM hM u1) → va_S A s.heap H locs → lv_has ls 3 [(0, .ref aM), (1, .int p1)] → W p l e ({ frames := 0, cells := 0, slots := 0, locals := 0 } : Room) s m ([.ref aM, .int p1] : List Value).toArray below meth c H locs 0 0 Q (F0 m 22 ls []) := by
    intro H locs ls hm hP hD hS hl
    have hm := ap0 eK22_2 hm
    refine lv_aload_n hx hb dX7_lanes_22 rfl (lv_at hl 0 rfl) ?_
    refine va_get (D := (dC, dI)) (ci := 8) (v := .int (u1.1 3)) (C := RX7) (T := TX7) (N := 34) hx hb ht inX7 hown hK hP 0 rfl rfl 3 (by decide) (ht _ kw_29) (fun _ h9 => h9) rfl dX7_lanes_23 ?_
    refine lv_topi (fun x3 ex3 => ?_)
    have hm := bnd_nm ex3 hm
    refine lv_istore_n (lv' := [(2, .int x3), (0, .ref aM), (1, .int p1)]) hx hb dX7_lanes_26 rfl hl (by decide) rfl (fun ls hl => ?_)
    refine lv_aload_n hx hb dX7_lanes_27 rfl (lv_at hl 1 rfl) ?_
    refine lv_iload_n hx hb dX7_lanes_28 rfl (lv_at hl 2 rfl) ?_
    refine va_put (D := (dC, dI)) (ci := 8) (v := .int p1) (ty := .int) (C := RX7) (T := TX7) (N := 34) hx hb ht inX7 tyX7 tyX7_ok nmX7 hown hK hP hD hS 0 rfl rfl 3 (by decide) (ht _ kw_29) (fun _ h9 => h9) rfl (by decide +kernel) rfl rfl (Nat.le_of_ble_eq_true rfl) dX7_lanes_29 (fun H locs hP hD hS => ?_)
    obtain ⟨u4, eu4, hm⟩ := bnd_ex hm
    have hP : va_P (dC, dI) vwCl (wM cI cJ aM hM u4) H := by rw [eu4]; exact hP
    have hD : va_D A (wM cI cJ aM hM u4) := by rw [eu4]; exact hD
    refine lv_iload_n hx hb dX7_lanes_32 rfl (lv_at hl 0 rfl) ?_
    rw [← hQ]
    exact W.iret (v := x3) hx hb hr (fun t ht1 hW => ⟨⟨_, u4, rfl, hm, by rw [ht1]; exact hP, hD⟩, hS.F ht1⟩) hS.2.2 dX7_lanes_33
  refine lv_icmp_eq (tgt := 22) hx hb dX7_lanes_7 (by decide) (fun c5 => ?_) (fun c5 => ?_)
  · have hm := ite_t c5 hm
    exact J22_2 _ _ _ hm hP hD hS (lv_sub hl [0, 1] rfl)
  · have hm := ite_f c5 hm
    refine lv_iload_n hx hb dX7_lanes_10 rfl (lv_at hl 1 rfl) ?_
    refine lv_iconst (v := (2 : Int32)) hx hb dX7_lanes_11 (by decide) ?_
    refine lv_icmp_eq (tgt := 22) hx hb dX7_lanes_12 (by decide) (fun c6 => ?_) (fun c6 => ?_)
    · have hm := ite_t c6 hm
      exact J22_2 _ _ _ hm hP hD hS (lv_sub hl [0, 1] rfl)
    · have hm := ite_f c6 hm
      refine lv_iload_n hx hb dX7_lanes_15 rfl (lv_at hl 1 rfl) ?_
      refine lv_iconst (v := (4 : Int32)) hx hb dX7_lanes_16 (by decide) ?_
      refine lv_icmp_eq (tgt := 22) hx hb dX7_lanes_17 (by decide) (fun c7 => ?_) (fun c7 => ?_)
      · have hm := ite_t c7 hm
        exact J22_2 _ _ _ hm hP hD hS (lv_sub hl [0, 1] rfl)
      · have hm := ite_f c7 hm
        refine lv_iconst (v := (-1 : Int32)) hx hb dX7_lanes_20 (by decide) ?_
        rw [← hQ]
        exact W.iret (v := (-1 : Int32)) hx hb hr (fun t ht1 hW => ⟨⟨_, u1, rfl, hm, by rw [ht1]; exact hP, hD⟩, hS.F ht1⟩) hS.2.2 dX7_lanes_21

def f_X7_firstState (p1 : Int32) (p2 : Int32) : Option (Int64) :=
  if p1 = (1 : Int32) then (
  some (2147483648 : Int64)) else (
  if p1 = (2 : Int32) then (
  some (((1 : Int64) <<< ((p2).toInt64 &&& (63 : Int64))))) else (
  some (8388608 : Int64)))

set_option maxHeartbeats 4000000 in
set_option maxRecDepth 100000 in
theorem c_X7_firstState (l : Launch) (dC : Nat → ClassId) (dI : Nat → Nat → Nat) (cI cJ : ClassId) (sz : Nat) (p1 : Int32) (p2 : Int32) (o : Int64) (hm : f_X7_firstState p1 p2 = some o) : Met l yX7_firstState (wq yX7_firstState cX7_firstState 2 (some .long)) ({ frames := 0, cells := 0, slots := 0, locals := 0 } : Room) (va_Pc [.int p1, .int p2] (pcW dC dI cI cJ sz ([] : va_W))) (va_Ql (S := Unit) (fun r u => some r = some o) (fun (u : Unit) t => va_P (dC, dI) vwCl ([] : va_W) t.heap ∧ va_D (va_A ([] : va_W) sz) ([] : va_W)) (va_A ([] : va_W) sz)) 0 0 (va_A ([] : va_W) sz) := by
  refine Met.ofW (cc := cX7_firstState) (maxL := 2) (ret := (some .long)) (by decide) rfl ?_
  intro p e s m args below meth c s₁ B hml hv
  obtain ⟨rfl, hsz, hP, hK, hD0, hN⟩ := hv
  have hx := B.exec
  have hb := B.bytes
  have hr := B.returns
  have ht : ∀ w ∈ lw_good, w.before _ s = true := fun w h => atoms_spec (ws := wq yX7_firstState cX7_firstState 2 (some .long)) B.pre w (wq_mem h)
  have hown : s.vm.findClass RX7 = some m.cls := findClass_of_methodNamed B.named
  have hlocks := B.notSynchronized
  subst hsz
  have hD := hD0.self (sz := s.heap.size)
  generalize hAe : va_A ([] : va_W) s.heap.size = A at hD ⊢
  have hA : ∀ q : Nat, s.heap.size ≤ q → A q := fun q h => by rw [← hAe]; exact Or.inr h
  have hS : va_S A s.heap s.heap [] := va_S.rf
  have hl := lv_entry ([.int p1, .int p2]) (n := 2) (Nat.le_of_ble_eq_true rfl)
  rw [lg_entry_eq]
  generalize (lg_sl ([.int p1, .int p2]) ++ List.replicate (2 - (lg_sl ([.int p1, .int p2])).length) Slot.unset).toArray = ls at hl ⊢
  have hl : lv_has ls 2 [(0, .int p1), (1, .int p2)] := hl
  generalize hQ : MQ below _ _ s _ _ _ = Q
  generalize hH : s.heap = H at hP ⊢
  have hS : va_S A s.heap H [] := by rw [← hH]; exact va_S.rf
  show W p l e ({ frames := 0, cells := 0, slots := 0, locals := 0 } : Room) s m ([.int p1, .int p2] : List Value).toArray below meth c H [] 0 0 Q (F0 m 0 ls [])
  unfold f_X7_firstState at hm
  refine lv_iload_n hx hb dX7_firstState_0 rfl (lv_at hl 0 rfl) ?_
  refine lv_iconst (v := (1 : Int32)) hx hb dX7_firstState_1 (by decide) ?_
  refine lv_icmp_ne (tgt := 11) hx hb dX7_firstState_2 (by decide) (fun c1 => ?_) (fun c1 => ?_)
  · have hm := ite_f c1 hm
    refine lv_iload_n hx hb dX7_firstState_11 rfl (lv_at hl 0 rfl) ?_
    refine lv_iconst (v := (2 : Int32)) hx hb dX7_firstState_12 (by decide) ?_
    refine lv_icmp_ne (tgt := 22) hx hb dX7_firstState_13 (by decide) (fun c2 => ?_) (fun c2 => ?_)
    · have hm := ite_f c2 hm
      refine lv_ldc2 (v := (8388608 : Int64)) hx hb hown (ht _ kw_30) dX7_firstState_22 ?_
      rw [← hQ]
      exact W.lret (v := (8388608 : Int64)) hx hb hr (fun t ht1 hW => ⟨⟨_, (), rfl, hm, by rw [ht1]; exact hP, hD⟩, hS.F ht1⟩) hS.2.2 dX7_firstState_25
    · have hm := ite_t c2 hm
      refine lv_lconst (v := (1 : Int64)) hx hb dX7_firstState_16 (by decide) ?_
      refine lv_iload_n hx hb dX7_firstState_17 rfl (lv_at hl 1 rfl) ?_
      refine lv_lshl hx hb dX7_firstState_18 rfl ?_
      refine lv_goto (tgt := 25) hx hb dX7_firstState_19 (by decide) ?_
      rw [← hQ]
      exact W.lret (v := ((1 : Int64) <<< ((p2).toInt64 &&& (63 : Int64)))) hx hb hr (fun t ht1 hW => ⟨⟨_, (), rfl, hm, by rw [ht1]; exact hP, hD⟩, hS.F ht1⟩) hS.2.2 dX7_firstState_25
  · have hm := ite_t c1 hm
    refine lv_ldc2 (v := (2147483648 : Int64)) hx hb hown (ht _ kw_11) dX7_firstState_5 ?_
    refine lv_goto (tgt := 25) hx hb dX7_firstState_8 (by decide) ?_
    rw [← hQ]
    exact W.lret (v := (2147483648 : Int64)) hx hb hr (fun t ht1 hW => ⟨⟨_, (), rfl, hm, by rw [ht1]; exact hP, hD⟩, hS.F ht1⟩) hS.2.2 dX7_firstState_25

def f_X7_putByte (uM : OS) (p1 : Int32) : Option (OS) :=
  gdi (uM.1 15) 20000 <|
  bnd (sA uM 14 (uM.1 15) (p1 &&& (255 : Int32))) fun u2 =>
  bnd (sF u2 15 ((u2.1 15) + (1 : Int32))) fun u3 =>
  some u3

set_option maxHeartbeats 4000000 in
set_option maxRecDepth 100000 in
theorem c_X7_putByte (l : Launch) (dC : Nat → ClassId) (dI : Nat → Nat → Nat) (cI cJ : ClassId) (aM : Nat) (hM : Nat → Nat) (sz : Nat) (uM : OS) (p1 : Int32) (o : OS) (hm : f_X7_putByte uM p1 = some o) : Met l yX7_putByte (wq yX7_putByte cX7_putByte 2 none) ({ frames := 0, cells := 0, slots := 0, locals := 0 } : Room) (va_Pc [.ref aM, .int p1] (pcW dC dI cI cJ sz (wM cI cJ aM hM uM))) (va_Qv (S := OS) (fun u => some u = some o) (fun (u : OS) t => va_P (dC, dI) vwCl (wM cI cJ aM hM u) t.heap ∧ va_D (va_A (wM cI cJ aM hM uM) sz) (wM cI cJ aM hM u)) (va_A (wM cI cJ aM hM uM) sz)) 0 0 (va_A (wM cI cJ aM hM uM) sz) := by
  refine Met.ofW (cc := cX7_putByte) (maxL := 2) (ret := none) (by decide) rfl ?_
  intro p e s m args below meth c s₁ B hml hv
  obtain ⟨rfl, hsz, hP, hK, hD0, hN⟩ := hv
  have hx := B.exec
  have hb := B.bytes
  have hr := B.returns
  have ht : ∀ w ∈ lw_good, w.before _ s = true := fun w h => atoms_spec (ws := wq yX7_putByte cX7_putByte 2 none) B.pre w (wq_mem h)
  have hown : s.vm.findClass RX7 = some m.cls := findClass_of_methodNamed B.named
  have hlocks := B.notSynchronized
  subst hsz
  have hD := hD0.self (sz := s.heap.size)
  generalize hAe : va_A (wM cI cJ aM hM uM) s.heap.size = A at hD ⊢
  have hA : ∀ q : Nat, s.heap.size ≤ q → A q := fun q h => by rw [← hAe]; exact Or.inr h
  have hS : va_S A s.heap s.heap [] := va_S.rf
  have hl := lv_entry ([.ref aM, .int p1]) (n := 2) (Nat.le_of_ble_eq_true rfl)
  rw [lg_entry_eq]
  generalize (lg_sl ([.ref aM, .int p1]) ++ List.replicate (2 - (lg_sl ([.ref aM, .int p1])).length) Slot.unset).toArray = ls at hl ⊢
  have hl : lv_has ls 2 [(0, .ref aM), (1, .int p1)] := hl
  generalize hQ : MQ below _ _ s _ _ _ = Q
  generalize hH : s.heap = H at hP ⊢
  have hS : va_S A s.heap H [] := by rw [← hH]; exact va_S.rf
  show W p l e ({ frames := 0, cells := 0, slots := 0, locals := 0 } : Room) s m ([.ref aM, .int p1] : List Value).toArray below meth c H [] 0 0 Q (F0 m 0 ls [])
  unfold f_X7_putByte at hm
  refine lv_aload_n hx hb dX7_putByte_0 rfl (lv_at hl 0 rfl) ?_
  refine va_get (D := (dC, dI)) (ci := 8) (v := .ref (hM 14)) (C := RX7) (T := TX7) (N := 34) hx hb ht inX7 hown hK hP 0 rfl rfl 14 (by decide) (ht _ kw_31) (fun _ h9 => h9) rfl dX7_putByte_1 ?_
  refine lv_aload_n hx hb dX7_putByte_4 rfl (lv_at hl 0 rfl) ?_
  refine va_get (D := (dC, dI)) (ci := 8) (v := .int (uM.1 15)) (C := RX7) (T := TX7) (N := 34) hx hb ht inX7 hown hK hP 0 rfl rfl 15 (by decide) (ht _ kw_32) (fun _ h9 => h9) rfl dX7_putByte_5 ?_
  refine lv_iload_n hx hb dX7_putByte_8 rfl (lv_at hl 1 rfl) ?_
  refine lv_sipush (v := (255 : Int32)) hx hb dX7_putByte_9 (by decide) ?_
  refine lv_iand hx hb dX7_putByte_12 ?_
  obtain ⟨g1, hm⟩ := gdi_of hm
  refine va_iast hx hb hK hP hD hS 9 0 rfl rfl g1 dX7_putByte_13 (fun H locs hP hD hS => ?_)
  obtain ⟨u2, eu2, hm⟩ := bnd_ex hm
  have hP : va_P (dC, dI) vwCl (wM cI cJ aM hM u2) H := by rw [eu2]; exact hP
  have hD : va_D A (wM cI cJ aM hM u2) := by rw [eu2]; exact hD
  refine lv_aload_n hx hb dX7_putByte_14 rfl (lv_at hl 0 rfl) ?_
  refine lv_dup hx hb dX7_putByte_15 rfl ?_
  refine va_get (D := (dC, dI)) (ci := 8) (v := .int (u2.1 15)) (C := RX7) (T := TX7) (N := 34) hx hb ht inX7 hown hK hP 0 rfl rfl 15 (by decide) (ht _ kw_32) (fun _ h9 => h9) rfl dX7_putByte_16 ?_
  refine lv_iconst (v := (1 : Int32)) hx hb dX7_putByte_19 (by decide) ?_
  refine lv_iadd hx hb dX7_putByte_20 ?_
  refine va_put (D := (dC, dI)) (ci := 8) (v := .int ((u2.1 15) + (1 : Int32))) (ty := .int) (C := RX7) (T := TX7) (N := 34) hx hb ht inX7 tyX7 tyX7_ok nmX7 hown hK hP hD hS 0 rfl rfl 15 (by decide) (ht _ kw_32) (fun _ h9 => h9) rfl (by decide +kernel) rfl rfl (Nat.le_of_ble_eq_true rfl) dX7_putByte_21 (fun H locs hP hD hS => ?_)
  obtain ⟨u3, eu3, hm⟩ := bnd_ex hm
  have hP : va_P (dC, dI) vwCl (wM cI cJ aM hM u3) H := by rw [eu3]; exact hP
  have hD : va_D A (wM cI cJ aM hM u3) := by rw [eu3]; exact hD
  rw [← hQ]
  exact W.vret hx hb hr (fun t ht1 hW => ⟨⟨u3, rfl, hm, by rw [ht1]; exact hP, hD⟩, hS.F ht1⟩) hS.2.2 dX7_putByte_24

def f_X7_putWide_L5 (p1 : Int64) : Nat → (Int32 → OS → Option (OS)) → Int32 → OS → Option (OS)
  | 0, _, _, _ => none
  | n5 + 1, K28_6, x2, u3 =>
    if x2 < (0 : Int32) then (
    K28_6 x2 u3) else (
    oC1 (f_X7_putByte u3 ((p1 >>> ((((8 : Int32) * x2)).toInt64 &&& (63 : Int64)))).toInt32) fun u8 =>
    bnd (x2 + (-1 : Int32)) fun x10 =>
    f_X7_putWide_L5 p1 n5 K28_6 x10 u8)

def f_X7_putWide (uM : OS) (p1 : Int64) (p2 : Int32) : Option (OS) :=
  bnd (p2 - (1 : Int32)) fun x1 =>
  bnd (fun (x4 : Int32) (u5 : OS) =>
  some u5) fun K28_6 =>
  f_X7_putWide_L5 p1 FU K28_6 x1 uM

set_option maxHeartbeats 4000000 in
set_option maxRecDepth 100000 in
theorem c_X7_putWide (l : Launch) (dC : Nat → ClassId) (dI : Nat → Nat → Nat) (cI cJ : ClassId) (aM : Nat) (hM : Nat → Nat) (sz : Nat) (uM : OS) (p1 : Int64) (p2 : Int32) (o : OS) (hm : f_X7_putWide uM p1 p2 = some o) : Met l yX7_putWide (wq yX7_putWide cX7_putWide 5 none) ({ frames := 1, cells := 0, slots := 0, locals := 21 } : Room) (va_Pc [.ref aM, .long p1, .int p2] (pcW dC dI cI cJ sz (wM cI cJ aM hM uM))) (va_Qv (S := OS) (fun u => some u = some o) (fun (u : OS) t => va_P (dC, dI) vwCl (wM cI cJ aM hM u) t.heap ∧ va_D (va_A (wM cI cJ aM hM uM) sz) (wM cI cJ aM hM u)) (va_A (wM cI cJ aM hM uM) sz)) 0 0 (va_A (wM cI cJ aM hM uM) sz) := by
  refine Met.ofW (cc := cX7_putWide) (maxL := 5) (ret := none) (by decide) rfl ?_
  intro p e s m args below meth c s₁ B hml hv
  obtain ⟨rfl, hsz, hP, hK, hD0, hN⟩ := hv
  have hx := B.exec
  have hb := B.bytes
  have hr := B.returns
  have ht : ∀ w ∈ lw_good, w.before _ s = true := fun w h => atoms_spec (ws := wq yX7_putWide cX7_putWide 5 none) B.pre w (wq_mem h)
  have hown : s.vm.findClass RX7 = some m.cls := findClass_of_methodNamed B.named
  have hlocks := B.notSynchronized
  subst hsz
  have hD := hD0.self (sz := s.heap.size)
  generalize hAe : va_A (wM cI cJ aM hM uM) s.heap.size = A at hD ⊢
  have hA : ∀ q : Nat, s.heap.size ≤ q → A q := fun q h => by rw [← hAe]; exact Or.inr h
  have hS : va_S A s.heap s.heap [] := va_S.rf
  have hl := lv_entry ([.ref aM, .long p1, .int p2]) (n := 5) (Nat.le_of_ble_eq_true rfl)
  rw [lg_entry_eq]
  generalize (lg_sl ([.ref aM, .long p1, .int p2]) ++ List.replicate (5 - (lg_sl ([.ref aM, .long p1, .int p2])).length) Slot.unset).toArray = ls at hl ⊢
  have hl : lv_has ls 5 [(0, .ref aM), (1, .long p1), (3, .int p2)] := hl
  generalize hQ : MQ below _ _ s _ _ _ = Q
  generalize hH : s.heap = H at hP ⊢
  have hS : va_S A s.heap H [] := by rw [← hH]; exact va_S.rf
  show W p l e ({ frames := 1, cells := 0, slots := 0, locals := 21 } : Room) s m ([.ref aM, .long p1, .int p2] : List Value).toArray below meth c H [] 0 0 Q (F0 m 0 ls [])
  unfold f_X7_putWide at hm
  refine lv_iload_n hx hb dX7_putWide_0 rfl (lv_at hl 2 rfl) ?_
  refine lv_iconst (v := (1 : Int32)) hx hb dX7_putWide_1 (by decide) ?_
  refine lv_isub hx hb dX7_putWide_2 ?_
  refine lv_topi (fun x1 ex1 => ?_)
  have hm := bnd_nm ex1 hm
  refine lv_istore (lv' := [(4, .int x1), (0, .ref aM), (1, .long p1), (3, .int p2)]) hx hb dX7_putWide_3 hl (by decide) rfl (fun ls hl => ?_)
  obtain ⟨K28_6, eK28_6, hm⟩ := bnd_ex hm
  have X28_6 : ∀ (x4 : Int32) (u5 : OS) (H : Heap) (locs : List Loc) (ls : Array Slot), K28_6 x4 u5 = some o → va_P (dC, dI) vwCl (wM cI cJ aM hM u5) H → va_D A (wM cI cJ aM hM u5) → va_S A s.heap H locs → lv_has ls 5 [(0, .ref aM), (1, .long p1), (3, .int p2), (4, .int x4)] → W p l e ({ frames := 1, cells := 0, slots := 0, locals := 21 } : Room) s m ([.ref aM, .long p1, .int p2] : List Value).toArray below meth c H locs 0 0 Q (F0 m 28 ls []) := by
    intro x4 u5 H locs ls hm hP hD hS hl
    have hm := ap2 eK28_6 hm
    rw [← hQ]
    exact W.vret hx hb hr (fun t ht1 hW => ⟨⟨u5, rfl, hm, by rw [ht1]; exact hP, hD⟩, hS.F ht1⟩) hS.2.2 dX7_putWide_28
  have LP5 : ∀ (n5 : Nat) (x2 : Int32) (u3 : OS) (H : Heap) (locs : List Loc) (ls : Array Slot), f_X7_putWide_L5 p1 n5 K28_6 x2 u3 = some o → va_P (dC, dI) vwCl (wM cI cJ aM hM u3) H → va_D A (wM cI cJ aM hM u3) → va_S A s.heap H locs → lv_has ls 5 [(0, .ref aM), (1, .long p1), (3, .int p2), (4, .int x2)] → W p l e ({ frames := 1, cells := 0, slots := 0, locals := 21 } : Room) s m ([.ref aM, .long p1, .int p2] : List Value).toArray below meth c H locs 0 0 Q (F0 m 5 ls []) := by
    intro n5
    induction n5 with
    | zero => intro x2 u3 H locs ls hm; exact nomatch (show (none : Option _) = some _ from hm)
    | succ n5 ih5 =>
      intro x2 u3 H locs ls hm hP hD hS hl
      unfold f_X7_putWide_L5 at hm
      refine lv_iload hx hb dX7_putWide_5 (lv_at hl 3 rfl) ?_
      refine lv_if_lt (tgt := 28) hx hb dX7_putWide_7 (by decide) (fun c7 => ?_) (fun c7 => ?_)
      · have hm := ite_t c7 hm
        exact X28_6 x2 u3 _ _ _ hm hP hD hS (lv_sub hl [0, 1, 2, 3] rfl)
      · have hm := ite_f c7 hm
        refine lv_aload_n hx hb dX7_putWide_10 rfl (lv_at hl 0 rfl) ?_
        refine lv_lload_n hx hb dX7_putWide_11 rfl (lv_at hl 1 rfl) ?_
        refine lv_bipush (v := (8 : Int32)) hx hb dX7_putWide_12 (by decide) ?_
        refine lv_iload hx hb dX7_putWide_14 (lv_at hl 3 rfl) ?_
        refine lv_imul hx hb dX7_putWide_16 ?_
        refine lv_lshr hx hb dX7_putWide_17 rfl ?_
        refine lv_l2i hx hb dX7_putWide_18 rfl ?_
        have hPc : va_P (dC, dI) vwCl (wM cI cJ aM hM u3) _ := hP
        have hDc : va_D A (wM cI cJ aM hM u3) := hD
        have hFc := va_free (wc := (wM cI cJ aM hM u3)) hD hS hA [0, 1, 2, 3, 4, 5, 6, 7, 8, 9, 10, 11, 12, 13, 14] rfl
        obtain ⟨u8o, e9, hm⟩ := oC1_of hm
        refine va_callv (va_runV (As := [.int ((p1 >>> ((((8 : Int32) * x2)).toInt64 &&& (63 : Int64)))).toInt32]) (rest := []) ⟨hx, hb, hml, hown, ht⟩ (c_X7_putByte l dC dI cI cJ aM hM H.size u3 ((p1 >>> ((((8 : Int32) * x2)).toInt64 &&& (63 : Int64)))).toInt32 u8o e9) (cwV 1 ht (gdV kw_36 kw_34 kw_35 kw_7 kw_33) rfl rfl rfl ⟨rfl, nd_X7_putByte⟩ ⟨Nat.le_of_ble_eq_true rfl, Nat.le_of_ble_eq_true rfl⟩) ⟨pcW_blind, va_recv hK hPc (ci := 8) (q0 := 0) rfl rfl, pcW_pre hPc hK hDc hN⟩ rfl rfl hl.1 rfl (lv_room (Nat.le_of_ble_eq_true rfl)) dX7_putWide_19 ⟨Nat.zero_le _, Nat.zero_le _⟩) hS (fun q _ z => hFc q z) hFc (fun uu t H1 locs ht1 hvm hw hB hz1 hk1 hS => ?_)
        obtain ⟨u8, rfl⟩ : ∃ z, z = uu := ⟨_, rfl⟩
        obtain ⟨hP1, hD1⟩ := hB
        rw [ht1] at hP1
        obtain rfl : u8 = u8o := Option.some.inj hw
        have hP : va_P (dC, dI) vwCl (wM cI cJ aM hM u8) H1 := hP1
        have hD : va_D A (wM cI cJ aM hM u8) := hD1.weaken (fun _ q _ z => hFc q.1 z)
        generalize H1 = H at hP hS ⊢
        obtain ⟨x10, ex10, hm⟩ := bnd_ex hm
        refine lv_iinc (v := x10) (lv' := [(4, .int x10), (0, .ref aM), (1, .long p1), (3, .int p2)]) hx hb dX7_putWide_22 hl (k := 3) rfl (by rw [ex10]; exact congrArg _ (by decide)) (by decide) rfl (fun ls hl => ?_)
        refine lv_goto (tgt := 5) hx hb dX7_putWide_25 (by decide) ?_
        exact ih5 x10 u8 _ _ _ hm hP hD hS (lv_sub hl [1, 2, 3, 0] rfl)
  exact LP5 FU x1 uM _ _ _ hm hP hD hS (lv_sub hl [1, 2, 3, 0] rfl)

def f_X7_putBits_L4 (p1 : Int32) : Nat → (Int32 → OS → Option (OS)) → Int32 → OS → Option (OS)
  | 0, _, _, _ => none
  | n4 + 1, K66_6, x2, u3 =>
    if x2 < (0 : Int32) then (
    K66_6 x2 u3) else (
    bnd (fun (u8 : OS) =>
    gdi ((u8.1 15) - (1 : Int32)) 20000 <|
    gdi ((u8.1 15) - (1 : Int32)) 20000 <|
    bnd (sA u8 14 ((u8.1 15) - (1 : Int32)) ((u8.2.1 14 (((u8.1 15) - (1 : Int32))).toNatClampNeg) ||| (((p1 >>> (x2 &&& (31 : Int32))) &&& (1 : Int32)) <<< (((7 : Int32) - (u8.1 21)) &&& (31 : Int32))))) fun u12 =>
    bnd (sF u12 21 (((u12.1 21) + (1 : Int32)) - ((u12.1 21) + (1 : Int32)) / (8 : Int32) * (8 : Int32))) fun u13 =>
    bnd (x2 + (-1 : Int32)) fun x14 =>
    f_X7_putBits_L4 p1 n4 K66_6 x14 u13) fun K20_9 =>
    if (u3.1 21) = (0 : Int32) then (
    oC1 (f_X7_putByte u3 (0 : Int32)) fun u16 =>
    K20_9 u16) else (
    K20_9 u3))

def f_X7_putBits (uM : OS) (p1 : Int32) (p2 : Int32) : Option (OS) :=
  bnd (p2 - (1 : Int32)) fun x1 =>
  bnd (fun (x4 : Int32) (u5 : OS) =>
  some u5) fun K66_6 =>
  f_X7_putBits_L4 p1 FU K66_6 x1 uM

set_option maxHeartbeats 4000000 in
set_option maxRecDepth 100000 in
theorem c_X7_putBits (l : Launch) (dC : Nat → ClassId) (dI : Nat → Nat → Nat) (cI cJ : ClassId) (aM : Nat) (hM : Nat → Nat) (sz : Nat) (uM : OS) (p1 : Int32) (p2 : Int32) (o : OS) (hm : f_X7_putBits uM p1 p2 = some o) : Met l yX7_putBits (wq yX7_putBits cX7_putBits 4 none) ({ frames := 1, cells := 0, slots := 0, locals := 21 } : Room) (va_Pc [.ref aM, .int p1, .int p2] (pcW dC dI cI cJ sz (wM cI cJ aM hM uM))) (va_Qv (S := OS) (fun u => some u = some o) (fun (u : OS) t => va_P (dC, dI) vwCl (wM cI cJ aM hM u) t.heap ∧ va_D (va_A (wM cI cJ aM hM uM) sz) (wM cI cJ aM hM u)) (va_A (wM cI cJ aM hM uM) sz)) 0 0 (va_A (wM cI cJ aM hM uM) sz) := by
  refine Met.ofW (cc := cX7_putBits) (maxL := 4) (ret := none) (by decide) rfl ?_
  intro p e s m args below meth c s₁ B hml hv
  obtain ⟨rfl, hsz, hP, hK, hD0, hN⟩ := hv
  have hx := B.exec
  have hb := B.bytes
  have hr := B.returns
  have ht : ∀ w ∈ lw_good, w.before _ s = true := fun w h => atoms_spec (ws := wq yX7_putBits cX7_putBits 4 none) B.pre w (wq_mem h)
  have hown : s.vm.findClass RX7 = some m.cls := findClass_of_methodNamed B.named
  have hlocks := B.notSynchronized
  subst hsz
  have hD := hD0.self (sz := s.heap.size)
  generalize hAe : va_A (wM cI cJ aM hM uM) s.heap.size = A at hD ⊢
  have hA : ∀ q : Nat, s.heap.size ≤ q → A q := fun q h => by rw [← hAe]; exact Or.inr h
  have hS : va_S A s.heap s.heap [] := va_S.rf
  have hl := lv_entry ([.ref aM, .int p1, .int p2]) (n := 4) (Nat.le_of_ble_eq_true rfl)
  rw [lg_entry_eq]
  generalize (lg_sl ([.ref aM, .int p1, .int p2]) ++ List.replicate (4 - (lg_sl ([.ref aM, .int p1, .int p2])).length) Slot.unset).toArray = ls at hl ⊢
  have hl : lv_has ls 4 [(0, .ref aM), (1, .int p1), (2, .int p2)] := hl
  generalize hQ : MQ below _ _ s _ _ _ = Q
  generalize hH : s.heap = H at hP ⊢
  have hS : va_S A s.heap H [] := by rw [← hH]; exact va_S.rf
  show W p l e ({ frames := 1, cells := 0, slots := 0, locals := 21 } : Room) s m ([.ref aM, .int p1, .int p2] : List Value).toArray below meth c H [] 0 0 Q (F0 m 0 ls [])
  unfold f_X7_putBits at hm
  refine lv_iload_n hx hb dX7_putBits_0 rfl (lv_at hl 2 rfl) ?_
  refine lv_iconst (v := (1 : Int32)) hx hb dX7_putBits_1 (by decide) ?_
  refine lv_isub hx hb dX7_putBits_2 ?_
  refine lv_topi (fun x1 ex1 => ?_)
  have hm := bnd_nm ex1 hm
  refine lv_istore_n (lv' := [(3, .int x1), (0, .ref aM), (1, .int p1), (2, .int p2)]) hx hb dX7_putBits_3 rfl hl (by decide) rfl (fun ls hl => ?_)
  obtain ⟨K66_6, eK66_6, hm⟩ := bnd_ex hm
  have X66_6 : ∀ (x4 : Int32) (u5 : OS) (H : Heap) (locs : List Loc) (ls : Array Slot), K66_6 x4 u5 = some o → va_P (dC, dI) vwCl (wM cI cJ aM hM u5) H → va_D A (wM cI cJ aM hM u5) → va_S A s.heap H locs → lv_has ls 4 [(0, .ref aM), (1, .int p1), (2, .int p2), (3, .int x4)] → W p l e ({ frames := 1, cells := 0, slots := 0, locals := 21 } : Room) s m ([.ref aM, .int p1, .int p2] : List Value).toArray below meth c H locs 0 0 Q (F0 m 66 ls []) := by
    intro x4 u5 H locs ls hm hP hD hS hl
    have hm := ap2 eK66_6 hm
    rw [← hQ]
    exact W.vret hx hb hr (fun t ht1 hW => ⟨⟨u5, rfl, hm, by rw [ht1]; exact hP, hD⟩, hS.F ht1⟩) hS.2.2 dX7_putBits_66
  have LP4 : ∀ (n4 : Nat) (x2 : Int32) (u3 : OS) (H : Heap) (locs : List Loc) (ls : Array Slot), f_X7_putBits_L4 p1 n4 K66_6 x2 u3 = some o → va_P (dC, dI) vwCl (wM cI cJ aM hM u3) H → va_D A (wM cI cJ aM hM u3) → va_S A s.heap H locs → lv_has ls 4 [(0, .ref aM), (1, .int p1), (2, .int p2), (3, .int x2)] → W p l e ({ frames := 1, cells := 0, slots := 0, locals := 21 } : Room) s m ([.ref aM, .int p1, .int p2] : List Value).toArray below meth c H locs 0 0 Q (F0 m 4 ls []) := by
    intro n4
    induction n4 with
    | zero => intro x2 u3 H locs ls hm; exact nomatch (show (none : Option _) = some _ from hm)
    | succ n4 ih4 =>
      intro x2 u3 H locs ls hm hP hD hS hl
      unfold f_X7_putBits_L4 at hm
      refine lv_iload_n hx hb dX7_putBits_4 rfl (lv_at hl 3 rfl) ?_
      refine lv_if_lt (tgt := 66) hx hb dX7_putBits_5 (by decide) (fun c7 => ?_) (fun c7 => ?_)
      · have hm := ite_t c7 hm
        exact X66_6 x2 u3 _ _ _ hm hP hD hS (lv_sub hl [0, 1, 2, 3] rfl)
      · have hm := ite_f c7 hm
        refine lv_aload_n hx hb dX7_putBits_8 rfl (lv_at hl 0 rfl) ?_
        refine va_get (D := (dC, dI)) (ci := 8) (v := .int (u3.1 21)) (C := RX7) (T := TX7) (N := 34) hx hb ht inX7 hown hK hP 0 rfl rfl 21 (by decide) (ht _ kw_37) (fun _ h9 => h9) rfl dX7_putBits_9 ?_
        obtain ⟨K20_9, eK20_9, hm⟩ := bnd_ex hm
        have J20_9 : ∀ (u8 : OS) (H : Heap) (locs : List Loc) (ls : Array Slot), K20_9 u8 = some o → va_P (dC, dI) vwCl (wM cI cJ aM hM u8) H → va_D A (wM cI cJ aM hM u8) → va_S A s.heap H locs → lv_has ls 4 [(0, .ref aM), (1, .int p1), (2, .int p2), (3, .int x2)] → W p l e ({ frames := 1, cells := 0, slots := 0, locals := 21 } : Room) s m ([.ref aM, .int p1, .int p2] : List Value).toArray below meth c H locs 0 0 Q (F0 m 20 ls []) := by
          intro u8 H locs ls hm hP hD hS hl
          have hm := ap1 eK20_9 hm
          refine lv_aload_n hx hb dX7_putBits_20 rfl (lv_at hl 0 rfl) ?_
          refine va_get (D := (dC, dI)) (ci := 8) (v := .ref (hM 14)) (C := RX7) (T := TX7) (N := 34) hx hb ht inX7 hown hK hP 0 rfl rfl 14 (by decide) (ht _ kw_31) (fun _ h9 => h9) rfl dX7_putBits_21 ?_
          refine lv_aload_n hx hb dX7_putBits_24 rfl (lv_at hl 0 rfl) ?_
          refine va_get (D := (dC, dI)) (ci := 8) (v := .int (u8.1 15)) (C := RX7) (T := TX7) (N := 34) hx hb ht inX7 hown hK hP 0 rfl rfl 15 (by decide) (ht _ kw_32) (fun _ h9 => h9) rfl dX7_putBits_25 ?_
          refine lv_iconst (v := (1 : Int32)) hx hb dX7_putBits_28 (by decide) ?_
          refine lv_isub hx hb dX7_putBits_29 ?_
          refine lv_dup2_11 hx hb dX7_putBits_30 rfl rfl ?_
          obtain ⟨g10, hm⟩ := gdi_of hm
          refine va_iald hx hb hK hP 9 0 rfl rfl g10 dX7_putBits_31 ?_
          refine lv_iload_n hx hb dX7_putBits_32 rfl (lv_at hl 1 rfl) ?_
          refine lv_iload_n hx hb dX7_putBits_33 rfl (lv_at hl 3 rfl) ?_
          refine lv_ishr hx hb dX7_putBits_34 ?_
          refine lv_iconst (v := (1 : Int32)) hx hb dX7_putBits_35 (by decide) ?_
          refine lv_iand hx hb dX7_putBits_36 ?_
          refine lv_bipush (v := (7 : Int32)) hx hb dX7_putBits_37 (by decide) ?_
          refine lv_aload_n hx hb dX7_putBits_39 rfl (lv_at hl 0 rfl) ?_
          refine va_get (D := (dC, dI)) (ci := 8) (v := .int (u8.1 21)) (C := RX7) (T := TX7) (N := 34) hx hb ht inX7 hown hK hP 0 rfl rfl 21 (by decide) (ht _ kw_37) (fun _ h9 => h9) rfl dX7_putBits_40 ?_
          refine lv_isub hx hb dX7_putBits_43 ?_
          refine lv_ishl hx hb dX7_putBits_44 ?_
          refine lv_ior hx hb dX7_putBits_45 ?_
          obtain ⟨g11, hm⟩ := gdi_of hm
          refine va_iast hx hb hK hP hD hS 9 0 rfl rfl g11 dX7_putBits_46 (fun H locs hP hD hS => ?_)
          obtain ⟨u12, eu12, hm⟩ := bnd_ex hm
          have hP : va_P (dC, dI) vwCl (wM cI cJ aM hM u12) H := by rw [eu12]; exact hP
          have hD : va_D A (wM cI cJ aM hM u12) := by rw [eu12]; exact hD
          refine lv_aload_n hx hb dX7_putBits_47 rfl (lv_at hl 0 rfl) ?_
          refine lv_aload_n hx hb dX7_putBits_48 rfl (lv_at hl 0 rfl) ?_
          refine va_get (D := (dC, dI)) (ci := 8) (v := .int (u12.1 21)) (C := RX7) (T := TX7) (N := 34) hx hb ht inX7 hown hK hP 0 rfl rfl 21 (by decide) (ht _ kw_37) (fun _ h9 => h9) rfl dX7_putBits_49 ?_
          refine lv_iconst (v := (1 : Int32)) hx hb dX7_putBits_52 (by decide) ?_
          refine lv_iadd hx hb dX7_putBits_53 ?_
          refine lv_bipush (v := (8 : Int32)) hx hb dX7_putBits_54 (by decide) ?_
          refine lv_irem hx hb dX7_putBits_56 (by decide) ?_
          refine va_put (D := (dC, dI)) (ci := 8) (v := .int (((u12.1 21) + (1 : Int32)) - ((u12.1 21) + (1 : Int32)) / (8 : Int32) * (8 : Int32))) (ty := .int) (C := RX7) (T := TX7) (N := 34) hx hb ht inX7 tyX7 tyX7_ok nmX7 hown hK hP hD hS 0 rfl rfl 21 (by decide) (ht _ kw_37) (fun _ h9 => h9) rfl (by decide +kernel) rfl rfl (Nat.le_of_ble_eq_true rfl) dX7_putBits_57 (fun H locs hP hD hS => ?_)
          obtain ⟨u13, eu13, hm⟩ := bnd_ex hm
          have hP : va_P (dC, dI) vwCl (wM cI cJ aM hM u13) H := by rw [eu13]; exact hP
          have hD : va_D A (wM cI cJ aM hM u13) := by rw [eu13]; exact hD
          obtain ⟨x14, ex14, hm⟩ := bnd_ex hm
          refine lv_iinc (v := x14) (lv' := [(3, .int x14), (0, .ref aM), (1, .int p1), (2, .int p2)]) hx hb dX7_putBits_60 hl (k := 3) rfl (by rw [ex14]; exact congrArg _ (by decide)) (by decide) rfl (fun ls hl => ?_)
          refine lv_goto (tgt := 4) hx hb dX7_putBits_63 (by decide) ?_
          exact ih4 x14 u13 _ _ _ hm hP hD hS (lv_sub hl [1, 2, 3, 0] rfl)
        refine lv_if_ne (tgt := 20) hx hb dX7_putBits_12 (by decide) (fun c15 => ?_) (fun c15 => ?_)
        · have hm := ite_f c15 hm
          exact J20_9 u3 _ _ _ hm hP hD hS (lv_sub hl [0, 1, 2, 3] rfl)
        · have hm := ite_t c15 hm
          refine lv_aload_n hx hb dX7_putBits_15 rfl (lv_at hl 0 rfl) ?_
          refine lv_iconst (v := (0 : Int32)) hx hb dX7_putBits_16 (by decide) ?_
          have hPc : va_P (dC, dI) vwCl (wM cI cJ aM hM u3) _ := hP
          have hDc : va_D A (wM cI cJ aM hM u3) := hD
          have hFc := va_free (wc := (wM cI cJ aM hM u3)) hD hS hA [0, 1, 2, 3, 4, 5, 6, 7, 8, 9, 10, 11, 12, 13, 14] rfl
          obtain ⟨u16o, e17, hm⟩ := oC1_of hm
          refine va_callv (va_runV (As := [.int (0 : Int32)]) (rest := []) ⟨hx, hb, hml, hown, ht⟩ (c_X7_putByte l dC dI cI cJ aM hM H.size u3 (0 : Int32) u16o e17) (cwV 1 ht (gdV kw_36 kw_34 kw_35 kw_7 kw_33) rfl rfl rfl ⟨rfl, nd_X7_putByte⟩ ⟨Nat.le_of_ble_eq_true rfl, Nat.le_of_ble_eq_true rfl⟩) ⟨pcW_blind, va_recv hK hPc (ci := 8) (q0 := 0) rfl rfl, pcW_pre hPc hK hDc hN⟩ rfl rfl hl.1 rfl (lv_room (Nat.le_of_ble_eq_true rfl)) dX7_putBits_17 ⟨Nat.zero_le _, Nat.zero_le _⟩) hS (fun q _ z => hFc q z) hFc (fun uu t H1 locs ht1 hvm hw hB hz1 hk1 hS => ?_)
          obtain ⟨u16, rfl⟩ : ∃ z, z = uu := ⟨_, rfl⟩
          obtain ⟨hP1, hD1⟩ := hB
          rw [ht1] at hP1
          obtain rfl : u16 = u16o := Option.some.inj hw
          have hP : va_P (dC, dI) vwCl (wM cI cJ aM hM u16) H1 := hP1
          have hD : va_D A (wM cI cJ aM hM u16) := hD1.weaken (fun _ q _ z => hFc q.1 z)
          generalize H1 = H at hP hS ⊢
          exact J20_9 u16 _ _ _ hm hP hD hS (lv_sub hl [0, 1, 2, 3] rfl)
  exact LP4 FU x1 uM _ _ _ hm hP hD hS (lv_sub hl [1, 2, 3, 0] rfl)

def f_X7_bitsOf_L2 (p1 : Int32) : Nat → (Int32 → Option (Int32)) → Int32 → Option (Int32)
  | 0, _, _ => none
  | n2 + 1, K14_3, x1 =>
    if (p1 >>> (x1 &&& (31 : Int32))) ≤ (0 : Int32) then (
    K14_3 x1) else (
    bnd (x1 + (1 : Int32)) fun x5 =>
    f_X7_bitsOf_L2 p1 n2 K14_3 x5)

def f_X7_bitsOf (p1 : Int32) : Option (Int32) :=
  bnd (fun (x2 : Int32) =>
  some x2) fun K14_3 =>
  f_X7_bitsOf_L2 p1 FU K14_3 (0 : Int32)

set_option maxHeartbeats 4000000 in
set_option maxRecDepth 100000 in
theorem c_X7_bitsOf (l : Launch) (dC : Nat → ClassId) (dI : Nat → Nat → Nat) (cI cJ : ClassId) (sz : Nat) (p1 : Int32) (o : Int32) (hm : f_X7_bitsOf p1 = some o) : Met l yX7_bitsOf (wq yX7_bitsOf cX7_bitsOf 2 (some .int)) ({ frames := 0, cells := 0, slots := 0, locals := 0 } : Room) (va_Pc [.int p1] (pcW dC dI cI cJ sz ([] : va_W))) (va_Qi (S := Unit) (fun r u => some r = some o) (fun (u : Unit) t => va_P (dC, dI) vwCl ([] : va_W) t.heap ∧ va_D (va_A ([] : va_W) sz) ([] : va_W)) (va_A ([] : va_W) sz)) 0 0 (va_A ([] : va_W) sz) := by
  refine Met.ofW (cc := cX7_bitsOf) (maxL := 2) (ret := (some .int)) (by decide) rfl ?_
  intro p e s m args below meth c s₁ B hml hv
  obtain ⟨rfl, hsz, hP, hK, hD0, hN⟩ := hv
  have hx := B.exec
  have hb := B.bytes
  have hr := B.returns
  have ht : ∀ w ∈ lw_good, w.before _ s = true := fun w h => atoms_spec (ws := wq yX7_bitsOf cX7_bitsOf 2 (some .int)) B.pre w (wq_mem h)
  have hown : s.vm.findClass RX7 = some m.cls := findClass_of_methodNamed B.named
  have hlocks := B.notSynchronized
  subst hsz
  have hD := hD0.self (sz := s.heap.size)
  generalize hAe : va_A ([] : va_W) s.heap.size = A at hD ⊢
  have hA : ∀ q : Nat, s.heap.size ≤ q → A q := fun q h => by rw [← hAe]; exact Or.inr h
  have hS : va_S A s.heap s.heap [] := va_S.rf
  have hl := lv_entry ([.int p1]) (n := 2) (Nat.le_of_ble_eq_true rfl)
  rw [lg_entry_eq]
  generalize (lg_sl ([.int p1]) ++ List.replicate (2 - (lg_sl ([.int p1])).length) Slot.unset).toArray = ls at hl ⊢
  have hl : lv_has ls 2 [(0, .int p1)] := hl
  generalize hQ : MQ below _ _ s _ _ _ = Q
  generalize hH : s.heap = H at hP ⊢
  have hS : va_S A s.heap H [] := by rw [← hH]; exact va_S.rf
  show W p l e ({ frames := 0, cells := 0, slots := 0, locals := 0 } : Room) s m ([.int p1] : List Value).toArray below meth c H [] 0 0 Q (F0 m 0 ls [])
  unfold f_X7_bitsOf at hm
  refine lv_iconst (v := (0 : Int32)) hx hb dX7_bitsOf_0 (by decide) ?_
  refine lv_istore_n (lv' := [(1, .int (0 : Int32)), (0, .int p1)]) hx hb dX7_bitsOf_1 rfl hl (by decide) rfl (fun ls hl => ?_)
  obtain ⟨K14_3, eK14_3, hm⟩ := bnd_ex hm
  have X14_3 : ∀ (x2 : Int32) (H : Heap) (locs : List Loc) (ls : Array Slot), K14_3 x2 = some o → va_P (dC, dI) vwCl ([] : va_W) H → va_D A ([] : va_W) → va_S A s.heap H locs → lv_has ls 2 [(0, .int p1), (1, .int x2)] → W p l e ({ frames := 0, cells := 0, slots := 0, locals := 0 } : Room) s m ([.int p1] : List Value).toArray below meth c H locs 0 0 Q (F0 m 14 ls []) := by
    intro x2 H locs ls hm hP hD hS hl
    have hm := ap1 eK14_3 hm
    refine lv_iload_n hx hb dX7_bitsOf_14 rfl (lv_at hl 1 rfl) ?_
    rw [← hQ]
    exact W.iret (v := x2) hx hb hr (fun t ht1 hW => ⟨⟨_, (), rfl, hm, by rw [ht1]; exact hP, hD⟩, hS.F ht1⟩) hS.2.2 dX7_bitsOf_15
  have LP2 : ∀ (n2 : Nat) (x1 : Int32) (H : Heap) (locs : List Loc) (ls : Array Slot), f_X7_bitsOf_L2 p1 n2 K14_3 x1 = some o → va_P (dC, dI) vwCl ([] : va_W) H → va_D A ([] : va_W) → va_S A s.heap H locs → lv_has ls 2 [(0, .int p1), (1, .int x1)] → W p l e ({ frames := 0, cells := 0, slots := 0, locals := 0 } : Room) s m ([.int p1] : List Value).toArray below meth c H locs 0 0 Q (F0 m 2 ls []) := by
    intro n2
    induction n2 with
    | zero => intro x1 H locs ls hm; exact nomatch (show (none : Option _) = some _ from hm)
    | succ n2 ih2 =>
      intro x1 H locs ls hm hP hD hS hl
      unfold f_X7_bitsOf_L2 at hm
      refine lv_iload_n hx hb dX7_bitsOf_2 rfl (lv_at hl 0 rfl) ?_
      refine lv_iload_n hx hb dX7_bitsOf_3 rfl (lv_at hl 1 rfl) ?_
      refine lv_ishr hx hb dX7_bitsOf_4 ?_
      refine lv_if_le (tgt := 14) hx hb dX7_bitsOf_5 (by decide) (fun c4 => ?_) (fun c4 => ?_)
      · have hm := ite_t c4 hm
        exact X14_3 x1 _ _ _ hm hP hD hS (lv_sub hl [0, 1] rfl)
      · have hm := ite_f c4 hm
        obtain ⟨x5, ex5, hm⟩ := bnd_ex hm
        refine lv_iinc (v := x5) (lv' := [(1, .int x5), (0, .int p1)]) hx hb dX7_bitsOf_8 hl (k := 1) rfl (by rw [ex5]; exact congrArg _ (by decide)) (by decide) rfl (fun ls hl => ?_)
        refine lv_goto (tgt := 2) hx hb dX7_bitsOf_11 (by decide) ?_
        exact ih2 x5 _ _ _ hm hP hD hS (lv_sub hl [1, 0] rfl)
  exact LP2 FU (0 : Int32) _ _ _ hm hP hD hS (lv_sub hl [1, 0] rfl)

def f_X7_writeTable_L14 : Nat → (Int32 → Int32 → OS → Option (OS)) → Int32 → Int32 → OS → Option (OS)
  | 0, _, _, _, _ => none
  | n14 + 1, K53_9, x3, x4, u5 =>
    if (32 : Int32) ≤ x3 then (
    K53_9 x4 x3 u5) else (
    if x4 ≤ (0 : Int32) then (
    K53_9 x4 x3 u5) else (
    gdi x3 64 <|
    oC1 (f_X7_bitsOf x4) fun r14 =>
    oC1 (f_X7_putBits u5 (u5.2.1 8 (x3).toNatClampNeg) r14) fun u16 =>
    gdi x3 64 <|
    bnd (x4 - (u16.2.1 8 (x3).toNatClampNeg)) fun x19 =>
    bnd (x3 + (1 : Int32)) fun x20 =>
    f_X7_writeTable_L14 n14 K53_9 x20 x19 u16))

def f_X7_writeTable (uM : OS) : Option (OS) :=
  bnd ((1 : Int32) <<< ((uM.1 0) &&& (31 : Int32))) fun x1 =>
  bnd (sF uM 21 (0 : Int32)) fun u2 =>
  bnd (fun (x6 : Int32) (x7 : Int32) (u8 : OS) =>
  bnd (sF u8 21 (0 : Int32)) fun u10 =>
  some u10) fun K53_9 =>
  f_X7_writeTable_L14 FU K53_9 (0 : Int32) x1 u2

set_option maxHeartbeats 4000000 in
set_option maxRecDepth 100000 in
theorem c_X7_writeTable (l : Launch) (dC : Nat → ClassId) (dI : Nat → Nat → Nat) (cI cJ : ClassId) (aM : Nat) (hM : Nat → Nat) (sz : Nat) (uM : OS) (o : OS) (hm : f_X7_writeTable uM = some o) : Met l yX7_writeTable (wq yX7_writeTable cX7_writeTable 3 none) ({ frames := 2, cells := 0, slots := 0, locals := 44 } : Room) (va_Pc [.ref aM] (pcW dC dI cI cJ sz (wM cI cJ aM hM uM))) (va_Qv (S := OS) (fun u => some u = some o) (fun (u : OS) t => va_P (dC, dI) vwCl (wM cI cJ aM hM u) t.heap ∧ va_D (va_A (wM cI cJ aM hM uM) sz) (wM cI cJ aM hM u)) (va_A (wM cI cJ aM hM uM) sz)) 0 0 (va_A (wM cI cJ aM hM uM) sz) := by
  refine Met.ofW (cc := cX7_writeTable) (maxL := 3) (ret := none) (by decide) rfl ?_
  intro p e s m args below meth c s₁ B hml hv
  obtain ⟨rfl, hsz, hP, hK, hD0, hN⟩ := hv
  have hx := B.exec
  have hb := B.bytes
  have hr := B.returns
  have ht : ∀ w ∈ lw_good, w.before _ s = true := fun w h => atoms_spec (ws := wq yX7_writeTable cX7_writeTable 3 none) B.pre w (wq_mem h)
  have hown : s.vm.findClass RX7 = some m.cls := findClass_of_methodNamed B.named
  have hlocks := B.notSynchronized
  subst hsz
  have hD := hD0.self (sz := s.heap.size)
  generalize hAe : va_A (wM cI cJ aM hM uM) s.heap.size = A at hD ⊢
  have hA : ∀ q : Nat, s.heap.size ≤ q → A q := fun q h => by rw [← hAe]; exact Or.inr h
  have hS : va_S A s.heap s.heap [] := va_S.rf
  have hl := lv_entry ([.ref aM]) (n := 3) (Nat.le_of_ble_eq_true rfl)
  rw [lg_entry_eq]
  generalize (lg_sl ([.ref aM]) ++ List.replicate (3 - (lg_sl ([.ref aM])).length) Slot.unset).toArray = ls at hl ⊢
  have hl : lv_has ls 3 [(0, .ref aM)] := hl
  generalize hQ : MQ below _ _ s _ _ _ = Q
  generalize hH : s.heap = H at hP ⊢
  have hS : va_S A s.heap H [] := by rw [← hH]; exact va_S.rf
  show W p l e ({ frames := 2, cells := 0, slots := 0, locals := 44 } : Room) s m ([.ref aM] : List Value).toArray below meth c H [] 0 0 Q (F0 m 0 ls [])
  unfold f_X7_writeTable at hm
  refine lv_iconst (v := (1 : Int32)) hx hb dX7_writeTable_0 (by decide) ?_
  refine lv_aload_n hx hb dX7_writeTable_1 rfl (lv_at hl 0 rfl) ?_
  refine va_get (D := (dC, dI)) (ci := 8) (v := .int (uM.1 0)) (C := RX7) (T := TX7) (N := 34) hx hb ht inX7 hown hK hP 0 rfl rfl 0 (by decide) (ht _ kw_14) (fun _ h9 => h9) rfl dX7_writeTable_2 ?_
  refine lv_ishl hx hb dX7_writeTable_5 ?_
  refine lv_topi (fun x1 ex1 => ?_)
  have hm := bnd_nm ex1 hm
  refine lv_istore_n (lv' := [(1, .int x1), (0, .ref aM)]) hx hb dX7_writeTable_6 rfl hl (by decide) rfl (fun ls hl => ?_)
  refine lv_aload_n hx hb dX7_writeTable_7 rfl (lv_at hl 1 rfl) ?_
  refine lv_iconst (v := (0 : Int32)) hx hb dX7_writeTable_8 (by decide) ?_
  refine va_put (D := (dC, dI)) (ci := 8) (v := .int (0 : Int32)) (ty := .int) (C := RX7) (T := TX7) (N := 34) hx hb ht inX7 tyX7 tyX7_ok nmX7 hown hK hP hD hS 0 rfl rfl 21 (by decide) (ht _ kw_37) (fun _ h9 => h9) rfl (by decide +kernel) rfl rfl (Nat.le_of_ble_eq_true rfl) dX7_writeTable_9 (fun H locs hP hD hS => ?_)
  obtain ⟨u2, eu2, hm⟩ := bnd_ex hm
  have hP : va_P (dC, dI) vwCl (wM cI cJ aM hM u2) H := by rw [eu2]; exact hP
  have hD : va_D A (wM cI cJ aM hM u2) := by rw [eu2]; exact hD
  refine lv_iconst (v := (0 : Int32)) hx hb dX7_writeTable_12 (by decide) ?_
  refine lv_istore_n (lv' := [(2, .int (0 : Int32)), (1, .int x1), (0, .ref aM)]) hx hb dX7_writeTable_13 rfl hl (by decide) rfl (fun ls hl => ?_)
  obtain ⟨K53_9, eK53_9, hm⟩ := bnd_ex hm
  have X53_9 : ∀ (x6 : Int32) (x7 : Int32) (u8 : OS) (H : Heap) (locs : List Loc) (ls : Array Slot), K53_9 x6 x7 u8 = some o → va_P (dC, dI) vwCl (wM cI cJ aM hM u8) H → va_D A (wM cI cJ aM hM u8) → va_S A s.heap H locs → lv_has ls 3 [(0, .ref aM), (1, .int x6), (2, .int x7)] → W p l e ({ frames := 2, cells := 0, slots := 0, locals := 44 } : Room) s m ([.ref aM] : List Value).toArray below meth c H locs 0 0 Q (F0 m 53 ls []) := by
    intro x6 x7 u8 H locs ls hm hP hD hS hl
    have hm := ap3 eK53_9 hm
    refine lv_aload_n hx hb dX7_writeTable_53 rfl (lv_at hl 0 rfl) ?_
    refine lv_iconst (v := (0 : Int32)) hx hb dX7_writeTable_54 (by decide) ?_
    refine va_put (D := (dC, dI)) (ci := 8) (v := .int (0 : Int32)) (ty := .int) (C := RX7) (T := TX7) (N := 34) hx hb ht inX7 tyX7 tyX7_ok nmX7 hown hK hP hD hS 0 rfl rfl 21 (by decide) (ht _ kw_37) (fun _ h9 => h9) rfl (by decide +kernel) rfl rfl (Nat.le_of_ble_eq_true rfl) dX7_writeTable_55 (fun H locs hP hD hS => ?_)
    obtain ⟨u10, eu10, hm⟩ := bnd_ex hm
    have hP : va_P (dC, dI) vwCl (wM cI cJ aM hM u10) H := by rw [eu10]; exact hP
    have hD : va_D A (wM cI cJ aM hM u10) := by rw [eu10]; exact hD
    rw [← hQ]
    exact W.vret hx hb hr (fun t ht1 hW => ⟨⟨u10, rfl, hm, by rw [ht1]; exact hP, hD⟩, hS.F ht1⟩) hS.2.2 dX7_writeTable_58
  have LP14 : ∀ (n14 : Nat) (x3 : Int32) (x4 : Int32) (u5 : OS) (H : Heap) (locs : List Loc) (ls : Array Slot), f_X7_writeTable_L14 n14 K53_9 x3 x4 u5 = some o → va_P (dC, dI) vwCl (wM cI cJ aM hM u5) H → va_D A (wM cI cJ aM hM u5) → va_S A s.heap H locs → lv_has ls 3 [(0, .ref aM), (1, .int x4), (2, .int x3)] → W p l e ({ frames := 2, cells := 0, slots := 0, locals := 44 } : Room) s m ([.ref aM] : List Value).toArray below meth c H locs 0 0 Q (F0 m 14 ls []) := by
    intro n14
    induction n14 with
    | zero => intro x3 x4 u5 H locs ls hm; exact nomatch (show (none : Option _) = some _ from hm)
    | succ n14 ih14 =>
      intro x3 x4 u5 H locs ls hm hP hD hS hl
      unfold f_X7_writeTable_L14 at hm
      refine lv_iload_n hx hb dX7_writeTable_14 rfl (lv_at hl 2 rfl) ?_
      refine lv_bipush (v := (32 : Int32)) hx hb dX7_writeTable_15 (by decide) ?_
      refine lv_icmp_ge (tgt := 53) hx hb dX7_writeTable_17 (by decide) (fun c11 => ?_) (fun c11 => ?_)
      · have hm := ite_t c11 hm
        exact X53_9 x4 x3 u5 _ _ _ hm hP hD hS (lv_sub hl [0, 1, 2] rfl)
      · have hm := ite_f c11 hm
        refine lv_iload_n hx hb dX7_writeTable_20 rfl (lv_at hl 1 rfl) ?_
        refine lv_if_le (tgt := 53) hx hb dX7_writeTable_21 (by decide) (fun c12 => ?_) (fun c12 => ?_)
        · have hm := ite_t c12 hm
          exact X53_9 x4 x3 u5 _ _ _ hm hP hD hS (lv_sub hl [0, 1, 2] rfl)
        · have hm := ite_f c12 hm
          refine lv_aload_n hx hb dX7_writeTable_24 rfl (lv_at hl 0 rfl) ?_
          refine lv_aload_n hx hb dX7_writeTable_25 rfl (lv_at hl 0 rfl) ?_
          refine va_get (D := (dC, dI)) (ci := 8) (v := .ref (hM 8)) (C := RX7) (T := TX7) (N := 34) hx hb ht inX7 hown hK hP 0 rfl rfl 8 (by decide) (ht _ kw_18) (fun _ h9 => h9) rfl dX7_writeTable_26 ?_
          refine lv_iload_n hx hb dX7_writeTable_29 rfl (lv_at hl 2 rfl) ?_
          obtain ⟨g13, hm⟩ := gdi_of hm
          refine va_iald hx hb hK hP 3 0 rfl rfl g13 dX7_writeTable_30 ?_
          refine lv_iload_n hx hb dX7_writeTable_31 rfl (lv_at hl 1 rfl) ?_
          have hPc : va_P (dC, dI) vwCl ([] : va_W) _ := hP.sub [] rfl
          have hDc : va_D A ([] : va_W) := hD.sub [] (by decide) rfl
          have hFc := va_free (wc := ([] : va_W)) hD hS hA [] rfl
          obtain ⟨r14o, e15, hm⟩ := oC1_of hm
          refine va_calli (va_runS (As := [.int x4]) (rest := [.int (u5.2.1 8 (x3).toNatClampNeg), .ref aM]) ⟨hx, hb, hml, hown, ht⟩ (c_X7_bitsOf l dC dI cI cJ H.size x4 r14o e15) (va_cwS 1 ht (gdS kw_40 kw_39 kw_7 kw_38) rfl rfl rfl nd_X7_bitsOf ⟨Nat.le_of_ble_eq_true rfl, Nat.le_of_ble_eq_true rfl⟩) ⟨pcW_blind, pcW_pre hPc hK hDc hN⟩ rfl rfl hl.1 rfl (lv_room (Nat.le_of_ble_eq_true rfl)) dX7_writeTable_32 ⟨Nat.zero_le _, Nat.zero_le _⟩) hS (fun q _ z => hFc q z) hFc (fun r14 uu t H1 locs ht1 hvm hw hB hz1 hk1 hS => ?_)
          obtain ⟨⟩ := uu
          obtain ⟨hP1, hD1⟩ := hB
          rw [ht1] at hP1
          obtain rfl : r14 = r14o := Option.some.inj hw
          obtain ⟨hP, hD⟩ := va_join (wr := (wM cI cJ aM hM u5)) (w1 := []) hP hD [] [0, 1, 2, 3, 4, 5, 6, 7, 8, 9, 10, 11, 12, 13, 14] rfl rfl (by decide) (by decide) hk1 hFc hP1 hD1
          have hP : va_P (dC, dI) vwCl (wM cI cJ aM hM u5) H1 := hP
          have hD : va_D A (wM cI cJ aM hM u5) := hD
          generalize H1 = H at hP hS ⊢
          have hPc : va_P (dC, dI) vwCl (wM cI cJ aM hM u5) _ := hP
          have hDc : va_D A (wM cI cJ aM hM u5) := hD
          have hFc := va_free (wc := (wM cI cJ aM hM u5)) hD hS hA [0, 1, 2, 3, 4, 5, 6, 7, 8, 9, 10, 11, 12, 13, 14] rfl
          obtain ⟨u16o, e17, hm⟩ := oC1_of hm
          refine va_callv (va_runV (As := [.int (u5.2.1 8 (x3).toNatClampNeg), .int r14]) (rest := []) ⟨hx, hb, hml, hown, ht⟩ (c_X7_putBits l dC dI cI cJ aM hM H.size u5 (u5.2.1 8 (x3).toNatClampNeg) r14 u16o e17) (cwV 2 ht (gdV kw_44 kw_42 kw_43 kw_7 kw_41) rfl rfl rfl ⟨rfl, nd_X7_putBits⟩ ⟨Nat.le_of_ble_eq_true rfl, Nat.le_of_ble_eq_true rfl⟩) ⟨pcW_blind, va_recv hK hPc (ci := 8) (q0 := 0) rfl rfl, pcW_pre hPc hK hDc hN⟩ rfl rfl hl.1 rfl (lv_room (Nat.le_of_ble_eq_true rfl)) dX7_writeTable_35 ⟨Nat.zero_le _, Nat.zero_le _⟩) hS (fun q _ z => hFc q z) hFc (fun uu t H1 locs ht1 hvm hw hB hz1 hk1 hS => ?_)
          obtain ⟨u16, rfl⟩ : ∃ z, z = uu := ⟨_, rfl⟩
          obtain ⟨hP1, hD1⟩ := hB
          rw [ht1] at hP1
          obtain rfl : u16 = u16o := Option.some.inj hw
          have hP : va_P (dC, dI) vwCl (wM cI cJ aM hM u16) H1 := hP1
          have hD : va_D A (wM cI cJ aM hM u16) := hD1.weaken (fun _ q _ z => hFc q.1 z)
          generalize H1 = H at hP hS ⊢
          refine lv_iload_n hx hb dX7_writeTable_38 rfl (lv_at hl 1 rfl) ?_
          refine lv_aload_n hx hb dX7_writeTable_39 rfl (lv_at hl 0 rfl) ?_
          refine va_get (D := (dC, dI)) (ci := 8) (v := .ref (hM 8)) (C := RX7) (T := TX7) (N := 34) hx hb ht inX7 hown hK hP 0 rfl rfl 8 (by decide) (ht _ kw_18) (fun _ h9 => h9) rfl dX7_writeTable_40 ?_
          refine lv_iload_n hx hb dX7_writeTable_43 rfl (lv_at hl 2 rfl) ?_
          obtain ⟨g18, hm⟩ := gdi_of hm
          refine va_iald hx hb hK hP 3 0 rfl rfl g18 dX7_writeTable_44 ?_
          refine lv_isub hx hb dX7_writeTable_45 ?_
          refine lv_topi (fun x19 ex19 => ?_)
          have hm := bnd_nm ex19 hm
          refine lv_istore_n (lv' := [(1, .int x19), (0, .ref aM), (2, .int x3)]) hx hb dX7_writeTable_46 rfl hl (by decide) rfl (fun ls hl => ?_)
          obtain ⟨x20, ex20, hm⟩ := bnd_ex hm
          refine lv_iinc (v := x20) (lv' := [(2, .int x20), (1, .int x19), (0, .ref aM)]) hx hb dX7_writeTable_47 hl (k := 2) rfl (by rw [ex20]; exact congrArg _ (by decide)) (by decide) rfl (fun ls hl => ?_)
          refine lv_goto (tgt := 14) hx hb dX7_writeTable_50 (by decide) ?_
          exact ih14 x20 x19 u16 _ _ _ hm hP hD hS (lv_sub hl [2, 1, 0] rfl)
  exact LP14 FU (0 : Int32) x1 u2 _ _ _ hm hP hD hS (lv_sub hl [2, 1, 0] rfl)
end
section
def f_X7_writeBytes_L8 (p2 : Int32) : Nat → (Int64 → OS → Option (OS)) → Int64 → OS → Option (OS)
  | 0, _, _, _ => none
  | n8 + 1, K62_7, y3, u4 =>
    if y3 < (((1 : Int64) <<< ((((31 : Int32) - (u4.1 0))).toInt64 &&& (63 : Int64))) * (p2).toInt64) then (
    K62_7 y3 u4) else (
    gdi (u4.1 20) 70000 <|
    bnd (sA u4 19 (u4.1 20) ((y3).toInt32 &&& (255 : Int32))) fun u14 =>
    bnd (sF u14 20 ((u14.1 20) + (1 : Int32))) fun u15 =>
    bnd (y3 >>> (((8 : Int32)).toInt64 &&& (63 : Int64))) fun y16 =>
    f_X7_writeBytes_L8 p2 n8 K62_7 y16 u15)

def f_X7_writeBytes (uM : OS) (p1 : Int32) (p2 : Int32) (p3 : Int32) : Option (OS) :=
  gdi p1 4 <|
  bnd (uM.2.2.1 16 (p1).toNatClampNeg) fun y2 =>
  bnd (fun (y5 : Int64) (u6 : OS) =>
  gdzl (p2).toInt64 <|
  gdzl (p2).toInt64 <|
  gdi p1 4 <|
  bnd (sL u6 16 p1 ((((y5 / (p2).toInt64) <<< (((u6.1 0)).toInt64 &&& (63 : Int64))) + (y5 - y5 / (p2).toInt64 * (p2).toInt64)) + (p3).toInt64)) fun u11 =>
  some u11) fun K62_7 =>
  f_X7_writeBytes_L8 p2 FU K62_7 y2 uM

set_option maxHeartbeats 4000000 in
set_option maxRecDepth 100000 in
theorem c_X7_writeBytes (l : Launch) (dC : Nat → ClassId) (dI : Nat → Nat → Nat) (cI cJ : ClassId) (aM : Nat) (hM : Nat → Nat) (sz : Nat) (uM : OS) (p1 : Int32) (p2 : Int32) (p3 : Int32) (o : OS) (hm : f_X7_writeBytes uM p1 p2 p3 = some o) : Met l yX7_writeBytes (wq yX7_writeBytes cX7_writeBytes 6 none) ({ frames := 0, cells := 0, slots := 0, locals := 0 } : Room) (va_Pc [.ref aM, .int p1, .int p2, .int p3] (pcW dC dI cI cJ sz (wM cI cJ aM hM uM))) (va_Qv (S := OS) (fun u => some u = some o) (fun (u : OS) t => va_P (dC, dI) vwCl (wM cI cJ aM hM u) t.heap ∧ va_D (va_A (wM cI cJ aM hM uM) sz) (wM cI cJ aM hM u)) (va_A (wM cI cJ aM hM uM) sz)) 0 0 (va_A (wM cI cJ aM hM uM) sz) := by
  refine Met.ofW (cc := cX7_writeBytes) (maxL := 6) (ret := none) (by decide) rfl ?_
  intro p e s m args below meth c s₁ B hml hv
  obtain ⟨rfl, hsz, hP, hK, hD0, hN⟩ := hv
  have hx := B.exec
  have hb := B.bytes
  have hr := B.returns
  have ht : ∀ w ∈ lw_good, w.before _ s = true := fun w h => atoms_spec (ws := wq yX7_writeBytes cX7_writeBytes 6 none) B.pre w (wq_mem h)
  have hown : s.vm.findClass RX7 = some m.cls := findClass_of_methodNamed B.named
  have hlocks := B.notSynchronized
  subst hsz
  have hD := hD0.self (sz := s.heap.size)
  generalize hAe : va_A (wM cI cJ aM hM uM) s.heap.size = A at hD ⊢
  have hA : ∀ q : Nat, s.heap.size ≤ q → A q := fun q h => by rw [← hAe]; exact Or.inr h
  have hS : va_S A s.heap s.heap [] := va_S.rf
  have hl := lv_entry ([.ref aM, .int p1, .int p2, .int p3]) (n := 6) (Nat.le_of_ble_eq_true rfl)
  rw [lg_entry_eq]
  generalize (lg_sl ([.ref aM, .int p1, .int p2, .int p3]) ++ List.replicate (6 - (lg_sl ([.ref aM, .int p1, .int p2, .int p3])).length) Slot.unset).toArray = ls at hl ⊢
  have hl : lv_has ls 6 [(0, .ref aM), (1, .int p1), (2, .int p2), (3, .int p3)] := hl
  generalize hQ : MQ below _ _ s _ _ _ = Q
  generalize hH : s.heap = H at hP ⊢
  have hS : va_S A s.heap H [] := by rw [← hH]; exact va_S.rf
  show W p l e ({ frames := 0, cells := 0, slots := 0, locals := 0 } : Room) s m ([.ref aM, .int p1, .int p2, .int p3] : List Value).toArray below meth c H [] 0 0 Q (F0 m 0 ls [])
  unfold f_X7_writeBytes at hm
  refine lv_aload_n hx hb dX7_writeBytes_0 rfl (lv_at hl 0 rfl) ?_
  refine va_get (D := (dC, dI)) (ci := 8) (v := .ref (hM 16)) (C := RX7) (T := TX7) (N := 34) hx hb ht inX7 hown hK hP 0 rfl rfl 16 (by decide) (ht _ kw_45) (fun _ h9 => h9) rfl dX7_writeBytes_1 ?_
  refine lv_iload_n hx hb dX7_writeBytes_4 rfl (lv_at hl 1 rfl) ?_
  obtain ⟨g1, hm⟩ := gdi_of hm
  refine va_lald hx hb hK hP 10 1 rfl rfl g1 dX7_writeBytes_5 ?_
  refine lv_topl (fun y2 ey2 => ?_)
  have hm := bnd_nm ey2 hm
  refine lv_lstore (lv' := [(4, .long y2), (0, .ref aM), (1, .int p1), (2, .int p2), (3, .int p3)]) hx hb dX7_writeBytes_6 hl (by decide) rfl (fun ls hl => ?_)
  obtain ⟨K62_7, eK62_7, hm⟩ := bnd_ex hm
  have X62_7 : ∀ (y5 : Int64) (u6 : OS) (H : Heap) (locs : List Loc) (ls : Array Slot), K62_7 y5 u6 = some o → va_P (dC, dI) vwCl (wM cI cJ aM hM u6) H → va_D A (wM cI cJ aM hM u6) → va_S A s.heap H locs → lv_has ls 6 [(0, .ref aM), (1, .int p1), (2, .int p2), (3, .int p3), (4, .long y5)] → W p l e ({ frames := 0, cells := 0, slots := 0, locals := 0 } : Room) s m ([.ref aM, .int p1, .int p2, .int p3] : List Value).toArray below meth c H locs 0 0 Q (F0 m 62 ls []) := by
    intro y5 u6 H locs ls hm hP hD hS hl
    have hm := ap2 eK62_7 hm
    refine lv_aload_n hx hb dX7_writeBytes_62 rfl (lv_at hl 0 rfl) ?_
    refine va_get (D := (dC, dI)) (ci := 8) (v := .ref (hM 16)) (C := RX7) (T := TX7) (N := 34) hx hb ht inX7 hown hK hP 0 rfl rfl 16 (by decide) (ht _ kw_45) (fun _ h9 => h9) rfl dX7_writeBytes_63 ?_
    refine lv_iload_n hx hb dX7_writeBytes_66 rfl (lv_at hl 1 rfl) ?_
    refine lv_lload hx hb dX7_writeBytes_67 (lv_at hl 4 rfl) ?_
    refine lv_iload_n hx hb dX7_writeBytes_69 rfl (lv_at hl 2 rfl) ?_
    refine lv_i2l hx hb dX7_writeBytes_70 rfl ?_
    obtain ⟨g8, hm⟩ := gdzl_of hm
    refine lv_ldiv hx hb dX7_writeBytes_71 g8 ?_
    refine lv_aload_n hx hb dX7_writeBytes_72 rfl (lv_at hl 0 rfl) ?_
    refine va_get (D := (dC, dI)) (ci := 8) (v := .int (u6.1 0)) (C := RX7) (T := TX7) (N := 34) hx hb ht inX7 hown hK hP 0 rfl rfl 0 (by decide) (ht _ kw_14) (fun _ h9 => h9) rfl dX7_writeBytes_73 ?_
    refine lv_lshl hx hb dX7_writeBytes_76 rfl ?_
    refine lv_lload hx hb dX7_writeBytes_77 (lv_at hl 4 rfl) ?_
    refine lv_iload_n hx hb dX7_writeBytes_79 rfl (lv_at hl 2 rfl) ?_
    refine lv_i2l hx hb dX7_writeBytes_80 rfl ?_
    obtain ⟨g9, hm⟩ := gdzl_of hm
    refine lv_lrem hx hb dX7_writeBytes_81 g9 ?_
    refine lv_ladd hx hb dX7_writeBytes_82 ?_
    refine lv_iload_n hx hb dX7_writeBytes_83 rfl (lv_at hl 3 rfl) ?_
    refine lv_i2l hx hb dX7_writeBytes_84 rfl ?_
    refine lv_ladd hx hb dX7_writeBytes_85 ?_
    obtain ⟨g10, hm⟩ := gdi_of hm
    refine va_last hx hb hK hP hD hS 10 1 rfl rfl g10 dX7_writeBytes_86 (fun H locs hP hD hS => ?_)
    obtain ⟨u11, eu11, hm⟩ := bnd_ex hm
    have hP : va_P (dC, dI) vwCl (wM cI cJ aM hM u11) H := by rw [eu11]; exact hP
    have hD : va_D A (wM cI cJ aM hM u11) := by rw [eu11]; exact hD
    rw [← hQ]
    exact W.vret hx hb hr (fun t ht1 hW => ⟨⟨u11, rfl, hm, by rw [ht1]; exact hP, hD⟩, hS.F ht1⟩) hS.2.2 dX7_writeBytes_87
  have LP8 : ∀ (n8 : Nat) (y3 : Int64) (u4 : OS) (H : Heap) (locs : List Loc) (ls : Array Slot), f_X7_writeBytes_L8 p2 n8 K62_7 y3 u4 = some o → va_P (dC, dI) vwCl (wM cI cJ aM hM u4) H → va_D A (wM cI cJ aM hM u4) → va_S A s.heap H locs → lv_has ls 6 [(0, .ref aM), (1, .int p1), (2, .int p2), (3, .int p3), (4, .long y3)] → W p l e ({ frames := 0, cells := 0, slots := 0, locals := 0 } : Room) s m ([.ref aM, .int p1, .int p2, .int p3] : List Value).toArray below meth c H locs 0 0 Q (F0 m 8 ls []) := by
    intro n8
    induction n8 with
    | zero => intro y3 u4 H locs ls hm; exact nomatch (show (none : Option _) = some _ from hm)
    | succ n8 ih8 =>
      intro y3 u4 H locs ls hm hP hD hS hl
      unfold f_X7_writeBytes_L8 at hm
      refine lv_lload hx hb dX7_writeBytes_8 (lv_at hl 4 rfl) ?_
      refine lv_lconst (v := (1 : Int64)) hx hb dX7_writeBytes_10 (by decide) ?_
      refine lv_bipush (v := (31 : Int32)) hx hb dX7_writeBytes_11 (by decide) ?_
      refine lv_aload_n hx hb dX7_writeBytes_13 rfl (lv_at hl 0 rfl) ?_
      refine va_get (D := (dC, dI)) (ci := 8) (v := .int (u4.1 0)) (C := RX7) (T := TX7) (N := 34) hx hb ht inX7 hown hK hP 0 rfl rfl 0 (by decide) (ht _ kw_14) (fun _ h9 => h9) rfl dX7_writeBytes_14 ?_
      refine lv_isub hx hb dX7_writeBytes_17 ?_
      refine lv_lshl hx hb dX7_writeBytes_18 rfl ?_
      refine lv_iload_n hx hb dX7_writeBytes_19 rfl (lv_at hl 2 rfl) ?_
      refine lv_i2l hx hb dX7_writeBytes_20 rfl ?_
      refine lv_lmul hx hb dX7_writeBytes_21 ?_
      refine W.lcmp hx hb dX7_writeBytes_22 ?_
      refine lv_if_lt (tgt := 62) hx hb dX7_writeBytes_23 (by decide) (fun c12 => ?_) (fun c12 => ?_)
      · have c12 := lgc_lt.mp c12
        have hm := ite_t c12 hm
        exact X62_7 y3 u4 _ _ _ hm hP hD hS (lv_sub hl [0, 1, 2, 3, 4] rfl)
      · have c12 := mt lgc_lt.mpr c12
        have hm := ite_f c12 hm
        refine lv_aload_n hx hb dX7_writeBytes_26 rfl (lv_at hl 0 rfl) ?_
        refine va_get (D := (dC, dI)) (ci := 8) (v := .ref (hM 19)) (C := RX7) (T := TX7) (N := 34) hx hb ht inX7 hown hK hP 0 rfl rfl 19 (by decide) (ht _ kw_46) (fun _ h9 => h9) rfl dX7_writeBytes_27 ?_
        refine lv_aload_n hx hb dX7_writeBytes_30 rfl (lv_at hl 0 rfl) ?_
        refine va_get (D := (dC, dI)) (ci := 8) (v := .int (u4.1 20)) (C := RX7) (T := TX7) (N := 34) hx hb ht inX7 hown hK hP 0 rfl rfl 20 (by decide) (ht _ kw_47) (fun _ h9 => h9) rfl dX7_writeBytes_31 ?_
        refine lv_lload hx hb dX7_writeBytes_34 (lv_at hl 4 rfl) ?_
        refine lv_l2i hx hb dX7_writeBytes_36 rfl ?_
        refine lv_sipush (v := (255 : Int32)) hx hb dX7_writeBytes_37 (by decide) ?_
        refine lv_iand hx hb dX7_writeBytes_40 ?_
        obtain ⟨g13, hm⟩ := gdi_of hm
        refine va_iast hx hb hK hP hD hS 12 0 rfl rfl g13 dX7_writeBytes_41 (fun H locs hP hD hS => ?_)
        obtain ⟨u14, eu14, hm⟩ := bnd_ex hm
        have hP : va_P (dC, dI) vwCl (wM cI cJ aM hM u14) H := by rw [eu14]; exact hP
        have hD : va_D A (wM cI cJ aM hM u14) := by rw [eu14]; exact hD
        refine lv_aload_n hx hb dX7_writeBytes_42 rfl (lv_at hl 0 rfl) ?_
        refine lv_dup hx hb dX7_writeBytes_43 rfl ?_
        refine va_get (D := (dC, dI)) (ci := 8) (v := .int (u14.1 20)) (C := RX7) (T := TX7) (N := 34) hx hb ht inX7 hown hK hP 0 rfl rfl 20 (by decide) (ht _ kw_47) (fun _ h9 => h9) rfl dX7_writeBytes_44 ?_
        refine lv_iconst (v := (1 : Int32)) hx hb dX7_writeBytes_47 (by decide) ?_
        refine lv_iadd hx hb dX7_writeBytes_48 ?_
        refine va_put (D := (dC, dI)) (ci := 8) (v := .int ((u14.1 20) + (1 : Int32))) (ty := .int) (C := RX7) (T := TX7) (N := 34) hx hb ht inX7 tyX7 tyX7_ok nmX7 hown hK hP hD hS 0 rfl rfl 20 (by decide) (ht _ kw_47) (fun _ h9 => h9) rfl (by decide +kernel) rfl rfl (Nat.le_of_ble_eq_true rfl) dX7_writeBytes_49 (fun H locs hP hD hS => ?_)
        obtain ⟨u15, eu15, hm⟩ := bnd_ex hm
        have hP : va_P (dC, dI) vwCl (wM cI cJ aM hM u15) H := by rw [eu15]; exact hP
        have hD : va_D A (wM cI cJ aM hM u15) := by rw [eu15]; exact hD
        refine lv_lload hx hb dX7_writeBytes_52 (lv_at hl 4 rfl) ?_
        refine lv_bipush (v := (8 : Int32)) hx hb dX7_writeBytes_54 (by decide) ?_
        refine lv_lshr hx hb dX7_writeBytes_56 rfl ?_
        refine lv_topl (fun y16 ey16 => ?_)
        have hm := bnd_nm ey16 hm
        refine lv_lstore (lv' := [(4, .long y16), (0, .ref aM), (1, .int p1), (2, .int p2), (3, .int p3)]) hx hb dX7_writeBytes_57 hl (by decide) rfl (fun ls hl => ?_)
        refine lv_goto (tgt := 8) hx hb dX7_writeBytes_59 (by decide) ?_
        exact ih8 y16 u15 _ _ _ hm hP hD hS (lv_sub hl [1, 2, 3, 4, 0] rfl)
  exact LP8 FU y2 uM _ _ _ hm hP hD hS (lv_sub hl [1, 2, 3, 4, 0] rfl)

def f_X7_writeWords_L8 (p2 : Int32) : Nat → (Int64 → OS → Option (OS)) → Int64 → OS → Option (OS)
  | 0, _, _, _ => none
  | n8 + 1, K58_7, y3, u4 =>
    if y3 < (((1 : Int64) <<< ((((63 : Int32) - (u4.1 0))).toInt64 &&& (63 : Int64))) * (p2).toInt64) then (
    K58_7 y3 u4) else (
    gdi (u4.1 20) 70000 <|
    bnd (sA u4 19 (u4.1 20) (y3).toInt32) fun u14 =>
    bnd (sF u14 20 ((u14.1 20) + (1 : Int32))) fun u15 =>
    bnd (((y3).toUInt64 >>> (((32 : Int32)).toInt64.toUInt64 &&& Int64.toUInt64 63)).toInt64) fun y16 =>
    f_X7_writeWords_L8 p2 n8 K58_7 y16 u15)

def f_X7_writeWords (uM : OS) (p1 : Int32) (p2 : Int32) (p3 : Int32) : Option (OS) :=
  gdi p1 4 <|
  bnd (uM.2.2.1 16 (p1).toNatClampNeg) fun y2 =>
  bnd (fun (y5 : Int64) (u6 : OS) =>
  gdzl (p2).toInt64 <|
  gdzl (p2).toInt64 <|
  gdi p1 4 <|
  bnd (sL u6 16 p1 ((((y5 / (p2).toInt64) <<< (((u6.1 0)).toInt64 &&& (63 : Int64))) + (y5 - y5 / (p2).toInt64 * (p2).toInt64)) + (p3).toInt64)) fun u11 =>
  some u11) fun K58_7 =>
  f_X7_writeWords_L8 p2 FU K58_7 y2 uM

set_option maxHeartbeats 4000000 in
set_option maxRecDepth 100000 in
theorem c_X7_writeWords (l : Launch) (dC : Nat → ClassId) (dI : Nat → Nat → Nat) (cI cJ : ClassId) (aM : Nat) (hM : Nat → Nat) (sz : Nat) (uM : OS) (p1 : Int32) (p2 : Int32) (p3 : Int32) (o : OS) (hm : f_X7_writeWords uM p1 p2 p3 = some o) : Met l yX7_writeWords (wq yX7_writeWords cX7_writeWords 6 none) ({ frames := 0, cells := 0, slots := 0, locals := 0 } : Room) (va_Pc [.ref aM, .int p1, .int p2, .int p3] (pcW dC dI cI cJ sz (wM cI cJ aM hM uM))) (va_Qv (S := OS) (fun u => some u = some o) (fun (u : OS) t => va_P (dC, dI) vwCl (wM cI cJ aM hM u) t.heap ∧ va_D (va_A (wM cI cJ aM hM uM) sz) (wM cI cJ aM hM u)) (va_A (wM cI cJ aM hM uM) sz)) 0 0 (va_A (wM cI cJ aM hM uM) sz) := by
  refine Met.ofW (cc := cX7_writeWords) (maxL := 6) (ret := none) (by decide) rfl ?_
  intro p e s m args below meth c s₁ B hml hv
  obtain ⟨rfl, hsz, hP, hK, hD0, hN⟩ := hv
  have hx := B.exec
  have hb := B.bytes
  have hr := B.returns
  have ht : ∀ w ∈ lw_good, w.before _ s = true := fun w h => atoms_spec (ws := wq yX7_writeWords cX7_writeWords 6 none) B.pre w (wq_mem h)
  have hown : s.vm.findClass RX7 = some m.cls := findClass_of_methodNamed B.named
  have hlocks := B.notSynchronized
  subst hsz
  have hD := hD0.self (sz := s.heap.size)
  generalize hAe : va_A (wM cI cJ aM hM uM) s.heap.size = A at hD ⊢
  have hA : ∀ q : Nat, s.heap.size ≤ q → A q := fun q h => by rw [← hAe]; exact Or.inr h
  have hS : va_S A s.heap s.heap [] := va_S.rf
  have hl := lv_entry ([.ref aM, .int p1, .int p2, .int p3]) (n := 6) (Nat.le_of_ble_eq_true rfl)
  rw [lg_entry_eq]
  generalize (lg_sl ([.ref aM, .int p1, .int p2, .int p3]) ++ List.replicate (6 - (lg_sl ([.ref aM, .int p1, .int p2, .int p3])).length) Slot.unset).toArray = ls at hl ⊢
  have hl : lv_has ls 6 [(0, .ref aM), (1, .int p1), (2, .int p2), (3, .int p3)] := hl
  generalize hQ : MQ below _ _ s _ _ _ = Q
  generalize hH : s.heap = H at hP ⊢
  have hS : va_S A s.heap H [] := by rw [← hH]; exact va_S.rf
  show W p l e ({ frames := 0, cells := 0, slots := 0, locals := 0 } : Room) s m ([.ref aM, .int p1, .int p2, .int p3] : List Value).toArray below meth c H [] 0 0 Q (F0 m 0 ls [])
  unfold f_X7_writeWords at hm
  refine lv_aload_n hx hb dX7_writeWords_0 rfl (lv_at hl 0 rfl) ?_
  refine va_get (D := (dC, dI)) (ci := 8) (v := .ref (hM 16)) (C := RX7) (T := TX7) (N := 34) hx hb ht inX7 hown hK hP 0 rfl rfl 16 (by decide) (ht _ kw_45) (fun _ h9 => h9) rfl dX7_writeWords_1 ?_
  refine lv_iload_n hx hb dX7_writeWords_4 rfl (lv_at hl 1 rfl) ?_
  obtain ⟨g1, hm⟩ := gdi_of hm
  refine va_lald hx hb hK hP 10 1 rfl rfl g1 dX7_writeWords_5 ?_
  refine lv_topl (fun y2 ey2 => ?_)
  have hm := bnd_nm ey2 hm
  refine lv_lstore (lv' := [(4, .long y2), (0, .ref aM), (1, .int p1), (2, .int p2), (3, .int p3)]) hx hb dX7_writeWords_6 hl (by decide) rfl (fun ls hl => ?_)
  obtain ⟨K58_7, eK58_7, hm⟩ := bnd_ex hm
  have X58_7 : ∀ (y5 : Int64) (u6 : OS) (H : Heap) (locs : List Loc) (ls : Array Slot), K58_7 y5 u6 = some o → va_P (dC, dI) vwCl (wM cI cJ aM hM u6) H → va_D A (wM cI cJ aM hM u6) → va_S A s.heap H locs → lv_has ls 6 [(0, .ref aM), (1, .int p1), (2, .int p2), (3, .int p3), (4, .long y5)] → W p l e ({ frames := 0, cells := 0, slots := 0, locals := 0 } : Room) s m ([.ref aM, .int p1, .int p2, .int p3] : List Value).toArray below meth c H locs 0 0 Q (F0 m 58 ls []) := by
    intro y5 u6 H locs ls hm hP hD hS hl
    have hm := ap2 eK58_7 hm
    refine lv_aload_n hx hb dX7_writeWords_58 rfl (lv_at hl 0 rfl) ?_
    refine va_get (D := (dC, dI)) (ci := 8) (v := .ref (hM 16)) (C := RX7) (T := TX7) (N := 34) hx hb ht inX7 hown hK hP 0 rfl rfl 16 (by decide) (ht _ kw_45) (fun _ h9 => h9) rfl dX7_writeWords_59 ?_
    refine lv_iload_n hx hb dX7_writeWords_62 rfl (lv_at hl 1 rfl) ?_
    refine lv_lload hx hb dX7_writeWords_63 (lv_at hl 4 rfl) ?_
    refine lv_iload_n hx hb dX7_writeWords_65 rfl (lv_at hl 2 rfl) ?_
    refine lv_i2l hx hb dX7_writeWords_66 rfl ?_
    obtain ⟨g8, hm⟩ := gdzl_of hm
    refine lv_ldiv hx hb dX7_writeWords_67 g8 ?_
    refine lv_aload_n hx hb dX7_writeWords_68 rfl (lv_at hl 0 rfl) ?_
    refine va_get (D := (dC, dI)) (ci := 8) (v := .int (u6.1 0)) (C := RX7) (T := TX7) (N := 34) hx hb ht inX7 hown hK hP 0 rfl rfl 0 (by decide) (ht _ kw_14) (fun _ h9 => h9) rfl dX7_writeWords_69 ?_
    refine lv_lshl hx hb dX7_writeWords_72 rfl ?_
    refine lv_lload hx hb dX7_writeWords_73 (lv_at hl 4 rfl) ?_
    refine lv_iload_n hx hb dX7_writeWords_75 rfl (lv_at hl 2 rfl) ?_
    refine lv_i2l hx hb dX7_writeWords_76 rfl ?_
    obtain ⟨g9, hm⟩ := gdzl_of hm
    refine lv_lrem hx hb dX7_writeWords_77 g9 ?_
    refine lv_ladd hx hb dX7_writeWords_78 ?_
    refine lv_iload_n hx hb dX7_writeWords_79 rfl (lv_at hl 3 rfl) ?_
    refine lv_i2l hx hb dX7_writeWords_80 rfl ?_
    refine lv_ladd hx hb dX7_writeWords_81 ?_
    obtain ⟨g10, hm⟩ := gdi_of hm
    refine va_last hx hb hK hP hD hS 10 1 rfl rfl g10 dX7_writeWords_82 (fun H locs hP hD hS => ?_)
    obtain ⟨u11, eu11, hm⟩ := bnd_ex hm
    have hP : va_P (dC, dI) vwCl (wM cI cJ aM hM u11) H := by rw [eu11]; exact hP
    have hD : va_D A (wM cI cJ aM hM u11) := by rw [eu11]; exact hD
    rw [← hQ]
    exact W.vret hx hb hr (fun t ht1 hW => ⟨⟨u11, rfl, hm, by rw [ht1]; exact hP, hD⟩, hS.F ht1⟩) hS.2.2 dX7_writeWords_83
  have LP8 : ∀ (n8 : Nat) (y3 : Int64) (u4 : OS) (H : Heap) (locs : List Loc) (ls : Array Slot), f_X7_writeWords_L8 p2 n8 K58_7 y3 u4 = some o → va_P (dC, dI) vwCl (wM cI cJ aM hM u4) H → va_D A (wM cI cJ aM hM u4) → va_S A s.heap H locs → lv_has ls 6 [(0, .ref aM), (1, .int p1), (2, .int p2), (3, .int p3), (4, .long y3)] → W p l e ({ frames := 0, cells := 0, slots := 0, locals := 0 } : Room) s m ([.ref aM, .int p1, .int p2, .int p3] : List Value).toArray below meth c H locs 0 0 Q (F0 m 8 ls []) := by
    intro n8
    induction n8 with
    | zero => intro y3 u4 H locs ls hm; exact nomatch (show (none : Option _) = some _ from hm)
    | succ n8 ih8 =>
      intro y3 u4 H locs ls hm hP hD hS hl
      unfold f_X7_writeWords_L8 at hm
      refine lv_lload hx hb dX7_writeWords_8 (lv_at hl 4 rfl) ?_
      refine lv_lconst (v := (1 : Int64)) hx hb dX7_writeWords_10 (by decide) ?_
      refine lv_bipush (v := (63 : Int32)) hx hb dX7_writeWords_11 (by decide) ?_
      refine lv_aload_n hx hb dX7_writeWords_13 rfl (lv_at hl 0 rfl) ?_
      refine va_get (D := (dC, dI)) (ci := 8) (v := .int (u4.1 0)) (C := RX7) (T := TX7) (N := 34) hx hb ht inX7 hown hK hP 0 rfl rfl 0 (by decide) (ht _ kw_14) (fun _ h9 => h9) rfl dX7_writeWords_14 ?_
      refine lv_isub hx hb dX7_writeWords_17 ?_
      refine lv_lshl hx hb dX7_writeWords_18 rfl ?_
      refine lv_iload_n hx hb dX7_writeWords_19 rfl (lv_at hl 2 rfl) ?_
      refine lv_i2l hx hb dX7_writeWords_20 rfl ?_
      refine lv_lmul hx hb dX7_writeWords_21 ?_
      refine W.lcmp hx hb dX7_writeWords_22 ?_
      refine lv_if_lt (tgt := 58) hx hb dX7_writeWords_23 (by decide) (fun c12 => ?_) (fun c12 => ?_)
      · have c12 := lgc_lt.mp c12
        have hm := ite_t c12 hm
        exact X58_7 y3 u4 _ _ _ hm hP hD hS (lv_sub hl [0, 1, 2, 3, 4] rfl)
      · have c12 := mt lgc_lt.mpr c12
        have hm := ite_f c12 hm
        refine lv_aload_n hx hb dX7_writeWords_26 rfl (lv_at hl 0 rfl) ?_
        refine va_get (D := (dC, dI)) (ci := 8) (v := .ref (hM 19)) (C := RX7) (T := TX7) (N := 34) hx hb ht inX7 hown hK hP 0 rfl rfl 19 (by decide) (ht _ kw_46) (fun _ h9 => h9) rfl dX7_writeWords_27 ?_
        refine lv_aload_n hx hb dX7_writeWords_30 rfl (lv_at hl 0 rfl) ?_
        refine va_get (D := (dC, dI)) (ci := 8) (v := .int (u4.1 20)) (C := RX7) (T := TX7) (N := 34) hx hb ht inX7 hown hK hP 0 rfl rfl 20 (by decide) (ht _ kw_47) (fun _ h9 => h9) rfl dX7_writeWords_31 ?_
        refine lv_lload hx hb dX7_writeWords_34 (lv_at hl 4 rfl) ?_
        refine lv_l2i hx hb dX7_writeWords_36 rfl ?_
        obtain ⟨g13, hm⟩ := gdi_of hm
        refine va_iast hx hb hK hP hD hS 12 0 rfl rfl g13 dX7_writeWords_37 (fun H locs hP hD hS => ?_)
        obtain ⟨u14, eu14, hm⟩ := bnd_ex hm
        have hP : va_P (dC, dI) vwCl (wM cI cJ aM hM u14) H := by rw [eu14]; exact hP
        have hD : va_D A (wM cI cJ aM hM u14) := by rw [eu14]; exact hD
        refine lv_aload_n hx hb dX7_writeWords_38 rfl (lv_at hl 0 rfl) ?_
        refine lv_dup hx hb dX7_writeWords_39 rfl ?_
        refine va_get (D := (dC, dI)) (ci := 8) (v := .int (u14.1 20)) (C := RX7) (T := TX7) (N := 34) hx hb ht inX7 hown hK hP 0 rfl rfl 20 (by decide) (ht _ kw_47) (fun _ h9 => h9) rfl dX7_writeWords_40 ?_
        refine lv_iconst (v := (1 : Int32)) hx hb dX7_writeWords_43 (by decide) ?_
        refine lv_iadd hx hb dX7_writeWords_44 ?_
        refine va_put (D := (dC, dI)) (ci := 8) (v := .int ((u14.1 20) + (1 : Int32))) (ty := .int) (C := RX7) (T := TX7) (N := 34) hx hb ht inX7 tyX7 tyX7_ok nmX7 hown hK hP hD hS 0 rfl rfl 20 (by decide) (ht _ kw_47) (fun _ h9 => h9) rfl (by decide +kernel) rfl rfl (Nat.le_of_ble_eq_true rfl) dX7_writeWords_45 (fun H locs hP hD hS => ?_)
        obtain ⟨u15, eu15, hm⟩ := bnd_ex hm
        have hP : va_P (dC, dI) vwCl (wM cI cJ aM hM u15) H := by rw [eu15]; exact hP
        have hD : va_D A (wM cI cJ aM hM u15) := by rw [eu15]; exact hD
        refine lv_lload hx hb dX7_writeWords_48 (lv_at hl 4 rfl) ?_
        refine lv_bipush (v := (32 : Int32)) hx hb dX7_writeWords_50 (by decide) ?_
        refine lv_lushr hx hb dX7_writeWords_52 rfl ?_
        refine lv_topl (fun y16 ey16 => ?_)
        have hm := bnd_nm ey16 hm
        refine lv_lstore (lv' := [(4, .long y16), (0, .ref aM), (1, .int p1), (2, .int p2), (3, .int p3)]) hx hb dX7_writeWords_53 hl (by decide) rfl (fun ls hl => ?_)
        refine lv_goto (tgt := 8) hx hb dX7_writeWords_55 (by decide) ?_
        exact ih8 y16 u15 _ _ _ hm hP hD hS (lv_sub hl [1, 2, 3, 4, 0] rfl)
  exact LP8 FU y2 uM _ _ _ hm hP hD hS (lv_sub hl [1, 2, 3, 4, 0] rfl)

def f_X7_writeBitsOf_L8 (p2 : Int32) : Nat → (Int64 → OS → Option (OS)) → Int64 → OS → Option (OS)
  | 0, _, _, _ => none
  | n8 + 1, K53_7, y3, u4 =>
    if y3 < ((2 : Int64) * (p2).toInt64) then (
    K53_7 y3 u4) else (
    gdi (u4.1 20) 70000 <|
    bnd (sA u4 19 (u4.1 20) ((y3).toInt32 &&& (1 : Int32))) fun u13 =>
    bnd (sF u13 20 ((u13.1 20) + (1 : Int32))) fun u14 =>
    bnd (y3 >>> (((1 : Int32)).toInt64 &&& (63 : Int64))) fun y15 =>
    f_X7_writeBitsOf_L8 p2 n8 K53_7 y15 u14)

def f_X7_writeBitsOf (uM : OS) (p1 : Int32) (p2 : Int32) (p3 : Int32) : Option (OS) :=
  gdi p1 4 <|
  bnd (uM.2.2.1 16 (p1).toNatClampNeg) fun y2 =>
  bnd (fun (y5 : Int64) (u6 : OS) =>
  gdi ((p3 + (y5).toInt32) - p2) 8192 <|
  gdi p1 4 <|
  bnd (sL u6 16 p1 (((1 : Int64) <<< (((u6.1 0)).toInt64 &&& (63 : Int64))) + ((u6.2.1 13 (((p3 + (y5).toInt32) - p2)).toNatClampNeg)).toInt64)) fun u10 =>
  some u10) fun K53_7 =>
  f_X7_writeBitsOf_L8 p2 FU K53_7 y2 uM

set_option maxHeartbeats 4000000 in
set_option maxRecDepth 100000 in
theorem c_X7_writeBitsOf (l : Launch) (dC : Nat → ClassId) (dI : Nat → Nat → Nat) (cI cJ : ClassId) (aM : Nat) (hM : Nat → Nat) (sz : Nat) (uM : OS) (p1 : Int32) (p2 : Int32) (p3 : Int32) (o : OS) (hm : f_X7_writeBitsOf uM p1 p2 p3 = some o) : Met l yX7_writeBitsOf (wq yX7_writeBitsOf cX7_writeBitsOf 6 none) ({ frames := 0, cells := 0, slots := 0, locals := 0 } : Room) (va_Pc [.ref aM, .int p1, .int p2, .int p3] (pcW dC dI cI cJ sz (wM cI cJ aM hM uM))) (va_Qv (S := OS) (fun u => some u = some o) (fun (u : OS) t => va_P (dC, dI) vwCl (wM cI cJ aM hM u) t.heap ∧ va_D (va_A (wM cI cJ aM hM uM) sz) (wM cI cJ aM hM u)) (va_A (wM cI cJ aM hM uM) sz)) 0 0 (va_A (wM cI cJ aM hM uM) sz) := by
  refine Met.ofW (cc := cX7_writeBitsOf) (maxL := 6) (ret := none) (by decide) rfl ?_
  intro p e s m args below meth c s₁ B hml hv
  obtain ⟨rfl, hsz, hP, hK, hD0, hN⟩ := hv
  have hx := B.exec
  have hb := B.bytes
  have hr := B.returns
  have ht : ∀ w ∈ lw_good, w.before _ s = true := fun w h => atoms_spec (ws := wq yX7_writeBitsOf cX7_writeBitsOf 6 none) B.pre w (wq_mem h)
  have hown : s.vm.findClass RX7 = some m.cls := findClass_of_methodNamed B.named
  have hlocks := B.notSynchronized
  subst hsz
  have hD := hD0.self (sz := s.heap.size)
  generalize hAe : va_A (wM cI cJ aM hM uM) s.heap.size = A at hD ⊢
  have hA : ∀ q : Nat, s.heap.size ≤ q → A q := fun q h => by rw [← hAe]; exact Or.inr h
  have hS : va_S A s.heap s.heap [] := va_S.rf
  have hl := lv_entry ([.ref aM, .int p1, .int p2, .int p3]) (n := 6) (Nat.le_of_ble_eq_true rfl)
  rw [lg_entry_eq]
  generalize (lg_sl ([.ref aM, .int p1, .int p2, .int p3]) ++ List.replicate (6 - (lg_sl ([.ref aM, .int p1, .int p2, .int p3])).length) Slot.unset).toArray = ls at hl ⊢
  have hl : lv_has ls 6 [(0, .ref aM), (1, .int p1), (2, .int p2), (3, .int p3)] := hl
  generalize hQ : MQ below _ _ s _ _ _ = Q
  generalize hH : s.heap = H at hP ⊢
  have hS : va_S A s.heap H [] := by rw [← hH]; exact va_S.rf
  show W p l e ({ frames := 0, cells := 0, slots := 0, locals := 0 } : Room) s m ([.ref aM, .int p1, .int p2, .int p3] : List Value).toArray below meth c H [] 0 0 Q (F0 m 0 ls [])
  unfold f_X7_writeBitsOf at hm
  refine lv_aload_n hx hb dX7_writeBitsOf_0 rfl (lv_at hl 0 rfl) ?_
  refine va_get (D := (dC, dI)) (ci := 8) (v := .ref (hM 16)) (C := RX7) (T := TX7) (N := 34) hx hb ht inX7 hown hK hP 0 rfl rfl 16 (by decide) (ht _ kw_45) (fun _ h9 => h9) rfl dX7_writeBitsOf_1 ?_
  refine lv_iload_n hx hb dX7_writeBitsOf_4 rfl (lv_at hl 1 rfl) ?_
  obtain ⟨g1, hm⟩ := gdi_of hm
  refine va_lald hx hb hK hP 10 1 rfl rfl g1 dX7_writeBitsOf_5 ?_
  refine lv_topl (fun y2 ey2 => ?_)
  have hm := bnd_nm ey2 hm
  refine lv_lstore (lv' := [(4, .long y2), (0, .ref aM), (1, .int p1), (2, .int p2), (3, .int p3)]) hx hb dX7_writeBitsOf_6 hl (by decide) rfl (fun ls hl => ?_)
  obtain ⟨K53_7, eK53_7, hm⟩ := bnd_ex hm
  have X53_7 : ∀ (y5 : Int64) (u6 : OS) (H : Heap) (locs : List Loc) (ls : Array Slot), K53_7 y5 u6 = some o → va_P (dC, dI) vwCl (wM cI cJ aM hM u6) H → va_D A (wM cI cJ aM hM u6) → va_S A s.heap H locs → lv_has ls 6 [(0, .ref aM), (1, .int p1), (2, .int p2), (3, .int p3), (4, .long y5)] → W p l e ({ frames := 0, cells := 0, slots := 0, locals := 0 } : Room) s m ([.ref aM, .int p1, .int p2, .int p3] : List Value).toArray below meth c H locs 0 0 Q (F0 m 53 ls []) := by
    intro y5 u6 H locs ls hm hP hD hS hl
    have hm := ap2 eK53_7 hm
    refine lv_aload_n hx hb dX7_writeBitsOf_53 rfl (lv_at hl 0 rfl) ?_
    refine va_get (D := (dC, dI)) (ci := 8) (v := .ref (hM 16)) (C := RX7) (T := TX7) (N := 34) hx hb ht inX7 hown hK hP 0 rfl rfl 16 (by decide) (ht _ kw_45) (fun _ h9 => h9) rfl dX7_writeBitsOf_54 ?_
    refine lv_iload_n hx hb dX7_writeBitsOf_57 rfl (lv_at hl 1 rfl) ?_
    refine lv_lconst (v := (1 : Int64)) hx hb dX7_writeBitsOf_58 (by decide) ?_
    refine lv_aload_n hx hb dX7_writeBitsOf_59 rfl (lv_at hl 0 rfl) ?_
    refine va_get (D := (dC, dI)) (ci := 8) (v := .int (u6.1 0)) (C := RX7) (T := TX7) (N := 34) hx hb ht inX7 hown hK hP 0 rfl rfl 0 (by decide) (ht _ kw_14) (fun _ h9 => h9) rfl dX7_writeBitsOf_60 ?_
    refine lv_lshl hx hb dX7_writeBitsOf_63 rfl ?_
    refine lv_aload_n hx hb dX7_writeBitsOf_64 rfl (lv_at hl 0 rfl) ?_
    refine va_get (D := (dC, dI)) (ci := 8) (v := .ref (hM 13)) (C := RX7) (T := TX7) (N := 34) hx hb ht inX7 hown hK hP 0 rfl rfl 13 (by decide) (ht _ kw_23) (fun _ h9 => h9) rfl dX7_writeBitsOf_65 ?_
    refine lv_iload_n hx hb dX7_writeBitsOf_68 rfl (lv_at hl 3 rfl) ?_
    refine lv_lload hx hb dX7_writeBitsOf_69 (lv_at hl 4 rfl) ?_
    refine lv_l2i hx hb dX7_writeBitsOf_71 rfl ?_
    refine lv_iadd hx hb dX7_writeBitsOf_72 ?_
    refine lv_iload_n hx hb dX7_writeBitsOf_73 rfl (lv_at hl 2 rfl) ?_
    refine lv_isub hx hb dX7_writeBitsOf_74 ?_
    obtain ⟨g8, hm⟩ := gdi_of hm
    refine va_iald hx hb hK hP 8 0 rfl rfl g8 dX7_writeBitsOf_75 ?_
    refine lv_i2l hx hb dX7_writeBitsOf_76 rfl ?_
    refine lv_ladd hx hb dX7_writeBitsOf_77 ?_
    obtain ⟨g9, hm⟩ := gdi_of hm
    refine va_last hx hb hK hP hD hS 10 1 rfl rfl g9 dX7_writeBitsOf_78 (fun H locs hP hD hS => ?_)
    obtain ⟨u10, eu10, hm⟩ := bnd_ex hm
    have hP : va_P (dC, dI) vwCl (wM cI cJ aM hM u10) H := by rw [eu10]; exact hP
    have hD : va_D A (wM cI cJ aM hM u10) := by rw [eu10]; exact hD
    rw [← hQ]
    exact W.vret hx hb hr (fun t ht1 hW => ⟨⟨u10, rfl, hm, by rw [ht1]; exact hP, hD⟩, hS.F ht1⟩) hS.2.2 dX7_writeBitsOf_79
  have LP8 : ∀ (n8 : Nat) (y3 : Int64) (u4 : OS) (H : Heap) (locs : List Loc) (ls : Array Slot), f_X7_writeBitsOf_L8 p2 n8 K53_7 y3 u4 = some o → va_P (dC, dI) vwCl (wM cI cJ aM hM u4) H → va_D A (wM cI cJ aM hM u4) → va_S A s.heap H locs → lv_has ls 6 [(0, .ref aM), (1, .int p1), (2, .int p2), (3, .int p3), (4, .long y3)] → W p l e ({ frames := 0, cells := 0, slots := 0, locals := 0 } : Room) s m ([.ref aM, .int p1, .int p2, .int p3] : List Value).toArray below meth c H locs 0 0 Q (F0 m 8 ls []) := by
    intro n8
    induction n8 with
    | zero => intro y3 u4 H locs ls hm; exact nomatch (show (none : Option _) = some _ from hm)
    | succ n8 ih8 =>
      intro y3 u4 H locs ls hm hP hD hS hl
      unfold f_X7_writeBitsOf_L8 at hm
      refine lv_lload hx hb dX7_writeBitsOf_8 (lv_at hl 4 rfl) ?_
      refine lv_ldc2 (v := (2 : Int64)) hx hb hown (ht _ kw_12) dX7_writeBitsOf_10 ?_
      refine lv_iload_n hx hb dX7_writeBitsOf_13 rfl (lv_at hl 2 rfl) ?_
      refine lv_i2l hx hb dX7_writeBitsOf_14 rfl ?_
      refine lv_lmul hx hb dX7_writeBitsOf_15 ?_
      refine W.lcmp hx hb dX7_writeBitsOf_16 ?_
      refine lv_if_lt (tgt := 53) hx hb dX7_writeBitsOf_17 (by decide) (fun c11 => ?_) (fun c11 => ?_)
      · have c11 := lgc_lt.mp c11
        have hm := ite_t c11 hm
        exact X53_7 y3 u4 _ _ _ hm hP hD hS (lv_sub hl [0, 1, 2, 3, 4] rfl)
      · have c11 := mt lgc_lt.mpr c11
        have hm := ite_f c11 hm
        refine lv_aload_n hx hb dX7_writeBitsOf_20 rfl (lv_at hl 0 rfl) ?_
        refine va_get (D := (dC, dI)) (ci := 8) (v := .ref (hM 19)) (C := RX7) (T := TX7) (N := 34) hx hb ht inX7 hown hK hP 0 rfl rfl 19 (by decide) (ht _ kw_46) (fun _ h9 => h9) rfl dX7_writeBitsOf_21 ?_
        refine lv_aload_n hx hb dX7_writeBitsOf_24 rfl (lv_at hl 0 rfl) ?_
        refine va_get (D := (dC, dI)) (ci := 8) (v := .int (u4.1 20)) (C := RX7) (T := TX7) (N := 34) hx hb ht inX7 hown hK hP 0 rfl rfl 20 (by decide) (ht _ kw_47) (fun _ h9 => h9) rfl dX7_writeBitsOf_25 ?_
        refine lv_lload hx hb dX7_writeBitsOf_28 (lv_at hl 4 rfl) ?_
        refine lv_l2i hx hb dX7_writeBitsOf_30 rfl ?_
        refine lv_iconst (v := (1 : Int32)) hx hb dX7_writeBitsOf_31 (by decide) ?_
        refine lv_iand hx hb dX7_writeBitsOf_32 ?_
        obtain ⟨g12, hm⟩ := gdi_of hm
        refine va_iast hx hb hK hP hD hS 12 0 rfl rfl g12 dX7_writeBitsOf_33 (fun H locs hP hD hS => ?_)
        obtain ⟨u13, eu13, hm⟩ := bnd_ex hm
        have hP : va_P (dC, dI) vwCl (wM cI cJ aM hM u13) H := by rw [eu13]; exact hP
        have hD : va_D A (wM cI cJ aM hM u13) := by rw [eu13]; exact hD
        refine lv_aload_n hx hb dX7_writeBitsOf_34 rfl (lv_at hl 0 rfl) ?_
        refine lv_dup hx hb dX7_writeBitsOf_35 rfl ?_
        refine va_get (D := (dC, dI)) (ci := 8) (v := .int (u13.1 20)) (C := RX7) (T := TX7) (N := 34) hx hb ht inX7 hown hK hP 0 rfl rfl 20 (by decide) (ht _ kw_47) (fun _ h9 => h9) rfl dX7_writeBitsOf_36 ?_
        refine lv_iconst (v := (1 : Int32)) hx hb dX7_writeBitsOf_39 (by decide) ?_
        refine lv_iadd hx hb dX7_writeBitsOf_40 ?_
        refine va_put (D := (dC, dI)) (ci := 8) (v := .int ((u13.1 20) + (1 : Int32))) (ty := .int) (C := RX7) (T := TX7) (N := 34) hx hb ht inX7 tyX7 tyX7_ok nmX7 hown hK hP hD hS 0 rfl rfl 20 (by decide) (ht _ kw_47) (fun _ h9 => h9) rfl (by decide +kernel) rfl rfl (Nat.le_of_ble_eq_true rfl) dX7_writeBitsOf_41 (fun H locs hP hD hS => ?_)
        obtain ⟨u14, eu14, hm⟩ := bnd_ex hm
        have hP : va_P (dC, dI) vwCl (wM cI cJ aM hM u14) H := by rw [eu14]; exact hP
        have hD : va_D A (wM cI cJ aM hM u14) := by rw [eu14]; exact hD
        refine lv_lload hx hb dX7_writeBitsOf_44 (lv_at hl 4 rfl) ?_
        refine lv_iconst (v := (1 : Int32)) hx hb dX7_writeBitsOf_46 (by decide) ?_
        refine lv_lshr hx hb dX7_writeBitsOf_47 rfl ?_
        refine lv_topl (fun y15 ey15 => ?_)
        have hm := bnd_nm ey15 hm
        refine lv_lstore (lv' := [(4, .long y15), (0, .ref aM), (1, .int p1), (2, .int p2), (3, .int p3)]) hx hb dX7_writeBitsOf_48 hl (by decide) rfl (fun ls hl => ?_)
        refine lv_goto (tgt := 8) hx hb dX7_writeBitsOf_50 (by decide) ?_
        exact ih8 y15 u14 _ _ _ hm hP hD hS (lv_sub hl [1, 2, 3, 4, 0] rfl)
  exact LP8 FU y2 uM _ _ _ hm hP hD hS (lv_sub hl [1, 2, 3, 4, 0] rfl)

def f_X7_laySides_L13 (p1 : Int32) (p2 : Int32) (p3 : Int32) : Nat → (Int32 → OS → Option (OS)) → Int32 → OS → Option (OS)
  | 0, _, _, _ => none
  | n13 + 1, K93_7, x3, u4 =>
    if (32 : Int32) ≤ x3 then (
    K93_7 x3 u4) else (
    if (x3 >>> (((5 : Int32) - p3) &&& (31 : Int32))) = p2 then (
    gdi (((32 : Int32) * p1) + x3) 64 <|
    bnd (sF u4 22 ((u4.1 22) + (u4.2.1 8 ((((32 : Int32) * p1) + x3)).toNatClampNeg))) fun u12 =>
    if ((x3 >>> (((4 : Int32) - p3) &&& (31 : Int32))) &&& (1 : Int32)) = (0 : Int32) then (
    gdi (((32 : Int32) * p1) + x3) 64 <|
    bnd (sF u12 23 ((u12.1 23) + (u12.2.1 8 ((((32 : Int32) * p1) + x3)).toNatClampNeg))) fun u17 =>
    bnd (x3 + (1 : Int32)) fun x18 =>
    f_X7_laySides_L13 p1 p2 p3 n13 K93_7 x18 u17) else (
    bnd (sF u12 23 ((u12.1 23) + (0 : Int32))) fun u14 =>
    bnd (x3 + (1 : Int32)) fun x15 =>
    f_X7_laySides_L13 p1 p2 p3 n13 K93_7 x15 u14)) else (
    bnd (x3 + (1 : Int32)) fun x10 =>
    f_X7_laySides_L13 p1 p2 p3 n13 K93_7 x10 u4))

def f_X7_laySides (uM : OS) (p1 : Int32) (p2 : Int32) (p3 : Int32) : Option (OS) :=
  bnd (sF uM 22 (0 : Int32)) fun u1 =>
  bnd (sF u1 23 (0 : Int32)) fun u2 =>
  bnd (fun (x5 : Int32) (u6 : OS) =>
  some u6) fun K93_7 =>
  f_X7_laySides_L13 p1 p2 p3 FU K93_7 (0 : Int32) u2

set_option maxHeartbeats 4000000 in
set_option maxRecDepth 100000 in
theorem c_X7_laySides (l : Launch) (dC : Nat → ClassId) (dI : Nat → Nat → Nat) (cI cJ : ClassId) (aM : Nat) (hM : Nat → Nat) (sz : Nat) (uM : OS) (p1 : Int32) (p2 : Int32) (p3 : Int32) (o : OS) (hm : f_X7_laySides uM p1 p2 p3 = some o) : Met l yX7_laySides (wq yX7_laySides cX7_laySides 5 none) ({ frames := 0, cells := 0, slots := 0, locals := 0 } : Room) (va_Pc [.ref aM, .int p1, .int p2, .int p3] (pcW dC dI cI cJ sz (wM cI cJ aM hM uM))) (va_Qv (S := OS) (fun u => some u = some o) (fun (u : OS) t => va_P (dC, dI) vwCl (wM cI cJ aM hM u) t.heap ∧ va_D (va_A (wM cI cJ aM hM uM) sz) (wM cI cJ aM hM u)) (va_A (wM cI cJ aM hM uM) sz)) 0 0 (va_A (wM cI cJ aM hM uM) sz) := by
  refine Met.ofW (cc := cX7_laySides) (maxL := 5) (ret := none) (by decide) rfl ?_
  intro p e s m args below meth c s₁ B hml hv
  obtain ⟨rfl, hsz, hP, hK, hD0, hN⟩ := hv
  have hx := B.exec
  have hb := B.bytes
  have hr := B.returns
  have ht : ∀ w ∈ lw_good, w.before _ s = true := fun w h => atoms_spec (ws := wq yX7_laySides cX7_laySides 5 none) B.pre w (wq_mem h)
  have hown : s.vm.findClass RX7 = some m.cls := findClass_of_methodNamed B.named
  have hlocks := B.notSynchronized
  subst hsz
  have hD := hD0.self (sz := s.heap.size)
  generalize hAe : va_A (wM cI cJ aM hM uM) s.heap.size = A at hD ⊢
  have hA : ∀ q : Nat, s.heap.size ≤ q → A q := fun q h => by rw [← hAe]; exact Or.inr h
  have hS : va_S A s.heap s.heap [] := va_S.rf
  have hl := lv_entry ([.ref aM, .int p1, .int p2, .int p3]) (n := 5) (Nat.le_of_ble_eq_true rfl)
  rw [lg_entry_eq]
  generalize (lg_sl ([.ref aM, .int p1, .int p2, .int p3]) ++ List.replicate (5 - (lg_sl ([.ref aM, .int p1, .int p2, .int p3])).length) Slot.unset).toArray = ls at hl ⊢
  have hl : lv_has ls 5 [(0, .ref aM), (1, .int p1), (2, .int p2), (3, .int p3)] := hl
  generalize hQ : MQ below _ _ s _ _ _ = Q
  generalize hH : s.heap = H at hP ⊢
  have hS : va_S A s.heap H [] := by rw [← hH]; exact va_S.rf
  show W p l e ({ frames := 0, cells := 0, slots := 0, locals := 0 } : Room) s m ([.ref aM, .int p1, .int p2, .int p3] : List Value).toArray below meth c H [] 0 0 Q (F0 m 0 ls [])
  unfold f_X7_laySides at hm
  refine lv_aload_n hx hb dX7_laySides_0 rfl (lv_at hl 0 rfl) ?_
  refine lv_iconst (v := (0 : Int32)) hx hb dX7_laySides_1 (by decide) ?_
  refine va_put (D := (dC, dI)) (ci := 8) (v := .int (0 : Int32)) (ty := .int) (C := RX7) (T := TX7) (N := 34) hx hb ht inX7 tyX7 tyX7_ok nmX7 hown hK hP hD hS 0 rfl rfl 22 (by decide) (ht _ kw_48) (fun _ h9 => h9) rfl (by decide +kernel) rfl rfl (Nat.le_of_ble_eq_true rfl) dX7_laySides_2 (fun H locs hP hD hS => ?_)
  obtain ⟨u1, eu1, hm⟩ := bnd_ex hm
  have hP : va_P (dC, dI) vwCl (wM cI cJ aM hM u1) H := by rw [eu1]; exact hP
  have hD : va_D A (wM cI cJ aM hM u1) := by rw [eu1]; exact hD
  refine lv_aload_n hx hb dX7_laySides_5 rfl (lv_at hl 0 rfl) ?_
  refine lv_iconst (v := (0 : Int32)) hx hb dX7_laySides_6 (by decide) ?_
  refine va_put (D := (dC, dI)) (ci := 8) (v := .int (0 : Int32)) (ty := .int) (C := RX7) (T := TX7) (N := 34) hx hb ht inX7 tyX7 tyX7_ok nmX7 hown hK hP hD hS 0 rfl rfl 23 (by decide) (ht _ kw_49) (fun _ h9 => h9) rfl (by decide +kernel) rfl rfl (Nat.le_of_ble_eq_true rfl) dX7_laySides_7 (fun H locs hP hD hS => ?_)
  obtain ⟨u2, eu2, hm⟩ := bnd_ex hm
  have hP : va_P (dC, dI) vwCl (wM cI cJ aM hM u2) H := by rw [eu2]; exact hP
  have hD : va_D A (wM cI cJ aM hM u2) := by rw [eu2]; exact hD
  refine lv_iconst (v := (0 : Int32)) hx hb dX7_laySides_10 (by decide) ?_
  refine lv_istore (lv' := [(4, .int (0 : Int32)), (0, .ref aM), (1, .int p1), (2, .int p2), (3, .int p3)]) hx hb dX7_laySides_11 hl (by decide) rfl (fun ls hl => ?_)
  obtain ⟨K93_7, eK93_7, hm⟩ := bnd_ex hm
  have X93_7 : ∀ (x5 : Int32) (u6 : OS) (H : Heap) (locs : List Loc) (ls : Array Slot), K93_7 x5 u6 = some o → va_P (dC, dI) vwCl (wM cI cJ aM hM u6) H → va_D A (wM cI cJ aM hM u6) → va_S A s.heap H locs → lv_has ls 5 [(0, .ref aM), (1, .int p1), (2, .int p2), (3, .int p3), (4, .int x5)] → W p l e ({ frames := 0, cells := 0, slots := 0, locals := 0 } : Room) s m ([.ref aM, .int p1, .int p2, .int p3] : List Value).toArray below meth c H locs 0 0 Q (F0 m 93 ls []) := by
    intro x5 u6 H locs ls hm hP hD hS hl
    have hm := ap2 eK93_7 hm
    rw [← hQ]
    exact W.vret hx hb hr (fun t ht1 hW => ⟨⟨u6, rfl, hm, by rw [ht1]; exact hP, hD⟩, hS.F ht1⟩) hS.2.2 dX7_laySides_93
  have LP13 : ∀ (n13 : Nat) (x3 : Int32) (u4 : OS) (H : Heap) (locs : List Loc) (ls : Array Slot), f_X7_laySides_L13 p1 p2 p3 n13 K93_7 x3 u4 = some o → va_P (dC, dI) vwCl (wM cI cJ aM hM u4) H → va_D A (wM cI cJ aM hM u4) → va_S A s.heap H locs → lv_has ls 5 [(0, .ref aM), (1, .int p1), (2, .int p2), (3, .int p3), (4, .int x3)] → W p l e ({ frames := 0, cells := 0, slots := 0, locals := 0 } : Room) s m ([.ref aM, .int p1, .int p2, .int p3] : List Value).toArray below meth c H locs 0 0 Q (F0 m 13 ls []) := by
    intro n13
    induction n13 with
    | zero => intro x3 u4 H locs ls hm; exact nomatch (show (none : Option _) = some _ from hm)
    | succ n13 ih13 =>
      intro x3 u4 H locs ls hm hP hD hS hl
      unfold f_X7_laySides_L13 at hm
      refine lv_iload hx hb dX7_laySides_13 (lv_at hl 4 rfl) ?_
      refine lv_bipush (v := (32 : Int32)) hx hb dX7_laySides_15 (by decide) ?_
      refine lv_icmp_ge (tgt := 93) hx hb dX7_laySides_17 (by decide) (fun c8 => ?_) (fun c8 => ?_)
      · have hm := ite_t c8 hm
        exact X93_7 x3 u4 _ _ _ hm hP hD hS (lv_sub hl [0, 1, 2, 3, 4] rfl)
      · have hm := ite_f c8 hm
        refine lv_iload hx hb dX7_laySides_20 (lv_at hl 4 rfl) ?_
        refine lv_iconst (v := (5 : Int32)) hx hb dX7_laySides_22 (by decide) ?_
        refine lv_iload_n hx hb dX7_laySides_23 rfl (lv_at hl 3 rfl) ?_
        refine lv_isub hx hb dX7_laySides_24 ?_
        refine lv_ishr hx hb dX7_laySides_25 ?_
        refine lv_iload_n hx hb dX7_laySides_26 rfl (lv_at hl 2 rfl) ?_
        refine lv_icmp_ne (tgt := 87) hx hb dX7_laySides_27 (by decide) (fun c9 => ?_) (fun c9 => ?_)
        · have hm := ite_f c9 hm
          obtain ⟨x10, ex10, hm⟩ := bnd_ex hm
          refine lv_iinc (v := x10) (lv' := [(4, .int x10), (0, .ref aM), (1, .int p1), (2, .int p2), (3, .int p3)]) hx hb dX7_laySides_87 hl (k := 4) rfl (by rw [ex10]; exact congrArg _ (by decide)) (by decide) rfl (fun ls hl => ?_)
          refine lv_goto (tgt := 13) hx hb dX7_laySides_90 (by decide) ?_
          exact ih13 x10 u4 _ _ _ hm hP hD hS (lv_sub hl [1, 2, 3, 4, 0] rfl)
        · have hm := ite_t c9 hm
          refine lv_aload_n hx hb dX7_laySides_30 rfl (lv_at hl 0 rfl) ?_
          refine lv_dup hx hb dX7_laySides_31 rfl ?_
          refine va_get (D := (dC, dI)) (ci := 8) (v := .int (u4.1 22)) (C := RX7) (T := TX7) (N := 34) hx hb ht inX7 hown hK hP 0 rfl rfl 22 (by decide) (ht _ kw_48) (fun _ h9 => h9) rfl dX7_laySides_32 ?_
          refine lv_aload_n hx hb dX7_laySides_35 rfl (lv_at hl 0 rfl) ?_
          refine va_get (D := (dC, dI)) (ci := 8) (v := .ref (hM 8)) (C := RX7) (T := TX7) (N := 34) hx hb ht inX7 hown hK hP 0 rfl rfl 8 (by decide) (ht _ kw_18) (fun _ h9 => h9) rfl dX7_laySides_36 ?_
          refine lv_bipush (v := (32 : Int32)) hx hb dX7_laySides_39 (by decide) ?_
          refine lv_iload_n hx hb dX7_laySides_41 rfl (lv_at hl 1 rfl) ?_
          refine lv_imul hx hb dX7_laySides_42 ?_
          refine lv_iload hx hb dX7_laySides_43 (lv_at hl 4 rfl) ?_
          refine lv_iadd hx hb dX7_laySides_45 ?_
          obtain ⟨g11, hm⟩ := gdi_of hm
          refine va_iald hx hb hK hP 3 0 rfl rfl g11 dX7_laySides_46 ?_
          refine lv_iadd hx hb dX7_laySides_47 ?_
          refine va_put (D := (dC, dI)) (ci := 8) (v := .int ((u4.1 22) + (u4.2.1 8 ((((32 : Int32) * p1) + x3)).toNatClampNeg))) (ty := .int) (C := RX7) (T := TX7) (N := 34) hx hb ht inX7 tyX7 tyX7_ok nmX7 hown hK hP hD hS 0 rfl rfl 22 (by decide) (ht _ kw_48) (fun _ h9 => h9) rfl (by decide +kernel) rfl rfl (Nat.le_of_ble_eq_true rfl) dX7_laySides_48 (fun H locs hP hD hS => ?_)
          obtain ⟨u12, eu12, hm⟩ := bnd_ex hm
          have hP : va_P (dC, dI) vwCl (wM cI cJ aM hM u12) H := by rw [eu12]; exact hP
          have hD : va_D A (wM cI cJ aM hM u12) := by rw [eu12]; exact hD
          refine lv_aload_n hx hb dX7_laySides_51 rfl (lv_at hl 0 rfl) ?_
          refine lv_dup hx hb dX7_laySides_52 rfl ?_
          refine va_get (D := (dC, dI)) (ci := 8) (v := .int (u12.1 23)) (C := RX7) (T := TX7) (N := 34) hx hb ht inX7 hown hK hP 0 rfl rfl 23 (by decide) (ht _ kw_49) (fun _ h9 => h9) rfl dX7_laySides_53 ?_
          refine lv_iload hx hb dX7_laySides_56 (lv_at hl 4 rfl) ?_
          refine lv_iconst (v := (4 : Int32)) hx hb dX7_laySides_58 (by decide) ?_
          refine lv_iload_n hx hb dX7_laySides_59 rfl (lv_at hl 3 rfl) ?_
          refine lv_isub hx hb dX7_laySides_60 ?_
          refine lv_ishr hx hb dX7_laySides_61 ?_
          refine lv_iconst (v := (1 : Int32)) hx hb dX7_laySides_62 (by decide) ?_
          refine lv_iand hx hb dX7_laySides_63 ?_
          refine lv_if_ne (tgt := 82) hx hb dX7_laySides_64 (by decide) (fun c13 => ?_) (fun c13 => ?_)
          · have hm := ite_f c13 hm
            refine lv_iconst (v := (0 : Int32)) hx hb dX7_laySides_82 (by decide) ?_
            refine lv_iadd hx hb dX7_laySides_83 ?_
            refine va_put (D := (dC, dI)) (ci := 8) (v := .int ((u12.1 23) + (0 : Int32))) (ty := .int) (C := RX7) (T := TX7) (N := 34) hx hb ht inX7 tyX7 tyX7_ok nmX7 hown hK hP hD hS 0 rfl rfl 23 (by decide) (ht _ kw_49) (fun _ h9 => h9) rfl (by decide +kernel) rfl rfl (Nat.le_of_ble_eq_true rfl) dX7_laySides_84 (fun H locs hP hD hS => ?_)
            obtain ⟨u14, eu14, hm⟩ := bnd_ex hm
            have hP : va_P (dC, dI) vwCl (wM cI cJ aM hM u14) H := by rw [eu14]; exact hP
            have hD : va_D A (wM cI cJ aM hM u14) := by rw [eu14]; exact hD
            obtain ⟨x15, ex15, hm⟩ := bnd_ex hm
            refine lv_iinc (v := x15) (lv' := [(4, .int x15), (0, .ref aM), (1, .int p1), (2, .int p2), (3, .int p3)]) hx hb dX7_laySides_87 hl (k := 4) rfl (by rw [ex15]; exact congrArg _ (by decide)) (by decide) rfl (fun ls hl => ?_)
            refine lv_goto (tgt := 13) hx hb dX7_laySides_90 (by decide) ?_
            exact ih13 x15 u14 _ _ _ hm hP hD hS (lv_sub hl [1, 2, 3, 4, 0] rfl)
          · have hm := ite_t c13 hm
            refine lv_aload_n hx hb dX7_laySides_67 rfl (lv_at hl 0 rfl) ?_
            refine va_get (D := (dC, dI)) (ci := 8) (v := .ref (hM 8)) (C := RX7) (T := TX7) (N := 34) hx hb ht inX7 hown hK hP 0 rfl rfl 8 (by decide) (ht _ kw_18) (fun _ h9 => h9) rfl dX7_laySides_68 ?_
            refine lv_bipush (v := (32 : Int32)) hx hb dX7_laySides_71 (by decide) ?_
            refine lv_iload_n hx hb dX7_laySides_73 rfl (lv_at hl 1 rfl) ?_
            refine lv_imul hx hb dX7_laySides_74 ?_
            refine lv_iload hx hb dX7_laySides_75 (lv_at hl 4 rfl) ?_
            refine lv_iadd hx hb dX7_laySides_77 ?_
            obtain ⟨g16, hm⟩ := gdi_of hm
            refine va_iald hx hb hK hP 3 0 rfl rfl g16 dX7_laySides_78 ?_
            refine lv_goto (tgt := 83) hx hb dX7_laySides_79 (by decide) ?_
            refine lv_iadd hx hb dX7_laySides_83 ?_
            refine va_put (D := (dC, dI)) (ci := 8) (v := .int ((u12.1 23) + (u12.2.1 8 ((((32 : Int32) * p1) + x3)).toNatClampNeg))) (ty := .int) (C := RX7) (T := TX7) (N := 34) hx hb ht inX7 tyX7 tyX7_ok nmX7 hown hK hP hD hS 0 rfl rfl 23 (by decide) (ht _ kw_49) (fun _ h9 => h9) rfl (by decide +kernel) rfl rfl (Nat.le_of_ble_eq_true rfl) dX7_laySides_84 (fun H locs hP hD hS => ?_)
            obtain ⟨u17, eu17, hm⟩ := bnd_ex hm
            have hP : va_P (dC, dI) vwCl (wM cI cJ aM hM u17) H := by rw [eu17]; exact hP
            have hD : va_D A (wM cI cJ aM hM u17) := by rw [eu17]; exact hD
            obtain ⟨x18, ex18, hm⟩ := bnd_ex hm
            refine lv_iinc (v := x18) (lv' := [(4, .int x18), (0, .ref aM), (1, .int p1), (2, .int p2), (3, .int p3)]) hx hb dX7_laySides_87 hl (k := 4) rfl (by rw [ex18]; exact congrArg _ (by decide)) (by decide) rfl (fun ls hl => ?_)
            refine lv_goto (tgt := 13) hx hb dX7_laySides_90 (by decide) ?_
            exact ih13 x18 u17 _ _ _ hm hP hD hS (lv_sub hl [1, 2, 3, 4, 0] rfl)
  exact LP13 FU (0 : Int32) u2 _ _ _ hm hP hD hS (lv_sub hl [1, 2, 3, 4, 0] rfl)

def f_X7_sideChance (uM : OS) (p1 : Int32) : Option (Int32) :=
  gdz (uM.1 22) <|
  bnd ((((uM.1 23) * p1) + ((uM.1 22) / (2 : Int32))) / (uM.1 22)) fun x2 =>
  if (1 : Int32) ≤ x2 then (
  if x2 ≤ (p1 - (1 : Int32)) then (
  some x2) else (
  some ((p1 - (1 : Int32))))) else (
  some (1 : Int32))

set_option maxHeartbeats 4000000 in
set_option maxRecDepth 100000 in
theorem c_X7_sideChance (l : Launch) (dC : Nat → ClassId) (dI : Nat → Nat → Nat) (cI cJ : ClassId) (aM : Nat) (hM : Nat → Nat) (sz : Nat) (uM : OS) (p1 : Int32) (o : Int32) (hm : f_X7_sideChance uM p1 = some o) : Met l yX7_sideChance (wq yX7_sideChance cX7_sideChance 3 (some .int)) ({ frames := 0, cells := 0, slots := 0, locals := 0 } : Room) (va_Pc [.ref aM, .int p1] (pcW dC dI cI cJ sz (wM cI cJ aM hM uM))) (va_Qi (S := Unit) (fun r u => some r = some o) (fun (u : Unit) t => va_P (dC, dI) vwCl (wM cI cJ aM hM uM) t.heap ∧ va_D (va_A (wM cI cJ aM hM uM) sz) (wM cI cJ aM hM uM)) (va_A (wM cI cJ aM hM uM) sz)) 0 0 (va_A (wM cI cJ aM hM uM) sz) := by
  refine Met.ofW (cc := cX7_sideChance) (maxL := 3) (ret := (some .int)) (by decide) rfl ?_
  intro p e s m args below meth c s₁ B hml hv
  obtain ⟨rfl, hsz, hP, hK, hD0, hN⟩ := hv
  have hx := B.exec
  have hb := B.bytes
  have hr := B.returns
  have ht : ∀ w ∈ lw_good, w.before _ s = true := fun w h => atoms_spec (ws := wq yX7_sideChance cX7_sideChance 3 (some .int)) B.pre w (wq_mem h)
  have hown : s.vm.findClass RX7 = some m.cls := findClass_of_methodNamed B.named
  have hlocks := B.notSynchronized
  subst hsz
  have hD := hD0.self (sz := s.heap.size)
  generalize hAe : va_A (wM cI cJ aM hM uM) s.heap.size = A at hD ⊢
  have hA : ∀ q : Nat, s.heap.size ≤ q → A q := fun q h => by rw [← hAe]; exact Or.inr h
  have hS : va_S A s.heap s.heap [] := va_S.rf
  have hl := lv_entry ([.ref aM, .int p1]) (n := 3) (Nat.le_of_ble_eq_true rfl)
  rw [lg_entry_eq]
  generalize (lg_sl ([.ref aM, .int p1]) ++ List.replicate (3 - (lg_sl ([.ref aM, .int p1])).length) Slot.unset).toArray = ls at hl ⊢
  have hl : lv_has ls 3 [(0, .ref aM), (1, .int p1)] := hl
  generalize hQ : MQ below _ _ s _ _ _ = Q
  generalize hH : s.heap = H at hP ⊢
  have hS : va_S A s.heap H [] := by rw [← hH]; exact va_S.rf
  show W p l e ({ frames := 0, cells := 0, slots := 0, locals := 0 } : Room) s m ([.ref aM, .int p1] : List Value).toArray below meth c H [] 0 0 Q (F0 m 0 ls [])
  unfold f_X7_sideChance at hm
  refine lv_aload_n hx hb dX7_sideChance_0 rfl (lv_at hl 0 rfl) ?_
  refine va_get (D := (dC, dI)) (ci := 8) (v := .int (uM.1 23)) (C := RX7) (T := TX7) (N := 34) hx hb ht inX7 hown hK hP 0 rfl rfl 23 (by decide) (ht _ kw_49) (fun _ h9 => h9) rfl dX7_sideChance_1 ?_
  refine lv_iload_n hx hb dX7_sideChance_4 rfl (lv_at hl 1 rfl) ?_
  refine lv_imul hx hb dX7_sideChance_5 ?_
  refine lv_aload_n hx hb dX7_sideChance_6 rfl (lv_at hl 0 rfl) ?_
  refine va_get (D := (dC, dI)) (ci := 8) (v := .int (uM.1 22)) (C := RX7) (T := TX7) (N := 34) hx hb ht inX7 hown hK hP 0 rfl rfl 22 (by decide) (ht _ kw_48) (fun _ h9 => h9) rfl dX7_sideChance_7 ?_
  refine lv_iconst (v := (2 : Int32)) hx hb dX7_sideChance_10 (by decide) ?_
  refine lv_idiv hx hb dX7_sideChance_11 (by decide) ?_
  refine lv_iadd hx hb dX7_sideChance_12 ?_
  refine lv_aload_n hx hb dX7_sideChance_13 rfl (lv_at hl 0 rfl) ?_
  refine va_get (D := (dC, dI)) (ci := 8) (v := .int (uM.1 22)) (C := RX7) (T := TX7) (N := 34) hx hb ht inX7 hown hK hP 0 rfl rfl 22 (by decide) (ht _ kw_48) (fun _ h9 => h9) rfl dX7_sideChance_14 ?_
  obtain ⟨g1, hm⟩ := gdz_of hm
  refine lv_idiv hx hb dX7_sideChance_17 g1 ?_
  refine lv_topi (fun x2 ex2 => ?_)
  have hm := bnd_nm ex2 hm
  refine lv_istore_n (lv' := [(2, .int x2), (0, .ref aM), (1, .int p1)]) hx hb dX7_sideChance_18 rfl hl (by decide) rfl (fun ls hl => ?_)
  refine lv_iload_n hx hb dX7_sideChance_19 rfl (lv_at hl 0 rfl) ?_
  refine lv_iconst (v := (1 : Int32)) hx hb dX7_sideChance_20 (by decide) ?_
  refine lv_icmp_ge (tgt := 28) hx hb dX7_sideChance_21 (by decide) (fun c3 => ?_) (fun c3 => ?_)
  · have hm := ite_t c3 hm
    refine lv_iload_n hx hb dX7_sideChance_28 rfl (lv_at hl 0 rfl) ?_
    refine lv_iload_n hx hb dX7_sideChance_29 rfl (lv_at hl 2 rfl) ?_
    refine lv_iconst (v := (1 : Int32)) hx hb dX7_sideChance_30 (by decide) ?_
    refine lv_isub hx hb dX7_sideChance_31 ?_
    refine lv_icmp_le (tgt := 41) hx hb dX7_sideChance_32 (by decide) (fun c4 => ?_) (fun c4 => ?_)
    · have hm := ite_t c4 hm
      refine lv_iload_n hx hb dX7_sideChance_41 rfl (lv_at hl 0 rfl) ?_
      rw [← hQ]
      exact W.iret (v := x2) hx hb hr (fun t ht1 hW => ⟨⟨_, (), rfl, hm, by rw [ht1]; exact hP, hD⟩, hS.F ht1⟩) hS.2.2 dX7_sideChance_42
    · have hm := ite_f c4 hm
      refine lv_iload_n hx hb dX7_sideChance_35 rfl (lv_at hl 2 rfl) ?_
      refine lv_iconst (v := (1 : Int32)) hx hb dX7_sideChance_36 (by decide) ?_
      refine lv_isub hx hb dX7_sideChance_37 ?_
      refine lv_goto (tgt := 42) hx hb dX7_sideChance_38 (by decide) ?_
      rw [← hQ]
      exact W.iret (v := (p1 - (1 : Int32))) hx hb hr (fun t ht1 hW => ⟨⟨_, (), rfl, hm, by rw [ht1]; exact hP, hD⟩, hS.F ht1⟩) hS.2.2 dX7_sideChance_42
  · have hm := ite_f c3 hm
    refine lv_iconst (v := (1 : Int32)) hx hb dX7_sideChance_24 (by decide) ?_
    refine lv_goto (tgt := 42) hx hb dX7_sideChance_25 (by decide) ?_
    rw [← hQ]
    exact W.iret (v := (1 : Int32)) hx hb hr (fun t ht1 hW => ⟨⟨_, (), rfl, hm, by rw [ht1]; exact hP, hD⟩, hS.F ht1⟩) hS.2.2 dX7_sideChance_42

def f_X7_writeSides_L2 (p1 : Int32) (p2 : Int32) : Nat → (Int32 → OS → Option (OS)) → Int32 → OS → Option (OS)
  | 0, _, _, _ => none
  | n2 + 1, K90_5, x1, u2 =>
    if x1 < (0 : Int32) then (
    K90_5 x1 u2) else (
    oC1 (f_X7_laySides u2 (0 : Int32) (p2 >>> (((5 : Int32) - x1) &&& (31 : Int32))) x1) fun u7 =>
    if (u7.1 23) ≤ (0 : Int32) then (
    bnd (x1 + (-1 : Int32)) fun x10 =>
    f_X7_writeSides_L2 p1 p2 n2 K90_5 x10 u7) else (
    if (u7.1 22) ≤ (u7.1 23) then (
    bnd (x1 + (-1 : Int32)) fun x12 =>
    f_X7_writeSides_L2 p1 p2 n2 K90_5 x12 u7) else (
    oC1 (f_X7_sideChance u7 ((1 : Int32) <<< ((u7.1 0) &&& (31 : Int32)))) fun r13 =>
    if ((p2 >>> (((4 : Int32) - x1) &&& (31 : Int32))) &&& (1 : Int32)) = (0 : Int32) then (
    oC1 (f_X7_writeBytes u7 p1 r13 (0 : Int32)) fun u19 =>
    bnd (x1 + (-1 : Int32)) fun x21 =>
    f_X7_writeSides_L2 p1 p2 n2 K90_5 x21 u19) else (
    oC1 (f_X7_writeBytes u7 p1 (((1 : Int32) <<< ((u7.1 0) &&& (31 : Int32))) - r13) r13) fun u16 =>
    bnd (x1 + (-1 : Int32)) fun x18 =>
    f_X7_writeSides_L2 p1 p2 n2 K90_5 x18 u16))))

def f_X7_writeSides (uM : OS) (p1 : Int32) (p2 : Int32) : Option (OS) :=
  bnd (fun (x3 : Int32) (u4 : OS) =>
  some u4) fun K90_5 =>
  f_X7_writeSides_L2 p1 p2 FU K90_5 (4 : Int32) uM

set_option maxHeartbeats 4000000 in
set_option maxRecDepth 100000 in
theorem c_X7_writeSides (l : Launch) (dC : Nat → ClassId) (dI : Nat → Nat → Nat) (cI cJ : ClassId) (aM : Nat) (hM : Nat → Nat) (sz : Nat) (uM : OS) (p1 : Int32) (p2 : Int32) (o : OS) (hm : f_X7_writeSides uM p1 p2 = some o) : Met l yX7_writeSides (wq yX7_writeSides cX7_writeSides 5 none) ({ frames := 1, cells := 0, slots := 0, locals := 25 } : Room) (va_Pc [.ref aM, .int p1, .int p2] (pcW dC dI cI cJ sz (wM cI cJ aM hM uM))) (va_Qv (S := OS) (fun u => some u = some o) (fun (u : OS) t => va_P (dC, dI) vwCl (wM cI cJ aM hM u) t.heap ∧ va_D (va_A (wM cI cJ aM hM uM) sz) (wM cI cJ aM hM u)) (va_A (wM cI cJ aM hM uM) sz)) 0 0 (va_A (wM cI cJ aM hM uM) sz) := by
  refine Met.ofW (cc := cX7_writeSides) (maxL := 5) (ret := none) (by decide) rfl ?_
  intro p e s m args below meth c s₁ B hml hv
  obtain ⟨rfl, hsz, hP, hK, hD0, hN⟩ := hv
  have hx := B.exec
  have hb := B.bytes
  have hr := B.returns
  have ht : ∀ w ∈ lw_good, w.before _ s = true := fun w h => atoms_spec (ws := wq yX7_writeSides cX7_writeSides 5 none) B.pre w (wq_mem h)
  have hown : s.vm.findClass RX7 = some m.cls := findClass_of_methodNamed B.named
  have hlocks := B.notSynchronized
  subst hsz
  have hD := hD0.self (sz := s.heap.size)
  generalize hAe : va_A (wM cI cJ aM hM uM) s.heap.size = A at hD ⊢
  have hA : ∀ q : Nat, s.heap.size ≤ q → A q := fun q h => by rw [← hAe]; exact Or.inr h
  have hS : va_S A s.heap s.heap [] := va_S.rf
  have hl := lv_entry ([.ref aM, .int p1, .int p2]) (n := 5) (Nat.le_of_ble_eq_true rfl)
  rw [lg_entry_eq]
  generalize (lg_sl ([.ref aM, .int p1, .int p2]) ++ List.replicate (5 - (lg_sl ([.ref aM, .int p1, .int p2])).length) Slot.unset).toArray = ls at hl ⊢
  have hl : lv_has ls 5 [(0, .ref aM), (1, .int p1), (2, .int p2)] := hl
  generalize hQ : MQ below _ _ s _ _ _ = Q
  generalize hH : s.heap = H at hP ⊢
  have hS : va_S A s.heap H [] := by rw [← hH]; exact va_S.rf
  show W p l e ({ frames := 1, cells := 0, slots := 0, locals := 25 } : Room) s m ([.ref aM, .int p1, .int p2] : List Value).toArray below meth c H [] 0 0 Q (F0 m 0 ls [])
  unfold f_X7_writeSides at hm
  refine lv_iconst (v := (4 : Int32)) hx hb dX7_writeSides_0 (by decide) ?_
  refine lv_istore_n (lv' := [(3, .int (4 : Int32)), (0, .ref aM), (1, .int p1), (2, .int p2)]) hx hb dX7_writeSides_1 rfl hl (by decide) rfl (fun ls hl => ?_)
  obtain ⟨K90_5, eK90_5, hm⟩ := bnd_ex hm
  have X90_5 : ∀ (x3 : Int32) (u4 : OS) (H : Heap) (locs : List Loc) (ls : Array Slot), K90_5 x3 u4 = some o → va_P (dC, dI) vwCl (wM cI cJ aM hM u4) H → va_D A (wM cI cJ aM hM u4) → va_S A s.heap H locs → lv_has ls 5 [(0, .ref aM), (1, .int p1), (2, .int p2), (3, .int x3)] → W p l e ({ frames := 1, cells := 0, slots := 0, locals := 25 } : Room) s m ([.ref aM, .int p1, .int p2] : List Value).toArray below meth c H locs 0 0 Q (F0 m 90 ls []) := by
    intro x3 u4 H locs ls hm hP hD hS hl
    have hm := ap2 eK90_5 hm
    rw [← hQ]
    exact W.vret hx hb hr (fun t ht1 hW => ⟨⟨u4, rfl, hm, by rw [ht1]; exact hP, hD⟩, hS.F ht1⟩) hS.2.2 dX7_writeSides_90
  have LP2 : ∀ (n2 : Nat) (x1 : Int32) (u2 : OS) (H : Heap) (locs : List Loc) (ls : Array Slot), f_X7_writeSides_L2 p1 p2 n2 K90_5 x1 u2 = some o → va_P (dC, dI) vwCl (wM cI cJ aM hM u2) H → va_D A (wM cI cJ aM hM u2) → va_S A s.heap H locs → lv_has ls 5 [(0, .ref aM), (1, .int p1), (2, .int p2), (3, .int x1)] → W p l e ({ frames := 1, cells := 0, slots := 0, locals := 25 } : Room) s m ([.ref aM, .int p1, .int p2] : List Value).toArray below meth c H locs 0 0 Q (F0 m 2 ls []) := by
    intro n2
    induction n2 with
    | zero => intro x1 u2 H locs ls hm; exact nomatch (show (none : Option _) = some _ from hm)
    | succ n2 ih2 =>
      intro x1 u2 H locs ls hm hP hD hS hl
      unfold f_X7_writeSides_L2 at hm
      refine lv_iload_n hx hb dX7_writeSides_2 rfl (lv_at hl 3 rfl) ?_
      refine lv_if_lt (tgt := 90) hx hb dX7_writeSides_3 (by decide) (fun c6 => ?_) (fun c6 => ?_)
      · have hm := ite_t c6 hm
        exact X90_5 x1 u2 _ _ _ hm hP hD hS (lv_sub hl [0, 1, 2, 3] rfl)
      · have hm := ite_f c6 hm
        refine lv_aload_n hx hb dX7_writeSides_6 rfl (lv_at hl 0 rfl) ?_
        refine lv_iconst (v := (0 : Int32)) hx hb dX7_writeSides_7 (by decide) ?_
        refine lv_iload_n hx hb dX7_writeSides_8 rfl (lv_at hl 2 rfl) ?_
        refine lv_iconst (v := (5 : Int32)) hx hb dX7_writeSides_9 (by decide) ?_
        refine lv_iload_n hx hb dX7_writeSides_10 rfl (lv_at hl 3 rfl) ?_
        refine lv_isub hx hb dX7_writeSides_11 ?_
        refine lv_ishr hx hb dX7_writeSides_12 ?_
        refine lv_iload_n hx hb dX7_writeSides_13 rfl (lv_at hl 3 rfl) ?_
        have hPc : va_P (dC, dI) vwCl (wM cI cJ aM hM u2) _ := hP
        have hDc : va_D A (wM cI cJ aM hM u2) := hD
        have hFc := va_free (wc := (wM cI cJ aM hM u2)) hD hS hA [0, 1, 2, 3, 4, 5, 6, 7, 8, 9, 10, 11, 12, 13, 14] rfl
        obtain ⟨u7o, e8, hm⟩ := oC1_of hm
        refine va_callv (va_runV (As := [.int (0 : Int32), .int (p2 >>> (((5 : Int32) - x1) &&& (31 : Int32))), .int x1]) (rest := []) ⟨hx, hb, hml, hown, ht⟩ (c_X7_laySides l dC dI cI cJ aM hM H.size u2 (0 : Int32) (p2 >>> (((5 : Int32) - x1) &&& (31 : Int32))) x1 u7o e8) (cwV 3 ht (gdV kw_53 kw_51 kw_52 kw_7 kw_50) rfl rfl rfl ⟨rfl, nd_X7_laySides⟩ ⟨Nat.le_of_ble_eq_true rfl, Nat.le_of_ble_eq_true rfl⟩) ⟨pcW_blind, va_recv hK hPc (ci := 8) (q0 := 0) rfl rfl, pcW_pre hPc hK hDc hN⟩ rfl rfl hl.1 rfl (lv_room (Nat.le_of_ble_eq_true rfl)) dX7_writeSides_14 ⟨Nat.zero_le _, Nat.zero_le _⟩) hS (fun q _ z => hFc q z) hFc (fun uu t H1 locs ht1 hvm hw hB hz1 hk1 hS => ?_)
        obtain ⟨u7, rfl⟩ : ∃ z, z = uu := ⟨_, rfl⟩
        obtain ⟨hP1, hD1⟩ := hB
        rw [ht1] at hP1
        obtain rfl : u7 = u7o := Option.some.inj hw
        have hP : va_P (dC, dI) vwCl (wM cI cJ aM hM u7) H1 := hP1
        have hD : va_D A (wM cI cJ aM hM u7) := hD1.weaken (fun _ q _ z => hFc q.1 z)
        generalize H1 = H at hP hS ⊢
        refine lv_aload_n hx hb dX7_writeSides_17 rfl (lv_at hl 0 rfl) ?_
        refine va_get (D := (dC, dI)) (ci := 8) (v := .int (u7.1 23)) (C := RX7) (T := TX7) (N := 34) hx hb ht inX7 hown hK hP 0 rfl rfl 23 (by decide) (ht _ kw_49) (fun _ h9 => h9) rfl dX7_writeSides_18 ?_
        refine lv_if_le (tgt := 84) hx hb dX7_writeSides_21 (by decide) (fun c9 => ?_) (fun c9 => ?_)
        · have hm := ite_t c9 hm
          obtain ⟨x10, ex10, hm⟩ := bnd_ex hm
          refine lv_iinc (v := x10) (lv' := [(3, .int x10), (0, .ref aM), (1, .int p1), (2, .int p2)]) hx hb dX7_writeSides_84 hl (k := 3) rfl (by rw [ex10]; exact congrArg _ (by decide)) (by decide) rfl (fun ls hl => ?_)
          refine lv_goto (tgt := 2) hx hb dX7_writeSides_87 (by decide) ?_
          exact ih2 x10 u7 _ _ _ hm hP hD hS (lv_sub hl [1, 2, 3, 0] rfl)
        · have hm := ite_f c9 hm
          refine lv_aload_n hx hb dX7_writeSides_24 rfl (lv_at hl 0 rfl) ?_
          refine va_get (D := (dC, dI)) (ci := 8) (v := .int (u7.1 23)) (C := RX7) (T := TX7) (N := 34) hx hb ht inX7 hown hK hP 0 rfl rfl 23 (by decide) (ht _ kw_49) (fun _ h9 => h9) rfl dX7_writeSides_25 ?_
          refine lv_aload_n hx hb dX7_writeSides_28 rfl (lv_at hl 0 rfl) ?_
          refine va_get (D := (dC, dI)) (ci := 8) (v := .int (u7.1 22)) (C := RX7) (T := TX7) (N := 34) hx hb ht inX7 hown hK hP 0 rfl rfl 22 (by decide) (ht _ kw_48) (fun _ h9 => h9) rfl dX7_writeSides_29 ?_
          refine lv_icmp_ge (tgt := 84) hx hb dX7_writeSides_32 (by decide) (fun c11 => ?_) (fun c11 => ?_)
          · have hm := ite_t c11 hm
            obtain ⟨x12, ex12, hm⟩ := bnd_ex hm
            refine lv_iinc (v := x12) (lv' := [(3, .int x12), (0, .ref aM), (1, .int p1), (2, .int p2)]) hx hb dX7_writeSides_84 hl (k := 3) rfl (by rw [ex12]; exact congrArg _ (by decide)) (by decide) rfl (fun ls hl => ?_)
            refine lv_goto (tgt := 2) hx hb dX7_writeSides_87 (by decide) ?_
            exact ih2 x12 u7 _ _ _ hm hP hD hS (lv_sub hl [1, 2, 3, 0] rfl)
          · have hm := ite_f c11 hm
            refine lv_aload_n hx hb dX7_writeSides_35 rfl (lv_at hl 0 rfl) ?_
            refine lv_iconst (v := (1 : Int32)) hx hb dX7_writeSides_36 (by decide) ?_
            refine lv_aload_n hx hb dX7_writeSides_37 rfl (lv_at hl 0 rfl) ?_
            refine va_get (D := (dC, dI)) (ci := 8) (v := .int (u7.1 0)) (C := RX7) (T := TX7) (N := 34) hx hb ht inX7 hown hK hP 0 rfl rfl 0 (by decide) (ht _ kw_14) (fun _ h9 => h9) rfl dX7_writeSides_38 ?_
            refine lv_ishl hx hb dX7_writeSides_41 ?_
            have hPc : va_P (dC, dI) vwCl (wM cI cJ aM hM u7) _ := hP
            have hDc : va_D A (wM cI cJ aM hM u7) := hD
            have hFc := va_free (wc := (wM cI cJ aM hM u7)) hD hS hA [0, 1, 2, 3, 4, 5, 6, 7, 8, 9, 10, 11, 12, 13, 14] rfl
            obtain ⟨r13o, e14, hm⟩ := oC1_of hm
            refine va_calli (va_runV (As := [.int ((1 : Int32) <<< ((u7.1 0) &&& (31 : Int32)))]) (rest := []) ⟨hx, hb, hml, hown, ht⟩ (c_X7_sideChance l dC dI cI cJ aM hM H.size u7 ((1 : Int32) <<< ((u7.1 0) &&& (31 : Int32))) r13o e14) (cwV 1 ht (gdV kw_57 kw_55 kw_56 kw_7 kw_54) rfl rfl rfl ⟨rfl, nd_X7_sideChance⟩ ⟨Nat.le_of_ble_eq_true rfl, Nat.le_of_ble_eq_true rfl⟩) ⟨pcW_blind, va_recv hK hPc (ci := 8) (q0 := 0) rfl rfl, pcW_pre hPc hK hDc hN⟩ rfl rfl hl.1 rfl (lv_room (Nat.le_of_ble_eq_true rfl)) dX7_writeSides_42 ⟨Nat.zero_le _, Nat.zero_le _⟩) hS (fun q _ z => hFc q z) hFc (fun r13 uu t H1 locs ht1 hvm hw hB hz1 hk1 hS => ?_)
            obtain ⟨⟩ := uu
            obtain ⟨hP1, hD1⟩ := hB
            rw [ht1] at hP1
            obtain rfl : r13 = r13o := Option.some.inj hw
            have hP : va_P (dC, dI) vwCl (wM cI cJ aM hM u7) H1 := hP1
            have hD : va_D A (wM cI cJ aM hM u7) := hD1.weaken (fun _ q _ z => hFc q.1 z)
            generalize H1 = H at hP hS ⊢
            refine lv_istore (lv' := [(4, .int r13), (0, .ref aM), (1, .int p1), (2, .int p2), (3, .int x1)]) hx hb dX7_writeSides_45 hl (by decide) rfl (fun ls hl => ?_)
            refine lv_iload_n hx hb dX7_writeSides_47 rfl (lv_at hl 3 rfl) ?_
            refine lv_iconst (v := (4 : Int32)) hx hb dX7_writeSides_48 (by decide) ?_
            refine lv_iload_n hx hb dX7_writeSides_49 rfl (lv_at hl 4 rfl) ?_
            refine lv_isub hx hb dX7_writeSides_50 ?_
            refine lv_ishr hx hb dX7_writeSides_51 ?_
            refine lv_iconst (v := (1 : Int32)) hx hb dX7_writeSides_52 (by decide) ?_
            refine lv_iand hx hb dX7_writeSides_53 ?_
            refine lv_if_ne (tgt := 68) hx hb dX7_writeSides_54 (by decide) (fun c15 => ?_) (fun c15 => ?_)
            · have hm := ite_f c15 hm
              refine lv_aload_n hx hb dX7_writeSides_68 rfl (lv_at hl 1 rfl) ?_
              refine lv_iload_n hx hb dX7_writeSides_69 rfl (lv_at hl 2 rfl) ?_
              refine lv_iconst (v := (1 : Int32)) hx hb dX7_writeSides_70 (by decide) ?_
              refine lv_aload_n hx hb dX7_writeSides_71 rfl (lv_at hl 1 rfl) ?_
              refine va_get (D := (dC, dI)) (ci := 8) (v := .int (u7.1 0)) (C := RX7) (T := TX7) (N := 34) hx hb ht inX7 hown hK hP 0 rfl rfl 0 (by decide) (ht _ kw_14) (fun _ h9 => h9) rfl dX7_writeSides_72 ?_
              refine lv_ishl hx hb dX7_writeSides_75 ?_
              refine lv_iload hx hb dX7_writeSides_76 (lv_at hl 0 rfl) ?_
              refine lv_isub hx hb dX7_writeSides_78 ?_
              refine lv_iload hx hb dX7_writeSides_79 (lv_at hl 0 rfl) ?_
              have hPc : va_P (dC, dI) vwCl (wM cI cJ aM hM u7) _ := hP
              have hDc : va_D A (wM cI cJ aM hM u7) := hD
              have hFc := va_free (wc := (wM cI cJ aM hM u7)) hD hS hA [0, 1, 2, 3, 4, 5, 6, 7, 8, 9, 10, 11, 12, 13, 14] rfl
              obtain ⟨u16o, e17, hm⟩ := oC1_of hm
              refine va_callv (va_runV (As := [.int p1, .int (((1 : Int32) <<< ((u7.1 0) &&& (31 : Int32))) - r13), .int r13]) (rest := []) ⟨hx, hb, hml, hown, ht⟩ (c_X7_writeBytes l dC dI cI cJ aM hM H.size u7 p1 (((1 : Int32) <<< ((u7.1 0) &&& (31 : Int32))) - r13) r13 u16o e17) (cwV 3 ht (gdV kw_61 kw_59 kw_60 kw_7 kw_58) rfl rfl rfl ⟨rfl, nd_X7_writeBytes⟩ ⟨Nat.le_of_ble_eq_true rfl, Nat.le_of_ble_eq_true rfl⟩) ⟨pcW_blind, va_recv hK hPc (ci := 8) (q0 := 0) rfl rfl, pcW_pre hPc hK hDc hN⟩ rfl rfl hl.1 rfl (lv_room (Nat.le_of_ble_eq_true rfl)) dX7_writeSides_81 ⟨Nat.zero_le _, Nat.zero_le _⟩) hS (fun q _ z => hFc q z) hFc (fun uu t H1 locs ht1 hvm hw hB hz1 hk1 hS => ?_)
              obtain ⟨u16, rfl⟩ : ∃ z, z = uu := ⟨_, rfl⟩
              obtain ⟨hP1, hD1⟩ := hB
              rw [ht1] at hP1
              obtain rfl : u16 = u16o := Option.some.inj hw
              have hP : va_P (dC, dI) vwCl (wM cI cJ aM hM u16) H1 := hP1
              have hD : va_D A (wM cI cJ aM hM u16) := hD1.weaken (fun _ q _ z => hFc q.1 z)
              generalize H1 = H at hP hS ⊢
              obtain ⟨x18, ex18, hm⟩ := bnd_ex hm
              refine lv_iinc (v := x18) (lv' := [(3, .int x18), (4, .int r13), (0, .ref aM), (1, .int p1), (2, .int p2)]) hx hb dX7_writeSides_84 hl (k := 4) rfl (by rw [ex18]; exact congrArg _ (by decide)) (by decide) rfl (fun ls hl => ?_)
              refine lv_goto (tgt := 2) hx hb dX7_writeSides_87 (by decide) ?_
              exact ih2 x18 u16 _ _ _ hm hP hD hS (lv_sub hl [2, 3, 4, 0] rfl)
            · have hm := ite_t c15 hm
              refine lv_aload_n hx hb dX7_writeSides_57 rfl (lv_at hl 1 rfl) ?_
              refine lv_iload_n hx hb dX7_writeSides_58 rfl (lv_at hl 2 rfl) ?_
              refine lv_iload hx hb dX7_writeSides_59 (lv_at hl 0 rfl) ?_
              refine lv_iconst (v := (0 : Int32)) hx hb dX7_writeSides_61 (by decide) ?_
              have hPc : va_P (dC, dI) vwCl (wM cI cJ aM hM u7) _ := hP
              have hDc : va_D A (wM cI cJ aM hM u7) := hD
              have hFc := va_free (wc := (wM cI cJ aM hM u7)) hD hS hA [0, 1, 2, 3, 4, 5, 6, 7, 8, 9, 10, 11, 12, 13, 14] rfl
              obtain ⟨u19o, e20, hm⟩ := oC1_of hm
              refine va_callv (va_runV (As := [.int p1, .int r13, .int (0 : Int32)]) (rest := []) ⟨hx, hb, hml, hown, ht⟩ (c_X7_writeBytes l dC dI cI cJ aM hM H.size u7 p1 r13 (0 : Int32) u19o e20) (cwV 3 ht (gdV kw_61 kw_59 kw_60 kw_7 kw_58) rfl rfl rfl ⟨rfl, nd_X7_writeBytes⟩ ⟨Nat.le_of_ble_eq_true rfl, Nat.le_of_ble_eq_true rfl⟩) ⟨pcW_blind, va_recv hK hPc (ci := 8) (q0 := 0) rfl rfl, pcW_pre hPc hK hDc hN⟩ rfl rfl hl.1 rfl (lv_room (Nat.le_of_ble_eq_true rfl)) dX7_writeSides_62 ⟨Nat.zero_le _, Nat.zero_le _⟩) hS (fun q _ z => hFc q z) hFc (fun uu t H1 locs ht1 hvm hw hB hz1 hk1 hS => ?_)
              obtain ⟨u19, rfl⟩ : ∃ z, z = uu := ⟨_, rfl⟩
              obtain ⟨hP1, hD1⟩ := hB
              rw [ht1] at hP1
              obtain rfl : u19 = u19o := Option.some.inj hw
              have hP : va_P (dC, dI) vwCl (wM cI cJ aM hM u19) H1 := hP1
              have hD : va_D A (wM cI cJ aM hM u19) := hD1.weaken (fun _ q _ z => hFc q.1 z)
              generalize H1 = H at hP hS ⊢
              refine lv_goto (tgt := 84) hx hb dX7_writeSides_65 (by decide) ?_
              obtain ⟨x21, ex21, hm⟩ := bnd_ex hm
              refine lv_iinc (v := x21) (lv' := [(3, .int x21), (4, .int r13), (0, .ref aM), (1, .int p1), (2, .int p2)]) hx hb dX7_writeSides_84 hl (k := 4) rfl (by rw [ex21]; exact congrArg _ (by decide)) (by decide) rfl (fun ls hl => ?_)
              refine lv_goto (tgt := 2) hx hb dX7_writeSides_87 (by decide) ?_
              exact ih2 x21 u19 _ _ _ hm hP hD hS (lv_sub hl [2, 3, 4, 0] rfl)
  exact LP2 FU (4 : Int32) uM _ _ _ hm hP hD hS (lv_sub hl [1, 2, 3, 0] rfl)

def f_X7_mayWrite_L7 (uM : OS) : Nat → (Int32 → Int32 → Option (Int32)) → Int32 → Int32 → Option (Int32)
  | 0, _, _, _ => none
  | n7 + 1, K45_6, x2, x3 =>
    if (uM.1 5) ≤ x2 then (
    K45_6 x3 x2) else (
    if x3 = (0 : Int32) then (
    K45_6 x3 x2) else (
    gdi x2 1000 <|
    gdi (uM.2.1 4 (x2).toNatClampNeg) 64 <|
    if (uM.2.1 8 ((uM.2.1 4 (x2).toNatClampNeg)).toNatClampNeg) ≤ (0 : Int32) then (
    bnd (x2 + (1 : Int32)) fun x13 =>
    f_X7_mayWrite_L7 uM n7 K45_6 x13 (0 : Int32)) else (
    bnd (x2 + (1 : Int32)) fun x14 =>
    f_X7_mayWrite_L7 uM n7 K45_6 x14 (1 : Int32))))

def f_X7_mayWrite (uM : OS) : Option (Int32) :=
  bnd (uM.1 7) fun x1 =>
  bnd (fun (x4 : Int32) (x5 : Int32) =>
  gdb x4 <|
  some x4) fun K45_6 =>
  f_X7_mayWrite_L7 uM FU K45_6 (0 : Int32) x1

set_option maxHeartbeats 4000000 in
set_option maxRecDepth 100000 in
theorem c_X7_mayWrite (l : Launch) (dC : Nat → ClassId) (dI : Nat → Nat → Nat) (cI cJ : ClassId) (aM : Nat) (hM : Nat → Nat) (sz : Nat) (uM : OS) (o : Int32) (hm : f_X7_mayWrite uM = some o) : Met l yX7_mayWrite (wq yX7_mayWrite cX7_mayWrite 3 (some .boolean)) ({ frames := 0, cells := 0, slots := 0, locals := 0 } : Room) (va_Pc [.ref aM] (pcW dC dI cI cJ sz (wM cI cJ aM hM uM))) (va_Qi (S := Unit) (fun r u => some r = some o) (fun (u : Unit) t => va_P (dC, dI) vwCl (wM cI cJ aM hM uM) t.heap ∧ va_D (va_A (wM cI cJ aM hM uM) sz) (wM cI cJ aM hM uM)) (va_A (wM cI cJ aM hM uM) sz)) 0 0 (va_A (wM cI cJ aM hM uM) sz) := by
  refine Met.ofW (cc := cX7_mayWrite) (maxL := 3) (ret := (some .boolean)) (by decide) rfl ?_
  intro p e s m args below meth c s₁ B hml hv
  obtain ⟨rfl, hsz, hP, hK, hD0, hN⟩ := hv
  have hx := B.exec
  have hb := B.bytes
  have hr := B.returns
  have ht : ∀ w ∈ lw_good, w.before _ s = true := fun w h => atoms_spec (ws := wq yX7_mayWrite cX7_mayWrite 3 (some .boolean)) B.pre w (wq_mem h)
  have hown : s.vm.findClass RX7 = some m.cls := findClass_of_methodNamed B.named
  have hlocks := B.notSynchronized
  subst hsz
  have hD := hD0.self (sz := s.heap.size)
  generalize hAe : va_A (wM cI cJ aM hM uM) s.heap.size = A at hD ⊢
  have hA : ∀ q : Nat, s.heap.size ≤ q → A q := fun q h => by rw [← hAe]; exact Or.inr h
  have hS : va_S A s.heap s.heap [] := va_S.rf
  have hl := lv_entry ([.ref aM]) (n := 3) (Nat.le_of_ble_eq_true rfl)
  rw [lg_entry_eq]
  generalize (lg_sl ([.ref aM]) ++ List.replicate (3 - (lg_sl ([.ref aM])).length) Slot.unset).toArray = ls at hl ⊢
  have hl : lv_has ls 3 [(0, .ref aM)] := hl
  generalize hQ : MQ below _ _ s _ _ _ = Q
  generalize hH : s.heap = H at hP ⊢
  have hS : va_S A s.heap H [] := by rw [← hH]; exact va_S.rf
  show W p l e ({ frames := 0, cells := 0, slots := 0, locals := 0 } : Room) s m ([.ref aM] : List Value).toArray below meth c H [] 0 0 Q (F0 m 0 ls [])
  unfold f_X7_mayWrite at hm
  refine lv_aload_n hx hb dX7_mayWrite_0 rfl (lv_at hl 0 rfl) ?_
  refine va_get (D := (dC, dI)) (ci := 8) (v := .int (uM.1 7)) (C := RX7) (T := TX7) (N := 34) hx hb ht inX7 hown hK hP 0 rfl rfl 7 (by decide) (ht _ kw_5) (fun _ h9 => h9) rfl dX7_mayWrite_1 ?_
  refine lv_topi (fun x1 ex1 => ?_)
  have hm := bnd_nm ex1 hm
  refine lv_istore_n (lv' := [(1, .int x1), (0, .ref aM)]) hx hb dX7_mayWrite_4 rfl hl (by decide) rfl (fun ls hl => ?_)
  refine lv_iconst (v := (0 : Int32)) hx hb dX7_mayWrite_5 (by decide) ?_
  refine lv_istore_n (lv' := [(2, .int (0 : Int32)), (1, .int x1), (0, .ref aM)]) hx hb dX7_mayWrite_6 rfl hl (by decide) rfl (fun ls hl => ?_)
  obtain ⟨K45_6, eK45_6, hm⟩ := bnd_ex hm
  have X45_6 : ∀ (x4 : Int32) (x5 : Int32) (H : Heap) (locs : List Loc) (ls : Array Slot), K45_6 x4 x5 = some o → va_P (dC, dI) vwCl (wM cI cJ aM hM uM) H → va_D A (wM cI cJ aM hM uM) → va_S A s.heap H locs → lv_has ls 3 [(0, .ref aM), (1, .int x4), (2, .int x5)] → W p l e ({ frames := 0, cells := 0, slots := 0, locals := 0 } : Room) s m ([.ref aM] : List Value).toArray below meth c H locs 0 0 Q (F0 m 45 ls []) := by
    intro x4 x5 H locs ls hm hP hD hS hl
    have hm := ap2 eK45_6 hm
    refine lv_iload_n hx hb dX7_mayWrite_45 rfl (lv_at hl 1 rfl) ?_
    obtain ⟨g7, hm⟩ := gdb_of hm
    rw [← hQ]
    exact W.zret (v := x4) hx hb hr (nb_of g7) (fun t ht1 hW => ⟨⟨_, (), rfl, hm, by rw [ht1]; exact hP, hD⟩, hS.F ht1⟩) hS.2.2 dX7_mayWrite_46
  have LP7 : ∀ (n7 : Nat) (x2 : Int32) (x3 : Int32) (H : Heap) (locs : List Loc) (ls : Array Slot), f_X7_mayWrite_L7 uM n7 K45_6 x2 x3 = some o → va_P (dC, dI) vwCl (wM cI cJ aM hM uM) H → va_D A (wM cI cJ aM hM uM) → va_S A s.heap H locs → lv_has ls 3 [(0, .ref aM), (1, .int x3), (2, .int x2)] → W p l e ({ frames := 0, cells := 0, slots := 0, locals := 0 } : Room) s m ([.ref aM] : List Value).toArray below meth c H locs 0 0 Q (F0 m 7 ls []) := by
    intro n7
    induction n7 with
    | zero => intro x2 x3 H locs ls hm; exact nomatch (show (none : Option _) = some _ from hm)
    | succ n7 ih7 =>
      intro x2 x3 H locs ls hm hP hD hS hl
      unfold f_X7_mayWrite_L7 at hm
      refine lv_iload_n hx hb dX7_mayWrite_7 rfl (lv_at hl 2 rfl) ?_
      refine lv_aload_n hx hb dX7_mayWrite_8 rfl (lv_at hl 0 rfl) ?_
      refine va_get (D := (dC, dI)) (ci := 8) (v := .int (uM.1 5)) (C := RX7) (T := TX7) (N := 34) hx hb ht inX7 hown hK hP 0 rfl rfl 5 (by decide) (ht _ kw_1) (fun _ h9 => h9) rfl dX7_mayWrite_9 ?_
      refine lv_icmp_ge (tgt := 45) hx hb dX7_mayWrite_12 (by decide) (fun c8 => ?_) (fun c8 => ?_)
      · have hm := ite_t c8 hm
        exact X45_6 x3 x2 _ _ _ hm hP hD hS (lv_sub hl [0, 1, 2] rfl)
      · have hm := ite_f c8 hm
        refine lv_iload_n hx hb dX7_mayWrite_15 rfl (lv_at hl 1 rfl) ?_
        refine lv_if_eq (tgt := 45) hx hb dX7_mayWrite_16 (by decide) (fun c9 => ?_) (fun c9 => ?_)
        · have hm := ite_t c9 hm
          exact X45_6 x3 x2 _ _ _ hm hP hD hS (lv_sub hl [0, 1, 2] rfl)
        · have hm := ite_f c9 hm
          refine lv_aload_n hx hb dX7_mayWrite_19 rfl (lv_at hl 0 rfl) ?_
          refine va_get (D := (dC, dI)) (ci := 8) (v := .ref (hM 8)) (C := RX7) (T := TX7) (N := 34) hx hb ht inX7 hown hK hP 0 rfl rfl 8 (by decide) (ht _ kw_18) (fun _ h9 => h9) rfl dX7_mayWrite_20 ?_
          refine lv_aload_n hx hb dX7_mayWrite_23 rfl (lv_at hl 0 rfl) ?_
          refine va_get (D := (dC, dI)) (ci := 8) (v := .ref (hM 4)) (C := RX7) (T := TX7) (N := 34) hx hb ht inX7 hown hK hP 0 rfl rfl 4 (by decide) (ht _ kw_2) (fun _ h9 => h9) rfl dX7_mayWrite_24 ?_
          refine lv_iload_n hx hb dX7_mayWrite_27 rfl (lv_at hl 2 rfl) ?_
          obtain ⟨g10, hm⟩ := gdi_of hm
          refine va_iald hx hb hK hP 1 0 rfl rfl g10 dX7_mayWrite_28 ?_
          obtain ⟨g11, hm⟩ := gdi_of hm
          refine va_iald hx hb hK hP 3 0 rfl rfl g11 dX7_mayWrite_29 ?_
          refine lv_if_le (tgt := 37) hx hb dX7_mayWrite_30 (by decide) (fun c12 => ?_) (fun c12 => ?_)
          · have hm := ite_t c12 hm
            refine lv_iconst (v := (0 : Int32)) hx hb dX7_mayWrite_37 (by decide) ?_
            refine lv_istore_n (lv' := [(1, .int (0 : Int32)), (0, .ref aM), (2, .int x2)]) hx hb dX7_mayWrite_38 rfl hl (by decide) rfl (fun ls hl => ?_)
            obtain ⟨x13, ex13, hm⟩ := bnd_ex hm
            refine lv_iinc (v := x13) (lv' := [(2, .int x13), (1, .int (0 : Int32)), (0, .ref aM)]) hx hb dX7_mayWrite_39 hl (k := 2) rfl (by rw [ex13]; exact congrArg _ (by decide)) (by decide) rfl (fun ls hl => ?_)
            refine lv_goto (tgt := 7) hx hb dX7_mayWrite_42 (by decide) ?_
            exact ih7 x13 (0 : Int32) _ _ _ hm hP hD hS (lv_sub hl [2, 1, 0] rfl)
          · have hm := ite_f c12 hm
            refine lv_iconst (v := (1 : Int32)) hx hb dX7_mayWrite_33 (by decide) ?_
            refine lv_goto (tgt := 38) hx hb dX7_mayWrite_34 (by decide) ?_
            refine lv_istore_n (lv' := [(1, .int (1 : Int32)), (0, .ref aM), (2, .int x2)]) hx hb dX7_mayWrite_38 rfl hl (by decide) rfl (fun ls hl => ?_)
            obtain ⟨x14, ex14, hm⟩ := bnd_ex hm
            refine lv_iinc (v := x14) (lv' := [(2, .int x14), (1, .int (1 : Int32)), (0, .ref aM)]) hx hb dX7_mayWrite_39 hl (k := 2) rfl (by rw [ex14]; exact congrArg _ (by decide)) (by decide) rfl (fun ls hl => ?_)
            refine lv_goto (tgt := 7) hx hb dX7_mayWrite_42 (by decide) ?_
            exact ih7 x14 (1 : Int32) _ _ _ hm hP hD hS (lv_sub hl [2, 1, 0] rfl)
  exact LP7 FU (0 : Int32) x1 _ _ _ hm hP hD hS (lv_sub hl [2, 1, 0] rfl)
end
section
def f_X7_writeForm_L294 (p1 : Int32) : Nat → (Int32 → OS → Option (OS)) → Int32 → OS → Option (OS)
  | 0, _, _, _ => none
  | n294 + 1, K353_36, x32, u33 =>
    if x32 < (0 : Int32) then (
    K353_36 x32 u33) else (
    if p1 = (1 : Int32) then (
    gdi x32 70000 <|
    oC1 (f_X7_putWide u33 ((u33.2.1 19 (x32).toNatClampNeg)).toInt64 (4 : Int32)) fun u49 =>
    bnd (x32 + (-1 : Int32)) fun x51 =>
    f_X7_writeForm_L294 p1 n294 K353_36 x51 u49) else (
    if p1 = (2 : Int32) then (
    gdi x32 70000 <|
    oC1 (f_X7_putBits u33 (u33.2.1 19 (x32).toNatClampNeg) (1 : Int32)) fun u45 =>
    bnd (x32 + (-1 : Int32)) fun x47 =>
    f_X7_writeForm_L294 p1 n294 K353_36 x47 u45) else (
    gdi x32 70000 <|
    oC1 (f_X7_putByte u33 (u33.2.1 19 (x32).toNatClampNeg)) fun u41 =>
    bnd (x32 + (-1 : Int32)) fun x43 =>
    f_X7_writeForm_L294 p1 n294 K353_36 x43 u41)))

def f_X7_writeForm_L218 (p1 : Int32) : Nat → (Int32 → OS → Option (OS)) → Int32 → OS → Option (OS)
  | 0, _, _, _ => none
  | n218 + 1, K274_28, x24, u25 =>
    if (u25.1 3) ≤ x24 then (
    K274_28 x24 u25) else (
    gdi x24 4 <|
    bnd (fun (x54 : Int32) =>
    oC1 (f_X7_putWide u25 (u25.2.2.1 16 (x24).toNatClampNeg) x54) fun u56 =>
    gdi x24 4 <|
    gdi x24 4 <|
    bnd (sL u56 17 x24 (u56.2.2.1 16 (x24).toNatClampNeg)) fun u60 =>
    bnd (x24 + (1 : Int32)) fun x61 =>
    f_X7_writeForm_L218 p1 n218 K274_28 x61 u60) fun K253_55 =>
    if p1 = (1 : Int32) then (
    K253_55 (8 : Int32)) else (
    if p1 = (2 : Int32) then (
    K253_55 (2 : Int32)) else (
    K253_55 (4 : Int32))))

def f_X7_writeForm_L92 (p1 : Int32) : Nat → (Int32 → OS → Option (OS)) → Int32 → OS → Option (OS)
  | 0, _, _, _ => none
  | n92 + 1, K216_23, x19, u20 =>
    if x19 < (0 : Int32) then (
    K216_23 x19 u20) else (
    gdi x19 1000 <|
    bnd (u20.2.1 4 (x19).toNatClampNeg) fun x66 =>
    gdz (u20.1 3) <|
    bnd (x19 - x19 / (u20.1 3) * (u20.1 3)) fun x68 =>
    if p1 = (3 : Int32) then (
    oC1 (f_X7_writeSides u20 x68 x66) fun u90 =>
    bnd (x19 + (-1 : Int32)) fun x92 =>
    f_X7_writeForm_L92 p1 n92 K216_23 x92 u90) else (
    gdi x66 64 <|
    if ((1 : Int32) <<< ((u20.1 0) &&& (31 : Int32))) ≤ (u20.2.1 8 (x66).toNatClampNeg) then (
    bnd (x19 + (-1 : Int32)) fun x72 =>
    f_X7_writeForm_L92 p1 n92 K216_23 x72 u20) else (
    if p1 = (0 : Int32) then (
    gdi x66 64 <|
    gdi x66 64 <|
    oC1 (f_X7_writeBytes u20 x68 (u20.2.1 8 (x66).toNatClampNeg) (u20.2.1 9 (x66).toNatClampNeg)) fun u87 =>
    bnd (x19 + (-1 : Int32)) fun x89 =>
    f_X7_writeForm_L92 p1 n92 K216_23 x89 u87) else (
    if p1 = (1 : Int32) then (
    gdi x66 64 <|
    gdi x66 64 <|
    oC1 (f_X7_writeWords u20 x68 (u20.2.1 8 (x66).toNatClampNeg) (u20.2.1 9 (x66).toNatClampNeg)) fun u82 =>
    bnd (x19 + (-1 : Int32)) fun x84 =>
    f_X7_writeForm_L92 p1 n92 K216_23 x84 u82) else (
    gdi x66 64 <|
    gdi x66 64 <|
    oC1 (f_X7_writeBitsOf u20 x68 (u20.2.1 8 (x66).toNatClampNeg) (u20.2.1 9 (x66).toNatClampNeg)) fun u77 =>
    bnd (x19 + (-1 : Int32)) fun x79 =>
    f_X7_writeForm_L92 p1 n92 K216_23 x79 u77)))))

def f_X7_writeForm_L55 (p1 : Int32) : Nat → (Int32 → OS → Option (OS)) → Int32 → OS → Option (OS)
  | 0, _, _, _ => none
  | n55 + 1, K80_16, x12, u13 =>
    if (4 : Int32) ≤ x12 then (
    K80_16 x12 u13) else (
    oC1 (f_X7_firstState p1 (u13.1 0)) fun r94 =>
    gdi x12 4 <|
    bnd (sL u13 16 x12 r94) fun u97 =>
    bnd (x12 + (1 : Int32)) fun x98 =>
    f_X7_writeForm_L55 p1 n55 K80_16 x98 u97)

def f_X7_writeForm (uM : OS) (p1 : Int32) : Option (OS) :=
  bnd (sF uM 15 (0 : Int32)) fun u1 =>
  bnd (fun (x2 : Int32) =>
  oC1 (f_X7_putByte u1 (((4 : Int32) * p1) + x2)) fun u4 =>
  oC1 (f_X7_putByte u4 (u4.1 0)) fun u6 =>
  oC1 (f_X7_putWide u6 ((u6.1 5)).toInt64 (2 : Int32)) fun u8 =>
  oC1 (f_X7_writeTable u8) fun u10 =>
  bnd (fun (x14 : Int32) (u15 : OS) =>
  bnd (sF u15 20 (0 : Int32)) fun u17 =>
  bnd ((u17.1 5) - (1 : Int32)) fun x18 =>
  bnd (fun (x21 : Int32) (u22 : OS) =>
  bnd (fun (x26 : Int32) (u27 : OS) =>
  bnd (sF u27 18 (u27.1 3)) fun u29 =>
  bnd (sF u29 21 (0 : Int32)) fun u30 =>
  bnd ((u30.1 20) - (1 : Int32)) fun x31 =>
  bnd (fun (x34 : Int32) (u35 : OS) =>
  some u35) fun K353_36 =>
  f_X7_writeForm_L294 p1 FU K353_36 x31 u30) fun K274_28 =>
  f_X7_writeForm_L218 p1 FU K274_28 (0 : Int32) u22) fun K216_23 =>
  f_X7_writeForm_L92 p1 FU K216_23 x18 u17) fun K80_16 =>
  f_X7_writeForm_L55 p1 FU K80_16 (0 : Int32) u10) fun K27_3 =>
  if (u1.1 3) = (4 : Int32) then (
  K27_3 (2 : Int32)) else (
  K27_3 ((u1.1 3) - (1 : Int32)))

set_option maxHeartbeats 4000000 in
set_option maxRecDepth 100000 in
theorem c_X7_writeForm (l : Launch) (dC : Nat → ClassId) (dI : Nat → Nat → Nat) (cI cJ : ClassId) (aM : Nat) (hM : Nat → Nat) (sz : Nat) (uM : OS) (p1 : Int32) (o : OS) (hm : f_X7_writeForm uM p1 = some o) : Met l yX7_writeForm (wq yX7_writeForm cX7_writeForm 5 none) ({ frames := 3, cells := 0, slots := 0, locals := 66 } : Room) (va_Pc [.ref aM, .int p1] (pcW dC dI cI cJ sz (wM cI cJ aM hM uM))) (va_Qv (S := OS) (fun u => some u = some o) (fun (u : OS) t => va_P (dC, dI) vwCl (wM cI cJ aM hM u) t.heap ∧ va_D (va_A (wM cI cJ aM hM uM) sz) (wM cI cJ aM hM u)) (va_A (wM cI cJ aM hM uM) sz)) 0 0 (va_A (wM cI cJ aM hM uM) sz) := by
  refine Met.ofW (cc := cX7_writeForm) (maxL := 5) (ret := none) (by decide) rfl ?_
  intro p e s m args below meth c s₁ B hml hv
  obtain ⟨rfl, hsz, hP, hK, hD0, hN⟩ := hv
  have hx := B.exec
  have hb := B.bytes
  have hr := B.returns
  have ht : ∀ w ∈ lw_good, w.before _ s = true := fun w h => atoms_spec (ws := wq yX7_writeForm cX7_writeForm 5 none) B.pre w (wq_mem h)
  have hown : s.vm.findClass RX7 = some m.cls := findClass_of_methodNamed B.named
  have hlocks := B.notSynchronized
  subst hsz
  have hD := hD0.self (sz := s.heap.size)
  generalize hAe : va_A (wM cI cJ aM hM uM) s.heap.size = A at hD ⊢
  have hA : ∀ q : Nat, s.heap.size ≤ q → A q := fun q h => by rw [← hAe]; exact Or.inr h
  have hS : va_S A s.heap s.heap [] := va_S.rf
  have hl := lv_entry ([.ref aM, .int p1]) (n := 5) (Nat.le_of_ble_eq_true rfl)
  rw [lg_entry_eq]
  generalize (lg_sl ([.ref aM, .int p1]) ++ List.replicate (5 - (lg_sl ([.ref aM, .int p1])).length) Slot.unset).toArray = ls at hl ⊢
  have hl : lv_has ls 5 [(0, .ref aM), (1, .int p1)] := hl
  generalize hQ : MQ below _ _ s _ _ _ = Q
  generalize hH : s.heap = H at hP ⊢
  have hS : va_S A s.heap H [] := by rw [← hH]; exact va_S.rf
  show W p l e ({ frames := 3, cells := 0, slots := 0, locals := 66 } : Room) s m ([.ref aM, .int p1] : List Value).toArray below meth c H [] 0 0 Q (F0 m 0 ls [])
  unfold f_X7_writeForm at hm
  refine lv_aload_n hx hb dX7_writeForm_0 rfl (lv_at hl 0 rfl) ?_
  refine lv_iconst (v := (0 : Int32)) hx hb dX7_writeForm_1 (by decide) ?_
  refine va_put (D := (dC, dI)) (ci := 8) (v := .int (0 : Int32)) (ty := .int) (C := RX7) (T := TX7) (N := 34) hx hb ht inX7 tyX7 tyX7_ok nmX7 hown hK hP hD hS 0 rfl rfl 15 (by decide) (ht _ kw_32) (fun _ h9 => h9) rfl (by decide +kernel) rfl rfl (Nat.le_of_ble_eq_true rfl) dX7_writeForm_2 (fun H locs hP hD hS => ?_)
  obtain ⟨u1, eu1, hm⟩ := bnd_ex hm
  have hP : va_P (dC, dI) vwCl (wM cI cJ aM hM u1) H := by rw [eu1]; exact hP
  have hD : va_D A (wM cI cJ aM hM u1) := by rw [eu1]; exact hD
  refine lv_aload_n hx hb dX7_writeForm_5 rfl (lv_at hl 0 rfl) ?_
  refine lv_iconst (v := (4 : Int32)) hx hb dX7_writeForm_6 (by decide) ?_
  refine lv_iload_n hx hb dX7_writeForm_7 rfl (lv_at hl 1 rfl) ?_
  refine lv_imul hx hb dX7_writeForm_8 ?_
  refine lv_aload_n hx hb dX7_writeForm_9 rfl (lv_at hl 0 rfl) ?_
  refine va_get (D := (dC, dI)) (ci := 8) (v := .int (u1.1 3)) (C := RX7) (T := TX7) (N := 34) hx hb ht inX7 hown hK hP 0 rfl rfl 3 (by decide) (ht _ kw_29) (fun _ h9 => h9) rfl dX7_writeForm_10 ?_
  refine lv_iconst (v := (4 : Int32)) hx hb dX7_writeForm_13 (by decide) ?_
  obtain ⟨K27_3, eK27_3, hm⟩ := bnd_ex hm
  have J27_3 : ∀ (x2 : Int32) (H : Heap) (locs : List Loc) (ls : Array Slot), K27_3 x2 = some o → va_P (dC, dI) vwCl (wM cI cJ aM hM u1) H → va_D A (wM cI cJ aM hM u1) → va_S A s.heap H locs → lv_has ls 5 [(0, .ref aM), (1, .int p1)] → W p l e ({ frames := 3, cells := 0, slots := 0, locals := 66 } : Room) s m ([.ref aM, .int p1] : List Value).toArray below meth c H locs 0 0 Q (F0 m 27 ls [.int x2, .int ((4 : Int32) * p1), .ref aM]) := by
    intro x2 H locs ls hm hP hD hS hl
    have hm := ap1 eK27_3 hm
    refine lv_iadd hx hb dX7_writeForm_27 ?_
    have hPc : va_P (dC, dI) vwCl (wM cI cJ aM hM u1) _ := hP
    have hDc : va_D A (wM cI cJ aM hM u1) := hD
    have hFc := va_free (wc := (wM cI cJ aM hM u1)) hD hS hA [0, 1, 2, 3, 4, 5, 6, 7, 8, 9, 10, 11, 12, 13, 14] rfl
    obtain ⟨u4o, e5, hm⟩ := oC1_of hm
    refine va_callv (va_runV (As := [.int (((4 : Int32) * p1) + x2)]) (rest := []) ⟨hx, hb, hml, hown, ht⟩ (c_X7_putByte l dC dI cI cJ aM hM H.size u1 (((4 : Int32) * p1) + x2) u4o e5) (cwV 1 ht (gdV kw_36 kw_34 kw_35 kw_7 kw_33) rfl rfl rfl ⟨rfl, nd_X7_putByte⟩ ⟨Nat.le_of_ble_eq_true rfl, Nat.le_of_ble_eq_true rfl⟩) ⟨pcW_blind, va_recv hK hPc (ci := 8) (q0 := 0) rfl rfl, pcW_pre hPc hK hDc hN⟩ rfl rfl hl.1 rfl (lv_room (Nat.le_of_ble_eq_true rfl)) dX7_writeForm_28 ⟨Nat.zero_le _, Nat.zero_le _⟩) hS (fun q _ z => hFc q z) hFc (fun uu t H1 locs ht1 hvm hw hB hz1 hk1 hS => ?_)
    obtain ⟨u4, rfl⟩ : ∃ z, z = uu := ⟨_, rfl⟩
    obtain ⟨hP1, hD1⟩ := hB
    rw [ht1] at hP1
    obtain rfl : u4 = u4o := Option.some.inj hw
    have hP : va_P (dC, dI) vwCl (wM cI cJ aM hM u4) H1 := hP1
    have hD : va_D A (wM cI cJ aM hM u4) := hD1.weaken (fun _ q _ z => hFc q.1 z)
    generalize H1 = H at hP hS ⊢
    refine lv_aload_n hx hb dX7_writeForm_31 rfl (lv_at hl 0 rfl) ?_
    refine lv_aload_n hx hb dX7_writeForm_32 rfl (lv_at hl 0 rfl) ?_
    refine va_get (D := (dC, dI)) (ci := 8) (v := .int (u4.1 0)) (C := RX7) (T := TX7) (N := 34) hx hb ht inX7 hown hK hP 0 rfl rfl 0 (by decide) (ht _ kw_14) (fun _ h9 => h9) rfl dX7_writeForm_33 ?_
    have hPc : va_P (dC, dI) vwCl (wM cI cJ aM hM u4) _ := hP
    have hDc : va_D A (wM cI cJ aM hM u4) := hD
    have hFc := va_free (wc := (wM cI cJ aM hM u4)) hD hS hA [0, 1, 2, 3, 4, 5, 6, 7, 8, 9, 10, 11, 12, 13, 14] rfl
    obtain ⟨u6o, e7, hm⟩ := oC1_of hm
    refine va_callv (va_runV (As := [.int (u4.1 0)]) (rest := []) ⟨hx, hb, hml, hown, ht⟩ (c_X7_putByte l dC dI cI cJ aM hM H.size u4 (u4.1 0) u6o e7) (cwV 1 ht (gdV kw_36 kw_34 kw_35 kw_7 kw_33) rfl rfl rfl ⟨rfl, nd_X7_putByte⟩ ⟨Nat.le_of_ble_eq_true rfl, Nat.le_of_ble_eq_true rfl⟩) ⟨pcW_blind, va_recv hK hPc (ci := 8) (q0 := 0) rfl rfl, pcW_pre hPc hK hDc hN⟩ rfl rfl hl.1 rfl (lv_room (Nat.le_of_ble_eq_true rfl)) dX7_writeForm_36 ⟨Nat.zero_le _, Nat.zero_le _⟩) hS (fun q _ z => hFc q z) hFc (fun uu t H1 locs ht1 hvm hw hB hz1 hk1 hS => ?_)
    obtain ⟨u6, rfl⟩ : ∃ z, z = uu := ⟨_, rfl⟩
    obtain ⟨hP1, hD1⟩ := hB
    rw [ht1] at hP1
    obtain rfl : u6 = u6o := Option.some.inj hw
    have hP : va_P (dC, dI) vwCl (wM cI cJ aM hM u6) H1 := hP1
    have hD : va_D A (wM cI cJ aM hM u6) := hD1.weaken (fun _ q _ z => hFc q.1 z)
    generalize H1 = H at hP hS ⊢
    refine lv_aload_n hx hb dX7_writeForm_39 rfl (lv_at hl 0 rfl) ?_
    refine lv_aload_n hx hb dX7_writeForm_40 rfl (lv_at hl 0 rfl) ?_
    refine va_get (D := (dC, dI)) (ci := 8) (v := .int (u6.1 5)) (C := RX7) (T := TX7) (N := 34) hx hb ht inX7 hown hK hP 0 rfl rfl 5 (by decide) (ht _ kw_1) (fun _ h9 => h9) rfl dX7_writeForm_41 ?_
    refine lv_i2l hx hb dX7_writeForm_44 rfl ?_
    refine lv_iconst (v := (2 : Int32)) hx hb dX7_writeForm_45 (by decide) ?_
    have hPc : va_P (dC, dI) vwCl (wM cI cJ aM hM u6) _ := hP
    have hDc : va_D A (wM cI cJ aM hM u6) := hD
    have hFc := va_free (wc := (wM cI cJ aM hM u6)) hD hS hA [0, 1, 2, 3, 4, 5, 6, 7, 8, 9, 10, 11, 12, 13, 14] rfl
    obtain ⟨u8o, e9, hm⟩ := oC1_of hm
    refine va_callv (va_runV (As := [.long ((u6.1 5)).toInt64, .int (2 : Int32)]) (rest := []) ⟨hx, hb, hml, hown, ht⟩ (c_X7_putWide l dC dI cI cJ aM hM H.size u6 ((u6.1 5)).toInt64 (2 : Int32) u8o e9) (cwV 2 ht (gdV kw_67 kw_65 kw_66 kw_7 kw_64) rfl rfl rfl ⟨rfl, nd_X7_putWide⟩ ⟨Nat.le_of_ble_eq_true rfl, Nat.le_of_ble_eq_true rfl⟩) ⟨pcW_blind, va_recv hK hPc (ci := 8) (q0 := 0) rfl rfl, pcW_pre hPc hK hDc hN⟩ rfl rfl hl.1 rfl (lv_room (Nat.le_of_ble_eq_true rfl)) dX7_writeForm_46 ⟨Nat.zero_le _, Nat.zero_le _⟩) hS (fun q _ z => hFc q z) hFc (fun uu t H1 locs ht1 hvm hw hB hz1 hk1 hS => ?_)
    obtain ⟨u8, rfl⟩ : ∃ z, z = uu := ⟨_, rfl⟩
    obtain ⟨hP1, hD1⟩ := hB
    rw [ht1] at hP1
    obtain rfl : u8 = u8o := Option.some.inj hw
    have hP : va_P (dC, dI) vwCl (wM cI cJ aM hM u8) H1 := hP1
    have hD : va_D A (wM cI cJ aM hM u8) := hD1.weaken (fun _ q _ z => hFc q.1 z)
    generalize H1 = H at hP hS ⊢
    refine lv_aload_n hx hb dX7_writeForm_49 rfl (lv_at hl 0 rfl) ?_
    have hPc : va_P (dC, dI) vwCl (wM cI cJ aM hM u8) _ := hP
    have hDc : va_D A (wM cI cJ aM hM u8) := hD
    have hFc := va_free (wc := (wM cI cJ aM hM u8)) hD hS hA [0, 1, 2, 3, 4, 5, 6, 7, 8, 9, 10, 11, 12, 13, 14] rfl
    obtain ⟨u10o, e11, hm⟩ := oC1_of hm
    refine va_callv (va_runV (As := []) (rest := []) ⟨hx, hb, hml, hown, ht⟩ (c_X7_writeTable l dC dI cI cJ aM hM H.size u8 u10o e11) (cwV 0 ht (gdV kw_71 kw_69 kw_70 kw_7 kw_68) rfl rfl rfl ⟨rfl, nd_X7_writeTable⟩ ⟨Nat.le_of_ble_eq_true rfl, Nat.le_of_ble_eq_true rfl⟩) ⟨pcW_blind, va_recv hK hPc (ci := 8) (q0 := 0) rfl rfl, pcW_pre hPc hK hDc hN⟩ rfl rfl hl.1 rfl (lv_room (Nat.le_of_ble_eq_true rfl)) dX7_writeForm_50 ⟨Nat.zero_le _, Nat.zero_le _⟩) hS (fun q _ z => hFc q z) hFc (fun uu t H1 locs ht1 hvm hw hB hz1 hk1 hS => ?_)
    obtain ⟨u10, rfl⟩ : ∃ z, z = uu := ⟨_, rfl⟩
    obtain ⟨hP1, hD1⟩ := hB
    rw [ht1] at hP1
    obtain rfl : u10 = u10o := Option.some.inj hw
    have hP : va_P (dC, dI) vwCl (wM cI cJ aM hM u10) H1 := hP1
    have hD : va_D A (wM cI cJ aM hM u10) := hD1.weaken (fun _ q _ z => hFc q.1 z)
    generalize H1 = H at hP hS ⊢
    refine lv_iconst (v := (0 : Int32)) hx hb dX7_writeForm_53 (by decide) ?_
    refine lv_istore_n (lv' := [(2, .int (0 : Int32)), (0, .ref aM), (1, .int p1)]) hx hb dX7_writeForm_54 rfl hl (by decide) rfl (fun ls hl => ?_)
    obtain ⟨K80_16, eK80_16, hm⟩ := bnd_ex hm
    have X80_16 : ∀ (x14 : Int32) (u15 : OS) (H : Heap) (locs : List Loc) (ls : Array Slot), K80_16 x14 u15 = some o → va_P (dC, dI) vwCl (wM cI cJ aM hM u15) H → va_D A (wM cI cJ aM hM u15) → va_S A s.heap H locs → lv_has ls 5 [(0, .ref aM), (1, .int p1), (2, .int x14)] → W p l e ({ frames := 3, cells := 0, slots := 0, locals := 66 } : Room) s m ([.ref aM, .int p1] : List Value).toArray below meth c H locs 0 0 Q (F0 m 80 ls []) := by
      intro x14 u15 H locs ls hm hP hD hS hl
      have hm := ap2 eK80_16 hm
      refine lv_aload_n hx hb dX7_writeForm_80 rfl (lv_at hl 0 rfl) ?_
      refine lv_iconst (v := (0 : Int32)) hx hb dX7_writeForm_81 (by decide) ?_
      refine va_put (D := (dC, dI)) (ci := 8) (v := .int (0 : Int32)) (ty := .int) (C := RX7) (T := TX7) (N := 34) hx hb ht inX7 tyX7 tyX7_ok nmX7 hown hK hP hD hS 0 rfl rfl 20 (by decide) (ht _ kw_47) (fun _ h9 => h9) rfl (by decide +kernel) rfl rfl (Nat.le_of_ble_eq_true rfl) dX7_writeForm_82 (fun H locs hP hD hS => ?_)
      obtain ⟨u17, eu17, hm⟩ := bnd_ex hm
      have hP : va_P (dC, dI) vwCl (wM cI cJ aM hM u17) H := by rw [eu17]; exact hP
      have hD : va_D A (wM cI cJ aM hM u17) := by rw [eu17]; exact hD
      refine lv_aload_n hx hb dX7_writeForm_85 rfl (lv_at hl 0 rfl) ?_
      refine va_get (D := (dC, dI)) (ci := 8) (v := .int (u17.1 5)) (C := RX7) (T := TX7) (N := 34) hx hb ht inX7 hown hK hP 0 rfl rfl 5 (by decide) (ht _ kw_1) (fun _ h9 => h9) rfl dX7_writeForm_86 ?_
      refine lv_iconst (v := (1 : Int32)) hx hb dX7_writeForm_89 (by decide) ?_
      refine lv_isub hx hb dX7_writeForm_90 ?_
      refine lv_topi (fun x18 ex18 => ?_)
      have hm := bnd_nm ex18 hm
      refine lv_istore_n (lv' := [(2, .int x18), (0, .ref aM), (1, .int p1)]) hx hb dX7_writeForm_91 rfl hl (by decide) rfl (fun ls hl => ?_)
      obtain ⟨K216_23, eK216_23, hm⟩ := bnd_ex hm
      have X216_23 : ∀ (x21 : Int32) (u22 : OS) (H : Heap) (locs : List Loc) (ls : Array Slot), K216_23 x21 u22 = some o → va_P (dC, dI) vwCl (wM cI cJ aM hM u22) H → va_D A (wM cI cJ aM hM u22) → va_S A s.heap H locs → lv_has ls 5 [(0, .ref aM), (1, .int p1), (2, .int x21)] → W p l e ({ frames := 3, cells := 0, slots := 0, locals := 66 } : Room) s m ([.ref aM, .int p1] : List Value).toArray below meth c H locs 0 0 Q (F0 m 216 ls []) := by
        intro x21 u22 H locs ls hm hP hD hS hl
        have hm := ap2 eK216_23 hm
        refine lv_iconst (v := (0 : Int32)) hx hb dX7_writeForm_216 (by decide) ?_
        refine lv_istore_n (lv' := [(2, .int (0 : Int32)), (0, .ref aM), (1, .int p1)]) hx hb dX7_writeForm_217 rfl hl (by decide) rfl (fun ls hl => ?_)
        obtain ⟨K274_28, eK274_28, hm⟩ := bnd_ex hm
        have X274_28 : ∀ (x26 : Int32) (u27 : OS) (H : Heap) (locs : List Loc) (ls : Array Slot), K274_28 x26 u27 = some o → va_P (dC, dI) vwCl (wM cI cJ aM hM u27) H → va_D A (wM cI cJ aM hM u27) → va_S A s.heap H locs → lv_has ls 5 [(0, .ref aM), (1, .int p1), (2, .int x26)] → W p l e ({ frames := 3, cells := 0, slots := 0, locals := 66 } : Room) s m ([.ref aM, .int p1] : List Value).toArray below meth c H locs 0 0 Q (F0 m 274 ls []) := by
          intro x26 u27 H locs ls hm hP hD hS hl
          have hm := ap2 eK274_28 hm
          refine lv_aload_n hx hb dX7_writeForm_274 rfl (lv_at hl 0 rfl) ?_
          refine lv_aload_n hx hb dX7_writeForm_275 rfl (lv_at hl 0 rfl) ?_
          refine va_get (D := (dC, dI)) (ci := 8) (v := .int (u27.1 3)) (C := RX7) (T := TX7) (N := 34) hx hb ht inX7 hown hK hP 0 rfl rfl 3 (by decide) (ht _ kw_29) (fun _ h9 => h9) rfl dX7_writeForm_276 ?_
          refine va_put (D := (dC, dI)) (ci := 8) (v := .int (u27.1 3)) (ty := .int) (C := RX7) (T := TX7) (N := 34) hx hb ht inX7 tyX7 tyX7_ok nmX7 hown hK hP hD hS 0 rfl rfl 18 (by decide) (ht _ kw_63) (fun _ h9 => h9) rfl (by decide +kernel) rfl rfl (Nat.le_of_ble_eq_true rfl) dX7_writeForm_279 (fun H locs hP hD hS => ?_)
          obtain ⟨u29, eu29, hm⟩ := bnd_ex hm
          have hP : va_P (dC, dI) vwCl (wM cI cJ aM hM u29) H := by rw [eu29]; exact hP
          have hD : va_D A (wM cI cJ aM hM u29) := by rw [eu29]; exact hD
          refine lv_aload_n hx hb dX7_writeForm_282 rfl (lv_at hl 0 rfl) ?_
          refine lv_iconst (v := (0 : Int32)) hx hb dX7_writeForm_283 (by decide) ?_
          refine va_put (D := (dC, dI)) (ci := 8) (v := .int (0 : Int32)) (ty := .int) (C := RX7) (T := TX7) (N := 34) hx hb ht inX7 tyX7 tyX7_ok nmX7 hown hK hP hD hS 0 rfl rfl 21 (by decide) (ht _ kw_37) (fun _ h9 => h9) rfl (by decide +kernel) rfl rfl (Nat.le_of_ble_eq_true rfl) dX7_writeForm_284 (fun H locs hP hD hS => ?_)
          obtain ⟨u30, eu30, hm⟩ := bnd_ex hm
          have hP : va_P (dC, dI) vwCl (wM cI cJ aM hM u30) H := by rw [eu30]; exact hP
          have hD : va_D A (wM cI cJ aM hM u30) := by rw [eu30]; exact hD
          refine lv_aload_n hx hb dX7_writeForm_287 rfl (lv_at hl 0 rfl) ?_
          refine va_get (D := (dC, dI)) (ci := 8) (v := .int (u30.1 20)) (C := RX7) (T := TX7) (N := 34) hx hb ht inX7 hown hK hP 0 rfl rfl 20 (by decide) (ht _ kw_47) (fun _ h9 => h9) rfl dX7_writeForm_288 ?_
          refine lv_iconst (v := (1 : Int32)) hx hb dX7_writeForm_291 (by decide) ?_
          refine lv_isub hx hb dX7_writeForm_292 ?_
          refine lv_topi (fun x31 ex31 => ?_)
          have hm := bnd_nm ex31 hm
          refine lv_istore_n (lv' := [(2, .int x31), (0, .ref aM), (1, .int p1)]) hx hb dX7_writeForm_293 rfl hl (by decide) rfl (fun ls hl => ?_)
          obtain ⟨K353_36, eK353_36, hm⟩ := bnd_ex hm
          have X353_36 : ∀ (x34 : Int32) (u35 : OS) (H : Heap) (locs : List Loc) (ls : Array Slot), K353_36 x34 u35 = some o → va_P (dC, dI) vwCl (wM cI cJ aM hM u35) H → va_D A (wM cI cJ aM hM u35) → va_S A s.heap H locs → lv_has ls 5 [(0, .ref aM), (1, .int p1), (2, .int x34)] → W p l e ({ frames := 3, cells := 0, slots := 0, locals := 66 } : Room) s m ([.ref aM, .int p1] : List Value).toArray below meth c H locs 0 0 Q (F0 m 353 ls []) := by
            intro x34 u35 H locs ls hm hP hD hS hl
            have hm := ap2 eK353_36 hm
            rw [← hQ]
            exact W.vret hx hb hr (fun t ht1 hW => ⟨⟨u35, rfl, hm, by rw [ht1]; exact hP, hD⟩, hS.F ht1⟩) hS.2.2 dX7_writeForm_353
          have LP294 : ∀ (n294 : Nat) (x32 : Int32) (u33 : OS) (H : Heap) (locs : List Loc) (ls : Array Slot), f_X7_writeForm_L294 p1 n294 K353_36 x32 u33 = some o → va_P (dC, dI) vwCl (wM cI cJ aM hM u33) H → va_D A (wM cI cJ aM hM u33) → va_S A s.heap H locs → lv_has ls 5 [(0, .ref aM), (1, .int p1), (2, .int x32)] → W p l e ({ frames := 3, cells := 0, slots := 0, locals := 66 } : Room) s m ([.ref aM, .int p1] : List Value).toArray below meth c H locs 0 0 Q (F0 m 294 ls []) := by
            intro n294
            induction n294 with
            | zero => intro x32 u33 H locs ls hm; exact nomatch (show (none : Option _) = some _ from hm)
            | succ n294 ih294 =>
              intro x32 u33 H locs ls hm hP hD hS hl
              unfold f_X7_writeForm_L294 at hm
              refine lv_iload_n hx hb dX7_writeForm_294 rfl (lv_at hl 2 rfl) ?_
              refine lv_if_lt (tgt := 353) hx hb dX7_writeForm_295 (by decide) (fun c37 => ?_) (fun c37 => ?_)
              · have hm := ite_t c37 hm
                exact X353_36 x32 u33 _ _ _ hm hP hD hS (lv_sub hl [0, 1, 2] rfl)
              · have hm := ite_f c37 hm
                refine lv_iload_n hx hb dX7_writeForm_298 rfl (lv_at hl 1 rfl) ?_
                refine lv_iconst (v := (1 : Int32)) hx hb dX7_writeForm_299 (by decide) ?_
                refine lv_icmp_ne (tgt := 318) hx hb dX7_writeForm_300 (by decide) (fun c38 => ?_) (fun c38 => ?_)
                · have hm := ite_f c38 hm
                  refine lv_iload_n hx hb dX7_writeForm_318 rfl (lv_at hl 1 rfl) ?_
                  refine lv_iconst (v := (2 : Int32)) hx hb dX7_writeForm_319 (by decide) ?_
                  refine lv_icmp_ne (tgt := 337) hx hb dX7_writeForm_320 (by decide) (fun c39 => ?_) (fun c39 => ?_)
                  · have hm := ite_f c39 hm
                    refine lv_aload_n hx hb dX7_writeForm_337 rfl (lv_at hl 0 rfl) ?_
                    refine lv_aload_n hx hb dX7_writeForm_338 rfl (lv_at hl 0 rfl) ?_
                    refine va_get (D := (dC, dI)) (ci := 8) (v := .ref (hM 19)) (C := RX7) (T := TX7) (N := 34) hx hb ht inX7 hown hK hP 0 rfl rfl 19 (by decide) (ht _ kw_46) (fun _ h9 => h9) rfl dX7_writeForm_339 ?_
                    refine lv_iload_n hx hb dX7_writeForm_342 rfl (lv_at hl 2 rfl) ?_
                    obtain ⟨g40, hm⟩ := gdi_of hm
                    refine va_iald hx hb hK hP 12 0 rfl rfl g40 dX7_writeForm_343 ?_
                    have hPc : va_P (dC, dI) vwCl (wM cI cJ aM hM u33) _ := hP
                    have hDc : va_D A (wM cI cJ aM hM u33) := hD
                    have hFc := va_free (wc := (wM cI cJ aM hM u33)) hD hS hA [0, 1, 2, 3, 4, 5, 6, 7, 8, 9, 10, 11, 12, 13, 14] rfl
                    obtain ⟨u41o, e42, hm⟩ := oC1_of hm
                    refine va_callv (va_runV (As := [.int (u33.2.1 19 (x32).toNatClampNeg)]) (rest := []) ⟨hx, hb, hml, hown, ht⟩ (c_X7_putByte l dC dI cI cJ aM hM H.size u33 (u33.2.1 19 (x32).toNatClampNeg) u41o e42) (cwV 1 ht (gdV kw_36 kw_34 kw_35 kw_7 kw_33) rfl rfl rfl ⟨rfl, nd_X7_putByte⟩ ⟨Nat.le_of_ble_eq_true rfl, Nat.le_of_ble_eq_true rfl⟩) ⟨pcW_blind, va_recv hK hPc (ci := 8) (q0 := 0) rfl rfl, pcW_pre hPc hK hDc hN⟩ rfl rfl hl.1 rfl (lv_room (Nat.le_of_ble_eq_true rfl)) dX7_writeForm_344 ⟨Nat.zero_le _, Nat.zero_le _⟩) hS (fun q _ z => hFc q z) hFc (fun uu t H1 locs ht1 hvm hw hB hz1 hk1 hS => ?_)
                    obtain ⟨u41, rfl⟩ : ∃ z, z = uu := ⟨_, rfl⟩
                    obtain ⟨hP1, hD1⟩ := hB
                    rw [ht1] at hP1
                    obtain rfl : u41 = u41o := Option.some.inj hw
                    have hP : va_P (dC, dI) vwCl (wM cI cJ aM hM u41) H1 := hP1
                    have hD : va_D A (wM cI cJ aM hM u41) := hD1.weaken (fun _ q _ z => hFc q.1 z)
                    generalize H1 = H at hP hS ⊢
                    obtain ⟨x43, ex43, hm⟩ := bnd_ex hm
                    refine lv_iinc (v := x43) (lv' := [(2, .int x43), (0, .ref aM), (1, .int p1)]) hx hb dX7_writeForm_347 hl (k := 2) rfl (by rw [ex43]; exact congrArg _ (by decide)) (by decide) rfl (fun ls hl => ?_)
                    refine lv_goto (tgt := 294) hx hb dX7_writeForm_350 (by decide) ?_
                    exact ih294 x43 u41 _ _ _ hm hP hD hS (lv_sub hl [1, 2, 0] rfl)
                  · have hm := ite_t c39 hm
                    refine lv_aload_n hx hb dX7_writeForm_323 rfl (lv_at hl 0 rfl) ?_
                    refine lv_aload_n hx hb dX7_writeForm_324 rfl (lv_at hl 0 rfl) ?_
                    refine va_get (D := (dC, dI)) (ci := 8) (v := .ref (hM 19)) (C := RX7) (T := TX7) (N := 34) hx hb ht inX7 hown hK hP 0 rfl rfl 19 (by decide) (ht _ kw_46) (fun _ h9 => h9) rfl dX7_writeForm_325 ?_
                    refine lv_iload_n hx hb dX7_writeForm_328 rfl (lv_at hl 2 rfl) ?_
                    obtain ⟨g44, hm⟩ := gdi_of hm
                    refine va_iald hx hb hK hP 12 0 rfl rfl g44 dX7_writeForm_329 ?_
                    refine lv_iconst (v := (1 : Int32)) hx hb dX7_writeForm_330 (by decide) ?_
                    have hPc : va_P (dC, dI) vwCl (wM cI cJ aM hM u33) _ := hP
                    have hDc : va_D A (wM cI cJ aM hM u33) := hD
                    have hFc := va_free (wc := (wM cI cJ aM hM u33)) hD hS hA [0, 1, 2, 3, 4, 5, 6, 7, 8, 9, 10, 11, 12, 13, 14] rfl
                    obtain ⟨u45o, e46, hm⟩ := oC1_of hm
                    refine va_callv (va_runV (As := [.int (u33.2.1 19 (x32).toNatClampNeg), .int (1 : Int32)]) (rest := []) ⟨hx, hb, hml, hown, ht⟩ (c_X7_putBits l dC dI cI cJ aM hM H.size u33 (u33.2.1 19 (x32).toNatClampNeg) (1 : Int32) u45o e46) (cwV 2 ht (gdV kw_44 kw_42 kw_43 kw_7 kw_41) rfl rfl rfl ⟨rfl, nd_X7_putBits⟩ ⟨Nat.le_of_ble_eq_true rfl, Nat.le_of_ble_eq_true rfl⟩) ⟨pcW_blind, va_recv hK hPc (ci := 8) (q0 := 0) rfl rfl, pcW_pre hPc hK hDc hN⟩ rfl rfl hl.1 rfl (lv_room (Nat.le_of_ble_eq_true rfl)) dX7_writeForm_331 ⟨Nat.zero_le _, Nat.zero_le _⟩) hS (fun q _ z => hFc q z) hFc (fun uu t H1 locs ht1 hvm hw hB hz1 hk1 hS => ?_)
                    obtain ⟨u45, rfl⟩ : ∃ z, z = uu := ⟨_, rfl⟩
                    obtain ⟨hP1, hD1⟩ := hB
                    rw [ht1] at hP1
                    obtain rfl : u45 = u45o := Option.some.inj hw
                    have hP : va_P (dC, dI) vwCl (wM cI cJ aM hM u45) H1 := hP1
                    have hD : va_D A (wM cI cJ aM hM u45) := hD1.weaken (fun _ q _ z => hFc q.1 z)
                    generalize H1 = H at hP hS ⊢
                    refine lv_goto (tgt := 347) hx hb dX7_writeForm_334 (by decide) ?_
                    obtain ⟨x47, ex47, hm⟩ := bnd_ex hm
                    refine lv_iinc (v := x47) (lv' := [(2, .int x47), (0, .ref aM), (1, .int p1)]) hx hb dX7_writeForm_347 hl (k := 2) rfl (by rw [ex47]; exact congrArg _ (by decide)) (by decide) rfl (fun ls hl => ?_)
                    refine lv_goto (tgt := 294) hx hb dX7_writeForm_350 (by decide) ?_
                    exact ih294 x47 u45 _ _ _ hm hP hD hS (lv_sub hl [1, 2, 0] rfl)
                · have hm := ite_t c38 hm
                  refine lv_aload_n hx hb dX7_writeForm_303 rfl (lv_at hl 0 rfl) ?_
                  refine lv_aload_n hx hb dX7_writeForm_304 rfl (lv_at hl 0 rfl) ?_
                  refine va_get (D := (dC, dI)) (ci := 8) (v := .ref (hM 19)) (C := RX7) (T := TX7) (N := 34) hx hb ht inX7 hown hK hP 0 rfl rfl 19 (by decide) (ht _ kw_46) (fun _ h9 => h9) rfl dX7_writeForm_305 ?_
                  refine lv_iload_n hx hb dX7_writeForm_308 rfl (lv_at hl 2 rfl) ?_
                  obtain ⟨g48, hm⟩ := gdi_of hm
                  refine va_iald hx hb hK hP 12 0 rfl rfl g48 dX7_writeForm_309 ?_
                  refine lv_i2l hx hb dX7_writeForm_310 rfl ?_
                  refine lv_iconst (v := (4 : Int32)) hx hb dX7_writeForm_311 (by decide) ?_
                  have hPc : va_P (dC, dI) vwCl (wM cI cJ aM hM u33) _ := hP
                  have hDc : va_D A (wM cI cJ aM hM u33) := hD
                  have hFc := va_free (wc := (wM cI cJ aM hM u33)) hD hS hA [0, 1, 2, 3, 4, 5, 6, 7, 8, 9, 10, 11, 12, 13, 14] rfl
                  obtain ⟨u49o, e50, hm⟩ := oC1_of hm
                  refine va_callv (va_runV (As := [.long ((u33.2.1 19 (x32).toNatClampNeg)).toInt64, .int (4 : Int32)]) (rest := []) ⟨hx, hb, hml, hown, ht⟩ (c_X7_putWide l dC dI cI cJ aM hM H.size u33 ((u33.2.1 19 (x32).toNatClampNeg)).toInt64 (4 : Int32) u49o e50) (cwV 2 ht (gdV kw_67 kw_65 kw_66 kw_7 kw_64) rfl rfl rfl ⟨rfl, nd_X7_putWide⟩ ⟨Nat.le_of_ble_eq_true rfl, Nat.le_of_ble_eq_true rfl⟩) ⟨pcW_blind, va_recv hK hPc (ci := 8) (q0 := 0) rfl rfl, pcW_pre hPc hK hDc hN⟩ rfl rfl hl.1 rfl (lv_room (Nat.le_of_ble_eq_true rfl)) dX7_writeForm_312 ⟨Nat.zero_le _, Nat.zero_le _⟩) hS (fun q _ z => hFc q z) hFc (fun uu t H1 locs ht1 hvm hw hB hz1 hk1 hS => ?_)
                  obtain ⟨u49, rfl⟩ : ∃ z, z = uu := ⟨_, rfl⟩
                  obtain ⟨hP1, hD1⟩ := hB
                  rw [ht1] at hP1
                  obtain rfl : u49 = u49o := Option.some.inj hw
                  have hP : va_P (dC, dI) vwCl (wM cI cJ aM hM u49) H1 := hP1
                  have hD : va_D A (wM cI cJ aM hM u49) := hD1.weaken (fun _ q _ z => hFc q.1 z)
                  generalize H1 = H at hP hS ⊢
                  refine lv_goto (tgt := 347) hx hb dX7_writeForm_315 (by decide) ?_
                  obtain ⟨x51, ex51, hm⟩ := bnd_ex hm
                  refine lv_iinc (v := x51) (lv' := [(2, .int x51), (0, .ref aM), (1, .int p1)]) hx hb dX7_writeForm_347 hl (k := 2) rfl (by rw [ex51]; exact congrArg _ (by decide)) (by decide) rfl (fun ls hl => ?_)
                  refine lv_goto (tgt := 294) hx hb dX7_writeForm_350 (by decide) ?_
                  exact ih294 x51 u49 _ _ _ hm hP hD hS (lv_sub hl [1, 2, 0] rfl)
          exact LP294 FU x31 u30 _ _ _ hm hP hD hS (lv_sub hl [1, 2, 0] rfl)
        have LP218 : ∀ (n218 : Nat) (x24 : Int32) (u25 : OS) (H : Heap) (locs : List Loc) (ls : Array Slot), f_X7_writeForm_L218 p1 n218 K274_28 x24 u25 = some o → va_P (dC, dI) vwCl (wM cI cJ aM hM u25) H → va_D A (wM cI cJ aM hM u25) → va_S A s.heap H locs → lv_has ls 5 [(0, .ref aM), (1, .int p1), (2, .int x24)] → W p l e ({ frames := 3, cells := 0, slots := 0, locals := 66 } : Room) s m ([.ref aM, .int p1] : List Value).toArray below meth c H locs 0 0 Q (F0 m 218 ls []) := by
          intro n218
          induction n218 with
          | zero => intro x24 u25 H locs ls hm; exact nomatch (show (none : Option _) = some _ from hm)
          | succ n218 ih218 =>
            intro x24 u25 H locs ls hm hP hD hS hl
            unfold f_X7_writeForm_L218 at hm
            refine lv_iload_n hx hb dX7_writeForm_218 rfl (lv_at hl 2 rfl) ?_
            refine lv_aload_n hx hb dX7_writeForm_219 rfl (lv_at hl 0 rfl) ?_
            refine va_get (D := (dC, dI)) (ci := 8) (v := .int (u25.1 3)) (C := RX7) (T := TX7) (N := 34) hx hb ht inX7 hown hK hP 0 rfl rfl 3 (by decide) (ht _ kw_29) (fun _ h9 => h9) rfl dX7_writeForm_220 ?_
            refine lv_icmp_ge (tgt := 274) hx hb dX7_writeForm_223 (by decide) (fun c52 => ?_) (fun c52 => ?_)
            · have hm := ite_t c52 hm
              exact X274_28 x24 u25 _ _ _ hm hP hD hS (lv_sub hl [0, 1, 2] rfl)
            · have hm := ite_f c52 hm
              refine lv_aload_n hx hb dX7_writeForm_226 rfl (lv_at hl 0 rfl) ?_
              refine lv_aload_n hx hb dX7_writeForm_227 rfl (lv_at hl 0 rfl) ?_
              refine va_get (D := (dC, dI)) (ci := 8) (v := .ref (hM 16)) (C := RX7) (T := TX7) (N := 34) hx hb ht inX7 hown hK hP 0 rfl rfl 16 (by decide) (ht _ kw_45) (fun _ h9 => h9) rfl dX7_writeForm_228 ?_
              refine lv_iload_n hx hb dX7_writeForm_231 rfl (lv_at hl 2 rfl) ?_
              obtain ⟨g53, hm⟩ := gdi_of hm
              refine va_lald hx hb hK hP 10 1 rfl rfl g53 dX7_writeForm_232 ?_
              refine lv_iload_n hx hb dX7_writeForm_233 rfl (lv_at hl 1 rfl) ?_
              refine lv_iconst (v := (1 : Int32)) hx hb dX7_writeForm_234 (by decide) ?_
              obtain ⟨K253_55, eK253_55, hm⟩ := bnd_ex hm
              have J253_55 : ∀ (x54 : Int32) (H : Heap) (locs : List Loc) (ls : Array Slot), K253_55 x54 = some o → va_P (dC, dI) vwCl (wM cI cJ aM hM u25) H → va_D A (wM cI cJ aM hM u25) → va_S A s.heap H locs → lv_has ls 5 [(0, .ref aM), (1, .int p1), (2, .int x24)] → W p l e ({ frames := 3, cells := 0, slots := 0, locals := 66 } : Room) s m ([.ref aM, .int p1] : List Value).toArray below meth c H locs 0 0 Q (F0 m 253 ls [.int x54, .long (u25.2.2.1 16 (x24).toNatClampNeg), .ref aM]) := by
                intro x54 H locs ls hm hP hD hS hl
                have hm := ap1 eK253_55 hm
                have hPc : va_P (dC, dI) vwCl (wM cI cJ aM hM u25) _ := hP
                have hDc : va_D A (wM cI cJ aM hM u25) := hD
                have hFc := va_free (wc := (wM cI cJ aM hM u25)) hD hS hA [0, 1, 2, 3, 4, 5, 6, 7, 8, 9, 10, 11, 12, 13, 14] rfl
                obtain ⟨u56o, e57, hm⟩ := oC1_of hm
                refine va_callv (va_runV (As := [.long (u25.2.2.1 16 (x24).toNatClampNeg), .int x54]) (rest := []) ⟨hx, hb, hml, hown, ht⟩ (c_X7_putWide l dC dI cI cJ aM hM H.size u25 (u25.2.2.1 16 (x24).toNatClampNeg) x54 u56o e57) (cwV 2 ht (gdV kw_67 kw_65 kw_66 kw_7 kw_64) rfl rfl rfl ⟨rfl, nd_X7_putWide⟩ ⟨Nat.le_of_ble_eq_true rfl, Nat.le_of_ble_eq_true rfl⟩) ⟨pcW_blind, va_recv hK hPc (ci := 8) (q0 := 0) rfl rfl, pcW_pre hPc hK hDc hN⟩ rfl rfl hl.1 rfl (lv_room (Nat.le_of_ble_eq_true rfl)) dX7_writeForm_253 ⟨Nat.zero_le _, Nat.zero_le _⟩) hS (fun q _ z => hFc q z) hFc (fun uu t H1 locs ht1 hvm hw hB hz1 hk1 hS => ?_)
                obtain ⟨u56, rfl⟩ : ∃ z, z = uu := ⟨_, rfl⟩
                obtain ⟨hP1, hD1⟩ := hB
                rw [ht1] at hP1
                obtain rfl : u56 = u56o := Option.some.inj hw
                have hP : va_P (dC, dI) vwCl (wM cI cJ aM hM u56) H1 := hP1
                have hD : va_D A (wM cI cJ aM hM u56) := hD1.weaken (fun _ q _ z => hFc q.1 z)
                generalize H1 = H at hP hS ⊢
                refine lv_aload_n hx hb dX7_writeForm_256 rfl (lv_at hl 0 rfl) ?_
                refine va_get (D := (dC, dI)) (ci := 8) (v := .ref (hM 17)) (C := RX7) (T := TX7) (N := 34) hx hb ht inX7 hown hK hP 0 rfl rfl 17 (by decide) (ht _ kw_62) (fun _ h9 => h9) rfl dX7_writeForm_257 ?_
                refine lv_iload_n hx hb dX7_writeForm_260 rfl (lv_at hl 2 rfl) ?_
                refine lv_aload_n hx hb dX7_writeForm_261 rfl (lv_at hl 0 rfl) ?_
                refine va_get (D := (dC, dI)) (ci := 8) (v := .ref (hM 16)) (C := RX7) (T := TX7) (N := 34) hx hb ht inX7 hown hK hP 0 rfl rfl 16 (by decide) (ht _ kw_45) (fun _ h9 => h9) rfl dX7_writeForm_262 ?_
                refine lv_iload_n hx hb dX7_writeForm_265 rfl (lv_at hl 2 rfl) ?_
                obtain ⟨g58, hm⟩ := gdi_of hm
                refine va_lald hx hb hK hP 10 1 rfl rfl g58 dX7_writeForm_266 ?_
                obtain ⟨g59, hm⟩ := gdi_of hm
                refine va_last hx hb hK hP hD hS 11 1 rfl rfl g59 dX7_writeForm_267 (fun H locs hP hD hS => ?_)
                obtain ⟨u60, eu60, hm⟩ := bnd_ex hm
                have hP : va_P (dC, dI) vwCl (wM cI cJ aM hM u60) H := by rw [eu60]; exact hP
                have hD : va_D A (wM cI cJ aM hM u60) := by rw [eu60]; exact hD
                obtain ⟨x61, ex61, hm⟩ := bnd_ex hm
                refine lv_iinc (v := x61) (lv' := [(2, .int x61), (0, .ref aM), (1, .int p1)]) hx hb dX7_writeForm_268 hl (k := 2) rfl (by rw [ex61]; exact congrArg _ (by decide)) (by decide) rfl (fun ls hl => ?_)
                refine lv_goto (tgt := 218) hx hb dX7_writeForm_271 (by decide) ?_
                exact ih218 x61 u60 _ _ _ hm hP hD hS (lv_sub hl [1, 2, 0] rfl)
              refine lv_icmp_ne (tgt := 243) hx hb dX7_writeForm_235 (by decide) (fun c62 => ?_) (fun c62 => ?_)
              · have hm := ite_f c62 hm
                refine lv_iload_n hx hb dX7_writeForm_243 rfl (lv_at hl 1 rfl) ?_
                refine lv_iconst (v := (2 : Int32)) hx hb dX7_writeForm_244 (by decide) ?_
                refine lv_icmp_ne (tgt := 252) hx hb dX7_writeForm_245 (by decide) (fun c63 => ?_) (fun c63 => ?_)
                · have hm := ite_f c63 hm
                  refine lv_iconst (v := (4 : Int32)) hx hb dX7_writeForm_252 (by decide) ?_
                  exact J253_55 (4 : Int32) _ _ _ hm hP hD hS (lv_sub hl [0, 1, 2] rfl)
                · have hm := ite_t c63 hm
                  refine lv_iconst (v := (2 : Int32)) hx hb dX7_writeForm_248 (by decide) ?_
                  refine lv_goto (tgt := 253) hx hb dX7_writeForm_249 (by decide) ?_
                  exact J253_55 (2 : Int32) _ _ _ hm hP hD hS (lv_sub hl [0, 1, 2] rfl)
              · have hm := ite_t c62 hm
                refine lv_bipush (v := (8 : Int32)) hx hb dX7_writeForm_238 (by decide) ?_
                refine lv_goto (tgt := 253) hx hb dX7_writeForm_240 (by decide) ?_
                exact J253_55 (8 : Int32) _ _ _ hm hP hD hS (lv_sub hl [0, 1, 2] rfl)
        exact LP218 FU (0 : Int32) u22 _ _ _ hm hP hD hS (lv_sub hl [1, 2, 0] rfl)
      have LP92 : ∀ (n92 : Nat) (x19 : Int32) (u20 : OS) (H : Heap) (locs : List Loc) (ls : Array Slot), f_X7_writeForm_L92 p1 n92 K216_23 x19 u20 = some o → va_P (dC, dI) vwCl (wM cI cJ aM hM u20) H → va_D A (wM cI cJ aM hM u20) → va_S A s.heap H locs → lv_has ls 5 [(0, .ref aM), (1, .int p1), (2, .int x19)] → W p l e ({ frames := 3, cells := 0, slots := 0, locals := 66 } : Room) s m ([.ref aM, .int p1] : List Value).toArray below meth c H locs 0 0 Q (F0 m 92 ls []) := by
        intro n92
        induction n92 with
        | zero => intro x19 u20 H locs ls hm; exact nomatch (show (none : Option _) = some _ from hm)
        | succ n92 ih92 =>
          intro x19 u20 H locs ls hm hP hD hS hl
          unfold f_X7_writeForm_L92 at hm
          refine lv_iload_n hx hb dX7_writeForm_92 rfl (lv_at hl 2 rfl) ?_
          refine lv_if_lt (tgt := 216) hx hb dX7_writeForm_93 (by decide) (fun c64 => ?_) (fun c64 => ?_)
          · have hm := ite_t c64 hm
            exact X216_23 x19 u20 _ _ _ hm hP hD hS (lv_sub hl [0, 1, 2] rfl)
          · have hm := ite_f c64 hm
            refine lv_aload_n hx hb dX7_writeForm_96 rfl (lv_at hl 0 rfl) ?_
            refine va_get (D := (dC, dI)) (ci := 8) (v := .ref (hM 4)) (C := RX7) (T := TX7) (N := 34) hx hb ht inX7 hown hK hP 0 rfl rfl 4 (by decide) (ht _ kw_2) (fun _ h9 => h9) rfl dX7_writeForm_97 ?_
            refine lv_iload_n hx hb dX7_writeForm_100 rfl (lv_at hl 2 rfl) ?_
            obtain ⟨g65, hm⟩ := gdi_of hm
            refine va_iald hx hb hK hP 1 0 rfl rfl g65 dX7_writeForm_101 ?_
            refine lv_topi (fun x66 ex66 => ?_)
            have hm := bnd_nm ex66 hm
            refine lv_istore_n (lv' := [(3, .int x66), (0, .ref aM), (1, .int p1), (2, .int x19)]) hx hb dX7_writeForm_102 rfl hl (by decide) rfl (fun ls hl => ?_)
            refine lv_iload_n hx hb dX7_writeForm_103 rfl (lv_at hl 3 rfl) ?_
            refine lv_aload_n hx hb dX7_writeForm_104 rfl (lv_at hl 1 rfl) ?_
            refine va_get (D := (dC, dI)) (ci := 8) (v := .int (u20.1 3)) (C := RX7) (T := TX7) (N := 34) hx hb ht inX7 hown hK hP 0 rfl rfl 3 (by decide) (ht _ kw_29) (fun _ h9 => h9) rfl dX7_writeForm_105 ?_
            obtain ⟨g67, hm⟩ := gdz_of hm
            refine lv_irem hx hb dX7_writeForm_108 g67 ?_
            refine lv_topi (fun x68 ex68 => ?_)
            have hm := bnd_nm ex68 hm
            refine lv_istore (lv' := [(4, .int x68), (3, .int x66), (0, .ref aM), (1, .int p1), (2, .int x19)]) hx hb dX7_writeForm_109 hl (by decide) rfl (fun ls hl => ?_)
            refine lv_iload_n hx hb dX7_writeForm_111 rfl (lv_at hl 3 rfl) ?_
            refine lv_iconst (v := (3 : Int32)) hx hb dX7_writeForm_112 (by decide) ?_
            refine lv_icmp_ne (tgt := 126) hx hb dX7_writeForm_113 (by decide) (fun c69 => ?_) (fun c69 => ?_)
            · have hm := ite_f c69 hm
              refine lv_aload_n hx hb dX7_writeForm_126 rfl (lv_at hl 2 rfl) ?_
              refine va_get (D := (dC, dI)) (ci := 8) (v := .ref (hM 8)) (C := RX7) (T := TX7) (N := 34) hx hb ht inX7 hown hK hP 0 rfl rfl 8 (by decide) (ht _ kw_18) (fun _ h9 => h9) rfl dX7_writeForm_127 ?_
              refine lv_iload_n hx hb dX7_writeForm_130 rfl (lv_at hl 1 rfl) ?_
              obtain ⟨g70, hm⟩ := gdi_of hm
              refine va_iald hx hb hK hP 3 0 rfl rfl g70 dX7_writeForm_131 ?_
              refine lv_iconst (v := (1 : Int32)) hx hb dX7_writeForm_132 (by decide) ?_
              refine lv_aload_n hx hb dX7_writeForm_133 rfl (lv_at hl 2 rfl) ?_
              refine va_get (D := (dC, dI)) (ci := 8) (v := .int (u20.1 0)) (C := RX7) (T := TX7) (N := 34) hx hb ht inX7 hown hK hP 0 rfl rfl 0 (by decide) (ht _ kw_14) (fun _ h9 => h9) rfl dX7_writeForm_134 ?_
              refine lv_ishl hx hb dX7_writeForm_137 ?_
              refine lv_icmp_ge (tgt := 210) hx hb dX7_writeForm_138 (by decide) (fun c71 => ?_) (fun c71 => ?_)
              · have hm := ite_t c71 hm
                obtain ⟨x72, ex72, hm⟩ := bnd_ex hm
                refine lv_iinc (v := x72) (lv' := [(2, .int x72), (4, .int x68), (3, .int x66), (0, .ref aM), (1, .int p1)]) hx hb dX7_writeForm_210 hl (k := 4) rfl (by rw [ex72]; exact congrArg _ (by decide)) (by decide) rfl (fun ls hl => ?_)
                refine lv_goto (tgt := 92) hx hb dX7_writeForm_213 (by decide) ?_
                exact ih92 x72 u20 _ _ _ hm hP hD hS (lv_sub hl [3, 4, 0] rfl)
              · have hm := ite_f c71 hm
                refine lv_iload_n hx hb dX7_writeForm_141 rfl (lv_at hl 3 rfl) ?_
                refine lv_if_ne (tgt := 166) hx hb dX7_writeForm_142 (by decide) (fun c73 => ?_) (fun c73 => ?_)
                · have hm := ite_f c73 hm
                  refine lv_iload_n hx hb dX7_writeForm_166 rfl (lv_at hl 3 rfl) ?_
                  refine lv_iconst (v := (1 : Int32)) hx hb dX7_writeForm_167 (by decide) ?_
                  refine lv_icmp_ne (tgt := 192) hx hb dX7_writeForm_168 (by decide) (fun c74 => ?_) (fun c74 => ?_)
                  · have hm := ite_f c74 hm
                    refine lv_aload_n hx hb dX7_writeForm_192 rfl (lv_at hl 2 rfl) ?_
                    refine lv_iload hx hb dX7_writeForm_193 (lv_at hl 0 rfl) ?_
                    refine lv_aload_n hx hb dX7_writeForm_195 rfl (lv_at hl 2 rfl) ?_
                    refine va_get (D := (dC, dI)) (ci := 8) (v := .ref (hM 8)) (C := RX7) (T := TX7) (N := 34) hx hb ht inX7 hown hK hP 0 rfl rfl 8 (by decide) (ht _ kw_18) (fun _ h9 => h9) rfl dX7_writeForm_196 ?_
                    refine lv_iload_n hx hb dX7_writeForm_199 rfl (lv_at hl 1 rfl) ?_
                    obtain ⟨g75, hm⟩ := gdi_of hm
                    refine va_iald hx hb hK hP 3 0 rfl rfl g75 dX7_writeForm_200 ?_
                    refine lv_aload_n hx hb dX7_writeForm_201 rfl (lv_at hl 2 rfl) ?_
                    refine va_get (D := (dC, dI)) (ci := 8) (v := .ref (hM 9)) (C := RX7) (T := TX7) (N := 34) hx hb ht inX7 hown hK hP 0 rfl rfl 9 (by decide) (ht _ kw_20) (fun _ h9 => h9) rfl dX7_writeForm_202 ?_
                    refine lv_iload_n hx hb dX7_writeForm_205 rfl (lv_at hl 1 rfl) ?_
                    obtain ⟨g76, hm⟩ := gdi_of hm
                    refine va_iald hx hb hK hP 4 0 rfl rfl g76 dX7_writeForm_206 ?_
                    have hPc : va_P (dC, dI) vwCl (wM cI cJ aM hM u20) _ := hP
                    have hDc : va_D A (wM cI cJ aM hM u20) := hD
                    have hFc := va_free (wc := (wM cI cJ aM hM u20)) hD hS hA [0, 1, 2, 3, 4, 5, 6, 7, 8, 9, 10, 11, 12, 13, 14] rfl
                    obtain ⟨u77o, e78, hm⟩ := oC1_of hm
                    refine va_callv (va_runV (As := [.int x68, .int (u20.2.1 8 (x66).toNatClampNeg), .int (u20.2.1 9 (x66).toNatClampNeg)]) (rest := []) ⟨hx, hb, hml, hown, ht⟩ (c_X7_writeBitsOf l dC dI cI cJ aM hM H.size u20 x68 (u20.2.1 8 (x66).toNatClampNeg) (u20.2.1 9 (x66).toNatClampNeg) u77o e78) (cwV 3 ht (gdV kw_75 kw_73 kw_74 kw_7 kw_72) rfl rfl rfl ⟨rfl, nd_X7_writeBitsOf⟩ ⟨Nat.le_of_ble_eq_true rfl, Nat.le_of_ble_eq_true rfl⟩) ⟨pcW_blind, va_recv hK hPc (ci := 8) (q0 := 0) rfl rfl, pcW_pre hPc hK hDc hN⟩ rfl rfl hl.1 rfl (lv_room (Nat.le_of_ble_eq_true rfl)) dX7_writeForm_207 ⟨Nat.zero_le _, Nat.zero_le _⟩) hS (fun q _ z => hFc q z) hFc (fun uu t H1 locs ht1 hvm hw hB hz1 hk1 hS => ?_)
                    obtain ⟨u77, rfl⟩ : ∃ z, z = uu := ⟨_, rfl⟩
                    obtain ⟨hP1, hD1⟩ := hB
                    rw [ht1] at hP1
                    obtain rfl : u77 = u77o := Option.some.inj hw
                    have hP : va_P (dC, dI) vwCl (wM cI cJ aM hM u77) H1 := hP1
                    have hD : va_D A (wM cI cJ aM hM u77) := hD1.weaken (fun _ q _ z => hFc q.1 z)
                    generalize H1 = H at hP hS ⊢
                    obtain ⟨x79, ex79, hm⟩ := bnd_ex hm
                    refine lv_iinc (v := x79) (lv' := [(2, .int x79), (4, .int x68), (3, .int x66), (0, .ref aM), (1, .int p1)]) hx hb dX7_writeForm_210 hl (k := 4) rfl (by rw [ex79]; exact congrArg _ (by decide)) (by decide) rfl (fun ls hl => ?_)
                    refine lv_goto (tgt := 92) hx hb dX7_writeForm_213 (by decide) ?_
                    exact ih92 x79 u77 _ _ _ hm hP hD hS (lv_sub hl [3, 4, 0] rfl)
                  · have hm := ite_t c74 hm
                    refine lv_aload_n hx hb dX7_writeForm_171 rfl (lv_at hl 2 rfl) ?_
                    refine lv_iload hx hb dX7_writeForm_172 (lv_at hl 0 rfl) ?_
                    refine lv_aload_n hx hb dX7_writeForm_174 rfl (lv_at hl 2 rfl) ?_
                    refine va_get (D := (dC, dI)) (ci := 8) (v := .ref (hM 8)) (C := RX7) (T := TX7) (N := 34) hx hb ht inX7 hown hK hP 0 rfl rfl 8 (by decide) (ht _ kw_18) (fun _ h9 => h9) rfl dX7_writeForm_175 ?_
                    refine lv_iload_n hx hb dX7_writeForm_178 rfl (lv_at hl 1 rfl) ?_
                    obtain ⟨g80, hm⟩ := gdi_of hm
                    refine va_iald hx hb hK hP 3 0 rfl rfl g80 dX7_writeForm_179 ?_
                    refine lv_aload_n hx hb dX7_writeForm_180 rfl (lv_at hl 2 rfl) ?_
                    refine va_get (D := (dC, dI)) (ci := 8) (v := .ref (hM 9)) (C := RX7) (T := TX7) (N := 34) hx hb ht inX7 hown hK hP 0 rfl rfl 9 (by decide) (ht _ kw_20) (fun _ h9 => h9) rfl dX7_writeForm_181 ?_
                    refine lv_iload_n hx hb dX7_writeForm_184 rfl (lv_at hl 1 rfl) ?_
                    obtain ⟨g81, hm⟩ := gdi_of hm
                    refine va_iald hx hb hK hP 4 0 rfl rfl g81 dX7_writeForm_185 ?_
                    have hPc : va_P (dC, dI) vwCl (wM cI cJ aM hM u20) _ := hP
                    have hDc : va_D A (wM cI cJ aM hM u20) := hD
                    have hFc := va_free (wc := (wM cI cJ aM hM u20)) hD hS hA [0, 1, 2, 3, 4, 5, 6, 7, 8, 9, 10, 11, 12, 13, 14] rfl
                    obtain ⟨u82o, e83, hm⟩ := oC1_of hm
                    refine va_callv (va_runV (As := [.int x68, .int (u20.2.1 8 (x66).toNatClampNeg), .int (u20.2.1 9 (x66).toNatClampNeg)]) (rest := []) ⟨hx, hb, hml, hown, ht⟩ (c_X7_writeWords l dC dI cI cJ aM hM H.size u20 x68 (u20.2.1 8 (x66).toNatClampNeg) (u20.2.1 9 (x66).toNatClampNeg) u82o e83) (cwV 3 ht (gdV kw_79 kw_77 kw_78 kw_7 kw_76) rfl rfl rfl ⟨rfl, nd_X7_writeWords⟩ ⟨Nat.le_of_ble_eq_true rfl, Nat.le_of_ble_eq_true rfl⟩) ⟨pcW_blind, va_recv hK hPc (ci := 8) (q0 := 0) rfl rfl, pcW_pre hPc hK hDc hN⟩ rfl rfl hl.1 rfl (lv_room (Nat.le_of_ble_eq_true rfl)) dX7_writeForm_186 ⟨Nat.zero_le _, Nat.zero_le _⟩) hS (fun q _ z => hFc q z) hFc (fun uu t H1 locs ht1 hvm hw hB hz1 hk1 hS => ?_)
                    obtain ⟨u82, rfl⟩ : ∃ z, z = uu := ⟨_, rfl⟩
                    obtain ⟨hP1, hD1⟩ := hB
                    rw [ht1] at hP1
                    obtain rfl : u82 = u82o := Option.some.inj hw
                    have hP : va_P (dC, dI) vwCl (wM cI cJ aM hM u82) H1 := hP1
                    have hD : va_D A (wM cI cJ aM hM u82) := hD1.weaken (fun _ q _ z => hFc q.1 z)
                    generalize H1 = H at hP hS ⊢
                    refine lv_goto (tgt := 210) hx hb dX7_writeForm_189 (by decide) ?_
                    obtain ⟨x84, ex84, hm⟩ := bnd_ex hm
                    refine lv_iinc (v := x84) (lv' := [(2, .int x84), (4, .int x68), (3, .int x66), (0, .ref aM), (1, .int p1)]) hx hb dX7_writeForm_210 hl (k := 4) rfl (by rw [ex84]; exact congrArg _ (by decide)) (by decide) rfl (fun ls hl => ?_)
                    refine lv_goto (tgt := 92) hx hb dX7_writeForm_213 (by decide) ?_
                    exact ih92 x84 u82 _ _ _ hm hP hD hS (lv_sub hl [3, 4, 0] rfl)
                · have hm := ite_t c73 hm
                  refine lv_aload_n hx hb dX7_writeForm_145 rfl (lv_at hl 2 rfl) ?_
                  refine lv_iload hx hb dX7_writeForm_146 (lv_at hl 0 rfl) ?_
                  refine lv_aload_n hx hb dX7_writeForm_148 rfl (lv_at hl 2 rfl) ?_
                  refine va_get (D := (dC, dI)) (ci := 8) (v := .ref (hM 8)) (C := RX7) (T := TX7) (N := 34) hx hb ht inX7 hown hK hP 0 rfl rfl 8 (by decide) (ht _ kw_18) (fun _ h9 => h9) rfl dX7_writeForm_149 ?_
                  refine lv_iload_n hx hb dX7_writeForm_152 rfl (lv_at hl 1 rfl) ?_
                  obtain ⟨g85, hm⟩ := gdi_of hm
                  refine va_iald hx hb hK hP 3 0 rfl rfl g85 dX7_writeForm_153 ?_
                  refine lv_aload_n hx hb dX7_writeForm_154 rfl (lv_at hl 2 rfl) ?_
                  refine va_get (D := (dC, dI)) (ci := 8) (v := .ref (hM 9)) (C := RX7) (T := TX7) (N := 34) hx hb ht inX7 hown hK hP 0 rfl rfl 9 (by decide) (ht _ kw_20) (fun _ h9 => h9) rfl dX7_writeForm_155 ?_
                  refine lv_iload_n hx hb dX7_writeForm_158 rfl (lv_at hl 1 rfl) ?_
                  obtain ⟨g86, hm⟩ := gdi_of hm
                  refine va_iald hx hb hK hP 4 0 rfl rfl g86 dX7_writeForm_159 ?_
                  have hPc : va_P (dC, dI) vwCl (wM cI cJ aM hM u20) _ := hP
                  have hDc : va_D A (wM cI cJ aM hM u20) := hD
                  have hFc := va_free (wc := (wM cI cJ aM hM u20)) hD hS hA [0, 1, 2, 3, 4, 5, 6, 7, 8, 9, 10, 11, 12, 13, 14] rfl
                  obtain ⟨u87o, e88, hm⟩ := oC1_of hm
                  refine va_callv (va_runV (As := [.int x68, .int (u20.2.1 8 (x66).toNatClampNeg), .int (u20.2.1 9 (x66).toNatClampNeg)]) (rest := []) ⟨hx, hb, hml, hown, ht⟩ (c_X7_writeBytes l dC dI cI cJ aM hM H.size u20 x68 (u20.2.1 8 (x66).toNatClampNeg) (u20.2.1 9 (x66).toNatClampNeg) u87o e88) (cwV 3 ht (gdV kw_61 kw_59 kw_60 kw_7 kw_58) rfl rfl rfl ⟨rfl, nd_X7_writeBytes⟩ ⟨Nat.le_of_ble_eq_true rfl, Nat.le_of_ble_eq_true rfl⟩) ⟨pcW_blind, va_recv hK hPc (ci := 8) (q0 := 0) rfl rfl, pcW_pre hPc hK hDc hN⟩ rfl rfl hl.1 rfl (lv_room (Nat.le_of_ble_eq_true rfl)) dX7_writeForm_160 ⟨Nat.zero_le _, Nat.zero_le _⟩) hS (fun q _ z => hFc q z) hFc (fun uu t H1 locs ht1 hvm hw hB hz1 hk1 hS => ?_)
                  obtain ⟨u87, rfl⟩ : ∃ z, z = uu := ⟨_, rfl⟩
                  obtain ⟨hP1, hD1⟩ := hB
                  rw [ht1] at hP1
                  obtain rfl : u87 = u87o := Option.some.inj hw
                  have hP : va_P (dC, dI) vwCl (wM cI cJ aM hM u87) H1 := hP1
                  have hD : va_D A (wM cI cJ aM hM u87) := hD1.weaken (fun _ q _ z => hFc q.1 z)
                  generalize H1 = H at hP hS ⊢
                  refine lv_goto (tgt := 210) hx hb dX7_writeForm_163 (by decide) ?_
                  obtain ⟨x89, ex89, hm⟩ := bnd_ex hm
                  refine lv_iinc (v := x89) (lv' := [(2, .int x89), (4, .int x68), (3, .int x66), (0, .ref aM), (1, .int p1)]) hx hb dX7_writeForm_210 hl (k := 4) rfl (by rw [ex89]; exact congrArg _ (by decide)) (by decide) rfl (fun ls hl => ?_)
                  refine lv_goto (tgt := 92) hx hb dX7_writeForm_213 (by decide) ?_
                  exact ih92 x89 u87 _ _ _ hm hP hD hS (lv_sub hl [3, 4, 0] rfl)
            · have hm := ite_t c69 hm
              refine lv_aload_n hx hb dX7_writeForm_116 rfl (lv_at hl 2 rfl) ?_
              refine lv_iload hx hb dX7_writeForm_117 (lv_at hl 0 rfl) ?_
              refine lv_iload_n hx hb dX7_writeForm_119 rfl (lv_at hl 1 rfl) ?_
              have hPc : va_P (dC, dI) vwCl (wM cI cJ aM hM u20) _ := hP
              have hDc : va_D A (wM cI cJ aM hM u20) := hD
              have hFc := va_free (wc := (wM cI cJ aM hM u20)) hD hS hA [0, 1, 2, 3, 4, 5, 6, 7, 8, 9, 10, 11, 12, 13, 14] rfl
              obtain ⟨u90o, e91, hm⟩ := oC1_of hm
              refine va_callv (va_runV (As := [.int x68, .int x66]) (rest := []) ⟨hx, hb, hml, hown, ht⟩ (c_X7_writeSides l dC dI cI cJ aM hM H.size u20 x68 x66 u90o e91) (cwV 2 ht (gdV kw_83 kw_81 kw_82 kw_7 kw_80) rfl rfl rfl ⟨rfl, nd_X7_writeSides⟩ ⟨Nat.le_of_ble_eq_true rfl, Nat.le_of_ble_eq_true rfl⟩) ⟨pcW_blind, va_recv hK hPc (ci := 8) (q0 := 0) rfl rfl, pcW_pre hPc hK hDc hN⟩ rfl rfl hl.1 rfl (lv_room (Nat.le_of_ble_eq_true rfl)) dX7_writeForm_120 ⟨Nat.zero_le _, Nat.zero_le _⟩) hS (fun q _ z => hFc q z) hFc (fun uu t H1 locs ht1 hvm hw hB hz1 hk1 hS => ?_)
              obtain ⟨u90, rfl⟩ : ∃ z, z = uu := ⟨_, rfl⟩
              obtain ⟨hP1, hD1⟩ := hB
              rw [ht1] at hP1
              obtain rfl : u90 = u90o := Option.some.inj hw
              have hP : va_P (dC, dI) vwCl (wM cI cJ aM hM u90) H1 := hP1
              have hD : va_D A (wM cI cJ aM hM u90) := hD1.weaken (fun _ q _ z => hFc q.1 z)
              generalize H1 = H at hP hS ⊢
              refine lv_goto (tgt := 210) hx hb dX7_writeForm_123 (by decide) ?_
              obtain ⟨x92, ex92, hm⟩ := bnd_ex hm
              refine lv_iinc (v := x92) (lv' := [(2, .int x92), (4, .int x68), (3, .int x66), (0, .ref aM), (1, .int p1)]) hx hb dX7_writeForm_210 hl (k := 4) rfl (by rw [ex92]; exact congrArg _ (by decide)) (by decide) rfl (fun ls hl => ?_)
              refine lv_goto (tgt := 92) hx hb dX7_writeForm_213 (by decide) ?_
              exact ih92 x92 u90 _ _ _ hm hP hD hS (lv_sub hl [3, 4, 0] rfl)
      exact LP92 FU x18 u17 _ _ _ hm hP hD hS (lv_sub hl [1, 2, 0] rfl)
    have LP55 : ∀ (n55 : Nat) (x12 : Int32) (u13 : OS) (H : Heap) (locs : List Loc) (ls : Array Slot), f_X7_writeForm_L55 p1 n55 K80_16 x12 u13 = some o → va_P (dC, dI) vwCl (wM cI cJ aM hM u13) H → va_D A (wM cI cJ aM hM u13) → va_S A s.heap H locs → lv_has ls 5 [(0, .ref aM), (1, .int p1), (2, .int x12)] → W p l e ({ frames := 3, cells := 0, slots := 0, locals := 66 } : Room) s m ([.ref aM, .int p1] : List Value).toArray below meth c H locs 0 0 Q (F0 m 55 ls []) := by
      intro n55
      induction n55 with
      | zero => intro x12 u13 H locs ls hm; exact nomatch (show (none : Option _) = some _ from hm)
      | succ n55 ih55 =>
        intro x12 u13 H locs ls hm hP hD hS hl
        unfold f_X7_writeForm_L55 at hm
        refine lv_iload_n hx hb dX7_writeForm_55 rfl (lv_at hl 2 rfl) ?_
        refine lv_iconst (v := (4 : Int32)) hx hb dX7_writeForm_56 (by decide) ?_
        refine lv_icmp_ge (tgt := 80) hx hb dX7_writeForm_57 (by decide) (fun c93 => ?_) (fun c93 => ?_)
        · have hm := ite_t c93 hm
          exact X80_16 x12 u13 _ _ _ hm hP hD hS (lv_sub hl [0, 1, 2] rfl)
        · have hm := ite_f c93 hm
          refine lv_aload_n hx hb dX7_writeForm_60 rfl (lv_at hl 0 rfl) ?_
          refine va_get (D := (dC, dI)) (ci := 8) (v := .ref (hM 16)) (C := RX7) (T := TX7) (N := 34) hx hb ht inX7 hown hK hP 0 rfl rfl 16 (by decide) (ht _ kw_45) (fun _ h9 => h9) rfl dX7_writeForm_61 ?_
          refine lv_iload_n hx hb dX7_writeForm_64 rfl (lv_at hl 2 rfl) ?_
          refine lv_iload_n hx hb dX7_writeForm_65 rfl (lv_at hl 1 rfl) ?_
          refine lv_aload_n hx hb dX7_writeForm_66 rfl (lv_at hl 0 rfl) ?_
          refine va_get (D := (dC, dI)) (ci := 8) (v := .int (u13.1 0)) (C := RX7) (T := TX7) (N := 34) hx hb ht inX7 hown hK hP 0 rfl rfl 0 (by decide) (ht _ kw_14) (fun _ h9 => h9) rfl dX7_writeForm_67 ?_
          have hPc : va_P (dC, dI) vwCl ([] : va_W) _ := hP.sub [] rfl
          have hDc : va_D A ([] : va_W) := hD.sub [] (by decide) rfl
          have hFc := va_free (wc := ([] : va_W)) hD hS hA [] rfl
          obtain ⟨r94o, e95, hm⟩ := oC1_of hm
          refine va_calll (va_runS (As := [.int p1, .int (u13.1 0)]) (rest := [.int x12, .ref (hM 16)]) ⟨hx, hb, hml, hown, ht⟩ (c_X7_firstState l dC dI cI cJ H.size p1 (u13.1 0) r94o e95) (va_cwS 2 ht (gdS kw_86 kw_85 kw_7 kw_84) rfl rfl rfl nd_X7_firstState ⟨Nat.le_of_ble_eq_true rfl, Nat.le_of_ble_eq_true rfl⟩) ⟨pcW_blind, pcW_pre hPc hK hDc hN⟩ rfl rfl hl.1 rfl (lv_room (Nat.le_of_ble_eq_true rfl)) dX7_writeForm_70 ⟨Nat.zero_le _, Nat.zero_le _⟩) hS (fun q _ z => hFc q z) hFc (fun r94 uu t H1 locs ht1 hvm hw hB hz1 hk1 hS => ?_)
          obtain ⟨⟩ := uu
          obtain ⟨hP1, hD1⟩ := hB
          rw [ht1] at hP1
          obtain rfl : r94 = r94o := Option.some.inj hw
          obtain ⟨hP, hD⟩ := va_join (wr := (wM cI cJ aM hM u13)) (w1 := []) hP hD [] [0, 1, 2, 3, 4, 5, 6, 7, 8, 9, 10, 11, 12, 13, 14] rfl rfl (by decide) (by decide) hk1 hFc hP1 hD1
          have hP : va_P (dC, dI) vwCl (wM cI cJ aM hM u13) H1 := hP
          have hD : va_D A (wM cI cJ aM hM u13) := hD
          generalize H1 = H at hP hS ⊢
          obtain ⟨g96, hm⟩ := gdi_of hm
          refine va_last hx hb hK hP hD hS 10 1 rfl rfl g96 dX7_writeForm_73 (fun H locs hP hD hS => ?_)
          obtain ⟨u97, eu97, hm⟩ := bnd_ex hm
          have hP : va_P (dC, dI) vwCl (wM cI cJ aM hM u97) H := by rw [eu97]; exact hP
          have hD : va_D A (wM cI cJ aM hM u97) := by rw [eu97]; exact hD
          obtain ⟨x98, ex98, hm⟩ := bnd_ex hm
          refine lv_iinc (v := x98) (lv' := [(2, .int x98), (0, .ref aM), (1, .int p1)]) hx hb dX7_writeForm_74 hl (k := 2) rfl (by rw [ex98]; exact congrArg _ (by decide)) (by decide) rfl (fun ls hl => ?_)
          refine lv_goto (tgt := 55) hx hb dX7_writeForm_77 (by decide) ?_
          exact ih55 x98 u97 _ _ _ hm hP hD hS (lv_sub hl [1, 2, 0] rfl)
    exact LP55 FU (0 : Int32) u10 _ _ _ hm hP hD hS (lv_sub hl [1, 2, 0] rfl)
  refine lv_icmp_ne (tgt := 21) hx hb dX7_writeForm_14 (by decide) (fun c99 => ?_) (fun c99 => ?_)
  · have hm := ite_f c99 hm
    refine lv_aload_n hx hb dX7_writeForm_21 rfl (lv_at hl 0 rfl) ?_
    refine va_get (D := (dC, dI)) (ci := 8) (v := .int (u1.1 3)) (C := RX7) (T := TX7) (N := 34) hx hb ht inX7 hown hK hP 0 rfl rfl 3 (by decide) (ht _ kw_29) (fun _ h9 => h9) rfl dX7_writeForm_22 ?_
    refine lv_iconst (v := (1 : Int32)) hx hb dX7_writeForm_25 (by decide) ?_
    refine lv_isub hx hb dX7_writeForm_26 ?_
    exact J27_3 ((u1.1 3) - (1 : Int32)) _ _ _ hm hP hD hS (lv_sub hl [0, 1] rfl)
  · have hm := ite_t c99 hm
    refine lv_iconst (v := (2 : Int32)) hx hb dX7_writeForm_17 (by decide) ?_
    refine lv_goto (tgt := 27) hx hb dX7_writeForm_18 (by decide) ?_
    exact J27_3 (2 : Int32) _ _ _ hm hP hD hS (lv_sub hl [0, 1] rfl)

def f_X7_write (uM : OS) : Option (OS × Int32) :=
  bnd (sF uM 1 (0 : Int32)) fun u1 =>
  oC1 (f_X7_mayWrite u1) fun r2 =>
  if r2 = (0 : Int32) then (
  some (u1, (-2 : Int32))) else (
  oC1 (f_X7_writeForm u1 (u1.1 2)) fun u5 =>
  some (u5, (u5.1 15)))

set_option maxHeartbeats 4000000 in
set_option maxRecDepth 100000 in
theorem c_X7_write (l : Launch) (dC : Nat → ClassId) (dI : Nat → Nat → Nat) (cI cJ : ClassId) (aM : Nat) (hM : Nat → Nat) (sz : Nat) (uM : OS) (o : OS × Int32) (hm : f_X7_write uM = some o) : Met l yX7_write (wq yX7_write cX7_write 1 (some .int)) ({ frames := 4, cells := 0, slots := 0, locals := 90 } : Room) (va_Pc [.ref aM] (pcW dC dI cI cJ sz (wM cI cJ aM hM uM))) (va_Qi (S := OS) (fun r u => some (u, r) = some o) (fun (u : OS) t => va_P (dC, dI) vwCl (wM cI cJ aM hM u) t.heap ∧ va_D (va_A (wM cI cJ aM hM uM) sz) (wM cI cJ aM hM u)) (va_A (wM cI cJ aM hM uM) sz)) 0 0 (va_A (wM cI cJ aM hM uM) sz) := by
  refine Met.ofW (cc := cX7_write) (maxL := 1) (ret := (some .int)) (by decide) rfl ?_
  intro p e s m args below meth c s₁ B hml hv
  obtain ⟨rfl, hsz, hP, hK, hD0, hN⟩ := hv
  have hx := B.exec
  have hb := B.bytes
  have hr := B.returns
  have ht : ∀ w ∈ lw_good, w.before _ s = true := fun w h => atoms_spec (ws := wq yX7_write cX7_write 1 (some .int)) B.pre w (wq_mem h)
  have hown : s.vm.findClass RX7 = some m.cls := findClass_of_methodNamed B.named
  have hlocks := B.notSynchronized
  subst hsz
  have hD := hD0.self (sz := s.heap.size)
  generalize hAe : va_A (wM cI cJ aM hM uM) s.heap.size = A at hD ⊢
  have hA : ∀ q : Nat, s.heap.size ≤ q → A q := fun q h => by rw [← hAe]; exact Or.inr h
  have hS : va_S A s.heap s.heap [] := va_S.rf
  have hl := lv_entry ([.ref aM]) (n := 1) (Nat.le_of_ble_eq_true rfl)
  rw [lg_entry_eq]
  generalize (lg_sl ([.ref aM]) ++ List.replicate (1 - (lg_sl ([.ref aM])).length) Slot.unset).toArray = ls at hl ⊢
  have hl : lv_has ls 1 [(0, .ref aM)] := hl
  generalize hQ : MQ below _ _ s _ _ _ = Q
  generalize hH : s.heap = H at hP ⊢
  have hS : va_S A s.heap H [] := by rw [← hH]; exact va_S.rf
  show W p l e ({ frames := 4, cells := 0, slots := 0, locals := 90 } : Room) s m ([.ref aM] : List Value).toArray below meth c H [] 0 0 Q (F0 m 0 ls [])
  unfold f_X7_write at hm
  refine lv_aload_n hx hb dX7_write_0 rfl (lv_at hl 0 rfl) ?_
  refine lv_iconst (v := (0 : Int32)) hx hb dX7_write_1 (by decide) ?_
  refine va_put (D := (dC, dI)) (ci := 8) (v := .int (0 : Int32)) (ty := .int) (C := RX7) (T := TX7) (N := 34) hx hb ht inX7 tyX7 tyX7_ok nmX7 hown hK hP hD hS 0 rfl rfl 1 (by decide) (ht _ kw_0) (fun _ h9 => h9) rfl (by decide +kernel) rfl rfl (Nat.le_of_ble_eq_true rfl) dX7_write_2 (fun H locs hP hD hS => ?_)
  obtain ⟨u1, eu1, hm⟩ := bnd_ex hm
  have hP : va_P (dC, dI) vwCl (wM cI cJ aM hM u1) H := by rw [eu1]; exact hP
  have hD : va_D A (wM cI cJ aM hM u1) := by rw [eu1]; exact hD
  refine lv_aload_n hx hb dX7_write_5 rfl (lv_at hl 0 rfl) ?_
  have hPc : va_P (dC, dI) vwCl (wM cI cJ aM hM u1) _ := hP
  have hDc : va_D A (wM cI cJ aM hM u1) := hD
  have hFc := va_free (wc := (wM cI cJ aM hM u1)) hD hS hA [0, 1, 2, 3, 4, 5, 6, 7, 8, 9, 10, 11, 12, 13, 14] rfl
  obtain ⟨r2o, e3, hm⟩ := oC1_of hm
  refine va_calli (va_runV (As := []) (rest := []) ⟨hx, hb, hml, hown, ht⟩ (c_X7_mayWrite l dC dI cI cJ aM hM H.size u1 r2o e3) (cwV 0 ht (gdV kw_90 kw_88 kw_89 kw_7 kw_87) rfl rfl rfl ⟨rfl, nd_X7_mayWrite⟩ ⟨Nat.le_of_ble_eq_true rfl, Nat.le_of_ble_eq_true rfl⟩) ⟨pcW_blind, va_recv hK hPc (ci := 8) (q0 := 0) rfl rfl, pcW_pre hPc hK hDc hN⟩ rfl rfl hl.1 rfl (lv_room (Nat.le_of_ble_eq_true rfl)) dX7_write_6 ⟨Nat.zero_le _, Nat.zero_le _⟩) hS (fun q _ z => hFc q z) hFc (fun r2 uu t H1 locs ht1 hvm hw hB hz1 hk1 hS => ?_)
  obtain ⟨⟩ := uu
  obtain ⟨hP1, hD1⟩ := hB
  rw [ht1] at hP1
  obtain rfl : r2 = r2o := Option.some.inj hw
  have hP : va_P (dC, dI) vwCl (wM cI cJ aM hM u1) H1 := hP1
  have hD : va_D A (wM cI cJ aM hM u1) := hD1.weaken (fun _ q _ z => hFc q.1 z)
  generalize H1 = H at hP hS ⊢
  refine lv_if_ne (tgt := 15) hx hb dX7_write_9 (by decide) (fun c4 => ?_) (fun c4 => ?_)
  · have hm := ite_f c4 hm
    refine lv_aload_n hx hb dX7_write_15 rfl (lv_at hl 0 rfl) ?_
    refine lv_aload_n hx hb dX7_write_16 rfl (lv_at hl 0 rfl) ?_
    refine va_get (D := (dC, dI)) (ci := 8) (v := .int (u1.1 2)) (C := RX7) (T := TX7) (N := 34) hx hb ht inX7 hown hK hP 0 rfl rfl 2 (by decide) (ht _ kw_28) (fun _ h9 => h9) rfl dX7_write_17 ?_
    have hPc : va_P (dC, dI) vwCl (wM cI cJ aM hM u1) _ := hP
    have hDc : va_D A (wM cI cJ aM hM u1) := hD
    have hFc := va_free (wc := (wM cI cJ aM hM u1)) hD hS hA [0, 1, 2, 3, 4, 5, 6, 7, 8, 9, 10, 11, 12, 13, 14] rfl
    obtain ⟨u5o, e6, hm⟩ := oC1_of hm
    refine va_callv (va_runV (As := [.int (u1.1 2)]) (rest := []) ⟨hx, hb, hml, hown, ht⟩ (c_X7_writeForm l dC dI cI cJ aM hM H.size u1 (u1.1 2) u5o e6) (cwV 1 ht (gdV kw_94 kw_92 kw_93 kw_7 kw_91) rfl rfl rfl ⟨rfl, nd_X7_writeForm⟩ ⟨Nat.le_of_ble_eq_true rfl, Nat.le_of_ble_eq_true rfl⟩) ⟨pcW_blind, va_recv hK hPc (ci := 8) (q0 := 0) rfl rfl, pcW_pre hPc hK hDc hN⟩ rfl rfl hl.1 rfl (lv_room (Nat.le_of_ble_eq_true rfl)) dX7_write_20 ⟨Nat.zero_le _, Nat.zero_le _⟩) hS (fun q _ z => hFc q z) hFc (fun uu t H1 locs ht1 hvm hw hB hz1 hk1 hS => ?_)
    obtain ⟨u5, rfl⟩ : ∃ z, z = uu := ⟨_, rfl⟩
    obtain ⟨hP1, hD1⟩ := hB
    rw [ht1] at hP1
    obtain rfl : u5 = u5o := Option.some.inj hw
    have hP : va_P (dC, dI) vwCl (wM cI cJ aM hM u5) H1 := hP1
    have hD : va_D A (wM cI cJ aM hM u5) := hD1.weaken (fun _ q _ z => hFc q.1 z)
    generalize H1 = H at hP hS ⊢
    refine lv_aload_n hx hb dX7_write_23 rfl (lv_at hl 0 rfl) ?_
    refine va_get (D := (dC, dI)) (ci := 8) (v := .int (u5.1 15)) (C := RX7) (T := TX7) (N := 34) hx hb ht inX7 hown hK hP 0 rfl rfl 15 (by decide) (ht _ kw_32) (fun _ h9 => h9) rfl dX7_write_24 ?_
    rw [← hQ]
    exact W.iret (v := (u5.1 15)) hx hb hr (fun t ht1 hW => ⟨⟨_, u5, rfl, hm, by rw [ht1]; exact hP, hD⟩, hS.F ht1⟩) hS.2.2 dX7_write_27
  · have hm := ite_t c4 hm
    refine lv_bipush (v := (-2 : Int32)) hx hb dX7_write_12 (by decide) ?_
    rw [← hQ]
    exact W.iret (v := (-2 : Int32)) hx hb hr (fun t ht1 hW => ⟨⟨_, u1, rfl, hm, by rw [ht1]; exact hP, hD⟩, hS.F ht1⟩) hS.2.2 dX7_write_14

def f_X7_fail (uM : OS) (p1 : Int32) : Option (OS) :=
  if (uM.1 27) = (0 : Int32) then (
  bnd (sF uM 27 p1) fun u2 =>
  some u2) else (
  some uM)

set_option maxHeartbeats 4000000 in
set_option maxRecDepth 100000 in
theorem c_X7_fail (l : Launch) (dC : Nat → ClassId) (dI : Nat → Nat → Nat) (cI cJ : ClassId) (aM : Nat) (hM : Nat → Nat) (sz : Nat) (uM : OS) (p1 : Int32) (o : OS) (hm : f_X7_fail uM p1 = some o) : Met l yX7_fail (wq yX7_fail cX7_fail 2 none) ({ frames := 0, cells := 0, slots := 0, locals := 0 } : Room) (va_Pc [.ref aM, .int p1] (pcW dC dI cI cJ sz (wM cI cJ aM hM uM))) (va_Qv (S := OS) (fun u => some u = some o) (fun (u : OS) t => va_P (dC, dI) vwCl (wM cI cJ aM hM u) t.heap ∧ va_D (va_A (wM cI cJ aM hM uM) sz) (wM cI cJ aM hM u)) (va_A (wM cI cJ aM hM uM) sz)) 0 0 (va_A (wM cI cJ aM hM uM) sz) := by
  refine Met.ofW (cc := cX7_fail) (maxL := 2) (ret := none) (by decide) rfl ?_
  intro p e s m args below meth c s₁ B hml hv
  obtain ⟨rfl, hsz, hP, hK, hD0, hN⟩ := hv
  have hx := B.exec
  have hb := B.bytes
  have hr := B.returns
  have ht : ∀ w ∈ lw_good, w.before _ s = true := fun w h => atoms_spec (ws := wq yX7_fail cX7_fail 2 none) B.pre w (wq_mem h)
  have hown : s.vm.findClass RX7 = some m.cls := findClass_of_methodNamed B.named
  have hlocks := B.notSynchronized
  subst hsz
  have hD := hD0.self (sz := s.heap.size)
  generalize hAe : va_A (wM cI cJ aM hM uM) s.heap.size = A at hD ⊢
  have hA : ∀ q : Nat, s.heap.size ≤ q → A q := fun q h => by rw [← hAe]; exact Or.inr h
  have hS : va_S A s.heap s.heap [] := va_S.rf
  have hl := lv_entry ([.ref aM, .int p1]) (n := 2) (Nat.le_of_ble_eq_true rfl)
  rw [lg_entry_eq]
  generalize (lg_sl ([.ref aM, .int p1]) ++ List.replicate (2 - (lg_sl ([.ref aM, .int p1])).length) Slot.unset).toArray = ls at hl ⊢
  have hl : lv_has ls 2 [(0, .ref aM), (1, .int p1)] := hl
  generalize hQ : MQ below _ _ s _ _ _ = Q
  generalize hH : s.heap = H at hP ⊢
  have hS : va_S A s.heap H [] := by rw [← hH]; exact va_S.rf
  show W p l e ({ frames := 0, cells := 0, slots := 0, locals := 0 } : Room) s m ([.ref aM, .int p1] : List Value).toArray below meth c H [] 0 0 Q (F0 m 0 ls [])
  unfold f_X7_fail at hm
  refine lv_aload_n hx hb dX7_fail_0 rfl (lv_at hl 0 rfl) ?_
  refine va_get (D := (dC, dI)) (ci := 8) (v := .int (uM.1 27)) (C := RX7) (T := TX7) (N := 34) hx hb ht inX7 hown hK hP 0 rfl rfl 27 (by decide) (ht _ kw_95) (fun _ h9 => h9) rfl dX7_fail_1 ?_
  refine lv_if_ne (tgt := 12) hx hb dX7_fail_4 (by decide) (fun c1 => ?_) (fun c1 => ?_)
  · have hm := ite_f c1 hm
    rw [← hQ]
    exact W.vret hx hb hr (fun t ht1 hW => ⟨⟨uM, rfl, hm, by rw [ht1]; exact hP, hD⟩, hS.F ht1⟩) hS.2.2 dX7_fail_12
  · have hm := ite_t c1 hm
    refine lv_aload_n hx hb dX7_fail_7 rfl (lv_at hl 0 rfl) ?_
    refine lv_iload_n hx hb dX7_fail_8 rfl (lv_at hl 1 rfl) ?_
    refine va_put (D := (dC, dI)) (ci := 8) (v := .int p1) (ty := .int) (C := RX7) (T := TX7) (N := 34) hx hb ht inX7 tyX7 tyX7_ok nmX7 hown hK hP hD hS 0 rfl rfl 27 (by decide) (ht _ kw_95) (fun _ h9 => h9) rfl (by decide +kernel) rfl rfl (Nat.le_of_ble_eq_true rfl) dX7_fail_9 (fun H locs hP hD hS => ?_)
    obtain ⟨u2, eu2, hm⟩ := bnd_ex hm
    have hP : va_P (dC, dI) vwCl (wM cI cJ aM hM u2) H := by rw [eu2]; exact hP
    have hD : va_D A (wM cI cJ aM hM u2) := by rw [eu2]; exact hD
    rw [← hQ]
    exact W.vret hx hb hr (fun t ht1 hW => ⟨⟨u2, rfl, hm, by rw [ht1]; exact hP, hD⟩, hS.F ht1⟩) hS.2.2 dX7_fail_12

def f_X7_next (uM : OS) : Option (OS × Int32) :=
  if (uM.1 27) ≤ (0 : Int32) then (
  if (uM.1 26) < (uM.1 15) then (
  bnd (sF uM 26 ((uM.1 26) + (1 : Int32))) fun u3 =>
  gdi ((u3.1 26) - (1 : Int32)) 20000 <|
  some (u3, (u3.2.1 14 (((u3.1 26) - (1 : Int32))).toNatClampNeg))) else (
  oC1 (f_X7_fail uM (1 : Int32)) fun u5 =>
  some (u5, (0 : Int32)))) else (
  some (uM, (0 : Int32)))

set_option maxHeartbeats 4000000 in
set_option maxRecDepth 100000 in
theorem c_X7_next (l : Launch) (dC : Nat → ClassId) (dI : Nat → Nat → Nat) (cI cJ : ClassId) (aM : Nat) (hM : Nat → Nat) (sz : Nat) (uM : OS) (o : OS × Int32) (hm : f_X7_next uM = some o) : Met l yX7_next (wq yX7_next cX7_next 1 (some .int)) ({ frames := 1, cells := 0, slots := 0, locals := 21 } : Room) (va_Pc [.ref aM] (pcW dC dI cI cJ sz (wM cI cJ aM hM uM))) (va_Qi (S := OS) (fun r u => some (u, r) = some o) (fun (u : OS) t => va_P (dC, dI) vwCl (wM cI cJ aM hM u) t.heap ∧ va_D (va_A (wM cI cJ aM hM uM) sz) (wM cI cJ aM hM u)) (va_A (wM cI cJ aM hM uM) sz)) 0 0 (va_A (wM cI cJ aM hM uM) sz) := by
  refine Met.ofW (cc := cX7_next) (maxL := 1) (ret := (some .int)) (by decide) rfl ?_
  intro p e s m args below meth c s₁ B hml hv
  obtain ⟨rfl, hsz, hP, hK, hD0, hN⟩ := hv
  have hx := B.exec
  have hb := B.bytes
  have hr := B.returns
  have ht : ∀ w ∈ lw_good, w.before _ s = true := fun w h => atoms_spec (ws := wq yX7_next cX7_next 1 (some .int)) B.pre w (wq_mem h)
  have hown : s.vm.findClass RX7 = some m.cls := findClass_of_methodNamed B.named
  have hlocks := B.notSynchronized
  subst hsz
  have hD := hD0.self (sz := s.heap.size)
  generalize hAe : va_A (wM cI cJ aM hM uM) s.heap.size = A at hD ⊢
  have hA : ∀ q : Nat, s.heap.size ≤ q → A q := fun q h => by rw [← hAe]; exact Or.inr h
  have hS : va_S A s.heap s.heap [] := va_S.rf
  have hl := lv_entry ([.ref aM]) (n := 1) (Nat.le_of_ble_eq_true rfl)
  rw [lg_entry_eq]
  generalize (lg_sl ([.ref aM]) ++ List.replicate (1 - (lg_sl ([.ref aM])).length) Slot.unset).toArray = ls at hl ⊢
  have hl : lv_has ls 1 [(0, .ref aM)] := hl
  generalize hQ : MQ below _ _ s _ _ _ = Q
  generalize hH : s.heap = H at hP ⊢
  have hS : va_S A s.heap H [] := by rw [← hH]; exact va_S.rf
  show W p l e ({ frames := 1, cells := 0, slots := 0, locals := 21 } : Room) s m ([.ref aM] : List Value).toArray below meth c H [] 0 0 Q (F0 m 0 ls [])
  unfold f_X7_next at hm
  refine lv_aload_n hx hb dX7_next_0 rfl (lv_at hl 0 rfl) ?_
  refine va_get (D := (dC, dI)) (ci := 8) (v := .int (uM.1 27)) (C := RX7) (T := TX7) (N := 34) hx hb ht inX7 hown hK hP 0 rfl rfl 27 (by decide) (ht _ kw_95) (fun _ h9 => h9) rfl dX7_next_1 ?_
  refine lv_if_le (tgt := 9) hx hb dX7_next_4 (by decide) (fun c1 => ?_) (fun c1 => ?_)
  · have hm := ite_t c1 hm
    refine lv_aload_n hx hb dX7_next_9 rfl (lv_at hl 0 rfl) ?_
    refine va_get (D := (dC, dI)) (ci := 8) (v := .int (uM.1 26)) (C := RX7) (T := TX7) (N := 34) hx hb ht inX7 hown hK hP 0 rfl rfl 26 (by decide) (ht _ kw_96) (fun _ h9 => h9) rfl dX7_next_10 ?_
    refine lv_aload_n hx hb dX7_next_13 rfl (lv_at hl 0 rfl) ?_
    refine va_get (D := (dC, dI)) (ci := 8) (v := .int (uM.1 15)) (C := RX7) (T := TX7) (N := 34) hx hb ht inX7 hown hK hP 0 rfl rfl 15 (by decide) (ht _ kw_32) (fun _ h9 => h9) rfl dX7_next_14 ?_
    refine lv_icmp_lt (tgt := 27) hx hb dX7_next_17 (by decide) (fun c2 => ?_) (fun c2 => ?_)
    · have hm := ite_t c2 hm
      refine lv_aload_n hx hb dX7_next_27 rfl (lv_at hl 0 rfl) ?_
      refine lv_dup hx hb dX7_next_28 rfl ?_
      refine va_get (D := (dC, dI)) (ci := 8) (v := .int (uM.1 26)) (C := RX7) (T := TX7) (N := 34) hx hb ht inX7 hown hK hP 0 rfl rfl 26 (by decide) (ht _ kw_96) (fun _ h9 => h9) rfl dX7_next_29 ?_
      refine lv_iconst (v := (1 : Int32)) hx hb dX7_next_32 (by decide) ?_
      refine lv_iadd hx hb dX7_next_33 ?_
      refine va_put (D := (dC, dI)) (ci := 8) (v := .int ((uM.1 26) + (1 : Int32))) (ty := .int) (C := RX7) (T := TX7) (N := 34) hx hb ht inX7 tyX7 tyX7_ok nmX7 hown hK hP hD hS 0 rfl rfl 26 (by decide) (ht _ kw_96) (fun _ h9 => h9) rfl (by decide +kernel) rfl rfl (Nat.le_of_ble_eq_true rfl) dX7_next_34 (fun H locs hP hD hS => ?_)
      obtain ⟨u3, eu3, hm⟩ := bnd_ex hm
      have hP : va_P (dC, dI) vwCl (wM cI cJ aM hM u3) H := by rw [eu3]; exact hP
      have hD : va_D A (wM cI cJ aM hM u3) := by rw [eu3]; exact hD
      refine lv_aload_n hx hb dX7_next_37 rfl (lv_at hl 0 rfl) ?_
      refine va_get (D := (dC, dI)) (ci := 8) (v := .ref (hM 14)) (C := RX7) (T := TX7) (N := 34) hx hb ht inX7 hown hK hP 0 rfl rfl 14 (by decide) (ht _ kw_31) (fun _ h9 => h9) rfl dX7_next_38 ?_
      refine lv_aload_n hx hb dX7_next_41 rfl (lv_at hl 0 rfl) ?_
      refine va_get (D := (dC, dI)) (ci := 8) (v := .int (u3.1 26)) (C := RX7) (T := TX7) (N := 34) hx hb ht inX7 hown hK hP 0 rfl rfl 26 (by decide) (ht _ kw_96) (fun _ h9 => h9) rfl dX7_next_42 ?_
      refine lv_iconst (v := (1 : Int32)) hx hb dX7_next_45 (by decide) ?_
      refine lv_isub hx hb dX7_next_46 ?_
      obtain ⟨g4, hm⟩ := gdi_of hm
      refine va_iald hx hb hK hP 9 0 rfl rfl g4 dX7_next_47 ?_
      rw [← hQ]
      exact W.iret (v := (u3.2.1 14 (((u3.1 26) - (1 : Int32))).toNatClampNeg)) hx hb hr (fun t ht1 hW => ⟨⟨_, u3, rfl, hm, by rw [ht1]; exact hP, hD⟩, hS.F ht1⟩) hS.2.2 dX7_next_48
    · have hm := ite_f c2 hm
      refine lv_aload_n hx hb dX7_next_20 rfl (lv_at hl 0 rfl) ?_
      refine lv_iconst (v := (1 : Int32)) hx hb dX7_next_21 (by decide) ?_
      have hPc : va_P (dC, dI) vwCl (wM cI cJ aM hM uM) _ := hP
      have hDc : va_D A (wM cI cJ aM hM uM) := hD
      have hFc := va_free (wc := (wM cI cJ aM hM uM)) hD hS hA [0, 1, 2, 3, 4, 5, 6, 7, 8, 9, 10, 11, 12, 13, 14] rfl
      obtain ⟨u5o, e6, hm⟩ := oC1_of hm
      refine va_callv (va_runV (As := [.int (1 : Int32)]) (rest := []) ⟨hx, hb, hml, hown, ht⟩ (c_X7_fail l dC dI cI cJ aM hM H.size uM (1 : Int32) u5o e6) (cwV 1 ht (gdV kw_100 kw_98 kw_99 kw_7 kw_97) rfl rfl rfl ⟨rfl, nd_X7_fail⟩ ⟨Nat.le_of_ble_eq_true rfl, Nat.le_of_ble_eq_true rfl⟩) ⟨pcW_blind, va_recv hK hPc (ci := 8) (q0 := 0) rfl rfl, pcW_pre hPc hK hDc hN⟩ rfl rfl hl.1 rfl (lv_room (Nat.le_of_ble_eq_true rfl)) dX7_next_22 ⟨Nat.zero_le _, Nat.zero_le _⟩) hS (fun q _ z => hFc q z) hFc (fun uu t H1 locs ht1 hvm hw hB hz1 hk1 hS => ?_)
      obtain ⟨u5, rfl⟩ : ∃ z, z = uu := ⟨_, rfl⟩
      obtain ⟨hP1, hD1⟩ := hB
      rw [ht1] at hP1
      obtain rfl : u5 = u5o := Option.some.inj hw
      have hP : va_P (dC, dI) vwCl (wM cI cJ aM hM u5) H1 := hP1
      have hD : va_D A (wM cI cJ aM hM u5) := hD1.weaken (fun _ q _ z => hFc q.1 z)
      generalize H1 = H at hP hS ⊢
      refine lv_iconst (v := (0 : Int32)) hx hb dX7_next_25 (by decide) ?_
      rw [← hQ]
      exact W.iret (v := (0 : Int32)) hx hb hr (fun t ht1 hW => ⟨⟨_, u5, rfl, hm, by rw [ht1]; exact hP, hD⟩, hS.F ht1⟩) hS.2.2 dX7_next_26
  · have hm := ite_f c1 hm
    refine lv_iconst (v := (0 : Int32)) hx hb dX7_next_7 (by decide) ?_
    rw [← hQ]
    exact W.iret (v := (0 : Int32)) hx hb hr (fun t ht1 hW => ⟨⟨_, uM, rfl, hm, by rw [ht1]; exact hP, hD⟩, hS.F ht1⟩) hS.2.2 dX7_next_8

def f_X7_nextWide_L5 (p1 : Int32) : Nat → (Int64 → Int32 → OS → Option (OS × Int64)) → Int32 → Int64 → OS → Option (OS × Int64)
  | 0, _, _, _, _ => none
  | n5 + 1, K28_7, x1, y2, u3 =>
    if p1 ≤ x1 then (
    K28_7 y2 x1 u3) else (
    oC2 (f_X7_next u3) fun u9 r10 =>
    bnd ((y2 <<< (((8 : Int32)).toInt64 &&& (63 : Int64))) ||| (r10).toInt64) fun y12 =>
    bnd (x1 + (1 : Int32)) fun x13 =>
    f_X7_nextWide_L5 p1 n5 K28_7 x13 y12 u9)

def f_X7_nextWide (uM : OS) (p1 : Int32) : Option (OS × Int64) :=
  bnd (fun (y4 : Int64) (x5 : Int32) (u6 : OS) =>
  some (u6, y4)) fun K28_7 =>
  f_X7_nextWide_L5 p1 FU K28_7 (0 : Int32) (0 : Int64) uM

set_option maxHeartbeats 4000000 in
set_option maxRecDepth 100000 in
theorem c_X7_nextWide (l : Launch) (dC : Nat → ClassId) (dI : Nat → Nat → Nat) (cI cJ : ClassId) (aM : Nat) (hM : Nat → Nat) (sz : Nat) (uM : OS) (p1 : Int32) (o : OS × Int64) (hm : f_X7_nextWide uM p1 = some o) : Met l yX7_nextWide (wq yX7_nextWide cX7_nextWide 5 (some .long)) ({ frames := 2, cells := 0, slots := 0, locals := 41 } : Room) (va_Pc [.ref aM, .int p1] (pcW dC dI cI cJ sz (wM cI cJ aM hM uM))) (va_Ql (S := OS) (fun r u => some (u, r) = some o) (fun (u : OS) t => va_P (dC, dI) vwCl (wM cI cJ aM hM u) t.heap ∧ va_D (va_A (wM cI cJ aM hM uM) sz) (wM cI cJ aM hM u)) (va_A (wM cI cJ aM hM uM) sz)) 0 0 (va_A (wM cI cJ aM hM uM) sz) := by
  refine Met.ofW (cc := cX7_nextWide) (maxL := 5) (ret := (some .long)) (by decide) rfl ?_
  intro p e s m args below meth c s₁ B hml hv
  obtain ⟨rfl, hsz, hP, hK, hD0, hN⟩ := hv
  have hx := B.exec
  have hb := B.bytes
  have hr := B.returns
  have ht : ∀ w ∈ lw_good, w.before _ s = true := fun w h => atoms_spec (ws := wq yX7_nextWide cX7_nextWide 5 (some .long)) B.pre w (wq_mem h)
  have hown : s.vm.findClass RX7 = some m.cls := findClass_of_methodNamed B.named
  have hlocks := B.notSynchronized
  subst hsz
  have hD := hD0.self (sz := s.heap.size)
  generalize hAe : va_A (wM cI cJ aM hM uM) s.heap.size = A at hD ⊢
  have hA : ∀ q : Nat, s.heap.size ≤ q → A q := fun q h => by rw [← hAe]; exact Or.inr h
  have hS : va_S A s.heap s.heap [] := va_S.rf
  have hl := lv_entry ([.ref aM, .int p1]) (n := 5) (Nat.le_of_ble_eq_true rfl)
  rw [lg_entry_eq]
  generalize (lg_sl ([.ref aM, .int p1]) ++ List.replicate (5 - (lg_sl ([.ref aM, .int p1])).length) Slot.unset).toArray = ls at hl ⊢
  have hl : lv_has ls 5 [(0, .ref aM), (1, .int p1)] := hl
  generalize hQ : MQ below _ _ s _ _ _ = Q
  generalize hH : s.heap = H at hP ⊢
  have hS : va_S A s.heap H [] := by rw [← hH]; exact va_S.rf
  show W p l e ({ frames := 2, cells := 0, slots := 0, locals := 41 } : Room) s m ([.ref aM, .int p1] : List Value).toArray below meth c H [] 0 0 Q (F0 m 0 ls [])
  unfold f_X7_nextWide at hm
  refine lv_lconst (v := (0 : Int64)) hx hb dX7_nextWide_0 (by decide) ?_
  refine lv_lstore_n (lv' := [(2, .long (0 : Int64)), (0, .ref aM), (1, .int p1)]) hx hb dX7_nextWide_1 rfl hl (by decide) rfl (fun ls hl => ?_)
  refine lv_iconst (v := (0 : Int32)) hx hb dX7_nextWide_2 (by decide) ?_
  refine lv_istore (lv' := [(4, .int (0 : Int32)), (2, .long (0 : Int64)), (0, .ref aM), (1, .int p1)]) hx hb dX7_nextWide_3 hl (by decide) rfl (fun ls hl => ?_)
  obtain ⟨K28_7, eK28_7, hm⟩ := bnd_ex hm
  have X28_7 : ∀ (y4 : Int64) (x5 : Int32) (u6 : OS) (H : Heap) (locs : List Loc) (ls : Array Slot), K28_7 y4 x5 u6 = some o → va_P (dC, dI) vwCl (wM cI cJ aM hM u6) H → va_D A (wM cI cJ aM hM u6) → va_S A s.heap H locs → lv_has ls 5 [(0, .ref aM), (1, .int p1), (2, .long y4), (4, .int x5)] → W p l e ({ frames := 2, cells := 0, slots := 0, locals := 41 } : Room) s m ([.ref aM, .int p1] : List Value).toArray below meth c H locs 0 0 Q (F0 m 28 ls []) := by
    intro y4 x5 u6 H locs ls hm hP hD hS hl
    have hm := ap3 eK28_7 hm
    refine lv_lload_n hx hb dX7_nextWide_28 rfl (lv_at hl 2 rfl) ?_
    rw [← hQ]
    exact W.lret (v := y4) hx hb hr (fun t ht1 hW => ⟨⟨_, u6, rfl, hm, by rw [ht1]; exact hP, hD⟩, hS.F ht1⟩) hS.2.2 dX7_nextWide_29
  have LP5 : ∀ (n5 : Nat) (x1 : Int32) (y2 : Int64) (u3 : OS) (H : Heap) (locs : List Loc) (ls : Array Slot), f_X7_nextWide_L5 p1 n5 K28_7 x1 y2 u3 = some o → va_P (dC, dI) vwCl (wM cI cJ aM hM u3) H → va_D A (wM cI cJ aM hM u3) → va_S A s.heap H locs → lv_has ls 5 [(0, .ref aM), (1, .int p1), (2, .long y2), (4, .int x1)] → W p l e ({ frames := 2, cells := 0, slots := 0, locals := 41 } : Room) s m ([.ref aM, .int p1] : List Value).toArray below meth c H locs 0 0 Q (F0 m 5 ls []) := by
    intro n5
    induction n5 with
    | zero => intro x1 y2 u3 H locs ls hm; exact nomatch (show (none : Option _) = some _ from hm)
    | succ n5 ih5 =>
      intro x1 y2 u3 H locs ls hm hP hD hS hl
      unfold f_X7_nextWide_L5 at hm
      refine lv_iload hx hb dX7_nextWide_5 (lv_at hl 3 rfl) ?_
      refine lv_iload_n hx hb dX7_nextWide_7 rfl (lv_at hl 1 rfl) ?_
      refine lv_icmp_ge (tgt := 28) hx hb dX7_nextWide_8 (by decide) (fun c8 => ?_) (fun c8 => ?_)
      · have hm := ite_t c8 hm
        exact X28_7 y2 x1 u3 _ _ _ hm hP hD hS (lv_sub hl [0, 1, 2, 3] rfl)
      · have hm := ite_f c8 hm
        refine lv_lload_n hx hb dX7_nextWide_11 rfl (lv_at hl 2 rfl) ?_
        refine lv_bipush (v := (8 : Int32)) hx hb dX7_nextWide_12 (by decide) ?_
        refine lv_lshl hx hb dX7_nextWide_14 rfl ?_
        refine lv_aload_n hx hb dX7_nextWide_15 rfl (lv_at hl 0 rfl) ?_
        have hPc : va_P (dC, dI) vwCl (wM cI cJ aM hM u3) _ := hP
        have hDc : va_D A (wM cI cJ aM hM u3) := hD
        have hFc := va_free (wc := (wM cI cJ aM hM u3)) hD hS hA [0, 1, 2, 3, 4, 5, 6, 7, 8, 9, 10, 11, 12, 13, 14] rfl
        obtain ⟨u9o, r10o, e11, hm⟩ := oC2_of hm
        refine va_calli (va_runV (As := []) (rest := [.long (y2 <<< (((8 : Int32)).toInt64 &&& (63 : Int64)))]) ⟨hx, hb, hml, hown, ht⟩ (c_X7_next l dC dI cI cJ aM hM H.size u3 (u9o, r10o) e11) (cwV 0 ht (gdV kw_104 kw_102 kw_103 kw_7 kw_101) rfl rfl rfl ⟨rfl, nd_X7_next⟩ ⟨Nat.le_of_ble_eq_true rfl, Nat.le_of_ble_eq_true rfl⟩) ⟨pcW_blind, va_recv hK hPc (ci := 8) (q0 := 0) rfl rfl, pcW_pre hPc hK hDc hN⟩ rfl rfl hl.1 rfl (lv_room (Nat.le_of_ble_eq_true rfl)) dX7_nextWide_16 ⟨Nat.zero_le _, Nat.zero_le _⟩) hS (fun q _ z => hFc q z) hFc (fun r10 uu t H1 locs ht1 hvm hw hB hz1 hk1 hS => ?_)
        obtain ⟨u9, rfl⟩ : ∃ z, z = uu := ⟨_, rfl⟩
        obtain ⟨hP1, hD1⟩ := hB
        rw [ht1] at hP1
        obtain ⟨q0, q1⟩ := inj2 hw
        subst q0
        subst q1
        have hP : va_P (dC, dI) vwCl (wM cI cJ aM hM u9) H1 := hP1
        have hD : va_D A (wM cI cJ aM hM u9) := hD1.weaken (fun _ q _ z => hFc q.1 z)
        generalize H1 = H at hP hS ⊢
        refine lv_i2l hx hb dX7_nextWide_19 rfl ?_
        refine lv_lor hx hb dX7_nextWide_20 ?_
        refine lv_topl (fun y12 ey12 => ?_)
        have hm := bnd_nm ey12 hm
        refine lv_lstore_n (lv' := [(2, .long y12), (0, .ref aM), (1, .int p1), (4, .int x1)]) hx hb dX7_nextWide_21 rfl hl (by decide) rfl (fun ls hl => ?_)
        obtain ⟨x13, ex13, hm⟩ := bnd_ex hm
        refine lv_iinc (v := x13) (lv' := [(4, .int x13), (2, .long y12), (0, .ref aM), (1, .int p1)]) hx hb dX7_nextWide_22 hl (k := 3) rfl (by rw [ex13]; exact congrArg _ (by decide)) (by decide) rfl (fun ls hl => ?_)
        refine lv_goto (tgt := 5) hx hb dX7_nextWide_25 (by decide) ?_
        exact ih5 x13 y12 u9 _ _ _ hm hP hD hS (lv_sub hl [2, 3, 1, 0] rfl)
  exact LP5 FU (0 : Int32) (0 : Int64) uM _ _ _ hm hP hD hS (lv_sub hl [2, 3, 1, 0] rfl)

def f_X7_nextBit (uM : OS) : Option (OS × Int32) :=
  bnd (fun (u1 : OS) =>
  bnd (sF u1 29 ((u1.1 29) - (1 : Int32))) fun u3 =>
  gdi ((u3.1 26) - (1 : Int32)) 20000 <|
  some (u3, (((u3.2.1 14 (((u3.1 26) - (1 : Int32))).toNatClampNeg) >>> ((u3.1 29) &&& (31 : Int32))) &&& (1 : Int32)))) fun K27_2 =>
  if (uM.1 29) = (0 : Int32) then (
  oC2 (f_X7_next uM) fun u6 r7 =>
  if (u6.1 27) ≤ (0 : Int32) then (
  bnd (sF u6 29 (8 : Int32)) fun u10 =>
  K27_2 u10) else (
  some (u6, (0 : Int32)))) else (
  K27_2 uM)

set_option maxHeartbeats 4000000 in
set_option maxRecDepth 100000 in
theorem c_X7_nextBit (l : Launch) (dC : Nat → ClassId) (dI : Nat → Nat → Nat) (cI cJ : ClassId) (aM : Nat) (hM : Nat → Nat) (sz : Nat) (uM : OS) (o : OS × Int32) (hm : f_X7_nextBit uM = some o) : Met l yX7_nextBit (wq yX7_nextBit cX7_nextBit 2 (some .int)) ({ frames := 2, cells := 0, slots := 0, locals := 41 } : Room) (va_Pc [.ref aM] (pcW dC dI cI cJ sz (wM cI cJ aM hM uM))) (va_Qi (S := OS) (fun r u => some (u, r) = some o) (fun (u : OS) t => va_P (dC, dI) vwCl (wM cI cJ aM hM u) t.heap ∧ va_D (va_A (wM cI cJ aM hM uM) sz) (wM cI cJ aM hM u)) (va_A (wM cI cJ aM hM uM) sz)) 0 0 (va_A (wM cI cJ aM hM uM) sz) := by
  refine Met.ofW (cc := cX7_nextBit) (maxL := 2) (ret := (some .int)) (by decide) rfl ?_
  intro p e s m args below meth c s₁ B hml hv
  obtain ⟨rfl, hsz, hP, hK, hD0, hN⟩ := hv
  have hx := B.exec
  have hb := B.bytes
  have hr := B.returns
  have ht : ∀ w ∈ lw_good, w.before _ s = true := fun w h => atoms_spec (ws := wq yX7_nextBit cX7_nextBit 2 (some .int)) B.pre w (wq_mem h)
  have hown : s.vm.findClass RX7 = some m.cls := findClass_of_methodNamed B.named
  have hlocks := B.notSynchronized
  subst hsz
  have hD := hD0.self (sz := s.heap.size)
  generalize hAe : va_A (wM cI cJ aM hM uM) s.heap.size = A at hD ⊢
  have hA : ∀ q : Nat, s.heap.size ≤ q → A q := fun q h => by rw [← hAe]; exact Or.inr h
  have hS : va_S A s.heap s.heap [] := va_S.rf
  have hl := lv_entry ([.ref aM]) (n := 2) (Nat.le_of_ble_eq_true rfl)
  rw [lg_entry_eq]
  generalize (lg_sl ([.ref aM]) ++ List.replicate (2 - (lg_sl ([.ref aM])).length) Slot.unset).toArray = ls at hl ⊢
  have hl : lv_has ls 2 [(0, .ref aM)] := hl
  generalize hQ : MQ below _ _ s _ _ _ = Q
  generalize hH : s.heap = H at hP ⊢
  have hS : va_S A s.heap H [] := by rw [← hH]; exact va_S.rf
  show W p l e ({ frames := 2, cells := 0, slots := 0, locals := 41 } : Room) s m ([.ref aM] : List Value).toArray below meth c H [] 0 0 Q (F0 m 0 ls [])
  unfold f_X7_nextBit at hm
  refine lv_aload_n hx hb dX7_nextBit_0 rfl (lv_at hl 0 rfl) ?_
  refine va_get (D := (dC, dI)) (ci := 8) (v := .int (uM.1 29)) (C := RX7) (T := TX7) (N := 34) hx hb ht inX7 hown hK hP 0 rfl rfl 29 (by decide) (ht _ kw_105) (fun _ h9 => h9) rfl dX7_nextBit_1 ?_
  obtain ⟨K27_2, eK27_2, hm⟩ := bnd_ex hm
  have J27_2 : ∀ (u1 : OS) (H : Heap) (locs : List Loc) (ls : Array Slot), K27_2 u1 = some o → va_P (dC, dI) vwCl (wM cI cJ aM hM u1) H → va_D A (wM cI cJ aM hM u1) → va_S A s.heap H locs → lv_has ls 2 [(0, .ref aM)] → W p l e ({ frames := 2, cells := 0, slots := 0, locals := 41 } : Room) s m ([.ref aM] : List Value).toArray below meth c H locs 0 0 Q (F0 m 27 ls []) := by
    intro u1 H locs ls hm hP hD hS hl
    have hm := ap1 eK27_2 hm
    refine lv_aload_n hx hb dX7_nextBit_27 rfl (lv_at hl 0 rfl) ?_
    refine lv_dup hx hb dX7_nextBit_28 rfl ?_
    refine va_get (D := (dC, dI)) (ci := 8) (v := .int (u1.1 29)) (C := RX7) (T := TX7) (N := 34) hx hb ht inX7 hown hK hP 0 rfl rfl 29 (by decide) (ht _ kw_105) (fun _ h9 => h9) rfl dX7_nextBit_29 ?_
    refine lv_iconst (v := (1 : Int32)) hx hb dX7_nextBit_32 (by decide) ?_
    refine lv_isub hx hb dX7_nextBit_33 ?_
    refine va_put (D := (dC, dI)) (ci := 8) (v := .int ((u1.1 29) - (1 : Int32))) (ty := .int) (C := RX7) (T := TX7) (N := 34) hx hb ht inX7 tyX7 tyX7_ok nmX7 hown hK hP hD hS 0 rfl rfl 29 (by decide) (ht _ kw_105) (fun _ h9 => h9) rfl (by decide +kernel) rfl rfl (Nat.le_of_ble_eq_true rfl) dX7_nextBit_34 (fun H locs hP hD hS => ?_)
    obtain ⟨u3, eu3, hm⟩ := bnd_ex hm
    have hP : va_P (dC, dI) vwCl (wM cI cJ aM hM u3) H := by rw [eu3]; exact hP
    have hD : va_D A (wM cI cJ aM hM u3) := by rw [eu3]; exact hD
    refine lv_aload_n hx hb dX7_nextBit_37 rfl (lv_at hl 0 rfl) ?_
    refine va_get (D := (dC, dI)) (ci := 8) (v := .ref (hM 14)) (C := RX7) (T := TX7) (N := 34) hx hb ht inX7 hown hK hP 0 rfl rfl 14 (by decide) (ht _ kw_31) (fun _ h9 => h9) rfl dX7_nextBit_38 ?_
    refine lv_aload_n hx hb dX7_nextBit_41 rfl (lv_at hl 0 rfl) ?_
    refine va_get (D := (dC, dI)) (ci := 8) (v := .int (u3.1 26)) (C := RX7) (T := TX7) (N := 34) hx hb ht inX7 hown hK hP 0 rfl rfl 26 (by decide) (ht _ kw_96) (fun _ h9 => h9) rfl dX7_nextBit_42 ?_
    refine lv_iconst (v := (1 : Int32)) hx hb dX7_nextBit_45 (by decide) ?_
    refine lv_isub hx hb dX7_nextBit_46 ?_
    obtain ⟨g4, hm⟩ := gdi_of hm
    refine va_iald hx hb hK hP 9 0 rfl rfl g4 dX7_nextBit_47 ?_
    refine lv_aload_n hx hb dX7_nextBit_48 rfl (lv_at hl 0 rfl) ?_
    refine va_get (D := (dC, dI)) (ci := 8) (v := .int (u3.1 29)) (C := RX7) (T := TX7) (N := 34) hx hb ht inX7 hown hK hP 0 rfl rfl 29 (by decide) (ht _ kw_105) (fun _ h9 => h9) rfl dX7_nextBit_49 ?_
    refine lv_ishr hx hb dX7_nextBit_52 ?_
    refine lv_iconst (v := (1 : Int32)) hx hb dX7_nextBit_53 (by decide) ?_
    refine lv_iand hx hb dX7_nextBit_54 ?_
    rw [← hQ]
    exact W.iret (v := (((u3.2.1 14 (((u3.1 26) - (1 : Int32))).toNatClampNeg) >>> ((u3.1 29) &&& (31 : Int32))) &&& (1 : Int32))) hx hb hr (fun t ht1 hW => ⟨⟨_, u3, rfl, hm, by rw [ht1]; exact hP, hD⟩, hS.F ht1⟩) hS.2.2 dX7_nextBit_55
  refine lv_if_ne (tgt := 27) hx hb dX7_nextBit_4 (by decide) (fun c5 => ?_) (fun c5 => ?_)
  · have hm := ite_f c5 hm
    exact J27_2 uM _ _ _ hm hP hD hS (lv_sub hl [0] rfl)
  · have hm := ite_t c5 hm
    refine lv_aload_n hx hb dX7_nextBit_7 rfl (lv_at hl 0 rfl) ?_
    have hPc : va_P (dC, dI) vwCl (wM cI cJ aM hM uM) _ := hP
    have hDc : va_D A (wM cI cJ aM hM uM) := hD
    have hFc := va_free (wc := (wM cI cJ aM hM uM)) hD hS hA [0, 1, 2, 3, 4, 5, 6, 7, 8, 9, 10, 11, 12, 13, 14] rfl
    obtain ⟨u6o, r7o, e8, hm⟩ := oC2_of hm
    refine va_calli (va_runV (As := []) (rest := []) ⟨hx, hb, hml, hown, ht⟩ (c_X7_next l dC dI cI cJ aM hM H.size uM (u6o, r7o) e8) (cwV 0 ht (gdV kw_104 kw_102 kw_103 kw_7 kw_101) rfl rfl rfl ⟨rfl, nd_X7_next⟩ ⟨Nat.le_of_ble_eq_true rfl, Nat.le_of_ble_eq_true rfl⟩) ⟨pcW_blind, va_recv hK hPc (ci := 8) (q0 := 0) rfl rfl, pcW_pre hPc hK hDc hN⟩ rfl rfl hl.1 rfl (lv_room (Nat.le_of_ble_eq_true rfl)) dX7_nextBit_8 ⟨Nat.zero_le _, Nat.zero_le _⟩) hS (fun q _ z => hFc q z) hFc (fun r7 uu t H1 locs ht1 hvm hw hB hz1 hk1 hS => ?_)
    obtain ⟨u6, rfl⟩ : ∃ z, z = uu := ⟨_, rfl⟩
    obtain ⟨hP1, hD1⟩ := hB
    rw [ht1] at hP1
    obtain ⟨q0, q1⟩ := inj2 hw
    subst q0
    subst q1
    have hP : va_P (dC, dI) vwCl (wM cI cJ aM hM u6) H1 := hP1
    have hD : va_D A (wM cI cJ aM hM u6) := hD1.weaken (fun _ q _ z => hFc q.1 z)
    generalize H1 = H at hP hS ⊢
    refine lv_istore_n (lv' := [(1, .int r7), (0, .ref aM)]) hx hb dX7_nextBit_11 rfl hl (by decide) rfl (fun ls hl => ?_)
    refine lv_aload_n hx hb dX7_nextBit_12 rfl (lv_at hl 1 rfl) ?_
    refine va_get (D := (dC, dI)) (ci := 8) (v := .int (u6.1 27)) (C := RX7) (T := TX7) (N := 34) hx hb ht inX7 hown hK hP 0 rfl rfl 27 (by decide) (ht _ kw_95) (fun _ h9 => h9) rfl dX7_nextBit_13 ?_
    refine lv_if_le (tgt := 21) hx hb dX7_nextBit_16 (by decide) (fun c9 => ?_) (fun c9 => ?_)
    · have hm := ite_t c9 hm
      refine lv_aload_n hx hb dX7_nextBit_21 rfl (lv_at hl 1 rfl) ?_
      refine lv_bipush (v := (8 : Int32)) hx hb dX7_nextBit_22 (by decide) ?_
      refine va_put (D := (dC, dI)) (ci := 8) (v := .int (8 : Int32)) (ty := .int) (C := RX7) (T := TX7) (N := 34) hx hb ht inX7 tyX7 tyX7_ok nmX7 hown hK hP hD hS 0 rfl rfl 29 (by decide) (ht _ kw_105) (fun _ h9 => h9) rfl (by decide +kernel) rfl rfl (Nat.le_of_ble_eq_true rfl) dX7_nextBit_24 (fun H locs hP hD hS => ?_)
      obtain ⟨u10, eu10, hm⟩ := bnd_ex hm
      have hP : va_P (dC, dI) vwCl (wM cI cJ aM hM u10) H := by rw [eu10]; exact hP
      have hD : va_D A (wM cI cJ aM hM u10) := by rw [eu10]; exact hD
      exact J27_2 u10 _ _ _ hm hP hD hS (lv_sub hl [1] rfl)
    · have hm := ite_f c9 hm
      refine lv_iconst (v := (0 : Int32)) hx hb dX7_nextBit_19 (by decide) ?_
      rw [← hQ]
      exact W.iret (v := (0 : Int32)) hx hb hr (fun t ht1 hW => ⟨⟨_, u6, rfl, hm, by rw [ht1]; exact hP, hD⟩, hS.F ht1⟩) hS.2.2 dX7_nextBit_20

def f_X7_readTable_L97 : Nat → (Int32 → OS → Option (OS)) → Int32 → OS → Option (OS)
  | 0, _, _, _ => none
  | n97 + 1, K124_15, x11, u12 =>
    if (u12.1 29) ≤ (0 : Int32) then (
    K124_15 x11 u12) else (
    oC2 (f_X7_nextBit u12) fun u23 r24 =>
    if r24 = (0 : Int32) then (
    if x11 = (0 : Int32) then (
    f_X7_readTable_L97 n97 K124_15 (0 : Int32) u23) else (
    f_X7_readTable_L97 n97 K124_15 (1 : Int32) u23)) else (
    f_X7_readTable_L97 n97 K124_15 (0 : Int32) u23))

def f_X7_readTable_L30 : Nat → (Int32 → Int32 → OS → Option (OS)) → Int32 → Int32 → OS → Option (OS)
  | 0, _, _, _, _ => none
  | n30 + 1, K50_37, x31, x32, u33 =>
    if x31 ≤ (0 : Int32) then (
    K50_37 x32 x31 u33) else (
    oC2 (f_X7_nextBit u33) fun u50 r51 =>
    bnd (((2 : Int32) * x32) + r51) fun x53 =>
    bnd (x31 + (-1 : Int32)) fun x54 =>
    f_X7_readTable_L30 n30 K50_37 x54 x53 u50)

def f_X7_readTable_L16 : Nat → (Int32 → Int32 → OS → Option (OS)) → Int32 → Int32 → OS → Option (OS)
  | 0, _, _, _, _ => none
  | n16 + 1, K95_10, x4, x5, u6 =>
    if (32 : Int32) ≤ x4 then (
    K95_10 x5 x4 u6) else (
    oC1 (f_X7_bitsOf x5) fun r29 =>
    bnd (fun (x34 : Int32) (x35 : Int32) (u36 : OS) =>
    bnd (fun (u38 : OS) =>
    gdi ((32 : Int32) + x4) 64 <|
    bnd (sA u38 8 ((32 : Int32) + x4) x34) fun u41 =>
    bnd (x5 - x34) fun x42 =>
    if (u41.1 27) ≤ (0 : Int32) then (
    bnd (x4 + (1 : Int32)) fun x44 =>
    f_X7_readTable_L16 n16 K95_10 x44 x42 u41) else (
    some u41)) fun K67_39 =>
    if (u36.1 27) = (0 : Int32) then (
    if x34 ≤ x5 then (
    K67_39 u36) else (
    oC1 (f_X7_fail u36 (3 : Int32)) fun u47 =>
    K67_39 u47)) else (
    K67_39 u36)) fun K50_37 =>
    f_X7_readTable_L30 FU K50_37 r29 (0 : Int32) u6)

def f_X7_readTable (uM : OS) : Option (OS) :=
  gdi (1 : Int32) 2 <|
  bnd ((1 : Int32) <<< ((uM.2.1 10 ((1 : Int32)).toNatClampNeg) &&& (31 : Int32))) fun x2 =>
  bnd (sF uM 29 (0 : Int32)) fun u3 =>
  bnd (fun (x7 : Int32) (x8 : Int32) (u9 : OS) =>
  bnd (fun (x13 : Int32) (u14 : OS) =>
  if (0 : Int32) < x7 then (
  oC1 (f_X7_fail u14 (3 : Int32)) fun u17 =>
  some u17) else (
  if x13 = (0 : Int32) then (
  oC1 (f_X7_fail u14 (3 : Int32)) fun u20 =>
  some u20) else (
  some u14))) fun K124_15 =>
  f_X7_readTable_L97 FU K124_15 (1 : Int32) u9) fun K95_10 =>
  f_X7_readTable_L16 FU K95_10 (0 : Int32) x2 u3

set_option maxHeartbeats 4000000 in
set_option maxRecDepth 100000 in
theorem c_X7_readTable (l : Launch) (dC : Nat → ClassId) (dI : Nat → Nat → Nat) (cI cJ : ClassId) (aM : Nat) (hM : Nat → Nat) (sz : Nat) (uM : OS) (o : OS) (hm : f_X7_readTable uM = some o) : Met l yX7_readTable (wq yX7_readTable cX7_readTable 5 none) ({ frames := 3, cells := 0, slots := 0, locals := 62 } : Room) (va_Pc [.ref aM] (pcW dC dI cI cJ sz (wM cI cJ aM hM uM))) (va_Qv (S := OS) (fun u => some u = some o) (fun (u : OS) t => va_P (dC, dI) vwCl (wM cI cJ aM hM u) t.heap ∧ va_D (va_A (wM cI cJ aM hM uM) sz) (wM cI cJ aM hM u)) (va_A (wM cI cJ aM hM uM) sz)) 0 0 (va_A (wM cI cJ aM hM uM) sz) := by
  refine Met.ofW (cc := cX7_readTable) (maxL := 5) (ret := none) (by decide) rfl ?_
  intro p e s m args below meth c s₁ B hml hv
  obtain ⟨rfl, hsz, hP, hK, hD0, hN⟩ := hv
  have hx := B.exec
  have hb := B.bytes
  have hr := B.returns
  have ht : ∀ w ∈ lw_good, w.before _ s = true := fun w h => atoms_spec (ws := wq yX7_readTable cX7_readTable 5 none) B.pre w (wq_mem h)
  have hown : s.vm.findClass RX7 = some m.cls := findClass_of_methodNamed B.named
  have hlocks := B.notSynchronized
  subst hsz
  have hD := hD0.self (sz := s.heap.size)
  generalize hAe : va_A (wM cI cJ aM hM uM) s.heap.size = A at hD ⊢
  have hA : ∀ q : Nat, s.heap.size ≤ q → A q := fun q h => by rw [← hAe]; exact Or.inr h
  have hS : va_S A s.heap s.heap [] := va_S.rf
  have hl := lv_entry ([.ref aM]) (n := 5) (Nat.le_of_ble_eq_true rfl)
  rw [lg_entry_eq]
  generalize (lg_sl ([.ref aM]) ++ List.replicate (5 - (lg_sl ([.ref aM])).length) Slot.unset).toArray = ls at hl ⊢
  have hl : lv_has ls 5 [(0, .ref aM)] := hl
  generalize hQ : MQ below _ _ s _ _ _ = Q
  generalize hH : s.heap = H at hP ⊢
  have hS : va_S A s.heap H [] := by rw [← hH]; exact va_S.rf
  show W p l e ({ frames := 3, cells := 0, slots := 0, locals := 62 } : Room) s m ([.ref aM] : List Value).toArray below meth c H [] 0 0 Q (F0 m 0 ls [])
  unfold f_X7_readTable at hm
  refine lv_iconst (v := (1 : Int32)) hx hb dX7_readTable_0 (by decide) ?_
  refine lv_aload_n hx hb dX7_readTable_1 rfl (lv_at hl 0 rfl) ?_
  refine va_get (D := (dC, dI)) (ci := 8) (v := .ref (hM 10)) (C := RX7) (T := TX7) (N := 34) hx hb ht inX7 hown hK hP 0 rfl rfl 10 (by decide) (ht _ kw_19) (fun _ h9 => h9) rfl dX7_readTable_2 ?_
  refine lv_iconst (v := (1 : Int32)) hx hb dX7_readTable_5 (by decide) ?_
  obtain ⟨g1, hm⟩ := gdi_of hm
  refine va_iald hx hb hK hP 5 0 rfl rfl g1 dX7_readTable_6 ?_
  refine lv_ishl hx hb dX7_readTable_7 ?_
  refine lv_topi (fun x2 ex2 => ?_)
  have hm := bnd_nm ex2 hm
  refine lv_istore_n (lv' := [(1, .int x2), (0, .ref aM)]) hx hb dX7_readTable_8 rfl hl (by decide) rfl (fun ls hl => ?_)
  refine lv_aload_n hx hb dX7_readTable_9 rfl (lv_at hl 1 rfl) ?_
  refine lv_iconst (v := (0 : Int32)) hx hb dX7_readTable_10 (by decide) ?_
  refine va_put (D := (dC, dI)) (ci := 8) (v := .int (0 : Int32)) (ty := .int) (C := RX7) (T := TX7) (N := 34) hx hb ht inX7 tyX7 tyX7_ok nmX7 hown hK hP hD hS 0 rfl rfl 29 (by decide) (ht _ kw_105) (fun _ h9 => h9) rfl (by decide +kernel) rfl rfl (Nat.le_of_ble_eq_true rfl) dX7_readTable_11 (fun H locs hP hD hS => ?_)
  obtain ⟨u3, eu3, hm⟩ := bnd_ex hm
  have hP : va_P (dC, dI) vwCl (wM cI cJ aM hM u3) H := by rw [eu3]; exact hP
  have hD : va_D A (wM cI cJ aM hM u3) := by rw [eu3]; exact hD
  refine lv_iconst (v := (0 : Int32)) hx hb dX7_readTable_14 (by decide) ?_
  refine lv_istore_n (lv' := [(2, .int (0 : Int32)), (1, .int x2), (0, .ref aM)]) hx hb dX7_readTable_15 rfl hl (by decide) rfl (fun ls hl => ?_)
  obtain ⟨K95_10, eK95_10, hm⟩ := bnd_ex hm
  have X95_10 : ∀ (x7 : Int32) (x8 : Int32) (u9 : OS) (H : Heap) (locs : List Loc) (ls : Array Slot), K95_10 x7 x8 u9 = some o → va_P (dC, dI) vwCl (wM cI cJ aM hM u9) H → va_D A (wM cI cJ aM hM u9) → va_S A s.heap H locs → lv_has ls 5 [(0, .ref aM), (1, .int x7), (2, .int x8)] → W p l e ({ frames := 3, cells := 0, slots := 0, locals := 62 } : Room) s m ([.ref aM] : List Value).toArray below meth c H locs 0 0 Q (F0 m 95 ls []) := by
    intro x7 x8 u9 H locs ls hm hP hD hS hl
    have hm := ap3 eK95_10 hm
    refine lv_iconst (v := (1 : Int32)) hx hb dX7_readTable_95 (by decide) ?_
    refine lv_istore_n (lv' := [(2, .int (1 : Int32)), (0, .ref aM), (1, .int x7)]) hx hb dX7_readTable_96 rfl hl (by decide) rfl (fun ls hl => ?_)
    obtain ⟨K124_15, eK124_15, hm⟩ := bnd_ex hm
    have X124_15 : ∀ (x13 : Int32) (u14 : OS) (H : Heap) (locs : List Loc) (ls : Array Slot), K124_15 x13 u14 = some o → va_P (dC, dI) vwCl (wM cI cJ aM hM u14) H → va_D A (wM cI cJ aM hM u14) → va_S A s.heap H locs → lv_has ls 5 [(0, .ref aM), (1, .int x7), (2, .int x13)] → W p l e ({ frames := 3, cells := 0, slots := 0, locals := 62 } : Room) s m ([.ref aM] : List Value).toArray below meth c H locs 0 0 Q (F0 m 124 ls []) := by
      intro x13 u14 H locs ls hm hP hD hS hl
      have hm := ap2 eK124_15 hm
      refine lv_iload_n hx hb dX7_readTable_124 rfl (lv_at hl 1 rfl) ?_
      refine lv_if_gt (tgt := 132) hx hb dX7_readTable_125 (by decide) (fun c16 => ?_) (fun c16 => ?_)
      · have hm := ite_t c16 hm
        refine lv_aload_n hx hb dX7_readTable_132 rfl (lv_at hl 0 rfl) ?_
        refine lv_iconst (v := (3 : Int32)) hx hb dX7_readTable_133 (by decide) ?_
        have hPc : va_P (dC, dI) vwCl (wM cI cJ aM hM u14) _ := hP
        have hDc : va_D A (wM cI cJ aM hM u14) := hD
        have hFc := va_free (wc := (wM cI cJ aM hM u14)) hD hS hA [0, 1, 2, 3, 4, 5, 6, 7, 8, 9, 10, 11, 12, 13, 14] rfl
        obtain ⟨u17o, e18, hm⟩ := oC1_of hm
        refine va_callv (va_runV (As := [.int (3 : Int32)]) (rest := []) ⟨hx, hb, hml, hown, ht⟩ (c_X7_fail l dC dI cI cJ aM hM H.size u14 (3 : Int32) u17o e18) (cwV 1 ht (gdV kw_100 kw_98 kw_99 kw_7 kw_97) rfl rfl rfl ⟨rfl, nd_X7_fail⟩ ⟨Nat.le_of_ble_eq_true rfl, Nat.le_of_ble_eq_true rfl⟩) ⟨pcW_blind, va_recv hK hPc (ci := 8) (q0 := 0) rfl rfl, pcW_pre hPc hK hDc hN⟩ rfl rfl hl.1 rfl (lv_room (Nat.le_of_ble_eq_true rfl)) dX7_readTable_134 ⟨Nat.zero_le _, Nat.zero_le _⟩) hS (fun q _ z => hFc q z) hFc (fun uu t H1 locs ht1 hvm hw hB hz1 hk1 hS => ?_)
        obtain ⟨u17, rfl⟩ : ∃ z, z = uu := ⟨_, rfl⟩
        obtain ⟨hP1, hD1⟩ := hB
        rw [ht1] at hP1
        obtain rfl : u17 = u17o := Option.some.inj hw
        have hP : va_P (dC, dI) vwCl (wM cI cJ aM hM u17) H1 := hP1
        have hD : va_D A (wM cI cJ aM hM u17) := hD1.weaken (fun _ q _ z => hFc q.1 z)
        generalize H1 = H at hP hS ⊢
        rw [← hQ]
        exact W.vret hx hb hr (fun t ht1 hW => ⟨⟨u17, rfl, hm, by rw [ht1]; exact hP, hD⟩, hS.F ht1⟩) hS.2.2 dX7_readTable_137
      · have hm := ite_f c16 hm
        refine lv_iload_n hx hb dX7_readTable_128 rfl (lv_at hl 2 rfl) ?_
        refine lv_if_ne (tgt := 137) hx hb dX7_readTable_129 (by decide) (fun c19 => ?_) (fun c19 => ?_)
        · have hm := ite_f c19 hm
          rw [← hQ]
          exact W.vret hx hb hr (fun t ht1 hW => ⟨⟨u14, rfl, hm, by rw [ht1]; exact hP, hD⟩, hS.F ht1⟩) hS.2.2 dX7_readTable_137
        · have hm := ite_t c19 hm
          refine lv_aload_n hx hb dX7_readTable_132 rfl (lv_at hl 0 rfl) ?_
          refine lv_iconst (v := (3 : Int32)) hx hb dX7_readTable_133 (by decide) ?_
          have hPc : va_P (dC, dI) vwCl (wM cI cJ aM hM u14) _ := hP
          have hDc : va_D A (wM cI cJ aM hM u14) := hD
          have hFc := va_free (wc := (wM cI cJ aM hM u14)) hD hS hA [0, 1, 2, 3, 4, 5, 6, 7, 8, 9, 10, 11, 12, 13, 14] rfl
          obtain ⟨u20o, e21, hm⟩ := oC1_of hm
          refine va_callv (va_runV (As := [.int (3 : Int32)]) (rest := []) ⟨hx, hb, hml, hown, ht⟩ (c_X7_fail l dC dI cI cJ aM hM H.size u14 (3 : Int32) u20o e21) (cwV 1 ht (gdV kw_100 kw_98 kw_99 kw_7 kw_97) rfl rfl rfl ⟨rfl, nd_X7_fail⟩ ⟨Nat.le_of_ble_eq_true rfl, Nat.le_of_ble_eq_true rfl⟩) ⟨pcW_blind, va_recv hK hPc (ci := 8) (q0 := 0) rfl rfl, pcW_pre hPc hK hDc hN⟩ rfl rfl hl.1 rfl (lv_room (Nat.le_of_ble_eq_true rfl)) dX7_readTable_134 ⟨Nat.zero_le _, Nat.zero_le _⟩) hS (fun q _ z => hFc q z) hFc (fun uu t H1 locs ht1 hvm hw hB hz1 hk1 hS => ?_)
          obtain ⟨u20, rfl⟩ : ∃ z, z = uu := ⟨_, rfl⟩
          obtain ⟨hP1, hD1⟩ := hB
          rw [ht1] at hP1
          obtain rfl : u20 = u20o := Option.some.inj hw
          have hP : va_P (dC, dI) vwCl (wM cI cJ aM hM u20) H1 := hP1
          have hD : va_D A (wM cI cJ aM hM u20) := hD1.weaken (fun _ q _ z => hFc q.1 z)
          generalize H1 = H at hP hS ⊢
          rw [← hQ]
          exact W.vret hx hb hr (fun t ht1 hW => ⟨⟨u20, rfl, hm, by rw [ht1]; exact hP, hD⟩, hS.F ht1⟩) hS.2.2 dX7_readTable_137
    have LP97 : ∀ (n97 : Nat) (x11 : Int32) (u12 : OS) (H : Heap) (locs : List Loc) (ls : Array Slot), f_X7_readTable_L97 n97 K124_15 x11 u12 = some o → va_P (dC, dI) vwCl (wM cI cJ aM hM u12) H → va_D A (wM cI cJ aM hM u12) → va_S A s.heap H locs → lv_has ls 5 [(0, .ref aM), (1, .int x7), (2, .int x11)] → W p l e ({ frames := 3, cells := 0, slots := 0, locals := 62 } : Room) s m ([.ref aM] : List Value).toArray below meth c H locs 0 0 Q (F0 m 97 ls []) := by
      intro n97
      induction n97 with
      | zero => intro x11 u12 H locs ls hm; exact nomatch (show (none : Option _) = some _ from hm)
      | succ n97 ih97 =>
        intro x11 u12 H locs ls hm hP hD hS hl
        unfold f_X7_readTable_L97 at hm
        refine lv_aload_n hx hb dX7_readTable_97 rfl (lv_at hl 0 rfl) ?_
        refine va_get (D := (dC, dI)) (ci := 8) (v := .int (u12.1 29)) (C := RX7) (T := TX7) (N := 34) hx hb ht inX7 hown hK hP 0 rfl rfl 29 (by decide) (ht _ kw_105) (fun _ h9 => h9) rfl dX7_readTable_98 ?_
        refine lv_if_le (tgt := 124) hx hb dX7_readTable_101 (by decide) (fun c22 => ?_) (fun c22 => ?_)
        · have hm := ite_t c22 hm
          exact X124_15 x11 u12 _ _ _ hm hP hD hS (lv_sub hl [0, 1, 2] rfl)
        · have hm := ite_f c22 hm
          refine lv_aload_n hx hb dX7_readTable_104 rfl (lv_at hl 0 rfl) ?_
          have hPc : va_P (dC, dI) vwCl (wM cI cJ aM hM u12) _ := hP
          have hDc : va_D A (wM cI cJ aM hM u12) := hD
          have hFc := va_free (wc := (wM cI cJ aM hM u12)) hD hS hA [0, 1, 2, 3, 4, 5, 6, 7, 8, 9, 10, 11, 12, 13, 14] rfl
          obtain ⟨u23o, r24o, e25, hm⟩ := oC2_of hm
          refine va_calli (va_runV (As := []) (rest := []) ⟨hx, hb, hml, hown, ht⟩ (c_X7_nextBit l dC dI cI cJ aM hM H.size u12 (u23o, r24o) e25) (cwV 0 ht (gdV kw_109 kw_107 kw_108 kw_7 kw_106) rfl rfl rfl ⟨rfl, nd_X7_nextBit⟩ ⟨Nat.le_of_ble_eq_true rfl, Nat.le_of_ble_eq_true rfl⟩) ⟨pcW_blind, va_recv hK hPc (ci := 8) (q0 := 0) rfl rfl, pcW_pre hPc hK hDc hN⟩ rfl rfl hl.1 rfl (lv_room (Nat.le_of_ble_eq_true rfl)) dX7_readTable_105 ⟨Nat.zero_le _, Nat.zero_le _⟩) hS (fun q _ z => hFc q z) hFc (fun r24 uu t H1 locs ht1 hvm hw hB hz1 hk1 hS => ?_)
          obtain ⟨u23, rfl⟩ : ∃ z, z = uu := ⟨_, rfl⟩
          obtain ⟨hP1, hD1⟩ := hB
          rw [ht1] at hP1
          obtain ⟨q0, q1⟩ := inj2 hw
          subst q0
          subst q1
          have hP : va_P (dC, dI) vwCl (wM cI cJ aM hM u23) H1 := hP1
          have hD : va_D A (wM cI cJ aM hM u23) := hD1.weaken (fun _ q _ z => hFc q.1 z)
          generalize H1 = H at hP hS ⊢
          refine lv_if_ne (tgt := 119) hx hb dX7_readTable_108 (by decide) (fun c26 => ?_) (fun c26 => ?_)
          · have hm := ite_f c26 hm
            refine lv_iconst (v := (0 : Int32)) hx hb dX7_readTable_119 (by decide) ?_
            refine lv_istore_n (lv' := [(2, .int (0 : Int32)), (0, .ref aM), (1, .int x7)]) hx hb dX7_readTable_120 rfl hl (by decide) rfl (fun ls hl => ?_)
            refine lv_goto (tgt := 97) hx hb dX7_readTable_121 (by decide) ?_
            exact ih97 (0 : Int32) u23 _ _ _ hm hP hD hS (lv_sub hl [1, 2, 0] rfl)
          · have hm := ite_t c26 hm
            refine lv_iload_n hx hb dX7_readTable_111 rfl (lv_at hl 2 rfl) ?_
            refine lv_if_eq (tgt := 119) hx hb dX7_readTable_112 (by decide) (fun c27 => ?_) (fun c27 => ?_)
            · have hm := ite_t c27 hm
              refine lv_iconst (v := (0 : Int32)) hx hb dX7_readTable_119 (by decide) ?_
              refine lv_istore_n (lv' := [(2, .int (0 : Int32)), (0, .ref aM), (1, .int x7)]) hx hb dX7_readTable_120 rfl hl (by decide) rfl (fun ls hl => ?_)
              refine lv_goto (tgt := 97) hx hb dX7_readTable_121 (by decide) ?_
              exact ih97 (0 : Int32) u23 _ _ _ hm hP hD hS (lv_sub hl [1, 2, 0] rfl)
            · have hm := ite_f c27 hm
              refine lv_iconst (v := (1 : Int32)) hx hb dX7_readTable_115 (by decide) ?_
              refine lv_goto (tgt := 120) hx hb dX7_readTable_116 (by decide) ?_
              refine lv_istore_n (lv' := [(2, .int (1 : Int32)), (0, .ref aM), (1, .int x7)]) hx hb dX7_readTable_120 rfl hl (by decide) rfl (fun ls hl => ?_)
              refine lv_goto (tgt := 97) hx hb dX7_readTable_121 (by decide) ?_
              exact ih97 (1 : Int32) u23 _ _ _ hm hP hD hS (lv_sub hl [1, 2, 0] rfl)
    exact LP97 FU (1 : Int32) u9 _ _ _ hm hP hD hS (lv_sub hl [1, 2, 0] rfl)
  have LP16 : ∀ (n16 : Nat) (x4 : Int32) (x5 : Int32) (u6 : OS) (H : Heap) (locs : List Loc) (ls : Array Slot), f_X7_readTable_L16 n16 K95_10 x4 x5 u6 = some o → va_P (dC, dI) vwCl (wM cI cJ aM hM u6) H → va_D A (wM cI cJ aM hM u6) → va_S A s.heap H locs → lv_has ls 5 [(0, .ref aM), (1, .int x5), (2, .int x4)] → W p l e ({ frames := 3, cells := 0, slots := 0, locals := 62 } : Room) s m ([.ref aM] : List Value).toArray below meth c H locs 0 0 Q (F0 m 16 ls []) := by
    intro n16
    induction n16 with
    | zero => intro x4 x5 u6 H locs ls hm; exact nomatch (show (none : Option _) = some _ from hm)
    | succ n16 ih16 =>
      intro x4 x5 u6 H locs ls hm hP hD hS hl
      unfold f_X7_readTable_L16 at hm
      refine lv_iload_n hx hb dX7_readTable_16 rfl (lv_at hl 2 rfl) ?_
      refine lv_bipush (v := (32 : Int32)) hx hb dX7_readTable_17 (by decide) ?_
      refine lv_icmp_ge (tgt := 95) hx hb dX7_readTable_19 (by decide) (fun c28 => ?_) (fun c28 => ?_)
      · have hm := ite_t c28 hm
        exact X95_10 x5 x4 u6 _ _ _ hm hP hD hS (lv_sub hl [0, 1, 2] rfl)
      · have hm := ite_f c28 hm
        refine lv_iconst (v := (0 : Int32)) hx hb dX7_readTable_22 (by decide) ?_
        refine lv_istore_n (lv' := [(3, .int (0 : Int32)), (0, .ref aM), (1, .int x5), (2, .int x4)]) hx hb dX7_readTable_23 rfl hl (by decide) rfl (fun ls hl => ?_)
        refine lv_iload_n hx hb dX7_readTable_24 rfl (lv_at hl 2 rfl) ?_
        have hPc : va_P (dC, dI) vwCl ([] : va_W) _ := hP.sub [] rfl
        have hDc : va_D A ([] : va_W) := hD.sub [] (by decide) rfl
        have hFc := va_free (wc := ([] : va_W)) hD hS hA [] rfl
        obtain ⟨r29o, e30, hm⟩ := oC1_of hm
        refine va_calli (va_runS (As := [.int x5]) (rest := []) ⟨hx, hb, hml, hown, ht⟩ (c_X7_bitsOf l dC dI cI cJ H.size x5 r29o e30) (va_cwS 1 ht (gdS kw_40 kw_39 kw_7 kw_38) rfl rfl rfl nd_X7_bitsOf ⟨Nat.le_of_ble_eq_true rfl, Nat.le_of_ble_eq_true rfl⟩) ⟨pcW_blind, pcW_pre hPc hK hDc hN⟩ rfl rfl hl.1 rfl (lv_room (Nat.le_of_ble_eq_true rfl)) dX7_readTable_25 ⟨Nat.zero_le _, Nat.zero_le _⟩) hS (fun q _ z => hFc q z) hFc (fun r29 uu t H1 locs ht1 hvm hw hB hz1 hk1 hS => ?_)
        obtain ⟨⟩ := uu
        obtain ⟨hP1, hD1⟩ := hB
        rw [ht1] at hP1
        obtain rfl : r29 = r29o := Option.some.inj hw
        obtain ⟨hP, hD⟩ := va_join (wr := (wM cI cJ aM hM u6)) (w1 := []) hP hD [] [0, 1, 2, 3, 4, 5, 6, 7, 8, 9, 10, 11, 12, 13, 14] rfl rfl (by decide) (by decide) hk1 hFc hP1 hD1
        have hP : va_P (dC, dI) vwCl (wM cI cJ aM hM u6) H1 := hP
        have hD : va_D A (wM cI cJ aM hM u6) := hD
        generalize H1 = H at hP hS ⊢
        refine lv_istore (lv' := [(4, .int r29), (3, .int (0 : Int32)), (0, .ref aM), (1, .int x5), (2, .int x4)]) hx hb dX7_readTable_28 hl (by decide) rfl (fun ls hl => ?_)
        obtain ⟨K50_37, eK50_37, hm⟩ := bnd_ex hm
        have X50_37 : ∀ (x34 : Int32) (x35 : Int32) (u36 : OS) (H : Heap) (locs : List Loc) (ls : Array Slot), K50_37 x34 x35 u36 = some o → va_P (dC, dI) vwCl (wM cI cJ aM hM u36) H → va_D A (wM cI cJ aM hM u36) → va_S A s.heap H locs → lv_has ls 5 [(0, .ref aM), (1, .int x5), (2, .int x4), (3, .int x34), (4, .int x35)] → W p l e ({ frames := 3, cells := 0, slots := 0, locals := 62 } : Room) s m ([.ref aM] : List Value).toArray below meth c H locs 0 0 Q (F0 m 50 ls []) := by
          intro x34 x35 u36 H locs ls hm hP hD hS hl
          have hm := ap3 eK50_37 hm
          refine lv_aload_n hx hb dX7_readTable_50 rfl (lv_at hl 0 rfl) ?_
          refine va_get (D := (dC, dI)) (ci := 8) (v := .int (u36.1 27)) (C := RX7) (T := TX7) (N := 34) hx hb ht inX7 hown hK hP 0 rfl rfl 27 (by decide) (ht _ kw_95) (fun _ h9 => h9) rfl dX7_readTable_51 ?_
          obtain ⟨K67_39, eK67_39, hm⟩ := bnd_ex hm
          have J67_39 : ∀ (u38 : OS) (H : Heap) (locs : List Loc) (ls : Array Slot), K67_39 u38 = some o → va_P (dC, dI) vwCl (wM cI cJ aM hM u38) H → va_D A (wM cI cJ aM hM u38) → va_S A s.heap H locs → lv_has ls 5 [(0, .ref aM), (1, .int x5), (2, .int x4), (3, .int x34), (4, .int x35)] → W p l e ({ frames := 3, cells := 0, slots := 0, locals := 62 } : Room) s m ([.ref aM] : List Value).toArray below meth c H locs 0 0 Q (F0 m 67 ls []) := by
            intro u38 H locs ls hm hP hD hS hl
            have hm := ap1 eK67_39 hm
            refine lv_aload_n hx hb dX7_readTable_67 rfl (lv_at hl 0 rfl) ?_
            refine va_get (D := (dC, dI)) (ci := 8) (v := .ref (hM 8)) (C := RX7) (T := TX7) (N := 34) hx hb ht inX7 hown hK hP 0 rfl rfl 8 (by decide) (ht _ kw_18) (fun _ h9 => h9) rfl dX7_readTable_68 ?_
            refine lv_bipush (v := (32 : Int32)) hx hb dX7_readTable_71 (by decide) ?_
            refine lv_iload_n hx hb dX7_readTable_73 rfl (lv_at hl 2 rfl) ?_
            refine lv_iadd hx hb dX7_readTable_74 ?_
            refine lv_iload_n hx hb dX7_readTable_75 rfl (lv_at hl 3 rfl) ?_
            obtain ⟨g40, hm⟩ := gdi_of hm
            refine va_iast hx hb hK hP hD hS 3 0 rfl rfl g40 dX7_readTable_76 (fun H locs hP hD hS => ?_)
            obtain ⟨u41, eu41, hm⟩ := bnd_ex hm
            have hP : va_P (dC, dI) vwCl (wM cI cJ aM hM u41) H := by rw [eu41]; exact hP
            have hD : va_D A (wM cI cJ aM hM u41) := by rw [eu41]; exact hD
            refine lv_iload_n hx hb dX7_readTable_77 rfl (lv_at hl 1 rfl) ?_
            refine lv_iload_n hx hb dX7_readTable_78 rfl (lv_at hl 3 rfl) ?_
            refine lv_isub hx hb dX7_readTable_79 ?_
            refine lv_topi (fun x42 ex42 => ?_)
            have hm := bnd_nm ex42 hm
            refine lv_istore_n (lv' := [(1, .int x42), (0, .ref aM), (2, .int x4), (3, .int x34), (4, .int x35)]) hx hb dX7_readTable_80 rfl hl (by decide) rfl (fun ls hl => ?_)
            refine lv_aload_n hx hb dX7_readTable_81 rfl (lv_at hl 1 rfl) ?_
            refine va_get (D := (dC, dI)) (ci := 8) (v := .int (u41.1 27)) (C := RX7) (T := TX7) (N := 34) hx hb ht inX7 hown hK hP 0 rfl rfl 27 (by decide) (ht _ kw_95) (fun _ h9 => h9) rfl dX7_readTable_82 ?_
            refine lv_if_le (tgt := 89) hx hb dX7_readTable_85 (by decide) (fun c43 => ?_) (fun c43 => ?_)
            · have hm := ite_t c43 hm
              obtain ⟨x44, ex44, hm⟩ := bnd_ex hm
              refine lv_iinc (v := x44) (lv' := [(2, .int x44), (1, .int x42), (0, .ref aM), (3, .int x34), (4, .int x35)]) hx hb dX7_readTable_89 hl (k := 2) rfl (by rw [ex44]; exact congrArg _ (by decide)) (by decide) rfl (fun ls hl => ?_)
              refine lv_goto (tgt := 16) hx hb dX7_readTable_92 (by decide) ?_
              exact ih16 x44 x42 u41 _ _ _ hm hP hD hS (lv_sub hl [2, 1, 0] rfl)
            · have hm := ite_f c43 hm
              rw [← hQ]
              exact W.vret hx hb hr (fun t ht1 hW => ⟨⟨u41, rfl, hm, by rw [ht1]; exact hP, hD⟩, hS.F ht1⟩) hS.2.2 dX7_readTable_88
          refine lv_if_ne (tgt := 67) hx hb dX7_readTable_54 (by decide) (fun c45 => ?_) (fun c45 => ?_)
          · have hm := ite_f c45 hm
            exact J67_39 u36 _ _ _ hm hP hD hS (lv_sub hl [0, 1, 2, 3, 4] rfl)
          · have hm := ite_t c45 hm
            refine lv_iload_n hx hb dX7_readTable_57 rfl (lv_at hl 3 rfl) ?_
            refine lv_iload_n hx hb dX7_readTable_58 rfl (lv_at hl 1 rfl) ?_
            refine lv_icmp_le (tgt := 67) hx hb dX7_readTable_59 (by decide) (fun c46 => ?_) (fun c46 => ?_)
            · have hm := ite_t c46 hm
              exact J67_39 u36 _ _ _ hm hP hD hS (lv_sub hl [0, 1, 2, 3, 4] rfl)
            · have hm := ite_f c46 hm
              refine lv_aload_n hx hb dX7_readTable_62 rfl (lv_at hl 0 rfl) ?_
              refine lv_iconst (v := (3 : Int32)) hx hb dX7_readTable_63 (by decide) ?_
              have hPc : va_P (dC, dI) vwCl (wM cI cJ aM hM u36) _ := hP
              have hDc : va_D A (wM cI cJ aM hM u36) := hD
              have hFc := va_free (wc := (wM cI cJ aM hM u36)) hD hS hA [0, 1, 2, 3, 4, 5, 6, 7, 8, 9, 10, 11, 12, 13, 14] rfl
              obtain ⟨u47o, e48, hm⟩ := oC1_of hm
              refine va_callv (va_runV (As := [.int (3 : Int32)]) (rest := []) ⟨hx, hb, hml, hown, ht⟩ (c_X7_fail l dC dI cI cJ aM hM H.size u36 (3 : Int32) u47o e48) (cwV 1 ht (gdV kw_100 kw_98 kw_99 kw_7 kw_97) rfl rfl rfl ⟨rfl, nd_X7_fail⟩ ⟨Nat.le_of_ble_eq_true rfl, Nat.le_of_ble_eq_true rfl⟩) ⟨pcW_blind, va_recv hK hPc (ci := 8) (q0 := 0) rfl rfl, pcW_pre hPc hK hDc hN⟩ rfl rfl hl.1 rfl (lv_room (Nat.le_of_ble_eq_true rfl)) dX7_readTable_64 ⟨Nat.zero_le _, Nat.zero_le _⟩) hS (fun q _ z => hFc q z) hFc (fun uu t H1 locs ht1 hvm hw hB hz1 hk1 hS => ?_)
              obtain ⟨u47, rfl⟩ : ∃ z, z = uu := ⟨_, rfl⟩
              obtain ⟨hP1, hD1⟩ := hB
              rw [ht1] at hP1
              obtain rfl : u47 = u47o := Option.some.inj hw
              have hP : va_P (dC, dI) vwCl (wM cI cJ aM hM u47) H1 := hP1
              have hD : va_D A (wM cI cJ aM hM u47) := hD1.weaken (fun _ q _ z => hFc q.1 z)
              generalize H1 = H at hP hS ⊢
              exact J67_39 u47 _ _ _ hm hP hD hS (lv_sub hl [0, 1, 2, 3, 4] rfl)
        have LP30 : ∀ (n30 : Nat) (x31 : Int32) (x32 : Int32) (u33 : OS) (H : Heap) (locs : List Loc) (ls : Array Slot), f_X7_readTable_L30 n30 K50_37 x31 x32 u33 = some o → va_P (dC, dI) vwCl (wM cI cJ aM hM u33) H → va_D A (wM cI cJ aM hM u33) → va_S A s.heap H locs → lv_has ls 5 [(0, .ref aM), (1, .int x5), (2, .int x4), (3, .int x32), (4, .int x31)] → W p l e ({ frames := 3, cells := 0, slots := 0, locals := 62 } : Room) s m ([.ref aM] : List Value).toArray below meth c H locs 0 0 Q (F0 m 30 ls []) := by
          intro n30
          induction n30 with
          | zero => intro x31 x32 u33 H locs ls hm; exact nomatch (show (none : Option _) = some _ from hm)
          | succ n30 ih30 =>
            intro x31 x32 u33 H locs ls hm hP hD hS hl
            unfold f_X7_readTable_L30 at hm
            refine lv_iload hx hb dX7_readTable_30 (lv_at hl 4 rfl) ?_
            refine lv_if_le (tgt := 50) hx hb dX7_readTable_32 (by decide) (fun c49 => ?_) (fun c49 => ?_)
            · have hm := ite_t c49 hm
              exact X50_37 x32 x31 u33 _ _ _ hm hP hD hS (lv_sub hl [0, 1, 2, 3, 4] rfl)
            · have hm := ite_f c49 hm
              refine lv_iconst (v := (2 : Int32)) hx hb dX7_readTable_35 (by decide) ?_
              refine lv_iload_n hx hb dX7_readTable_36 rfl (lv_at hl 3 rfl) ?_
              refine lv_imul hx hb dX7_readTable_37 ?_
              refine lv_aload_n hx hb dX7_readTable_38 rfl (lv_at hl 0 rfl) ?_
              have hPc : va_P (dC, dI) vwCl (wM cI cJ aM hM u33) _ := hP
              have hDc : va_D A (wM cI cJ aM hM u33) := hD
              have hFc := va_free (wc := (wM cI cJ aM hM u33)) hD hS hA [0, 1, 2, 3, 4, 5, 6, 7, 8, 9, 10, 11, 12, 13, 14] rfl
              obtain ⟨u50o, r51o, e52, hm⟩ := oC2_of hm
              refine va_calli (va_runV (As := []) (rest := [.int ((2 : Int32) * x32)]) ⟨hx, hb, hml, hown, ht⟩ (c_X7_nextBit l dC dI cI cJ aM hM H.size u33 (u50o, r51o) e52) (cwV 0 ht (gdV kw_109 kw_107 kw_108 kw_7 kw_106) rfl rfl rfl ⟨rfl, nd_X7_nextBit⟩ ⟨Nat.le_of_ble_eq_true rfl, Nat.le_of_ble_eq_true rfl⟩) ⟨pcW_blind, va_recv hK hPc (ci := 8) (q0 := 0) rfl rfl, pcW_pre hPc hK hDc hN⟩ rfl rfl hl.1 rfl (lv_room (Nat.le_of_ble_eq_true rfl)) dX7_readTable_39 ⟨Nat.zero_le _, Nat.zero_le _⟩) hS (fun q _ z => hFc q z) hFc (fun r51 uu t H1 locs ht1 hvm hw hB hz1 hk1 hS => ?_)
              obtain ⟨u50, rfl⟩ : ∃ z, z = uu := ⟨_, rfl⟩
              obtain ⟨hP1, hD1⟩ := hB
              rw [ht1] at hP1
              obtain ⟨q0, q1⟩ := inj2 hw
              subst q0
              subst q1
              have hP : va_P (dC, dI) vwCl (wM cI cJ aM hM u50) H1 := hP1
              have hD : va_D A (wM cI cJ aM hM u50) := hD1.weaken (fun _ q _ z => hFc q.1 z)
              generalize H1 = H at hP hS ⊢
              refine lv_iadd hx hb dX7_readTable_42 ?_
              refine lv_topi (fun x53 ex53 => ?_)
              have hm := bnd_nm ex53 hm
              refine lv_istore_n (lv' := [(3, .int x53), (0, .ref aM), (1, .int x5), (2, .int x4), (4, .int x31)]) hx hb dX7_readTable_43 rfl hl (by decide) rfl (fun ls hl => ?_)
              obtain ⟨x54, ex54, hm⟩ := bnd_ex hm
              refine lv_iinc (v := x54) (lv' := [(4, .int x54), (3, .int x53), (0, .ref aM), (1, .int x5), (2, .int x4)]) hx hb dX7_readTable_44 hl (k := 4) rfl (by rw [ex54]; exact congrArg _ (by decide)) (by decide) rfl (fun ls hl => ?_)
              refine lv_goto (tgt := 30) hx hb dX7_readTable_47 (by decide) ?_
              exact ih30 x54 x53 u50 _ _ _ hm hP hD hS (lv_sub hl [2, 3, 4, 1, 0] rfl)
        exact LP30 FU r29 (0 : Int32) u6 _ _ _ hm hP hD hS (lv_sub hl [2, 3, 4, 1, 0] rfl)
  exact LP16 FU (0 : Int32) x2 u3 _ _ _ hm hP hD hS (lv_sub hl [2, 1, 0] rfl)
end
section
def f_X7_isInSpan (uM : OS) (p1 : Int64) : Option (Int32) :=
  if (uM.1 30) = (1 : Int32) then (
  if p1 < (2147483648 : Int64) then (
  some (0 : Int32)) else (
  some (1 : Int32))) else (
  if (uM.1 30) = (2 : Int32) then (
  gdi (1 : Int32) 2 <|
  if p1 < ((1 : Int64) <<< (((uM.2.1 10 ((1 : Int32)).toNatClampNeg)).toInt64 &&& (63 : Int64))) then (
  some (0 : Int32)) else (
  gdi (1 : Int32) 2 <|
  if ((2 : Int64) <<< (((uM.2.1 10 ((1 : Int32)).toNatClampNeg)).toInt64 &&& (63 : Int64))) ≤ p1 then (
  some (0 : Int32)) else (
  some (1 : Int32)))) else (
  if p1 < (8388608 : Int64) then (
  some (0 : Int32)) else (
  if (2147483648 : Int64) ≤ p1 then (
  some (0 : Int32)) else (
  some (1 : Int32)))))

set_option maxHeartbeats 4000000 in
set_option maxRecDepth 100000 in
theorem c_X7_isInSpan (l : Launch) (dC : Nat → ClassId) (dI : Nat → Nat → Nat) (cI cJ : ClassId) (aM : Nat) (hM : Nat → Nat) (sz : Nat) (uM : OS) (p1 : Int64) (o : Int32) (hm : f_X7_isInSpan uM p1 = some o) : Met l yX7_isInSpan (wq yX7_isInSpan cX7_isInSpan 3 (some .boolean)) ({ frames := 0, cells := 0, slots := 0, locals := 0 } : Room) (va_Pc [.ref aM, .long p1] (pcW dC dI cI cJ sz (wM cI cJ aM hM uM))) (va_Qi (S := Unit) (fun r u => some r = some o) (fun (u : Unit) t => va_P (dC, dI) vwCl (wM cI cJ aM hM uM) t.heap ∧ va_D (va_A (wM cI cJ aM hM uM) sz) (wM cI cJ aM hM uM)) (va_A (wM cI cJ aM hM uM) sz)) 0 0 (va_A (wM cI cJ aM hM uM) sz) := by
  refine Met.ofW (cc := cX7_isInSpan) (maxL := 3) (ret := (some .boolean)) (by decide) rfl ?_
  intro p e s m args below meth c s₁ B hml hv
  obtain ⟨rfl, hsz, hP, hK, hD0, hN⟩ := hv
  have hx := B.exec
  have hb := B.bytes
  have hr := B.returns
  have ht : ∀ w ∈ lw_good, w.before _ s = true := fun w h => atoms_spec (ws := wq yX7_isInSpan cX7_isInSpan 3 (some .boolean)) B.pre w (wq_mem h)
  have hown : s.vm.findClass RX7 = some m.cls := findClass_of_methodNamed B.named
  have hlocks := B.notSynchronized
  subst hsz
  have hD := hD0.self (sz := s.heap.size)
  generalize hAe : va_A (wM cI cJ aM hM uM) s.heap.size = A at hD ⊢
  have hA : ∀ q : Nat, s.heap.size ≤ q → A q := fun q h => by rw [← hAe]; exact Or.inr h
  have hS : va_S A s.heap s.heap [] := va_S.rf
  have hl := lv_entry ([.ref aM, .long p1]) (n := 3) (Nat.le_of_ble_eq_true rfl)
  rw [lg_entry_eq]
  generalize (lg_sl ([.ref aM, .long p1]) ++ List.replicate (3 - (lg_sl ([.ref aM, .long p1])).length) Slot.unset).toArray = ls at hl ⊢
  have hl : lv_has ls 3 [(0, .ref aM), (1, .long p1)] := hl
  generalize hQ : MQ below _ _ s _ _ _ = Q
  generalize hH : s.heap = H at hP ⊢
  have hS : va_S A s.heap H [] := by rw [← hH]; exact va_S.rf
  show W p l e ({ frames := 0, cells := 0, slots := 0, locals := 0 } : Room) s m ([.ref aM, .long p1] : List Value).toArray below meth c H [] 0 0 Q (F0 m 0 ls [])
  unfold f_X7_isInSpan at hm
  refine lv_aload_n hx hb dX7_isInSpan_0 rfl (lv_at hl 0 rfl) ?_
  refine va_get (D := (dC, dI)) (ci := 8) (v := .int (uM.1 30)) (C := RX7) (T := TX7) (N := 34) hx hb ht inX7 hown hK hP 0 rfl rfl 30 (by decide) (ht _ kw_110) (fun _ h9 => h9) rfl dX7_isInSpan_1 ?_
  refine lv_iconst (v := (1 : Int32)) hx hb dX7_isInSpan_4 (by decide) ?_
  refine lv_icmp_ne (tgt := 24) hx hb dX7_isInSpan_5 (by decide) (fun c1 => ?_) (fun c1 => ?_)
  · have hm := ite_f c1 hm
    refine lv_aload_n hx hb dX7_isInSpan_24 rfl (lv_at hl 0 rfl) ?_
    refine va_get (D := (dC, dI)) (ci := 8) (v := .int (uM.1 30)) (C := RX7) (T := TX7) (N := 34) hx hb ht inX7 hown hK hP 0 rfl rfl 30 (by decide) (ht _ kw_110) (fun _ h9 => h9) rfl dX7_isInSpan_25 ?_
    refine lv_iconst (v := (2 : Int32)) hx hb dX7_isInSpan_28 (by decide) ?_
    refine lv_icmp_ne (tgt := 68) hx hb dX7_isInSpan_29 (by decide) (fun c2 => ?_) (fun c2 => ?_)
    · have hm := ite_f c2 hm
      refine lv_lload_n hx hb dX7_isInSpan_68 rfl (lv_at hl 1 rfl) ?_
      refine lv_ldc2 (v := (8388608 : Int64)) hx hb hown (ht _ kw_30) dX7_isInSpan_69 ?_
      refine W.lcmp hx hb dX7_isInSpan_72 ?_
      refine lv_if_lt (tgt := 88) hx hb dX7_isInSpan_73 (by decide) (fun c3 => ?_) (fun c3 => ?_)
      · have c3 := lgc_lt.mp c3
        have hm := ite_t c3 hm
        refine lv_iconst (v := (0 : Int32)) hx hb dX7_isInSpan_88 (by decide) ?_
        rw [← hQ]
        exact W.zret (v := (0 : Int32)) hx hb hr rfl (fun t ht1 hW => ⟨⟨_, (), rfl, hm, by rw [ht1]; exact hP, hD⟩, hS.F ht1⟩) hS.2.2 dX7_isInSpan_89
      · have c3 := mt lgc_lt.mpr c3
        have hm := ite_f c3 hm
        refine lv_lload_n hx hb dX7_isInSpan_76 rfl (lv_at hl 1 rfl) ?_
        refine lv_ldc2 (v := (2147483648 : Int64)) hx hb hown (ht _ kw_11) dX7_isInSpan_77 ?_
        refine W.lcmp hx hb dX7_isInSpan_80 ?_
        refine lv_if_ge (tgt := 88) hx hb dX7_isInSpan_81 (by decide) (fun c4 => ?_) (fun c4 => ?_)
        · have c4 := lgc_ge.mp c4
          have hm := ite_t c4 hm
          refine lv_iconst (v := (0 : Int32)) hx hb dX7_isInSpan_88 (by decide) ?_
          rw [← hQ]
          exact W.zret (v := (0 : Int32)) hx hb hr rfl (fun t ht1 hW => ⟨⟨_, (), rfl, hm, by rw [ht1]; exact hP, hD⟩, hS.F ht1⟩) hS.2.2 dX7_isInSpan_89
        · have c4 := mt lgc_ge.mpr c4
          have hm := ite_f c4 hm
          refine lv_iconst (v := (1 : Int32)) hx hb dX7_isInSpan_84 (by decide) ?_
          refine lv_goto (tgt := 89) hx hb dX7_isInSpan_85 (by decide) ?_
          rw [← hQ]
          exact W.zret (v := (1 : Int32)) hx hb hr rfl (fun t ht1 hW => ⟨⟨_, (), rfl, hm, by rw [ht1]; exact hP, hD⟩, hS.F ht1⟩) hS.2.2 dX7_isInSpan_89
    · have hm := ite_t c2 hm
      refine lv_lload_n hx hb dX7_isInSpan_32 rfl (lv_at hl 1 rfl) ?_
      refine lv_lconst (v := (1 : Int64)) hx hb dX7_isInSpan_33 (by decide) ?_
      refine lv_aload_n hx hb dX7_isInSpan_34 rfl (lv_at hl 0 rfl) ?_
      refine va_get (D := (dC, dI)) (ci := 8) (v := .ref (hM 10)) (C := RX7) (T := TX7) (N := 34) hx hb ht inX7 hown hK hP 0 rfl rfl 10 (by decide) (ht _ kw_19) (fun _ h9 => h9) rfl dX7_isInSpan_35 ?_
      refine lv_iconst (v := (1 : Int32)) hx hb dX7_isInSpan_38 (by decide) ?_
      obtain ⟨g5, hm⟩ := gdi_of hm
      refine va_iald hx hb hK hP 5 0 rfl rfl g5 dX7_isInSpan_39 ?_
      refine lv_lshl hx hb dX7_isInSpan_40 rfl ?_
      refine W.lcmp hx hb dX7_isInSpan_41 ?_
      refine lv_if_lt (tgt := 64) hx hb dX7_isInSpan_42 (by decide) (fun c6 => ?_) (fun c6 => ?_)
      · have c6 := lgc_lt.mp c6
        have hm := ite_t c6 hm
        refine lv_iconst (v := (0 : Int32)) hx hb dX7_isInSpan_64 (by decide) ?_
        refine lv_goto (tgt := 89) hx hb dX7_isInSpan_65 (by decide) ?_
        rw [← hQ]
        exact W.zret (v := (0 : Int32)) hx hb hr rfl (fun t ht1 hW => ⟨⟨_, (), rfl, hm, by rw [ht1]; exact hP, hD⟩, hS.F ht1⟩) hS.2.2 dX7_isInSpan_89
      · have c6 := mt lgc_lt.mpr c6
        have hm := ite_f c6 hm
        refine lv_lload_n hx hb dX7_isInSpan_45 rfl (lv_at hl 1 rfl) ?_
        refine lv_ldc2 (v := (2 : Int64)) hx hb hown (ht _ kw_12) dX7_isInSpan_46 ?_
        refine lv_aload_n hx hb dX7_isInSpan_49 rfl (lv_at hl 0 rfl) ?_
        refine va_get (D := (dC, dI)) (ci := 8) (v := .ref (hM 10)) (C := RX7) (T := TX7) (N := 34) hx hb ht inX7 hown hK hP 0 rfl rfl 10 (by decide) (ht _ kw_19) (fun _ h9 => h9) rfl dX7_isInSpan_50 ?_
        refine lv_iconst (v := (1 : Int32)) hx hb dX7_isInSpan_53 (by decide) ?_
        obtain ⟨g7, hm⟩ := gdi_of hm
        refine va_iald hx hb hK hP 5 0 rfl rfl g7 dX7_isInSpan_54 ?_
        refine lv_lshl hx hb dX7_isInSpan_55 rfl ?_
        refine W.lcmp hx hb dX7_isInSpan_56 ?_
        refine lv_if_ge (tgt := 64) hx hb dX7_isInSpan_57 (by decide) (fun c8 => ?_) (fun c8 => ?_)
        · have c8 := lgc_ge.mp c8
          have hm := ite_t c8 hm
          refine lv_iconst (v := (0 : Int32)) hx hb dX7_isInSpan_64 (by decide) ?_
          refine lv_goto (tgt := 89) hx hb dX7_isInSpan_65 (by decide) ?_
          rw [← hQ]
          exact W.zret (v := (0 : Int32)) hx hb hr rfl (fun t ht1 hW => ⟨⟨_, (), rfl, hm, by rw [ht1]; exact hP, hD⟩, hS.F ht1⟩) hS.2.2 dX7_isInSpan_89
        · have c8 := mt lgc_ge.mpr c8
          have hm := ite_f c8 hm
          refine lv_iconst (v := (1 : Int32)) hx hb dX7_isInSpan_60 (by decide) ?_
          refine lv_goto (tgt := 89) hx hb dX7_isInSpan_61 (by decide) ?_
          rw [← hQ]
          exact W.zret (v := (1 : Int32)) hx hb hr rfl (fun t ht1 hW => ⟨⟨_, (), rfl, hm, by rw [ht1]; exact hP, hD⟩, hS.F ht1⟩) hS.2.2 dX7_isInSpan_89
  · have hm := ite_t c1 hm
    refine lv_lload_n hx hb dX7_isInSpan_8 rfl (lv_at hl 1 rfl) ?_
    refine lv_ldc2 (v := (2147483648 : Int64)) hx hb hown (ht _ kw_11) dX7_isInSpan_9 ?_
    refine W.lcmp hx hb dX7_isInSpan_12 ?_
    refine lv_if_lt (tgt := 20) hx hb dX7_isInSpan_13 (by decide) (fun c9 => ?_) (fun c9 => ?_)
    · have c9 := lgc_lt.mp c9
      have hm := ite_t c9 hm
      refine lv_iconst (v := (0 : Int32)) hx hb dX7_isInSpan_20 (by decide) ?_
      refine lv_goto (tgt := 89) hx hb dX7_isInSpan_21 (by decide) ?_
      rw [← hQ]
      exact W.zret (v := (0 : Int32)) hx hb hr rfl (fun t ht1 hW => ⟨⟨_, (), rfl, hm, by rw [ht1]; exact hP, hD⟩, hS.F ht1⟩) hS.2.2 dX7_isInSpan_89
    · have c9 := mt lgc_lt.mpr c9
      have hm := ite_f c9 hm
      refine lv_iconst (v := (1 : Int32)) hx hb dX7_isInSpan_16 (by decide) ?_
      refine lv_goto (tgt := 89) hx hb dX7_isInSpan_17 (by decide) ?_
      rw [← hQ]
      exact W.zret (v := (1 : Int32)) hx hb hr rfl (fun t ht1 hW => ⟨⟨_, (), rfl, hm, by rw [ht1]; exact hP, hD⟩, hS.F ht1⟩) hS.2.2 dX7_isInSpan_89

def f_X7_signOf_L2 (uM : OS) (p1 : Int32) : Nat → (Int32 → Option (Int32)) → Int32 → Option (Int32)
  | 0, _, _ => none
  | n2 + 1, K31_3, x1 =>
    gdi ((32 : Int32) + x1) 64 <|
    gdi ((32 : Int32) + x1) 64 <|
    if p1 < ((uM.2.1 9 (((32 : Int32) + x1)).toNatClampNeg) + (uM.2.1 8 (((32 : Int32) + x1)).toNatClampNeg)) then (
    K31_3 x1) else (
    bnd (x1 + (1 : Int32)) fun x7 =>
    f_X7_signOf_L2 uM p1 n2 K31_3 x7)

def f_X7_signOf (uM : OS) (p1 : Int32) : Option (Int32) :=
  bnd (fun (x2 : Int32) =>
  some x2) fun K31_3 =>
  f_X7_signOf_L2 uM p1 FU K31_3 (0 : Int32)

set_option maxHeartbeats 4000000 in
set_option maxRecDepth 100000 in
theorem c_X7_signOf (l : Launch) (dC : Nat → ClassId) (dI : Nat → Nat → Nat) (cI cJ : ClassId) (aM : Nat) (hM : Nat → Nat) (sz : Nat) (uM : OS) (p1 : Int32) (o : Int32) (hm : f_X7_signOf uM p1 = some o) : Met l yX7_signOf (wq yX7_signOf cX7_signOf 3 (some .int)) ({ frames := 0, cells := 0, slots := 0, locals := 0 } : Room) (va_Pc [.ref aM, .int p1] (pcW dC dI cI cJ sz (wM cI cJ aM hM uM))) (va_Qi (S := Unit) (fun r u => some r = some o) (fun (u : Unit) t => va_P (dC, dI) vwCl (wM cI cJ aM hM uM) t.heap ∧ va_D (va_A (wM cI cJ aM hM uM) sz) (wM cI cJ aM hM uM)) (va_A (wM cI cJ aM hM uM) sz)) 0 0 (va_A (wM cI cJ aM hM uM) sz) := by
  refine Met.ofW (cc := cX7_signOf) (maxL := 3) (ret := (some .int)) (by decide) rfl ?_
  intro p e s m args below meth c s₁ B hml hv
  obtain ⟨rfl, hsz, hP, hK, hD0, hN⟩ := hv
  have hx := B.exec
  have hb := B.bytes
  have hr := B.returns
  have ht : ∀ w ∈ lw_good, w.before _ s = true := fun w h => atoms_spec (ws := wq yX7_signOf cX7_signOf 3 (some .int)) B.pre w (wq_mem h)
  have hown : s.vm.findClass RX7 = some m.cls := findClass_of_methodNamed B.named
  have hlocks := B.notSynchronized
  subst hsz
  have hD := hD0.self (sz := s.heap.size)
  generalize hAe : va_A (wM cI cJ aM hM uM) s.heap.size = A at hD ⊢
  have hA : ∀ q : Nat, s.heap.size ≤ q → A q := fun q h => by rw [← hAe]; exact Or.inr h
  have hS : va_S A s.heap s.heap [] := va_S.rf
  have hl := lv_entry ([.ref aM, .int p1]) (n := 3) (Nat.le_of_ble_eq_true rfl)
  rw [lg_entry_eq]
  generalize (lg_sl ([.ref aM, .int p1]) ++ List.replicate (3 - (lg_sl ([.ref aM, .int p1])).length) Slot.unset).toArray = ls at hl ⊢
  have hl : lv_has ls 3 [(0, .ref aM), (1, .int p1)] := hl
  generalize hQ : MQ below _ _ s _ _ _ = Q
  generalize hH : s.heap = H at hP ⊢
  have hS : va_S A s.heap H [] := by rw [← hH]; exact va_S.rf
  show W p l e ({ frames := 0, cells := 0, slots := 0, locals := 0 } : Room) s m ([.ref aM, .int p1] : List Value).toArray below meth c H [] 0 0 Q (F0 m 0 ls [])
  unfold f_X7_signOf at hm
  refine lv_iconst (v := (0 : Int32)) hx hb dX7_signOf_0 (by decide) ?_
  refine lv_istore_n (lv' := [(2, .int (0 : Int32)), (0, .ref aM), (1, .int p1)]) hx hb dX7_signOf_1 rfl hl (by decide) rfl (fun ls hl => ?_)
  obtain ⟨K31_3, eK31_3, hm⟩ := bnd_ex hm
  have X31_3 : ∀ (x2 : Int32) (H : Heap) (locs : List Loc) (ls : Array Slot), K31_3 x2 = some o → va_P (dC, dI) vwCl (wM cI cJ aM hM uM) H → va_D A (wM cI cJ aM hM uM) → va_S A s.heap H locs → lv_has ls 3 [(0, .ref aM), (1, .int p1), (2, .int x2)] → W p l e ({ frames := 0, cells := 0, slots := 0, locals := 0 } : Room) s m ([.ref aM, .int p1] : List Value).toArray below meth c H locs 0 0 Q (F0 m 31 ls []) := by
    intro x2 H locs ls hm hP hD hS hl
    have hm := ap1 eK31_3 hm
    refine lv_iload_n hx hb dX7_signOf_31 rfl (lv_at hl 2 rfl) ?_
    rw [← hQ]
    exact W.iret (v := x2) hx hb hr (fun t ht1 hW => ⟨⟨_, (), rfl, hm, by rw [ht1]; exact hP, hD⟩, hS.F ht1⟩) hS.2.2 dX7_signOf_32
  have LP2 : ∀ (n2 : Nat) (x1 : Int32) (H : Heap) (locs : List Loc) (ls : Array Slot), f_X7_signOf_L2 uM p1 n2 K31_3 x1 = some o → va_P (dC, dI) vwCl (wM cI cJ aM hM uM) H → va_D A (wM cI cJ aM hM uM) → va_S A s.heap H locs → lv_has ls 3 [(0, .ref aM), (1, .int p1), (2, .int x1)] → W p l e ({ frames := 0, cells := 0, slots := 0, locals := 0 } : Room) s m ([.ref aM, .int p1] : List Value).toArray below meth c H locs 0 0 Q (F0 m 2 ls []) := by
    intro n2
    induction n2 with
    | zero => intro x1 H locs ls hm; exact nomatch (show (none : Option _) = some _ from hm)
    | succ n2 ih2 =>
      intro x1 H locs ls hm hP hD hS hl
      unfold f_X7_signOf_L2 at hm
      refine lv_iload_n hx hb dX7_signOf_2 rfl (lv_at hl 1 rfl) ?_
      refine lv_aload_n hx hb dX7_signOf_3 rfl (lv_at hl 0 rfl) ?_
      refine va_get (D := (dC, dI)) (ci := 8) (v := .ref (hM 9)) (C := RX7) (T := TX7) (N := 34) hx hb ht inX7 hown hK hP 0 rfl rfl 9 (by decide) (ht _ kw_20) (fun _ h9 => h9) rfl dX7_signOf_4 ?_
      refine lv_bipush (v := (32 : Int32)) hx hb dX7_signOf_7 (by decide) ?_
      refine lv_iload_n hx hb dX7_signOf_9 rfl (lv_at hl 2 rfl) ?_
      refine lv_iadd hx hb dX7_signOf_10 ?_
      obtain ⟨g4, hm⟩ := gdi_of hm
      refine va_iald hx hb hK hP 4 0 rfl rfl g4 dX7_signOf_11 ?_
      refine lv_aload_n hx hb dX7_signOf_12 rfl (lv_at hl 0 rfl) ?_
      refine va_get (D := (dC, dI)) (ci := 8) (v := .ref (hM 8)) (C := RX7) (T := TX7) (N := 34) hx hb ht inX7 hown hK hP 0 rfl rfl 8 (by decide) (ht _ kw_18) (fun _ h9 => h9) rfl dX7_signOf_13 ?_
      refine lv_bipush (v := (32 : Int32)) hx hb dX7_signOf_16 (by decide) ?_
      refine lv_iload_n hx hb dX7_signOf_18 rfl (lv_at hl 2 rfl) ?_
      refine lv_iadd hx hb dX7_signOf_19 ?_
      obtain ⟨g5, hm⟩ := gdi_of hm
      refine va_iald hx hb hK hP 3 0 rfl rfl g5 dX7_signOf_20 ?_
      refine lv_iadd hx hb dX7_signOf_21 ?_
      refine lv_icmp_lt (tgt := 31) hx hb dX7_signOf_22 (by decide) (fun c6 => ?_) (fun c6 => ?_)
      · have hm := ite_t c6 hm
        exact X31_3 x1 _ _ _ hm hP hD hS (lv_sub hl [0, 1, 2] rfl)
      · have hm := ite_f c6 hm
        obtain ⟨x7, ex7, hm⟩ := bnd_ex hm
        refine lv_iinc (v := x7) (lv' := [(2, .int x7), (0, .ref aM), (1, .int p1)]) hx hb dX7_signOf_25 hl (k := 2) rfl (by rw [ex7]; exact congrArg _ (by decide)) (by decide) rfl (fun ls hl => ?_)
        refine lv_goto (tgt := 2) hx hb dX7_signOf_28 (by decide) ?_
        exact ih2 x7 _ _ _ hm hP hD hS (lv_sub hl [1, 2, 0] rfl)
  exact LP2 FU (0 : Int32) _ _ _ hm hP hD hS (lv_sub hl [1, 2, 0] rfl)

def f_X7_readBytes_L39 : Nat → (Int64 → OS → Option (OS)) → Int64 → OS → Option (OS)
  | 0, _, _, _ => none
  | n39 + 1, K71_10, y6, u7 =>
    if (8388608 : Int64) ≤ y6 then (
    K71_10 y6 u7) else (
    if (u7.1 27) = (0 : Int32) then (
    oC2 (f_X7_next u7) fun u16 r17 =>
    bnd ((y6 <<< (((8 : Int32)).toInt64 &&& (63 : Int64))) ||| (r17).toInt64) fun y19 =>
    f_X7_readBytes_L39 n39 K71_10 y19 u16) else (
    K71_10 y6 u7))

def f_X7_readBytes (uM : OS) (p1 : Int32) (p2 : Int32) (p3 : Int32) : Option (OS) :=
  gdi p1 4 <|
  bnd (uM.2.2.1 33 (p1).toNatClampNeg) fun y2 =>
  gdi (1 : Int32) 2 <|
  bnd (uM.2.1 10 ((1 : Int32)).toNatClampNeg) fun x4 =>
  bnd ((((p2).toInt64 * (y2 >>> ((x4).toInt64 &&& (63 : Int64)))) + (y2 &&& (((1 : Int64) <<< ((x4).toInt64 &&& (63 : Int64))) - (1 : Int64)))) - (p3).toInt64) fun y5 =>
  bnd (fun (y8 : Int64) (u9 : OS) =>
  if (u9.1 27) = (0 : Int32) then (
  gdi p1 4 <|
  bnd (sL u9 33 p1 y8) fun u13 =>
  some u13) else (
  some u9)) fun K71_10 =>
  f_X7_readBytes_L39 FU K71_10 y5 uM

set_option maxHeartbeats 4000000 in
set_option maxRecDepth 100000 in
theorem c_X7_readBytes (l : Launch) (dC : Nat → ClassId) (dI : Nat → Nat → Nat) (cI cJ : ClassId) (aM : Nat) (hM : Nat → Nat) (sz : Nat) (uM : OS) (p1 : Int32) (p2 : Int32) (p3 : Int32) (o : OS) (hm : f_X7_readBytes uM p1 p2 p3 = some o) : Met l yX7_readBytes (wq yX7_readBytes cX7_readBytes 7 none) ({ frames := 2, cells := 0, slots := 0, locals := 41 } : Room) (va_Pc [.ref aM, .int p1, .int p2, .int p3] (pcW dC dI cI cJ sz (wM cI cJ aM hM uM))) (va_Qv (S := OS) (fun u => some u = some o) (fun (u : OS) t => va_P (dC, dI) vwCl (wM cI cJ aM hM u) t.heap ∧ va_D (va_A (wM cI cJ aM hM uM) sz) (wM cI cJ aM hM u)) (va_A (wM cI cJ aM hM uM) sz)) 0 0 (va_A (wM cI cJ aM hM uM) sz) := by
  refine Met.ofW (cc := cX7_readBytes) (maxL := 7) (ret := none) (by decide) rfl ?_
  intro p e s m args below meth c s₁ B hml hv
  obtain ⟨rfl, hsz, hP, hK, hD0, hN⟩ := hv
  have hx := B.exec
  have hb := B.bytes
  have hr := B.returns
  have ht : ∀ w ∈ lw_good, w.before _ s = true := fun w h => atoms_spec (ws := wq yX7_readBytes cX7_readBytes 7 none) B.pre w (wq_mem h)
  have hown : s.vm.findClass RX7 = some m.cls := findClass_of_methodNamed B.named
  have hlocks := B.notSynchronized
  subst hsz
  have hD := hD0.self (sz := s.heap.size)
  generalize hAe : va_A (wM cI cJ aM hM uM) s.heap.size = A at hD ⊢
  have hA : ∀ q : Nat, s.heap.size ≤ q → A q := fun q h => by rw [← hAe]; exact Or.inr h
  have hS : va_S A s.heap s.heap [] := va_S.rf
  have hl := lv_entry ([.ref aM, .int p1, .int p2, .int p3]) (n := 7) (Nat.le_of_ble_eq_true rfl)
  rw [lg_entry_eq]
  generalize (lg_sl ([.ref aM, .int p1, .int p2, .int p3]) ++ List.replicate (7 - (lg_sl ([.ref aM, .int p1, .int p2, .int p3])).length) Slot.unset).toArray = ls at hl ⊢
  have hl : lv_has ls 7 [(0, .ref aM), (1, .int p1), (2, .int p2), (3, .int p3)] := hl
  generalize hQ : MQ below _ _ s _ _ _ = Q
  generalize hH : s.heap = H at hP ⊢
  have hS : va_S A s.heap H [] := by rw [← hH]; exact va_S.rf
  show W p l e ({ frames := 2, cells := 0, slots := 0, locals := 41 } : Room) s m ([.ref aM, .int p1, .int p2, .int p3] : List Value).toArray below meth c H [] 0 0 Q (F0 m 0 ls [])
  unfold f_X7_readBytes at hm
  refine lv_aload_n hx hb dX7_readBytes_0 rfl (lv_at hl 0 rfl) ?_
  refine va_get (D := (dC, dI)) (ci := 8) (v := .ref (hM 33)) (C := RX7) (T := TX7) (N := 34) hx hb ht inX7 hown hK hP 0 rfl rfl 33 (by decide) (ht _ kw_111) (fun _ h9 => h9) rfl dX7_readBytes_1 ?_
  refine lv_iload_n hx hb dX7_readBytes_4 rfl (lv_at hl 1 rfl) ?_
  obtain ⟨g1, hm⟩ := gdi_of hm
  refine va_lald hx hb hK hP 14 1 rfl rfl g1 dX7_readBytes_5 ?_
  refine lv_topl (fun y2 ey2 => ?_)
  have hm := bnd_nm ey2 hm
  refine lv_lstore (lv' := [(4, .long y2), (0, .ref aM), (1, .int p1), (2, .int p2), (3, .int p3)]) hx hb dX7_readBytes_6 hl (by decide) rfl (fun ls hl => ?_)
  refine lv_aload_n hx hb dX7_readBytes_8 rfl (lv_at hl 1 rfl) ?_
  refine va_get (D := (dC, dI)) (ci := 8) (v := .ref (hM 10)) (C := RX7) (T := TX7) (N := 34) hx hb ht inX7 hown hK hP 0 rfl rfl 10 (by decide) (ht _ kw_19) (fun _ h9 => h9) rfl dX7_readBytes_9 ?_
  refine lv_iconst (v := (1 : Int32)) hx hb dX7_readBytes_12 (by decide) ?_
  obtain ⟨g3, hm⟩ := gdi_of hm
  refine va_iald hx hb hK hP 5 0 rfl rfl g3 dX7_readBytes_13 ?_
  refine lv_topi (fun x4 ex4 => ?_)
  have hm := bnd_nm ex4 hm
  refine lv_istore (lv' := [(6, .int x4), (4, .long y2), (0, .ref aM), (1, .int p1), (2, .int p2), (3, .int p3)]) hx hb dX7_readBytes_14 hl (by decide) rfl (fun ls hl => ?_)
  refine lv_iload_n hx hb dX7_readBytes_16 rfl (lv_at hl 4 rfl) ?_
  refine lv_i2l hx hb dX7_readBytes_17 rfl ?_
  refine lv_lload hx hb dX7_readBytes_18 (lv_at hl 1 rfl) ?_
  refine lv_iload hx hb dX7_readBytes_20 (lv_at hl 0 rfl) ?_
  refine lv_lshr hx hb dX7_readBytes_22 rfl ?_
  refine lv_lmul hx hb dX7_readBytes_23 ?_
  refine lv_lload hx hb dX7_readBytes_24 (lv_at hl 1 rfl) ?_
  refine lv_lconst (v := (1 : Int64)) hx hb dX7_readBytes_26 (by decide) ?_
  refine lv_iload hx hb dX7_readBytes_27 (lv_at hl 0 rfl) ?_
  refine lv_lshl hx hb dX7_readBytes_29 rfl ?_
  refine lv_lconst (v := (1 : Int64)) hx hb dX7_readBytes_30 (by decide) ?_
  refine lv_lsub hx hb dX7_readBytes_31 ?_
  refine lv_land hx hb dX7_readBytes_32 ?_
  refine lv_ladd hx hb dX7_readBytes_33 ?_
  refine lv_iload_n hx hb dX7_readBytes_34 rfl (lv_at hl 5 rfl) ?_
  refine lv_i2l hx hb dX7_readBytes_35 rfl ?_
  refine lv_lsub hx hb dX7_readBytes_36 ?_
  refine lv_topl (fun y5 ey5 => ?_)
  have hm := bnd_nm ey5 hm
  refine lv_lstore (lv' := [(4, .long y5), (6, .int x4), (0, .ref aM), (1, .int p1), (2, .int p2), (3, .int p3)]) hx hb dX7_readBytes_37 hl (by decide) rfl (fun ls hl => ?_)
  obtain ⟨K71_10, eK71_10, hm⟩ := bnd_ex hm
  have X71_10 : ∀ (y8 : Int64) (u9 : OS) (H : Heap) (locs : List Loc) (ls : Array Slot), K71_10 y8 u9 = some o → va_P (dC, dI) vwCl (wM cI cJ aM hM u9) H → va_D A (wM cI cJ aM hM u9) → va_S A s.heap H locs → lv_has ls 7 [(0, .ref aM), (1, .int p1), (2, .int p2), (3, .int p3), (4, .long y8), (6, .int x4)] → W p l e ({ frames := 2, cells := 0, slots := 0, locals := 41 } : Room) s m ([.ref aM, .int p1, .int p2, .int p3] : List Value).toArray below meth c H locs 0 0 Q (F0 m 71 ls []) := by
    intro y8 u9 H locs ls hm hP hD hS hl
    have hm := ap2 eK71_10 hm
    refine lv_aload_n hx hb dX7_readBytes_71 rfl (lv_at hl 0 rfl) ?_
    refine va_get (D := (dC, dI)) (ci := 8) (v := .int (u9.1 27)) (C := RX7) (T := TX7) (N := 34) hx hb ht inX7 hown hK hP 0 rfl rfl 27 (by decide) (ht _ kw_95) (fun _ h9 => h9) rfl dX7_readBytes_72 ?_
    refine lv_if_ne (tgt := 86) hx hb dX7_readBytes_75 (by decide) (fun c11 => ?_) (fun c11 => ?_)
    · have hm := ite_f c11 hm
      rw [← hQ]
      exact W.vret hx hb hr (fun t ht1 hW => ⟨⟨u9, rfl, hm, by rw [ht1]; exact hP, hD⟩, hS.F ht1⟩) hS.2.2 dX7_readBytes_86
    · have hm := ite_t c11 hm
      refine lv_aload_n hx hb dX7_readBytes_78 rfl (lv_at hl 0 rfl) ?_
      refine va_get (D := (dC, dI)) (ci := 8) (v := .ref (hM 33)) (C := RX7) (T := TX7) (N := 34) hx hb ht inX7 hown hK hP 0 rfl rfl 33 (by decide) (ht _ kw_111) (fun _ h9 => h9) rfl dX7_readBytes_79 ?_
      refine lv_iload_n hx hb dX7_readBytes_82 rfl (lv_at hl 1 rfl) ?_
      refine lv_lload hx hb dX7_readBytes_83 (lv_at hl 4 rfl) ?_
      obtain ⟨g12, hm⟩ := gdi_of hm
      refine va_last hx hb hK hP hD hS 14 1 rfl rfl g12 dX7_readBytes_85 (fun H locs hP hD hS => ?_)
      obtain ⟨u13, eu13, hm⟩ := bnd_ex hm
      have hP : va_P (dC, dI) vwCl (wM cI cJ aM hM u13) H := by rw [eu13]; exact hP
      have hD : va_D A (wM cI cJ aM hM u13) := by rw [eu13]; exact hD
      rw [← hQ]
      exact W.vret hx hb hr (fun t ht1 hW => ⟨⟨u13, rfl, hm, by rw [ht1]; exact hP, hD⟩, hS.F ht1⟩) hS.2.2 dX7_readBytes_86
  have LP39 : ∀ (n39 : Nat) (y6 : Int64) (u7 : OS) (H : Heap) (locs : List Loc) (ls : Array Slot), f_X7_readBytes_L39 n39 K71_10 y6 u7 = some o → va_P (dC, dI) vwCl (wM cI cJ aM hM u7) H → va_D A (wM cI cJ aM hM u7) → va_S A s.heap H locs → lv_has ls 7 [(0, .ref aM), (1, .int p1), (2, .int p2), (3, .int p3), (4, .long y6), (6, .int x4)] → W p l e ({ frames := 2, cells := 0, slots := 0, locals := 41 } : Room) s m ([.ref aM, .int p1, .int p2, .int p3] : List Value).toArray below meth c H locs 0 0 Q (F0 m 39 ls []) := by
    intro n39
    induction n39 with
    | zero => intro y6 u7 H locs ls hm; exact nomatch (show (none : Option _) = some _ from hm)
    | succ n39 ih39 =>
      intro y6 u7 H locs ls hm hP hD hS hl
      unfold f_X7_readBytes_L39 at hm
      refine lv_lload hx hb dX7_readBytes_39 (lv_at hl 4 rfl) ?_
      refine lv_ldc2 (v := (8388608 : Int64)) hx hb hown (ht _ kw_30) dX7_readBytes_41 ?_
      refine W.lcmp hx hb dX7_readBytes_44 ?_
      refine lv_if_ge (tgt := 71) hx hb dX7_readBytes_45 (by decide) (fun c14 => ?_) (fun c14 => ?_)
      · have c14 := lgc_ge.mp c14
        have hm := ite_t c14 hm
        exact X71_10 y6 u7 _ _ _ hm hP hD hS (lv_sub hl [0, 1, 2, 3, 4, 5] rfl)
      · have c14 := mt lgc_ge.mpr c14
        have hm := ite_f c14 hm
        refine lv_aload_n hx hb dX7_readBytes_48 rfl (lv_at hl 0 rfl) ?_
        refine va_get (D := (dC, dI)) (ci := 8) (v := .int (u7.1 27)) (C := RX7) (T := TX7) (N := 34) hx hb ht inX7 hown hK hP 0 rfl rfl 27 (by decide) (ht _ kw_95) (fun _ h9 => h9) rfl dX7_readBytes_49 ?_
        refine lv_if_ne (tgt := 71) hx hb dX7_readBytes_52 (by decide) (fun c15 => ?_) (fun c15 => ?_)
        · have hm := ite_f c15 hm
          exact X71_10 y6 u7 _ _ _ hm hP hD hS (lv_sub hl [0, 1, 2, 3, 4, 5] rfl)
        · have hm := ite_t c15 hm
          refine lv_lload hx hb dX7_readBytes_55 (lv_at hl 4 rfl) ?_
          refine lv_bipush (v := (8 : Int32)) hx hb dX7_readBytes_57 (by decide) ?_
          refine lv_lshl hx hb dX7_readBytes_59 rfl ?_
          refine lv_aload_n hx hb dX7_readBytes_60 rfl (lv_at hl 0 rfl) ?_
          have hPc : va_P (dC, dI) vwCl (wM cI cJ aM hM u7) _ := hP
          have hDc : va_D A (wM cI cJ aM hM u7) := hD
          have hFc := va_free (wc := (wM cI cJ aM hM u7)) hD hS hA [0, 1, 2, 3, 4, 5, 6, 7, 8, 9, 10, 11, 12, 13, 14] rfl
          obtain ⟨u16o, r17o, e18, hm⟩ := oC2_of hm
          refine va_calli (va_runV (As := []) (rest := [.long (y6 <<< (((8 : Int32)).toInt64 &&& (63 : Int64)))]) ⟨hx, hb, hml, hown, ht⟩ (c_X7_next l dC dI cI cJ aM hM H.size u7 (u16o, r17o) e18) (cwV 0 ht (gdV kw_104 kw_102 kw_103 kw_7 kw_101) rfl rfl rfl ⟨rfl, nd_X7_next⟩ ⟨Nat.le_of_ble_eq_true rfl, Nat.le_of_ble_eq_true rfl⟩) ⟨pcW_blind, va_recv hK hPc (ci := 8) (q0 := 0) rfl rfl, pcW_pre hPc hK hDc hN⟩ rfl rfl hl.1 rfl (lv_room (Nat.le_of_ble_eq_true rfl)) dX7_readBytes_61 ⟨Nat.zero_le _, Nat.zero_le _⟩) hS (fun q _ z => hFc q z) hFc (fun r17 uu t H1 locs ht1 hvm hw hB hz1 hk1 hS => ?_)
          obtain ⟨u16, rfl⟩ : ∃ z, z = uu := ⟨_, rfl⟩
          obtain ⟨hP1, hD1⟩ := hB
          rw [ht1] at hP1
          obtain ⟨q0, q1⟩ := inj2 hw
          subst q0
          subst q1
          have hP : va_P (dC, dI) vwCl (wM cI cJ aM hM u16) H1 := hP1
          have hD : va_D A (wM cI cJ aM hM u16) := hD1.weaken (fun _ q _ z => hFc q.1 z)
          generalize H1 = H at hP hS ⊢
          refine lv_i2l hx hb dX7_readBytes_64 rfl ?_
          refine lv_lor hx hb dX7_readBytes_65 ?_
          refine lv_topl (fun y19 ey19 => ?_)
          have hm := bnd_nm ey19 hm
          refine lv_lstore (lv' := [(4, .long y19), (0, .ref aM), (1, .int p1), (2, .int p2), (3, .int p3), (6, .int x4)]) hx hb dX7_readBytes_66 hl (by decide) rfl (fun ls hl => ?_)
          refine lv_goto (tgt := 39) hx hb dX7_readBytes_68 (by decide) ?_
          exact ih39 y19 u16 _ _ _ hm hP hD hS (lv_sub hl [1, 2, 3, 4, 0, 5] rfl)
  exact LP39 FU y5 uM _ _ _ hm hP hD hS (lv_sub hl [2, 3, 4, 5, 0, 1] rfl)

def f_X7_readWords_L39 : Nat → (Int64 → OS → Option (OS)) → Int64 → OS → Option (OS)
  | 0, _, _, _ => none
  | n39 + 1, K71_10, y6, u7 =>
    if (2147483648 : Int64) ≤ y6 then (
    K71_10 y6 u7) else (
    if (u7.1 27) = (0 : Int32) then (
    oC2 (f_X7_nextWide u7 (4 : Int32)) fun u16 r17 =>
    bnd ((y6 <<< (((32 : Int32)).toInt64 &&& (63 : Int64))) ||| r17) fun y19 =>
    f_X7_readWords_L39 n39 K71_10 y19 u16) else (
    K71_10 y6 u7))

def f_X7_readWords (uM : OS) (p1 : Int32) (p2 : Int32) (p3 : Int32) : Option (OS) :=
  gdi p1 4 <|
  bnd (uM.2.2.1 33 (p1).toNatClampNeg) fun y2 =>
  gdi (1 : Int32) 2 <|
  bnd (uM.2.1 10 ((1 : Int32)).toNatClampNeg) fun x4 =>
  bnd ((((p2).toInt64 * (y2 >>> ((x4).toInt64 &&& (63 : Int64)))) + (y2 &&& (((1 : Int64) <<< ((x4).toInt64 &&& (63 : Int64))) - (1 : Int64)))) - (p3).toInt64) fun y5 =>
  bnd (fun (y8 : Int64) (u9 : OS) =>
  if (u9.1 27) = (0 : Int32) then (
  gdi p1 4 <|
  bnd (sL u9 33 p1 y8) fun u13 =>
  some u13) else (
  some u9)) fun K71_10 =>
  f_X7_readWords_L39 FU K71_10 y5 uM

set_option maxHeartbeats 4000000 in
set_option maxRecDepth 100000 in
theorem c_X7_readWords (l : Launch) (dC : Nat → ClassId) (dI : Nat → Nat → Nat) (cI cJ : ClassId) (aM : Nat) (hM : Nat → Nat) (sz : Nat) (uM : OS) (p1 : Int32) (p2 : Int32) (p3 : Int32) (o : OS) (hm : f_X7_readWords uM p1 p2 p3 = some o) : Met l yX7_readWords (wq yX7_readWords cX7_readWords 7 none) ({ frames := 3, cells := 0, slots := 0, locals := 65 } : Room) (va_Pc [.ref aM, .int p1, .int p2, .int p3] (pcW dC dI cI cJ sz (wM cI cJ aM hM uM))) (va_Qv (S := OS) (fun u => some u = some o) (fun (u : OS) t => va_P (dC, dI) vwCl (wM cI cJ aM hM u) t.heap ∧ va_D (va_A (wM cI cJ aM hM uM) sz) (wM cI cJ aM hM u)) (va_A (wM cI cJ aM hM uM) sz)) 0 0 (va_A (wM cI cJ aM hM uM) sz) := by
  refine Met.ofW (cc := cX7_readWords) (maxL := 7) (ret := none) (by decide) rfl ?_
  intro p e s m args below meth c s₁ B hml hv
  obtain ⟨rfl, hsz, hP, hK, hD0, hN⟩ := hv
  have hx := B.exec
  have hb := B.bytes
  have hr := B.returns
  have ht : ∀ w ∈ lw_good, w.before _ s = true := fun w h => atoms_spec (ws := wq yX7_readWords cX7_readWords 7 none) B.pre w (wq_mem h)
  have hown : s.vm.findClass RX7 = some m.cls := findClass_of_methodNamed B.named
  have hlocks := B.notSynchronized
  subst hsz
  have hD := hD0.self (sz := s.heap.size)
  generalize hAe : va_A (wM cI cJ aM hM uM) s.heap.size = A at hD ⊢
  have hA : ∀ q : Nat, s.heap.size ≤ q → A q := fun q h => by rw [← hAe]; exact Or.inr h
  have hS : va_S A s.heap s.heap [] := va_S.rf
  have hl := lv_entry ([.ref aM, .int p1, .int p2, .int p3]) (n := 7) (Nat.le_of_ble_eq_true rfl)
  rw [lg_entry_eq]
  generalize (lg_sl ([.ref aM, .int p1, .int p2, .int p3]) ++ List.replicate (7 - (lg_sl ([.ref aM, .int p1, .int p2, .int p3])).length) Slot.unset).toArray = ls at hl ⊢
  have hl : lv_has ls 7 [(0, .ref aM), (1, .int p1), (2, .int p2), (3, .int p3)] := hl
  generalize hQ : MQ below _ _ s _ _ _ = Q
  generalize hH : s.heap = H at hP ⊢
  have hS : va_S A s.heap H [] := by rw [← hH]; exact va_S.rf
  show W p l e ({ frames := 3, cells := 0, slots := 0, locals := 65 } : Room) s m ([.ref aM, .int p1, .int p2, .int p3] : List Value).toArray below meth c H [] 0 0 Q (F0 m 0 ls [])
  unfold f_X7_readWords at hm
  refine lv_aload_n hx hb dX7_readWords_0 rfl (lv_at hl 0 rfl) ?_
  refine va_get (D := (dC, dI)) (ci := 8) (v := .ref (hM 33)) (C := RX7) (T := TX7) (N := 34) hx hb ht inX7 hown hK hP 0 rfl rfl 33 (by decide) (ht _ kw_111) (fun _ h9 => h9) rfl dX7_readWords_1 ?_
  refine lv_iload_n hx hb dX7_readWords_4 rfl (lv_at hl 1 rfl) ?_
  obtain ⟨g1, hm⟩ := gdi_of hm
  refine va_lald hx hb hK hP 14 1 rfl rfl g1 dX7_readWords_5 ?_
  refine lv_topl (fun y2 ey2 => ?_)
  have hm := bnd_nm ey2 hm
  refine lv_lstore (lv' := [(4, .long y2), (0, .ref aM), (1, .int p1), (2, .int p2), (3, .int p3)]) hx hb dX7_readWords_6 hl (by decide) rfl (fun ls hl => ?_)
  refine lv_aload_n hx hb dX7_readWords_8 rfl (lv_at hl 1 rfl) ?_
  refine va_get (D := (dC, dI)) (ci := 8) (v := .ref (hM 10)) (C := RX7) (T := TX7) (N := 34) hx hb ht inX7 hown hK hP 0 rfl rfl 10 (by decide) (ht _ kw_19) (fun _ h9 => h9) rfl dX7_readWords_9 ?_
  refine lv_iconst (v := (1 : Int32)) hx hb dX7_readWords_12 (by decide) ?_
  obtain ⟨g3, hm⟩ := gdi_of hm
  refine va_iald hx hb hK hP 5 0 rfl rfl g3 dX7_readWords_13 ?_
  refine lv_topi (fun x4 ex4 => ?_)
  have hm := bnd_nm ex4 hm
  refine lv_istore (lv' := [(6, .int x4), (4, .long y2), (0, .ref aM), (1, .int p1), (2, .int p2), (3, .int p3)]) hx hb dX7_readWords_14 hl (by decide) rfl (fun ls hl => ?_)
  refine lv_iload_n hx hb dX7_readWords_16 rfl (lv_at hl 4 rfl) ?_
  refine lv_i2l hx hb dX7_readWords_17 rfl ?_
  refine lv_lload hx hb dX7_readWords_18 (lv_at hl 1 rfl) ?_
  refine lv_iload hx hb dX7_readWords_20 (lv_at hl 0 rfl) ?_
  refine lv_lshr hx hb dX7_readWords_22 rfl ?_
  refine lv_lmul hx hb dX7_readWords_23 ?_
  refine lv_lload hx hb dX7_readWords_24 (lv_at hl 1 rfl) ?_
  refine lv_lconst (v := (1 : Int64)) hx hb dX7_readWords_26 (by decide) ?_
  refine lv_iload hx hb dX7_readWords_27 (lv_at hl 0 rfl) ?_
  refine lv_lshl hx hb dX7_readWords_29 rfl ?_
  refine lv_lconst (v := (1 : Int64)) hx hb dX7_readWords_30 (by decide) ?_
  refine lv_lsub hx hb dX7_readWords_31 ?_
  refine lv_land hx hb dX7_readWords_32 ?_
  refine lv_ladd hx hb dX7_readWords_33 ?_
  refine lv_iload_n hx hb dX7_readWords_34 rfl (lv_at hl 5 rfl) ?_
  refine lv_i2l hx hb dX7_readWords_35 rfl ?_
  refine lv_lsub hx hb dX7_readWords_36 ?_
  refine lv_topl (fun y5 ey5 => ?_)
  have hm := bnd_nm ey5 hm
  refine lv_lstore (lv' := [(4, .long y5), (6, .int x4), (0, .ref aM), (1, .int p1), (2, .int p2), (3, .int p3)]) hx hb dX7_readWords_37 hl (by decide) rfl (fun ls hl => ?_)
  obtain ⟨K71_10, eK71_10, hm⟩ := bnd_ex hm
  have X71_10 : ∀ (y8 : Int64) (u9 : OS) (H : Heap) (locs : List Loc) (ls : Array Slot), K71_10 y8 u9 = some o → va_P (dC, dI) vwCl (wM cI cJ aM hM u9) H → va_D A (wM cI cJ aM hM u9) → va_S A s.heap H locs → lv_has ls 7 [(0, .ref aM), (1, .int p1), (2, .int p2), (3, .int p3), (4, .long y8), (6, .int x4)] → W p l e ({ frames := 3, cells := 0, slots := 0, locals := 65 } : Room) s m ([.ref aM, .int p1, .int p2, .int p3] : List Value).toArray below meth c H locs 0 0 Q (F0 m 71 ls []) := by
    intro y8 u9 H locs ls hm hP hD hS hl
    have hm := ap2 eK71_10 hm
    refine lv_aload_n hx hb dX7_readWords_71 rfl (lv_at hl 0 rfl) ?_
    refine va_get (D := (dC, dI)) (ci := 8) (v := .int (u9.1 27)) (C := RX7) (T := TX7) (N := 34) hx hb ht inX7 hown hK hP 0 rfl rfl 27 (by decide) (ht _ kw_95) (fun _ h9 => h9) rfl dX7_readWords_72 ?_
    refine lv_if_ne (tgt := 86) hx hb dX7_readWords_75 (by decide) (fun c11 => ?_) (fun c11 => ?_)
    · have hm := ite_f c11 hm
      rw [← hQ]
      exact W.vret hx hb hr (fun t ht1 hW => ⟨⟨u9, rfl, hm, by rw [ht1]; exact hP, hD⟩, hS.F ht1⟩) hS.2.2 dX7_readWords_86
    · have hm := ite_t c11 hm
      refine lv_aload_n hx hb dX7_readWords_78 rfl (lv_at hl 0 rfl) ?_
      refine va_get (D := (dC, dI)) (ci := 8) (v := .ref (hM 33)) (C := RX7) (T := TX7) (N := 34) hx hb ht inX7 hown hK hP 0 rfl rfl 33 (by decide) (ht _ kw_111) (fun _ h9 => h9) rfl dX7_readWords_79 ?_
      refine lv_iload_n hx hb dX7_readWords_82 rfl (lv_at hl 1 rfl) ?_
      refine lv_lload hx hb dX7_readWords_83 (lv_at hl 4 rfl) ?_
      obtain ⟨g12, hm⟩ := gdi_of hm
      refine va_last hx hb hK hP hD hS 14 1 rfl rfl g12 dX7_readWords_85 (fun H locs hP hD hS => ?_)
      obtain ⟨u13, eu13, hm⟩ := bnd_ex hm
      have hP : va_P (dC, dI) vwCl (wM cI cJ aM hM u13) H := by rw [eu13]; exact hP
      have hD : va_D A (wM cI cJ aM hM u13) := by rw [eu13]; exact hD
      rw [← hQ]
      exact W.vret hx hb hr (fun t ht1 hW => ⟨⟨u13, rfl, hm, by rw [ht1]; exact hP, hD⟩, hS.F ht1⟩) hS.2.2 dX7_readWords_86
  have LP39 : ∀ (n39 : Nat) (y6 : Int64) (u7 : OS) (H : Heap) (locs : List Loc) (ls : Array Slot), f_X7_readWords_L39 n39 K71_10 y6 u7 = some o → va_P (dC, dI) vwCl (wM cI cJ aM hM u7) H → va_D A (wM cI cJ aM hM u7) → va_S A s.heap H locs → lv_has ls 7 [(0, .ref aM), (1, .int p1), (2, .int p2), (3, .int p3), (4, .long y6), (6, .int x4)] → W p l e ({ frames := 3, cells := 0, slots := 0, locals := 65 } : Room) s m ([.ref aM, .int p1, .int p2, .int p3] : List Value).toArray below meth c H locs 0 0 Q (F0 m 39 ls []) := by
    intro n39
    induction n39 with
    | zero => intro y6 u7 H locs ls hm; exact nomatch (show (none : Option _) = some _ from hm)
    | succ n39 ih39 =>
      intro y6 u7 H locs ls hm hP hD hS hl
      unfold f_X7_readWords_L39 at hm
      refine lv_lload hx hb dX7_readWords_39 (lv_at hl 4 rfl) ?_
      refine lv_ldc2 (v := (2147483648 : Int64)) hx hb hown (ht _ kw_11) dX7_readWords_41 ?_
      refine W.lcmp hx hb dX7_readWords_44 ?_
      refine lv_if_ge (tgt := 71) hx hb dX7_readWords_45 (by decide) (fun c14 => ?_) (fun c14 => ?_)
      · have c14 := lgc_ge.mp c14
        have hm := ite_t c14 hm
        exact X71_10 y6 u7 _ _ _ hm hP hD hS (lv_sub hl [0, 1, 2, 3, 4, 5] rfl)
      · have c14 := mt lgc_ge.mpr c14
        have hm := ite_f c14 hm
        refine lv_aload_n hx hb dX7_readWords_48 rfl (lv_at hl 0 rfl) ?_
        refine va_get (D := (dC, dI)) (ci := 8) (v := .int (u7.1 27)) (C := RX7) (T := TX7) (N := 34) hx hb ht inX7 hown hK hP 0 rfl rfl 27 (by decide) (ht _ kw_95) (fun _ h9 => h9) rfl dX7_readWords_49 ?_
        refine lv_if_ne (tgt := 71) hx hb dX7_readWords_52 (by decide) (fun c15 => ?_) (fun c15 => ?_)
        · have hm := ite_f c15 hm
          exact X71_10 y6 u7 _ _ _ hm hP hD hS (lv_sub hl [0, 1, 2, 3, 4, 5] rfl)
        · have hm := ite_t c15 hm
          refine lv_lload hx hb dX7_readWords_55 (lv_at hl 4 rfl) ?_
          refine lv_bipush (v := (32 : Int32)) hx hb dX7_readWords_57 (by decide) ?_
          refine lv_lshl hx hb dX7_readWords_59 rfl ?_
          refine lv_aload_n hx hb dX7_readWords_60 rfl (lv_at hl 0 rfl) ?_
          refine lv_iconst (v := (4 : Int32)) hx hb dX7_readWords_61 (by decide) ?_
          have hPc : va_P (dC, dI) vwCl (wM cI cJ aM hM u7) _ := hP
          have hDc : va_D A (wM cI cJ aM hM u7) := hD
          have hFc := va_free (wc := (wM cI cJ aM hM u7)) hD hS hA [0, 1, 2, 3, 4, 5, 6, 7, 8, 9, 10, 11, 12, 13, 14] rfl
          obtain ⟨u16o, r17o, e18, hm⟩ := oC2_of hm
          refine va_calll (va_runV (As := [.int (4 : Int32)]) (rest := [.long (y6 <<< (((32 : Int32)).toInt64 &&& (63 : Int64)))]) ⟨hx, hb, hml, hown, ht⟩ (c_X7_nextWide l dC dI cI cJ aM hM H.size u7 (4 : Int32) (u16o, r17o) e18) (cwV 1 ht (gdV kw_115 kw_113 kw_114 kw_7 kw_112) rfl rfl rfl ⟨rfl, nd_X7_nextWide⟩ ⟨Nat.le_of_ble_eq_true rfl, Nat.le_of_ble_eq_true rfl⟩) ⟨pcW_blind, va_recv hK hPc (ci := 8) (q0 := 0) rfl rfl, pcW_pre hPc hK hDc hN⟩ rfl rfl hl.1 rfl (lv_room (Nat.le_of_ble_eq_true rfl)) dX7_readWords_62 ⟨Nat.zero_le _, Nat.zero_le _⟩) hS (fun q _ z => hFc q z) hFc (fun r17 uu t H1 locs ht1 hvm hw hB hz1 hk1 hS => ?_)
          obtain ⟨u16, rfl⟩ : ∃ z, z = uu := ⟨_, rfl⟩
          obtain ⟨hP1, hD1⟩ := hB
          rw [ht1] at hP1
          obtain ⟨q0, q1⟩ := inj2 hw
          subst q0
          subst q1
          have hP : va_P (dC, dI) vwCl (wM cI cJ aM hM u16) H1 := hP1
          have hD : va_D A (wM cI cJ aM hM u16) := hD1.weaken (fun _ q _ z => hFc q.1 z)
          generalize H1 = H at hP hS ⊢
          refine lv_lor hx hb dX7_readWords_65 ?_
          refine lv_topl (fun y19 ey19 => ?_)
          have hm := bnd_nm ey19 hm
          refine lv_lstore (lv' := [(4, .long y19), (0, .ref aM), (1, .int p1), (2, .int p2), (3, .int p3), (6, .int x4)]) hx hb dX7_readWords_66 hl (by decide) rfl (fun ls hl => ?_)
          refine lv_goto (tgt := 39) hx hb dX7_readWords_68 (by decide) ?_
          exact ih39 y19 u16 _ _ _ hm hP hD hS (lv_sub hl [1, 2, 3, 4, 0, 5] rfl)
  exact LP39 FU y5 uM _ _ _ hm hP hD hS (lv_sub hl [2, 3, 4, 5, 0, 1] rfl)

def f_X7_readSides_L14 (p1 : Int32) (x2 : Int32) : Nat → (Int32 → Int32 → OS → Option (OS × Int32)) → Int32 → Int32 → OS → Option (OS × Int32)
  | 0, _, _, _, _ => none
  | n14 + 1, K142_9, x3, x4, u5 =>
    if (5 : Int32) ≤ x3 then (
    K142_9 x4 x3 u5) else (
    if (u5.1 27) = (0 : Int32) then (
    oC1 (f_X7_laySides u5 (1 : Int32) x4 x3) fun u12 =>
    bnd (fun (x14 : Int32) =>
    bnd (fun (x16 : Int32) (u17 : OS) =>
    bnd (((2 : Int32) * x4) + x16) fun x19 =>
    bnd (x3 + (1 : Int32)) fun x20 =>
    f_X7_readSides_L14 p1 x2 n14 K142_9 x20 x19 u17) fun K129_18 =>
    if (u12.1 23) ≤ (0 : Int32) then (
    K129_18 x14 u12) else (
    if (u12.1 22) ≤ (u12.1 23) then (
    K129_18 x14 u12) else (
    oC1 (f_X7_sideChance u12 x2) fun r23 =>
    gdi p1 4 <|
    bnd (fun (x26 : Int32) =>
    bnd (fun (x28 : Int32) =>
    bnd (fun (x30 : Int32) =>
    oC1 (f_X7_readBytes u12 p1 x28 x30) fun u32 =>
    K129_18 x26 u32) fun K126_31 =>
    if x26 = (0 : Int32) then (
    K126_31 (0 : Int32)) else (
    K126_31 r23)) fun K115_29 =>
    if x26 = (0 : Int32) then (
    K115_29 r23) else (
    K115_29 (x2 - r23))) fun K97_27 =>
    if (r23).toInt64 ≤ ((u12.2.2.1 33 (p1).toNatClampNeg) &&& ((x2 - (1 : Int32))).toInt64) then (
    K97_27 (1 : Int32)) else (
    K97_27 (0 : Int32))))) fun K47_15 =>
    if (u12.1 23) ≤ (0 : Int32) then (
    K47_15 (1 : Int32)) else (
    K47_15 (0 : Int32))) else (
    K142_9 x4 x3 u5))

def f_X7_readSides (uM : OS) (p1 : Int32) : Option (OS × Int32) :=
  gdi (1 : Int32) 2 <|
  bnd ((1 : Int32) <<< ((uM.2.1 10 ((1 : Int32)).toNatClampNeg) &&& (31 : Int32))) fun x2 =>
  bnd (fun (x6 : Int32) (x7 : Int32) (u8 : OS) =>
  some (u8, x6)) fun K142_9 =>
  f_X7_readSides_L14 p1 x2 FU K142_9 (0 : Int32) (0 : Int32) uM

set_option maxHeartbeats 4000000 in
set_option maxRecDepth 100000 in
theorem c_X7_readSides (l : Launch) (dC : Nat → ClassId) (dI : Nat → Nat → Nat) (cI cJ : ClassId) (aM : Nat) (hM : Nat → Nat) (sz : Nat) (uM : OS) (p1 : Int32) (o : OS × Int32) (hm : f_X7_readSides uM p1 = some o) : Met l yX7_readSides (wq yX7_readSides cX7_readSides 7 (some .int)) ({ frames := 3, cells := 0, slots := 0, locals := 67 } : Room) (va_Pc [.ref aM, .int p1] (pcW dC dI cI cJ sz (wM cI cJ aM hM uM))) (va_Qi (S := OS) (fun r u => some (u, r) = some o) (fun (u : OS) t => va_P (dC, dI) vwCl (wM cI cJ aM hM u) t.heap ∧ va_D (va_A (wM cI cJ aM hM uM) sz) (wM cI cJ aM hM u)) (va_A (wM cI cJ aM hM uM) sz)) 0 0 (va_A (wM cI cJ aM hM uM) sz) := by
  refine Met.ofW (cc := cX7_readSides) (maxL := 7) (ret := (some .int)) (by decide) rfl ?_
  intro p e s m args below meth c s₁ B hml hv
  obtain ⟨rfl, hsz, hP, hK, hD0, hN⟩ := hv
  have hx := B.exec
  have hb := B.bytes
  have hr := B.returns
  have ht : ∀ w ∈ lw_good, w.before _ s = true := fun w h => atoms_spec (ws := wq yX7_readSides cX7_readSides 7 (some .int)) B.pre w (wq_mem h)
  have hown : s.vm.findClass RX7 = some m.cls := findClass_of_methodNamed B.named
  have hlocks := B.notSynchronized
  subst hsz
  have hD := hD0.self (sz := s.heap.size)
  generalize hAe : va_A (wM cI cJ aM hM uM) s.heap.size = A at hD ⊢
  have hA : ∀ q : Nat, s.heap.size ≤ q → A q := fun q h => by rw [← hAe]; exact Or.inr h
  have hS : va_S A s.heap s.heap [] := va_S.rf
  have hl := lv_entry ([.ref aM, .int p1]) (n := 7) (Nat.le_of_ble_eq_true rfl)
  rw [lg_entry_eq]
  generalize (lg_sl ([.ref aM, .int p1]) ++ List.replicate (7 - (lg_sl ([.ref aM, .int p1])).length) Slot.unset).toArray = ls at hl ⊢
  have hl : lv_has ls 7 [(0, .ref aM), (1, .int p1)] := hl
  generalize hQ : MQ below _ _ s _ _ _ = Q
  generalize hH : s.heap = H at hP ⊢
  have hS : va_S A s.heap H [] := by rw [← hH]; exact va_S.rf
  show W p l e ({ frames := 3, cells := 0, slots := 0, locals := 67 } : Room) s m ([.ref aM, .int p1] : List Value).toArray below meth c H [] 0 0 Q (F0 m 0 ls [])
  unfold f_X7_readSides at hm
  refine lv_iconst (v := (1 : Int32)) hx hb dX7_readSides_0 (by decide) ?_
  refine lv_aload_n hx hb dX7_readSides_1 rfl (lv_at hl 0 rfl) ?_
  refine va_get (D := (dC, dI)) (ci := 8) (v := .ref (hM 10)) (C := RX7) (T := TX7) (N := 34) hx hb ht inX7 hown hK hP 0 rfl rfl 10 (by decide) (ht _ kw_19) (fun _ h9 => h9) rfl dX7_readSides_2 ?_
  refine lv_iconst (v := (1 : Int32)) hx hb dX7_readSides_5 (by decide) ?_
  obtain ⟨g1, hm⟩ := gdi_of hm
  refine va_iald hx hb hK hP 5 0 rfl rfl g1 dX7_readSides_6 ?_
  refine lv_ishl hx hb dX7_readSides_7 ?_
  refine lv_topi (fun x2 ex2 => ?_)
  have hm := bnd_nm ex2 hm
  refine lv_istore_n (lv' := [(2, .int x2), (0, .ref aM), (1, .int p1)]) hx hb dX7_readSides_8 rfl hl (by decide) rfl (fun ls hl => ?_)
  refine lv_iconst (v := (0 : Int32)) hx hb dX7_readSides_9 (by decide) ?_
  refine lv_istore_n (lv' := [(3, .int (0 : Int32)), (2, .int x2), (0, .ref aM), (1, .int p1)]) hx hb dX7_readSides_10 rfl hl (by decide) rfl (fun ls hl => ?_)
  refine lv_iconst (v := (0 : Int32)) hx hb dX7_readSides_11 (by decide) ?_
  refine lv_istore (lv' := [(4, .int (0 : Int32)), (3, .int (0 : Int32)), (2, .int x2), (0, .ref aM), (1, .int p1)]) hx hb dX7_readSides_12 hl (by decide) rfl (fun ls hl => ?_)
  obtain ⟨K142_9, eK142_9, hm⟩ := bnd_ex hm
  have X142_9 : ∀ (x6 : Int32) (x7 : Int32) (u8 : OS) (H : Heap) (locs : List Loc) (ls : Array Slot), K142_9 x6 x7 u8 = some o → va_P (dC, dI) vwCl (wM cI cJ aM hM u8) H → va_D A (wM cI cJ aM hM u8) → va_S A s.heap H locs → lv_has ls 7 [(0, .ref aM), (1, .int p1), (2, .int x2), (3, .int x6), (4, .int x7)] → W p l e ({ frames := 3, cells := 0, slots := 0, locals := 67 } : Room) s m ([.ref aM, .int p1] : List Value).toArray below meth c H locs 0 0 Q (F0 m 142 ls []) := by
    intro x6 x7 u8 H locs ls hm hP hD hS hl
    have hm := ap3 eK142_9 hm
    refine lv_iload_n hx hb dX7_readSides_142 rfl (lv_at hl 3 rfl) ?_
    rw [← hQ]
    exact W.iret (v := x6) hx hb hr (fun t ht1 hW => ⟨⟨_, u8, rfl, hm, by rw [ht1]; exact hP, hD⟩, hS.F ht1⟩) hS.2.2 dX7_readSides_143
  have LP14 : ∀ (n14 : Nat) (x3 : Int32) (x4 : Int32) (u5 : OS) (H : Heap) (locs : List Loc) (ls : Array Slot), f_X7_readSides_L14 p1 x2 n14 K142_9 x3 x4 u5 = some o → va_P (dC, dI) vwCl (wM cI cJ aM hM u5) H → va_D A (wM cI cJ aM hM u5) → va_S A s.heap H locs → lv_has ls 7 [(0, .ref aM), (1, .int p1), (2, .int x2), (3, .int x4), (4, .int x3)] → W p l e ({ frames := 3, cells := 0, slots := 0, locals := 67 } : Room) s m ([.ref aM, .int p1] : List Value).toArray below meth c H locs 0 0 Q (F0 m 14 ls []) := by
    intro n14
    induction n14 with
    | zero => intro x3 x4 u5 H locs ls hm; exact nomatch (show (none : Option _) = some _ from hm)
    | succ n14 ih14 =>
      intro x3 x4 u5 H locs ls hm hP hD hS hl
      unfold f_X7_readSides_L14 at hm
      refine lv_iload hx hb dX7_readSides_14 (lv_at hl 4 rfl) ?_
      refine lv_iconst (v := (5 : Int32)) hx hb dX7_readSides_16 (by decide) ?_
      refine lv_icmp_ge (tgt := 142) hx hb dX7_readSides_17 (by decide) (fun c10 => ?_) (fun c10 => ?_)
      · have hm := ite_t c10 hm
        exact X142_9 x4 x3 u5 _ _ _ hm hP hD hS (lv_sub hl [0, 1, 2, 3, 4] rfl)
      · have hm := ite_f c10 hm
        refine lv_aload_n hx hb dX7_readSides_20 rfl (lv_at hl 0 rfl) ?_
        refine va_get (D := (dC, dI)) (ci := 8) (v := .int (u5.1 27)) (C := RX7) (T := TX7) (N := 34) hx hb ht inX7 hown hK hP 0 rfl rfl 27 (by decide) (ht _ kw_95) (fun _ h9 => h9) rfl dX7_readSides_21 ?_
        refine lv_if_ne (tgt := 142) hx hb dX7_readSides_24 (by decide) (fun c11 => ?_) (fun c11 => ?_)
        · have hm := ite_f c11 hm
          exact X142_9 x4 x3 u5 _ _ _ hm hP hD hS (lv_sub hl [0, 1, 2, 3, 4] rfl)
        · have hm := ite_t c11 hm
          refine lv_aload_n hx hb dX7_readSides_27 rfl (lv_at hl 0 rfl) ?_
          refine lv_iconst (v := (1 : Int32)) hx hb dX7_readSides_28 (by decide) ?_
          refine lv_iload_n hx hb dX7_readSides_29 rfl (lv_at hl 3 rfl) ?_
          refine lv_iload hx hb dX7_readSides_30 (lv_at hl 4 rfl) ?_
          have hPc : va_P (dC, dI) vwCl (wM cI cJ aM hM u5) _ := hP
          have hDc : va_D A (wM cI cJ aM hM u5) := hD
          have hFc := va_free (wc := (wM cI cJ aM hM u5)) hD hS hA [0, 1, 2, 3, 4, 5, 6, 7, 8, 9, 10, 11, 12, 13, 14] rfl
          obtain ⟨u12o, e13, hm⟩ := oC1_of hm
          refine va_callv (va_runV (As := [.int (1 : Int32), .int x4, .int x3]) (rest := []) ⟨hx, hb, hml, hown, ht⟩ (c_X7_laySides l dC dI cI cJ aM hM H.size u5 (1 : Int32) x4 x3 u12o e13) (cwV 3 ht (gdV kw_53 kw_51 kw_52 kw_7 kw_50) rfl rfl rfl ⟨rfl, nd_X7_laySides⟩ ⟨Nat.le_of_ble_eq_true rfl, Nat.le_of_ble_eq_true rfl⟩) ⟨pcW_blind, va_recv hK hPc (ci := 8) (q0 := 0) rfl rfl, pcW_pre hPc hK hDc hN⟩ rfl rfl hl.1 rfl (lv_room (Nat.le_of_ble_eq_true rfl)) dX7_readSides_32 ⟨Nat.zero_le _, Nat.zero_le _⟩) hS (fun q _ z => hFc q z) hFc (fun uu t H1 locs ht1 hvm hw hB hz1 hk1 hS => ?_)
          obtain ⟨u12, rfl⟩ : ∃ z, z = uu := ⟨_, rfl⟩
          obtain ⟨hP1, hD1⟩ := hB
          rw [ht1] at hP1
          obtain rfl : u12 = u12o := Option.some.inj hw
          have hP : va_P (dC, dI) vwCl (wM cI cJ aM hM u12) H1 := hP1
          have hD : va_D A (wM cI cJ aM hM u12) := hD1.weaken (fun _ q _ z => hFc q.1 z)
          generalize H1 = H at hP hS ⊢
          refine lv_aload_n hx hb dX7_readSides_35 rfl (lv_at hl 0 rfl) ?_
          refine va_get (D := (dC, dI)) (ci := 8) (v := .int (u12.1 23)) (C := RX7) (T := TX7) (N := 34) hx hb ht inX7 hown hK hP 0 rfl rfl 23 (by decide) (ht _ kw_49) (fun _ h9 => h9) rfl dX7_readSides_36 ?_
          obtain ⟨K47_15, eK47_15, hm⟩ := bnd_ex hm
          have J47_15 : ∀ (x14 : Int32) (H : Heap) (locs : List Loc) (ls : Array Slot), K47_15 x14 = some o → va_P (dC, dI) vwCl (wM cI cJ aM hM u12) H → va_D A (wM cI cJ aM hM u12) → va_S A s.heap H locs → lv_has ls 7 [(0, .ref aM), (1, .int p1), (2, .int x2), (3, .int x4), (4, .int x3)] → W p l e ({ frames := 3, cells := 0, slots := 0, locals := 67 } : Room) s m ([.ref aM, .int p1] : List Value).toArray below meth c H locs 0 0 Q (F0 m 47 ls [.int x14]) := by
            intro x14 H locs ls hm hP hD hS hl
            have hm := ap1 eK47_15 hm
            refine lv_istore (lv' := [(5, .int x14), (0, .ref aM), (1, .int p1), (2, .int x2), (3, .int x4), (4, .int x3)]) hx hb dX7_readSides_47 hl (by decide) rfl (fun ls hl => ?_)
            refine lv_aload_n hx hb dX7_readSides_49 rfl (lv_at hl 1 rfl) ?_
            refine va_get (D := (dC, dI)) (ci := 8) (v := .int (u12.1 23)) (C := RX7) (T := TX7) (N := 34) hx hb ht inX7 hown hK hP 0 rfl rfl 23 (by decide) (ht _ kw_49) (fun _ h9 => h9) rfl dX7_readSides_50 ?_
            obtain ⟨K129_18, eK129_18, hm⟩ := bnd_ex hm
            have J129_18 : ∀ (x16 : Int32) (u17 : OS) (H : Heap) (locs : List Loc) (ls : Array Slot), K129_18 x16 u17 = some o → va_P (dC, dI) vwCl (wM cI cJ aM hM u17) H → va_D A (wM cI cJ aM hM u17) → va_S A s.heap H locs → lv_has ls 7 [(0, .ref aM), (1, .int p1), (2, .int x2), (3, .int x4), (4, .int x3), (5, .int x16)] → W p l e ({ frames := 3, cells := 0, slots := 0, locals := 67 } : Room) s m ([.ref aM, .int p1] : List Value).toArray below meth c H locs 0 0 Q (F0 m 129 ls []) := by
              intro x16 u17 H locs ls hm hP hD hS hl
              have hm := ap2 eK129_18 hm
              refine lv_iconst (v := (2 : Int32)) hx hb dX7_readSides_129 (by decide) ?_
              refine lv_iload_n hx hb dX7_readSides_130 rfl (lv_at hl 3 rfl) ?_
              refine lv_imul hx hb dX7_readSides_131 ?_
              refine lv_iload hx hb dX7_readSides_132 (lv_at hl 5 rfl) ?_
              refine lv_iadd hx hb dX7_readSides_134 ?_
              refine lv_topi (fun x19 ex19 => ?_)
              have hm := bnd_nm ex19 hm
              refine lv_istore_n (lv' := [(3, .int x19), (0, .ref aM), (1, .int p1), (2, .int x2), (4, .int x3), (5, .int x16)]) hx hb dX7_readSides_135 rfl hl (by decide) rfl (fun ls hl => ?_)
              obtain ⟨x20, ex20, hm⟩ := bnd_ex hm
              refine lv_iinc (v := x20) (lv' := [(4, .int x20), (3, .int x19), (0, .ref aM), (1, .int p1), (2, .int x2), (5, .int x16)]) hx hb dX7_readSides_136 hl (k := 4) rfl (by rw [ex20]; exact congrArg _ (by decide)) (by decide) rfl (fun ls hl => ?_)
              refine lv_goto (tgt := 14) hx hb dX7_readSides_139 (by decide) ?_
              exact ih14 x20 x19 u17 _ _ _ hm hP hD hS (lv_sub hl [2, 3, 4, 1, 0] rfl)
            refine lv_if_le (tgt := 129) hx hb dX7_readSides_53 (by decide) (fun c21 => ?_) (fun c21 => ?_)
            · have hm := ite_t c21 hm
              exact J129_18 x14 u12 _ _ _ hm hP hD hS (lv_sub hl [1, 2, 3, 4, 5, 0] rfl)
            · have hm := ite_f c21 hm
              refine lv_aload_n hx hb dX7_readSides_56 rfl (lv_at hl 1 rfl) ?_
              refine va_get (D := (dC, dI)) (ci := 8) (v := .int (u12.1 23)) (C := RX7) (T := TX7) (N := 34) hx hb ht inX7 hown hK hP 0 rfl rfl 23 (by decide) (ht _ kw_49) (fun _ h9 => h9) rfl dX7_readSides_57 ?_
              refine lv_aload_n hx hb dX7_readSides_60 rfl (lv_at hl 1 rfl) ?_
              refine va_get (D := (dC, dI)) (ci := 8) (v := .int (u12.1 22)) (C := RX7) (T := TX7) (N := 34) hx hb ht inX7 hown hK hP 0 rfl rfl 22 (by decide) (ht _ kw_48) (fun _ h9 => h9) rfl dX7_readSides_61 ?_
              refine lv_icmp_ge (tgt := 129) hx hb dX7_readSides_64 (by decide) (fun c22 => ?_) (fun c22 => ?_)
              · have hm := ite_t c22 hm
                exact J129_18 x14 u12 _ _ _ hm hP hD hS (lv_sub hl [1, 2, 3, 4, 5, 0] rfl)
              · have hm := ite_f c22 hm
                refine lv_aload_n hx hb dX7_readSides_67 rfl (lv_at hl 1 rfl) ?_
                refine lv_iload_n hx hb dX7_readSides_68 rfl (lv_at hl 3 rfl) ?_
                have hPc : va_P (dC, dI) vwCl (wM cI cJ aM hM u12) _ := hP
                have hDc : va_D A (wM cI cJ aM hM u12) := hD
                have hFc := va_free (wc := (wM cI cJ aM hM u12)) hD hS hA [0, 1, 2, 3, 4, 5, 6, 7, 8, 9, 10, 11, 12, 13, 14] rfl
                obtain ⟨r23o, e24, hm⟩ := oC1_of hm
                refine va_calli (va_runV (As := [.int x2]) (rest := []) ⟨hx, hb, hml, hown, ht⟩ (c_X7_sideChance l dC dI cI cJ aM hM H.size u12 x2 r23o e24) (cwV 1 ht (gdV kw_57 kw_55 kw_56 kw_7 kw_54) rfl rfl rfl ⟨rfl, nd_X7_sideChance⟩ ⟨Nat.le_of_ble_eq_true rfl, Nat.le_of_ble_eq_true rfl⟩) ⟨pcW_blind, va_recv hK hPc (ci := 8) (q0 := 0) rfl rfl, pcW_pre hPc hK hDc hN⟩ rfl rfl hl.1 rfl (lv_room (Nat.le_of_ble_eq_true rfl)) dX7_readSides_69 ⟨Nat.zero_le _, Nat.zero_le _⟩) hS (fun q _ z => hFc q z) hFc (fun r23 uu t H1 locs ht1 hvm hw hB hz1 hk1 hS => ?_)
                obtain ⟨⟩ := uu
                obtain ⟨hP1, hD1⟩ := hB
                rw [ht1] at hP1
                obtain rfl : r23 = r23o := Option.some.inj hw
                have hP : va_P (dC, dI) vwCl (wM cI cJ aM hM u12) H1 := hP1
                have hD : va_D A (wM cI cJ aM hM u12) := hD1.weaken (fun _ q _ z => hFc q.1 z)
                generalize H1 = H at hP hS ⊢
                refine lv_istore (lv' := [(6, .int r23), (5, .int x14), (0, .ref aM), (1, .int p1), (2, .int x2), (3, .int x4), (4, .int x3)]) hx hb dX7_readSides_72 hl (by decide) rfl (fun ls hl => ?_)
                refine lv_aload_n hx hb dX7_readSides_74 rfl (lv_at hl 2 rfl) ?_
                refine va_get (D := (dC, dI)) (ci := 8) (v := .ref (hM 33)) (C := RX7) (T := TX7) (N := 34) hx hb ht inX7 hown hK hP 0 rfl rfl 33 (by decide) (ht _ kw_111) (fun _ h9 => h9) rfl dX7_readSides_75 ?_
                refine lv_iload_n hx hb dX7_readSides_78 rfl (lv_at hl 3 rfl) ?_
                obtain ⟨g25, hm⟩ := gdi_of hm
                refine va_lald hx hb hK hP 14 1 rfl rfl g25 dX7_readSides_79 ?_
                refine lv_iload_n hx hb dX7_readSides_80 rfl (lv_at hl 4 rfl) ?_
                refine lv_iconst (v := (1 : Int32)) hx hb dX7_readSides_81 (by decide) ?_
                refine lv_isub hx hb dX7_readSides_82 ?_
                refine lv_i2l hx hb dX7_readSides_83 rfl ?_
                refine lv_land hx hb dX7_readSides_84 ?_
                refine lv_iload hx hb dX7_readSides_85 (lv_at hl 0 rfl) ?_
                refine lv_i2l hx hb dX7_readSides_87 rfl ?_
                refine W.lcmp hx hb dX7_readSides_88 ?_
                obtain ⟨K97_27, eK97_27, hm⟩ := bnd_ex hm
                have J97_27 : ∀ (x26 : Int32) (H : Heap) (locs : List Loc) (ls : Array Slot), K97_27 x26 = some o → va_P (dC, dI) vwCl (wM cI cJ aM hM u12) H → va_D A (wM cI cJ aM hM u12) → va_S A s.heap H locs → lv_has ls 7 [(0, .ref aM), (1, .int p1), (2, .int x2), (3, .int x4), (4, .int x3), (5, .int x14), (6, .int r23)] → W p l e ({ frames := 3, cells := 0, slots := 0, locals := 67 } : Room) s m ([.ref aM, .int p1] : List Value).toArray below meth c H locs 0 0 Q (F0 m 97 ls [.int x26]) := by
                  intro x26 H locs ls hm hP hD hS hl
                  have hm := ap1 eK97_27 hm
                  refine lv_istore (lv' := [(5, .int x26), (0, .ref aM), (1, .int p1), (2, .int x2), (3, .int x4), (4, .int x3), (6, .int r23)]) hx hb dX7_readSides_97 hl (by decide) rfl (fun ls hl => ?_)
                  refine lv_aload_n hx hb dX7_readSides_99 rfl (lv_at hl 1 rfl) ?_
                  refine lv_iload_n hx hb dX7_readSides_100 rfl (lv_at hl 2 rfl) ?_
                  refine lv_iload hx hb dX7_readSides_101 (lv_at hl 0 rfl) ?_
                  obtain ⟨K115_29, eK115_29, hm⟩ := bnd_ex hm
                  have J115_29 : ∀ (x28 : Int32) (H : Heap) (locs : List Loc) (ls : Array Slot), K115_29 x28 = some o → va_P (dC, dI) vwCl (wM cI cJ aM hM u12) H → va_D A (wM cI cJ aM hM u12) → va_S A s.heap H locs → lv_has ls 7 [(0, .ref aM), (1, .int p1), (2, .int x2), (3, .int x4), (4, .int x3), (5, .int x26), (6, .int r23)] → W p l e ({ frames := 3, cells := 0, slots := 0, locals := 67 } : Room) s m ([.ref aM, .int p1] : List Value).toArray below meth c H locs 0 0 Q (F0 m 115 ls [.int x28, .int p1, .ref aM]) := by
                    intro x28 H locs ls hm hP hD hS hl
                    have hm := ap1 eK115_29 hm
                    refine lv_iload hx hb dX7_readSides_115 (lv_at hl 5 rfl) ?_
                    obtain ⟨K126_31, eK126_31, hm⟩ := bnd_ex hm
                    have J126_31 : ∀ (x30 : Int32) (H : Heap) (locs : List Loc) (ls : Array Slot), K126_31 x30 = some o → va_P (dC, dI) vwCl (wM cI cJ aM hM u12) H → va_D A (wM cI cJ aM hM u12) → va_S A s.heap H locs → lv_has ls 7 [(0, .ref aM), (1, .int p1), (2, .int x2), (3, .int x4), (4, .int x3), (5, .int x26), (6, .int r23)] → W p l e ({ frames := 3, cells := 0, slots := 0, locals := 67 } : Room) s m ([.ref aM, .int p1] : List Value).toArray below meth c H locs 0 0 Q (F0 m 126 ls [.int x30, .int x28, .int p1, .ref aM]) := by
                      intro x30 H locs ls hm hP hD hS hl
                      have hm := ap1 eK126_31 hm
                      have hPc : va_P (dC, dI) vwCl (wM cI cJ aM hM u12) _ := hP
                      have hDc : va_D A (wM cI cJ aM hM u12) := hD
                      have hFc := va_free (wc := (wM cI cJ aM hM u12)) hD hS hA [0, 1, 2, 3, 4, 5, 6, 7, 8, 9, 10, 11, 12, 13, 14] rfl
                      obtain ⟨u32o, e33, hm⟩ := oC1_of hm
                      refine va_callv (va_runV (As := [.int p1, .int x28, .int x30]) (rest := []) ⟨hx, hb, hml, hown, ht⟩ (c_X7_readBytes l dC dI cI cJ aM hM H.size u12 p1 x28 x30 u32o e33) (cwV 3 ht (gdV kw_119 kw_117 kw_118 kw_7 kw_116) rfl rfl rfl ⟨rfl, nd_X7_readBytes⟩ ⟨Nat.le_of_ble_eq_true rfl, Nat.le_of_ble_eq_true rfl⟩) ⟨pcW_blind, va_recv hK hPc (ci := 8) (q0 := 0) rfl rfl, pcW_pre hPc hK hDc hN⟩ rfl rfl hl.1 rfl (lv_room (Nat.le_of_ble_eq_true rfl)) dX7_readSides_126 ⟨Nat.zero_le _, Nat.zero_le _⟩) hS (fun q _ z => hFc q z) hFc (fun uu t H1 locs ht1 hvm hw hB hz1 hk1 hS => ?_)
                      obtain ⟨u32, rfl⟩ : ∃ z, z = uu := ⟨_, rfl⟩
                      obtain ⟨hP1, hD1⟩ := hB
                      rw [ht1] at hP1
                      obtain rfl : u32 = u32o := Option.some.inj hw
                      have hP : va_P (dC, dI) vwCl (wM cI cJ aM hM u32) H1 := hP1
                      have hD : va_D A (wM cI cJ aM hM u32) := hD1.weaken (fun _ q _ z => hFc q.1 z)
                      generalize H1 = H at hP hS ⊢
                      exact J129_18 x26 u32 _ _ _ hm hP hD hS (lv_sub hl [0, 1, 2, 3, 4, 5] rfl)
                    refine lv_if_ne (tgt := 124) hx hb dX7_readSides_117 (by decide) (fun c34 => ?_) (fun c34 => ?_)
                    · have hm := ite_f c34 hm
                      refine lv_iload hx hb dX7_readSides_124 (lv_at hl 6 rfl) ?_
                      exact J126_31 r23 _ _ _ hm hP hD hS (lv_sub hl [0, 1, 2, 3, 4, 5, 6] rfl)
                    · have hm := ite_t c34 hm
                      refine lv_iconst (v := (0 : Int32)) hx hb dX7_readSides_120 (by decide) ?_
                      refine lv_goto (tgt := 126) hx hb dX7_readSides_121 (by decide) ?_
                      exact J126_31 (0 : Int32) _ _ _ hm hP hD hS (lv_sub hl [0, 1, 2, 3, 4, 5, 6] rfl)
                  refine lv_if_ne (tgt := 111) hx hb dX7_readSides_103 (by decide) (fun c35 => ?_) (fun c35 => ?_)
                  · have hm := ite_f c35 hm
                    refine lv_iload_n hx hb dX7_readSides_111 rfl (lv_at hl 3 rfl) ?_
                    refine lv_iload hx hb dX7_readSides_112 (lv_at hl 6 rfl) ?_
                    refine lv_isub hx hb dX7_readSides_114 ?_
                    exact J115_29 (x2 - r23) _ _ _ hm hP hD hS (lv_sub hl [1, 2, 3, 4, 5, 0, 6] rfl)
                  · have hm := ite_t c35 hm
                    refine lv_iload hx hb dX7_readSides_106 (lv_at hl 6 rfl) ?_
                    refine lv_goto (tgt := 115) hx hb dX7_readSides_108 (by decide) ?_
                    exact J115_29 r23 _ _ _ hm hP hD hS (lv_sub hl [1, 2, 3, 4, 5, 0, 6] rfl)
                refine lv_if_ge (tgt := 96) hx hb dX7_readSides_89 (by decide) (fun c36 => ?_) (fun c36 => ?_)
                · have c36 := lgc_ge.mp c36
                  have hm := ite_t c36 hm
                  refine lv_iconst (v := (1 : Int32)) hx hb dX7_readSides_96 (by decide) ?_
                  exact J97_27 (1 : Int32) _ _ _ hm hP hD hS (lv_sub hl [2, 3, 4, 5, 6, 1, 0] rfl)
                · have c36 := mt lgc_ge.mpr c36
                  have hm := ite_f c36 hm
                  refine lv_iconst (v := (0 : Int32)) hx hb dX7_readSides_92 (by decide) ?_
                  refine lv_goto (tgt := 97) hx hb dX7_readSides_93 (by decide) ?_
                  exact J97_27 (0 : Int32) _ _ _ hm hP hD hS (lv_sub hl [2, 3, 4, 5, 6, 1, 0] rfl)
          refine lv_if_le (tgt := 46) hx hb dX7_readSides_39 (by decide) (fun c37 => ?_) (fun c37 => ?_)
          · have hm := ite_t c37 hm
            refine lv_iconst (v := (1 : Int32)) hx hb dX7_readSides_46 (by decide) ?_
            exact J47_15 (1 : Int32) _ _ _ hm hP hD hS (lv_sub hl [0, 1, 2, 3, 4] rfl)
          · have hm := ite_f c37 hm
            refine lv_iconst (v := (0 : Int32)) hx hb dX7_readSides_42 (by decide) ?_
            refine lv_goto (tgt := 47) hx hb dX7_readSides_43 (by decide) ?_
            exact J47_15 (0 : Int32) _ _ _ hm hP hD hS (lv_sub hl [0, 1, 2, 3, 4] rfl)
  exact LP14 FU (0 : Int32) (0 : Int32) uM _ _ _ hm hP hD hS (lv_sub hl [3, 4, 2, 1, 0] rfl)
end
section
def f_X7_readSign_L93 (x2 : Int32) : Nat → (Int64 → OS → Option (OS)) → Int64 → OS → Option (OS)
  | 0, _, _, _ => none
  | n93 + 1, K126_39, y35, u36 =>
    if ((1 : Int64) <<< ((x2).toInt64 &&& (63 : Int64))) ≤ y35 then (
    K126_39 y35 u36) else (
    if (u36.1 27) = (0 : Int32) then (
    oC2 (f_X7_nextBit u36) fun u50 r51 =>
    bnd (((2 : Int64) * y35) + (r51).toInt64) fun y53 =>
    f_X7_readSign_L93 x2 n93 K126_39 y53 u50) else (
    K126_39 y35 u36))

def f_X7_readSign (uM : OS) (p1 : Int32) : Option (OS) :=
  gdi (1 : Int32) 2 <|
  bnd (uM.2.1 10 ((1 : Int32)).toNatClampNeg) fun x2 =>
  bnd (fun (x3 : Int32) (u4 : OS) =>
  if (u4.1 27) = (0 : Int32) then (
  gdi (u4.1 25) 65536 <|
  bnd (sA u4 24 (u4.1 25) x3) fun u8 =>
  bnd (sF u8 25 ((u8.1 25) + (1 : Int32))) fun u9 =>
  some u9) else (
  some u4)) fun K247_5 =>
  if (uM.1 30) = (3 : Int32) then (
  oC2 (f_X7_readSides uM p1) fun u55 r56 =>
  K247_5 r56 u55) else (
  if (uM.1 30) = (2 : Int32) then (
  gdi p1 4 <|
  bnd (((uM.2.2.1 33 (p1).toNatClampNeg)).toInt32 - ((1 : Int32) <<< (x2 &&& (31 : Int32)))) fun x27 =>
  gdi ((4096 : Int32) + x27) 8192 <|
  bnd (uM.2.1 11 (((4096 : Int32) + x27)).toNatClampNeg) fun x29 =>
  gdi ((4096 : Int32) + x27) 8192 <|
  bnd ((uM.2.1 12 (((4096 : Int32) + x27)).toNatClampNeg)).toInt64 fun y31 =>
  gdi ((32 : Int32) + x29) 64 <|
  bnd (fun (x33 : Int32) =>
  bnd (fun (y37 : Int64) (u38 : OS) =>
  bnd (fun (y40 : Int64) =>
  gdi p1 4 <|
  bnd (sL u38 33 p1 y40) fun u43 =>
  K247_5 x29 u43) fun K154_41 =>
  bnd (gdi p1 4 <|
  K154_41 (u38.2.2.1 33 (p1).toNatClampNeg)) fun K148_44 =>
  if (u38.1 27) = (0 : Int32) then (
  if x33 = (0 : Int32) then (
  K154_41 y37) else (
  K148_44)) else (
  K148_44)) fun K126_39 =>
  f_X7_readSign_L93 x2 FU K126_39 y31 uM) fun K91_34 =>
  if (uM.2.1 8 (((32 : Int32) + x29)).toNatClampNeg) = ((1 : Int32) <<< (x2 &&& (31 : Int32))) then (
  K91_34 (1 : Int32)) else (
  K91_34 (0 : Int32))) else (
  gdi p1 4 <|
  oC1 (f_X7_signOf uM (((uM.2.2.1 33 (p1).toNatClampNeg) &&& (((1 : Int64) <<< ((x2).toInt64 &&& (63 : Int64))) - (1 : Int64)))).toInt32) fun r13 =>
  gdi ((32 : Int32) + r13) 64 <|
  if ((1 : Int32) <<< (x2 &&& (31 : Int32))) ≤ (uM.2.1 8 (((32 : Int32) + r13)).toNatClampNeg) then (
  K247_5 r13 uM) else (
  if (uM.1 30) = (0 : Int32) then (
  gdi ((32 : Int32) + r13) 64 <|
  gdi ((32 : Int32) + r13) 64 <|
  oC1 (f_X7_readBytes uM p1 (uM.2.1 8 (((32 : Int32) + r13)).toNatClampNeg) (uM.2.1 9 (((32 : Int32) + r13)).toNatClampNeg)) fun u24 =>
  K247_5 r13 u24) else (
  gdi ((32 : Int32) + r13) 64 <|
  gdi ((32 : Int32) + r13) 64 <|
  oC1 (f_X7_readWords uM p1 (uM.2.1 8 (((32 : Int32) + r13)).toNatClampNeg) (uM.2.1 9 (((32 : Int32) + r13)).toNatClampNeg)) fun u20 =>
  K247_5 r13 u20))))

set_option maxHeartbeats 4000000 in
set_option maxRecDepth 100000 in
theorem c_X7_readSign (l : Launch) (dC : Nat → ClassId) (dI : Nat → Nat → Nat) (cI cJ : ClassId) (aM : Nat) (hM : Nat → Nat) (sz : Nat) (uM : OS) (p1 : Int32) (o : OS) (hm : f_X7_readSign uM p1 = some o) : Met l yX7_readSign (wq yX7_readSign cX7_readSign 8 none) ({ frames := 4, cells := 0, slots := 0, locals := 93 } : Room) (va_Pc [.ref aM, .int p1] (pcW dC dI cI cJ sz (wM cI cJ aM hM uM))) (va_Qv (S := OS) (fun u => some u = some o) (fun (u : OS) t => va_P (dC, dI) vwCl (wM cI cJ aM hM u) t.heap ∧ va_D (va_A (wM cI cJ aM hM uM) sz) (wM cI cJ aM hM u)) (va_A (wM cI cJ aM hM uM) sz)) 0 0 (va_A (wM cI cJ aM hM uM) sz) := by
  refine Met.ofW (cc := cX7_readSign) (maxL := 8) (ret := none) (by decide) rfl ?_
  intro p e s m args below meth c s₁ B hml hv
  obtain ⟨rfl, hsz, hP, hK, hD0, hN⟩ := hv
  have hx := B.exec
  have hb := B.bytes
  have hr := B.returns
  have ht : ∀ w ∈ lw_good, w.before _ s = true := fun w h => atoms_spec (ws := wq yX7_readSign cX7_readSign 8 none) B.pre w (wq_mem h)
  have hown : s.vm.findClass RX7 = some m.cls := findClass_of_methodNamed B.named
  have hlocks := B.notSynchronized
  subst hsz
  have hD := hD0.self (sz := s.heap.size)
  generalize hAe : va_A (wM cI cJ aM hM uM) s.heap.size = A at hD ⊢
  have hA : ∀ q : Nat, s.heap.size ≤ q → A q := fun q h => by rw [← hAe]; exact Or.inr h
  have hS : va_S A s.heap s.heap [] := va_S.rf
  have hl := lv_entry ([.ref aM, .int p1]) (n := 8) (Nat.le_of_ble_eq_true rfl)
  rw [lg_entry_eq]
  generalize (lg_sl ([.ref aM, .int p1]) ++ List.replicate (8 - (lg_sl ([.ref aM, .int p1])).length) Slot.unset).toArray = ls at hl ⊢
  have hl : lv_has ls 8 [(0, .ref aM), (1, .int p1)] := hl
  generalize hQ : MQ below _ _ s _ _ _ = Q
  generalize hH : s.heap = H at hP ⊢
  have hS : va_S A s.heap H [] := by rw [← hH]; exact va_S.rf
  show W p l e ({ frames := 4, cells := 0, slots := 0, locals := 93 } : Room) s m ([.ref aM, .int p1] : List Value).toArray below meth c H [] 0 0 Q (F0 m 0 ls [])
  unfold f_X7_readSign at hm
  refine lv_aload_n hx hb dX7_readSign_0 rfl (lv_at hl 0 rfl) ?_
  refine va_get (D := (dC, dI)) (ci := 8) (v := .ref (hM 10)) (C := RX7) (T := TX7) (N := 34) hx hb ht inX7 hown hK hP 0 rfl rfl 10 (by decide) (ht _ kw_19) (fun _ h9 => h9) rfl dX7_readSign_1 ?_
  refine lv_iconst (v := (1 : Int32)) hx hb dX7_readSign_4 (by decide) ?_
  obtain ⟨g1, hm⟩ := gdi_of hm
  refine va_iald hx hb hK hP 5 0 rfl rfl g1 dX7_readSign_5 ?_
  refine lv_topi (fun x2 ex2 => ?_)
  have hm := bnd_nm ex2 hm
  refine lv_istore_n (lv' := [(2, .int x2), (0, .ref aM), (1, .int p1)]) hx hb dX7_readSign_6 rfl hl (by decide) rfl (fun ls hl => ?_)
  refine lv_aload_n hx hb dX7_readSign_7 rfl (lv_at hl 1 rfl) ?_
  refine va_get (D := (dC, dI)) (ci := 8) (v := .int (uM.1 30)) (C := RX7) (T := TX7) (N := 34) hx hb ht inX7 hown hK hP 0 rfl rfl 30 (by decide) (ht _ kw_110) (fun _ h9 => h9) rfl dX7_readSign_8 ?_
  refine lv_iconst (v := (3 : Int32)) hx hb dX7_readSign_11 (by decide) ?_
  obtain ⟨K247_5, eK247_5, hm⟩ := bnd_ex hm
  have J247_5 : ∀ (x3 : Int32) (u4 : OS) (H : Heap) (locs : List Loc) (ls : Array Slot), K247_5 x3 u4 = some o → va_P (dC, dI) vwCl (wM cI cJ aM hM u4) H → va_D A (wM cI cJ aM hM u4) → va_S A s.heap H locs → lv_has ls 8 [(0, .ref aM), (1, .int p1), (2, .int x2), (3, .int x3)] → W p l e ({ frames := 4, cells := 0, slots := 0, locals := 93 } : Room) s m ([.ref aM, .int p1] : List Value).toArray below meth c H locs 0 0 Q (F0 m 247 ls []) := by
    intro x3 u4 H locs ls hm hP hD hS hl
    have hm := ap2 eK247_5 hm
    refine lv_aload_n hx hb dX7_readSign_247 rfl (lv_at hl 0 rfl) ?_
    refine va_get (D := (dC, dI)) (ci := 8) (v := .int (u4.1 27)) (C := RX7) (T := TX7) (N := 34) hx hb ht inX7 hown hK hP 0 rfl rfl 27 (by decide) (ht _ kw_95) (fun _ h9 => h9) rfl dX7_readSign_248 ?_
    refine lv_if_ne (tgt := 274) hx hb dX7_readSign_251 (by decide) (fun c6 => ?_) (fun c6 => ?_)
    · have hm := ite_f c6 hm
      rw [← hQ]
      exact W.vret hx hb hr (fun t ht1 hW => ⟨⟨u4, rfl, hm, by rw [ht1]; exact hP, hD⟩, hS.F ht1⟩) hS.2.2 dX7_readSign_274
    · have hm := ite_t c6 hm
      refine lv_aload_n hx hb dX7_readSign_254 rfl (lv_at hl 0 rfl) ?_
      refine va_get (D := (dC, dI)) (ci := 8) (v := .ref (hM 24)) (C := RX7) (T := TX7) (N := 34) hx hb ht inX7 hown hK hP 0 rfl rfl 24 (by decide) (ht _ kw_120) (fun _ h9 => h9) rfl dX7_readSign_255 ?_
      refine lv_aload_n hx hb dX7_readSign_258 rfl (lv_at hl 0 rfl) ?_
      refine va_get (D := (dC, dI)) (ci := 8) (v := .int (u4.1 25)) (C := RX7) (T := TX7) (N := 34) hx hb ht inX7 hown hK hP 0 rfl rfl 25 (by decide) (ht _ kw_121) (fun _ h9 => h9) rfl dX7_readSign_259 ?_
      refine lv_iload_n hx hb dX7_readSign_262 rfl (lv_at hl 3 rfl) ?_
      obtain ⟨g7, hm⟩ := gdi_of hm
      refine va_iast hx hb hK hP hD hS 13 0 rfl rfl g7 dX7_readSign_263 (fun H locs hP hD hS => ?_)
      obtain ⟨u8, eu8, hm⟩ := bnd_ex hm
      have hP : va_P (dC, dI) vwCl (wM cI cJ aM hM u8) H := by rw [eu8]; exact hP
      have hD : va_D A (wM cI cJ aM hM u8) := by rw [eu8]; exact hD
      refine lv_aload_n hx hb dX7_readSign_264 rfl (lv_at hl 0 rfl) ?_
      refine lv_dup hx hb dX7_readSign_265 rfl ?_
      refine va_get (D := (dC, dI)) (ci := 8) (v := .int (u8.1 25)) (C := RX7) (T := TX7) (N := 34) hx hb ht inX7 hown hK hP 0 rfl rfl 25 (by decide) (ht _ kw_121) (fun _ h9 => h9) rfl dX7_readSign_266 ?_
      refine lv_iconst (v := (1 : Int32)) hx hb dX7_readSign_269 (by decide) ?_
      refine lv_iadd hx hb dX7_readSign_270 ?_
      refine va_put (D := (dC, dI)) (ci := 8) (v := .int ((u8.1 25) + (1 : Int32))) (ty := .int) (C := RX7) (T := TX7) (N := 34) hx hb ht inX7 tyX7 tyX7_ok nmX7 hown hK hP hD hS 0 rfl rfl 25 (by decide) (ht _ kw_121) (fun _ h9 => h9) rfl (by decide +kernel) rfl rfl (Nat.le_of_ble_eq_true rfl) dX7_readSign_271 (fun H locs hP hD hS => ?_)
      obtain ⟨u9, eu9, hm⟩ := bnd_ex hm
      have hP : va_P (dC, dI) vwCl (wM cI cJ aM hM u9) H := by rw [eu9]; exact hP
      have hD : va_D A (wM cI cJ aM hM u9) := by rw [eu9]; exact hD
      rw [← hQ]
      exact W.vret hx hb hr (fun t ht1 hW => ⟨⟨u9, rfl, hm, by rw [ht1]; exact hP, hD⟩, hS.F ht1⟩) hS.2.2 dX7_readSign_274
  refine lv_icmp_ne (tgt := 24) hx hb dX7_readSign_12 (by decide) (fun c10 => ?_) (fun c10 => ?_)
  · have hm := ite_f c10 hm
    refine lv_aload_n hx hb dX7_readSign_24 rfl (lv_at hl 1 rfl) ?_
    refine va_get (D := (dC, dI)) (ci := 8) (v := .int (uM.1 30)) (C := RX7) (T := TX7) (N := 34) hx hb ht inX7 hown hK hP 0 rfl rfl 30 (by decide) (ht _ kw_110) (fun _ h9 => h9) rfl dX7_readSign_25 ?_
    refine lv_iconst (v := (2 : Int32)) hx hb dX7_readSign_28 (by decide) ?_
    refine lv_icmp_ne (tgt := 158) hx hb dX7_readSign_29 (by decide) (fun c11 => ?_) (fun c11 => ?_)
    · have hm := ite_f c11 hm
      refine lv_aload_n hx hb dX7_readSign_158 rfl (lv_at hl 1 rfl) ?_
      refine lv_aload_n hx hb dX7_readSign_159 rfl (lv_at hl 1 rfl) ?_
      refine va_get (D := (dC, dI)) (ci := 8) (v := .ref (hM 33)) (C := RX7) (T := TX7) (N := 34) hx hb ht inX7 hown hK hP 0 rfl rfl 33 (by decide) (ht _ kw_111) (fun _ h9 => h9) rfl dX7_readSign_160 ?_
      refine lv_iload_n hx hb dX7_readSign_163 rfl (lv_at hl 2 rfl) ?_
      obtain ⟨g12, hm⟩ := gdi_of hm
      refine va_lald hx hb hK hP 14 1 rfl rfl g12 dX7_readSign_164 ?_
      refine lv_lconst (v := (1 : Int64)) hx hb dX7_readSign_165 (by decide) ?_
      refine lv_iload_n hx hb dX7_readSign_166 rfl (lv_at hl 0 rfl) ?_
      refine lv_lshl hx hb dX7_readSign_167 rfl ?_
      refine lv_lconst (v := (1 : Int64)) hx hb dX7_readSign_168 (by decide) ?_
      refine lv_lsub hx hb dX7_readSign_169 ?_
      refine lv_land hx hb dX7_readSign_170 ?_
      refine lv_l2i hx hb dX7_readSign_171 rfl ?_
      have hPc : va_P (dC, dI) vwCl (wM cI cJ aM hM uM) _ := hP
      have hDc : va_D A (wM cI cJ aM hM uM) := hD
      have hFc := va_free (wc := (wM cI cJ aM hM uM)) hD hS hA [0, 1, 2, 3, 4, 5, 6, 7, 8, 9, 10, 11, 12, 13, 14] rfl
      obtain ⟨r13o, e14, hm⟩ := oC1_of hm
      refine va_calli (va_runV (As := [.int (((uM.2.2.1 33 (p1).toNatClampNeg) &&& (((1 : Int64) <<< ((x2).toInt64 &&& (63 : Int64))) - (1 : Int64)))).toInt32]) (rest := []) ⟨hx, hb, hml, hown, ht⟩ (c_X7_signOf l dC dI cI cJ aM hM H.size uM (((uM.2.2.1 33 (p1).toNatClampNeg) &&& (((1 : Int64) <<< ((x2).toInt64 &&& (63 : Int64))) - (1 : Int64)))).toInt32 r13o e14) (cwV 1 ht (gdV kw_125 kw_123 kw_124 kw_7 kw_122) rfl rfl rfl ⟨rfl, nd_X7_signOf⟩ ⟨Nat.le_of_ble_eq_true rfl, Nat.le_of_ble_eq_true rfl⟩) ⟨pcW_blind, va_recv hK hPc (ci := 8) (q0 := 0) rfl rfl, pcW_pre hPc hK hDc hN⟩ rfl rfl hl.1 rfl (lv_room (Nat.le_of_ble_eq_true rfl)) dX7_readSign_172 ⟨Nat.zero_le _, Nat.zero_le _⟩) hS (fun q _ z => hFc q z) hFc (fun r13 uu t H1 locs ht1 hvm hw hB hz1 hk1 hS => ?_)
      obtain ⟨⟩ := uu
      obtain ⟨hP1, hD1⟩ := hB
      rw [ht1] at hP1
      obtain rfl : r13 = r13o := Option.some.inj hw
      have hP : va_P (dC, dI) vwCl (wM cI cJ aM hM uM) H1 := hP1
      have hD : va_D A (wM cI cJ aM hM uM) := hD1.weaken (fun _ q _ z => hFc q.1 z)
      generalize H1 = H at hP hS ⊢
      refine lv_istore_n (lv' := [(3, .int r13), (2, .int x2), (0, .ref aM), (1, .int p1)]) hx hb dX7_readSign_175 rfl hl (by decide) rfl (fun ls hl => ?_)
      refine lv_aload_n hx hb dX7_readSign_176 rfl (lv_at hl 2 rfl) ?_
      refine va_get (D := (dC, dI)) (ci := 8) (v := .ref (hM 8)) (C := RX7) (T := TX7) (N := 34) hx hb ht inX7 hown hK hP 0 rfl rfl 8 (by decide) (ht _ kw_18) (fun _ h9 => h9) rfl dX7_readSign_177 ?_
      refine lv_bipush (v := (32 : Int32)) hx hb dX7_readSign_180 (by decide) ?_
      refine lv_iload_n hx hb dX7_readSign_182 rfl (lv_at hl 0 rfl) ?_
      refine lv_iadd hx hb dX7_readSign_183 ?_
      obtain ⟨g15, hm⟩ := gdi_of hm
      refine va_iald hx hb hK hP 3 0 rfl rfl g15 dX7_readSign_184 ?_
      refine lv_iconst (v := (1 : Int32)) hx hb dX7_readSign_185 (by decide) ?_
      refine lv_iload_n hx hb dX7_readSign_186 rfl (lv_at hl 1 rfl) ?_
      refine lv_ishl hx hb dX7_readSign_187 ?_
      refine lv_icmp_ge (tgt := 247) hx hb dX7_readSign_188 (by decide) (fun c16 => ?_) (fun c16 => ?_)
      · have hm := ite_t c16 hm
        exact J247_5 r13 uM _ _ _ hm hP hD hS (lv_sub hl [2, 3, 1, 0] rfl)
      · have hm := ite_f c16 hm
        refine lv_aload_n hx hb dX7_readSign_191 rfl (lv_at hl 2 rfl) ?_
        refine va_get (D := (dC, dI)) (ci := 8) (v := .int (uM.1 30)) (C := RX7) (T := TX7) (N := 34) hx hb ht inX7 hown hK hP 0 rfl rfl 30 (by decide) (ht _ kw_110) (fun _ h9 => h9) rfl dX7_readSign_192 ?_
        refine lv_if_ne (tgt := 224) hx hb dX7_readSign_195 (by decide) (fun c17 => ?_) (fun c17 => ?_)
        · have hm := ite_f c17 hm
          refine lv_aload_n hx hb dX7_readSign_224 rfl (lv_at hl 2 rfl) ?_
          refine lv_iload_n hx hb dX7_readSign_225 rfl (lv_at hl 3 rfl) ?_
          refine lv_aload_n hx hb dX7_readSign_226 rfl (lv_at hl 2 rfl) ?_
          refine va_get (D := (dC, dI)) (ci := 8) (v := .ref (hM 8)) (C := RX7) (T := TX7) (N := 34) hx hb ht inX7 hown hK hP 0 rfl rfl 8 (by decide) (ht _ kw_18) (fun _ h9 => h9) rfl dX7_readSign_227 ?_
          refine lv_bipush (v := (32 : Int32)) hx hb dX7_readSign_230 (by decide) ?_
          refine lv_iload_n hx hb dX7_readSign_232 rfl (lv_at hl 0 rfl) ?_
          refine lv_iadd hx hb dX7_readSign_233 ?_
          obtain ⟨g18, hm⟩ := gdi_of hm
          refine va_iald hx hb hK hP 3 0 rfl rfl g18 dX7_readSign_234 ?_
          refine lv_aload_n hx hb dX7_readSign_235 rfl (lv_at hl 2 rfl) ?_
          refine va_get (D := (dC, dI)) (ci := 8) (v := .ref (hM 9)) (C := RX7) (T := TX7) (N := 34) hx hb ht inX7 hown hK hP 0 rfl rfl 9 (by decide) (ht _ kw_20) (fun _ h9 => h9) rfl dX7_readSign_236 ?_
          refine lv_bipush (v := (32 : Int32)) hx hb dX7_readSign_239 (by decide) ?_
          refine lv_iload_n hx hb dX7_readSign_241 rfl (lv_at hl 0 rfl) ?_
          refine lv_iadd hx hb dX7_readSign_242 ?_
          obtain ⟨g19, hm⟩ := gdi_of hm
          refine va_iald hx hb hK hP 4 0 rfl rfl g19 dX7_readSign_243 ?_
          have hPc : va_P (dC, dI) vwCl (wM cI cJ aM hM uM) _ := hP
          have hDc : va_D A (wM cI cJ aM hM uM) := hD
          have hFc := va_free (wc := (wM cI cJ aM hM uM)) hD hS hA [0, 1, 2, 3, 4, 5, 6, 7, 8, 9, 10, 11, 12, 13, 14] rfl
          obtain ⟨u20o, e21, hm⟩ := oC1_of hm
          refine va_callv (va_runV (As := [.int p1, .int (uM.2.1 8 (((32 : Int32) + r13)).toNatClampNeg), .int (uM.2.1 9 (((32 : Int32) + r13)).toNatClampNeg)]) (rest := []) ⟨hx, hb, hml, hown, ht⟩ (c_X7_readWords l dC dI cI cJ aM hM H.size uM p1 (uM.2.1 8 (((32 : Int32) + r13)).toNatClampNeg) (uM.2.1 9 (((32 : Int32) + r13)).toNatClampNeg) u20o e21) (cwV 3 ht (gdV kw_129 kw_127 kw_128 kw_7 kw_126) rfl rfl rfl ⟨rfl, nd_X7_readWords⟩ ⟨Nat.le_of_ble_eq_true rfl, Nat.le_of_ble_eq_true rfl⟩) ⟨pcW_blind, va_recv hK hPc (ci := 8) (q0 := 0) rfl rfl, pcW_pre hPc hK hDc hN⟩ rfl rfl hl.1 rfl (lv_room (Nat.le_of_ble_eq_true rfl)) dX7_readSign_244 ⟨Nat.zero_le _, Nat.zero_le _⟩) hS (fun q _ z => hFc q z) hFc (fun uu t H1 locs ht1 hvm hw hB hz1 hk1 hS => ?_)
          obtain ⟨u20, rfl⟩ : ∃ z, z = uu := ⟨_, rfl⟩
          obtain ⟨hP1, hD1⟩ := hB
          rw [ht1] at hP1
          obtain rfl : u20 = u20o := Option.some.inj hw
          have hP : va_P (dC, dI) vwCl (wM cI cJ aM hM u20) H1 := hP1
          have hD : va_D A (wM cI cJ aM hM u20) := hD1.weaken (fun _ q _ z => hFc q.1 z)
          generalize H1 = H at hP hS ⊢
          exact J247_5 r13 u20 _ _ _ hm hP hD hS (lv_sub hl [2, 3, 1, 0] rfl)
        · have hm := ite_t c17 hm
          refine lv_aload_n hx hb dX7_readSign_198 rfl (lv_at hl 2 rfl) ?_
          refine lv_iload_n hx hb dX7_readSign_199 rfl (lv_at hl 3 rfl) ?_
          refine lv_aload_n hx hb dX7_readSign_200 rfl (lv_at hl 2 rfl) ?_
          refine va_get (D := (dC, dI)) (ci := 8) (v := .ref (hM 8)) (C := RX7) (T := TX7) (N := 34) hx hb ht inX7 hown hK hP 0 rfl rfl 8 (by decide) (ht _ kw_18) (fun _ h9 => h9) rfl dX7_readSign_201 ?_
          refine lv_bipush (v := (32 : Int32)) hx hb dX7_readSign_204 (by decide) ?_
          refine lv_iload_n hx hb dX7_readSign_206 rfl (lv_at hl 0 rfl) ?_
          refine lv_iadd hx hb dX7_readSign_207 ?_
          obtain ⟨g22, hm⟩ := gdi_of hm
          refine va_iald hx hb hK hP 3 0 rfl rfl g22 dX7_readSign_208 ?_
          refine lv_aload_n hx hb dX7_readSign_209 rfl (lv_at hl 2 rfl) ?_
          refine va_get (D := (dC, dI)) (ci := 8) (v := .ref (hM 9)) (C := RX7) (T := TX7) (N := 34) hx hb ht inX7 hown hK hP 0 rfl rfl 9 (by decide) (ht _ kw_20) (fun _ h9 => h9) rfl dX7_readSign_210 ?_
          refine lv_bipush (v := (32 : Int32)) hx hb dX7_readSign_213 (by decide) ?_
          refine lv_iload_n hx hb dX7_readSign_215 rfl (lv_at hl 0 rfl) ?_
          refine lv_iadd hx hb dX7_readSign_216 ?_
          obtain ⟨g23, hm⟩ := gdi_of hm
          refine va_iald hx hb hK hP 4 0 rfl rfl g23 dX7_readSign_217 ?_
          have hPc : va_P (dC, dI) vwCl (wM cI cJ aM hM uM) _ := hP
          have hDc : va_D A (wM cI cJ aM hM uM) := hD
          have hFc := va_free (wc := (wM cI cJ aM hM uM)) hD hS hA [0, 1, 2, 3, 4, 5, 6, 7, 8, 9, 10, 11, 12, 13, 14] rfl
          obtain ⟨u24o, e25, hm⟩ := oC1_of hm
          refine va_callv (va_runV (As := [.int p1, .int (uM.2.1 8 (((32 : Int32) + r13)).toNatClampNeg), .int (uM.2.1 9 (((32 : Int32) + r13)).toNatClampNeg)]) (rest := []) ⟨hx, hb, hml, hown, ht⟩ (c_X7_readBytes l dC dI cI cJ aM hM H.size uM p1 (uM.2.1 8 (((32 : Int32) + r13)).toNatClampNeg) (uM.2.1 9 (((32 : Int32) + r13)).toNatClampNeg) u24o e25) (cwV 3 ht (gdV kw_119 kw_117 kw_118 kw_7 kw_116) rfl rfl rfl ⟨rfl, nd_X7_readBytes⟩ ⟨Nat.le_of_ble_eq_true rfl, Nat.le_of_ble_eq_true rfl⟩) ⟨pcW_blind, va_recv hK hPc (ci := 8) (q0 := 0) rfl rfl, pcW_pre hPc hK hDc hN⟩ rfl rfl hl.1 rfl (lv_room (Nat.le_of_ble_eq_true rfl)) dX7_readSign_218 ⟨Nat.zero_le _, Nat.zero_le _⟩) hS (fun q _ z => hFc q z) hFc (fun uu t H1 locs ht1 hvm hw hB hz1 hk1 hS => ?_)
          obtain ⟨u24, rfl⟩ : ∃ z, z = uu := ⟨_, rfl⟩
          obtain ⟨hP1, hD1⟩ := hB
          rw [ht1] at hP1
          obtain rfl : u24 = u24o := Option.some.inj hw
          have hP : va_P (dC, dI) vwCl (wM cI cJ aM hM u24) H1 := hP1
          have hD : va_D A (wM cI cJ aM hM u24) := hD1.weaken (fun _ q _ z => hFc q.1 z)
          generalize H1 = H at hP hS ⊢
          refine lv_goto (tgt := 247) hx hb dX7_readSign_221 (by decide) ?_
          exact J247_5 r13 u24 _ _ _ hm hP hD hS (lv_sub hl [2, 3, 1, 0] rfl)
    · have hm := ite_t c11 hm
      refine lv_aload_n hx hb dX7_readSign_32 rfl (lv_at hl 1 rfl) ?_
      refine va_get (D := (dC, dI)) (ci := 8) (v := .ref (hM 33)) (C := RX7) (T := TX7) (N := 34) hx hb ht inX7 hown hK hP 0 rfl rfl 33 (by decide) (ht _ kw_111) (fun _ h9 => h9) rfl dX7_readSign_33 ?_
      refine lv_iload_n hx hb dX7_readSign_36 rfl (lv_at hl 2 rfl) ?_
      obtain ⟨g26, hm⟩ := gdi_of hm
      refine va_lald hx hb hK hP 14 1 rfl rfl g26 dX7_readSign_37 ?_
      refine lv_l2i hx hb dX7_readSign_38 rfl ?_
      refine lv_iconst (v := (1 : Int32)) hx hb dX7_readSign_39 (by decide) ?_
      refine lv_iload_n hx hb dX7_readSign_40 rfl (lv_at hl 0 rfl) ?_
      refine lv_ishl hx hb dX7_readSign_41 ?_
      refine lv_isub hx hb dX7_readSign_42 ?_
      refine lv_topi (fun x27 ex27 => ?_)
      have hm := bnd_nm ex27 hm
      refine lv_istore (lv' := [(4, .int x27), (2, .int x2), (0, .ref aM), (1, .int p1)]) hx hb dX7_readSign_43 hl (by decide) rfl (fun ls hl => ?_)
      refine lv_aload_n hx hb dX7_readSign_45 rfl (lv_at hl 2 rfl) ?_
      refine va_get (D := (dC, dI)) (ci := 8) (v := .ref (hM 11)) (C := RX7) (T := TX7) (N := 34) hx hb ht inX7 hown hK hP 0 rfl rfl 11 (by decide) (ht _ kw_21) (fun _ h9 => h9) rfl dX7_readSign_46 ?_
      refine lv_sipush (v := (4096 : Int32)) hx hb dX7_readSign_49 (by decide) ?_
      refine lv_iload hx hb dX7_readSign_52 (lv_at hl 0 rfl) ?_
      refine lv_iadd hx hb dX7_readSign_54 ?_
      obtain ⟨g28, hm⟩ := gdi_of hm
      refine va_iald hx hb hK hP 6 0 rfl rfl g28 dX7_readSign_55 ?_
      refine lv_topi (fun x29 ex29 => ?_)
      have hm := bnd_nm ex29 hm
      refine lv_istore_n (lv' := [(3, .int x29), (4, .int x27), (2, .int x2), (0, .ref aM), (1, .int p1)]) hx hb dX7_readSign_56 rfl hl (by decide) rfl (fun ls hl => ?_)
      refine lv_aload_n hx hb dX7_readSign_57 rfl (lv_at hl 3 rfl) ?_
      refine va_get (D := (dC, dI)) (ci := 8) (v := .ref (hM 12)) (C := RX7) (T := TX7) (N := 34) hx hb ht inX7 hown hK hP 0 rfl rfl 12 (by decide) (ht _ kw_22) (fun _ h9 => h9) rfl dX7_readSign_58 ?_
      refine lv_sipush (v := (4096 : Int32)) hx hb dX7_readSign_61 (by decide) ?_
      refine lv_iload hx hb dX7_readSign_64 (lv_at hl 1 rfl) ?_
      refine lv_iadd hx hb dX7_readSign_66 ?_
      obtain ⟨g30, hm⟩ := gdi_of hm
      refine va_iald hx hb hK hP 7 0 rfl rfl g30 dX7_readSign_67 ?_
      refine lv_i2l hx hb dX7_readSign_68 rfl ?_
      refine lv_topl (fun y31 ey31 => ?_)
      have hm := bnd_nm ey31 hm
      refine lv_lstore (lv' := [(5, .long y31), (3, .int x29), (4, .int x27), (2, .int x2), (0, .ref aM), (1, .int p1)]) hx hb dX7_readSign_69 hl (by decide) rfl (fun ls hl => ?_)
      refine lv_aload_n hx hb dX7_readSign_71 rfl (lv_at hl 4 rfl) ?_
      refine va_get (D := (dC, dI)) (ci := 8) (v := .ref (hM 8)) (C := RX7) (T := TX7) (N := 34) hx hb ht inX7 hown hK hP 0 rfl rfl 8 (by decide) (ht _ kw_18) (fun _ h9 => h9) rfl dX7_readSign_72 ?_
      refine lv_bipush (v := (32 : Int32)) hx hb dX7_readSign_75 (by decide) ?_
      refine lv_iload_n hx hb dX7_readSign_77 rfl (lv_at hl 1 rfl) ?_
      refine lv_iadd hx hb dX7_readSign_78 ?_
      obtain ⟨g32, hm⟩ := gdi_of hm
      refine va_iald hx hb hK hP 3 0 rfl rfl g32 dX7_readSign_79 ?_
      refine lv_iconst (v := (1 : Int32)) hx hb dX7_readSign_80 (by decide) ?_
      refine lv_iload_n hx hb dX7_readSign_81 rfl (lv_at hl 3 rfl) ?_
      refine lv_ishl hx hb dX7_readSign_82 ?_
      obtain ⟨K91_34, eK91_34, hm⟩ := bnd_ex hm
      have J91_34 : ∀ (x33 : Int32) (H : Heap) (locs : List Loc) (ls : Array Slot), K91_34 x33 = some o → va_P (dC, dI) vwCl (wM cI cJ aM hM uM) H → va_D A (wM cI cJ aM hM uM) → va_S A s.heap H locs → lv_has ls 8 [(0, .ref aM), (1, .int p1), (2, .int x2), (3, .int x29), (4, .int x27), (5, .long y31)] → W p l e ({ frames := 4, cells := 0, slots := 0, locals := 93 } : Room) s m ([.ref aM, .int p1] : List Value).toArray below meth c H locs 0 0 Q (F0 m 91 ls [.int x33]) := by
        intro x33 H locs ls hm hP hD hS hl
        have hm := ap1 eK91_34 hm
        refine lv_istore (lv' := [(7, .int x33), (0, .ref aM), (1, .int p1), (2, .int x2), (3, .int x29), (4, .int x27), (5, .long y31)]) hx hb dX7_readSign_91 hl (by decide) rfl (fun ls hl => ?_)
        obtain ⟨K126_39, eK126_39, hm⟩ := bnd_ex hm
        have X126_39 : ∀ (y37 : Int64) (u38 : OS) (H : Heap) (locs : List Loc) (ls : Array Slot), K126_39 y37 u38 = some o → va_P (dC, dI) vwCl (wM cI cJ aM hM u38) H → va_D A (wM cI cJ aM hM u38) → va_S A s.heap H locs → lv_has ls 8 [(0, .ref aM), (1, .int p1), (2, .int x2), (3, .int x29), (4, .int x27), (5, .long y37), (7, .int x33)] → W p l e ({ frames := 4, cells := 0, slots := 0, locals := 93 } : Room) s m ([.ref aM, .int p1] : List Value).toArray below meth c H locs 0 0 Q (F0 m 126 ls []) := by
          intro y37 u38 H locs ls hm hP hD hS hl
          have hm := ap2 eK126_39 hm
          refine lv_aload_n hx hb dX7_readSign_126 rfl (lv_at hl 0 rfl) ?_
          refine va_get (D := (dC, dI)) (ci := 8) (v := .ref (hM 33)) (C := RX7) (T := TX7) (N := 34) hx hb ht inX7 hown hK hP 0 rfl rfl 33 (by decide) (ht _ kw_111) (fun _ h9 => h9) rfl dX7_readSign_127 ?_
          refine lv_iload_n hx hb dX7_readSign_130 rfl (lv_at hl 1 rfl) ?_
          refine lv_aload_n hx hb dX7_readSign_131 rfl (lv_at hl 0 rfl) ?_
          refine va_get (D := (dC, dI)) (ci := 8) (v := .int (u38.1 27)) (C := RX7) (T := TX7) (N := 34) hx hb ht inX7 hown hK hP 0 rfl rfl 27 (by decide) (ht _ kw_95) (fun _ h9 => h9) rfl dX7_readSign_132 ?_
          obtain ⟨K154_41, eK154_41, hm⟩ := bnd_ex hm
          have J154_41 : ∀ (y40 : Int64) (H : Heap) (locs : List Loc) (ls : Array Slot), K154_41 y40 = some o → va_P (dC, dI) vwCl (wM cI cJ aM hM u38) H → va_D A (wM cI cJ aM hM u38) → va_S A s.heap H locs → lv_has ls 8 [(0, .ref aM), (1, .int p1), (2, .int x2), (3, .int x29), (4, .int x27), (5, .long y37), (7, .int x33)] → W p l e ({ frames := 4, cells := 0, slots := 0, locals := 93 } : Room) s m ([.ref aM, .int p1] : List Value).toArray below meth c H locs 0 0 Q (F0 m 154 ls [.long y40, .int p1, .ref (hM 33)]) := by
            intro y40 H locs ls hm hP hD hS hl
            have hm := ap1 eK154_41 hm
            obtain ⟨g42, hm⟩ := gdi_of hm
            refine va_last hx hb hK hP hD hS 14 1 rfl rfl g42 dX7_readSign_154 (fun H locs hP hD hS => ?_)
            obtain ⟨u43, eu43, hm⟩ := bnd_ex hm
            have hP : va_P (dC, dI) vwCl (wM cI cJ aM hM u43) H := by rw [eu43]; exact hP
            have hD : va_D A (wM cI cJ aM hM u43) := by rw [eu43]; exact hD
            refine lv_goto (tgt := 247) hx hb dX7_readSign_155 (by decide) ?_
            exact J247_5 x29 u43 _ _ _ hm hP hD hS (lv_sub hl [0, 1, 2, 3] rfl)
          obtain ⟨K148_44, eK148_44, hm⟩ := bnd_ex hm
          have J148_44 : ∀ (H : Heap) (locs : List Loc) (ls : Array Slot), K148_44 = some o → va_P (dC, dI) vwCl (wM cI cJ aM hM u38) H → va_D A (wM cI cJ aM hM u38) → va_S A s.heap H locs → lv_has ls 8 [(0, .ref aM), (1, .int p1), (2, .int x2), (3, .int x29), (4, .int x27), (5, .long y37), (7, .int x33)] → W p l e ({ frames := 4, cells := 0, slots := 0, locals := 93 } : Room) s m ([.ref aM, .int p1] : List Value).toArray below meth c H locs 0 0 Q (F0 m 148 ls [.int p1, .ref (hM 33)]) := by
            intro H locs ls hm hP hD hS hl
            have hm := ap0 eK148_44 hm
            refine lv_aload_n hx hb dX7_readSign_148 rfl (lv_at hl 0 rfl) ?_
            refine va_get (D := (dC, dI)) (ci := 8) (v := .ref (hM 33)) (C := RX7) (T := TX7) (N := 34) hx hb ht inX7 hown hK hP 0 rfl rfl 33 (by decide) (ht _ kw_111) (fun _ h9 => h9) rfl dX7_readSign_149 ?_
            refine lv_iload_n hx hb dX7_readSign_152 rfl (lv_at hl 1 rfl) ?_
            obtain ⟨g45, hm⟩ := gdi_of hm
            refine va_lald hx hb hK hP 14 1 rfl rfl g45 dX7_readSign_153 ?_
            exact J154_41 (u38.2.2.1 33 (p1).toNatClampNeg) _ _ _ hm hP hD hS (lv_sub hl [0, 1, 2, 3, 4, 5, 6] rfl)
          refine lv_if_ne (tgt := 148) hx hb dX7_readSign_135 (by decide) (fun c46 => ?_) (fun c46 => ?_)
          · have hm := ite_f c46 hm
            exact J148_44 _ _ _ hm hP hD hS (lv_sub hl [0, 1, 2, 3, 4, 5, 6] rfl)
          · have hm := ite_t c46 hm
            refine lv_iload hx hb dX7_readSign_138 (lv_at hl 6 rfl) ?_
            refine lv_if_ne (tgt := 148) hx hb dX7_readSign_140 (by decide) (fun c47 => ?_) (fun c47 => ?_)
            · have hm := ite_f c47 hm
              exact J148_44 _ _ _ hm hP hD hS (lv_sub hl [0, 1, 2, 3, 4, 5, 6] rfl)
            · have hm := ite_t c47 hm
              refine lv_lload hx hb dX7_readSign_143 (lv_at hl 5 rfl) ?_
              refine lv_goto (tgt := 154) hx hb dX7_readSign_145 (by decide) ?_
              exact J154_41 y37 _ _ _ hm hP hD hS (lv_sub hl [0, 1, 2, 3, 4, 5, 6] rfl)
        have LP93 : ∀ (n93 : Nat) (y35 : Int64) (u36 : OS) (H : Heap) (locs : List Loc) (ls : Array Slot), f_X7_readSign_L93 x2 n93 K126_39 y35 u36 = some o → va_P (dC, dI) vwCl (wM cI cJ aM hM u36) H → va_D A (wM cI cJ aM hM u36) → va_S A s.heap H locs → lv_has ls 8 [(0, .ref aM), (1, .int p1), (2, .int x2), (3, .int x29), (4, .int x27), (5, .long y35), (7, .int x33)] → W p l e ({ frames := 4, cells := 0, slots := 0, locals := 93 } : Room) s m ([.ref aM, .int p1] : List Value).toArray below meth c H locs 0 0 Q (F0 m 93 ls []) := by
          intro n93
          induction n93 with
          | zero => intro y35 u36 H locs ls hm; exact nomatch (show (none : Option _) = some _ from hm)
          | succ n93 ih93 =>
            intro y35 u36 H locs ls hm hP hD hS hl
            unfold f_X7_readSign_L93 at hm
            refine lv_lload hx hb dX7_readSign_93 (lv_at hl 5 rfl) ?_
            refine lv_lconst (v := (1 : Int64)) hx hb dX7_readSign_95 (by decide) ?_
            refine lv_iload_n hx hb dX7_readSign_96 rfl (lv_at hl 2 rfl) ?_
            refine lv_lshl hx hb dX7_readSign_97 rfl ?_
            refine W.lcmp hx hb dX7_readSign_98 ?_
            refine lv_if_ge (tgt := 126) hx hb dX7_readSign_99 (by decide) (fun c48 => ?_) (fun c48 => ?_)
            · have c48 := lgc_ge.mp c48
              have hm := ite_t c48 hm
              exact X126_39 y35 u36 _ _ _ hm hP hD hS (lv_sub hl [0, 1, 2, 3, 4, 5, 6] rfl)
            · have c48 := mt lgc_ge.mpr c48
              have hm := ite_f c48 hm
              refine lv_aload_n hx hb dX7_readSign_102 rfl (lv_at hl 0 rfl) ?_
              refine va_get (D := (dC, dI)) (ci := 8) (v := .int (u36.1 27)) (C := RX7) (T := TX7) (N := 34) hx hb ht inX7 hown hK hP 0 rfl rfl 27 (by decide) (ht _ kw_95) (fun _ h9 => h9) rfl dX7_readSign_103 ?_
              refine lv_if_ne (tgt := 126) hx hb dX7_readSign_106 (by decide) (fun c49 => ?_) (fun c49 => ?_)
              · have hm := ite_f c49 hm
                exact X126_39 y35 u36 _ _ _ hm hP hD hS (lv_sub hl [0, 1, 2, 3, 4, 5, 6] rfl)
              · have hm := ite_t c49 hm
                refine lv_ldc2 (v := (2 : Int64)) hx hb hown (ht _ kw_12) dX7_readSign_109 ?_
                refine lv_lload hx hb dX7_readSign_112 (lv_at hl 5 rfl) ?_
                refine lv_lmul hx hb dX7_readSign_114 ?_
                refine lv_aload_n hx hb dX7_readSign_115 rfl (lv_at hl 0 rfl) ?_
                have hPc : va_P (dC, dI) vwCl (wM cI cJ aM hM u36) _ := hP
                have hDc : va_D A (wM cI cJ aM hM u36) := hD
                have hFc := va_free (wc := (wM cI cJ aM hM u36)) hD hS hA [0, 1, 2, 3, 4, 5, 6, 7, 8, 9, 10, 11, 12, 13, 14] rfl
                obtain ⟨u50o, r51o, e52, hm⟩ := oC2_of hm
                refine va_calli (va_runV (As := []) (rest := [.long ((2 : Int64) * y35)]) ⟨hx, hb, hml, hown, ht⟩ (c_X7_nextBit l dC dI cI cJ aM hM H.size u36 (u50o, r51o) e52) (cwV 0 ht (gdV kw_109 kw_107 kw_108 kw_7 kw_106) rfl rfl rfl ⟨rfl, nd_X7_nextBit⟩ ⟨Nat.le_of_ble_eq_true rfl, Nat.le_of_ble_eq_true rfl⟩) ⟨pcW_blind, va_recv hK hPc (ci := 8) (q0 := 0) rfl rfl, pcW_pre hPc hK hDc hN⟩ rfl rfl hl.1 rfl (lv_room (Nat.le_of_ble_eq_true rfl)) dX7_readSign_116 ⟨Nat.zero_le _, Nat.zero_le _⟩) hS (fun q _ z => hFc q z) hFc (fun r51 uu t H1 locs ht1 hvm hw hB hz1 hk1 hS => ?_)
                obtain ⟨u50, rfl⟩ : ∃ z, z = uu := ⟨_, rfl⟩
                obtain ⟨hP1, hD1⟩ := hB
                rw [ht1] at hP1
                obtain ⟨q0, q1⟩ := inj2 hw
                subst q0
                subst q1
                have hP : va_P (dC, dI) vwCl (wM cI cJ aM hM u50) H1 := hP1
                have hD : va_D A (wM cI cJ aM hM u50) := hD1.weaken (fun _ q _ z => hFc q.1 z)
                generalize H1 = H at hP hS ⊢
                refine lv_i2l hx hb dX7_readSign_119 rfl ?_
                refine lv_ladd hx hb dX7_readSign_120 ?_
                refine lv_topl (fun y53 ey53 => ?_)
                have hm := bnd_nm ey53 hm
                refine lv_lstore (lv' := [(5, .long y53), (0, .ref aM), (1, .int p1), (2, .int x2), (3, .int x29), (4, .int x27), (7, .int x33)]) hx hb dX7_readSign_121 hl (by decide) rfl (fun ls hl => ?_)
                refine lv_goto (tgt := 93) hx hb dX7_readSign_123 (by decide) ?_
                exact ih93 y53 u50 _ _ _ hm hP hD hS (lv_sub hl [1, 2, 3, 4, 5, 0, 6] rfl)
        exact LP93 FU y31 uM _ _ _ hm hP hD hS (lv_sub hl [1, 2, 3, 4, 5, 6, 0] rfl)
      refine lv_icmp_ne (tgt := 90) hx hb dX7_readSign_83 (by decide) (fun c54 => ?_) (fun c54 => ?_)
      · have hm := ite_f c54 hm
        refine lv_iconst (v := (0 : Int32)) hx hb dX7_readSign_90 (by decide) ?_
        exact J91_34 (0 : Int32) _ _ _ hm hP hD hS (lv_sub hl [4, 5, 3, 1, 2, 0] rfl)
      · have hm := ite_t c54 hm
        refine lv_iconst (v := (1 : Int32)) hx hb dX7_readSign_86 (by decide) ?_
        refine lv_goto (tgt := 91) hx hb dX7_readSign_87 (by decide) ?_
        exact J91_34 (1 : Int32) _ _ _ hm hP hD hS (lv_sub hl [4, 5, 3, 1, 2, 0] rfl)
  · have hm := ite_t c10 hm
    refine lv_aload_n hx hb dX7_readSign_15 rfl (lv_at hl 1 rfl) ?_
    refine lv_iload_n hx hb dX7_readSign_16 rfl (lv_at hl 2 rfl) ?_
    have hPc : va_P (dC, dI) vwCl (wM cI cJ aM hM uM) _ := hP
    have hDc : va_D A (wM cI cJ aM hM uM) := hD
    have hFc := va_free (wc := (wM cI cJ aM hM uM)) hD hS hA [0, 1, 2, 3, 4, 5, 6, 7, 8, 9, 10, 11, 12, 13, 14] rfl
    obtain ⟨u55o, r56o, e57, hm⟩ := oC2_of hm
    refine va_calli (va_runV (As := [.int p1]) (rest := []) ⟨hx, hb, hml, hown, ht⟩ (c_X7_readSides l dC dI cI cJ aM hM H.size uM p1 (u55o, r56o) e57) (cwV 1 ht (gdV kw_133 kw_131 kw_132 kw_7 kw_130) rfl rfl rfl ⟨rfl, nd_X7_readSides⟩ ⟨Nat.le_of_ble_eq_true rfl, Nat.le_of_ble_eq_true rfl⟩) ⟨pcW_blind, va_recv hK hPc (ci := 8) (q0 := 0) rfl rfl, pcW_pre hPc hK hDc hN⟩ rfl rfl hl.1 rfl (lv_room (Nat.le_of_ble_eq_true rfl)) dX7_readSign_17 ⟨Nat.zero_le _, Nat.zero_le _⟩) hS (fun q _ z => hFc q z) hFc (fun r56 uu t H1 locs ht1 hvm hw hB hz1 hk1 hS => ?_)
    obtain ⟨u55, rfl⟩ : ∃ z, z = uu := ⟨_, rfl⟩
    obtain ⟨hP1, hD1⟩ := hB
    rw [ht1] at hP1
    obtain ⟨q0, q1⟩ := inj2 hw
    subst q0
    subst q1
    have hP : va_P (dC, dI) vwCl (wM cI cJ aM hM u55) H1 := hP1
    have hD : va_D A (wM cI cJ aM hM u55) := hD1.weaken (fun _ q _ z => hFc q.1 z)
    generalize H1 = H at hP hS ⊢
    refine lv_istore_n (lv' := [(3, .int r56), (2, .int x2), (0, .ref aM), (1, .int p1)]) hx hb dX7_readSign_20 rfl hl (by decide) rfl (fun ls hl => ?_)
    refine lv_goto (tgt := 247) hx hb dX7_readSign_21 (by decide) ?_
    exact J247_5 r56 u55 _ _ _ hm hP hD hS (lv_sub hl [2, 3, 1, 0] rfl)

def f_X7_readHead (uM : OS) : Option (OS × Int32) :=
  oC2 (f_X7_next uM) fun u1 r2 =>
  bnd (fun (u4 : OS) =>
  bnd (sF u4 30 (r2 >>> ((2 : Int32) &&& (31 : Int32)))) fun u6 =>
  bnd (sF u6 31 ((1 : Int32) <<< ((r2 &&& (3 : Int32)) &&& (31 : Int32)))) fun u7 =>
  oC2 (f_X7_next u7) fun u8 r9 =>
  bnd (fun (u11 : OS) =>
  if (u11.1 27) = (0 : Int32) then (
  gdi (1 : Int32) 2 <|
  bnd (sA u11 10 (1 : Int32) r9) fun u20 =>
  oC2 (f_X7_nextWide u20 (2 : Int32)) fun u21 r22 =>
  some (u21, (r22).toInt32)) else (
  gdi (1 : Int32) 2 <|
  bnd (sA u11 10 (1 : Int32) (5 : Int32)) fun u15 =>
  oC2 (f_X7_nextWide u15 (2 : Int32)) fun u16 r17 =>
  some (u16, (r17).toInt32))) fun K74_12 =>
  if (u8.1 27) = (0 : Int32) then (
  bnd (oC1 (f_X7_fail u8 (2 : Int32)) fun u26 =>
  K74_12 u26) fun K69_25 =>
  if r9 < (5 : Int32) then (
  K69_25) else (
  if r9 ≤ (12 : Int32) then (
  K74_12 u8) else (
  K69_25))) else (
  K74_12 u8)) fun K30_5 =>
  if (u1.1 27) = (0 : Int32) then (
  bnd (oC1 (f_X7_fail u1 (2 : Int32)) fun u32 =>
  K30_5 u32) fun K25_31 =>
  if (15 : Int32) < r2 then (
  K25_31) else (
  if (r2 &&& (3 : Int32)) = (3 : Int32) then (
  K25_31) else (
  K30_5 u1))) else (
  K30_5 u1)

set_option maxHeartbeats 4000000 in
set_option maxRecDepth 100000 in
theorem c_X7_readHead (l : Launch) (dC : Nat → ClassId) (dI : Nat → Nat → Nat) (cI cJ : ClassId) (aM : Nat) (hM : Nat → Nat) (sz : Nat) (uM : OS) (o : OS × Int32) (hm : f_X7_readHead uM = some o) : Met l yX7_readHead (wq yX7_readHead cX7_readHead 3 (some .int)) ({ frames := 3, cells := 0, slots := 0, locals := 65 } : Room) (va_Pc [.ref aM] (pcW dC dI cI cJ sz (wM cI cJ aM hM uM))) (va_Qi (S := OS) (fun r u => some (u, r) = some o) (fun (u : OS) t => va_P (dC, dI) vwCl (wM cI cJ aM hM u) t.heap ∧ va_D (va_A (wM cI cJ aM hM uM) sz) (wM cI cJ aM hM u)) (va_A (wM cI cJ aM hM uM) sz)) 0 0 (va_A (wM cI cJ aM hM uM) sz) := by
  refine Met.ofW (cc := cX7_readHead) (maxL := 3) (ret := (some .int)) (by decide) rfl ?_
  intro p e s m args below meth c s₁ B hml hv
  obtain ⟨rfl, hsz, hP, hK, hD0, hN⟩ := hv
  have hx := B.exec
  have hb := B.bytes
  have hr := B.returns
  have ht : ∀ w ∈ lw_good, w.before _ s = true := fun w h => atoms_spec (ws := wq yX7_readHead cX7_readHead 3 (some .int)) B.pre w (wq_mem h)
  have hown : s.vm.findClass RX7 = some m.cls := findClass_of_methodNamed B.named
  have hlocks := B.notSynchronized
  subst hsz
  have hD := hD0.self (sz := s.heap.size)
  generalize hAe : va_A (wM cI cJ aM hM uM) s.heap.size = A at hD ⊢
  have hA : ∀ q : Nat, s.heap.size ≤ q → A q := fun q h => by rw [← hAe]; exact Or.inr h
  have hS : va_S A s.heap s.heap [] := va_S.rf
  have hl := lv_entry ([.ref aM]) (n := 3) (Nat.le_of_ble_eq_true rfl)
  rw [lg_entry_eq]
  generalize (lg_sl ([.ref aM]) ++ List.replicate (3 - (lg_sl ([.ref aM])).length) Slot.unset).toArray = ls at hl ⊢
  have hl : lv_has ls 3 [(0, .ref aM)] := hl
  generalize hQ : MQ below _ _ s _ _ _ = Q
  generalize hH : s.heap = H at hP ⊢
  have hS : va_S A s.heap H [] := by rw [← hH]; exact va_S.rf
  show W p l e ({ frames := 3, cells := 0, slots := 0, locals := 65 } : Room) s m ([.ref aM] : List Value).toArray below meth c H [] 0 0 Q (F0 m 0 ls [])
  unfold f_X7_readHead at hm
  refine lv_aload_n hx hb dX7_readHead_0 rfl (lv_at hl 0 rfl) ?_
  have hPc : va_P (dC, dI) vwCl (wM cI cJ aM hM uM) _ := hP
  have hDc : va_D A (wM cI cJ aM hM uM) := hD
  have hFc := va_free (wc := (wM cI cJ aM hM uM)) hD hS hA [0, 1, 2, 3, 4, 5, 6, 7, 8, 9, 10, 11, 12, 13, 14] rfl
  obtain ⟨u1o, r2o, e3, hm⟩ := oC2_of hm
  refine va_calli (va_runV (As := []) (rest := []) ⟨hx, hb, hml, hown, ht⟩ (c_X7_next l dC dI cI cJ aM hM H.size uM (u1o, r2o) e3) (cwV 0 ht (gdV kw_104 kw_102 kw_103 kw_7 kw_101) rfl rfl rfl ⟨rfl, nd_X7_next⟩ ⟨Nat.le_of_ble_eq_true rfl, Nat.le_of_ble_eq_true rfl⟩) ⟨pcW_blind, va_recv hK hPc (ci := 8) (q0 := 0) rfl rfl, pcW_pre hPc hK hDc hN⟩ rfl rfl hl.1 rfl (lv_room (Nat.le_of_ble_eq_true rfl)) dX7_readHead_1 ⟨Nat.zero_le _, Nat.zero_le _⟩) hS (fun q _ z => hFc q z) hFc (fun r2 uu t H1 locs ht1 hvm hw hB hz1 hk1 hS => ?_)
  obtain ⟨u1, rfl⟩ : ∃ z, z = uu := ⟨_, rfl⟩
  obtain ⟨hP1, hD1⟩ := hB
  rw [ht1] at hP1
  obtain ⟨q0, q1⟩ := inj2 hw
  subst q0
  subst q1
  have hP : va_P (dC, dI) vwCl (wM cI cJ aM hM u1) H1 := hP1
  have hD : va_D A (wM cI cJ aM hM u1) := hD1.weaken (fun _ q _ z => hFc q.1 z)
  generalize H1 = H at hP hS ⊢
  refine lv_istore_n (lv' := [(1, .int r2), (0, .ref aM)]) hx hb dX7_readHead_4 rfl hl (by decide) rfl (fun ls hl => ?_)
  refine lv_aload_n hx hb dX7_readHead_5 rfl (lv_at hl 1 rfl) ?_
  refine va_get (D := (dC, dI)) (ci := 8) (v := .int (u1.1 27)) (C := RX7) (T := TX7) (N := 34) hx hb ht inX7 hown hK hP 0 rfl rfl 27 (by decide) (ht _ kw_95) (fun _ h9 => h9) rfl dX7_readHead_6 ?_
  obtain ⟨K30_5, eK30_5, hm⟩ := bnd_ex hm
  have J30_5 : ∀ (u4 : OS) (H : Heap) (locs : List Loc) (ls : Array Slot), K30_5 u4 = some o → va_P (dC, dI) vwCl (wM cI cJ aM hM u4) H → va_D A (wM cI cJ aM hM u4) → va_S A s.heap H locs → lv_has ls 3 [(0, .ref aM), (1, .int r2)] → W p l e ({ frames := 3, cells := 0, slots := 0, locals := 65 } : Room) s m ([.ref aM] : List Value).toArray below meth c H locs 0 0 Q (F0 m 30 ls []) := by
    intro u4 H locs ls hm hP hD hS hl
    have hm := ap1 eK30_5 hm
    refine lv_aload_n hx hb dX7_readHead_30 rfl (lv_at hl 0 rfl) ?_
    refine lv_iload_n hx hb dX7_readHead_31 rfl (lv_at hl 1 rfl) ?_
    refine lv_iconst (v := (2 : Int32)) hx hb dX7_readHead_32 (by decide) ?_
    refine lv_ishr hx hb dX7_readHead_33 ?_
    refine va_put (D := (dC, dI)) (ci := 8) (v := .int (r2 >>> ((2 : Int32) &&& (31 : Int32)))) (ty := .int) (C := RX7) (T := TX7) (N := 34) hx hb ht inX7 tyX7 tyX7_ok nmX7 hown hK hP hD hS 0 rfl rfl 30 (by decide) (ht _ kw_110) (fun _ h9 => h9) rfl (by decide +kernel) rfl rfl (Nat.le_of_ble_eq_true rfl) dX7_readHead_34 (fun H locs hP hD hS => ?_)
    obtain ⟨u6, eu6, hm⟩ := bnd_ex hm
    have hP : va_P (dC, dI) vwCl (wM cI cJ aM hM u6) H := by rw [eu6]; exact hP
    have hD : va_D A (wM cI cJ aM hM u6) := by rw [eu6]; exact hD
    refine lv_aload_n hx hb dX7_readHead_37 rfl (lv_at hl 0 rfl) ?_
    refine lv_iconst (v := (1 : Int32)) hx hb dX7_readHead_38 (by decide) ?_
    refine lv_iload_n hx hb dX7_readHead_39 rfl (lv_at hl 1 rfl) ?_
    refine lv_iconst (v := (3 : Int32)) hx hb dX7_readHead_40 (by decide) ?_
    refine lv_iand hx hb dX7_readHead_41 ?_
    refine lv_ishl hx hb dX7_readHead_42 ?_
    refine va_put (D := (dC, dI)) (ci := 8) (v := .int ((1 : Int32) <<< ((r2 &&& (3 : Int32)) &&& (31 : Int32)))) (ty := .int) (C := RX7) (T := TX7) (N := 34) hx hb ht inX7 tyX7 tyX7_ok nmX7 hown hK hP hD hS 0 rfl rfl 31 (by decide) (ht _ kw_134) (fun _ h9 => h9) rfl (by decide +kernel) rfl rfl (Nat.le_of_ble_eq_true rfl) dX7_readHead_43 (fun H locs hP hD hS => ?_)
    obtain ⟨u7, eu7, hm⟩ := bnd_ex hm
    have hP : va_P (dC, dI) vwCl (wM cI cJ aM hM u7) H := by rw [eu7]; exact hP
    have hD : va_D A (wM cI cJ aM hM u7) := by rw [eu7]; exact hD
    refine lv_aload_n hx hb dX7_readHead_46 rfl (lv_at hl 0 rfl) ?_
    have hPc : va_P (dC, dI) vwCl (wM cI cJ aM hM u7) _ := hP
    have hDc : va_D A (wM cI cJ aM hM u7) := hD
    have hFc := va_free (wc := (wM cI cJ aM hM u7)) hD hS hA [0, 1, 2, 3, 4, 5, 6, 7, 8, 9, 10, 11, 12, 13, 14] rfl
    obtain ⟨u8o, r9o, e10, hm⟩ := oC2_of hm
    refine va_calli (va_runV (As := []) (rest := []) ⟨hx, hb, hml, hown, ht⟩ (c_X7_next l dC dI cI cJ aM hM H.size u7 (u8o, r9o) e10) (cwV 0 ht (gdV kw_104 kw_102 kw_103 kw_7 kw_101) rfl rfl rfl ⟨rfl, nd_X7_next⟩ ⟨Nat.le_of_ble_eq_true rfl, Nat.le_of_ble_eq_true rfl⟩) ⟨pcW_blind, va_recv hK hPc (ci := 8) (q0 := 0) rfl rfl, pcW_pre hPc hK hDc hN⟩ rfl rfl hl.1 rfl (lv_room (Nat.le_of_ble_eq_true rfl)) dX7_readHead_47 ⟨Nat.zero_le _, Nat.zero_le _⟩) hS (fun q _ z => hFc q z) hFc (fun r9 uu t H1 locs ht1 hvm hw hB hz1 hk1 hS => ?_)
    obtain ⟨u8, rfl⟩ : ∃ z, z = uu := ⟨_, rfl⟩
    obtain ⟨hP1, hD1⟩ := hB
    rw [ht1] at hP1
    obtain ⟨q0, q1⟩ := inj2 hw
    subst q0
    subst q1
    have hP : va_P (dC, dI) vwCl (wM cI cJ aM hM u8) H1 := hP1
    have hD : va_D A (wM cI cJ aM hM u8) := hD1.weaken (fun _ q _ z => hFc q.1 z)
    generalize H1 = H at hP hS ⊢
    refine lv_istore_n (lv' := [(2, .int r9), (0, .ref aM), (1, .int r2)]) hx hb dX7_readHead_50 rfl hl (by decide) rfl (fun ls hl => ?_)
    refine lv_aload_n hx hb dX7_readHead_51 rfl (lv_at hl 1 rfl) ?_
    refine va_get (D := (dC, dI)) (ci := 8) (v := .int (u8.1 27)) (C := RX7) (T := TX7) (N := 34) hx hb ht inX7 hown hK hP 0 rfl rfl 27 (by decide) (ht _ kw_95) (fun _ h9 => h9) rfl dX7_readHead_52 ?_
    obtain ⟨K74_12, eK74_12, hm⟩ := bnd_ex hm
    have J74_12 : ∀ (u11 : OS) (H : Heap) (locs : List Loc) (ls : Array Slot), K74_12 u11 = some o → va_P (dC, dI) vwCl (wM cI cJ aM hM u11) H → va_D A (wM cI cJ aM hM u11) → va_S A s.heap H locs → lv_has ls 3 [(0, .ref aM), (1, .int r2), (2, .int r9)] → W p l e ({ frames := 3, cells := 0, slots := 0, locals := 65 } : Room) s m ([.ref aM] : List Value).toArray below meth c H locs 0 0 Q (F0 m 74 ls []) := by
      intro u11 H locs ls hm hP hD hS hl
      have hm := ap1 eK74_12 hm
      refine lv_aload_n hx hb dX7_readHead_74 rfl (lv_at hl 0 rfl) ?_
      refine va_get (D := (dC, dI)) (ci := 8) (v := .ref (hM 10)) (C := RX7) (T := TX7) (N := 34) hx hb ht inX7 hown hK hP 0 rfl rfl 10 (by decide) (ht _ kw_19) (fun _ h9 => h9) rfl dX7_readHead_75 ?_
      refine lv_iconst (v := (1 : Int32)) hx hb dX7_readHead_78 (by decide) ?_
      refine lv_aload_n hx hb dX7_readHead_79 rfl (lv_at hl 0 rfl) ?_
      refine va_get (D := (dC, dI)) (ci := 8) (v := .int (u11.1 27)) (C := RX7) (T := TX7) (N := 34) hx hb ht inX7 hown hK hP 0 rfl rfl 27 (by decide) (ht _ kw_95) (fun _ h9 => h9) rfl dX7_readHead_80 ?_
      refine lv_if_ne (tgt := 90) hx hb dX7_readHead_83 (by decide) (fun c13 => ?_) (fun c13 => ?_)
      · have hm := ite_f c13 hm
        refine lv_iconst (v := (5 : Int32)) hx hb dX7_readHead_90 (by decide) ?_
        obtain ⟨g14, hm⟩ := gdi_of hm
        refine va_iast hx hb hK hP hD hS 5 0 rfl rfl g14 dX7_readHead_91 (fun H locs hP hD hS => ?_)
        obtain ⟨u15, eu15, hm⟩ := bnd_ex hm
        have hP : va_P (dC, dI) vwCl (wM cI cJ aM hM u15) H := by rw [eu15]; exact hP
        have hD : va_D A (wM cI cJ aM hM u15) := by rw [eu15]; exact hD
        refine lv_aload_n hx hb dX7_readHead_92 rfl (lv_at hl 0 rfl) ?_
        refine lv_iconst (v := (2 : Int32)) hx hb dX7_readHead_93 (by decide) ?_
        have hPc : va_P (dC, dI) vwCl (wM cI cJ aM hM u15) _ := hP
        have hDc : va_D A (wM cI cJ aM hM u15) := hD
        have hFc := va_free (wc := (wM cI cJ aM hM u15)) hD hS hA [0, 1, 2, 3, 4, 5, 6, 7, 8, 9, 10, 11, 12, 13, 14] rfl
        obtain ⟨u16o, r17o, e18, hm⟩ := oC2_of hm
        refine va_calll (va_runV (As := [.int (2 : Int32)]) (rest := []) ⟨hx, hb, hml, hown, ht⟩ (c_X7_nextWide l dC dI cI cJ aM hM H.size u15 (2 : Int32) (u16o, r17o) e18) (cwV 1 ht (gdV kw_115 kw_113 kw_114 kw_7 kw_112) rfl rfl rfl ⟨rfl, nd_X7_nextWide⟩ ⟨Nat.le_of_ble_eq_true rfl, Nat.le_of_ble_eq_true rfl⟩) ⟨pcW_blind, va_recv hK hPc (ci := 8) (q0 := 0) rfl rfl, pcW_pre hPc hK hDc hN⟩ rfl rfl hl.1 rfl (lv_room (Nat.le_of_ble_eq_true rfl)) dX7_readHead_94 ⟨Nat.zero_le _, Nat.zero_le _⟩) hS (fun q _ z => hFc q z) hFc (fun r17 uu t H1 locs ht1 hvm hw hB hz1 hk1 hS => ?_)
        obtain ⟨u16, rfl⟩ : ∃ z, z = uu := ⟨_, rfl⟩
        obtain ⟨hP1, hD1⟩ := hB
        rw [ht1] at hP1
        obtain ⟨q0, q1⟩ := inj2 hw
        subst q0
        subst q1
        have hP : va_P (dC, dI) vwCl (wM cI cJ aM hM u16) H1 := hP1
        have hD : va_D A (wM cI cJ aM hM u16) := hD1.weaken (fun _ q _ z => hFc q.1 z)
        generalize H1 = H at hP hS ⊢
        refine lv_l2i hx hb dX7_readHead_97 rfl ?_
        rw [← hQ]
        exact W.iret (v := (r17).toInt32) hx hb hr (fun t ht1 hW => ⟨⟨_, u16, rfl, hm, by rw [ht1]; exact hP, hD⟩, hS.F ht1⟩) hS.2.2 dX7_readHead_98
      · have hm := ite_t c13 hm
        refine lv_iload_n hx hb dX7_readHead_86 rfl (lv_at hl 2 rfl) ?_
        refine lv_goto (tgt := 91) hx hb dX7_readHead_87 (by decide) ?_
        obtain ⟨g19, hm⟩ := gdi_of hm
        refine va_iast hx hb hK hP hD hS 5 0 rfl rfl g19 dX7_readHead_91 (fun H locs hP hD hS => ?_)
        obtain ⟨u20, eu20, hm⟩ := bnd_ex hm
        have hP : va_P (dC, dI) vwCl (wM cI cJ aM hM u20) H := by rw [eu20]; exact hP
        have hD : va_D A (wM cI cJ aM hM u20) := by rw [eu20]; exact hD
        refine lv_aload_n hx hb dX7_readHead_92 rfl (lv_at hl 0 rfl) ?_
        refine lv_iconst (v := (2 : Int32)) hx hb dX7_readHead_93 (by decide) ?_
        have hPc : va_P (dC, dI) vwCl (wM cI cJ aM hM u20) _ := hP
        have hDc : va_D A (wM cI cJ aM hM u20) := hD
        have hFc := va_free (wc := (wM cI cJ aM hM u20)) hD hS hA [0, 1, 2, 3, 4, 5, 6, 7, 8, 9, 10, 11, 12, 13, 14] rfl
        obtain ⟨u21o, r22o, e23, hm⟩ := oC2_of hm
        refine va_calll (va_runV (As := [.int (2 : Int32)]) (rest := []) ⟨hx, hb, hml, hown, ht⟩ (c_X7_nextWide l dC dI cI cJ aM hM H.size u20 (2 : Int32) (u21o, r22o) e23) (cwV 1 ht (gdV kw_115 kw_113 kw_114 kw_7 kw_112) rfl rfl rfl ⟨rfl, nd_X7_nextWide⟩ ⟨Nat.le_of_ble_eq_true rfl, Nat.le_of_ble_eq_true rfl⟩) ⟨pcW_blind, va_recv hK hPc (ci := 8) (q0 := 0) rfl rfl, pcW_pre hPc hK hDc hN⟩ rfl rfl hl.1 rfl (lv_room (Nat.le_of_ble_eq_true rfl)) dX7_readHead_94 ⟨Nat.zero_le _, Nat.zero_le _⟩) hS (fun q _ z => hFc q z) hFc (fun r22 uu t H1 locs ht1 hvm hw hB hz1 hk1 hS => ?_)
        obtain ⟨u21, rfl⟩ : ∃ z, z = uu := ⟨_, rfl⟩
        obtain ⟨hP1, hD1⟩ := hB
        rw [ht1] at hP1
        obtain ⟨q0, q1⟩ := inj2 hw
        subst q0
        subst q1
        have hP : va_P (dC, dI) vwCl (wM cI cJ aM hM u21) H1 := hP1
        have hD : va_D A (wM cI cJ aM hM u21) := hD1.weaken (fun _ q _ z => hFc q.1 z)
        generalize H1 = H at hP hS ⊢
        refine lv_l2i hx hb dX7_readHead_97 rfl ?_
        rw [← hQ]
        exact W.iret (v := (r22).toInt32) hx hb hr (fun t ht1 hW => ⟨⟨_, u21, rfl, hm, by rw [ht1]; exact hP, hD⟩, hS.F ht1⟩) hS.2.2 dX7_readHead_98
    refine lv_if_ne (tgt := 74) hx hb dX7_readHead_55 (by decide) (fun c24 => ?_) (fun c24 => ?_)
    · have hm := ite_f c24 hm
      exact J74_12 u8 _ _ _ hm hP hD hS (lv_sub hl [1, 2, 0] rfl)
    · have hm := ite_t c24 hm
      refine lv_iload_n hx hb dX7_readHead_58 rfl (lv_at hl 0 rfl) ?_
      refine lv_iconst (v := (5 : Int32)) hx hb dX7_readHead_59 (by decide) ?_
      obtain ⟨K69_25, eK69_25, hm⟩ := bnd_ex hm
      have J69_25 : ∀ (H : Heap) (locs : List Loc) (ls : Array Slot), K69_25 = some o → va_P (dC, dI) vwCl (wM cI cJ aM hM u8) H → va_D A (wM cI cJ aM hM u8) → va_S A s.heap H locs → lv_has ls 3 [(0, .ref aM), (1, .int r2), (2, .int r9)] → W p l e ({ frames := 3, cells := 0, slots := 0, locals := 65 } : Room) s m ([.ref aM] : List Value).toArray below meth c H locs 0 0 Q (F0 m 69 ls []) := by
        intro H locs ls hm hP hD hS hl
        have hm := ap0 eK69_25 hm
        refine lv_aload_n hx hb dX7_readHead_69 rfl (lv_at hl 0 rfl) ?_
        refine lv_iconst (v := (2 : Int32)) hx hb dX7_readHead_70 (by decide) ?_
        have hPc : va_P (dC, dI) vwCl (wM cI cJ aM hM u8) _ := hP
        have hDc : va_D A (wM cI cJ aM hM u8) := hD
        have hFc := va_free (wc := (wM cI cJ aM hM u8)) hD hS hA [0, 1, 2, 3, 4, 5, 6, 7, 8, 9, 10, 11, 12, 13, 14] rfl
        obtain ⟨u26o, e27, hm⟩ := oC1_of hm
        refine va_callv (va_runV (As := [.int (2 : Int32)]) (rest := []) ⟨hx, hb, hml, hown, ht⟩ (c_X7_fail l dC dI cI cJ aM hM H.size u8 (2 : Int32) u26o e27) (cwV 1 ht (gdV kw_100 kw_98 kw_99 kw_7 kw_97) rfl rfl rfl ⟨rfl, nd_X7_fail⟩ ⟨Nat.le_of_ble_eq_true rfl, Nat.le_of_ble_eq_true rfl⟩) ⟨pcW_blind, va_recv hK hPc (ci := 8) (q0 := 0) rfl rfl, pcW_pre hPc hK hDc hN⟩ rfl rfl hl.1 rfl (lv_room (Nat.le_of_ble_eq_true rfl)) dX7_readHead_71 ⟨Nat.zero_le _, Nat.zero_le _⟩) hS (fun q _ z => hFc q z) hFc (fun uu t H1 locs ht1 hvm hw hB hz1 hk1 hS => ?_)
        obtain ⟨u26, rfl⟩ : ∃ z, z = uu := ⟨_, rfl⟩
        obtain ⟨hP1, hD1⟩ := hB
        rw [ht1] at hP1
        obtain rfl : u26 = u26o := Option.some.inj hw
        have hP : va_P (dC, dI) vwCl (wM cI cJ aM hM u26) H1 := hP1
        have hD : va_D A (wM cI cJ aM hM u26) := hD1.weaken (fun _ q _ z => hFc q.1 z)
        generalize H1 = H at hP hS ⊢
        exact J74_12 u26 _ _ _ hm hP hD hS (lv_sub hl [0, 1, 2] rfl)
      refine lv_icmp_lt (tgt := 69) hx hb dX7_readHead_60 (by decide) (fun c28 => ?_) (fun c28 => ?_)
      · have hm := ite_t c28 hm
        exact J69_25 _ _ _ hm hP hD hS (lv_sub hl [1, 2, 0] rfl)
      · have hm := ite_f c28 hm
        refine lv_iload_n hx hb dX7_readHead_63 rfl (lv_at hl 0 rfl) ?_
        refine lv_bipush (v := (12 : Int32)) hx hb dX7_readHead_64 (by decide) ?_
        refine lv_icmp_le (tgt := 74) hx hb dX7_readHead_66 (by decide) (fun c29 => ?_) (fun c29 => ?_)
        · have hm := ite_t c29 hm
          exact J74_12 u8 _ _ _ hm hP hD hS (lv_sub hl [1, 2, 0] rfl)
        · have hm := ite_f c29 hm
          exact J69_25 _ _ _ hm hP hD hS (lv_sub hl [1, 2, 0] rfl)
  refine lv_if_ne (tgt := 30) hx hb dX7_readHead_9 (by decide) (fun c30 => ?_) (fun c30 => ?_)
  · have hm := ite_f c30 hm
    exact J30_5 u1 _ _ _ hm hP hD hS (lv_sub hl [1, 0] rfl)
  · have hm := ite_t c30 hm
    refine lv_iload_n hx hb dX7_readHead_12 rfl (lv_at hl 0 rfl) ?_
    refine lv_bipush (v := (15 : Int32)) hx hb dX7_readHead_13 (by decide) ?_
    obtain ⟨K25_31, eK25_31, hm⟩ := bnd_ex hm
    have J25_31 : ∀ (H : Heap) (locs : List Loc) (ls : Array Slot), K25_31 = some o → va_P (dC, dI) vwCl (wM cI cJ aM hM u1) H → va_D A (wM cI cJ aM hM u1) → va_S A s.heap H locs → lv_has ls 3 [(0, .ref aM), (1, .int r2)] → W p l e ({ frames := 3, cells := 0, slots := 0, locals := 65 } : Room) s m ([.ref aM] : List Value).toArray below meth c H locs 0 0 Q (F0 m 25 ls []) := by
      intro H locs ls hm hP hD hS hl
      have hm := ap0 eK25_31 hm
      refine lv_aload_n hx hb dX7_readHead_25 rfl (lv_at hl 0 rfl) ?_
      refine lv_iconst (v := (2 : Int32)) hx hb dX7_readHead_26 (by decide) ?_
      have hPc : va_P (dC, dI) vwCl (wM cI cJ aM hM u1) _ := hP
      have hDc : va_D A (wM cI cJ aM hM u1) := hD
      have hFc := va_free (wc := (wM cI cJ aM hM u1)) hD hS hA [0, 1, 2, 3, 4, 5, 6, 7, 8, 9, 10, 11, 12, 13, 14] rfl
      obtain ⟨u32o, e33, hm⟩ := oC1_of hm
      refine va_callv (va_runV (As := [.int (2 : Int32)]) (rest := []) ⟨hx, hb, hml, hown, ht⟩ (c_X7_fail l dC dI cI cJ aM hM H.size u1 (2 : Int32) u32o e33) (cwV 1 ht (gdV kw_100 kw_98 kw_99 kw_7 kw_97) rfl rfl rfl ⟨rfl, nd_X7_fail⟩ ⟨Nat.le_of_ble_eq_true rfl, Nat.le_of_ble_eq_true rfl⟩) ⟨pcW_blind, va_recv hK hPc (ci := 8) (q0 := 0) rfl rfl, pcW_pre hPc hK hDc hN⟩ rfl rfl hl.1 rfl (lv_room (Nat.le_of_ble_eq_true rfl)) dX7_readHead_27 ⟨Nat.zero_le _, Nat.zero_le _⟩) hS (fun q _ z => hFc q z) hFc (fun uu t H1 locs ht1 hvm hw hB hz1 hk1 hS => ?_)
      obtain ⟨u32, rfl⟩ : ∃ z, z = uu := ⟨_, rfl⟩
      obtain ⟨hP1, hD1⟩ := hB
      rw [ht1] at hP1
      obtain rfl : u32 = u32o := Option.some.inj hw
      have hP : va_P (dC, dI) vwCl (wM cI cJ aM hM u32) H1 := hP1
      have hD : va_D A (wM cI cJ aM hM u32) := hD1.weaken (fun _ q _ z => hFc q.1 z)
      generalize H1 = H at hP hS ⊢
      exact J30_5 u32 _ _ _ hm hP hD hS (lv_sub hl [0, 1] rfl)
    refine lv_icmp_gt (tgt := 25) hx hb dX7_readHead_15 (by decide) (fun c34 => ?_) (fun c34 => ?_)
    · have hm := ite_t c34 hm
      exact J25_31 _ _ _ hm hP hD hS (lv_sub hl [1, 0] rfl)
    · have hm := ite_f c34 hm
      refine lv_iload_n hx hb dX7_readHead_18 rfl (lv_at hl 0 rfl) ?_
      refine lv_iconst (v := (3 : Int32)) hx hb dX7_readHead_19 (by decide) ?_
      refine lv_iand hx hb dX7_readHead_20 ?_
      refine lv_iconst (v := (3 : Int32)) hx hb dX7_readHead_21 (by decide) ?_
      refine lv_icmp_ne (tgt := 30) hx hb dX7_readHead_22 (by decide) (fun c35 => ?_) (fun c35 => ?_)
      · have hm := ite_f c35 hm
        exact J30_5 u1 _ _ _ hm hP hD hS (lv_sub hl [1, 0] rfl)
      · have hm := ite_t c35 hm
        exact J25_31 _ _ _ hm hP hD hS (lv_sub hl [1, 0] rfl)

def f_X7_readAll_L244 : Nat → (Int32 → OS → Option (OS)) → Int32 → OS → Option (OS)
  | 0, _, _, _ => none
  | n244 + 1, K271_38, x34, u35 =>
    if (u35.1 29) ≤ (0 : Int32) then (
    K271_38 x34 u35) else (
    oC2 (f_X7_nextBit u35) fun u46 r47 =>
    if r47 = (0 : Int32) then (
    if x34 = (0 : Int32) then (
    f_X7_readAll_L244 n244 K271_38 (0 : Int32) u46) else (
    f_X7_readAll_L244 n244 K271_38 (1 : Int32) u46)) else (
    f_X7_readAll_L244 n244 K271_38 (0 : Int32) u46))

def f_X7_readAll_L186 : Nat → (Int32 → OS → Option (OS)) → Int32 → OS → Option (OS)
  | 0, _, _, _ => none
  | n186 + 1, K235_32, x28, u29 =>
    if (u29.1 31) ≤ x28 then (
    K235_32 x28 u29) else (
    if (u29.1 27) = (0 : Int32) then (
    gdi x28 4 <|
    gdi (1 : Int32) 2 <|
    oC1 (f_X7_firstState (u29.1 30) (u29.2.1 10 ((1 : Int32)).toNatClampNeg)) fun r55 =>
    if (u29.2.2.1 33 (x28).toNatClampNeg) = r55 then (
    bnd (x28 + (1 : Int32)) fun x58 =>
    f_X7_readAll_L186 n186 K235_32 x58 u29) else (
    oC1 (f_X7_fail u29 (5 : Int32)) fun u59 =>
    bnd (x28 + (1 : Int32)) fun x61 =>
    f_X7_readAll_L186 n186 K235_32 x61 u59)) else (
    K235_32 x28 u29))

def f_X7_readAll_L156 (r6 : Int32) : Nat → (Int32 → OS → Option (OS)) → Int32 → OS → Option (OS)
  | 0, _, _, _ => none
  | n156 + 1, K184_27, x23, u24 =>
    if r6 ≤ x23 then (
    K184_27 x23 u24) else (
    if (u24.1 27) = (0 : Int32) then (
    gdz (u24.1 31) <|
    oC1 (f_X7_readSign u24 (x23 - x23 / (u24.1 31) * (u24.1 31))) fun u65 =>
    bnd (x23 + (1 : Int32)) fun x67 =>
    f_X7_readAll_L156 r6 n156 K184_27 x67 u65) else (
    K184_27 x23 u24))

def f_X7_readAll_L51 : Nat → (Int32 → OS → Option (OS)) → Int32 → OS → Option (OS)
  | 0, _, _, _ => none
  | n51 + 1, K133_17, x13, u14 =>
    if (u14.1 31) ≤ x13 then (
    K133_17 x13 u14) else (
    if (u14.1 27) = (0 : Int32) then (
    bnd (fun (x71 : Int32) =>
    oC2 (f_X7_nextWide u14 x71) fun u73 r74 =>
    gdi x13 4 <|
    bnd (sL u73 33 x13 r74) fun u77 =>
    if (u77.1 27) = (0 : Int32) then (
    gdi x13 4 <|
    oC1 (f_X7_isInSpan u77 (u77.2.2.1 33 (x13).toNatClampNeg)) fun r81 =>
    if r81 = (0 : Int32) then (
    oC1 (f_X7_fail u77 (4 : Int32)) fun u85 =>
    bnd (x13 + (1 : Int32)) fun x87 =>
    f_X7_readAll_L51 n51 K133_17 x87 u85) else (
    bnd (x13 + (1 : Int32)) fun x84 =>
    f_X7_readAll_L51 n51 K133_17 x84 u77)) else (
    bnd (x13 + (1 : Int32)) fun x79 =>
    f_X7_readAll_L51 n51 K133_17 x79 u77)) fun K98_72 =>
    if (u14.1 30) = (1 : Int32) then (
    K98_72 (8 : Int32)) else (
    if (u14.1 30) = (2 : Int32) then (
    K98_72 (2 : Int32)) else (
    K98_72 (4 : Int32)))) else (
    K133_17 x13 u14))

def f_X7_readAll (uM : OS) : Option (OS) :=
  bnd (sF uM 25 (0 : Int32)) fun u1 =>
  bnd (sF u1 26 (0 : Int32)) fun u2 =>
  bnd (sF u2 27 (0 : Int32)) fun u3 =>
  bnd (sF u3 32 (0 : Int32)) fun u4 =>
  oC2 (f_X7_readHead u4) fun u5 r6 =>
  bnd (fun (u8 : OS) =>
  if (u8.1 27) ≤ (0 : Int32) then (
  oC1 (f_X7_lay u8 (1 : Int32)) fun u11 =>
  bnd (fun (x15 : Int32) (u16 : OS) =>
  bnd (fun (x18 : Int32) =>
  gdb x18 <|
  bnd (sF u16 32 x18) fun u20 =>
  bnd (sF u20 29 (0 : Int32)) fun u22 =>
  bnd (fun (x25 : Int32) (u26 : OS) =>
  bnd (fun (x30 : Int32) (u31 : OS) =>
  if (u31.1 27) = (0 : Int32) then (
  bnd (fun (x36 : Int32) (u37 : OS) =>
  if x36 = (0 : Int32) then (
  oC1 (f_X7_fail u37 (6 : Int32)) fun u40 =>
  some u40) else (
  if (u37.1 15) ≤ (u37.1 26) then (
  some u37) else (
  oC1 (f_X7_fail u37 (6 : Int32)) fun u43 =>
  some u43))) fun K271_38 =>
  f_X7_readAll_L244 FU K271_38 (1 : Int32) u31) else (
  some u31)) fun K235_32 =>
  f_X7_readAll_L186 FU K235_32 (0 : Int32) u26) fun K184_27 =>
  f_X7_readAll_L156 r6 FU K184_27 (0 : Int32) u22) fun K146_19 =>
  if (u16.1 27) = (0 : Int32) then (
  K146_19 (1 : Int32)) else (
  K146_19 (0 : Int32))) fun K133_17 =>
  f_X7_readAll_L51 FU K133_17 (0 : Int32) u11) else (
  some u8)) fun K36_9 =>
  if (u5.1 27) = (0 : Int32) then (
  oC1 (f_X7_readTable u5) fun u91 =>
  K36_9 u91) else (
  K36_9 u5)

set_option maxHeartbeats 4000000 in
set_option maxRecDepth 100000 in
theorem c_X7_readAll (l : Launch) (dC : Nat → ClassId) (dI : Nat → Nat → Nat) (cI cJ : ClassId) (aM : Nat) (hM : Nat → Nat) (sz : Nat) (uM : OS) (o : OS) (hm : f_X7_readAll uM = some o) : Met l yX7_readAll (wq yX7_readAll cX7_readAll 3 none) ({ frames := 5, cells := 0, slots := 0, locals := 120 } : Room) (va_Pc [.ref aM] (pcW dC dI cI cJ sz (wM cI cJ aM hM uM))) (va_Qv (S := OS) (fun u => some u = some o) (fun (u : OS) t => va_P (dC, dI) vwCl (wM cI cJ aM hM u) t.heap ∧ va_D (va_A (wM cI cJ aM hM uM) sz) (wM cI cJ aM hM u)) (va_A (wM cI cJ aM hM uM) sz)) 0 0 (va_A (wM cI cJ aM hM uM) sz) := by
  refine Met.ofW (cc := cX7_readAll) (maxL := 3) (ret := none) (by decide) rfl ?_
  intro p e s m args below meth c s₁ B hml hv
  obtain ⟨rfl, hsz, hP, hK, hD0, hN⟩ := hv
  have hx := B.exec
  have hb := B.bytes
  have hr := B.returns
  have ht : ∀ w ∈ lw_good, w.before _ s = true := fun w h => atoms_spec (ws := wq yX7_readAll cX7_readAll 3 none) B.pre w (wq_mem h)
  have hown : s.vm.findClass RX7 = some m.cls := findClass_of_methodNamed B.named
  have hlocks := B.notSynchronized
  subst hsz
  have hD := hD0.self (sz := s.heap.size)
  generalize hAe : va_A (wM cI cJ aM hM uM) s.heap.size = A at hD ⊢
  have hA : ∀ q : Nat, s.heap.size ≤ q → A q := fun q h => by rw [← hAe]; exact Or.inr h
  have hS : va_S A s.heap s.heap [] := va_S.rf
  have hl := lv_entry ([.ref aM]) (n := 3) (Nat.le_of_ble_eq_true rfl)
  rw [lg_entry_eq]
  generalize (lg_sl ([.ref aM]) ++ List.replicate (3 - (lg_sl ([.ref aM])).length) Slot.unset).toArray = ls at hl ⊢
  have hl : lv_has ls 3 [(0, .ref aM)] := hl
  generalize hQ : MQ below _ _ s _ _ _ = Q
  generalize hH : s.heap = H at hP ⊢
  have hS : va_S A s.heap H [] := by rw [← hH]; exact va_S.rf
  show W p l e ({ frames := 5, cells := 0, slots := 0, locals := 120 } : Room) s m ([.ref aM] : List Value).toArray below meth c H [] 0 0 Q (F0 m 0 ls [])
  unfold f_X7_readAll at hm
  refine lv_aload_n hx hb dX7_readAll_0 rfl (lv_at hl 0 rfl) ?_
  refine lv_iconst (v := (0 : Int32)) hx hb dX7_readAll_1 (by decide) ?_
  refine va_put (D := (dC, dI)) (ci := 8) (v := .int (0 : Int32)) (ty := .int) (C := RX7) (T := TX7) (N := 34) hx hb ht inX7 tyX7 tyX7_ok nmX7 hown hK hP hD hS 0 rfl rfl 25 (by decide) (ht _ kw_121) (fun _ h9 => h9) rfl (by decide +kernel) rfl rfl (Nat.le_of_ble_eq_true rfl) dX7_readAll_2 (fun H locs hP hD hS => ?_)
  obtain ⟨u1, eu1, hm⟩ := bnd_ex hm
  have hP : va_P (dC, dI) vwCl (wM cI cJ aM hM u1) H := by rw [eu1]; exact hP
  have hD : va_D A (wM cI cJ aM hM u1) := by rw [eu1]; exact hD
  refine lv_aload_n hx hb dX7_readAll_5 rfl (lv_at hl 0 rfl) ?_
  refine lv_iconst (v := (0 : Int32)) hx hb dX7_readAll_6 (by decide) ?_
  refine va_put (D := (dC, dI)) (ci := 8) (v := .int (0 : Int32)) (ty := .int) (C := RX7) (T := TX7) (N := 34) hx hb ht inX7 tyX7 tyX7_ok nmX7 hown hK hP hD hS 0 rfl rfl 26 (by decide) (ht _ kw_96) (fun _ h9 => h9) rfl (by decide +kernel) rfl rfl (Nat.le_of_ble_eq_true rfl) dX7_readAll_7 (fun H locs hP hD hS => ?_)
  obtain ⟨u2, eu2, hm⟩ := bnd_ex hm
  have hP : va_P (dC, dI) vwCl (wM cI cJ aM hM u2) H := by rw [eu2]; exact hP
  have hD : va_D A (wM cI cJ aM hM u2) := by rw [eu2]; exact hD
  refine lv_aload_n hx hb dX7_readAll_10 rfl (lv_at hl 0 rfl) ?_
  refine lv_iconst (v := (0 : Int32)) hx hb dX7_readAll_11 (by decide) ?_
  refine va_put (D := (dC, dI)) (ci := 8) (v := .int (0 : Int32)) (ty := .int) (C := RX7) (T := TX7) (N := 34) hx hb ht inX7 tyX7 tyX7_ok nmX7 hown hK hP hD hS 0 rfl rfl 27 (by decide) (ht _ kw_95) (fun _ h9 => h9) rfl (by decide +kernel) rfl rfl (Nat.le_of_ble_eq_true rfl) dX7_readAll_12 (fun H locs hP hD hS => ?_)
  obtain ⟨u3, eu3, hm⟩ := bnd_ex hm
  have hP : va_P (dC, dI) vwCl (wM cI cJ aM hM u3) H := by rw [eu3]; exact hP
  have hD : va_D A (wM cI cJ aM hM u3) := by rw [eu3]; exact hD
  refine lv_aload_n hx hb dX7_readAll_15 rfl (lv_at hl 0 rfl) ?_
  refine lv_iconst (v := (0 : Int32)) hx hb dX7_readAll_16 (by decide) ?_
  refine va_put (D := (dC, dI)) (ci := 8) (v := .int (0 : Int32)) (ty := .boolean) (C := RX7) (T := TX7) (N := 34) hx hb ht inX7 tyX7 tyX7_ok nmX7 hown hK hP hD hS 0 rfl rfl 32 (by decide) (ht _ kw_135) (fun _ h9 => h9) rfl (by decide +kernel) rfl rfl (Nat.le_of_ble_eq_true rfl) dX7_readAll_17 (fun H locs hP hD hS => ?_)
  obtain ⟨u4, eu4, hm⟩ := bnd_ex hm
  have hP : va_P (dC, dI) vwCl (wM cI cJ aM hM u4) H := by rw [eu4]; exact hP
  have hD : va_D A (wM cI cJ aM hM u4) := by rw [eu4]; exact hD
  refine lv_aload_n hx hb dX7_readAll_20 rfl (lv_at hl 0 rfl) ?_
  have hPc : va_P (dC, dI) vwCl (wM cI cJ aM hM u4) _ := hP
  have hDc : va_D A (wM cI cJ aM hM u4) := hD
  have hFc := va_free (wc := (wM cI cJ aM hM u4)) hD hS hA [0, 1, 2, 3, 4, 5, 6, 7, 8, 9, 10, 11, 12, 13, 14] rfl
  obtain ⟨u5o, r6o, e7, hm⟩ := oC2_of hm
  refine va_calli (va_runV (As := []) (rest := []) ⟨hx, hb, hml, hown, ht⟩ (c_X7_readHead l dC dI cI cJ aM hM H.size u4 (u5o, r6o) e7) (cwV 0 ht (gdV kw_139 kw_137 kw_138 kw_7 kw_136) rfl rfl rfl ⟨rfl, nd_X7_readHead⟩ ⟨Nat.le_of_ble_eq_true rfl, Nat.le_of_ble_eq_true rfl⟩) ⟨pcW_blind, va_recv hK hPc (ci := 8) (q0 := 0) rfl rfl, pcW_pre hPc hK hDc hN⟩ rfl rfl hl.1 rfl (lv_room (Nat.le_of_ble_eq_true rfl)) dX7_readAll_21 ⟨Nat.zero_le _, Nat.zero_le _⟩) hS (fun q _ z => hFc q z) hFc (fun r6 uu t H1 locs ht1 hvm hw hB hz1 hk1 hS => ?_)
  obtain ⟨u5, rfl⟩ : ∃ z, z = uu := ⟨_, rfl⟩
  obtain ⟨hP1, hD1⟩ := hB
  rw [ht1] at hP1
  obtain ⟨q0, q1⟩ := inj2 hw
  subst q0
  subst q1
  have hP : va_P (dC, dI) vwCl (wM cI cJ aM hM u5) H1 := hP1
  have hD : va_D A (wM cI cJ aM hM u5) := hD1.weaken (fun _ q _ z => hFc q.1 z)
  generalize H1 = H at hP hS ⊢
  refine lv_istore_n (lv' := [(1, .int r6), (0, .ref aM)]) hx hb dX7_readAll_24 rfl hl (by decide) rfl (fun ls hl => ?_)
  refine lv_aload_n hx hb dX7_readAll_25 rfl (lv_at hl 1 rfl) ?_
  refine va_get (D := (dC, dI)) (ci := 8) (v := .int (u5.1 27)) (C := RX7) (T := TX7) (N := 34) hx hb ht inX7 hown hK hP 0 rfl rfl 27 (by decide) (ht _ kw_95) (fun _ h9 => h9) rfl dX7_readAll_26 ?_
  obtain ⟨K36_9, eK36_9, hm⟩ := bnd_ex hm
  have J36_9 : ∀ (u8 : OS) (H : Heap) (locs : List Loc) (ls : Array Slot), K36_9 u8 = some o → va_P (dC, dI) vwCl (wM cI cJ aM hM u8) H → va_D A (wM cI cJ aM hM u8) → va_S A s.heap H locs → lv_has ls 3 [(0, .ref aM), (1, .int r6)] → W p l e ({ frames := 5, cells := 0, slots := 0, locals := 120 } : Room) s m ([.ref aM] : List Value).toArray below meth c H locs 0 0 Q (F0 m 36 ls []) := by
    intro u8 H locs ls hm hP hD hS hl
    have hm := ap1 eK36_9 hm
    refine lv_aload_n hx hb dX7_readAll_36 rfl (lv_at hl 0 rfl) ?_
    refine va_get (D := (dC, dI)) (ci := 8) (v := .int (u8.1 27)) (C := RX7) (T := TX7) (N := 34) hx hb ht inX7 hown hK hP 0 rfl rfl 27 (by decide) (ht _ kw_95) (fun _ h9 => h9) rfl dX7_readAll_37 ?_
    refine lv_if_le (tgt := 44) hx hb dX7_readAll_40 (by decide) (fun c10 => ?_) (fun c10 => ?_)
    · have hm := ite_t c10 hm
      refine lv_aload_n hx hb dX7_readAll_44 rfl (lv_at hl 0 rfl) ?_
      refine lv_iconst (v := (1 : Int32)) hx hb dX7_readAll_45 (by decide) ?_
      have hPc : va_P (dC, dI) vwCl (wM cI cJ aM hM u8) _ := hP
      have hDc : va_D A (wM cI cJ aM hM u8) := hD
      have hFc := va_free (wc := (wM cI cJ aM hM u8)) hD hS hA [0, 1, 2, 3, 4, 5, 6, 7, 8, 9, 10, 11, 12, 13, 14] rfl
      obtain ⟨u11o, e12, hm⟩ := oC1_of hm
      refine va_callv (va_runV (As := [.int (1 : Int32)]) (rest := []) ⟨hx, hb, hml, hown, ht⟩ (c_X7_lay l dC dI cI cJ aM hM H.size u8 (1 : Int32) u11o e12) (cwV 1 ht (gdV kw_27 kw_25 kw_26 kw_7 kw_24) rfl rfl rfl ⟨rfl, nd_X7_lay⟩ ⟨Nat.le_of_ble_eq_true rfl, Nat.le_of_ble_eq_true rfl⟩) ⟨pcW_blind, va_recv hK hPc (ci := 8) (q0 := 0) rfl rfl, pcW_pre hPc hK hDc hN⟩ rfl rfl hl.1 rfl (lv_room (Nat.le_of_ble_eq_true rfl)) dX7_readAll_46 ⟨Nat.zero_le _, Nat.zero_le _⟩) hS (fun q _ z => hFc q z) hFc (fun uu t H1 locs ht1 hvm hw hB hz1 hk1 hS => ?_)
      obtain ⟨u11, rfl⟩ : ∃ z, z = uu := ⟨_, rfl⟩
      obtain ⟨hP1, hD1⟩ := hB
      rw [ht1] at hP1
      obtain rfl : u11 = u11o := Option.some.inj hw
      have hP : va_P (dC, dI) vwCl (wM cI cJ aM hM u11) H1 := hP1
      have hD : va_D A (wM cI cJ aM hM u11) := hD1.weaken (fun _ q _ z => hFc q.1 z)
      generalize H1 = H at hP hS ⊢
      refine lv_iconst (v := (0 : Int32)) hx hb dX7_readAll_49 (by decide) ?_
      refine lv_istore_n (lv' := [(2, .int (0 : Int32)), (0, .ref aM), (1, .int r6)]) hx hb dX7_readAll_50 rfl hl (by decide) rfl (fun ls hl => ?_)
      obtain ⟨K133_17, eK133_17, hm⟩ := bnd_ex hm
      have X133_17 : ∀ (x15 : Int32) (u16 : OS) (H : Heap) (locs : List Loc) (ls : Array Slot), K133_17 x15 u16 = some o → va_P (dC, dI) vwCl (wM cI cJ aM hM u16) H → va_D A (wM cI cJ aM hM u16) → va_S A s.heap H locs → lv_has ls 3 [(0, .ref aM), (1, .int r6), (2, .int x15)] → W p l e ({ frames := 5, cells := 0, slots := 0, locals := 120 } : Room) s m ([.ref aM] : List Value).toArray below meth c H locs 0 0 Q (F0 m 133 ls []) := by
        intro x15 u16 H locs ls hm hP hD hS hl
        have hm := ap2 eK133_17 hm
        refine lv_aload_n hx hb dX7_readAll_133 rfl (lv_at hl 0 rfl) ?_
        refine lv_aload_n hx hb dX7_readAll_134 rfl (lv_at hl 0 rfl) ?_
        refine va_get (D := (dC, dI)) (ci := 8) (v := .int (u16.1 27)) (C := RX7) (T := TX7) (N := 34) hx hb ht inX7 hown hK hP 0 rfl rfl 27 (by decide) (ht _ kw_95) (fun _ h9 => h9) rfl dX7_readAll_135 ?_
        obtain ⟨K146_19, eK146_19, hm⟩ := bnd_ex hm
        have J146_19 : ∀ (x18 : Int32) (H : Heap) (locs : List Loc) (ls : Array Slot), K146_19 x18 = some o → va_P (dC, dI) vwCl (wM cI cJ aM hM u16) H → va_D A (wM cI cJ aM hM u16) → va_S A s.heap H locs → lv_has ls 3 [(0, .ref aM), (1, .int r6), (2, .int x15)] → W p l e ({ frames := 5, cells := 0, slots := 0, locals := 120 } : Room) s m ([.ref aM] : List Value).toArray below meth c H locs 0 0 Q (F0 m 146 ls [.int x18, .ref aM]) := by
          intro x18 H locs ls hm hP hD hS hl
          have hm := ap1 eK146_19 hm
          obtain ⟨g21, hm⟩ := gdb_of hm
          refine va_put (D := (dC, dI)) (ci := 8) (v := .int x18) (ty := .boolean) (C := RX7) (T := TX7) (N := 34) hx hb ht inX7 tyX7 tyX7_ok nmX7 hown hK hP hD hS 0 rfl rfl 32 (by decide) (ht _ kw_135) (fun _ h9 => h9) rfl (by decide +kernel) (nb_of g21) (fb_of g21) (Nat.le_of_ble_eq_true rfl) dX7_readAll_146 (fun H locs hP hD hS => ?_)
          obtain ⟨u20, eu20, hm⟩ := bnd_ex hm
          have hP : va_P (dC, dI) vwCl (wM cI cJ aM hM u20) H := by rw [eu20]; exact hP
          have hD : va_D A (wM cI cJ aM hM u20) := by rw [eu20]; exact hD
          refine lv_aload_n hx hb dX7_readAll_149 rfl (lv_at hl 0 rfl) ?_
          refine lv_iconst (v := (0 : Int32)) hx hb dX7_readAll_150 (by decide) ?_
          refine va_put (D := (dC, dI)) (ci := 8) (v := .int (0 : Int32)) (ty := .int) (C := RX7) (T := TX7) (N := 34) hx hb ht inX7 tyX7 tyX7_ok nmX7 hown hK hP hD hS 0 rfl rfl 29 (by decide) (ht _ kw_105) (fun _ h9 => h9) rfl (by decide +kernel) rfl rfl (Nat.le_of_ble_eq_true rfl) dX7_readAll_151 (fun H locs hP hD hS => ?_)
          obtain ⟨u22, eu22, hm⟩ := bnd_ex hm
          have hP : va_P (dC, dI) vwCl (wM cI cJ aM hM u22) H := by rw [eu22]; exact hP
          have hD : va_D A (wM cI cJ aM hM u22) := by rw [eu22]; exact hD
          refine lv_iconst (v := (0 : Int32)) hx hb dX7_readAll_154 (by decide) ?_
          refine lv_istore_n (lv' := [(2, .int (0 : Int32)), (0, .ref aM), (1, .int r6)]) hx hb dX7_readAll_155 rfl hl (by decide) rfl (fun ls hl => ?_)
          obtain ⟨K184_27, eK184_27, hm⟩ := bnd_ex hm
          have X184_27 : ∀ (x25 : Int32) (u26 : OS) (H : Heap) (locs : List Loc) (ls : Array Slot), K184_27 x25 u26 = some o → va_P (dC, dI) vwCl (wM cI cJ aM hM u26) H → va_D A (wM cI cJ aM hM u26) → va_S A s.heap H locs → lv_has ls 3 [(0, .ref aM), (1, .int r6), (2, .int x25)] → W p l e ({ frames := 5, cells := 0, slots := 0, locals := 120 } : Room) s m ([.ref aM] : List Value).toArray below meth c H locs 0 0 Q (F0 m 184 ls []) := by
            intro x25 u26 H locs ls hm hP hD hS hl
            have hm := ap2 eK184_27 hm
            refine lv_iconst (v := (0 : Int32)) hx hb dX7_readAll_184 (by decide) ?_
            refine lv_istore_n (lv' := [(2, .int (0 : Int32)), (0, .ref aM), (1, .int r6)]) hx hb dX7_readAll_185 rfl hl (by decide) rfl (fun ls hl => ?_)
            obtain ⟨K235_32, eK235_32, hm⟩ := bnd_ex hm
            have X235_32 : ∀ (x30 : Int32) (u31 : OS) (H : Heap) (locs : List Loc) (ls : Array Slot), K235_32 x30 u31 = some o → va_P (dC, dI) vwCl (wM cI cJ aM hM u31) H → va_D A (wM cI cJ aM hM u31) → va_S A s.heap H locs → lv_has ls 3 [(0, .ref aM), (1, .int r6), (2, .int x30)] → W p l e ({ frames := 5, cells := 0, slots := 0, locals := 120 } : Room) s m ([.ref aM] : List Value).toArray below meth c H locs 0 0 Q (F0 m 235 ls []) := by
              intro x30 u31 H locs ls hm hP hD hS hl
              have hm := ap2 eK235_32 hm
              refine lv_aload_n hx hb dX7_readAll_235 rfl (lv_at hl 0 rfl) ?_
              refine va_get (D := (dC, dI)) (ci := 8) (v := .int (u31.1 27)) (C := RX7) (T := TX7) (N := 34) hx hb ht inX7 hown hK hP 0 rfl rfl 27 (by decide) (ht _ kw_95) (fun _ h9 => h9) rfl dX7_readAll_236 ?_
              refine lv_if_ne (tgt := 292) hx hb dX7_readAll_239 (by decide) (fun c33 => ?_) (fun c33 => ?_)
              · have hm := ite_f c33 hm
                rw [← hQ]
                exact W.vret hx hb hr (fun t ht1 hW => ⟨⟨u31, rfl, hm, by rw [ht1]; exact hP, hD⟩, hS.F ht1⟩) hS.2.2 dX7_readAll_292
              · have hm := ite_t c33 hm
                refine lv_iconst (v := (1 : Int32)) hx hb dX7_readAll_242 (by decide) ?_
                refine lv_istore_n (lv' := [(2, .int (1 : Int32)), (0, .ref aM), (1, .int r6)]) hx hb dX7_readAll_243 rfl hl (by decide) rfl (fun ls hl => ?_)
                obtain ⟨K271_38, eK271_38, hm⟩ := bnd_ex hm
                have X271_38 : ∀ (x36 : Int32) (u37 : OS) (H : Heap) (locs : List Loc) (ls : Array Slot), K271_38 x36 u37 = some o → va_P (dC, dI) vwCl (wM cI cJ aM hM u37) H → va_D A (wM cI cJ aM hM u37) → va_S A s.heap H locs → lv_has ls 3 [(0, .ref aM), (1, .int r6), (2, .int x36)] → W p l e ({ frames := 5, cells := 0, slots := 0, locals := 120 } : Room) s m ([.ref aM] : List Value).toArray below meth c H locs 0 0 Q (F0 m 271 ls []) := by
                  intro x36 u37 H locs ls hm hP hD hS hl
                  have hm := ap2 eK271_38 hm
                  refine lv_iload_n hx hb dX7_readAll_271 rfl (lv_at hl 2 rfl) ?_
                  refine lv_if_eq (tgt := 286) hx hb dX7_readAll_272 (by decide) (fun c39 => ?_) (fun c39 => ?_)
                  · have hm := ite_t c39 hm
                    refine lv_aload_n hx hb dX7_readAll_286 rfl (lv_at hl 0 rfl) ?_
                    refine lv_bipush (v := (6 : Int32)) hx hb dX7_readAll_287 (by decide) ?_
                    have hPc : va_P (dC, dI) vwCl (wM cI cJ aM hM u37) _ := hP
                    have hDc : va_D A (wM cI cJ aM hM u37) := hD
                    have hFc := va_free (wc := (wM cI cJ aM hM u37)) hD hS hA [0, 1, 2, 3, 4, 5, 6, 7, 8, 9, 10, 11, 12, 13, 14] rfl
                    obtain ⟨u40o, e41, hm⟩ := oC1_of hm
                    refine va_callv (va_runV (As := [.int (6 : Int32)]) (rest := []) ⟨hx, hb, hml, hown, ht⟩ (c_X7_fail l dC dI cI cJ aM hM H.size u37 (6 : Int32) u40o e41) (cwV 1 ht (gdV kw_100 kw_98 kw_99 kw_7 kw_97) rfl rfl rfl ⟨rfl, nd_X7_fail⟩ ⟨Nat.le_of_ble_eq_true rfl, Nat.le_of_ble_eq_true rfl⟩) ⟨pcW_blind, va_recv hK hPc (ci := 8) (q0 := 0) rfl rfl, pcW_pre hPc hK hDc hN⟩ rfl rfl hl.1 rfl (lv_room (Nat.le_of_ble_eq_true rfl)) dX7_readAll_289 ⟨Nat.zero_le _, Nat.zero_le _⟩) hS (fun q _ z => hFc q z) hFc (fun uu t H1 locs ht1 hvm hw hB hz1 hk1 hS => ?_)
                    obtain ⟨u40, rfl⟩ : ∃ z, z = uu := ⟨_, rfl⟩
                    obtain ⟨hP1, hD1⟩ := hB
                    rw [ht1] at hP1
                    obtain rfl : u40 = u40o := Option.some.inj hw
                    have hP : va_P (dC, dI) vwCl (wM cI cJ aM hM u40) H1 := hP1
                    have hD : va_D A (wM cI cJ aM hM u40) := hD1.weaken (fun _ q _ z => hFc q.1 z)
                    generalize H1 = H at hP hS ⊢
                    rw [← hQ]
                    exact W.vret hx hb hr (fun t ht1 hW => ⟨⟨u40, rfl, hm, by rw [ht1]; exact hP, hD⟩, hS.F ht1⟩) hS.2.2 dX7_readAll_292
                  · have hm := ite_f c39 hm
                    refine lv_aload_n hx hb dX7_readAll_275 rfl (lv_at hl 0 rfl) ?_
                    refine va_get (D := (dC, dI)) (ci := 8) (v := .int (u37.1 26)) (C := RX7) (T := TX7) (N := 34) hx hb ht inX7 hown hK hP 0 rfl rfl 26 (by decide) (ht _ kw_96) (fun _ h9 => h9) rfl dX7_readAll_276 ?_
                    refine lv_aload_n hx hb dX7_readAll_279 rfl (lv_at hl 0 rfl) ?_
                    refine va_get (D := (dC, dI)) (ci := 8) (v := .int (u37.1 15)) (C := RX7) (T := TX7) (N := 34) hx hb ht inX7 hown hK hP 0 rfl rfl 15 (by decide) (ht _ kw_32) (fun _ h9 => h9) rfl dX7_readAll_280 ?_
                    refine lv_icmp_ge (tgt := 292) hx hb dX7_readAll_283 (by decide) (fun c42 => ?_) (fun c42 => ?_)
                    · have hm := ite_t c42 hm
                      rw [← hQ]
                      exact W.vret hx hb hr (fun t ht1 hW => ⟨⟨u37, rfl, hm, by rw [ht1]; exact hP, hD⟩, hS.F ht1⟩) hS.2.2 dX7_readAll_292
                    · have hm := ite_f c42 hm
                      refine lv_aload_n hx hb dX7_readAll_286 rfl (lv_at hl 0 rfl) ?_
                      refine lv_bipush (v := (6 : Int32)) hx hb dX7_readAll_287 (by decide) ?_
                      have hPc : va_P (dC, dI) vwCl (wM cI cJ aM hM u37) _ := hP
                      have hDc : va_D A (wM cI cJ aM hM u37) := hD
                      have hFc := va_free (wc := (wM cI cJ aM hM u37)) hD hS hA [0, 1, 2, 3, 4, 5, 6, 7, 8, 9, 10, 11, 12, 13, 14] rfl
                      obtain ⟨u43o, e44, hm⟩ := oC1_of hm
                      refine va_callv (va_runV (As := [.int (6 : Int32)]) (rest := []) ⟨hx, hb, hml, hown, ht⟩ (c_X7_fail l dC dI cI cJ aM hM H.size u37 (6 : Int32) u43o e44) (cwV 1 ht (gdV kw_100 kw_98 kw_99 kw_7 kw_97) rfl rfl rfl ⟨rfl, nd_X7_fail⟩ ⟨Nat.le_of_ble_eq_true rfl, Nat.le_of_ble_eq_true rfl⟩) ⟨pcW_blind, va_recv hK hPc (ci := 8) (q0 := 0) rfl rfl, pcW_pre hPc hK hDc hN⟩ rfl rfl hl.1 rfl (lv_room (Nat.le_of_ble_eq_true rfl)) dX7_readAll_289 ⟨Nat.zero_le _, Nat.zero_le _⟩) hS (fun q _ z => hFc q z) hFc (fun uu t H1 locs ht1 hvm hw hB hz1 hk1 hS => ?_)
                      obtain ⟨u43, rfl⟩ : ∃ z, z = uu := ⟨_, rfl⟩
                      obtain ⟨hP1, hD1⟩ := hB
                      rw [ht1] at hP1
                      obtain rfl : u43 = u43o := Option.some.inj hw
                      have hP : va_P (dC, dI) vwCl (wM cI cJ aM hM u43) H1 := hP1
                      have hD : va_D A (wM cI cJ aM hM u43) := hD1.weaken (fun _ q _ z => hFc q.1 z)
                      generalize H1 = H at hP hS ⊢
                      rw [← hQ]
                      exact W.vret hx hb hr (fun t ht1 hW => ⟨⟨u43, rfl, hm, by rw [ht1]; exact hP, hD⟩, hS.F ht1⟩) hS.2.2 dX7_readAll_292
                have LP244 : ∀ (n244 : Nat) (x34 : Int32) (u35 : OS) (H : Heap) (locs : List Loc) (ls : Array Slot), f_X7_readAll_L244 n244 K271_38 x34 u35 = some o → va_P (dC, dI) vwCl (wM cI cJ aM hM u35) H → va_D A (wM cI cJ aM hM u35) → va_S A s.heap H locs → lv_has ls 3 [(0, .ref aM), (1, .int r6), (2, .int x34)] → W p l e ({ frames := 5, cells := 0, slots := 0, locals := 120 } : Room) s m ([.ref aM] : List Value).toArray below meth c H locs 0 0 Q (F0 m 244 ls []) := by
                  intro n244
                  induction n244 with
                  | zero => intro x34 u35 H locs ls hm; exact nomatch (show (none : Option _) = some _ from hm)
                  | succ n244 ih244 =>
                    intro x34 u35 H locs ls hm hP hD hS hl
                    unfold f_X7_readAll_L244 at hm
                    refine lv_aload_n hx hb dX7_readAll_244 rfl (lv_at hl 0 rfl) ?_
                    refine va_get (D := (dC, dI)) (ci := 8) (v := .int (u35.1 29)) (C := RX7) (T := TX7) (N := 34) hx hb ht inX7 hown hK hP 0 rfl rfl 29 (by decide) (ht _ kw_105) (fun _ h9 => h9) rfl dX7_readAll_245 ?_
                    refine lv_if_le (tgt := 271) hx hb dX7_readAll_248 (by decide) (fun c45 => ?_) (fun c45 => ?_)
                    · have hm := ite_t c45 hm
                      exact X271_38 x34 u35 _ _ _ hm hP hD hS (lv_sub hl [0, 1, 2] rfl)
                    · have hm := ite_f c45 hm
                      refine lv_aload_n hx hb dX7_readAll_251 rfl (lv_at hl 0 rfl) ?_
                      have hPc : va_P (dC, dI) vwCl (wM cI cJ aM hM u35) _ := hP
                      have hDc : va_D A (wM cI cJ aM hM u35) := hD
                      have hFc := va_free (wc := (wM cI cJ aM hM u35)) hD hS hA [0, 1, 2, 3, 4, 5, 6, 7, 8, 9, 10, 11, 12, 13, 14] rfl
                      obtain ⟨u46o, r47o, e48, hm⟩ := oC2_of hm
                      refine va_calli (va_runV (As := []) (rest := []) ⟨hx, hb, hml, hown, ht⟩ (c_X7_nextBit l dC dI cI cJ aM hM H.size u35 (u46o, r47o) e48) (cwV 0 ht (gdV kw_109 kw_107 kw_108 kw_7 kw_106) rfl rfl rfl ⟨rfl, nd_X7_nextBit⟩ ⟨Nat.le_of_ble_eq_true rfl, Nat.le_of_ble_eq_true rfl⟩) ⟨pcW_blind, va_recv hK hPc (ci := 8) (q0 := 0) rfl rfl, pcW_pre hPc hK hDc hN⟩ rfl rfl hl.1 rfl (lv_room (Nat.le_of_ble_eq_true rfl)) dX7_readAll_252 ⟨Nat.zero_le _, Nat.zero_le _⟩) hS (fun q _ z => hFc q z) hFc (fun r47 uu t H1 locs ht1 hvm hw hB hz1 hk1 hS => ?_)
                      obtain ⟨u46, rfl⟩ : ∃ z, z = uu := ⟨_, rfl⟩
                      obtain ⟨hP1, hD1⟩ := hB
                      rw [ht1] at hP1
                      obtain ⟨q0, q1⟩ := inj2 hw
                      subst q0
                      subst q1
                      have hP : va_P (dC, dI) vwCl (wM cI cJ aM hM u46) H1 := hP1
                      have hD : va_D A (wM cI cJ aM hM u46) := hD1.weaken (fun _ q _ z => hFc q.1 z)
                      generalize H1 = H at hP hS ⊢
                      refine lv_if_ne (tgt := 266) hx hb dX7_readAll_255 (by decide) (fun c49 => ?_) (fun c49 => ?_)
                      · have hm := ite_f c49 hm
                        refine lv_iconst (v := (0 : Int32)) hx hb dX7_readAll_266 (by decide) ?_
                        refine lv_istore_n (lv' := [(2, .int (0 : Int32)), (0, .ref aM), (1, .int r6)]) hx hb dX7_readAll_267 rfl hl (by decide) rfl (fun ls hl => ?_)
                        refine lv_goto (tgt := 244) hx hb dX7_readAll_268 (by decide) ?_
                        exact ih244 (0 : Int32) u46 _ _ _ hm hP hD hS (lv_sub hl [1, 2, 0] rfl)
                      · have hm := ite_t c49 hm
                        refine lv_iload_n hx hb dX7_readAll_258 rfl (lv_at hl 2 rfl) ?_
                        refine lv_if_eq (tgt := 266) hx hb dX7_readAll_259 (by decide) (fun c50 => ?_) (fun c50 => ?_)
                        · have hm := ite_t c50 hm
                          refine lv_iconst (v := (0 : Int32)) hx hb dX7_readAll_266 (by decide) ?_
                          refine lv_istore_n (lv' := [(2, .int (0 : Int32)), (0, .ref aM), (1, .int r6)]) hx hb dX7_readAll_267 rfl hl (by decide) rfl (fun ls hl => ?_)
                          refine lv_goto (tgt := 244) hx hb dX7_readAll_268 (by decide) ?_
                          exact ih244 (0 : Int32) u46 _ _ _ hm hP hD hS (lv_sub hl [1, 2, 0] rfl)
                        · have hm := ite_f c50 hm
                          refine lv_iconst (v := (1 : Int32)) hx hb dX7_readAll_262 (by decide) ?_
                          refine lv_goto (tgt := 267) hx hb dX7_readAll_263 (by decide) ?_
                          refine lv_istore_n (lv' := [(2, .int (1 : Int32)), (0, .ref aM), (1, .int r6)]) hx hb dX7_readAll_267 rfl hl (by decide) rfl (fun ls hl => ?_)
                          refine lv_goto (tgt := 244) hx hb dX7_readAll_268 (by decide) ?_
                          exact ih244 (1 : Int32) u46 _ _ _ hm hP hD hS (lv_sub hl [1, 2, 0] rfl)
                exact LP244 FU (1 : Int32) u31 _ _ _ hm hP hD hS (lv_sub hl [1, 2, 0] rfl)
            have LP186 : ∀ (n186 : Nat) (x28 : Int32) (u29 : OS) (H : Heap) (locs : List Loc) (ls : Array Slot), f_X7_readAll_L186 n186 K235_32 x28 u29 = some o → va_P (dC, dI) vwCl (wM cI cJ aM hM u29) H → va_D A (wM cI cJ aM hM u29) → va_S A s.heap H locs → lv_has ls 3 [(0, .ref aM), (1, .int r6), (2, .int x28)] → W p l e ({ frames := 5, cells := 0, slots := 0, locals := 120 } : Room) s m ([.ref aM] : List Value).toArray below meth c H locs 0 0 Q (F0 m 186 ls []) := by
              intro n186
              induction n186 with
              | zero => intro x28 u29 H locs ls hm; exact nomatch (show (none : Option _) = some _ from hm)
              | succ n186 ih186 =>
                intro x28 u29 H locs ls hm hP hD hS hl
                unfold f_X7_readAll_L186 at hm
                refine lv_iload_n hx hb dX7_readAll_186 rfl (lv_at hl 2 rfl) ?_
                refine lv_aload_n hx hb dX7_readAll_187 rfl (lv_at hl 0 rfl) ?_
                refine va_get (D := (dC, dI)) (ci := 8) (v := .int (u29.1 31)) (C := RX7) (T := TX7) (N := 34) hx hb ht inX7 hown hK hP 0 rfl rfl 31 (by decide) (ht _ kw_134) (fun _ h9 => h9) rfl dX7_readAll_188 ?_
                refine lv_icmp_ge (tgt := 235) hx hb dX7_readAll_191 (by decide) (fun c51 => ?_) (fun c51 => ?_)
                · have hm := ite_t c51 hm
                  exact X235_32 x28 u29 _ _ _ hm hP hD hS (lv_sub hl [0, 1, 2] rfl)
                · have hm := ite_f c51 hm
                  refine lv_aload_n hx hb dX7_readAll_194 rfl (lv_at hl 0 rfl) ?_
                  refine va_get (D := (dC, dI)) (ci := 8) (v := .int (u29.1 27)) (C := RX7) (T := TX7) (N := 34) hx hb ht inX7 hown hK hP 0 rfl rfl 27 (by decide) (ht _ kw_95) (fun _ h9 => h9) rfl dX7_readAll_195 ?_
                  refine lv_if_ne (tgt := 235) hx hb dX7_readAll_198 (by decide) (fun c52 => ?_) (fun c52 => ?_)
                  · have hm := ite_f c52 hm
                    exact X235_32 x28 u29 _ _ _ hm hP hD hS (lv_sub hl [0, 1, 2] rfl)
                  · have hm := ite_t c52 hm
                    refine lv_aload_n hx hb dX7_readAll_201 rfl (lv_at hl 0 rfl) ?_
                    refine va_get (D := (dC, dI)) (ci := 8) (v := .ref (hM 33)) (C := RX7) (T := TX7) (N := 34) hx hb ht inX7 hown hK hP 0 rfl rfl 33 (by decide) (ht _ kw_111) (fun _ h9 => h9) rfl dX7_readAll_202 ?_
                    refine lv_iload_n hx hb dX7_readAll_205 rfl (lv_at hl 2 rfl) ?_
                    obtain ⟨g53, hm⟩ := gdi_of hm
                    refine va_lald hx hb hK hP 14 1 rfl rfl g53 dX7_readAll_206 ?_
                    refine lv_aload_n hx hb dX7_readAll_207 rfl (lv_at hl 0 rfl) ?_
                    refine va_get (D := (dC, dI)) (ci := 8) (v := .int (u29.1 30)) (C := RX7) (T := TX7) (N := 34) hx hb ht inX7 hown hK hP 0 rfl rfl 30 (by decide) (ht _ kw_110) (fun _ h9 => h9) rfl dX7_readAll_208 ?_
                    refine lv_aload_n hx hb dX7_readAll_211 rfl (lv_at hl 0 rfl) ?_
                    refine va_get (D := (dC, dI)) (ci := 8) (v := .ref (hM 10)) (C := RX7) (T := TX7) (N := 34) hx hb ht inX7 hown hK hP 0 rfl rfl 10 (by decide) (ht _ kw_19) (fun _ h9 => h9) rfl dX7_readAll_212 ?_
                    refine lv_iconst (v := (1 : Int32)) hx hb dX7_readAll_215 (by decide) ?_
                    obtain ⟨g54, hm⟩ := gdi_of hm
                    refine va_iald hx hb hK hP 5 0 rfl rfl g54 dX7_readAll_216 ?_
                    have hPc : va_P (dC, dI) vwCl ([] : va_W) _ := hP.sub [] rfl
                    have hDc : va_D A ([] : va_W) := hD.sub [] (by decide) rfl
                    have hFc := va_free (wc := ([] : va_W)) hD hS hA [] rfl
                    obtain ⟨r55o, e56, hm⟩ := oC1_of hm
                    refine va_calll (va_runS (As := [.int (u29.1 30), .int (u29.2.1 10 ((1 : Int32)).toNatClampNeg)]) (rest := [.long (u29.2.2.1 33 (x28).toNatClampNeg)]) ⟨hx, hb, hml, hown, ht⟩ (c_X7_firstState l dC dI cI cJ H.size (u29.1 30) (u29.2.1 10 ((1 : Int32)).toNatClampNeg) r55o e56) (va_cwS 2 ht (gdS kw_86 kw_85 kw_7 kw_84) rfl rfl rfl nd_X7_firstState ⟨Nat.le_of_ble_eq_true rfl, Nat.le_of_ble_eq_true rfl⟩) ⟨pcW_blind, pcW_pre hPc hK hDc hN⟩ rfl rfl hl.1 rfl (lv_room (Nat.le_of_ble_eq_true rfl)) dX7_readAll_217 ⟨Nat.zero_le _, Nat.zero_le _⟩) hS (fun q _ z => hFc q z) hFc (fun r55 uu t H1 locs ht1 hvm hw hB hz1 hk1 hS => ?_)
                    obtain ⟨⟩ := uu
                    obtain ⟨hP1, hD1⟩ := hB
                    rw [ht1] at hP1
                    obtain rfl : r55 = r55o := Option.some.inj hw
                    obtain ⟨hP, hD⟩ := va_join (wr := (wM cI cJ aM hM u29)) (w1 := []) hP hD [] [0, 1, 2, 3, 4, 5, 6, 7, 8, 9, 10, 11, 12, 13, 14] rfl rfl (by decide) (by decide) hk1 hFc hP1 hD1
                    have hP : va_P (dC, dI) vwCl (wM cI cJ aM hM u29) H1 := hP
                    have hD : va_D A (wM cI cJ aM hM u29) := hD
                    generalize H1 = H at hP hS ⊢
                    refine W.lcmp hx hb dX7_readAll_220 ?_
                    refine lv_if_eq (tgt := 229) hx hb dX7_readAll_221 (by decide) (fun c57 => ?_) (fun c57 => ?_)
                    · have c57 := lgc_eq.mp c57
                      have hm := ite_t c57 hm
                      obtain ⟨x58, ex58, hm⟩ := bnd_ex hm
                      refine lv_iinc (v := x58) (lv' := [(2, .int x58), (0, .ref aM), (1, .int r6)]) hx hb dX7_readAll_229 hl (k := 2) rfl (by rw [ex58]; exact congrArg _ (by decide)) (by decide) rfl (fun ls hl => ?_)
                      refine lv_goto (tgt := 186) hx hb dX7_readAll_232 (by decide) ?_
                      exact ih186 x58 u29 _ _ _ hm hP hD hS (lv_sub hl [1, 2, 0] rfl)
                    · have c57 := mt lgc_eq.mpr c57
                      have hm := ite_f c57 hm
                      refine lv_aload_n hx hb dX7_readAll_224 rfl (lv_at hl 0 rfl) ?_
                      refine lv_iconst (v := (5 : Int32)) hx hb dX7_readAll_225 (by decide) ?_
                      have hPc : va_P (dC, dI) vwCl (wM cI cJ aM hM u29) _ := hP
                      have hDc : va_D A (wM cI cJ aM hM u29) := hD
                      have hFc := va_free (wc := (wM cI cJ aM hM u29)) hD hS hA [0, 1, 2, 3, 4, 5, 6, 7, 8, 9, 10, 11, 12, 13, 14] rfl
                      obtain ⟨u59o, e60, hm⟩ := oC1_of hm
                      refine va_callv (va_runV (As := [.int (5 : Int32)]) (rest := []) ⟨hx, hb, hml, hown, ht⟩ (c_X7_fail l dC dI cI cJ aM hM H.size u29 (5 : Int32) u59o e60) (cwV 1 ht (gdV kw_100 kw_98 kw_99 kw_7 kw_97) rfl rfl rfl ⟨rfl, nd_X7_fail⟩ ⟨Nat.le_of_ble_eq_true rfl, Nat.le_of_ble_eq_true rfl⟩) ⟨pcW_blind, va_recv hK hPc (ci := 8) (q0 := 0) rfl rfl, pcW_pre hPc hK hDc hN⟩ rfl rfl hl.1 rfl (lv_room (Nat.le_of_ble_eq_true rfl)) dX7_readAll_226 ⟨Nat.zero_le _, Nat.zero_le _⟩) hS (fun q _ z => hFc q z) hFc (fun uu t H1 locs ht1 hvm hw hB hz1 hk1 hS => ?_)
                      obtain ⟨u59, rfl⟩ : ∃ z, z = uu := ⟨_, rfl⟩
                      obtain ⟨hP1, hD1⟩ := hB
                      rw [ht1] at hP1
                      obtain rfl : u59 = u59o := Option.some.inj hw
                      have hP : va_P (dC, dI) vwCl (wM cI cJ aM hM u59) H1 := hP1
                      have hD : va_D A (wM cI cJ aM hM u59) := hD1.weaken (fun _ q _ z => hFc q.1 z)
                      generalize H1 = H at hP hS ⊢
                      obtain ⟨x61, ex61, hm⟩ := bnd_ex hm
                      refine lv_iinc (v := x61) (lv' := [(2, .int x61), (0, .ref aM), (1, .int r6)]) hx hb dX7_readAll_229 hl (k := 2) rfl (by rw [ex61]; exact congrArg _ (by decide)) (by decide) rfl (fun ls hl => ?_)
                      refine lv_goto (tgt := 186) hx hb dX7_readAll_232 (by decide) ?_
                      exact ih186 x61 u59 _ _ _ hm hP hD hS (lv_sub hl [1, 2, 0] rfl)
            exact LP186 FU (0 : Int32) u26 _ _ _ hm hP hD hS (lv_sub hl [1, 2, 0] rfl)
          have LP156 : ∀ (n156 : Nat) (x23 : Int32) (u24 : OS) (H : Heap) (locs : List Loc) (ls : Array Slot), f_X7_readAll_L156 r6 n156 K184_27 x23 u24 = some o → va_P (dC, dI) vwCl (wM cI cJ aM hM u24) H → va_D A (wM cI cJ aM hM u24) → va_S A s.heap H locs → lv_has ls 3 [(0, .ref aM), (1, .int r6), (2, .int x23)] → W p l e ({ frames := 5, cells := 0, slots := 0, locals := 120 } : Room) s m ([.ref aM] : List Value).toArray below meth c H locs 0 0 Q (F0 m 156 ls []) := by
            intro n156
            induction n156 with
            | zero => intro x23 u24 H locs ls hm; exact nomatch (show (none : Option _) = some _ from hm)
            | succ n156 ih156 =>
              intro x23 u24 H locs ls hm hP hD hS hl
              unfold f_X7_readAll_L156 at hm
              refine lv_iload_n hx hb dX7_readAll_156 rfl (lv_at hl 2 rfl) ?_
              refine lv_iload_n hx hb dX7_readAll_157 rfl (lv_at hl 1 rfl) ?_
              refine lv_icmp_ge (tgt := 184) hx hb dX7_readAll_158 (by decide) (fun c62 => ?_) (fun c62 => ?_)
              · have hm := ite_t c62 hm
                exact X184_27 x23 u24 _ _ _ hm hP hD hS (lv_sub hl [0, 1, 2] rfl)
              · have hm := ite_f c62 hm
                refine lv_aload_n hx hb dX7_readAll_161 rfl (lv_at hl 0 rfl) ?_
                refine va_get (D := (dC, dI)) (ci := 8) (v := .int (u24.1 27)) (C := RX7) (T := TX7) (N := 34) hx hb ht inX7 hown hK hP 0 rfl rfl 27 (by decide) (ht _ kw_95) (fun _ h9 => h9) rfl dX7_readAll_162 ?_
                refine lv_if_ne (tgt := 184) hx hb dX7_readAll_165 (by decide) (fun c63 => ?_) (fun c63 => ?_)
                · have hm := ite_f c63 hm
                  exact X184_27 x23 u24 _ _ _ hm hP hD hS (lv_sub hl [0, 1, 2] rfl)
                · have hm := ite_t c63 hm
                  refine lv_aload_n hx hb dX7_readAll_168 rfl (lv_at hl 0 rfl) ?_
                  refine lv_iload_n hx hb dX7_readAll_169 rfl (lv_at hl 2 rfl) ?_
                  refine lv_aload_n hx hb dX7_readAll_170 rfl (lv_at hl 0 rfl) ?_
                  refine va_get (D := (dC, dI)) (ci := 8) (v := .int (u24.1 31)) (C := RX7) (T := TX7) (N := 34) hx hb ht inX7 hown hK hP 0 rfl rfl 31 (by decide) (ht _ kw_134) (fun _ h9 => h9) rfl dX7_readAll_171 ?_
                  obtain ⟨g64, hm⟩ := gdz_of hm
                  refine lv_irem hx hb dX7_readAll_174 g64 ?_
                  have hPc : va_P (dC, dI) vwCl (wM cI cJ aM hM u24) _ := hP
                  have hDc : va_D A (wM cI cJ aM hM u24) := hD
                  have hFc := va_free (wc := (wM cI cJ aM hM u24)) hD hS hA [0, 1, 2, 3, 4, 5, 6, 7, 8, 9, 10, 11, 12, 13, 14] rfl
                  obtain ⟨u65o, e66, hm⟩ := oC1_of hm
                  refine va_callv (va_runV (As := [.int (x23 - x23 / (u24.1 31) * (u24.1 31))]) (rest := []) ⟨hx, hb, hml, hown, ht⟩ (c_X7_readSign l dC dI cI cJ aM hM H.size u24 (x23 - x23 / (u24.1 31) * (u24.1 31)) u65o e66) (cwV 1 ht (gdV kw_143 kw_141 kw_142 kw_7 kw_140) rfl rfl rfl ⟨rfl, nd_X7_readSign⟩ ⟨Nat.le_of_ble_eq_true rfl, Nat.le_of_ble_eq_true rfl⟩) ⟨pcW_blind, va_recv hK hPc (ci := 8) (q0 := 0) rfl rfl, pcW_pre hPc hK hDc hN⟩ rfl rfl hl.1 rfl (lv_room (Nat.le_of_ble_eq_true rfl)) dX7_readAll_175 ⟨Nat.zero_le _, Nat.zero_le _⟩) hS (fun q _ z => hFc q z) hFc (fun uu t H1 locs ht1 hvm hw hB hz1 hk1 hS => ?_)
                  obtain ⟨u65, rfl⟩ : ∃ z, z = uu := ⟨_, rfl⟩
                  obtain ⟨hP1, hD1⟩ := hB
                  rw [ht1] at hP1
                  obtain rfl : u65 = u65o := Option.some.inj hw
                  have hP : va_P (dC, dI) vwCl (wM cI cJ aM hM u65) H1 := hP1
                  have hD : va_D A (wM cI cJ aM hM u65) := hD1.weaken (fun _ q _ z => hFc q.1 z)
                  generalize H1 = H at hP hS ⊢
                  obtain ⟨x67, ex67, hm⟩ := bnd_ex hm
                  refine lv_iinc (v := x67) (lv' := [(2, .int x67), (0, .ref aM), (1, .int r6)]) hx hb dX7_readAll_178 hl (k := 2) rfl (by rw [ex67]; exact congrArg _ (by decide)) (by decide) rfl (fun ls hl => ?_)
                  refine lv_goto (tgt := 156) hx hb dX7_readAll_181 (by decide) ?_
                  exact ih156 x67 u65 _ _ _ hm hP hD hS (lv_sub hl [1, 2, 0] rfl)
          exact LP156 FU (0 : Int32) u22 _ _ _ hm hP hD hS (lv_sub hl [1, 2, 0] rfl)
        refine lv_if_ne (tgt := 145) hx hb dX7_readAll_138 (by decide) (fun c68 => ?_) (fun c68 => ?_)
        · have hm := ite_f c68 hm
          refine lv_iconst (v := (0 : Int32)) hx hb dX7_readAll_145 (by decide) ?_
          exact J146_19 (0 : Int32) _ _ _ hm hP hD hS (lv_sub hl [0, 1, 2] rfl)
        · have hm := ite_t c68 hm
          refine lv_iconst (v := (1 : Int32)) hx hb dX7_readAll_141 (by decide) ?_
          refine lv_goto (tgt := 146) hx hb dX7_readAll_142 (by decide) ?_
          exact J146_19 (1 : Int32) _ _ _ hm hP hD hS (lv_sub hl [0, 1, 2] rfl)
      have LP51 : ∀ (n51 : Nat) (x13 : Int32) (u14 : OS) (H : Heap) (locs : List Loc) (ls : Array Slot), f_X7_readAll_L51 n51 K133_17 x13 u14 = some o → va_P (dC, dI) vwCl (wM cI cJ aM hM u14) H → va_D A (wM cI cJ aM hM u14) → va_S A s.heap H locs → lv_has ls 3 [(0, .ref aM), (1, .int r6), (2, .int x13)] → W p l e ({ frames := 5, cells := 0, slots := 0, locals := 120 } : Room) s m ([.ref aM] : List Value).toArray below meth c H locs 0 0 Q (F0 m 51 ls []) := by
        intro n51
        induction n51 with
        | zero => intro x13 u14 H locs ls hm; exact nomatch (show (none : Option _) = some _ from hm)
        | succ n51 ih51 =>
          intro x13 u14 H locs ls hm hP hD hS hl
          unfold f_X7_readAll_L51 at hm
          refine lv_iload_n hx hb dX7_readAll_51 rfl (lv_at hl 2 rfl) ?_
          refine lv_aload_n hx hb dX7_readAll_52 rfl (lv_at hl 0 rfl) ?_
          refine va_get (D := (dC, dI)) (ci := 8) (v := .int (u14.1 31)) (C := RX7) (T := TX7) (N := 34) hx hb ht inX7 hown hK hP 0 rfl rfl 31 (by decide) (ht _ kw_134) (fun _ h9 => h9) rfl dX7_readAll_53 ?_
          refine lv_icmp_ge (tgt := 133) hx hb dX7_readAll_56 (by decide) (fun c69 => ?_) (fun c69 => ?_)
          · have hm := ite_t c69 hm
            exact X133_17 x13 u14 _ _ _ hm hP hD hS (lv_sub hl [0, 1, 2] rfl)
          · have hm := ite_f c69 hm
            refine lv_aload_n hx hb dX7_readAll_59 rfl (lv_at hl 0 rfl) ?_
            refine va_get (D := (dC, dI)) (ci := 8) (v := .int (u14.1 27)) (C := RX7) (T := TX7) (N := 34) hx hb ht inX7 hown hK hP 0 rfl rfl 27 (by decide) (ht _ kw_95) (fun _ h9 => h9) rfl dX7_readAll_60 ?_
            refine lv_if_ne (tgt := 133) hx hb dX7_readAll_63 (by decide) (fun c70 => ?_) (fun c70 => ?_)
            · have hm := ite_f c70 hm
              exact X133_17 x13 u14 _ _ _ hm hP hD hS (lv_sub hl [0, 1, 2] rfl)
            · have hm := ite_t c70 hm
              refine lv_aload_n hx hb dX7_readAll_66 rfl (lv_at hl 0 rfl) ?_
              refine va_get (D := (dC, dI)) (ci := 8) (v := .ref (hM 33)) (C := RX7) (T := TX7) (N := 34) hx hb ht inX7 hown hK hP 0 rfl rfl 33 (by decide) (ht _ kw_111) (fun _ h9 => h9) rfl dX7_readAll_67 ?_
              refine lv_iload_n hx hb dX7_readAll_70 rfl (lv_at hl 2 rfl) ?_
              refine lv_aload_n hx hb dX7_readAll_71 rfl (lv_at hl 0 rfl) ?_
              refine lv_aload_n hx hb dX7_readAll_72 rfl (lv_at hl 0 rfl) ?_
              refine va_get (D := (dC, dI)) (ci := 8) (v := .int (u14.1 30)) (C := RX7) (T := TX7) (N := 34) hx hb ht inX7 hown hK hP 0 rfl rfl 30 (by decide) (ht _ kw_110) (fun _ h9 => h9) rfl dX7_readAll_73 ?_
              refine lv_iconst (v := (1 : Int32)) hx hb dX7_readAll_76 (by decide) ?_
              obtain ⟨K98_72, eK98_72, hm⟩ := bnd_ex hm
              have J98_72 : ∀ (x71 : Int32) (H : Heap) (locs : List Loc) (ls : Array Slot), K98_72 x71 = some o → va_P (dC, dI) vwCl (wM cI cJ aM hM u14) H → va_D A (wM cI cJ aM hM u14) → va_S A s.heap H locs → lv_has ls 3 [(0, .ref aM), (1, .int r6), (2, .int x13)] → W p l e ({ frames := 5, cells := 0, slots := 0, locals := 120 } : Room) s m ([.ref aM] : List Value).toArray below meth c H locs 0 0 Q (F0 m 98 ls [.int x71, .ref aM, .int x13, .ref (hM 33)]) := by
                intro x71 H locs ls hm hP hD hS hl
                have hm := ap1 eK98_72 hm
                have hPc : va_P (dC, dI) vwCl (wM cI cJ aM hM u14) _ := hP
                have hDc : va_D A (wM cI cJ aM hM u14) := hD
                have hFc := va_free (wc := (wM cI cJ aM hM u14)) hD hS hA [0, 1, 2, 3, 4, 5, 6, 7, 8, 9, 10, 11, 12, 13, 14] rfl
                obtain ⟨u73o, r74o, e75, hm⟩ := oC2_of hm
                refine va_calll (va_runV (As := [.int x71]) (rest := [.int x13, .ref (hM 33)]) ⟨hx, hb, hml, hown, ht⟩ (c_X7_nextWide l dC dI cI cJ aM hM H.size u14 x71 (u73o, r74o) e75) (cwV 1 ht (gdV kw_115 kw_113 kw_114 kw_7 kw_112) rfl rfl rfl ⟨rfl, nd_X7_nextWide⟩ ⟨Nat.le_of_ble_eq_true rfl, Nat.le_of_ble_eq_true rfl⟩) ⟨pcW_blind, va_recv hK hPc (ci := 8) (q0 := 0) rfl rfl, pcW_pre hPc hK hDc hN⟩ rfl rfl hl.1 rfl (lv_room (Nat.le_of_ble_eq_true rfl)) dX7_readAll_98 ⟨Nat.zero_le _, Nat.zero_le _⟩) hS (fun q _ z => hFc q z) hFc (fun r74 uu t H1 locs ht1 hvm hw hB hz1 hk1 hS => ?_)
                obtain ⟨u73, rfl⟩ : ∃ z, z = uu := ⟨_, rfl⟩
                obtain ⟨hP1, hD1⟩ := hB
                rw [ht1] at hP1
                obtain ⟨q0, q1⟩ := inj2 hw
                subst q0
                subst q1
                have hP : va_P (dC, dI) vwCl (wM cI cJ aM hM u73) H1 := hP1
                have hD : va_D A (wM cI cJ aM hM u73) := hD1.weaken (fun _ q _ z => hFc q.1 z)
                generalize H1 = H at hP hS ⊢
                obtain ⟨g76, hm⟩ := gdi_of hm
                refine va_last hx hb hK hP hD hS 14 1 rfl rfl g76 dX7_readAll_101 (fun H locs hP hD hS => ?_)
                obtain ⟨u77, eu77, hm⟩ := bnd_ex hm
                have hP : va_P (dC, dI) vwCl (wM cI cJ aM hM u77) H := by rw [eu77]; exact hP
                have hD : va_D A (wM cI cJ aM hM u77) := by rw [eu77]; exact hD
                refine lv_aload_n hx hb dX7_readAll_102 rfl (lv_at hl 0 rfl) ?_
                refine va_get (D := (dC, dI)) (ci := 8) (v := .int (u77.1 27)) (C := RX7) (T := TX7) (N := 34) hx hb ht inX7 hown hK hP 0 rfl rfl 27 (by decide) (ht _ kw_95) (fun _ h9 => h9) rfl dX7_readAll_103 ?_
                refine lv_if_ne (tgt := 127) hx hb dX7_readAll_106 (by decide) (fun c78 => ?_) (fun c78 => ?_)
                · have hm := ite_f c78 hm
                  obtain ⟨x79, ex79, hm⟩ := bnd_ex hm
                  refine lv_iinc (v := x79) (lv' := [(2, .int x79), (0, .ref aM), (1, .int r6)]) hx hb dX7_readAll_127 hl (k := 2) rfl (by rw [ex79]; exact congrArg _ (by decide)) (by decide) rfl (fun ls hl => ?_)
                  refine lv_goto (tgt := 51) hx hb dX7_readAll_130 (by decide) ?_
                  exact ih51 x79 u77 _ _ _ hm hP hD hS (lv_sub hl [1, 2, 0] rfl)
                · have hm := ite_t c78 hm
                  refine lv_aload_n hx hb dX7_readAll_109 rfl (lv_at hl 0 rfl) ?_
                  refine lv_aload_n hx hb dX7_readAll_110 rfl (lv_at hl 0 rfl) ?_
                  refine va_get (D := (dC, dI)) (ci := 8) (v := .ref (hM 33)) (C := RX7) (T := TX7) (N := 34) hx hb ht inX7 hown hK hP 0 rfl rfl 33 (by decide) (ht _ kw_111) (fun _ h9 => h9) rfl dX7_readAll_111 ?_
                  refine lv_iload_n hx hb dX7_readAll_114 rfl (lv_at hl 2 rfl) ?_
                  obtain ⟨g80, hm⟩ := gdi_of hm
                  refine va_lald hx hb hK hP 14 1 rfl rfl g80 dX7_readAll_115 ?_
                  have hPc : va_P (dC, dI) vwCl (wM cI cJ aM hM u77) _ := hP
                  have hDc : va_D A (wM cI cJ aM hM u77) := hD
                  have hFc := va_free (wc := (wM cI cJ aM hM u77)) hD hS hA [0, 1, 2, 3, 4, 5, 6, 7, 8, 9, 10, 11, 12, 13, 14] rfl
                  obtain ⟨r81o, e82, hm⟩ := oC1_of hm
                  refine va_calli (va_runV (As := [.long (u77.2.2.1 33 (x13).toNatClampNeg)]) (rest := []) ⟨hx, hb, hml, hown, ht⟩ (c_X7_isInSpan l dC dI cI cJ aM hM H.size u77 (u77.2.2.1 33 (x13).toNatClampNeg) r81o e82) (cwV 1 ht (gdV kw_147 kw_145 kw_146 kw_7 kw_144) rfl rfl rfl ⟨rfl, nd_X7_isInSpan⟩ ⟨Nat.le_of_ble_eq_true rfl, Nat.le_of_ble_eq_true rfl⟩) ⟨pcW_blind, va_recv hK hPc (ci := 8) (q0 := 0) rfl rfl, pcW_pre hPc hK hDc hN⟩ rfl rfl hl.1 rfl (lv_room (Nat.le_of_ble_eq_true rfl)) dX7_readAll_116 ⟨Nat.zero_le _, Nat.zero_le _⟩) hS (fun q _ z => hFc q z) hFc (fun r81 uu t H1 locs ht1 hvm hw hB hz1 hk1 hS => ?_)
                  obtain ⟨⟩ := uu
                  obtain ⟨hP1, hD1⟩ := hB
                  rw [ht1] at hP1
                  obtain rfl : r81 = r81o := Option.some.inj hw
                  have hP : va_P (dC, dI) vwCl (wM cI cJ aM hM u77) H1 := hP1
                  have hD : va_D A (wM cI cJ aM hM u77) := hD1.weaken (fun _ q _ z => hFc q.1 z)
                  generalize H1 = H at hP hS ⊢
                  refine lv_if_ne (tgt := 127) hx hb dX7_readAll_119 (by decide) (fun c83 => ?_) (fun c83 => ?_)
                  · have hm := ite_f c83 hm
                    obtain ⟨x84, ex84, hm⟩ := bnd_ex hm
                    refine lv_iinc (v := x84) (lv' := [(2, .int x84), (0, .ref aM), (1, .int r6)]) hx hb dX7_readAll_127 hl (k := 2) rfl (by rw [ex84]; exact congrArg _ (by decide)) (by decide) rfl (fun ls hl => ?_)
                    refine lv_goto (tgt := 51) hx hb dX7_readAll_130 (by decide) ?_
                    exact ih51 x84 u77 _ _ _ hm hP hD hS (lv_sub hl [1, 2, 0] rfl)
                  · have hm := ite_t c83 hm
                    refine lv_aload_n hx hb dX7_readAll_122 rfl (lv_at hl 0 rfl) ?_
                    refine lv_iconst (v := (4 : Int32)) hx hb dX7_readAll_123 (by decide) ?_
                    have hPc : va_P (dC, dI) vwCl (wM cI cJ aM hM u77) _ := hP
                    have hDc : va_D A (wM cI cJ aM hM u77) := hD
                    have hFc := va_free (wc := (wM cI cJ aM hM u77)) hD hS hA [0, 1, 2, 3, 4, 5, 6, 7, 8, 9, 10, 11, 12, 13, 14] rfl
                    obtain ⟨u85o, e86, hm⟩ := oC1_of hm
                    refine va_callv (va_runV (As := [.int (4 : Int32)]) (rest := []) ⟨hx, hb, hml, hown, ht⟩ (c_X7_fail l dC dI cI cJ aM hM H.size u77 (4 : Int32) u85o e86) (cwV 1 ht (gdV kw_100 kw_98 kw_99 kw_7 kw_97) rfl rfl rfl ⟨rfl, nd_X7_fail⟩ ⟨Nat.le_of_ble_eq_true rfl, Nat.le_of_ble_eq_true rfl⟩) ⟨pcW_blind, va_recv hK hPc (ci := 8) (q0 := 0) rfl rfl, pcW_pre hPc hK hDc hN⟩ rfl rfl hl.1 rfl (lv_room (Nat.le_of_ble_eq_true rfl)) dX7_readAll_124 ⟨Nat.zero_le _, Nat.zero_le _⟩) hS (fun q _ z => hFc q z) hFc (fun uu t H1 locs ht1 hvm hw hB hz1 hk1 hS => ?_)
                    obtain ⟨u85, rfl⟩ : ∃ z, z = uu := ⟨_, rfl⟩
                    obtain ⟨hP1, hD1⟩ := hB
                    rw [ht1] at hP1
                    obtain rfl : u85 = u85o := Option.some.inj hw
                    have hP : va_P (dC, dI) vwCl (wM cI cJ aM hM u85) H1 := hP1
                    have hD : va_D A (wM cI cJ aM hM u85) := hD1.weaken (fun _ q _ z => hFc q.1 z)
                    generalize H1 = H at hP hS ⊢
                    obtain ⟨x87, ex87, hm⟩ := bnd_ex hm
                    refine lv_iinc (v := x87) (lv' := [(2, .int x87), (0, .ref aM), (1, .int r6)]) hx hb dX7_readAll_127 hl (k := 2) rfl (by rw [ex87]; exact congrArg _ (by decide)) (by decide) rfl (fun ls hl => ?_)
                    refine lv_goto (tgt := 51) hx hb dX7_readAll_130 (by decide) ?_
                    exact ih51 x87 u85 _ _ _ hm hP hD hS (lv_sub hl [1, 2, 0] rfl)
              refine lv_icmp_ne (tgt := 85) hx hb dX7_readAll_77 (by decide) (fun c88 => ?_) (fun c88 => ?_)
              · have hm := ite_f c88 hm
                refine lv_aload_n hx hb dX7_readAll_85 rfl (lv_at hl 0 rfl) ?_
                refine va_get (D := (dC, dI)) (ci := 8) (v := .int (u14.1 30)) (C := RX7) (T := TX7) (N := 34) hx hb ht inX7 hown hK hP 0 rfl rfl 30 (by decide) (ht _ kw_110) (fun _ h9 => h9) rfl dX7_readAll_86 ?_
                refine lv_iconst (v := (2 : Int32)) hx hb dX7_readAll_89 (by decide) ?_
                refine lv_icmp_ne (tgt := 97) hx hb dX7_readAll_90 (by decide) (fun c89 => ?_) (fun c89 => ?_)
                · have hm := ite_f c89 hm
                  refine lv_iconst (v := (4 : Int32)) hx hb dX7_readAll_97 (by decide) ?_
                  exact J98_72 (4 : Int32) _ _ _ hm hP hD hS (lv_sub hl [0, 1, 2] rfl)
                · have hm := ite_t c89 hm
                  refine lv_iconst (v := (2 : Int32)) hx hb dX7_readAll_93 (by decide) ?_
                  refine lv_goto (tgt := 98) hx hb dX7_readAll_94 (by decide) ?_
                  exact J98_72 (2 : Int32) _ _ _ hm hP hD hS (lv_sub hl [0, 1, 2] rfl)
              · have hm := ite_t c88 hm
                refine lv_bipush (v := (8 : Int32)) hx hb dX7_readAll_80 (by decide) ?_
                refine lv_goto (tgt := 98) hx hb dX7_readAll_82 (by decide) ?_
                exact J98_72 (8 : Int32) _ _ _ hm hP hD hS (lv_sub hl [0, 1, 2] rfl)
      exact LP51 FU (0 : Int32) u11 _ _ _ hm hP hD hS (lv_sub hl [1, 2, 0] rfl)
    · have hm := ite_f c10 hm
      rw [← hQ]
      exact W.vret hx hb hr (fun t ht1 hW => ⟨⟨u8, rfl, hm, by rw [ht1]; exact hP, hD⟩, hS.F ht1⟩) hS.2.2 dX7_readAll_43
  refine lv_if_ne (tgt := 36) hx hb dX7_readAll_29 (by decide) (fun c90 => ?_) (fun c90 => ?_)
  · have hm := ite_f c90 hm
    exact J36_9 u5 _ _ _ hm hP hD hS (lv_sub hl [1, 0] rfl)
  · have hm := ite_t c90 hm
    refine lv_aload_n hx hb dX7_readAll_32 rfl (lv_at hl 1 rfl) ?_
    have hPc : va_P (dC, dI) vwCl (wM cI cJ aM hM u5) _ := hP
    have hDc : va_D A (wM cI cJ aM hM u5) := hD
    have hFc := va_free (wc := (wM cI cJ aM hM u5)) hD hS hA [0, 1, 2, 3, 4, 5, 6, 7, 8, 9, 10, 11, 12, 13, 14] rfl
    obtain ⟨u91o, e92, hm⟩ := oC1_of hm
    refine va_callv (va_runV (As := []) (rest := []) ⟨hx, hb, hml, hown, ht⟩ (c_X7_readTable l dC dI cI cJ aM hM H.size u5 u91o e92) (cwV 0 ht (gdV kw_151 kw_149 kw_150 kw_7 kw_148) rfl rfl rfl ⟨rfl, nd_X7_readTable⟩ ⟨Nat.le_of_ble_eq_true rfl, Nat.le_of_ble_eq_true rfl⟩) ⟨pcW_blind, va_recv hK hPc (ci := 8) (q0 := 0) rfl rfl, pcW_pre hPc hK hDc hN⟩ rfl rfl hl.1 rfl (lv_room (Nat.le_of_ble_eq_true rfl)) dX7_readAll_33 ⟨Nat.zero_le _, Nat.zero_le _⟩) hS (fun q _ z => hFc q z) hFc (fun uu t H1 locs ht1 hvm hw hB hz1 hk1 hS => ?_)
    obtain ⟨u91, rfl⟩ : ∃ z, z = uu := ⟨_, rfl⟩
    obtain ⟨hP1, hD1⟩ := hB
    rw [ht1] at hP1
    obtain rfl : u91 = u91o := Option.some.inj hw
    have hP : va_P (dC, dI) vwCl (wM cI cJ aM hM u91) H1 := hP1
    have hD : va_D A (wM cI cJ aM hM u91) := hD1.weaken (fun _ q _ z => hFc q.1 z)
    generalize H1 = H at hP hS ⊢
    exact J36_9 u91 _ _ _ hm hP hD hS (lv_sub hl [1, 0] rfl)

def f_X7_read (uM : OS) : Option (OS × Int32) :=
  bnd (sF uM 1 (0 : Int32)) fun u1 =>
  oC1 (f_X7_readAll u1) fun u2 =>
  bnd (sF u2 28 (u2.1 27)) fun u4 =>
  if (u4.1 27) ≤ (0 : Int32) then (
  some (u4, (u4.1 25))) else (
  some (u4, ((-10 : Int32) - (u4.1 26))))

set_option maxHeartbeats 4000000 in
set_option maxRecDepth 100000 in
theorem c_X7_read (l : Launch) (dC : Nat → ClassId) (dI : Nat → Nat → Nat) (cI cJ : ClassId) (aM : Nat) (hM : Nat → Nat) (sz : Nat) (uM : OS) (o : OS × Int32) (hm : f_X7_read uM = some o) : Met l yX7_read (wq yX7_read cX7_read 1 (some .int)) ({ frames := 6, cells := 0, slots := 0, locals := 142 } : Room) (va_Pc [.ref aM] (pcW dC dI cI cJ sz (wM cI cJ aM hM uM))) (va_Qi (S := OS) (fun r u => some (u, r) = some o) (fun (u : OS) t => va_P (dC, dI) vwCl (wM cI cJ aM hM u) t.heap ∧ va_D (va_A (wM cI cJ aM hM uM) sz) (wM cI cJ aM hM u)) (va_A (wM cI cJ aM hM uM) sz)) 0 0 (va_A (wM cI cJ aM hM uM) sz) := by
  refine Met.ofW (cc := cX7_read) (maxL := 1) (ret := (some .int)) (by decide) rfl ?_
  intro p e s m args below meth c s₁ B hml hv
  obtain ⟨rfl, hsz, hP, hK, hD0, hN⟩ := hv
  have hx := B.exec
  have hb := B.bytes
  have hr := B.returns
  have ht : ∀ w ∈ lw_good, w.before _ s = true := fun w h => atoms_spec (ws := wq yX7_read cX7_read 1 (some .int)) B.pre w (wq_mem h)
  have hown : s.vm.findClass RX7 = some m.cls := findClass_of_methodNamed B.named
  have hlocks := B.notSynchronized
  subst hsz
  have hD := hD0.self (sz := s.heap.size)
  generalize hAe : va_A (wM cI cJ aM hM uM) s.heap.size = A at hD ⊢
  have hA : ∀ q : Nat, s.heap.size ≤ q → A q := fun q h => by rw [← hAe]; exact Or.inr h
  have hS : va_S A s.heap s.heap [] := va_S.rf
  have hl := lv_entry ([.ref aM]) (n := 1) (Nat.le_of_ble_eq_true rfl)
  rw [lg_entry_eq]
  generalize (lg_sl ([.ref aM]) ++ List.replicate (1 - (lg_sl ([.ref aM])).length) Slot.unset).toArray = ls at hl ⊢
  have hl : lv_has ls 1 [(0, .ref aM)] := hl
  generalize hQ : MQ below _ _ s _ _ _ = Q
  generalize hH : s.heap = H at hP ⊢
  have hS : va_S A s.heap H [] := by rw [← hH]; exact va_S.rf
  show W p l e ({ frames := 6, cells := 0, slots := 0, locals := 142 } : Room) s m ([.ref aM] : List Value).toArray below meth c H [] 0 0 Q (F0 m 0 ls [])
  unfold f_X7_read at hm
  refine lv_aload_n hx hb dX7_read_0 rfl (lv_at hl 0 rfl) ?_
  refine lv_iconst (v := (0 : Int32)) hx hb dX7_read_1 (by decide) ?_
  refine va_put (D := (dC, dI)) (ci := 8) (v := .int (0 : Int32)) (ty := .int) (C := RX7) (T := TX7) (N := 34) hx hb ht inX7 tyX7 tyX7_ok nmX7 hown hK hP hD hS 0 rfl rfl 1 (by decide) (ht _ kw_0) (fun _ h9 => h9) rfl (by decide +kernel) rfl rfl (Nat.le_of_ble_eq_true rfl) dX7_read_2 (fun H locs hP hD hS => ?_)
  obtain ⟨u1, eu1, hm⟩ := bnd_ex hm
  have hP : va_P (dC, dI) vwCl (wM cI cJ aM hM u1) H := by rw [eu1]; exact hP
  have hD : va_D A (wM cI cJ aM hM u1) := by rw [eu1]; exact hD
  refine lv_aload_n hx hb dX7_read_5 rfl (lv_at hl 0 rfl) ?_
  have hPc : va_P (dC, dI) vwCl (wM cI cJ aM hM u1) _ := hP
  have hDc : va_D A (wM cI cJ aM hM u1) := hD
  have hFc := va_free (wc := (wM cI cJ aM hM u1)) hD hS hA [0, 1, 2, 3, 4, 5, 6, 7, 8, 9, 10, 11, 12, 13, 14] rfl
  obtain ⟨u2o, e3, hm⟩ := oC1_of hm
  refine va_callv (va_runV (As := []) (rest := []) ⟨hx, hb, hml, hown, ht⟩ (c_X7_readAll l dC dI cI cJ aM hM H.size u1 u2o e3) (cwV 0 ht (gdV kw_156 kw_154 kw_155 kw_7 kw_153) rfl rfl rfl ⟨rfl, nd_X7_readAll⟩ ⟨Nat.le_of_ble_eq_true rfl, Nat.le_of_ble_eq_true rfl⟩) ⟨pcW_blind, va_recv hK hPc (ci := 8) (q0 := 0) rfl rfl, pcW_pre hPc hK hDc hN⟩ rfl rfl hl.1 rfl (lv_room (Nat.le_of_ble_eq_true rfl)) dX7_read_6 ⟨Nat.zero_le _, Nat.zero_le _⟩) hS (fun q _ z => hFc q z) hFc (fun uu t H1 locs ht1 hvm hw hB hz1 hk1 hS => ?_)
  obtain ⟨u2, rfl⟩ : ∃ z, z = uu := ⟨_, rfl⟩
  obtain ⟨hP1, hD1⟩ := hB
  rw [ht1] at hP1
  obtain rfl : u2 = u2o := Option.some.inj hw
  have hP : va_P (dC, dI) vwCl (wM cI cJ aM hM u2) H1 := hP1
  have hD : va_D A (wM cI cJ aM hM u2) := hD1.weaken (fun _ q _ z => hFc q.1 z)
  generalize H1 = H at hP hS ⊢
  refine lv_aload_n hx hb dX7_read_9 rfl (lv_at hl 0 rfl) ?_
  refine lv_aload_n hx hb dX7_read_10 rfl (lv_at hl 0 rfl) ?_
  refine va_get (D := (dC, dI)) (ci := 8) (v := .int (u2.1 27)) (C := RX7) (T := TX7) (N := 34) hx hb ht inX7 hown hK hP 0 rfl rfl 27 (by decide) (ht _ kw_95) (fun _ h9 => h9) rfl dX7_read_11 ?_
  refine va_put (D := (dC, dI)) (ci := 8) (v := .int (u2.1 27)) (ty := .int) (C := RX7) (T := TX7) (N := 34) hx hb ht inX7 tyX7 tyX7_ok nmX7 hown hK hP hD hS 0 rfl rfl 28 (by decide) (ht _ kw_152) (fun _ h9 => h9) rfl (by decide +kernel) rfl rfl (Nat.le_of_ble_eq_true rfl) dX7_read_14 (fun H locs hP hD hS => ?_)
  obtain ⟨u4, eu4, hm⟩ := bnd_ex hm
  have hP : va_P (dC, dI) vwCl (wM cI cJ aM hM u4) H := by rw [eu4]; exact hP
  have hD : va_D A (wM cI cJ aM hM u4) := by rw [eu4]; exact hD
  refine lv_aload_n hx hb dX7_read_17 rfl (lv_at hl 0 rfl) ?_
  refine va_get (D := (dC, dI)) (ci := 8) (v := .int (u4.1 27)) (C := RX7) (T := TX7) (N := 34) hx hb ht inX7 hown hK hP 0 rfl rfl 27 (by decide) (ht _ kw_95) (fun _ h9 => h9) rfl dX7_read_18 ?_
  refine lv_if_le (tgt := 34) hx hb dX7_read_21 (by decide) (fun c5 => ?_) (fun c5 => ?_)
  · have hm := ite_t c5 hm
    refine lv_aload_n hx hb dX7_read_34 rfl (lv_at hl 0 rfl) ?_
    refine va_get (D := (dC, dI)) (ci := 8) (v := .int (u4.1 25)) (C := RX7) (T := TX7) (N := 34) hx hb ht inX7 hown hK hP 0 rfl rfl 25 (by decide) (ht _ kw_121) (fun _ h9 => h9) rfl dX7_read_35 ?_
    rw [← hQ]
    exact W.iret (v := (u4.1 25)) hx hb hr (fun t ht1 hW => ⟨⟨_, u4, rfl, hm, by rw [ht1]; exact hP, hD⟩, hS.F ht1⟩) hS.2.2 dX7_read_38
  · have hm := ite_f c5 hm
    refine lv_bipush (v := (-10 : Int32)) hx hb dX7_read_24 (by decide) ?_
    refine lv_aload_n hx hb dX7_read_26 rfl (lv_at hl 0 rfl) ?_
    refine va_get (D := (dC, dI)) (ci := 8) (v := .int (u4.1 26)) (C := RX7) (T := TX7) (N := 34) hx hb ht inX7 hown hK hP 0 rfl rfl 26 (by decide) (ht _ kw_96) (fun _ h9 => h9) rfl dX7_read_27 ?_
    refine lv_isub hx hb dX7_read_30 ?_
    refine lv_goto (tgt := 38) hx hb dX7_read_31 (by decide) ?_
    rw [← hQ]
    exact W.iret (v := ((-10 : Int32) - (u4.1 26))) hx hb hr (fun t ht1 hW => ⟨⟨_, u4, rfl, hm, by rw [ht1]; exact hP, hD⟩, hS.F ht1⟩) hS.2.2 dX7_read_38
end
section
def f_X7_rule (uM : OS) : Option (OS × Int32) :=
  bnd (sF uM 1 (0 : Int32)) fun u1 =>
  some (u1, (u1.1 28))

set_option maxHeartbeats 4000000 in
set_option maxRecDepth 100000 in
theorem c_X7_rule (l : Launch) (dC : Nat → ClassId) (dI : Nat → Nat → Nat) (cI cJ : ClassId) (aM : Nat) (hM : Nat → Nat) (sz : Nat) (uM : OS) (o : OS × Int32) (hm : f_X7_rule uM = some o) : Met l yX7_rule (wq yX7_rule cX7_rule 1 (some .int)) ({ frames := 0, cells := 0, slots := 0, locals := 0 } : Room) (va_Pc [.ref aM] (pcW dC dI cI cJ sz (wM cI cJ aM hM uM))) (va_Qi (S := OS) (fun r u => some (u, r) = some o) (fun (u : OS) t => va_P (dC, dI) vwCl (wM cI cJ aM hM u) t.heap ∧ va_D (va_A (wM cI cJ aM hM uM) sz) (wM cI cJ aM hM u)) (va_A (wM cI cJ aM hM uM) sz)) 0 0 (va_A (wM cI cJ aM hM uM) sz) := by
  refine Met.ofW (cc := cX7_rule) (maxL := 1) (ret := (some .int)) (by decide) rfl ?_
  intro p e s m args below meth c s₁ B hml hv
  obtain ⟨rfl, hsz, hP, hK, hD0, hN⟩ := hv
  have hx := B.exec
  have hb := B.bytes
  have hr := B.returns
  have ht : ∀ w ∈ lw_good, w.before _ s = true := fun w h => atoms_spec (ws := wq yX7_rule cX7_rule 1 (some .int)) B.pre w (wq_mem h)
  have hown : s.vm.findClass RX7 = some m.cls := findClass_of_methodNamed B.named
  have hlocks := B.notSynchronized
  subst hsz
  have hD := hD0.self (sz := s.heap.size)
  generalize hAe : va_A (wM cI cJ aM hM uM) s.heap.size = A at hD ⊢
  have hA : ∀ q : Nat, s.heap.size ≤ q → A q := fun q h => by rw [← hAe]; exact Or.inr h
  have hS : va_S A s.heap s.heap [] := va_S.rf
  have hl := lv_entry ([.ref aM]) (n := 1) (Nat.le_of_ble_eq_true rfl)
  rw [lg_entry_eq]
  generalize (lg_sl ([.ref aM]) ++ List.replicate (1 - (lg_sl ([.ref aM])).length) Slot.unset).toArray = ls at hl ⊢
  have hl : lv_has ls 1 [(0, .ref aM)] := hl
  generalize hQ : MQ below _ _ s _ _ _ = Q
  generalize hH : s.heap = H at hP ⊢
  have hS : va_S A s.heap H [] := by rw [← hH]; exact va_S.rf
  show W p l e ({ frames := 0, cells := 0, slots := 0, locals := 0 } : Room) s m ([.ref aM] : List Value).toArray below meth c H [] 0 0 Q (F0 m 0 ls [])
  unfold f_X7_rule at hm
  refine lv_aload_n hx hb dX7_rule_0 rfl (lv_at hl 0 rfl) ?_
  refine lv_iconst (v := (0 : Int32)) hx hb dX7_rule_1 (by decide) ?_
  refine va_put (D := (dC, dI)) (ci := 8) (v := .int (0 : Int32)) (ty := .int) (C := RX7) (T := TX7) (N := 34) hx hb ht inX7 tyX7 tyX7_ok nmX7 hown hK hP hD hS 0 rfl rfl 1 (by decide) (ht _ kw_0) (fun _ h9 => h9) rfl (by decide +kernel) rfl rfl (Nat.le_of_ble_eq_true rfl) dX7_rule_2 (fun H locs hP hD hS => ?_)
  obtain ⟨u1, eu1, hm⟩ := bnd_ex hm
  have hP : va_P (dC, dI) vwCl (wM cI cJ aM hM u1) H := by rw [eu1]; exact hP
  have hD : va_D A (wM cI cJ aM hM u1) := by rw [eu1]; exact hD
  refine lv_aload_n hx hb dX7_rule_5 rfl (lv_at hl 0 rfl) ?_
  refine va_get (D := (dC, dI)) (ci := 8) (v := .int (u1.1 28)) (C := RX7) (T := TX7) (N := 34) hx hb ht inX7 hown hK hP 0 rfl rfl 28 (by decide) (ht _ kw_152) (fun _ h9 => h9) rfl dX7_rule_6 ?_
  rw [← hQ]
  exact W.iret (v := (u1.1 28)) hx hb hr (fun t ht1 hW => ⟨⟨_, u1, rfl, hm, by rw [ht1]; exact hP, hD⟩, hS.F ht1⟩) hS.2.2 dX7_rule_9

def f_X7_sign (uM : OS) (p1 : Int32) : Option (OS × Int32) :=
  bnd (sF uM 1 (0 : Int32)) fun u1 =>
  if p1 < (0 : Int32) then (
  some (u1, (-1 : Int32))) else (
  if p1 < (u1.1 25) then (
  gdi p1 65536 <|
  some (u1, (u1.2.1 24 (p1).toNatClampNeg))) else (
  some (u1, (-1 : Int32))))

set_option maxHeartbeats 4000000 in
set_option maxRecDepth 100000 in
theorem c_X7_sign (l : Launch) (dC : Nat → ClassId) (dI : Nat → Nat → Nat) (cI cJ : ClassId) (aM : Nat) (hM : Nat → Nat) (sz : Nat) (uM : OS) (p1 : Int32) (o : OS × Int32) (hm : f_X7_sign uM p1 = some o) : Met l yX7_sign (wq yX7_sign cX7_sign 2 (some .int)) ({ frames := 0, cells := 0, slots := 0, locals := 0 } : Room) (va_Pc [.ref aM, .int p1] (pcW dC dI cI cJ sz (wM cI cJ aM hM uM))) (va_Qi (S := OS) (fun r u => some (u, r) = some o) (fun (u : OS) t => va_P (dC, dI) vwCl (wM cI cJ aM hM u) t.heap ∧ va_D (va_A (wM cI cJ aM hM uM) sz) (wM cI cJ aM hM u)) (va_A (wM cI cJ aM hM uM) sz)) 0 0 (va_A (wM cI cJ aM hM uM) sz) := by
  refine Met.ofW (cc := cX7_sign) (maxL := 2) (ret := (some .int)) (by decide) rfl ?_
  intro p e s m args below meth c s₁ B hml hv
  obtain ⟨rfl, hsz, hP, hK, hD0, hN⟩ := hv
  have hx := B.exec
  have hb := B.bytes
  have hr := B.returns
  have ht : ∀ w ∈ lw_good, w.before _ s = true := fun w h => atoms_spec (ws := wq yX7_sign cX7_sign 2 (some .int)) B.pre w (wq_mem h)
  have hown : s.vm.findClass RX7 = some m.cls := findClass_of_methodNamed B.named
  have hlocks := B.notSynchronized
  subst hsz
  have hD := hD0.self (sz := s.heap.size)
  generalize hAe : va_A (wM cI cJ aM hM uM) s.heap.size = A at hD ⊢
  have hA : ∀ q : Nat, s.heap.size ≤ q → A q := fun q h => by rw [← hAe]; exact Or.inr h
  have hS : va_S A s.heap s.heap [] := va_S.rf
  have hl := lv_entry ([.ref aM, .int p1]) (n := 2) (Nat.le_of_ble_eq_true rfl)
  rw [lg_entry_eq]
  generalize (lg_sl ([.ref aM, .int p1]) ++ List.replicate (2 - (lg_sl ([.ref aM, .int p1])).length) Slot.unset).toArray = ls at hl ⊢
  have hl : lv_has ls 2 [(0, .ref aM), (1, .int p1)] := hl
  generalize hQ : MQ below _ _ s _ _ _ = Q
  generalize hH : s.heap = H at hP ⊢
  have hS : va_S A s.heap H [] := by rw [← hH]; exact va_S.rf
  show W p l e ({ frames := 0, cells := 0, slots := 0, locals := 0 } : Room) s m ([.ref aM, .int p1] : List Value).toArray below meth c H [] 0 0 Q (F0 m 0 ls [])
  unfold f_X7_sign at hm
  refine lv_aload_n hx hb dX7_sign_0 rfl (lv_at hl 0 rfl) ?_
  refine lv_iconst (v := (0 : Int32)) hx hb dX7_sign_1 (by decide) ?_
  refine va_put (D := (dC, dI)) (ci := 8) (v := .int (0 : Int32)) (ty := .int) (C := RX7) (T := TX7) (N := 34) hx hb ht inX7 tyX7 tyX7_ok nmX7 hown hK hP hD hS 0 rfl rfl 1 (by decide) (ht _ kw_0) (fun _ h9 => h9) rfl (by decide +kernel) rfl rfl (Nat.le_of_ble_eq_true rfl) dX7_sign_2 (fun H locs hP hD hS => ?_)
  obtain ⟨u1, eu1, hm⟩ := bnd_ex hm
  have hP : va_P (dC, dI) vwCl (wM cI cJ aM hM u1) H := by rw [eu1]; exact hP
  have hD : va_D A (wM cI cJ aM hM u1) := by rw [eu1]; exact hD
  refine lv_iload_n hx hb dX7_sign_5 rfl (lv_at hl 1 rfl) ?_
  refine lv_if_lt (tgt := 17) hx hb dX7_sign_6 (by decide) (fun c2 => ?_) (fun c2 => ?_)
  · have hm := ite_t c2 hm
    refine lv_iconst (v := (-1 : Int32)) hx hb dX7_sign_17 (by decide) ?_
    refine lv_goto (tgt := 27) hx hb dX7_sign_18 (by decide) ?_
    rw [← hQ]
    exact W.iret (v := (-1 : Int32)) hx hb hr (fun t ht1 hW => ⟨⟨_, u1, rfl, hm, by rw [ht1]; exact hP, hD⟩, hS.F ht1⟩) hS.2.2 dX7_sign_27
  · have hm := ite_f c2 hm
    refine lv_iload_n hx hb dX7_sign_9 rfl (lv_at hl 1 rfl) ?_
    refine lv_aload_n hx hb dX7_sign_10 rfl (lv_at hl 0 rfl) ?_
    refine va_get (D := (dC, dI)) (ci := 8) (v := .int (u1.1 25)) (C := RX7) (T := TX7) (N := 34) hx hb ht inX7 hown hK hP 0 rfl rfl 25 (by decide) (ht _ kw_121) (fun _ h9 => h9) rfl dX7_sign_11 ?_
    refine lv_icmp_lt (tgt := 21) hx hb dX7_sign_14 (by decide) (fun c3 => ?_) (fun c3 => ?_)
    · have hm := ite_t c3 hm
      refine lv_aload_n hx hb dX7_sign_21 rfl (lv_at hl 0 rfl) ?_
      refine va_get (D := (dC, dI)) (ci := 8) (v := .ref (hM 24)) (C := RX7) (T := TX7) (N := 34) hx hb ht inX7 hown hK hP 0 rfl rfl 24 (by decide) (ht _ kw_120) (fun _ h9 => h9) rfl dX7_sign_22 ?_
      refine lv_iload_n hx hb dX7_sign_25 rfl (lv_at hl 1 rfl) ?_
      obtain ⟨g4, hm⟩ := gdi_of hm
      refine va_iald hx hb hK hP 13 0 rfl rfl g4 dX7_sign_26 ?_
      rw [← hQ]
      exact W.iret (v := (u1.2.1 24 (p1).toNatClampNeg)) hx hb hr (fun t ht1 hW => ⟨⟨_, u1, rfl, hm, by rw [ht1]; exact hP, hD⟩, hS.F ht1⟩) hS.2.2 dX7_sign_27
    · have hm := ite_f c3 hm
      refine lv_iconst (v := (-1 : Int32)) hx hb dX7_sign_17 (by decide) ?_
      refine lv_goto (tgt := 27) hx hb dX7_sign_18 (by decide) ?_
      rw [← hQ]
      exact W.iret (v := (-1 : Int32)) hx hb hr (fun t ht1 hW => ⟨⟨_, u1, rfl, hm, by rw [ht1]; exact hP, hD⟩, hS.F ht1⟩) hS.2.2 dX7_sign_27

def f_X7_state (uM : OS) (p1 : Int32) (p2 : Int32) : Option (OS × Int64) :=
  bnd (sF uM 1 (0 : Int32)) fun u1 =>
  if p1 = (0 : Int32) then (
  if p2 < (0 : Int32) then (
  some (u1, (-1 : Int64))) else (
  if p2 < (u1.1 18) then (
  gdi p2 4 <|
  some (u1, (u1.2.2.1 17 (p2).toNatClampNeg))) else (
  some (u1, (-1 : Int64))))) else (
  if p1 = (1 : Int32) then (
  if (u1.1 32) = (0 : Int32) then (
  some (u1, (-1 : Int64))) else (
  if p2 < (0 : Int32) then (
  some (u1, (-1 : Int64))) else (
  if p2 < (u1.1 31) then (
  gdi p2 4 <|
  some (u1, (u1.2.2.1 33 (p2).toNatClampNeg))) else (
  some (u1, (-1 : Int64)))))) else (
  some (u1, (-1 : Int64))))

set_option maxHeartbeats 4000000 in
set_option maxRecDepth 100000 in
theorem c_X7_state (l : Launch) (dC : Nat → ClassId) (dI : Nat → Nat → Nat) (cI cJ : ClassId) (aM : Nat) (hM : Nat → Nat) (sz : Nat) (uM : OS) (p1 : Int32) (p2 : Int32) (o : OS × Int64) (hm : f_X7_state uM p1 p2 = some o) : Met l yX7_state (wq yX7_state cX7_state 3 (some .long)) ({ frames := 0, cells := 0, slots := 0, locals := 0 } : Room) (va_Pc [.ref aM, .int p1, .int p2] (pcW dC dI cI cJ sz (wM cI cJ aM hM uM))) (va_Ql (S := OS) (fun r u => some (u, r) = some o) (fun (u : OS) t => va_P (dC, dI) vwCl (wM cI cJ aM hM u) t.heap ∧ va_D (va_A (wM cI cJ aM hM uM) sz) (wM cI cJ aM hM u)) (va_A (wM cI cJ aM hM uM) sz)) 0 0 (va_A (wM cI cJ aM hM uM) sz) := by
  refine Met.ofW (cc := cX7_state) (maxL := 3) (ret := (some .long)) (by decide) rfl ?_
  intro p e s m args below meth c s₁ B hml hv
  obtain ⟨rfl, hsz, hP, hK, hD0, hN⟩ := hv
  have hx := B.exec
  have hb := B.bytes
  have hr := B.returns
  have ht : ∀ w ∈ lw_good, w.before _ s = true := fun w h => atoms_spec (ws := wq yX7_state cX7_state 3 (some .long)) B.pre w (wq_mem h)
  have hown : s.vm.findClass RX7 = some m.cls := findClass_of_methodNamed B.named
  have hlocks := B.notSynchronized
  subst hsz
  have hD := hD0.self (sz := s.heap.size)
  generalize hAe : va_A (wM cI cJ aM hM uM) s.heap.size = A at hD ⊢
  have hA : ∀ q : Nat, s.heap.size ≤ q → A q := fun q h => by rw [← hAe]; exact Or.inr h
  have hS : va_S A s.heap s.heap [] := va_S.rf
  have hl := lv_entry ([.ref aM, .int p1, .int p2]) (n := 3) (Nat.le_of_ble_eq_true rfl)
  rw [lg_entry_eq]
  generalize (lg_sl ([.ref aM, .int p1, .int p2]) ++ List.replicate (3 - (lg_sl ([.ref aM, .int p1, .int p2])).length) Slot.unset).toArray = ls at hl ⊢
  have hl : lv_has ls 3 [(0, .ref aM), (1, .int p1), (2, .int p2)] := hl
  generalize hQ : MQ below _ _ s _ _ _ = Q
  generalize hH : s.heap = H at hP ⊢
  have hS : va_S A s.heap H [] := by rw [← hH]; exact va_S.rf
  show W p l e ({ frames := 0, cells := 0, slots := 0, locals := 0 } : Room) s m ([.ref aM, .int p1, .int p2] : List Value).toArray below meth c H [] 0 0 Q (F0 m 0 ls [])
  unfold f_X7_state at hm
  refine lv_aload_n hx hb dX7_state_0 rfl (lv_at hl 0 rfl) ?_
  refine lv_iconst (v := (0 : Int32)) hx hb dX7_state_1 (by decide) ?_
  refine va_put (D := (dC, dI)) (ci := 8) (v := .int (0 : Int32)) (ty := .int) (C := RX7) (T := TX7) (N := 34) hx hb ht inX7 tyX7 tyX7_ok nmX7 hown hK hP hD hS 0 rfl rfl 1 (by decide) (ht _ kw_0) (fun _ h9 => h9) rfl (by decide +kernel) rfl rfl (Nat.le_of_ble_eq_true rfl) dX7_state_2 (fun H locs hP hD hS => ?_)
  obtain ⟨u1, eu1, hm⟩ := bnd_ex hm
  have hP : va_P (dC, dI) vwCl (wM cI cJ aM hM u1) H := by rw [eu1]; exact hP
  have hD : va_D A (wM cI cJ aM hM u1) := by rw [eu1]; exact hD
  refine lv_iload_n hx hb dX7_state_5 rfl (lv_at hl 1 rfl) ?_
  refine lv_if_ne (tgt := 34) hx hb dX7_state_6 (by decide) (fun c2 => ?_) (fun c2 => ?_)
  · have hm := ite_f c2 hm
    refine lv_iload_n hx hb dX7_state_34 rfl (lv_at hl 1 rfl) ?_
    refine lv_iconst (v := (1 : Int32)) hx hb dX7_state_35 (by decide) ?_
    refine lv_icmp_ne (tgt := 58) hx hb dX7_state_36 (by decide) (fun c3 => ?_) (fun c3 => ?_)
    · have hm := ite_f c3 hm
      refine lv_ldc2 (v := (-1 : Int64)) hx hb hown (ht _ kw_13) dX7_state_58 ?_
      refine lv_goto (tgt := 70) hx hb dX7_state_61 (by decide) ?_
      rw [← hQ]
      exact W.lret (v := (-1 : Int64)) hx hb hr (fun t ht1 hW => ⟨⟨_, u1, rfl, hm, by rw [ht1]; exact hP, hD⟩, hS.F ht1⟩) hS.2.2 dX7_state_70
    · have hm := ite_t c3 hm
      refine lv_aload_n hx hb dX7_state_39 rfl (lv_at hl 0 rfl) ?_
      refine va_get (D := (dC, dI)) (ci := 8) (v := .int (u1.1 32)) (C := RX7) (T := TX7) (N := 34) hx hb ht inX7 hown hK hP 0 rfl rfl 32 (by decide) (ht _ kw_135) (fun _ h9 => h9) rfl dX7_state_40 ?_
      refine lv_if_eq (tgt := 58) hx hb dX7_state_43 (by decide) (fun c4 => ?_) (fun c4 => ?_)
      · have hm := ite_t c4 hm
        refine lv_ldc2 (v := (-1 : Int64)) hx hb hown (ht _ kw_13) dX7_state_58 ?_
        refine lv_goto (tgt := 70) hx hb dX7_state_61 (by decide) ?_
        rw [← hQ]
        exact W.lret (v := (-1 : Int64)) hx hb hr (fun t ht1 hW => ⟨⟨_, u1, rfl, hm, by rw [ht1]; exact hP, hD⟩, hS.F ht1⟩) hS.2.2 dX7_state_70
      · have hm := ite_f c4 hm
        refine lv_iload_n hx hb dX7_state_46 rfl (lv_at hl 2 rfl) ?_
        refine lv_if_lt (tgt := 58) hx hb dX7_state_47 (by decide) (fun c5 => ?_) (fun c5 => ?_)
        · have hm := ite_t c5 hm
          refine lv_ldc2 (v := (-1 : Int64)) hx hb hown (ht _ kw_13) dX7_state_58 ?_
          refine lv_goto (tgt := 70) hx hb dX7_state_61 (by decide) ?_
          rw [← hQ]
          exact W.lret (v := (-1 : Int64)) hx hb hr (fun t ht1 hW => ⟨⟨_, u1, rfl, hm, by rw [ht1]; exact hP, hD⟩, hS.F ht1⟩) hS.2.2 dX7_state_70
        · have hm := ite_f c5 hm
          refine lv_iload_n hx hb dX7_state_50 rfl (lv_at hl 2 rfl) ?_
          refine lv_aload_n hx hb dX7_state_51 rfl (lv_at hl 0 rfl) ?_
          refine va_get (D := (dC, dI)) (ci := 8) (v := .int (u1.1 31)) (C := RX7) (T := TX7) (N := 34) hx hb ht inX7 hown hK hP 0 rfl rfl 31 (by decide) (ht _ kw_134) (fun _ h9 => h9) rfl dX7_state_52 ?_
          refine lv_icmp_lt (tgt := 64) hx hb dX7_state_55 (by decide) (fun c6 => ?_) (fun c6 => ?_)
          · have hm := ite_t c6 hm
            refine lv_aload_n hx hb dX7_state_64 rfl (lv_at hl 0 rfl) ?_
            refine va_get (D := (dC, dI)) (ci := 8) (v := .ref (hM 33)) (C := RX7) (T := TX7) (N := 34) hx hb ht inX7 hown hK hP 0 rfl rfl 33 (by decide) (ht _ kw_111) (fun _ h9 => h9) rfl dX7_state_65 ?_
            refine lv_iload_n hx hb dX7_state_68 rfl (lv_at hl 2 rfl) ?_
            obtain ⟨g7, hm⟩ := gdi_of hm
            refine va_lald hx hb hK hP 14 1 rfl rfl g7 dX7_state_69 ?_
            rw [← hQ]
            exact W.lret (v := (u1.2.2.1 33 (p2).toNatClampNeg)) hx hb hr (fun t ht1 hW => ⟨⟨_, u1, rfl, hm, by rw [ht1]; exact hP, hD⟩, hS.F ht1⟩) hS.2.2 dX7_state_70
          · have hm := ite_f c6 hm
            refine lv_ldc2 (v := (-1 : Int64)) hx hb hown (ht _ kw_13) dX7_state_58 ?_
            refine lv_goto (tgt := 70) hx hb dX7_state_61 (by decide) ?_
            rw [← hQ]
            exact W.lret (v := (-1 : Int64)) hx hb hr (fun t ht1 hW => ⟨⟨_, u1, rfl, hm, by rw [ht1]; exact hP, hD⟩, hS.F ht1⟩) hS.2.2 dX7_state_70
  · have hm := ite_t c2 hm
    refine lv_iload_n hx hb dX7_state_9 rfl (lv_at hl 2 rfl) ?_
    refine lv_if_lt (tgt := 21) hx hb dX7_state_10 (by decide) (fun c8 => ?_) (fun c8 => ?_)
    · have hm := ite_t c8 hm
      refine lv_ldc2 (v := (-1 : Int64)) hx hb hown (ht _ kw_13) dX7_state_21 ?_
      refine lv_goto (tgt := 33) hx hb dX7_state_24 (by decide) ?_
      rw [← hQ]
      exact W.lret (v := (-1 : Int64)) hx hb hr (fun t ht1 hW => ⟨⟨_, u1, rfl, hm, by rw [ht1]; exact hP, hD⟩, hS.F ht1⟩) hS.2.2 dX7_state_33
    · have hm := ite_f c8 hm
      refine lv_iload_n hx hb dX7_state_13 rfl (lv_at hl 2 rfl) ?_
      refine lv_aload_n hx hb dX7_state_14 rfl (lv_at hl 0 rfl) ?_
      refine va_get (D := (dC, dI)) (ci := 8) (v := .int (u1.1 18)) (C := RX7) (T := TX7) (N := 34) hx hb ht inX7 hown hK hP 0 rfl rfl 18 (by decide) (ht _ kw_63) (fun _ h9 => h9) rfl dX7_state_15 ?_
      refine lv_icmp_lt (tgt := 27) hx hb dX7_state_18 (by decide) (fun c9 => ?_) (fun c9 => ?_)
      · have hm := ite_t c9 hm
        refine lv_aload_n hx hb dX7_state_27 rfl (lv_at hl 0 rfl) ?_
        refine va_get (D := (dC, dI)) (ci := 8) (v := .ref (hM 17)) (C := RX7) (T := TX7) (N := 34) hx hb ht inX7 hown hK hP 0 rfl rfl 17 (by decide) (ht _ kw_62) (fun _ h9 => h9) rfl dX7_state_28 ?_
        refine lv_iload_n hx hb dX7_state_31 rfl (lv_at hl 2 rfl) ?_
        obtain ⟨g10, hm⟩ := gdi_of hm
        refine va_lald hx hb hK hP 11 1 rfl rfl g10 dX7_state_32 ?_
        rw [← hQ]
        exact W.lret (v := (u1.2.2.1 17 (p2).toNatClampNeg)) hx hb hr (fun t ht1 hW => ⟨⟨_, u1, rfl, hm, by rw [ht1]; exact hP, hD⟩, hS.F ht1⟩) hS.2.2 dX7_state_33
      · have hm := ite_f c9 hm
        refine lv_ldc2 (v := (-1 : Int64)) hx hb hown (ht _ kw_13) dX7_state_21 ?_
        refine lv_goto (tgt := 33) hx hb dX7_state_24 (by decide) ?_
        rw [← hQ]
        exact W.lret (v := (-1 : Int64)) hx hb hr (fun t ht1 hW => ⟨⟨_, u1, rfl, hm, by rw [ht1]; exact hP, hD⟩, hS.F ht1⟩) hS.2.2 dX7_state_33

def f_X7_out (uM : OS) (p1 : Int32) : Option (OS × Int32) :=
  bnd (sF uM 1 (0 : Int32)) fun u1 =>
  if p1 < (0 : Int32) then (
  some (u1, (-1 : Int32))) else (
  if p1 < (u1.1 15) then (
  gdi p1 20000 <|
  some (u1, (u1.2.1 14 (p1).toNatClampNeg))) else (
  some (u1, (-1 : Int32))))

set_option maxHeartbeats 4000000 in
set_option maxRecDepth 100000 in
theorem c_X7_out (l : Launch) (dC : Nat → ClassId) (dI : Nat → Nat → Nat) (cI cJ : ClassId) (aM : Nat) (hM : Nat → Nat) (sz : Nat) (uM : OS) (p1 : Int32) (o : OS × Int32) (hm : f_X7_out uM p1 = some o) : Met l yX7_out (wq yX7_out cX7_out 2 (some .int)) ({ frames := 0, cells := 0, slots := 0, locals := 0 } : Room) (va_Pc [.ref aM, .int p1] (pcW dC dI cI cJ sz (wM cI cJ aM hM uM))) (va_Qi (S := OS) (fun r u => some (u, r) = some o) (fun (u : OS) t => va_P (dC, dI) vwCl (wM cI cJ aM hM u) t.heap ∧ va_D (va_A (wM cI cJ aM hM uM) sz) (wM cI cJ aM hM u)) (va_A (wM cI cJ aM hM uM) sz)) 0 0 (va_A (wM cI cJ aM hM uM) sz) := by
  refine Met.ofW (cc := cX7_out) (maxL := 2) (ret := (some .int)) (by decide) rfl ?_
  intro p e s m args below meth c s₁ B hml hv
  obtain ⟨rfl, hsz, hP, hK, hD0, hN⟩ := hv
  have hx := B.exec
  have hb := B.bytes
  have hr := B.returns
  have ht : ∀ w ∈ lw_good, w.before _ s = true := fun w h => atoms_spec (ws := wq yX7_out cX7_out 2 (some .int)) B.pre w (wq_mem h)
  have hown : s.vm.findClass RX7 = some m.cls := findClass_of_methodNamed B.named
  have hlocks := B.notSynchronized
  subst hsz
  have hD := hD0.self (sz := s.heap.size)
  generalize hAe : va_A (wM cI cJ aM hM uM) s.heap.size = A at hD ⊢
  have hA : ∀ q : Nat, s.heap.size ≤ q → A q := fun q h => by rw [← hAe]; exact Or.inr h
  have hS : va_S A s.heap s.heap [] := va_S.rf
  have hl := lv_entry ([.ref aM, .int p1]) (n := 2) (Nat.le_of_ble_eq_true rfl)
  rw [lg_entry_eq]
  generalize (lg_sl ([.ref aM, .int p1]) ++ List.replicate (2 - (lg_sl ([.ref aM, .int p1])).length) Slot.unset).toArray = ls at hl ⊢
  have hl : lv_has ls 2 [(0, .ref aM), (1, .int p1)] := hl
  generalize hQ : MQ below _ _ s _ _ _ = Q
  generalize hH : s.heap = H at hP ⊢
  have hS : va_S A s.heap H [] := by rw [← hH]; exact va_S.rf
  show W p l e ({ frames := 0, cells := 0, slots := 0, locals := 0 } : Room) s m ([.ref aM, .int p1] : List Value).toArray below meth c H [] 0 0 Q (F0 m 0 ls [])
  unfold f_X7_out at hm
  refine lv_aload_n hx hb dX7_out_0 rfl (lv_at hl 0 rfl) ?_
  refine lv_iconst (v := (0 : Int32)) hx hb dX7_out_1 (by decide) ?_
  refine va_put (D := (dC, dI)) (ci := 8) (v := .int (0 : Int32)) (ty := .int) (C := RX7) (T := TX7) (N := 34) hx hb ht inX7 tyX7 tyX7_ok nmX7 hown hK hP hD hS 0 rfl rfl 1 (by decide) (ht _ kw_0) (fun _ h9 => h9) rfl (by decide +kernel) rfl rfl (Nat.le_of_ble_eq_true rfl) dX7_out_2 (fun H locs hP hD hS => ?_)
  obtain ⟨u1, eu1, hm⟩ := bnd_ex hm
  have hP : va_P (dC, dI) vwCl (wM cI cJ aM hM u1) H := by rw [eu1]; exact hP
  have hD : va_D A (wM cI cJ aM hM u1) := by rw [eu1]; exact hD
  refine lv_iload_n hx hb dX7_out_5 rfl (lv_at hl 1 rfl) ?_
  refine lv_if_lt (tgt := 17) hx hb dX7_out_6 (by decide) (fun c2 => ?_) (fun c2 => ?_)
  · have hm := ite_t c2 hm
    refine lv_iconst (v := (-1 : Int32)) hx hb dX7_out_17 (by decide) ?_
    refine lv_goto (tgt := 27) hx hb dX7_out_18 (by decide) ?_
    rw [← hQ]
    exact W.iret (v := (-1 : Int32)) hx hb hr (fun t ht1 hW => ⟨⟨_, u1, rfl, hm, by rw [ht1]; exact hP, hD⟩, hS.F ht1⟩) hS.2.2 dX7_out_27
  · have hm := ite_f c2 hm
    refine lv_iload_n hx hb dX7_out_9 rfl (lv_at hl 1 rfl) ?_
    refine lv_aload_n hx hb dX7_out_10 rfl (lv_at hl 0 rfl) ?_
    refine va_get (D := (dC, dI)) (ci := 8) (v := .int (u1.1 15)) (C := RX7) (T := TX7) (N := 34) hx hb ht inX7 hown hK hP 0 rfl rfl 15 (by decide) (ht _ kw_32) (fun _ h9 => h9) rfl dX7_out_11 ?_
    refine lv_icmp_lt (tgt := 21) hx hb dX7_out_14 (by decide) (fun c3 => ?_) (fun c3 => ?_)
    · have hm := ite_t c3 hm
      refine lv_aload_n hx hb dX7_out_21 rfl (lv_at hl 0 rfl) ?_
      refine va_get (D := (dC, dI)) (ci := 8) (v := .ref (hM 14)) (C := RX7) (T := TX7) (N := 34) hx hb ht inX7 hown hK hP 0 rfl rfl 14 (by decide) (ht _ kw_31) (fun _ h9 => h9) rfl dX7_out_22 ?_
      refine lv_iload_n hx hb dX7_out_25 rfl (lv_at hl 1 rfl) ?_
      obtain ⟨g4, hm⟩ := gdi_of hm
      refine va_iald hx hb hK hP 9 0 rfl rfl g4 dX7_out_26 ?_
      rw [← hQ]
      exact W.iret (v := (u1.2.1 14 (p1).toNatClampNeg)) hx hb hr (fun t ht1 hW => ⟨⟨_, u1, rfl, hm, by rw [ht1]; exact hP, hD⟩, hS.F ht1⟩) hS.2.2 dX7_out_27
    · have hm := ite_f c3 hm
      refine lv_iconst (v := (-1 : Int32)) hx hb dX7_out_17 (by decide) ?_
      refine lv_goto (tgt := 27) hx hb dX7_out_18 (by decide) ?_
      rw [← hQ]
      exact W.iret (v := (-1 : Int32)) hx hb hr (fun t ht1 hW => ⟨⟨_, u1, rfl, hm, by rw [ht1]; exact hP, hD⟩, hS.F ht1⟩) hS.2.2 dX7_out_27

def f_X7_spoil (uM : OS) (p1 : Int32) (p2 : Int32) : Option (OS × Int32) :=
  bnd (sF uM 1 (0 : Int32)) fun u1 =>
  if p1 < (0 : Int32) then (
  some (u1, (-1 : Int32))) else (
  if (u1.1 15) ≤ p1 then (
  some (u1, (-1 : Int32))) else (
  if p2 < (1 : Int32) then (
  some (u1, (-1 : Int32))) else (
  if p2 ≤ (255 : Int32) then (
  gdi p1 20000 <|
  gdi p1 20000 <|
  bnd (sA u1 14 p1 ((u1.2.1 14 (p1).toNatClampNeg) ^^^ p2)) fun u8 =>
  gdi p1 20000 <|
  some (u8, (u8.2.1 14 (p1).toNatClampNeg))) else (
  some (u1, (-1 : Int32))))))

set_option maxHeartbeats 4000000 in
set_option maxRecDepth 100000 in
theorem c_X7_spoil (l : Launch) (dC : Nat → ClassId) (dI : Nat → Nat → Nat) (cI cJ : ClassId) (aM : Nat) (hM : Nat → Nat) (sz : Nat) (uM : OS) (p1 : Int32) (p2 : Int32) (o : OS × Int32) (hm : f_X7_spoil uM p1 p2 = some o) : Met l yX7_spoil (wq yX7_spoil cX7_spoil 3 (some .int)) ({ frames := 0, cells := 0, slots := 0, locals := 0 } : Room) (va_Pc [.ref aM, .int p1, .int p2] (pcW dC dI cI cJ sz (wM cI cJ aM hM uM))) (va_Qi (S := OS) (fun r u => some (u, r) = some o) (fun (u : OS) t => va_P (dC, dI) vwCl (wM cI cJ aM hM u) t.heap ∧ va_D (va_A (wM cI cJ aM hM uM) sz) (wM cI cJ aM hM u)) (va_A (wM cI cJ aM hM uM) sz)) 0 0 (va_A (wM cI cJ aM hM uM) sz) := by
  refine Met.ofW (cc := cX7_spoil) (maxL := 3) (ret := (some .int)) (by decide) rfl ?_
  intro p e s m args below meth c s₁ B hml hv
  obtain ⟨rfl, hsz, hP, hK, hD0, hN⟩ := hv
  have hx := B.exec
  have hb := B.bytes
  have hr := B.returns
  have ht : ∀ w ∈ lw_good, w.before _ s = true := fun w h => atoms_spec (ws := wq yX7_spoil cX7_spoil 3 (some .int)) B.pre w (wq_mem h)
  have hown : s.vm.findClass RX7 = some m.cls := findClass_of_methodNamed B.named
  have hlocks := B.notSynchronized
  subst hsz
  have hD := hD0.self (sz := s.heap.size)
  generalize hAe : va_A (wM cI cJ aM hM uM) s.heap.size = A at hD ⊢
  have hA : ∀ q : Nat, s.heap.size ≤ q → A q := fun q h => by rw [← hAe]; exact Or.inr h
  have hS : va_S A s.heap s.heap [] := va_S.rf
  have hl := lv_entry ([.ref aM, .int p1, .int p2]) (n := 3) (Nat.le_of_ble_eq_true rfl)
  rw [lg_entry_eq]
  generalize (lg_sl ([.ref aM, .int p1, .int p2]) ++ List.replicate (3 - (lg_sl ([.ref aM, .int p1, .int p2])).length) Slot.unset).toArray = ls at hl ⊢
  have hl : lv_has ls 3 [(0, .ref aM), (1, .int p1), (2, .int p2)] := hl
  generalize hQ : MQ below _ _ s _ _ _ = Q
  generalize hH : s.heap = H at hP ⊢
  have hS : va_S A s.heap H [] := by rw [← hH]; exact va_S.rf
  show W p l e ({ frames := 0, cells := 0, slots := 0, locals := 0 } : Room) s m ([.ref aM, .int p1, .int p2] : List Value).toArray below meth c H [] 0 0 Q (F0 m 0 ls [])
  unfold f_X7_spoil at hm
  refine lv_aload_n hx hb dX7_spoil_0 rfl (lv_at hl 0 rfl) ?_
  refine lv_iconst (v := (0 : Int32)) hx hb dX7_spoil_1 (by decide) ?_
  refine va_put (D := (dC, dI)) (ci := 8) (v := .int (0 : Int32)) (ty := .int) (C := RX7) (T := TX7) (N := 34) hx hb ht inX7 tyX7 tyX7_ok nmX7 hown hK hP hD hS 0 rfl rfl 1 (by decide) (ht _ kw_0) (fun _ h9 => h9) rfl (by decide +kernel) rfl rfl (Nat.le_of_ble_eq_true rfl) dX7_spoil_2 (fun H locs hP hD hS => ?_)
  obtain ⟨u1, eu1, hm⟩ := bnd_ex hm
  have hP : va_P (dC, dI) vwCl (wM cI cJ aM hM u1) H := by rw [eu1]; exact hP
  have hD : va_D A (wM cI cJ aM hM u1) := by rw [eu1]; exact hD
  refine lv_iload_n hx hb dX7_spoil_5 rfl (lv_at hl 1 rfl) ?_
  refine lv_if_lt (tgt := 29) hx hb dX7_spoil_6 (by decide) (fun c2 => ?_) (fun c2 => ?_)
  · have hm := ite_t c2 hm
    refine lv_iconst (v := (-1 : Int32)) hx hb dX7_spoil_29 (by decide) ?_
    rw [← hQ]
    exact W.iret (v := (-1 : Int32)) hx hb hr (fun t ht1 hW => ⟨⟨_, u1, rfl, hm, by rw [ht1]; exact hP, hD⟩, hS.F ht1⟩) hS.2.2 dX7_spoil_30
  · have hm := ite_f c2 hm
    refine lv_iload_n hx hb dX7_spoil_9 rfl (lv_at hl 1 rfl) ?_
    refine lv_aload_n hx hb dX7_spoil_10 rfl (lv_at hl 0 rfl) ?_
    refine va_get (D := (dC, dI)) (ci := 8) (v := .int (u1.1 15)) (C := RX7) (T := TX7) (N := 34) hx hb ht inX7 hown hK hP 0 rfl rfl 15 (by decide) (ht _ kw_32) (fun _ h9 => h9) rfl dX7_spoil_11 ?_
    refine lv_icmp_ge (tgt := 29) hx hb dX7_spoil_14 (by decide) (fun c3 => ?_) (fun c3 => ?_)
    · have hm := ite_t c3 hm
      refine lv_iconst (v := (-1 : Int32)) hx hb dX7_spoil_29 (by decide) ?_
      rw [← hQ]
      exact W.iret (v := (-1 : Int32)) hx hb hr (fun t ht1 hW => ⟨⟨_, u1, rfl, hm, by rw [ht1]; exact hP, hD⟩, hS.F ht1⟩) hS.2.2 dX7_spoil_30
    · have hm := ite_f c3 hm
      refine lv_iload_n hx hb dX7_spoil_17 rfl (lv_at hl 2 rfl) ?_
      refine lv_iconst (v := (1 : Int32)) hx hb dX7_spoil_18 (by decide) ?_
      refine lv_icmp_lt (tgt := 29) hx hb dX7_spoil_19 (by decide) (fun c4 => ?_) (fun c4 => ?_)
      · have hm := ite_t c4 hm
        refine lv_iconst (v := (-1 : Int32)) hx hb dX7_spoil_29 (by decide) ?_
        rw [← hQ]
        exact W.iret (v := (-1 : Int32)) hx hb hr (fun t ht1 hW => ⟨⟨_, u1, rfl, hm, by rw [ht1]; exact hP, hD⟩, hS.F ht1⟩) hS.2.2 dX7_spoil_30
      · have hm := ite_f c4 hm
        refine lv_iload_n hx hb dX7_spoil_22 rfl (lv_at hl 2 rfl) ?_
        refine lv_sipush (v := (255 : Int32)) hx hb dX7_spoil_23 (by decide) ?_
        refine lv_icmp_le (tgt := 31) hx hb dX7_spoil_26 (by decide) (fun c5 => ?_) (fun c5 => ?_)
        · have hm := ite_t c5 hm
          refine lv_aload_n hx hb dX7_spoil_31 rfl (lv_at hl 0 rfl) ?_
          refine va_get (D := (dC, dI)) (ci := 8) (v := .ref (hM 14)) (C := RX7) (T := TX7) (N := 34) hx hb ht inX7 hown hK hP 0 rfl rfl 14 (by decide) (ht _ kw_31) (fun _ h9 => h9) rfl dX7_spoil_32 ?_
          refine lv_iload_n hx hb dX7_spoil_35 rfl (lv_at hl 1 rfl) ?_
          refine lv_dup2_11 hx hb dX7_spoil_36 rfl rfl ?_
          obtain ⟨g6, hm⟩ := gdi_of hm
          refine va_iald hx hb hK hP 9 0 rfl rfl g6 dX7_spoil_37 ?_
          refine lv_iload_n hx hb dX7_spoil_38 rfl (lv_at hl 2 rfl) ?_
          refine lv_ixor hx hb dX7_spoil_39 ?_
          obtain ⟨g7, hm⟩ := gdi_of hm
          refine va_iast hx hb hK hP hD hS 9 0 rfl rfl g7 dX7_spoil_40 (fun H locs hP hD hS => ?_)
          obtain ⟨u8, eu8, hm⟩ := bnd_ex hm
          have hP : va_P (dC, dI) vwCl (wM cI cJ aM hM u8) H := by rw [eu8]; exact hP
          have hD : va_D A (wM cI cJ aM hM u8) := by rw [eu8]; exact hD
          refine lv_aload_n hx hb dX7_spoil_41 rfl (lv_at hl 0 rfl) ?_
          refine va_get (D := (dC, dI)) (ci := 8) (v := .ref (hM 14)) (C := RX7) (T := TX7) (N := 34) hx hb ht inX7 hown hK hP 0 rfl rfl 14 (by decide) (ht _ kw_31) (fun _ h9 => h9) rfl dX7_spoil_42 ?_
          refine lv_iload_n hx hb dX7_spoil_45 rfl (lv_at hl 1 rfl) ?_
          obtain ⟨g9, hm⟩ := gdi_of hm
          refine va_iald hx hb hK hP 9 0 rfl rfl g9 dX7_spoil_46 ?_
          rw [← hQ]
          exact W.iret (v := (u8.2.1 14 (p1).toNatClampNeg)) hx hb hr (fun t ht1 hW => ⟨⟨_, u8, rfl, hm, by rw [ht1]; exact hP, hD⟩, hS.F ht1⟩) hS.2.2 dX7_spoil_47
        · have hm := ite_f c5 hm
          refine lv_iconst (v := (-1 : Int32)) hx hb dX7_spoil_29 (by decide) ?_
          rw [← hQ]
          exact W.iret (v := (-1 : Int32)) hx hb hr (fun t ht1 hW => ⟨⟨_, u1, rfl, hm, by rw [ht1]; exact hP, hD⟩, hS.F ht1⟩) hS.2.2 dX7_spoil_30

def f_X7_cut (uM : OS) (p1 : Int32) : Option (OS × Int32) :=
  bnd (sF uM 1 (0 : Int32)) fun u1 =>
  if p1 < (0 : Int32) then (
  some (u1, (-1 : Int32))) else (
  if p1 ≤ (u1.1 15) then (
  bnd (sF u1 15 ((u1.1 15) - p1)) fun u4 =>
  some (u4, (u4.1 15))) else (
  some (u1, (-1 : Int32))))

set_option maxHeartbeats 4000000 in
set_option maxRecDepth 100000 in
theorem c_X7_cut (l : Launch) (dC : Nat → ClassId) (dI : Nat → Nat → Nat) (cI cJ : ClassId) (aM : Nat) (hM : Nat → Nat) (sz : Nat) (uM : OS) (p1 : Int32) (o : OS × Int32) (hm : f_X7_cut uM p1 = some o) : Met l yX7_cut (wq yX7_cut cX7_cut 2 (some .int)) ({ frames := 0, cells := 0, slots := 0, locals := 0 } : Room) (va_Pc [.ref aM, .int p1] (pcW dC dI cI cJ sz (wM cI cJ aM hM uM))) (va_Qi (S := OS) (fun r u => some (u, r) = some o) (fun (u : OS) t => va_P (dC, dI) vwCl (wM cI cJ aM hM u) t.heap ∧ va_D (va_A (wM cI cJ aM hM uM) sz) (wM cI cJ aM hM u)) (va_A (wM cI cJ aM hM uM) sz)) 0 0 (va_A (wM cI cJ aM hM uM) sz) := by
  refine Met.ofW (cc := cX7_cut) (maxL := 2) (ret := (some .int)) (by decide) rfl ?_
  intro p e s m args below meth c s₁ B hml hv
  obtain ⟨rfl, hsz, hP, hK, hD0, hN⟩ := hv
  have hx := B.exec
  have hb := B.bytes
  have hr := B.returns
  have ht : ∀ w ∈ lw_good, w.before _ s = true := fun w h => atoms_spec (ws := wq yX7_cut cX7_cut 2 (some .int)) B.pre w (wq_mem h)
  have hown : s.vm.findClass RX7 = some m.cls := findClass_of_methodNamed B.named
  have hlocks := B.notSynchronized
  subst hsz
  have hD := hD0.self (sz := s.heap.size)
  generalize hAe : va_A (wM cI cJ aM hM uM) s.heap.size = A at hD ⊢
  have hA : ∀ q : Nat, s.heap.size ≤ q → A q := fun q h => by rw [← hAe]; exact Or.inr h
  have hS : va_S A s.heap s.heap [] := va_S.rf
  have hl := lv_entry ([.ref aM, .int p1]) (n := 2) (Nat.le_of_ble_eq_true rfl)
  rw [lg_entry_eq]
  generalize (lg_sl ([.ref aM, .int p1]) ++ List.replicate (2 - (lg_sl ([.ref aM, .int p1])).length) Slot.unset).toArray = ls at hl ⊢
  have hl : lv_has ls 2 [(0, .ref aM), (1, .int p1)] := hl
  generalize hQ : MQ below _ _ s _ _ _ = Q
  generalize hH : s.heap = H at hP ⊢
  have hS : va_S A s.heap H [] := by rw [← hH]; exact va_S.rf
  show W p l e ({ frames := 0, cells := 0, slots := 0, locals := 0 } : Room) s m ([.ref aM, .int p1] : List Value).toArray below meth c H [] 0 0 Q (F0 m 0 ls [])
  unfold f_X7_cut at hm
  refine lv_aload_n hx hb dX7_cut_0 rfl (lv_at hl 0 rfl) ?_
  refine lv_iconst (v := (0 : Int32)) hx hb dX7_cut_1 (by decide) ?_
  refine va_put (D := (dC, dI)) (ci := 8) (v := .int (0 : Int32)) (ty := .int) (C := RX7) (T := TX7) (N := 34) hx hb ht inX7 tyX7 tyX7_ok nmX7 hown hK hP hD hS 0 rfl rfl 1 (by decide) (ht _ kw_0) (fun _ h9 => h9) rfl (by decide +kernel) rfl rfl (Nat.le_of_ble_eq_true rfl) dX7_cut_2 (fun H locs hP hD hS => ?_)
  obtain ⟨u1, eu1, hm⟩ := bnd_ex hm
  have hP : va_P (dC, dI) vwCl (wM cI cJ aM hM u1) H := by rw [eu1]; exact hP
  have hD : va_D A (wM cI cJ aM hM u1) := by rw [eu1]; exact hD
  refine lv_iload_n hx hb dX7_cut_5 rfl (lv_at hl 1 rfl) ?_
  refine lv_if_lt (tgt := 17) hx hb dX7_cut_6 (by decide) (fun c2 => ?_) (fun c2 => ?_)
  · have hm := ite_t c2 hm
    refine lv_iconst (v := (-1 : Int32)) hx hb dX7_cut_17 (by decide) ?_
    rw [← hQ]
    exact W.iret (v := (-1 : Int32)) hx hb hr (fun t ht1 hW => ⟨⟨_, u1, rfl, hm, by rw [ht1]; exact hP, hD⟩, hS.F ht1⟩) hS.2.2 dX7_cut_18
  · have hm := ite_f c2 hm
    refine lv_iload_n hx hb dX7_cut_9 rfl (lv_at hl 1 rfl) ?_
    refine lv_aload_n hx hb dX7_cut_10 rfl (lv_at hl 0 rfl) ?_
    refine va_get (D := (dC, dI)) (ci := 8) (v := .int (u1.1 15)) (C := RX7) (T := TX7) (N := 34) hx hb ht inX7 hown hK hP 0 rfl rfl 15 (by decide) (ht _ kw_32) (fun _ h9 => h9) rfl dX7_cut_11 ?_
    refine lv_icmp_le (tgt := 19) hx hb dX7_cut_14 (by decide) (fun c3 => ?_) (fun c3 => ?_)
    · have hm := ite_t c3 hm
      refine lv_aload_n hx hb dX7_cut_19 rfl (lv_at hl 0 rfl) ?_
      refine lv_dup hx hb dX7_cut_20 rfl ?_
      refine va_get (D := (dC, dI)) (ci := 8) (v := .int (u1.1 15)) (C := RX7) (T := TX7) (N := 34) hx hb ht inX7 hown hK hP 0 rfl rfl 15 (by decide) (ht _ kw_32) (fun _ h9 => h9) rfl dX7_cut_21 ?_
      refine lv_iload_n hx hb dX7_cut_24 rfl (lv_at hl 1 rfl) ?_
      refine lv_isub hx hb dX7_cut_25 ?_
      refine va_put (D := (dC, dI)) (ci := 8) (v := .int ((u1.1 15) - p1)) (ty := .int) (C := RX7) (T := TX7) (N := 34) hx hb ht inX7 tyX7 tyX7_ok nmX7 hown hK hP hD hS 0 rfl rfl 15 (by decide) (ht _ kw_32) (fun _ h9 => h9) rfl (by decide +kernel) rfl rfl (Nat.le_of_ble_eq_true rfl) dX7_cut_26 (fun H locs hP hD hS => ?_)
      obtain ⟨u4, eu4, hm⟩ := bnd_ex hm
      have hP : va_P (dC, dI) vwCl (wM cI cJ aM hM u4) H := by rw [eu4]; exact hP
      have hD : va_D A (wM cI cJ aM hM u4) := by rw [eu4]; exact hD
      refine lv_aload_n hx hb dX7_cut_29 rfl (lv_at hl 0 rfl) ?_
      refine va_get (D := (dC, dI)) (ci := 8) (v := .int (u4.1 15)) (C := RX7) (T := TX7) (N := 34) hx hb ht inX7 hown hK hP 0 rfl rfl 15 (by decide) (ht _ kw_32) (fun _ h9 => h9) rfl dX7_cut_30 ?_
      rw [← hQ]
      exact W.iret (v := (u4.1 15)) hx hb hr (fun t ht1 hW => ⟨⟨_, u4, rfl, hm, by rw [ht1]; exact hP, hD⟩, hS.F ht1⟩) hS.2.2 dX7_cut_33
    · have hm := ite_f c3 hm
      refine lv_iconst (v := (-1 : Int32)) hx hb dX7_cut_17 (by decide) ?_
      rw [← hQ]
      exact W.iret (v := (-1 : Int32)) hx hb hr (fun t ht1 hW => ⟨⟨_, u1, rfl, hm, by rw [ht1]; exact hP, hD⟩, hS.F ht1⟩) hS.2.2 dX7_cut_18

def f_X7_octet (uM : OS) (p1 : Int32) : Option (OS × Int32) :=
  bnd (sF uM 1 (0 : Int32)) fun u1 =>
  if (u1.1 15) < (8000 : Int32) then (
  oC1 (f_X7_putByte u1 p1) fun u3 =>
  some (u3, (u3.1 15))) else (
  some (u1, (-3 : Int32)))

set_option maxHeartbeats 4000000 in
set_option maxRecDepth 100000 in
theorem c_X7_octet (l : Launch) (dC : Nat → ClassId) (dI : Nat → Nat → Nat) (cI cJ : ClassId) (aM : Nat) (hM : Nat → Nat) (sz : Nat) (uM : OS) (p1 : Int32) (o : OS × Int32) (hm : f_X7_octet uM p1 = some o) : Met l yX7_octet (wq yX7_octet cX7_octet 2 (some .int)) ({ frames := 1, cells := 0, slots := 0, locals := 21 } : Room) (va_Pc [.ref aM, .int p1] (pcW dC dI cI cJ sz (wM cI cJ aM hM uM))) (va_Qi (S := OS) (fun r u => some (u, r) = some o) (fun (u : OS) t => va_P (dC, dI) vwCl (wM cI cJ aM hM u) t.heap ∧ va_D (va_A (wM cI cJ aM hM uM) sz) (wM cI cJ aM hM u)) (va_A (wM cI cJ aM hM uM) sz)) 0 0 (va_A (wM cI cJ aM hM uM) sz) := by
  refine Met.ofW (cc := cX7_octet) (maxL := 2) (ret := (some .int)) (by decide) rfl ?_
  intro p e s m args below meth c s₁ B hml hv
  obtain ⟨rfl, hsz, hP, hK, hD0, hN⟩ := hv
  have hx := B.exec
  have hb := B.bytes
  have hr := B.returns
  have ht : ∀ w ∈ lw_good, w.before _ s = true := fun w h => atoms_spec (ws := wq yX7_octet cX7_octet 2 (some .int)) B.pre w (wq_mem h)
  have hown : s.vm.findClass RX7 = some m.cls := findClass_of_methodNamed B.named
  have hlocks := B.notSynchronized
  subst hsz
  have hD := hD0.self (sz := s.heap.size)
  generalize hAe : va_A (wM cI cJ aM hM uM) s.heap.size = A at hD ⊢
  have hA : ∀ q : Nat, s.heap.size ≤ q → A q := fun q h => by rw [← hAe]; exact Or.inr h
  have hS : va_S A s.heap s.heap [] := va_S.rf
  have hl := lv_entry ([.ref aM, .int p1]) (n := 2) (Nat.le_of_ble_eq_true rfl)
  rw [lg_entry_eq]
  generalize (lg_sl ([.ref aM, .int p1]) ++ List.replicate (2 - (lg_sl ([.ref aM, .int p1])).length) Slot.unset).toArray = ls at hl ⊢
  have hl : lv_has ls 2 [(0, .ref aM), (1, .int p1)] := hl
  generalize hQ : MQ below _ _ s _ _ _ = Q
  generalize hH : s.heap = H at hP ⊢
  have hS : va_S A s.heap H [] := by rw [← hH]; exact va_S.rf
  show W p l e ({ frames := 1, cells := 0, slots := 0, locals := 21 } : Room) s m ([.ref aM, .int p1] : List Value).toArray below meth c H [] 0 0 Q (F0 m 0 ls [])
  unfold f_X7_octet at hm
  refine lv_aload_n hx hb dX7_octet_0 rfl (lv_at hl 0 rfl) ?_
  refine lv_iconst (v := (0 : Int32)) hx hb dX7_octet_1 (by decide) ?_
  refine va_put (D := (dC, dI)) (ci := 8) (v := .int (0 : Int32)) (ty := .int) (C := RX7) (T := TX7) (N := 34) hx hb ht inX7 tyX7 tyX7_ok nmX7 hown hK hP hD hS 0 rfl rfl 1 (by decide) (ht _ kw_0) (fun _ h9 => h9) rfl (by decide +kernel) rfl rfl (Nat.le_of_ble_eq_true rfl) dX7_octet_2 (fun H locs hP hD hS => ?_)
  obtain ⟨u1, eu1, hm⟩ := bnd_ex hm
  have hP : va_P (dC, dI) vwCl (wM cI cJ aM hM u1) H := by rw [eu1]; exact hP
  have hD : va_D A (wM cI cJ aM hM u1) := by rw [eu1]; exact hD
  refine lv_aload_n hx hb dX7_octet_5 rfl (lv_at hl 0 rfl) ?_
  refine va_get (D := (dC, dI)) (ci := 8) (v := .int (u1.1 15)) (C := RX7) (T := TX7) (N := 34) hx hb ht inX7 hown hK hP 0 rfl rfl 15 (by decide) (ht _ kw_32) (fun _ h9 => h9) rfl dX7_octet_6 ?_
  refine lv_sipush (v := (8000 : Int32)) hx hb dX7_octet_9 (by decide) ?_
  refine lv_icmp_lt (tgt := 18) hx hb dX7_octet_12 (by decide) (fun c2 => ?_) (fun c2 => ?_)
  · have hm := ite_t c2 hm
    refine lv_aload_n hx hb dX7_octet_18 rfl (lv_at hl 0 rfl) ?_
    refine lv_iload_n hx hb dX7_octet_19 rfl (lv_at hl 1 rfl) ?_
    have hPc : va_P (dC, dI) vwCl (wM cI cJ aM hM u1) _ := hP
    have hDc : va_D A (wM cI cJ aM hM u1) := hD
    have hFc := va_free (wc := (wM cI cJ aM hM u1)) hD hS hA [0, 1, 2, 3, 4, 5, 6, 7, 8, 9, 10, 11, 12, 13, 14] rfl
    obtain ⟨u3o, e4, hm⟩ := oC1_of hm
    refine va_callv (va_runV (As := [.int p1]) (rest := []) ⟨hx, hb, hml, hown, ht⟩ (c_X7_putByte l dC dI cI cJ aM hM H.size u1 p1 u3o e4) (cwV 1 ht (gdV kw_36 kw_34 kw_35 kw_7 kw_33) rfl rfl rfl ⟨rfl, nd_X7_putByte⟩ ⟨Nat.le_of_ble_eq_true rfl, Nat.le_of_ble_eq_true rfl⟩) ⟨pcW_blind, va_recv hK hPc (ci := 8) (q0 := 0) rfl rfl, pcW_pre hPc hK hDc hN⟩ rfl rfl hl.1 rfl (lv_room (Nat.le_of_ble_eq_true rfl)) dX7_octet_20 ⟨Nat.zero_le _, Nat.zero_le _⟩) hS (fun q _ z => hFc q z) hFc (fun uu t H1 locs ht1 hvm hw hB hz1 hk1 hS => ?_)
    obtain ⟨u3, rfl⟩ : ∃ z, z = uu := ⟨_, rfl⟩
    obtain ⟨hP1, hD1⟩ := hB
    rw [ht1] at hP1
    obtain rfl : u3 = u3o := Option.some.inj hw
    have hP : va_P (dC, dI) vwCl (wM cI cJ aM hM u3) H1 := hP1
    have hD : va_D A (wM cI cJ aM hM u3) := hD1.weaken (fun _ q _ z => hFc q.1 z)
    generalize H1 = H at hP hS ⊢
    refine lv_aload_n hx hb dX7_octet_23 rfl (lv_at hl 0 rfl) ?_
    refine va_get (D := (dC, dI)) (ci := 8) (v := .int (u3.1 15)) (C := RX7) (T := TX7) (N := 34) hx hb ht inX7 hown hK hP 0 rfl rfl 15 (by decide) (ht _ kw_32) (fun _ h9 => h9) rfl dX7_octet_24 ?_
    rw [← hQ]
    exact W.iret (v := (u3.1 15)) hx hb hr (fun t ht1 hW => ⟨⟨_, u3, rfl, hm, by rw [ht1]; exact hP, hD⟩, hS.F ht1⟩) hS.2.2 dX7_octet_27
  · have hm := ite_f c2 hm
    refine lv_bipush (v := (-3 : Int32)) hx hb dX7_octet_15 (by decide) ?_
    rw [← hQ]
    exact W.iret (v := (-3 : Int32)) hx hb hr (fun t ht1 hW => ⟨⟨_, u1, rfl, hm, by rw [ht1]; exact hP, hD⟩, hS.F ht1⟩) hS.2.2 dX7_octet_17

def f_X7_agree_L68 (u17 : OS) : Nat → (Int32 → Int32 → Option (OS × Int32)) → Int32 → Int32 → Option (OS × Int32)
  | 0, _, _, _ => none
  | n68 + 1, K110_24, x20, x21 =>
    if (u17.1 5) ≤ x20 then (
    K110_24 x21 x20) else (
    if x21 = (0 : Int32) then (
    K110_24 x21 x20) else (
    gdi x20 65536 <|
    gdi x20 1000 <|
    if (u17.2.1 24 (x20).toNatClampNeg) = (u17.2.1 4 (x20).toNatClampNeg) then (
    bnd (x20 + (1 : Int32)) fun x34 =>
    f_X7_agree_L68 u17 n68 K110_24 x34 (1 : Int32)) else (
    bnd (x20 + (1 : Int32)) fun x33 =>
    f_X7_agree_L68 u17 n68 K110_24 x33 (0 : Int32))))

def f_X7_agree_L19 : Nat → (Int32 → Int32 → OS → Option (OS × Int32)) → Int32 → Int32 → OS → Option (OS × Int32)
  | 0, _, _, _, _ => none
  | n19 + 1, K126_11, x5, x6, u7 =>
    if (4 : Int32) ≤ x5 then (
    K126_11 x6 x5 u7) else (
    oC1 (f_X7_writeForm u7 x5) fun u13 =>
    oC1 (f_X7_readAll u13) fun u15 =>
    bnd (sF u15 28 (u15.1 27)) fun u17 =>
    bnd (fun (x18 : Int32) =>
    bnd (fun (x22 : Int32) (x23 : Int32) =>
    if x22 = (0 : Int32) then (
    bnd (x5 + (1 : Int32)) fun x26 =>
    f_X7_agree_L19 n19 K126_11 x26 (0 : Int32) u17) else (
    bnd (x5 + (1 : Int32)) fun x27 =>
    f_X7_agree_L19 n19 K126_11 x27 x6 u17)) fun K110_24 =>
    f_X7_agree_L68 u17 FU K110_24 (0 : Int32) x18) fun K64_19 =>
    bnd (K64_19 (0 : Int32)) fun K63_35 =>
    if (u17.1 27) = (0 : Int32) then (
    if (u17.1 25) = (u17.1 5) then (
    K64_19 (1 : Int32)) else (
    K63_35)) else (
    K63_35))

def f_X7_agree (uM : OS) : Option (OS × Int32) :=
  bnd (sF uM 1 (0 : Int32)) fun u1 =>
  oC1 (f_X7_mayWrite u1) fun r2 =>
  if r2 = (0 : Int32) then (
  some (u1, (-2 : Int32))) else (
  bnd (fun (x8 : Int32) (x9 : Int32) (u10 : OS) =>
  some (u10, x8)) fun K126_11 =>
  f_X7_agree_L19 FU K126_11 (0 : Int32) (1 : Int32) u1)

set_option maxHeartbeats 4000000 in
set_option maxRecDepth 100000 in
theorem c_X7_agree (l : Launch) (dC : Nat → ClassId) (dI : Nat → Nat → Nat) (cI cJ : ClassId) (aM : Nat) (hM : Nat → Nat) (sz : Nat) (uM : OS) (o : OS × Int32) (hm : f_X7_agree uM = some o) : Met l yX7_agree (wq yX7_agree cX7_agree 5 (some .int)) ({ frames := 6, cells := 0, slots := 0, locals := 142 } : Room) (va_Pc [.ref aM] (pcW dC dI cI cJ sz (wM cI cJ aM hM uM))) (va_Qi (S := OS) (fun r u => some (u, r) = some o) (fun (u : OS) t => va_P (dC, dI) vwCl (wM cI cJ aM hM u) t.heap ∧ va_D (va_A (wM cI cJ aM hM uM) sz) (wM cI cJ aM hM u)) (va_A (wM cI cJ aM hM uM) sz)) 0 0 (va_A (wM cI cJ aM hM uM) sz) := by
  refine Met.ofW (cc := cX7_agree) (maxL := 5) (ret := (some .int)) (by decide) rfl ?_
  intro p e s m args below meth c s₁ B hml hv
  obtain ⟨rfl, hsz, hP, hK, hD0, hN⟩ := hv
  have hx := B.exec
  have hb := B.bytes
  have hr := B.returns
  have ht : ∀ w ∈ lw_good, w.before _ s = true := fun w h => atoms_spec (ws := wq yX7_agree cX7_agree 5 (some .int)) B.pre w (wq_mem h)
  have hown : s.vm.findClass RX7 = some m.cls := findClass_of_methodNamed B.named
  have hlocks := B.notSynchronized
  subst hsz
  have hD := hD0.self (sz := s.heap.size)
  generalize hAe : va_A (wM cI cJ aM hM uM) s.heap.size = A at hD ⊢
  have hA : ∀ q : Nat, s.heap.size ≤ q → A q := fun q h => by rw [← hAe]; exact Or.inr h
  have hS : va_S A s.heap s.heap [] := va_S.rf
  have hl := lv_entry ([.ref aM]) (n := 5) (Nat.le_of_ble_eq_true rfl)
  rw [lg_entry_eq]
  generalize (lg_sl ([.ref aM]) ++ List.replicate (5 - (lg_sl ([.ref aM])).length) Slot.unset).toArray = ls at hl ⊢
  have hl : lv_has ls 5 [(0, .ref aM)] := hl
  generalize hQ : MQ below _ _ s _ _ _ = Q
  generalize hH : s.heap = H at hP ⊢
  have hS : va_S A s.heap H [] := by rw [← hH]; exact va_S.rf
  show W p l e ({ frames := 6, cells := 0, slots := 0, locals := 142 } : Room) s m ([.ref aM] : List Value).toArray below meth c H [] 0 0 Q (F0 m 0 ls [])
  unfold f_X7_agree at hm
  refine lv_aload_n hx hb dX7_agree_0 rfl (lv_at hl 0 rfl) ?_
  refine lv_iconst (v := (0 : Int32)) hx hb dX7_agree_1 (by decide) ?_
  refine va_put (D := (dC, dI)) (ci := 8) (v := .int (0 : Int32)) (ty := .int) (C := RX7) (T := TX7) (N := 34) hx hb ht inX7 tyX7 tyX7_ok nmX7 hown hK hP hD hS 0 rfl rfl 1 (by decide) (ht _ kw_0) (fun _ h9 => h9) rfl (by decide +kernel) rfl rfl (Nat.le_of_ble_eq_true rfl) dX7_agree_2 (fun H locs hP hD hS => ?_)
  obtain ⟨u1, eu1, hm⟩ := bnd_ex hm
  have hP : va_P (dC, dI) vwCl (wM cI cJ aM hM u1) H := by rw [eu1]; exact hP
  have hD : va_D A (wM cI cJ aM hM u1) := by rw [eu1]; exact hD
  refine lv_aload_n hx hb dX7_agree_5 rfl (lv_at hl 0 rfl) ?_
  have hPc : va_P (dC, dI) vwCl (wM cI cJ aM hM u1) _ := hP
  have hDc : va_D A (wM cI cJ aM hM u1) := hD
  have hFc := va_free (wc := (wM cI cJ aM hM u1)) hD hS hA [0, 1, 2, 3, 4, 5, 6, 7, 8, 9, 10, 11, 12, 13, 14] rfl
  obtain ⟨r2o, e3, hm⟩ := oC1_of hm
  refine va_calli (va_runV (As := []) (rest := []) ⟨hx, hb, hml, hown, ht⟩ (c_X7_mayWrite l dC dI cI cJ aM hM H.size u1 r2o e3) (cwV 0 ht (gdV kw_90 kw_88 kw_89 kw_7 kw_87) rfl rfl rfl ⟨rfl, nd_X7_mayWrite⟩ ⟨Nat.le_of_ble_eq_true rfl, Nat.le_of_ble_eq_true rfl⟩) ⟨pcW_blind, va_recv hK hPc (ci := 8) (q0 := 0) rfl rfl, pcW_pre hPc hK hDc hN⟩ rfl rfl hl.1 rfl (lv_room (Nat.le_of_ble_eq_true rfl)) dX7_agree_6 ⟨Nat.zero_le _, Nat.zero_le _⟩) hS (fun q _ z => hFc q z) hFc (fun r2 uu t H1 locs ht1 hvm hw hB hz1 hk1 hS => ?_)
  obtain ⟨⟩ := uu
  obtain ⟨hP1, hD1⟩ := hB
  rw [ht1] at hP1
  obtain rfl : r2 = r2o := Option.some.inj hw
  have hP : va_P (dC, dI) vwCl (wM cI cJ aM hM u1) H1 := hP1
  have hD : va_D A (wM cI cJ aM hM u1) := hD1.weaken (fun _ q _ z => hFc q.1 z)
  generalize H1 = H at hP hS ⊢
  refine lv_if_ne (tgt := 15) hx hb dX7_agree_9 (by decide) (fun c4 => ?_) (fun c4 => ?_)
  · have hm := ite_f c4 hm
    refine lv_iconst (v := (1 : Int32)) hx hb dX7_agree_15 (by decide) ?_
    refine lv_istore_n (lv' := [(1, .int (1 : Int32)), (0, .ref aM)]) hx hb dX7_agree_16 rfl hl (by decide) rfl (fun ls hl => ?_)
    refine lv_iconst (v := (0 : Int32)) hx hb dX7_agree_17 (by decide) ?_
    refine lv_istore_n (lv' := [(2, .int (0 : Int32)), (1, .int (1 : Int32)), (0, .ref aM)]) hx hb dX7_agree_18 rfl hl (by decide) rfl (fun ls hl => ?_)
    obtain ⟨K126_11, eK126_11, hm⟩ := bnd_ex hm
    have X126_11 : ∀ (x8 : Int32) (x9 : Int32) (u10 : OS) (H : Heap) (locs : List Loc) (ls : Array Slot), K126_11 x8 x9 u10 = some o → va_P (dC, dI) vwCl (wM cI cJ aM hM u10) H → va_D A (wM cI cJ aM hM u10) → va_S A s.heap H locs → lv_has ls 5 [(0, .ref aM), (1, .int x8), (2, .int x9)] → W p l e ({ frames := 6, cells := 0, slots := 0, locals := 142 } : Room) s m ([.ref aM] : List Value).toArray below meth c H locs 0 0 Q (F0 m 126 ls []) := by
      intro x8 x9 u10 H locs ls hm hP hD hS hl
      have hm := ap3 eK126_11 hm
      refine lv_iload_n hx hb dX7_agree_126 rfl (lv_at hl 1 rfl) ?_
      rw [← hQ]
      exact W.iret (v := x8) hx hb hr (fun t ht1 hW => ⟨⟨_, u10, rfl, hm, by rw [ht1]; exact hP, hD⟩, hS.F ht1⟩) hS.2.2 dX7_agree_127
    have LP19 : ∀ (n19 : Nat) (x5 : Int32) (x6 : Int32) (u7 : OS) (H : Heap) (locs : List Loc) (ls : Array Slot), f_X7_agree_L19 n19 K126_11 x5 x6 u7 = some o → va_P (dC, dI) vwCl (wM cI cJ aM hM u7) H → va_D A (wM cI cJ aM hM u7) → va_S A s.heap H locs → lv_has ls 5 [(0, .ref aM), (1, .int x6), (2, .int x5)] → W p l e ({ frames := 6, cells := 0, slots := 0, locals := 142 } : Room) s m ([.ref aM] : List Value).toArray below meth c H locs 0 0 Q (F0 m 19 ls []) := by
      intro n19
      induction n19 with
      | zero => intro x5 x6 u7 H locs ls hm; exact nomatch (show (none : Option _) = some _ from hm)
      | succ n19 ih19 =>
        intro x5 x6 u7 H locs ls hm hP hD hS hl
        unfold f_X7_agree_L19 at hm
        refine lv_iload_n hx hb dX7_agree_19 rfl (lv_at hl 2 rfl) ?_
        refine lv_iconst (v := (4 : Int32)) hx hb dX7_agree_20 (by decide) ?_
        refine lv_icmp_ge (tgt := 126) hx hb dX7_agree_21 (by decide) (fun c12 => ?_) (fun c12 => ?_)
        · have hm := ite_t c12 hm
          exact X126_11 x6 x5 u7 _ _ _ hm hP hD hS (lv_sub hl [0, 1, 2] rfl)
        · have hm := ite_f c12 hm
          refine lv_aload_n hx hb dX7_agree_24 rfl (lv_at hl 0 rfl) ?_
          refine lv_iload_n hx hb dX7_agree_25 rfl (lv_at hl 2 rfl) ?_
          have hPc : va_P (dC, dI) vwCl (wM cI cJ aM hM u7) _ := hP
          have hDc : va_D A (wM cI cJ aM hM u7) := hD
          have hFc := va_free (wc := (wM cI cJ aM hM u7)) hD hS hA [0, 1, 2, 3, 4, 5, 6, 7, 8, 9, 10, 11, 12, 13, 14] rfl
          obtain ⟨u13o, e14, hm⟩ := oC1_of hm
          refine va_callv (va_runV (As := [.int x5]) (rest := []) ⟨hx, hb, hml, hown, ht⟩ (c_X7_writeForm l dC dI cI cJ aM hM H.size u7 x5 u13o e14) (cwV 1 ht (gdV kw_94 kw_92 kw_93 kw_7 kw_91) rfl rfl rfl ⟨rfl, nd_X7_writeForm⟩ ⟨Nat.le_of_ble_eq_true rfl, Nat.le_of_ble_eq_true rfl⟩) ⟨pcW_blind, va_recv hK hPc (ci := 8) (q0 := 0) rfl rfl, pcW_pre hPc hK hDc hN⟩ rfl rfl hl.1 rfl (lv_room (Nat.le_of_ble_eq_true rfl)) dX7_agree_26 ⟨Nat.zero_le _, Nat.zero_le _⟩) hS (fun q _ z => hFc q z) hFc (fun uu t H1 locs ht1 hvm hw hB hz1 hk1 hS => ?_)
          obtain ⟨u13, rfl⟩ : ∃ z, z = uu := ⟨_, rfl⟩
          obtain ⟨hP1, hD1⟩ := hB
          rw [ht1] at hP1
          obtain rfl : u13 = u13o := Option.some.inj hw
          have hP : va_P (dC, dI) vwCl (wM cI cJ aM hM u13) H1 := hP1
          have hD : va_D A (wM cI cJ aM hM u13) := hD1.weaken (fun _ q _ z => hFc q.1 z)
          generalize H1 = H at hP hS ⊢
          refine lv_aload_n hx hb dX7_agree_29 rfl (lv_at hl 0 rfl) ?_
          have hPc : va_P (dC, dI) vwCl (wM cI cJ aM hM u13) _ := hP
          have hDc : va_D A (wM cI cJ aM hM u13) := hD
          have hFc := va_free (wc := (wM cI cJ aM hM u13)) hD hS hA [0, 1, 2, 3, 4, 5, 6, 7, 8, 9, 10, 11, 12, 13, 14] rfl
          obtain ⟨u15o, e16, hm⟩ := oC1_of hm
          refine va_callv (va_runV (As := []) (rest := []) ⟨hx, hb, hml, hown, ht⟩ (c_X7_readAll l dC dI cI cJ aM hM H.size u13 u15o e16) (cwV 0 ht (gdV kw_156 kw_154 kw_155 kw_7 kw_153) rfl rfl rfl ⟨rfl, nd_X7_readAll⟩ ⟨Nat.le_of_ble_eq_true rfl, Nat.le_of_ble_eq_true rfl⟩) ⟨pcW_blind, va_recv hK hPc (ci := 8) (q0 := 0) rfl rfl, pcW_pre hPc hK hDc hN⟩ rfl rfl hl.1 rfl (lv_room (Nat.le_of_ble_eq_true rfl)) dX7_agree_30 ⟨Nat.zero_le _, Nat.zero_le _⟩) hS (fun q _ z => hFc q z) hFc (fun uu t H1 locs ht1 hvm hw hB hz1 hk1 hS => ?_)
          obtain ⟨u15, rfl⟩ : ∃ z, z = uu := ⟨_, rfl⟩
          obtain ⟨hP1, hD1⟩ := hB
          rw [ht1] at hP1
          obtain rfl : u15 = u15o := Option.some.inj hw
          have hP : va_P (dC, dI) vwCl (wM cI cJ aM hM u15) H1 := hP1
          have hD : va_D A (wM cI cJ aM hM u15) := hD1.weaken (fun _ q _ z => hFc q.1 z)
          generalize H1 = H at hP hS ⊢
          refine lv_aload_n hx hb dX7_agree_33 rfl (lv_at hl 0 rfl) ?_
          refine lv_aload_n hx hb dX7_agree_34 rfl (lv_at hl 0 rfl) ?_
          refine va_get (D := (dC, dI)) (ci := 8) (v := .int (u15.1 27)) (C := RX7) (T := TX7) (N := 34) hx hb ht inX7 hown hK hP 0 rfl rfl 27 (by decide) (ht _ kw_95) (fun _ h9 => h9) rfl dX7_agree_35 ?_
          refine va_put (D := (dC, dI)) (ci := 8) (v := .int (u15.1 27)) (ty := .int) (C := RX7) (T := TX7) (N := 34) hx hb ht inX7 tyX7 tyX7_ok nmX7 hown hK hP hD hS 0 rfl rfl 28 (by decide) (ht _ kw_152) (fun _ h9 => h9) rfl (by decide +kernel) rfl rfl (Nat.le_of_ble_eq_true rfl) dX7_agree_38 (fun H locs hP hD hS => ?_)
          obtain ⟨u17, eu17, hm⟩ := bnd_ex hm
          have hP : va_P (dC, dI) vwCl (wM cI cJ aM hM u17) H := by rw [eu17]; exact hP
          have hD : va_D A (wM cI cJ aM hM u17) := by rw [eu17]; exact hD
          refine lv_aload_n hx hb dX7_agree_41 rfl (lv_at hl 0 rfl) ?_
          refine va_get (D := (dC, dI)) (ci := 8) (v := .int (u17.1 27)) (C := RX7) (T := TX7) (N := 34) hx hb ht inX7 hown hK hP 0 rfl rfl 27 (by decide) (ht _ kw_95) (fun _ h9 => h9) rfl dX7_agree_42 ?_
          obtain ⟨K64_19, eK64_19, hm⟩ := bnd_ex hm
          have J64_19 : ∀ (x18 : Int32) (H : Heap) (locs : List Loc) (ls : Array Slot), K64_19 x18 = some o → va_P (dC, dI) vwCl (wM cI cJ aM hM u17) H → va_D A (wM cI cJ aM hM u17) → va_S A s.heap H locs → lv_has ls 5 [(0, .ref aM), (1, .int x6), (2, .int x5)] → W p l e ({ frames := 6, cells := 0, slots := 0, locals := 142 } : Room) s m ([.ref aM] : List Value).toArray below meth c H locs 0 0 Q (F0 m 64 ls [.int x18]) := by
            intro x18 H locs ls hm hP hD hS hl
            have hm := ap1 eK64_19 hm
            refine lv_istore_n (lv' := [(3, .int x18), (0, .ref aM), (1, .int x6), (2, .int x5)]) hx hb dX7_agree_64 rfl hl (by decide) rfl (fun ls hl => ?_)
            refine lv_iconst (v := (0 : Int32)) hx hb dX7_agree_65 (by decide) ?_
            refine lv_istore (lv' := [(4, .int (0 : Int32)), (3, .int x18), (0, .ref aM), (1, .int x6), (2, .int x5)]) hx hb dX7_agree_66 hl (by decide) rfl (fun ls hl => ?_)
            obtain ⟨K110_24, eK110_24, hm⟩ := bnd_ex hm
            have X110_24 : ∀ (x22 : Int32) (x23 : Int32) (H : Heap) (locs : List Loc) (ls : Array Slot), K110_24 x22 x23 = some o → va_P (dC, dI) vwCl (wM cI cJ aM hM u17) H → va_D A (wM cI cJ aM hM u17) → va_S A s.heap H locs → lv_has ls 5 [(0, .ref aM), (1, .int x6), (2, .int x5), (3, .int x22), (4, .int x23)] → W p l e ({ frames := 6, cells := 0, slots := 0, locals := 142 } : Room) s m ([.ref aM] : List Value).toArray below meth c H locs 0 0 Q (F0 m 110 ls []) := by
              intro x22 x23 H locs ls hm hP hD hS hl
              have hm := ap2 eK110_24 hm
              refine lv_iload_n hx hb dX7_agree_110 rfl (lv_at hl 3 rfl) ?_
              refine lv_if_eq (tgt := 118) hx hb dX7_agree_111 (by decide) (fun c25 => ?_) (fun c25 => ?_)
              · have hm := ite_t c25 hm
                refine lv_iconst (v := (0 : Int32)) hx hb dX7_agree_118 (by decide) ?_
                refine lv_istore_n (lv' := [(1, .int (0 : Int32)), (0, .ref aM), (2, .int x5), (3, .int x22), (4, .int x23)]) hx hb dX7_agree_119 rfl hl (by decide) rfl (fun ls hl => ?_)
                obtain ⟨x26, ex26, hm⟩ := bnd_ex hm
                refine lv_iinc (v := x26) (lv' := [(2, .int x26), (1, .int (0 : Int32)), (0, .ref aM), (3, .int x22), (4, .int x23)]) hx hb dX7_agree_120 hl (k := 2) rfl (by rw [ex26]; exact congrArg _ (by decide)) (by decide) rfl (fun ls hl => ?_)
                refine lv_goto (tgt := 19) hx hb dX7_agree_123 (by decide) ?_
                exact ih19 x26 (0 : Int32) u17 _ _ _ hm hP hD hS (lv_sub hl [2, 1, 0] rfl)
              · have hm := ite_f c25 hm
                refine lv_iload_n hx hb dX7_agree_114 rfl (lv_at hl 1 rfl) ?_
                refine lv_goto (tgt := 119) hx hb dX7_agree_115 (by decide) ?_
                refine lv_istore_n (lv' := [(1, .int x6), (0, .ref aM), (2, .int x5), (3, .int x22), (4, .int x23)]) hx hb dX7_agree_119 rfl hl (by decide) rfl (fun ls hl => ?_)
                obtain ⟨x27, ex27, hm⟩ := bnd_ex hm
                refine lv_iinc (v := x27) (lv' := [(2, .int x27), (1, .int x6), (0, .ref aM), (3, .int x22), (4, .int x23)]) hx hb dX7_agree_120 hl (k := 2) rfl (by rw [ex27]; exact congrArg _ (by decide)) (by decide) rfl (fun ls hl => ?_)
                refine lv_goto (tgt := 19) hx hb dX7_agree_123 (by decide) ?_
                exact ih19 x27 x6 u17 _ _ _ hm hP hD hS (lv_sub hl [2, 1, 0] rfl)
            have LP68 : ∀ (n68 : Nat) (x20 : Int32) (x21 : Int32) (H : Heap) (locs : List Loc) (ls : Array Slot), f_X7_agree_L68 u17 n68 K110_24 x20 x21 = some o → va_P (dC, dI) vwCl (wM cI cJ aM hM u17) H → va_D A (wM cI cJ aM hM u17) → va_S A s.heap H locs → lv_has ls 5 [(0, .ref aM), (1, .int x6), (2, .int x5), (3, .int x21), (4, .int x20)] → W p l e ({ frames := 6, cells := 0, slots := 0, locals := 142 } : Room) s m ([.ref aM] : List Value).toArray below meth c H locs 0 0 Q (F0 m 68 ls []) := by
              intro n68
              induction n68 with
              | zero => intro x20 x21 H locs ls hm; exact nomatch (show (none : Option _) = some _ from hm)
              | succ n68 ih68 =>
                intro x20 x21 H locs ls hm hP hD hS hl
                unfold f_X7_agree_L68 at hm
                refine lv_iload hx hb dX7_agree_68 (lv_at hl 4 rfl) ?_
                refine lv_aload_n hx hb dX7_agree_70 rfl (lv_at hl 0 rfl) ?_
                refine va_get (D := (dC, dI)) (ci := 8) (v := .int (u17.1 5)) (C := RX7) (T := TX7) (N := 34) hx hb ht inX7 hown hK hP 0 rfl rfl 5 (by decide) (ht _ kw_1) (fun _ h9 => h9) rfl dX7_agree_71 ?_
                refine lv_icmp_ge (tgt := 110) hx hb dX7_agree_74 (by decide) (fun c28 => ?_) (fun c28 => ?_)
                · have hm := ite_t c28 hm
                  exact X110_24 x21 x20 _ _ _ hm hP hD hS (lv_sub hl [0, 1, 2, 3, 4] rfl)
                · have hm := ite_f c28 hm
                  refine lv_iload_n hx hb dX7_agree_77 rfl (lv_at hl 3 rfl) ?_
                  refine lv_if_eq (tgt := 110) hx hb dX7_agree_78 (by decide) (fun c29 => ?_) (fun c29 => ?_)
                  · have hm := ite_t c29 hm
                    exact X110_24 x21 x20 _ _ _ hm hP hD hS (lv_sub hl [0, 1, 2, 3, 4] rfl)
                  · have hm := ite_f c29 hm
                    refine lv_aload_n hx hb dX7_agree_81 rfl (lv_at hl 0 rfl) ?_
                    refine va_get (D := (dC, dI)) (ci := 8) (v := .ref (hM 24)) (C := RX7) (T := TX7) (N := 34) hx hb ht inX7 hown hK hP 0 rfl rfl 24 (by decide) (ht _ kw_120) (fun _ h9 => h9) rfl dX7_agree_82 ?_
                    refine lv_iload hx hb dX7_agree_85 (lv_at hl 4 rfl) ?_
                    obtain ⟨g30, hm⟩ := gdi_of hm
                    refine va_iald hx hb hK hP 13 0 rfl rfl g30 dX7_agree_87 ?_
                    refine lv_aload_n hx hb dX7_agree_88 rfl (lv_at hl 0 rfl) ?_
                    refine va_get (D := (dC, dI)) (ci := 8) (v := .ref (hM 4)) (C := RX7) (T := TX7) (N := 34) hx hb ht inX7 hown hK hP 0 rfl rfl 4 (by decide) (ht _ kw_2) (fun _ h9 => h9) rfl dX7_agree_89 ?_
                    refine lv_iload hx hb dX7_agree_92 (lv_at hl 4 rfl) ?_
                    obtain ⟨g31, hm⟩ := gdi_of hm
                    refine va_iald hx hb hK hP 1 0 rfl rfl g31 dX7_agree_94 ?_
                    refine lv_icmp_ne (tgt := 102) hx hb dX7_agree_95 (by decide) (fun c32 => ?_) (fun c32 => ?_)
                    · have hm := ite_f c32 hm
                      refine lv_iconst (v := (0 : Int32)) hx hb dX7_agree_102 (by decide) ?_
                      refine lv_istore_n (lv' := [(3, .int (0 : Int32)), (0, .ref aM), (1, .int x6), (2, .int x5), (4, .int x20)]) hx hb dX7_agree_103 rfl hl (by decide) rfl (fun ls hl => ?_)
                      obtain ⟨x33, ex33, hm⟩ := bnd_ex hm
                      refine lv_iinc (v := x33) (lv' := [(4, .int x33), (3, .int (0 : Int32)), (0, .ref aM), (1, .int x6), (2, .int x5)]) hx hb dX7_agree_104 hl (k := 4) rfl (by rw [ex33]; exact congrArg _ (by decide)) (by decide) rfl (fun ls hl => ?_)
                      refine lv_goto (tgt := 68) hx hb dX7_agree_107 (by decide) ?_
                      exact ih68 x33 (0 : Int32) _ _ _ hm hP hD hS (lv_sub hl [2, 3, 4, 1, 0] rfl)
                    · have hm := ite_t c32 hm
                      refine lv_iconst (v := (1 : Int32)) hx hb dX7_agree_98 (by decide) ?_
                      refine lv_goto (tgt := 103) hx hb dX7_agree_99 (by decide) ?_
                      refine lv_istore_n (lv' := [(3, .int (1 : Int32)), (0, .ref aM), (1, .int x6), (2, .int x5), (4, .int x20)]) hx hb dX7_agree_103 rfl hl (by decide) rfl (fun ls hl => ?_)
                      obtain ⟨x34, ex34, hm⟩ := bnd_ex hm
                      refine lv_iinc (v := x34) (lv' := [(4, .int x34), (3, .int (1 : Int32)), (0, .ref aM), (1, .int x6), (2, .int x5)]) hx hb dX7_agree_104 hl (k := 4) rfl (by rw [ex34]; exact congrArg _ (by decide)) (by decide) rfl (fun ls hl => ?_)
                      refine lv_goto (tgt := 68) hx hb dX7_agree_107 (by decide) ?_
                      exact ih68 x34 (1 : Int32) _ _ _ hm hP hD hS (lv_sub hl [2, 3, 4, 1, 0] rfl)
            exact LP68 FU (0 : Int32) x18 _ _ _ hm hP hD hS (lv_sub hl [2, 3, 4, 1, 0] rfl)
          obtain ⟨K63_35, eK63_35, hm⟩ := bnd_ex hm
          have J63_35 : ∀ (H : Heap) (locs : List Loc) (ls : Array Slot), K63_35 = some o → va_P (dC, dI) vwCl (wM cI cJ aM hM u17) H → va_D A (wM cI cJ aM hM u17) → va_S A s.heap H locs → lv_has ls 5 [(0, .ref aM), (1, .int x6), (2, .int x5)] → W p l e ({ frames := 6, cells := 0, slots := 0, locals := 142 } : Room) s m ([.ref aM] : List Value).toArray below meth c H locs 0 0 Q (F0 m 63 ls []) := by
            intro H locs ls hm hP hD hS hl
            have hm := ap0 eK63_35 hm
            refine lv_iconst (v := (0 : Int32)) hx hb dX7_agree_63 (by decide) ?_
            exact J64_19 (0 : Int32) _ _ _ hm hP hD hS (lv_sub hl [0, 1, 2] rfl)
          refine lv_if_ne (tgt := 63) hx hb dX7_agree_45 (by decide) (fun c36 => ?_) (fun c36 => ?_)
          · have hm := ite_f c36 hm
            exact J63_35 _ _ _ hm hP hD hS (lv_sub hl [0, 1, 2] rfl)
          · have hm := ite_t c36 hm
            refine lv_aload_n hx hb dX7_agree_48 rfl (lv_at hl 0 rfl) ?_
            refine va_get (D := (dC, dI)) (ci := 8) (v := .int (u17.1 25)) (C := RX7) (T := TX7) (N := 34) hx hb ht inX7 hown hK hP 0 rfl rfl 25 (by decide) (ht _ kw_121) (fun _ h9 => h9) rfl dX7_agree_49 ?_
            refine lv_aload_n hx hb dX7_agree_52 rfl (lv_at hl 0 rfl) ?_
            refine va_get (D := (dC, dI)) (ci := 8) (v := .int (u17.1 5)) (C := RX7) (T := TX7) (N := 34) hx hb ht inX7 hown hK hP 0 rfl rfl 5 (by decide) (ht _ kw_1) (fun _ h9 => h9) rfl dX7_agree_53 ?_
            refine lv_icmp_ne (tgt := 63) hx hb dX7_agree_56 (by decide) (fun c37 => ?_) (fun c37 => ?_)
            · have hm := ite_f c37 hm
              exact J63_35 _ _ _ hm hP hD hS (lv_sub hl [0, 1, 2] rfl)
            · have hm := ite_t c37 hm
              refine lv_iconst (v := (1 : Int32)) hx hb dX7_agree_59 (by decide) ?_
              refine lv_goto (tgt := 64) hx hb dX7_agree_60 (by decide) ?_
              exact J64_19 (1 : Int32) _ _ _ hm hP hD hS (lv_sub hl [0, 1, 2] rfl)
    exact LP19 FU (0 : Int32) (1 : Int32) u1 _ _ _ hm hP hD hS (lv_sub hl [2, 1, 0] rfl)
  · have hm := ite_t c4 hm
    refine lv_bipush (v := (-2 : Int32)) hx hb dX7_agree_12 (by decide) ?_
    rw [← hQ]
    exact W.iret (v := (-2 : Int32)) hx hb hr (fun t ht1 hW => ⟨⟨_, u1, rfl, hm, by rw [ht1]; exact hP, hD⟩, hS.F ht1⟩) hS.2.2 dX7_agree_14

def f_X7_told (uM : OS) (p1 : Int32) : Option (OS × Int32) :=
  bnd (sF uM 1 (0 : Int32)) fun u1 =>
  if p1 = (0 : Int32) then (
  some (u1, (u1.1 0))) else (
  if p1 = (1 : Int32) then (
  some (u1, (u1.1 5))) else (
  if p1 = (2 : Int32) then (
  some (u1, (u1.1 15))) else (
  if p1 = (3 : Int32) then (
  some (u1, (u1.1 25))) else (
  if p1 = (4 : Int32) then (
  some (u1, (u1.1 2))) else (
  if p1 = (5 : Int32) then (
  some (u1, (u1.1 3))) else (
  if p1 = (6 : Int32) then (
  if (u1.1 7) = (0 : Int32) then (
  some (u1, (0 : Int32))) else (
  some (u1, (1 : Int32)))) else (
  some (u1, (-1 : Int32)))))))))

set_option maxHeartbeats 4000000 in
set_option maxRecDepth 100000 in
theorem c_X7_told (l : Launch) (dC : Nat → ClassId) (dI : Nat → Nat → Nat) (cI cJ : ClassId) (aM : Nat) (hM : Nat → Nat) (sz : Nat) (uM : OS) (p1 : Int32) (o : OS × Int32) (hm : f_X7_told uM p1 = some o) : Met l yX7_told (wq yX7_told cX7_told 2 (some .int)) ({ frames := 0, cells := 0, slots := 0, locals := 0 } : Room) (va_Pc [.ref aM, .int p1] (pcW dC dI cI cJ sz (wM cI cJ aM hM uM))) (va_Qi (S := OS) (fun r u => some (u, r) = some o) (fun (u : OS) t => va_P (dC, dI) vwCl (wM cI cJ aM hM u) t.heap ∧ va_D (va_A (wM cI cJ aM hM uM) sz) (wM cI cJ aM hM u)) (va_A (wM cI cJ aM hM uM) sz)) 0 0 (va_A (wM cI cJ aM hM uM) sz) := by
  refine Met.ofW (cc := cX7_told) (maxL := 2) (ret := (some .int)) (by decide) rfl ?_
  intro p e s m args below meth c s₁ B hml hv
  obtain ⟨rfl, hsz, hP, hK, hD0, hN⟩ := hv
  have hx := B.exec
  have hb := B.bytes
  have hr := B.returns
  have ht : ∀ w ∈ lw_good, w.before _ s = true := fun w h => atoms_spec (ws := wq yX7_told cX7_told 2 (some .int)) B.pre w (wq_mem h)
  have hown : s.vm.findClass RX7 = some m.cls := findClass_of_methodNamed B.named
  have hlocks := B.notSynchronized
  subst hsz
  have hD := hD0.self (sz := s.heap.size)
  generalize hAe : va_A (wM cI cJ aM hM uM) s.heap.size = A at hD ⊢
  have hA : ∀ q : Nat, s.heap.size ≤ q → A q := fun q h => by rw [← hAe]; exact Or.inr h
  have hS : va_S A s.heap s.heap [] := va_S.rf
  have hl := lv_entry ([.ref aM, .int p1]) (n := 2) (Nat.le_of_ble_eq_true rfl)
  rw [lg_entry_eq]
  generalize (lg_sl ([.ref aM, .int p1]) ++ List.replicate (2 - (lg_sl ([.ref aM, .int p1])).length) Slot.unset).toArray = ls at hl ⊢
  have hl : lv_has ls 2 [(0, .ref aM), (1, .int p1)] := hl
  generalize hQ : MQ below _ _ s _ _ _ = Q
  generalize hH : s.heap = H at hP ⊢
  have hS : va_S A s.heap H [] := by rw [← hH]; exact va_S.rf
  show W p l e ({ frames := 0, cells := 0, slots := 0, locals := 0 } : Room) s m ([.ref aM, .int p1] : List Value).toArray below meth c H [] 0 0 Q (F0 m 0 ls [])
  unfold f_X7_told at hm
  refine lv_aload_n hx hb dX7_told_0 rfl (lv_at hl 0 rfl) ?_
  refine lv_iconst (v := (0 : Int32)) hx hb dX7_told_1 (by decide) ?_
  refine va_put (D := (dC, dI)) (ci := 8) (v := .int (0 : Int32)) (ty := .int) (C := RX7) (T := TX7) (N := 34) hx hb ht inX7 tyX7 tyX7_ok nmX7 hown hK hP hD hS 0 rfl rfl 1 (by decide) (ht _ kw_0) (fun _ h9 => h9) rfl (by decide +kernel) rfl rfl (Nat.le_of_ble_eq_true rfl) dX7_told_2 (fun H locs hP hD hS => ?_)
  obtain ⟨u1, eu1, hm⟩ := bnd_ex hm
  have hP : va_P (dC, dI) vwCl (wM cI cJ aM hM u1) H := by rw [eu1]; exact hP
  have hD : va_D A (wM cI cJ aM hM u1) := by rw [eu1]; exact hD
  refine lv_iload_n hx hb dX7_told_5 rfl (lv_at hl 1 rfl) ?_
  by_cases c3 : p1 = (0 : Int32)
  · have hm := ite_t c3 hm
    refine lv_tableIn (tgt := 48) hx hb dX7_told_6 (by rw [c3]; decide) (by rw [c3]; decide) (by rw [c3]; rfl) (by decide) ?_
    refine lv_aload_n hx hb dX7_told_48 rfl (lv_at hl 0 rfl) ?_
    refine va_get (D := (dC, dI)) (ci := 8) (v := .int (u1.1 0)) (C := RX7) (T := TX7) (N := 34) hx hb ht inX7 hown hK hP 0 rfl rfl 0 (by decide) (ht _ kw_14) (fun _ h9 => h9) rfl dX7_told_49 ?_
    rw [← hQ]
    exact W.iret (v := (u1.1 0)) hx hb hr (fun t ht1 hW => ⟨⟨_, u1, rfl, hm, by rw [ht1]; exact hP, hD⟩, hS.F ht1⟩) hS.2.2 dX7_told_52
  · have hm := ite_f c3 hm
    by_cases c4 : p1 = (1 : Int32)
    · have hm := ite_t c4 hm
      refine lv_tableIn (tgt := 53) hx hb dX7_told_6 (by rw [c4]; decide) (by rw [c4]; decide) (by rw [c4]; rfl) (by decide) ?_
      refine lv_aload_n hx hb dX7_told_53 rfl (lv_at hl 0 rfl) ?_
      refine va_get (D := (dC, dI)) (ci := 8) (v := .int (u1.1 5)) (C := RX7) (T := TX7) (N := 34) hx hb ht inX7 hown hK hP 0 rfl rfl 5 (by decide) (ht _ kw_1) (fun _ h9 => h9) rfl dX7_told_54 ?_
      rw [← hQ]
      exact W.iret (v := (u1.1 5)) hx hb hr (fun t ht1 hW => ⟨⟨_, u1, rfl, hm, by rw [ht1]; exact hP, hD⟩, hS.F ht1⟩) hS.2.2 dX7_told_57
    · have hm := ite_f c4 hm
      by_cases c5 : p1 = (2 : Int32)
      · have hm := ite_t c5 hm
        refine lv_tableIn (tgt := 58) hx hb dX7_told_6 (by rw [c5]; decide) (by rw [c5]; decide) (by rw [c5]; rfl) (by decide) ?_
        refine lv_aload_n hx hb dX7_told_58 rfl (lv_at hl 0 rfl) ?_
        refine va_get (D := (dC, dI)) (ci := 8) (v := .int (u1.1 15)) (C := RX7) (T := TX7) (N := 34) hx hb ht inX7 hown hK hP 0 rfl rfl 15 (by decide) (ht _ kw_32) (fun _ h9 => h9) rfl dX7_told_59 ?_
        rw [← hQ]
        exact W.iret (v := (u1.1 15)) hx hb hr (fun t ht1 hW => ⟨⟨_, u1, rfl, hm, by rw [ht1]; exact hP, hD⟩, hS.F ht1⟩) hS.2.2 dX7_told_62
      · have hm := ite_f c5 hm
        by_cases c6 : p1 = (3 : Int32)
        · have hm := ite_t c6 hm
          refine lv_tableIn (tgt := 63) hx hb dX7_told_6 (by rw [c6]; decide) (by rw [c6]; decide) (by rw [c6]; rfl) (by decide) ?_
          refine lv_aload_n hx hb dX7_told_63 rfl (lv_at hl 0 rfl) ?_
          refine va_get (D := (dC, dI)) (ci := 8) (v := .int (u1.1 25)) (C := RX7) (T := TX7) (N := 34) hx hb ht inX7 hown hK hP 0 rfl rfl 25 (by decide) (ht _ kw_121) (fun _ h9 => h9) rfl dX7_told_64 ?_
          rw [← hQ]
          exact W.iret (v := (u1.1 25)) hx hb hr (fun t ht1 hW => ⟨⟨_, u1, rfl, hm, by rw [ht1]; exact hP, hD⟩, hS.F ht1⟩) hS.2.2 dX7_told_67
        · have hm := ite_f c6 hm
          by_cases c7 : p1 = (4 : Int32)
          · have hm := ite_t c7 hm
            refine lv_tableIn (tgt := 68) hx hb dX7_told_6 (by rw [c7]; decide) (by rw [c7]; decide) (by rw [c7]; rfl) (by decide) ?_
            refine lv_aload_n hx hb dX7_told_68 rfl (lv_at hl 0 rfl) ?_
            refine va_get (D := (dC, dI)) (ci := 8) (v := .int (u1.1 2)) (C := RX7) (T := TX7) (N := 34) hx hb ht inX7 hown hK hP 0 rfl rfl 2 (by decide) (ht _ kw_28) (fun _ h9 => h9) rfl dX7_told_69 ?_
            rw [← hQ]
            exact W.iret (v := (u1.1 2)) hx hb hr (fun t ht1 hW => ⟨⟨_, u1, rfl, hm, by rw [ht1]; exact hP, hD⟩, hS.F ht1⟩) hS.2.2 dX7_told_72
          · have hm := ite_f c7 hm
            by_cases c8 : p1 = (5 : Int32)
            · have hm := ite_t c8 hm
              refine lv_tableIn (tgt := 73) hx hb dX7_told_6 (by rw [c8]; decide) (by rw [c8]; decide) (by rw [c8]; rfl) (by decide) ?_
              refine lv_aload_n hx hb dX7_told_73 rfl (lv_at hl 0 rfl) ?_
              refine va_get (D := (dC, dI)) (ci := 8) (v := .int (u1.1 3)) (C := RX7) (T := TX7) (N := 34) hx hb ht inX7 hown hK hP 0 rfl rfl 3 (by decide) (ht _ kw_29) (fun _ h9 => h9) rfl dX7_told_74 ?_
              rw [← hQ]
              exact W.iret (v := (u1.1 3)) hx hb hr (fun t ht1 hW => ⟨⟨_, u1, rfl, hm, by rw [ht1]; exact hP, hD⟩, hS.F ht1⟩) hS.2.2 dX7_told_77
            · have hm := ite_f c8 hm
              by_cases c9 : p1 = (6 : Int32)
              · have hm := ite_t c9 hm
                refine lv_tableIn (tgt := 78) hx hb dX7_told_6 (by rw [c9]; decide) (by rw [c9]; decide) (by rw [c9]; rfl) (by decide) ?_
                refine lv_aload_n hx hb dX7_told_78 rfl (lv_at hl 0 rfl) ?_
                refine va_get (D := (dC, dI)) (ci := 8) (v := .int (u1.1 7)) (C := RX7) (T := TX7) (N := 34) hx hb ht inX7 hown hK hP 0 rfl rfl 7 (by decide) (ht _ kw_5) (fun _ h9 => h9) rfl dX7_told_79 ?_
                refine lv_if_eq (tgt := 89) hx hb dX7_told_82 (by decide) (fun c2 => ?_) (fun c2 => ?_)
                · have hm := ite_t c2 hm
                  refine lv_iconst (v := (0 : Int32)) hx hb dX7_told_89 (by decide) ?_
                  rw [← hQ]
                  exact W.iret (v := (0 : Int32)) hx hb hr (fun t ht1 hW => ⟨⟨_, u1, rfl, hm, by rw [ht1]; exact hP, hD⟩, hS.F ht1⟩) hS.2.2 dX7_told_90
                · have hm := ite_f c2 hm
                  refine lv_iconst (v := (1 : Int32)) hx hb dX7_told_85 (by decide) ?_
                  refine lv_goto (tgt := 90) hx hb dX7_told_86 (by decide) ?_
                  rw [← hQ]
                  exact W.iret (v := (1 : Int32)) hx hb hr (fun t ht1 hW => ⟨⟨_, u1, rfl, hm, by rw [ht1]; exact hP, hD⟩, hS.F ht1⟩) hS.2.2 dX7_told_90
              · have hm := ite_f c9 hm
                refine lv_tableOut (tgt := 91) hx hb dX7_told_6 (sw_out 7 (by decide) (fun j hj => by rcases (show j = 0 ∨ j = 1 ∨ j = 2 ∨ j = 3 ∨ j = 4 ∨ j = 5 ∨ j = 6 by omega) with rfl | rfl | rfl | rfl | rfl | rfl | rfl; all_goals (first | exact c3 | exact c4 | exact c5 | exact c6 | exact c7 | exact c8 | exact c9))) (by decide) ?_
                refine lv_iconst (v := (-1 : Int32)) hx hb dX7_told_91 (by decide) ?_
                rw [← hQ]
                exact W.iret (v := (-1 : Int32)) hx hb hr (fun t ht1 hW => ⟨⟨_, u1, rfl, hm, by rw [ht1]; exact hP, hD⟩, hS.F ht1⟩) hS.2.2 dX7_told_92
end
