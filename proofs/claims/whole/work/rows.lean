section
-- ===== PART A: goes FIRST, ahead of the names: the tables' words, and 'selects' of the private methods out of them =====
/-- a private method of a class that the tables say can be made, by its rows of tables_1 -/
def lw_okq (q : MethodName × Nat) : Prop := (q.1.cls ≠ "java/lang/invoke/MethodHandle" ∧ q.1.cls ≠ "java/lang/invoke/VarHandle") ∧ Cond.instantiable q.1.cls q.2 ∈ tables_1 ∧ Cond.privateMethod q.1 ∈ tables_1 ∧ Cond.instanceMethod q.1 ∈ tables_1
theorem lw_p0 : lw_okq (⟨"java/lang/Throwable", "fillInStackTrace", "(I)Ljava/lang/Throwable;"⟩, 6) := ⟨⟨by decide +kernel, by decide +kernel⟩, List.mem_of_getElem? (i := 256) (by decide +kernel), List.mem_of_getElem? (i := 254) (by decide +kernel), List.mem_of_getElem? (i := 255) (by decide +kernel)⟩
theorem lw_p1 : lw_okq (⟨"BulletinOffice$Sealer", "startWithKey", "([IIII)V"⟩, 5) := ⟨⟨by decide +kernel, by decide +kernel⟩, List.mem_of_getElem? (i := 58) (by decide +kernel), List.mem_of_getElem? (i := 296) (by decide +kernel), List.mem_of_getElem? (i := 297) (by decide +kernel)⟩
theorem lw_p2 : lw_okq (⟨"BulletinOffice$Sealer", "spreadBlock", "(I)V"⟩, 5) := ⟨⟨by decide +kernel, by decide +kernel⟩, List.mem_of_getElem? (i := 58) (by decide +kernel), List.mem_of_getElem? (i := 320) (by decide +kernel), List.mem_of_getElem? (i := 321) (by decide +kernel)⟩
theorem lw_p3 : lw_okq (⟨"BulletinOffice$Sealer", "mixBlock", "()V"⟩, 5) := ⟨⟨by decide +kernel, by decide +kernel⟩, List.mem_of_getElem? (i := 58) (by decide +kernel), List.mem_of_getElem? (i := 324) (by decide +kernel), List.mem_of_getElem? (i := 325) (by decide +kernel)⟩
theorem lw_p4 : lw_okq (⟨"BulletinOffice", "post", "(LBulletinOffice$Packet;)I"⟩, 7) := ⟨⟨by decide +kernel, by decide +kernel⟩, List.mem_of_getElem? (i := 25) (by decide +kernel), List.mem_of_getElem? (i := 431) (by decide +kernel), List.mem_of_getElem? (i := 432) (by decide +kernel)⟩
theorem lw_p5 : lw_okq (⟨"java/util/ArrayList", "add", "(Ljava/lang/Object;[Ljava/lang/Object;I)V"⟩, 3) := ⟨⟨by decide +kernel, by decide +kernel⟩, List.mem_of_getElem? (i := 104) (by decide +kernel), List.mem_of_getElem? (i := 482) (by decide +kernel), List.mem_of_getElem? (i := 483) (by decide +kernel)⟩
theorem lw_p6 : lw_okq (⟨"java/util/ArrayList", "grow", "()[Ljava/lang/Object;"⟩, 3) := ⟨⟨by decide +kernel, by decide +kernel⟩, List.mem_of_getElem? (i := 104) (by decide +kernel), List.mem_of_getElem? (i := 486) (by decide +kernel), List.mem_of_getElem? (i := 487) (by decide +kernel)⟩
theorem lw_p7 : lw_okq (⟨"java/util/ArrayList", "grow", "(I)[Ljava/lang/Object;"⟩, 3) := ⟨⟨by decide +kernel, by decide +kernel⟩, List.mem_of_getElem? (i := 104) (by decide +kernel), List.mem_of_getElem? (i := 490) (by decide +kernel), List.mem_of_getElem? (i := 491) (by decide +kernel)⟩
theorem lw_p8 : lw_okq (⟨"BulletinOffice", "hasPacketByte", "(II)Z"⟩, 7) := ⟨⟨by decide +kernel, by decide +kernel⟩, List.mem_of_getElem? (i := 25) (by decide +kernel), List.mem_of_getElem? (i := 549) (by decide +kernel), List.mem_of_getElem? (i := 550) (by decide +kernel)⟩
theorem lw_p9 : lw_okq (⟨"BulletinOffice", "isReceiver", "(I)Z"⟩, 7) := ⟨⟨by decide +kernel, by decide +kernel⟩, List.mem_of_getElem? (i := 25) (by decide +kernel), List.mem_of_getElem? (i := 582) (by decide +kernel), List.mem_of_getElem? (i := 583) (by decide +kernel)⟩
theorem lw_p10 : lw_okq (⟨"BulletinOffice$Receiver", "takeShownKey", "(LBulletinOffice$Packet;)Z"⟩, 8) := ⟨⟨by decide +kernel, by decide +kernel⟩, List.mem_of_getElem? (i := 131) (by decide +kernel), List.mem_of_getElem? (i := 640) (by decide +kernel), List.mem_of_getElem? (i := 641) (by decide +kernel)⟩
theorem lw_p11 : lw_okq (⟨"BulletinOffice$Receiver", "releaseAll", "()V"⟩, 8) := ⟨⟨by decide +kernel, by decide +kernel⟩, List.mem_of_getElem? (i := 131) (by decide +kernel), List.mem_of_getElem? (i := 666) (by decide +kernel), List.mem_of_getElem? (i := 667) (by decide +kernel)⟩
theorem lw_p12 : lw_okq (⟨"BulletinOffice$Receiver", "nextToRelease", "()I"⟩, 8) := ⟨⟨by decide +kernel, by decide +kernel⟩, List.mem_of_getElem? (i := 131) (by decide +kernel), List.mem_of_getElem? (i := 670) (by decide +kernel), List.mem_of_getElem? (i := 671) (by decide +kernel)⟩
theorem lw_p13 : lw_okq (⟨"BulletinOffice$Receiver", "hasKeyFor", "(I)Z"⟩, 8) := ⟨⟨by decide +kernel, by decide +kernel⟩, List.mem_of_getElem? (i := 131) (by decide +kernel), List.mem_of_getElem? (i := 677) (by decide +kernel), List.mem_of_getElem? (i := 678) (by decide +kernel)⟩
theorem lw_p14 : lw_okq (⟨"java/util/ArrayList", "fastRemove", "([Ljava/lang/Object;I)V"⟩, 3) := ⟨⟨by decide +kernel, by decide +kernel⟩, List.mem_of_getElem? (i := 104) (by decide +kernel), List.mem_of_getElem? (i := 685) (by decide +kernel), List.mem_of_getElem? (i := 686) (by decide +kernel)⟩
theorem lw_p15 : lw_okq (⟨"BulletinOffice$Receiver", "letGo", "(LBulletinOffice$Packet;)V"⟩, 8) := ⟨⟨by decide +kernel, by decide +kernel⟩, List.mem_of_getElem? (i := 131) (by decide +kernel), List.mem_of_getElem? (i := 695) (by decide +kernel), List.mem_of_getElem? (i := 696) (by decide +kernel)⟩
def lw_privs_1 : List (MethodName × Nat) := [(⟨"java/lang/Throwable", "fillInStackTrace", "(I)Ljava/lang/Throwable;"⟩, 6), (⟨"BulletinOffice$Sealer", "startWithKey", "([IIII)V"⟩, 5), (⟨"BulletinOffice$Sealer", "spreadBlock", "(I)V"⟩, 5), (⟨"BulletinOffice$Sealer", "mixBlock", "()V"⟩, 5), (⟨"BulletinOffice", "post", "(LBulletinOffice$Packet;)I"⟩, 7), (⟨"java/util/ArrayList", "add", "(Ljava/lang/Object;[Ljava/lang/Object;I)V"⟩, 3), (⟨"java/util/ArrayList", "grow", "()[Ljava/lang/Object;"⟩, 3), (⟨"java/util/ArrayList", "grow", "(I)[Ljava/lang/Object;"⟩, 3), (⟨"BulletinOffice", "hasPacketByte", "(II)Z"⟩, 7), (⟨"BulletinOffice", "isReceiver", "(I)Z"⟩, 7), (⟨"BulletinOffice$Receiver", "takeShownKey", "(LBulletinOffice$Packet;)Z"⟩, 8), (⟨"BulletinOffice$Receiver", "releaseAll", "()V"⟩, 8), (⟨"BulletinOffice$Receiver", "nextToRelease", "()I"⟩, 8), (⟨"BulletinOffice$Receiver", "hasKeyFor", "(I)Z"⟩, 8), (⟨"java/util/ArrayList", "fastRemove", "([Ljava/lang/Object;I)V"⟩, 3), (⟨"BulletinOffice$Receiver", "letGo", "(LBulletinOffice$Packet;)V"⟩, 8)]
theorem lw_r1 : ∀ q ∈ lw_privs_1, lw_okq q := List.forall_mem_cons.mpr ⟨lw_p0, List.forall_mem_cons.mpr ⟨lw_p1, List.forall_mem_cons.mpr ⟨lw_p2, List.forall_mem_cons.mpr ⟨lw_p3, List.forall_mem_cons.mpr ⟨lw_p4, List.forall_mem_cons.mpr ⟨lw_p5, List.forall_mem_cons.mpr ⟨lw_p6, List.forall_mem_cons.mpr ⟨lw_p7, List.forall_mem_cons.mpr ⟨lw_p8, List.forall_mem_cons.mpr ⟨lw_p9, List.forall_mem_cons.mpr ⟨lw_p10, List.forall_mem_cons.mpr ⟨lw_p11, List.forall_mem_cons.mpr ⟨lw_p12, List.forall_mem_cons.mpr ⟨lw_p13, List.forall_mem_cons.mpr ⟨lw_p14, List.forall_mem_cons.mpr ⟨lw_p15, fun _ h => absurd h List.not_mem_nil⟩⟩⟩⟩⟩⟩⟩⟩⟩⟩⟩⟩⟩⟩⟩⟩
theorem lw_p16 : lw_okq (⟨"BulletinOffice$Receiver", "holdsTwinOf", "(LBulletinOffice$Packet;)Z"⟩, 8) := ⟨⟨by decide +kernel, by decide +kernel⟩, List.mem_of_getElem? (i := 131) (by decide +kernel), List.mem_of_getElem? (i := 710) (by decide +kernel), List.mem_of_getElem? (i := 711) (by decide +kernel)⟩
theorem lw_p17 : lw_okq (⟨"BulletinOffice", "isKept", "(II)Z"⟩, 7) := ⟨⟨by decide +kernel, by decide +kernel⟩, List.mem_of_getElem? (i := 25) (by decide +kernel), List.mem_of_getElem? (i := 736) (by decide +kernel), List.mem_of_getElem? (i := 737) (by decide +kernel)⟩
theorem lw_p18 : lw_okq (⟨"BulletinOfficeModel", "fail", "(I)I"⟩, 40) := ⟨⟨by decide +kernel, by decide +kernel⟩, List.mem_of_getElem? (i := 749) (by decide +kernel), List.mem_of_getElem? (i := 962) (by decide +kernel), List.mem_of_getElem? (i := 963) (by decide +kernel)⟩
theorem lw_p19 : lw_okq (⟨"BulletinOfficeModel", "down", "()V"⟩, 40) := ⟨⟨by decide +kernel, by decide +kernel⟩, List.mem_of_getElem? (i := 749) (by decide +kernel), List.mem_of_getElem? (i := 969) (by decide +kernel), List.mem_of_getElem? (i := 970) (by decide +kernel)⟩
theorem lw_p20 : lw_okq (⟨"BulletinOfficeModel", "makeSeal", "()V"⟩, 40) := ⟨⟨by decide +kernel, by decide +kernel⟩, List.mem_of_getElem? (i := 749) (by decide +kernel), List.mem_of_getElem? (i := 973) (by decide +kernel), List.mem_of_getElem? (i := 974) (by decide +kernel)⟩
theorem lw_p21 : lw_okq (⟨"BulletinOfficeModel", "digestRow", "()V"⟩, 40) := ⟨⟨by decide +kernel, by decide +kernel⟩, List.mem_of_getElem? (i := 749) (by decide +kernel), List.mem_of_getElem? (i := 977) (by decide +kernel), List.mem_of_getElem? (i := 978) (by decide +kernel)⟩
theorem lw_p22 : lw_okq (⟨"BulletinOfficeModel", "block", "(I)V"⟩, 40) := ⟨⟨by decide +kernel, by decide +kernel⟩, List.mem_of_getElem? (i := 749) (by decide +kernel), List.mem_of_getElem? (i := 981) (by decide +kernel), List.mem_of_getElem? (i := 982) (by decide +kernel)⟩
theorem lw_p23 : lw_okq (⟨"BulletinOfficeModel", "interval", "()I"⟩, 40) := ⟨⟨by decide +kernel, by decide +kernel⟩, List.mem_of_getElem? (i := 749) (by decide +kernel), List.mem_of_getElem? (i := 1008) (by decide +kernel), List.mem_of_getElem? (i := 1009) (by decide +kernel)⟩
theorem lw_p24 : lw_okq (⟨"BulletinOfficeModel", "pack", "(II)I"⟩, 40) := ⟨⟨by decide +kernel, by decide +kernel⟩, List.mem_of_getElem? (i := 749) (by decide +kernel), List.mem_of_getElem? (i := 1015) (by decide +kernel), List.mem_of_getElem? (i := 1016) (by decide +kernel)⟩
theorem lw_p25 : lw_okq (⟨"BulletinOfficeModel", "keyAt", "(III)I"⟩, 40) := ⟨⟨by decide +kernel, by decide +kernel⟩, List.mem_of_getElem? (i := 749) (by decide +kernel), List.mem_of_getElem? (i := 1019) (by decide +kernel), List.mem_of_getElem? (i := 1020) (by decide +kernel)⟩
theorem lw_p26 : lw_okq (⟨"BulletinOfficeModel", "codeOfCopy", "(I)V"⟩, 40) := ⟨⟨by decide +kernel, by decide +kernel⟩, List.mem_of_getElem? (i := 749) (by decide +kernel), List.mem_of_getElem? (i := 1023) (by decide +kernel), List.mem_of_getElem? (i := 1024) (by decide +kernel)⟩
theorem lw_p27 : lw_okq (⟨"BulletinOfficeModel", "chainFor", "(IZ)I"⟩, 40) := ⟨⟨by decide +kernel, by decide +kernel⟩, List.mem_of_getElem? (i := 749) (by decide +kernel), List.mem_of_getElem? (i := 1039) (by decide +kernel), List.mem_of_getElem? (i := 1040) (by decide +kernel)⟩
theorem lw_p28 : lw_okq (⟨"BulletinOfficeModel", "judge", "(II)I"⟩, 40) := ⟨⟨by decide +kernel, by decide +kernel⟩, List.mem_of_getElem? (i := 749) (by decide +kernel), List.mem_of_getElem? (i := 1055) (by decide +kernel), List.mem_of_getElem? (i := 1056) (by decide +kernel)⟩
theorem lw_p29 : lw_okq (⟨"BulletinOfficeModel", "isBroken", "(I)Z"⟩, 40) := ⟨⟨by decide +kernel, by decide +kernel⟩, List.mem_of_getElem? (i := 749) (by decide +kernel), List.mem_of_getElem? (i := 1059) (by decide +kernel), List.mem_of_getElem? (i := 1060) (by decide +kernel)⟩
theorem lw_p30 : lw_okq (⟨"BulletinOfficeModel", "intervalOfCopy", "()I"⟩, 40) := ⟨⟨by decide +kernel, by decide +kernel⟩, List.mem_of_getElem? (i := 749) (by decide +kernel), List.mem_of_getElem? (i := 1063) (by decide +kernel), List.mem_of_getElem? (i := 1064) (by decide +kernel)⟩
theorem lw_p31 : lw_okq (⟨"BulletinOfficeModel", "lookAtKey", "(I)I"⟩, 40) := ⟨⟨by decide +kernel, by decide +kernel⟩, List.mem_of_getElem? (i := 749) (by decide +kernel), List.mem_of_getElem? (i := 1067) (by decide +kernel), List.mem_of_getElem? (i := 1068) (by decide +kernel)⟩
def lw_privs_2 : List (MethodName × Nat) := [(⟨"BulletinOffice$Receiver", "holdsTwinOf", "(LBulletinOffice$Packet;)Z"⟩, 8), (⟨"BulletinOffice", "isKept", "(II)Z"⟩, 7), (⟨"BulletinOfficeModel", "fail", "(I)I"⟩, 40), (⟨"BulletinOfficeModel", "down", "()V"⟩, 40), (⟨"BulletinOfficeModel", "makeSeal", "()V"⟩, 40), (⟨"BulletinOfficeModel", "digestRow", "()V"⟩, 40), (⟨"BulletinOfficeModel", "block", "(I)V"⟩, 40), (⟨"BulletinOfficeModel", "interval", "()I"⟩, 40), (⟨"BulletinOfficeModel", "pack", "(II)I"⟩, 40), (⟨"BulletinOfficeModel", "keyAt", "(III)I"⟩, 40), (⟨"BulletinOfficeModel", "codeOfCopy", "(I)V"⟩, 40), (⟨"BulletinOfficeModel", "chainFor", "(IZ)I"⟩, 40), (⟨"BulletinOfficeModel", "judge", "(II)I"⟩, 40), (⟨"BulletinOfficeModel", "isBroken", "(I)Z"⟩, 40), (⟨"BulletinOfficeModel", "intervalOfCopy", "()I"⟩, 40), (⟨"BulletinOfficeModel", "lookAtKey", "(I)I"⟩, 40)]
theorem lw_r2 : ∀ q ∈ lw_privs_2, lw_okq q := List.forall_mem_cons.mpr ⟨lw_p16, List.forall_mem_cons.mpr ⟨lw_p17, List.forall_mem_cons.mpr ⟨lw_p18, List.forall_mem_cons.mpr ⟨lw_p19, List.forall_mem_cons.mpr ⟨lw_p20, List.forall_mem_cons.mpr ⟨lw_p21, List.forall_mem_cons.mpr ⟨lw_p22, List.forall_mem_cons.mpr ⟨lw_p23, List.forall_mem_cons.mpr ⟨lw_p24, List.forall_mem_cons.mpr ⟨lw_p25, List.forall_mem_cons.mpr ⟨lw_p26, List.forall_mem_cons.mpr ⟨lw_p27, List.forall_mem_cons.mpr ⟨lw_p28, List.forall_mem_cons.mpr ⟨lw_p29, List.forall_mem_cons.mpr ⟨lw_p30, List.forall_mem_cons.mpr ⟨lw_p31, fun _ h => absurd h List.not_mem_nil⟩⟩⟩⟩⟩⟩⟩⟩⟩⟩⟩⟩⟩⟩⟩⟩
theorem lw_p32 : lw_okq (⟨"BulletinOfficeModel", "loadLatest", "(I)V"⟩, 40) := ⟨⟨by decide +kernel, by decide +kernel⟩, List.mem_of_getElem? (i := 749) (by decide +kernel), List.mem_of_getElem? (i := 1071) (by decide +kernel), List.mem_of_getElem? (i := 1072) (by decide +kernel)⟩
theorem lw_p33 : lw_okq (⟨"BulletinOfficeModel", "release", "(I)V"⟩, 40) := ⟨⟨by decide +kernel, by decide +kernel⟩, List.mem_of_getElem? (i := 749) (by decide +kernel), List.mem_of_getElem? (i := 1075) (by decide +kernel), List.mem_of_getElem? (i := 1076) (by decide +kernel)⟩
theorem lw_p34 : lw_okq (⟨"BulletinOfficeModel", "isDue", "(II)Z"⟩, 40) := ⟨⟨by decide +kernel, by decide +kernel⟩, List.mem_of_getElem? (i := 749) (by decide +kernel), List.mem_of_getElem? (i := 1079) (by decide +kernel), List.mem_of_getElem? (i := 1080) (by decide +kernel)⟩
theorem lw_p35 : lw_okq (⟨"BulletinOfficeModel", "heldInterval", "(II)I"⟩, 40) := ⟨⟨by decide +kernel, by decide +kernel⟩, List.mem_of_getElem? (i := 749) (by decide +kernel), List.mem_of_getElem? (i := 1083) (by decide +kernel), List.mem_of_getElem? (i := 1084) (by decide +kernel)⟩
theorem lw_p36 : lw_okq (⟨"BulletinOfficeModel", "heldAt", "(II)I"⟩, 40) := ⟨⟨by decide +kernel, by decide +kernel⟩, List.mem_of_getElem? (i := 749) (by decide +kernel), List.mem_of_getElem? (i := 1087) (by decide +kernel), List.mem_of_getElem? (i := 1088) (by decide +kernel)⟩
theorem lw_p37 : lw_okq (⟨"BulletinOfficeModel", "goOut", "(II)V"⟩, 40) := ⟨⟨by decide +kernel, by decide +kernel⟩, List.mem_of_getElem? (i := 749) (by decide +kernel), List.mem_of_getElem? (i := 1091) (by decide +kernel), List.mem_of_getElem? (i := 1092) (by decide +kernel)⟩
theorem lw_p38 : lw_okq (⟨"BulletinOfficeModel", "keep", "(III)V"⟩, 40) := ⟨⟨by decide +kernel, by decide +kernel⟩, List.mem_of_getElem? (i := 749) (by decide +kernel), List.mem_of_getElem? (i := 1095) (by decide +kernel), List.mem_of_getElem? (i := 1096) (by decide +kernel)⟩
theorem lw_p39 : lw_okq (⟨"BulletinOfficeModel", "isTwice", "(I)Z"⟩, 40) := ⟨⟨by decide +kernel, by decide +kernel⟩, List.mem_of_getElem? (i := 749) (by decide +kernel), List.mem_of_getElem? (i := 1099) (by decide +kernel), List.mem_of_getElem? (i := 1100) (by decide +kernel)⟩
theorem lw_p40 : lw_okq (⟨"BulletinOfficeModel", "isKept", "(II)Z"⟩, 40) := ⟨⟨by decide +kernel, by decide +kernel⟩, List.mem_of_getElem? (i := 749) (by decide +kernel), List.mem_of_getElem? (i := 1111) (by decide +kernel), List.mem_of_getElem? (i := 1112) (by decide +kernel)⟩
def lw_privs_3 : List (MethodName × Nat) := [(⟨"BulletinOfficeModel", "loadLatest", "(I)V"⟩, 40), (⟨"BulletinOfficeModel", "release", "(I)V"⟩, 40), (⟨"BulletinOfficeModel", "isDue", "(II)Z"⟩, 40), (⟨"BulletinOfficeModel", "heldInterval", "(II)I"⟩, 40), (⟨"BulletinOfficeModel", "heldAt", "(II)I"⟩, 40), (⟨"BulletinOfficeModel", "goOut", "(II)V"⟩, 40), (⟨"BulletinOfficeModel", "keep", "(III)V"⟩, 40), (⟨"BulletinOfficeModel", "isTwice", "(I)Z"⟩, 40), (⟨"BulletinOfficeModel", "isKept", "(II)Z"⟩, 40)]
theorem lw_r3 : ∀ q ∈ lw_privs_3, lw_okq q := List.forall_mem_cons.mpr ⟨lw_p32, List.forall_mem_cons.mpr ⟨lw_p33, List.forall_mem_cons.mpr ⟨lw_p34, List.forall_mem_cons.mpr ⟨lw_p35, List.forall_mem_cons.mpr ⟨lw_p36, List.forall_mem_cons.mpr ⟨lw_p37, List.forall_mem_cons.mpr ⟨lw_p38, List.forall_mem_cons.mpr ⟨lw_p39, List.forall_mem_cons.mpr ⟨lw_p40, fun _ h => absurd h List.not_mem_nil⟩⟩⟩⟩⟩⟩⟩⟩⟩
def lw_privs : List (MethodName × Nat) := lw_privs_1 ++ (lw_privs_2 ++ (lw_privs_3))
def lw_tbl : List Cond := k2_sels lw_privs ++ tables_1
theorem lw_privs_ok : ∀ q ∈ lw_privs, lw_okq q := by
  show ∀ q ∈ lw_privs_1 ++ (lw_privs_2 ++ (lw_privs_3)), lw_okq q
  exact List.forall_mem_append.mpr ⟨lw_r1, List.forall_mem_append.mpr ⟨lw_r2, lw_r3⟩⟩
end
section
/-! names: classes, methods; written by tool/parts.py -/
abbrev R0 : String := "BulletinOffice$Clock"
def T0 : u_T := fun k => match k with
  | 0 => ("BulletinOffice$Clock", "lag", "I", true)
  | 1 => ("BulletinOffice$Clock", "ticks", "I", true)
  | 2 => ("BulletinOffice$Clock", "error", "I", true)
  | _ => ("BulletinOffice$Clock", "time", "I", false)
def ty0 : Nat → FieldType := fun k => match k with
  | 0 => .int
  | 1 => .int
  | 2 => .int
  | _ => .int
theorem nm0 : ∀ a, a < 4 → ∀ b, b < 4 → a ≠ b → (T0 a).2.1 ≠ (T0 b).2.1 := by decide +kernel
theorem tk0 : ∀ k, k < 4 → parseFieldDescriptor (T0 k).2.2.1 = some (ty0 k) := by decide +kernel
abbrev R1 : String := "BulletinOffice$Sealer"
def T1 : u_T := fun k => match k with
  | 0 => ("BulletinOffice$Sealer", "result", "[I", true)
  | 1 => ("BulletinOffice$Sealer", "codeKey", "[I", true)
  | 2 => ("BulletinOffice$Sealer", "row", "[I", true)
  | 3 => ("BulletinOffice$Sealer", "length", "I", false)
  | _ => ("BulletinOffice$Sealer", "words", "[I", true)
def ty1 : Nat → FieldType := fun k => match k with
  | 0 => .array (.int)
  | 1 => .array (.int)
  | 2 => .array (.int)
  | 3 => .int
  | _ => .array (.int)
theorem nm1 : ∀ a, a < 5 → ∀ b, b < 5 → a ≠ b → (T1 a).2.1 ≠ (T1 b).2.1 := by decide +kernel
theorem tk1 : ∀ k, k < 5 → parseFieldDescriptor (T1 k).2.2.1 = some (ty1 k) := by decide +kernel
abbrev R2 : String := "BulletinOffice$KeyChain"
def T2 : u_T := fun k => match k with
  | 0 => ("BulletinOffice$KeyChain", "words", "[I", true)
  | 1 => ("BulletinOffice$KeyChain", "first", "I", false)
  | _ => ("BulletinOffice$KeyChain", "latest", "I", false)
def ty2 : Nat → FieldType := fun k => match k with
  | 0 => .array (.int)
  | 1 => .int
  | _ => .int
theorem nm2 : ∀ a, a < 3 → ∀ b, b < 3 → a ≠ b → (T2 a).2.1 ≠ (T2 b).2.1 := by decide +kernel
theorem tk2 : ∀ k, k < 3 → parseFieldDescriptor (T2 k).2.2.1 = some (ty2 k) := by decide +kernel
abbrev R3 : String := "BulletinOffice$Packet"
def T3 : u_T := fun k => match k with
  | _ => ("BulletinOffice$Packet", "bytes", "[I", true)
def ty3 : Nat → FieldType := fun k => match k with
  | _ => .array (.int)
theorem nm3 : ∀ a, a < 1 → ∀ b, b < 1 → a ≠ b → (T3 a).2.1 ≠ (T3 b).2.1 := by decide +kernel
theorem tk3 : ∀ k, k < 1 → parseFieldDescriptor (T3 k).2.2.1 = some (ty3 k) := by decide +kernel
abbrev R4 : String := "BulletinOffice$Receiver"
def T4 : u_T := fun k => match k with
  | 0 => ("BulletinOffice$Receiver", "clock", "LBulletinOffice$Clock;", true)
  | 1 => ("BulletinOffice$Receiver", "sealer", "LBulletinOffice$Sealer;", true)
  | 2 => ("BulletinOffice$Receiver", "known", "[LBulletinOffice$KeyChain;", true)
  | 3 => ("BulletinOffice$Receiver", "held", "Ljava/util/ArrayList;", true)
  | 4 => ("BulletinOffice$Receiver", "kept", "Ljava/util/ArrayList;", true)
  | 5 => ("BulletinOffice$Receiver", "counts", "[I", true)
  | 6 => ("BulletinOffice$Receiver", "releasedCount", "I", false)
  | _ => ("BulletinOffice$Receiver", "drift", "I", false)
def ty4 : Nat → FieldType := fun k => match k with
  | 0 => .object "BulletinOffice$Clock"
  | 1 => .object "BulletinOffice$Sealer"
  | 2 => .array (.object "BulletinOffice$KeyChain")
  | 3 => .object "java/util/ArrayList"
  | 4 => .object "java/util/ArrayList"
  | 5 => .array (.int)
  | 6 => .int
  | _ => .int
theorem nm4 : ∀ a, a < 8 → ∀ b, b < 8 → a ≠ b → (T4 a).2.1 ≠ (T4 b).2.1 := by decide +kernel
theorem tk4 : ∀ k, k < 8 → parseFieldDescriptor (T4 k).2.2.1 = some (ty4 k) := by decide +kernel
abbrev R5 : String := "BulletinOffice"
def T5 : u_T := fun k => match k with
  | 0 => ("BulletinOffice", "clock", "LBulletinOffice$Clock;", true)
  | 1 => ("BulletinOffice", "sealer", "LBulletinOffice$Sealer;", true)
  | 2 => ("BulletinOffice", "buffer", "[I", true)
  | 3 => ("BulletinOffice", "chains", "[LBulletinOffice$KeyChain;", true)
  | 4 => ("BulletinOffice", "chainCount", "I", false)
  | 5 => ("BulletinOffice", "packets", "Ljava/util/ArrayList;", true)
  | _ => ("BulletinOffice", "receivers", "[LBulletinOffice$Receiver;", true)
def ty5 : Nat → FieldType := fun k => match k with
  | 0 => .object "BulletinOffice$Clock"
  | 1 => .object "BulletinOffice$Sealer"
  | 2 => .array (.int)
  | 3 => .array (.object "BulletinOffice$KeyChain")
  | 4 => .int
  | 5 => .object "java/util/ArrayList"
  | _ => .array (.object "BulletinOffice$Receiver")
theorem nm5 : ∀ a, a < 7 → ∀ b, b < 7 → a ≠ b → (T5 a).2.1 ≠ (T5 b).2.1 := by decide +kernel
theorem tk5 : ∀ k, k < 7 → parseFieldDescriptor (T5 k).2.2.1 = some (ty5 k) := by decide +kernel
abbrev R6 : String := "BulletinOfficeModel"
def T6 : u_T := fun k => match k with
  | 0 => ("BulletinOfficeModel", "constants", "[I", true)
  | 1 => ("BulletinOfficeModel", "begins", "[I", true)
  | 2 => ("BulletinOfficeModel", "words", "[I", true)
  | 3 => ("BulletinOfficeModel", "digest", "[I", true)
  | 4 => ("BulletinOfficeModel", "state", "[I", true)
  | 5 => ("BulletinOfficeModel", "row", "[I", true)
  | 6 => ("BulletinOfficeModel", "rowSize", "I", false)
  | 7 => ("BulletinOfficeModel", "sealKey", "[I", true)
  | 8 => ("BulletinOfficeModel", "sealKeySize", "I", false)
  | 9 => ("BulletinOfficeModel", "message", "[I", true)
  | 10 => ("BulletinOfficeModel", "messageSize", "I", false)
  | 11 => ("BulletinOfficeModel", "seal", "[I", true)
  | 12 => ("BulletinOfficeModel", "thrown", "I", false)
  | 13 => ("BulletinOfficeModel", "lag", "I", false)
  | 14 => ("BulletinOfficeModel", "ticks", "I", false)
  | 15 => ("BulletinOfficeModel", "error", "I", false)
  | 16 => ("BulletinOfficeModel", "time", "I", false)
  | 17 => ("BulletinOfficeModel", "chains", "I", false)
  | 18 => ("BulletinOfficeModel", "packets", "I", false)
  | 19 => ("BulletinOfficeModel", "buffer", "[I", true)
  | 20 => ("BulletinOfficeModel", "keys", "[I", true)
  | 21 => ("BulletinOfficeModel", "sizes", "[I", true)
  | 22 => ("BulletinOfficeModel", "packetBytes", "[I", true)
  | 23 => ("BulletinOfficeModel", "drifts", "[I", true)
  | 24 => ("BulletinOfficeModel", "knows", "[Z", true)
  | 25 => ("BulletinOfficeModel", "firsts", "[I", true)
  | 26 => ("BulletinOfficeModel", "latest", "[I", true)
  | 27 => ("BulletinOfficeModel", "latestKey", "[I", true)
  | 28 => ("BulletinOfficeModel", "counts", "[I", true)
  | 29 => ("BulletinOfficeModel", "held", "[I", true)
  | 30 => ("BulletinOfficeModel", "heldSize", "[I", true)
  | 31 => ("BulletinOfficeModel", "heldBytes", "[I", true)
  | 32 => ("BulletinOfficeModel", "out", "[I", true)
  | 33 => ("BulletinOfficeModel", "outInterval", "[I", true)
  | 34 => ("BulletinOfficeModel", "outCode", "[I", true)
  | 35 => ("BulletinOfficeModel", "outSize", "[I", true)
  | 36 => ("BulletinOfficeModel", "outBytes", "[I", true)
  | 37 => ("BulletinOfficeModel", "copy", "[I", true)
  | 38 => ("BulletinOfficeModel", "key", "[I", true)
  | _ => ("BulletinOfficeModel", "mine", "[I", true)
def ty6 : Nat → FieldType := fun k => match k with
  | 0 => .array (.int)
  | 1 => .array (.int)
  | 2 => .array (.int)
  | 3 => .array (.int)
  | 4 => .array (.int)
  | 5 => .array (.int)
  | 6 => .int
  | 7 => .array (.int)
  | 8 => .int
  | 9 => .array (.int)
  | 10 => .int
  | 11 => .array (.int)
  | 12 => .int
  | 13 => .int
  | 14 => .int
  | 15 => .int
  | 16 => .int
  | 17 => .int
  | 18 => .int
  | 19 => .array (.int)
  | 20 => .array (.int)
  | 21 => .array (.int)
  | 22 => .array (.int)
  | 23 => .array (.int)
  | 24 => .array (.boolean)
  | 25 => .array (.int)
  | 26 => .array (.int)
  | 27 => .array (.int)
  | 28 => .array (.int)
  | 29 => .array (.int)
  | 30 => .array (.int)
  | 31 => .array (.int)
  | 32 => .array (.int)
  | 33 => .array (.int)
  | 34 => .array (.int)
  | 35 => .array (.int)
  | 36 => .array (.int)
  | 37 => .array (.int)
  | 38 => .array (.int)
  | _ => .array (.int)
theorem nm6 : ∀ a, a < 40 → ∀ b, b < 40 → a ≠ b → (T6 a).2.1 ≠ (T6 b).2.1 := by decide +kernel
theorem tk6 : ∀ k, k < 40 → parseFieldDescriptor (T6 k).2.2.1 = some (ty6 k) := by decide +kernel
abbrev R7 : String := "java/util/ArrayList"
def T7 : u_T := fun k => match k with
  | 0 => ("java/util/ArrayList", "elementData", "[Ljava/lang/Object;", false)
  | 1 => ("java/util/ArrayList", "size", "I", false)
  | _ => ("java/util/AbstractList", "modCount", "I", false)
def ty7 : Nat → FieldType := fun k => match k with
  | 0 => .array (.object "java/lang/Object")
  | 1 => .int
  | _ => .int
theorem nm7 : ∀ a, a < 3 → ∀ b, b < 3 → a ≠ b → (T7 a).2.1 ≠ (T7 b).2.1 := by decide +kernel
theorem tk7 : ∀ k, k < 3 → parseFieldDescriptor (T7 k).2.2.1 = some (ty7 k) := by decide +kernel
abbrev vwCl : List vw_C := [(R0, T0, 4), (R1, T1, 5), (R2, T2, 3), (R3, T3, 1), (R4, T4, 8), (R5, T5, 7), (R6, T6, 40), (R7, T7, 3)]
abbrev y_Of_init : MethodName := ⟨"BulletinOffice", "<init>", "(III)V"⟩
abbrev b_Of_init : ByteArray := prog_1_method_1_code
abbrev y_Oj_init : MethodName := ⟨"java/lang/Object", "<init>", "()V"⟩
abbrev b_Oj_init : ByteArray := object_method_1_code
abbrev y_Mt_floorMod : MethodName := ⟨"java/lang/Math", "floorMod", "(II)I"⟩
abbrev b_Mt_floorMod : ByteArray := prog_16_method_50_code
abbrev y_Ck_init : MethodName := ⟨"BulletinOffice$Clock", "<init>", "(III)V"⟩
abbrev b_Ck_init : ByteArray := prog_2_method_1_code
abbrev y_Sl_init : MethodName := ⟨"BulletinOffice$Sealer", "<init>", "()V"⟩
abbrev b_Sl_init : ByteArray := prog_6_method_1_code
abbrev y_Kc_init : MethodName := ⟨"BulletinOffice$KeyChain", "<init>", "()V"⟩
abbrev b_Kc_init : ByteArray := prog_3_method_1_code
abbrev y_Al_init : MethodName := ⟨"java/util/ArrayList", "<init>", "()V"⟩
abbrev b_Al_init : ByteArray := prog_23_method_2_code
abbrev y_Ab_init : MethodName := ⟨"java/util/AbstractList", "<init>", "()V"⟩
abbrev b_Ab_init : ByteArray := prog_22_method_1_code
abbrev y_Ac_init : MethodName := ⟨"java/util/AbstractCollection", "<init>", "()V"⟩
abbrev b_Ac_init : ByteArray := prog_21_method_1_code
abbrev y_Rc_init : MethodName := ⟨"BulletinOffice$Receiver", "<init>", "(LBulletinOffice$Clock;LBulletinOffice$Sealer;)V"⟩
abbrev b_Rc_init : ByteArray := prog_5_method_1_code
abbrev y_Of_count : MethodName := ⟨"BulletinOffice", "count", "(I)I"⟩
abbrev b_Of_count : ByteArray := prog_1_method_16_code
abbrev y_Ck_intervalAt : MethodName := ⟨"BulletinOffice$Clock", "intervalAt", "(I)I"⟩
abbrev b_Ck_intervalAt : ByteArray := prog_2_method_2_code
abbrev y_Al_size : MethodName := ⟨"java/util/ArrayList", "size", "()I"⟩
abbrev b_Al_size : ByteArray := prog_23_method_8_code
abbrev y_Lw_cell : MethodName := ⟨"BulletinOfficeLaw", "cell", "([II)I"⟩
abbrev b_Lw_cell : ByteArray := method_2_code
abbrev y_Lw_chain : MethodName := ⟨"BulletinOfficeLaw", "chain", "(LBulletinOffice;IIIII[J)I"⟩
abbrev b_Lw_chain : ByteArray := method_3_code
abbrev y_Of_chain : MethodName := ⟨"BulletinOffice", "chain", "(IIIII)I"⟩
abbrev b_Of_chain : ByteArray := prog_1_method_2_code
abbrev y_Th_init : MethodName := ⟨"java/lang/Throwable", "<init>", "()V"⟩
abbrev b_Th_init : ByteArray := prog_19_method_1_code
abbrev y_Th_fillInStackTrace : MethodName := ⟨"java/lang/Throwable", "fillInStackTrace", "()Ljava/lang/Throwable;"⟩
abbrev b_Th_fillInStackTrace : ByteArray := prog_19_method_18_code
abbrev y_Is_init : MethodName := ⟨"java/lang/IllegalStateException", "<init>", "()V"⟩
abbrev b_Is_init : ByteArray := prog_13_method_1_code
abbrev y_Rt_init : MethodName := ⟨"java/lang/RuntimeException", "<init>", "()V"⟩
abbrev b_Rt_init : ByteArray := prog_17_method_1_code
abbrev y_Ex_init : MethodName := ⟨"java/lang/Exception", "<init>", "()V"⟩
abbrev b_Ex_init : ByteArray := prog_11_method_1_code
abbrev y_Kc_putTopKey : MethodName := ⟨"BulletinOffice$KeyChain", "putTopKey", "(IIIII)V"⟩
abbrev b_Kc_putTopKey : ByteArray := prog_3_method_4_code
abbrev y_Kc_fillDown : MethodName := ⟨"BulletinOffice$KeyChain", "fillDown", "(IILBulletinOffice$Sealer;)V"⟩
abbrev b_Kc_fillDown : ByteArray := prog_3_method_5_code
abbrev y_Sl_seal : MethodName := ⟨"BulletinOffice$Sealer", "seal", "([III[II)V"⟩
abbrev b_Sl_seal : ByteArray := prog_6_method_5_code
abbrev y_Sl_startWithKey : MethodName := ⟨"BulletinOffice$Sealer", "startWithKey", "([IIII)V"⟩
abbrev b_Sl_startWithKey : ByteArray := prog_6_method_6_code
abbrev y_Sl_clear : MethodName := ⟨"BulletinOffice$Sealer", "clear", "()V"⟩
abbrev b_Sl_clear : ByteArray := prog_6_method_2_code
abbrev y_Ar_fill : MethodName := ⟨"java/util/Arrays", "fill", "([II)V"⟩
abbrev b_Ar_fill : ByteArray := prog_24_method_103_code
abbrev y_Sl_addByte : MethodName := ⟨"BulletinOffice$Sealer", "addByte", "(I)V"⟩
abbrev b_Sl_addByte : ByteArray := prog_6_method_3_code
abbrev y_Sl_finish : MethodName := ⟨"BulletinOffice$Sealer", "finish", "()V"⟩
abbrev b_Sl_finish : ByteArray := prog_6_method_4_code
abbrev y_Sl_spreadBlock : MethodName := ⟨"BulletinOffice$Sealer", "spreadBlock", "(I)V"⟩
abbrev b_Sl_spreadBlock : ByteArray := prog_6_method_7_code
abbrev y_Sl_mixBlock : MethodName := ⟨"BulletinOffice$Sealer", "mixBlock", "()V"⟩
abbrev b_Sl_mixBlock : ByteArray := prog_6_method_8_code
abbrev y_Lw_tick : MethodName := ⟨"BulletinOfficeLaw", "tick", "(LBulletinOffice;I[J)I"⟩
abbrev b_Lw_tick : ByteArray := method_4_code
abbrev y_Of_tick : MethodName := ⟨"BulletinOffice", "tick", "(I)I"⟩
abbrev b_Of_tick : ByteArray := prog_1_method_3_code
abbrev y_Ia_init : MethodName := ⟨"java/lang/IllegalArgumentException", "<init>", "()V"⟩
abbrev b_Ia_init : ByteArray := prog_12_method_1_code
abbrev y_Lw_load : MethodName := ⟨"BulletinOfficeLaw", "load", "(LBulletinOffice;II[J)I"⟩
abbrev b_Lw_load : ByteArray := method_5_code
abbrev y_Of_load : MethodName := ⟨"BulletinOffice", "load", "(II)I"⟩
abbrev b_Of_load : ByteArray := prog_1_method_4_code
abbrev y_Io_init : MethodName := ⟨"java/lang/IndexOutOfBoundsException", "<init>", "()V"⟩
abbrev b_Io_init : ByteArray := prog_14_method_1_code
abbrev y_Lw_digest : MethodName := ⟨"BulletinOfficeLaw", "digest", "(LBulletinOffice;II[J)I"⟩
abbrev b_Lw_digest : ByteArray := method_6_code
abbrev y_Of_digest : MethodName := ⟨"BulletinOffice", "digest", "(II)I"⟩
abbrev b_Of_digest : ByteArray := prog_1_method_5_code
abbrev y_Of_byteOf : MethodName := ⟨"BulletinOffice", "byteOf", "([II)I"⟩
abbrev b_Of_byteOf : ByteArray := prog_1_method_23_code
abbrev y_Lw_send : MethodName := ⟨"BulletinOfficeLaw", "send", "(LBulletinOffice;I[J)I"⟩
abbrev b_Lw_send : ByteArray := method_7_code
abbrev y_Of_send : MethodName := ⟨"BulletinOffice", "send", "(I)I"⟩
abbrev b_Of_send : ByteArray := prog_1_method_6_code
abbrev y_Of_chainOf : MethodName := ⟨"BulletinOffice", "chainOf", "(I)I"⟩
abbrev b_Of_chainOf : ByteArray := prog_1_method_21_code
abbrev y_Uo_init : MethodName := ⟨"java/lang/UnsupportedOperationException", "<init>", "()V"⟩
abbrev b_Uo_init : ByteArray := prog_20_method_1_code
abbrev y_Pk_init1 : MethodName := ⟨"BulletinOffice$Packet", "<init>", "(III)V"⟩
abbrev b_Pk_init1 : ByteArray := prog_4_method_1_code
abbrev y_Of_post : MethodName := ⟨"BulletinOffice", "post", "(LBulletinOffice$Packet;)I"⟩
abbrev b_Of_post : ByteArray := prog_1_method_17_code
abbrev y_Pk_interval : MethodName := ⟨"BulletinOffice$Packet", "interval", "()I"⟩
abbrev b_Pk_interval : ByteArray := prog_4_method_3_code
abbrev y_Of_wordAt : MethodName := ⟨"BulletinOffice", "wordAt", "([II)I"⟩
abbrev b_Of_wordAt : ByteArray := prog_1_method_24_code
abbrev y_Of_numberInChain : MethodName := ⟨"BulletinOffice", "numberInChain", "(I)I"⟩
abbrev b_Of_numberInChain : ByteArray := prog_1_method_22_code
abbrev y_Kc_sealPacket : MethodName := ⟨"BulletinOffice$KeyChain", "sealPacket", "(ILBulletinOffice$Packet;LBulletinOffice$Sealer;)V"⟩
abbrev b_Kc_sealPacket : ByteArray := prog_3_method_13_code
abbrev y_Pk_codeAt : MethodName := ⟨"BulletinOffice$Packet", "codeAt", "()I"⟩
abbrev b_Pk_codeAt : ByteArray := prog_4_method_6_code
abbrev y_Pk_size : MethodName := ⟨"BulletinOffice$Packet", "size", "()I"⟩
abbrev b_Pk_size : ByteArray := prog_4_method_5_code
abbrev y_Pk_writeCode : MethodName := ⟨"BulletinOffice$Packet", "writeCode", "([I)V"⟩
abbrev b_Pk_writeCode : ByteArray := prog_4_method_9_code
abbrev y_Pk_shownAt : MethodName := ⟨"BulletinOffice$Packet", "shownAt", "()I"⟩
abbrev b_Pk_shownAt : ByteArray := prog_4_method_7_code
abbrev y_Kc_writeKey : MethodName := ⟨"BulletinOffice$KeyChain", "writeKey", "(I[II)V"⟩
abbrev b_Kc_writeKey : ByteArray := prog_3_method_7_code
abbrev y_Kc_byteAt : MethodName := ⟨"BulletinOffice$KeyChain", "byteAt", "(II)I"⟩
abbrev b_Kc_byteAt : ByteArray := prog_3_method_6_code
abbrev y_Al_add1 : MethodName := ⟨"java/util/ArrayList", "add", "(Ljava/lang/Object;)Z"⟩
abbrev b_Al_add1 : ByteArray := prog_23_method_25_code
abbrev y_Al_add2 : MethodName := ⟨"java/util/ArrayList", "add", "(Ljava/lang/Object;[Ljava/lang/Object;I)V"⟩
abbrev b_Al_add2 : ByteArray := prog_23_method_24_code
abbrev y_Al_grow1 : MethodName := ⟨"java/util/ArrayList", "grow", "()[Ljava/lang/Object;"⟩
abbrev b_Al_grow1 : ByteArray := prog_23_method_7_code
abbrev y_Al_grow2 : MethodName := ⟨"java/util/ArrayList", "grow", "(I)[Ljava/lang/Object;"⟩
abbrev b_Al_grow2 : ByteArray := prog_23_method_6_code
abbrev y_As_newLength : MethodName := ⟨"jdk/internal/util/ArraysSupport", "newLength", "(III)I"⟩
abbrev b_As_newLength : ByteArray := prog_30_method_27_code
abbrev y_Mt_max : MethodName := ⟨"java/lang/Math", "max", "(II)I"⟩
abbrev b_Mt_max : ByteArray := prog_16_method_65_code
abbrev y_As_hugeLength : MethodName := ⟨"jdk/internal/util/ArraysSupport", "hugeLength", "(II)I"⟩
abbrev b_As_hugeLength : ByteArray := prog_30_method_28_code
abbrev y_Ar_copyOf1 : MethodName := ⟨"java/util/Arrays", "copyOf", "([Ljava/lang/Object;I)[Ljava/lang/Object;"⟩
abbrev b_Ar_copyOf1 : ByteArray := prog_24_method_119_code
abbrev y_Ar_copyOf2 : MethodName := ⟨"java/util/Arrays", "copyOf", "([Ljava/lang/Object;ILjava/lang/Class;)[Ljava/lang/Object;"⟩
abbrev b_Ar_copyOf2 : ByteArray := prog_24_method_120_code
abbrev y_Mt_min : MethodName := ⟨"java/lang/Math", "min", "(II)I"⟩
abbrev b_Mt_min : ByteArray := prog_16_method_69_code
abbrev y_Lw_root : MethodName := ⟨"BulletinOfficeLaw", "root", "(LBulletinOffice;[J)I"⟩
abbrev b_Lw_root : ByteArray := method_8_code
abbrev y_Of_root : MethodName := ⟨"BulletinOffice", "root", "()I"⟩
abbrev b_Of_root : ByteArray := prog_1_method_7_code
abbrev y_Lw_packet : MethodName := ⟨"BulletinOfficeLaw", "packet", "(LBulletinOffice;II[J)I"⟩
abbrev b_Lw_packet : ByteArray := method_9_code
abbrev y_Of_packet : MethodName := ⟨"BulletinOffice", "packet", "(II)I"⟩
abbrev b_Of_packet : ByteArray := prog_1_method_8_code
abbrev y_Of_hasPacketByte : MethodName := ⟨"BulletinOffice", "hasPacketByte", "(II)Z"⟩
abbrev b_Of_hasPacketByte : ByteArray := prog_1_method_18_code
abbrev y_Al_get : MethodName := ⟨"java/util/ArrayList", "get", "(I)Ljava/lang/Object;"⟩
abbrev b_Al_get : ByteArray := prog_23_method_20_code
abbrev y_Ob_checkIndex : MethodName := ⟨"java/util/Objects", "checkIndex", "(II)I"⟩
abbrev b_Ob_checkIndex : ByteArray := prog_27_method_17_code
abbrev y_Pc_checkIndex : MethodName := ⟨"jdk/internal/util/Preconditions", "checkIndex", "(IILjava/util/function/BiFunction;)I"⟩
abbrev b_Pc_checkIndex : ByteArray := prog_31_method_11_code
abbrev y_Al_elementData : MethodName := ⟨"java/util/ArrayList", "elementData", "(I)Ljava/lang/Object;"⟩
abbrev b_Al_elementData : ByteArray := prog_23_method_18_code
abbrev y_Lw_key : MethodName := ⟨"BulletinOfficeLaw", "key", "(LBulletinOffice;II[J)I"⟩
abbrev b_Lw_key : ByteArray := method_10_code
abbrev y_Of_key : MethodName := ⟨"BulletinOffice", "key", "(II)I"⟩
abbrev b_Of_key : ByteArray := prog_1_method_9_code
abbrev y_Lw_join : MethodName := ⟨"BulletinOfficeLaw", "join", "(LBulletinOffice;II)I"⟩
abbrev b_Lw_join : ByteArray := method_11_code
abbrev y_Of_join : MethodName := ⟨"BulletinOffice", "join", "(II)V"⟩
abbrev b_Of_join : ByteArray := prog_1_method_10_code
abbrev y_Of_isReceiver : MethodName := ⟨"BulletinOffice", "isReceiver", "(I)Z"⟩
abbrev b_Of_isReceiver : ByteArray := prog_1_method_19_code
abbrev y_Rc_beginAnew : MethodName := ⟨"BulletinOffice$Receiver", "beginAnew", "()V"⟩
abbrev b_Rc_beginAnew : ByteArray := prog_5_method_2_code
abbrev y_Kc_forget : MethodName := ⟨"BulletinOffice$KeyChain", "forget", "()V"⟩
abbrev b_Kc_forget : ByteArray := prog_3_method_3_code
abbrev y_Al_clear : MethodName := ⟨"java/util/ArrayList", "clear", "()V"⟩
abbrev b_Al_clear : ByteArray := prog_23_method_40_code
abbrev y_Kc_learnFrom : MethodName := ⟨"BulletinOffice$KeyChain", "learnFrom", "(LBulletinOffice$KeyChain;I)V"⟩
abbrev b_Kc_learnFrom : ByteArray := prog_3_method_8_code
abbrev y_Lw_drift : MethodName := ⟨"BulletinOfficeLaw", "drift", "(LBulletinOffice;II[J)I"⟩
abbrev b_Lw_drift : ByteArray := method_12_code
abbrev y_Of_drift : MethodName := ⟨"BulletinOffice", "drift", "(II)I"⟩
abbrev b_Of_drift : ByteArray := prog_1_method_11_code
abbrev y_Lw_arrive : MethodName := ⟨"BulletinOfficeLaw", "arrive", "(LBulletinOffice;IIII[J)I"⟩
abbrev b_Lw_arrive : ByteArray := method_13_code
abbrev y_Of_arrive : MethodName := ⟨"BulletinOffice", "arrive", "(IIII)I"⟩
abbrev b_Of_arrive : ByteArray := prog_1_method_12_code
abbrev y_Pk_init2 : MethodName := ⟨"BulletinOffice$Packet", "<init>", "(LBulletinOffice$Packet;)V"⟩
abbrev b_Pk_init2 : ByteArray := prog_4_method_2_code
abbrev y_Rc_take : MethodName := ⟨"BulletinOffice$Receiver", "take", "(LBulletinOffice$Packet;)I"⟩
abbrev b_Rc_take : ByteArray := prog_5_method_4_code
abbrev y_Pk_isBroken : MethodName := ⟨"BulletinOffice$Packet", "isBroken", "()Z"⟩
abbrev b_Pk_isBroken : ByteArray := prog_4_method_8_code
abbrev y_Pk_kind : MethodName := ⟨"BulletinOffice$Packet", "kind", "()I"⟩
abbrev b_Pk_kind : ByteArray := prog_4_method_4_code
abbrev y_Rc_takeShownKey : MethodName := ⟨"BulletinOffice$Receiver", "takeShownKey", "(LBulletinOffice$Packet;)Z"⟩
abbrev b_Rc_takeShownKey : ByteArray := prog_5_method_5_code
abbrev y_Kc_isKnown : MethodName := ⟨"BulletinOffice$KeyChain", "isKnown", "()Z"⟩
abbrev b_Kc_isKnown : ByteArray := prog_3_method_2_code
abbrev y_Kc_isKey : MethodName := ⟨"BulletinOffice$KeyChain", "isKey", "(I[II)Z"⟩
abbrev b_Kc_isKey : ByteArray := prog_3_method_10_code
abbrev y_Kc_readKey : MethodName := ⟨"BulletinOffice$KeyChain", "readKey", "(I[II)V"⟩
abbrev b_Kc_readKey : ByteArray := prog_3_method_11_code
abbrev y_Kc_raiseTo : MethodName := ⟨"BulletinOffice$KeyChain", "raiseTo", "(ILBulletinOffice$Sealer;)Z"⟩
abbrev b_Kc_raiseTo : ByteArray := prog_3_method_12_code
abbrev y_Rc_releaseAll : MethodName := ⟨"BulletinOffice$Receiver", "releaseAll", "()V"⟩
abbrev b_Rc_releaseAll : ByteArray := prog_5_method_8_code
abbrev y_Rc_nextToRelease : MethodName := ⟨"BulletinOffice$Receiver", "nextToRelease", "()I"⟩
abbrev b_Rc_nextToRelease : ByteArray := prog_5_method_9_code
abbrev y_Rc_hasKeyFor : MethodName := ⟨"BulletinOffice$Receiver", "hasKeyFor", "(I)Z"⟩
abbrev b_Rc_hasKeyFor : ByteArray := prog_5_method_6_code
abbrev y_Al_remove : MethodName := ⟨"java/util/ArrayList", "remove", "(I)Ljava/lang/Object;"⟩
abbrev b_Al_remove : ByteArray := prog_23_method_29_code
abbrev y_Al_fastRemove : MethodName := ⟨"java/util/ArrayList", "fastRemove", "([Ljava/lang/Object;I)V"⟩
abbrev b_Al_fastRemove : ByteArray := prog_23_method_39_code
abbrev y_Pk_hasCode : MethodName := ⟨"BulletinOffice$Packet", "hasCode", "([I)Z"⟩
abbrev b_Pk_hasCode : ByteArray := prog_4_method_10_code
abbrev y_Rc_letGo : MethodName := ⟨"BulletinOffice$Receiver", "letGo", "(LBulletinOffice$Packet;)V"⟩
abbrev b_Rc_letGo : ByteArray := prog_5_method_10_code
abbrev y_Kc_learnRoot : MethodName := ⟨"BulletinOffice$KeyChain", "learnRoot", "([II)V"⟩
abbrev b_Kc_learnRoot : ByteArray := prog_3_method_9_code
abbrev y_Ck_canHaveShown : MethodName := ⟨"BulletinOffice$Clock", "canHaveShown", "(II)Z"⟩
abbrev b_Ck_canHaveShown : ByteArray := prog_2_method_3_code
abbrev y_Rc_holdsTwinOf : MethodName := ⟨"BulletinOffice$Receiver", "holdsTwinOf", "(LBulletinOffice$Packet;)Z"⟩
abbrev b_Rc_holdsTwinOf : ByteArray := prog_5_method_7_code
abbrev y_Pk_isTwinOf : MethodName := ⟨"BulletinOffice$Packet", "isTwinOf", "(LBulletinOffice$Packet;)Z"⟩
abbrev b_Pk_isTwinOf : ByteArray := prog_4_method_11_code
abbrev y_Lw_receiver : MethodName := ⟨"BulletinOfficeLaw", "receiver", "(LBulletinOffice;II[J)I"⟩
abbrev b_Lw_receiver : ByteArray := method_14_code
abbrev y_Of_receiver : MethodName := ⟨"BulletinOffice", "receiver", "(II)I"⟩
abbrev b_Of_receiver : ByteArray := prog_1_method_13_code
abbrev y_Rc_latestInterval : MethodName := ⟨"BulletinOffice$Receiver", "latestInterval", "()I"⟩
abbrev b_Rc_latestInterval : ByteArray := prog_5_method_3_code
abbrev y_Lw_released : MethodName := ⟨"BulletinOfficeLaw", "released", "(LBulletinOffice;III[J)I"⟩
abbrev b_Lw_released : ByteArray := method_15_code
abbrev y_Of_released : MethodName := ⟨"BulletinOffice", "released", "(III)I"⟩
abbrev b_Of_released : ByteArray := prog_1_method_14_code
abbrev y_Of_isKept : MethodName := ⟨"BulletinOffice", "isKept", "(II)Z"⟩
abbrev b_Of_isKept : ByteArray := prog_1_method_20_code
abbrev y_Lw_releasedByte : MethodName := ⟨"BulletinOfficeLaw", "releasedByte", "(LBulletinOffice;III[J)I"⟩
abbrev b_Lw_releasedByte : ByteArray := method_16_code
abbrev y_Of_releasedByte : MethodName := ⟨"BulletinOffice", "releasedByte", "(III)I"⟩
abbrev b_Of_releasedByte : ByteArray := prog_1_method_15_code
abbrev y_Md_init : MethodName := ⟨"BulletinOfficeModel", "<init>", "(III)V"⟩
abbrev b_Md_init : ByteArray := prog_8_method_1_code
abbrev y_Md_modulo : MethodName := ⟨"BulletinOfficeModel", "modulo", "(II)I"⟩
abbrev b_Md_modulo : ByteArray := prog_8_method_4_code
abbrev y_Md_thrown : MethodName := ⟨"BulletinOfficeModel", "thrown", "()I"⟩
abbrev b_Md_thrown : ByteArray := prog_8_method_2_code
abbrev y_Md_chain : MethodName := ⟨"BulletinOfficeModel", "chain", "(IIIII)I"⟩
abbrev b_Md_chain : ByteArray := prog_8_method_16_code
abbrev y_Md_fail : MethodName := ⟨"BulletinOfficeModel", "fail", "(I)I"⟩
abbrev b_Md_fail : ByteArray := prog_8_method_3_code
abbrev y_Md_byteOf : MethodName := ⟨"BulletinOfficeModel", "byteOf", "(II)I"⟩
abbrev b_Md_byteOf : ByteArray := prog_8_method_9_code
abbrev y_Md_down : MethodName := ⟨"BulletinOfficeModel", "down", "()V"⟩
abbrev b_Md_down : ByteArray := prog_8_method_11_code
abbrev y_Md_makeSeal : MethodName := ⟨"BulletinOfficeModel", "makeSeal", "()V"⟩
abbrev b_Md_makeSeal : ByteArray := prog_8_method_10_code
abbrev y_Md_digestRow : MethodName := ⟨"BulletinOfficeModel", "digestRow", "()V"⟩
abbrev b_Md_digestRow : ByteArray := prog_8_method_8_code
abbrev y_Md_block : MethodName := ⟨"BulletinOfficeModel", "block", "(I)V"⟩
abbrev b_Md_block : ByteArray := prog_8_method_7_code
abbrev y_Md_turned : MethodName := ⟨"BulletinOfficeModel", "turned", "(II)I"⟩
abbrev b_Md_turned : ByteArray := prog_8_method_6_code
abbrev y_Md_tick : MethodName := ⟨"BulletinOfficeModel", "tick", "(I)I"⟩
abbrev b_Md_tick : ByteArray := prog_8_method_17_code
abbrev y_Md_within : MethodName := ⟨"BulletinOfficeModel", "within", "(III)Z"⟩
abbrev b_Md_within : ByteArray := prog_8_method_5_code
abbrev y_Md_load : MethodName := ⟨"BulletinOfficeModel", "load", "(II)I"⟩
abbrev b_Md_load : ByteArray := prog_8_method_18_code
abbrev y_Md_digest : MethodName := ⟨"BulletinOfficeModel", "digest", "(II)I"⟩
abbrev b_Md_digest : ByteArray := prog_8_method_19_code
abbrev y_Md_send : MethodName := ⟨"BulletinOfficeModel", "send", "(I)I"⟩
abbrev b_Md_send : ByteArray := prog_8_method_21_code
abbrev y_Md_interval : MethodName := ⟨"BulletinOfficeModel", "interval", "()I"⟩
abbrev b_Md_interval : ByteArray := prog_8_method_13_code
abbrev y_Md_chainOf : MethodName := ⟨"BulletinOfficeModel", "chainOf", "(I)I"⟩
abbrev b_Md_chainOf : ByteArray := prog_8_method_14_code
abbrev y_Md_pack : MethodName := ⟨"BulletinOfficeModel", "pack", "(II)I"⟩
abbrev b_Md_pack : ByteArray := prog_8_method_20_code
abbrev y_Md_keyAt : MethodName := ⟨"BulletinOfficeModel", "keyAt", "(III)I"⟩
abbrev b_Md_keyAt : ByteArray := prog_8_method_15_code
abbrev y_Md_codeOfCopy : MethodName := ⟨"BulletinOfficeModel", "codeOfCopy", "(I)V"⟩
abbrev b_Md_codeOfCopy : ByteArray := prog_8_method_12_code
abbrev y_Md_root : MethodName := ⟨"BulletinOfficeModel", "root", "()I"⟩
abbrev b_Md_root : ByteArray := prog_8_method_22_code
abbrev y_Md_packet : MethodName := ⟨"BulletinOfficeModel", "packet", "(II)I"⟩
abbrev b_Md_packet : ByteArray := prog_8_method_23_code
abbrev y_Md_key : MethodName := ⟨"BulletinOfficeModel", "key", "(II)I"⟩
abbrev b_Md_key : ByteArray := prog_8_method_25_code
abbrev y_Md_chainFor : MethodName := ⟨"BulletinOfficeModel", "chainFor", "(IZ)I"⟩
abbrev b_Md_chainFor : ByteArray := prog_8_method_24_code
abbrev y_Md_join : MethodName := ⟨"BulletinOfficeModel", "join", "(II)V"⟩
abbrev b_Md_join : ByteArray := prog_8_method_26_code
abbrev y_Md_drift : MethodName := ⟨"BulletinOfficeModel", "drift", "(II)I"⟩
abbrev b_Md_drift : ByteArray := prog_8_method_27_code
abbrev y_Md_arrive : MethodName := ⟨"BulletinOfficeModel", "arrive", "(IIII)I"⟩
abbrev b_Md_arrive : ByteArray := prog_8_method_40_code
abbrev y_Md_judge : MethodName := ⟨"BulletinOfficeModel", "judge", "(II)I"⟩
abbrev b_Md_judge : ByteArray := prog_8_method_39_code
abbrev y_Md_isBroken : MethodName := ⟨"BulletinOfficeModel", "isBroken", "(I)Z"⟩
abbrev b_Md_isBroken : ByteArray := prog_8_method_29_code
abbrev y_Md_intervalOfCopy : MethodName := ⟨"BulletinOfficeModel", "intervalOfCopy", "()I"⟩
abbrev b_Md_intervalOfCopy : ByteArray := prog_8_method_28_code
abbrev y_Md_lookAtKey : MethodName := ⟨"BulletinOfficeModel", "lookAtKey", "(I)I"⟩
abbrev b_Md_lookAtKey : ByteArray := prog_8_method_31_code
abbrev y_Md_loadLatest : MethodName := ⟨"BulletinOfficeModel", "loadLatest", "(I)V"⟩
abbrev b_Md_loadLatest : ByteArray := prog_8_method_30_code
abbrev y_Md_release : MethodName := ⟨"BulletinOfficeModel", "release", "(I)V"⟩
abbrev b_Md_release : ByteArray := prog_8_method_35_code
abbrev y_Md_isDue : MethodName := ⟨"BulletinOfficeModel", "isDue", "(II)Z"⟩
abbrev b_Md_isDue : ByteArray := prog_8_method_34_code
abbrev y_Md_heldInterval : MethodName := ⟨"BulletinOfficeModel", "heldInterval", "(II)I"⟩
abbrev b_Md_heldInterval : ByteArray := prog_8_method_33_code
abbrev y_Md_heldAt : MethodName := ⟨"BulletinOfficeModel", "heldAt", "(II)I"⟩
abbrev b_Md_heldAt : ByteArray := prog_8_method_32_code
abbrev y_Md_goOut : MethodName := ⟨"BulletinOfficeModel", "goOut", "(II)V"⟩
abbrev b_Md_goOut : ByteArray := prog_8_method_36_code
abbrev y_Md_keep : MethodName := ⟨"BulletinOfficeModel", "keep", "(III)V"⟩
abbrev b_Md_keep : ByteArray := prog_8_method_37_code
abbrev y_Md_isTwice : MethodName := ⟨"BulletinOfficeModel", "isTwice", "(I)Z"⟩
abbrev b_Md_isTwice : ByteArray := prog_8_method_38_code
abbrev y_Md_receiver : MethodName := ⟨"BulletinOfficeModel", "receiver", "(II)I"⟩
abbrev b_Md_receiver : ByteArray := prog_8_method_41_code
abbrev y_Md_released : MethodName := ⟨"BulletinOfficeModel", "released", "(III)I"⟩
abbrev b_Md_released : ByteArray := prog_8_method_43_code
abbrev y_Md_isKept : MethodName := ⟨"BulletinOfficeModel", "isKept", "(II)Z"⟩
abbrev b_Md_isKept : ByteArray := prog_8_method_42_code
abbrev y_Md_releasedByte : MethodName := ⟨"BulletinOfficeModel", "releasedByte", "(III)I"⟩
abbrev b_Md_releasedByte : ByteArray := prog_8_method_44_code
abbrev y_Md_count : MethodName := ⟨"BulletinOfficeModel", "count", "(I)I"⟩
abbrev b_Md_count : ByteArray := prog_8_method_45_code
def hv_tys : List FieldType := [.int, .boolean, .long, .object "BulletinOffice$KeyChain", .object "BulletinOffice$Receiver", .object "java/lang/Object"]
def hv_stat : List (String × String × String) := [("BulletinOffice$Sealer", "START", "[I"), ("BulletinOffice$Sealer", "CONSTANTS", "[I"), ("BulletinOffice$KeyChain", "CHAIN_TEXT", "[I"), ("BulletinOffice$KeyChain", "MAC_TEXT", "[I"), ("java/util/ArrayList", "DEFAULTCAPACITY_EMPTY_ELEMENTDATA", "[Ljava/lang/Object;")]
def hv_nwF : List (String × Nat × String × String × String × String) := []
def hv_nwM : List (String × Nat × MethodName × String) := [("BulletinOffice", 26, y_Sl_init, "BulletinOffice"), ("BulletinOffice", 41, y_Kc_init, "BulletinOffice"), ("BulletinOffice$Receiver", 39, y_Kc_init, "BulletinOffice"), ("BulletinOffice$Packet", 20, y_Of_wordAt, "BulletinOffice"), ("BulletinOffice$Packet", 37, y_Of_byteOf, "BulletinOffice"), ("BulletinOffice$KeyChain", 40, y_Of_byteOf, "BulletinOffice"), ("BulletinOffice$Receiver", 105, y_Of_chainOf, "BulletinOffice"), ("BulletinOffice$Receiver", 109, y_Of_numberInChain, "BulletinOffice"), ("BulletinOffice$KeyChain", 52, y_Of_wordAt, "BulletinOffice")]
def hv_cast : List (String × String) := [("java/lang/IllegalStateException", "java/lang/IllegalStateException"), ("java/lang/IllegalArgumentException", "java/lang/IllegalArgumentException"), ("java/lang/IndexOutOfBoundsException", "java/lang/IndexOutOfBoundsException"), ("java/lang/UnsupportedOperationException", "java/lang/UnsupportedOperationException"), ("[I", "java/lang/Cloneable"), ("BulletinOffice$Packet", "BulletinOffice$Packet"), ("BulletinOffice", "java/lang/Object"), ("BulletinOffice$Clock", "java/lang/Object"), ("BulletinOffice$Sealer", "java/lang/Object"), ("BulletinOffice$KeyChain", "java/lang/Object"), ("BulletinOffice$Receiver", "java/lang/Object"), ("BulletinOfficeModel", "java/lang/Object"), ("BulletinOffice$Packet", "java/lang/Object")]
def hv_ncast : List (String × String) := [("java/lang/IllegalArgumentException", "java/lang/IllegalStateException"), ("java/lang/IndexOutOfBoundsException", "java/lang/IllegalStateException"), ("java/lang/UnsupportedOperationException", "java/lang/IllegalStateException"), ("java/lang/IllegalStateException", "java/lang/IllegalArgumentException"), ("java/lang/IndexOutOfBoundsException", "java/lang/IllegalArgumentException"), ("java/lang/UnsupportedOperationException", "java/lang/IllegalArgumentException"), ("java/lang/IllegalStateException", "java/lang/IndexOutOfBoundsException"), ("java/lang/IllegalArgumentException", "java/lang/IndexOutOfBoundsException"), ("java/lang/UnsupportedOperationException", "java/lang/IndexOutOfBoundsException"), ("java/lang/IllegalStateException", "java/lang/UnsupportedOperationException"), ("java/lang/IllegalArgumentException", "java/lang/UnsupportedOperationException"), ("java/lang/IndexOutOfBoundsException", "java/lang/UnsupportedOperationException")]
def hv_decl : List MethodName := [⟨"java/lang/RuntimeException", "<init>", "()V"⟩, ⟨"java/lang/RuntimeException", "<init>", "(Ljava/lang/String;)V"⟩, ⟨"java/lang/Exception", "<init>", "()V"⟩, ⟨"java/lang/Exception", "<init>", "(Ljava/lang/String;)V"⟩, ⟨"java/lang/Throwable", "<init>", "()V"⟩, ⟨"java/lang/Throwable", "<init>", "(Ljava/lang/String;)V"⟩, ⟨"java/lang/Object", "getClass", "()Ljava/lang/Class;"⟩]
def hv_ws : List Cond := lw_tbl.filter goodWord
theorem hv_good : ∀ w ∈ hv_ws, (w.onTables && w.keeps) = true ∨ ∃ ty, w = .arrayClass ty := fun w h => good_of_word (List.mem_filter.mp h).2
theorem wm {w : Cond} (h : w ∈ tables_1) (h2 : goodWord w = true) : w ∈ hv_ws := List.mem_filter.mpr ⟨List.mem_append_right _ h, h2⟩
theorem wp {q : MethodName × Nat} (h : q ∈ lw_privs) (h2 : goodWord (Cond.selects q.1.cls q.1 q.1) = true) : Cond.selects q.1.cls q.1 q.1 ∈ hv_ws := List.mem_filter.mpr ⟨List.mem_append_left _ (List.mem_map.mpr ⟨q, h, rfl⟩), h2⟩
theorem wc_1 {w : Cond} (h : w ∈ tables_1_1) : w ∈ tables_1 := (List.mem_append_left _ h)
theorem wc_2 {w : Cond} (h : w ∈ tables_1_2) : w ∈ tables_1 := (List.mem_append_right _ (List.mem_append_left _ h))
theorem wc_3 {w : Cond} (h : w ∈ tables_1_3) : w ∈ tables_1 := (List.mem_append_right _ (List.mem_append_right _ (List.mem_append_left _ h)))
theorem wc_4 {w : Cond} (h : w ∈ tables_1_4) : w ∈ tables_1 := (List.mem_append_right _ (List.mem_append_right _ (List.mem_append_right _ (List.mem_append_left _ h))))
theorem wc_5 {w : Cond} (h : w ∈ tables_1_5) : w ∈ tables_1 := (List.mem_append_right _ (List.mem_append_right _ (List.mem_append_right _ (List.mem_append_right _ h))))
end
section
/-! ===== END ===== -/

/-! ===== BEGIN exceptions that leave a method, and their catching by the caller (launches without stack traces) ===== -/
section VXA
/-! The laws vx_back, vx_callV, vx_callS, vx_callSW, vx_throw0, vx_throwS follow proofs of the library, with one case more: JvmDerived/Free/Laws.lean (Back.of_free), Shelf42/LK1.lean (callV, callS), Shelf/KitTraced.lean (throwNew0V, throwNewS). -/
/-- where a method has thrown q: the class by its name, the cell, what was written, the world -/
def vx_T (XC : String → State → State → Prop) (st : State) (q : Addr) (t : State) (mc ms : Nat) (free : Addr → Prop) : Prop :=
  ∃ (E : String) (ce : Cell) (L : List Loc), XC E st t ∧ t.heap[q]? = some ce ∧ ce.vm = .none ∧ st.vm.findClass E = some ce.cls ∧ st.WarmedH t.vm ∧ st.sameButNew ({ t with vm := st.vm } : State) L mc ms ∧ ∀ z ∈ L, free z.base
def vx_Q (Qc : Array Value → State → Outcome → State → Prop) (XC : String → State → State → Prop) (mc ms : Nat) (free : Addr → Prop) : Array Value → State → Outcome → State → Prop := fun a st o t =>
  (Qc a st o t ∧ ∃ L, FrameEnd st o t L mc ms ∧ ∀ q ∈ L, free q.base) ∨ ∃ q, o = .threw q ∧ vx_T XC st q t mc ms free
/-- a callee that returns or throws -/
def vx_Met (l : Launch) (y : MethodName) (ws : List Cond) (rm : Room) (Pc : Array Value → State → Prop) (Qc : Array Value → State → Outcome → State → Prop) (XC : String → State → State → Prop) (mc ms : Nat) (free : Addr → Prop) : Prop :=
  MetFree l y (headSpec ws rm) Pc (fun _ _ _ _ _ => True) (vx_Q Qc XC mc ms free)
def vx_Post (XC : String → State → State → Prop) (mc ms : Nat) (free : Addr → Prop) : Pt → Array Value → Addr → Pt → Prop := fun A a q B =>
  ∃ (g : JFrame) (mk : MethodId) (t : State) (L : List Loc) (E : String) (ce : Cell), B.U.heap = t.heap ∧ B.U.vm = t.vm ∧ XC E (A.U.calling g mk a) t ∧ t.heap[q]? = some ce ∧ ce.vm = .none ∧ A.U.vm.findClass E = some ce.cls ∧ B.locs = A.locs ++ L ∧ (∀ z ∈ L, free z.base) ∧ B.cells = A.cells + mc ∧ B.slots = A.slots + ms
def vx_Back (l : Launch) (R : Room) (p : Program) (e : Env) (below : List Frame) (s : State) (sargs : Array Value) (y : MethodName) (len W9 : Nat)
    (Pre : Pt → Array Value → Prop) (Post : Pt → Array Value → Option Value → Pt → Prop) (PostX : Pt → Array Value → Addr → Pt → Prop) : Prop :=
  ∀ (m : MethodId) (meth : Method) (c : Code) (A : Pt) (g : JFrame) (ig : Instr) (mk : MethodId) (a : Array Value),
    Stand p l e R s m sargs below meth c A.U A.locs A.cells A.slots → g.method = m → g.locals.size = c.maxLocals → decode c.code g.pc = .ok (ig, len) →
    2 * g.monitorRoom + (g.stack.map fun v => v.category).sum ≤ W9 → A.U.methodNamed? y = some mk → Pre A a →
    (∃ (v : Option Value) (B : Pt), Stand p l e R s m sargs below meth c B.U B.locs B.cells B.slots ∧ Post A a v B ∧
      Steps p.tables e below (doInvoke e (A.U.setTop g) [] mk a).1 (B.U.setTop { g with pc := g.pc + len, stack := v.toList ++ g.stack })) ∨
    (∃ (q : Addr) (B : Pt), Stand p l e R s m sargs below meth c B.U B.locs B.cells B.slots ∧ PostX A a q B ∧
      Steps p.tables e below (doInvoke e (A.U.setTop g) [] mk a).1 ((B.U.setTop g).pushFrame (.throwing q)))
section Payer
variable {l : Launch} {R : Room} {p : Program} {e : Env} {below : List Frame} {s : State} {sargs : Array Value} {y : MethodName} {len W9 : Nat}
theorem vx_back {ws : List Cond} {rm : Room} {Pc : Array Value → State → Prop} {Qc : Array Value → State → Outcome → State → Prop} {XC : String → State → State → Prop} {mc ms : Nat} {free : Addr → Prop} {bytes : ByteArray} {maxL : Nat} {ret : Option FieldType}
    (hM : vx_Met l y ws rm Pc Qc XC mc ms free) (hblind : FrameBlind Pc) (hrc : rm.cells = mc) (hrs : rm.slots = ms)
    (hframes : rm.frames + 1 ≤ R.frames) (hlocals : W9 + (maxL + 11) + rm.locals ≤ R.locals)
    (hws : ∀ w ∈ ws, ∀ a' U, s.WarmedH U.vm → w.before a' U = true) (hcode : Cond.code y bytes maxL ret ∈ ws) (hinit : ∀ a' U, s.WarmedH U.vm → (Cond.initialized y.cls).before a' U = true) :
    vx_Back l R p e below s sargs y len W9 (PreOf R mc ms Pc) (PostOf Qc mc ms free) (vx_Post XC mc ms free) := by
  intro m meth c A g ig mk a X hg hsize hdg hW hn hp
  have h1 : (headSpec ws rm).pre.before a A.U = true := atoms_intro fun w hw => hws w hw _ _ X.warmed
  have h2 : (Cond.code y bytes maxL ret).before a A.U = true := hws _ hcode _ _ X.warmed
  have h3 : (Cond.initialized y.cls).before a A.U = true := hinit _ _ X.warmed
  have h4 : A.cells + (headSpec ws rm).room.cells ≤ R.cells := by rw [show (headSpec ws rm).room.cells = mc from hrc]; exact hp.1
  have h5 : A.slots + (headSpec ws rm).room.slots ≤ R.slots := by rw [show (headSpec ws rm).room.slots = ms from hrs]; exact hp.2.1
  have hPc : Pc a (A.U.calling g mk a) := hblind _ _ _ _ hp.2.2
  obtain ⟨U, Ls, c0, s0⟩ := A
  dsimp only [Pt.U, Pt.locs, Pt.cells, Pt.slots] at h1 h2 h3 h4 h5 X hn hPc ⊢
  obtain ⟨methY, cY, hmY, hcY, -, hlY, -, -, -, -⟩ := Cond.code_spec hn h2
  obtain ⟨kY, hkY, -⟩ := className_of_methodNamed hn
  have hinitY : kY.init = .initialized := Cond.initialized_spec (findClass_of_methodNamed hn) hkY h3
  have h : At U g.method c below := by rw [hg]; exact X.here
  have hlocals9 : W9 + (maxL + 11) + (headSpec ws rm).room.locals ≤ R.locals := hlocals
  have happ : (headSpec ws rm).appliesLoose y e.platform (U.calling g mk a) = true :=
    Spec.appliesLoose_calling (g := g) h hdg hn hkY hinitY
      (X.room_calling (g := g) (R' := (headSpec ws rm).room) hsize hmY hcY hframes (by rw [hlY]; omega) h4 h5) h1
  obtain ⟨mid, hmid⟩ := h.above
  have hfr : (U.setTop g).frames = (.java g :: mid) ++ below := by rw [State.frames_setTop' g h.top, hmid]; rfl
  obtain ⟨o, s₂, hsteps, -, hend, hq⟩ := Steps.callFree hM p X.admits X.cas X.clock (acts := []) hfr happ hPc trivial
  have hq' : vx_Q Qc XC mc ms free a (U.calling g mk a) o s₂ := hq
  rw [State.frames_setTop' g h.top] at hend
  obtain ⟨g₀, hg0⟩ := Option.isSome_iff_exists.mp h.top
  obtain ⟨r, hr⟩ := State.topJava?_eq_some.mp hg0
  have hr' : (({ U with heap := s₂.heap, slotsUsed := s₂.slotsUsed } : State).setVm s₂.vm).frames = .java g₀ :: r := hr
  rcases hq' with ⟨hqc, L, hfe, hL⟩ | ⟨q, rfl, E, ce, L, hx, hce, hcv, hcl, hW₂, hsm, hL⟩
  · obtain ⟨⟨v, rfl⟩, hW₂, e2, q2, q3, q4, q5, q6⟩ := id hfe
    have e3 : s₂ = ({ (U.calling g mk a).setFrames s₂.frames with heap := s₂.heap, slotsUsed := s₂.slotsUsed } : State).setVm s₂.vm := by
      have : s₂ = ({ s₂ with vm := (U.calling g mk a).vm } : State).setVm s₂.vm := rfl
      rw [e2] at this
      exact this
    obtain ⟨c₂, i₂, len₂, hc₂, hd₂, hf₂⟩ := hend
    have hW' : U.WarmedH s₂.vm := hW₂
    have hcc : c₂ = c := by
      have h1 : s₂.code? g.method = U.code? g.method := by
        rw [State.code?_eq, State.code?_eq, hW'.alike.method?]
      exact Option.some.inj (hc₂.symm.trans (h1.trans h.code))
    subst hcc
    have hlen : len₂ = len := by rw [hdg] at hd₂; cases hd₂; rfl
    subst hlen
    have hs₂ : s₂ = (({ U with heap := s₂.heap, slotsUsed := s₂.slotsUsed } : State).setVm s₂.vm).setTop { g with pc := g.pc + len₂, stack := v.toList ++ g.stack } := by
      refine e3.trans ?_
      rw [hf₂, State.calling_eq h.top, State.setFrames_setFrames, State.setTop_of_frames _ hr', hr]
      rfl
    have hsame : U.sameButNew ({ U with heap := s₂.heap, slotsUsed := s₂.slotsUsed } : State) L mc ms := by
      refine ⟨?_, q2, q3, q4, q5, q6⟩
      obtain ⟨t, ht, -⟩ := State.frames_cons hr
      show ({ U with heap := s₂.heap, slotsUsed := s₂.slotsUsed } : State) = { U.setFrames U.frames with heap := s₂.heap, slotsUsed := s₂.slotsUsed }
      rw [State.setFrames_self ht]
    subst hg
    refine Or.inl ⟨v, ⟨(({ U with heap := s₂.heap, slotsUsed := s₂.slotsUsed } : State).setVm s₂.vm), Ls ++ L, c0 + mc, s0 + ms⟩,
      ⟨X.admits, X.cas, X.clock, X.frames, X.room, X.hears, X.method, X.code, (X.here.setHeapUsed s₂.heap s₂.slotsUsed).setVm hW'.alike, X.tail, State.WarmedH.trans X.warmed hW', X.limits, X.bytes, X.same.trans (hsame.setVm s.vm)⟩,
      ⟨g, mk, s₂, L, rfl, rfl, hqc, rfl, hL, rfl, rfl⟩, ?_⟩
    show Steps p.tables e below _ ((({ U with heap := s₂.heap, slotsUsed := s₂.slotsUsed } : State).setVm s₂.vm).setTop { g with pc := g.pc + len₂, stack := v.toList ++ g.stack })
    rw [← hs₂]
    exact hsteps
  · obtain ⟨e2, q2, q3, q4, q5, q6⟩ := id hsm
    have e3 : s₂ = ({ (U.calling g mk a).setFrames s₂.frames with heap := s₂.heap, slotsUsed := s₂.slotsUsed } : State).setVm s₂.vm := by
      have : s₂ = ({ s₂ with vm := (U.calling g mk a).vm } : State).setVm s₂.vm := rfl
      rw [e2] at this
      exact this
    have hf₂ : s₂.frames = .throwing q :: .java g :: U.frames.tail := hend
    have hW' : U.WarmedH s₂.vm := hW₂
    have hs₂ : s₂ = ((({ U with heap := s₂.heap, slotsUsed := s₂.slotsUsed } : State).setVm s₂.vm).setTop g).pushFrame (.throwing q) := by
      refine e3.trans ?_
      rw [hf₂, State.calling_eq h.top, State.setFrames_setFrames, State.pushFrame, State.frames_setTop _ hr', State.setTop_of_frames _ hr', State.setFrames_setFrames, hr]
      rfl
    have hsame : U.sameButNew ({ U with heap := s₂.heap, slotsUsed := s₂.slotsUsed } : State) L mc ms := by
      refine ⟨?_, q2, q3, q4, q5, q6⟩
      obtain ⟨t, ht, -⟩ := State.frames_cons hr
      show ({ U with heap := s₂.heap, slotsUsed := s₂.slotsUsed } : State) = { U.setFrames U.frames with heap := s₂.heap, slotsUsed := s₂.slotsUsed }
      rw [State.setFrames_self ht]
    subst hg
    refine Or.inr ⟨q, ⟨(({ U with heap := s₂.heap, slotsUsed := s₂.slotsUsed } : State).setVm s₂.vm), Ls ++ L, c0 + mc, s0 + ms⟩,
      ⟨X.admits, X.cas, X.clock, X.frames, X.room, X.hears, X.method, X.code, (X.here.setHeapUsed s₂.heap s₂.slotsUsed).setVm hW'.alike, X.tail, State.WarmedH.trans X.warmed hW', X.limits, X.bytes, X.same.trans (hsame.setVm s.vm)⟩,
      ⟨g, mk, s₂, L, E, ce, rfl, rfl, hx, hce, hcv, hcl, rfl, hL, rfl, rfl⟩, ?_⟩
    show Steps p.tables e below _ (((({ U with heap := s₂.heap, slotsUsed := s₂.slotsUsed } : State).setVm s₂.vm).setTop g).pushFrame (.throwing q))
    rw [← hs₂]
    exact hsteps
end Payer
section Calls
variable {p : Program} {l : Launch} {e : Env} {R : Room} {s : State} {m : MethodId} {args : Array Value} {below : List Frame} {meth : Method} {c : Code} {T : State} {locs : List Loc} {cells slots : Nat}
theorem vx_callV (X : Stand p l e R s m args below meth c T locs cells slots) (hexec : p.tables.exec = Jvm.exec) {own C : String} {index : Nat} {y : MethodName} {bytes : ByteArray} {maxL : Nat} {ret : Option FieldType}
    (hown : s.vm.findClass own = some m.cls) (hlink : (Cond.methodLink own index y).before args s = true) (hinst : (Cond.instanceMethod y).before args s = true) (hsel : (Cond.selects C y y).before args s = true)
    (hcode : (Cond.code y bytes maxL ret).before args s = true) (hy : y.cls ≠ "java/lang/invoke/MethodHandle" ∧ y.cls ≠ "java/lang/invoke/VarHandle")
    {W9 : Nat} {Pre : Pt → Array Value → Prop} {Post : Pt → Array Value → Option Value → Pt → Prop} {PostX : Pt → Array Value → Addr → Pt → Prop} (hK : vx_Back l R p e below s args y 3 W9 Pre Post PostX)
    {b : Addr} {cellB : Cell} (hcell : T.heap[b]? = some cellB) (hobj : cellB.vm.isStatics = false) (hcls : s.vm.findClass C = some cellB.cls)
    {g : JFrame} (hg : g.method = m) (hsize : g.locals.size = c.maxLocals) {argsL rest : List Value} (hlen : ∀ sig, parseMethodDescriptor y.desc = some sig → argsL.length = sig.parameters.length)
    (hstack : g.stack = argsL.reverse ++ .ref b :: rest) (hW : 2 * g.monitorRoom + (rest.map fun v => v.category).sum ≤ W9) (hdg : decode c.code g.pc = .ok (.invokevirtual index, 3))
    (hpre : ∀ vm₁, s.WarmedH vm₁ → Pre ⟨T.setVm vm₁, locs, cells, slots⟩ (Value.ref b :: argsL).toArray) :
    (∃ (v : Option Value) (vm₁ : Vm) (B : Pt), s.WarmedH vm₁ ∧ Stand p l e R s m args below meth c B.U B.locs B.cells B.slots ∧ Post ⟨T.setVm vm₁, locs, cells, slots⟩ (Value.ref b :: argsL).toArray v B ∧
      ∀ target, Steps p.tables e below (B.U.setTop { g with pc := g.pc + 3, stack := v.toList ++ rest }) target → Steps p.tables e below (T.setTop g) target) ∨
    (∃ (q : Addr) (vm₁ : Vm) (B : Pt), s.WarmedH vm₁ ∧ Stand p l e R s m args below meth c B.U B.locs B.cells B.slots ∧ PostX ⟨T.setVm vm₁, locs, cells, slots⟩ (Value.ref b :: argsL).toArray q B ∧
      Steps p.tables e below (T.setTop g) ((B.U.setTop { g with stack := rest }).pushFrame (.throwing q))) := by
  obtain ⟨mk, methM, hnamed, hmethM, hstM, habM⟩ := Cond.instanceMethod_spec hinst
  obtain ⟨methM', cM, hmethM', -, -, -, -, -, -, hsigM⟩ := Cond.code_spec hnamed hcode
  cases hmethM.symm.trans hmethM'
  obtain ⟨c2, r2, m2, q1, q2, q3, q4, kP, hkP, hkPi⟩ := Cond.selects_spec hsel
  cases hcls.symm.trans q1
  cases (State.methodFound?_of_named hnamed hy).symm.trans q2
  cases hnamed.symm.trans q3
  have hselP : selectMethod e.platform s.vm cellB.cls mk = .method mk := by rw [Launch.admits_selectMethod X.admits]; exact q4
  obtain ⟨vm₁, X₁, hstep₁⟩ := X.invokevirtual hexec hown hlink hnamed hmethM hstM hkP hkPi hy (a := b) (cell := cellB) hcell
    (fun z h => by rw [h] at hobj; cases hobj) hselP hmethM habM hkP hkPi (g := g) hg (argsL := argsL) (rest := rest) (hlen _ hsigM) hstack hdg
  rcases hK m meth c ⟨T.setVm vm₁, locs, cells, slots⟩ { g with stack := rest } (.invokevirtual index) mk (Value.ref b :: argsL).toArray X₁ hg hsize hdg hW (X₁.named hnamed) (hpre vm₁ X₁.warmed) with ⟨v, B, X', hpost, hsteps⟩ | ⟨q, B, X', hpost, hsteps⟩
  · exact Or.inl ⟨v, vm₁, B, X₁.warmed, X', hpost, fun target h => hstep₁ _ fun acts => by rw [doInvoke_state]; exact hsteps.trans h⟩
  · exact Or.inr ⟨q, vm₁, B, X₁.warmed, X', hpost, hstep₁ _ fun acts => by rw [doInvoke_state]; exact hsteps⟩
theorem vx_callS (X : Stand p l e R s m args below meth c T locs cells slots) (hexec : p.tables.exec = Jvm.exec) {own : String} {index : Nat} {y : MethodName} {bytes : ByteArray} {maxL : Nat} {ret : Option FieldType}
    (hown : s.vm.findClass own = some m.cls) (hlink : (Cond.methodLink own index y).before args s = true) (hstat : (Cond.static y).before args s = true) (hinit : (Cond.initialized y.cls).before args s = true)
    (hcode : (Cond.code y bytes maxL ret).before args s = true) (hy : y.cls ≠ "java/lang/invoke/MethodHandle" ∧ y.cls ≠ "java/lang/invoke/VarHandle")
    {W9 : Nat} {Pre : Pt → Array Value → Prop} {Post : Pt → Array Value → Option Value → Pt → Prop} {PostX : Pt → Array Value → Addr → Pt → Prop} (hK : vx_Back l R p e below s args y 3 W9 Pre Post PostX)
    {g : JFrame} (hg : g.method = m) (hsize : g.locals.size = c.maxLocals) {argsL rest : List Value} (hlen : ∀ sig, parseMethodDescriptor y.desc = some sig → argsL.length = sig.parameters.length)
    (hstack : g.stack = argsL.reverse ++ rest) (hW : 2 * g.monitorRoom + (rest.map fun v => v.category).sum ≤ W9) (hdg : decode c.code g.pc = .ok (.invokestatic index, 3))
    (hpre : ∀ vm₁, s.WarmedH vm₁ → Pre ⟨T.setVm vm₁, locs, cells, slots⟩ argsL.toArray) :
    (∃ (v : Option Value) (vm₁ : Vm) (B : Pt), s.WarmedH vm₁ ∧ Stand p l e R s m args below meth c B.U B.locs B.cells B.slots ∧ Post ⟨T.setVm vm₁, locs, cells, slots⟩ argsL.toArray v B ∧
      ∀ target, Steps p.tables e below (B.U.setTop { g with pc := g.pc + 3, stack := v.toList ++ rest }) target → Steps p.tables e below (T.setTop g) target) ∨
    (∃ (q : Addr) (vm₁ : Vm) (B : Pt), s.WarmedH vm₁ ∧ Stand p l e R s m args below meth c B.U B.locs B.cells B.slots ∧ PostX ⟨T.setVm vm₁, locs, cells, slots⟩ argsL.toArray q B ∧
      Steps p.tables e below (T.setTop g) ((B.U.setTop { g with stack := rest }).pushFrame (.throwing q))) := by
  obtain ⟨mk, hnamed⟩ := Cond.code_named hcode
  obtain ⟨methM, cM, hmethM, -, -, -, -, -, -, hsigM⟩ := Cond.code_spec hnamed hcode
  have hstatic : methM.isStatic = true := Cond.static_spec hnamed hmethM hstat
  obtain ⟨kP, hkP, -⟩ := className_of_methodNamed hnamed
  have hinitP : kP.init = .initialized := Cond.initialized_spec (findClass_of_methodNamed hnamed) hkP hinit
  obtain ⟨vm₁, X₁, hstep₁⟩ := X.invokestatic hexec hown hlink hnamed hmethM hstatic hkP hinitP hy (g := g) hg (argsL := argsL) (rest := rest) (hlen _ hsigM) hstack hdg
  rcases hK m meth c ⟨T.setVm vm₁, locs, cells, slots⟩ { g with stack := rest } (.invokestatic index) mk argsL.toArray X₁ hg hsize hdg hW (X₁.named hnamed) (hpre vm₁ X₁.warmed) with ⟨v, B, X', hpost, hsteps⟩ | ⟨q, B, X', hpost, hsteps⟩
  · exact Or.inl ⟨v, vm₁, B, X₁.warmed, X', hpost, fun target h => hstep₁ _ fun acts => by rw [doInvoke_state]; exact hsteps.trans h⟩
  · exact Or.inr ⟨q, vm₁, B, X₁.warmed, X', hpost, hstep₁ _ fun acts => by rw [doInvoke_state]; exact hsteps⟩
end Calls
theorem vx_cls {s : State} {T : State} {vm₁ : Vm} {E : String} {k : ClassId} (hW : s.WarmedH vm₁) (h : (T.setVm vm₁).vm.findClass E = some k) : s.vm.findClass E = some k := by
  have h1 : vm₁.findClass E = some k := h
  rw [hW.alike.findClass] at h1
  exact h1
/-- the method's frame g, with q thrown over it -/
def vx_W (p : Program) (l : Launch) (e : Env) (R : Room) (s : State) (m : MethodId) (args : Array Value) (below : List Frame) (meth : Method) (c : Code) (H : Heap) (locs : List Loc) (cells slots : Nat) (Q : State → Prop) (g : JFrame) (q : Addr) : Prop :=
  ∀ T : State, T.heap = H → Stand p l e R s m args below meth c T locs cells slots → ∃ t, Steps p.tables e below ((T.setTop g).pushFrame (.throwing q)) t ∧ Q t
def vx_Run (p : Program) (l : Launch) (e : Env) (R : Room) (s : State) (m : MethodId) (args : Array Value) (below : List Frame) (meth : Method) (c : Code) (H : Heap) (locs : List Loc) (cells slots mc ms : Nat) (g : JFrame) (rest : List Value) (Qa : State → Outcome → State → Prop) (XC : String → State → State → Prop) (free : Addr → Prop) : Prop :=
  ∀ T : State, T.heap = H → Stand p l e R s m args below meth c T locs cells slots →
    (∃ (v : Option Value) (st₀ t T' : State) (L : List Loc), st₀.heap = H ∧ Stand p l e R s m args below meth c T' (locs ++ L) (cells + mc) (slots + ms) ∧ (∀ q ∈ L, free q.base) ∧ T'.heap = t.heap ∧ T'.vm = t.vm ∧ Qa st₀ (.returned v) t ∧
      Goes p e below T g T' { g with pc := g.pc + 3, stack := v.toList ++ rest }) ∨
    (∃ (q : Addr) (st₀ t T' : State) (L : List Loc) (E : String) (ce : Cell), st₀.heap = H ∧ Stand p l e R s m args below meth c T' (locs ++ L) (cells + mc) (slots + ms) ∧ (∀ z ∈ L, free z.base) ∧ T'.heap = t.heap ∧ T'.vm = t.vm ∧ XC E st₀ t ∧ t.heap[q]? = some ce ∧ ce.vm = .none ∧ s.vm.findClass E = some ce.cls ∧
      Steps p.tables e below (T.setTop g) ((T'.setTop { g with stack := rest }).pushFrame (.throwing q)))
def vx_X {S : Type} (px : S → Prop) (B : String → S → State → Prop) (A : Nat → Prop) : String → State → State → Prop := fun E st t => ∃ u : S, px u ∧ B E u t ∧ va_F A st t
section Runs
variable {p : Program} {l : Launch} {e : Env} {R : Room} {s : State} {m : MethodId} {args : Array Value} {below : List Frame} {meth : Method} {c : Code} {H : Heap} {locs : List Loc} {cells slots : Nat}
variable {y : MethodName} {bytes cc : ByteArray} {maxL nL mc ms n index : Nat} {ret : Option FieldType} {ws : List Cond} {rm : Room} {Pc : Array Value → State → Prop} {Qc : Array Value → State → Outcome → State → Prop} {XC : String → State → State → Prop} {free : Addr → Prop} {Ts : List Cond} {own C : String} {b : Addr} {As rest : List Value} {g : JFrame}
theorem vx_callBack (cb : CallB R s args own index y bytes maxL ret ws rm mc ms n) (hM : vx_Met l y ws rm Pc Qc XC mc ms free) (hbl : FrameBlind Pc) : vx_Back l R p e below s args y 3 8 (PreOf R mc ms Pc) (PostOf Qc mc ms free) (vx_Post XC mc ms free) := by
  obtain ⟨hrc, hrs, hfr, hlo, hws, hcw, -, hini, -⟩ := cb
  exact vx_back (bytes := bytes) (maxL := maxL) (ret := ret) hM hbl hrc hrs hfr hlo hws hcw (fun a' U hW => word_at hW (Or.inl (by first | rfl | simp [Cond.onTables, Cond.keeps, Cond.steady])) hini)
theorem vx_runV (S : CallFix p m c cc nL s args Ts own) (hM : vx_Met l y ws rm Pc Qc XC mc ms free) (cw : CallW R s args own C index y bytes maxL ret ws rm mc ms n) (hp : PreV s H C b Pc As)
    (hg : g.method = m) (hn : As.length = n) (hsize : g.locals.size = nL) (hstack : g.stack = As.reverse ++ .ref b :: rest) (hW : 2 * g.monitorRoom + (rest.map fun v => v.category).sum ≤ 8) (hdg : decode cc g.pc = .ok (.invokevirtual index, 3)) (hf : cells + mc ≤ R.cells ∧ slots + ms ≤ R.slots) :
    vx_Run p l e R s m args below meth c H locs cells slots mc ms g rest (Qc (Value.ref b :: As).toArray) XC free := by
  have hK : vx_Back l R p e below s args y 3 8 (PreOf R mc ms Pc) (PostOf Qc mc ms free) (vx_Post XC mc ms free) := vx_callBack cw.1 hM hp.1
  obtain ⟨⟨-, -, -, -, -, -, hcode, -, hy, hlen, hl⟩, hin, hse⟩ := cw
  obtain ⟨hx, hb, hml, ho, -⟩ := S
  obtain ⟨-, ⟨cellB, hcB, hoB, hclB⟩, hPc⟩ := hp
  intro T hT X
  rcases vx_callV X hx (C := C) (bytes := bytes) (maxL := maxL) (ret := ret) ho hl hin hse hcode hy hK (by rw [hT]; exact hcB) hoB hclB hg (hsize.trans hml.symm) (argsL := As) (rest := rest) (fun sig h => hn.trans (hlen sig h)) hstack hW (by rw [hb]; exact hdg)
    (fun vm₁ hW₁ => ⟨hf.1, hf.2, hPc (T.setVm vm₁) hT hW₁⟩) with ⟨v, vm₁, ⟨U', l2, c2, s2⟩, hW₁, X', ⟨g', mk, t, L, e1, e2, hq, h1, hL, h2, h3⟩, st⟩ | ⟨q, vm₁, ⟨U', l2, c2, s2⟩, hW₁, X', ⟨g', mk, t, L, E, ce, e1, e2, hq, hce, hcv, hcl, h1, hL, h2, h3⟩, st⟩
  · dsimp only [Pt.U, Pt.locs, Pt.cells, Pt.slots] at X' e1 e2 h1 h2 h3 st
    subst h1; subst h2; subst h3
    exact Or.inl ⟨v, (T.setVm vm₁).calling g' mk (Value.ref b :: As).toArray, t, U', L, hT, X', hL, e1, e2, hq, st⟩
  · dsimp only [Pt.U, Pt.locs, Pt.cells, Pt.slots] at X' e1 e2 h1 h2 h3 st hcl
    subst h1; subst h2; subst h3
    exact Or.inr ⟨q, (T.setVm vm₁).calling g' mk (Value.ref b :: As).toArray, t, U', L, E, ce, hT, X', hL, e1, e2, hq, hce, hcv, vx_cls hW₁ hcl, st⟩
theorem vx_runS (S : CallFix p m c cc nL s args Ts own) (hM : vx_Met l y ws rm Pc Qc XC mc ms free) (cw : CallB R s args own index y bytes maxL ret ws rm mc ms n ∧ (Cond.static y).before args s = true) (hp : PreS s H Pc As)
    (hg : g.method = m) (hn : As.length = n) (hsize : g.locals.size = nL) (hstack : g.stack = As.reverse ++ rest) (hW : 2 * g.monitorRoom + (rest.map fun v => v.category).sum ≤ 8) (hdg : decode cc g.pc = .ok (.invokestatic index, 3)) (hf : cells + mc ≤ R.cells ∧ slots + ms ≤ R.slots) :
    vx_Run p l e R s m args below meth c H locs cells slots mc ms g rest (Qc As.toArray) XC free := by
  have hK : vx_Back l R p e below s args y 3 8 (PreOf R mc ms Pc) (PostOf Qc mc ms free) (vx_Post XC mc ms free) := vx_callBack cw.1 hM hp.1
  obtain ⟨⟨-, -, -, -, -, -, hcode, hini, hy, hlen, hl⟩, hstt⟩ := cw
  obtain ⟨hx, hb, hml, ho, -⟩ := S
  intro T hT X
  rcases vx_callS X hx (bytes := bytes) (maxL := maxL) (ret := ret) ho hl hstt hini hcode hy hK hg (hsize.trans hml.symm) (argsL := As) (rest := rest) (fun sig h => hn.trans (hlen sig h)) hstack hW (by rw [hb]; exact hdg)
    (fun vm₁ hW₁ => ⟨hf.1, hf.2, hp.2 (T.setVm vm₁) hT hW₁⟩) with ⟨v, vm₁, ⟨U', l2, c2, s2⟩, hW₁, X', ⟨g', mk, t, L, e1, e2, hq, h1, hL, h2, h3⟩, st⟩ | ⟨q, vm₁, ⟨U', l2, c2, s2⟩, hW₁, X', ⟨g', mk, t, L, E, ce, e1, e2, hq, hce, hcv, hcl, h1, hL, h2, h3⟩, st⟩
  · dsimp only [Pt.U, Pt.locs, Pt.cells, Pt.slots] at X' e1 e2 h1 h2 h3 st
    subst h1; subst h2; subst h3
    exact Or.inl ⟨v, (T.setVm vm₁).calling g' mk As.toArray, t, U', L, hT, X', hL, e1, e2, hq, st⟩
  · dsimp only [Pt.U, Pt.locs, Pt.cells, Pt.slots] at X' e1 e2 h1 h2 h3 st hcl
    subst h1; subst h2; subst h3
    exact Or.inr ⟨q, (T.setVm vm₁).calling g' mk As.toArray, t, U', L, E, ce, hT, X', hL, e1, e2, hq, hce, hcv, vx_cls hW₁ hcl, st⟩
end Runs
section Rows
variable {p : Program} {l : Launch} {e : Env} {R : Room} {s : State} {m : MethodId} {args : Array Value} {below : List Frame} {meth : Method} {c : Code} {H : Heap} {locs : List Loc} {cells slots : Nat} {Q : State → Prop}
variable {mc ms : Nat} {free : Addr → Prop} {A0 A1 : Nat → Prop} {H0 : Heap} {a : Array Value} {pc : Nat} {ls : Array Slot} {st0 rest : List Value}
theorem vx_keep {st₀ t T' : State} {L : List Loc} (h0 : st₀.heap = H) (e1 : T'.heap = t.heap) (hS : va_S A0 H0 H locs) (hA : ∀ q, q < H.size → A1 q → A0 q) (hf : ∀ q, free q → A0 q) (hL : ∀ q ∈ L, free q.base) (hF : va_F A1 st₀ t) :
    H.size ≤ T'.heap.size ∧ (∀ q : Nat, q < H.size → ¬ A1 q → T'.heap[q]? = H[q]?) ∧ va_S A0 H0 T'.heap (locs ++ L) := by
  obtain ⟨hz, hk⟩ := hF
  rw [h0] at hz hk
  exact ⟨by rw [e1]; exact hz, fun q h1 h2 => by rw [e1]; exact hk q h1 h2,
    ⟨Nat.le_trans hS.1 (by rw [e1]; exact hz), fun q h1 h2 => by rw [e1, hk q (Nat.lt_of_lt_of_le h1 hS.1) (fun z => h2 (hA q (Nat.lt_of_lt_of_le h1 hS.1) z))]; exact hS.2.1 q h1 h2, fun q hq => by
      rcases List.mem_append.mp hq with h | h
      · exact hS.2.2 q h
      · exact hf _ (hL q h)⟩⟩
theorem vx_calli {S SX : Type} {post : Int32 → S → Prop} {px : SX → Prop} {B : S → State → Prop} {BX : String → SX → State → Prop} {AX : Nat → Prop} (hr : vx_Run p l e R s m args below meth c H locs cells slots mc ms (F0 m pc ls st0) rest (va_Qi post B A1 a) (vx_X px BX AX) free) (hS : va_S A0 H0 H locs) (hA : ∀ q, q < H.size → A1 q → A0 q) (hf : ∀ q, free q → A0 q) (hAX : ∀ q, q < H.size → AX q → A0 q)
    (kx : ∀ (E : String) (ce : Cell) (q9 : Addr) (u : SX) (t : State) (H1 : Heap) (locs1 : List Loc), t.heap = H1 → s.vm.Alike t.vm → px u → BX E u t → H.size ≤ H1.size → (∀ q : Nat, q < H.size → ¬ AX q → H1[q]? = H[q]?) → va_S A0 H0 H1 locs1 → H1[q9]? = some ce → ce.vm = .none → s.vm.findClass E = some ce.cls → vx_W p l e R s m args below meth c H1 locs1 (cells + mc) (slots + ms) Q (F0 m pc ls rest) q9)
    (kk : ∀ (r : Int32) (u : S) (t : State) (H1 : Heap) (locs1 : List Loc), t.heap = H1 → s.vm.Alike t.vm → post r u → B u t → H.size ≤ H1.size → (∀ q : Nat, q < H.size → ¬ A1 q → H1[q]? = H[q]?) → va_S A0 H0 H1 locs1 → W p l e R s m args below meth c H1 locs1 (cells + mc) (slots + ms) Q (F0 m (pc + 3) ls (.int r :: rest))) : W p l e R s m args below meth c H locs cells slots Q (F0 m pc ls st0) := by
  intro T hT X
  rcases hr T hT X with ⟨v, st₀, t, T', L, h0, X', hL, e1, e2, ⟨⟨r, u, hv, hp, hb⟩, hF⟩, st⟩ | ⟨q, st₀, t, T', L, E, ce, h0, X', hL, e1, e2, ⟨u, hp, hb, hF⟩, hce, hcv, hcl, st⟩
  · cases hv
    obtain ⟨k1, k2, k3⟩ := vx_keep h0 e1 hS hA hf hL hF
    obtain ⟨t2, a1, b1⟩ := kk r u t T'.heap (locs ++ L) e1.symm (by rw [← e2]; exact X'.warmed.alike) hp hb k1 k2 k3 T' rfl X'
    exact ⟨t2, st t2 a1, b1⟩
  · obtain ⟨k1, k2, k3⟩ := vx_keep h0 e1 hS hAX hf hL hF
    obtain ⟨t2, a1, b1⟩ := kx E ce q u t T'.heap (locs ++ L) e1.symm (by rw [← e2]; exact X'.warmed.alike) hp hb k1 k2 k3 (by rw [e1]; exact hce) hcv hcl T' rfl X'
    exact ⟨t2, st.trans a1, b1⟩
theorem vx_calll {S SX : Type} {post : Int64 → S → Prop} {px : SX → Prop} {B : S → State → Prop} {BX : String → SX → State → Prop} {AX : Nat → Prop} (hr : vx_Run p l e R s m args below meth c H locs cells slots mc ms (F0 m pc ls st0) rest (va_Ql post B A1 a) (vx_X px BX AX) free) (hS : va_S A0 H0 H locs) (hA : ∀ q, q < H.size → A1 q → A0 q) (hf : ∀ q, free q → A0 q) (hAX : ∀ q, q < H.size → AX q → A0 q)
    (kx : ∀ (E : String) (ce : Cell) (q9 : Addr) (u : SX) (t : State) (H1 : Heap) (locs1 : List Loc), t.heap = H1 → s.vm.Alike t.vm → px u → BX E u t → H.size ≤ H1.size → (∀ q : Nat, q < H.size → ¬ AX q → H1[q]? = H[q]?) → va_S A0 H0 H1 locs1 → H1[q9]? = some ce → ce.vm = .none → s.vm.findClass E = some ce.cls → vx_W p l e R s m args below meth c H1 locs1 (cells + mc) (slots + ms) Q (F0 m pc ls rest) q9)
    (kk : ∀ (r : Int64) (u : S) (t : State) (H1 : Heap) (locs1 : List Loc), t.heap = H1 → s.vm.Alike t.vm → post r u → B u t → H.size ≤ H1.size → (∀ q : Nat, q < H.size → ¬ A1 q → H1[q]? = H[q]?) → va_S A0 H0 H1 locs1 → W p l e R s m args below meth c H1 locs1 (cells + mc) (slots + ms) Q (F0 m (pc + 3) ls (.long r :: rest))) : W p l e R s m args below meth c H locs cells slots Q (F0 m pc ls st0) := by
  intro T hT X
  rcases hr T hT X with ⟨v, st₀, t, T', L, h0, X', hL, e1, e2, ⟨⟨r, u, hv, hp, hb⟩, hF⟩, st⟩ | ⟨q, st₀, t, T', L, E, ce, h0, X', hL, e1, e2, ⟨u, hp, hb, hF⟩, hce, hcv, hcl, st⟩
  · cases hv
    obtain ⟨k1, k2, k3⟩ := vx_keep h0 e1 hS hA hf hL hF
    obtain ⟨t2, a1, b1⟩ := kk r u t T'.heap (locs ++ L) e1.symm (by rw [← e2]; exact X'.warmed.alike) hp hb k1 k2 k3 T' rfl X'
    exact ⟨t2, st t2 a1, b1⟩
  · obtain ⟨k1, k2, k3⟩ := vx_keep h0 e1 hS hAX hf hL hF
    obtain ⟨t2, a1, b1⟩ := kx E ce q u t T'.heap (locs ++ L) e1.symm (by rw [← e2]; exact X'.warmed.alike) hp hb k1 k2 k3 (by rw [e1]; exact hce) hcv hcl T' rfl X'
    exact ⟨t2, st.trans a1, b1⟩
theorem vx_callf {S SX : Type} {post : UInt32 → S → Prop} {px : SX → Prop} {B : S → State → Prop} {BX : String → SX → State → Prop} {AX : Nat → Prop} (hr : vx_Run p l e R s m args below meth c H locs cells slots mc ms (F0 m pc ls st0) rest (va_Qf post B A1 a) (vx_X px BX AX) free) (hS : va_S A0 H0 H locs) (hA : ∀ q, q < H.size → A1 q → A0 q) (hf : ∀ q, free q → A0 q) (hAX : ∀ q, q < H.size → AX q → A0 q)
    (kx : ∀ (E : String) (ce : Cell) (q9 : Addr) (u : SX) (t : State) (H1 : Heap) (locs1 : List Loc), t.heap = H1 → s.vm.Alike t.vm → px u → BX E u t → H.size ≤ H1.size → (∀ q : Nat, q < H.size → ¬ AX q → H1[q]? = H[q]?) → va_S A0 H0 H1 locs1 → H1[q9]? = some ce → ce.vm = .none → s.vm.findClass E = some ce.cls → vx_W p l e R s m args below meth c H1 locs1 (cells + mc) (slots + ms) Q (F0 m pc ls rest) q9)
    (kk : ∀ (r : UInt32) (u : S) (t : State) (H1 : Heap) (locs1 : List Loc), t.heap = H1 → s.vm.Alike t.vm → post r u → B u t → H.size ≤ H1.size → (∀ q : Nat, q < H.size → ¬ A1 q → H1[q]? = H[q]?) → va_S A0 H0 H1 locs1 → W p l e R s m args below meth c H1 locs1 (cells + mc) (slots + ms) Q (F0 m (pc + 3) ls (.float r :: rest))) : W p l e R s m args below meth c H locs cells slots Q (F0 m pc ls st0) := by
  intro T hT X
  rcases hr T hT X with ⟨v, st₀, t, T', L, h0, X', hL, e1, e2, ⟨⟨r, u, hv, hp, hb⟩, hF⟩, st⟩ | ⟨q, st₀, t, T', L, E, ce, h0, X', hL, e1, e2, ⟨u, hp, hb, hF⟩, hce, hcv, hcl, st⟩
  · cases hv
    obtain ⟨k1, k2, k3⟩ := vx_keep h0 e1 hS hA hf hL hF
    obtain ⟨t2, a1, b1⟩ := kk r u t T'.heap (locs ++ L) e1.symm (by rw [← e2]; exact X'.warmed.alike) hp hb k1 k2 k3 T' rfl X'
    exact ⟨t2, st t2 a1, b1⟩
  · obtain ⟨k1, k2, k3⟩ := vx_keep h0 e1 hS hAX hf hL hF
    obtain ⟨t2, a1, b1⟩ := kx E ce q u t T'.heap (locs ++ L) e1.symm (by rw [← e2]; exact X'.warmed.alike) hp hb k1 k2 k3 (by rw [e1]; exact hce) hcv hcl T' rfl X'
    exact ⟨t2, st.trans a1, b1⟩
theorem vx_calld {S SX : Type} {post : UInt64 → S → Prop} {px : SX → Prop} {B : S → State → Prop} {BX : String → SX → State → Prop} {AX : Nat → Prop} (hr : vx_Run p l e R s m args below meth c H locs cells slots mc ms (F0 m pc ls st0) rest (va_Qd post B A1 a) (vx_X px BX AX) free) (hS : va_S A0 H0 H locs) (hA : ∀ q, q < H.size → A1 q → A0 q) (hf : ∀ q, free q → A0 q) (hAX : ∀ q, q < H.size → AX q → A0 q)
    (kx : ∀ (E : String) (ce : Cell) (q9 : Addr) (u : SX) (t : State) (H1 : Heap) (locs1 : List Loc), t.heap = H1 → s.vm.Alike t.vm → px u → BX E u t → H.size ≤ H1.size → (∀ q : Nat, q < H.size → ¬ AX q → H1[q]? = H[q]?) → va_S A0 H0 H1 locs1 → H1[q9]? = some ce → ce.vm = .none → s.vm.findClass E = some ce.cls → vx_W p l e R s m args below meth c H1 locs1 (cells + mc) (slots + ms) Q (F0 m pc ls rest) q9)
    (kk : ∀ (r : UInt64) (u : S) (t : State) (H1 : Heap) (locs1 : List Loc), t.heap = H1 → s.vm.Alike t.vm → post r u → B u t → H.size ≤ H1.size → (∀ q : Nat, q < H.size → ¬ A1 q → H1[q]? = H[q]?) → va_S A0 H0 H1 locs1 → W p l e R s m args below meth c H1 locs1 (cells + mc) (slots + ms) Q (F0 m (pc + 3) ls (.double r :: rest))) : W p l e R s m args below meth c H locs cells slots Q (F0 m pc ls st0) := by
  intro T hT X
  rcases hr T hT X with ⟨v, st₀, t, T', L, h0, X', hL, e1, e2, ⟨⟨r, u, hv, hp, hb⟩, hF⟩, st⟩ | ⟨q, st₀, t, T', L, E, ce, h0, X', hL, e1, e2, ⟨u, hp, hb, hF⟩, hce, hcv, hcl, st⟩
  · cases hv
    obtain ⟨k1, k2, k3⟩ := vx_keep h0 e1 hS hA hf hL hF
    obtain ⟨t2, a1, b1⟩ := kk r u t T'.heap (locs ++ L) e1.symm (by rw [← e2]; exact X'.warmed.alike) hp hb k1 k2 k3 T' rfl X'
    exact ⟨t2, st t2 a1, b1⟩
  · obtain ⟨k1, k2, k3⟩ := vx_keep h0 e1 hS hAX hf hL hF
    obtain ⟨t2, a1, b1⟩ := kx E ce q u t T'.heap (locs ++ L) e1.symm (by rw [← e2]; exact X'.warmed.alike) hp hb k1 k2 k3 (by rw [e1]; exact hce) hcv hcl T' rfl X'
    exact ⟨t2, st.trans a1, b1⟩
theorem vx_callv {S SX : Type} {post : S → Prop} {px : SX → Prop} {B : S → State → Prop} {BX : String → SX → State → Prop} {AX : Nat → Prop} (hr : vx_Run p l e R s m args below meth c H locs cells slots mc ms (F0 m pc ls st0) rest (va_Qv post B A1 a) (vx_X px BX AX) free) (hS : va_S A0 H0 H locs) (hA : ∀ q, q < H.size → A1 q → A0 q) (hf : ∀ q, free q → A0 q) (hAX : ∀ q, q < H.size → AX q → A0 q)
    (kx : ∀ (E : String) (ce : Cell) (q9 : Addr) (u : SX) (t : State) (H1 : Heap) (locs1 : List Loc), t.heap = H1 → s.vm.Alike t.vm → px u → BX E u t → H.size ≤ H1.size → (∀ q : Nat, q < H.size → ¬ AX q → H1[q]? = H[q]?) → va_S A0 H0 H1 locs1 → H1[q9]? = some ce → ce.vm = .none → s.vm.findClass E = some ce.cls → vx_W p l e R s m args below meth c H1 locs1 (cells + mc) (slots + ms) Q (F0 m pc ls rest) q9)
    (kk : ∀ (u : S) (t : State) (H1 : Heap) (locs1 : List Loc), t.heap = H1 → s.vm.Alike t.vm → post u → B u t → H.size ≤ H1.size → (∀ q : Nat, q < H.size → ¬ A1 q → H1[q]? = H[q]?) → va_S A0 H0 H1 locs1 → W p l e R s m args below meth c H1 locs1 (cells + mc) (slots + ms) Q (F0 m (pc + 3) ls (rest))) : W p l e R s m args below meth c H locs cells slots Q (F0 m pc ls st0) := by
  intro T hT X
  rcases hr T hT X with ⟨v, st₀, t, T', L, h0, X', hL, e1, e2, ⟨⟨u, hv, hp, hb⟩, hF⟩, st⟩ | ⟨q, st₀, t, T', L, E, ce, h0, X', hL, e1, e2, ⟨u, hp, hb, hF⟩, hce, hcv, hcl, st⟩
  · cases hv
    obtain ⟨k1, k2, k3⟩ := vx_keep h0 e1 hS hA hf hL hF
    obtain ⟨t2, a1, b1⟩ := kk u t T'.heap (locs ++ L) e1.symm (by rw [← e2]; exact X'.warmed.alike) hp hb k1 k2 k3 T' rfl X'
    exact ⟨t2, st t2 a1, b1⟩
  · obtain ⟨k1, k2, k3⟩ := vx_keep h0 e1 hS hAX hf hL hF
    obtain ⟨t2, a1, b1⟩ := kx E ce q u t T'.heap (locs ++ L) e1.symm (by rw [← e2]; exact X'.warmed.alike) hp hb k1 k2 k3 (by rw [e1]; exact hce) hcv hcl T' rfl X'
    exact ⟨t2, st.trans a1, b1⟩
/-- caught by the row x of this method's table; the rows ahead don't take it -/
theorem vx_catch {own name : String} {E : String} {ce : Cell} {q : Addr} (hown : s.vm.findClass own = some m.cls) (pre : List ExceptionTableEntry) (x : ExceptionTableEntry) (suf : List ExceptionTableEntry) (hsplit : c.exceptionTable.toList = pre ++ x :: suf)
    (hpass : ∀ z ∈ pre, covers z pc = false ∨ (z.catchType ≠ 0 ∧ ∃ nm : String, (Cond.classLink own z.catchType nm).before args s = true ∧ va_Nc E nm s)) (hx : covers x pc = true) (h0 : x.catchType ≠ 0)
    (hlink : (Cond.classLink own x.catchType name).before args s = true) (hcast : (Cond.castable E name).before args s = true) (hcell : H[q]? = some ce) (hv : ce.vm = .none) (hcl : s.vm.findClass E = some ce.cls)
    (kk : W p l e R s m args below meth c H locs cells slots Q (F0 m x.handlerPc ls [.ref q])) : vx_W p l e R s m args below meth c H locs cells slots Q (F0 m pc ls rest) q := by
  intro T hT X
  have hpl : e.platform.magicAccessors = ({} : Platform).magicAccessors := by rw [X.admits.platform]
  obtain ⟨c3, c4, hc3, hc4, hasg⟩ := Cond.castable_spec hcast
  cases Option.some.inj (hc3.symm.trans hcl)
  obtain ⟨c5, hc5, hcl5⟩ := Cond.classLink_spec hown hlink e.platform hpl
  cases Option.some.inj (hc4.symm.trans hc5)
  obtain ⟨vm', X', st⟩ := X.thenCaughtThrough q (g := F0 m pc ls rest) rfl (Steps.refl _) (by rw [hT]; exact hcell) (by rw [hv]; rfl) (by obtain ⟨k9, h9, -⟩ := Vm.findClass_spec hcl; exact ⟨k9, h9⟩) pre x suf hsplit
    (fun z hz => by
      rcases hpass z hz with h | ⟨hz0, nm, hl1, hn1⟩
      · exact Or.inl h
      · obtain ⟨c6, hc6, hcl6⟩ := Cond.classLink_spec hown hl1 e.platform hpl
        obtain ⟨a8, b8, h1, h2, h3⟩ := hn1
        cases Option.some.inj (h1.symm.trans hcl)
        cases Option.some.inj (h2.symm.trans hc6)
        exact Or.inr ⟨hz0, _, hcl6, h3⟩) hx (Or.inr ⟨h0, c4, hcl5, hasg⟩)
  obtain ⟨t, a1, b1⟩ := kk (T.setVm vm') hT X'
  exact ⟨t, st.trans a1, b1⟩
end Rows
section Ends
variable {p : Program} {l : Launch} {e : Env} {R : Room} {s : State} {m : MethodId} {args : Array Value} {below : List Frame} {meth : Method} {c : Code} {H : Heap} {locs : List Loc} {cells slots : Nat} {Q : State → Prop}
variable {mc ms : Nat} {free : Addr → Prop} {A0 A1 : Nat → Prop} {H0 : Heap} {a : Array Value} {ls : Array Slot} {st0 rest : List Value}
variable {Qc : Array Value → State → Outcome → State → Prop} {XC : String → State → State → Prop}
/-- what a body that may throw owes at its end -/
def vx_MQ (below : List Frame) (Qc : Array Value → State → Outcome → State → Prop) (XC : String → State → State → Prop) (a : Array Value) (s : State) (mc ms : Nat) (free : Addr → Prop) : State → Prop := fun t =>
  ∃ o, t.status = .running ∧ Ended t below o ∧ vx_Q Qc XC mc ms free a s o t
theorem vx_ret {g : JFrame} {mc ms : Nat} (k : W p l e R s m args below meth c H locs cells slots (MQ below Qc args s mc ms free) g) : W p l e R s m args below meth c H locs cells slots (vx_MQ below Qc XC args s mc ms free) g := by
  intro T hT X
  obtain ⟨t, a1, o, b1, b2, b3, b4⟩ := k T hT X
  exact ⟨t, a1, o, b1, b2, Or.inl ⟨b3, b4⟩⟩
/-- not caught here: it goes on to the caller -/
theorem vx_widen {g : JFrame} {q : Addr} {k n : Nat} (h1 : cells ≤ k) (h2 : slots ≤ n) (kk : vx_W p l e R s m args below meth c H locs k n Q g q) : vx_W p l e R s m args below meth c H locs cells slots Q g q := fun T hT X => kk T hT (stand_widen X h1 h2)
theorem vx_out {pc : Nat} {E : String} {ce : Cell} {q : Addr} {mc ms : Nat} (hout : ∀ x ∈ c.exceptionTable.toList, covers x pc = false) (hlocks : meth.locks = false) (hcell : H[q]? = some ce) (hv : ce.vm = .none) (hcl : s.vm.findClass E = some ce.cls)
    (hx : ∀ t : State, t.heap = H → s.vm.Alike t.vm → XC E s t) (hf : ∀ z ∈ locs, free z.base) (hc : cells ≤ mc) (hs : slots ≤ ms) :
    vx_W p l e R s m args below meth c H locs cells slots (vx_MQ below Qc XC args s mc ms free) (F0 m pc ls rest) q := by
  intro T hT X
  obtain ⟨st1, hrun, hend, hW, hsm⟩ := X.leaveThrown q (g := F0 m pc ls rest) rfl rfl rfl hout hlocks
  have hcell9 : (T.setFrames (.throwing q :: below)).heap[q]? = some ce := by
    show T.heap[q]? = some ce
    rw [hT]; exact hcell
  exact ⟨_, st1, .threw q, hrun, hend, Or.inr ⟨q, rfl, E, ce, locs, hx _ hT hW.alike, hcell9, hv, hcl, hW, hsm.mono hc hs, hf⟩⟩
theorem vx_frame {U : State} {k n : Nat} (h : s.sameButNew ({ U with vm := s.vm } : State) locs k n) : s.heap.size ≤ U.heap.size ∧ ∀ q : Nat, q < s.heap.size → (∀ z ∈ locs, z.base ≠ q) → U.heap[q]? = s.heap[q]? := by
  obtain ⟨-, h2, -, -, -, h6⟩ := h
  refine ⟨h2, fun q hq hz => ?_⟩
  obtain ⟨c9, e1, e2, e3, e4⟩ := h6 q _ (Array.getElem?_eq_getElem hq)
  have hs : c9.slots = (s.heap[q]).slots := Array.ext_getElem? fun i => e4 i fun hm => hz _ hm rfl
  have h9 : c9 = s.heap[q] := by
    rw [hs] at e2
    exact e2
  have e5 : U.heap[q]? = some c9 := e1
  rw [e5, h9, Array.getElem?_eq_getElem hq]
/-- the words of a throw but the four that speak of the heap -/
def vx_no (w : Cond) : Bool := decide (w ≠ .isRef (.static Bundle.tN "UNASSIGNED_STACK" Bundle.steD)) && decide (w ≠ .isRef (.static Bundle.tN "SUPPRESSED_SENTINEL" Bundle.listD)) && decide (w ≠ .laysStatic Bundle.tN "UNASSIGNED_STACK" Bundle.steD) && decide (w ≠ .laysStatic Bundle.tN "SUPPRESSED_SENTINEL" Bundle.listD)
def vx_at0 (own : String) (ic : Nat) (X : String) (names : List String) : List Cond := (Bundle.ownAtoms0 own ic X names).filter vx_no
def vx_atS (own : String) (ic : Nat) (X : String) (names : List String) : List Cond := (Bundle.ownAtoms own ic X names).filter vx_no
/-- a word that the tables alone decide, or a good one -/
def vx_ot (w : Cond) : Bool := w.onTables || goodWord w
theorem vx_ot_at {args a' : Array Value} {s U : State} {w : Cond} (hW : s.WarmedH U.vm) (hvm : s.vm = U.vm) (hg : vx_ot w = true) (h : w.before args s = true) : w.before a' U = true := by
  simp only [vx_ot, Bool.or_eq_true] at hg
  rcases hg with hg | hg
  · exact va_tabs hg hvm h
  · exact word_at hW (good_of_word hg) h
/-- a list's words: the good ones out of the method's own list, the others by premises of their own -/
theorem vx_hat {args : Array Value} {s : State} {L B : List Cond} (h1 : ∀ w ∈ L.filter goodWord, w.before args s = true) (h2 : ∀ w ∈ L.filter (fun w => !goodWord w), w ∈ B) (h3 : ∀ w ∈ B, w.before args s = true) : ∀ w ∈ L, w.before args s = true := by
  intro w hw
  by_cases g : goodWord w = true
  · exact h1 w (List.mem_filter.mpr ⟨hw, g⟩)
  · refine h3 w (h2 w (List.mem_filter.mpr ⟨hw, ?_⟩))
    show (!goodWord w) = true
    cases hgw : goodWord w
    · rfl
    · exact absurd hgw g
theorem vx_c {args : Array Value} {s : State} {w : Cond} {B : List Cond} (h : w.before args s = true) (t : ∀ w ∈ B, w.before args s = true) : ∀ w' ∈ w :: B, w'.before args s = true := fun w' h' => (List.mem_cons.mp h').elim (fun e => by rw [e]; exact h) (t w')
theorem vx_n {args : Array Value} {s : State} : ∀ w ∈ ([] : List Cond), w.before args s = true := fun _ h => nomatch h
theorem vx_own {args : Array Value} {s : State} {L : List Cond} (h1 : ∀ w ∈ L.filter vx_no, w.before args s = true)
    (hU : (Cond.isRef (.static Bundle.tN "UNASSIGNED_STACK" Bundle.steD)).before args s = true) (hN : (Cond.isRef (.static Bundle.tN "SUPPRESSED_SENTINEL" Bundle.listD)).before args s = true)
    (lU : (Cond.laysStatic Bundle.tN "UNASSIGNED_STACK" Bundle.steD).before args s = true) (lN : (Cond.laysStatic Bundle.tN "SUPPRESSED_SENTINEL" Bundle.listD).before args s = true) : ∀ w ∈ L, w.before args s = true := by
  intro w hw
  by_cases e1 : w = .isRef (.static Bundle.tN "UNASSIGNED_STACK" Bundle.steD)
  · rw [e1]; exact hU
  · by_cases e2 : w = .isRef (.static Bundle.tN "SUPPRESSED_SENTINEL" Bundle.listD)
    · rw [e2]; exact hN
    · by_cases e3 : w = .laysStatic Bundle.tN "UNASSIGNED_STACK" Bundle.steD
      · rw [e3]; exact lU
      · by_cases e4 : w = .laysStatic Bundle.tN "SUPPRESSED_SENTINEL" Bundle.listD
        · rw [e4]; exact lN
        · exact h1 w (List.mem_filter.mpr ⟨hw, by unfold vx_no; rw [decide_eq_true e1, decide_eq_true e2, decide_eq_true e3, decide_eq_true e4]; rfl⟩)
/-- where a static field lies, its class's statics cell in H -/
def vx_L (C n d : String) (A : Nat → Prop) (U : State) (H : Heap) : Prop := ∃ (c : ClassId) (k : Class) (i : Nat) (f : Field) (a : Nat) (cell : Cell), U.vm.findClass C = some c ∧ U.fieldFound? C n d = some (c, k, i, f) ∧ f.isStatic = true ∧ k.statics = some a ∧ H[a]? = some cell ∧ cell.vm.isStatics = true ∧ cell.cls = c ∧ f.slot < cell.slots.size ∧ k.staticTypes[f.slot]? = some f.type ∧ ¬ A a
theorem vx_L.moved {C n d : String} {A : Nat → Prop} {u U : State} {H : Heap} (hvm : u.vm.Alike U.vm) (h : vx_L C n d A u H) : vx_L C n d A U H := by
  obtain ⟨c, k, i, f, a, cell, h1, h2, h3, h4, h5, h6, h7, h8, h9, h10⟩ := h
  obtain ⟨k', hi', he⟩ := State.fieldFound?_setVm hvm h2
  exact ⟨c, k', i, f, a, cell, by rw [hvm.findClass]; exact h1, hi', h3, by rw [he]; exact h4, h5, h6, h7, h8, by rw [he]; exact h9, h10⟩
theorem vx_L.kept {C n d : String} {A : Nat → Prop} {U : State} {H H1 : Heap} (h : vx_L C n d A U H) (hq : ∀ a : Nat, a < H.size → ¬ A a → H1[a]? = H[a]?) : vx_L C n d A U H1 := by
  obtain ⟨c, k, i, f, a, cell, h1, h2, h3, h4, h5, h6, h7, h8, h9, h10⟩ := h
  exact ⟨c, k, i, f, a, cell, h1, h2, h3, h4, by rw [hq a (Array.getElem?_eq_some_iff.mp h5).1 h10]; exact h5, h6, h7, h8, h9, h10⟩
theorem vx_L.narrow {C n d : String} {A B : Nat → Prop} {U : State} {H : Heap} (h : vx_L C n d A U H) (hAB : ∀ q, B q → A q) : vx_L C n d B U H := by
  obtain ⟨c, k, i, f, a, cell, h1, h2, h3, h4, h5, h6, h7, h8, h9, h10⟩ := h
  exact ⟨c, k, i, f, a, cell, h1, h2, h3, h4, h5, h6, h7, h8, h9, fun z => h10 (hAB _ z)⟩
theorem vx_L.word {C n d : String} {A : Nat → Prop} {s : State} {args : Array Value} (h : vx_L C n d A s s.heap) : (Cond.laysStatic C n d).before args s = true := by
  obtain ⟨c, k, i, f, a, cell, h1, h2, h3, h4, h5, h6, h7, h8, h9, -⟩ := h
  show (Cond.laysStatic C n d).holds args s none s [] = true
  exact Cond.laysStatic_of h1 h2 h3 h4 h5 h6 h7 h8 h9
/-- .. and what it holds: null or some reference -/
def vx_Zq (C n d : String) (A : Nat → Prop) (U : State) (H : Heap) : Prop := va_Zq C n d A U H ∧ vx_L C n d A U H
theorem vx_Zq.moved {C n d : String} {A : Nat → Prop} {u U : State} {H : Heap} (hvm : u.vm.Alike U.vm) (h : vx_Zq C n d A u H) : vx_Zq C n d A U H := ⟨va_Zq.moved hvm h.1, vx_L.moved hvm h.2⟩
theorem vx_Zq.kept {C n d : String} {A : Nat → Prop} {U : State} {H H1 : Heap} (h : vx_Zq C n d A U H) (hq : ∀ a : Nat, a < H.size → ¬ A a → H1[a]? = H[a]?) : vx_Zq C n d A U H1 := ⟨va_Zq.kept h.1 hq, vx_L.kept h.2 hq⟩
theorem vx_Zq.narrow {C n d : String} {A B : Nat → Prop} {U : State} {H : Heap} (h : vx_Zq C n d A U H) (hAB : ∀ q, B q → A q) : vx_Zq C n d B U H := ⟨va_Zq.narrow h.1 hAB, vx_L.narrow h.2 hAB⟩
theorem vx_Zqof {args : Array Value} {s : State} {C n d : String} {A : Nat → Prop} (hl : (Cond.laysStatic C n d).before args s = true) (hini : (Cond.initialized C).before args s = true) (h : (Cond.isRef (.static C n d)).before args s = true) (hA : ∀ a : Nat, a < s.heap.size → ¬ A a) : vx_Zq C n d A s s.heap := by
  refine ⟨va_Zqof hl hini h hA, ?_⟩
  obtain ⟨c, k, i, f, a, cell, h1, h2, h3, h4, h5, h6, h7, h8, h9⟩ := Cond.laysStatic_spec hl
  exact ⟨c, k, i, f, a, cell, h1, h2, h3, h4, h5, h6, h7, h8, h9, hA a (Array.getElem?_eq_some_iff.mp h5).1⟩
theorem vx_isRef {C n d : String} {v : Value} {A : Nat → Prop} {s : State} {args : Array Value} (h : va_Z C n d v A s s.heap) (hv : v.isRef = true) : (Cond.isRef (.static C n d)).before args s = true := by
  obtain ⟨cf, kf, fi, f, a, cell, h1, h2, h3, h4, h5, h6, h7, -⟩ := h
  have he : (Term.static C n d).eval args s none [] s = some v := by
    simp [Term.eval, State.fieldNamed?, h1, h2, h4, h5, h6, h7]
  simp only [Cond.before, Cond.holds, Cond.value, he]
  cases v <;> simp_all [Value.isRef]
theorem vx_isRefq {C n d : String} {A : Nat → Prop} {s : State} {args : Array Value} (h : va_Zq C n d A s s.heap) : (Cond.isRef (.static C n d)).before args s = true := by
  rcases h with h | ⟨t, h⟩
  · exact vx_isRef h rfl
  · exact vx_isRef h rfl
/-- the same frame, seen from here: as if the method were called anew in this heap -/
theorem vx_rebase {T : State} (X : Stand p l e R s m args below meth c T locs cells slots) {R' : Room} (hf : R'.frames ≤ R.frames) (hl : R'.locals ≤ R.locals) (hc : cells + R'.cells ≤ R.cells) (hs : slots + R'.slots ≤ R.slots) :
    Stand p l e R' ((T.setVm s.vm).setFrames (.invoking m args :: below)) m args below meth c T [] 0 0 := by
  have htop : (T.setVm s.vm).topJava?.isSome := X.here.top
  have hF : ((T.setVm s.vm).setFrames (.invoking m args :: below)).frames = .invoking m args :: below := State.frames_setFrames _ (State.cur_lt_of_top htop)
  obtain ⟨g₀, hg0⟩ := Option.isSome_iff_exists.mp htop
  obtain ⟨r, hr⟩ := State.topJava?_eq_some.mp hg0
  have hl9 : e.platform.stackLimits (T.setVm s.vm).me = e.platform.stackLimits s.me := X.limits
  have hb9 : (T.setVm s.vm).me.stackBytes = s.me.stackBytes := X.bytes
  refine ⟨X.admits, X.cas, X.clock, hF, ?_, X.hears, X.method, X.code, X.here, X.tail, X.warmed, ?_, ?_, ?_⟩
  · have h := X.room
    have hU : ((T.setVm s.vm).setFrames (.invoking m args :: below)).localsInUse = s.localsInUse := by
      rw [State.localsInUse_invoking hF (meth := meth) (c := c) X.method X.code, State.localsInUse_invoking X.frames X.method X.code]
    simp only [State.hasRoom, Bool.and_eq_true, decide_eq_true_eq] at h ⊢
    obtain ⟨⟨⟨⟨h1, h2, h3, h4, h5, h6⟩, h7⟩, h8⟩, h9⟩ := h
    rw [X.frames, List.length_cons] at h2 h3
    have q1 := X.heapSize
    have q2 := X.used
    simp only [hF, hU, List.length_cons, State.stackLimits_setFrames, State.stackBytes_setFrames, hl9, hb9]
    refine ⟨⟨⟨⟨by omega, by omega, by omega, by omega, by omega, h6⟩, ?_⟩, ?_⟩, X.book⟩
    · show T.heap.size + R'.cells ≤ e.platform.maxCells
      omega
    · show T.slotsUsed + R'.slots ≤ e.platform.maxSlots
      omega
  · rw [State.stackLimits_setFrames]; rfl
  · rw [State.stackBytes_setFrames]; rfl
  · refine ⟨?_, Nat.le_refl _, Nat.le_refl _, ?_, ?_, fun a c9 h9 => ⟨c9, h9, rfl, rfl, fun _ _ => rfl⟩⟩
    · obtain ⟨t, ht, -⟩ := State.frames_cons hr
      show T.setVm s.vm = { ((T.setVm s.vm).setFrames (.invoking m args :: below)).setFrames (T.setVm s.vm).frames with heap := T.heap, slotsUsed := T.slotsUsed }
      rw [State.setFrames_setFrames, State.setFrames_self ht]
      rfl
    · show T.slotsUsed = T.slotsUsed + ((T.heap.toList.drop T.heap.size).map (·.slots.size)).sum
      rw [List.drop_eq_nil_of_le (Nat.le_of_eq Array.length_toList)]
      rfl
    · show ((T.heap.toList.drop T.heap.size).map (·.slots.size)).sum ≤ 0
      rw [List.drop_eq_nil_of_le (Nat.le_of_eq Array.length_toList)]
      exact Nat.le_refl _
/-- 'throw new E()': new; dup; invokespecial; athrow -/
theorem vx_throw0 {cc : ByteArray} {pc : Nat} (hexec : p.tables.exec = Jvm.exec) (hb : c.code = cc) (hl : l.stackTraces = false) {own cls : String} {names : List String} {ik ic mc ms : Nat} {A : Nat → Prop}
    (hown : s.vm.findClass own = some m.cls) (hcls : Bundle.fit cls = true) (hnames : ∀ n ∈ names, Bundle.fit n = true)
    (hk : (Cond.classLink own ik cls).before args s = true) (hini : (Cond.initialized cls).before args s = true) (hat : ∀ w ∈ vx_at0 own ic cls names, w.before args s = true)
    (hgood : ∀ w ∈ Cond.classLink own ik cls :: Cond.initialized cls :: vx_at0 own ic cls names, vx_ot w = true)
    (hU : vx_Zq Bundle.tN "UNASSIGNED_STACK" Bundle.steD A s s.heap) (hN : vx_Zq Bundle.tN "SUPPRESSED_SENTINEL" Bundle.listD A s s.heap) (hS : va_S A s.heap H locs) (hsize : ls.size = c.maxLocals)
    (d0 : decode cc pc = .ok (.new ik, 3)) (d3 : decode cc (pc + 3) = .ok (.dup, 1)) (d4 : decode cc (pc + 4) = .ok (.invokespecial ic, 3)) (d7 : decode cc (pc + 7) = .ok (.athrow, 1))
    (hout : ∀ x ∈ c.exceptionTable.toList, covers x (pc + 7) = false)
    (hRframes : names.length + 3 < R.frames) (hRlocals : (rest.map fun v => v.category).sum + (13 * (names.length + 1) + 42) ≤ R.locals) (hRcells : cells + 1 ≤ R.cells) (hRslots : slots + 6 ≤ R.slots) (hlocks : meth.locks = false)
    (hx : ∀ t : State, s.vm.Alike t.vm → H.size ≤ t.heap.size → (∀ q : Nat, q < H.size → t.heap[q]? = H[q]?) → XC cls s t)
    (hf : ∀ z ∈ locs, free z.base) (hc : cells + 1 ≤ mc) (hs : slots + 6 ≤ ms) :
    W p l e R s m args below meth c H locs cells slots (vx_MQ below Qc XC args s mc ms free) (F0 m pc ls rest) := by
  intro T hT X
  have htr : e.platform.stackTraces = false := (show e.platform.stackTraces = l.stackTraces by rw [X.admits.platform]).trans hl
  have Y := vx_rebase X (R' := { frames := R.frames, locals := R.locals, cells := 1, slots := 6 }) (Nat.le_refl _) (Nat.le_refl _) hRcells hRslots
  obtain ⟨s', hA⟩ : ∃ z, z = (T.setVm s.vm).setFrames (.invoking m args :: below) := ⟨_, rfl⟩
  rw [← hA] at Y
  have hvm : s'.vm = s.vm := by rw [hA]; rfl
  have hhp : s'.heap = H := by rw [hA]; exact hT
  have hW0 : s.WarmedH s'.vm := by rw [hvm]; exact State.WarmedH.refl s
  have hat' : ∀ w ∈ vx_at0 own ic cls names, w.before args s' = true := fun w hw => vx_ot_at hW0 hvm.symm (hgood w (List.mem_cons_of_mem _ (List.mem_cons_of_mem _ hw))) (hat w hw)
  have hk' : (Cond.classLink own ik cls).before args s' = true := vx_ot_at hW0 hvm.symm (hgood _ List.mem_cons_self) hk
  have hini' : (Cond.initialized cls).before args s' = true := vx_ot_at hW0 hvm.symm (hgood _ (List.mem_cons_of_mem _ List.mem_cons_self)) hini
  have hU' : vx_Zq Bundle.tN "UNASSIGNED_STACK" Bundle.steD A s' s'.heap := by rw [hhp]; exact vx_Zq.moved hW0.alike (hU.kept hS.2.1)
  have hN' : vx_Zq Bundle.tN "SUPPRESSED_SENTINEL" Bundle.listD A s' s'.heap := by rw [hhp]; exact vx_Zq.moved hW0.alike (hN.kept hS.2.1)
  have h : ∀ w ∈ Bundle.ownAtoms0 own ic cls names, w.before args s' = true := vx_own hat' (vx_isRefq hU'.1) (vx_isRefq hN'.1) hU'.2.word hN'.2.word
  have hown' : s'.vm.findClass own = some m.cls := by rw [hvm]; exact hown
  have hins : (Cond.instantiable cls 6).before args s' = true := h _ (by simp [Bundle.ownAtoms0])
  obtain ⟨vm₁, cX, kX, hfX, hkX, -, -, X₁, st1⟩ := Y.newCold hexec (own := own) (C := cls) (index := ik) (n := 6) hown' hk' hins hini'
    (g := F0 m pc ls rest) rfl (by rw [hb]; exact d0) (Nat.le_refl _) (Nat.le_refl _)
  generalize hT1 : (T.setVm vm₁).pushCell { cls := cX, slots := kX.instanceTypes.map defaultValue, vm := .none } = T1 at X₁ st1
  have hcat : (Value.ref T.heap.size).category = 1 := rfl
  have hcellA : T1.heap[T.heap.size]? = some (freshCell cX kX) := by rw [← hT1]; exact State.heap_pushCell_size _ _
  have d3' : decode c.code (pc + 3) = .ok (.dup, 1) := by rw [hb]; exact d3
  obtain ⟨U, hsteps, hrun, hend, hW, hsame, ce, hce, hO⟩ := X₁.ctorThrow0 hexec htr (own := own) (cls := cls) (names := names) (ic := ic) hown' hcls hnames h (fun x hx => nomatch hx) hfX hkX hcellA (by rw [hhp, hT]; exact Nat.le_refl _)
    (g := { method := m, pc := pc + 4, locals := ls, stack := .ref T.heap.size :: .ref T.heap.size :: rest, locked := none }) rfl hsize rfl rfl (rest := rest) rfl
    (by rw [hb]; exact d4) (by rw [hb]; exact d7) hout hRframes (by simp only [List.map_cons, List.sum_cons, hcat]; omega) hlocks
  obtain ⟨f1, f2⟩ := vx_frame hsame
  rw [hhp] at f1 f2
  have hWs : s.WarmedH U.vm := State.WarmedH.trans hW0 hW
  have hcl : s.vm.findClass cls = some ce.cls := by
    have h9 := hO.cls
    rw [hvm] at h9
    exact h9
  have hall : s.sameButNew ({ U with vm := s.vm } : State) locs mc ms := by
    subst hA
    obtain ⟨e1, e2⟩ := hsame
    rw [State.setFrames_setFrames] at e1
    have h2 : (T.setVm s.vm).sameButNew ({ U with vm := s.vm } : State) [] (0 + 1) (0 + 6) := ⟨e1, e2⟩
    have h3 := X.same.trans h2
    rw [List.append_nil] at h3
    exact h3.mono hc hs
  refine ⟨U, ?_, .threw T.heap.size, hrun, hend, Or.inr ⟨T.heap.size, rfl, cls, ce, locs, hx U hWs.alike f1 (fun q hq => f2 q hq (fun z hz => nomatch hz)), hce, hO.vm, hcl, hWs, hall, hf⟩⟩
  refine st1 _ ?_
  show Steps p.tables e below (T1.setTop { method := m, pc := pc + 3, locals := ls, stack := .ref T.heap.size :: rest, locked := none }) _
  jvm_step X₁.here [X₁.here.top, hexec, d3', Value.category]
  exact hsteps
/-- 'throw new E("text")': new; dup; ldc; invokespecial; athrow -/
theorem vx_throwS {cc : ByteArray} {pc : Nat} (hexec : p.tables.exec = Jvm.exec) (hb : c.code = cc) (hl : l.stackTraces = false) {own cls text : String} {names : List String} {ik is ic mc ms sa : Nat} {A : Nat → Prop}
    (hown : s.vm.findClass own = some m.cls) (hcls : Bundle.fit cls = true) (hnames : ∀ n ∈ names, Bundle.fit n = true)
    (hk : (Cond.classLink own ik cls).before args s = true) (hini : (Cond.initialized cls).before args s = true) (hstr : vk_R own is text sa s) (hat : ∀ w ∈ vx_atS own ic cls names, w.before args s = true)
    (hgood : ∀ w ∈ Cond.classLink own ik cls :: Cond.initialized cls :: vx_atS own ic cls names, vx_ot w = true)
    (hU : vx_Zq Bundle.tN "UNASSIGNED_STACK" Bundle.steD A s s.heap) (hN : vx_Zq Bundle.tN "SUPPRESSED_SENTINEL" Bundle.listD A s s.heap) (hS : va_S A s.heap H locs) (hsize : ls.size = c.maxLocals)
    (d0 : decode cc pc = .ok (.new ik, 3)) (d3 : decode cc (pc + 3) = .ok (.dup, 1)) (d4 : decode cc (pc + 4) = .ok (.ldc is, 2)) (d6 : decode cc (pc + 6) = .ok (.invokespecial ic, 3)) (d9 : decode cc (pc + 9) = .ok (.athrow, 1))
    (hout : ∀ x ∈ c.exceptionTable.toList, covers x (pc + 9) = false)
    (hRframes : names.length + 3 < R.frames) (hRlocals : (rest.map fun v => v.category).sum + (13 * (names.length + 1) + 43) ≤ R.locals) (hRcells : cells + 1 ≤ R.cells) (hRslots : slots + 6 ≤ R.slots) (hlocks : meth.locks = false)
    (hx : ∀ t : State, s.vm.Alike t.vm → H.size ≤ t.heap.size → (∀ q : Nat, q < H.size → t.heap[q]? = H[q]?) → XC cls s t)
    (hf : ∀ z ∈ locs, free z.base) (hc : cells + 1 ≤ mc) (hs : slots + 6 ≤ ms) :
    W p l e R s m args below meth c H locs cells slots (vx_MQ below Qc XC args s mc ms free) (F0 m pc ls rest) := by
  intro T hT X
  have htr : e.platform.stackTraces = false := (show e.platform.stackTraces = l.stackTraces by rw [X.admits.platform]).trans hl
  have Y := vx_rebase X (R' := { frames := R.frames, locals := R.locals, cells := 1, slots := 6 }) (Nat.le_refl _) (Nat.le_refl _) hRcells hRslots
  obtain ⟨s', hA⟩ : ∃ z, z = (T.setVm s.vm).setFrames (.invoking m args :: below) := ⟨_, rfl⟩
  rw [← hA] at Y
  have hvm : s'.vm = s.vm := by rw [hA]; rfl
  have hhp : s'.heap = H := by rw [hA]; exact hT
  have hW0 : s.WarmedH s'.vm := by rw [hvm]; exact State.WarmedH.refl s
  have hat' : ∀ w ∈ vx_atS own ic cls names, w.before args s' = true := fun w hw => vx_ot_at hW0 hvm.symm (hgood w (List.mem_cons_of_mem _ (List.mem_cons_of_mem _ hw))) (hat w hw)
  have hk' : (Cond.classLink own ik cls).before args s' = true := vx_ot_at hW0 hvm.symm (hgood _ List.mem_cons_self) hk
  have hini' : (Cond.initialized cls).before args s' = true := vx_ot_at hW0 hvm.symm (hgood _ (List.mem_cons_of_mem _ List.mem_cons_self)) hini
  have hU' : vx_Zq Bundle.tN "UNASSIGNED_STACK" Bundle.steD A s' s'.heap := by rw [hhp]; exact vx_Zq.moved hW0.alike (hU.kept hS.2.1)
  have hN' : vx_Zq Bundle.tN "SUPPRESSED_SENTINEL" Bundle.listD A s' s'.heap := by rw [hhp]; exact vx_Zq.moved hW0.alike (hN.kept hS.2.1)
  have h : ∀ w ∈ Bundle.ownAtoms own ic cls names, w.before args s' = true := vx_own hat' (vx_isRefq hU'.1) (vx_isRefq hN'.1) hU'.2.word hN'.2.word
  have hown' : s'.vm.findClass own = some m.cls := by rw [hvm]; exact hown
  have hins : (Cond.instantiable cls 6).before args s' = true := h _ (by simp [Bundle.ownAtoms])
  obtain ⟨vm₁, cX, kX, hfX, hkX, -, -, X₁, st1⟩ := Y.newCold hexec (own := own) (C := cls) (index := ik) (n := 6) hown' hk' hins hini'
    (g := F0 m pc ls rest) rfl (by rw [hb]; exact d0) (Nat.le_refl _) (Nat.le_refl _)
  generalize hT1 : (T.setVm vm₁).pushCell { cls := cX, slots := kX.instanceTypes.map defaultValue, vm := .none } = T1 at X₁ st1
  have hcat : (Value.ref T.heap.size).category = 1 := rfl
  have hcellA : T1.heap[T.heap.size]? = some (freshCell cX kX) := by rw [← hT1]; exact State.heap_pushCell_size _ _
  have d3' : decode c.code (pc + 3) = .ok (.dup, 1) := by rw [hb]; exact d3
  have d4' : decode c.code (pc + 4) = .ok (.ldc is, 2) := by rw [hb]; exact d4
  have hstr' : vk_R own is text sa s' := vk_R.warm hW0 hstr
  obtain ⟨U, hsteps, hrun, hend, hW, hsame, ce, hce, hO⟩ := X₁.ctorThrowS hexec htr (own := own) (cls := cls) (names := names) (ic := ic) hown' hcls hnames h (fun x hx => nomatch hx) hfX hkX hcellA (by rw [hhp, hT]; exact Nat.le_refl _) (msg := .ref sa) rfl
    (g := { method := m, pc := pc + 6, locals := ls, stack := .ref sa :: .ref T.heap.size :: .ref T.heap.size :: rest, locked := none }) rfl hsize rfl rfl (rest := rest) rfl
    (by rw [hb]; exact d6) (by rw [hb]; exact d9) hout hRframes (by simp only [List.map_cons, List.sum_cons, hcat]; omega) hlocks
  obtain ⟨f1, f2⟩ := vx_frame hsame
  rw [hhp] at f1 f2
  have hWs : s.WarmedH U.vm := State.WarmedH.trans hW0 hW
  have hcl : s.vm.findClass cls = some ce.cls := by
    have h9 := hO.cls
    rw [hvm] at h9
    exact h9
  have hall : s.sameButNew ({ U with vm := s.vm } : State) locs mc ms := by
    subst hA
    obtain ⟨e1, e2⟩ := hsame
    rw [State.setFrames_setFrames] at e1
    have h2 : (T.setVm s.vm).sameButNew ({ U with vm := s.vm } : State) [] (0 + 1) (0 + 6) := ⟨e1, e2⟩
    have h3 := X.same.trans h2
    rw [List.append_nil] at h3
    exact h3.mono hc hs
  refine ⟨U, ?_, .threw T.heap.size, hrun, hend, Or.inr ⟨T.heap.size, rfl, cls, ce, locs, hx U hWs.alike f1 (fun q hq => f2 q hq (fun z hz => nomatch hz)), hce, hO.vm, hcl, hWs, hall, hf⟩⟩
  refine st1 _ ?_
  show Steps p.tables e below (T1.setTop { method := m, pc := pc + 3, locals := ls, stack := .ref T.heap.size :: rest, locked := none }) _
  jvm_step X₁.here [X₁.here.top, hexec, d3', Value.category]
  exact X₁.ldcString hexec (own := own) (text := text) (index := is) (a := sa) hown' hstr'.1 hstr'.2
    (g := { method := m, pc := pc + 4, locals := ls, stack := .ref T.heap.size :: .ref T.heap.size :: rest, locked := none }) rfl d4' _ hsteps
/-- 'throw new E("text")', the text by a wide index -/
theorem vx_throwSW {cc : ByteArray} {pc : Nat} (hexec : p.tables.exec = Jvm.exec) (hb : c.code = cc) (hl : l.stackTraces = false) {own cls text : String} {names : List String} {ik is ic mc ms sa : Nat} {A : Nat → Prop}
    (hown : s.vm.findClass own = some m.cls) (hcls : Bundle.fit cls = true) (hnames : ∀ n ∈ names, Bundle.fit n = true)
    (hk : (Cond.classLink own ik cls).before args s = true) (hini : (Cond.initialized cls).before args s = true) (hstr : vk_R own is text sa s) (hat : ∀ w ∈ vx_atS own ic cls names, w.before args s = true)
    (hgood : ∀ w ∈ Cond.classLink own ik cls :: Cond.initialized cls :: vx_atS own ic cls names, vx_ot w = true)
    (hU : vx_Zq Bundle.tN "UNASSIGNED_STACK" Bundle.steD A s s.heap) (hN : vx_Zq Bundle.tN "SUPPRESSED_SENTINEL" Bundle.listD A s s.heap) (hS : va_S A s.heap H locs) (hsize : ls.size = c.maxLocals)
    (d0 : decode cc pc = .ok (.new ik, 3)) (d3 : decode cc (pc + 3) = .ok (.dup, 1)) (d4 : decode cc (pc + 4) = .ok (.ldc_w is, 3)) (d7 : decode cc (pc + 7) = .ok (.invokespecial ic, 3)) (d10 : decode cc (pc + 10) = .ok (.athrow, 1))
    (hout : ∀ x ∈ c.exceptionTable.toList, covers x (pc + 10) = false)
    (hRframes : names.length + 3 < R.frames) (hRlocals : (rest.map fun v => v.category).sum + (13 * (names.length + 1) + 43) ≤ R.locals) (hRcells : cells + 1 ≤ R.cells) (hRslots : slots + 6 ≤ R.slots) (hlocks : meth.locks = false)
    (hx : ∀ t : State, s.vm.Alike t.vm → H.size ≤ t.heap.size → (∀ q : Nat, q < H.size → t.heap[q]? = H[q]?) → XC cls s t)
    (hf : ∀ z ∈ locs, free z.base) (hc : cells + 1 ≤ mc) (hs : slots + 6 ≤ ms) :
    W p l e R s m args below meth c H locs cells slots (vx_MQ below Qc XC args s mc ms free) (F0 m pc ls rest) := by
  intro T hT X
  have htr : e.platform.stackTraces = false := (show e.platform.stackTraces = l.stackTraces by rw [X.admits.platform]).trans hl
  have Y := vx_rebase X (R' := { frames := R.frames, locals := R.locals, cells := 1, slots := 6 }) (Nat.le_refl _) (Nat.le_refl _) hRcells hRslots
  obtain ⟨s', hA⟩ : ∃ z, z = (T.setVm s.vm).setFrames (.invoking m args :: below) := ⟨_, rfl⟩
  rw [← hA] at Y
  have hvm : s'.vm = s.vm := by rw [hA]; rfl
  have hhp : s'.heap = H := by rw [hA]; exact hT
  have hW0 : s.WarmedH s'.vm := by rw [hvm]; exact State.WarmedH.refl s
  have hat' : ∀ w ∈ vx_atS own ic cls names, w.before args s' = true := fun w hw => vx_ot_at hW0 hvm.symm (hgood w (List.mem_cons_of_mem _ (List.mem_cons_of_mem _ hw))) (hat w hw)
  have hk' : (Cond.classLink own ik cls).before args s' = true := vx_ot_at hW0 hvm.symm (hgood _ List.mem_cons_self) hk
  have hini' : (Cond.initialized cls).before args s' = true := vx_ot_at hW0 hvm.symm (hgood _ (List.mem_cons_of_mem _ List.mem_cons_self)) hini
  have hU' : vx_Zq Bundle.tN "UNASSIGNED_STACK" Bundle.steD A s' s'.heap := by rw [hhp]; exact vx_Zq.moved hW0.alike (hU.kept hS.2.1)
  have hN' : vx_Zq Bundle.tN "SUPPRESSED_SENTINEL" Bundle.listD A s' s'.heap := by rw [hhp]; exact vx_Zq.moved hW0.alike (hN.kept hS.2.1)
  have h : ∀ w ∈ Bundle.ownAtoms own ic cls names, w.before args s' = true := vx_own hat' (vx_isRefq hU'.1) (vx_isRefq hN'.1) hU'.2.word hN'.2.word
  have hown' : s'.vm.findClass own = some m.cls := by rw [hvm]; exact hown
  have hins : (Cond.instantiable cls 6).before args s' = true := h _ (by simp [Bundle.ownAtoms])
  obtain ⟨vm₁, cX, kX, hfX, hkX, -, -, X₁, st1⟩ := Y.newCold hexec (own := own) (C := cls) (index := ik) (n := 6) hown' hk' hins hini'
    (g := F0 m pc ls rest) rfl (by rw [hb]; exact d0) (Nat.le_refl _) (Nat.le_refl _)
  generalize hT1 : (T.setVm vm₁).pushCell { cls := cX, slots := kX.instanceTypes.map defaultValue, vm := .none } = T1 at X₁ st1
  have hcat : (Value.ref T.heap.size).category = 1 := rfl
  have hcellA : T1.heap[T.heap.size]? = some (freshCell cX kX) := by rw [← hT1]; exact State.heap_pushCell_size _ _
  have d3' : decode c.code (pc + 3) = .ok (.dup, 1) := by rw [hb]; exact d3
  have d4' : decode c.code (pc + 4) = .ok (.ldc_w is, 3) := by rw [hb]; exact d4
  have hstr' : vk_R own is text sa s' := vk_R.warm hW0 hstr
  obtain ⟨U, hsteps, hrun, hend, hW, hsame, ce, hce, hO⟩ := X₁.ctorThrowS hexec htr (own := own) (cls := cls) (names := names) (ic := ic) hown' hcls hnames h (fun x hx => nomatch hx) hfX hkX hcellA (by rw [hhp, hT]; exact Nat.le_refl _) (msg := .ref sa) rfl
    (g := { method := m, pc := pc + 7, locals := ls, stack := .ref sa :: .ref T.heap.size :: .ref T.heap.size :: rest, locked := none }) rfl hsize rfl rfl (rest := rest) rfl
    (by rw [hb]; exact d7) (by rw [hb]; exact d10) hout hRframes (by simp only [List.map_cons, List.sum_cons, hcat]; omega) hlocks
  obtain ⟨f1, f2⟩ := vx_frame hsame
  rw [hhp] at f1 f2
  have hWs : s.WarmedH U.vm := State.WarmedH.trans hW0 hW
  have hcl : s.vm.findClass cls = some ce.cls := by
    have h9 := hO.cls
    rw [hvm] at h9
    exact h9
  have hall : s.sameButNew ({ U with vm := s.vm } : State) locs mc ms := by
    subst hA
    obtain ⟨e1, e2⟩ := hsame
    rw [State.setFrames_setFrames] at e1
    have h2 : (T.setVm s.vm).sameButNew ({ U with vm := s.vm } : State) [] (0 + 1) (0 + 6) := ⟨e1, e2⟩
    have h3 := X.same.trans h2
    rw [List.append_nil] at h3
    exact h3.mono hc hs
  refine ⟨U, ?_, .threw T.heap.size, hrun, hend, Or.inr ⟨T.heap.size, rfl, cls, ce, locs, hx U hWs.alike f1 (fun q hq => f2 q hq (fun z hz => nomatch hz)), hce, hO.vm, hcl, hWs, hall, hf⟩⟩
  refine st1 _ ?_
  show Steps p.tables e below (T1.setTop { method := m, pc := pc + 3, locals := ls, stack := .ref T.heap.size :: rest, locked := none }) _
  jvm_step X₁.here [X₁.here.top, hexec, d3', Value.category]
  exact X₁.ldcStringW hexec (own := own) (text := text) (index := is) (a := sa) hown' hstr'.1 hstr'.2
    (g := { method := m, pc := pc + 4, locals := ls, stack := .ref T.heap.size :: .ref T.heap.size :: rest, locked := none }) rfl d4' _ hsteps
end Ends
section Bodies
variable {l : Launch}
theorem vx_ofW {y : MethodName} {ws ws' : List Cond} {rm : Room} {Pc : Array Value → State → Prop} {Qc : Array Value → State → Outcome → State → Prop} {XC : String → State → State → Prop} {mc ms : Nat} {free : Addr → Prop} {cc : ByteArray} {maxL : Nat} {ret : Option FieldType}
    (hy : plainName y.cls = true) (hw : ws = Cond.code y cc maxL ret :: ws')
    (body : ∀ p e s m args below meth c s₁, BodyLoose p l y (headSpec ws rm) cc maxL ret e s m args below meth c s₁ → c.maxLocals = maxL → (∀ x ∈ c.exceptionTable.toList, False) → Pc args s →
      W p l e (headSpec ws rm).room s m args below meth c s.heap [] 0 0 (vx_MQ below Qc XC args s mc ms free) (entryFrame m args maxL)) : vx_Met l y ws rm Pc Qc XC mc ms free := by
  refine MetFree.of_bodyS (code := cc) (maxLocals := maxL) (ret := ret) hy ?_ ?_
  · intro args s m h hn
    obtain ⟨meth, c, h1, h2, h3, h4, h5, h6, -, -⟩ := Cond.code_spec hn (atoms_spec (ws := ws) h _ (by rw [hw]; exact List.mem_cons_self))
    exact ⟨meth, c, h1, h2, h3, h4, h5, h6⟩
  · intro p e s m args below meth c s₁ B hml hP _
    have hh0 : s₁.heap = s.heap := by rw [B.state]; rfl
    have ht : ∀ x ∈ c.exceptionTable.toList, False := by
      obtain ⟨meth9, c9, h1, h2, -, -, -, -, h7, -⟩ := Cond.code_spec B.named (atoms_spec (ws := ws) B.pre _ (by rw [hw]; exact List.mem_cons_self))
      cases Option.some.inj (h1.symm.trans B.method)
      cases Option.some.inj (h2.symm.trans (Stand.of_body B).code)
      intro x hx
      rw [Array.isEmpty_iff.mp h7] at hx
      cases hx
    obtain ⟨t, a1, o, b1, b2, b3⟩ := body p e s m args below meth c s₁ B hml ht hP s₁ hh0 (Stand.of_body B)
    exact ⟨t, o, a1, b1, b2, b3⟩
/-- the table of a body with handlers -/
theorem vx_table {p : Program} {x y : MethodName} {S : Spec} {cc bytes : ByteArray} {maxL maxL' : Nat} {ret ret' : Option FieldType} {e : Env} {s s₁ : State} {m : MethodId} {args : Array Value} {below : List Frame} {meth : Method} {c : Code} {hh : List (Nat × Nat × Nat × Nat)}
    (B : BodyLoose p l y S cc maxL ret e s m args below meth c s₁) (h : (Cond.codeWith y bytes maxL' ret' hh).before args s = true) : c.exceptionTable.toList = tableOf hh := by
  obtain ⟨m9, meth9, c9, hn9, h1, h2, -, -, h6, -⟩ := Cond.codeWith_spec h
  cases Option.some.inj (hn9.symm.trans B.named)
  cases Option.some.inj (h1.symm.trans B.method)
  cases Option.some.inj (h2.symm.trans (Stand.of_body B).code)
  rw [← h6, table_eq]
end Bodies
end VXA
/-! ===== END ===== -/
/-! ===== BEGIN a static call of a method with an exception table ===== -/
section VXS
variable {p : Program} {l : Launch} {e : Env} {R : Room} {s : State} {m : MethodId} {args : Array Value} {below : List Frame} {meth : Method} {c : Code} {T : State} {H : Heap} {locs : List Loc} {cells slots : Nat}
abbrev vx_CSW (R : Room) (s : State) (args : Array Value) (own : String) (index : Nat) (y : MethodName) (bytes : ByteArray) (maxL : Nat) (ret : Option FieldType) (hh : List (Nat × Nat × Nat × Nat)) (ws : List Cond) (rm : Room) (mc ms n : Nat) : Prop :=
  (rm.cells = mc ∧ rm.slots = ms ∧ rm.frames + 1 ≤ R.frames ∧ 8 + (maxL + 11) + rm.locals ≤ R.locals ∧ (∀ w ∈ ws, ∀ (a' : Array Value) (U : State), s.WarmedH U.vm → w.before a' U = true) ∧ Cond.codeWith y bytes maxL ret hh ∈ ws) ∧
  (Cond.codeWith y bytes maxL ret hh).before args s = true ∧ (Cond.initialized y.cls).before args s = true ∧ (y.cls ≠ "java/lang/invoke/MethodHandle" ∧ y.cls ≠ "java/lang/invoke/VarHandle") ∧
  (∀ sig, parseMethodDescriptor y.desc = some sig → n = sig.parameters.length) ∧ (Cond.methodLink own index y).before args s = true ∧ (Cond.static y).before args s = true
theorem vx_cwSW {own : String} {index maxL mc ms : Nat} {y : MethodName} {bytes : ByteArray} {ret : Option FieldType} {hh : List (Nat × Nat × Nat × Nat)} {Ts ws ws' : List Cond} {rm : Room} (n : Nat) (ht : ∀ w ∈ Ts, w.before args s = true) (hT : GoodIn Ts (va_wsS own index y ws)) (hw : ws = Cond.codeWith y bytes maxL ret hh :: ws') (hrc : rm.cells = mc) (hrs : rm.slots = ms)
    (hd : y.cls ≠ "java/lang/invoke/MethodHandle" ∧ y.cls ≠ "java/lang/invoke/VarHandle" ∧ (parseMethodDescriptor y.desc).map (fun d => d.parameters.length) = some n) (hR : rm.frames + 1 ≤ R.frames ∧ 8 + (maxL + 11) + rm.locals ≤ R.locals) :
    vx_CSW R s args own index y bytes maxL ret hh ws rm mc ms n := by
  have ok : ∀ w ∈ va_wsS own index y ws, w.before args s = true := fun w h => ht w (hT w h).1
  have hG : GoodIn Ts ws := fun w h => hT w (by unfold va_wsS; exact List.mem_append_right _ h)
  have hc : Cond.codeWith y bytes maxL ret hh ∈ ws := by rw [hw]; exact List.mem_cons_self
  refine ⟨⟨hrc, hrs, hR.1, hR.2, pay_in ht hG, hc⟩, ht _ (hG _ hc).1, ok _ (by simp [va_wsS]), ⟨hd.1, hd.2.1⟩, fun sig h => ?_, ok _ (by simp [va_wsS]), ok _ (by simp [va_wsS])⟩
  have h2 := hd.2.2
  rw [h] at h2
  exact (Option.some.inj h2).symm
theorem vx_callSW (X : Stand p l e R s m args below meth c T locs cells slots) (hexec : p.tables.exec = Jvm.exec) {own : String} {index : Nat} {y : MethodName} {bytes : ByteArray} {maxL : Nat} {ret : Option FieldType} {hh : List (Nat × Nat × Nat × Nat)}
    (hown : s.vm.findClass own = some m.cls) (hlink : (Cond.methodLink own index y).before args s = true) (hstat : (Cond.static y).before args s = true) (hinit : (Cond.initialized y.cls).before args s = true)
    (hcode : (Cond.codeWith y bytes maxL ret hh).before args s = true) (hy : y.cls ≠ "java/lang/invoke/MethodHandle" ∧ y.cls ≠ "java/lang/invoke/VarHandle")
    {W9 : Nat} {Pre : Pt → Array Value → Prop} {Post : Pt → Array Value → Option Value → Pt → Prop} (hK : Back l R p e below s args y 3 W9 Pre Post)
    {g : JFrame} (hg : g.method = m) (hsize : g.locals.size = c.maxLocals) {argsL rest : List Value} (hlen : ∀ sig, parseMethodDescriptor y.desc = some sig → argsL.length = sig.parameters.length)
    (hstack : g.stack = argsL.reverse ++ rest) (hW : 2 * g.monitorRoom + (rest.map fun v => v.category).sum ≤ W9) (hdg : decode c.code g.pc = .ok (.invokestatic index, 3))
    (hpre : ∀ vm₁, s.WarmedH vm₁ → Pre ⟨T.setVm vm₁, locs, cells, slots⟩ argsL.toArray) :
    ∃ (v : Option Value) (vm₁ : Vm) (B : Pt), s.WarmedH vm₁ ∧ Stand p l e R s m args below meth c B.U B.locs B.cells B.slots ∧ Post ⟨T.setVm vm₁, locs, cells, slots⟩ argsL.toArray v B ∧
      ∀ target, Steps p.tables e below (B.U.setTop { g with pc := g.pc + 3, stack := v.toList ++ rest }) target → Steps p.tables e below (T.setTop g) target := by
  obtain ⟨mk, methM, cM, hnamed, hmethM, -, -, -, -, -, -, hsigM⟩ := Cond.codeWith_spec hcode
  have hstatic : methM.isStatic = true := Cond.static_spec hnamed hmethM hstat
  obtain ⟨kP, hkP, -⟩ := className_of_methodNamed hnamed
  have hinitP : kP.init = .initialized := Cond.initialized_spec (findClass_of_methodNamed hnamed) hkP hinit
  obtain ⟨vm₁, X₁, hstep₁⟩ := X.invokestatic hexec hown hlink hnamed hmethM hstatic hkP hinitP hy (g := g) hg (argsL := argsL) (rest := rest) (hlen _ hsigM) hstack hdg
  obtain ⟨v, B, X', hpost, hsteps⟩ := hK m meth c ⟨T.setVm vm₁, locs, cells, slots⟩ { g with stack := rest } (.invokestatic index) mk argsL.toArray X₁ hg hsize hdg hW (X₁.named hnamed) (hpre vm₁ X₁.warmed)
  exact ⟨v, vm₁, B, X₁.warmed, X', hpost, fun target h => hstep₁ _ fun acts => by rw [doInvoke_state]; exact hsteps.trans h⟩
theorem vx_runSW {y : MethodName} {bytes cc : ByteArray} {maxL nL mc ms n index : Nat} {ret : Option FieldType} {hh : List (Nat × Nat × Nat × Nat)} {ws : List Cond} {rm : Room} {Pc : Array Value → State → Prop} {Qc : Array Value → State → Outcome → State → Prop} {free : Addr → Prop} {Ts : List Cond} {own : String} {As rest : List Value} {g : JFrame}
    (S : CallFix p m c cc nL s args Ts own) (hM : Met l y ws rm Pc Qc mc ms free) (cw : vx_CSW R s args own index y bytes maxL ret hh ws rm mc ms n) (hp : PreS s H Pc As)
    (hg : g.method = m) (hn : As.length = n) (hsize : g.locals.size = nL) (hstack : g.stack = As.reverse ++ rest) (hW : 2 * g.monitorRoom + (rest.map fun v => v.category).sum ≤ 8) (hdg : decode cc g.pc = .ok (.invokestatic index, 3)) (hf : cells + mc ≤ R.cells ∧ slots + ms ≤ R.slots) :
    va_Run p l e R s m args below meth c H locs cells slots mc ms g rest (Qc As.toArray) (free) := by
  obtain ⟨⟨hrc, hrs, hfr, hlo, hws, hcw⟩, hcode, hini, hy, hlen, hl, hstt⟩ := cw
  have hK : Back l R p e below s args y 3 8 (PreOf R mc ms Pc) (PostOf Qc mc ms free) := va_backW (hh := hh) (bytes := bytes) (maxL := maxL) (ret := ret) hM hp.1 hrc hrs hfr hlo hws hcw (fun a' U hW => word_at hW (Or.inl (by first | rfl | simp [Cond.onTables, Cond.keeps, Cond.steady])) hini)
  obtain ⟨hx, hb, hml, ho, -⟩ := S
  intro T hT X
  obtain ⟨v, vm₁, ⟨U', l2, c2, s2⟩, hW₁, X', ⟨g', mk, t, L, e1, e2, hq, h1, hL, h2, h3⟩, st⟩ := vx_callSW X hx (hh := hh) (bytes := bytes) (maxL := maxL) (ret := ret) ho hl hstt hini hcode hy hK hg (hsize.trans hml.symm) (argsL := As) (rest := rest) (fun sig h => hn.trans (hlen sig h)) hstack hW (by rw [hb]; exact hdg)
    (fun vm₁ hW₁ => ⟨hf.1, hf.2, hp.2 (T.setVm vm₁) hT hW₁⟩)
  dsimp only [Pt.U, Pt.locs, Pt.cells, Pt.slots] at X' e1 e2 h1 h2 h3 st
  subst h1; subst h2; subst h3
  exact ⟨v, (T.setVm vm₁).calling g' mk As.toArray, t, U', L, hT, X', hL, e1, e2, hq, st⟩
/-- not caught here, past rows that name other classes: it goes on to the caller -/
theorem vx_outP {p : Program} {l : Launch} {e : Env} {R : Room} {s : State} {m : MethodId} {args : Array Value} {below : List Frame} {meth : Method} {c : Code} {H : Heap} {locs : List Loc} {cells slots : Nat} {free : Addr → Prop} {ls : Array Slot} {rest : List Value} {Qc : Array Value → State → Outcome → State → Prop} {XC : String → State → State → Prop}
    {pc : Nat} {own E : String} {ce : Cell} {q : Addr} {mc ms : Nat} (hown : s.vm.findClass own = some m.cls) (hlocks : meth.locks = false)
    (hpass : ∀ z ∈ c.exceptionTable.toList, covers z pc = false ∨ (z.catchType ≠ 0 ∧ ∃ nm : String, (Cond.classLink own z.catchType nm).before args s = true ∧ va_Nc E nm s)) (hcell : H[q]? = some ce) (hv : ce.vm = .none) (hcl : s.vm.findClass E = some ce.cls)
    (hx : ∀ t : State, t.heap = H → s.vm.Alike t.vm → XC E s t) (hf : ∀ z ∈ locs, free z.base) (hc : cells ≤ mc) (hs : slots ≤ ms) :
    vx_W p l e R s m args below meth c H locs cells slots (vx_MQ below Qc XC args s mc ms free) (F0 m pc ls rest) q := by
  intro T hT X
  have hpl : e.platform.magicAccessors = ({} : Platform).magicAccessors := by rw [X.admits.platform]
  obtain ⟨vm', hW', X', st⟩ := X.outThrough hlocks q (g := F0 m pc ls rest) rfl rfl rfl (cell := ce) (by rw [hT]; exact hcell) (by rw [hv]; rfl)
    (by obtain ⟨k9, h9, -⟩ := Vm.findClass_spec hcl; exact ⟨k9, h9⟩) (fun z hz => by
      rcases hpass z hz with h | ⟨hz0, nm, hl1, hn1⟩
      · exact Or.inl h
      · obtain ⟨c6, hc6, hcl6⟩ := Cond.classLink_spec hown hl1 e.platform hpl
        obtain ⟨a8, b8, h1, h2, h3⟩ := hn1
        cases Option.some.inj (h1.symm.trans hcl)
        cases Option.some.inj (h2.symm.trans hc6)
        exact Or.inr ⟨hz0, _, hcl6, h3⟩)
  obtain ⟨g₀, hfr⟩ := X'.frames_eq
  have hcell9 : ((T.setVm vm').setFrames (.throwing q :: below)).heap[q]? = some ce := by
    show T.heap[q]? = some ce
    rw [hT]; exact hcell
  have hend : Ended ((T.setVm vm').setFrames (.throwing q :: below)) below (.threw q) := State.frames_setFrames _ (State.cur_lt_of_frames hfr)
  refine ⟨(T.setVm vm').setFrames (.throwing q :: below), ?_, .threw q, X'.here.running, hend, Or.inr ⟨q, rfl, E, ce, locs, hx _ hT (X'.ends _).1.alike, hcell9, hv, hcl, (X'.ends _).1, (X'.ends _).2.mono hc hs, hf⟩⟩
  rw [X.pushThrowing_eq]
  exact st
/-- a thing of a world lies in the heap -/
theorem vx_lt {D : va_G} {cl : List vw_C} {ws : va_W} {H1 : Heap} (h : va_P D cl ws H1) {k : Nat} {q : Nat × va_E} (hk : ws[k]? = some q) : q.1 < H1.size := (h k q hk).lt
end VXS
/-! ===== END ===== -/
/-! ===== BEGIN methods with a table of their own: called by a name, returning or throwing ===== -/
section VXH
/-! vx_backW, vx_callVX, vx_callSX, vx_callVW, vx_runVW, vx_runVX, vx_runSX, vx_ofWH follow the same proofs as their sisters above (Free/Laws.lean, Shelf42/LK1.lean); vx_outP calls Shelf42/NT130.lean (outThrough). -/
section
variable {l : Launch} {R : Room} {p : Program} {e : Env} {below : List Frame} {s : State} {sargs : Array Value} {y : MethodName} {len W9 : Nat}
theorem vx_backW {ws : List Cond} {rm : Room} {Pc : Array Value → State → Prop} {Qc : Array Value → State → Outcome → State → Prop} {XC : String → State → State → Prop} {mc ms : Nat} {free : Addr → Prop} {bytes : ByteArray} {maxL : Nat} {ret : Option FieldType} {hh : List (Nat × Nat × Nat × Nat)}
    (hM : vx_Met l y ws rm Pc Qc XC mc ms free) (hblind : FrameBlind Pc) (hrc : rm.cells = mc) (hrs : rm.slots = ms)
    (hframes : rm.frames + 1 ≤ R.frames) (hlocals : W9 + (maxL + 11) + rm.locals ≤ R.locals)
    (hws : ∀ w ∈ ws, ∀ a' U, s.WarmedH U.vm → w.before a' U = true) (hcode : Cond.codeWith y bytes maxL ret hh ∈ ws) (hinit : ∀ a' U, s.WarmedH U.vm → (Cond.initialized y.cls).before a' U = true) :
    vx_Back l R p e below s sargs y len W9 (PreOf R mc ms Pc) (PostOf Qc mc ms free) (vx_Post XC mc ms free) := by
  intro m meth c A g ig mk a X hg hsize hdg hW hn hp
  have h1 : (headSpec ws rm).pre.before a A.U = true := atoms_intro fun w hw => hws w hw _ _ X.warmed
  have h2 : (Cond.codeWith y bytes maxL ret hh).before a A.U = true := hws _ hcode _ _ X.warmed
  have h3 : (Cond.initialized y.cls).before a A.U = true := hinit _ _ X.warmed
  have h4 : A.cells + (headSpec ws rm).room.cells ≤ R.cells := by rw [show (headSpec ws rm).room.cells = mc from hrc]; exact hp.1
  have h5 : A.slots + (headSpec ws rm).room.slots ≤ R.slots := by rw [show (headSpec ws rm).room.slots = ms from hrs]; exact hp.2.1
  have hPc : Pc a (A.U.calling g mk a) := hblind _ _ _ _ hp.2.2
  obtain ⟨U, Ls, c0, s0⟩ := A
  dsimp only [Pt.U, Pt.locs, Pt.cells, Pt.slots] at h1 h2 h3 h4 h5 X hn hPc ⊢
  obtain ⟨m9, methY, cY, hn9, hmY, hcY, -, hlY, -⟩ := Cond.codeWith_spec h2
  cases Option.some.inj (hn9.symm.trans hn)
  obtain ⟨kY, hkY, -⟩ := className_of_methodNamed hn
  have hinitY : kY.init = .initialized := Cond.initialized_spec (findClass_of_methodNamed hn) hkY h3
  have h : At U g.method c below := by rw [hg]; exact X.here
  have hlocals9 : W9 + (maxL + 11) + (headSpec ws rm).room.locals ≤ R.locals := hlocals
  have happ : (headSpec ws rm).appliesLoose y e.platform (U.calling g mk a) = true :=
    Spec.appliesLoose_calling (g := g) h hdg hn hkY hinitY
      (X.room_calling (g := g) (R' := (headSpec ws rm).room) hsize hmY hcY hframes (by rw [hlY]; omega) h4 h5) h1
  obtain ⟨mid, hmid⟩ := h.above
  have hfr : (U.setTop g).frames = (.java g :: mid) ++ below := by rw [State.frames_setTop' g h.top, hmid]; rfl
  obtain ⟨o, s₂, hsteps, -, hend, hq⟩ := Steps.callFree hM p X.admits X.cas X.clock (acts := []) hfr happ hPc trivial
  have hq' : vx_Q Qc XC mc ms free a (U.calling g mk a) o s₂ := hq
  rw [State.frames_setTop' g h.top] at hend
  obtain ⟨g₀, hg0⟩ := Option.isSome_iff_exists.mp h.top
  obtain ⟨r, hr⟩ := State.topJava?_eq_some.mp hg0
  have hr' : (({ U with heap := s₂.heap, slotsUsed := s₂.slotsUsed } : State).setVm s₂.vm).frames = .java g₀ :: r := hr
  rcases hq' with ⟨hqc, L, hfe, hL⟩ | ⟨q, rfl, E, ce, L, hx, hce, hcv, hcl, hW₂, hsm, hL⟩
  · obtain ⟨⟨v, rfl⟩, hW₂, e2, q2, q3, q4, q5, q6⟩ := id hfe
    have e3 : s₂ = ({ (U.calling g mk a).setFrames s₂.frames with heap := s₂.heap, slotsUsed := s₂.slotsUsed } : State).setVm s₂.vm := by
      have : s₂ = ({ s₂ with vm := (U.calling g mk a).vm } : State).setVm s₂.vm := rfl
      rw [e2] at this
      exact this
    obtain ⟨c₂, i₂, len₂, hc₂, hd₂, hf₂⟩ := hend
    have hW' : U.WarmedH s₂.vm := hW₂
    have hcc : c₂ = c := by
      have h1 : s₂.code? g.method = U.code? g.method := by
        rw [State.code?_eq, State.code?_eq, hW'.alike.method?]
      exact Option.some.inj (hc₂.symm.trans (h1.trans h.code))
    subst hcc
    have hlen : len₂ = len := by rw [hdg] at hd₂; cases hd₂; rfl
    subst hlen
    have hs₂ : s₂ = (({ U with heap := s₂.heap, slotsUsed := s₂.slotsUsed } : State).setVm s₂.vm).setTop { g with pc := g.pc + len₂, stack := v.toList ++ g.stack } := by
      refine e3.trans ?_
      rw [hf₂, State.calling_eq h.top, State.setFrames_setFrames, State.setTop_of_frames _ hr', hr]
      rfl
    have hsame : U.sameButNew ({ U with heap := s₂.heap, slotsUsed := s₂.slotsUsed } : State) L mc ms := by
      refine ⟨?_, q2, q3, q4, q5, q6⟩
      obtain ⟨t, ht, -⟩ := State.frames_cons hr
      show ({ U with heap := s₂.heap, slotsUsed := s₂.slotsUsed } : State) = { U.setFrames U.frames with heap := s₂.heap, slotsUsed := s₂.slotsUsed }
      rw [State.setFrames_self ht]
    subst hg
    refine Or.inl ⟨v, ⟨(({ U with heap := s₂.heap, slotsUsed := s₂.slotsUsed } : State).setVm s₂.vm), Ls ++ L, c0 + mc, s0 + ms⟩,
      ⟨X.admits, X.cas, X.clock, X.frames, X.room, X.hears, X.method, X.code, (X.here.setHeapUsed s₂.heap s₂.slotsUsed).setVm hW'.alike, X.tail, State.WarmedH.trans X.warmed hW', X.limits, X.bytes, X.same.trans (hsame.setVm s.vm)⟩,
      ⟨g, mk, s₂, L, rfl, rfl, hqc, rfl, hL, rfl, rfl⟩, ?_⟩
    show Steps p.tables e below _ ((({ U with heap := s₂.heap, slotsUsed := s₂.slotsUsed } : State).setVm s₂.vm).setTop { g with pc := g.pc + len₂, stack := v.toList ++ g.stack })
    rw [← hs₂]
    exact hsteps
  · obtain ⟨e2, q2, q3, q4, q5, q6⟩ := id hsm
    have e3 : s₂ = ({ (U.calling g mk a).setFrames s₂.frames with heap := s₂.heap, slotsUsed := s₂.slotsUsed } : State).setVm s₂.vm := by
      have : s₂ = ({ s₂ with vm := (U.calling g mk a).vm } : State).setVm s₂.vm := rfl
      rw [e2] at this
      exact this
    have hf₂ : s₂.frames = .throwing q :: .java g :: U.frames.tail := hend
    have hW' : U.WarmedH s₂.vm := hW₂
    have hs₂ : s₂ = ((({ U with heap := s₂.heap, slotsUsed := s₂.slotsUsed } : State).setVm s₂.vm).setTop g).pushFrame (.throwing q) := by
      refine e3.trans ?_
      rw [hf₂, State.calling_eq h.top, State.setFrames_setFrames, State.pushFrame, State.frames_setTop _ hr', State.setTop_of_frames _ hr', State.setFrames_setFrames, hr]
      rfl
    have hsame : U.sameButNew ({ U with heap := s₂.heap, slotsUsed := s₂.slotsUsed } : State) L mc ms := by
      refine ⟨?_, q2, q3, q4, q5, q6⟩
      obtain ⟨t, ht, -⟩ := State.frames_cons hr
      show ({ U with heap := s₂.heap, slotsUsed := s₂.slotsUsed } : State) = { U.setFrames U.frames with heap := s₂.heap, slotsUsed := s₂.slotsUsed }
      rw [State.setFrames_self ht]
    subst hg
    refine Or.inr ⟨q, ⟨(({ U with heap := s₂.heap, slotsUsed := s₂.slotsUsed } : State).setVm s₂.vm), Ls ++ L, c0 + mc, s0 + ms⟩,
      ⟨X.admits, X.cas, X.clock, X.frames, X.room, X.hears, X.method, X.code, (X.here.setHeapUsed s₂.heap s₂.slotsUsed).setVm hW'.alike, X.tail, State.WarmedH.trans X.warmed hW', X.limits, X.bytes, X.same.trans (hsame.setVm s.vm)⟩,
      ⟨g, mk, s₂, L, E, ce, rfl, rfl, hx, hce, hcv, hcl, rfl, hL, rfl, rfl⟩, ?_⟩
    show Steps p.tables e below _ (((({ U with heap := s₂.heap, slotsUsed := s₂.slotsUsed } : State).setVm s₂.vm).setTop g).pushFrame (.throwing q))
    rw [← hs₂]
    exact hsteps
end
variable {p : Program} {l : Launch} {e : Env} {R : Room} {s : State} {m : MethodId} {args : Array Value} {below : List Frame} {meth : Method} {c : Code} {T : State} {H : Heap} {locs : List Loc} {cells slots : Nat}
theorem vx_callVX (X : Stand p l e R s m args below meth c T locs cells slots) (hexec : p.tables.exec = Jvm.exec) {own C : String} {index : Nat} {y : MethodName} {bytes : ByteArray} {maxL : Nat} {ret : Option FieldType} {hh : List (Nat × Nat × Nat × Nat)}
    (hown : s.vm.findClass own = some m.cls) (hlink : (Cond.methodLink own index y).before args s = true) (hinst : (Cond.instanceMethod y).before args s = true) (hsel : (Cond.selects C y y).before args s = true)
    (hcode : (Cond.codeWith y bytes maxL ret hh).before args s = true) (hy : y.cls ≠ "java/lang/invoke/MethodHandle" ∧ y.cls ≠ "java/lang/invoke/VarHandle")
    {W9 : Nat} {Pre : Pt → Array Value → Prop} {Post : Pt → Array Value → Option Value → Pt → Prop} {PostX : Pt → Array Value → Addr → Pt → Prop} (hK : vx_Back l R p e below s args y 3 W9 Pre Post PostX)
    {b : Addr} {cellB : Cell} (hcell : T.heap[b]? = some cellB) (hobj : cellB.vm.isStatics = false) (hcls : s.vm.findClass C = some cellB.cls)
    {g : JFrame} (hg : g.method = m) (hsize : g.locals.size = c.maxLocals) {argsL rest : List Value} (hlen : ∀ sig, parseMethodDescriptor y.desc = some sig → argsL.length = sig.parameters.length)
    (hstack : g.stack = argsL.reverse ++ .ref b :: rest) (hW : 2 * g.monitorRoom + (rest.map fun v => v.category).sum ≤ W9) (hdg : decode c.code g.pc = .ok (.invokevirtual index, 3))
    (hpre : ∀ vm₁, s.WarmedH vm₁ → Pre ⟨T.setVm vm₁, locs, cells, slots⟩ (Value.ref b :: argsL).toArray) :
    (∃ (v : Option Value) (vm₁ : Vm) (B : Pt), s.WarmedH vm₁ ∧ Stand p l e R s m args below meth c B.U B.locs B.cells B.slots ∧ Post ⟨T.setVm vm₁, locs, cells, slots⟩ (Value.ref b :: argsL).toArray v B ∧
      ∀ target, Steps p.tables e below (B.U.setTop { g with pc := g.pc + 3, stack := v.toList ++ rest }) target → Steps p.tables e below (T.setTop g) target) ∨
    (∃ (q : Addr) (vm₁ : Vm) (B : Pt), s.WarmedH vm₁ ∧ Stand p l e R s m args below meth c B.U B.locs B.cells B.slots ∧ PostX ⟨T.setVm vm₁, locs, cells, slots⟩ (Value.ref b :: argsL).toArray q B ∧
      Steps p.tables e below (T.setTop g) ((B.U.setTop { g with stack := rest }).pushFrame (.throwing q))) := by
  obtain ⟨mk, methM, hnamed, hmethM, hstM, habM⟩ := Cond.instanceMethod_spec hinst
  obtain ⟨m8, methM', cM, hn8, hmethM', -, -, -, -, -, -, hsigM⟩ := Cond.codeWith_spec hcode
  cases Option.some.inj (hn8.symm.trans hnamed)
  cases hmethM.symm.trans hmethM'
  obtain ⟨c2, r2, m2, q1, q2, q3, q4, kP, hkP, hkPi⟩ := Cond.selects_spec hsel
  cases hcls.symm.trans q1
  cases (State.methodFound?_of_named hnamed hy).symm.trans q2
  cases hnamed.symm.trans q3
  have hselP : selectMethod e.platform s.vm cellB.cls mk = .method mk := by rw [Launch.admits_selectMethod X.admits]; exact q4
  obtain ⟨vm₁, X₁, hstep₁⟩ := X.invokevirtual hexec hown hlink hnamed hmethM hstM hkP hkPi hy (a := b) (cell := cellB) hcell
    (fun z h => by rw [h] at hobj; cases hobj) hselP hmethM habM hkP hkPi (g := g) hg (argsL := argsL) (rest := rest) (hlen _ hsigM) hstack hdg
  rcases hK m meth c ⟨T.setVm vm₁, locs, cells, slots⟩ { g with stack := rest } (.invokevirtual index) mk (Value.ref b :: argsL).toArray X₁ hg hsize hdg hW (X₁.named hnamed) (hpre vm₁ X₁.warmed) with ⟨v, B, X', hpost, hsteps⟩ | ⟨q, B, X', hpost, hsteps⟩
  · exact Or.inl ⟨v, vm₁, B, X₁.warmed, X', hpost, fun target h => hstep₁ _ fun acts => by rw [doInvoke_state]; exact hsteps.trans h⟩
  · exact Or.inr ⟨q, vm₁, B, X₁.warmed, X', hpost, hstep₁ _ fun acts => by rw [doInvoke_state]; exact hsteps⟩
theorem vx_callSX (X : Stand p l e R s m args below meth c T locs cells slots) (hexec : p.tables.exec = Jvm.exec) {own : String} {index : Nat} {y : MethodName} {bytes : ByteArray} {maxL : Nat} {ret : Option FieldType} {hh : List (Nat × Nat × Nat × Nat)}
    (hown : s.vm.findClass own = some m.cls) (hlink : (Cond.methodLink own index y).before args s = true) (hstat : (Cond.static y).before args s = true) (hinit : (Cond.initialized y.cls).before args s = true)
    (hcode : (Cond.codeWith y bytes maxL ret hh).before args s = true) (hy : y.cls ≠ "java/lang/invoke/MethodHandle" ∧ y.cls ≠ "java/lang/invoke/VarHandle")
    {W9 : Nat} {Pre : Pt → Array Value → Prop} {Post : Pt → Array Value → Option Value → Pt → Prop} {PostX : Pt → Array Value → Addr → Pt → Prop} (hK : vx_Back l R p e below s args y 3 W9 Pre Post PostX)
    {g : JFrame} (hg : g.method = m) (hsize : g.locals.size = c.maxLocals) {argsL rest : List Value} (hlen : ∀ sig, parseMethodDescriptor y.desc = some sig → argsL.length = sig.parameters.length)
    (hstack : g.stack = argsL.reverse ++ rest) (hW : 2 * g.monitorRoom + (rest.map fun v => v.category).sum ≤ W9) (hdg : decode c.code g.pc = .ok (.invokestatic index, 3))
    (hpre : ∀ vm₁, s.WarmedH vm₁ → Pre ⟨T.setVm vm₁, locs, cells, slots⟩ argsL.toArray) :
    (∃ (v : Option Value) (vm₁ : Vm) (B : Pt), s.WarmedH vm₁ ∧ Stand p l e R s m args below meth c B.U B.locs B.cells B.slots ∧ Post ⟨T.setVm vm₁, locs, cells, slots⟩ argsL.toArray v B ∧
      ∀ target, Steps p.tables e below (B.U.setTop { g with pc := g.pc + 3, stack := v.toList ++ rest }) target → Steps p.tables e below (T.setTop g) target) ∨
    (∃ (q : Addr) (vm₁ : Vm) (B : Pt), s.WarmedH vm₁ ∧ Stand p l e R s m args below meth c B.U B.locs B.cells B.slots ∧ PostX ⟨T.setVm vm₁, locs, cells, slots⟩ argsL.toArray q B ∧
      Steps p.tables e below (T.setTop g) ((B.U.setTop { g with stack := rest }).pushFrame (.throwing q))) := by
  obtain ⟨mk, methM, cM, hnamed, hmethM, -, -, -, -, -, -, hsigM⟩ := Cond.codeWith_spec hcode
  have hstatic : methM.isStatic = true := Cond.static_spec hnamed hmethM hstat
  obtain ⟨kP, hkP, -⟩ := className_of_methodNamed hnamed
  have hinitP : kP.init = .initialized := Cond.initialized_spec (findClass_of_methodNamed hnamed) hkP hinit
  obtain ⟨vm₁, X₁, hstep₁⟩ := X.invokestatic hexec hown hlink hnamed hmethM hstatic hkP hinitP hy (g := g) hg (argsL := argsL) (rest := rest) (hlen _ hsigM) hstack hdg
  rcases hK m meth c ⟨T.setVm vm₁, locs, cells, slots⟩ { g with stack := rest } (.invokestatic index) mk argsL.toArray X₁ hg hsize hdg hW (X₁.named hnamed) (hpre vm₁ X₁.warmed) with ⟨v, B, X', hpost, hsteps⟩ | ⟨q, B, X', hpost, hsteps⟩
  · exact Or.inl ⟨v, vm₁, B, X₁.warmed, X', hpost, fun target h => hstep₁ _ fun acts => by rw [doInvoke_state]; exact hsteps.trans h⟩
  · exact Or.inr ⟨q, vm₁, B, X₁.warmed, X', hpost, hstep₁ _ fun acts => by rw [doInvoke_state]; exact hsteps⟩
theorem vx_callVW (X : Stand p l e R s m args below meth c T locs cells slots) (hexec : p.tables.exec = Jvm.exec) {own C : String} {index : Nat} {y : MethodName} {bytes : ByteArray} {maxL : Nat} {ret : Option FieldType} {hh : List (Nat × Nat × Nat × Nat)}
    (hown : s.vm.findClass own = some m.cls) (hlink : (Cond.methodLink own index y).before args s = true) (hinst : (Cond.instanceMethod y).before args s = true) (hsel : (Cond.selects C y y).before args s = true)
    (hcode : (Cond.codeWith y bytes maxL ret hh).before args s = true) (hy : y.cls ≠ "java/lang/invoke/MethodHandle" ∧ y.cls ≠ "java/lang/invoke/VarHandle")
    {W9 : Nat} {Pre : Pt → Array Value → Prop} {Post : Pt → Array Value → Option Value → Pt → Prop} (hK : Back l R p e below s args y 3 W9 Pre Post)
    {b : Addr} {cellB : Cell} (hcell : T.heap[b]? = some cellB) (hobj : cellB.vm.isStatics = false) (hcls : s.vm.findClass C = some cellB.cls)
    {g : JFrame} (hg : g.method = m) (hsize : g.locals.size = c.maxLocals) {argsL rest : List Value} (hlen : ∀ sig, parseMethodDescriptor y.desc = some sig → argsL.length = sig.parameters.length)
    (hstack : g.stack = argsL.reverse ++ .ref b :: rest) (hW : 2 * g.monitorRoom + (rest.map fun v => v.category).sum ≤ W9) (hdg : decode c.code g.pc = .ok (.invokevirtual index, 3))
    (hpre : ∀ vm₁, s.WarmedH vm₁ → Pre ⟨T.setVm vm₁, locs, cells, slots⟩ (Value.ref b :: argsL).toArray) :
    ∃ (v : Option Value) (vm₁ : Vm) (B : Pt), s.WarmedH vm₁ ∧ Stand p l e R s m args below meth c B.U B.locs B.cells B.slots ∧ Post ⟨T.setVm vm₁, locs, cells, slots⟩ (Value.ref b :: argsL).toArray v B ∧
      ∀ target, Steps p.tables e below (B.U.setTop { g with pc := g.pc + 3, stack := v.toList ++ rest }) target → Steps p.tables e below (T.setTop g) target := by
  obtain ⟨mk, methM, hnamed, hmethM, hstM, habM⟩ := Cond.instanceMethod_spec hinst
  obtain ⟨m8, methM', cM, hn8, hmethM', -, -, -, -, -, -, hsigM⟩ := Cond.codeWith_spec hcode
  cases Option.some.inj (hn8.symm.trans hnamed)
  cases hmethM.symm.trans hmethM'
  obtain ⟨c2, r2, m2, q1, q2, q3, q4, kP, hkP, hkPi⟩ := Cond.selects_spec hsel
  cases hcls.symm.trans q1
  cases (State.methodFound?_of_named hnamed hy).symm.trans q2
  cases hnamed.symm.trans q3
  have hselP : selectMethod e.platform s.vm cellB.cls mk = .method mk := by rw [Launch.admits_selectMethod X.admits]; exact q4
  obtain ⟨vm₁, X₁, hstep₁⟩ := X.invokevirtual hexec hown hlink hnamed hmethM hstM hkP hkPi hy (a := b) (cell := cellB) hcell
    (fun z h => by rw [h] at hobj; cases hobj) hselP hmethM habM hkP hkPi (g := g) hg (argsL := argsL) (rest := rest) (hlen _ hsigM) hstack hdg
  obtain ⟨v, B, X', hpost, hsteps⟩ := hK m meth c ⟨T.setVm vm₁, locs, cells, slots⟩ { g with stack := rest } (.invokevirtual index) mk (Value.ref b :: argsL).toArray X₁ hg hsize hdg hW (X₁.named hnamed) (hpre vm₁ X₁.warmed)
  exact ⟨v, vm₁, B, X₁.warmed, X', hpost, fun target h => hstep₁ _ fun acts => by rw [doInvoke_state]; exact hsteps.trans h⟩
abbrev vx_CVW (R : Room) (s : State) (args : Array Value) (own C : String) (index : Nat) (y : MethodName) (bytes : ByteArray) (maxL : Nat) (ret : Option FieldType) (hh : List (Nat × Nat × Nat × Nat)) (ws : List Cond) (rm : Room) (mc ms n : Nat) : Prop :=
  (rm.cells = mc ∧ rm.slots = ms ∧ rm.frames + 1 ≤ R.frames ∧ 8 + (maxL + 11) + rm.locals ≤ R.locals ∧ (∀ w ∈ ws, ∀ (a' : Array Value) (U : State), s.WarmedH U.vm → w.before a' U = true) ∧ Cond.codeWith y bytes maxL ret hh ∈ ws) ∧
  (Cond.codeWith y bytes maxL ret hh).before args s = true ∧ (Cond.initialized y.cls).before args s = true ∧ (y.cls ≠ "java/lang/invoke/MethodHandle" ∧ y.cls ≠ "java/lang/invoke/VarHandle") ∧
  (∀ sig, parseMethodDescriptor y.desc = some sig → n = sig.parameters.length) ∧ (Cond.methodLink own index y).before args s = true ∧ (Cond.instanceMethod y).before args s = true ∧ (Cond.selects C y y).before args s = true
theorem vx_cwVW {own C : String} {index maxL mc ms : Nat} {y : MethodName} {bytes : ByteArray} {ret : Option FieldType} {hh : List (Nat × Nat × Nat × Nat)} {Ts ws ws' : List Cond} {rm : Room} (n : Nat) (ht : ∀ w ∈ Ts, w.before args s = true) (hT : GoodIn Ts (wsV own index C y ws)) (hw : ws = Cond.codeWith y bytes maxL ret hh :: ws') (hrc : rm.cells = mc) (hrs : rm.slots = ms)
    (hd : y.cls = C ∧ y.cls ≠ "java/lang/invoke/MethodHandle" ∧ y.cls ≠ "java/lang/invoke/VarHandle" ∧ (parseMethodDescriptor y.desc).map (fun d => d.parameters.length) = some n) (hR : rm.frames + 1 ≤ R.frames ∧ 8 + (maxL + 11) + rm.locals ≤ R.locals) :
    vx_CVW R s args own C index y bytes maxL ret hh ws rm mc ms n := by
  obtain ⟨hC, hd⟩ := hd
  subst hC
  have ok : ∀ w ∈ wsV own index y.cls y ws, w.before args s = true := fun w h => ht w (hT w h).1
  have hG : GoodIn Ts ws := fun w h => hT w (by unfold wsV; exact List.mem_append_right _ h)
  have hc : Cond.codeWith y bytes maxL ret hh ∈ ws := by rw [hw]; exact List.mem_cons_self
  refine ⟨⟨hrc, hrs, hR.1, hR.2, pay_in ht hG, hc⟩, ht _ (hG _ hc).1, ok _ (by simp [wsV]), ⟨hd.1, hd.2.1⟩, fun sig h => ?_, ok _ (by simp [wsV]), ok _ (by simp [wsV]), ok _ (by simp [wsV])⟩
  have h2 := hd.2.2
  rw [h] at h2
  exact (Option.some.inj h2).symm
theorem vx_runVW {y : MethodName} {bytes cc : ByteArray} {maxL nL mc ms n index : Nat} {ret : Option FieldType} {hh : List (Nat × Nat × Nat × Nat)} {ws : List Cond} {rm : Room} {Pc : Array Value → State → Prop} {Qc : Array Value → State → Outcome → State → Prop} {free : Addr → Prop} {Ts : List Cond} {own C : String} {b : Addr} {As rest : List Value} {g : JFrame}
    (S : CallFix p m c cc nL s args Ts own) (hM : Met l y ws rm Pc Qc mc ms free) (cw : vx_CVW R s args own C index y bytes maxL ret hh ws rm mc ms n) (hp : PreV s H C b Pc As)
    (hg : g.method = m) (hn : As.length = n) (hsize : g.locals.size = nL) (hstack : g.stack = As.reverse ++ .ref b :: rest) (hW : 2 * g.monitorRoom + (rest.map fun v => v.category).sum ≤ 8) (hdg : decode cc g.pc = .ok (.invokevirtual index, 3)) (hf : cells + mc ≤ R.cells ∧ slots + ms ≤ R.slots) :
    va_Run p l e R s m args below meth c H locs cells slots mc ms g rest (Qc (Value.ref b :: As).toArray) free := by
  obtain ⟨⟨hrc, hrs, hfr, hlo, hws, hcw⟩, hcode, hini, hy, hlen, hl, hin, hse⟩ := cw
  have hK : Back l R p e below s args y 3 8 (PreOf R mc ms Pc) (PostOf Qc mc ms free) := va_backW (hh := hh) (bytes := bytes) (maxL := maxL) (ret := ret) hM hp.1 hrc hrs hfr hlo hws hcw (fun a' U hW => word_at hW (Or.inl (by first | rfl | simp [Cond.onTables, Cond.keeps, Cond.steady])) hini)
  obtain ⟨hx, hb, hml, ho, -⟩ := S
  obtain ⟨-, ⟨cellB, hcB, hoB, hclB⟩, hPc⟩ := hp
  intro T hT X
  obtain ⟨v, vm₁, ⟨U', l2, c2, s2⟩, hW₁, X', ⟨g', mk, t, L, e1, e2, hq, h1, hL, h2, h3⟩, st⟩ := vx_callVW X hx (C := C) (hh := hh) (bytes := bytes) (maxL := maxL) (ret := ret) ho hl hin hse hcode hy hK (by rw [hT]; exact hcB) hoB hclB hg (hsize.trans hml.symm) (argsL := As) (rest := rest) (fun sig h => hn.trans (hlen sig h)) hstack hW (by rw [hb]; exact hdg)
    (fun vm₁ hW₁ => ⟨hf.1, hf.2, hPc (T.setVm vm₁) hT hW₁⟩)
  dsimp only [Pt.U, Pt.locs, Pt.cells, Pt.slots] at X' e1 e2 h1 h2 h3 st
  subst h1; subst h2; subst h3
  exact ⟨v, (T.setVm vm₁).calling g' mk (Value.ref b :: As).toArray, t, U', L, hT, X', hL, e1, e2, hq, st⟩
section
variable {y : MethodName} {bytes cc : ByteArray} {maxL nL mc ms n index : Nat} {ret : Option FieldType} {ws : List Cond} {rm : Room} {Pc : Array Value → State → Prop} {Qc : Array Value → State → Outcome → State → Prop} {XC : String → State → State → Prop} {free : Addr → Prop} {Ts : List Cond} {own C : String} {b : Addr} {As rest : List Value} {g : JFrame}
theorem vx_runVX {hh : List (Nat × Nat × Nat × Nat)} (S : CallFix p m c cc nL s args Ts own) (hM : vx_Met l y ws rm Pc Qc XC mc ms free) (cw : vx_CVW R s args own C index y bytes maxL ret hh ws rm mc ms n) (hp : PreV s H C b Pc As)
    (hg : g.method = m) (hn : As.length = n) (hsize : g.locals.size = nL) (hstack : g.stack = As.reverse ++ .ref b :: rest) (hW : 2 * g.monitorRoom + (rest.map fun v => v.category).sum ≤ 8) (hdg : decode cc g.pc = .ok (.invokevirtual index, 3)) (hf : cells + mc ≤ R.cells ∧ slots + ms ≤ R.slots) :
    vx_Run p l e R s m args below meth c H locs cells slots mc ms g rest (Qc (Value.ref b :: As).toArray) XC free := by
  obtain ⟨⟨hrc, hrs, hfr, hlo, hws, hcw⟩, hcode, hini, hy, hlen, hl, hin, hse⟩ := cw
  have hK : vx_Back l R p e below s args y 3 8 (PreOf R mc ms Pc) (PostOf Qc mc ms free) (vx_Post XC mc ms free) := vx_backW (hh := hh) (bytes := bytes) (maxL := maxL) (ret := ret) hM hp.1 hrc hrs hfr hlo hws hcw (fun a' U hW => word_at hW (Or.inl (by first | rfl | simp [Cond.onTables, Cond.keeps, Cond.steady])) hini)
  obtain ⟨hx, hb, hml, ho, -⟩ := S
  obtain ⟨-, ⟨cellB, hcB, hoB, hclB⟩, hPc⟩ := hp
  intro T hT X
  rcases vx_callVX X hx (C := C) (hh := hh) (bytes := bytes) (maxL := maxL) (ret := ret) ho hl hin hse hcode hy hK (by rw [hT]; exact hcB) hoB hclB hg (hsize.trans hml.symm) (argsL := As) (rest := rest) (fun sig h => hn.trans (hlen sig h)) hstack hW (by rw [hb]; exact hdg)
    (fun vm₁ hW₁ => ⟨hf.1, hf.2, hPc (T.setVm vm₁) hT hW₁⟩) with ⟨v, vm₁, ⟨U', l2, c2, s2⟩, hW₁, X', ⟨g', mk, t, L, e1, e2, hq, h1, hL, h2, h3⟩, st⟩ | ⟨q, vm₁, ⟨U', l2, c2, s2⟩, hW₁, X', ⟨g', mk, t, L, E, ce, e1, e2, hq, hce, hcv, hcl, h1, hL, h2, h3⟩, st⟩
  · dsimp only [Pt.U, Pt.locs, Pt.cells, Pt.slots] at X' e1 e2 h1 h2 h3 st
    subst h1; subst h2; subst h3
    exact Or.inl ⟨v, (T.setVm vm₁).calling g' mk (Value.ref b :: As).toArray, t, U', L, hT, X', hL, e1, e2, hq, st⟩
  · dsimp only [Pt.U, Pt.locs, Pt.cells, Pt.slots] at X' e1 e2 h1 h2 h3 st hcl
    subst h1; subst h2; subst h3
    exact Or.inr ⟨q, (T.setVm vm₁).calling g' mk (Value.ref b :: As).toArray, t, U', L, E, ce, hT, X', hL, e1, e2, hq, hce, hcv, vx_cls hW₁ hcl, st⟩
theorem vx_runSX {hh : List (Nat × Nat × Nat × Nat)} (S : CallFix p m c cc nL s args Ts own) (hM : vx_Met l y ws rm Pc Qc XC mc ms free) (cw : vx_CSW R s args own index y bytes maxL ret hh ws rm mc ms n) (hp : PreS s H Pc As)
    (hg : g.method = m) (hn : As.length = n) (hsize : g.locals.size = nL) (hstack : g.stack = As.reverse ++ rest) (hW : 2 * g.monitorRoom + (rest.map fun v => v.category).sum ≤ 8) (hdg : decode cc g.pc = .ok (.invokestatic index, 3)) (hf : cells + mc ≤ R.cells ∧ slots + ms ≤ R.slots) :
    vx_Run p l e R s m args below meth c H locs cells slots mc ms g rest (Qc As.toArray) XC free := by
  obtain ⟨⟨hrc, hrs, hfr, hlo, hws, hcw⟩, hcode, hini, hy, hlen, hl, hstt⟩ := cw
  have hK : vx_Back l R p e below s args y 3 8 (PreOf R mc ms Pc) (PostOf Qc mc ms free) (vx_Post XC mc ms free) := vx_backW (hh := hh) (bytes := bytes) (maxL := maxL) (ret := ret) hM hp.1 hrc hrs hfr hlo hws hcw (fun a' U hW => word_at hW (Or.inl (by first | rfl | simp [Cond.onTables, Cond.keeps, Cond.steady])) hini)
  obtain ⟨hx, hb, hml, ho, -⟩ := S
  intro T hT X
  rcases vx_callSX X hx (hh := hh) (bytes := bytes) (maxL := maxL) (ret := ret) ho hl hstt hini hcode hy hK hg (hsize.trans hml.symm) (argsL := As) (rest := rest) (fun sig h => hn.trans (hlen sig h)) hstack hW (by rw [hb]; exact hdg)
    (fun vm₁ hW₁ => ⟨hf.1, hf.2, hp.2 (T.setVm vm₁) hT hW₁⟩) with ⟨v, vm₁, ⟨U', l2, c2, s2⟩, hW₁, X', ⟨g', mk, t, L, e1, e2, hq, h1, hL, h2, h3⟩, st⟩ | ⟨q, vm₁, ⟨U', l2, c2, s2⟩, hW₁, X', ⟨g', mk, t, L, E, ce, e1, e2, hq, hce, hcv, hcl, h1, hL, h2, h3⟩, st⟩
  · dsimp only [Pt.U, Pt.locs, Pt.cells, Pt.slots] at X' e1 e2 h1 h2 h3 st
    subst h1; subst h2; subst h3
    exact Or.inl ⟨v, (T.setVm vm₁).calling g' mk As.toArray, t, U', L, hT, X', hL, e1, e2, hq, st⟩
  · dsimp only [Pt.U, Pt.locs, Pt.cells, Pt.slots] at X' e1 e2 h1 h2 h3 st hcl
    subst h1; subst h2; subst h3
    exact Or.inr ⟨q, (T.setVm vm₁).calling g' mk As.toArray, t, U', L, E, ce, hT, X', hL, e1, e2, hq, hce, hcv, vx_cls hW₁ hcl, st⟩
end
end VXH
theorem vx_ofWH {l : Launch} {y : MethodName} {ws ws' : List Cond} {rm : Room} {Pc : Array Value → State → Prop} {Qc : Array Value → State → Outcome → State → Prop} {XC : String → State → State → Prop} {mc ms : Nat} {free : Addr → Prop} {cc : ByteArray} {maxL : Nat} {ret : Option FieldType} {hh : List (Nat × Nat × Nat × Nat)}
    (hy : plainName y.cls = true) (hw : ws = Cond.codeWith y cc maxL ret hh :: ws')
    (body : ∀ p e s m args below meth c s₁, BodyLoose p l y (headSpec ws rm) cc maxL ret e s m args below meth c s₁ → c.maxLocals = maxL → Pc args s →
      W p l e (headSpec ws rm).room s m args below meth c s.heap [] 0 0 (vx_MQ below Qc XC args s mc ms free) (entryFrame m args maxL)) : vx_Met l y ws rm Pc Qc XC mc ms free := by
  refine MetFree.of_bodyS (code := cc) (maxLocals := maxL) (ret := ret) hy ?_ ?_
  · intro args s m h hn
    obtain ⟨m9, meth, c, hn9, h1, h2, h3, h4, -, h5, h6, -⟩ := Cond.codeWith_spec (atoms_spec (ws := ws) h _ (by rw [hw]; exact List.mem_cons_self))
    cases hn.symm.trans hn9
    exact ⟨meth, c, h1, h2, h3, h4, h5, h6⟩
  · intro p e s m args below meth c s₁ B hml hP _
    have hh0 : s₁.heap = s.heap := by rw [B.state]; rfl
    obtain ⟨t, a1, o, b1, b2, b3⟩ := body p e s m args below meth c s₁ B hml hP s₁ hh0 (Stand.of_body B)
    exact ⟨t, o, a1, b1, b2, b3⟩
/-! ===== END ===== -/
end
section
/-! heaps as functions, and a walk over them: an own layer over the kit's W -/
/-- a heap: its size, the slots used since the law's entry, what the cells hold -/
abbrev ho_H : Type := Nat × Nat × (Nat → Option va_E)
/-- ghosts: base (addresses below it are never written), limit of cells, limit of slots, classes, array types, tables of ints that are only read, addresses of statics -/
abbrev ho_G : Type := Nat × Nat × Nat × va_G × List (ClassId × FieldType) × (Nat → Option (Nat × (Nat → Int32))) × (Nat → Nat)
abbrev gB (G : ho_G) : Nat := G.1
abbrev gC (G : ho_G) : Nat := G.2.1
abbrev gS (G : ho_G) : Nat := G.2.2.1
abbrev gD (G : ho_G) : va_G := G.2.2.2.1
abbrev gT (G : ho_G) : List (ClassId × FieldType) := G.2.2.2.2.1
abbrev gR (G : ho_G) : Nat → Option (Nat × (Nat → Int32)) := G.2.2.2.2.2.1
abbrev gA (G : ho_G) : Nat → Nat := G.2.2.2.2.2.2
abbrev gW (G : ho_G) : Nat → Prop := fun q => G.1 ≤ q
/-- the class of the arrays of kind i -/
def gc (G : ho_G) (i : Nat) : ClassId := ((gT G)[i]?.getD (0, .int)).1
/-- the heap holds what the function says -/
def hs_R (G : ho_G) (σ : ho_H) (H : Heap) : Prop := H.size = σ.1 ∧ σ.1 ≤ gC G ∧ σ.2.1 ≤ gS G ∧ ∀ (a : Nat) (e : va_E), σ.2.2 a = some e → gB G ≤ a ∧ va_at (gD G) vwCl (a, e) H
/-- what is known of tables and statics -/
def gs_ok (G : ho_G) (U : State) (H : Heap) : Prop :=
  gB G ≤ H.size ∧ va_K (gD G) vwCl (gT G) U ∧ (∀ (i : Nat) (ty : FieldType), hv_tys[i]? = some ty → (gT G)[i]? = some (gc G i, ty)) ∧
  (∀ (t n : Nat) (f : Nat → Int32), gR G t = some (n, f) → va_T .int t n (fun j => .int (f j)) (gW G) U H) ∧
  (∀ (i : Nat) (q : String × String × String), hv_stat[i]? = some q → va_Z q.1 q.2.1 q.2.2 (.ref (gA G i)) (gW G) U H) ∧
  (∀ q ∈ hv_nwF, va_Nw (.fieldLinkNest q.1 q.2.1 q.2.2.1 q.2.2.2.1 q.2.2.2.2.1 q.2.2.2.2.2) U) ∧
  (∀ q ∈ hv_nwM, va_Nw (.methodLinkNest q.1 q.2.1 q.2.2.1 q.2.2.2) U) ∧
  va_T (.object "java/lang/Object") (gA G 4) 0 (fun _ => .null) (gW G) U H ∧
  (∀ q ∈ hv_cast, va_Nw (.castable q.1 q.2) U) ∧ (∀ q ∈ hv_decl, va_Nw (.declares q) U) ∧ (∀ q ∈ hv_ncast, va_Nc q.1 q.2 U) ∧
  vx_Zq Bundle.tN "UNASSIGNED_STACK" Bundle.steD (gW G) U H ∧ vx_Zq Bundle.tN "SUPPRESSED_SENTINEL" Bundle.listD (gW G) U H ∧
  va_Mi "[Ljava/lang/Object;" (gA G 5) U
theorem gs_ok.move {G : ho_G} {s U : State} {H H1 : Heap} (h : gs_ok G s H) (hW : s.WarmedH U.vm) (hz : H.size ≤ H1.size) (hq : ∀ a : Nat, a < H.size → ¬ gW G a → H1[a]? = H[a]?) : gs_ok G U H1 := by
  obtain ⟨h1, h2, h3, h4, h5, h6, h7, h8, h9, h10, h11, h12, h13, h14⟩ := h
  refine ⟨Nat.le_trans h1 hz, va_K.moved hW.alike h2, h3, fun t n f ht => ?_, fun i q hi => ?_, fun q hq => ?_, fun q hq => ?_, ?_, fun q hq => ?_, fun q hq => ?_, fun q hq => ?_, ?_, ?_, ?_⟩
  · exact va_T.moved hW.alike ((h4 t n f ht).kept hq)
  · exact va_Z.moved hW.alike ((h5 i q hi).kept hq)
  · exact va_Nw.warmF hW (h6 q hq)
  · exact va_Nw.warmM hW (h7 q hq)
  · exact va_T.moved hW.alike (h8.kept hq)
  · exact va_Nw.warmC hW (h9 q hq)
  · exact va_Nw.warmD hW (h10 q hq)
  · exact va_Nc.moved hW.alike (h11 q hq)
  · exact vx_Zq.moved hW.alike (h12.kept hq)
  · exact vx_Zq.moved hW.alike (h13.kept hq)
  · exact va_Mi.moved hW.alike h14
theorem gs_ok.self {G : ho_G} {s U : State} {H : Heap} (h : gs_ok G s H) (hv : s.vm = U.vm) : gs_ok G U H := by
  obtain ⟨h1, h2, h3, h4, h5, h6, h7, h8, h9, h10, h11, h12, h13, h14⟩ := h
  have ha : s.vm.Alike U.vm := by rw [hv]; exact Vm.Alike.refl _
  refine ⟨h1, va_K.moved ha h2, h3, fun t n f ht => ?_, fun i q hi => ?_, fun q hq => ?_, fun q hq => ?_, va_T.moved ha h8, fun q hq => ?_, fun q hq => ?_, fun q hq => ?_, vx_Zq.moved ha h12, vx_Zq.moved ha h13, va_Mi.moved ha h14⟩
  · exact va_T.moved ha (h4 t n f ht)
  · exact va_Z.moved ha (h5 i q hi)
  · exact va_Nw.same rfl hv (h6 q hq)
  · exact va_Nw.same rfl hv (h7 q hq)
  · exact va_Nw.same rfl hv (h9 q hq)
  · exact va_Nw.same rfl hv (h10 q hq)
  · exact va_Nc.moved ha (h11 q hq)
/-- locals by their places: all of one slot -/
def lo_has (ls : Array Slot) (nL : Nat) (lo : List (Option Value)) : Prop := ls.size = nL ∧ lv_wf ls ∧ ∀ (i : Nat) (v : Value), lo[i]? = some (some v) → v.category = 1 ∧ ls[i]? = some (.val v)
theorem lo_has.set {ls : Array Slot} {nL : Nat} {lo : List (Option Value)} (h : lo_has ls nL lo) {i : Nat} (hi : i < nL) {v : Value} (hc : v.category = 1) : ∃ ls', storeLocals ls i v = some ls' ∧ lo_has ls' nL (lo.set i (some v)) ∧ ∀ l : List (Nat × Value), lv_has ls nL l → lv_has ls' nL ((i, v) :: l.filter (fun q => !(q.1 == i) && !(q.1 + 1 == i && q.2.category == 2))) := by
  obtain ⟨h1, h2, h3⟩ := h
  obtain ⟨ls', e1, e2⟩ := lv_store1 (l := []) (v := v) ⟨h1, h2, fun q hq => by cases hq⟩ hi hc
  have key : ∀ l : List (Nat × Value), lv_has ls nL l → lv_has ls' nL ((i, v) :: l.filter (fun q => !(q.1 == i) && !(q.1 + 1 == i && q.2.category == 2))) := by
    intro l hl
    obtain ⟨ls2, g1, g2⟩ := lv_store1 (l := l) (v := v) hl hi hc
    cases e1.symm.trans g1
    exact g2
  refine ⟨ls', e1, ⟨e2.1, e2.2.1, fun j w hj => ?_⟩, key⟩
  by_cases hji : j = i
  · subst hji
    have hw : w = v := by
      rw [List.getElem?_set] at hj
      simp at hj
      exact hj.2.symm
    subst hw
    exact ⟨hc, e2.2.2 (j, w) List.mem_cons_self⟩
  · rw [List.getElem?_set_ne (Ne.symm hji)] at hj
    obtain ⟨g1, g2⟩ := h3 j w hj
    refine ⟨g1, ?_⟩
    have hl : lv_has ls nL [(j, w)] := ⟨h1, h2, fun q hq => by rw [List.mem_singleton.mp hq]; exact g2⟩
    refine (key _ hl).2.2 (j, w) ?_
    simp [hji, g1]
theorem lo_has.of {ls : Array Slot} {nL : Nat} {vs : List Value} (h : lv_has ls nL (lv_args 0 vs)) (hc : ∀ v ∈ vs, v.category = 1) : lo_has ls nL (vs.map some) := by
  have key : ∀ (vs : List Value) (k : Nat), (∀ v ∈ vs, v.category = 1) → ∀ (i : Nat) (v : Value), vs[i]? = some v → (k + i, v) ∈ lv_args k vs := by
    intro vs
    induction vs with
    | nil => intro k _ i v hv; simp at hv
    | cons w l ih =>
      intro k hc i v hv
      have hw : w.category = 1 := hc w List.mem_cons_self
      cases i with
      | zero =>
        simp at hv
        subst hv
        simp [lv_args]
      | succ i =>
        have := ih (k + 1) (fun v hv => hc v (List.mem_cons_of_mem _ hv)) i v (by simpa using hv)
        simp only [lv_args, hw]
        refine List.mem_cons_of_mem _ ?_
        rw [show k + (i + 1) = k + 1 + i by omega]
        simpa using this
  refine ⟨h.1, h.2.1, fun i v hv => ?_⟩
  rw [List.getElem?_map] at hv
  cases hi : vs[i]? with
  | none => rw [hi] at hv; cases hv
  | some w =>
    rw [hi] at hv
    have hwv : w = v := by simpa using hv
    subst hwv
    exact ⟨hc w (List.mem_of_getElem? hi), by have := h.2.2 _ (key vs 0 hc i w hi); simpa using this⟩
/-- a method under way: the machine's fixed parts; ghosts; the heap at its entry; the goal; its locals' number -/
abbrev mk_T := (Program × Launch × Env × Room × State × MethodId × Array Value × List Frame × Method × Code) × ho_G × ho_H × (State → Prop) × Nat
/-- the walk: from this heap, pc, locals and stack the goal is reached -/
def hv_V (k : mk_T) (σ : ho_H) (pc : Nat) (lo : List (Option Value)) (st : List Value) : Prop :=
  ∀ (H : Heap) (locs : List Loc) (ls : Array Slot), hs_R k.2.1 σ H → va_S (gW k.2.1) k.1.2.2.2.2.1.heap H locs → k.2.2.1.1 ≤ σ.1 → k.2.2.1.2.1 ≤ σ.2.1 → lo_has ls k.2.2.2.2 lo →
    W k.1.1 k.1.2.1 k.1.2.2.1 k.1.2.2.2.1 k.1.2.2.2.2.1 k.1.2.2.2.2.2.1 k.1.2.2.2.2.2.2.1 k.1.2.2.2.2.2.2.2.1 k.1.2.2.2.2.2.2.2.2.1 k.1.2.2.2.2.2.2.2.2.2 H locs (σ.1 - k.2.2.1.1) (σ.2.1 - k.2.2.1.2.1) k.2.2.2.1 (F0 k.1.2.2.2.2.2.1 pc ls st)
/-- what is known of the method under way: its code, class, words, frames and locals of room, return type -/
def hv_X (k : mk_T) (cc : ByteArray) (own : String) (nL fr lw : Nat) (ret : Option FieldType) (nm : String) : Prop :=
  k.1.1.tables.exec = Jvm.exec ∧ k.1.2.2.2.2.2.2.2.2.2.code = cc ∧ k.1.2.2.2.2.2.2.2.2.2.maxLocals = k.2.2.2.2 ∧ k.1.2.2.2.2.1.vm.findClass own = some k.1.2.2.2.2.2.1.cls ∧
  (∀ w ∈ hv_ws, w.before k.1.2.2.2.2.2.2.1 k.1.2.2.2.2.1 = true) ∧ gs_ok k.2.1 k.1.2.2.2.2.1 k.1.2.2.2.2.1.heap ∧ k.1.2.2.2.2.1.heap.size = k.2.2.1.1 ∧
  k.1.2.2.2.1.cells = gC k.2.1 - k.2.2.1.1 ∧ k.1.2.2.2.1.slots = gS k.2.1 - k.2.2.1.2.1 ∧ fr ≤ k.1.2.2.2.1.frames ∧ lw ≤ k.1.2.2.2.1.locals ∧
  k.1.2.2.2.2.2.2.2.2.1.sig.returnType = ret ∧ k.1.2.2.2.2.2.2.2.2.1.locks = false ∧ k.2.2.2.2 = nL ∧ k.1.2.2.2.2.2.2.2.2.1.name = nm
def ho_sl (x y : Int32) : Int32 := x <<< (y &&& 31)
def ho_sr (x y : Int32) : Int32 := x >>> (y &&& 31)
def ho_ur (x y : Int32) : Int32 := (x.toUInt32 >>> (y.toUInt32 &&& Int32.toUInt32 31)).toInt32
def ho_rm (x y : Int32) : Int32 := x - x / y * y
section HV
variable {k : mk_T} {cc : ByteArray} {own : String} {nL fr lw : Nat} {ret : Option FieldType} {nm : String} {σ : ho_H} {pc pn : Nat} {lo lo' : List (Option Value)} {st : List Value}
theorem hv_iconst (X : hv_X k cc own nL fr lw ret nm) {n : Int} {v : Int32} (d : decode cc pc = .ok (.iconst n, 1)) (kk : hv_V k σ pn lo (.int v :: st)) (hv : Int32.ofInt n = v := by decide) (hp : pn = pc + 1 := by rfl) : hv_V k σ pc lo st := by
  subst hp
  intro H locs ls hR hS g1 g2 hl
  exact lv_iconst X.1 X.2.1 d hv (kk H locs ls hR hS g1 g2 hl)
theorem hv_bipush (X : hv_X k cc own nL fr lw ret nm) {n : Int} {v : Int32} (d : decode cc pc = .ok (.bipush n, 2)) (kk : hv_V k σ pn lo (.int v :: st)) (hv : (Int8.ofInt n).toInt32 = v := by decide) (hp : pn = pc + 2 := by rfl) : hv_V k σ pc lo st := by
  subst hp
  intro H locs ls hR hS g1 g2 hl
  exact lv_bipush X.1 X.2.1 d hv (kk H locs ls hR hS g1 g2 hl)
theorem hv_sipush (X : hv_X k cc own nL fr lw ret nm) {n : Int} {v : Int32} (d : decode cc pc = .ok (.sipush n, 3)) (kk : hv_V k σ pn lo (.int v :: st)) (hv : (Int16.ofInt n).toInt32 = v := by decide) (hp : pn = pc + 3 := by rfl) : hv_V k σ pc lo st := by
  subst hp
  intro H locs ls hR hS g1 g2 hl
  exact lv_sipush X.1 X.2.1 d hv (kk H locs ls hR hS g1 g2 hl)
theorem hv_iload_n (X : hv_X k cc own nL fr lw ret nm) {n : Fin 4} {i : Nat} {x : Int32} (d : decode cc pc = .ok (.iload_n n, 1)) (kk : hv_V k σ pn lo (.int x :: st)) (hi : (n : Nat) = i := by rfl) (hx : lo[i]? = some (some (.int x)) := by rfl) (hp : pn = pc + 1 := by rfl) : hv_V k σ pc lo st := by
  subst hp
  intro H locs ls hR hS g1 g2 hl
  exact lv_iload_n X.1 X.2.1 d hi (hl.2.2 i _ hx).2 (kk H locs ls hR hS g1 g2 hl)
theorem hv_iload (X : hv_X k cc own nL fr lw ret nm) {i : Nat} {x : Int32} (d : decode cc pc = .ok (.iload i, 2)) (kk : hv_V k σ pn lo (.int x :: st)) (hx : lo[i]? = some (some (.int x)) := by rfl) (hp : pn = pc + 2 := by rfl) : hv_V k σ pc lo st := by
  subst hp
  intro H locs ls hR hS g1 g2 hl
  exact lv_iload X.1 X.2.1 d (hl.2.2 i _ hx).2 (kk H locs ls hR hS g1 g2 hl)
theorem hv_aload_n (X : hv_X k cc own nL fr lw ret nm) {n : Fin 4} {i : Nat} {x : Nat} (d : decode cc pc = .ok (.aload_n n, 1)) (kk : hv_V k σ pn lo (.ref x :: st)) (hi : (n : Nat) = i := by rfl) (hx : lo[i]? = some (some (.ref x)) := by rfl) (hp : pn = pc + 1 := by rfl) : hv_V k σ pc lo st := by
  subst hp
  intro H locs ls hR hS g1 g2 hl
  exact lv_aload_n X.1 X.2.1 d hi (hl.2.2 i _ hx).2 (kk H locs ls hR hS g1 g2 hl)
theorem hv_aload (X : hv_X k cc own nL fr lw ret nm) {i : Nat} {x : Nat} (d : decode cc pc = .ok (.aload i, 2)) (kk : hv_V k σ pn lo (.ref x :: st)) (hx : lo[i]? = some (some (.ref x)) := by rfl) (hp : pn = pc + 2 := by rfl) : hv_V k σ pc lo st := by
  subst hp
  intro H locs ls hR hS g1 g2 hl
  exact lv_aload X.1 X.2.1 d (hl.2.2 i _ hx).2 (kk H locs ls hR hS g1 g2 hl)
theorem lo_all {ls : Array Slot} {nL : Nat} {lo : List (Option Value)} (h : lo_has ls nL lo) : lv_has ls nL ((List.range lo.length).filterMap fun i => (lo[i]?.join).map fun v => (i, v)) := by
  refine ⟨h.1, h.2.1, fun q hq => ?_⟩
  obtain ⟨i, -, hi⟩ := List.mem_filterMap.mp hq
  cases hv : lo[i]? with
  | none => rw [hv] at hi; cases hi
  | some o =>
    cases o with
    | none => rw [hv] at hi; cases hi
    | some v =>
      rw [hv] at hi
      simp at hi
      subst hi
      exact (h.2.2 i v hv).2
theorem lo_from {ls : Array Slot} {nL : Nat} {lo : List (Option Value)} {i : Nat} {v : Value} {l : List (Nat × Value)} (hc : v.category = 1) (hlo : ∀ (j : Nat) (w : Value), lo[j]? = some (some w) → w.category = 1) (h : lv_has ls nL ((i, v) :: ((List.range lo.length).filterMap fun i => (lo[i]?.join).map fun v => (i, v)).filter (fun q => !(q.1 == i) && !(q.1 + 1 == i && q.2.category == 2)))) : lo_has ls nL (lo.set i (some v)) := by
  refine ⟨h.1, h.2.1, fun j w hj => ?_⟩
  by_cases hji : j = i
  · subst hji
    have hw : w = v := by
      rw [List.getElem?_set] at hj
      simp at hj
      exact hj.2.symm
    subst hw
    exact ⟨hc, h.2.2 (j, w) List.mem_cons_self⟩
  · rw [List.getElem?_set_ne (Ne.symm hji)] at hj
    have hw := hlo j w hj
    refine ⟨hw, h.2.2 (j, w) (List.mem_cons_of_mem _ (List.mem_filter.mpr ⟨List.mem_filterMap.mpr ⟨j, List.mem_range.mpr (List.getElem?_eq_some_iff.mp hj).1, by rw [hj]; rfl⟩, ?_⟩))⟩
    simp [hji, hw]
theorem hv_istore_n (X : hv_X k cc own nL fr lw ret nm) {n : Fin 4} {i : Nat} {x : Int32} (d : decode cc pc = .ok (.istore_n n, 1)) (kk : hv_V k σ pn lo' st) (hi : (n : Nat) = i := by rfl) (hn : i < nL := by decide) (hx : lo.set i (some (.int x)) = lo' := by rfl) (hp : pn = pc + 1 := by rfl) : hv_V k σ pc lo (.int x :: st) := by
  subst hp
  subst hx
  intro H locs ls hR hS g1 g2 hl
  exact lv_istore_n X.1 X.2.1 d hi (lo_all hl) (by rw [X.2.2.2.2.2.2.2.2.2.2.2.2.2.1]; exact hn) rfl (fun ls' h' => kk H locs ls' hR hS g1 g2 (lo_from (l := []) rfl (fun j w h => (hl.2.2 j w h).1) h'))
theorem hv_istore (X : hv_X k cc own nL fr lw ret nm) {i : Nat} {x : Int32} (d : decode cc pc = .ok (.istore i, 2)) (kk : hv_V k σ pn lo' st) (hn : i < nL := by decide) (hx : lo.set i (some (.int x)) = lo' := by rfl) (hp : pn = pc + 2 := by rfl) : hv_V k σ pc lo (.int x :: st) := by
  subst hp
  subst hx
  intro H locs ls hR hS g1 g2 hl
  exact lv_istore X.1 X.2.1 d (lo_all hl) (by rw [X.2.2.2.2.2.2.2.2.2.2.2.2.2.1]; exact hn) rfl (fun ls' h' => kk H locs ls' hR hS g1 g2 (lo_from (l := []) rfl (fun j w h => (hl.2.2 j w h).1) h'))
theorem hv_astore_n (X : hv_X k cc own nL fr lw ret nm) {n : Fin 4} {i : Nat} {x : Nat} (d : decode cc pc = .ok (.astore_n n, 1)) (kk : hv_V k σ pn lo' st) (hi : (n : Nat) = i := by rfl) (hn : i < nL := by decide) (hx : lo.set i (some (.ref x)) = lo' := by rfl) (hp : pn = pc + 1 := by rfl) : hv_V k σ pc lo (.ref x :: st) := by
  subst hp
  subst hx
  intro H locs ls hR hS g1 g2 hl
  exact lv_astore_n X.1 X.2.1 d hi (lo_all hl) (by rw [X.2.2.2.2.2.2.2.2.2.2.2.2.2.1]; exact hn) rfl (fun ls' h' => kk H locs ls' hR hS g1 g2 (lo_from (l := []) rfl (fun j w h => (hl.2.2 j w h).1) h'))
theorem hv_astore (X : hv_X k cc own nL fr lw ret nm) {i : Nat} {x : Nat} (d : decode cc pc = .ok (.astore i, 2)) (kk : hv_V k σ pn lo' st) (hn : i < nL := by decide) (hx : lo.set i (some (.ref x)) = lo' := by rfl) (hp : pn = pc + 2 := by rfl) : hv_V k σ pc lo (.ref x :: st) := by
  subst hp
  subst hx
  intro H locs ls hR hS g1 g2 hl
  exact lv_astore X.1 X.2.1 d (lo_all hl) (by rw [X.2.2.2.2.2.2.2.2.2.2.2.2.2.1]; exact hn) rfl (fun ls' h' => kk H locs ls' hR hS g1 g2 (lo_from (l := []) rfl (fun j w h => (hl.2.2 j w h).1) h'))
theorem hv_drop {i : Nat} (kk : hv_V k σ pc lo' st) (hx : lo.set i none = lo' := by rfl) : hv_V k σ pc lo st := by
  subst hx
  intro H locs ls hR hS g1 g2 hl
  refine kk H locs ls hR hS g1 g2 ⟨hl.1, hl.2.1, fun j w hj => ?_⟩
  by_cases hji : j = i
  · subst hji
    rw [List.getElem?_set] at hj
    simp at hj
  · rw [List.getElem?_set_ne (Ne.symm hji)] at hj
    exact hl.2.2 j w hj
theorem hv_iinc (X : hv_X k cc own nL fr lw ret nm) {i : Nat} {n : Int} {x v : Int32} (d : decode cc pc = .ok (.iinc i n, 3)) (kk : hv_V k σ pn lo' st) (hn : i < nL := by decide) (hx : lo[i]? = some (some (.int x)) := by rfl) (hv : x + Int32.ofInt n = v := by rfl) (hs : lo.set i (some (.int v)) = lo' := by rfl) (hp : pn = pc + 3 := by rfl) : hv_V k σ pc lo st := by
  subst hp
  subst hs
  intro H locs ls hR hS g1 g2 hl
  have hall := lo_all hl
  refine lv_iinc (k := 0) (lv := (i, .int x) :: ((List.range lo.length).filterMap fun i => (lo[i]?.join).map fun v => (i, v))) X.1 X.2.1 d ⟨hall.1, hall.2.1, fun q hq => ?_⟩ rfl hv (by rw [X.2.2.2.2.2.2.2.2.2.2.2.2.2.1]; exact hn) rfl (fun ls' h' => kk H locs ls' hR hS g1 g2 (lo_from (l := []) rfl (fun j w h => (hl.2.2 j w h).1) ⟨h'.1, h'.2.1, fun q hq => h'.2.2 q ?_⟩))
  · rcases List.mem_cons.mp hq with rfl | hq
    · exact (hl.2.2 i _ hx).2
    · exact hall.2.2 q hq
  · rcases List.mem_cons.mp hq with rfl | hq
    · exact List.mem_cons_self
    · refine List.mem_cons_of_mem _ ?_
      rw [List.filter_cons]
      simp only [beq_self_eq_true, Bool.not_true, Bool.false_and]
      exact hq
theorem hv_iadd (X : hv_X k cc own nL fr lw ret nm) {x y : Int32} (d : decode cc pc = .ok (.iadd, 1))  (kk : hv_V k σ pn lo (.int (x + y) :: st)) (hp : pn = pc + 1 := by rfl) : hv_V k σ pc lo (.int y :: .int x :: st) := by
  subst hp
  intro H locs ls hR hS g1 g2 hl
  exact lv_iadd X.1 X.2.1 d  (kk H locs ls hR hS g1 g2 hl)
theorem hv_isub (X : hv_X k cc own nL fr lw ret nm) {x y : Int32} (d : decode cc pc = .ok (.isub, 1))  (kk : hv_V k σ pn lo (.int (x - y) :: st)) (hp : pn = pc + 1 := by rfl) : hv_V k σ pc lo (.int y :: .int x :: st) := by
  subst hp
  intro H locs ls hR hS g1 g2 hl
  exact lv_isub X.1 X.2.1 d  (kk H locs ls hR hS g1 g2 hl)
theorem hv_imul (X : hv_X k cc own nL fr lw ret nm) {x y : Int32} (d : decode cc pc = .ok (.imul, 1))  (kk : hv_V k σ pn lo (.int (x * y) :: st)) (hp : pn = pc + 1 := by rfl) : hv_V k σ pc lo (.int y :: .int x :: st) := by
  subst hp
  intro H locs ls hR hS g1 g2 hl
  exact lv_imul X.1 X.2.1 d  (kk H locs ls hR hS g1 g2 hl)
theorem hv_iand (X : hv_X k cc own nL fr lw ret nm) {x y : Int32} (d : decode cc pc = .ok (.iand, 1))  (kk : hv_V k σ pn lo (.int (x &&& y) :: st)) (hp : pn = pc + 1 := by rfl) : hv_V k σ pc lo (.int y :: .int x :: st) := by
  subst hp
  intro H locs ls hR hS g1 g2 hl
  exact lv_iand X.1 X.2.1 d  (kk H locs ls hR hS g1 g2 hl)
theorem hv_ior (X : hv_X k cc own nL fr lw ret nm) {x y : Int32} (d : decode cc pc = .ok (.ior, 1))  (kk : hv_V k σ pn lo (.int (x ||| y) :: st)) (hp : pn = pc + 1 := by rfl) : hv_V k σ pc lo (.int y :: .int x :: st) := by
  subst hp
  intro H locs ls hR hS g1 g2 hl
  exact lv_ior X.1 X.2.1 d  (kk H locs ls hR hS g1 g2 hl)
theorem hv_ixor (X : hv_X k cc own nL fr lw ret nm) {x y : Int32} (d : decode cc pc = .ok (.ixor, 1))  (kk : hv_V k σ pn lo (.int (x ^^^ y) :: st)) (hp : pn = pc + 1 := by rfl) : hv_V k σ pc lo (.int y :: .int x :: st) := by
  subst hp
  intro H locs ls hR hS g1 g2 hl
  exact lv_ixor X.1 X.2.1 d  (kk H locs ls hR hS g1 g2 hl)
theorem hv_ishl (X : hv_X k cc own nL fr lw ret nm) {x y : Int32} (d : decode cc pc = .ok (.ishl, 1))  (kk : hv_V k σ pn lo (.int (ho_sl x y) :: st)) (hp : pn = pc + 1 := by rfl) : hv_V k σ pc lo (.int y :: .int x :: st) := by
  subst hp
  intro H locs ls hR hS g1 g2 hl
  exact lv_ishl X.1 X.2.1 d  (kk H locs ls hR hS g1 g2 hl)
theorem hv_ishr (X : hv_X k cc own nL fr lw ret nm) {x y : Int32} (d : decode cc pc = .ok (.ishr, 1))  (kk : hv_V k σ pn lo (.int (ho_sr x y) :: st)) (hp : pn = pc + 1 := by rfl) : hv_V k σ pc lo (.int y :: .int x :: st) := by
  subst hp
  intro H locs ls hR hS g1 g2 hl
  exact lv_ishr X.1 X.2.1 d  (kk H locs ls hR hS g1 g2 hl)
theorem hv_idiv (X : hv_X k cc own nL fr lw ret nm) {x y : Int32} (d : decode cc pc = .ok (.idiv, 1)) (hne : ¬ y = 0) (kk : hv_V k σ pn lo (.int (x / y) :: st)) (hp : pn = pc + 1 := by rfl) : hv_V k σ pc lo (.int y :: .int x :: st) := by
  subst hp
  intro H locs ls hR hS g1 g2 hl
  exact lv_idiv X.1 X.2.1 d hne (kk H locs ls hR hS g1 g2 hl)
theorem hv_irem (X : hv_X k cc own nL fr lw ret nm) {x y : Int32} (d : decode cc pc = .ok (.irem, 1)) (hne : ¬ y = 0) (kk : hv_V k σ pn lo (.int (ho_rm x y) :: st)) (hp : pn = pc + 1 := by rfl) : hv_V k σ pc lo (.int y :: .int x :: st) := by
  subst hp
  intro H locs ls hR hS g1 g2 hl
  exact lv_irem X.1 X.2.1 d hne (kk H locs ls hR hS g1 g2 hl)
theorem hv_ineg (X : hv_X k cc own nL fr lw ret nm) {x : Int32} (d : decode cc pc = .ok (.ineg, 1))  (kk : hv_V k σ pn lo (.int (-x) :: st)) (hp : pn = pc + 1 := by rfl) : hv_V k σ pc lo (.int x :: st) := by
  subst hp
  intro H locs ls hR hS g1 g2 hl
  exact lv_ineg X.1 X.2.1 d  (kk H locs ls hR hS g1 g2 hl)
theorem hv_iushr (X : hv_X k cc own nL fr lw ret nm) {x y : Int32} (d : decode cc pc = .ok (.iushr, 1))  (kk : hv_V k σ pn lo (.int (ho_ur x y) :: st)) (hp : pn = pc + 1 := by rfl) : hv_V k σ pc lo (.int y :: .int x :: st) := by
  subst hp
  intro H locs ls hR hS g1 g2 hl
  exact lv_iushr X.1 X.2.1 d rfl (kk H locs ls hR hS g1 g2 hl)
theorem hv_i2l (X : hv_X k cc own nL fr lw ret nm) {x : Int32} (d : decode cc pc = .ok (.i2l, 1))  (kk : hv_V k σ pn lo (.long x.toInt64 :: st)) (hp : pn = pc + 1 := by rfl) : hv_V k σ pc lo (.int x :: st) := by
  subst hp
  intro H locs ls hR hS g1 g2 hl
  exact lv_i2l X.1 X.2.1 d rfl (kk H locs ls hR hS g1 g2 hl)
theorem hv_dup (X : hv_X k cc own nL fr lw ret nm) {v : Value} (d : decode cc pc = .ok (.dup, 1)) (hv : v.category = 1) (kk : hv_V k σ pn lo (v :: v :: st)) (hp : pn = pc + 1 := by rfl) : hv_V k σ pc lo (v :: st) := by
  subst hp
  intro H locs ls hR hS g1 g2 hl
  exact lv_dup X.1 X.2.1 d hv (kk H locs ls hR hS g1 g2 hl)
theorem hv_pop (X : hv_X k cc own nL fr lw ret nm) {v : Value} (d : decode cc pc = .ok (.pop, 1)) (hv : v.category = 1) (kk : hv_V k σ pn lo (st)) (hp : pn = pc + 1 := by rfl) : hv_V k σ pc lo (v :: st) := by
  subst hp
  intro H locs ls hR hS g1 g2 hl
  exact lv_pop X.1 X.2.1 d hv (kk H locs ls hR hS g1 g2 hl)
theorem hv_dup_x1 (X : hv_X k cc own nL fr lw ret nm) {v w : Value} (d : decode cc pc = .ok (.dup_x1, 1)) (hv : v.category = 1) (hw : w.category = 1) (kk : hv_V k σ pn lo (v :: w :: v :: st)) (hp : pn = pc + 1 := by rfl) : hv_V k σ pc lo (v :: w :: st) := by
  subst hp
  intro H locs ls hR hS g1 g2 hl
  exact lv_dup_x1 X.1 X.2.1 d hv hw (kk H locs ls hR hS g1 g2 hl)
theorem hv_dup_x2 (X : hv_X k cc own nL fr lw ret nm) {v w u : Value} (d : decode cc pc = .ok (.dup_x2, 1)) (hv : v.category = 1) (hw : w.category = 1) (hu : u.category = 1) (kk : hv_V k σ pn lo (v :: w :: u :: v :: st)) (hp : pn = pc + 1 := by rfl) : hv_V k σ pc lo (v :: w :: u :: st) := by
  subst hp
  intro H locs ls hR hS g1 g2 hl
  exact lv_dup_x2 X.1 X.2.1 d hv hw hu (kk H locs ls hR hS g1 g2 hl)
theorem hv_dup2 (X : hv_X k cc own nL fr lw ret nm) {v w : Value} (d : decode cc pc = .ok (.dup2, 1)) (hv : v.category = 1) (hw : w.category = 1) (kk : hv_V k σ pn lo (v :: w :: v :: w :: st)) (hp : pn = pc + 1 := by rfl) : hv_V k σ pc lo (v :: w :: st) := by
  subst hp
  intro H locs ls hR hS g1 g2 hl
  exact lv_dup2_11 X.1 X.2.1 d hv hw (kk H locs ls hR hS g1 g2 hl)
theorem hv_null (X : hv_X k cc own nL fr lw ret nm)  (d : decode cc pc = .ok (.aconst_null, 1))  (kk : hv_V k σ pn lo (.null :: st)) (hp : pn = pc + 1 := by rfl) : hv_V k σ pc lo (st) := by
  subst hp
  intro H locs ls hR hS g1 g2 hl
  exact lv_null X.1 X.2.1 d  (kk H locs ls hR hS g1 g2 hl)
theorem hv_if_eq (X : hv_X k cc own nL fr lw ret nm) {x : Int32} {off : Int} {tgt : Nat} (d : decode cc pc = .ok (.ifCond .eq off, 3)) (ht : (pc : Int) + off = (tgt : Int)) (kt : (x = 0) → hv_V k σ tgt lo st) (kf : ¬ (x = 0) → hv_V k σ pn lo st) (hp : pn = pc + 3 := by rfl) : hv_V k σ pc lo (.int x :: st) := by
  subst hp
  intro H locs ls hR hS g1 g2 hl
  exact lv_if_eq X.1 X.2.1 d ht (fun h => kt h H locs ls hR hS g1 g2 hl) (fun h => kf h H locs ls hR hS g1 g2 hl)
theorem hv_icmp_eq (X : hv_X k cc own nL fr lw ret nm) {x y : Int32} {off : Int} {tgt : Nat} (d : decode cc pc = .ok (.if_icmp .eq off, 3)) (ht : (pc : Int) + off = (tgt : Int)) (kt : (x = y) → hv_V k σ tgt lo st) (kf : ¬ (x = y) → hv_V k σ pn lo st) (hp : pn = pc + 3 := by rfl) : hv_V k σ pc lo (.int y :: .int x :: st) := by
  subst hp
  intro H locs ls hR hS g1 g2 hl
  exact lv_icmp_eq X.1 X.2.1 d ht (fun h => kt h H locs ls hR hS g1 g2 hl) (fun h => kf h H locs ls hR hS g1 g2 hl)
theorem hv_if_ne (X : hv_X k cc own nL fr lw ret nm) {x : Int32} {off : Int} {tgt : Nat} (d : decode cc pc = .ok (.ifCond .ne off, 3)) (ht : (pc : Int) + off = (tgt : Int)) (kt : (¬ x = 0) → hv_V k σ tgt lo st) (kf : ¬ (¬ x = 0) → hv_V k σ pn lo st) (hp : pn = pc + 3 := by rfl) : hv_V k σ pc lo (.int x :: st) := by
  subst hp
  intro H locs ls hR hS g1 g2 hl
  exact lv_if_ne X.1 X.2.1 d ht (fun h => kt h H locs ls hR hS g1 g2 hl) (fun h => kf (fun q => q h) H locs ls hR hS g1 g2 hl)
theorem hv_icmp_ne (X : hv_X k cc own nL fr lw ret nm) {x y : Int32} {off : Int} {tgt : Nat} (d : decode cc pc = .ok (.if_icmp .ne off, 3)) (ht : (pc : Int) + off = (tgt : Int)) (kt : (¬ x = y) → hv_V k σ tgt lo st) (kf : ¬ (¬ x = y) → hv_V k σ pn lo st) (hp : pn = pc + 3 := by rfl) : hv_V k σ pc lo (.int y :: .int x :: st) := by
  subst hp
  intro H locs ls hR hS g1 g2 hl
  exact lv_icmp_ne X.1 X.2.1 d ht (fun h => kt h H locs ls hR hS g1 g2 hl) (fun h => kf (fun q => q h) H locs ls hR hS g1 g2 hl)
theorem hv_if_lt (X : hv_X k cc own nL fr lw ret nm) {x : Int32} {off : Int} {tgt : Nat} (d : decode cc pc = .ok (.ifCond .lt off, 3)) (ht : (pc : Int) + off = (tgt : Int)) (kt : (x < 0) → hv_V k σ tgt lo st) (kf : ¬ (x < 0) → hv_V k σ pn lo st) (hp : pn = pc + 3 := by rfl) : hv_V k σ pc lo (.int x :: st) := by
  subst hp
  intro H locs ls hR hS g1 g2 hl
  exact lv_if_lt X.1 X.2.1 d ht (fun h => kt h H locs ls hR hS g1 g2 hl) (fun h => kf h H locs ls hR hS g1 g2 hl)
theorem hv_icmp_lt (X : hv_X k cc own nL fr lw ret nm) {x y : Int32} {off : Int} {tgt : Nat} (d : decode cc pc = .ok (.if_icmp .lt off, 3)) (ht : (pc : Int) + off = (tgt : Int)) (kt : (x < y) → hv_V k σ tgt lo st) (kf : ¬ (x < y) → hv_V k σ pn lo st) (hp : pn = pc + 3 := by rfl) : hv_V k σ pc lo (.int y :: .int x :: st) := by
  subst hp
  intro H locs ls hR hS g1 g2 hl
  exact lv_icmp_lt X.1 X.2.1 d ht (fun h => kt h H locs ls hR hS g1 g2 hl) (fun h => kf h H locs ls hR hS g1 g2 hl)
theorem hv_if_ge (X : hv_X k cc own nL fr lw ret nm) {x : Int32} {off : Int} {tgt : Nat} (d : decode cc pc = .ok (.ifCond .ge off, 3)) (ht : (pc : Int) + off = (tgt : Int)) (kt : (0 ≤ x) → hv_V k σ tgt lo st) (kf : ¬ (0 ≤ x) → hv_V k σ pn lo st) (hp : pn = pc + 3 := by rfl) : hv_V k σ pc lo (.int x :: st) := by
  subst hp
  intro H locs ls hR hS g1 g2 hl
  exact lv_if_ge X.1 X.2.1 d ht (fun h => kt h H locs ls hR hS g1 g2 hl) (fun h => kf h H locs ls hR hS g1 g2 hl)
theorem hv_icmp_ge (X : hv_X k cc own nL fr lw ret nm) {x y : Int32} {off : Int} {tgt : Nat} (d : decode cc pc = .ok (.if_icmp .ge off, 3)) (ht : (pc : Int) + off = (tgt : Int)) (kt : (y ≤ x) → hv_V k σ tgt lo st) (kf : ¬ (y ≤ x) → hv_V k σ pn lo st) (hp : pn = pc + 3 := by rfl) : hv_V k σ pc lo (.int y :: .int x :: st) := by
  subst hp
  intro H locs ls hR hS g1 g2 hl
  exact lv_icmp_ge X.1 X.2.1 d ht (fun h => kt h H locs ls hR hS g1 g2 hl) (fun h => kf h H locs ls hR hS g1 g2 hl)
theorem hv_if_gt (X : hv_X k cc own nL fr lw ret nm) {x : Int32} {off : Int} {tgt : Nat} (d : decode cc pc = .ok (.ifCond .gt off, 3)) (ht : (pc : Int) + off = (tgt : Int)) (kt : (0 < x) → hv_V k σ tgt lo st) (kf : ¬ (0 < x) → hv_V k σ pn lo st) (hp : pn = pc + 3 := by rfl) : hv_V k σ pc lo (.int x :: st) := by
  subst hp
  intro H locs ls hR hS g1 g2 hl
  exact lv_if_gt X.1 X.2.1 d ht (fun h => kt h H locs ls hR hS g1 g2 hl) (fun h => kf h H locs ls hR hS g1 g2 hl)
theorem hv_icmp_gt (X : hv_X k cc own nL fr lw ret nm) {x y : Int32} {off : Int} {tgt : Nat} (d : decode cc pc = .ok (.if_icmp .gt off, 3)) (ht : (pc : Int) + off = (tgt : Int)) (kt : (y < x) → hv_V k σ tgt lo st) (kf : ¬ (y < x) → hv_V k σ pn lo st) (hp : pn = pc + 3 := by rfl) : hv_V k σ pc lo (.int y :: .int x :: st) := by
  subst hp
  intro H locs ls hR hS g1 g2 hl
  exact lv_icmp_gt X.1 X.2.1 d ht (fun h => kt h H locs ls hR hS g1 g2 hl) (fun h => kf h H locs ls hR hS g1 g2 hl)
theorem hv_if_le (X : hv_X k cc own nL fr lw ret nm) {x : Int32} {off : Int} {tgt : Nat} (d : decode cc pc = .ok (.ifCond .le off, 3)) (ht : (pc : Int) + off = (tgt : Int)) (kt : (x ≤ 0) → hv_V k σ tgt lo st) (kf : ¬ (x ≤ 0) → hv_V k σ pn lo st) (hp : pn = pc + 3 := by rfl) : hv_V k σ pc lo (.int x :: st) := by
  subst hp
  intro H locs ls hR hS g1 g2 hl
  exact lv_if_le X.1 X.2.1 d ht (fun h => kt h H locs ls hR hS g1 g2 hl) (fun h => kf h H locs ls hR hS g1 g2 hl)
theorem hv_icmp_le (X : hv_X k cc own nL fr lw ret nm) {x y : Int32} {off : Int} {tgt : Nat} (d : decode cc pc = .ok (.if_icmp .le off, 3)) (ht : (pc : Int) + off = (tgt : Int)) (kt : (x ≤ y) → hv_V k σ tgt lo st) (kf : ¬ (x ≤ y) → hv_V k σ pn lo st) (hp : pn = pc + 3 := by rfl) : hv_V k σ pc lo (.int y :: .int x :: st) := by
  subst hp
  intro H locs ls hR hS g1 g2 hl
  exact lv_icmp_le X.1 X.2.1 d ht (fun h => kt h H locs ls hR hS g1 g2 hl) (fun h => kf h H locs ls hR hS g1 g2 hl)
theorem hv_goto (X : hv_X k cc own nL fr lw ret nm) {off : Int} {tgt : Nat} (d : decode cc pc = .ok (.goto off, 3)) (ht : (pc : Int) + off = (tgt : Int)) (kk : hv_V k σ tgt lo st) : hv_V k σ pc lo st := by
  intro H locs ls hR hS g1 g2 hl
  exact lv_goto X.1 X.2.1 d ht (kk H locs ls hR hS g1 g2 hl)
end HV
/-! the operations of the heap, as functions -/
def ho_set (σ : ho_H) (a : Nat) (e : va_E) : ho_H := (σ.1, σ.2.1, fun q => if q = a then some e else σ.2.2 q)
def ho_f (σ : ho_H) (a ci : Nat) : Option (List Value) := match σ.2.2 a with
  | some (.inr (c, fs)) => if c = ci then some fs else none
  | _ => none
def ho_vI (v : Option Value) : Option Int32 := match v with
  | some (.int x) => some x
  | _ => none
def ho_vR (v : Option Value) : Option Nat := match v with
  | some (.ref x) => some x
  | _ => none
def ho_gI (σ : ho_H) (a ci j : Nat) : Option Int32 := (ho_f σ a ci).bind fun fs => ho_vI fs[j]?
def ho_gR (σ : ho_H) (a ci j : Nat) : Option Nat := (ho_f σ a ci).bind fun fs => ho_vR fs[j]?
def ho_p (σ : ho_H) (a ci j : Nat) (v : Value) : Option ho_H := (ho_f σ a ci).bind fun fs => if j < fs.length then some (ho_set σ a (.inr (ci, fs.set j v))) else none
def ho_ix (i : Int32) (n : Nat) : Option Nat := if i < 0 ∨ n ≤ i.toNatClampNeg then none else some i.toNatClampNeg
/-- arrays of ints (kind 0) and of booleans (kind 1) -/
def ho_aI (G : ho_G) (σ : ho_H) (a kd : Nat) : Option (Nat × (Nat → Int32)) := match σ.2.2 a with
  | some (.inl (c, n, .inl f)) => if c = gc G kd then some (n, f) else none
  | _ => none
def ho_aL (G : ho_G) (σ : ho_H) (a kd : Nat) : Option (Nat × (Nat → Int64)) := match σ.2.2 a with
  | some (.inl (c, n, .inr (.inl f))) => if c = gc G kd then some (n, f) else none
  | _ => none
def ho_aR (G : ho_G) (σ : ho_H) (a kd : Nat) : Option (Nat × (Nat → Option Nat)) := match σ.2.2 a with
  | some (.inl (c, n, .inr (.inr (.inr (.inr f))))) => if c = gc G kd then some (n, f) else none
  | _ => none
/-- ints to read: an array of the heap, or a table -/
def ho_rI (G : ho_G) (σ : ho_H) (a : Nat) : Option (Nat × (Nat → Int32)) := match σ.2.2 a with
  | some (.inl (c, n, .inl f)) => if c = gc G 0 then some (n, f) else none
  | some _ => none
  | none => gR G a
def ho_ldI (G : ho_G) (σ : ho_H) (a : Nat) (i : Int32) : Option Int32 := (ho_rI G σ a).bind fun q => (ho_ix i q.1).map q.2
def ho_ldZ (G : ho_G) (σ : ho_H) (a : Nat) (i : Int32) : Option Int32 := (ho_aI G σ a 1).bind fun q => (ho_ix i q.1).map q.2
def ho_ldL (G : ho_G) (σ : ho_H) (a kd : Nat) (i : Int32) : Option Int64 := (ho_aL G σ a kd).bind fun q => (ho_ix i q.1).map q.2
def ho_ldR (G : ho_G) (σ : ho_H) (a kd : Nat) (i : Int32) : Option Nat := (ho_aR G σ a kd).bind fun q => (ho_ix i q.1).bind q.2
def ho_stI (G : ho_G) (σ : ho_H) (a : Nat) (i x : Int32) : Option ho_H := (ho_aI G σ a 0).bind fun q => (ho_ix i q.1).map fun j => ho_set σ a (.inl (gc G 0, q.1, .inl (upd q.2 j x)))
def ho_stZ (G : ho_G) (σ : ho_H) (a : Nat) (i x : Int32) : Option ho_H := (ho_aI G σ a 1).bind fun q => (ho_ix i q.1).map fun j => ho_set σ a (.inl (gc G 1, q.1, .inl (upd q.2 j (vp_nar .boolean x))))
def ho_stL (G : ho_G) (σ : ho_H) (a kd : Nat) (i : Int32) (x : Int64) : Option ho_H := (ho_aL G σ a kd).bind fun q => (ho_ix i q.1).map fun j => ho_set σ a (.inl (gc G kd, q.1, .inr (.inl (vp_updL q.2 j x))))
def ho_stR (G : ho_G) (σ : ho_H) (a kd : Nat) (i : Int32) (x : Option Nat) : Option ho_H := (ho_aR G σ a kd).bind fun q => (ho_ix i q.1).map fun j => ho_set σ a (.inl (gc G kd, q.1, .inr (.inr (.inr (.inr (va_up q.2 j x))))))
def ho_lnI (G : ho_G) (σ : ho_H) (a : Nat) : Option Int32 := (ho_rI G σ a).map fun q => Int32.ofNat q.1
def ho_lnR (G : ho_G) (σ : ho_H) (a kd : Nat) : Option Int32 := (ho_aR G σ a kd).map fun q => Int32.ofNat q.1
def ho_al (G : ho_G) (σ : ho_H) (N : Nat) (e : va_E) : Option (ho_H × Nat) := if σ.1 + 1 ≤ gC G ∧ σ.2.1 + N ≤ gS G then some ((σ.1 + 1, σ.2.1 + N, fun q => if q = σ.1 then some e else σ.2.2 q), σ.1) else none
def ho_n (n : Int32) : Option Nat := if n < 0 ∨ 60000000 < n.toNatClampNeg then none else some n.toNatClampNeg
def ho_nwI (G : ho_G) (σ : ho_H) (n : Int32) : Option (ho_H × Nat) := (ho_n n).bind fun N => ho_al G σ N (.inl (gc G 0, N, .inl fun _ => 0))
def ho_nwZ (G : ho_G) (σ : ho_H) (n : Int32) : Option (ho_H × Nat) := (ho_n n).bind fun N => ho_al G σ N (.inl (gc G 1, N, .inl fun _ => 0))
def ho_nwL (G : ho_G) (σ : ho_H) (kd : Nat) (n : Int32) : Option (ho_H × Nat) := (ho_n n).bind fun N => ho_al G σ N (.inl (gc G kd, N, .inr (.inl fun _ => 0)))
def ho_nwR (G : ho_G) (σ : ho_H) (kd : Nat) (n : Int32) : Option (ho_H × Nat) := (ho_n n).bind fun N => ho_al G σ N (.inl (gc G kd, N, .inr (.inr (.inr (.inr fun _ => none)))))
/-- a call came back: heaps only grow -/
def ho_ck {α : Type} (σ : ho_H) (x : Option (ho_H × α)) : Option (ho_H × α) := x.bind fun r => if σ.1 ≤ r.1.1 ∧ σ.2.1 ≤ r.1.2.1 then some r else none
/-- a loop, with fuel -/
def ho_it {S E : Type} (f : S → Option (S ⊕ E)) : Nat → S → Option E
  | 0, _ => none
  | n + 1, s => match f s with
    | none => none
    | some (.inl s') => ho_it f n s'
    | some (.inr e) => some e
theorem bd_E {α β : Type} {x : Option α} {f : α → Option β} {r : β} (h : x.bind f = some r) : ∃ v, x = some v ∧ f v = some r := Option.bind_eq_some_iff.mp h
theorem mp_E {α β : Type} {x : Option α} {f : α → β} {r : β} (h : x.map f = some r) : ∃ v, x = some v ∧ f v = r := Option.map_eq_some_iff.mp h
theorem ho_ix_E {i : Int32} {n j : Nat} (h : ho_ix i n = some j) : vp_in i n ∧ j = i.toNatClampNeg := by
  unfold ho_ix at h
  split at h
  · cases h
  · next hn => exact ⟨hn, (Option.some.inj h).symm⟩
theorem ho_f_E {σ : ho_H} {a ci : Nat} {fs : List Value} (h : ho_f σ a ci = some fs) : σ.2.2 a = some (.inr (ci, fs)) := by
  unfold ho_f at h
  split at h
  · next c fs' e =>
    split at h
    · next hc => subst hc; rw [e, Option.some.inj h]
    · cases h
  · cases h
theorem ho_vI_E {v : Option Value} {x : Int32} (h : ho_vI v = some x) : v = some (.int x) := by
  unfold ho_vI at h
  split at h
  · rw [Option.some.inj h]
  · cases h
theorem ho_vR_E {v : Option Value} {x : Nat} (h : ho_vR v = some x) : v = some (.ref x) := by
  unfold ho_vR at h
  split at h
  · rw [Option.some.inj h]
  · cases h
theorem ho_aI_E {G : ho_G} {σ : ho_H} {a kd : Nat} {q : Nat × (Nat → Int32)} (h : ho_aI G σ a kd = some q) : σ.2.2 a = some (.inl (gc G kd, q.1, .inl q.2)) := by
  unfold ho_aI at h
  split at h
  · next c n f e =>
    split at h
    · next hc => subst hc; rw [e, ← Option.some.inj h]
    · cases h
  · cases h
theorem ho_aL_E {G : ho_G} {σ : ho_H} {a kd : Nat} {q : Nat × (Nat → Int64)} (h : ho_aL G σ a kd = some q) : σ.2.2 a = some (.inl (gc G kd, q.1, .inr (.inl q.2))) := by
  unfold ho_aL at h
  split at h
  · next c n f e =>
    split at h
    · next hc => subst hc; rw [e, ← Option.some.inj h]
    · cases h
  · cases h
theorem ho_aR_E {G : ho_G} {σ : ho_H} {a kd : Nat} {q : Nat × (Nat → Option Nat)} (h : ho_aR G σ a kd = some q) : σ.2.2 a = some (.inl (gc G kd, q.1, .inr (.inr (.inr (.inr q.2))))) := by
  unfold ho_aR at h
  split at h
  · next c n f e =>
    split at h
    · next hc => subst hc; rw [e, ← Option.some.inj h]
    · cases h
  · cases h
theorem ho_rI_E {G : ho_G} {σ : ho_H} {a : Nat} {q : Nat × (Nat → Int32)} (h : ho_rI G σ a = some q) : σ.2.2 a = some (.inl (gc G 0, q.1, .inl q.2)) ∨ gR G a = some q := by
  unfold ho_rI at h
  split at h
  · next c n f e =>
    split at h
    · next hc => subst hc; rw [e, ← Option.some.inj h]; exact Or.inl rfl
    · cases h
  · cases h
  · exact Or.inr h
theorem va_P1 {D : va_G} {cl : List vw_C} {q : Nat × va_E} {H : Heap} (h : va_at D cl q H) : va_P D cl [q] H := by
  intro k x hk
  cases k with
  | zero => simp at hk; subst hk; exact h
  | succ k => simp at hk
theorem hs_R.set {G : ho_G} {σ : ho_H} {H H1 : Heap} {a : Nat} {e0 e : va_E} (h : hs_R G σ H) (he : σ.2.2 a = some e0) (z : H1.size = H.size) (oq : ∀ q : Nat, q ≠ a → H1[q]? = H[q]?) (hat : va_at (gD G) vwCl (a, e) H1) : hs_R G (ho_set σ a e) H1 := by
  refine ⟨z.trans h.1, h.2.1, h.2.2.1, fun b x hb => ?_⟩
  unfold ho_set at hb
  dsimp only at hb
  by_cases hba : b = a
  · rw [if_pos hba] at hb
    cases hb
    subst hba
    exact ⟨(h.2.2.2 b e0 he).1, hat⟩
  · rw [if_neg hba] at hb
    exact ⟨(h.2.2.2 b x hb).1, (h.2.2.2 b x hb).2.kept (oq b hba)⟩
theorem hs_R.push {G : ho_G} {σ σ' : ho_H} {H H1 : Heap} {N a : Nat} {e : va_E} (h : hs_R G σ H) (hal : ho_al G σ N e = some (σ', a)) (hB : gB G ≤ H.size) (z : H1.size = H.size + 1) (oq : ∀ q : Nat, q < H.size → H1[q]? = H[q]?) (hat : va_at (gD G) vwCl (H.size, e) H1) : hs_R G σ' H1 ∧ a = H.size ∧ σ'.1 = σ.1 + 1 ∧ σ'.2.1 = σ.2.1 + N ∧ σ.1 + 1 ≤ gC G ∧ σ.2.1 + N ≤ gS G := by
  unfold ho_al at hal
  split at hal
  · next hc =>
    cases hal
    refine ⟨⟨by rw [z, h.1], hc.1, hc.2, fun b x hb => ?_⟩, h.1.symm, rfl, rfl, hc.1, hc.2⟩
    dsimp only at hb
    by_cases hba : b = σ.1
    · rw [if_pos hba] at hb
      cases hb
      subst hba
      rw [← h.1]
      exact ⟨hB, hat⟩
    · rw [if_neg hba] at hb
      have hx := h.2.2.2 b x hb
      exact ⟨hx.1, hx.2.kept (oq b hx.2.lt)⟩
  · cases hal
theorem ho_al_E {G : ho_G} {σ σ' : ho_H} {N a : Nat} {e : va_E} (hal : ho_al G σ N e = some (σ', a)) : σ.1 + 1 ≤ gC G ∧ σ.2.1 + N ≤ gS G ∧ σ'.1 = σ.1 + 1 ∧ σ'.2.1 = σ.2.1 + N ∧ a = σ.1 := by
  unfold ho_al at hal
  split at hal
  · next hc =>
    cases hal
    exact ⟨hc.1, hc.2, rfl, rfl, rfl⟩
  · cases hal
theorem va_S.grow {A : Nat → Prop} {H0 H H1 : Heap} {locs : List Loc} (h : va_S A H0 H locs) (z : H.size ≤ H1.size) (oq : ∀ q : Nat, q < H.size → H1[q]? = H[q]?) : va_S A H0 H1 locs :=
  ⟨Nat.le_trans h.1 z, fun q h1 h2 => (oq q (Nat.lt_of_lt_of_le h1 h.1)).trans (h.2.1 q h1 h2), h.2.2⟩
def ho_nz (y : Int32) : Option Unit := if y = 0 then none else some ()
theorem ho_nz_E {y : Int32} {u : Unit} (h : ho_nz y = some u) : ¬ y = 0 := by
  unfold ho_nz at h
  split at h
  · cases h
  · assumption
def ho_bz (y : Int32) : Option Unit := if y = 0 ∨ y = 1 then some () else none
theorem ho_bz_E {y : Int32} {u : Unit} (h : ho_bz y = some u) : narrow .boolean (.int y) = .int y := by
  unfold ho_bz at h
  split at h
  · next hc => rcases hc with rfl | rfl <;> decide
  · cases h
theorem nm_E {α β : Type} {x : α} {f : α → Option β} {r : β} (h : (some x).bind f = some r) : ∃ v, x = v ∧ f v = some r := ⟨x, rfl, h⟩
def ho_cv (σ : ho_H) (x : Option ho_H) : Option ho_H := x.bind fun r => if σ.1 ≤ r.1 ∧ σ.2.1 ≤ r.2.1 then some r else none
theorem ho_cv_E {σ : ho_H} {x : Option ho_H} {z : ho_H} (h : ho_cv σ x = some z) : x = some z ∧ σ.1 ≤ z.1 ∧ σ.2.1 ≤ z.2.1 := by
  obtain ⟨v, h1, h2⟩ := bd_E h
  split at h2
  · next hc => cases h2; exact ⟨h1, hc⟩
  · cases h2
def sm {A B : Type} (P : A → Prop) (Z : B → Prop) (r : A ⊕ B) : Prop := match r with
  | .inl a => P a
  | .inr b => Z b
end
section
/-! facts of pool entries -/
def hv_lk (own : String) (index : Nat) (ref n d : String) : Prop := Cond.fieldLink own index ref n d ∈ hv_ws ∨ ∃ host, (own, index, ref, n, d, host) ∈ hv_nwF
def hv_fa (own : String) (index ci j : Nat) : Prop := ∃ (C : String) (T : u_T) (N : Nat) (ref : String), vwCl[ci]? = some (C, T, N) ∧ (∀ w ∈ u_ws C T N, w ∈ hv_ws) ∧ j < N ∧ hv_lk own index ref (T j).2.1 (T j).2.2.1 ∧ (ref = (T j).1 ∨ Cond.sameField ref (T j).1 (T j).2.1 (T j).2.2.1 ∈ hv_ws)
def hv_fp (own : String) (index ci j : Nat) (ty : FieldType) (fin : Bool) : Prop := ∃ (C : String) (T : u_T) (N : Nat) (ref : String) (ty0 : Nat → FieldType), vwCl[ci]? = some (C, T, N) ∧ (∀ w ∈ u_ws C T N, w ∈ hv_ws) ∧ j < N ∧ hv_lk own index ref (T j).2.1 (T j).2.2.1 ∧ (ref = (T j).1 ∨ Cond.sameField ref (T j).1 (T j).2.1 (T j).2.2.1 ∈ hv_ws) ∧
  (∀ i, i < N → parseFieldDescriptor (T i).2.2.1 = some (ty0 i)) ∧ (∀ a, a < N → ∀ b, b < N → a ≠ b → (T a).2.1 ≠ (T b).2.1) ∧ (T j).2.2.2 = fin ∧ (fin = true → (T j).1 = own) ∧ parseFieldDescriptor (T j).2.2.1 = some ty
def hv_nw (own : String) (index ci N : Nat) (fs : List Value) : Prop := ∃ (C : String) (T : u_T) (ty : Nat → FieldType), vwCl[ci]? = some (C, T, N) ∧ (∀ w ∈ u_ws C T N, w ∈ hv_ws) ∧ (∀ i, i < N → parseFieldDescriptor (T i).2.2.1 = some (ty i)) ∧ Cond.classLink own index C ∈ hv_ws ∧ Cond.instantiable C N ∈ hv_ws ∧ Cond.initialized C ∈ hv_ws ∧ (∀ j, j < N → defaultValue (ty j) = vp_V fs j)
/-- a callee: its code and its link -/
def hv_cs (own : String) (index : Nat) (y : MethodName) (bytes : ByteArray) (maxL : Nat) (rt : Option FieldType) (n : Nat) : Prop := Cond.code y bytes maxL rt ∈ hv_ws ∧ Cond.initialized y.cls ∈ hv_ws ∧ (y.cls ≠ "java/lang/invoke/MethodHandle" ∧ y.cls ≠ "java/lang/invoke/VarHandle") ∧ (parseMethodDescriptor y.desc).map (fun d => d.parameters.length) = some n ∧ (Cond.methodLink own index y ∈ hv_ws ∨ ∃ host, (own, index, y, host) ∈ hv_nwM)
theorem hv_X.ts {k : mk_T} {cc : ByteArray} {own : String} {nL fr lw : Nat} {ret : Option FieldType} {nm : String} (X : hv_X k cc own nL fr lw ret nm) : ∀ w ∈ hv_ws, w.before k.1.2.2.2.2.2.2.1 k.1.2.2.2.2.1 = true := X.2.2.2.2.1
theorem hv_X.ow {k : mk_T} {cc : ByteArray} {own : String} {nL fr lw : Nat} {ret : Option FieldType} {nm : String} (X : hv_X k cc own nL fr lw ret nm) : k.1.2.2.2.2.1.vm.findClass own = some k.1.2.2.2.2.2.1.cls := X.2.2.2.1
theorem hv_X.gs {k : mk_T} {cc : ByteArray} {own : String} {nL fr lw : Nat} {ret : Option FieldType} {nm : String} (X : hv_X k cc own nL fr lw ret nm) : gs_ok k.2.1 k.1.2.2.2.2.1 k.1.2.2.2.2.1.heap := X.2.2.2.2.2.1
theorem hv_X.sz {k : mk_T} {cc : ByteArray} {own : String} {nL fr lw : Nat} {ret : Option FieldType} {nm : String} (X : hv_X k cc own nL fr lw ret nm) : k.1.2.2.2.2.1.heap.size = k.2.2.1.1 := X.2.2.2.2.2.2.1
theorem hv_X.rc {k : mk_T} {cc : ByteArray} {own : String} {nL fr lw : Nat} {ret : Option FieldType} {nm : String} (X : hv_X k cc own nL fr lw ret nm) : k.1.2.2.2.1.cells = gC k.2.1 - k.2.2.1.1 := X.2.2.2.2.2.2.2.1
theorem hv_X.rs {k : mk_T} {cc : ByteArray} {own : String} {nL fr lw : Nat} {ret : Option FieldType} {nm : String} (X : hv_X k cc own nL fr lw ret nm) : k.1.2.2.2.1.slots = gS k.2.1 - k.2.2.1.2.1 := X.2.2.2.2.2.2.2.2.1
theorem hv_X.fr {k : mk_T} {cc : ByteArray} {own : String} {nL fr lw : Nat} {ret : Option FieldType} {nm : String} (X : hv_X k cc own nL fr lw ret nm) : fr ≤ k.1.2.2.2.1.frames := X.2.2.2.2.2.2.2.2.2.1
theorem hv_X.lw {k : mk_T} {cc : ByteArray} {own : String} {nL fr lw : Nat} {ret : Option FieldType} {nm : String} (X : hv_X k cc own nL fr lw ret nm) : lw ≤ k.1.2.2.2.1.locals := X.2.2.2.2.2.2.2.2.2.2.1
theorem hv_X.rt {k : mk_T} {cc : ByteArray} {own : String} {nL fr lw : Nat} {ret : Option FieldType} {nm : String} (X : hv_X k cc own nL fr lw ret nm) : k.1.2.2.2.2.2.2.2.2.1.sig.returnType = ret := X.2.2.2.2.2.2.2.2.2.2.2.1
theorem hv_X.lk {k : mk_T} {cc : ByteArray} {own : String} {nL fr lw : Nat} {ret : Option FieldType} {nm : String} (X : hv_X k cc own nL fr lw ret nm) : k.1.2.2.2.2.2.2.2.2.1.locks = false := X.2.2.2.2.2.2.2.2.2.2.2.2.1
section HV2
variable {k : mk_T} {cc : ByteArray} {own : String} {nL fr lw : Nat} {ret : Option FieldType} {nm : String} {σ σ' : ho_H} {pc pn : Nat} {lo lo' : List (Option Value)} {st : List Value}
theorem hv_ldc (X : hv_X k cc own nL fr lw ret nm) {index : Nat} {v : Int32} (d : decode cc pc = .ok (.ldc index, 2)) (hw : Cond.constant own index v ∈ hv_ws) (kk : hv_V k σ pn lo (.int v :: st)) (hp : pn = pc + 2 := by rfl) : hv_V k σ pc lo st := by
  subst hp
  intro H locs ls hR hS g1 g2 hl
  exact lv_ldc X.1 X.2.1 X.ow (X.ts _ hw) d (kk H locs ls hR hS g1 g2 hl)
theorem hv_lcmp (X : hv_X k cc own nL fr lw ret nm) {x y : Int64} (d : decode cc pc = .ok (.lcmp, 1)) (kk : hv_V k σ pn lo (.int (lg_cmp x y) :: st)) (hp : pn = pc + 1 := by rfl) : hv_V k σ pc lo (.long y :: .long x :: st) := by
  subst hp
  intro H locs ls hR hS g1 g2 hl
  exact W.lcmp X.1 X.2.1 d (kk H locs ls hR hS g1 g2 hl)
theorem hv_topi {x y : Int32} (e : x = y) (kk : hv_V k σ pc lo (.int y :: st)) : hv_V k σ pc lo (.int x :: st) := by rw [e]; exact kk
theorem hv_same (X : hv_X k cc own nL fr lw ret nm) {T : u_T} {j : Nat} {ref : String} (h : ref = (T j).1 ∨ Cond.sameField ref (T j).1 (T j).2.1 (T j).2.2.1 ∈ hv_ws) : ∀ x, k.1.2.2.2.2.1.fieldFound? (T j).1 (T j).2.1 (T j).2.2.1 = some x → k.1.2.2.2.2.1.fieldFound? ref (T j).2.1 (T j).2.2.1 = some x := by
  rcases h with rfl | h
  · exact fun _ h => h
  · exact fun x hx => u_same (X.ts _ h) x hx
theorem hv_get (X : hv_X k cc own nL fr lw ret nm) {index ci j a : Nat} {v : Value} {fs : List Value} (d : decode cc pc = .ok (.getfield index, 3)) (hF : hv_fa own index ci j) (hf : ho_f σ a ci = some fs) (hv : fs[j]? = some v) (kk : hv_V k σ pn lo (v :: st)) (hp : pn = pc + 3 := by rfl) : hv_V k σ pc lo (.ref a :: st) := by
  subst hp
  intro H locs ls hR hS g1 g2 hl
  obtain ⟨C, T, N, ref, hc, hin, hj, hlink, hsame⟩ := hF
  have hat := (hR.2.2.2 a _ (ho_f_E hf)).2
  have hsm := hv_same X hsame
  rcases hlink with hlink | ⟨host, hlink⟩
  · exact va_get X.1 X.2.1 X.ts hin X.ow X.gs.2.1 (va_P1 hat) 0 rfl hc j hj (X.ts _ hlink) hsm hv d (kk H locs ls hR hS g1 g2 hl)
  · exact va_getN X.1 X.2.1 X.ts hin X.ow X.gs.2.1 (va_P1 hat) 0 rfl hc j hj (va_Nw.use rfl (X.gs.2.2.2.2.2.1 _ hlink)) hsm hv d (kk H locs ls hR hS g1 g2 hl)
theorem hv_getI (X : hv_X k cc own nL fr lw ret nm) {index ci j a : Nat} {x : Int32} (d : decode cc pc = .ok (.getfield index, 3)) (hF : hv_fa own index ci j) (e : ho_gI σ a ci j = some x) (kk : hv_V k σ pn lo (.int x :: st)) (hp : pn = pc + 3 := by rfl) : hv_V k σ pc lo (.ref a :: st) := by
  obtain ⟨fs, h1, h2⟩ := bd_E e
  exact hv_get X d hF h1 (ho_vI_E h2) kk hp
theorem hv_getR (X : hv_X k cc own nL fr lw ret nm) {index ci j a x : Nat} (d : decode cc pc = .ok (.getfield index, 3)) (hF : hv_fa own index ci j) (e : ho_gR σ a ci j = some x) (kk : hv_V k σ pn lo (.ref x :: st)) (hp : pn = pc + 3 := by rfl) : hv_V k σ pc lo (.ref a :: st) := by
  obtain ⟨fs, h1, h2⟩ := bd_E e
  exact hv_get X d hF h1 (ho_vR_E h2) kk hp
theorem hv_put (X : hv_X k cc own nL fr lw ret nm) {index ci j a : Nat} {v : Value} {ty : FieldType} (d : decode cc pc = .ok (.putfield index, 3)) (hF : hv_fp own index ci j ty false) (e : ho_p σ a ci j v = some σ') (kk : hv_V k σ' pn lo st) (hn : narrow ty v = v := by rfl) (hfit : fits ty v = true := by rfl) (hp : pn = pc + 3 := by rfl) : hv_V k σ pc lo (v :: .ref a :: st) := by
  subst hp
  intro H locs ls hR hS g1 g2 hl
  obtain ⟨C, T, N, ref, ty0, hc, hin, hj, hlink, hsame, hty, hnm, hfin, -, hd⟩ := hF
  obtain ⟨fs, hf, h2⟩ := bd_E e
  split at h2
  · next hlt =>
    cases h2
    have hat := hR.2.2.2 a _ (ho_f_E hf)
    obtain ⟨r, h1, cell, q1, q2, q3, q4⟩ := hat.2
    have hr : r = (C, T, N) := Option.some.inj (h1.symm.trans hc)
    subst hr
    have hK := X.gs.2.1
    have hap := va_apart (own := own) X.ts hin ty0 hty hnm hK hc
    obtain ⟨hSl, hfc, kC, hkC, hkind⟩ := hK.1 ci _ hc
    obtain ⟨cf, kf, fi, f, hi, hsl⟩ := hSl j hj
    have hlay := X.ts _ (hin _ (u_in_lay hj))
    unfold u_lay at hlay
    rw [if_neg (by rw [hfin]; decide)] at hlay
    have hst := (u_facts hfc hkC (u_lays X.ts hin hj) hi).1
    have h6 := u_store hfc hkC hkind hlay hi hd hn hfit
    have hsm := hv_same X hsame
    rcases hlink with hlink | ⟨host, hlink⟩
    · refine W.putK X.1 X.2.1 (f := f) ⟨X.ow, X.ts _ hlink, ⟨_, _, _, hsm _ hi⟩, hst⟩ (by rw [q2]; exact h6) q1 q3 (by rw [hsl]; exact k2_hasslot (q4 j hj)) rfl rfl d fun H' e1 e2 e3 => ?_
      rw [hsl] at e1 ⊢
      exact kk H' _ ls (hR.set (ho_f_E hf) e2 e3 ⟨_, hc, t_OB.to (V := updV (vp_V fs) j v) ⟨_, e1, q2, q3, t_set q4 hap hj v⟩ (fun i _ => vp_updV_set hlt v i)⟩) (hS.put e2 e3 hat.1) g1 g2 hl
    · refine va_WputK X.1 X.2.1 (f := f) X.ow (va_Nw.use rfl (X.gs.2.2.2.2.2.1 _ hlink)) (hsm _ hi) hst (by rw [q2]; exact h6) q1 q3 (by rw [hsl]; exact k2_hasslot (q4 j hj)) rfl rfl d fun H' e1 e2 e3 => ?_
      rw [hsl] at e1 ⊢
      exact kk H' _ ls (hR.set (ho_f_E hf) e2 e3 ⟨_, hc, t_OB.to (V := updV (vp_V fs) j v) ⟨_, e1, q2, q3, t_set q4 hap hj v⟩ (fun i _ => vp_updV_set hlt v i)⟩) (hS.put e2 e3 hat.1) g1 g2 hl
  · cases h2
theorem hv_putF (X : hv_X k cc own nL fr lw ret "<init>") {index ci j a : Nat} {v : Value} {ty : FieldType} (d : decode cc pc = .ok (.putfield index, 3)) (hF : hv_fp own index ci j ty true) (e : ho_p σ a ci j v = some σ') (kk : hv_V k σ' pn lo st) (hn : narrow ty v = v := by rfl) (hfit : fits ty v = true := by rfl) (hp : pn = pc + 3 := by rfl) : hv_V k σ pc lo (v :: .ref a :: st) := by
  subst hp
  intro H locs ls hR hS g1 g2 hl
  obtain ⟨C, T, N, ref, ty0, hc, hin, hj, hlink, hsame, hty, hnm, hfin, hdecl, hd⟩ := hF
  have hM := X.2.2.2.2.2.2.2.2.2.2.2.2.2.2
  obtain ⟨fs, hf, h2⟩ := bd_E e
  split at h2
  · next hlt =>
    cases h2
    have hat := hR.2.2.2 a _ (ho_f_E hf)
    obtain ⟨r, h1, cell, q1, q2, q3, q4⟩ := hat.2
    have hr : r = (C, T, N) := Option.some.inj (h1.symm.trans hc)
    subst hr
    have hK := X.gs.2.1
    have hap := va_apart (own := own) X.ts hin ty0 hty hnm hK hc
    obtain ⟨hSl, hfc, kC, hkC, hkind⟩ := hK.1 ci _ hc
    obtain ⟨cf, kf, fi, f, hi, hsl⟩ := hSl j hj
    have hlay := X.ts _ (hin _ (u_in_lay hj))
    unfold u_lay at hlay
    rw [if_pos hfin] at hlay
    have hst := (u_facts hfc hkC (u_lays X.ts hin hj) hi).1
    have hcf : k.1.2.2.2.2.2.1.cls = cf := by
      obtain ⟨_, _, c', _, _, _, -, -, hf', -, -, -, hown2, -⟩ := Cond.laysFinal_spec hlay
      have e1 : c' = cf := by have := hi.symm.trans hf'; simp at this; exact this.1.symm
      rw [hdecl rfl] at hown2
      rw [← e1]; exact Option.some.inj (X.ow.symm.trans hown2)
    have h6 := u_fits hfc hkC hkind (Or.inr hlay) hi hd hn hfit
    have hsm := hv_same X hsame
    rcases hlink with hlink | ⟨host, hlink⟩
    · refine W.putFinK X.1 X.2.1 X.ow (X.ts _ hlink) (hsm _ hi) hst hcf hM (by rw [q2]; exact h6) q1 q3 (by rw [hsl]; exact k2_hasslot (q4 j hj)) rfl rfl d fun H' e1 e2 e3 => ?_
      rw [hsl] at e1 ⊢
      exact kk H' _ ls (hR.set (ho_f_E hf) e2 e3 ⟨_, hc, t_OB.to (V := updV (vp_V fs) j v) ⟨_, e1, q2, q3, t_set q4 hap hj v⟩ (fun i _ => vp_updV_set hlt v i)⟩) (hS.put e2 e3 hat.1) g1 g2 hl
    · have ha : a < H.size := (Array.getElem?_eq_some_iff.mp q1).1
      refine va_Wputf X.1 X.2.1 X.ow (va_Nw.use rfl (X.gs.2.2.2.2.2.1 _ hlink)) (hsm _ hi) hst (Or.inr ⟨hcf, hM⟩) q1 (by rw [q3]; exact fun h => by cases h) (by rw [hsl]; exact k2_hasslot (q4 j hj)) h6.1 (by rw [q3, q2]; exact h6.2) rfl rfl d ?_
      rw [hsl]
      have e1 : (H.setIfInBounds a (cell.setSlot ((gD k.2.1).2 ci j) v))[a]? = some (cell.setSlot ((gD k.2.1).2 ci j) v) := by simp [Array.getElem?_setIfInBounds, ha]
      have e2 : (H.setIfInBounds a (cell.setSlot ((gD k.2.1).2 ci j) v)).size = H.size := by simp
      have e3 : ∀ q : Nat, q ≠ a → (H.setIfInBounds a (cell.setSlot ((gD k.2.1).2 ci j) v))[q]? = H[q]? := fun q hq => by simp [Array.getElem?_setIfInBounds, Ne.symm hq]
      exact kk _ _ ls (hR.set (ho_f_E hf) e2 e3 ⟨_, hc, t_OB.to (V := updV (vp_V fs) j v) ⟨_, e1, q2, q3, t_set q4 hap hj v⟩ (fun i _ => vp_updV_set hlt v i)⟩) (hS.put e2 e3 hat.1) g1 g2 hl
  · cases h2
theorem hv_ki (X : hv_X k cc own nL fr lw ret nm) {i : Nat} {ty : FieldType} (h : hv_tys[i]? = some ty) : ArrOfT k.1.2.2.2.2.1 (gc k.2.1 i) ty ∧ va_RA k.1.2.2.2.2.1 (gc k.2.1 i) ty := X.gs.2.1.2 i _ (X.gs.2.2.1 i ty h)
theorem hv_kt (X : hv_X k cc own nL fr lw ret nm) {i : Nat} {ty : FieldType} (h : hv_tys[i]? = some ty) : (gT k.2.1)[i]? = some (gc k.2.1 i, ty) := X.gs.2.2.1 i ty h
theorem hv_iald (X : hv_X k cc own nL fr lw ret nm) {a : Nat} {i x : Int32} (d : decode cc pc = .ok (.iaload, 1)) (e : ho_ldI k.2.1 σ a i = some x) (kk : hv_V k σ pn lo (.int x :: st)) (hp : pn = pc + 1 := by rfl) : hv_V k σ pc lo (.int i :: .ref a :: st) := by
  subst hp
  intro H locs ls hR hS g1 g2 hl
  obtain ⟨q, h1, h2⟩ := bd_E e
  obtain ⟨j, hj, h3⟩ := mp_E h2
  obtain ⟨hin, rfl⟩ := ho_ix_E hj
  subst h3
  rcases ho_rI_E h1 with h | h
  · exact va_iald X.1 X.2.1 X.gs.2.1 (va_P1 (hR.2.2.2 a _ h).2) 0 0 rfl (hv_kt X rfl) hin d (kk H locs ls hR hS g1 g2 hl)
  · exact va_ti X.1 X.2.1 (X.gs.2.2.2.1 a _ _ h) hS hin rfl d (kk H locs ls hR hS g1 g2 hl)
theorem hv_zald (X : hv_X k cc own nL fr lw ret nm) {a : Nat} {i x : Int32} (d : decode cc pc = .ok (.baload, 1)) (e : ho_ldZ k.2.1 σ a i = some x) (kk : hv_V k σ pn lo (.int x :: st)) (hp : pn = pc + 1 := by rfl) : hv_V k σ pc lo (.int i :: .ref a :: st) := by
  subst hp
  intro H locs ls hR hS g1 g2 hl
  obtain ⟨q, h1, h2⟩ := bd_E e
  obtain ⟨j, hj, h3⟩ := mp_E h2
  obtain ⟨hin, rfl⟩ := ho_ix_E hj
  subst h3
  exact va_zald X.1 X.2.1 X.gs.2.1 (va_P1 (hR.2.2.2 a _ (ho_aI_E h1)).2) 0 1 rfl (hv_kt X rfl) hin d (kk H locs ls hR hS g1 g2 hl)
theorem hv_lald (X : hv_X k cc own nL fr lw ret nm) {a : Nat} {i : Int32} {x : Int64} (d : decode cc pc = .ok (.laload, 1)) (e : ho_ldL k.2.1 σ a 2 i = some x) (kk : hv_V k σ pn lo (.long x :: st)) (hp : pn = pc + 1 := by rfl) : hv_V k σ pc lo (.int i :: .ref a :: st) := by
  subst hp
  intro H locs ls hR hS g1 g2 hl
  obtain ⟨q, h1, h2⟩ := bd_E e
  obtain ⟨j, hj, h3⟩ := mp_E h2
  obtain ⟨hin, rfl⟩ := ho_ix_E hj
  subst h3
  exact va_lald X.1 X.2.1 X.gs.2.1 (va_P1 (hR.2.2.2 a _ (ho_aL_E h1)).2) 0 2 rfl (hv_kt X rfl) hin d (kk H locs ls hR hS g1 g2 hl)
theorem hv_aald (X : hv_X k cc own nL fr lw ret nm) {a kd : Nat} {C : String} {i : Int32} {x : Nat} (d : decode cc pc = .ok (.aaload, 1)) (ht : hv_tys[kd]? = some (.object C)) (e : ho_ldR k.2.1 σ a kd i = some x) (kk : hv_V k σ pn lo (.ref x :: st)) (hp : pn = pc + 1 := by rfl) : hv_V k σ pc lo (.int i :: .ref a :: st) := by
  subst hp
  intro H locs ls hR hS g1 g2 hl
  obtain ⟨q, h1, h2⟩ := bd_E e
  obtain ⟨j, hj, h3⟩ := bd_E h2
  obtain ⟨hin, rfl⟩ := ho_ix_E hj
  refine va_aldq X.1 X.2.1 X.gs.2.1 (va_P1 (hR.2.2.2 a _ (ho_aR_E h1)).2) 0 kd rfl (hv_kt X ht) hin d ?_
  rw [h3]
  exact kk H locs ls hR hS g1 g2 hl
theorem hv_iast (X : hv_X k cc own nL fr lw ret nm) {a : Nat} {i x : Int32} (d : decode cc pc = .ok (.iastore, 1)) (e : ho_stI k.2.1 σ a i x = some σ') (kk : hv_V k σ' pn lo st) (hp : pn = pc + 1 := by rfl) : hv_V k σ pc lo (.int x :: .int i :: .ref a :: st) := by
  subst hp
  intro H locs ls hR hS g1 g2 hl
  obtain ⟨q, h1, h2⟩ := bd_E e
  obtain ⟨j, hj, h3⟩ := mp_E h2
  obtain ⟨hin, rfl⟩ := ho_ix_E hj
  subst h3
  have hc := hR.2.2.2 a _ (ho_aI_E h1)
  refine W.iast X.1 X.2.1 hc.2 ((hv_ki X (i := 0) rfl).1 q.1 (fun j => .int (q.2 j))) (fun q => by cases q) (by show ¬ (i < 0 ∨ (arrV _ _ _).slots.size ≤ _); rw [arrV_size]; exact hin) rfl rfl d fun H1 e z oq => ?_
  refine kk H1 _ ls (hR.set (ho_aI_E h1) z oq ?_) (hS.put z oq hc.1) g1 g2 hl
  show H1[a]? = some (vp_cell _ _)
  rw [e]
  rw [vp_cell_i, vp_cell_i, arrV_store]
  congr 2
  funext z
  by_cases hz : z = i.toNatClampNeg
  · subst hz
    simp [updV, upd]
  · simp [updV, upd, hz]
theorem hv_zast (X : hv_X k cc own nL fr lw ret nm) {a : Nat} {i x : Int32} (d : decode cc pc = .ok (.bastore, 1)) (e : ho_stZ k.2.1 σ a i x = some σ') (kk : hv_V k σ' pn lo st) (hp : pn = pc + 1 := by rfl) : hv_V k σ pc lo (.int x :: .int i :: .ref a :: st) := by
  subst hp
  intro H locs ls hR hS g1 g2 hl
  obtain ⟨q, h1, h2⟩ := bd_E e
  obtain ⟨j, hj, h3⟩ := mp_E h2
  obtain ⟨hin, rfl⟩ := ho_ix_E hj
  subst h3
  have hc := hR.2.2.2 a _ (ho_aI_E h1)
  refine W.zast X.1 X.2.1 hc.2 ((hv_ki X (i := 1) rfl).1 q.1 (fun j => .int (q.2 j))) (fun q => by cases q) (by show ¬ (i < 0 ∨ (arrV _ _ _).slots.size ≤ _); rw [arrV_size]; exact hin) rfl rfl d fun H1 e z oq => ?_
  refine kk H1 _ ls (hR.set (ho_aI_E h1) z oq ?_) (hS.put z oq hc.1) g1 g2 hl
  show H1[a]? = some (vp_cell _ _)
  rw [e]
  rw [vp_cell_i, vp_cell_i, arrV_store]
  congr 2
  funext q
  by_cases hq : q = i.toNatClampNeg
  · subst hq
    simp [updV, upd, vp_nar]
    try rfl
  · simp [updV, upd, hq]
theorem hv_last (X : hv_X k cc own nL fr lw ret nm) {a : Nat} {i : Int32} {x : Int64} (d : decode cc pc = .ok (.lastore, 1)) (e : ho_stL k.2.1 σ a 2 i x = some σ') (kk : hv_V k σ' pn lo st) (hp : pn = pc + 1 := by rfl) : hv_V k σ pc lo (.long x :: .int i :: .ref a :: st) := by
  subst hp
  intro H locs ls hR hS g1 g2 hl
  obtain ⟨q, h1, h2⟩ := bd_E e
  obtain ⟨j, hj, h3⟩ := mp_E h2
  obtain ⟨hin, rfl⟩ := ho_ix_E hj
  subst h3
  have hc := hR.2.2.2 a _ (ho_aL_E h1)
  refine W.last X.1 X.2.1 hc.2 ((hv_ki X (i := 2) rfl).1 q.1 (fun j => .long (q.2 j))) (fun q => by cases q) (by show ¬ (i < 0 ∨ (arrV _ _ _).slots.size ≤ _); rw [arrV_size]; exact hin) rfl rfl d fun H1 e z oq => ?_
  refine kk H1 _ ls (hR.set (ho_aL_E h1) z oq ?_) (hS.put z oq hc.1) g1 g2 hl
  show H1[a]? = some (vp_cell _ _)
  rw [e]
  rw [vp_cell_l, vp_cell_l, arrV_store]
  congr 2
  funext q
  by_cases hq : q = i.toNatClampNeg
  · subst hq
    simp [updV, vp_updL]
  · simp [updV, vp_updL, hq]
theorem hv_alenI (X : hv_X k cc own nL fr lw ret nm) {a : Nat} {x : Int32} (d : decode cc pc = .ok (.arraylength, 1)) (e : ho_lnI k.2.1 σ a = some x) (kk : hv_V k σ pn lo (.int x :: st)) (hp : pn = pc + 1 := by rfl) : hv_V k σ pc lo (.ref a :: st) := by
  subst hp
  intro H locs ls hR hS g1 g2 hl
  obtain ⟨q, h1, h2⟩ := mp_E e
  rcases ho_rI_E h1 with h | h
  · exact va_alen X.1 X.2.1 X.gs.2.1 (va_P1 (hR.2.2.2 a _ h).2) 0 0 rfl (hv_kt X rfl) h2 d (kk H locs ls hR hS g1 g2 hl)
  · obtain ⟨cell, t1, t2, t3, t4, t5, t6, t7⟩ := X.gs.2.2.2.1 a _ _ h
    exact W.alen X.1 X.2.1 (by rw [hS.2.1 a (Array.getElem?_eq_some_iff.mp t1).1 t7]; exact t1) t2 (t5.trans h2) rfl rfl d (kk H locs ls hR hS g1 g2 hl)
theorem hv_alenR (X : hv_X k cc own nL fr lw ret nm) {a kd : Nat} {C : String} {x : Int32} (d : decode cc pc = .ok (.arraylength, 1)) (ht : hv_tys[kd]? = some (.object C)) (e : ho_lnR k.2.1 σ a kd = some x) (kk : hv_V k σ pn lo (.int x :: st)) (hp : pn = pc + 1 := by rfl) : hv_V k σ pc lo (.ref a :: st) := by
  subst hp
  intro H locs ls hR hS g1 g2 hl
  obtain ⟨q, h1, h2⟩ := mp_E e
  exact va_alen X.1 X.2.1 X.gs.2.1 (va_P1 (hR.2.2.2 a _ (ho_aR_E h1)).2) 0 kd rfl (hv_kt X ht) h2 d (kk H locs ls hR hS g1 g2 hl)
theorem hv_new (X : hv_X k cc own nL fr lw ret nm) {index ci N a : Nat} {fs : List Value} (d : decode cc pc = .ok (.new index, 3)) (hN : hv_nw own index ci N fs) (e : ho_al k.2.1 σ N (.inr (ci, fs)) = some (σ', a)) (kk : hv_V k σ' pn lo (.ref a :: st)) (hp : pn = pc + 3 := by rfl) : hv_V k σ pc lo st := by
  subst hp
  intro H locs ls hR hS g1 g2 hl
  obtain ⟨C, T, ty, hc, hin, hty, hcl, hinst, hini, hfs⟩ := hN
  have hKn := X.gs.2.1.1 ci _ hc
  obtain ⟨a1, a2, a3, a4, a5⟩ := ho_al_E e
  refine W.newcK X.1 X.2.1 X.ow (X.ts _ hcl) (X.ts _ hinst) (X.ts _ hini) rfl d (by rw [X.rc]; omega) (by rw [X.rs]; omega) hKn.2.1 rfl fun H1 kC hkC e1 z1 o1 => ?_
  obtain ⟨b1, b2, -⟩ := hR.push e (Nat.le_trans X.gs.1 hS.1) z1 o1 ⟨_, hc, (u_born ty X.ts hin hKn hkC e1 hty).to hfs⟩
  have w := kk H1 locs ls b1 (hS.grow (by omega) o1) (by omega) (by omega) hl
  rw [a3, a4, show σ.1 + 1 - k.2.2.1.1 = σ.1 - k.2.2.1.1 + 1 by omega, show σ.2.1 + N - k.2.2.1.2.1 = σ.2.1 - k.2.2.1.2.1 + N by omega, b2] at w
  exact w
theorem ho_n_E {n : Int32} {N : Nat} (h : ho_n n = some N) : ¬ n < 0 ∧ n.toNatClampNeg = N ∧ N ≤ 60000000 := by
  unfold ho_n at h
  split at h
  · cases h
  · next hc =>
    have e := Option.some.inj h
    exact ⟨fun q => hc (Or.inl q), e, by omega⟩
theorem hv_newa (X : hv_X k cc own nL fr lw ret nm) {n : Int32} {a N kd : Nat} {atype : ArrayType} {a0 : vp_A} (d : decode cc pc = .ok (.newarray atype, 2)) (hw : Cond.arrayClass (newarray.typeOf atype) ∈ hv_ws) (hk : hv_tys[kd]? = some (newarray.typeOf atype)) (hobj : ∀ C, newarray.typeOf atype ≠ .object C) (hb : componentBytes (newarray.typeOf atype) ≤ 8) (h0 : ∀ cA : ClassId, vp_cell cA a0 = arrV cA N (fun _ => defaultValue (newarray.typeOf atype))) (hn : ho_n n = some N) (e : ho_al k.2.1 σ N (.inl (gc k.2.1 kd, a0)) = some (σ', a)) (kk : hv_V k σ' pn lo (.ref a :: st)) (hp : pn = pc + 2 := by rfl) : hv_V k σ pc lo (.int n :: st) := by
  subst hp
  intro H locs ls hR hS g1 g2 hl
  obtain ⟨n1, n2, n3⟩ := ho_n_E hn
  obtain ⟨a1, a2, a3, a4, a5⟩ := ho_al_E e
  refine va_newaK X.1 X.2.1 (X.ts _ hw) rfl d rfl n1 n2 (by have := Nat.mul_le_mul n3 hb; omega) (by rw [X.rc]; omega) (by rw [X.rs]; omega) rfl fun H1 cA e1 z1 o1 hAr hNm => ?_
  have hcA : cA = gc k.2.1 kd := by
    have h2 := (hv_ki X hk).2
    unfold va_RA at h2
    split at h2
    · next C hC => exact absurd hC (hobj C)
    · exact Option.some.inj (hNm.symm.trans h2)
  subst hcA
  obtain ⟨b1, b2, -⟩ := hR.push e (Nat.le_trans X.gs.1 hS.1) z1 o1 (by show H1[H.size]? = some (vp_cell _ _); rw [h0]; exact e1)
  have w := kk H1 locs ls b1 (hS.grow (by omega) o1) (by omega) (by omega) hl
  rw [a3, a4, show σ.1 + 1 - k.2.2.1.1 = σ.1 - k.2.2.1.1 + 1 by omega, show σ.2.1 + N - k.2.2.1.2.1 = σ.2.1 - k.2.2.1.2.1 + N by omega, b2] at w
  exact w
theorem hv_nwI (X : hv_X k cc own nL fr lw ret nm) {n : Int32} {a : Nat} (d : decode cc pc = .ok (.newarray .int, 2)) (hw : Cond.arrayClass .int ∈ hv_ws) (e : ho_nwI k.2.1 σ n = some (σ', a)) (kk : hv_V k σ' pn lo (.ref a :: st)) (hp : pn = pc + 2 := by rfl) : hv_V k σ pc lo (.int n :: st) := by
  obtain ⟨N, h1, h2⟩ := bd_E e
  exact hv_newa X (kd := 0) d hw rfl (fun C h => by cases h) (by decide) (fun cA => rfl) h1 h2 kk hp
theorem hv_nwZ (X : hv_X k cc own nL fr lw ret nm) {n : Int32} {a : Nat} (d : decode cc pc = .ok (.newarray .boolean, 2)) (hw : Cond.arrayClass .boolean ∈ hv_ws) (e : ho_nwZ k.2.1 σ n = some (σ', a)) (kk : hv_V k σ' pn lo (.ref a :: st)) (hp : pn = pc + 2 := by rfl) : hv_V k σ pc lo (.int n :: st) := by
  obtain ⟨N, h1, h2⟩ := bd_E e
  exact hv_newa X (kd := 1) d hw rfl (fun C h => by cases h) (by decide) (fun cA => rfl) h1 h2 kk hp
theorem hv_nwL (X : hv_X k cc own nL fr lw ret nm) {n : Int32} {a : Nat} (d : decode cc pc = .ok (.newarray .long, 2)) (hw : Cond.arrayClass .long ∈ hv_ws) (e : ho_nwL k.2.1 σ 2 n = some (σ', a)) (kk : hv_V k σ' pn lo (.ref a :: st)) (hp : pn = pc + 2 := by rfl) : hv_V k σ pc lo (.int n :: st) := by
  obtain ⟨N, h1, h2⟩ := bd_E e
  exact hv_newa X (kd := 2) d hw rfl (fun C h => by cases h) (by decide) (fun cA => rfl) h1 h2 kk hp
theorem hv_gets (X : hv_X k cc own nL fr lw ret nm) {index i : Nat} {C n ds ref : String} (d : decode cc pc = .ok (.getstatic index, 3)) (hi : hv_stat[i]? = some (C, n, ds)) (hlink : Cond.fieldLink own index ref n ds ∈ hv_ws) (hsame : ref = C ∨ Cond.sameField ref C n ds ∈ hv_ws) (kk : hv_V k σ pn lo (.ref (gA k.2.1 i) :: st)) (hp : pn = pc + 3 := by rfl) : hv_V k σ pc lo st := by
  subst hp
  intro H locs ls hR hS g1 g2 hl
  have hsm : ∀ x, k.1.2.2.2.2.1.fieldFound? C n ds = some x → k.1.2.2.2.2.1.fieldFound? ref n ds = some x := by
    rcases hsame with rfl | h
    · exact fun _ h => h
    · exact fun x hx => u_same (X.ts _ h) x hx
  exact va_gets X.1 X.2.1 (X.gs.2.2.2.2.1 i _ hi) hS X.ow (X.ts _ hlink) hsm d (kk H locs ls hR hS g1 g2 hl)
theorem hv_oinit (X : hv_X k cc own nL fr lw ret nm) {index a : Nat} (d : decode cc pc = .ok (.invokespecial index, 3)) (hlink : Cond.methodLink own index objectInit ∈ hv_ws) (hinst : Cond.instanceMethod objectInit ∈ hv_ws) (hcode : Cond.code objectInit ⟨#[0xb1]⟩ 1 none ∈ hv_ws) (hfr : 1 ≤ fr) (hlw : 20 ≤ lw) (hs : (st.map fun v => v.category).sum ≤ 8) (kk : hv_V k σ pn lo st) (hp : pn = pc + 3 := by rfl) : hv_V k σ pc lo (.ref a :: st) := by
  subst hp
  intro H locs ls hR hS g1 g2 hl
  have h1 := X.fr
  have h2 := X.lw
  exact W.objInit X.1 X.2.1 X.ow (X.ts _ hlink) (X.ts _ hinst) (X.ts _ hcode) rfl (by rw [X.2.2.1]; exact hl.1) rfl d (by omega) (by show 2 * 0 + _ + 12 ≤ _; omega) (kk H locs ls hR hS g1 g2 hl)
/-! the end of a method -/
def hv_Qc (G : ho_G) (σ' : ho_H) (r : Option Value) : Array Value → State → Outcome → State → Prop := fun _ st oc t => oc = .returned r ∧ hs_R G σ' t.heap ∧ va_F (gW G) st t
def hv_end (k : mk_T) (σ' : ho_H) (r : Option Value) : Prop := k.2.2.2.1 = MQ k.1.2.2.2.2.2.2.2.1 (hv_Qc k.2.1 σ' r) k.1.2.2.2.2.2.2.1 k.1.2.2.2.2.1 (σ'.1 - k.2.2.1.1) (σ'.2.1 - k.2.2.1.2.1) (gW k.2.1)
theorem hv_iret (X : hv_X k cc own nL fr lw (some .int) nm) {x : Int32} (d : decode cc pc = .ok (.ireturn, 1)) (E : hv_end k σ (some (.int x))) : hv_V k σ pc lo [.int x] := by
  intro H locs ls hR hS g1 g2 hl
  rw [show k.2.2.2.1 = _ from E]
  exact W.iret X.1 X.2.1 X.rt (fun t ht hW => ⟨rfl, by rw [ht]; exact hR, hS.F ht⟩) hS.2.2 d X.lk
theorem hv_zret (X : hv_X k cc own nL fr lw (some .boolean) nm) {x : Int32} (d : decode cc pc = .ok (.ireturn, 1)) (hx : narrow .boolean (.int x) = .int x) (E : hv_end k σ (some (.int x))) : hv_V k σ pc lo [.int x] := by
  intro H locs ls hR hS g1 g2 hl
  rw [show k.2.2.2.1 = _ from E]
  exact W.zret X.1 X.2.1 X.rt hx (fun t ht hW => ⟨rfl, by rw [ht]; exact hR, hS.F ht⟩) hS.2.2 d X.lk
theorem hv_vret (X : hv_X k cc own nL fr lw none nm) (d : decode cc pc = .ok (.return_, 1)) (E : hv_end k σ none) : hv_V k σ pc lo [] := by
  intro H locs ls hR hS g1 g2 hl
  rw [show k.2.2.2.1 = _ from E]
  exact W.vret X.1 X.2.1 X.rt (fun t ht hW => ⟨rfl, by rw [ht]; exact hR, hS.F ht⟩) hS.2.2 d X.lk
theorem hv_aret (X : hv_X k cc own nL fr lw ret nm) {a : Nat} {rt : FieldType} (hrt : ret = some rt) (ho : (∃ n, rt = .object n) ∨ ∃ t, rt = .array t) (d : decode cc pc = .ok (.areturn, 1)) (E : hv_end k σ (some (.ref a))) : hv_V k σ pc lo [.ref a] := by
  intro H locs ls hR hS g1 g2 hl
  rw [show k.2.2.2.1 = _ from E]
  exact W.aret X.1 X.2.1 (X.rt.trans hrt) ho (Or.inr ⟨a, rfl⟩) (fun t ht hW => ⟨rfl, by rw [ht]; exact hR, hS.F ht⟩) hS.2.2 d X.lk
end HV2
end
section
/-! contracts and calls -/
def hv_C (l : Launch) (G : ho_G) (y : MethodName) (ws : List Cond) (fr lw : Nat) (av : List Value) (σ σ' : ho_H) (r : Option Value) : Prop :=
  Met l y ws { frames := fr, cells := gC G - σ.1, slots := gS G - σ.2.1, locals := lw } (va_Pc av (fun U => hs_R G σ U.heap ∧ gs_ok G U U.heap)) (hv_Qc G σ' r) (σ'.1 - σ.1) (σ'.2.1 - σ.2.1) (gW G)
theorem lo_has.pad {ls : Array Slot} {nL n : Nat} {lo : List (Option Value)} (h : lo_has ls nL lo) : lo_has ls nL (lo ++ List.replicate n none) := by
  refine ⟨h.1, h.2.1, fun i v hi => h.2.2 i v ?_⟩
  by_cases hl : i < lo.length
  · rw [List.getElem?_append_left hl] at hi
    exact hi
  · rw [List.getElem?_append_right (by omega)] at hi
    have := List.mem_of_getElem? hi
    simp at this
theorem hv_met {l : Launch} {G : ho_G} {y : MethodName} {cc : ByteArray} {maxL : Nat} {ret : Option FieldType} {fr lw : Nat} {av : List Value} {σ σ' : ho_H} {r : Option Value} (lo : List (Option Value)) (hy : plainFor y = true) (hcat : ∀ v ∈ av, v.category = 1) (hlen : (lg_sl av).length ≤ maxL) (hlo : lo = av.map some ++ List.replicate (maxL - av.length) none)
    (body : ∀ k : mk_T, hv_X k cc y.cls maxL fr lw ret y.name → k.1.2.1 = l → k.2.1 = G → hv_end k σ' r → hv_V k σ 0 lo []) : hv_C l G y (Cond.code y cc maxL ret :: hv_ws) fr lw av σ σ' r := by
  refine va_MetF (cc := cc) (maxL := maxL) (ret := ret) hy rfl ?_
  intro p e s m args below meth c s₁ B hml hv
  obtain ⟨rfl, hR, hG⟩ := hv
  have hts := atoms_spec (ws := Cond.code y cc maxL ret :: hv_ws) B.pre
  have hown : s.vm.findClass y.cls = some m.cls := findClass_of_methodNamed B.named
  have hl := lv_entry av (n := maxL) hlen
  rw [lg_entry_eq]
  subst hlo
  have w := body ((p, l, e, (headSpec (Cond.code y cc maxL ret :: hv_ws) { frames := fr, cells := gC G - σ.1, slots := gS G - σ.2.1, locals := lw }).room, s, m, av.toArray, below, meth, c), G, σ, MQ below (hv_Qc G σ' r) av.toArray s (σ'.1 - σ.1) (σ'.2.1 - σ.2.1) (gW G), maxL)
    ⟨B.exec, B.bytes, hml, hown, fun w h => hts w (List.mem_cons_of_mem _ h), hG, hR.1, rfl, rfl, Nat.le_refl _, Nat.le_refl _, B.returns, B.notSynchronized, rfl, (name_of_methodNamed B.named B.method).1⟩ rfl rfl rfl
    s.heap [] _ hR va_S.rf (Nat.le_refl _) (Nat.le_refl _) (lo_has.pad (lo_has.of hl hcat))
  simp only [Nat.sub_self] at w
  exact w
theorem my_back {l : Launch} {R : Room} {p : Program} {e : Env} {below : List Frame} {s : State} {sargs : Array Value} {y : MethodName} {len W : Nat} {ws : List Cond} {rm : Room} {Pc : Array Value → State → Prop} {Qc : Array Value → State → Outcome → State → Prop} {mc ms : Nat} {free : Addr → Prop} {bytes : ByteArray} {maxL : Nat} {ret : Option FieldType}
    (hM : Met l y ws rm Pc Qc mc ms free) (hblind : FrameBlind Pc) (hframes : rm.frames + 1 ≤ R.frames) (hlocals : W + (maxL + 11) + rm.locals ≤ R.locals)
    (hws : ∀ w ∈ ws, ∀ a' U, s.WarmedH U.vm → w.before a' U = true) (hcode : Cond.code y bytes maxL ret ∈ ws) (hinit : ∀ a' U, s.WarmedH U.vm → (Cond.initialized y.cls).before a' U = true) :
    Back l R p e below s sargs y len W (PreOf R rm.cells rm.slots Pc) (PostOf Qc mc ms free) := by
  refine Back.of_free (S := headSpec ws rm) (P := Pc) (K := fun _ _ _ _ _ => True) (Q := fun a st o t => Qc a st o t ∧ ∃ L, FrameEnd st o t L mc ms ∧ ∀ q ∈ L, free q.base) (bytes := bytes) (maxL := maxL) (ret := ret)
    (E := fun a st o t L k n => k = mc ∧ n = ms ∧ ∀ q ∈ L, free q.base) hM hframes hlocals ?_ ?_ (fun _ _ _ _ _ _ _ _ _ => trivial) ?_ ?_
  · intro m meth c A a X hp
    exact ⟨atoms_intro fun w hw => hws w hw _ _ X.warmed, hws _ hcode _ _ X.warmed, hinit _ _ X.warmed, hp.1, hp.2.1⟩
  · intro m meth c A a g mk X hp
    exact hblind _ _ _ _ hp.2.2
  · intro a st o t ⟨hq, L, hF, hL⟩
    exact ⟨L, mc, ms, hF, rfl, rfl, hL⟩
  · intro m meth c A a g mk v t L k n X hp hq hF ⟨e1, e2, hL⟩
    subst e1; subst e2
    exact ⟨g, mk, t, L, rfl, rfl, hq.1, rfl, hL, rfl, rfl⟩
theorem hv_blind {G : ho_G} {σ : ho_H} {av : List Value} : FrameBlind (va_Pc av (fun U => hs_R G σ U.heap ∧ gs_ok G U U.heap)) := fun a U g mk q => by
  obtain ⟨q0, q1, q2⟩ := q
  exact ⟨q0, q1, gs_ok.self q2 rfl⟩
section HV3
variable {k : mk_T} {cc : ByteArray} {own : String} {nL fr lw : Nat} {ret : Option FieldType} {nm : String} {σ σ' : ho_H} {pc pn : Nat} {lo lo' : List (Option Value)} {st sti : List Value} {index maxL fr' lw' : Nat} {y : MethodName} {bytes : ByteArray} {rt : Option FieldType} {av : List Value} {r : Option Value}
theorem hv_bk (X : hv_X k cc own nL fr lw ret nm) (hc : hv_C k.1.2.1 k.2.1 y (Cond.code y bytes maxL rt :: hv_ws) fr' lw' av σ σ' r) {n : Nat} (hy : hv_cs own index y bytes maxL rt n) (hfr : fr' + 1 ≤ fr) (hlw : 8 + (maxL + 11) + lw' ≤ lw) :
    Back k.1.2.1 k.1.2.2.2.1 k.1.1 k.1.2.2.1 k.1.2.2.2.2.2.2.2.1 k.1.2.2.2.2.1 k.1.2.2.2.2.2.2.1 y 3 8 (PreOf k.1.2.2.2.1 (gC k.2.1 - σ.1) (gS k.2.1 - σ.2.1) (va_Pc av (fun U => hs_R k.2.1 σ U.heap ∧ gs_ok k.2.1 U U.heap))) (PostOf (hv_Qc k.2.1 σ' r) (σ'.1 - σ.1) (σ'.2.1 - σ.2.1) (gW k.2.1)) := by
  have h1 := X.fr
  have h2 := X.lw
  have ok : ∀ w ∈ hv_ws, ∀ (a' : Array Value) (U : State), k.1.2.2.2.2.1.WarmedH U.vm → w.before a' U = true := fun w hw a' U hW => word_at hW (hv_good w hw) (X.ts w hw)
  exact my_back (bytes := bytes) (maxL := maxL) (ret := rt) hc hv_blind (by show fr' + 1 ≤ _; omega) (by show 8 + (maxL + 11) + lw' ≤ _; omega)
    (fun w hw => by rcases List.mem_cons.mp hw with rfl | hw; · exact ok _ hy.1
                    · exact ok w hw) List.mem_cons_self (ok _ hy.2.1)
/-- behind a call -/
theorem hv_after (X : hv_X k cc own nL fr lw ret nm) (hm : σ.1 ≤ σ'.1 ∧ σ.2.1 ≤ σ'.2.1) (kk : hv_V k σ' (pc + 3) lo (r.toList ++ st)) {H : Heap} {locs : List Loc} {ls : Array Slot} (hR : hs_R k.2.1 σ H) (hS : va_S (gW k.2.1) k.1.2.2.2.2.1.heap H locs) (g1 : k.2.2.1.1 ≤ σ.1) (g2 : k.2.2.1.2.1 ≤ σ.2.1) (hl : lo_has ls k.2.2.2.2 lo)
    {T U' t st0 : State} {L : List Loc} {v : Option Value} (hT : T.heap = H) (h0 : st0.heap = H) (e1 : U'.heap = t.heap) (hq : hv_Qc k.2.1 σ' r av.toArray st0 (.returned v) t) (hL : ∀ q ∈ L, gW k.2.1 q.base)
    (X' : Stand k.1.1 k.1.2.1 k.1.2.2.1 k.1.2.2.2.1 k.1.2.2.2.2.1 k.1.2.2.2.2.2.1 k.1.2.2.2.2.2.2.1 k.1.2.2.2.2.2.2.2.1 k.1.2.2.2.2.2.2.2.2.1 k.1.2.2.2.2.2.2.2.2.2 U' (locs ++ L) (σ.1 - k.2.2.1.1 + (σ'.1 - σ.1)) (σ.2.1 - k.2.2.1.2.1 + (σ'.2.1 - σ.2.1)))
    (stp : ∀ target, Steps k.1.1.tables k.1.2.2.1 k.1.2.2.2.2.2.2.2.1 (U'.setTop { F0 k.1.2.2.2.2.2.1 pc ls sti with pc := pc + 3, stack := v.toList ++ st }) target → Steps k.1.1.tables k.1.2.2.1 k.1.2.2.2.2.2.2.2.1 (T.setTop (F0 k.1.2.2.2.2.2.1 pc ls sti)) target) :
    ∃ t, Steps k.1.1.tables k.1.2.2.1 k.1.2.2.2.2.2.2.2.1 (T.setTop (F0 k.1.2.2.2.2.2.1 pc ls sti)) t ∧ k.2.2.2.1 t := by
  obtain ⟨hv, hR', hz, hk⟩ := hq
  cases hv
  rw [h0] at hz hk
  have w := kk U'.heap (locs ++ L) ls (by rw [e1]; exact hR') ⟨Nat.le_trans hS.1 (by rw [e1]; exact hz), fun q a1 a2 => by rw [e1, hk q (Nat.lt_of_lt_of_le a1 hS.1) a2]; exact hS.2.1 q a1 a2, fun q hq => by
      rcases List.mem_append.mp hq with h | h
      · exact hS.2.2 q h
      · exact hL q h⟩ (by omega) (by omega) hl
  rw [show σ'.1 - k.2.2.1.1 = σ.1 - k.2.2.1.1 + (σ'.1 - σ.1) by omega, show σ'.2.1 - k.2.2.1.2.1 = σ.2.1 - k.2.2.1.2.1 + (σ'.2.1 - σ.2.1) by omega] at w
  obtain ⟨t2, a1, b1⟩ := w U' rfl X'
  exact ⟨t2, stp t2 a1, b1⟩
theorem hv_pre (X : hv_X k cc own nL fr lw ret nm) {H : Heap} {locs : List Loc} (hR : hs_R k.2.1 σ H) (hS : va_S (gW k.2.1) k.1.2.2.2.2.1.heap H locs) (g1 : k.2.2.1.1 ≤ σ.1) (g2 : k.2.2.1.2.1 ≤ σ.2.1) {T : State} (hT : T.heap = H) {vm₁ : Vm} (hW : k.1.2.2.2.2.1.WarmedH vm₁) :
    PreOf k.1.2.2.2.1 (gC k.2.1 - σ.1) (gS k.2.1 - σ.2.1) (va_Pc av (fun U => hs_R k.2.1 σ U.heap ∧ gs_ok k.2.1 U U.heap)) ⟨T.setVm vm₁, locs, σ.1 - k.2.2.1.1, σ.2.1 - k.2.2.1.2.1⟩ av.toArray := by
  have h1 := X.rc
  have h2 := X.rs
  have h3 := hR.2.1
  have h4 := hR.2.2.1
  refine ⟨by show σ.1 - k.2.2.1.1 + _ ≤ _; omega, by show σ.2.1 - k.2.2.1.2.1 + _ ≤ _; omega, rfl, ?_, ?_⟩
  · show hs_R k.2.1 σ T.heap
    rw [hT]; exact hR
  · show gs_ok k.2.1 (T.setVm vm₁) T.heap
    rw [hT]
    exact X.gs.move hW hS.1 hS.2.1
theorem hv_callS (X : hv_X k cc own nL fr lw ret nm) (d : decode cc pc = .ok (.invokestatic index, 3)) (hc : hv_C k.1.2.1 k.2.1 y (Cond.code y bytes maxL rt :: hv_ws) fr' lw' av σ σ' r) (hy : hv_cs own index y bytes maxL rt av.length) (hsta : Cond.static y ∈ hv_ws) (hfr : fr' + 1 ≤ fr) (hlw : 8 + (maxL + 11) + lw' ≤ lw) (hm : σ.1 ≤ σ'.1 ∧ σ.2.1 ≤ σ'.2.1) (hs : (st.map fun v => v.category).sum ≤ 8) (kk : hv_V k σ' pn lo (r.toList ++ st)) (hst : sti = av.reverse ++ st := by rfl) (hp : pn = pc + 3 := by rfl) : hv_V k σ pc lo sti := by
  subst hp
  intro H locs ls hR hS g1 g2 hl T hT XT
  have hK := hv_bk X hc hy hfr hlw
  obtain ⟨w1, w2, w3, w4, w5⟩ := hy
  have hn : ∀ sig, parseMethodDescriptor y.desc = some sig → av.length = sig.parameters.length := fun sig h => by
    rw [h] at w4
    exact (Option.some.inj w4).symm
  rcases w5 with w5 | ⟨host, w5⟩
  · obtain ⟨v, vm₁, ⟨U', l2, c2, s2⟩, hW₁, X', ⟨g', mk, t, L, e1, e2, hq, h1, hL, h2, h3⟩, stp⟩ := callS XT X.1 (bytes := bytes) (maxL := maxL) (ret := rt) X.ow (X.ts _ w5) (X.ts _ hsta) (X.ts _ w2) (X.ts _ w1) w3 hK rfl (by rw [X.2.2.1]; exact hl.1) (argsL := av) (rest := st) hn hst (lv_room hs) (by rw [X.2.1]; exact d) (fun vm₁ hW₁ => hv_pre X hR hS g1 g2 hT hW₁)
    dsimp only [Pt.U, Pt.locs, Pt.cells, Pt.slots] at X' e1 e2 h1 h2 h3 stp
    subst h1; subst h2; subst h3
    exact hv_after X hm kk hR hS g1 g2 hl hT (st0 := (T.setVm vm₁).calling g' mk av.toArray) hT e1 hq hL X' stp
  · obtain ⟨v, vm₁, ⟨U', l2, c2, s2⟩, hW₁, X', ⟨g', mk, t, L, e1, e2, hq, h1, hL, h2, h3⟩, stp⟩ := va_callSN XT X.1 (bytes := bytes) (maxL := maxL) (ret := rt) X.ow (va_Nw.use rfl (X.gs.2.2.2.2.2.2.1 _ w5)) (X.ts _ hsta) (X.ts _ w2) (X.ts _ w1) w3 hK rfl (by rw [X.2.2.1]; exact hl.1) (argsL := av) (rest := st) hn hst (lv_room hs) (by rw [X.2.1]; exact d) (fun vm₁ hW₁ => hv_pre X hR hS g1 g2 hT hW₁)
    dsimp only [Pt.U, Pt.locs, Pt.cells, Pt.slots] at X' e1 e2 h1 h2 h3 stp
    subst h1; subst h2; subst h3
    exact hv_after X hm kk hR hS g1 g2 hl hT (st0 := (T.setVm vm₁).calling g' mk av.toArray) hT e1 hq hL X' stp
theorem hv_callI (X : hv_X k cc own nL fr lw ret nm) {b : Nat} {as : List Value} (d : decode cc pc = .ok (.invokespecial index, 3)) (hc : hv_C k.1.2.1 k.2.1 y (Cond.code y bytes maxL none :: hv_ws) fr' lw' (.ref b :: as) σ σ' r) (hy : hv_cs own index y bytes maxL none as.length) (hini : y.name = "<init>") (hinst : Cond.instanceMethod y ∈ hv_ws) (hfr : fr' + 1 ≤ fr) (hlw : 8 + (maxL + 11) + lw' ≤ lw) (hm : σ.1 ≤ σ'.1 ∧ σ.2.1 ≤ σ'.2.1) (hs : (st.map fun v => v.category).sum ≤ 8) (kk : hv_V k σ' pn lo (r.toList ++ st)) (hst : sti = as.reverse ++ .ref b :: st := by rfl) (hp : pn = pc + 3 := by rfl) : hv_V k σ pc lo sti := by
  subst hp
  intro H locs ls hR hS g1 g2 hl T hT XT
  have hK := hv_bk X hc hy hfr hlw
  obtain ⟨w1, w2, w3, w4, w5⟩ := hy
  have hn : ∀ sig, parseMethodDescriptor y.desc = some sig → as.length = sig.parameters.length := fun sig h => by
    rw [h] at w4
    exact (Option.some.inj w4).symm
  rcases w5 with w5 | ⟨host, w5⟩
  · obtain ⟨v, vm₁, ⟨U', l2, c2, s2⟩, hW₁, X', ⟨g', mk, t, L, e1, e2, hq, h1, hL, h2, h3⟩, stp⟩ := callI XT X.1 (bytes := bytes) (maxL := maxL) X.ow hini (X.ts _ w5) (X.ts _ hinst) (X.ts _ w1) w3 hK rfl (by rw [X.2.2.1]; exact hl.1) (a := b) (argsL := as) (rest := st) hn hst (lv_room hs) (by rw [X.2.1]; exact d) (fun vm₁ hW₁ => hv_pre X hR hS g1 g2 hT hW₁)
    dsimp only [Pt.U, Pt.locs, Pt.cells, Pt.slots] at X' e1 e2 h1 h2 h3 stp
    subst h1; subst h2; subst h3
    exact hv_after X hm kk hR hS g1 g2 hl hT (st0 := (T.setVm vm₁).calling g' mk (Value.ref b :: as).toArray) hT e1 hq hL X' stp
  · obtain ⟨v, vm₁, ⟨U', l2, c2, s2⟩, hW₁, X', ⟨g', mk, t, L, e1, e2, hq, h1, hL, h2, h3⟩, stp⟩ := va_callIN XT X.1 (bytes := bytes) (maxL := maxL) X.ow hini (va_Nw.use rfl (X.gs.2.2.2.2.2.2.1 _ w5)) (X.ts _ hinst) (X.ts _ w1) w3 hK rfl (by rw [X.2.2.1]; exact hl.1) (a := b) (argsL := as) (rest := st) hn hst (lv_room hs) (by rw [X.2.1]; exact d) (fun vm₁ hW₁ => hv_pre X hR hS g1 g2 hT hW₁)
    dsimp only [Pt.U, Pt.locs, Pt.cells, Pt.slots] at X' e1 e2 h1 h2 h3 stp
    subst h1; subst h2; subst h3
    exact hv_after X hm kk hR hS g1 g2 hl hT (st0 := (T.setVm vm₁).calling g' mk (Value.ref b :: as).toArray) hT e1 hq hL X' stp
theorem hv_recv (X : hv_X k cc own nL fr lw ret nm) {b ci : Nat} {fs : List Value} {q : vw_C} (hc : vwCl[ci]? = some q) (hf : ho_f σ b ci = some fs) {H : Heap} (hR : hs_R k.2.1 σ H) : ∃ cell : Cell, H[b]? = some cell ∧ cell.vm.isStatics = false ∧ k.1.2.2.2.2.1.vm.findClass q.1 = some cell.cls :=
  va_recv X.gs.2.1 (va_P1 (hR.2.2.2 b _ (ho_f_E hf)).2) hc (q0 := 0) rfl
theorem hv_callV (X : hv_X k cc own nL fr lw ret nm) {b ci : Nat} {as fs : List Value} {q : vw_C} (d : decode cc pc = .ok (.invokevirtual index, 3)) (hc : hv_C k.1.2.1 k.2.1 y (Cond.code y bytes maxL rt :: hv_ws) fr' lw' (.ref b :: as) σ σ' r) (hy : hv_cs own index y bytes maxL rt as.length) (hinst : Cond.instanceMethod y ∈ hv_ws) (hq : vwCl[ci]? = some q) (hsel : Cond.selects q.1 y y ∈ hv_ws) (hf : ho_f σ b ci = some fs) (hfr : fr' + 1 ≤ fr) (hlw : 8 + (maxL + 11) + lw' ≤ lw) (hm : σ.1 ≤ σ'.1 ∧ σ.2.1 ≤ σ'.2.1) (hs : (st.map fun v => v.category).sum ≤ 8) (kk : hv_V k σ' pn lo (r.toList ++ st)) (hst : sti = as.reverse ++ .ref b :: st := by rfl) (hp : pn = pc + 3 := by rfl) : hv_V k σ pc lo sti := by
  subst hp
  intro H locs ls hR hS g1 g2 hl T hT XT
  have hK := hv_bk X hc hy hfr hlw
  obtain ⟨w1, w2, w3, w4, w5⟩ := hy
  obtain ⟨cellB, c1, c2, c3⟩ := hv_recv X hq hf hR
  have hn : ∀ sig, parseMethodDescriptor y.desc = some sig → as.length = sig.parameters.length := fun sig h => by
    rw [h] at w4
    exact (Option.some.inj w4).symm
  rcases w5 with w5 | ⟨host, w5⟩
  · obtain ⟨v, vm₁, ⟨U', l2, c2', s2⟩, hW₁, X', ⟨g', mk, t, L, e1, e2, hq, h1, hL, h2, h3⟩, stp⟩ := callV XT X.1 (bytes := bytes) (maxL := maxL) (ret := rt) X.ow (X.ts _ w5) (X.ts _ hinst) (X.ts _ hsel) (X.ts _ w1) w3 hK (by rw [hT]; exact c1) c2 c3 rfl (by rw [X.2.2.1]; exact hl.1) (argsL := as) (rest := st) hn hst (lv_room hs) (by rw [X.2.1]; exact d) (fun vm₁ hW₁ => hv_pre X hR hS g1 g2 hT hW₁)
    dsimp only [Pt.U, Pt.locs, Pt.cells, Pt.slots] at X' e1 e2 h1 h2 h3 stp
    subst h1; subst h2; subst h3
    exact hv_after X hm kk hR hS g1 g2 hl hT (st0 := (T.setVm vm₁).calling g' mk (Value.ref b :: as).toArray) hT e1 hq hL X' stp
  · obtain ⟨v, vm₁, ⟨U', l2, c2', s2⟩, hW₁, X', ⟨g', mk, t, L, e1, e2, hq, h1, hL, h2, h3⟩, stp⟩ := va_callVN XT X.1 (bytes := bytes) (maxL := maxL) (ret := rt) X.ow (va_Nw.use rfl (X.gs.2.2.2.2.2.2.1 _ w5)) (X.ts _ hinst) (X.ts _ hsel) (X.ts _ w1) w3 hK (by rw [hT]; exact c1) c2 c3 rfl (by rw [X.2.2.1]; exact hl.1) (argsL := as) (rest := st) hn hst (lv_room hs) (by rw [X.2.1]; exact d) (fun vm₁ hW₁ => hv_pre X hR hS g1 g2 hT hW₁)
    dsimp only [Pt.U, Pt.locs, Pt.cells, Pt.slots] at X' e1 e2 h1 h2 h3 stp
    subst h1; subst h2; subst h3
    exact hv_after X hm kk hR hS g1 g2 hl hT (st0 := (T.setVm vm₁).calling g' mk (Value.ref b :: as).toArray) hT e1 hq hL X' stp
theorem ho_ck_E {α : Type} {x : Option (ho_H × α)} {z : ho_H × α} (h : ho_ck σ x = some z) : x = some z ∧ σ.1 ≤ z.1.1 ∧ σ.2.1 ≤ z.1.2.1 := by
  obtain ⟨v, h1, h2⟩ := bd_E h
  split at h2
  · next hc => cases h2; exact ⟨h1, hc⟩
  · cases h2
end HV3
def bd2 {α β γ : Type} (x : Option (α × β)) (f : α → β → Option γ) : Option γ := x.bind fun q => f q.1 q.2
theorem bd2_E {α β γ : Type} {x : Option (α × β)} {f : α → β → Option γ} {r : γ} (h : bd2 x f = some r) : ∃ a b, x = some (a, b) ∧ f a b = some r := by
  obtain ⟨⟨a, b⟩, h1, h2⟩ := bd_E h
  exact ⟨a, b, h1, h2⟩
def sm_e {A B C : Type} (f : A → C) (g : B → C) (e : A ⊕ B) : C := match e with
  | .inl a => f a
  | .inr b => g b
/-- a loop's walk: if a turn of the body leads from the head to the head or out, so does the loop -/
theorem hv_loop {S E : Type} {f : S → Option (S ⊕ E)} {P : S → Prop} {Z : E → Prop} (hb : ∀ s r, f s = some r → sm P Z r → P s) : ∀ (n : Nat) (s : S) (e : E), ho_it f n s = some e → Z e → P s := by
  intro n
  induction n with
  | zero => intro s e h; cases h
  | succ n ih =>
    intro s e h hz
    unfold ho_it at h
    split at h
    · cases h
    · next s' hs => exact hb s _ hs (ih s' e h hz)
    · next e' hs =>
      cases h
      exact hb s _ hs hz
end
section
def ho_cpI (G : ho_G) (σ : ho_H) (src : Nat) (sp : Int32) (dst : Nat) (dp n : Int32) : Option ho_H := (ho_rI G σ src).bind fun q => (ho_aI G σ dst 0).bind fun w => if sp < 0 ∨ dp < 0 ∨ n < 0 ∨ q.1 < sp.toNatClampNeg + n.toNatClampNeg ∨ w.1 < dp.toNatClampNeg + n.toNatClampNeg then none else some (ho_set σ dst (.inl (gc G 0, w.1, .inl (va_cpy q.2 w.2 sp.toNatClampNeg dp.toNatClampNeg n.toNatClampNeg))))
section HV4
variable {k : mk_T} {cc : ByteArray} {own : String} {nL fr lw : Nat} {ret : Option FieldType} {nm : String} {σ σ' : ho_H} {pc pn : Nat} {lo lo' : List (Option Value)} {st : List Value}
theorem hv_cpI (X : hv_X k cc own nL fr lw ret nm) {index src dst : Nat} {sp dp n : Int32} (d : decode cc pc = .ok (.invokestatic index, 3)) (hw1 : Cond.methodLink own index arraycopyName ∈ hv_ws) (hw2 : Cond.native arraycopyName ∈ hv_ws) (hw3 : Cond.static arraycopyName ∈ hv_ws) (hw4 : Cond.initialized "java/lang/System" ∈ hv_ws) (e : ho_cpI k.2.1 σ src sp dst dp n = some σ') (hfr : 1 ≤ fr) (hlw : 8 + (nativeFrameWords "java/lang/System" "arraycopy" 5 + 11) ≤ lw) (hs : (st.map fun v => v.category).sum ≤ 8) (kk : hv_V k σ' pn lo st) (hp : pn = pc + 3 := by rfl) : hv_V k σ pc lo (.int n :: .int dp :: .ref dst :: .int sp :: .ref src :: st) := by
  subst hp
  intro H locs ls hR hS g1 g2 hl
  obtain ⟨q, hq, h2⟩ := bd_E e
  obtain ⟨w, hw, h3⟩ := bd_E h2
  split at h3
  · cases h3
  · next hc =>
    cases h3
    have nn : ∀ z : Int32, ¬ z < 0 → z.toInt = (z.toNatClampNeg : Int) := by
      intro z hz
      have hz0 : (0 : Int) ≤ z.toInt := by
        have := Int32.not_lt.mp hz
        simpa using Int32.le_iff_toInt_le.mp this
      show z.toInt = ((z.toInt.toNat : Nat) : Int)
      omega
    have h1 : ¬ sp < 0 := fun z => hc (Or.inl z)
    have h2' : ¬ dp < 0 := fun z => hc (Or.inr (Or.inl z))
    have h3 : ¬ n < 0 := fun z => hc (Or.inr (Or.inr (Or.inl z)))
    have h4 : sp.toNatClampNeg + n.toNatClampNeg ≤ q.1 := Nat.not_lt.mp fun z => hc (Or.inr (Or.inr (Or.inr (Or.inl z))))
    have h5 : dp.toNatClampNeg + n.toNatClampNeg ≤ w.1 := Nat.not_lt.mp fun z => hc (Or.inr (Or.inr (Or.inr (Or.inr z))))
    have hcd := hR.2.2.2 dst _ (ho_aI_E hw)
    have hc1 : H[dst]? = some (vp_cell (gc k.2.1 0) (w.1, .inl w.2)) := hcd.2
    obtain ⟨-, k1, hk1, cm1, hkk1⟩ := (hv_ki X (i := 0) rfl).1 w.1 (fun j => .int (w.2 j))
    have key : ∃ cs : Cell, H[src]? = some cs ∧ (∀ z, cs.vm ≠ .statics z) ∧ cs.vm ≠ .unknown ∧ (∃ (ks : Class) (cm : ClassId), k.1.2.2.2.2.1.vm.classes[cs.cls]? = some ks ∧ ks.kind = .array cm .int) ∧ q.1 ≤ cs.slots.size ∧ ∀ j : Nat, j < q.1 → cs.slots[j]? = some (.int (q.2 j)) := by
      rcases ho_rI_E hq with h | h
      · have hc0 : H[src]? = some (vp_cell (gc k.2.1 0) (q.1, .inl q.2)) := (hR.2.2.2 src _ h).2
        obtain ⟨-, k0, hk0, cm0, hkk0⟩ := (hv_ki X (i := 0) rfl).1 q.1 (fun j => .int (q.2 j))
        refine ⟨_, hc0, (fun _ h => by cases h), (fun h => by cases h), ⟨k0, cm0, hk0, hkk0⟩, ?_, fun j hj => ?_⟩
        · show _ ≤ (arrV _ _ _).slots.size
          rw [arrV_size]
          exact Nat.le_refl _
        · show (arrV _ _ _).slots[j]? = _
          rw [arrV_read _ _ hj]
      · obtain ⟨cell, t1, ⟨t2, kt, ht, cmt, hkt⟩, t3, t4, t5, t6, t7⟩ := X.gs.2.2.2.1 src _ _ h
        exact ⟨cell, by rw [hS.2.1 src (Array.getElem?_eq_some_iff.mp t1).1 t7]; exact t1, t2, t3, ⟨kt, cmt, ht, hkt⟩, t4, t6⟩
    obtain ⟨cs, hcs, hs1, hs2, ⟨ks, cms, hks, hkks⟩, hsz, hvals⟩ := key
    have hX1 := X.fr
    have hX2 := X.lw
    intro T hT XT
    obtain ⟨vm', X', step⟩ := XT.arraycopy X.1 X.ow (X.ts _ hw1) (X.ts _ hw2) (X.ts _ hw3) (X.ts _ hw4) (src := src) (dst := dst) (cs := cs) (cd := vp_cell (gc k.2.1 0) (w.1, .inl w.2)) (srcPos := sp) (destPos := dp) (n := n) (by rw [hT]; exact hcs) (by rw [hT]; exact hc1)
      hs1 (fun _ h => by cases h) hs2 (fun h => by cases h) hks hk1 hkks hkk1 (by decide) h1 h2' h3
      (by rw [nn sp h1, nn n h3]; omega)
      (by rw [nn dp h2', nn n h3]; show ¬ _ > ((arrV (gc k.2.1 0) w.1 (fun j => .int (w.2 j))).slots.size : Int); rw [arrV_size]; omega)
      (fun vm₁ _ i hi => by
        have e : cs.slots.getD (sp.toNatClampNeg + i) .null = .int (q.2 (sp.toNatClampNeg + i)) := by
          rw [Array.getD_eq_getD_getElem?, hvals _ (by omega)]
          rfl
        rw [e]
        exact ⟨rfl, trivial⟩)
      (g := F0 _ pc ls (.int n :: .int dp :: .ref dst :: .int sp :: .ref src :: st)) rfl (by rw [X.2.2.1]; exact hl.1) (rest := st) rfl (by rw [X.2.1]; exact d) (by omega) (by show 2 * 0 + _ + _ ≤ _; omega)
    have e0 : cs.stretch sp.toNatClampNeg n.toNatClampNeg = (arrV (gc k.2.1 0) q.1 (fun j => .int (q.2 j))).stretch sp.toNatClampNeg n.toNatClampNeg := by
      unfold Cell.stretch
      apply List.map_congr_left
      intro i hi
      have hi' := List.mem_range.mp hi
      rw [Array.getD_eq_getD_getElem?, Array.getD_eq_getD_getElem?, arrV_read _ _ (by omega), hvals _ (by omega)]
    have e1 : copied cs (vp_cell (gc k.2.1 0) (w.1, .inl w.2)) sp dp n = vp_cell (gc k.2.1 0) (w.1, .inl (va_cpy q.2 w.2 sp.toNatClampNeg dp.toNatClampNeg n.toNatClampNeg)) := by
      show Cell.storeRun _ _ (cs.stretch _ _) = _
      rw [e0]
      exact va_copied (fun z => .int z) (gc k.2.1 0) (gc k.2.1 0) q.2 w.2 h4
    rw [e1] at X' step
    have hl' : dst < H.size := (Array.getElem?_eq_some_iff.mp hc1).1
    have hheap : ((T.setVm vm').setCell dst (vp_cell (gc k.2.1 0) (w.1, .inl (va_cpy q.2 w.2 sp.toNatClampNeg dp.toNatClampNeg n.toNatClampNeg)))).heap = H.setIfInBounds dst (vp_cell (gc k.2.1 0) (w.1, .inl (va_cpy q.2 w.2 sp.toNatClampNeg dp.toNatClampNeg n.toNatClampNeg))) := by rw [← hT]; rfl
    have oq : ∀ z : Nat, z ≠ dst → (H.setIfInBounds dst (vp_cell (gc k.2.1 0) (w.1, .inl (va_cpy q.2 w.2 sp.toNatClampNeg dp.toNatClampNeg n.toNatClampNeg))))[z]? = H[z]? := fun z hz => by simp [Array.getElem?_setIfInBounds, Ne.symm hz]
    obtain ⟨t, a1, b1⟩ := kk _ _ ls (hR.set (ho_aI_E hw) (by simp) oq (show (H.setIfInBounds dst _)[dst]? = some _ by simp [Array.getElem?_setIfInBounds, hl'])) ⟨by simp; exact hS.1, fun z z1 z2 => by
        rw [oq z (fun e => z2 (by rw [e]; exact hcd.1))]
        exact hS.2.1 z z1 z2, fun z hz => by
        rcases List.mem_append.mp hz with h | h
        · exact hS.2.2 z h
        · obtain ⟨y, -, hy⟩ := List.mem_map.mp h
          rw [← hy]
          exact hcd.1⟩ g1 g2 hl _ hheap X'
    exact ⟨t, step t a1, b1⟩
end HV4
end
section
/-! arrays of references, casts, class objects, clone, the switch -/
def ho_rR (G : ho_G) (σ : ho_H) (a kd : Nat) : Option (Nat × (Nat → Option Nat)) := match σ.2.2 a with
  | some (.inl (c, n, .inr (.inr (.inr (.inr f))))) => if c = gc G kd then some (n, f) else none
  | some _ => none
  | none => if a = gA G 4 ∧ kd = 5 then some (0, fun _ => none) else none
theorem ho_rR_E {G : ho_G} {σ : ho_H} {a kd : Nat} {q : Nat × (Nat → Option Nat)} (h : ho_rR G σ a kd = some q) : σ.2.2 a = some (.inl (gc G kd, q.1, .inr (.inr (.inr (.inr q.2))))) ∨ (a = gA G 4 ∧ kd = 5 ∧ q.1 = 0) := by
  unfold ho_rR at h
  split at h
  · next c n f e =>
    split at h
    · next hc => subst hc; rw [e, ← Option.some.inj h]; exact Or.inl rfl
    · cases h
  · cases h
  · split at h
    · next hc => cases h; exact Or.inr ⟨hc.1, hc.2, rfl⟩
    · cases h
def ho_lnQ (G : ho_G) (σ : ho_H) (a kd : Nat) : Option Int32 := (ho_rR G σ a kd).map fun q => Int32.ofNat q.1
def ho_cpR (G : ho_G) (σ : ho_H) (src : Nat) (sp : Int32) (dst : Nat) (dp n : Int32) : Option ho_H := (ho_aR G σ src 5).bind fun q => (ho_aR G σ dst 5).bind fun w => if sp < 0 ∨ dp < 0 ∨ n < 0 ∨ q.1 < sp.toNatClampNeg + n.toNatClampNeg ∨ w.1 < dp.toNatClampNeg + n.toNatClampNeg ∨ ¬ (∀ i, i < n.toNatClampNeg → ((q.2 (sp.toNatClampNeg + i)).all fun y => (ho_f σ y 3).isSome) = true) then none else some (ho_set σ dst (.inl (gc G 5, w.1, .inr (.inr (.inr (.inr (va_cpy q.2 w.2 sp.toNatClampNeg dp.toNatClampNeg n.toNatClampNeg)))))))
def ho_clI (G : ho_G) (σ : ho_H) (a : Nat) : Option (ho_H × Nat) := (ho_aI G σ a 0).bind fun q => ho_al G σ q.1 (.inl (gc G 0, q.1, .inl q.2))
def ho_mx (x y : Int32) : Int32 := if x < y then y else x
def ho_mn (x y : Int32) : Int32 := if y < x then y else x
section HV5
variable {k : mk_T} {cc : ByteArray} {own : String} {nL fr lw : Nat} {ret : Option FieldType} {nm : String} {σ σ' : ho_H} {pc pn : Nat} {lo lo' : List (Option Value)} {st : List Value}
theorem hv_alenQ (X : hv_X k cc own nL fr lw ret nm) {a kd : Nat} {C : String} {x : Int32} (d : decode cc pc = .ok (.arraylength, 1)) (ht : hv_tys[kd]? = some (.object C)) (e : ho_lnQ k.2.1 σ a kd = some x) (kk : hv_V k σ pn lo (.int x :: st)) (hp : pn = pc + 1 := by rfl) : hv_V k σ pc lo (.ref a :: st) := by
  subst hp
  intro H locs ls hR hS g1 g2 hl
  obtain ⟨q, h1, h2⟩ := mp_E e
  rcases ho_rR_E h1 with h | ⟨rfl, h3, h4⟩
  · exact va_alen X.1 X.2.1 X.gs.2.1 (va_P1 (hR.2.2.2 a _ h).2) 0 kd rfl (hv_kt X ht) h2 d (kk H locs ls hR hS g1 g2 hl)
  · obtain ⟨cell, t1, t2, t3, t4, t5, t6, t7⟩ := X.gs.2.2.2.2.2.2.2.1
    rw [h4] at h2
    exact W.alen X.1 X.2.1 (by rw [hS.2.1 _ (Array.getElem?_eq_some_iff.mp t1).1 t7]; exact t1) t2 (t5.trans h2) rfl rfl d (kk H locs ls hR hS g1 g2 hl)
theorem hv_acmp_eq (X : hv_X k cc own nL fr lw ret nm) {x y : Nat} {off : Int} {tgt : Nat} (d : decode cc pc = .ok (.if_acmp .eq off, 3)) (ht : (pc : Int) + off = (tgt : Int)) (kt : (x = y) → hv_V k σ tgt lo st) (kf : ¬ (x = y) → hv_V k σ pn lo st) (hp : pn = pc + 3 := by rfl) : hv_V k σ pc lo (.ref y :: .ref x :: st) := by
  subst hp
  intro H locs ls hR hS g1 g2 hl
  exact lv_acmp_eq (rx := some x) (ry := some y) X.1 X.2.1 d ht (fun h => kt (Option.some.inj h) H locs ls hR hS g1 g2 hl) (fun h => kf (fun q => h (congrArg some q)) H locs ls hR hS g1 g2 hl)
theorem hv_acmp_ne (X : hv_X k cc own nL fr lw ret nm) {x y : Nat} {off : Int} {tgt : Nat} (d : decode cc pc = .ok (.if_acmp .ne off, 3)) (ht : (pc : Int) + off = (tgt : Int)) (kt : (¬ x = y) → hv_V k σ tgt lo st) (kf : ¬ (¬ x = y) → hv_V k σ pn lo st) (hp : pn = pc + 3 := by rfl) : hv_V k σ pc lo (.ref y :: .ref x :: st) := by
  subst hp
  intro H locs ls hR hS g1 g2 hl
  exact lv_acmp_ne (rx := some x) (ry := some y) X.1 X.2.1 d ht (fun h => kt (fun q => h (congrArg some q)) H locs ls hR hS g1 g2 hl) (fun h => kf (fun q => q (Option.some.inj h)) H locs ls hR hS g1 g2 hl)
theorem hv_anew (X : hv_X k cc own nL fr lw ret nm) {n : Int32} {a index kd : Nat} {C : String} (d : decode cc pc = .ok (.anewarray index, 3)) (hw : Cond.classLink own index C ∈ hv_ws) (hov : Cond.arrayOver (.object C) ∈ hv_ws) (ht : hv_tys[kd]? = some (.object C)) (e : ho_nwR k.2.1 σ kd n = some (σ', a)) (kk : hv_V k σ' pn lo (.ref a :: st)) (hp : pn = pc + 3 := by rfl) : hv_V k σ pc lo (.int n :: st) := by
  subst hp
  intro H locs ls hR hS g1 g2 hl
  obtain ⟨N, hn, e⟩ := bd_E e
  obtain ⟨n1, n2, n3⟩ := ho_n_E hn
  obtain ⟨a1, a2, a3, a4, a5⟩ := ho_al_E e
  refine W.anew X.1 X.2.1 X.ow (X.ts _ hw) (X.ts _ hov) rfl d rfl n1 (by omega) (by rw [X.rc]; omega) (by rw [X.rs]; omega) fun cA kA comp h1 h2 h3 h4 => ?_
  have hcA : cA = gc k.2.1 kd := by
    obtain ⟨kA', comp', r1, r2, r3, r4⟩ := (hv_ki X ht).2
    exact Option.some.inj (h1.symm.trans r4)
  subst hcA
  rw [n2]
  have z1 : (H.push { cls := gc k.2.1 kd, slots := Array.replicate N .null, vm := .none }).size = H.size + 1 := Array.size_push _
  have o1 : ∀ q : Nat, q < H.size → (H.push { cls := gc k.2.1 kd, slots := Array.replicate N .null, vm := .none })[q]? = H[q]? := fun q hq => by rw [Array.getElem?_push, if_neg (Nat.ne_of_lt hq)]
  have e1 : (H.push { cls := gc k.2.1 kd, slots := Array.replicate N .null, vm := .none })[H.size]? = some (vp_cell (gc k.2.1 kd) (N, .inr (.inr (.inr (.inr fun _ => none))))) := by
    rw [Array.getElem?_push_size, vp_cell_q]
    exact congrArg some (arrV_new _ _ _)
  obtain ⟨b1, b2, -⟩ := hR.push e (Nat.le_trans X.gs.1 hS.1) z1 o1 e1
  have w := kk _ locs ls b1 (hS.grow (by omega) o1) (by omega) (by omega) hl
  rw [a3, a4, show σ.1 + 1 - k.2.2.1.1 = σ.1 - k.2.2.1.1 + 1 by omega, show σ.2.1 + N - k.2.2.1.2.1 = σ.2.1 - k.2.2.1.2.1 + N by omega, b2] at w
  exact w
theorem hv_any (X : hv_X k cc own nL fr lw ret nm) {v ci : Nat} {fs : List Value} {q : vw_C} {E : String} (hq : vwCl[ci]? = some q) (hca : q.1 = E ∨ (q.1, E) ∈ hv_cast) (hf : ho_f σ v ci = some fs) {H : Heap} (hR : hs_R k.2.1 σ H) : va_Any E k.1.2.2.2.2.1 H v := by
  refine va_rAny X.gs.2.1 (va_P1 (hR.2.2.2 v _ (ho_f_E hf)).2) (q0 := 0) rfl hq ?_
  rcases hca with rfl | hca
  · intro comp c0 h1 h2
    have hK := X.gs.2.1.1 ci q hq
    have e1 : comp = (gD k.2.1).1 ci := Option.some.inj (h1.symm.trans hK.2.1)
    have e2 : c0 = (gD k.2.1).1 ci := Option.some.inj (h2.symm.trans hK.2.1)
    rw [e1, e2]
    exact va_assign hK.2
  · exact vb_asgC (X.gs.2.2.2.2.2.2.2.2.1 _ hca)
theorem hv_aast (X : hv_X k cc own nL fr lw ret nm) {a v kd ci : Nat} {i : Int32} {fs : List Value} {q : vw_C} {E : String} (d : decode cc pc = .ok (.aastore, 1)) (ht : hv_tys[kd]? = some (.object E)) (hq : vwCl[ci]? = some q) (hca : q.1 = E ∨ (q.1, E) ∈ hv_cast) (hf : ho_f σ v ci = some fs) (e : ho_stR k.2.1 σ a kd i (some v) = some σ') (kk : hv_V k σ' pn lo st) (hp : pn = pc + 1 := by rfl) : hv_V k σ pc lo (.ref v :: .int i :: .ref a :: st) := by
  subst hp
  intro H locs ls hR hS g1 g2 hl
  obtain ⟨w, h1, h2⟩ := bd_E e
  obtain ⟨j, hj, h3⟩ := mp_E h2
  obtain ⟨hin, rfl⟩ := ho_ix_E hj
  subst h3
  have hc := hR.2.2.2 a _ (ho_aR_E h1)
  have hlt : i.toNatClampNeg < w.1 := Nat.not_le.mp fun q => hin (Or.inr q)
  have h0 : ¬ i < 0 := fun q => hin (Or.inl q)
  obtain ⟨cellV, g3, g4, ⟨kC, hkC⟩, hasg⟩ := hv_any X hq hca hf hR
  obtain ⟨kA, comp, k1, k2, k3, -⟩ := (hv_ki X ht).2
  obtain ⟨kE, hkE, -⟩ := Vm.findClass_spec k3
  refine W.aast X.1 X.2.1 hc.2 (fun q h => by cases h) (fun h => by cases h) k1 k2 rfl hkE ⟨h0, by show _ < (arrV _ _ _).slots.size; rw [arrV_size]; exact hlt⟩ g3 (fun q h => by rw [h] at g4; cases g4) hkC (hasg _ k3) rfl rfl d fun H1 e z oq => ?_
  refine kk H1 _ ls (hR.set (ho_aR_E h1) z oq ?_) (hS.put z oq hc.1) g1 g2 hl
  show H1[a]? = some (vp_cell _ _)
  rw [e]
  rw [vp_cell_q, vp_cell_q, arrV_store]
  congr 2
  funext q
  by_cases hq : q = i.toNatClampNeg
  · subst hq
    simp [updV, va_up, va_rf]
  · simp [updV, va_up, hq]
theorem hv_aastN (X : hv_X k cc own nL fr lw ret nm) {a kd : Nat} {i : Int32} {E : String} (d : decode cc pc = .ok (.aastore, 1)) (ht : hv_tys[kd]? = some (.object E)) (e : ho_stR k.2.1 σ a kd i none = some σ') (kk : hv_V k σ' pn lo st) (hp : pn = pc + 1 := by rfl) : hv_V k σ pc lo (.null :: .int i :: .ref a :: st) := by
  subst hp
  intro H locs ls hR hS g1 g2 hl
  obtain ⟨w, h1, h2⟩ := bd_E e
  obtain ⟨j, hj, h3⟩ := mp_E h2
  obtain ⟨hin, rfl⟩ := ho_ix_E hj
  subst h3
  have hc := hR.2.2.2 a _ (ho_aR_E h1)
  refine va_WaastN (C := E) X.1 X.2.1 hc.2 ((hv_ki X ht).1 w.1 (fun j => va_rf (w.2 j))) (fun h => by cases h) (by show ¬ (i < 0 ∨ (arrV _ _ _).slots.size ≤ _); rw [arrV_size]; exact hin) rfl rfl d fun H1 e z oq => ?_
  refine kk H1 _ ls (hR.set (ho_aR_E h1) z oq ?_) (hS.put z oq hc.1) g1 g2 hl
  show H1[a]? = some (vp_cell _ _)
  rw [e]
  rw [vp_cell_q, vp_cell_q, arrV_store]
  congr 2
  funext q
  by_cases hq : q = i.toNatClampNeg
  · subst hq
    simp [updV, va_up, va_rf]
  · simp [updV, va_up, hq]
theorem hv_cast_o (X : hv_X k cc own nL fr lw ret nm) {a ci index : Nat} {fs : List Value} {q : vw_C} {E : String} (d : decode cc pc = .ok (.checkcast index, 3)) (hw : Cond.classLink own index E ∈ hv_ws) (hq : vwCl[ci]? = some q) (hca : (q.1, E) ∈ hv_cast) (hf : ho_f σ a ci = some fs) (kk : hv_V k σ pn lo (.ref a :: st)) (hp : pn = pc + 3 := by rfl) : hv_V k σ pc lo (.ref a :: st) := by
  subst hp
  intro H locs ls hR hS g1 g2 hl
  exact va_castY X.1 X.2.1 X.ow (X.ts _ hw) (X.gs.2.2.2.2.2.2.2.2.1 _ hca) (hv_recv X hq hf hR) d (kk H locs ls hR hS g1 g2 hl)
theorem hv_cast_i (X : hv_X k cc own nL fr lw ret nm) {a index : Nat} {q : Nat × (Nat → Int32)} (d : decode cc pc = .ok (.checkcast index, 3)) (hw : Cond.classLink own index "[I" ∈ hv_ws) (hf : ho_aI k.2.1 σ a 0 = some q) (kk : hv_V k σ pn lo (.ref a :: st)) (hp : pn = pc + 3 := by rfl) : hv_V k σ pc lo (.ref a :: st) := by
  subst hp
  intro H locs ls hR hS g1 g2 hl
  exact va_castA X.1 X.2.1 X.ow (X.ts _ hw) (va_P1 (hR.2.2.2 a _ (ho_aI_E hf)).2) 0 rfl (hv_ki X (i := 0) (ty := .int) rfl).2 d (kk H locs ls hR hS g1 g2 hl)
theorem hv_max (X : hv_X k cc own nL fr lw ret nm) {x y : Int32} {index : Nat} (d : decode cc pc = .ok (.invokestatic index, 3)) (hw1 : Cond.methodLink own index Lib.Math.max.name ∈ hv_ws) (hw2 : Cond.static Lib.Math.max.name ∈ hv_ws) (hw3 : Cond.initialized "java/lang/Math" ∈ hv_ws) (hw4 : Cond.code Lib.Math.max.name Lib.Math.max.code 2 (some .int) ∈ hv_ws) (hfr : 1 ≤ fr) (hlw : 21 ≤ lw) (hs : (st.map fun v => v.category).sum ≤ 8) (kk : hv_V k σ pn lo (.int (ho_mx x y) :: st)) (hp : pn = pc + 3 := by rfl) : hv_V k σ pc lo (.int y :: .int x :: st) := by
  subst hp
  intro H locs ls hR hS g1 g2 hl
  have h1 := X.fr
  have h2 := X.lw
  have h3 := hR.2.1
  have h4 := hR.2.2.1
  exact va_mmax X.1 X.2.1 (by rw [X.2.2.1]; exact hl.1.symm) X.ow (X.ts _ hw1) (X.ts _ hw2) (X.ts _ hw3) (X.ts _ hw4) (by omega) (by omega) (by rw [X.rc]; omega) (by rw [X.rs]; omega) d (kk H locs ls hR hS g1 g2 hl)
theorem hv_min (X : hv_X k cc own nL fr lw ret nm) {x y : Int32} {index : Nat} (d : decode cc pc = .ok (.invokestatic index, 3)) (hw1 : Cond.methodLink own index Lib.Math.min.name ∈ hv_ws) (hw2 : Cond.static Lib.Math.min.name ∈ hv_ws) (hw3 : Cond.initialized "java/lang/Math" ∈ hv_ws) (hw4 : Cond.code Lib.Math.min.name Lib.Math.min.code 2 (some .int) ∈ hv_ws) (hfr : 1 ≤ fr) (hlw : 21 ≤ lw) (hs : (st.map fun v => v.category).sum ≤ 8) (kk : hv_V k σ pn lo (.int (ho_mn x y) :: st)) (hp : pn = pc + 3 := by rfl) : hv_V k σ pc lo (.int y :: .int x :: st) := by
  subst hp
  intro H locs ls hR hS g1 g2 hl
  have h1 := X.fr
  have h2 := X.lw
  have h3 := hR.2.1
  have h4 := hR.2.2.1
  exact va_mmin X.1 X.2.1 (by rw [X.2.2.1]; exact hl.1.symm) X.ow (X.ts _ hw1) (X.ts _ hw2) (X.ts _ hw3) (X.ts _ hw4) (by omega) (by omega) (by rw [X.rc]; omega) (by rw [X.rs]; omega) d (kk H locs ls hR hS g1 g2 hl)
theorem hv_ldcM (X : hv_X k cc own nL fr lw ret nm) {index : Nat} (d : decode cc pc = .ok (.ldc index, 2)) (hw : Cond.classLink own index "[Ljava/lang/Object;" ∈ hv_ws) (kk : hv_V k σ pn lo (.ref (gA k.2.1 5) :: st)) (hp : pn = pc + 2 := by rfl) : hv_V k σ pc lo st := by
  subst hp
  intro H locs ls hR hS g1 g2 hl
  exact va_ldcM X.1 X.2.1 X.ow (X.ts _ hw) X.gs.2.2.2.2.2.2.2.2.2.2.2.2.2 d (kk H locs ls hR hS g1 g2 hl)
theorem hv_getC (X : hv_X k cc own nL fr lw ret nm) {a index : Nat} {q : Nat × (Nat → Option Nat)} (d : decode cc pc = .ok (.invokevirtual index, 3)) (hw1 : Cond.methodLink own index ⟨"java/lang/Object", "getClass", "()Ljava/lang/Class;"⟩ ∈ hv_ws) (hd : (⟨"java/lang/Object", "getClass", "()Ljava/lang/Class;"⟩ : MethodName) ∈ hv_decl) (hw2 : Cond.selects "[Ljava/lang/Object;" ⟨"java/lang/Object", "getClass", "()Ljava/lang/Class;"⟩ ⟨"java/lang/Object", "getClass", "()Ljava/lang/Class;"⟩ ∈ hv_ws) (hw3 : Cond.instanceMethod ⟨"java/lang/Object", "getClass", "()Ljava/lang/Class;"⟩ ∈ hv_ws) (hw4 : Cond.native ⟨"java/lang/Object", "getClass", "()Ljava/lang/Class;"⟩ ∈ hv_ws) (hf : ho_aR k.2.1 σ a 5 = some q) (hfr : 1 ≤ fr) (hlw : 22 ≤ lw) (hs : (st.map fun v => v.category).sum ≤ 8) (kk : hv_V k σ pn lo (.ref (gA k.2.1 5) :: st)) (hp : pn = pc + 3 := by rfl) : hv_V k σ pc lo (.ref a :: st) := by
  subst hp
  intro H locs ls hR hS g1 g2 hl
  have h1 := X.fr
  have h2 := X.lw
  exact va_getC X.1 X.2.1 (by rw [X.2.2.1]; exact hl.1.symm) X.ow (X.ts _ hw1) (va_Nw.use rfl (X.gs.2.2.2.2.2.2.2.2.2.1 _ hd)) (X.ts _ hw2) (X.ts _ hw3) (X.ts _ hw4) X.gs.2.2.2.2.2.2.2.2.2.2.2.2.2 ⟨_, (hR.2.2.2 a _ (ho_aR_E hf)).2, rfl, va_nmO (hv_ki X (i := 5) (ty := .object "java/lang/Object") rfl).2 (by decide)⟩ (by omega) (by omega) d (kk H locs ls hR hS g1 g2 hl)
theorem hv_tsw_in (X : hv_X k cc own nL fr lw ret nm) {x : Int32} {dflt a b n off : Int} {offs : Array Int} {len tgt : Nat} (d : decode cc pc = .ok (.tableswitch dflt a b offs, len)) (hx : x.toInt = n) (h1 : ¬ n < a) (h2 : ¬ b < n) (ho : offs[(n - a).toNat]? = some off) (ht : (pc : Int) + off = (tgt : Int)) (kk : hv_V k σ tgt lo st) : hv_V k σ pc lo (.int x :: st) := by
  subst hx
  intro H locs ls hR hS g1 g2 hl
  exact lv_tableIn X.1 X.2.1 d h1 h2 ho ht (kk H locs ls hR hS g1 g2 hl)
theorem hv_tsw_out (X : hv_X k cc own nL fr lw ret nm) {x : Int32} {dflt a b : Int} {offs : Array Int} {len tgt : Nat} (d : decode cc pc = .ok (.tableswitch dflt a b offs, len)) (h : x.toInt < a ∨ b < x.toInt) (ht : (pc : Int) + dflt = (tgt : Int)) (kk : hv_V k σ tgt lo st) : hv_V k σ pc lo (.int x :: st) := by
  intro H locs ls hR hS g1 g2 hl
  exact lv_tableOut X.1 X.2.1 d h ht (kk H locs ls hR hS g1 g2 hl)
theorem hv_lsw (X : hv_X k cc own nL fr lw ret nm) {x : Int32} {dflt off : Int} {ps : Array (Int × Int)} {len tgt : Nat} (d : decode cc pc = .ok (.lookupswitch dflt ps, len)) (hp : (ps.toList.zip (ps.toList.drop 1)).all (fun (a, next) => a.1 < next.1) = true) (ho : Op.lookupswitch.offset ps.toList dflt x.toInt = off) (ht : (pc : Int) + off = (tgt : Int)) (kk : hv_V k σ tgt lo st) : hv_V k σ pc lo (.int x :: st) := by
  intro H locs ls hR hS g1 g2 hl
  exact lv_lookup X.1 X.2.1 d hp ho ht (kk H locs ls hR hS g1 g2 hl)
theorem sw_out {x : Int32} {n : Nat} (hn : n < 2 ^ 31) (h : ∀ j : Nat, j < n → ¬ x = nI j) : x.toInt < 0 ∨ ((n : Int) - 1) < x.toInt := by
  by_cases h0 : x.toInt < 0
  · exact Or.inl h0
  · refine Or.inr ?_
    by_cases h1 : (n : Int) - 1 < x.toInt
    · exact h1
    · exfalso
      have hj : x.toInt.toNat < n := by omega
      refine h _ hj (Int32.toInt_inj.mp ?_)
      rw [nI_toInt (by omega)]
      omega
end HV5
end
section
section HV6
variable {k : mk_T} {cc : ByteArray} {own : String} {nL fr lw : Nat} {ret : Option FieldType} {nm : String} {σ σ' : ho_H} {pc pn : Nat} {lo lo' : List (Option Value)} {st : List Value}
theorem hv_cpR (X : hv_X k cc own nL fr lw ret nm) {index src dst : Nat} {sp dp n : Int32} (d : decode cc pc = .ok (.invokestatic index, 3)) (hw1 : Cond.methodLink own index arraycopyName ∈ hv_ws) (hw2 : Cond.native arraycopyName ∈ hv_ws) (hw3 : Cond.static arraycopyName ∈ hv_ws) (hw4 : Cond.initialized "java/lang/System" ∈ hv_ws) (hca : (R3, "java/lang/Object") ∈ hv_cast) (e : ho_cpR k.2.1 σ src sp dst dp n = some σ') (hfr : 1 ≤ fr) (hlw : 8 + (nativeFrameWords "java/lang/System" "arraycopy" 5 + 11) ≤ lw) (hs : (st.map fun v => v.category).sum ≤ 8) (kk : hv_V k σ' pn lo st) (hp : pn = pc + 3 := by rfl) : hv_V k σ pc lo (.int n :: .int dp :: .ref dst :: .int sp :: .ref src :: st) := by
  subst hp
  intro H locs ls hR hS g1 g2 hl
  obtain ⟨q, hq, h2⟩ := bd_E e
  obtain ⟨w, hw, h3⟩ := bd_E h2
  split at h3
  · cases h3
  · next hc =>
    cases h3
    have nn : ∀ z : Int32, ¬ z < 0 → z.toInt = (z.toNatClampNeg : Int) := by
      intro z hz
      have hz0 : (0 : Int) ≤ z.toInt := by
        have := Int32.not_lt.mp hz
        simpa using Int32.le_iff_toInt_le.mp this
      show z.toInt = ((z.toInt.toNat : Nat) : Int)
      omega
    have h1 : ¬ sp < 0 := fun z => hc (Or.inl z)
    have h2' : ¬ dp < 0 := fun z => hc (Or.inr (Or.inl z))
    have h3 : ¬ n < 0 := fun z => hc (Or.inr (Or.inr (Or.inl z)))
    have h4 : sp.toNatClampNeg + n.toNatClampNeg ≤ q.1 := Nat.not_lt.mp fun z => hc (Or.inr (Or.inr (Or.inr (Or.inl z))))
    have h5 : dp.toNatClampNeg + n.toNatClampNeg ≤ w.1 := Nat.not_lt.mp fun z => hc (Or.inr (Or.inr (Or.inr (Or.inr (Or.inl z)))))
    have h6 : ∀ i, i < n.toNatClampNeg → ((q.2 (sp.toNatClampNeg + i)).all fun y => (ho_f σ y 3).isSome) = true := Classical.not_not.mp fun z => hc (Or.inr (Or.inr (Or.inr (Or.inr (Or.inr z)))))
    have hcs := hR.2.2.2 src _ (ho_aR_E hq)
    have hcd := hR.2.2.2 dst _ (ho_aR_E hw)
    have hc0 : H[src]? = some (vp_cell (gc k.2.1 5) (q.1, .inr (.inr (.inr (.inr q.2))))) := hcs.2
    have hc1 : H[dst]? = some (vp_cell (gc k.2.1 5) (w.1, .inr (.inr (.inr (.inr w.2))))) := hcd.2
    have ht : hv_tys[5]? = some (.object "java/lang/Object") := rfl
    obtain ⟨-, k0, hk0, cm0, hkk0⟩ := (hv_ki X ht).1 q.1 (fun j => va_rf (q.2 j))
    obtain ⟨-, k1, hk1, cm1, hkk1⟩ := (hv_ki X ht).1 w.1 (fun j => va_rf (w.2 j))
    have hX1 := X.fr
    have hX2 := X.lw
    intro T hT XT
    obtain ⟨vm', X', step⟩ := XT.arraycopy X.1 X.ow (X.ts _ hw1) (X.ts _ hw2) (X.ts _ hw3) (X.ts _ hw4) (src := src) (dst := dst) (cs := vp_cell (gc k.2.1 5) (q.1, .inr (.inr (.inr (.inr q.2))))) (cd := vp_cell (gc k.2.1 5) (w.1, .inr (.inr (.inr (.inr w.2))))) (srcPos := sp) (destPos := dp) (n := n) (by rw [hT]; exact hc0) (by rw [hT]; exact hc1)
      (fun _ h => by cases h) (fun _ h => by cases h) (fun h => by cases h) (fun h => by cases h) hk0 hk1 hkk0 hkk1 rfl h1 h2' h3
      (by rw [nn sp h1, nn n h3]; show ¬ _ > ((arrV (gc k.2.1 5) q.1 (fun j => va_rf (q.2 j))).slots.size : Int); rw [arrV_size]; omega)
      (by rw [nn dp h2', nn n h3]; show ¬ _ > ((arrV (gc k.2.1 5) w.1 (fun j => va_rf (w.2 j))).slots.size : Int); rw [arrV_size]; omega)
      (fun vm₁ hal i hi => by
        have e : (vp_cell (gc k.2.1 5) (q.1, .inr (.inr (.inr (.inr q.2))))).slots.getD (sp.toNatClampNeg + i) .null = va_rf (q.2 (sp.toNatClampNeg + i)) := by
          show (arrV (gc k.2.1 5) q.1 (fun j => va_rf (q.2 j))).slots.getD _ _ = _
          rw [Array.getD_eq_getD_getElem?, arrV_read _ _ (by omega)]
          rfl
        rw [e]
        cases hy : q.2 (sp.toNatClampNeg + i) with
        | none => exact ⟨rfl, trivial⟩
        | some y =>
          have h7 := h6 i hi
          rw [hy] at h7
          obtain ⟨fs, hfs⟩ := Option.isSome_iff_exists.mp (show (ho_f σ y 3).isSome = true from h7)
          obtain ⟨cellV, z1, z2, ⟨kC, hkC⟩, hasg⟩ := hv_any X (E := "java/lang/Object") (show vwCl[3]? = some (R3, T3, 1) from rfl) (Or.inr hca) hfs hR
          obtain ⟨kA, comp, r1, r2, r3, -⟩ := (hv_ki X ht).2
          cases hk1.symm.trans r1
          cases hkk1.symm.trans r2
          obtain ⟨kE, hkE, -⟩ := Vm.findClass_spec r3
          obtain ⟨kC', hkC', -⟩ := hal.2.2 _ _ hkC
          obtain ⟨kE', hkE', -⟩ := hal.2.2 _ _ hkE
          refine ⟨rfl, cellV, (show T.heap[y]? = some cellV by rw [hT]; exact z1), (fun q h => by rw [h] at z2; cases z2), ⟨kC', hkC'⟩, ?_, ?_⟩
          · exact ⟨kE', hkE'⟩
          · show vm₁.assignable _ _ = true
            rw [hal.assignable]
            exact hasg _ r3)
      (g := F0 _ pc ls (.int n :: .int dp :: .ref dst :: .int sp :: .ref src :: st)) rfl (by rw [X.2.2.1]; exact hl.1) (rest := st) rfl (by rw [X.2.1]; exact d) (by omega) (by show 2 * 0 + _ + _ ≤ _; omega)
    have e1 : copied (vp_cell (gc k.2.1 5) (q.1, .inr (.inr (.inr (.inr q.2))))) (vp_cell (gc k.2.1 5) (w.1, .inr (.inr (.inr (.inr w.2))))) sp dp n = vp_cell (gc k.2.1 5) (w.1, .inr (.inr (.inr (.inr (va_cpy q.2 w.2 sp.toNatClampNeg dp.toNatClampNeg n.toNatClampNeg))))) := by
      rw [vp_cell_q, vp_cell_q, vp_cell_q]
      exact va_copied (fun z => va_rf z) (gc k.2.1 5) (gc k.2.1 5) q.2 w.2 h4
    rw [e1] at X' step
    have hl' : dst < H.size := (Array.getElem?_eq_some_iff.mp hc1).1
    have hheap : ((T.setVm vm').setCell dst (vp_cell (gc k.2.1 5) (w.1, .inr (.inr (.inr (.inr (va_cpy q.2 w.2 sp.toNatClampNeg dp.toNatClampNeg n.toNatClampNeg))))))).heap = H.setIfInBounds dst (vp_cell (gc k.2.1 5) (w.1, .inr (.inr (.inr (.inr (va_cpy q.2 w.2 sp.toNatClampNeg dp.toNatClampNeg n.toNatClampNeg)))))) := by rw [← hT]; rfl
    have oq : ∀ z : Nat, z ≠ dst → (H.setIfInBounds dst (vp_cell (gc k.2.1 5) (w.1, .inr (.inr (.inr (.inr (va_cpy q.2 w.2 sp.toNatClampNeg dp.toNatClampNeg n.toNatClampNeg)))))))[z]? = H[z]? := fun z hz => by simp [Array.getElem?_setIfInBounds, Ne.symm hz]
    obtain ⟨t, a1, b1⟩ := kk _ _ ls (hR.set (ho_aR_E hw) (by simp) oq (show (H.setIfInBounds dst _)[dst]? = some _ by simp [Array.getElem?_setIfInBounds, hl'])) ⟨by simp; exact hS.1, fun z z1 z2 => by
        rw [oq z (fun e => z2 (by rw [e]; exact hcd.1))]
        exact hS.2.1 z z1 z2, fun z hz => by
        rcases List.mem_append.mp hz with h | h
        · exact hS.2.2 z h
        · obtain ⟨y, -, hy⟩ := List.mem_map.mp h
          rw [← hy]
          exact hcd.1⟩ g1 g2 hl _ hheap X'
    exact ⟨t, step t a1, b1⟩
theorem hv_clI (X : hv_X k cc own nL fr lw ret nm) {index a b : Nat} (d : decode cc pc = .ok (.invokevirtual index, 3)) (hw1 : Cond.methodLink own index ⟨"[I", "clone", "()Ljava/lang/Object;"⟩ ∈ hv_ws) (hw2 : Cond.sameMethod "[I" "java/lang/Object" "clone" "()Ljava/lang/Object;" ∈ hv_ws) (hw3 : Cond.native ⟨"java/lang/Object", "clone", "()Ljava/lang/Object;"⟩ ∈ hv_ws) (hw4 : Cond.instanceMethod ⟨"java/lang/Object", "clone", "()Ljava/lang/Object;"⟩ ∈ hv_ws) (hw5 : Cond.selects "[I" ⟨"[I", "clone", "()Ljava/lang/Object;"⟩ ⟨"java/lang/Object", "clone", "()Ljava/lang/Object;"⟩ ∈ hv_ws) (hca : ("[I", "java/lang/Cloneable") ∈ hv_cast) (e : ho_clI k.2.1 σ a = some (σ', b)) (hfr : 1 ≤ fr) (hlw : 22 ≤ lw) (hs : (st.map fun v => v.category).sum ≤ 8) (kk : hv_V k σ' pn lo (.ref b :: st)) (hp : pn = pc + 3 := by rfl) : hv_V k σ pc lo (.ref a :: st) := by
  subst hp
  intro H locs ls hR hS g1 g2 hl
  obtain ⟨q, hq, e⟩ := bd_E e
  obtain ⟨a1, a2, a3, a4, a5⟩ := ho_al_E e
  have hX1 := X.fr
  have hX2 := X.lw
  have hca2 := hR.2.2.2 a _ (ho_aI_E hq)
  have hc0 : H[a]? = some (vp_cell (gc k.2.1 0) (q.1, .inl q.2)) := hca2.2
  have ht : hv_tys[0]? = some .int := rfl
  have hnm : k.1.2.2.2.2.1.vm.findClass "[I" = some (gc k.2.1 0) := (hv_ki X ht).2
  obtain ⟨c0, t0', f1, f2, f3⟩ := Cond.castable_spec (va_Nw.use (A := k.1.2.2.2.2.2.2.1) rfl (X.gs.2.2.2.2.2.2.2.2.1 _ hca))
  cases hnm.symm.trans f1
  intro T hT XT
  have hcellT : T.heap[a]? = some (vp_cell (gc k.2.1 0) (q.1, .inl q.2)) := by rw [hT]; exact hc0
  obtain ⟨-, kA, hkA, comp, hkind⟩ := State.isArrayOf_alike XT.warmed.alike ((hv_ki X ht).1 0 (fun _ => .null))
  obtain ⟨-, kS, hkS, compS, hkindS⟩ := (hv_ki X ht).1 0 (fun _ => .null)
  obtain ⟨vm', X', stp⟩ := XT.cloneArray X.1 X.ow (X.ts _ hw1) (X.ts _ hw2) (X.ts _ hw3) (X.ts _ hw4) (X.ts _ hw5) (a := a) (cell := vp_cell (gc k.2.1 0) (q.1, .inl q.2)) hcellT (fun z h => by cases h) (fun h => by cases h) hnm f2 f3
    (fun i v hv => by
      have hk' : T.vm.classes[gc k.2.1 0]? = some kA := hkA
      have hsz : i < q.1 := by
        have := (Array.getElem?_eq_some_iff.mp hv).1
        rw [show (vp_cell (gc k.2.1 0) (q.1, .inl q.2)).slots.size = q.1 from arrV_size _ _ _] at this
        exact this
      have hv2 : (arrV (gc k.2.1 0) q.1 (fun j => .int (q.2 j))).slots[i]? = some v := hv
      rw [arrV_read _ _ hsz] at hv2
      cases hv2
      show T.fitsSlot (gc k.2.1 0) .none i (.int (q.2 i)) = true
      simp [State.fitsSlot, State.slotType?, hk', hkind, fits])
    (g := F0 _ pc ls (.ref a :: st)) rfl (by rw [X.2.2.1]; exact hl.1) rfl (by rw [X.2.1]; exact d) (by omega) (by show 2 * 0 + _ + 14 ≤ _; omega) (by rw [X.rc]; omega) (by rw [show (vp_cell (gc k.2.1 0) (q.1, .inl q.2)).slots.size = q.1 from arrV_size _ _ _, X.rs]; omega) (hloader := Vm.clonesLoader_of_array hkS hkindS)
  rw [show ({ cls := (vp_cell (gc k.2.1 0) (q.1, .inl q.2)).cls, slots := (vp_cell (gc k.2.1 0) (q.1, .inl q.2)).slots } : Cell) = vp_cell (gc k.2.1 0) (q.1, .inl q.2) from rfl, show (vp_cell (gc k.2.1 0) (q.1, .inl q.2)).slots.size = q.1 from arrV_size _ _ _] at X'
  have z1 : (H.push (vp_cell (gc k.2.1 0) (q.1, .inl q.2))).size = H.size + 1 := Array.size_push _
  have o1 : ∀ z : Nat, z < H.size → (H.push (vp_cell (gc k.2.1 0) (q.1, .inl q.2)))[z]? = H[z]? := fun z hz => by rw [Array.getElem?_push, if_neg (Nat.ne_of_lt hz)]
  obtain ⟨b1, b2, -⟩ := hR.push e (Nat.le_trans X.gs.1 hS.1) z1 o1 (show (H.push (vp_cell (gc k.2.1 0) (q.1, .inl q.2)))[H.size]? = some _ from Array.getElem?_push_size)
  have w := kk _ locs ls b1 (hS.grow (by omega) o1) (by omega) (by omega) hl
  rw [a3, a4, show σ.1 + 1 - k.2.2.1.1 = σ.1 - k.2.2.1.1 + 1 by omega, show σ.2.1 + q.1 - k.2.2.1.2.1 = σ.2.1 - k.2.2.1.2.1 + q.1 by omega, b2] at w
  obtain ⟨t, c1, c2⟩ := w ((T.setVm vm').pushCell (vp_cell (gc k.2.1 0) (q.1, .inl q.2))) (by rw [← hT]; rfl) X'
  refine ⟨t, stp t ?_, c2⟩
  rw [show ({ cls := (vp_cell (gc k.2.1 0) (q.1, .inl q.2)).cls, slots := (vp_cell (gc k.2.1 0) (q.1, .inl q.2)).slots } : Cell) = vp_cell (gc k.2.1 0) (q.1, .inl q.2) from rfl, hT]
  exact c1
end HV6
end
