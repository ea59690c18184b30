section
-- ===== PART A: goes FIRST, ahead of the names: the tables' words, and 'selects' of the private methods out of them =====
/-- a private method of a class that the tables say can be made, by its rows of tables_1 -/
def lw_okq (q : MethodName × Nat) : Prop := (q.1.cls ≠ "java/lang/invoke/MethodHandle" ∧ q.1.cls ≠ "java/lang/invoke/VarHandle") ∧ Cond.instantiable q.1.cls q.2 ∈ tables_1 ∧ Cond.privateMethod q.1 ∈ tables_1 ∧ Cond.instanceMethod q.1 ∈ tables_1
theorem lw_p0 : lw_okq (⟨"java/lang/Throwable", "fillInStackTrace", "(I)Ljava/lang/Throwable;"⟩, 6) := ⟨⟨by decide +kernel, by decide +kernel⟩, List.mem_of_getElem? (i := 256) (by decide +kernel), List.mem_of_getElem? (i := 254) (by decide +kernel), List.mem_of_getElem? (i := 255) (by decide +kernel)⟩
theorem lw_p1 : lw_okq (⟨"BulletinOffice$Sealer", "startWithKey", "([IIII)V"⟩, 5) := ⟨⟨by decide +kernel, by decide +kernel⟩, List.mem_of_getElem? (i := 58) (by decide +kernel), List.mem_of_getElem? (i := 296) (by decide +kernel), List.mem_of_getElem? (i := 297) (by decide +kernel)⟩
theorem lw_p2 : lw_okq (⟨"BulletinOffice$Sealer", "spreadBlock", "(I)V"⟩, 5) := ⟨⟨by decide +kernel, by decide +kernel⟩, List.mem_of_getElem? (i := 58) (by decide +kernel), List.mem_of_getElem? (i := 320) (by decide +kernel), List.mem_of_getElem? (i := 321) (by decide +kernel)⟩
theorem lw_p3 : lw_okq (⟨"BulletinOffice$Sealer", "mixBlock", "()V"⟩, 5) := ⟨⟨by decide +kernel, by decide +kernel⟩, List.mem_of_getElem? (i := 58) (by decide +kernel), List.mem_of_getElem? (i := 324) (by decide +kernel), List.mem_of_getElem? (i := 325) (by decide +kernel)⟩
theorem lw_p4 : lw_okq (⟨"BulletinOffice", "post", "(LBulletinOffice$Packet;)I"⟩, 7) := ⟨⟨by decide +kernel, by decide +kernel⟩, List.mem_of_getElem? (i := 25) (by decide +kernel), List.mem_of_getElem? (i := 431) (by decide +kernel), List.mem_of_getElem? (i := 432) (by decide +kernel)⟩
theorem lw_p5 : lw_okq (⟨"java/util/ArrayList", "add", "(Ljava/lang/Object;[Ljava/lang/Object;I)V"⟩, 3) := ⟨⟨by decide +kernel, by decide +kernel⟩, List.mem_of_getElem? (i := 104) (by decide +kernel), List.mem_of_getElem? (i := 482) (by decide +kernel), List.mem_of_getElem? (i := 483) (by decide +kernel)⟩
theorem lw_p6 : lw_okq (⟨"java/util/ArrayList", "grow", "()[Ljava/lang/Object;"⟩, 3) := ⟨⟨by decide +kernel, by decide +kernel⟩, List.mem_of_getElem? (i := 104) (by decide +kernel), List.mem_of_getElem? (i := 486) (by decide +kernel), List.mem_of_getElem? (i := 487) (by decide +kernel)⟩
theorem lw_p7 : lw_okq (⟨"java/util/ArrayList", "grow", "(I)[Ljava/lang/Object;"⟩, 3) := ⟨⟨by decide +kernel, by decide +kernel⟩, List.mem_of_getElem? (i := 104) (by decide +kernel), List.mem_of_getElem? (i := 490) (by decide +kernel), List.mem_of_getElem? (i := 491) (by decide +kernel)⟩
theorem lw_p8 : lw_okq (⟨"BulletinOffice", "hasPacketByte", "(II)Z"⟩, 7) := ⟨⟨by decide +kernel, by decide +kernel⟩, List.mem_of_getElem? (i := 25) (by decide +kernel), List.mem_of_getElem? (i := 549) (by decide +kernel), List.mem_of_getElem? (i := 550) (by decide +kernel)⟩
theorem lw_p9 : lw_okq (⟨"BulletinOffice", "isReceiver", "(I)Z"⟩, 7) := ⟨⟨by decide +kernel, by decide +kernel⟩, List.mem_of_getElem? (i := 25) (by decide +kernel), List.mem_of_getElem? (i := 582) (by decide +kernel), List.mem_of_getElem? (i := 583) (by decide +kernel)⟩
theorem lw_p10 : lw_okq (⟨"BulletinOffice$Receiver", "takeShownKey", "(LBulletinOffice$Packet;)Z"⟩, 8) := ⟨⟨by decide +kernel, by decide +kernel⟩, List.mem_of_getElem? (i := 131) (by decide +kernel), List.mem_of_getElem? (i := 640) (by decide +kernel), List.mem_of_getElem? (i := 641) (by decide +kernel)⟩
theorem lw_p11 : lw_okq (⟨"BulletinOffice$Receiver", "releaseAll", "()V"⟩, 8) := ⟨⟨by decide +kernel, by decide +kernel⟩, List.mem_of_getElem? (i := 131) (by decide +kernel), List.mem_of_getElem? (i := 666) (by decide +kernel), List.mem_of_getElem? (i := 667) (by decide +kernel)⟩
theorem lw_p12 : lw_okq (⟨"BulletinOffice$Receiver", "nextToRelease", "()I"⟩, 8) := ⟨⟨by decide +kernel, by decide +kernel⟩, List.mem_of_getElem? (i := 131) (by decide +kernel), List.mem_of_getElem? (i := 670) (by decide +kernel), List.mem_of_getElem? (i := 671) (by decide +kernel)⟩
theorem lw_p13 : lw_okq (⟨"BulletinOffice$Receiver", "hasKeyFor", "(I)Z"⟩, 8) := ⟨⟨by decide +kernel, by decide +kernel⟩, List.mem_of_getElem? (i := 131) (by decide +kernel), List.mem_of_getElem? (i := 677) (by decide +kernel), List.mem_of_getElem? (i := 678) (by decide +kernel)⟩
theorem lw_p14 : lw_okq (⟨"java/util/ArrayList", "fastRemove", "([Ljava/lang/Object;I)V"⟩, 3) := ⟨⟨by decide +kernel, by decide +kernel⟩, List.mem_of_getElem? (i := 104) (by decide +kernel), List.mem_of_getElem? (i := 685) (by decide +kernel), List.mem_of_getElem? (i := 686) (by decide +kernel)⟩
theorem lw_p15 : lw_okq (⟨"BulletinOffice$Receiver", "letGo", "(LBulletinOffice$Packet;)V"⟩, 8) := ⟨⟨by decide +kernel, by decide +kernel⟩, List.mem_of_getElem? (i := 131) (by decide +kernel), List.mem_of_getElem? (i := 695) (by decide +kernel), List.mem_of_getElem? (i := 696) (by decide +kernel)⟩
def lw_privs_1 : List (MethodName × Nat) := [(⟨"java/lang/Throwable", "fillInStackTrace", "(I)Ljava/lang/Throwable;"⟩, 6), (⟨"BulletinOffice$Sealer", "startWithKey", "([IIII)V"⟩, 5), (⟨"BulletinOffice$Sealer", "spreadBlock", "(I)V"⟩, 5), (⟨"BulletinOffice$Sealer", "mixBlock", "()V"⟩, 5), (⟨"BulletinOffice", "post", "(LBulletinOffice$Packet;)I"⟩, 7), (⟨"java/util/ArrayList", "add", "(Ljava/lang/Object;[Ljava/lang/Object;I)V"⟩, 3), (⟨"java/util/ArrayList", "grow", "()[Ljava/lang/Object;"⟩, 3), (⟨"java/util/ArrayList", "grow", "(I)[Ljava/lang/Object;"⟩, 3), (⟨"BulletinOffice", "hasPacketByte", "(II)Z"⟩, 7), (⟨"BulletinOffice", "isReceiver", "(I)Z"⟩, 7), (⟨"BulletinOffice$Receiver", "takeShownKey", "(LBulletinOffice$Packet;)Z"⟩, 8), (⟨"BulletinOffice$Receiver", "releaseAll", "()V"⟩, 8), (⟨"BulletinOffice$Receiver", "nextToRelease", "()I"⟩, 8), (⟨"BulletinOffice$Receiver", "hasKeyFor", "(I)Z"⟩, 8), (⟨"java/util/ArrayList", "fastRemove", "([Ljava/lang/Object;I)V"⟩, 3), (⟨"BulletinOffice$Receiver", "letGo", "(LBulletinOffice$Packet;)V"⟩, 8)]
theorem lw_r1 : ∀ q ∈ lw_privs_1, lw_okq q := List.forall_mem_cons.mpr ⟨lw_p0, List.forall_mem_cons.mpr ⟨lw_p1, List.forall_mem_cons.mpr ⟨lw_p2, List.forall_mem_cons.mpr ⟨lw_p3, List.forall_mem_cons.mpr ⟨lw_p4, List.forall_mem_cons.mpr ⟨lw_p5, List.forall_mem_cons.mpr ⟨lw_p6, List.forall_mem_cons.mpr ⟨lw_p7, List.forall_mem_cons.mpr ⟨lw_p8, List.forall_mem_cons.mpr ⟨lw_p9, List.forall_mem_cons.mpr ⟨lw_p10, List.forall_mem_cons.mpr ⟨lw_p11, List.forall_mem_cons.mpr ⟨lw_p12, List.forall_mem_cons.mpr ⟨lw_p13, List.forall_mem_cons.mpr ⟨lw_p14, List.forall_mem_cons.mpr ⟨lw_p15, fun _ h => absurd h List.not_mem_nil⟩⟩⟩⟩⟩⟩⟩⟩⟩⟩⟩⟩⟩⟩⟩⟩
theorem lw_p16 : lw_okq (⟨"BulletinOffice$Receiver", "holdsTwinOf", "(LBulletinOffice$Packet;)Z"⟩, 8) := ⟨⟨by decide +kernel, by decide +kernel⟩, List.mem_of_getElem? (i := 131) (by decide +kernel), List.mem_of_getElem? (i := 710) (by decide +kernel), List.mem_of_getElem? (i := 711) (by decide +kernel)⟩
theorem lw_p17 : lw_okq (⟨"BulletinOffice", "isKept", "(II)Z"⟩, 7) := ⟨⟨by decide +kernel, by decide +kernel⟩, List.mem_of_getElem? (i := 25) (by decide +kernel), List.mem_of_getElem? (i := 736) (by decide +kernel), List.mem_of_getElem? (i := 737) (by decide +kernel)⟩
theorem lw_p18 : lw_okq (⟨"BulletinOfficeModel", "fail", "(I)I"⟩, 40) := ⟨⟨by decide +kernel, by decide +kernel⟩, List.mem_of_getElem? (i := 749) (by decide +kernel), List.mem_of_getElem? (i := 962) (by decide +kernel), List.mem_of_getElem? (i := 963) (by decide +kernel)⟩
theorem lw_p19 : lw_okq (⟨"BulletinOfficeModel", "down", "()V"⟩, 40) := ⟨⟨by decide +kernel, by decide +kernel⟩, List.mem_of_getElem? (i := 749) (by decide +kernel), List.mem_of_getElem? (i := 969) (by decide +kernel), List.mem_of_getElem? (i := 970) (by decide +kernel)⟩
theorem lw_p20 : lw_okq (⟨"BulletinOfficeModel", "makeSeal", "()V"⟩, 40) := ⟨⟨by decide +kernel, by decide +kernel⟩, List.mem_of_getElem? (i := 749) (by decide +kernel), List.mem_of_getElem? (i := 973) (by decide +kernel), List.mem_of_getElem? (i := 974) (by decide +kernel)⟩
theorem lw_p21 : lw_okq (⟨"BulletinOfficeModel", "digestRow", "()V"⟩, 40) := ⟨⟨by decide +kernel, by decide +kernel⟩, List.mem_of_getElem? (i := 749) (by decide +kernel), List.mem_of_getElem? (i := 977) (by decide +kernel), List.mem_of_getElem? (i := 978) (by decide +kernel)⟩
theorem lw_p22 : lw_okq (⟨"BulletinOfficeModel", "block", "(I)V"⟩, 40) := ⟨⟨by decide +kernel, by decide +kernel⟩, List.mem_of_getElem? (i := 749) (by decide +kernel), List.mem_of_getElem? (i := 981) (by decide +kernel), List.mem_of_getElem? (i := 982) (by decide +kernel)⟩
theorem lw_p23 : lw_okq (⟨"BulletinOfficeModel", "interval", "()I"⟩, 40) := ⟨⟨by decide +kernel, by decide +kernel⟩, List.mem_of_getElem? (i := 749) (by decide +kernel), List.mem_of_getElem? (i := 1008) (by decide +kernel), List.mem_of_getElem? (i := 1009) (by decide +kernel)⟩
theorem lw_p24 : lw_okq (⟨"BulletinOfficeModel", "pack", "(II)I"⟩, 40) := ⟨⟨by decide +kernel, by decide +kernel⟩, List.mem_of_getElem? (i := 749) (by decide +kernel), List.mem_of_getElem? (i := 1015) (by decide +kernel), List.mem_of_getElem? (i := 1016) (by decide +kernel)⟩
theorem lw_p25 : lw_okq (⟨"BulletinOfficeModel", "keyAt", "(III)I"⟩, 40) := ⟨⟨by decide +kernel, by decide +kernel⟩, List.mem_of_getElem? (i := 749) (by decide +kernel), List.mem_of_getElem? (i := 1019) (by decide +kernel), List.mem_of_getElem? (i := 1020) (by decide +kernel)⟩
theorem lw_p26 : lw_okq (⟨"BulletinOfficeModel", "codeOfCopy", "(I)V"⟩, 40) := ⟨⟨by decide +kernel, by decide +kernel⟩, List.mem_of_getElem? (i := 749) (by decide +kernel), List.mem_of_getElem? (i := 1023) (by decide +kernel), List.mem_of_getElem? (i := 1024) (by decide +kernel)⟩
theorem lw_p27 : lw_okq (⟨"BulletinOfficeModel", "chainFor", "(IZ)I"⟩, 40) := ⟨⟨by decide +kernel, by decide +kernel⟩, List.mem_of_getElem? (i := 749) (by decide +kernel), List.mem_of_getElem? (i := 1039) (by decide +kernel), List.mem_of_getElem? (i := 1040) (by decide +kernel)⟩
theorem lw_p28 : lw_okq (⟨"BulletinOfficeModel", "judge", "(II)I"⟩, 40) := ⟨⟨by decide +kernel, by decide +kernel⟩, List.mem_of_getElem? (i := 749) (by decide +kernel), List.mem_of_getElem? (i := 1055) (by decide +kernel), List.mem_of_getElem? (i := 1056) (by decide +kernel)⟩
theorem lw_p29 : lw_okq (⟨"BulletinOfficeModel", "isBroken", "(I)Z"⟩, 40) := ⟨⟨by decide +kernel, by decide +kernel⟩, List.mem_of_getElem? (i := 749) (by decide +kernel), List.mem_of_getElem? (i := 1059) (by decide +kernel), List.mem_of_getElem? (i := 1060) (by decide +kernel)⟩
theorem lw_p30 : lw_okq (⟨"BulletinOfficeModel", "intervalOfCopy", "()I"⟩, 40) := ⟨⟨by decide +kernel, by decide +kernel⟩, List.mem_of_getElem? (i := 749) (by decide +kernel), List.mem_of_getElem? (i := 1063) (by decide +kernel), List.mem_of_getElem? (i := 1064) (by decide +kernel)⟩
theorem lw_p31 : lw_okq (⟨"BulletinOfficeModel", "lookAtKey", "(I)I"⟩, 40) := ⟨⟨by decide +kernel, by decide +kernel⟩, List.mem_of_getElem? (i := 749) (by decide +kernel), List.mem_of_getElem? (i := 1067) (by decide +kernel), List.mem_of_getElem? (i := 1068) (by decide +kernel)⟩
def lw_privs_2 : List (MethodName × Nat) := [(⟨"BulletinOffice$Receiver", "holdsTwinOf", "(LBulletinOffice$Packet;)Z"⟩, 8), (⟨"BulletinOffice", "isKept", "(II)Z"⟩, 7), (⟨"BulletinOfficeModel", "fail", "(I)I"⟩, 40), (⟨"BulletinOfficeModel", "down", "()V"⟩, 40), (⟨"BulletinOfficeModel", "makeSeal", "()V"⟩, 40), (⟨"BulletinOfficeModel", "digestRow", "()V"⟩, 40), (⟨"BulletinOfficeModel", "block", "(I)V"⟩, 40), (⟨"BulletinOfficeModel", "interval", "()I"⟩, 40), (⟨"BulletinOfficeModel", "pack", "(II)I"⟩, 40), (⟨"BulletinOfficeModel", "keyAt", "(III)I"⟩, 40), (⟨"BulletinOfficeModel", "codeOfCopy", "(I)V"⟩, 40), (⟨"BulletinOfficeModel", "chainFor", "(IZ)I"⟩, 40), (⟨"BulletinOfficeModel", "judge", "(II)I"⟩, 40), (⟨"BulletinOfficeModel", "isBroken", "(I)Z"⟩, 40), (⟨"BulletinOfficeModel", "intervalOfCopy", "()I"⟩, 40), (⟨"BulletinOfficeModel", "lookAtKey", "(I)I"⟩, 40)]
theorem lw_r2 : ∀ q ∈ lw_privs_2, lw_okq q := List.forall_mem_cons.mpr ⟨lw_p16, List.forall_mem_cons.mpr ⟨lw_p17, List.forall_mem_cons.mpr ⟨lw_p18, List.forall_mem_cons.mpr ⟨lw_p19, List.forall_mem_cons.mpr ⟨lw_p20, List.forall_mem_cons.mpr ⟨lw_p21, List.forall_mem_cons.mpr ⟨lw_p22, List.forall_mem_cons.mpr ⟨lw_p23, List.forall_mem_cons.mpr ⟨lw_p24, List.forall_mem_cons.mpr ⟨lw_p25, List.forall_mem_cons.mpr ⟨lw_p26, List.forall_mem_cons.mpr ⟨lw_p27, List.forall_mem_cons.mpr ⟨lw_p28, List.forall_mem_cons.mpr ⟨lw_p29, List.forall_mem_cons.mpr ⟨lw_p30, List.forall_mem_cons.mpr ⟨lw_p31, fun _ h => absurd h List.not_mem_nil⟩⟩⟩⟩⟩⟩⟩⟩⟩⟩⟩⟩⟩⟩⟩⟩
theorem lw_p32 : lw_okq (⟨"BulletinOfficeModel", "loadLatest", "(I)V"⟩, 40) := ⟨⟨by decide +kernel, by decide +kernel⟩, List.mem_of_getElem? (i := 749) (by decide +kernel), List.mem_of_getElem? (i := 1071) (by decide +kernel), List.mem_of_getElem? (i := 1072) (by decide +kernel)⟩
theorem lw_p33 : lw_okq (⟨"BulletinOfficeModel", "release", "(I)V"⟩, 40) := ⟨⟨by decide +kernel, by decide +kernel⟩, List.mem_of_getElem? (i := 749) (by decide +kernel), List.mem_of_getElem? (i := 1075) (by decide +kernel), List.mem_of_getElem? (i := 1076) (by decide +kernel)⟩
theorem lw_p34 : lw_okq (⟨"BulletinOfficeModel", "isDue", "(II)Z"⟩, 40) := ⟨⟨by decide +kernel, by decide +kernel⟩, List.mem_of_getElem? (i := 749) (by decide +kernel), List.mem_of_getElem? (i := 1079) (by decide +kernel), List.mem_of_getElem? (i := 1080) (by decide +kernel)⟩
theorem lw_p35 : lw_okq (⟨"BulletinOfficeModel", "heldInterval", "(II)I"⟩, 40) := ⟨⟨by decide +kernel, by decide +kernel⟩, List.mem_of_getElem? (i := 749) (by decide +kernel), List.mem_of_getElem? (i := 1083) (by decide +kernel), List.mem_of_getElem? (i := 1084) (by decide +kernel)⟩
theorem lw_p36 : lw_okq (⟨"BulletinOfficeModel", "heldAt", "(II)I"⟩, 40) := ⟨⟨by decide +kernel, by decide +kernel⟩, List.mem_of_getElem? (i := 749) (by decide +kernel), List.mem_of_getElem? (i := 1087) (by decide +kernel), List.mem_of_getElem? (i := 1088) (by decide +kernel)⟩
theorem lw_p37 : lw_okq (⟨"BulletinOfficeModel", "goOut", "(II)V"⟩, 40) := ⟨⟨by decide +kernel, by decide +kernel⟩, List.mem_of_getElem? (i := 749) (by decide +kernel), List.mem_of_getElem? (i := 1091) (by decide +kernel), List.mem_of_getElem? (i := 1092) (by decide +kernel)⟩
theorem lw_p38 : lw_okq (⟨"BulletinOfficeModel", "keep", "(III)V"⟩, 40) := ⟨⟨by decide +kernel, by decide +kernel⟩, List.mem_of_getElem? (i := 749) (by decide +kernel), List.mem_of_getElem? (i := 1095) (by decide +kernel), List.mem_of_getElem? (i := 1096) (by decide +kernel)⟩
theorem lw_p39 : lw_okq (⟨"BulletinOfficeModel", "isTwice", "(I)Z"⟩, 40) := ⟨⟨by decide +kernel, by decide +kernel⟩, List.mem_of_getElem? (i := 749) (by decide +kernel), List.mem_of_getElem? (i := 1099) (by decide +kernel), List.mem_of_getElem? (i := 1100) (by decide +kernel)⟩
theorem lw_p40 : lw_okq (⟨"BulletinOfficeModel", "isKept", "(II)Z"⟩, 40) := ⟨⟨by decide +kernel, by decide +kernel⟩, List.mem_of_getElem? (i := 749) (by decide +kernel), List.mem_of_getElem? (i := 1111) (by decide +kernel), List.mem_of_getElem? (i := 1112) (by decide +kernel)⟩
def lw_privs_3 : List (MethodName × Nat) := [(⟨"BulletinOfficeModel", "loadLatest", "(I)V"⟩, 40), (⟨"BulletinOfficeModel", "release", "(I)V"⟩, 40), (⟨"BulletinOfficeModel", "isDue", "(II)Z"⟩, 40), (⟨"BulletinOfficeModel", "heldInterval", "(II)I"⟩, 40), (⟨"BulletinOfficeModel", "heldAt", "(II)I"⟩, 40), (⟨"BulletinOfficeModel", "goOut", "(II)V"⟩, 40), (⟨"BulletinOfficeModel", "keep", "(III)V"⟩, 40), (⟨"BulletinOfficeModel", "isTwice", "(I)Z"⟩, 40), (⟨"BulletinOfficeModel", "isKept", "(II)Z"⟩, 40)]
theorem lw_r3 : ∀ q ∈ lw_privs_3, lw_okq q := List.forall_mem_cons.mpr ⟨lw_p32, List.forall_mem_cons.mpr ⟨lw_p33, List.forall_mem_cons.mpr ⟨lw_p34, List.forall_mem_cons.mpr ⟨lw_p35, List.forall_mem_cons.mpr ⟨lw_p36, List.forall_mem_cons.mpr ⟨lw_p37, List.forall_mem_cons.mpr ⟨lw_p38, List.forall_mem_cons.mpr ⟨lw_p39, List.forall_mem_cons.mpr ⟨lw_p40, fun _ h => absurd h List.not_mem_nil⟩⟩⟩⟩⟩⟩⟩⟩⟩
def lw_privs : List (MethodName × Nat) := lw_privs_1 ++ (lw_privs_2 ++ (lw_privs_3))
def lw_tbl : List Cond := k2_sels lw_privs ++ tables_1
theorem lw_privs_ok : ∀ q ∈ lw_privs, lw_okq q := by
  show ∀ q ∈ lw_privs_1 ++ (lw_privs_2 ++ (lw_privs_3)), lw_okq q
  exact List.forall_mem_append.mpr ⟨lw_r1, List.forall_mem_append.mpr ⟨lw_r2, lw_r3⟩⟩
end
section
/-! names: classes, methods; written by tool/parts.py -/
abbrev R0 : String := "BulletinOffice$Clock"
def T0 : u_T := fun k => match k with
  | 0 => ("BulletinOffice$Clock", "lag", "I", true)
  | 1 => ("BulletinOffice$Clock", "ticks", "I", true)
  | 2 => ("BulletinOffice$Clock", "error", "I", true)
  | _ => ("BulletinOffice$Clock", "time", "I", false)
def ty0 : Nat → FieldType := fun k => match k with
  | 0 => .int
  | 1 => .int
  | 2 => .int
  | _ => .int
theorem nm0 : ∀ a, a < 4 → ∀ b, b < 4 → a ≠ b → (T0 a).2.1 ≠ (T0 b).2.1 := by decide +kernel
theorem tk0 : ∀ k, k < 4 → parseFieldDescriptor (T0 k).2.2.1 = some (ty0 k) := by decide +kernel
abbrev R1 : String := "BulletinOffice$Sealer"
def T1 : u_T := fun k => match k with
  | 0 => ("BulletinOffice$Sealer", "result", "[I", true)
  | 1 => ("BulletinOffice$Sealer", "codeKey", "[I", true)
  | 2 => ("BulletinOffice$Sealer", "row", "[I", true)
  | 3 => ("BulletinOffice$Sealer", "length", "I", false)
  | _ => ("BulletinOffice$Sealer", "words", "[I", true)
def ty1 : Nat → FieldType := fun k => match k with
  | 0 => .array (.int)
  | 1 => .array (.int)
  | 2 => .array (.int)
  | 3 => .int
  | _ => .array (.int)
theorem nm1 : ∀ a, a < 5 → ∀ b, b < 5 → a ≠ b → (T1 a).2.1 ≠ (T1 b).2.1 := by decide +kernel
theorem tk1 : ∀ k, k < 5 → parseFieldDescriptor (T1 k).2.2.1 = some (ty1 k) := by decide +kernel
abbrev R2 : String := "BulletinOffice$KeyChain"
def T2 : u_T := fun k => match k with
  | 0 => ("BulletinOffice$KeyChain", "words", "[I", true)
  | 1 => ("BulletinOffice$KeyChain", "first", "I", false)
  | _ => ("BulletinOffice$KeyChain", "latest", "I", false)
def ty2 : Nat → FieldType := fun k => match k with
  | 0 => .array (.int)
  | 1 => .int
  | _ => .int
theorem nm2 : ∀ a, a < 3 → ∀ b, b < 3 → a ≠ b → (T2 a).2.1 ≠ (T2 b).2.1 := by decide +kernel
theorem tk2 : ∀ k, k < 3 → parseFieldDescriptor (T2 k).2.2.1 = some (ty2 k) := by decide +kernel
abbrev R3 : String := "BulletinOffice$Packet"
def T3 : u_T := fun k => match k with
  | _ => ("BulletinOffice$Packet", "bytes", "[I", true)
def ty3 : Nat → FieldType := fun k => match k with
  | _ => .array (.int)
theorem nm3 : ∀ a, a < 1 → ∀ b, b < 1 → a ≠ b → (T3 a).2.1 ≠ (T3 b).2.1 := by decide +kernel
theorem tk3 : ∀ k, k < 1 → parseFieldDescriptor (T3 k).2.2.1 = some (ty3 k) := by decide +kernel
abbrev R4 : String := "BulletinOffice$Receiver"
def T4 : u_T := fun k => match k with
  | 0 => ("BulletinOffice$Receiver", "clock", "LBulletinOffice$Clock;", true)
  | 1 => ("BulletinOffice$Receiver", "sealer", "LBulletinOffice$Sealer;", true)
  | 2 => ("BulletinOffice$Receiver", "known", "[LBulletinOffice$KeyChain;", true)
  | 3 => ("BulletinOffice$Receiver", "held", "Ljava/util/ArrayList;", true)
  | 4 => ("BulletinOffice$Receiver", "kept", "Ljava/util/ArrayList;", true)
  | 5 => ("BulletinOffice$Receiver", "counts", "[I", true)
  | 6 => ("BulletinOffice$Receiver", "releasedCount", "I", false)
  | _ => ("BulletinOffice$Receiver", "drift", "I", false)
def ty4 : Nat → FieldType := fun k => match k with
  | 0 => .object "BulletinOffice$Clock"
  | 1 => .object "BulletinOffice$Sealer"
  | 2 => .array (.object "BulletinOffice$KeyChain")
  | 3 => .object "java/util/ArrayList"
  | 4 => .object "java/util/ArrayList"
  | 5 => .array (.int)
  | 6 => .int
  | _ => .int
theorem nm4 : ∀ a, a < 8 → ∀ b, b < 8 → a ≠ b → (T4 a).2.1 ≠ (T4 b).2.1 := by decide +kernel
theorem tk4 : ∀ k, k < 8 → parseFieldDescriptor (T4 k).2.2.1 = some (ty4 k) := by decide +kernel
abbrev R5 : String := "BulletinOffice"
def T5 : u_T := fun k => match k with
  | 0 => ("BulletinOffice", "clock", "LBulletinOffice$Clock;", true)
  | 1 => ("BulletinOffice", "sealer", "LBulletinOffice$Sealer;", true)
  | 2 => ("BulletinOffice", "buffer", "[I", true)
  | 3 => ("BulletinOffice", "chains", "[LBulletinOffice$KeyChain;", true)
  | 4 => ("BulletinOffice", "chainCount", "I", false)
  | 5 => ("BulletinOffice", "packets", "Ljava/util/ArrayList;", true)
  | _ => ("BulletinOffice", "receivers", "[LBulletinOffice$Receiver;", true)
def ty5 : Nat → FieldType := fun k => match k with
  | 0 => .object "BulletinOffice$Clock"
  | 1 => .object "BulletinOffice$Sealer"
  | 2 => .array (.int)
  | 3 => .array (.object "BulletinOffice$KeyChain")
  | 4 => .int
  | 5 => .object "java/util/ArrayList"
  | _ => .array (.object "BulletinOffice$Receiver")
theorem nm5 : ∀ a, a < 7 → ∀ b, b < 7 → a ≠ b → (T5 a).2.1 ≠ (T5 b).2.1 := by decide +kernel
theorem tk5 : ∀ k, k < 7 → parseFieldDescriptor (T5 k).2.2.1 = some (ty5 k) := by decide +kernel
abbrev R6 : String := "BulletinOfficeModel"
def T6 : u_T := fun k => match k with
  | 0 => ("BulletinOfficeModel", "constants", "[I", true)
  | 1 => ("BulletinOfficeModel", "begins", "[I", true)
  | 2 => ("BulletinOfficeModel", "words", "[I", true)
  | 3 => ("BulletinOfficeModel", "digest", "[I", true)
  | 4 => ("BulletinOfficeModel", "state", "[I", true)
  | 5 => ("BulletinOfficeModel", "row", "[I", true)
  | 6 => ("BulletinOfficeModel", "rowSize", "I", false)
  | 7 => ("BulletinOfficeModel", "sealKey", "[I", true)
  | 8 => ("BulletinOfficeModel", "sealKeySize", "I", false)
  | 9 => ("BulletinOfficeModel", "message", "[I", true)
  | 10 => ("BulletinOfficeModel", "messageSize", "I", false)
  | 11 => ("BulletinOfficeModel", "seal", "[I", true)
  | 12 => ("BulletinOfficeModel", "thrown", "I", false)
  | 13 => ("BulletinOfficeModel", "lag", "I", false)
  | 14 => ("BulletinOfficeModel", "ticks", "I", false)
  | 15 => ("BulletinOfficeModel", "error", "I", false)
  | 16 => ("BulletinOfficeModel", "time", "I", false)
  | 17 => ("BulletinOfficeModel", "chains", "I", false)
  | 18 => ("BulletinOfficeModel", "packets", "I", false)
  | 19 => ("BulletinOfficeModel", "buffer", "[I", true)
  | 20 => ("BulletinOfficeModel", "keys", "[I", true)
  | 21 => ("BulletinOfficeModel", "sizes", "[I", true)
  | 22 => ("BulletinOfficeModel", "packetBytes", "[I", true)
  | 23 => ("BulletinOfficeModel", "drifts", "[I", true)
  | 24 => ("BulletinOfficeModel", "knows", "[Z", true)
  | 25 => ("BulletinOfficeModel", "firsts", "[I", true)
  | 26 => ("BulletinOfficeModel", "latest", "[I", true)
  | 27 => ("BulletinOfficeModel", "latestKey", "[I", true)
  | 28 => ("BulletinOfficeModel", "counts", "[I", true)
  | 29 => ("BulletinOfficeModel", "held", "[I", true)
  | 30 => ("BulletinOfficeModel", "heldSize", "[I", true)
  | 31 => ("BulletinOfficeModel", "heldBytes", "[I", true)
  | 32 => ("BulletinOfficeModel", "out", "[I", true)
  | 33 => ("BulletinOfficeModel", "outInterval", "[I", true)
  | 34 => ("BulletinOfficeModel", "outCode", "[I", true)
  | 35 => ("BulletinOfficeModel", "outSize", "[I", true)
  | 36 => ("BulletinOfficeModel", "outBytes", "[I", true)
  | 37 => ("BulletinOfficeModel", "copy", "[I", true)
  | 38 => ("BulletinOfficeModel", "key", "[I", true)
  | _ => ("BulletinOfficeModel", "mine", "[I", true)
def ty6 : Nat → FieldType := fun k => match k with
  | 0 => .array (.int)
  | 1 => .array (.int)
  | 2 => .array (.int)
  | 3 => .array (.int)
  | 4 => .array (.int)
  | 5 => .array (.int)
  | 6 => .int
  | 7 => .array (.int)
  | 8 => .int
  | 9 => .array (.int)
  | 10 => .int
  | 11 => .array (.int)
  | 12 => .int
  | 13 => .int
  | 14 => .int
  | 15 => .int
  | 16 => .int
  | 17 => .int
  | 18 => .int
  | 19 => .array (.int)
  | 20 => .array (.int)
  | 21 => .array (.int)
  | 22 => .array (.int)
  | 23 => .array (.int)
  | 24 => .array (.boolean)
  | 25 => .array (.int)
  | 26 => .array (.int)
  | 27 => .array (.int)
  | 28 => .array (.int)
  | 29 => .array (.int)
  | 30 => .array (.int)
  | 31 => .array (.int)
  | 32 => .array (.int)
  | 33 => .array (.int)
  | 34 => .array (.int)
  | 35 => .array (.int)
  | 36 => .array (.int)
  | 37 => .array (.int)
  | 38 => .array (.int)
  | _ => .array (.int)
theorem nm6 : ∀ a, a < 40 → ∀ b, b < 40 → a ≠ b → (T6 a).2.1 ≠ (T6 b).2.1 := by decide +kernel
theorem tk6 : ∀ k, k < 40 → parseFieldDescriptor (T6 k).2.2.1 = some (ty6 k) := by decide +kernel
abbrev R7 : String := "java/util/ArrayList"
def T7 : u_T := fun k => match k with
  | 0 => ("java/util/ArrayList", "elementData", "[Ljava/lang/Object;", false)
  | 1 => ("java/util/ArrayList", "size", "I", false)
  | _ => ("java/util/AbstractList", "modCount", "I", false)
def ty7 : Nat → FieldType := fun k => match k with
  | 0 => .array (.object "java/lang/Object")
  | 1 => .int
  | _ => .int
theorem nm7 : ∀ a, a < 3 → ∀ b, b < 3 → a ≠ b → (T7 a).2.1 ≠ (T7 b).2.1 := by decide +kernel
theorem tk7 : ∀ k, k < 3 → parseFieldDescriptor (T7 k).2.2.1 = some (ty7 k) := by decide +kernel
abbrev vwCl : List vw_C := [(R0, T0, 4), (R1, T1, 5), (R2, T2, 3), (R3, T3, 1), (R4, T4, 8), (R5, T5, 7), (R6, T6, 40), (R7, T7, 3)]
abbrev y_Of_init : MethodName := ⟨"BulletinOffice", "<init>", "(III)V"⟩
abbrev b_Of_init : ByteArray := prog_1_method_1_code
abbrev y_Oj_init : MethodName := ⟨"java/lang/Object", "<init>", "()V"⟩
abbrev b_Oj_init : ByteArray := object_method_1_code
abbrev y_Mt_floorMod : MethodName := ⟨"java/lang/Math", "floorMod", "(II)I"⟩
abbrev b_Mt_floorMod : ByteArray := prog_16_method_50_code
abbrev y_Ck_init : MethodName := ⟨"BulletinOffice$Clock", "<init>", "(III)V"⟩
abbrev b_Ck_init : ByteArray := prog_2_method_1_code
abbrev y_Sl_init : MethodName := ⟨"BulletinOffice$Sealer", "<init>", "()V"⟩
abbrev b_Sl_init : ByteArray := prog_6_method_1_code
abbrev y_Kc_init : MethodName := ⟨"BulletinOffice$KeyChain", "<init>", "()V"⟩
abbrev b_Kc_init : ByteArray := prog_3_method_1_code
abbrev y_Al_init : MethodName := ⟨"java/util/ArrayList", "<init>", "()V"⟩
abbrev b_Al_init : ByteArray := prog_23_method_2_code
abbrev y_Ab_init : MethodName := ⟨"java/util/AbstractList", "<init>", "()V"⟩
abbrev b_Ab_init : ByteArray := prog_22_method_1_code
abbrev y_Ac_init : MethodName := ⟨"java/util/AbstractCollection", "<init>", "()V"⟩
abbrev b_Ac_init : ByteArray := prog_21_method_1_code
abbrev y_Rc_init : MethodName := ⟨"BulletinOffice$Receiver", "<init>", "(LBulletinOffice$Clock;LBulletinOffice$Sealer;)V"⟩
abbrev b_Rc_init : ByteArray := prog_5_method_1_code
abbrev y_Of_count : MethodName := ⟨"BulletinOffice", "count", "(I)I"⟩
abbrev b_Of_count : ByteArray := prog_1_method_16_code
abbrev y_Ck_intervalAt : MethodName := ⟨"BulletinOffice$Clock", "intervalAt", "(I)I"⟩
abbrev b_Ck_intervalAt : ByteArray := prog_2_method_2_code
abbrev y_Al_size : MethodName := ⟨"java/util/ArrayList", "size", "()I"⟩
abbrev b_Al_size : ByteArray := prog_23_method_8_code
abbrev y_Lw_cell : MethodName := ⟨"BulletinOfficeLaw", "cell", "([II)I"⟩
abbrev b_Lw_cell : ByteArray := method_2_code
abbrev y_Lw_chain : MethodName := ⟨"BulletinOfficeLaw", "chain", "(LBulletinOffice;IIIII[J)I"⟩
abbrev b_Lw_chain : ByteArray := method_3_code
abbrev y_Of_chain : MethodName := ⟨"BulletinOffice", "chain", "(IIIII)I"⟩
abbrev b_Of_chain : ByteArray := prog_1_method_2_code
abbrev y_Th_init : MethodName := ⟨"java/lang/Throwable", "<init>", "()V"⟩
abbrev b_Th_init : ByteArray := prog_19_method_1_code
abbrev y_Th_fillInStackTrace : MethodName := ⟨"java/lang/Throwable", "fillInStackTrace", "()Ljava/lang/Throwable;"⟩
abbrev b_Th_fillInStackTrace : ByteArray := prog_19_method_18_code
abbrev y_Is_init : MethodName := ⟨"java/lang/IllegalStateException", "<init>", "()V"⟩
abbrev b_Is_init : ByteArray := prog_13_method_1_code
abbrev y_Rt_init : MethodName := ⟨"java/lang/RuntimeException", "<init>", "()V"⟩
abbrev b_Rt_init : ByteArray := prog_17_method_1_code
abbrev y_Ex_init : MethodName := ⟨"java/lang/Exception", "<init>", "()V"⟩
abbrev b_Ex_init : ByteArray := prog_11_method_1_code
abbrev y_Kc_putTopKey : MethodName := ⟨"BulletinOffice$KeyChain", "putTopKey", "(IIIII)V"⟩
abbrev b_Kc_putTopKey : ByteArray := prog_3_method_4_code
abbrev y_Kc_fillDown : MethodName := ⟨"BulletinOffice$KeyChain", "fillDown", "(IILBulletinOffice$Sealer;)V"⟩
abbrev b_Kc_fillDown : ByteArray := prog_3_method_5_code
abbrev y_Sl_seal : MethodName := ⟨"BulletinOffice$Sealer", "seal", "([III[II)V"⟩
abbrev b_Sl_seal : ByteArray := prog_6_method_5_code
abbrev y_Sl_startWithKey : MethodName := ⟨"BulletinOffice$Sealer", "startWithKey", "([IIII)V"⟩
abbrev b_Sl_startWithKey : ByteArray := prog_6_method_6_code
abbrev y_Sl_clear : MethodName := ⟨"BulletinOffice$Sealer", "clear", "()V"⟩
abbrev b_Sl_clear : ByteArray := prog_6_method_2_code
abbrev y_Ar_fill : MethodName := ⟨"java/util/Arrays", "fill", "([II)V"⟩
abbrev b_Ar_fill : ByteArray := prog_24_method_103_code
abbrev y_Sl_addByte : MethodName := ⟨"BulletinOffice$Sealer", "addByte", "(I)V"⟩
abbrev b_Sl_addByte : ByteArray := prog_6_method_3_code
abbrev y_Sl_finish : MethodName := ⟨"BulletinOffice$Sealer", "finish", "()V"⟩
abbrev b_Sl_finish : ByteArray := prog_6_method_4_code
abbrev y_Sl_spreadBlock : MethodName := ⟨"BulletinOffice$Sealer", "spreadBlock", "(I)V"⟩
abbrev b_Sl_spreadBlock : ByteArray := prog_6_method_7_code
abbrev y_Sl_mixBlock : MethodName := ⟨"BulletinOffice$Sealer", "mixBlock", "()V"⟩
abbrev b_Sl_mixBlock : ByteArray := prog_6_method_8_code
abbrev y_Lw_tick : MethodName := ⟨"BulletinOfficeLaw", "tick", "(LBulletinOffice;I[J)I"⟩
abbrev b_Lw_tick : ByteArray := method_4_code
abbrev y_Of_tick : MethodName := ⟨"BulletinOffice", "tick", "(I)I"⟩
abbrev b_Of_tick : ByteArray := prog_1_method_3_code
abbrev y_Ia_init : MethodName := ⟨"java/lang/IllegalArgumentException", "<init>", "()V"⟩
abbrev b_Ia_init : ByteArray := prog_12_method_1_code
abbrev y_Lw_load : MethodName := ⟨"BulletinOfficeLaw", "load", "(LBulletinOffice;II[J)I"⟩
abbrev b_Lw_load : ByteArray := method_5_code
abbrev y_Of_load : MethodName := ⟨"BulletinOffice", "load", "(II)I"⟩
abbrev b_Of_load : ByteArray := prog_1_method_4_code
abbrev y_Io_init : MethodName := ⟨"java/lang/IndexOutOfBoundsException", "<init>", "()V"⟩
abbrev b_Io_init : ByteArray := prog_14_method_1_code
abbrev y_Lw_digest : MethodName := ⟨"BulletinOfficeLaw", "digest", "(LBulletinOffice;II[J)I"⟩
abbrev b_Lw_digest : ByteArray := method_6_code
abbrev y_Of_digest : MethodName := ⟨"BulletinOffice", "digest", "(II)I"⟩
abbrev b_Of_digest : ByteArray := prog_1_method_5_code
abbrev y_Of_byteOf : MethodName := ⟨"BulletinOffice", "byteOf", "([II)I"⟩
abbrev b_Of_byteOf : ByteArray := prog_1_method_23_code
abbrev y_Lw_send : MethodName := ⟨"BulletinOfficeLaw", "send", "(LBulletinOffice;I[J)I"⟩
abbrev b_Lw_send : ByteArray := method_7_code
abbrev y_Of_send : MethodName := ⟨"BulletinOffice", "send", "(I)I"⟩
abbrev b_Of_send : ByteArray := prog_1_method_6_code
abbrev y_Of_chainOf : MethodName := ⟨"BulletinOffice", "chainOf", "(I)I"⟩
abbrev b_Of_chainOf : ByteArray := prog_1_method_21_code
abbrev y_Uo_init : MethodName := ⟨"java/lang/UnsupportedOperationException", "<init>", "()V"⟩
abbrev b_Uo_init : ByteArray := prog_20_method_1_code
abbrev y_Pk_init1 : MethodName := ⟨"BulletinOffice$Packet", "<init>", "(III)V"⟩
abbrev b_Pk_init1 : ByteArray := prog_4_method_1_code
abbrev y_Of_post : MethodName := ⟨"BulletinOffice", "post", "(LBulletinOffice$Packet;)I"⟩
abbrev b_Of_post : ByteArray := prog_1_method_17_code
abbrev y_Pk_interval : MethodName := ⟨"BulletinOffice$Packet", "interval", "()I"⟩
abbrev b_Pk_interval : ByteArray := prog_4_method_3_code
abbrev y_Of_wordAt : MethodName := ⟨"BulletinOffice", "wordAt", "([II)I"⟩
abbrev b_Of_wordAt : ByteArray := prog_1_method_24_code
abbrev y_Of_numberInChain : MethodName := ⟨"BulletinOffice", "numberInChain", "(I)I"⟩
abbrev b_Of_numberInChain : ByteArray := prog_1_method_22_code
abbrev y_Kc_sealPacket : MethodName := ⟨"BulletinOffice$KeyChain", "sealPacket", "(ILBulletinOffice$Packet;LBulletinOffice$Sealer;)V"⟩
abbrev b_Kc_sealPacket : ByteArray := prog_3_method_13_code
abbrev y_Pk_codeAt : MethodName := ⟨"BulletinOffice$Packet", "codeAt", "()I"⟩
abbrev b_Pk_codeAt : ByteArray := prog_4_method_6_code
abbrev y_Pk_size : MethodName := ⟨"BulletinOffice$Packet", "size", "()I"⟩
abbrev b_Pk_size : ByteArray := prog_4_method_5_code
abbrev y_Pk_writeCode : MethodName := ⟨"BulletinOffice$Packet", "writeCode", "([I)V"⟩
abbrev b_Pk_writeCode : ByteArray := prog_4_method_9_code
abbrev y_Pk_shownAt : MethodName := ⟨"BulletinOffice$Packet", "shownAt", "()I"⟩
abbrev b_Pk_shownAt : ByteArray := prog_4_method_7_code
abbrev y_Kc_writeKey : MethodName := ⟨"BulletinOffice$KeyChain", "writeKey", "(I[II)V"⟩
abbrev b_Kc_writeKey : ByteArray := prog_3_method_7_code
abbrev y_Kc_byteAt : MethodName := ⟨"BulletinOffice$KeyChain", "byteAt", "(II)I"⟩
abbrev b_Kc_byteAt : ByteArray := prog_3_method_6_code
abbrev y_Al_add1 : MethodName := ⟨"java/util/ArrayList", "add", "(Ljava/lang/Object;)Z"⟩
abbrev b_Al_add1 : ByteArray := prog_23_method_25_code
abbrev y_Al_add2 : MethodName := ⟨"java/util/ArrayList", "add", "(Ljava/lang/Object;[Ljava/lang/Object;I)V"⟩
abbrev b_Al_add2 : ByteArray := prog_23_method_24_code
abbrev y_Al_grow1 : MethodName := ⟨"java/util/ArrayList", "grow", "()[Ljava/lang/Object;"⟩
abbrev b_Al_grow1 : ByteArray := prog_23_method_7_code
abbrev y_Al_grow2 : MethodName := ⟨"java/util/ArrayList", "grow", "(I)[Ljava/lang/Object;"⟩
abbrev b_Al_grow2 : ByteArray := prog_23_method_6_code
abbrev y_As_newLength : MethodName := ⟨"jdk/internal/util/ArraysSupport", "newLength", "(III)I"⟩
abbrev b_As_newLength : ByteArray := prog_30_method_27_code
abbrev y_Mt_max : MethodName := ⟨"java/lang/Math", "max", "(II)I"⟩
abbrev b_Mt_max : ByteArray := prog_16_method_65_code
abbrev y_As_hugeLength : MethodName := ⟨"jdk/internal/util/ArraysSupport", "hugeLength", "(II)I"⟩
abbrev b_As_hugeLength : ByteArray := prog_30_method_28_code
abbrev y_Ar_copyOf1 : MethodName := ⟨"java/util/Arrays", "copyOf", "([Ljava/lang/Object;I)[Ljava/lang/Object;"⟩
abbrev b_Ar_copyOf1 : ByteArray := prog_24_method_119_code
abbrev y_Ar_copyOf2 : MethodName := ⟨"java/util/Arrays", "copyOf", "([Ljava/lang/Object;ILjava/lang/Class;)[Ljava/lang/Object;"⟩
abbrev b_Ar_copyOf2 : ByteArray := prog_24_method_120_code
abbrev y_Mt_min : MethodName := ⟨"java/lang/Math", "min", "(II)I"⟩
abbrev b_Mt_min : ByteArray := prog_16_method_69_code
abbrev y_Lw_root : MethodName := ⟨"BulletinOfficeLaw", "root", "(LBulletinOffice;[J)I"⟩
abbrev b_Lw_root : ByteArray := method_8_code
abbrev y_Of_root : MethodName := ⟨"BulletinOffice", "root", "()I"⟩
abbrev b_Of_root : ByteArray := prog_1_method_7_code
abbrev y_Lw_packet : MethodName := ⟨"BulletinOfficeLaw", "packet", "(LBulletinOffice;II[J)I"⟩
abbrev b_Lw_packet : ByteArray := method_9_code
abbrev y_Of_packet : MethodName := ⟨"BulletinOffice", "packet", "(II)I"⟩
abbrev b_Of_packet : ByteArray := prog_1_method_8_code
abbrev y_Of_hasPacketByte : MethodName := ⟨"BulletinOffice", "hasPacketByte", "(II)Z"⟩
abbrev b_Of_hasPacketByte : ByteArray := prog_1_method_18_code
abbrev y_Al_get : MethodName := ⟨"java/util/ArrayList", "get", "(I)Ljava/lang/Object;"⟩
abbrev b_Al_get : ByteArray := prog_23_method_20_code
abbrev y_Ob_checkIndex : MethodName := ⟨"java/util/Objects", "checkIndex", "(II)I"⟩
abbrev b_Ob_checkIndex : ByteArray := prog_27_method_17_code
abbrev y_Pc_checkIndex : MethodName := ⟨"jdk/internal/util/Preconditions", "checkIndex", "(IILjava/util/function/BiFunction;)I"⟩
abbrev b_Pc_checkIndex : ByteArray := prog_31_method_11_code
abbrev y_Al_elementData : MethodName := ⟨"java/util/ArrayList", "elementData", "(I)Ljava/lang/Object;"⟩
abbrev b_Al_elementData : ByteArray := prog_23_method_18_code
abbrev y_Lw_key : MethodName := ⟨"BulletinOfficeLaw", "key", "(LBulletinOffice;II[J)I"⟩
abbrev b_Lw_key : ByteArray := method_10_code
abbrev y_Of_key : MethodName := ⟨"BulletinOffice", "key", "(II)I"⟩
abbrev b_Of_key : ByteArray := prog_1_method_9_code
abbrev y_Lw_join : MethodName := ⟨"BulletinOfficeLaw", "join", "(LBulletinOffice;II)I"⟩
abbrev b_Lw_join : ByteArray := method_11_code
abbrev y_Of_join : MethodName := ⟨"BulletinOffice", "join", "(II)V"⟩
abbrev b_Of_join : ByteArray := prog_1_method_10_code
abbrev y_Of_isReceiver : MethodName := ⟨"BulletinOffice", "isReceiver", "(I)Z"⟩
abbrev b_Of_isReceiver : ByteArray := prog_1_method_19_code
abbrev y_Rc_beginAnew : MethodName := ⟨"BulletinOffice$Receiver", "beginAnew", "()V"⟩
abbrev b_Rc_beginAnew : ByteArray := prog_5_method_2_code
abbrev y_Kc_forget : MethodName := ⟨"BulletinOffice$KeyChain", "forget", "()V"⟩
abbrev b_Kc_forget : ByteArray := prog_3_method_3_code
abbrev y_Al_clear : MethodName := ⟨"java/util/ArrayList", "clear", "()V"⟩
abbrev b_Al_clear : ByteArray := prog_23_method_40_code
abbrev y_Kc_learnFrom : MethodName := ⟨"BulletinOffice$KeyChain", "learnFrom", "(LBulletinOffice$KeyChain;I)V"⟩
abbrev b_Kc_learnFrom : ByteArray := prog_3_method_8_code
abbrev y_Lw_drift : MethodName := ⟨"BulletinOfficeLaw", "drift", "(LBulletinOffice;II[J)I"⟩
abbrev b_Lw_drift : ByteArray := method_12_code
abbrev y_Of_drift : MethodName := ⟨"BulletinOffice", "drift", "(II)I"⟩
abbrev b_Of_drift : ByteArray := prog_1_method_11_code
abbrev y_Lw_arrive : MethodName := ⟨"BulletinOfficeLaw", "arrive", "(LBulletinOffice;IIII[J)I"⟩
abbrev b_Lw_arrive : ByteArray := method_13_code
abbrev y_Of_arrive : MethodName := ⟨"BulletinOffice", "arrive", "(IIII)I"⟩
abbrev b_Of_arrive : ByteArray := prog_1_method_12_code
abbrev y_Pk_init2 : MethodName := ⟨"BulletinOffice$Packet", "<init>", "(LBulletinOffice$Packet;)V"⟩
abbrev b_Pk_init2 : ByteArray := prog_4_method_2_code
abbrev y_Rc_take : MethodName := ⟨"BulletinOffice$Receiver", "take", "(LBulletinOffice$Packet;)I"⟩
abbrev b_Rc_take : ByteArray := prog_5_method_4_code
abbrev y_Pk_isBroken : MethodName := ⟨"BulletinOffice$Packet", "isBroken", "()Z"⟩
abbrev b_Pk_isBroken : ByteArray := prog_4_method_8_code
abbrev y_Pk_kind : MethodName := ⟨"BulletinOffice$Packet", "kind", "()I"⟩
abbrev b_Pk_kind : ByteArray := prog_4_method_4_code
abbrev y_Rc_takeShownKey : MethodName := ⟨"BulletinOffice$Receiver", "takeShownKey", "(LBulletinOffice$Packet;)Z"⟩
abbrev b_Rc_takeShownKey : ByteArray := prog_5_method_5_code
abbrev y_Kc_isKnown : MethodName := ⟨"BulletinOffice$KeyChain", "isKnown", "()Z"⟩
abbrev b_Kc_isKnown : ByteArray := prog_3_method_2_code
abbrev y_Kc_isKey : MethodName := ⟨"BulletinOffice$KeyChain", "isKey", "(I[II)Z"⟩
abbrev b_Kc_isKey : ByteArray := prog_3_method_10_code
abbrev y_Kc_readKey : MethodName := ⟨"BulletinOffice$KeyChain", "readKey", "(I[II)V"⟩
abbrev b_Kc_readKey : ByteArray := prog_3_method_11_code
abbrev y_Kc_raiseTo : MethodName := ⟨"BulletinOffice$KeyChain", "raiseTo", "(ILBulletinOffice$Sealer;)Z"⟩
abbrev b_Kc_raiseTo : ByteArray := prog_3_method_12_code
abbrev y_Rc_releaseAll : MethodName := ⟨"BulletinOffice$Receiver", "releaseAll", "()V"⟩
abbrev b_Rc_releaseAll : ByteArray := prog_5_method_8_code
abbrev y_Rc_nextToRelease : MethodName := ⟨"BulletinOffice$Receiver", "nextToRelease", "()I"⟩
abbrev b_Rc_nextToRelease : ByteArray := prog_5_method_9_code
abbrev y_Rc_hasKeyFor : MethodName := ⟨"BulletinOffice$Receiver", "hasKeyFor", "(I)Z"⟩
abbrev b_Rc_hasKeyFor : ByteArray := prog_5_method_6_code
abbrev y_Al_remove : MethodName := ⟨"java/util/ArrayList", "remove", "(I)Ljava/lang/Object;"⟩
abbrev b_Al_remove : ByteArray := prog_23_method_29_code
abbrev y_Al_fastRemove : MethodName := ⟨"java/util/ArrayList", "fastRemove", "([Ljava/lang/Object;I)V"⟩
abbrev b_Al_fastRemove : ByteArray := prog_23_method_39_code
abbrev y_Pk_hasCode : MethodName := ⟨"BulletinOffice$Packet", "hasCode", "([I)Z"⟩
abbrev b_Pk_hasCode : ByteArray := prog_4_method_10_code
abbrev y_Rc_letGo : MethodName := ⟨"BulletinOffice$Receiver", "letGo", "(LBulletinOffice$Packet;)V"⟩
abbrev b_Rc_letGo : ByteArray := prog_5_method_10_code
abbrev y_Kc_learnRoot : MethodName := ⟨"BulletinOffice$KeyChain", "learnRoot", "([II)V"⟩
abbrev b_Kc_learnRoot : ByteArray := prog_3_method_9_code
abbrev y_Ck_canHaveShown : MethodName := ⟨"BulletinOffice$Clock", "canHaveShown", "(II)Z"⟩
abbrev b_Ck_canHaveShown : ByteArray := prog_2_method_3_code
abbrev y_Rc_holdsTwinOf : MethodName := ⟨"BulletinOffice$Receiver", "holdsTwinOf", "(LBulletinOffice$Packet;)Z"⟩
abbrev b_Rc_holdsTwinOf : ByteArray := prog_5_method_7_code
abbrev y_Pk_isTwinOf : MethodName := ⟨"BulletinOffice$Packet", "isTwinOf", "(LBulletinOffice$Packet;)Z"⟩
abbrev b_Pk_isTwinOf : ByteArray := prog_4_method_11_code
abbrev y_Lw_receiver : MethodName := ⟨"BulletinOfficeLaw", "receiver", "(LBulletinOffice;II[J)I"⟩
abbrev b_Lw_receiver : ByteArray := method_14_code
abbrev y_Of_receiver : MethodName := ⟨"BulletinOffice", "receiver", "(II)I"⟩
abbrev b_Of_receiver : ByteArray := prog_1_method_13_code
abbrev y_Rc_latestInterval : MethodName := ⟨"BulletinOffice$Receiver", "latestInterval", "()I"⟩
abbrev b_Rc_latestInterval : ByteArray := prog_5_method_3_code
abbrev y_Lw_released : MethodName := ⟨"BulletinOfficeLaw", "released", "(LBulletinOffice;III[J)I"⟩
abbrev b_Lw_released : ByteArray := method_15_code
abbrev y_Of_released : MethodName := ⟨"BulletinOffice", "released", "(III)I"⟩
abbrev b_Of_released : ByteArray := prog_1_method_14_code
abbrev y_Of_isKept : MethodName := ⟨"BulletinOffice", "isKept", "(II)Z"⟩
abbrev b_Of_isKept : ByteArray := prog_1_method_20_code
abbrev y_Lw_releasedByte : MethodName := ⟨"BulletinOfficeLaw", "releasedByte", "(LBulletinOffice;III[J)I"⟩
abbrev b_Lw_releasedByte : ByteArray := method_16_code
abbrev y_Of_releasedByte : MethodName := ⟨"BulletinOffice", "releasedByte", "(III)I"⟩
abbrev b_Of_releasedByte : ByteArray := prog_1_method_15_code
abbrev y_Md_init : MethodName := ⟨"BulletinOfficeModel", "<init>", "(III)V"⟩
abbrev b_Md_init : ByteArray := prog_8_method_1_code
abbrev y_Md_modulo : MethodName := ⟨"BulletinOfficeModel", "modulo", "(II)I"⟩
abbrev b_Md_modulo : ByteArray := prog_8_method_4_code
abbrev y_Md_thrown : MethodName := ⟨"BulletinOfficeModel", "thrown", "()I"⟩
abbrev b_Md_thrown : ByteArray := prog_8_method_2_code
abbrev y_Md_chain : MethodName := ⟨"BulletinOfficeModel", "chain", "(IIIII)I"⟩
abbrev b_Md_chain : ByteArray := prog_8_method_16_code
abbrev y_Md_fail : MethodName := ⟨"BulletinOfficeModel", "fail", "(I)I"⟩
abbrev b_Md_fail : ByteArray := prog_8_method_3_code
abbrev y_Md_byteOf : MethodName := ⟨"BulletinOfficeModel", "byteOf", "(II)I"⟩
abbrev b_Md_byteOf : ByteArray := prog_8_method_9_code
abbrev y_Md_down : MethodName := ⟨"BulletinOfficeModel", "down", "()V"⟩
abbrev b_Md_down : ByteArray := prog_8_method_11_code
abbrev y_Md_makeSeal : MethodName := ⟨"BulletinOfficeModel", "makeSeal", "()V"⟩
abbrev b_Md_makeSeal : ByteArray := prog_8_method_10_code
abbrev y_Md_digestRow : MethodName := ⟨"BulletinOfficeModel", "digestRow", "()V"⟩
abbrev b_Md_digestRow : ByteArray := prog_8_method_8_code
abbrev y_Md_block : MethodName := ⟨"BulletinOfficeModel", "block", "(I)V"⟩
abbrev b_Md_block : ByteArray := prog_8_method_7_code
abbrev y_Md_turned : MethodName := ⟨"BulletinOfficeModel", "turned", "(II)I"⟩
abbrev b_Md_turned : ByteArray := prog_8_method_6_code
abbrev y_Md_tick : MethodName := ⟨"BulletinOfficeModel", "tick", "(I)I"⟩
abbrev b_Md_tick : ByteArray := prog_8_method_17_code
abbrev y_Md_within : MethodName := ⟨"BulletinOfficeModel", "within", "(III)Z"⟩
abbrev b_Md_within : ByteArray := prog_8_method_5_code
abbrev y_Md_load : MethodName := ⟨"BulletinOfficeModel", "load", "(II)I"⟩
abbrev b_Md_load : ByteArray := prog_8_method_18_code
abbrev y_Md_digest : MethodName := ⟨"BulletinOfficeModel", "digest", "(II)I"⟩
abbrev b_Md_digest : ByteArray := prog_8_method_19_code
abbrev y_Md_send : MethodName := ⟨"BulletinOfficeModel", "send", "(I)I"⟩
abbrev b_Md_send : ByteArray := prog_8_method_21_code
abbrev y_Md_interval : MethodName := ⟨"BulletinOfficeModel", "interval", "()I"⟩
abbrev b_Md_interval : ByteArray := prog_8_method_13_code
abbrev y_Md_chainOf : MethodName := ⟨"BulletinOfficeModel", "chainOf", "(I)I"⟩
abbrev b_Md_chainOf : ByteArray := prog_8_method_14_code
abbrev y_Md_pack : MethodName := ⟨"BulletinOfficeModel", "pack", "(II)I"⟩
abbrev b_Md_pack : ByteArray := prog_8_method_20_code
abbrev y_Md_keyAt : MethodName := ⟨"BulletinOfficeModel", "keyAt", "(III)I"⟩
abbrev b_Md_keyAt : ByteArray := prog_8_method_15_code
abbrev y_Md_codeOfCopy : MethodName := ⟨"BulletinOfficeModel", "codeOfCopy", "(I)V"⟩
abbrev b_Md_codeOfCopy : ByteArray := prog_8_method_12_code
abbrev y_Md_root : MethodName := ⟨"BulletinOfficeModel", "root", "()I"⟩
abbrev b_Md_root : ByteArray := prog_8_method_22_code
abbrev y_Md_packet : MethodName := ⟨"BulletinOfficeModel", "packet", "(II)I"⟩
abbrev b_Md_packet : ByteArray := prog_8_method_23_code
abbrev y_Md_key : MethodName := ⟨"BulletinOfficeModel", "key", "(II)I"⟩
abbrev b_Md_key : ByteArray := prog_8_method_25_code
abbrev y_Md_chainFor : MethodName := ⟨"BulletinOfficeModel", "chainFor", "(IZ)I"⟩
abbrev b_Md_chainFor : ByteArray := prog_8_method_24_code
abbrev y_Md_join : MethodName := ⟨"BulletinOfficeModel", "join", "(II)V"⟩
abbrev b_Md_join : ByteArray := prog_8_method_26_code
abbrev y_Md_drift : MethodName := ⟨"BulletinOfficeModel", "drift", "(II)I"⟩
abbrev b_Md_drift : ByteArray := prog_8_method_27_code
abbrev y_Md_arrive : MethodName := ⟨"BulletinOfficeModel", "arrive", "(IIII)I"⟩
abbrev b_Md_arrive : ByteArray := prog_8_method_40_code
abbrev y_Md_judge : MethodName := ⟨"BulletinOfficeModel", "judge", "(II)I"⟩
abbrev b_Md_judge : ByteArray := prog_8_method_39_code
abbrev y_Md_isBroken : MethodName := ⟨"BulletinOfficeModel", "isBroken", "(I)Z"⟩
abbrev b_Md_isBroken : ByteArray := prog_8_method_29_code
abbrev y_Md_intervalOfCopy : MethodName := ⟨"BulletinOfficeModel", "intervalOfCopy", "()I"⟩
abbrev b_Md_intervalOfCopy : ByteArray := prog_8_method_28_code
abbrev y_Md_lookAtKey : MethodName := ⟨"BulletinOfficeModel", "lookAtKey", "(I)I"⟩
abbrev b_Md_lookAtKey : ByteArray := prog_8_method_31_code
abbrev y_Md_loadLatest : MethodName := ⟨"BulletinOfficeModel", "loadLatest", "(I)V"⟩
abbrev b_Md_loadLatest : ByteArray := prog_8_method_30_code
abbrev y_Md_release : MethodName := ⟨"BulletinOfficeModel", "release", "(I)V"⟩
abbrev b_Md_release : ByteArray := prog_8_method_35_code
abbrev y_Md_isDue : MethodName := ⟨"BulletinOfficeModel", "isDue", "(II)Z"⟩
abbrev b_Md_isDue : ByteArray := prog_8_method_34_code
abbrev y_Md_heldInterval : MethodName := ⟨"BulletinOfficeModel", "heldInterval", "(II)I"⟩
abbrev b_Md_heldInterval : ByteArray := prog_8_method_33_code
abbrev y_Md_heldAt : MethodName := ⟨"BulletinOfficeModel", "heldAt", "(II)I"⟩
abbrev b_Md_heldAt : ByteArray := prog_8_method_32_code
abbrev y_Md_goOut : MethodName := ⟨"BulletinOfficeModel", "goOut", "(II)V"⟩
abbrev b_Md_goOut : ByteArray := prog_8_method_36_code
abbrev y_Md_keep : MethodName := ⟨"BulletinOfficeModel", "keep", "(III)V"⟩
abbrev b_Md_keep : ByteArray := prog_8_method_37_code
abbrev y_Md_isTwice : MethodName := ⟨"BulletinOfficeModel", "isTwice", "(I)Z"⟩
abbrev b_Md_isTwice : ByteArray := prog_8_method_38_code
abbrev y_Md_receiver : MethodName := ⟨"BulletinOfficeModel", "receiver", "(II)I"⟩
abbrev b_Md_receiver : ByteArray := prog_8_method_41_code
abbrev y_Md_released : MethodName := ⟨"BulletinOfficeModel", "released", "(III)I"⟩
abbrev b_Md_released : ByteArray := prog_8_method_43_code
abbrev y_Md_isKept : MethodName := ⟨"BulletinOfficeModel", "isKept", "(II)Z"⟩
abbrev b_Md_isKept : ByteArray := prog_8_method_42_code
abbrev y_Md_releasedByte : MethodName := ⟨"BulletinOfficeModel", "releasedByte", "(III)I"⟩
abbrev b_Md_releasedByte : ByteArray := prog_8_method_44_code
abbrev y_Md_count : MethodName := ⟨"BulletinOfficeModel", "count", "(I)I"⟩
abbrev b_Md_count : ByteArray := prog_8_method_45_code
def hv_tys : List FieldType := [.int, .boolean, .long, .object "BulletinOffice$KeyChain", .object "BulletinOffice$Receiver", .object "java/lang/Object"]
def hv_stat : List (String × String × String) := [("BulletinOffice$Sealer", "START", "[I"), ("BulletinOffice$Sealer", "CONSTANTS", "[I"), ("BulletinOffice$KeyChain", "CHAIN_TEXT", "[I"), ("BulletinOffice$KeyChain", "MAC_TEXT", "[I"), ("java/util/ArrayList", "DEFAULTCAPACITY_EMPTY_ELEMENTDATA", "[Ljava/lang/Object;")]
def hv_nwF : List (String × Nat × String × String × String × String) := []
def hv_nwM : List (String × Nat × MethodName × String) := [("BulletinOffice", 26, y_Sl_init, "BulletinOffice"), ("BulletinOffice", 41, y_Kc_init, "BulletinOffice"), ("BulletinOffice$Receiver", 39, y_Kc_init, "BulletinOffice"), ("BulletinOffice$Packet", 20, y_Of_wordAt, "BulletinOffice"), ("BulletinOffice$Packet", 37, y_Of_byteOf, "BulletinOffice"), ("BulletinOffice$KeyChain", 40, y_Of_byteOf, "BulletinOffice"), ("BulletinOffice$Receiver", 105, y_Of_chainOf, "BulletinOffice"), ("BulletinOffice$Receiver", 109, y_Of_numberInChain, "BulletinOffice"), ("BulletinOffice$KeyChain", 52, y_Of_wordAt, "BulletinOffice")]
def hv_cast : List (String × String) := [("java/lang/IllegalStateException", "java/lang/IllegalStateException"), ("java/lang/IllegalArgumentException", "java/lang/IllegalArgumentException"), ("java/lang/IndexOutOfBoundsException", "java/lang/IndexOutOfBoundsException"), ("java/lang/UnsupportedOperationException", "java/lang/UnsupportedOperationException"), ("[I", "java/lang/Cloneable"), ("BulletinOffice$Packet", "BulletinOffice$Packet"), ("BulletinOffice", "java/lang/Object"), ("BulletinOffice$Clock", "java/lang/Object"), ("BulletinOffice$Sealer", "java/lang/Object"), ("BulletinOffice$KeyChain", "java/lang/Object"), ("BulletinOffice$Receiver", "java/lang/Object"), ("BulletinOfficeModel", "java/lang/Object"), ("BulletinOffice$Packet", "java/lang/Object")]
def hv_ncast : List (String × String) := [("java/lang/IllegalArgumentException", "java/lang/IllegalStateException"), ("java/lang/IndexOutOfBoundsException", "java/lang/IllegalStateException"), ("java/lang/UnsupportedOperationException", "java/lang/IllegalStateException"), ("java/lang/IllegalStateException", "java/lang/IllegalArgumentException"), ("java/lang/IndexOutOfBoundsException", "java/lang/IllegalArgumentException"), ("java/lang/UnsupportedOperationException", "java/lang/IllegalArgumentException"), ("java/lang/IllegalStateException", "java/lang/IndexOutOfBoundsException"), ("java/lang/IllegalArgumentException", "java/lang/IndexOutOfBoundsException"), ("java/lang/UnsupportedOperationException", "java/lang/IndexOutOfBoundsException"), ("java/lang/IllegalStateException", "java/lang/UnsupportedOperationException"), ("java/lang/IllegalArgumentException", "java/lang/UnsupportedOperationException"), ("java/lang/IndexOutOfBoundsException", "java/lang/UnsupportedOperationException")]
def hv_ao : List String := ["BulletinOffice$KeyChain", "BulletinOffice$Receiver", "java/lang/Object"]
def hv_decl : List MethodName := [⟨"java/lang/RuntimeException", "<init>", "()V"⟩, ⟨"java/lang/RuntimeException", "<init>", "(Ljava/lang/String;)V"⟩, ⟨"java/lang/Exception", "<init>", "()V"⟩, ⟨"java/lang/Exception", "<init>", "(Ljava/lang/String;)V"⟩, ⟨"java/lang/Throwable", "<init>", "()V"⟩, ⟨"java/lang/Throwable", "<init>", "(Ljava/lang/String;)V"⟩, ⟨"java/lang/Object", "getClass", "()Ljava/lang/Class;"⟩]
def hv_ws : List Cond := lw_tbl.filter goodWord
theorem hv_good : ∀ w ∈ hv_ws, (w.onTables && w.keeps) = true ∨ ∃ ty, w = .arrayClass ty := fun w h => good_of_word (List.mem_filter.mp h).2
theorem wm {w : Cond} (h : w ∈ tables_1) (h2 : goodWord w = true) : w ∈ hv_ws := List.mem_filter.mpr ⟨List.mem_append_right _ h, h2⟩
theorem wp {q : MethodName × Nat} (h : q ∈ lw_privs) (h2 : goodWord (Cond.selects q.1.cls q.1 q.1) = true) : Cond.selects q.1.cls q.1 q.1 ∈ hv_ws := List.mem_filter.mpr ⟨List.mem_append_left _ (List.mem_map.mpr ⟨q, h, rfl⟩), h2⟩
theorem wc_1 {w : Cond} (h : w ∈ tables_1_1) : w ∈ tables_1 := (List.mem_append_left _ h)
theorem wc_2 {w : Cond} (h : w ∈ tables_1_2) : w ∈ tables_1 := (List.mem_append_right _ (List.mem_append_left _ h))
theorem wc_3 {w : Cond} (h : w ∈ tables_1_3) : w ∈ tables_1 := (List.mem_append_right _ (List.mem_append_right _ (List.mem_append_left _ h)))
theorem wc_4 {w : Cond} (h : w ∈ tables_1_4) : w ∈ tables_1 := (List.mem_append_right _ (List.mem_append_right _ (List.mem_append_right _ (List.mem_append_left _ h))))
theorem wc_5 {w : Cond} (h : w ∈ tables_1_5) : w ∈ tables_1 := (List.mem_append_right _ (List.mem_append_right _ (List.mem_append_right _ (List.mem_append_right _ h))))
end
section
/-! ===== END ===== -/

/-! ===== BEGIN exceptions that leave a method, and their catching by the caller (launches without stack traces) ===== -/
section VXA
/-! The laws vx_back, vx_callV, vx_callS, vx_callSW, vx_throw0, vx_throwS follow proofs of the library, with one case more: JvmDerived/Free/Laws.lean (Back.of_free), Shelf42/LK1.lean (callV, callS), Shelf/KitTraced.lean (throwNew0V, throwNewS). -/
/-- where a method has thrown q: the class by its name, the cell, what was written, the world -/
def vx_T (XC : String → State → State → Prop) (st : State) (q : Addr) (t : State) (mc ms : Nat) (free : Addr → Prop) : Prop :=
  ∃ (E : String) (ce : Cell) (L : List Loc), XC E st t ∧ t.heap[q]? = some ce ∧ ce.vm = .none ∧ st.vm.findClass E = some ce.cls ∧ st.WarmedH t.vm ∧ st.sameButNew ({ t with vm := st.vm } : State) L mc ms ∧ ∀ z ∈ L, free z.base
def vx_Q (Qc : Array Value → State → Outcome → State → Prop) (XC : String → State → State → Prop) (mc ms : Nat) (free : Addr → Prop) : Array Value → State → Outcome → State → Prop := fun a st o t =>
  (Qc a st o t ∧ ∃ L, FrameEnd st o t L mc ms ∧ ∀ q ∈ L, free q.base) ∨ ∃ q, o = .threw q ∧ vx_T XC st q t mc ms free
/-- a callee that returns or throws -/
def vx_Met (l : Launch) (y : MethodName) (ws : List Cond) (rm : Room) (Pc : Array Value → State → Prop) (Qc : Array Value → State → Outcome → State → Prop) (XC : String → State → State → Prop) (mc ms : Nat) (free : Addr → Prop) : Prop :=
  MetFree l y (headSpec ws rm) Pc (fun _ _ _ _ _ => True) (vx_Q Qc XC mc ms free)
def vx_Post (XC : String → State → State → Prop) (mc ms : Nat) (free : Addr → Prop) : Pt → Array Value → Addr → Pt → Prop := fun A a q B =>
  ∃ (g : JFrame) (mk : MethodId) (t : State) (L : List Loc) (E : String) (ce : Cell), B.U.heap = t.heap ∧ B.U.vm = t.vm ∧ XC E (A.U.calling g mk a) t ∧ t.heap[q]? = some ce ∧ ce.vm = .none ∧ A.U.vm.findClass E = some ce.cls ∧ B.locs = A.locs ++ L ∧ (∀ z ∈ L, free z.base) ∧ B.cells = A.cells + mc ∧ B.slots = A.slots + ms
def vx_Back (l : Launch) (R : Room) (p : Program) (e : Env) (below : List Frame) (s : State) (sargs : Array Value) (y : MethodName) (len W9 : Nat)
    (Pre : Pt → Array Value → Prop) (Post : Pt → Array Value → Option Value → Pt → Prop) (PostX : Pt → Array Value → Addr → Pt → Prop) : Prop :=
  ∀ (m : MethodId) (meth : Method) (c : Code) (A : Pt) (g : JFrame) (ig : Instr) (mk : MethodId) (a : Array Value),
    Stand p l e R s m sargs below meth c A.U A.locs A.cells A.slots → g.method = m → g.locals.size = c.maxLocals → decode c.code g.pc = .ok (ig, len) →
    2 * g.monitorRoom + (g.stack.map fun v => v.category).sum ≤ W9 → A.U.methodNamed? y = some mk → Pre A a →
    (∃ (v : Option Value) (B : Pt), Stand p l e R s m sargs below meth c B.U B.locs B.cells B.slots ∧ Post A a v B ∧
      Steps p.tables e below (doInvoke e (A.U.setTop g) [] mk a).1 (B.U.setTop { g with pc := g.pc + len, stack := v.toList ++ g.stack })) ∨
    (∃ (q : Addr) (B : Pt), Stand p l e R s m sargs below meth c B.U B.locs B.cells B.slots ∧ PostX A a q B ∧
      Steps p.tables e below (doInvoke e (A.U.setTop g) [] mk a).1 ((B.U.setTop g).pushFrame (.throwing q)))
section Payer
variable {l : Launch} {R : Room} {p : Program} {e : Env} {below : List Frame} {s : State} {sargs : Array Value} {y : MethodName} {len W9 : Nat}
theorem vx_back {ws : List Cond} {rm : Room} {Pc : Array Value → State → Prop} {Qc : Array Value → State → Outcome → State → Prop} {XC : String → State → State → Prop} {mc ms : Nat} {free : Addr → Prop} {bytes : ByteArray} {maxL : Nat} {ret : Option FieldType}
    (hM : vx_Met l y ws rm Pc Qc XC mc ms free) (hblind : FrameBlind Pc) (hrc : rm.cells = mc) (hrs : rm.slots = ms)
    (hframes : rm.frames + 1 ≤ R.frames) (hlocals : W9 + (maxL + 11) + rm.locals ≤ R.locals)
    (hws : ∀ w ∈ ws, ∀ a' U, s.WarmedH U.vm → w.before a' U = true) (hcode : Cond.code y bytes maxL ret ∈ ws) (hinit : ∀ a' U, s.WarmedH U.vm → (Cond.initialized y.cls).before a' U = true) :
    vx_Back l R p e below s sargs y len W9 (PreOf R mc ms Pc) (PostOf Qc mc ms free) (vx_Post XC mc ms free) := by
  intro m meth c A g ig mk a X hg hsize hdg hW hn hp
  have h1 : (headSpec ws rm).pre.before a A.U = true := atoms_intro fun w hw => hws w hw _ _ X.warmed
  have h2 : (Cond.code y bytes maxL ret).before a A.U = true := hws _ hcode _ _ X.warmed
  have h3 : (Cond.initialized y.cls).before a A.U = true := hinit _ _ X.warmed
  have h4 : A.cells + (headSpec ws rm).room.cells ≤ R.cells := by rw [show (headSpec ws rm).room.cells = mc from hrc]; exact hp.1
  have h5 : A.slots + (headSpec ws rm).room.slots ≤ R.slots := by rw [show (headSpec ws rm).room.slots = ms from hrs]; exact hp.2.1
  have hPc : Pc a (A.U.calling g mk a) := hblind _ _ _ _ hp.2.2
  obtain ⟨U, Ls, c0, s0⟩ := A
  dsimp only [Pt.U, Pt.locs, Pt.cells, Pt.slots] at h1 h2 h3 h4 h5 X hn hPc ⊢
  obtain ⟨methY, cY, hmY, hcY, -, hlY, -, -, -, -⟩ := Cond.code_spec hn h2
  obtain ⟨kY, hkY, -⟩ := className_of_methodNamed hn
  have hinitY : kY.init = .initialized := Cond.initialized_spec (findClass_of_methodNamed hn) hkY h3
  have h : At U g.method c below := by rw [hg]; exact X.here
  have hlocals9 : W9 + (maxL + 11) + (headSpec ws rm).room.locals ≤ R.locals := hlocals
  have happ : (headSpec ws rm).appliesLoose y e.platform (U.calling g mk a) = true :=
    Spec.appliesLoose_calling (g := g) h hdg hn hkY hinitY
      (X.room_calling (g := g) (R' := (headSpec ws rm).room) hsize hmY hcY hframes (by rw [hlY]; omega) h4 h5) h1
  obtain ⟨mid, hmid⟩ := h.above
  have hfr : (U.setTop g).frames = (.java g :: mid) ++ below := by rw [State.frames_setTop' g h.top, hmid]; rfl
  obtain ⟨o, s₂, hsteps, -, hend, hq⟩ := Steps.callFree hM p X.admits X.cas X.clock (acts := []) hfr happ hPc trivial
  have hq' : vx_Q Qc XC mc ms free a (U.calling g mk a) o s₂ := hq
  rw [State.frames_setTop' g h.top] at hend
  obtain ⟨g₀, hg0⟩ := Option.isSome_iff_exists.mp h.top
  obtain ⟨r, hr⟩ := State.topJava?_eq_some.mp hg0
  have hr' : (({ U with heap := s₂.heap, slotsUsed := s₂.slotsUsed } : State).setVm s₂.vm).frames = .java g₀ :: r := hr
  rcases hq' with ⟨hqc, L, hfe, hL⟩ | ⟨q, rfl, E, ce, L, hx, hce, hcv, hcl, hW₂, hsm, hL⟩
  · obtain ⟨⟨v, rfl⟩, hW₂, e2, q2, q3, q4, q5, q6⟩ := id hfe
    have e3 : s₂ = ({ (U.calling g mk a).setFrames s₂.frames with heap := s₂.heap, slotsUsed := s₂.slotsUsed } : State).setVm s₂.vm := by
      have : s₂ = ({ s₂ with vm := (U.calling g mk a).vm } : State).setVm s₂.vm := rfl
      rw [e2] at this
      exact this
    obtain ⟨c₂, i₂, len₂, hc₂, hd₂, hf₂⟩ := hend
    have hW' : U.WarmedH s₂.vm := hW₂
    have hcc : c₂ = c := by
      have h1 : s₂.code? g.method = U.code? g.method := by
        rw [State.code?_eq, State.code?_eq, hW'.alike.method?]
      exact Option.some.inj (hc₂.symm.trans (h1.trans h.code))
    subst hcc
    have hlen : len₂ = len := by rw [hdg] at hd₂; cases hd₂; rfl
    subst hlen
    have hs₂ : s₂ = (({ U with heap := s₂.heap, slotsUsed := s₂.slotsUsed } : State).setVm s₂.vm).setTop { g with pc := g.pc + len₂, stack := v.toList ++ g.stack } := by
      refine e3.trans ?_
      rw [hf₂, State.calling_eq h.top, State.setFrames_setFrames, State.setTop_of_frames _ hr', hr]
      rfl
    have hsame : U.sameButNew ({ U with heap := s₂.heap, slotsUsed := s₂.slotsUsed } : State) L mc ms := by
      refine ⟨?_, q2, q3, q4, q5, q6⟩
      obtain ⟨t, ht, -⟩ := State.frames_cons hr
      show ({ U with heap := s₂.heap, slotsUsed := s₂.slotsUsed } : State) = { U.setFrames U.frames with heap := s₂.heap, slotsUsed := s₂.slotsUsed }
      rw [State.setFrames_self ht]
    subst hg
    refine Or.inl ⟨v, ⟨(({ U with heap := s₂.heap, slotsUsed := s₂.slotsUsed } : State).setVm s₂.vm), Ls ++ L, c0 + mc, s0 + ms⟩,
      ⟨X.admits, X.cas, X.clock, X.frames, X.room, X.hears, X.method, X.code, (X.here.setHeapUsed s₂.heap s₂.slotsUsed).setVm hW'.alike, X.tail, State.WarmedH.trans X.warmed hW', X.limits, X.bytes, X.same.trans (hsame.setVm s.vm)⟩,
      ⟨g, mk, s₂, L, rfl, rfl, hqc, rfl, hL, rfl, rfl⟩, ?_⟩
    show Steps p.tables e below _ ((({ U with heap := s₂.heap, slotsUsed := s₂.slotsUsed } : State).setVm s₂.vm).setTop { g with pc := g.pc + len₂, stack := v.toList ++ g.stack })
    rw [← hs₂]
    exact hsteps
  · obtain ⟨e2, q2, q3, q4, q5, q6⟩ := id hsm
    have e3 : s₂ = ({ (U.calling g mk a).setFrames s₂.frames with heap := s₂.heap, slotsUsed := s₂.slotsUsed } : State).setVm s₂.vm := by
      have : s₂ = ({ s₂ with vm := (U.calling g mk a).vm } : State).setVm s₂.vm := rfl
      rw [e2] at this
      exact this
    have hf₂ : s₂.frames = .throwing q :: .java g :: U.frames.tail := hend
    have hW' : U.WarmedH s₂.vm := hW₂
    have hs₂ : s₂ = ((({ U with heap := s₂.heap, slotsUsed := s₂.slotsUsed } : State).setVm s₂.vm).setTop g).pushFrame (.throwing q) := by
      refine e3.trans ?_
      rw [hf₂, State.calling_eq h.top, State.setFrames_setFrames, State.pushFrame, State.frames_setTop _ hr', State.setTop_of_frames _ hr', State.setFrames_setFrames, hr]
      rfl
    have hsame : U.sameButNew ({ U with heap := s₂.heap, slotsUsed := s₂.slotsUsed } : State) L mc ms := by
      refine ⟨?_, q2, q3, q4, q5, q6⟩
      obtain ⟨t, ht, -⟩ := State.frames_cons hr
      show ({ U with heap := s₂.heap, slotsUsed := s₂.slotsUsed } : State) = { U.setFrames U.frames with heap := s₂.heap, slotsUsed := s₂.slotsUsed }
      rw [State.setFrames_self ht]
    subst hg
    refine Or.inr ⟨q, ⟨(({ U with heap := s₂.heap, slotsUsed := s₂.slotsUsed } : State).setVm s₂.vm), Ls ++ L, c0 + mc, s0 + ms⟩,
      ⟨X.admits, X.cas, X.clock, X.frames, X.room, X.hears, X.method, X.code, (X.here.setHeapUsed s₂.heap s₂.slotsUsed).setVm hW'.alike, X.tail, State.WarmedH.trans X.warmed hW', X.limits, X.bytes, X.same.trans (hsame.setVm s.vm)⟩,
      ⟨g, mk, s₂, L, E, ce, rfl, rfl, hx, hce, hcv, hcl, rfl, hL, rfl, rfl⟩, ?_⟩
    show Steps p.tables e below _ (((({ U with heap := s₂.heap, slotsUsed := s₂.slotsUsed } : State).setVm s₂.vm).setTop g).pushFrame (.throwing q))
    rw [← hs₂]
    exact hsteps
end Payer
section Calls
variable {p : Program} {l : Launch} {e : Env} {R : Room} {s : State} {m : MethodId} {args : Array Value} {below : List Frame} {meth : Method} {c : Code} {T : State} {locs : List Loc} {cells slots : Nat}
theorem vx_callV (X : Stand p l e R s m args below meth c T locs cells slots) (hexec : p.tables.exec = Jvm.exec) {own C : String} {index : Nat} {y : MethodName} {bytes : ByteArray} {maxL : Nat} {ret : Option FieldType}
    (hown : s.vm.findClass own = some m.cls) (hlink : (Cond.methodLink own index y).before args s = true) (hinst : (Cond.instanceMethod y).before args s = true) (hsel : (Cond.selects C y y).before args s = true)
    (hcode : (Cond.code y bytes maxL ret).before args s = true) (hy : y.cls ≠ "java/lang/invoke/MethodHandle" ∧ y.cls ≠ "java/lang/invoke/VarHandle")
    {W9 : Nat} {Pre : Pt → Array Value → Prop} {Post : Pt → Array Value → Option Value → Pt → Prop} {PostX : Pt → Array Value → Addr → Pt → Prop} (hK : vx_Back l R p e below s args y 3 W9 Pre Post PostX)
    {b : Addr} {cellB : Cell} (hcell : T.heap[b]? = some cellB) (hobj : cellB.vm.isStatics = false) (hcls : s.vm.findClass C = some cellB.cls)
    {g : JFrame} (hg : g.method = m) (hsize : g.locals.size = c.maxLocals) {argsL rest : List Value} (hlen : ∀ sig, parseMethodDescriptor y.desc = some sig → argsL.length = sig.parameters.length)
    (hstack : g.stack = argsL.reverse ++ .ref b :: rest) (hW : 2 * g.monitorRoom + (rest.map fun v => v.category).sum ≤ W9) (hdg : decode c.code g.pc = .ok (.invokevirtual index, 3))
    (hpre : ∀ vm₁, s.WarmedH vm₁ → Pre ⟨T.setVm vm₁, locs, cells, slots⟩ (Value.ref b :: argsL).toArray) :
    (∃ (v : Option Value) (vm₁ : Vm) (B : Pt), s.WarmedH vm₁ ∧ Stand p l e R s m args below meth c B.U B.locs B.cells B.slots ∧ Post ⟨T.setVm vm₁, locs, cells, slots⟩ (Value.ref b :: argsL).toArray v B ∧
      ∀ target, Steps p.tables e below (B.U.setTop { g with pc := g.pc + 3, stack := v.toList ++ rest }) target → Steps p.tables e below (T.setTop g) target) ∨
    (∃ (q : Addr) (vm₁ : Vm) (B : Pt), s.WarmedH vm₁ ∧ Stand p l e R s m args below meth c B.U B.locs B.cells B.slots ∧ PostX ⟨T.setVm vm₁, locs, cells, slots⟩ (Value.ref b :: argsL).toArray q B ∧
      Steps p.tables e below (T.setTop g) ((B.U.setTop { g with stack := rest }).pushFrame (.throwing q))) := by
  obtain ⟨mk, methM, hnamed, hmethM, hstM, habM⟩ := Cond.instanceMethod_spec hinst
  obtain ⟨methM', cM, hmethM', -, -, -, -, -, -, hsigM⟩ := Cond.code_spec hnamed hcode
  cases hmethM.symm.trans hmethM'
  obtain ⟨c2, r2, m2, q1, q2, q3, q4, kP, hkP, hkPi⟩ := Cond.selects_spec hsel
  cases hcls.symm.trans q1
  cases (State.methodFound?_of_named hnamed hy).symm.trans q2
  cases hnamed.symm.trans q3
  have hselP : selectMethod e.platform s.vm cellB.cls mk = .method mk := by rw [Launch.admits_selectMethod X.admits]; exact q4
  obtain ⟨vm₁, X₁, hstep₁⟩ := X.invokevirtual hexec hown hlink hnamed hmethM hstM hkP hkPi hy (a := b) (cell := cellB) hcell
    (fun z h => by rw [h] at hobj; cases hobj) hselP hmethM habM hkP hkPi (g := g) hg (argsL := argsL) (rest := rest) (hlen _ hsigM) hstack hdg
  rcases hK m meth c ⟨T.setVm vm₁, locs, cells, slots⟩ { g with stack := rest } (.invokevirtual index) mk (Value.ref b :: argsL).toArray X₁ hg hsize hdg hW (X₁.named hnamed) (hpre vm₁ X₁.warmed) with ⟨v, B, X', hpost, hsteps⟩ | ⟨q, B, X', hpost, hsteps⟩
  · exact Or.inl ⟨v, vm₁, B, X₁.warmed, X', hpost, fun target h => hstep₁ _ fun acts => by rw [doInvoke_state]; exact hsteps.trans h⟩
  · exact Or.inr ⟨q, vm₁, B, X₁.warmed, X', hpost, hstep₁ _ fun acts => by rw [doInvoke_state]; exact hsteps⟩
theorem vx_callS (X : Stand p l e R s m args below meth c T locs cells slots) (hexec : p.tables.exec = Jvm.exec) {own : String} {index : Nat} {y : MethodName} {bytes : ByteArray} {maxL : Nat} {ret : Option FieldType}
    (hown : s.vm.findClass own = some m.cls) (hlink : (Cond.methodLink own index y).before args s = true) (hstat : (Cond.static y).before args s = true) (hinit : (Cond.initialized y.cls).before args s = true)
    (hcode : (Cond.code y bytes maxL ret).before args s = true) (hy : y.cls ≠ "java/lang/invoke/MethodHandle" ∧ y.cls ≠ "java/lang/invoke/VarHandle")
    {W9 : Nat} {Pre : Pt → Array Value → Prop} {Post : Pt → Array Value → Option Value → Pt → Prop} {PostX : Pt → Array Value → Addr → Pt → Prop} (hK : vx_Back l R p e below s args y 3 W9 Pre Post PostX)
    {g : JFrame} (hg : g.method = m) (hsize : g.locals.size = c.maxLocals) {argsL rest : List Value} (hlen : ∀ sig, parseMethodDescriptor y.desc = some sig → argsL.length = sig.parameters.length)
    (hstack : g.stack = argsL.reverse ++ rest) (hW : 2 * g.monitorRoom + (rest.map fun v => v.category).sum ≤ W9) (hdg : decode c.code g.pc = .ok (.invokestatic index, 3))
    (hpre : ∀ vm₁, s.WarmedH vm₁ → Pre ⟨T.setVm vm₁, locs, cells, slots⟩ argsL.toArray) :
    (∃ (v : Option Value) (vm₁ : Vm) (B : Pt), s.WarmedH vm₁ ∧ Stand p l e R s m args below meth c B.U B.locs B.cells B.slots ∧ Post ⟨T.setVm vm₁, locs, cells, slots⟩ argsL.toArray v B ∧
      ∀ target, Steps p.tables e below (B.U.setTop { g with pc := g.pc + 3, stack := v.toList ++ rest }) target → Steps p.tables e below (T.setTop g) target) ∨
    (∃ (q : Addr) (vm₁ : Vm) (B : Pt), s.WarmedH vm₁ ∧ Stand p l e R s m args below meth c B.U B.locs B.cells B.slots ∧ PostX ⟨T.setVm vm₁, locs, cells, slots⟩ argsL.toArray q B ∧
      Steps p.tables e below (T.setTop g) ((B.U.setTop { g with stack := rest }).pushFrame (.throwing q))) := by
  obtain ⟨mk, hnamed⟩ := Cond.code_named hcode
  obtain ⟨methM, cM, hmethM, -, -, -, -, -, -, hsigM⟩ := Cond.code_spec hnamed hcode
  have hstatic : methM.isStatic = true := Cond.static_spec hnamed hmethM hstat
  obtain ⟨kP, hkP, -⟩ := className_of_methodNamed hnamed
  have hinitP : kP.init = .initialized := Cond.initialized_spec (findClass_of_methodNamed hnamed) hkP hinit
  obtain ⟨vm₁, X₁, hstep₁⟩ := X.invokestatic hexec hown hlink hnamed hmethM hstatic hkP hinitP hy (g := g) hg (argsL := argsL) (rest := rest) (hlen _ hsigM) hstack hdg
  rcases hK m meth c ⟨T.setVm vm₁, locs, cells, slots⟩ { g with stack := rest } (.invokestatic index) mk argsL.toArray X₁ hg hsize hdg hW (X₁.named hnamed) (hpre vm₁ X₁.warmed) with ⟨v, B, X', hpost, hsteps⟩ | ⟨q, B, X', hpost, hsteps⟩
  · exact Or.inl ⟨v, vm₁, B, X₁.warmed, X', hpost, fun target h => hstep₁ _ fun acts => by rw [doInvoke_state]; exact hsteps.trans h⟩
  · exact Or.inr ⟨q, vm₁, B, X₁.warmed, X', hpost, hstep₁ _ fun acts => by rw [doInvoke_state]; exact hsteps⟩
end Calls
theorem vx_cls {s : State} {T : State} {vm₁ : Vm} {E : String} {k : ClassId} (hW : s.WarmedH vm₁) (h : (T.setVm vm₁).vm.findClass E = some k) : s.vm.findClass E = some k := by
  have h1 : vm₁.findClass E = some k := h
  rw [hW.alike.findClass] at h1
  exact h1
/-- the method's frame g, with q thrown over it -/
def vx_W (p : Program) (l : Launch) (e : Env) (R : Room) (s : State) (m : MethodId) (args : Array Value) (below : List Frame) (meth : Method) (c : Code) (H : Heap) (locs : List Loc) (cells slots : Nat) (Q : State → Prop) (g : JFrame) (q : Addr) : Prop :=
  ∀ T : State, T.heap = H → Stand p l e R s m args below meth c T locs cells slots → ∃ t, Steps p.tables e below ((T.setTop g).pushFrame (.throwing q)) t ∧ Q t
def vx_Run (p : Program) (l : Launch) (e : Env) (R : Room) (s : State) (m : MethodId) (args : Array Value) (below : List Frame) (meth : Method) (c : Code) (H : Heap) (locs : List Loc) (cells slots mc ms : Nat) (g : JFrame) (rest : List Value) (Qa : State → Outcome → State → Prop) (XC : String → State → State → Prop) (free : Addr → Prop) : Prop :=
  ∀ T : State, T.heap = H → Stand p l e R s m args below meth c T locs cells slots →
    (∃ (v : Option Value) (st₀ t T' : State) (L : List Loc), st₀.heap = H ∧ Stand p l e R s m args below meth c T' (locs ++ L) (cells + mc) (slots + ms) ∧ (∀ q ∈ L, free q.base) ∧ T'.heap = t.heap ∧ T'.vm = t.vm ∧ Qa st₀ (.returned v) t ∧
      Goes p e below T g T' { g with pc := g.pc + 3, stack := v.toList ++ rest }) ∨
    (∃ (q : Addr) (st₀ t T' : State) (L : List Loc) (E : String) (ce : Cell), st₀.heap = H ∧ Stand p l e R s m args below meth c T' (locs ++ L) (cells + mc) (slots + ms) ∧ (∀ z ∈ L, free z.base) ∧ T'.heap = t.heap ∧ T'.vm = t.vm ∧ XC E st₀ t ∧ t.heap[q]? = some ce ∧ ce.vm = .none ∧ s.vm.findClass E = some ce.cls ∧
      Steps p.tables e below (T.setTop g) ((T'.setTop { g with stack := rest }).pushFrame (.throwing q)))
def vx_X {S : Type} (px : S → Prop) (B : String → S → State → Prop) (A : Nat → Prop) : String → State → State → Prop := fun E st t => ∃ u : S, px u ∧ B E u t ∧ va_F A st t
section Runs
variable {p : Program} {l : Launch} {e : Env} {R : Room} {s : State} {m : MethodId} {args : Array Value} {below : List Frame} {meth : Method} {c : Code} {H : Heap} {locs : List Loc} {cells slots : Nat}
variable {y : MethodName} {bytes cc : ByteArray} {maxL nL mc ms n index : Nat} {ret : Option FieldType} {ws : List Cond} {rm : Room} {Pc : Array Value → State → Prop} {Qc : Array Value → State → Outcome → State → Prop} {XC : String → State → State → Prop} {free : Addr → Prop} {Ts : List Cond} {own C : String} {b : Addr} {As rest : List Value} {g : JFrame}
theorem vx_callBack (cb : CallB R s args own index y bytes maxL ret ws rm mc ms n) (hM : vx_Met l y ws rm Pc Qc XC mc ms free) (hbl : FrameBlind Pc) : vx_Back l R p e below s args y 3 8 (PreOf R mc ms Pc) (PostOf Qc mc ms free) (vx_Post XC mc ms free) := by
  obtain ⟨hrc, hrs, hfr, hlo, hws, hcw, -, hini, -⟩ := cb
  exact vx_back (bytes := bytes) (maxL := maxL) (ret := ret) hM hbl hrc hrs hfr hlo hws hcw (fun a' U hW => word_at hW (Or.inl (by first | rfl | simp [Cond.onTables, Cond.keeps, Cond.steady])) hini)
theorem vx_runV (S : CallFix p m c cc nL s args Ts own) (hM : vx_Met l y ws rm Pc Qc XC mc ms free) (cw : CallW R s args own C index y bytes maxL ret ws rm mc ms n) (hp : PreV s H C b Pc As)
    (hg : g.method = m) (hn : As.length = n) (hsize : g.locals.size = nL) (hstack : g.stack = As.reverse ++ .ref b :: rest) (hW : 2 * g.monitorRoom + (rest.map fun v => v.category).sum ≤ 8) (hdg : decode cc g.pc = .ok (.invokevirtual index, 3)) (hf : cells + mc ≤ R.cells ∧ slots + ms ≤ R.slots) :
    vx_Run p l e R s m args below meth c H locs cells slots mc ms g rest (Qc (Value.ref b :: As).toArray) XC free := by
  have hK : vx_Back l R p e below s args y 3 8 (PreOf R mc ms Pc) (PostOf Qc mc ms free) (vx_Post XC mc ms free) := vx_callBack cw.1 hM hp.1
  obtain ⟨⟨-, -, -, -, -, -, hcode, -, hy, hlen, hl⟩, hin, hse⟩ := cw
  obtain ⟨hx, hb, hml, ho, -⟩ := S
  obtain ⟨-, ⟨cellB, hcB, hoB, hclB⟩, hPc⟩ := hp
  intro T hT X
  rcases vx_callV X hx (C := C) (bytes := bytes) (maxL := maxL) (ret := ret) ho hl hin hse hcode hy hK (by rw [hT]; exact hcB) hoB hclB hg (hsize.trans hml.symm) (argsL := As) (rest := rest) (fun sig h => hn.trans (hlen sig h)) hstack hW (by rw [hb]; exact hdg)
    (fun vm₁ hW₁ => ⟨hf.1, hf.2, hPc (T.setVm vm₁) hT hW₁⟩) with ⟨v, vm₁, ⟨U', l2, c2, s2⟩, hW₁, X', ⟨g', mk, t, L, e1, e2, hq, h1, hL, h2, h3⟩, st⟩ | ⟨q, vm₁, ⟨U', l2, c2, s2⟩, hW₁, X', ⟨g', mk, t, L, E, ce, e1, e2, hq, hce, hcv, hcl, h1, hL, h2, h3⟩, st⟩
  · dsimp only [Pt.U, Pt.locs, Pt.cells, Pt.slots] at X' e1 e2 h1 h2 h3 st
    subst h1; subst h2; subst h3
    exact Or.inl ⟨v, (T.setVm vm₁).calling g' mk (Value.ref b :: As).toArray, t, U', L, hT, X', hL, e1, e2, hq, st⟩
  · dsimp only [Pt.U, Pt.locs, Pt.cells, Pt.slots] at X' e1 e2 h1 h2 h3 st hcl
    subst h1; subst h2; subst h3
    exact Or.inr ⟨q, (T.setVm vm₁).calling g' mk (Value.ref b :: As).toArray, t, U', L, E, ce, hT, X', hL, e1, e2, hq, hce, hcv, vx_cls hW₁ hcl, st⟩
theorem vx_runS (S : CallFix p m c cc nL s args Ts own) (hM : vx_Met l y ws rm Pc Qc XC mc ms free) (cw : CallB R s args own index y bytes maxL ret ws rm mc ms n ∧ (Cond.static y).before args s = true) (hp : PreS s H Pc As)
    (hg : g.method = m) (hn : As.length = n) (hsize : g.locals.size = nL) (hstack : g.stack = As.reverse ++ rest) (hW : 2 * g.monitorRoom + (rest.map fun v => v.category).sum ≤ 8) (hdg : decode cc g.pc = .ok (.invokestatic index, 3)) (hf : cells + mc ≤ R.cells ∧ slots + ms ≤ R.slots) :
    vx_Run p l e R s m args below meth c H locs cells slots mc ms g rest (Qc As.toArray) XC free := by
  have hK : vx_Back l R p e below s args y 3 8 (PreOf R mc ms Pc) (PostOf Qc mc ms free) (vx_Post XC mc ms free) := vx_callBack cw.1 hM hp.1
  obtain ⟨⟨-, -, -, -, -, -, hcode, hini, hy, hlen, hl⟩, hstt⟩ := cw
  obtain ⟨hx, hb, hml, ho, -⟩ := S
  intro T hT X
  rcases vx_callS X hx (bytes := bytes) (maxL := maxL) (ret := ret) ho hl hstt hini hcode hy hK hg (hsize.trans hml.symm) (argsL := As) (rest := rest) (fun sig h => hn.trans (hlen sig h)) hstack hW (by rw [hb]; exact hdg)
    (fun vm₁ hW₁ => ⟨hf.1, hf.2, hp.2 (T.setVm vm₁) hT hW₁⟩) with ⟨v, vm₁, ⟨U', l2, c2, s2⟩, hW₁, X', ⟨g', mk, t, L, e1, e2, hq, h1, hL, h2, h3⟩, st⟩ | ⟨q, vm₁, ⟨U', l2, c2, s2⟩, hW₁, X', ⟨g', mk, t, L, E, ce, e1, e2, hq, hce, hcv, hcl, h1, hL, h2, h3⟩, st⟩
  · dsimp only [Pt.U, Pt.locs, Pt.cells, Pt.slots] at X' e1 e2 h1 h2 h3 st
    subst h1; subst h2; subst h3
    exact Or.inl ⟨v, (T.setVm vm₁).calling g' mk As.toArray, t, U', L, hT, X', hL, e1, e2, hq, st⟩
  · dsimp only [Pt.U, Pt.locs, Pt.cells, Pt.slots] at X' e1 e2 h1 h2 h3 st hcl
    subst h1; subst h2; subst h3
    exact Or.inr ⟨q, (T.setVm vm₁).calling g' mk As.toArray, t, U', L, E, ce, hT, X', hL, e1, e2, hq, hce, hcv, vx_cls hW₁ hcl, st⟩
end Runs
section Rows
variable {p : Program} {l : Launch} {e : Env} {R : Room} {s : State} {m : MethodId} {args : Array Value} {below : List Frame} {meth : Method} {c : Code} {H : Heap} {locs : List Loc} {cells slots : Nat} {Q : State → Prop}
variable {mc ms : Nat} {free : Addr → Prop} {A0 A1 : Nat → Prop} {H0 : Heap} {a : Array Value} {pc : Nat} {ls : Array Slot} {st0 rest : List Value}
theorem vx_keep {st₀ t T' : State} {L : List Loc} (h0 : st₀.heap = H) (e1 : T'.heap = t.heap) (hS : va_S A0 H0 H locs) (hA : ∀ q, q < H.size → A1 q → A0 q) (hf : ∀ q, free q → A0 q) (hL : ∀ q ∈ L, free q.base) (hF : va_F A1 st₀ t) :
    H.size ≤ T'.heap.size ∧ (∀ q : Nat, q < H.size → ¬ A1 q → T'.heap[q]? = H[q]?) ∧ va_S A0 H0 T'.heap (locs ++ L) := by
  obtain ⟨hz, hk⟩ := hF
  rw [h0] at hz hk
  exact ⟨by rw [e1]; exact hz, fun q h1 h2 => by rw [e1]; exact hk q h1 h2,
    ⟨Nat.le_trans hS.1 (by rw [e1]; exact hz), fun q h1 h2 => by rw [e1, hk q (Nat.lt_of_lt_of_le h1 hS.1) (fun z => h2 (hA q (Nat.lt_of_lt_of_le h1 hS.1) z))]; exact hS.2.1 q h1 h2, fun q hq => by
      rcases List.mem_append.mp hq with h | h
      · exact hS.2.2 q h
      · exact hf _ (hL q h)⟩⟩
theorem vx_calli {S SX : Type} {post : Int32 → S → Prop} {px : SX → Prop} {B : S → State → Prop} {BX : String → SX → State → Prop} {AX : Nat → Prop} (hr : vx_Run p l e R s m args below meth c H locs cells slots mc ms (F0 m pc ls st0) rest (va_Qi post B A1 a) (vx_X px BX AX) free) (hS : va_S A0 H0 H locs) (hA : ∀ q, q < H.size → A1 q → A0 q) (hf : ∀ q, free q → A0 q) (hAX : ∀ q, q < H.size → AX q → A0 q)
    (kx : ∀ (E : String) (ce : Cell) (q9 : Addr) (u : SX) (t : State) (H1 : Heap) (locs1 : List Loc), t.heap = H1 → s.vm.Alike t.vm → px u → BX E u t → H.size ≤ H1.size → (∀ q : Nat, q < H.size → ¬ AX q → H1[q]? = H[q]?) → va_S A0 H0 H1 locs1 → H1[q9]? = some ce → ce.vm = .none → s.vm.findClass E = some ce.cls → vx_W p l e R s m args below meth c H1 locs1 (cells + mc) (slots + ms) Q (F0 m pc ls rest) q9)
    (kk : ∀ (r : Int32) (u : S) (t : State) (H1 : Heap) (locs1 : List Loc), t.heap = H1 → s.vm.Alike t.vm → post r u → B u t → H.size ≤ H1.size → (∀ q : Nat, q < H.size → ¬ A1 q → H1[q]? = H[q]?) → va_S A0 H0 H1 locs1 → W p l e R s m args below meth c H1 locs1 (cells + mc) (slots + ms) Q (F0 m (pc + 3) ls (.int r :: rest))) : W p l e R s m args below meth c H locs cells slots Q (F0 m pc ls st0) := by
  intro T hT X
  rcases hr T hT X with ⟨v, st₀, t, T', L, h0, X', hL, e1, e2, ⟨⟨r, u, hv, hp, hb⟩, hF⟩, st⟩ | ⟨q, st₀, t, T', L, E, ce, h0, X', hL, e1, e2, ⟨u, hp, hb, hF⟩, hce, hcv, hcl, st⟩
  · cases hv
    obtain ⟨k1, k2, k3⟩ := vx_keep h0 e1 hS hA hf hL hF
    obtain ⟨t2, a1, b1⟩ := kk r u t T'.heap (locs ++ L) e1.symm (by rw [← e2]; exact X'.warmed.alike) hp hb k1 k2 k3 T' rfl X'
    exact ⟨t2, st t2 a1, b1⟩
  · obtain ⟨k1, k2, k3⟩ := vx_keep h0 e1 hS hAX hf hL hF
    obtain ⟨t2, a1, b1⟩ := kx E ce q u t T'.heap (locs ++ L) e1.symm (by rw [← e2]; exact X'.warmed.alike) hp hb k1 k2 k3 (by rw [e1]; exact hce) hcv hcl T' rfl X'
    exact ⟨t2, st.trans a1, b1⟩
theorem vx_calll {S SX : Type} {post : Int64 → S → Prop} {px : SX → Prop} {B : S → State → Prop} {BX : String → SX → State → Prop} {AX : Nat → Prop} (hr : vx_Run p l e R s m args below meth c H locs cells slots mc ms (F0 m pc ls st0) rest (va_Ql post B A1 a) (vx_X px BX AX) free) (hS : va_S A0 H0 H locs) (hA : ∀ q, q < H.size → A1 q → A0 q) (hf : ∀ q, free q → A0 q) (hAX : ∀ q, q < H.size → AX q → A0 q)
    (kx : ∀ (E : String) (ce : Cell) (q9 : Addr) (u : SX) (t : State) (H1 : Heap) (locs1 : List Loc), t.heap = H1 → s.vm.Alike t.vm → px u → BX E u t → H.size ≤ H1.size → (∀ q : Nat, q < H.size → ¬ AX q → H1[q]? = H[q]?) → va_S A0 H0 H1 locs1 → H1[q9]? = some ce → ce.vm = .none → s.vm.findClass E = some ce.cls → vx_W p l e R s m args below meth c H1 locs1 (cells + mc) (slots + ms) Q (F0 m pc ls rest) q9)
    (kk : ∀ (r : Int64) (u : S) (t : State) (H1 : Heap) (locs1 : List Loc), t.heap = H1 → s.vm.Alike t.vm → post r u → B u t → H.size ≤ H1.size → (∀ q : Nat, q < H.size → ¬ A1 q → H1[q]? = H[q]?) → va_S A0 H0 H1 locs1 → W p l e R s m args below meth c H1 locs1 (cells + mc) (slots + ms) Q (F0 m (pc + 3) ls (.long r :: rest))) : W p l e R s m args below meth c H locs cells slots Q (F0 m pc ls st0) := by
  intro T hT X
  rcases hr T hT X with ⟨v, st₀, t, T', L, h0, X', hL, e1, e2, ⟨⟨r, u, hv, hp, hb⟩, hF⟩, st⟩ | ⟨q, st₀, t, T', L, E, ce, h0, X', hL, e1, e2, ⟨u, hp, hb, hF⟩, hce, hcv, hcl, st⟩
  · cases hv
    obtain ⟨k1, k2, k3⟩ := vx_keep h0 e1 hS hA hf hL hF
    obtain ⟨t2, a1, b1⟩ := kk r u t T'.heap (locs ++ L) e1.symm (by rw [← e2]; exact X'.warmed.alike) hp hb k1 k2 k3 T' rfl X'
    exact ⟨t2, st t2 a1, b1⟩
  · obtain ⟨k1, k2, k3⟩ := vx_keep h0 e1 hS hAX hf hL hF
    obtain ⟨t2, a1, b1⟩ := kx E ce q u t T'.heap (locs ++ L) e1.symm (by rw [← e2]; exact X'.warmed.alike) hp hb k1 k2 k3 (by rw [e1]; exact hce) hcv hcl T' rfl X'
    exact ⟨t2, st.trans a1, b1⟩
theorem vx_callf {S SX : Type} {post : UInt32 → S → Prop} {px : SX → Prop} {B : S → State → Prop} {BX : String → SX → State → Prop} {AX : Nat → Prop} (hr : vx_Run p l e R s m args below meth c H locs cells slots mc ms (F0 m pc ls st0) rest (va_Qf post B A1 a) (vx_X px BX AX) free) (hS : va_S A0 H0 H locs) (hA : ∀ q, q < H.size → A1 q → A0 q) (hf : ∀ q, free q → A0 q) (hAX : ∀ q, q < H.size → AX q → A0 q)
    (kx : ∀ (E : String) (ce : Cell) (q9 : Addr) (u : SX) (t : State) (H1 : Heap) (locs1 : List Loc), t.heap = H1 → s.vm.Alike t.vm → px u → BX E u t → H.size ≤ H1.size → (∀ q : Nat, q < H.size → ¬ AX q → H1[q]? = H[q]?) → va_S A0 H0 H1 locs1 → H1[q9]? = some ce → ce.vm = .none → s.vm.findClass E = some ce.cls → vx_W p l e R s m args below meth c H1 locs1 (cells + mc) (slots + ms) Q (F0 m pc ls rest) q9)
    (kk : ∀ (r : UInt32) (u : S) (t : State) (H1 : Heap) (locs1 : List Loc), t.heap = H1 → s.vm.Alike t.vm → post r u → B u t → H.size ≤ H1.size → (∀ q : Nat, q < H.size → ¬ A1 q → H1[q]? = H[q]?) → va_S A0 H0 H1 locs1 → W p l e R s m args below meth c H1 locs1 (cells + mc) (slots + ms) Q (F0 m (pc + 3) ls (.float r :: rest))) : W p l e R s m args below meth c H locs cells slots Q (F0 m pc ls st0) := by
  intro T hT X
  rcases hr T hT X with ⟨v, st₀, t, T', L, h0, X', hL, e1, e2, ⟨⟨r, u, hv, hp, hb⟩, hF⟩, st⟩ | ⟨q, st₀, t, T', L, E, ce, h0, X', hL, e1, e2, ⟨u, hp, hb, hF⟩, hce, hcv, hcl, st⟩
  · cases hv
    obtain ⟨k1, k2, k3⟩ := vx_keep h0 e1 hS hA hf hL hF
    obtain ⟨t2, a1, b1⟩ := kk r u t T'.heap (locs ++ L) e1.symm (by rw [← e2]; exact X'.warmed.alike) hp hb k1 k2 k3 T' rfl X'
    exact ⟨t2, st t2 a1, b1⟩
  · obtain ⟨k1, k2, k3⟩ := vx_keep h0 e1 hS hAX hf hL hF
    obtain ⟨t2, a1, b1⟩ := kx E ce q u t T'.heap (locs ++ L) e1.symm (by rw [← e2]; exact X'.warmed.alike) hp hb k1 k2 k3 (by rw [e1]; exact hce) hcv hcl T' rfl X'
    exact ⟨t2, st.trans a1, b1⟩
theorem vx_calld {S SX : Type} {post : UInt64 → S → Prop} {px : SX → Prop} {B : S → State → Prop} {BX : String → SX → State → Prop} {AX : Nat → Prop} (hr : vx_Run p l e R s m args below meth c H locs cells slots mc ms (F0 m pc ls st0) rest (va_Qd post B A1 a) (vx_X px BX AX) free) (hS : va_S A0 H0 H locs) (hA : ∀ q, q < H.size → A1 q → A0 q) (hf : ∀ q, free q → A0 q) (hAX : ∀ q, q < H.size → AX q → A0 q)
    (kx : ∀ (E : String) (ce : Cell) (q9 : Addr) (u : SX) (t : State) (H1 : Heap) (locs1 : List Loc), t.heap = H1 → s.vm.Alike t.vm → px u → BX E u t → H.size ≤ H1.size → (∀ q : Nat, q < H.size → ¬ AX q → H1[q]? = H[q]?) → va_S A0 H0 H1 locs1 → H1[q9]? = some ce → ce.vm = .none → s.vm.findClass E = some ce.cls → vx_W p l e R s m args below meth c H1 locs1 (cells + mc) (slots + ms) Q (F0 m pc ls rest) q9)
    (kk : ∀ (r : UInt64) (u : S) (t : State) (H1 : Heap) (locs1 : List Loc), t.heap = H1 → s.vm.Alike t.vm → post r u → B u t → H.size ≤ H1.size → (∀ q : Nat, q < H.size → ¬ A1 q → H1[q]? = H[q]?) → va_S A0 H0 H1 locs1 → W p l e R s m args below meth c H1 locs1 (cells + mc) (slots + ms) Q (F0 m (pc + 3) ls (.double r :: rest))) : W p l e R s m args below meth c H locs cells slots Q (F0 m pc ls st0) := by
  intro T hT X
  rcases hr T hT X with ⟨v, st₀, t, T', L, h0, X', hL, e1, e2, ⟨⟨r, u, hv, hp, hb⟩, hF⟩, st⟩ | ⟨q, st₀, t, T', L, E, ce, h0, X', hL, e1, e2, ⟨u, hp, hb, hF⟩, hce, hcv, hcl, st⟩
  · cases hv
    obtain ⟨k1, k2, k3⟩ := vx_keep h0 e1 hS hA hf hL hF
    obtain ⟨t2, a1, b1⟩ := kk r u t T'.heap (locs ++ L) e1.symm (by rw [← e2]; exact X'.warmed.alike) hp hb k1 k2 k3 T' rfl X'
    exact ⟨t2, st t2 a1, b1⟩
  · obtain ⟨k1, k2, k3⟩ := vx_keep h0 e1 hS hAX hf hL hF
    obtain ⟨t2, a1, b1⟩ := kx E ce q u t T'.heap (locs ++ L) e1.symm (by rw [← e2]; exact X'.warmed.alike) hp hb k1 k2 k3 (by rw [e1]; exact hce) hcv hcl T' rfl X'
    exact ⟨t2, st.trans a1, b1⟩
theorem vx_callv {S SX : Type} {post : S → Prop} {px : SX → Prop} {B : S → State → Prop} {BX : String → SX → State → Prop} {AX : Nat → Prop} (hr : vx_Run p l e R s m args below meth c H locs cells slots mc ms (F0 m pc ls st0) rest (va_Qv post B A1 a) (vx_X px BX AX) free) (hS : va_S A0 H0 H locs) (hA : ∀ q, q < H.size → A1 q → A0 q) (hf : ∀ q, free q → A0 q) (hAX : ∀ q, q < H.size → AX q → A0 q)
    (kx : ∀ (E : String) (ce : Cell) (q9 : Addr) (u : SX) (t : State) (H1 : Heap) (locs1 : List Loc), t.heap = H1 → s.vm.Alike t.vm → px u → BX E u t → H.size ≤ H1.size → (∀ q : Nat, q < H.size → ¬ AX q → H1[q]? = H[q]?) → va_S A0 H0 H1 locs1 → H1[q9]? = some ce → ce.vm = .none → s.vm.findClass E = some ce.cls → vx_W p l e R s m args below meth c H1 locs1 (cells + mc) (slots + ms) Q (F0 m pc ls rest) q9)
    (kk : ∀ (u : S) (t : State) (H1 : Heap) (locs1 : List Loc), t.heap = H1 → s.vm.Alike t.vm → post u → B u t → H.size ≤ H1.size → (∀ q : Nat, q < H.size → ¬ A1 q → H1[q]? = H[q]?) → va_S A0 H0 H1 locs1 → W p l e R s m args below meth c H1 locs1 (cells + mc) (slots + ms) Q (F0 m (pc + 3) ls (rest))) : W p l e R s m args below meth c H locs cells slots Q (F0 m pc ls st0) := by
  intro T hT X
  rcases hr T hT X with ⟨v, st₀, t, T', L, h0, X', hL, e1, e2, ⟨⟨u, hv, hp, hb⟩, hF⟩, st⟩ | ⟨q, st₀, t, T', L, E, ce, h0, X', hL, e1, e2, ⟨u, hp, hb, hF⟩, hce, hcv, hcl, st⟩
  · cases hv
    obtain ⟨k1, k2, k3⟩ := vx_keep h0 e1 hS hA hf hL hF
    obtain ⟨t2, a1, b1⟩ := kk u t T'.heap (locs ++ L) e1.symm (by rw [← e2]; exact X'.warmed.alike) hp hb k1 k2 k3 T' rfl X'
    exact ⟨t2, st t2 a1, b1⟩
  · obtain ⟨k1, k2, k3⟩ := vx_keep h0 e1 hS hAX hf hL hF
    obtain ⟨t2, a1, b1⟩ := kx E ce q u t T'.heap (locs ++ L) e1.symm (by rw [← e2]; exact X'.warmed.alike) hp hb k1 k2 k3 (by rw [e1]; exact hce) hcv hcl T' rfl X'
    exact ⟨t2, st.trans a1, b1⟩
/-- caught by the row x of this method's table; the rows ahead don't take it -/
theorem vx_catch {own name : String} {E : String} {ce : Cell} {q : Addr} (hown : s.vm.findClass own = some m.cls) (pre : List ExceptionTableEntry) (x : ExceptionTableEntry) (suf : List ExceptionTableEntry) (hsplit : c.exceptionTable.toList = pre ++ x :: suf)
    (hpass : ∀ z ∈ pre, covers z pc = false ∨ (z.catchType ≠ 0 ∧ ∃ nm : String, (Cond.classLink own z.catchType nm).before args s = true ∧ va_Nc E nm s)) (hx : covers x pc = true) (h0 : x.catchType ≠ 0)
    (hlink : (Cond.classLink own x.catchType name).before args s = true) (hcast : (Cond.castable E name).before args s = true) (hcell : H[q]? = some ce) (hv : ce.vm = .none) (hcl : s.vm.findClass E = some ce.cls)
    (kk : W p l e R s m args below meth c H locs cells slots Q (F0 m x.handlerPc ls [.ref q])) : vx_W p l e R s m args below meth c H locs cells slots Q (F0 m pc ls rest) q := by
  intro T hT X
  have hpl : e.platform.magicAccessors = ({} : Platform).magicAccessors := by rw [X.admits.platform]
  obtain ⟨c3, c4, hc3, hc4, hasg⟩ := Cond.castable_spec hcast
  cases Option.some.inj (hc3.symm.trans hcl)
  obtain ⟨c5, hc5, hcl5⟩ := Cond.classLink_spec hown hlink e.platform hpl
  cases Option.some.inj (hc4.symm.trans hc5)
  obtain ⟨vm', X', st⟩ := X.thenCaughtThrough q (g := F0 m pc ls rest) rfl (Steps.refl _) (by rw [hT]; exact hcell) (by rw [hv]; rfl) (by obtain ⟨k9, h9, -⟩ := Vm.findClass_spec hcl; exact ⟨k9, h9⟩) pre x suf hsplit
    (fun z hz => by
      rcases hpass z hz with h | ⟨hz0, nm, hl1, hn1⟩
      · exact Or.inl h
      · obtain ⟨c6, hc6, hcl6⟩ := Cond.classLink_spec hown hl1 e.platform hpl
        obtain ⟨a8, b8, h1, h2, h3⟩ := hn1
        cases Option.some.inj (h1.symm.trans hcl)
        cases Option.some.inj (h2.symm.trans hc6)
        exact Or.inr ⟨hz0, _, hcl6, h3⟩) hx (Or.inr ⟨h0, c4, hcl5, hasg⟩)
  obtain ⟨t, a1, b1⟩ := kk (T.setVm vm') hT X'
  exact ⟨t, st.trans a1, b1⟩
end Rows
section Ends
variable {p : Program} {l : Launch} {e : Env} {R : Room} {s : State} {m : MethodId} {args : Array Value} {below : List Frame} {meth : Method} {c : Code} {H : Heap} {locs : List Loc} {cells slots : Nat} {Q : State → Prop}
variable {mc ms : Nat} {free : Addr → Prop} {A0 A1 : Nat → Prop} {H0 : Heap} {a : Array Value} {ls : Array Slot} {st0 rest : List Value}
variable {Qc : Array Value → State → Outcome → State → Prop} {XC : String → State → State → Prop}
/-- what a body that may throw owes at its end -/
def vx_MQ (below : List Frame) (Qc : Array Value → State → Outcome → State → Prop) (XC : String → State → State → Prop) (a : Array Value) (s : State) (mc ms : Nat) (free : Addr → Prop) : State → Prop := fun t =>
  ∃ o, t.status = .running ∧ Ended t below o ∧ vx_Q Qc XC mc ms free a s o t
theorem vx_ret {g : JFrame} {mc ms : Nat} (k : W p l e R s m args below meth c H locs cells slots (MQ below Qc args s mc ms free) g) : W p l e R s m args below meth c H locs cells slots (vx_MQ below Qc XC args s mc ms free) g := by
  intro T hT X
  obtain ⟨t, a1, o, b1, b2, b3, b4⟩ := k T hT X
  exact ⟨t, a1, o, b1, b2, Or.inl ⟨b3, b4⟩⟩
/-- not caught here: it goes on to the caller -/
theorem vx_widen {g : JFrame} {q : Addr} {k n : Nat} (h1 : cells ≤ k) (h2 : slots ≤ n) (kk : vx_W p l e R s m args below meth c H locs k n Q g q) : vx_W p l e R s m args below meth c H locs cells slots Q g q := fun T hT X => kk T hT (stand_widen X h1 h2)
theorem vx_out {pc : Nat} {E : String} {ce : Cell} {q : Addr} {mc ms : Nat} (hout : ∀ x ∈ c.exceptionTable.toList, covers x pc = false) (hlocks : meth.locks = false) (hcell : H[q]? = some ce) (hv : ce.vm = .none) (hcl : s.vm.findClass E = some ce.cls)
    (hx : ∀ t : State, t.heap = H → s.vm.Alike t.vm → XC E s t) (hf : ∀ z ∈ locs, free z.base) (hc : cells ≤ mc) (hs : slots ≤ ms) :
    vx_W p l e R s m args below meth c H locs cells slots (vx_MQ below Qc XC args s mc ms free) (F0 m pc ls rest) q := by
  intro T hT X
  obtain ⟨st1, hrun, hend, hW, hsm⟩ := X.leaveThrown q (g := F0 m pc ls rest) rfl rfl rfl hout hlocks
  have hcell9 : (T.setFrames (.throwing q :: below)).heap[q]? = some ce := by
    show T.heap[q]? = some ce
    rw [hT]; exact hcell
  exact ⟨_, st1, .threw q, hrun, hend, Or.inr ⟨q, rfl, E, ce, locs, hx _ hT hW.alike, hcell9, hv, hcl, hW, hsm.mono hc hs, hf⟩⟩
theorem vx_frame {U : State} {k n : Nat} (h : s.sameButNew ({ U with vm := s.vm } : State) locs k n) : s.heap.size ≤ U.heap.size ∧ ∀ q : Nat, q < s.heap.size → (∀ z ∈ locs, z.base ≠ q) → U.heap[q]? = s.heap[q]? := by
  obtain ⟨-, h2, -, -, -, h6⟩ := h
  refine ⟨h2, fun q hq hz => ?_⟩
  obtain ⟨c9, e1, e2, e3, e4⟩ := h6 q _ (Array.getElem?_eq_getElem hq)
  have hs : c9.slots = (s.heap[q]).slots := Array.ext_getElem? fun i => e4 i fun hm => hz _ hm rfl
  have h9 : c9 = s.heap[q] := by
    rw [hs] at e2
    exact e2
  have e5 : U.heap[q]? = some c9 := e1
  rw [e5, h9, Array.getElem?_eq_getElem hq]
/-- the words of a throw but the four that speak of the heap -/
def vx_no (w : Cond) : Bool := decide (w ≠ .isRef (.static Bundle.tN "UNASSIGNED_STACK" Bundle.steD)) && decide (w ≠ .isRef (.static Bundle.tN "SUPPRESSED_SENTINEL" Bundle.listD)) && decide (w ≠ .laysStatic Bundle.tN "UNASSIGNED_STACK" Bundle.steD) && decide (w ≠ .laysStatic Bundle.tN "SUPPRESSED_SENTINEL" Bundle.listD)
def vx_at0 (own : String) (ic : Nat) (X : String) (names : List String) : List Cond := (Bundle.ownAtoms0 own ic X names).filter vx_no
def vx_atS (own : String) (ic : Nat) (X : String) (names : List String) : List Cond := (Bundle.ownAtoms own ic X names).filter vx_no
/-- a word that the tables alone decide, or a good one -/
def vx_ot (w : Cond) : Bool := w.onTables || goodWord w
theorem vx_ot_at {args a' : Array Value} {s U : State} {w : Cond} (hW : s.WarmedH U.vm) (hvm : s.vm = U.vm) (hg : vx_ot w = true) (h : w.before args s = true) : w.before a' U = true := by
  simp only [vx_ot, Bool.or_eq_true] at hg
  rcases hg with hg | hg
  · exact va_tabs hg hvm h
  · exact word_at hW (good_of_word hg) h
/-- a list's words: the good ones out of the method's own list, the others by premises of their own -/
theorem vx_hat {args : Array Value} {s : State} {L B : List Cond} (h1 : ∀ w ∈ L.filter goodWord, w.before args s = true) (h2 : ∀ w ∈ L.filter (fun w => !goodWord w), w ∈ B) (h3 : ∀ w ∈ B, w.before args s = true) : ∀ w ∈ L, w.before args s = true := by
  intro w hw
  by_cases g : goodWord w = true
  · exact h1 w (List.mem_filter.mpr ⟨hw, g⟩)
  · refine h3 w (h2 w (List.mem_filter.mpr ⟨hw, ?_⟩))
    show (!goodWord w) = true
    cases hgw : goodWord w
    · rfl
    · exact absurd hgw g
theorem vx_c {args : Array Value} {s : State} {w : Cond} {B : List Cond} (h : w.before args s = true) (t : ∀ w ∈ B, w.before args s = true) : ∀ w' ∈ w :: B, w'.before args s = true := fun w' h' => (List.mem_cons.mp h').elim (fun e => by rw [e]; exact h) (t w')
theorem vx_n {args : Array Value} {s : State} : ∀ w ∈ ([] : List Cond), w.before args s = true := fun _ h => nomatch h
theorem vx_own {args : Array Value} {s : State} {L : List Cond} (h1 : ∀ w ∈ L.filter vx_no, w.before args s = true)
    (hU : (Cond.isRef (.static Bundle.tN "UNASSIGNED_STACK" Bundle.steD)).before args s = true) (hN : (Cond.isRef (.static Bundle.tN "SUPPRESSED_SENTINEL" Bundle.listD)).before args s = true)
    (lU : (Cond.laysStatic Bundle.tN "UNASSIGNED_STACK" Bundle.steD).before args s = true) (lN : (Cond.laysStatic Bundle.tN "SUPPRESSED_SENTINEL" Bundle.listD).before args s = true) : ∀ w ∈ L, w.before args s = true := by
  intro w hw
  by_cases e1 : w = .isRef (.static Bundle.tN "UNASSIGNED_STACK" Bundle.steD)
  · rw [e1]; exact hU
  · by_cases e2 : w = .isRef (.static Bundle.tN "SUPPRESSED_SENTINEL" Bundle.listD)
    · rw [e2]; exact hN
    · by_cases e3 : w = .laysStatic Bundle.tN "UNASSIGNED_STACK" Bundle.steD
      · rw [e3]; exact lU
      · by_cases e4 : w = .laysStatic Bundle.tN "SUPPRESSED_SENTINEL" Bundle.listD
        · rw [e4]; exact lN
        · exact h1 w (List.mem_filter.mpr ⟨hw, by unfold vx_no; rw [decide_eq_true e1, decide_eq_true e2, decide_eq_true e3, decide_eq_true e4]; rfl⟩)
/-- where a static field lies, its class's statics cell in H -/
def vx_L (C n d : String) (A : Nat → Prop) (U : State) (H : Heap) : Prop := ∃ (c : ClassId) (k : Class) (i : Nat) (f : Field) (a : Nat) (cell : Cell), U.vm.findClass C = some c ∧ U.fieldFound? C n d = some (c, k, i, f) ∧ f.isStatic = true ∧ k.statics = some a ∧ H[a]? = some cell ∧ cell.vm.isStatics = true ∧ cell.cls = c ∧ f.slot < cell.slots.size ∧ k.staticTypes[f.slot]? = some f.type ∧ ¬ A a
theorem vx_L.moved {C n d : String} {A : Nat → Prop} {u U : State} {H : Heap} (hvm : u.vm.Alike U.vm) (h : vx_L C n d A u H) : vx_L C n d A U H := by
  obtain ⟨c, k, i, f, a, cell, h1, h2, h3, h4, h5, h6, h7, h8, h9, h10⟩ := h
  obtain ⟨k', hi', he⟩ := State.fieldFound?_setVm hvm h2
  exact ⟨c, k', i, f, a, cell, by rw [hvm.findClass]; exact h1, hi', h3, by rw [he]; exact h4, h5, h6, h7, h8, by rw [he]; exact h9, h10⟩
theorem vx_L.kept {C n d : String} {A : Nat → Prop} {U : State} {H H1 : Heap} (h : vx_L C n d A U H) (hq : ∀ a : Nat, a < H.size → ¬ A a → H1[a]? = H[a]?) : vx_L C n d A U H1 := by
  obtain ⟨c, k, i, f, a, cell, h1, h2, h3, h4, h5, h6, h7, h8, h9, h10⟩ := h
  exact ⟨c, k, i, f, a, cell, h1, h2, h3, h4, by rw [hq a (Array.getElem?_eq_some_iff.mp h5).1 h10]; exact h5, h6, h7, h8, h9, h10⟩
theorem vx_L.narrow {C n d : String} {A B : Nat → Prop} {U : State} {H : Heap} (h : vx_L C n d A U H) (hAB : ∀ q, B q → A q) : vx_L C n d B U H := by
  obtain ⟨c, k, i, f, a, cell, h1, h2, h3, h4, h5, h6, h7, h8, h9, h10⟩ := h
  exact ⟨c, k, i, f, a, cell, h1, h2, h3, h4, h5, h6, h7, h8, h9, fun z => h10 (hAB _ z)⟩
theorem vx_L.word {C n d : String} {A : Nat → Prop} {s : State} {args : Array Value} (h : vx_L C n d A s s.heap) : (Cond.laysStatic C n d).before args s = true := by
  obtain ⟨c, k, i, f, a, cell, h1, h2, h3, h4, h5, h6, h7, h8, h9, -⟩ := h
  show (Cond.laysStatic C n d).holds args s none s [] = true
  exact Cond.laysStatic_of h1 h2 h3 h4 h5 h6 h7 h8 h9
/-- .. and what it holds: null or some reference -/
def vx_Zq (C n d : String) (A : Nat → Prop) (U : State) (H : Heap) : Prop := va_Zq C n d A U H ∧ vx_L C n d A U H
theorem vx_Zq.moved {C n d : String} {A : Nat → Prop} {u U : State} {H : Heap} (hvm : u.vm.Alike U.vm) (h : vx_Zq C n d A u H) : vx_Zq C n d A U H := ⟨va_Zq.moved hvm h.1, vx_L.moved hvm h.2⟩
theorem vx_Zq.kept {C n d : String} {A : Nat → Prop} {U : State} {H H1 : Heap} (h : vx_Zq C n d A U H) (hq : ∀ a : Nat, a < H.size → ¬ A a → H1[a]? = H[a]?) : vx_Zq C n d A U H1 := ⟨va_Zq.kept h.1 hq, vx_L.kept h.2 hq⟩
theorem vx_Zq.narrow {C n d : String} {A B : Nat → Prop} {U : State} {H : Heap} (h : vx_Zq C n d A U H) (hAB : ∀ q, B q → A q) : vx_Zq C n d B U H := ⟨va_Zq.narrow h.1 hAB, vx_L.narrow h.2 hAB⟩
theorem vx_Zqof {args : Array Value} {s : State} {C n d : String} {A : Nat → Prop} (hl : (Cond.laysStatic C n d).before args s = true) (hini : (Cond.initialized C).before args s = true) (h : (Cond.isRef (.static C n d)).before args s = true) (hA : ∀ a : Nat, a < s.heap.size → ¬ A a) : vx_Zq C n d A s s.heap := by
  refine ⟨va_Zqof hl hini h hA, ?_⟩
  obtain ⟨c, k, i, f, a, cell, h1, h2, h3, h4, h5, h6, h7, h8, h9⟩ := Cond.laysStatic_spec hl
  exact ⟨c, k, i, f, a, cell, h1, h2, h3, h4, h5, h6, h7, h8, h9, hA a (Array.getElem?_eq_some_iff.mp h5).1⟩
theorem vx_isRef {C n d : String} {v : Value} {A : Nat → Prop} {s : State} {args : Array Value} (h : va_Z C n d v A s s.heap) (hv : v.isRef = true) : (Cond.isRef (.static C n d)).before args s = true := by
  obtain ⟨cf, kf, fi, f, a, cell, h1, h2, h3, h4, h5, h6, h7, -⟩ := h
  have he : (Term.static C n d).eval args s none [] s = some v := by
    simp [Term.eval, State.fieldNamed?, h1, h2, h4, h5, h6, h7]
  simp only [Cond.before, Cond.holds, Cond.value, he]
  cases v <;> simp_all [Value.isRef]
theorem vx_isRefq {C n d : String} {A : Nat → Prop} {s : State} {args : Array Value} (h : va_Zq C n d A s s.heap) : (Cond.isRef (.static C n d)).before args s = true := by
  rcases h with h | ⟨t, h⟩
  · exact vx_isRef h rfl
  · exact vx_isRef h rfl
/-- the same frame, seen from here: as if the method were called anew in this heap -/
theorem vx_rebase {T : State} (X : Stand p l e R s m args below meth c T locs cells slots) {R' : Room} (hf : R'.frames ≤ R.frames) (hl : R'.locals ≤ R.locals) (hc : cells + R'.cells ≤ R.cells) (hs : slots + R'.slots ≤ R.slots) :
    Stand p l e R' ((T.setVm s.vm).setFrames (.invoking m args :: below)) m args below meth c T [] 0 0 := by
  have htop : (T.setVm s.vm).topJava?.isSome := X.here.top
  have hF : ((T.setVm s.vm).setFrames (.invoking m args :: below)).frames = .invoking m args :: below := State.frames_setFrames _ (State.cur_lt_of_top htop)
  obtain ⟨g₀, hg0⟩ := Option.isSome_iff_exists.mp htop
  obtain ⟨r, hr⟩ := State.topJava?_eq_some.mp hg0
  have hl9 : e.platform.stackLimits (T.setVm s.vm).me = e.platform.stackLimits s.me := X.limits
  have hb9 : (T.setVm s.vm).me.stackBytes = s.me.stackBytes := X.bytes
  refine ⟨X.admits, X.cas, X.clock, hF, ?_, X.hears, X.method, X.code, X.here, X.tail, X.warmed, ?_, ?_, ?_⟩
  · have h := X.room
    have hU : ((T.setVm s.vm).setFrames (.invoking m args :: below)).localsInUse = s.localsInUse := by
      rw [State.localsInUse_invoking hF (meth := meth) (c := c) X.method X.code, State.localsInUse_invoking X.frames X.method X.code]
    simp only [State.hasRoom, Bool.and_eq_true, decide_eq_true_eq] at h ⊢
    obtain ⟨⟨⟨⟨h1, h2, h3, h4, h5, h6⟩, h7⟩, h8⟩, h9⟩ := h
    rw [X.frames, List.length_cons] at h2 h3
    have q1 := X.heapSize
    have q2 := X.used
    simp only [hF, hU, List.length_cons, State.stackLimits_setFrames, State.stackBytes_setFrames, hl9, hb9]
    refine ⟨⟨⟨⟨by omega, by omega, by omega, by omega, by omega, h6⟩, ?_⟩, ?_⟩, X.book⟩
    · show T.heap.size + R'.cells ≤ e.platform.maxCells
      omega
    · show T.slotsUsed + R'.slots ≤ e.platform.maxSlots
      omega
  · rw [State.stackLimits_setFrames]; rfl
  · rw [State.stackBytes_setFrames]; rfl
  · refine ⟨?_, Nat.le_refl _, Nat.le_refl _, ?_, ?_, fun a c9 h9 => ⟨c9, h9, rfl, rfl, fun _ _ => rfl⟩⟩
    · obtain ⟨t, ht, -⟩ := State.frames_cons hr
      show T.setVm s.vm = { ((T.setVm s.vm).setFrames (.invoking m args :: below)).setFrames (T.setVm s.vm).frames with heap := T.heap, slotsUsed := T.slotsUsed }
      rw [State.setFrames_setFrames, State.setFrames_self ht]
      rfl
    · show T.slotsUsed = T.slotsUsed + ((T.heap.toList.drop T.heap.size).map (·.slots.size)).sum
      rw [List.drop_eq_nil_of_le (Nat.le_of_eq Array.length_toList)]
      rfl
    · show ((T.heap.toList.drop T.heap.size).map (·.slots.size)).sum ≤ 0
      rw [List.drop_eq_nil_of_le (Nat.le_of_eq Array.length_toList)]
      exact Nat.le_refl _
/-- 'throw new E()': new; dup; invokespecial; athrow -/
theorem vx_throw0 {cc : ByteArray} {pc : Nat} (hexec : p.tables.exec = Jvm.exec) (hb : c.code = cc) (hl : l.stackTraces = false) {own cls : String} {names : List String} {ik ic mc ms : Nat} {A : Nat → Prop}
    (hown : s.vm.findClass own = some m.cls) (hcls : Bundle.fit cls = true) (hnames : ∀ n ∈ names, Bundle.fit n = true)
    (hk : (Cond.classLink own ik cls).before args s = true) (hini : (Cond.initialized cls).before args s = true) (hat : ∀ w ∈ vx_at0 own ic cls names, w.before args s = true)
    (hgood : ∀ w ∈ Cond.classLink own ik cls :: Cond.initialized cls :: vx_at0 own ic cls names, vx_ot w = true)
    (hU : vx_Zq Bundle.tN "UNASSIGNED_STACK" Bundle.steD A s s.heap) (hN : vx_Zq Bundle.tN "SUPPRESSED_SENTINEL" Bundle.listD A s s.heap) (hS : va_S A s.heap H locs) (hsize : ls.size = c.maxLocals)
    (d0 : decode cc pc = .ok (.new ik, 3)) (d3 : decode cc (pc + 3) = .ok (.dup, 1)) (d4 : decode cc (pc + 4) = .ok (.invokespecial ic, 3)) (d7 : decode cc (pc + 7) = .ok (.athrow, 1))
    (hout : ∀ x ∈ c.exceptionTable.toList, covers x (pc + 7) = false)
    (hRframes : names.length + 3 < R.frames) (hRlocals : (rest.map fun v => v.category).sum + (13 * (names.length + 1) + 42) ≤ R.locals) (hRcells : cells + 1 ≤ R.cells) (hRslots : slots + 6 ≤ R.slots) (hlocks : meth.locks = false)
    (hx : ∀ t : State, s.vm.Alike t.vm → H.size ≤ t.heap.size → (∀ q : Nat, q < H.size → t.heap[q]? = H[q]?) → XC cls s t)
    (hf : ∀ z ∈ locs, free z.base) (hc : cells + 1 ≤ mc) (hs : slots + 6 ≤ ms) :
    W p l e R s m args below meth c H locs cells slots (vx_MQ below Qc XC args s mc ms free) (F0 m pc ls rest) := by
  intro T hT X
  have htr : e.platform.stackTraces = false := (show e.platform.stackTraces = l.stackTraces by rw [X.admits.platform]).trans hl
  have Y := vx_rebase X (R' := { frames := R.frames, locals := R.locals, cells := 1, slots := 6 }) (Nat.le_refl _) (Nat.le_refl _) hRcells hRslots
  obtain ⟨s', hA⟩ : ∃ z, z = (T.setVm s.vm).setFrames (.invoking m args :: below) := ⟨_, rfl⟩
  rw [← hA] at Y
  have hvm : s'.vm = s.vm := by rw [hA]; rfl
  have hhp : s'.heap = H := by rw [hA]; exact hT
  have hW0 : s.WarmedH s'.vm := by rw [hvm]; exact State.WarmedH.refl s
  have hat' : ∀ w ∈ vx_at0 own ic cls names, w.before args s' = true := fun w hw => vx_ot_at hW0 hvm.symm (hgood w (List.mem_cons_of_mem _ (List.mem_cons_of_mem _ hw))) (hat w hw)
  have hk' : (Cond.classLink own ik cls).before args s' = true := vx_ot_at hW0 hvm.symm (hgood _ List.mem_cons_self) hk
  have hini' : (Cond.initialized cls).before args s' = true := vx_ot_at hW0 hvm.symm (hgood _ (List.mem_cons_of_mem _ List.mem_cons_self)) hini
  have hU' : vx_Zq Bundle.tN "UNASSIGNED_STACK" Bundle.steD A s' s'.heap := by rw [hhp]; exact vx_Zq.moved hW0.alike (hU.kept hS.2.1)
  have hN' : vx_Zq Bundle.tN "SUPPRESSED_SENTINEL" Bundle.listD A s' s'.heap := by rw [hhp]; exact vx_Zq.moved hW0.alike (hN.kept hS.2.1)
  have h : ∀ w ∈ Bundle.ownAtoms0 own ic cls names, w.before args s' = true := vx_own hat' (vx_isRefq hU'.1) (vx_isRefq hN'.1) hU'.2.word hN'.2.word
  have hown' : s'.vm.findClass own = some m.cls := by rw [hvm]; exact hown
  have hins : (Cond.instantiable cls 6).before args s' = true := h _ (by simp [Bundle.ownAtoms0])
  obtain ⟨vm₁, cX, kX, hfX, hkX, -, -, X₁, st1⟩ := Y.newCold hexec (own := own) (C := cls) (index := ik) (n := 6) hown' hk' hins hini'
    (g := F0 m pc ls rest) rfl (by rw [hb]; exact d0) (Nat.le_refl _) (Nat.le_refl _)
  generalize hT1 : (T.setVm vm₁).pushCell { cls := cX, slots := kX.instanceTypes.map defaultValue, vm := .none } = T1 at X₁ st1
  have hcat : (Value.ref T.heap.size).category = 1 := rfl
  have hcellA : T1.heap[T.heap.size]? = some (freshCell cX kX) := by rw [← hT1]; exact State.heap_pushCell_size _ _
  have d3' : decode c.code (pc + 3) = .ok (.dup, 1) := by rw [hb]; exact d3
  obtain ⟨U, hsteps, hrun, hend, hW, hsame, ce, hce, hO⟩ := X₁.ctorThrow0 hexec htr (own := own) (cls := cls) (names := names) (ic := ic) hown' hcls hnames h (fun x hx => nomatch hx) hfX hkX hcellA (by rw [hhp, hT]; exact Nat.le_refl _)
    (g := { method := m, pc := pc + 4, locals := ls, stack := .ref T.heap.size :: .ref T.heap.size :: rest, locked := none }) rfl hsize rfl rfl (rest := rest) rfl
    (by rw [hb]; exact d4) (by rw [hb]; exact d7) hout hRframes (by simp only [List.map_cons, List.sum_cons, hcat]; omega) hlocks
  obtain ⟨f1, f2⟩ := vx_frame hsame
  rw [hhp] at f1 f2
  have hWs : s.WarmedH U.vm := State.WarmedH.trans hW0 hW
  have hcl : s.vm.findClass cls = some ce.cls := by
    have h9 := hO.cls
    rw [hvm] at h9
    exact h9
  have hall : s.sameButNew ({ U with vm := s.vm } : State) locs mc ms := by
    subst hA
    obtain ⟨e1, e2⟩ := hsame
    rw [State.setFrames_setFrames] at e1
    have h2 : (T.setVm s.vm).sameButNew ({ U with vm := s.vm } : State) [] (0 + 1) (0 + 6) := ⟨e1, e2⟩
    have h3 := X.same.trans h2
    rw [List.append_nil] at h3
    exact h3.mono hc hs
  refine ⟨U, ?_, .threw T.heap.size, hrun, hend, Or.inr ⟨T.heap.size, rfl, cls, ce, locs, hx U hWs.alike f1 (fun q hq => f2 q hq (fun z hz => nomatch hz)), hce, hO.vm, hcl, hWs, hall, hf⟩⟩
  refine st1 _ ?_
  show Steps p.tables e below (T1.setTop { method := m, pc := pc + 3, locals := ls, stack := .ref T.heap.size :: rest, locked := none }) _
  jvm_step X₁.here [X₁.here.top, hexec, d3', Value.category]
  exact hsteps
/-- 'throw new E("text")': new; dup; ldc; invokespecial; athrow -/
theorem vx_throwS {cc : ByteArray} {pc : Nat} (hexec : p.tables.exec = Jvm.exec) (hb : c.code = cc) (hl : l.stackTraces = false) {own cls text : String} {names : List String} {ik is ic mc ms sa : Nat} {A : Nat → Prop}
    (hown : s.vm.findClass own = some m.cls) (hcls : Bundle.fit cls = true) (hnames : ∀ n ∈ names, Bundle.fit n = true)
    (hk : (Cond.classLink own ik cls).before args s = true) (hini : (Cond.initialized cls).before args s = true) (hstr : vk_R own is text sa s) (hat : ∀ w ∈ vx_atS own ic cls names, w.before args s = true)
    (hgood : ∀ w ∈ Cond.classLink own ik cls :: Cond.initialized cls :: vx_atS own ic cls names, vx_ot w = true)
    (hU : vx_Zq Bundle.tN "UNASSIGNED_STACK" Bundle.steD A s s.heap) (hN : vx_Zq Bundle.tN "SUPPRESSED_SENTINEL" Bundle.listD A s s.heap) (hS : va_S A s.heap H locs) (hsize : ls.size = c.maxLocals)
    (d0 : decode cc pc = .ok (.new ik, 3)) (d3 : decode cc (pc + 3) = .ok (.dup, 1)) (d4 : decode cc (pc + 4) = .ok (.ldc is, 2)) (d6 : decode cc (pc + 6) = .ok (.invokespecial ic, 3)) (d9 : decode cc (pc + 9) = .ok (.athrow, 1))
    (hout : ∀ x ∈ c.exceptionTable.toList, covers x (pc + 9) = false)
    (hRframes : names.length + 3 < R.frames) (hRlocals : (rest.map fun v => v.category).sum + (13 * (names.length + 1) + 43) ≤ R.locals) (hRcells : cells + 1 ≤ R.cells) (hRslots : slots + 6 ≤ R.slots) (hlocks : meth.locks = false)
    (hx : ∀ t : State, s.vm.Alike t.vm → H.size ≤ t.heap.size → (∀ q : Nat, q < H.size → t.heap[q]? = H[q]?) → XC cls s t)
    (hf : ∀ z ∈ locs, free z.base) (hc : cells + 1 ≤ mc) (hs : slots + 6 ≤ ms) :
    W p l e R s m args below meth c H locs cells slots (vx_MQ below Qc XC args s mc ms free) (F0 m pc ls rest) := by
  intro T hT X
  have htr : e.platform.stackTraces = false := (show e.platform.stackTraces = l.stackTraces by rw [X.admits.platform]).trans hl
  have Y := vx_rebase X (R' := { frames := R.frames, locals := R.locals, cells := 1, slots := 6 }) (Nat.le_refl _) (Nat.le_refl _) hRcells hRslots
  obtain ⟨s', hA⟩ : ∃ z, z = (T.setVm s.vm).setFrames (.invoking m args :: below) := ⟨_, rfl⟩
  rw [← hA] at Y
  have hvm : s'.vm = s.vm := by rw [hA]; rfl
  have hhp : s'.heap = H := by rw [hA]; exact hT
  have hW0 : s.WarmedH s'.vm := by rw [hvm]; exact State.WarmedH.refl s
  have hat' : ∀ w ∈ vx_atS own ic cls names, w.before args s' = true := fun w hw => vx_ot_at hW0 hvm.symm (hgood w (List.mem_cons_of_mem _ (List.mem_cons_of_mem _ hw))) (hat w hw)
  have hk' : (Cond.classLink own ik cls).before args s' = true := vx_ot_at hW0 hvm.symm (hgood _ List.mem_cons_self) hk
  have hini' : (Cond.initialized cls).before args s' = true := vx_ot_at hW0 hvm.symm (hgood _ (List.mem_cons_of_mem _ List.mem_cons_self)) hini
  have hU' : vx_Zq Bundle.tN "UNASSIGNED_STACK" Bundle.steD A s' s'.heap := by rw [hhp]; exact vx_Zq.moved hW0.alike (hU.kept hS.2.1)
  have hN' : vx_Zq Bundle.tN "SUPPRESSED_SENTINEL" Bundle.listD A s' s'.heap := by rw [hhp]; exact vx_Zq.moved hW0.alike (hN.kept hS.2.1)
  have h : ∀ w ∈ Bundle.ownAtoms own ic cls names, w.before args s' = true := vx_own hat' (vx_isRefq hU'.1) (vx_isRefq hN'.1) hU'.2.word hN'.2.word
  have hown' : s'.vm.findClass own = some m.cls := by rw [hvm]; exact hown
  have hins : (Cond.instantiable cls 6).before args s' = true := h _ (by simp [Bundle.ownAtoms])
  obtain ⟨vm₁, cX, kX, hfX, hkX, -, -, X₁, st1⟩ := Y.newCold hexec (own := own) (C := cls) (index := ik) (n := 6) hown' hk' hins hini'
    (g := F0 m pc ls rest) rfl (by rw [hb]; exact d0) (Nat.le_refl _) (Nat.le_refl _)
  generalize hT1 : (T.setVm vm₁).pushCell { cls := cX, slots := kX.instanceTypes.map defaultValue, vm := .none } = T1 at X₁ st1
  have hcat : (Value.ref T.heap.size).category = 1 := rfl
  have hcellA : T1.heap[T.heap.size]? = some (freshCell cX kX) := by rw [← hT1]; exact State.heap_pushCell_size _ _
  have d3' : decode c.code (pc + 3) = .ok (.dup, 1) := by rw [hb]; exact d3
  have d4' : decode c.code (pc + 4) = .ok (.ldc is, 2) := by rw [hb]; exact d4
  have hstr' : vk_R own is text sa s' := vk_R.warm hW0 hstr
  obtain ⟨U, hsteps, hrun, hend, hW, hsame, ce, hce, hO⟩ := X₁.ctorThrowS hexec htr (own := own) (cls := cls) (names := names) (ic := ic) hown' hcls hnames h (fun x hx => nomatch hx) hfX hkX hcellA (by rw [hhp, hT]; exact Nat.le_refl _) (msg := .ref sa) rfl
    (g := { method := m, pc := pc + 6, locals := ls, stack := .ref sa :: .ref T.heap.size :: .ref T.heap.size :: rest, locked := none }) rfl hsize rfl rfl (rest := rest) rfl
    (by rw [hb]; exact d6) (by rw [hb]; exact d9) hout hRframes (by simp only [List.map_cons, List.sum_cons, hcat]; omega) hlocks
  obtain ⟨f1, f2⟩ := vx_frame hsame
  rw [hhp] at f1 f2
  have hWs : s.WarmedH U.vm := State.WarmedH.trans hW0 hW
  have hcl : s.vm.findClass cls = some ce.cls := by
    have h9 := hO.cls
    rw [hvm] at h9
    exact h9
  have hall : s.sameButNew ({ U with vm := s.vm } : State) locs mc ms := by
    subst hA
    obtain ⟨e1, e2⟩ := hsame
    rw [State.setFrames_setFrames] at e1
    have h2 : (T.setVm s.vm).sameButNew ({ U with vm := s.vm } : State) [] (0 + 1) (0 + 6) := ⟨e1, e2⟩
    have h3 := X.same.trans h2
    rw [List.append_nil] at h3
    exact h3.mono hc hs
  refine ⟨U, ?_, .threw T.heap.size, hrun, hend, Or.inr ⟨T.heap.size, rfl, cls, ce, locs, hx U hWs.alike f1 (fun q hq => f2 q hq (fun z hz => nomatch hz)), hce, hO.vm, hcl, hWs, hall, hf⟩⟩
  refine st1 _ ?_
  show Steps p.tables e below (T1.setTop { method := m, pc := pc + 3, locals := ls, stack := .ref T.heap.size :: rest, locked := none }) _
  jvm_step X₁.here [X₁.here.top, hexec, d3', Value.category]
  exact X₁.ldcString hexec (own := own) (text := text) (index := is) (a := sa) hown' hstr'.1 hstr'.2
    (g := { method := m, pc := pc + 4, locals := ls, stack := .ref T.heap.size :: .ref T.heap.size :: rest, locked := none }) rfl d4' _ hsteps
/-- 'throw new E("text")', the text by a wide index -/
theorem vx_throwSW {cc : ByteArray} {pc : Nat} (hexec : p.tables.exec = Jvm.exec) (hb : c.code = cc) (hl : l.stackTraces = false) {own cls text : String} {names : List String} {ik is ic mc ms sa : Nat} {A : Nat → Prop}
    (hown : s.vm.findClass own = some m.cls) (hcls : Bundle.fit cls = true) (hnames : ∀ n ∈ names, Bundle.fit n = true)
    (hk : (Cond.classLink own ik cls).before args s = true) (hini : (Cond.initialized cls).before args s = true) (hstr : vk_R own is text sa s) (hat : ∀ w ∈ vx_atS own ic cls names, w.before args s = true)
    (hgood : ∀ w ∈ Cond.classLink own ik cls :: Cond.initialized cls :: vx_atS own ic cls names, vx_ot w = true)
    (hU : vx_Zq Bundle.tN "UNASSIGNED_STACK" Bundle.steD A s s.heap) (hN : vx_Zq Bundle.tN "SUPPRESSED_SENTINEL" Bundle.listD A s s.heap) (hS : va_S A s.heap H locs) (hsize : ls.size = c.maxLocals)
    (d0 : decode cc pc = .ok (.new ik, 3)) (d3 : decode cc (pc + 3) = .ok (.dup, 1)) (d4 : decode cc (pc + 4) = .ok (.ldc_w is, 3)) (d7 : decode cc (pc + 7) = .ok (.invokespecial ic, 3)) (d10 : decode cc (pc + 10) = .ok (.athrow, 1))
    (hout : ∀ x ∈ c.exceptionTable.toList, covers x (pc + 10) = false)
    (hRframes : names.length + 3 < R.frames) (hRlocals : (rest.map fun v => v.category).sum + (13 * (names.length + 1) + 43) ≤ R.locals) (hRcells : cells + 1 ≤ R.cells) (hRslots : slots + 6 ≤ R.slots) (hlocks : meth.locks = false)
    (hx : ∀ t : State, s.vm.Alike t.vm → H.size ≤ t.heap.size → (∀ q : Nat, q < H.size → t.heap[q]? = H[q]?) → XC cls s t)
    (hf : ∀ z ∈ locs, free z.base) (hc : cells + 1 ≤ mc) (hs : slots + 6 ≤ ms) :
    W p l e R s m args below meth c H locs cells slots (vx_MQ below Qc XC args s mc ms free) (F0 m pc ls rest) := by
  intro T hT X
  have htr : e.platform.stackTraces = false := (show e.platform.stackTraces = l.stackTraces by rw [X.admits.platform]).trans hl
  have Y := vx_rebase X (R' := { frames := R.frames, locals := R.locals, cells := 1, slots := 6 }) (Nat.le_refl _) (Nat.le_refl _) hRcells hRslots
  obtain ⟨s', hA⟩ : ∃ z, z = (T.setVm s.vm).setFrames (.invoking m args :: below) := ⟨_, rfl⟩
  rw [← hA] at Y
  have hvm : s'.vm = s.vm := by rw [hA]; rfl
  have hhp : s'.heap = H := by rw [hA]; exact hT
  have hW0 : s.WarmedH s'.vm := by rw [hvm]; exact State.WarmedH.refl s
  have hat' : ∀ w ∈ vx_atS own ic cls names, w.before args s' = true := fun w hw => vx_ot_at hW0 hvm.symm (hgood w (List.mem_cons_of_mem _ (List.mem_cons_of_mem _ hw))) (hat w hw)
  have hk' : (Cond.classLink own ik cls).before args s' = true := vx_ot_at hW0 hvm.symm (hgood _ List.mem_cons_self) hk
  have hini' : (Cond.initialized cls).before args s' = true := vx_ot_at hW0 hvm.symm (hgood _ (List.mem_cons_of_mem _ List.mem_cons_self)) hini
  have hU' : vx_Zq Bundle.tN "UNASSIGNED_STACK" Bundle.steD A s' s'.heap := by rw [hhp]; exact vx_Zq.moved hW0.alike (hU.kept hS.2.1)
  have hN' : vx_Zq Bundle.tN "SUPPRESSED_SENTINEL" Bundle.listD A s' s'.heap := by rw [hhp]; exact vx_Zq.moved hW0.alike (hN.kept hS.2.1)
  have h : ∀ w ∈ Bundle.ownAtoms own ic cls names, w.before args s' = true := vx_own hat' (vx_isRefq hU'.1) (vx_isRefq hN'.1) hU'.2.word hN'.2.word
  have hown' : s'.vm.findClass own = some m.cls := by rw [hvm]; exact hown
  have hins : (Cond.instantiable cls 6).before args s' = true := h _ (by simp [Bundle.ownAtoms])
  obtain ⟨vm₁, cX, kX, hfX, hkX, -, -, X₁, st1⟩ := Y.newCold hexec (own := own) (C := cls) (index := ik) (n := 6) hown' hk' hins hini'
    (g := F0 m pc ls rest) rfl (by rw [hb]; exact d0) (Nat.le_refl _) (Nat.le_refl _)
  generalize hT1 : (T.setVm vm₁).pushCell { cls := cX, slots := kX.instanceTypes.map defaultValue, vm := .none } = T1 at X₁ st1
  have hcat : (Value.ref T.heap.size).category = 1 := rfl
  have hcellA : T1.heap[T.heap.size]? = some (freshCell cX kX) := by rw [← hT1]; exact State.heap_pushCell_size _ _
  have d3' : decode c.code (pc + 3) = .ok (.dup, 1) := by rw [hb]; exact d3
  have d4' : decode c.code (pc + 4) = .ok (.ldc_w is, 3) := by rw [hb]; exact d4
  have hstr' : vk_R own is text sa s' := vk_R.warm hW0 hstr
  obtain ⟨U, hsteps, hrun, hend, hW, hsame, ce, hce, hO⟩ := X₁.ctorThrowS hexec htr (own := own) (cls := cls) (names := names) (ic := ic) hown' hcls hnames h (fun x hx => nomatch hx) hfX hkX hcellA (by rw [hhp, hT]; exact Nat.le_refl _) (msg := .ref sa) rfl
    (g := { method := m, pc := pc + 7, locals := ls, stack := .ref sa :: .ref T.heap.size :: .ref T.heap.size :: rest, locked := none }) rfl hsize rfl rfl (rest := rest) rfl
    (by rw [hb]; exact d7) (by rw [hb]; exact d10) hout hRframes (by simp only [List.map_cons, List.sum_cons, hcat]; omega) hlocks
  obtain ⟨f1, f2⟩ := vx_frame hsame
  rw [hhp] at f1 f2
  have hWs : s.WarmedH U.vm := State.WarmedH.trans hW0 hW
  have hcl : s.vm.findClass cls = some ce.cls := by
    have h9 := hO.cls
    rw [hvm] at h9
    exact h9
  have hall : s.sameButNew ({ U with vm := s.vm } : State) locs mc ms := by
    subst hA
    obtain ⟨e1, e2⟩ := hsame
    rw [State.setFrames_setFrames] at e1
    have h2 : (T.setVm s.vm).sameButNew ({ U with vm := s.vm } : State) [] (0 + 1) (0 + 6) := ⟨e1, e2⟩
    have h3 := X.same.trans h2
    rw [List.append_nil] at h3
    exact h3.mono hc hs
  refine ⟨U, ?_, .threw T.heap.size, hrun, hend, Or.inr ⟨T.heap.size, rfl, cls, ce, locs, hx U hWs.alike f1 (fun q hq => f2 q hq (fun z hz => nomatch hz)), hce, hO.vm, hcl, hWs, hall, hf⟩⟩
  refine st1 _ ?_
  show Steps p.tables e below (T1.setTop { method := m, pc := pc + 3, locals := ls, stack := .ref T.heap.size :: rest, locked := none }) _
  jvm_step X₁.here [X₁.here.top, hexec, d3', Value.category]
  exact X₁.ldcStringW hexec (own := own) (text := text) (index := is) (a := sa) hown' hstr'.1 hstr'.2
    (g := { method := m, pc := pc + 4, locals := ls, stack := .ref T.heap.size :: .ref T.heap.size :: rest, locked := none }) rfl d4' _ hsteps
end Ends
section Bodies
variable {l : Launch}
theorem vx_ofW {y : MethodName} {ws ws' : List Cond} {rm : Room} {Pc : Array Value → State → Prop} {Qc : Array Value → State → Outcome → State → Prop} {XC : String → State → State → Prop} {mc ms : Nat} {free : Addr → Prop} {cc : ByteArray} {maxL : Nat} {ret : Option FieldType}
    (hy : plainName y.cls = true) (hw : ws = Cond.code y cc maxL ret :: ws')
    (body : ∀ p e s m args below meth c s₁, BodyLoose p l y (headSpec ws rm) cc maxL ret e s m args below meth c s₁ → c.maxLocals = maxL → (∀ x ∈ c.exceptionTable.toList, False) → Pc args s →
      W p l e (headSpec ws rm).room s m args below meth c s.heap [] 0 0 (vx_MQ below Qc XC args s mc ms free) (entryFrame m args maxL)) : vx_Met l y ws rm Pc Qc XC mc ms free := by
  refine MetFree.of_bodyS (code := cc) (maxLocals := maxL) (ret := ret) hy ?_ ?_
  · intro args s m h hn
    obtain ⟨meth, c, h1, h2, h3, h4, h5, h6, -, -⟩ := Cond.code_spec hn (atoms_spec (ws := ws) h _ (by rw [hw]; exact List.mem_cons_self))
    exact ⟨meth, c, h1, h2, h3, h4, h5, h6⟩
  · intro p e s m args below meth c s₁ B hml hP _
    have hh0 : s₁.heap = s.heap := by rw [B.state]; rfl
    have ht : ∀ x ∈ c.exceptionTable.toList, False := by
      obtain ⟨meth9, c9, h1, h2, -, -, -, -, h7, -⟩ := Cond.code_spec B.named (atoms_spec (ws := ws) B.pre _ (by rw [hw]; exact List.mem_cons_self))
      cases Option.some.inj (h1.symm.trans B.method)
      cases Option.some.inj (h2.symm.trans (Stand.of_body B).code)
      intro x hx
      rw [Array.isEmpty_iff.mp h7] at hx
      cases hx
    obtain ⟨t, a1, o, b1, b2, b3⟩ := body p e s m args below meth c s₁ B hml ht hP s₁ hh0 (Stand.of_body B)
    exact ⟨t, o, a1, b1, b2, b3⟩
/-- the table of a body with handlers -/
theorem vx_table {p : Program} {x y : MethodName} {S : Spec} {cc bytes : ByteArray} {maxL maxL' : Nat} {ret ret' : Option FieldType} {e : Env} {s s₁ : State} {m : MethodId} {args : Array Value} {below : List Frame} {meth : Method} {c : Code} {hh : List (Nat × Nat × Nat × Nat)}
    (B : BodyLoose p l y S cc maxL ret e s m args below meth c s₁) (h : (Cond.codeWith y bytes maxL' ret' hh).before args s = true) : c.exceptionTable.toList = tableOf hh := by
  obtain ⟨m9, meth9, c9, hn9, h1, h2, -, -, h6, -⟩ := Cond.codeWith_spec h
  cases Option.some.inj (hn9.symm.trans B.named)
  cases Option.some.inj (h1.symm.trans B.method)
  cases Option.some.inj (h2.symm.trans (Stand.of_body B).code)
  rw [← h6, table_eq]
end Bodies
end VXA
/-! ===== END ===== -/
/-! ===== BEGIN a static call of a method with an exception table ===== -/
section VXS
variable {p : Program} {l : Launch} {e : Env} {R : Room} {s : State} {m : MethodId} {args : Array Value} {below : List Frame} {meth : Method} {c : Code} {T : State} {H : Heap} {locs : List Loc} {cells slots : Nat}
abbrev vx_CSW (R : Room) (s : State) (args : Array Value) (own : String) (index : Nat) (y : MethodName) (bytes : ByteArray) (maxL : Nat) (ret : Option FieldType) (hh : List (Nat × Nat × Nat × Nat)) (ws : List Cond) (rm : Room) (mc ms n : Nat) : Prop :=
  (rm.cells = mc ∧ rm.slots = ms ∧ rm.frames + 1 ≤ R.frames ∧ 8 + (maxL + 11) + rm.locals ≤ R.locals ∧ (∀ w ∈ ws, ∀ (a' : Array Value) (U : State), s.WarmedH U.vm → w.before a' U = true) ∧ Cond.codeWith y bytes maxL ret hh ∈ ws) ∧
  (Cond.codeWith y bytes maxL ret hh).before args s = true ∧ (Cond.initialized y.cls).before args s = true ∧ (y.cls ≠ "java/lang/invoke/MethodHandle" ∧ y.cls ≠ "java/lang/invoke/VarHandle") ∧
  (∀ sig, parseMethodDescriptor y.desc = some sig → n = sig.parameters.length) ∧ (Cond.methodLink own index y).before args s = true ∧ (Cond.static y).before args s = true
theorem vx_cwSW {own : String} {index maxL mc ms : Nat} {y : MethodName} {bytes : ByteArray} {ret : Option FieldType} {hh : List (Nat × Nat × Nat × Nat)} {Ts ws ws' : List Cond} {rm : Room} (n : Nat) (ht : ∀ w ∈ Ts, w.before args s = true) (hT : GoodIn Ts (va_wsS own index y ws)) (hw : ws = Cond.codeWith y bytes maxL ret hh :: ws') (hrc : rm.cells = mc) (hrs : rm.slots = ms)
    (hd : y.cls ≠ "java/lang/invoke/MethodHandle" ∧ y.cls ≠ "java/lang/invoke/VarHandle" ∧ (parseMethodDescriptor y.desc).map (fun d => d.parameters.length) = some n) (hR : rm.frames + 1 ≤ R.frames ∧ 8 + (maxL + 11) + rm.locals ≤ R.locals) :
    vx_CSW R s args own index y bytes maxL ret hh ws rm mc ms n := by
  have ok : ∀ w ∈ va_wsS own index y ws, w.before args s = true := fun w h => ht w (hT w h).1
  have hG : GoodIn Ts ws := fun w h => hT w (by unfold va_wsS; exact List.mem_append_right _ h)
  have hc : Cond.codeWith y bytes maxL ret hh ∈ ws := by rw [hw]; exact List.mem_cons_self
  refine ⟨⟨hrc, hrs, hR.1, hR.2, pay_in ht hG, hc⟩, ht _ (hG _ hc).1, ok _ (by simp [va_wsS]), ⟨hd.1, hd.2.1⟩, fun sig h => ?_, ok _ (by simp [va_wsS]), ok _ (by simp [va_wsS])⟩
  have h2 := hd.2.2
  rw [h] at h2
  exact (Option.some.inj h2).symm
theorem vx_callSW (X : Stand p l e R s m args below meth c T locs cells slots) (hexec : p.tables.exec = Jvm.exec) {own : String} {index : Nat} {y : MethodName} {bytes : ByteArray} {maxL : Nat} {ret : Option FieldType} {hh : List (Nat × Nat × Nat × Nat)}
    (hown : s.vm.findClass own = some m.cls) (hlink : (Cond.methodLink own index y).before args s = true) (hstat : (Cond.static y).before args s = true) (hinit : (Cond.initialized y.cls).before args s = true)
    (hcode : (Cond.codeWith y bytes maxL ret hh).before args s = true) (hy : y.cls ≠ "java/lang/invoke/MethodHandle" ∧ y.cls ≠ "java/lang/invoke/VarHandle")
    {W9 : Nat} {Pre : Pt → Array Value → Prop} {Post : Pt → Array Value → Option Value → Pt → Prop} (hK : Back l R p e below s args y 3 W9 Pre Post)
    {g : JFrame} (hg : g.method = m) (hsize : g.locals.size = c.maxLocals) {argsL rest : List Value} (hlen : ∀ sig, parseMethodDescriptor y.desc = some sig → argsL.length = sig.parameters.length)
    (hstack : g.stack = argsL.reverse ++ rest) (hW : 2 * g.monitorRoom + (rest.map fun v => v.category).sum ≤ W9) (hdg : decode c.code g.pc = .ok (.invokestatic index, 3))
    (hpre : ∀ vm₁, s.WarmedH vm₁ → Pre ⟨T.setVm vm₁, locs, cells, slots⟩ argsL.toArray) :
    ∃ (v : Option Value) (vm₁ : Vm) (B : Pt), s.WarmedH vm₁ ∧ Stand p l e R s m args below meth c B.U B.locs B.cells B.slots ∧ Post ⟨T.setVm vm₁, locs, cells, slots⟩ argsL.toArray v B ∧
      ∀ target, Steps p.tables e below (B.U.setTop { g with pc := g.pc + 3, stack := v.toList ++ rest }) target → Steps p.tables e below (T.setTop g) target := by
  obtain ⟨mk, methM, cM, hnamed, hmethM, -, -, -, -, -, -, hsigM⟩ := Cond.codeWith_spec hcode
  have hstatic : methM.isStatic = true := Cond.static_spec hnamed hmethM hstat
  obtain ⟨kP, hkP, -⟩ := className_of_methodNamed hnamed
  have hinitP : kP.init = .initialized := Cond.initialized_spec (findClass_of_methodNamed hnamed) hkP hinit
  obtain ⟨vm₁, X₁, hstep₁⟩ := X.invokestatic hexec hown hlink hnamed hmethM hstatic hkP hinitP hy (g := g) hg (argsL := argsL) (rest := rest) (hlen _ hsigM) hstack hdg
  obtain ⟨v, B, X', hpost, hsteps⟩ := hK m meth c ⟨T.setVm vm₁, locs, cells, slots⟩ { g with stack := rest } (.invokestatic index) mk argsL.toArray X₁ hg hsize hdg hW (X₁.named hnamed) (hpre vm₁ X₁.warmed)
  exact ⟨v, vm₁, B, X₁.warmed, X', hpost, fun target h => hstep₁ _ fun acts => by rw [doInvoke_state]; exact hsteps.trans h⟩
theorem vx_runSW {y : MethodName} {bytes cc : ByteArray} {maxL nL mc ms n index : Nat} {ret : Option FieldType} {hh : List (Nat × Nat × Nat × Nat)} {ws : List Cond} {rm : Room} {Pc : Array Value → State → Prop} {Qc : Array Value → State → Outcome → State → Prop} {free : Addr → Prop} {Ts : List Cond} {own : String} {As rest : List Value} {g : JFrame}
    (S : CallFix p m c cc nL s args Ts own) (hM : Met l y ws rm Pc Qc mc ms free) (cw : vx_CSW R s args own index y bytes maxL ret hh ws rm mc ms n) (hp : PreS s H Pc As)
    (hg : g.method = m) (hn : As.length = n) (hsize : g.locals.size = nL) (hstack : g.stack = As.reverse ++ rest) (hW : 2 * g.monitorRoom + (rest.map fun v => v.category).sum ≤ 8) (hdg : decode cc g.pc = .ok (.invokestatic index, 3)) (hf : cells + mc ≤ R.cells ∧ slots + ms ≤ R.slots) :
    va_Run p l e R s m args below meth c H locs cells slots mc ms g rest (Qc As.toArray) (free) := by
  obtain ⟨⟨hrc, hrs, hfr, hlo, hws, hcw⟩, hcode, hini, hy, hlen, hl, hstt⟩ := cw
  have hK : Back l R p e below s args y 3 8 (PreOf R mc ms Pc) (PostOf Qc mc ms free) := va_backW (hh := hh) (bytes := bytes) (maxL := maxL) (ret := ret) hM hp.1 hrc hrs hfr hlo hws hcw (fun a' U hW => word_at hW (Or.inl (by first | rfl | simp [Cond.onTables, Cond.keeps, Cond.steady])) hini)
  obtain ⟨hx, hb, hml, ho, -⟩ := S
  intro T hT X
  obtain ⟨v, vm₁, ⟨U', l2, c2, s2⟩, hW₁, X', ⟨g', mk, t, L, e1, e2, hq, h1, hL, h2, h3⟩, st⟩ := vx_callSW X hx (hh := hh) (bytes := bytes) (maxL := maxL) (ret := ret) ho hl hstt hini hcode hy hK hg (hsize.trans hml.symm) (argsL := As) (rest := rest) (fun sig h => hn.trans (hlen sig h)) hstack hW (by rw [hb]; exact hdg)
    (fun vm₁ hW₁ => ⟨hf.1, hf.2, hp.2 (T.setVm vm₁) hT hW₁⟩)
  dsimp only [Pt.U, Pt.locs, Pt.cells, Pt.slots] at X' e1 e2 h1 h2 h3 st
  subst h1; subst h2; subst h3
  exact ⟨v, (T.setVm vm₁).calling g' mk As.toArray, t, U', L, hT, X', hL, e1, e2, hq, st⟩
/-- not caught here, past rows that name other classes: it goes on to the caller -/
theorem vx_outP {p : Program} {l : Launch} {e : Env} {R : Room} {s : State} {m : MethodId} {args : Array Value} {below : List Frame} {meth : Method} {c : Code} {H : Heap} {locs : List Loc} {cells slots : Nat} {free : Addr → Prop} {ls : Array Slot} {rest : List Value} {Qc : Array Value → State → Outcome → State → Prop} {XC : String → State → State → Prop}
    {pc : Nat} {own E : String} {ce : Cell} {q : Addr} {mc ms : Nat} (hown : s.vm.findClass own = some m.cls) (hlocks : meth.locks = false)
    (hpass : ∀ z ∈ c.exceptionTable.toList, covers z pc = false ∨ (z.catchType ≠ 0 ∧ ∃ nm : String, (Cond.classLink own z.catchType nm).before args s = true ∧ va_Nc E nm s)) (hcell : H[q]? = some ce) (hv : ce.vm = .none) (hcl : s.vm.findClass E = some ce.cls)
    (hx : ∀ t : State, t.heap = H → s.vm.Alike t.vm → XC E s t) (hf : ∀ z ∈ locs, free z.base) (hc : cells ≤ mc) (hs : slots ≤ ms) :
    vx_W p l e R s m args below meth c H locs cells slots (vx_MQ below Qc XC args s mc ms free) (F0 m pc ls rest) q := by
  intro T hT X
  have hpl : e.platform.magicAccessors = ({} : Platform).magicAccessors := by rw [X.admits.platform]
  obtain ⟨vm', hW', X', st⟩ := X.outThrough hlocks q (g := F0 m pc ls rest) rfl rfl rfl (cell := ce) (by rw [hT]; exact hcell) (by rw [hv]; rfl)
    (by obtain ⟨k9, h9, -⟩ := Vm.findClass_spec hcl; exact ⟨k9, h9⟩) (fun z hz => by
      rcases hpass z hz with h | ⟨hz0, nm, hl1, hn1⟩
      · exact Or.inl h
      · obtain ⟨c6, hc6, hcl6⟩ := Cond.classLink_spec hown hl1 e.platform hpl
        obtain ⟨a8, b8, h1, h2, h3⟩ := hn1
        cases Option.some.inj (h1.symm.trans hcl)
        cases Option.some.inj (h2.symm.trans hc6)
        exact Or.inr ⟨hz0, _, hcl6, h3⟩)
  obtain ⟨g₀, hfr⟩ := X'.frames_eq
  have hcell9 : ((T.setVm vm').setFrames (.throwing q :: below)).heap[q]? = some ce := by
    show T.heap[q]? = some ce
    rw [hT]; exact hcell
  have hend : Ended ((T.setVm vm').setFrames (.throwing q :: below)) below (.threw q) := State.frames_setFrames _ (State.cur_lt_of_frames hfr)
  refine ⟨(T.setVm vm').setFrames (.throwing q :: below), ?_, .threw q, X'.here.running, hend, Or.inr ⟨q, rfl, E, ce, locs, hx _ hT (X'.ends _).1.alike, hcell9, hv, hcl, (X'.ends _).1, (X'.ends _).2.mono hc hs, hf⟩⟩
  rw [X.pushThrowing_eq]
  exact st
/-- a thing of a world lies in the heap -/
theorem vx_lt {D : va_G} {cl : List vw_C} {ws : va_W} {H1 : Heap} (h : va_P D cl ws H1) {k : Nat} {q : Nat × va_E} (hk : ws[k]? = some q) : q.1 < H1.size := (h k q hk).lt
end VXS
/-! ===== END ===== -/
/-! ===== BEGIN methods with a table of their own: called by a name, returning or throwing ===== -/
section VXH
/-! vx_backW, vx_callVX, vx_callSX, vx_callVW, vx_runVW, vx_runVX, vx_runSX, vx_ofWH follow the same proofs as their sisters above (Free/Laws.lean, Shelf42/LK1.lean); vx_outP calls Shelf42/NT130.lean (outThrough). -/
section
variable {l : Launch} {R : Room} {p : Program} {e : Env} {below : List Frame} {s : State} {sargs : Array Value} {y : MethodName} {len W9 : Nat}
theorem vx_backW {ws : List Cond} {rm : Room} {Pc : Array Value → State → Prop} {Qc : Array Value → State → Outcome → State → Prop} {XC : String → State → State → Prop} {mc ms : Nat} {free : Addr → Prop} {bytes : ByteArray} {maxL : Nat} {ret : Option FieldType} {hh : List (Nat × Nat × Nat × Nat)}
    (hM : vx_Met l y ws rm Pc Qc XC mc ms free) (hblind : FrameBlind Pc) (hrc : rm.cells = mc) (hrs : rm.slots = ms)
    (hframes : rm.frames + 1 ≤ R.frames) (hlocals : W9 + (maxL + 11) + rm.locals ≤ R.locals)
    (hws : ∀ w ∈ ws, ∀ a' U, s.WarmedH U.vm → w.before a' U = true) (hcode : Cond.codeWith y bytes maxL ret hh ∈ ws) (hinit : ∀ a' U, s.WarmedH U.vm → (Cond.initialized y.cls).before a' U = true) :
    vx_Back l R p e below s sargs y len W9 (PreOf R mc ms Pc) (PostOf Qc mc ms free) (vx_Post XC mc ms free) := by
  intro m meth c A g ig mk a X hg hsize hdg hW hn hp
  have h1 : (headSpec ws rm).pre.before a A.U = true := atoms_intro fun w hw => hws w hw _ _ X.warmed
  have h2 : (Cond.codeWith y bytes maxL ret hh).before a A.U = true := hws _ hcode _ _ X.warmed
  have h3 : (Cond.initialized y.cls).before a A.U = true := hinit _ _ X.warmed
  have h4 : A.cells + (headSpec ws rm).room.cells ≤ R.cells := by rw [show (headSpec ws rm).room.cells = mc from hrc]; exact hp.1
  have h5 : A.slots + (headSpec ws rm).room.slots ≤ R.slots := by rw [show (headSpec ws rm).room.slots = ms from hrs]; exact hp.2.1
  have hPc : Pc a (A.U.calling g mk a) := hblind _ _ _ _ hp.2.2
  obtain ⟨U, Ls, c0, s0⟩ := A
  dsimp only [Pt.U, Pt.locs, Pt.cells, Pt.slots] at h1 h2 h3 h4 h5 X hn hPc ⊢
  obtain ⟨m9, methY, cY, hn9, hmY, hcY, -, hlY, -⟩ := Cond.codeWith_spec h2
  cases Option.some.inj (hn9.symm.trans hn)
  obtain ⟨kY, hkY, -⟩ := className_of_methodNamed hn
  have hinitY : kY.init = .initialized := Cond.initialized_spec (findClass_of_methodNamed hn) hkY h3
  have h : At U g.method c below := by rw [hg]; exact X.here
  have hlocals9 : W9 + (maxL + 11) + (headSpec ws rm).room.locals ≤ R.locals := hlocals
  have happ : (headSpec ws rm).appliesLoose y e.platform (U.calling g mk a) = true :=
    Spec.appliesLoose_calling (g := g) h hdg hn hkY hinitY
      (X.room_calling (g := g) (R' := (headSpec ws rm).room) hsize hmY hcY hframes (by rw [hlY]; omega) h4 h5) h1
  obtain ⟨mid, hmid⟩ := h.above
  have hfr : (U.setTop g).frames = (.java g :: mid) ++ below := by rw [State.frames_setTop' g h.top, hmid]; rfl
  obtain ⟨o, s₂, hsteps, -, hend, hq⟩ := Steps.callFree hM p X.admits X.cas X.clock (acts := []) hfr happ hPc trivial
  have hq' : vx_Q Qc XC mc ms free a (U.calling g mk a) o s₂ := hq
  rw [State.frames_setTop' g h.top] at hend
  obtain ⟨g₀, hg0⟩ := Option.isSome_iff_exists.mp h.top
  obtain ⟨r, hr⟩ := State.topJava?_eq_some.mp hg0
  have hr' : (({ U with heap := s₂.heap, slotsUsed := s₂.slotsUsed } : State).setVm s₂.vm).frames = .java g₀ :: r := hr
  rcases hq' with ⟨hqc, L, hfe, hL⟩ | ⟨q, rfl, E, ce, L, hx, hce, hcv, hcl, hW₂, hsm, hL⟩
  · obtain ⟨⟨v, rfl⟩, hW₂, e2, q2, q3, q4, q5, q6⟩ := id hfe
    have e3 : s₂ = ({ (U.calling g mk a).setFrames s₂.frames with heap := s₂.heap, slotsUsed := s₂.slotsUsed } : State).setVm s₂.vm := by
      have : s₂ = ({ s₂ with vm := (U.calling g mk a).vm } : State).setVm s₂.vm := rfl
      rw [e2] at this
      exact this
    obtain ⟨c₂, i₂, len₂, hc₂, hd₂, hf₂⟩ := hend
    have hW' : U.WarmedH s₂.vm := hW₂
    have hcc : c₂ = c := by
      have h1 : s₂.code? g.method = U.code? g.method := by
        rw [State.code?_eq, State.code?_eq, hW'.alike.method?]
      exact Option.some.inj (hc₂.symm.trans (h1.trans h.code))
    subst hcc
    have hlen : len₂ = len := by rw [hdg] at hd₂; cases hd₂; rfl
    subst hlen
    have hs₂ : s₂ = (({ U with heap := s₂.heap, slotsUsed := s₂.slotsUsed } : State).setVm s₂.vm).setTop { g with pc := g.pc + len₂, stack := v.toList ++ g.stack } := by
      refine e3.trans ?_
      rw [hf₂, State.calling_eq h.top, State.setFrames_setFrames, State.setTop_of_frames _ hr', hr]
      rfl
    have hsame : U.sameButNew ({ U with heap := s₂.heap, slotsUsed := s₂.slotsUsed } : State) L mc ms := by
      refine ⟨?_, q2, q3, q4, q5, q6⟩
      obtain ⟨t, ht, -⟩ := State.frames_cons hr
      show ({ U with heap := s₂.heap, slotsUsed := s₂.slotsUsed } : State) = { U.setFrames U.frames with heap := s₂.heap, slotsUsed := s₂.slotsUsed }
      rw [State.setFrames_self ht]
    subst hg
    refine Or.inl ⟨v, ⟨(({ U with heap := s₂.heap, slotsUsed := s₂.slotsUsed } : State).setVm s₂.vm), Ls ++ L, c0 + mc, s0 + ms⟩,
      ⟨X.admits, X.cas, X.clock, X.frames, X.room, X.hears, X.method, X.code, (X.here.setHeapUsed s₂.heap s₂.slotsUsed).setVm hW'.alike, X.tail, State.WarmedH.trans X.warmed hW', X.limits, X.bytes, X.same.trans (hsame.setVm s.vm)⟩,
      ⟨g, mk, s₂, L, rfl, rfl, hqc, rfl, hL, rfl, rfl⟩, ?_⟩
    show Steps p.tables e below _ ((({ U with heap := s₂.heap, slotsUsed := s₂.slotsUsed } : State).setVm s₂.vm).setTop { g with pc := g.pc + len₂, stack := v.toList ++ g.stack })
    rw [← hs₂]
    exact hsteps
  · obtain ⟨e2, q2, q3, q4, q5, q6⟩ := id hsm
    have e3 : s₂ = ({ (U.calling g mk a).setFrames s₂.frames with heap := s₂.heap, slotsUsed := s₂.slotsUsed } : State).setVm s₂.vm := by
      have : s₂ = ({ s₂ with vm := (U.calling g mk a).vm } : State).setVm s₂.vm := rfl
      rw [e2] at this
      exact this
    have hf₂ : s₂.frames = .throwing q :: .java g :: U.frames.tail := hend
    have hW' : U.WarmedH s₂.vm := hW₂
    have hs₂ : s₂ = ((({ U with heap := s₂.heap, slotsUsed := s₂.slotsUsed } : State).setVm s₂.vm).setTop g).pushFrame (.throwing q) := by
      refine e3.trans ?_
      rw [hf₂, State.calling_eq h.top, State.setFrames_setFrames, State.pushFrame, State.frames_setTop _ hr', State.setTop_of_frames _ hr', State.setFrames_setFrames, hr]
      rfl
    have hsame : U.sameButNew ({ U with heap := s₂.heap, slotsUsed := s₂.slotsUsed } : State) L mc ms := by
      refine ⟨?_, q2, q3, q4, q5, q6⟩
      obtain ⟨t, ht, -⟩ := State.frames_cons hr
      show ({ U with heap := s₂.heap, slotsUsed := s₂.slotsUsed } : State) = { U.setFrames U.frames with heap := s₂.heap, slotsUsed := s₂.slotsUsed }
      rw [State.setFrames_self ht]
    subst hg
    refine Or.inr ⟨q, ⟨(({ U with heap := s₂.heap, slotsUsed := s₂.slotsUsed } : State).setVm s₂.vm), Ls ++ L, c0 + mc, s0 + ms⟩,
      ⟨X.admits, X.cas, X.clock, X.frames, X.room, X.hears, X.method, X.code, (X.here.setHeapUsed s₂.heap s₂.slotsUsed).setVm hW'.alike, X.tail, State.WarmedH.trans X.warmed hW', X.limits, X.bytes, X.same.trans (hsame.setVm s.vm)⟩,
      ⟨g, mk, s₂, L, E, ce, rfl, rfl, hx, hce, hcv, hcl, rfl, hL, rfl, rfl⟩, ?_⟩
    show Steps p.tables e below _ (((({ U with heap := s₂.heap, slotsUsed := s₂.slotsUsed } : State).setVm s₂.vm).setTop g).pushFrame (.throwing q))
    rw [← hs₂]
    exact hsteps
end
variable {p : Program} {l : Launch} {e : Env} {R : Room} {s : State} {m : MethodId} {args : Array Value} {below : List Frame} {meth : Method} {c : Code} {T : State} {H : Heap} {locs : List Loc} {cells slots : Nat}
theorem vx_callVX (X : Stand p l e R s m args below meth c T locs cells slots) (hexec : p.tables.exec = Jvm.exec) {own C : String} {index : Nat} {y : MethodName} {bytes : ByteArray} {maxL : Nat} {ret : Option FieldType} {hh : List (Nat × Nat × Nat × Nat)}
    (hown : s.vm.findClass own = some m.cls) (hlink : (Cond.methodLink own index y).before args s = true) (hinst : (Cond.instanceMethod y).before args s = true) (hsel : (Cond.selects C y y).before args s = true)
    (hcode : (Cond.codeWith y bytes maxL ret hh).before args s = true) (hy : y.cls ≠ "java/lang/invoke/MethodHandle" ∧ y.cls ≠ "java/lang/invoke/VarHandle")
    {W9 : Nat} {Pre : Pt → Array Value → Prop} {Post : Pt → Array Value → Option Value → Pt → Prop} {PostX : Pt → Array Value → Addr → Pt → Prop} (hK : vx_Back l R p e below s args y 3 W9 Pre Post PostX)
    {b : Addr} {cellB : Cell} (hcell : T.heap[b]? = some cellB) (hobj : cellB.vm.isStatics = false) (hcls : s.vm.findClass C = some cellB.cls)
    {g : JFrame} (hg : g.method = m) (hsize : g.locals.size = c.maxLocals) {argsL rest : List Value} (hlen : ∀ sig, parseMethodDescriptor y.desc = some sig → argsL.length = sig.parameters.length)
    (hstack : g.stack = argsL.reverse ++ .ref b :: rest) (hW : 2 * g.monitorRoom + (rest.map fun v => v.category).sum ≤ W9) (hdg : decode c.code g.pc = .ok (.invokevirtual index, 3))
    (hpre : ∀ vm₁, s.WarmedH vm₁ → Pre ⟨T.setVm vm₁, locs, cells, slots⟩ (Value.ref b :: argsL).toArray) :
    (∃ (v : Option Value) (vm₁ : Vm) (B : Pt), s.WarmedH vm₁ ∧ Stand p l e R s m args below meth c B.U B.locs B.cells B.slots ∧ Post ⟨T.setVm vm₁, locs, cells, slots⟩ (Value.ref b :: argsL).toArray v B ∧
      ∀ target, Steps p.tables e below (B.U.setTop { g with pc := g.pc + 3, stack := v.toList ++ rest }) target → Steps p.tables e below (T.setTop g) target) ∨
    (∃ (q : Addr) (vm₁ : Vm) (B : Pt), s.WarmedH vm₁ ∧ Stand p l e R s m args below meth c B.U B.locs B.cells B.slots ∧ PostX ⟨T.setVm vm₁, locs, cells, slots⟩ (Value.ref b :: argsL).toArray q B ∧
      Steps p.tables e below (T.setTop g) ((B.U.setTop { g with stack := rest }).pushFrame (.throwing q))) := by
  obtain ⟨mk, methM, hnamed, hmethM, hstM, habM⟩ := Cond.instanceMethod_spec hinst
  obtain ⟨m8, methM', cM, hn8, hmethM', -, -, -, -, -, -, hsigM⟩ := Cond.codeWith_spec hcode
  cases Option.some.inj (hn8.symm.trans hnamed)
  cases hmethM.symm.trans hmethM'
  obtain ⟨c2, r2, m2, q1, q2, q3, q4, kP, hkP, hkPi⟩ := Cond.selects_spec hsel
  cases hcls.symm.trans q1
  cases (State.methodFound?_of_named hnamed hy).symm.trans q2
  cases hnamed.symm.trans q3
  have hselP : selectMethod e.platform s.vm cellB.cls mk = .method mk := by rw [Launch.admits_selectMethod X.admits]; exact q4
  obtain ⟨vm₁, X₁, hstep₁⟩ := X.invokevirtual hexec hown hlink hnamed hmethM hstM hkP hkPi hy (a := b) (cell := cellB) hcell
    (fun z h => by rw [h] at hobj; cases hobj) hselP hmethM habM hkP hkPi (g := g) hg (argsL := argsL) (rest := rest) (hlen _ hsigM) hstack hdg
  rcases hK m meth c ⟨T.setVm vm₁, locs, cells, slots⟩ { g with stack := rest } (.invokevirtual index) mk (Value.ref b :: argsL).toArray X₁ hg hsize hdg hW (X₁.named hnamed) (hpre vm₁ X₁.warmed) with ⟨v, B, X', hpost, hsteps⟩ | ⟨q, B, X', hpost, hsteps⟩
  · exact Or.inl ⟨v, vm₁, B, X₁.warmed, X', hpost, fun target h => hstep₁ _ fun acts => by rw [doInvoke_state]; exact hsteps.trans h⟩
  · exact Or.inr ⟨q, vm₁, B, X₁.warmed, X', hpost, hstep₁ _ fun acts => by rw [doInvoke_state]; exact hsteps⟩
theorem vx_callSX (X : Stand p l e R s m args below meth c T locs cells slots) (hexec : p.tables.exec = Jvm.exec) {own : String} {index : Nat} {y : MethodName} {bytes : ByteArray} {maxL : Nat} {ret : Option FieldType} {hh : List (Nat × Nat × Nat × Nat)}
    (hown : s.vm.findClass own = some m.cls) (hlink : (Cond.methodLink own index y).before args s = true) (hstat : (Cond.static y).before args s = true) (hinit : (Cond.initialized y.cls).before args s = true)
    (hcode : (Cond.codeWith y bytes maxL ret hh).before args s = true) (hy : y.cls ≠ "java/lang/invoke/MethodHandle" ∧ y.cls ≠ "java/lang/invoke/VarHandle")
    {W9 : Nat} {Pre : Pt → Array Value → Prop} {Post : Pt → Array Value → Option Value → Pt → Prop} {PostX : Pt → Array Value → Addr → Pt → Prop} (hK : vx_Back l R p e below s args y 3 W9 Pre Post PostX)
    {g : JFrame} (hg : g.method = m) (hsize : g.locals.size = c.maxLocals) {argsL rest : List Value} (hlen : ∀ sig, parseMethodDescriptor y.desc = some sig → argsL.length = sig.parameters.length)
    (hstack : g.stack = argsL.reverse ++ rest) (hW : 2 * g.monitorRoom + (rest.map fun v => v.category).sum ≤ W9) (hdg : decode c.code g.pc = .ok (.invokestatic index, 3))
    (hpre : ∀ vm₁, s.WarmedH vm₁ → Pre ⟨T.setVm vm₁, locs, cells, slots⟩ argsL.toArray) :
    (∃ (v : Option Value) (vm₁ : Vm) (B : Pt), s.WarmedH vm₁ ∧ Stand p l e R s m args below meth c B.U B.locs B.cells B.slots ∧ Post ⟨T.setVm vm₁, locs, cells, slots⟩ argsL.toArray v B ∧
      ∀ target, Steps p.tables e below (B.U.setTop { g with pc := g.pc + 3, stack := v.toList ++ rest }) target → Steps p.tables e below (T.setTop g) target) ∨
    (∃ (q : Addr) (vm₁ : Vm) (B : Pt), s.WarmedH vm₁ ∧ Stand p l e R s m args below meth c B.U B.locs B.cells B.slots ∧ PostX ⟨T.setVm vm₁, locs, cells, slots⟩ argsL.toArray q B ∧
      Steps p.tables e below (T.setTop g) ((B.U.setTop { g with stack := rest }).pushFrame (.throwing q))) := by
  obtain ⟨mk, methM, cM, hnamed, hmethM, -, -, -, -, -, -, hsigM⟩ := Cond.codeWith_spec hcode
  have hstatic : methM.isStatic = true := Cond.static_spec hnamed hmethM hstat
  obtain ⟨kP, hkP, -⟩ := className_of_methodNamed hnamed
  have hinitP : kP.init = .initialized := Cond.initialized_spec (findClass_of_methodNamed hnamed) hkP hinit
  obtain ⟨vm₁, X₁, hstep₁⟩ := X.invokestatic hexec hown hlink hnamed hmethM hstatic hkP hinitP hy (g := g) hg (argsL := argsL) (rest := rest) (hlen _ hsigM) hstack hdg
  rcases hK m meth c ⟨T.setVm vm₁, locs, cells, slots⟩ { g with stack := rest } (.invokestatic index) mk argsL.toArray X₁ hg hsize hdg hW (X₁.named hnamed) (hpre vm₁ X₁.warmed) with ⟨v, B, X', hpost, hsteps⟩ | ⟨q, B, X', hpost, hsteps⟩
  · exact Or.inl ⟨v, vm₁, B, X₁.warmed, X', hpost, fun target h => hstep₁ _ fun acts => by rw [doInvoke_state]; exact hsteps.trans h⟩
  · exact Or.inr ⟨q, vm₁, B, X₁.warmed, X', hpost, hstep₁ _ fun acts => by rw [doInvoke_state]; exact hsteps⟩
theorem vx_callVW (X : Stand p l e R s m args below meth c T locs cells slots) (hexec : p.tables.exec = Jvm.exec) {own C : String} {index : Nat} {y : MethodName} {bytes : ByteArray} {maxL : Nat} {ret : Option FieldType} {hh : List (Nat × Nat × Nat × Nat)}
    (hown : s.vm.findClass own = some m.cls) (hlink : (Cond.methodLink own index y).before args s = true) (hinst : (Cond.instanceMethod y).before args s = true) (hsel : (Cond.selects C y y).before args s = true)
    (hcode : (Cond.codeWith y bytes maxL ret hh).before args s = true) (hy : y.cls ≠ "java/lang/invoke/MethodHandle" ∧ y.cls ≠ "java/lang/invoke/VarHandle")
    {W9 : Nat} {Pre : Pt → Array Value → Prop} {Post : Pt → Array Value → Option Value → Pt → Prop} (hK : Back l R p e below s args y 3 W9 Pre Post)
    {b : Addr} {cellB : Cell} (hcell : T.heap[b]? = some cellB) (hobj : cellB.vm.isStatics = false) (hcls : s.vm.findClass C = some cellB.cls)
    {g : JFrame} (hg : g.method = m) (hsize : g.locals.size = c.maxLocals) {argsL rest : List Value} (hlen : ∀ sig, parseMethodDescriptor y.desc = some sig → argsL.length = sig.parameters.length)
    (hstack : g.stack = argsL.reverse ++ .ref b :: rest) (hW : 2 * g.monitorRoom + (rest.map fun v => v.category).sum ≤ W9) (hdg : decode c.code g.pc = .ok (.invokevirtual index, 3))
    (hpre : ∀ vm₁, s.WarmedH vm₁ → Pre ⟨T.setVm vm₁, locs, cells, slots⟩ (Value.ref b :: argsL).toArray) :
    ∃ (v : Option Value) (vm₁ : Vm) (B : Pt), s.WarmedH vm₁ ∧ Stand p l e R s m args below meth c B.U B.locs B.cells B.slots ∧ Post ⟨T.setVm vm₁, locs, cells, slots⟩ (Value.ref b :: argsL).toArray v B ∧
      ∀ target, Steps p.tables e below (B.U.setTop { g with pc := g.pc + 3, stack := v.toList ++ rest }) target → Steps p.tables e below (T.setTop g) target := by
  obtain ⟨mk, methM, hnamed, hmethM, hstM, habM⟩ := Cond.instanceMethod_spec hinst
  obtain ⟨m8, methM', cM, hn8, hmethM', -, -, -, -, -, -, hsigM⟩ := Cond.codeWith_spec hcode
  cases Option.some.inj (hn8.symm.trans hnamed)
  cases hmethM.symm.trans hmethM'
  obtain ⟨c2, r2, m2, q1, q2, q3, q4, kP, hkP, hkPi⟩ := Cond.selects_spec hsel
  cases hcls.symm.trans q1
  cases (State.methodFound?_of_named hnamed hy).symm.trans q2
  cases hnamed.symm.trans q3
  have hselP : selectMethod e.platform s.vm cellB.cls mk = .method mk := by rw [Launch.admits_selectMethod X.admits]; exact q4
  obtain ⟨vm₁, X₁, hstep₁⟩ := X.invokevirtual hexec hown hlink hnamed hmethM hstM hkP hkPi hy (a := b) (cell := cellB) hcell
    (fun z h => by rw [h] at hobj; cases hobj) hselP hmethM habM hkP hkPi (g := g) hg (argsL := argsL) (rest := rest) (hlen _ hsigM) hstack hdg
  obtain ⟨v, B, X', hpost, hsteps⟩ := hK m meth c ⟨T.setVm vm₁, locs, cells, slots⟩ { g with stack := rest } (.invokevirtual index) mk (Value.ref b :: argsL).toArray X₁ hg hsize hdg hW (X₁.named hnamed) (hpre vm₁ X₁.warmed)
  exact ⟨v, vm₁, B, X₁.warmed, X', hpost, fun target h => hstep₁ _ fun acts => by rw [doInvoke_state]; exact hsteps.trans h⟩
abbrev vx_CVW (R : Room) (s : State) (args : Array Value) (own C : String) (index : Nat) (y : MethodName) (bytes : ByteArray) (maxL : Nat) (ret : Option FieldType) (hh : List (Nat × Nat × Nat × Nat)) (ws : List Cond) (rm : Room) (mc ms n : Nat) : Prop :=
  (rm.cells = mc ∧ rm.slots = ms ∧ rm.frames + 1 ≤ R.frames ∧ 8 + (maxL + 11) + rm.locals ≤ R.locals ∧ (∀ w ∈ ws, ∀ (a' : Array Value) (U : State), s.WarmedH U.vm → w.before a' U = true) ∧ Cond.codeWith y bytes maxL ret hh ∈ ws) ∧
  (Cond.codeWith y bytes maxL ret hh).before args s = true ∧ (Cond.initialized y.cls).before args s = true ∧ (y.cls ≠ "java/lang/invoke/MethodHandle" ∧ y.cls ≠ "java/lang/invoke/VarHandle") ∧
  (∀ sig, parseMethodDescriptor y.desc = some sig → n = sig.parameters.length) ∧ (Cond.methodLink own index y).before args s = true ∧ (Cond.instanceMethod y).before args s = true ∧ (Cond.selects C y y).before args s = true
theorem vx_cwVW {own C : String} {index maxL mc ms : Nat} {y : MethodName} {bytes : ByteArray} {ret : Option FieldType} {hh : List (Nat × Nat × Nat × Nat)} {Ts ws ws' : List Cond} {rm : Room} (n : Nat) (ht : ∀ w ∈ Ts, w.before args s = true) (hT : GoodIn Ts (wsV own index C y ws)) (hw : ws = Cond.codeWith y bytes maxL ret hh :: ws') (hrc : rm.cells = mc) (hrs : rm.slots = ms)
    (hd : y.cls = C ∧ y.cls ≠ "java/lang/invoke/MethodHandle" ∧ y.cls ≠ "java/lang/invoke/VarHandle" ∧ (parseMethodDescriptor y.desc).map (fun d => d.parameters.length) = some n) (hR : rm.frames + 1 ≤ R.frames ∧ 8 + (maxL + 11) + rm.locals ≤ R.locals) :
    vx_CVW R s args own C index y bytes maxL ret hh ws rm mc ms n := by
  obtain ⟨hC, hd⟩ := hd
  subst hC
  have ok : ∀ w ∈ wsV own index y.cls y ws, w.before args s = true := fun w h => ht w (hT w h).1
  have hG : GoodIn Ts ws := fun w h => hT w (by unfold wsV; exact List.mem_append_right _ h)
  have hc : Cond.codeWith y bytes maxL ret hh ∈ ws := by rw [hw]; exact List.mem_cons_self
  refine ⟨⟨hrc, hrs, hR.1, hR.2, pay_in ht hG, hc⟩, ht _ (hG _ hc).1, ok _ (by simp [wsV]), ⟨hd.1, hd.2.1⟩, fun sig h => ?_, ok _ (by simp [wsV]), ok _ (by simp [wsV]), ok _ (by simp [wsV])⟩
  have h2 := hd.2.2
  rw [h] at h2
  exact (Option.some.inj h2).symm
theorem vx_runVW {y : MethodName} {bytes cc : ByteArray} {maxL nL mc ms n index : Nat} {ret : Option FieldType} {hh : List (Nat × Nat × Nat × Nat)} {ws : List Cond} {rm : Room} {Pc : Array Value → State → Prop} {Qc : Array Value → State → Outcome → State → Prop} {free : Addr → Prop} {Ts : List Cond} {own C : String} {b : Addr} {As rest : List Value} {g : JFrame}
    (S : CallFix p m c cc nL s args Ts own) (hM : Met l y ws rm Pc Qc mc ms free) (cw : vx_CVW R s args own C index y bytes maxL ret hh ws rm mc ms n) (hp : PreV s H C b Pc As)
    (hg : g.method = m) (hn : As.length = n) (hsize : g.locals.size = nL) (hstack : g.stack = As.reverse ++ .ref b :: rest) (hW : 2 * g.monitorRoom + (rest.map fun v => v.category).sum ≤ 8) (hdg : decode cc g.pc = .ok (.invokevirtual index, 3)) (hf : cells + mc ≤ R.cells ∧ slots + ms ≤ R.slots) :
    va_Run p l e R s m args below meth c H locs cells slots mc ms g rest (Qc (Value.ref b :: As).toArray) free := by
  obtain ⟨⟨hrc, hrs, hfr, hlo, hws, hcw⟩, hcode, hini, hy, hlen, hl, hin, hse⟩ := cw
  have hK : Back l R p e below s args y 3 8 (PreOf R mc ms Pc) (PostOf Qc mc ms free) := va_backW (hh := hh) (bytes := bytes) (maxL := maxL) (ret := ret) hM hp.1 hrc hrs hfr hlo hws hcw (fun a' U hW => word_at hW (Or.inl (by first | rfl | simp [Cond.onTables, Cond.keeps, Cond.steady])) hini)
  obtain ⟨hx, hb, hml, ho, -⟩ := S
  obtain ⟨-, ⟨cellB, hcB, hoB, hclB⟩, hPc⟩ := hp
  intro T hT X
  obtain ⟨v, vm₁, ⟨U', l2, c2, s2⟩, hW₁, X', ⟨g', mk, t, L, e1, e2, hq, h1, hL, h2, h3⟩, st⟩ := vx_callVW X hx (C := C) (hh := hh) (bytes := bytes) (maxL := maxL) (ret := ret) ho hl hin hse hcode hy hK (by rw [hT]; exact hcB) hoB hclB hg (hsize.trans hml.symm) (argsL := As) (rest := rest) (fun sig h => hn.trans (hlen sig h)) hstack hW (by rw [hb]; exact hdg)
    (fun vm₁ hW₁ => ⟨hf.1, hf.2, hPc (T.setVm vm₁) hT hW₁⟩)
  dsimp only [Pt.U, Pt.locs, Pt.cells, Pt.slots] at X' e1 e2 h1 h2 h3 st
  subst h1; subst h2; subst h3
  exact ⟨v, (T.setVm vm₁).calling g' mk (Value.ref b :: As).toArray, t, U', L, hT, X', hL, e1, e2, hq, st⟩
section
variable {y : MethodName} {bytes cc : ByteArray} {maxL nL mc ms n index : Nat} {ret : Option FieldType} {ws : List Cond} {rm : Room} {Pc : Array Value → State → Prop} {Qc : Array Value → State → Outcome → State → Prop} {XC : String → State → State → Prop} {free : Addr → Prop} {Ts : List Cond} {own C : String} {b : Addr} {As rest : List Value} {g : JFrame}
theorem vx_runVX {hh : List (Nat × Nat × Nat × Nat)} (S : CallFix p m c cc nL s args Ts own) (hM : vx_Met l y ws rm Pc Qc XC mc ms free) (cw : vx_CVW R s args own C index y bytes maxL ret hh ws rm mc ms n) (hp : PreV s H C b Pc As)
    (hg : g.method = m) (hn : As.length = n) (hsize : g.locals.size = nL) (hstack : g.stack = As.reverse ++ .ref b :: rest) (hW : 2 * g.monitorRoom + (rest.map fun v => v.category).sum ≤ 8) (hdg : decode cc g.pc = .ok (.invokevirtual index, 3)) (hf : cells + mc ≤ R.cells ∧ slots + ms ≤ R.slots) :
    vx_Run p l e R s m args below meth c H locs cells slots mc ms g rest (Qc (Value.ref b :: As).toArray) XC free := by
  obtain ⟨⟨hrc, hrs, hfr, hlo, hws, hcw⟩, hcode, hini, hy, hlen, hl, hin, hse⟩ := cw
  have hK : vx_Back l R p e below s args y 3 8 (PreOf R mc ms Pc) (PostOf Qc mc ms free) (vx_Post XC mc ms free) := vx_backW (hh := hh) (bytes := bytes) (maxL := maxL) (ret := ret) hM hp.1 hrc hrs hfr hlo hws hcw (fun a' U hW => word_at hW (Or.inl (by first | rfl | simp [Cond.onTables, Cond.keeps, Cond.steady])) hini)
  obtain ⟨hx, hb, hml, ho, -⟩ := S
  obtain ⟨-, ⟨cellB, hcB, hoB, hclB⟩, hPc⟩ := hp
  intro T hT X
  rcases vx_callVX X hx (C := C) (hh := hh) (bytes := bytes) (maxL := maxL) (ret := ret) ho hl hin hse hcode hy hK (by rw [hT]; exact hcB) hoB hclB hg (hsize.trans hml.symm) (argsL := As) (rest := rest) (fun sig h => hn.trans (hlen sig h)) hstack hW (by rw [hb]; exact hdg)
    (fun vm₁ hW₁ => ⟨hf.1, hf.2, hPc (T.setVm vm₁) hT hW₁⟩) with ⟨v, vm₁, ⟨U', l2, c2, s2⟩, hW₁, X', ⟨g', mk, t, L, e1, e2, hq, h1, hL, h2, h3⟩, st⟩ | ⟨q, vm₁, ⟨U', l2, c2, s2⟩, hW₁, X', ⟨g', mk, t, L, E, ce, e1, e2, hq, hce, hcv, hcl, h1, hL, h2, h3⟩, st⟩
  · dsimp only [Pt.U, Pt.locs, Pt.cells, Pt.slots] at X' e1 e2 h1 h2 h3 st
    subst h1; subst h2; subst h3
    exact Or.inl ⟨v, (T.setVm vm₁).calling g' mk (Value.ref b :: As).toArray, t, U', L, hT, X', hL, e1, e2, hq, st⟩
  · dsimp only [Pt.U, Pt.locs, Pt.cells, Pt.slots] at X' e1 e2 h1 h2 h3 st hcl
    subst h1; subst h2; subst h3
    exact Or.inr ⟨q, (T.setVm vm₁).calling g' mk (Value.ref b :: As).toArray, t, U', L, E, ce, hT, X', hL, e1, e2, hq, hce, hcv, vx_cls hW₁ hcl, st⟩
theorem vx_runSX {hh : List (Nat × Nat × Nat × Nat)} (S : CallFix p m c cc nL s args Ts own) (hM : vx_Met l y ws rm Pc Qc XC mc ms free) (cw : vx_CSW R s args own index y bytes maxL ret hh ws rm mc ms n) (hp : PreS s H Pc As)
    (hg : g.method = m) (hn : As.length = n) (hsize : g.locals.size = nL) (hstack : g.stack = As.reverse ++ rest) (hW : 2 * g.monitorRoom + (rest.map fun v => v.category).sum ≤ 8) (hdg : decode cc g.pc = .ok (.invokestatic index, 3)) (hf : cells + mc ≤ R.cells ∧ slots + ms ≤ R.slots) :
    vx_Run p l e R s m args below meth c H locs cells slots mc ms g rest (Qc As.toArray) XC free := by
  obtain ⟨⟨hrc, hrs, hfr, hlo, hws, hcw⟩, hcode, hini, hy, hlen, hl, hstt⟩ := cw
  have hK : vx_Back l R p e below s args y 3 8 (PreOf R mc ms Pc) (PostOf Qc mc ms free) (vx_Post XC mc ms free) := vx_backW (hh := hh) (bytes := bytes) (maxL := maxL) (ret := ret) hM hp.1 hrc hrs hfr hlo hws hcw (fun a' U hW => word_at hW (Or.inl (by first | rfl | simp [Cond.onTables, Cond.keeps, Cond.steady])) hini)
  obtain ⟨hx, hb, hml, ho, -⟩ := S
  intro T hT X
  rcases vx_callSX X hx (hh := hh) (bytes := bytes) (maxL := maxL) (ret := ret) ho hl hstt hini hcode hy hK hg (hsize.trans hml.symm) (argsL := As) (rest := rest) (fun sig h => hn.trans (hlen sig h)) hstack hW (by rw [hb]; exact hdg)
    (fun vm₁ hW₁ => ⟨hf.1, hf.2, hp.2 (T.setVm vm₁) hT hW₁⟩) with ⟨v, vm₁, ⟨U', l2, c2, s2⟩, hW₁, X', ⟨g', mk, t, L, e1, e2, hq, h1, hL, h2, h3⟩, st⟩ | ⟨q, vm₁, ⟨U', l2, c2, s2⟩, hW₁, X', ⟨g', mk, t, L, E, ce, e1, e2, hq, hce, hcv, hcl, h1, hL, h2, h3⟩, st⟩
  · dsimp only [Pt.U, Pt.locs, Pt.cells, Pt.slots] at X' e1 e2 h1 h2 h3 st
    subst h1; subst h2; subst h3
    exact Or.inl ⟨v, (T.setVm vm₁).calling g' mk As.toArray, t, U', L, hT, X', hL, e1, e2, hq, st⟩
  · dsimp only [Pt.U, Pt.locs, Pt.cells, Pt.slots] at X' e1 e2 h1 h2 h3 st hcl
    subst h1; subst h2; subst h3
    exact Or.inr ⟨q, (T.setVm vm₁).calling g' mk As.toArray, t, U', L, E, ce, hT, X', hL, e1, e2, hq, hce, hcv, vx_cls hW₁ hcl, st⟩
end
end VXH
theorem vx_ofWH {l : Launch} {y : MethodName} {ws ws' : List Cond} {rm : Room} {Pc : Array Value → State → Prop} {Qc : Array Value → State → Outcome → State → Prop} {XC : String → State → State → Prop} {mc ms : Nat} {free : Addr → Prop} {cc : ByteArray} {maxL : Nat} {ret : Option FieldType} {hh : List (Nat × Nat × Nat × Nat)}
    (hy : plainName y.cls = true) (hw : ws = Cond.codeWith y cc maxL ret hh :: ws')
    (body : ∀ p e s m args below meth c s₁, BodyLoose p l y (headSpec ws rm) cc maxL ret e s m args below meth c s₁ → c.maxLocals = maxL → Pc args s →
      W p l e (headSpec ws rm).room s m args below meth c s.heap [] 0 0 (vx_MQ below Qc XC args s mc ms free) (entryFrame m args maxL)) : vx_Met l y ws rm Pc Qc XC mc ms free := by
  refine MetFree.of_bodyS (code := cc) (maxLocals := maxL) (ret := ret) hy ?_ ?_
  · intro args s m h hn
    obtain ⟨m9, meth, c, hn9, h1, h2, h3, h4, -, h5, h6, -⟩ := Cond.codeWith_spec (atoms_spec (ws := ws) h _ (by rw [hw]; exact List.mem_cons_self))
    cases hn.symm.trans hn9
    exact ⟨meth, c, h1, h2, h3, h4, h5, h6⟩
  · intro p e s m args below meth c s₁ B hml hP _
    have hh0 : s₁.heap = s.heap := by rw [B.state]; rfl
    obtain ⟨t, a1, o, b1, b2, b3⟩ := body p e s m args below meth c s₁ B hml hP s₁ hh0 (Stand.of_body B)
    exact ⟨t, o, a1, b1, b2, b3⟩
/-! ===== END ===== -/
end
section
/-! heaps as functions, and a walk over them: an own layer over the kit's W -/
/-- a heap: its size, the slots used since the law's entry, what the cells hold -/
abbrev ho_H : Type := Nat × Nat × (Nat → Option va_E)
/-- ghosts: base (addresses below it are never written), limit of cells, limit of slots, classes, array types, tables of ints that are only read, addresses of statics -/
abbrev ho_G : Type := Nat × Nat × Nat × va_G × List (ClassId × FieldType) × (Nat → Option (Nat × (Nat → Int32))) × (Nat → Nat)
abbrev gB (G : ho_G) : Nat := G.1
abbrev gC (G : ho_G) : Nat := G.2.1
abbrev gS (G : ho_G) : Nat := G.2.2.1
abbrev gD (G : ho_G) : va_G := G.2.2.2.1
abbrev gT (G : ho_G) : List (ClassId × FieldType) := G.2.2.2.2.1
abbrev gR (G : ho_G) : Nat → Option (Nat × (Nat → Int32)) := G.2.2.2.2.2.1
abbrev gA (G : ho_G) : Nat → Nat := G.2.2.2.2.2.2
abbrev gW (G : ho_G) : Nat → Prop := fun q => G.1 ≤ q
/-- the class of the arrays of kind i -/
def gc (G : ho_G) (i : Nat) : ClassId := ((gT G)[i]?.getD (0, .int)).1
/-- the heap holds what the function says -/
def hs_R (G : ho_G) (σ : ho_H) (H : Heap) : Prop := H.size = σ.1 ∧ σ.1 ≤ gC G ∧ σ.2.1 ≤ gS G ∧ ∀ (a : Nat) (e : va_E), σ.2.2 a = some e → gB G ≤ a ∧ va_at (gD G) vwCl (a, e) H
/-- what is known of tables and statics -/
def gs_ok (G : ho_G) (U : State) (H : Heap) : Prop :=
  gB G ≤ H.size ∧ va_K (gD G) vwCl (gT G) U ∧ (∀ (i : Nat) (ty : FieldType), hv_tys[i]? = some ty → (gT G)[i]? = some (gc G i, ty)) ∧
  (∀ (t n : Nat) (f : Nat → Int32), gR G t = some (n, f) → va_T .int t n (fun j => .int (f j)) (gW G) U H) ∧
  (∀ (i : Nat) (q : String × String × String), hv_stat[i]? = some q → va_Z q.1 q.2.1 q.2.2 (.ref (gA G i)) (gW G) U H) ∧
  (∀ q ∈ hv_nwF, va_Nw (.fieldLinkNest q.1 q.2.1 q.2.2.1 q.2.2.2.1 q.2.2.2.2.1 q.2.2.2.2.2) U) ∧
  (∀ q ∈ hv_nwM, va_Nw (.methodLinkNest q.1 q.2.1 q.2.2.1 q.2.2.2) U) ∧
  va_T (.object "java/lang/Object") (gA G 4) 0 (fun _ => .null) (gW G) U H ∧
  (∀ q ∈ hv_cast, va_Nw (.castable q.1 q.2) U) ∧ (∀ q ∈ hv_decl, va_Nw (.declares q) U) ∧ (∀ q ∈ hv_ncast, va_Nc q.1 q.2 U) ∧
  vx_Zq Bundle.tN "UNASSIGNED_STACK" Bundle.steD (gW G) U H ∧ vx_Zq Bundle.tN "SUPPRESSED_SENTINEL" Bundle.listD (gW G) U H ∧
  va_Mi "[Ljava/lang/Object;" (gA G 5) U ∧ (∀ q ∈ hv_ao, va_AO q U)
theorem gs_ok.move {G : ho_G} {s U : State} {H H1 : Heap} (h : gs_ok G s H) (hW : s.WarmedH U.vm) (hz : H.size ≤ H1.size) (hq : ∀ a : Nat, a < H.size → ¬ gW G a → H1[a]? = H[a]?) : gs_ok G U H1 := by
  obtain ⟨h1, h2, h3, h4, h5, h6, h7, h8, h9, h10, h11, h12, h13, h14, h15⟩ := h
  refine ⟨Nat.le_trans h1 hz, va_K.moved hW.alike h2, h3, fun t n f ht => ?_, fun i q hi => ?_, fun q hq => ?_, fun q hq => ?_, ?_, fun q hq => ?_, fun q hq => ?_, fun q hq => ?_, ?_, ?_, ?_, fun q hq => va_AO.moved hW.alike (h15 q hq)⟩
  · exact va_T.moved hW.alike ((h4 t n f ht).kept hq)
  · exact va_Z.moved hW.alike ((h5 i q hi).kept hq)
  · exact va_Nw.warmF hW (h6 q hq)
  · exact va_Nw.warmM hW (h7 q hq)
  · exact va_T.moved hW.alike (h8.kept hq)
  · exact va_Nw.warmC hW (h9 q hq)
  · exact va_Nw.warmD hW (h10 q hq)
  · exact va_Nc.moved hW.alike (h11 q hq)
  · exact vx_Zq.moved hW.alike (h12.kept hq)
  · exact vx_Zq.moved hW.alike (h13.kept hq)
  · exact va_Mi.moved hW.alike h14
theorem gs_ok.self {G : ho_G} {s U : State} {H : Heap} (h : gs_ok G s H) (hv : s.vm = U.vm) : gs_ok G U H := by
  obtain ⟨h1, h2, h3, h4, h5, h6, h7, h8, h9, h10, h11, h12, h13, h14, h15⟩ := h
  have ha : s.vm.Alike U.vm := by rw [hv]; exact Vm.Alike.refl _
  refine ⟨h1, va_K.moved ha h2, h3, fun t n f ht => ?_, fun i q hi => ?_, fun q hq => ?_, fun q hq => ?_, va_T.moved ha h8, fun q hq => ?_, fun q hq => ?_, fun q hq => ?_, vx_Zq.moved ha h12, vx_Zq.moved ha h13, va_Mi.moved ha h14, fun q hq => va_AO.moved ha (h15 q hq)⟩
  · exact va_T.moved ha (h4 t n f ht)
  · exact va_Z.moved ha (h5 i q hi)
  · exact va_Nw.same rfl hv (h6 q hq)
  · exact va_Nw.same rfl hv (h7 q hq)
  · exact va_Nw.same rfl hv (h9 q hq)
  · exact va_Nw.same rfl hv (h10 q hq)
  · exact va_Nc.moved ha (h11 q hq)
/-- locals by their places: all of one slot -/
def lo_has (ls : Array Slot) (nL : Nat) (lo : List (Option Value)) : Prop := ls.size = nL ∧ lv_wf ls ∧ ∀ (i : Nat) (v : Value), lo[i]? = some (some v) → v.category = 1 ∧ ls[i]? = some (.val v)
theorem lo_has.set {ls : Array Slot} {nL : Nat} {lo : List (Option Value)} (h : lo_has ls nL lo) {i : Nat} (hi : i < nL) {v : Value} (hc : v.category = 1) : ∃ ls', storeLocals ls i v = some ls' ∧ lo_has ls' nL (lo.set i (some v)) ∧ ∀ l : List (Nat × Value), lv_has ls nL l → lv_has ls' nL ((i, v) :: l.filter (fun q => !(q.1 == i) && !(q.1 + 1 == i && q.2.category == 2))) := by
  obtain ⟨h1, h2, h3⟩ := h
  obtain ⟨ls', e1, e2⟩ := lv_store1 (l := []) (v := v) ⟨h1, h2, fun q hq => by cases hq⟩ hi hc
  have key : ∀ l : List (Nat × Value), lv_has ls nL l → lv_has ls' nL ((i, v) :: l.filter (fun q => !(q.1 == i) && !(q.1 + 1 == i && q.2.category == 2))) := by
    intro l hl
    obtain ⟨ls2, g1, g2⟩ := lv_store1 (l := l) (v := v) hl hi hc
    cases e1.symm.trans g1
    exact g2
  refine ⟨ls', e1, ⟨e2.1, e2.2.1, fun j w hj => ?_⟩, key⟩
  by_cases hji : j = i
  · subst hji
    have hw : w = v := by
      rw [List.getElem?_set] at hj
      simp at hj
      exact hj.2.symm
    subst hw
    exact ⟨hc, e2.2.2 (j, w) List.mem_cons_self⟩
  · rw [List.getElem?_set_ne (Ne.symm hji)] at hj
    obtain ⟨g1, g2⟩ := h3 j w hj
    refine ⟨g1, ?_⟩
    have hl : lv_has ls nL [(j, w)] := ⟨h1, h2, fun q hq => by rw [List.mem_singleton.mp hq]; exact g2⟩
    refine (key _ hl).2.2 (j, w) ?_
    simp [hji, g1]
theorem lo_has.of {ls : Array Slot} {nL : Nat} {vs : List Value} (h : lv_has ls nL (lv_args 0 vs)) (hc : ∀ v ∈ vs, v.category = 1) : lo_has ls nL (vs.map some) := by
  have key : ∀ (vs : List Value) (k : Nat), (∀ v ∈ vs, v.category = 1) → ∀ (i : Nat) (v : Value), vs[i]? = some v → (k + i, v) ∈ lv_args k vs := by
    intro vs
    induction vs with
    | nil => intro k _ i v hv; simp at hv
    | cons w l ih =>
      intro k hc i v hv
      have hw : w.category = 1 := hc w List.mem_cons_self
      cases i with
      | zero =>
        simp at hv
        subst hv
        simp [lv_args]
      | succ i =>
        have := ih (k + 1) (fun v hv => hc v (List.mem_cons_of_mem _ hv)) i v (by simpa using hv)
        simp only [lv_args, hw]
        refine List.mem_cons_of_mem _ ?_
        rw [show k + (i + 1) = k + 1 + i by omega]
        simpa using this
  refine ⟨h.1, h.2.1, fun i v hv => ?_⟩
  rw [List.getElem?_map] at hv
  cases hi : vs[i]? with
  | none => rw [hi] at hv; cases hv
  | some w =>
    rw [hi] at hv
    have hwv : w = v := by simpa using hv
    subst hwv
    exact ⟨hc w (List.mem_of_getElem? hi), by have := h.2.2 _ (key vs 0 hc i w hi); simpa using this⟩
/-- a method under way: the machine's fixed parts; ghosts; the heap at its entry; the goal; its locals' number -/
abbrev mk_T := (Program × Launch × Env × Room × State × MethodId × Array Value × List Frame × Method × Code) × ho_G × ho_H × (State → Prop) × Nat
/-- the walk: from this heap, pc, locals and stack the goal is reached -/
def hv_V (k : mk_T) (σ : ho_H) (pc : Nat) (lo : List (Option Value)) (st : List Value) : Prop :=
  ∀ (H : Heap) (locs : List Loc) (ls : Array Slot), hs_R k.2.1 σ H → va_S (gW k.2.1) k.1.2.2.2.2.1.heap H locs → k.2.2.1.1 ≤ σ.1 → k.2.2.1.2.1 ≤ σ.2.1 → lo_has ls k.2.2.2.2 lo →
    W k.1.1 k.1.2.1 k.1.2.2.1 k.1.2.2.2.1 k.1.2.2.2.2.1 k.1.2.2.2.2.2.1 k.1.2.2.2.2.2.2.1 k.1.2.2.2.2.2.2.2.1 k.1.2.2.2.2.2.2.2.2.1 k.1.2.2.2.2.2.2.2.2.2 H locs (σ.1 - k.2.2.1.1) (σ.2.1 - k.2.2.1.2.1) k.2.2.2.1 (F0 k.1.2.2.2.2.2.1 pc ls st)
/-- what is known of the method under way: its code, class, words, frames and locals of room, return type -/
def hv_X (k : mk_T) (cc : ByteArray) (own : String) (nL fr lw : Nat) (ret : Option FieldType) (nm : String) : Prop :=
  k.1.1.tables.exec = Jvm.exec ∧ k.1.2.2.2.2.2.2.2.2.2.code = cc ∧ k.1.2.2.2.2.2.2.2.2.2.maxLocals = k.2.2.2.2 ∧ k.1.2.2.2.2.1.vm.findClass own = some k.1.2.2.2.2.2.1.cls ∧
  (∀ w ∈ hv_ws, w.before k.1.2.2.2.2.2.2.1 k.1.2.2.2.2.1 = true) ∧ gs_ok k.2.1 k.1.2.2.2.2.1 k.1.2.2.2.2.1.heap ∧ k.1.2.2.2.2.1.heap.size = k.2.2.1.1 ∧
  k.1.2.2.2.1.cells = gC k.2.1 - k.2.2.1.1 ∧ k.1.2.2.2.1.slots = gS k.2.1 - k.2.2.1.2.1 ∧ fr ≤ k.1.2.2.2.1.frames ∧ lw ≤ k.1.2.2.2.1.locals ∧
  k.1.2.2.2.2.2.2.2.2.1.sig.returnType = ret ∧ k.1.2.2.2.2.2.2.2.2.1.locks = false ∧ k.2.2.2.2 = nL ∧ k.1.2.2.2.2.2.2.2.2.1.name = nm
def ho_sl (x y : Int32) : Int32 := x <<< (y &&& 31)
def ho_sr (x y : Int32) : Int32 := x >>> (y &&& 31)
def ho_ur (x y : Int32) : Int32 := (x.toUInt32 >>> (y.toUInt32 &&& Int32.toUInt32 31)).toInt32
def ho_rm (x y : Int32) : Int32 := x - x / y * y
section HV
variable {k : mk_T} {cc : ByteArray} {own : String} {nL fr lw : Nat} {ret : Option FieldType} {nm : String} {σ : ho_H} {pc pn : Nat} {lo lo' : List (Option Value)} {st : List Value}
theorem hv_iconst (X : hv_X k cc own nL fr lw ret nm) {n : Int} {v : Int32} (d : decode cc pc = .ok (.iconst n, 1)) (kk : hv_V k σ pn lo (.int v :: st)) (hv : Int32.ofInt n = v := by decide) (hp : pn = pc + 1 := by rfl) : hv_V k σ pc lo st := by
  subst hp
  intro H locs ls hR hS g1 g2 hl
  exact lv_iconst X.1 X.2.1 d hv (kk H locs ls hR hS g1 g2 hl)
theorem hv_bipush (X : hv_X k cc own nL fr lw ret nm) {n : Int} {v : Int32} (d : decode cc pc = .ok (.bipush n, 2)) (kk : hv_V k σ pn lo (.int v :: st)) (hv : (Int8.ofInt n).toInt32 = v := by decide) (hp : pn = pc + 2 := by rfl) : hv_V k σ pc lo st := by
  subst hp
  intro H locs ls hR hS g1 g2 hl
  exact lv_bipush X.1 X.2.1 d hv (kk H locs ls hR hS g1 g2 hl)
theorem hv_sipush (X : hv_X k cc own nL fr lw ret nm) {n : Int} {v : Int32} (d : decode cc pc = .ok (.sipush n, 3)) (kk : hv_V k σ pn lo (.int v :: st)) (hv : (Int16.ofInt n).toInt32 = v := by decide) (hp : pn = pc + 3 := by rfl) : hv_V k σ pc lo st := by
  subst hp
  intro H locs ls hR hS g1 g2 hl
  exact lv_sipush X.1 X.2.1 d hv (kk H locs ls hR hS g1 g2 hl)
theorem hv_iload_n (X : hv_X k cc own nL fr lw ret nm) {n : Fin 4} {i : Nat} {x : Int32} (d : decode cc pc = .ok (.iload_n n, 1)) (kk : hv_V k σ pn lo (.int x :: st)) (hi : (n : Nat) = i := by rfl) (hx : lo[i]? = some (some (.int x)) := by rfl) (hp : pn = pc + 1 := by rfl) : hv_V k σ pc lo st := by
  subst hp
  intro H locs ls hR hS g1 g2 hl
  exact lv_iload_n X.1 X.2.1 d hi (hl.2.2 i _ hx).2 (kk H locs ls hR hS g1 g2 hl)
theorem hv_iload (X : hv_X k cc own nL fr lw ret nm) {i : Nat} {x : Int32} (d : decode cc pc = .ok (.iload i, 2)) (kk : hv_V k σ pn lo (.int x :: st)) (hx : lo[i]? = some (some (.int x)) := by rfl) (hp : pn = pc + 2 := by rfl) : hv_V k σ pc lo st := by
  subst hp
  intro H locs ls hR hS g1 g2 hl
  exact lv_iload X.1 X.2.1 d (hl.2.2 i _ hx).2 (kk H locs ls hR hS g1 g2 hl)
theorem hv_aload_n (X : hv_X k cc own nL fr lw ret nm) {n : Fin 4} {i : Nat} {x : Nat} (d : decode cc pc = .ok (.aload_n n, 1)) (kk : hv_V k σ pn lo (.ref x :: st)) (hi : (n : Nat) = i := by rfl) (hx : lo[i]? = some (some (.ref x)) := by rfl) (hp : pn = pc + 1 := by rfl) : hv_V k σ pc lo st := by
  subst hp
  intro H locs ls hR hS g1 g2 hl
  exact lv_aload_n X.1 X.2.1 d hi (hl.2.2 i _ hx).2 (kk H locs ls hR hS g1 g2 hl)
theorem hv_aload (X : hv_X k cc own nL fr lw ret nm) {i : Nat} {x : Nat} (d : decode cc pc = .ok (.aload i, 2)) (kk : hv_V k σ pn lo (.ref x :: st)) (hx : lo[i]? = some (some (.ref x)) := by rfl) (hp : pn = pc + 2 := by rfl) : hv_V k σ pc lo st := by
  subst hp
  intro H locs ls hR hS g1 g2 hl
  exact lv_aload X.1 X.2.1 d (hl.2.2 i _ hx).2 (kk H locs ls hR hS g1 g2 hl)
theorem lo_all {ls : Array Slot} {nL : Nat} {lo : List (Option Value)} (h : lo_has ls nL lo) : lv_has ls nL ((List.range lo.length).filterMap fun i => (lo[i]?.join).map fun v => (i, v)) := by
  refine ⟨h.1, h.2.1, fun q hq => ?_⟩
  obtain ⟨i, -, hi⟩ := List.mem_filterMap.mp hq
  cases hv : lo[i]? with
  | none => rw [hv] at hi; cases hi
  | some o =>
    cases o with
    | none => rw [hv] at hi; cases hi
    | some v =>
      rw [hv] at hi
      simp at hi
      subst hi
      exact (h.2.2 i v hv).2
theorem lo_from {ls : Array Slot} {nL : Nat} {lo : List (Option Value)} {i : Nat} {v : Value} {l : List (Nat × Value)} (hc : v.category = 1) (hlo : ∀ (j : Nat) (w : Value), lo[j]? = some (some w) → w.category = 1) (h : lv_has ls nL ((i, v) :: ((List.range lo.length).filterMap fun i => (lo[i]?.join).map fun v => (i, v)).filter (fun q => !(q.1 == i) && !(q.1 + 1 == i && q.2.category == 2)))) : lo_has ls nL (lo.set i (some v)) := by
  refine ⟨h.1, h.2.1, fun j w hj => ?_⟩
  by_cases hji : j = i
  · subst hji
    have hw : w = v := by
      rw [List.getElem?_set] at hj
      simp at hj
      exact hj.2.symm
    subst hw
    exact ⟨hc, h.2.2 (j, w) List.mem_cons_self⟩
  · rw [List.getElem?_set_ne (Ne.symm hji)] at hj
    have hw := hlo j w hj
    refine ⟨hw, h.2.2 (j, w) (List.mem_cons_of_mem _ (List.mem_filter.mpr ⟨List.mem_filterMap.mpr ⟨j, List.mem_range.mpr (List.getElem?_eq_some_iff.mp hj).1, by rw [hj]; rfl⟩, ?_⟩))⟩
    simp [hji, hw]
theorem hv_istore_n (X : hv_X k cc own nL fr lw ret nm) {n : Fin 4} {i : Nat} {x : Int32} (d : decode cc pc = .ok (.istore_n n, 1)) (kk : hv_V k σ pn lo' st) (hi : (n : Nat) = i := by rfl) (hn : i < nL := by decide) (hx : lo.set i (some (.int x)) = lo' := by rfl) (hp : pn = pc + 1 := by rfl) : hv_V k σ pc lo (.int x :: st) := by
  subst hp
  subst hx
  intro H locs ls hR hS g1 g2 hl
  exact lv_istore_n X.1 X.2.1 d hi (lo_all hl) (by rw [X.2.2.2.2.2.2.2.2.2.2.2.2.2.1]; exact hn) rfl (fun ls' h' => kk H locs ls' hR hS g1 g2 (lo_from (l := []) rfl (fun j w h => (hl.2.2 j w h).1) h'))
theorem hv_istore (X : hv_X k cc own nL fr lw ret nm) {i : Nat} {x : Int32} (d : decode cc pc = .ok (.istore i, 2)) (kk : hv_V k σ pn lo' st) (hn : i < nL := by decide) (hx : lo.set i (some (.int x)) = lo' := by rfl) (hp : pn = pc + 2 := by rfl) : hv_V k σ pc lo (.int x :: st) := by
  subst hp
  subst hx
  intro H locs ls hR hS g1 g2 hl
  exact lv_istore X.1 X.2.1 d (lo_all hl) (by rw [X.2.2.2.2.2.2.2.2.2.2.2.2.2.1]; exact hn) rfl (fun ls' h' => kk H locs ls' hR hS g1 g2 (lo_from (l := []) rfl (fun j w h => (hl.2.2 j w h).1) h'))
theorem hv_astore_n (X : hv_X k cc own nL fr lw ret nm) {n : Fin 4} {i : Nat} {x : Nat} (d : decode cc pc = .ok (.astore_n n, 1)) (kk : hv_V k σ pn lo' st) (hi : (n : Nat) = i := by rfl) (hn : i < nL := by decide) (hx : lo.set i (some (.ref x)) = lo' := by rfl) (hp : pn = pc + 1 := by rfl) : hv_V k σ pc lo (.ref x :: st) := by
  subst hp
  subst hx
  intro H locs ls hR hS g1 g2 hl
  exact lv_astore_n X.1 X.2.1 d hi (lo_all hl) (by rw [X.2.2.2.2.2.2.2.2.2.2.2.2.2.1]; exact hn) rfl (fun ls' h' => kk H locs ls' hR hS g1 g2 (lo_from (l := []) rfl (fun j w h => (hl.2.2 j w h).1) h'))
theorem hv_astore (X : hv_X k cc own nL fr lw ret nm) {i : Nat} {x : Nat} (d : decode cc pc = .ok (.astore i, 2)) (kk : hv_V k σ pn lo' st) (hn : i < nL := by decide) (hx : lo.set i (some (.ref x)) = lo' := by rfl) (hp : pn = pc + 2 := by rfl) : hv_V k σ pc lo (.ref x :: st) := by
  subst hp
  subst hx
  intro H locs ls hR hS g1 g2 hl
  exact lv_astore X.1 X.2.1 d (lo_all hl) (by rw [X.2.2.2.2.2.2.2.2.2.2.2.2.2.1]; exact hn) rfl (fun ls' h' => kk H locs ls' hR hS g1 g2 (lo_from (l := []) rfl (fun j w h => (hl.2.2 j w h).1) h'))
theorem hv_drop {i : Nat} (kk : hv_V k σ pc lo' st) (hx : lo.set i none = lo' := by rfl) : hv_V k σ pc lo st := by
  subst hx
  intro H locs ls hR hS g1 g2 hl
  refine kk H locs ls hR hS g1 g2 ⟨hl.1, hl.2.1, fun j w hj => ?_⟩
  by_cases hji : j = i
  · subst hji
    rw [List.getElem?_set] at hj
    simp at hj
  · rw [List.getElem?_set_ne (Ne.symm hji)] at hj
    exact hl.2.2 j w hj
theorem hv_iinc (X : hv_X k cc own nL fr lw ret nm) {i : Nat} {n : Int} {x v : Int32} (d : decode cc pc = .ok (.iinc i n, 3)) (kk : hv_V k σ pn lo' st) (hn : i < nL := by decide) (hx : lo[i]? = some (some (.int x)) := by rfl) (hv : x + Int32.ofInt n = v := by rfl) (hs : lo.set i (some (.int v)) = lo' := by rfl) (hp : pn = pc + 3 := by rfl) : hv_V k σ pc lo st := by
  subst hp
  subst hs
  intro H locs ls hR hS g1 g2 hl
  have hall := lo_all hl
  refine lv_iinc (k := 0) (lv := (i, .int x) :: ((List.range lo.length).filterMap fun i => (lo[i]?.join).map fun v => (i, v))) X.1 X.2.1 d ⟨hall.1, hall.2.1, fun q hq => ?_⟩ rfl hv (by rw [X.2.2.2.2.2.2.2.2.2.2.2.2.2.1]; exact hn) rfl (fun ls' h' => kk H locs ls' hR hS g1 g2 (lo_from (l := []) rfl (fun j w h => (hl.2.2 j w h).1) ⟨h'.1, h'.2.1, fun q hq => h'.2.2 q ?_⟩))
  · rcases List.mem_cons.mp hq with rfl | hq
    · exact (hl.2.2 i _ hx).2
    · exact hall.2.2 q hq
  · rcases List.mem_cons.mp hq with rfl | hq
    · exact List.mem_cons_self
    · refine List.mem_cons_of_mem _ ?_
      rw [List.filter_cons]
      simp only [beq_self_eq_true, Bool.not_true, Bool.false_and]
      exact hq
theorem hv_iadd (X : hv_X k cc own nL fr lw ret nm) {x y : Int32} (d : decode cc pc = .ok (.iadd, 1))  (kk : hv_V k σ pn lo (.int (x + y) :: st)) (hp : pn = pc + 1 := by rfl) : hv_V k σ pc lo (.int y :: .int x :: st) := by
  subst hp
  intro H locs ls hR hS g1 g2 hl
  exact lv_iadd X.1 X.2.1 d  (kk H locs ls hR hS g1 g2 hl)
theorem hv_isub (X : hv_X k cc own nL fr lw ret nm) {x y : Int32} (d : decode cc pc = .ok (.isub, 1))  (kk : hv_V k σ pn lo (.int (x - y) :: st)) (hp : pn = pc + 1 := by rfl) : hv_V k σ pc lo (.int y :: .int x :: st) := by
  subst hp
  intro H locs ls hR hS g1 g2 hl
  exact lv_isub X.1 X.2.1 d  (kk H locs ls hR hS g1 g2 hl)
theorem hv_imul (X : hv_X k cc own nL fr lw ret nm) {x y : Int32} (d : decode cc pc = .ok (.imul, 1))  (kk : hv_V k σ pn lo (.int (x * y) :: st)) (hp : pn = pc + 1 := by rfl) : hv_V k σ pc lo (.int y :: .int x :: st) := by
  subst hp
  intro H locs ls hR hS g1 g2 hl
  exact lv_imul X.1 X.2.1 d  (kk H locs ls hR hS g1 g2 hl)
theorem hv_iand (X : hv_X k cc own nL fr lw ret nm) {x y : Int32} (d : decode cc pc = .ok (.iand, 1))  (kk : hv_V k σ pn lo (.int (x &&& y) :: st)) (hp : pn = pc + 1 := by rfl) : hv_V k σ pc lo (.int y :: .int x :: st) := by
  subst hp
  intro H locs ls hR hS g1 g2 hl
  exact lv_iand X.1 X.2.1 d  (kk H locs ls hR hS g1 g2 hl)
theorem hv_ior (X : hv_X k cc own nL fr lw ret nm) {x y : Int32} (d : decode cc pc = .ok (.ior, 1))  (kk : hv_V k σ pn lo (.int (x ||| y) :: st)) (hp : pn = pc + 1 := by rfl) : hv_V k σ pc lo (.int y :: .int x :: st) := by
  subst hp
  intro H locs ls hR hS g1 g2 hl
  exact lv_ior X.1 X.2.1 d  (kk H locs ls hR hS g1 g2 hl)
theorem hv_ixor (X : hv_X k cc own nL fr lw ret nm) {x y : Int32} (d : decode cc pc = .ok (.ixor, 1))  (kk : hv_V k σ pn lo (.int (x ^^^ y) :: st)) (hp : pn = pc + 1 := by rfl) : hv_V k σ pc lo (.int y :: .int x :: st) := by
  subst hp
  intro H locs ls hR hS g1 g2 hl
  exact lv_ixor X.1 X.2.1 d  (kk H locs ls hR hS g1 g2 hl)
theorem hv_ishl (X : hv_X k cc own nL fr lw ret nm) {x y : Int32} (d : decode cc pc = .ok (.ishl, 1))  (kk : hv_V k σ pn lo (.int (ho_sl x y) :: st)) (hp : pn = pc + 1 := by rfl) : hv_V k σ pc lo (.int y :: .int x :: st) := by
  subst hp
  intro H locs ls hR hS g1 g2 hl
  exact lv_ishl X.1 X.2.1 d  (kk H locs ls hR hS g1 g2 hl)
theorem hv_ishr (X : hv_X k cc own nL fr lw ret nm) {x y : Int32} (d : decode cc pc = .ok (.ishr, 1))  (kk : hv_V k σ pn lo (.int (ho_sr x y) :: st)) (hp : pn = pc + 1 := by rfl) : hv_V k σ pc lo (.int y :: .int x :: st) := by
  subst hp
  intro H locs ls hR hS g1 g2 hl
  exact lv_ishr X.1 X.2.1 d  (kk H locs ls hR hS g1 g2 hl)
theorem hv_idiv (X : hv_X k cc own nL fr lw ret nm) {x y : Int32} (d : decode cc pc = .ok (.idiv, 1)) (hne : ¬ y = 0) (kk : hv_V k σ pn lo (.int (x / y) :: st)) (hp : pn = pc + 1 := by rfl) : hv_V k σ pc lo (.int y :: .int x :: st) := by
  subst hp
  intro H locs ls hR hS g1 g2 hl
  exact lv_idiv X.1 X.2.1 d hne (kk H locs ls hR hS g1 g2 hl)
theorem hv_irem (X : hv_X k cc own nL fr lw ret nm) {x y : Int32} (d : decode cc pc = .ok (.irem, 1)) (hne : ¬ y = 0) (kk : hv_V k σ pn lo (.int (ho_rm x y) :: st)) (hp : pn = pc + 1 := by rfl) : hv_V k σ pc lo (.int y :: .int x :: st) := by
  subst hp
  intro H locs ls hR hS g1 g2 hl
  exact lv_irem X.1 X.2.1 d hne (kk H locs ls hR hS g1 g2 hl)
theorem hv_ineg (X : hv_X k cc own nL fr lw ret nm) {x : Int32} (d : decode cc pc = .ok (.ineg, 1))  (kk : hv_V k σ pn lo (.int (-x) :: st)) (hp : pn = pc + 1 := by rfl) : hv_V k σ pc lo (.int x :: st) := by
  subst hp
  intro H locs ls hR hS g1 g2 hl
  exact lv_ineg X.1 X.2.1 d  (kk H locs ls hR hS g1 g2 hl)
theorem hv_iushr (X : hv_X k cc own nL fr lw ret nm) {x y : Int32} (d : decode cc pc = .ok (.iushr, 1))  (kk : hv_V k σ pn lo (.int (ho_ur x y) :: st)) (hp : pn = pc + 1 := by rfl) : hv_V k σ pc lo (.int y :: .int x :: st) := by
  subst hp
  intro H locs ls hR hS g1 g2 hl
  exact lv_iushr X.1 X.2.1 d rfl (kk H locs ls hR hS g1 g2 hl)
theorem hv_i2l (X : hv_X k cc own nL fr lw ret nm) {x : Int32} (d : decode cc pc = .ok (.i2l, 1))  (kk : hv_V k σ pn lo (.long x.toInt64 :: st)) (hp : pn = pc + 1 := by rfl) : hv_V k σ pc lo (.int x :: st) := by
  subst hp
  intro H locs ls hR hS g1 g2 hl
  exact lv_i2l X.1 X.2.1 d rfl (kk H locs ls hR hS g1 g2 hl)
theorem hv_dup (X : hv_X k cc own nL fr lw ret nm) {v : Value} (d : decode cc pc = .ok (.dup, 1)) (hv : v.category = 1) (kk : hv_V k σ pn lo (v :: v :: st)) (hp : pn = pc + 1 := by rfl) : hv_V k σ pc lo (v :: st) := by
  subst hp
  intro H locs ls hR hS g1 g2 hl
  exact lv_dup X.1 X.2.1 d hv (kk H locs ls hR hS g1 g2 hl)
theorem hv_pop (X : hv_X k cc own nL fr lw ret nm) {v : Value} (d : decode cc pc = .ok (.pop, 1)) (hv : v.category = 1) (kk : hv_V k σ pn lo (st)) (hp : pn = pc + 1 := by rfl) : hv_V k σ pc lo (v :: st) := by
  subst hp
  intro H locs ls hR hS g1 g2 hl
  exact lv_pop X.1 X.2.1 d hv (kk H locs ls hR hS g1 g2 hl)
theorem hv_dup_x1 (X : hv_X k cc own nL fr lw ret nm) {v w : Value} (d : decode cc pc = .ok (.dup_x1, 1)) (hv : v.category = 1) (hw : w.category = 1) (kk : hv_V k σ pn lo (v :: w :: v :: st)) (hp : pn = pc + 1 := by rfl) : hv_V k σ pc lo (v :: w :: st) := by
  subst hp
  intro H locs ls hR hS g1 g2 hl
  exact lv_dup_x1 X.1 X.2.1 d hv hw (kk H locs ls hR hS g1 g2 hl)
theorem hv_dup_x2 (X : hv_X k cc own nL fr lw ret nm) {v w u : Value} (d : decode cc pc = .ok (.dup_x2, 1)) (hv : v.category = 1) (hw : w.category = 1) (hu : u.category = 1) (kk : hv_V k σ pn lo (v :: w :: u :: v :: st)) (hp : pn = pc + 1 := by rfl) : hv_V k σ pc lo (v :: w :: u :: st) := by
  subst hp
  intro H locs ls hR hS g1 g2 hl
  exact lv_dup_x2 X.1 X.2.1 d hv hw hu (kk H locs ls hR hS g1 g2 hl)
theorem hv_dup2 (X : hv_X k cc own nL fr lw ret nm) {v w : Value} (d : decode cc pc = .ok (.dup2, 1)) (hv : v.category = 1) (hw : w.category = 1) (kk : hv_V k σ pn lo (v :: w :: v :: w :: st)) (hp : pn = pc + 1 := by rfl) : hv_V k σ pc lo (v :: w :: st) := by
  subst hp
  intro H locs ls hR hS g1 g2 hl
  exact lv_dup2_11 X.1 X.2.1 d hv hw (kk H locs ls hR hS g1 g2 hl)
theorem hv_null (X : hv_X k cc own nL fr lw ret nm)  (d : decode cc pc = .ok (.aconst_null, 1))  (kk : hv_V k σ pn lo (.null :: st)) (hp : pn = pc + 1 := by rfl) : hv_V k σ pc lo (st) := by
  subst hp
  intro H locs ls hR hS g1 g2 hl
  exact lv_null X.1 X.2.1 d  (kk H locs ls hR hS g1 g2 hl)
theorem hv_if_eq (X : hv_X k cc own nL fr lw ret nm) {x : Int32} {off : Int} {tgt : Nat} (d : decode cc pc = .ok (.ifCond .eq off, 3)) (ht : (pc : Int) + off = (tgt : Int)) (kt : (x = 0) → hv_V k σ tgt lo st) (kf : ¬ (x = 0) → hv_V k σ pn lo st) (hp : pn = pc + 3 := by rfl) : hv_V k σ pc lo (.int x :: st) := by
  subst hp
  intro H locs ls hR hS g1 g2 hl
  exact lv_if_eq X.1 X.2.1 d ht (fun h => kt h H locs ls hR hS g1 g2 hl) (fun h => kf h H locs ls hR hS g1 g2 hl)
theorem hv_icmp_eq (X : hv_X k cc own nL fr lw ret nm) {x y : Int32} {off : Int} {tgt : Nat} (d : decode cc pc = .ok (.if_icmp .eq off, 3)) (ht : (pc : Int) + off = (tgt : Int)) (kt : (x = y) → hv_V k σ tgt lo st) (kf : ¬ (x = y) → hv_V k σ pn lo st) (hp : pn = pc + 3 := by rfl) : hv_V k σ pc lo (.int y :: .int x :: st) := by
  subst hp
  intro H locs ls hR hS g1 g2 hl
  exact lv_icmp_eq X.1 X.2.1 d ht (fun h => kt h H locs ls hR hS g1 g2 hl) (fun h => kf h H locs ls hR hS g1 g2 hl)
theorem hv_if_ne (X : hv_X k cc own nL fr lw ret nm) {x : Int32} {off : Int} {tgt : Nat} (d : decode cc pc = .ok (.ifCond .ne off, 3)) (ht : (pc : Int) + off = (tgt : Int)) (kt : (¬ x = 0) → hv_V k σ tgt lo st) (kf : ¬ (¬ x = 0) → hv_V k σ pn lo st) (hp : pn = pc + 3 := by rfl) : hv_V k σ pc lo (.int x :: st) := by
  subst hp
  intro H locs ls hR hS g1 g2 hl
  exact lv_if_ne X.1 X.2.1 d ht (fun h => kt h H locs ls hR hS g1 g2 hl) (fun h => kf (fun q => q h) H locs ls hR hS g1 g2 hl)
theorem hv_icmp_ne (X : hv_X k cc own nL fr lw ret nm) {x y : Int32} {off : Int} {tgt : Nat} (d : decode cc pc = .ok (.if_icmp .ne off, 3)) (ht : (pc : Int) + off = (tgt : Int)) (kt : (¬ x = y) → hv_V k σ tgt lo st) (kf : ¬ (¬ x = y) → hv_V k σ pn lo st) (hp : pn = pc + 3 := by rfl) : hv_V k σ pc lo (.int y :: .int x :: st) := by
  subst hp
  intro H locs ls hR hS g1 g2 hl
  exact lv_icmp_ne X.1 X.2.1 d ht (fun h => kt h H locs ls hR hS g1 g2 hl) (fun h => kf (fun q => q h) H locs ls hR hS g1 g2 hl)
theorem hv_if_lt (X : hv_X k cc own nL fr lw ret nm) {x : Int32} {off : Int} {tgt : Nat} (d : decode cc pc = .ok (.ifCond .lt off, 3)) (ht : (pc : Int) + off = (tgt : Int)) (kt : (x < 0) → hv_V k σ tgt lo st) (kf : ¬ (x < 0) → hv_V k σ pn lo st) (hp : pn = pc + 3 := by rfl) : hv_V k σ pc lo (.int x :: st) := by
  subst hp
  intro H locs ls hR hS g1 g2 hl
  exact lv_if_lt X.1 X.2.1 d ht (fun h => kt h H locs ls hR hS g1 g2 hl) (fun h => kf h H locs ls hR hS g1 g2 hl)
theorem hv_icmp_lt (X : hv_X k cc own nL fr lw ret nm) {x y : Int32} {off : Int} {tgt : Nat} (d : decode cc pc = .ok (.if_icmp .lt off, 3)) (ht : (pc : Int) + off = (tgt : Int)) (kt : (x < y) → hv_V k σ tgt lo st) (kf : ¬ (x < y) → hv_V k σ pn lo st) (hp : pn = pc + 3 := by rfl) : hv_V k σ pc lo (.int y :: .int x :: st) := by
  subst hp
  intro H locs ls hR hS g1 g2 hl
  exact lv_icmp_lt X.1 X.2.1 d ht (fun h => kt h H locs ls hR hS g1 g2 hl) (fun h => kf h H locs ls hR hS g1 g2 hl)
theorem hv_if_ge (X : hv_X k cc own nL fr lw ret nm) {x : Int32} {off : Int} {tgt : Nat} (d : decode cc pc = .ok (.ifCond .ge off, 3)) (ht : (pc : Int) + off = (tgt : Int)) (kt : (0 ≤ x) → hv_V k σ tgt lo st) (kf : ¬ (0 ≤ x) → hv_V k σ pn lo st) (hp : pn = pc + 3 := by rfl) : hv_V k σ pc lo (.int x :: st) := by
  subst hp
  intro H locs ls hR hS g1 g2 hl
  exact lv_if_ge X.1 X.2.1 d ht (fun h => kt h H locs ls hR hS g1 g2 hl) (fun h => kf h H locs ls hR hS g1 g2 hl)
theorem hv_icmp_ge (X : hv_X k cc own nL fr lw ret nm) {x y : Int32} {off : Int} {tgt : Nat} (d : decode cc pc = .ok (.if_icmp .ge off, 3)) (ht : (pc : Int) + off = (tgt : Int)) (kt : (y ≤ x) → hv_V k σ tgt lo st) (kf : ¬ (y ≤ x) → hv_V k σ pn lo st) (hp : pn = pc + 3 := by rfl) : hv_V k σ pc lo (.int y :: .int x :: st) := by
  subst hp
  intro H locs ls hR hS g1 g2 hl
  exact lv_icmp_ge X.1 X.2.1 d ht (fun h => kt h H locs ls hR hS g1 g2 hl) (fun h => kf h H locs ls hR hS g1 g2 hl)
theorem hv_if_gt (X : hv_X k cc own nL fr lw ret nm) {x : Int32} {off : Int} {tgt : Nat} (d : decode cc pc = .ok (.ifCond .gt off, 3)) (ht : (pc : Int) + off = (tgt : Int)) (kt : (0 < x) → hv_V k σ tgt lo st) (kf : ¬ (0 < x) → hv_V k σ pn lo st) (hp : pn = pc + 3 := by rfl) : hv_V k σ pc lo (.int x :: st) := by
  subst hp
  intro H locs ls hR hS g1 g2 hl
  exact lv_if_gt X.1 X.2.1 d ht (fun h => kt h H locs ls hR hS g1 g2 hl) (fun h => kf h H locs ls hR hS g1 g2 hl)
theorem hv_icmp_gt (X : hv_X k cc own nL fr lw ret nm) {x y : Int32} {off : Int} {tgt : Nat} (d : decode cc pc = .ok (.if_icmp .gt off, 3)) (ht : (pc : Int) + off = (tgt : Int)) (kt : (y < x) → hv_V k σ tgt lo st) (kf : ¬ (y < x) → hv_V k σ pn lo st) (hp : pn = pc + 3 := by rfl) : hv_V k σ pc lo (.int y :: .int x :: st) := by
  subst hp
  intro H locs ls hR hS g1 g2 hl
  exact lv_icmp_gt X.1 X.2.1 d ht (fun h => kt h H locs ls hR hS g1 g2 hl) (fun h => kf h H locs ls hR hS g1 g2 hl)
theorem hv_if_le (X : hv_X k cc own nL fr lw ret nm) {x : Int32} {off : Int} {tgt : Nat} (d : decode cc pc = .ok (.ifCond .le off, 3)) (ht : (pc : Int) + off = (tgt : Int)) (kt : (x ≤ 0) → hv_V k σ tgt lo st) (kf : ¬ (x ≤ 0) → hv_V k σ pn lo st) (hp : pn = pc + 3 := by rfl) : hv_V k σ pc lo (.int x :: st) := by
  subst hp
  intro H locs ls hR hS g1 g2 hl
  exact lv_if_le X.1 X.2.1 d ht (fun h => kt h H locs ls hR hS g1 g2 hl) (fun h => kf h H locs ls hR hS g1 g2 hl)
theorem hv_icmp_le (X : hv_X k cc own nL fr lw ret nm) {x y : Int32} {off : Int} {tgt : Nat} (d : decode cc pc = .ok (.if_icmp .le off, 3)) (ht : (pc : Int) + off = (tgt : Int)) (kt : (x ≤ y) → hv_V k σ tgt lo st) (kf : ¬ (x ≤ y) → hv_V k σ pn lo st) (hp : pn = pc + 3 := by rfl) : hv_V k σ pc lo (.int y :: .int x :: st) := by
  subst hp
  intro H locs ls hR hS g1 g2 hl
  exact lv_icmp_le X.1 X.2.1 d ht (fun h => kt h H locs ls hR hS g1 g2 hl) (fun h => kf h H locs ls hR hS g1 g2 hl)
theorem hv_goto (X : hv_X k cc own nL fr lw ret nm) {off : Int} {tgt : Nat} (d : decode cc pc = .ok (.goto off, 3)) (ht : (pc : Int) + off = (tgt : Int)) (kk : hv_V k σ tgt lo st) : hv_V k σ pc lo st := by
  intro H locs ls hR hS g1 g2 hl
  exact lv_goto X.1 X.2.1 d ht (kk H locs ls hR hS g1 g2 hl)
end HV
/-! the operations of the heap, as functions -/
def ho_set (σ : ho_H) (a : Nat) (e : va_E) : ho_H := (σ.1, σ.2.1, fun q => if q = a then some e else σ.2.2 q)
def ho_f (σ : ho_H) (a ci : Nat) : Option (List Value) := match σ.2.2 a with
  | some (.inr (c, fs)) => if c = ci then some fs else none
  | _ => none
def ho_vI (v : Option Value) : Option Int32 := match v with
  | some (.int x) => some x
  | _ => none
def ho_vR (v : Option Value) : Option Nat := match v with
  | some (.ref x) => some x
  | _ => none
def ho_gI (σ : ho_H) (a ci j : Nat) : Option Int32 := (ho_f σ a ci).bind fun fs => ho_vI fs[j]?
def ho_gR (σ : ho_H) (a ci j : Nat) : Option Nat := (ho_f σ a ci).bind fun fs => ho_vR fs[j]?
def ho_p (σ : ho_H) (a ci j : Nat) (v : Value) : Option ho_H := (ho_f σ a ci).bind fun fs => if j < fs.length then some (ho_set σ a (.inr (ci, fs.set j v))) else none
def ho_ix (i : Int32) (n : Nat) : Option Nat := if i < 0 ∨ n ≤ i.toNatClampNeg then none else some i.toNatClampNeg
/-- arrays of ints (kind 0) and of booleans (kind 1) -/
def ho_aI (G : ho_G) (σ : ho_H) (a kd : Nat) : Option (Nat × (Nat → Int32)) := match σ.2.2 a with
  | some (.inl (c, n, .inl f)) => if c = gc G kd then some (n, f) else none
  | _ => none
def ho_aL (G : ho_G) (σ : ho_H) (a kd : Nat) : Option (Nat × (Nat → Int64)) := match σ.2.2 a with
  | some (.inl (c, n, .inr (.inl f))) => if c = gc G kd then some (n, f) else none
  | _ => none
def ho_aR (G : ho_G) (σ : ho_H) (a kd : Nat) : Option (Nat × (Nat → Option Nat)) := match σ.2.2 a with
  | some (.inl (c, n, .inr (.inr (.inr (.inr f))))) => if c = gc G kd then some (n, f) else none
  | _ => none
/-- ints to read: an array of the heap, or a table -/
def ho_rI (G : ho_G) (σ : ho_H) (a : Nat) : Option (Nat × (Nat → Int32)) := match σ.2.2 a with
  | some (.inl (c, n, .inl f)) => if c = gc G 0 then some (n, f) else none
  | some _ => none
  | none => gR G a
def ho_ldI (G : ho_G) (σ : ho_H) (a : Nat) (i : Int32) : Option Int32 := (ho_rI G σ a).bind fun q => (ho_ix i q.1).map q.2
def ho_ldZ (G : ho_G) (σ : ho_H) (a : Nat) (i : Int32) : Option Int32 := (ho_aI G σ a 1).bind fun q => (ho_ix i q.1).map q.2
def ho_ldL (G : ho_G) (σ : ho_H) (a kd : Nat) (i : Int32) : Option Int64 := (ho_aL G σ a kd).bind fun q => (ho_ix i q.1).map q.2
def ho_ldR (G : ho_G) (σ : ho_H) (a kd : Nat) (i : Int32) : Option Nat := (ho_aR G σ a kd).bind fun q => (ho_ix i q.1).bind q.2
def ho_stI (G : ho_G) (σ : ho_H) (a : Nat) (i x : Int32) : Option ho_H := (ho_aI G σ a 0).bind fun q => (ho_ix i q.1).map fun j => ho_set σ a (.inl (gc G 0, q.1, .inl (upd q.2 j x)))
def ho_stZ (G : ho_G) (σ : ho_H) (a : Nat) (i x : Int32) : Option ho_H := (ho_aI G σ a 1).bind fun q => (ho_ix i q.1).map fun j => ho_set σ a (.inl (gc G 1, q.1, .inl (upd q.2 j (vp_nar .boolean x))))
def ho_stL (G : ho_G) (σ : ho_H) (a kd : Nat) (i : Int32) (x : Int64) : Option ho_H := (ho_aL G σ a kd).bind fun q => (ho_ix i q.1).map fun j => ho_set σ a (.inl (gc G kd, q.1, .inr (.inl (vp_updL q.2 j x))))
def ho_stR (G : ho_G) (σ : ho_H) (a kd : Nat) (i : Int32) (x : Option Nat) : Option ho_H := (ho_aR G σ a kd).bind fun q => (ho_ix i q.1).map fun j => ho_set σ a (.inl (gc G kd, q.1, .inr (.inr (.inr (.inr (va_up q.2 j x))))))
def ho_lnI (G : ho_G) (σ : ho_H) (a : Nat) : Option Int32 := (ho_rI G σ a).map fun q => Int32.ofNat q.1
def ho_lnR (G : ho_G) (σ : ho_H) (a kd : Nat) : Option Int32 := (ho_aR G σ a kd).map fun q => Int32.ofNat q.1
def ho_al (G : ho_G) (σ : ho_H) (N : Nat) (e : va_E) : Option (ho_H × Nat) := if σ.1 + 1 ≤ gC G ∧ σ.2.1 + N ≤ gS G then some ((σ.1 + 1, σ.2.1 + N, fun q => if q = σ.1 then some e else σ.2.2 q), σ.1) else none
def ho_n (n : Int32) : Option Nat := if n < 0 ∨ 60000000 < n.toNatClampNeg then none else some n.toNatClampNeg
def ho_nwI (G : ho_G) (σ : ho_H) (n : Int32) : Option (ho_H × Nat) := (ho_n n).bind fun N => ho_al G σ N (.inl (gc G 0, N, .inl fun _ => 0))
def ho_nwZ (G : ho_G) (σ : ho_H) (n : Int32) : Option (ho_H × Nat) := (ho_n n).bind fun N => ho_al G σ N (.inl (gc G 1, N, .inl fun _ => 0))
def ho_nwL (G : ho_G) (σ : ho_H) (kd : Nat) (n : Int32) : Option (ho_H × Nat) := (ho_n n).bind fun N => ho_al G σ N (.inl (gc G kd, N, .inr (.inl fun _ => 0)))
def ho_nwR (G : ho_G) (σ : ho_H) (kd : Nat) (n : Int32) : Option (ho_H × Nat) := (ho_n n).bind fun N => ho_al G σ N (.inl (gc G kd, N, .inr (.inr (.inr (.inr fun _ => none)))))
/-- a call came back: heaps only grow -/
def ho_ck {α : Type} (σ : ho_H) (x : Option (ho_H × α)) : Option (ho_H × α) := x.bind fun r => if σ.1 ≤ r.1.1 ∧ σ.2.1 ≤ r.1.2.1 then some r else none
/-- a loop, with fuel -/
def ho_it {S E : Type} (f : S → Option (S ⊕ E)) : Nat → S → Option E
  | 0, _ => none
  | n + 1, s => match f s with
    | none => none
    | some (.inl s') => ho_it f n s'
    | some (.inr e) => some e
theorem bd_E {α β : Type} {x : Option α} {f : α → Option β} {r : β} (h : x.bind f = some r) : ∃ v, x = some v ∧ f v = some r := Option.bind_eq_some_iff.mp h
theorem mp_E {α β : Type} {x : Option α} {f : α → β} {r : β} (h : x.map f = some r) : ∃ v, x = some v ∧ f v = r := Option.map_eq_some_iff.mp h
theorem ho_ix_E {i : Int32} {n j : Nat} (h : ho_ix i n = some j) : vp_in i n ∧ j = i.toNatClampNeg := by
  unfold ho_ix at h
  split at h
  · cases h
  · next hn => exact ⟨hn, (Option.some.inj h).symm⟩
theorem ho_f_E {σ : ho_H} {a ci : Nat} {fs : List Value} (h : ho_f σ a ci = some fs) : σ.2.2 a = some (.inr (ci, fs)) := by
  unfold ho_f at h
  split at h
  · next c fs' e =>
    split at h
    · next hc => subst hc; rw [e, Option.some.inj h]
    · cases h
  · cases h
theorem ho_vI_E {v : Option Value} {x : Int32} (h : ho_vI v = some x) : v = some (.int x) := by
  unfold ho_vI at h
  split at h
  · rw [Option.some.inj h]
  · cases h
theorem ho_vR_E {v : Option Value} {x : Nat} (h : ho_vR v = some x) : v = some (.ref x) := by
  unfold ho_vR at h
  split at h
  · rw [Option.some.inj h]
  · cases h
theorem ho_aI_E {G : ho_G} {σ : ho_H} {a kd : Nat} {q : Nat × (Nat → Int32)} (h : ho_aI G σ a kd = some q) : σ.2.2 a = some (.inl (gc G kd, q.1, .inl q.2)) := by
  unfold ho_aI at h
  split at h
  · next c n f e =>
    split at h
    · next hc => subst hc; rw [e, ← Option.some.inj h]
    · cases h
  · cases h
theorem ho_aL_E {G : ho_G} {σ : ho_H} {a kd : Nat} {q : Nat × (Nat → Int64)} (h : ho_aL G σ a kd = some q) : σ.2.2 a = some (.inl (gc G kd, q.1, .inr (.inl q.2))) := by
  unfold ho_aL at h
  split at h
  · next c n f e =>
    split at h
    · next hc => subst hc; rw [e, ← Option.some.inj h]
    · cases h
  · cases h
theorem ho_aR_E {G : ho_G} {σ : ho_H} {a kd : Nat} {q : Nat × (Nat → Option Nat)} (h : ho_aR G σ a kd = some q) : σ.2.2 a = some (.inl (gc G kd, q.1, .inr (.inr (.inr (.inr q.2))))) := by
  unfold ho_aR at h
  split at h
  · next c n f e =>
    split at h
    · next hc => subst hc; rw [e, ← Option.some.inj h]
    · cases h
  · cases h
theorem ho_rI_E {G : ho_G} {σ : ho_H} {a : Nat} {q : Nat × (Nat → Int32)} (h : ho_rI G σ a = some q) : σ.2.2 a = some (.inl (gc G 0, q.1, .inl q.2)) ∨ gR G a = some q := by
  unfold ho_rI at h
  split at h
  · next c n f e =>
    split at h
    · next hc => subst hc; rw [e, ← Option.some.inj h]; exact Or.inl rfl
    · cases h
  · cases h
  · exact Or.inr h
theorem va_P1 {D : va_G} {cl : List vw_C} {q : Nat × va_E} {H : Heap} (h : va_at D cl q H) : va_P D cl [q] H := by
  intro k x hk
  cases k with
  | zero => simp at hk; subst hk; exact h
  | succ k => simp at hk
theorem hs_R.set {G : ho_G} {σ : ho_H} {H H1 : Heap} {a : Nat} {e0 e : va_E} (h : hs_R G σ H) (he : σ.2.2 a = some e0) (z : H1.size = H.size) (oq : ∀ q : Nat, q ≠ a → H1[q]? = H[q]?) (hat : va_at (gD G) vwCl (a, e) H1) : hs_R G (ho_set σ a e) H1 := by
  refine ⟨z.trans h.1, h.2.1, h.2.2.1, fun b x hb => ?_⟩
  unfold ho_set at hb
  dsimp only at hb
  by_cases hba : b = a
  · rw [if_pos hba] at hb
    cases hb
    subst hba
    exact ⟨(h.2.2.2 b e0 he).1, hat⟩
  · rw [if_neg hba] at hb
    exact ⟨(h.2.2.2 b x hb).1, (h.2.2.2 b x hb).2.kept (oq b hba)⟩
theorem hs_R.push {G : ho_G} {σ σ' : ho_H} {H H1 : Heap} {N a : Nat} {e : va_E} (h : hs_R G σ H) (hal : ho_al G σ N e = some (σ', a)) (hB : gB G ≤ H.size) (z : H1.size = H.size + 1) (oq : ∀ q : Nat, q < H.size → H1[q]? = H[q]?) (hat : va_at (gD G) vwCl (H.size, e) H1) : hs_R G σ' H1 ∧ a = H.size ∧ σ'.1 = σ.1 + 1 ∧ σ'.2.1 = σ.2.1 + N ∧ σ.1 + 1 ≤ gC G ∧ σ.2.1 + N ≤ gS G := by
  unfold ho_al at hal
  split at hal
  · next hc =>
    cases hal
    refine ⟨⟨by rw [z, h.1], hc.1, hc.2, fun b x hb => ?_⟩, h.1.symm, rfl, rfl, hc.1, hc.2⟩
    dsimp only at hb
    by_cases hba : b = σ.1
    · rw [if_pos hba] at hb
      cases hb
      subst hba
      rw [← h.1]
      exact ⟨hB, hat⟩
    · rw [if_neg hba] at hb
      have hx := h.2.2.2 b x hb
      exact ⟨hx.1, hx.2.kept (oq b hx.2.lt)⟩
  · cases hal
theorem ho_al_E {G : ho_G} {σ σ' : ho_H} {N a : Nat} {e : va_E} (hal : ho_al G σ N e = some (σ', a)) : σ.1 + 1 ≤ gC G ∧ σ.2.1 + N ≤ gS G ∧ σ'.1 = σ.1 + 1 ∧ σ'.2.1 = σ.2.1 + N ∧ a = σ.1 := by
  unfold ho_al at hal
  split at hal
  · next hc =>
    cases hal
    exact ⟨hc.1, hc.2, rfl, rfl, rfl⟩
  · cases hal
theorem va_S.grow {A : Nat → Prop} {H0 H H1 : Heap} {locs : List Loc} (h : va_S A H0 H locs) (z : H.size ≤ H1.size) (oq : ∀ q : Nat, q < H.size → H1[q]? = H[q]?) : va_S A H0 H1 locs :=
  ⟨Nat.le_trans h.1 z, fun q h1 h2 => (oq q (Nat.lt_of_lt_of_le h1 h.1)).trans (h.2.1 q h1 h2), h.2.2⟩
def ho_nz (y : Int32) : Option Unit := if y = 0 then none else some ()
theorem ho_nz_E {y : Int32} {u : Unit} (h : ho_nz y = some u) : ¬ y = 0 := by
  unfold ho_nz at h
  split at h
  · cases h
  · assumption
def ho_bz (y : Int32) : Option Unit := if y = 0 ∨ y = 1 then some () else none
theorem ho_bz_E {y : Int32} {u : Unit} (h : ho_bz y = some u) : narrow .boolean (.int y) = .int y := by
  unfold ho_bz at h
  split at h
  · next hc => rcases hc with rfl | rfl <;> decide
  · cases h
theorem nm_E {α β : Type} {x : α} {f : α → Option β} {r : β} (h : (some x).bind f = some r) : ∃ v, x = v ∧ f v = some r := ⟨x, rfl, h⟩
def ho_cv (σ : ho_H) (x : Option ho_H) : Option ho_H := x.bind fun r => if σ.1 ≤ r.1 ∧ σ.2.1 ≤ r.2.1 then some r else none
theorem ho_cv_E {σ : ho_H} {x : Option ho_H} {z : ho_H} (h : ho_cv σ x = some z) : x = some z ∧ σ.1 ≤ z.1 ∧ σ.2.1 ≤ z.2.1 := by
  obtain ⟨v, h1, h2⟩ := bd_E h
  split at h2
  · next hc => cases h2; exact ⟨h1, hc⟩
  · cases h2
def sm {A B : Type} (P : A → Prop) (Z : B → Prop) (r : A ⊕ B) : Prop := match r with
  | .inl a => P a
  | .inr b => Z b
end
section
/-! facts of pool entries -/
def hv_lk (own : String) (index : Nat) (ref n d : String) : Prop := Cond.fieldLink own index ref n d ∈ hv_ws ∨ ∃ host, (own, index, ref, n, d, host) ∈ hv_nwF
def hv_fa (own : String) (index ci j : Nat) : Prop := ∃ (C : String) (T : u_T) (N : Nat) (ref : String), vwCl[ci]? = some (C, T, N) ∧ (∀ w ∈ u_ws C T N, w ∈ hv_ws) ∧ j < N ∧ hv_lk own index ref (T j).2.1 (T j).2.2.1 ∧ (ref = (T j).1 ∨ Cond.sameField ref (T j).1 (T j).2.1 (T j).2.2.1 ∈ hv_ws)
def hv_fp (own : String) (index ci j : Nat) (ty : FieldType) (fin : Bool) : Prop := ∃ (C : String) (T : u_T) (N : Nat) (ref : String) (ty0 : Nat → FieldType), vwCl[ci]? = some (C, T, N) ∧ (∀ w ∈ u_ws C T N, w ∈ hv_ws) ∧ j < N ∧ hv_lk own index ref (T j).2.1 (T j).2.2.1 ∧ (ref = (T j).1 ∨ Cond.sameField ref (T j).1 (T j).2.1 (T j).2.2.1 ∈ hv_ws) ∧
  (∀ i, i < N → parseFieldDescriptor (T i).2.2.1 = some (ty0 i)) ∧ (∀ a, a < N → ∀ b, b < N → a ≠ b → (T a).2.1 ≠ (T b).2.1) ∧ (T j).2.2.2 = fin ∧ (fin = true → (T j).1 = own) ∧ parseFieldDescriptor (T j).2.2.1 = some ty
def hv_nw (own : String) (index ci N : Nat) (fs : List Value) : Prop := ∃ (C : String) (T : u_T) (ty : Nat → FieldType), vwCl[ci]? = some (C, T, N) ∧ (∀ w ∈ u_ws C T N, w ∈ hv_ws) ∧ (∀ i, i < N → parseFieldDescriptor (T i).2.2.1 = some (ty i)) ∧ Cond.classLink own index C ∈ hv_ws ∧ Cond.instantiable C N ∈ hv_ws ∧ Cond.initialized C ∈ hv_ws ∧ (∀ j, j < N → defaultValue (ty j) = vp_V fs j)
/-- a callee: its code and its link -/
def hv_cs (own : String) (index : Nat) (y : MethodName) (bytes : ByteArray) (maxL : Nat) (rt : Option FieldType) (n : Nat) : Prop := Cond.code y bytes maxL rt ∈ hv_ws ∧ Cond.initialized y.cls ∈ hv_ws ∧ (y.cls ≠ "java/lang/invoke/MethodHandle" ∧ y.cls ≠ "java/lang/invoke/VarHandle") ∧ (parseMethodDescriptor y.desc).map (fun d => d.parameters.length) = some n ∧ (Cond.methodLink own index y ∈ hv_ws ∨ ∃ host, (own, index, y, host) ∈ hv_nwM)
theorem hv_X.ts {k : mk_T} {cc : ByteArray} {own : String} {nL fr lw : Nat} {ret : Option FieldType} {nm : String} (X : hv_X k cc own nL fr lw ret nm) : ∀ w ∈ hv_ws, w.before k.1.2.2.2.2.2.2.1 k.1.2.2.2.2.1 = true := X.2.2.2.2.1
theorem hv_X.ow {k : mk_T} {cc : ByteArray} {own : String} {nL fr lw : Nat} {ret : Option FieldType} {nm : String} (X : hv_X k cc own nL fr lw ret nm) : k.1.2.2.2.2.1.vm.findClass own = some k.1.2.2.2.2.2.1.cls := X.2.2.2.1
theorem hv_X.gs {k : mk_T} {cc : ByteArray} {own : String} {nL fr lw : Nat} {ret : Option FieldType} {nm : String} (X : hv_X k cc own nL fr lw ret nm) : gs_ok k.2.1 k.1.2.2.2.2.1 k.1.2.2.2.2.1.heap := X.2.2.2.2.2.1
theorem hv_X.sz {k : mk_T} {cc : ByteArray} {own : String} {nL fr lw : Nat} {ret : Option FieldType} {nm : String} (X : hv_X k cc own nL fr lw ret nm) : k.1.2.2.2.2.1.heap.size = k.2.2.1.1 := X.2.2.2.2.2.2.1
theorem hv_X.rc {k : mk_T} {cc : ByteArray} {own : String} {nL fr lw : Nat} {ret : Option FieldType} {nm : String} (X : hv_X k cc own nL fr lw ret nm) : k.1.2.2.2.1.cells = gC k.2.1 - k.2.2.1.1 := X.2.2.2.2.2.2.2.1
theorem hv_X.rs {k : mk_T} {cc : ByteArray} {own : String} {nL fr lw : Nat} {ret : Option FieldType} {nm : String} (X : hv_X k cc own nL fr lw ret nm) : k.1.2.2.2.1.slots = gS k.2.1 - k.2.2.1.2.1 := X.2.2.2.2.2.2.2.2.1
theorem hv_X.fr {k : mk_T} {cc : ByteArray} {own : String} {nL fr lw : Nat} {ret : Option FieldType} {nm : String} (X : hv_X k cc own nL fr lw ret nm) : fr ≤ k.1.2.2.2.1.frames := X.2.2.2.2.2.2.2.2.2.1
theorem hv_X.lw {k : mk_T} {cc : ByteArray} {own : String} {nL fr lw : Nat} {ret : Option FieldType} {nm : String} (X : hv_X k cc own nL fr lw ret nm) : lw ≤ k.1.2.2.2.1.locals := X.2.2.2.2.2.2.2.2.2.2.1
theorem hv_X.rt {k : mk_T} {cc : ByteArray} {own : String} {nL fr lw : Nat} {ret : Option FieldType} {nm : String} (X : hv_X k cc own nL fr lw ret nm) : k.1.2.2.2.2.2.2.2.2.1.sig.returnType = ret := X.2.2.2.2.2.2.2.2.2.2.2.1
theorem hv_X.lk {k : mk_T} {cc : ByteArray} {own : String} {nL fr lw : Nat} {ret : Option FieldType} {nm : String} (X : hv_X k cc own nL fr lw ret nm) : k.1.2.2.2.2.2.2.2.2.1.locks = false := X.2.2.2.2.2.2.2.2.2.2.2.2.1
section HV2
variable {k : mk_T} {cc : ByteArray} {own : String} {nL fr lw : Nat} {ret : Option FieldType} {nm : String} {σ σ' : ho_H} {pc pn : Nat} {lo lo' : List (Option Value)} {st : List Value}
theorem hv_ldc (X : hv_X k cc own nL fr lw ret nm) {index : Nat} {v : Int32} (d : decode cc pc = .ok (.ldc index, 2)) (hw : Cond.constant own index v ∈ hv_ws) (kk : hv_V k σ pn lo (.int v :: st)) (hp : pn = pc + 2 := by rfl) : hv_V k σ pc lo st := by
  subst hp
  intro H locs ls hR hS g1 g2 hl
  exact lv_ldc X.1 X.2.1 X.ow (X.ts _ hw) d (kk H locs ls hR hS g1 g2 hl)
theorem hv_lcmp (X : hv_X k cc own nL fr lw ret nm) {x y : Int64} (d : decode cc pc = .ok (.lcmp, 1)) (kk : hv_V k σ pn lo (.int (lg_cmp x y) :: st)) (hp : pn = pc + 1 := by rfl) : hv_V k σ pc lo (.long y :: .long x :: st) := by
  subst hp
  intro H locs ls hR hS g1 g2 hl
  exact W.lcmp X.1 X.2.1 d (kk H locs ls hR hS g1 g2 hl)
theorem hv_topi {x y : Int32} (e : x = y) (kk : hv_V k σ pc lo (.int y :: st)) : hv_V k σ pc lo (.int x :: st) := by rw [e]; exact kk
theorem hv_same (X : hv_X k cc own nL fr lw ret nm) {T : u_T} {j : Nat} {ref : String} (h : ref = (T j).1 ∨ Cond.sameField ref (T j).1 (T j).2.1 (T j).2.2.1 ∈ hv_ws) : ∀ x, k.1.2.2.2.2.1.fieldFound? (T j).1 (T j).2.1 (T j).2.2.1 = some x → k.1.2.2.2.2.1.fieldFound? ref (T j).2.1 (T j).2.2.1 = some x := by
  rcases h with rfl | h
  · exact fun _ h => h
  · exact fun x hx => u_same (X.ts _ h) x hx
theorem hv_get (X : hv_X k cc own nL fr lw ret nm) {index ci j a : Nat} {v : Value} {fs : List Value} (d : decode cc pc = .ok (.getfield index, 3)) (hF : hv_fa own index ci j) (hf : ho_f σ a ci = some fs) (hv : fs[j]? = some v) (kk : hv_V k σ pn lo (v :: st)) (hp : pn = pc + 3 := by rfl) : hv_V k σ pc lo (.ref a :: st) := by
  subst hp
  intro H locs ls hR hS g1 g2 hl
  obtain ⟨C, T, N, ref, hc, hin, hj, hlink, hsame⟩ := hF
  have hat := (hR.2.2.2 a _ (ho_f_E hf)).2
  have hsm := hv_same X hsame
  rcases hlink with hlink | ⟨host, hlink⟩
  · exact va_get X.1 X.2.1 X.ts hin X.ow X.gs.2.1 (va_P1 hat) 0 rfl hc j hj (X.ts _ hlink) hsm hv d (kk H locs ls hR hS g1 g2 hl)
  · exact va_getN X.1 X.2.1 X.ts hin X.ow X.gs.2.1 (va_P1 hat) 0 rfl hc j hj (va_Nw.use rfl (X.gs.2.2.2.2.2.1 _ hlink)) hsm hv d (kk H locs ls hR hS g1 g2 hl)
theorem hv_getI (X : hv_X k cc own nL fr lw ret nm) {index ci j a : Nat} {x : Int32} (d : decode cc pc = .ok (.getfield index, 3)) (hF : hv_fa own index ci j) (e : ho_gI σ a ci j = some x) (kk : hv_V k σ pn lo (.int x :: st)) (hp : pn = pc + 3 := by rfl) : hv_V k σ pc lo (.ref a :: st) := by
  obtain ⟨fs, h1, h2⟩ := bd_E e
  exact hv_get X d hF h1 (ho_vI_E h2) kk hp
theorem hv_getR (X : hv_X k cc own nL fr lw ret nm) {index ci j a x : Nat} (d : decode cc pc = .ok (.getfield index, 3)) (hF : hv_fa own index ci j) (e : ho_gR σ a ci j = some x) (kk : hv_V k σ pn lo (.ref x :: st)) (hp : pn = pc + 3 := by rfl) : hv_V k σ pc lo (.ref a :: st) := by
  obtain ⟨fs, h1, h2⟩ := bd_E e
  exact hv_get X d hF h1 (ho_vR_E h2) kk hp
theorem hv_put (X : hv_X k cc own nL fr lw ret nm) {index ci j a : Nat} {v : Value} {ty : FieldType} (d : decode cc pc = .ok (.putfield index, 3)) (hF : hv_fp own index ci j ty false) (e : ho_p σ a ci j v = some σ') (kk : hv_V k σ' pn lo st) (hn : narrow ty v = v := by rfl) (hfit : fits ty v = true := by rfl) (hp : pn = pc + 3 := by rfl) : hv_V k σ pc lo (v :: .ref a :: st) := by
  subst hp
  intro H locs ls hR hS g1 g2 hl
  obtain ⟨C, T, N, ref, ty0, hc, hin, hj, hlink, hsame, hty, hnm, hfin, -, hd⟩ := hF
  obtain ⟨fs, hf, h2⟩ := bd_E e
  split at h2
  · next hlt =>
    cases h2
    have hat := hR.2.2.2 a _ (ho_f_E hf)
    obtain ⟨r, h1, cell, q1, q2, q3, q4⟩ := hat.2
    have hr : r = (C, T, N) := Option.some.inj (h1.symm.trans hc)
    subst hr
    have hK := X.gs.2.1
    have hap := va_apart (own := own) X.ts hin ty0 hty hnm hK hc
    obtain ⟨hSl, hfc, kC, hkC, hkind⟩ := hK.1 ci _ hc
    obtain ⟨cf, kf, fi, f, hi, hsl⟩ := hSl j hj
    have hlay := X.ts _ (hin _ (u_in_lay hj))
    unfold u_lay at hlay
    rw [if_neg (by rw [hfin]; decide)] at hlay
    have hst := (u_facts hfc hkC (u_lays X.ts hin hj) hi).1
    have h6 := u_store hfc hkC hkind hlay hi hd hn hfit
    have hsm := hv_same X hsame
    rcases hlink with hlink | ⟨host, hlink⟩
    · refine W.putK X.1 X.2.1 (f := f) ⟨X.ow, X.ts _ hlink, ⟨_, _, _, hsm _ hi⟩, hst⟩ (by rw [q2]; exact h6) q1 q3 (by rw [hsl]; exact k2_hasslot (q4 j hj)) rfl rfl d fun H' e1 e2 e3 => ?_
      rw [hsl] at e1 ⊢
      exact kk H' _ ls (hR.set (ho_f_E hf) e2 e3 ⟨_, hc, t_OB.to (V := updV (vp_V fs) j v) ⟨_, e1, q2, q3, t_set q4 hap hj v⟩ (fun i _ => vp_updV_set hlt v i)⟩) (hS.put e2 e3 hat.1) g1 g2 hl
    · refine va_WputK X.1 X.2.1 (f := f) X.ow (va_Nw.use rfl (X.gs.2.2.2.2.2.1 _ hlink)) (hsm _ hi) hst (by rw [q2]; exact h6) q1 q3 (by rw [hsl]; exact k2_hasslot (q4 j hj)) rfl rfl d fun H' e1 e2 e3 => ?_
      rw [hsl] at e1 ⊢
      exact kk H' _ ls (hR.set (ho_f_E hf) e2 e3 ⟨_, hc, t_OB.to (V := updV (vp_V fs) j v) ⟨_, e1, q2, q3, t_set q4 hap hj v⟩ (fun i _ => vp_updV_set hlt v i)⟩) (hS.put e2 e3 hat.1) g1 g2 hl
  · cases h2
theorem hv_putF (X : hv_X k cc own nL fr lw ret "<init>") {index ci j a : Nat} {v : Value} {ty : FieldType} (d : decode cc pc = .ok (.putfield index, 3)) (hF : hv_fp own index ci j ty true) (e : ho_p σ a ci j v = some σ') (kk : hv_V k σ' pn lo st) (hn : narrow ty v = v := by rfl) (hfit : fits ty v = true := by rfl) (hp : pn = pc + 3 := by rfl) : hv_V k σ pc lo (v :: .ref a :: st) := by
  subst hp
  intro H locs ls hR hS g1 g2 hl
  obtain ⟨C, T, N, ref, ty0, hc, hin, hj, hlink, hsame, hty, hnm, hfin, hdecl, hd⟩ := hF
  have hM := X.2.2.2.2.2.2.2.2.2.2.2.2.2.2
  obtain ⟨fs, hf, h2⟩ := bd_E e
  split at h2
  · next hlt =>
    cases h2
    have hat := hR.2.2.2 a _ (ho_f_E hf)
    obtain ⟨r, h1, cell, q1, q2, q3, q4⟩ := hat.2
    have hr : r = (C, T, N) := Option.some.inj (h1.symm.trans hc)
    subst hr
    have hK := X.gs.2.1
    have hap := va_apart (own := own) X.ts hin ty0 hty hnm hK hc
    obtain ⟨hSl, hfc, kC, hkC, hkind⟩ := hK.1 ci _ hc
    obtain ⟨cf, kf, fi, f, hi, hsl⟩ := hSl j hj
    have hlay := X.ts _ (hin _ (u_in_lay hj))
    unfold u_lay at hlay
    rw [if_pos hfin] at hlay
    have hst := (u_facts hfc hkC (u_lays X.ts hin hj) hi).1
    have hcf : k.1.2.2.2.2.2.1.cls = cf := by
      obtain ⟨_, _, c', _, _, _, -, -, hf', -, -, -, hown2, -⟩ := Cond.laysFinal_spec hlay
      have e1 : c' = cf := by have := hi.symm.trans hf'; simp at this; exact this.1.symm
      rw [hdecl rfl] at hown2
      rw [← e1]; exact Option.some.inj (X.ow.symm.trans hown2)
    have h6 := u_fits hfc hkC hkind (Or.inr hlay) hi hd hn hfit
    have hsm := hv_same X hsame
    rcases hlink with hlink | ⟨host, hlink⟩
    · refine W.putFinK X.1 X.2.1 X.ow (X.ts _ hlink) (hsm _ hi) hst hcf hM (by rw [q2]; exact h6) q1 q3 (by rw [hsl]; exact k2_hasslot (q4 j hj)) rfl rfl d fun H' e1 e2 e3 => ?_
      rw [hsl] at e1 ⊢
      exact kk H' _ ls (hR.set (ho_f_E hf) e2 e3 ⟨_, hc, t_OB.to (V := updV (vp_V fs) j v) ⟨_, e1, q2, q3, t_set q4 hap hj v⟩ (fun i _ => vp_updV_set hlt v i)⟩) (hS.put e2 e3 hat.1) g1 g2 hl
    · have ha : a < H.size := (Array.getElem?_eq_some_iff.mp q1).1
      refine va_Wputf X.1 X.2.1 X.ow (va_Nw.use rfl (X.gs.2.2.2.2.2.1 _ hlink)) (hsm _ hi) hst (Or.inr ⟨hcf, hM⟩) q1 (by rw [q3]; exact fun h => by cases h) (by rw [hsl]; exact k2_hasslot (q4 j hj)) h6.1 (by rw [q3, q2]; exact h6.2) rfl rfl d ?_
      rw [hsl]
      have e1 : (H.setIfInBounds a (cell.setSlot ((gD k.2.1).2 ci j) v))[a]? = some (cell.setSlot ((gD k.2.1).2 ci j) v) := by simp [Array.getElem?_setIfInBounds, ha]
      have e2 : (H.setIfInBounds a (cell.setSlot ((gD k.2.1).2 ci j) v)).size = H.size := by simp
      have e3 : ∀ q : Nat, q ≠ a → (H.setIfInBounds a (cell.setSlot ((gD k.2.1).2 ci j) v))[q]? = H[q]? := fun q hq => by simp [Array.getElem?_setIfInBounds, Ne.symm hq]
      exact kk _ _ ls (hR.set (ho_f_E hf) e2 e3 ⟨_, hc, t_OB.to (V := updV (vp_V fs) j v) ⟨_, e1, q2, q3, t_set q4 hap hj v⟩ (fun i _ => vp_updV_set hlt v i)⟩) (hS.put e2 e3 hat.1) g1 g2 hl
  · cases h2
theorem hv_ki (X : hv_X k cc own nL fr lw ret nm) {i : Nat} {ty : FieldType} (h : hv_tys[i]? = some ty) : ArrOfT k.1.2.2.2.2.1 (gc k.2.1 i) ty ∧ va_RA k.1.2.2.2.2.1 (gc k.2.1 i) ty := X.gs.2.1.2 i _ (X.gs.2.2.1 i ty h)
theorem hv_kt (X : hv_X k cc own nL fr lw ret nm) {i : Nat} {ty : FieldType} (h : hv_tys[i]? = some ty) : (gT k.2.1)[i]? = some (gc k.2.1 i, ty) := X.gs.2.2.1 i ty h
theorem hv_iald (X : hv_X k cc own nL fr lw ret nm) {a : Nat} {i x : Int32} (d : decode cc pc = .ok (.iaload, 1)) (e : ho_ldI k.2.1 σ a i = some x) (kk : hv_V k σ pn lo (.int x :: st)) (hp : pn = pc + 1 := by rfl) : hv_V k σ pc lo (.int i :: .ref a :: st) := by
  subst hp
  intro H locs ls hR hS g1 g2 hl
  obtain ⟨q, h1, h2⟩ := bd_E e
  obtain ⟨j, hj, h3⟩ := mp_E h2
  obtain ⟨hin, rfl⟩ := ho_ix_E hj
  subst h3
  rcases ho_rI_E h1 with h | h
  · exact va_iald X.1 X.2.1 X.gs.2.1 (va_P1 (hR.2.2.2 a _ h).2) 0 0 rfl (hv_kt X rfl) hin d (kk H locs ls hR hS g1 g2 hl)
  · exact va_ti X.1 X.2.1 (X.gs.2.2.2.1 a _ _ h) hS hin rfl d (kk H locs ls hR hS g1 g2 hl)
theorem hv_zald (X : hv_X k cc own nL fr lw ret nm) {a : Nat} {i x : Int32} (d : decode cc pc = .ok (.baload, 1)) (e : ho_ldZ k.2.1 σ a i = some x) (kk : hv_V k σ pn lo (.int x :: st)) (hp : pn = pc + 1 := by rfl) : hv_V k σ pc lo (.int i :: .ref a :: st) := by
  subst hp
  intro H locs ls hR hS g1 g2 hl
  obtain ⟨q, h1, h2⟩ := bd_E e
  obtain ⟨j, hj, h3⟩ := mp_E h2
  obtain ⟨hin, rfl⟩ := ho_ix_E hj
  subst h3
  exact va_zald X.1 X.2.1 X.gs.2.1 (va_P1 (hR.2.2.2 a _ (ho_aI_E h1)).2) 0 1 rfl (hv_kt X rfl) hin d (kk H locs ls hR hS g1 g2 hl)
theorem hv_lald (X : hv_X k cc own nL fr lw ret nm) {a : Nat} {i : Int32} {x : Int64} (d : decode cc pc = .ok (.laload, 1)) (e : ho_ldL k.2.1 σ a 2 i = some x) (kk : hv_V k σ pn lo (.long x :: st)) (hp : pn = pc + 1 := by rfl) : hv_V k σ pc lo (.int i :: .ref a :: st) := by
  subst hp
  intro H locs ls hR hS g1 g2 hl
  obtain ⟨q, h1, h2⟩ := bd_E e
  obtain ⟨j, hj, h3⟩ := mp_E h2
  obtain ⟨hin, rfl⟩ := ho_ix_E hj
  subst h3
  exact va_lald X.1 X.2.1 X.gs.2.1 (va_P1 (hR.2.2.2 a _ (ho_aL_E h1)).2) 0 2 rfl (hv_kt X rfl) hin d (kk H locs ls hR hS g1 g2 hl)
theorem hv_aald (X : hv_X k cc own nL fr lw ret nm) {a kd : Nat} {C : String} {i : Int32} {x : Nat} (d : decode cc pc = .ok (.aaload, 1)) (ht : hv_tys[kd]? = some (.object C)) (e : ho_ldR k.2.1 σ a kd i = some x) (kk : hv_V k σ pn lo (.ref x :: st)) (hp : pn = pc + 1 := by rfl) : hv_V k σ pc lo (.int i :: .ref a :: st) := by
  subst hp
  intro H locs ls hR hS g1 g2 hl
  obtain ⟨q, h1, h2⟩ := bd_E e
  obtain ⟨j, hj, h3⟩ := bd_E h2
  obtain ⟨hin, rfl⟩ := ho_ix_E hj
  refine va_aldq X.1 X.2.1 X.gs.2.1 (va_P1 (hR.2.2.2 a _ (ho_aR_E h1)).2) 0 kd rfl (hv_kt X ht) hin d ?_
  rw [h3]
  exact kk H locs ls hR hS g1 g2 hl
theorem hv_iast (X : hv_X k cc own nL fr lw ret nm) {a : Nat} {i x : Int32} (d : decode cc pc = .ok (.iastore, 1)) (e : ho_stI k.2.1 σ a i x = some σ') (kk : hv_V k σ' pn lo st) (hp : pn = pc + 1 := by rfl) : hv_V k σ pc lo (.int x :: .int i :: .ref a :: st) := by
  subst hp
  intro H locs ls hR hS g1 g2 hl
  obtain ⟨q, h1, h2⟩ := bd_E e
  obtain ⟨j, hj, h3⟩ := mp_E h2
  obtain ⟨hin, rfl⟩ := ho_ix_E hj
  subst h3
  have hc := hR.2.2.2 a _ (ho_aI_E h1)
  refine W.iast X.1 X.2.1 hc.2 ((hv_ki X (i := 0) rfl).1 q.1 (fun j => .int (q.2 j))) (fun q => by cases q) (by show ¬ (i < 0 ∨ (arrV _ _ _).slots.size ≤ _); rw [arrV_size]; exact hin) rfl rfl d fun H1 e z oq => ?_
  refine kk H1 _ ls (hR.set (ho_aI_E h1) z oq ?_) (hS.put z oq hc.1) g1 g2 hl
  show H1[a]? = some (vp_cell _ _)
  rw [e]
  rw [vp_cell_i, vp_cell_i, arrV_store]
  congr 2
  funext z
  by_cases hz : z = i.toNatClampNeg
  · subst hz
    simp [updV, upd]
  · simp [updV, upd, hz]
theorem hv_zast (X : hv_X k cc own nL fr lw ret nm) {a : Nat} {i x : Int32} (d : decode cc pc = .ok (.bastore, 1)) (e : ho_stZ k.2.1 σ a i x = some σ') (kk : hv_V k σ' pn lo st) (hp : pn = pc + 1 := by rfl) : hv_V k σ pc lo (.int x :: .int i :: .ref a :: st) := by
  subst hp
  intro H locs ls hR hS g1 g2 hl
  obtain ⟨q, h1, h2⟩ := bd_E e
  obtain ⟨j, hj, h3⟩ := mp_E h2
  obtain ⟨hin, rfl⟩ := ho_ix_E hj
  subst h3
  have hc := hR.2.2.2 a _ (ho_aI_E h1)
  refine W.zast X.1 X.2.1 hc.2 ((hv_ki X (i := 1) rfl).1 q.1 (fun j => .int (q.2 j))) (fun q => by cases q) (by show ¬ (i < 0 ∨ (arrV _ _ _).slots.size ≤ _); rw [arrV_size]; exact hin) rfl rfl d fun H1 e z oq => ?_
  refine kk H1 _ ls (hR.set (ho_aI_E h1) z oq ?_) (hS.put z oq hc.1) g1 g2 hl
  show H1[a]? = some (vp_cell _ _)
  rw [e]
  rw [vp_cell_i, vp_cell_i, arrV_store]
  congr 2
  funext q
  by_cases hq : q = i.toNatClampNeg
  · subst hq
    simp [updV, upd, vp_nar]
    try rfl
  · simp [updV, upd, hq]
theorem hv_last (X : hv_X k cc own nL fr lw ret nm) {a : Nat} {i : Int32} {x : Int64} (d : decode cc pc = .ok (.lastore, 1)) (e : ho_stL k.2.1 σ a 2 i x = some σ') (kk : hv_V k σ' pn lo st) (hp : pn = pc + 1 := by rfl) : hv_V k σ pc lo (.long x :: .int i :: .ref a :: st) := by
  subst hp
  intro H locs ls hR hS g1 g2 hl
  obtain ⟨q, h1, h2⟩ := bd_E e
  obtain ⟨j, hj, h3⟩ := mp_E h2
  obtain ⟨hin, rfl⟩ := ho_ix_E hj
  subst h3
  have hc := hR.2.2.2 a _ (ho_aL_E h1)
  refine W.last X.1 X.2.1 hc.2 ((hv_ki X (i := 2) rfl).1 q.1 (fun j => .long (q.2 j))) (fun q => by cases q) (by show ¬ (i < 0 ∨ (arrV _ _ _).slots.size ≤ _); rw [arrV_size]; exact hin) rfl rfl d fun H1 e z oq => ?_
  refine kk H1 _ ls (hR.set (ho_aL_E h1) z oq ?_) (hS.put z oq hc.1) g1 g2 hl
  show H1[a]? = some (vp_cell _ _)
  rw [e]
  rw [vp_cell_l, vp_cell_l, arrV_store]
  congr 2
  funext q
  by_cases hq : q = i.toNatClampNeg
  · subst hq
    simp [updV, vp_updL]
  · simp [updV, vp_updL, hq]
theorem hv_alenI (X : hv_X k cc own nL fr lw ret nm) {a : Nat} {x : Int32} (d : decode cc pc = .ok (.arraylength, 1)) (e : ho_lnI k.2.1 σ a = some x) (kk : hv_V k σ pn lo (.int x :: st)) (hp : pn = pc + 1 := by rfl) : hv_V k σ pc lo (.ref a :: st) := by
  subst hp
  intro H locs ls hR hS g1 g2 hl
  obtain ⟨q, h1, h2⟩ := mp_E e
  rcases ho_rI_E h1 with h | h
  · exact va_alen X.1 X.2.1 X.gs.2.1 (va_P1 (hR.2.2.2 a _ h).2) 0 0 rfl (hv_kt X rfl) h2 d (kk H locs ls hR hS g1 g2 hl)
  · obtain ⟨cell, t1, t2, t3, t4, t5, t6, t7⟩ := X.gs.2.2.2.1 a _ _ h
    exact W.alen X.1 X.2.1 (by rw [hS.2.1 a (Array.getElem?_eq_some_iff.mp t1).1 t7]; exact t1) t2 (t5.trans h2) rfl rfl d (kk H locs ls hR hS g1 g2 hl)
theorem hv_alenR (X : hv_X k cc own nL fr lw ret nm) {a kd : Nat} {C : String} {x : Int32} (d : decode cc pc = .ok (.arraylength, 1)) (ht : hv_tys[kd]? = some (.object C)) (e : ho_lnR k.2.1 σ a kd = some x) (kk : hv_V k σ pn lo (.int x :: st)) (hp : pn = pc + 1 := by rfl) : hv_V k σ pc lo (.ref a :: st) := by
  subst hp
  intro H locs ls hR hS g1 g2 hl
  obtain ⟨q, h1, h2⟩ := mp_E e
  exact va_alen X.1 X.2.1 X.gs.2.1 (va_P1 (hR.2.2.2 a _ (ho_aR_E h1)).2) 0 kd rfl (hv_kt X ht) h2 d (kk H locs ls hR hS g1 g2 hl)
theorem hv_new (X : hv_X k cc own nL fr lw ret nm) {index ci N a : Nat} {fs : List Value} (d : decode cc pc = .ok (.new index, 3)) (hN : hv_nw own index ci N fs) (e : ho_al k.2.1 σ N (.inr (ci, fs)) = some (σ', a)) (kk : hv_V k σ' pn lo (.ref a :: st)) (hp : pn = pc + 3 := by rfl) : hv_V k σ pc lo st := by
  subst hp
  intro H locs ls hR hS g1 g2 hl
  obtain ⟨C, T, ty, hc, hin, hty, hcl, hinst, hini, hfs⟩ := hN
  have hKn := X.gs.2.1.1 ci _ hc
  obtain ⟨a1, a2, a3, a4, a5⟩ := ho_al_E e
  refine W.newcK X.1 X.2.1 X.ow (X.ts _ hcl) (X.ts _ hinst) (X.ts _ hini) rfl d (by rw [X.rc]; omega) (by rw [X.rs]; omega) hKn.2.1 rfl fun H1 kC hkC e1 z1 o1 => ?_
  obtain ⟨b1, b2, -⟩ := hR.push e (Nat.le_trans X.gs.1 hS.1) z1 o1 ⟨_, hc, (u_born ty X.ts hin hKn hkC e1 hty).to hfs⟩
  have w := kk H1 locs ls b1 (hS.grow (by omega) o1) (by omega) (by omega) hl
  rw [a3, a4, show σ.1 + 1 - k.2.2.1.1 = σ.1 - k.2.2.1.1 + 1 by omega, show σ.2.1 + N - k.2.2.1.2.1 = σ.2.1 - k.2.2.1.2.1 + N by omega, b2] at w
  exact w
theorem ho_n_E {n : Int32} {N : Nat} (h : ho_n n = some N) : ¬ n < 0 ∧ n.toNatClampNeg = N ∧ N ≤ 60000000 := by
  unfold ho_n at h
  split at h
  · cases h
  · next hc =>
    have e := Option.some.inj h
    exact ⟨fun q => hc (Or.inl q), e, by omega⟩
theorem hv_newa (X : hv_X k cc own nL fr lw ret nm) {n : Int32} {a N kd : Nat} {atype : ArrayType} {a0 : vp_A} (d : decode cc pc = .ok (.newarray atype, 2)) (hw : Cond.arrayClass (newarray.typeOf atype) ∈ hv_ws) (hk : hv_tys[kd]? = some (newarray.typeOf atype)) (hobj : ∀ C, newarray.typeOf atype ≠ .object C) (hb : componentBytes (newarray.typeOf atype) ≤ 8) (h0 : ∀ cA : ClassId, vp_cell cA a0 = arrV cA N (fun _ => defaultValue (newarray.typeOf atype))) (hn : ho_n n = some N) (e : ho_al k.2.1 σ N (.inl (gc k.2.1 kd, a0)) = some (σ', a)) (kk : hv_V k σ' pn lo (.ref a :: st)) (hp : pn = pc + 2 := by rfl) : hv_V k σ pc lo (.int n :: st) := by
  subst hp
  intro H locs ls hR hS g1 g2 hl
  obtain ⟨n1, n2, n3⟩ := ho_n_E hn
  obtain ⟨a1, a2, a3, a4, a5⟩ := ho_al_E e
  refine va_newaK X.1 X.2.1 (X.ts _ hw) rfl d rfl n1 n2 (by have := Nat.mul_le_mul n3 hb; omega) (by rw [X.rc]; omega) (by rw [X.rs]; omega) rfl fun H1 cA e1 z1 o1 hAr hNm => ?_
  have hcA : cA = gc k.2.1 kd := by
    have h2 := (hv_ki X hk).2
    unfold va_RA at h2
    split at h2
    · next C hC => exact absurd hC (hobj C)
    · exact Option.some.inj (hNm.symm.trans h2)
  subst hcA
  obtain ⟨b1, b2, -⟩ := hR.push e (Nat.le_trans X.gs.1 hS.1) z1 o1 (by show H1[H.size]? = some (vp_cell _ _); rw [h0]; exact e1)
  have w := kk H1 locs ls b1 (hS.grow (by omega) o1) (by omega) (by omega) hl
  rw [a3, a4, show σ.1 + 1 - k.2.2.1.1 = σ.1 - k.2.2.1.1 + 1 by omega, show σ.2.1 + N - k.2.2.1.2.1 = σ.2.1 - k.2.2.1.2.1 + N by omega, b2] at w
  exact w
theorem hv_nwI (X : hv_X k cc own nL fr lw ret nm) {n : Int32} {a : Nat} (d : decode cc pc = .ok (.newarray .int, 2)) (hw : Cond.arrayClass .int ∈ hv_ws) (e : ho_nwI k.2.1 σ n = some (σ', a)) (kk : hv_V k σ' pn lo (.ref a :: st)) (hp : pn = pc + 2 := by rfl) : hv_V k σ pc lo (.int n :: st) := by
  obtain ⟨N, h1, h2⟩ := bd_E e
  exact hv_newa X (kd := 0) d hw rfl (fun C h => by cases h) (by decide) (fun cA => rfl) h1 h2 kk hp
theorem hv_nwZ (X : hv_X k cc own nL fr lw ret nm) {n : Int32} {a : Nat} (d : decode cc pc = .ok (.newarray .boolean, 2)) (hw : Cond.arrayClass .boolean ∈ hv_ws) (e : ho_nwZ k.2.1 σ n = some (σ', a)) (kk : hv_V k σ' pn lo (.ref a :: st)) (hp : pn = pc + 2 := by rfl) : hv_V k σ pc lo (.int n :: st) := by
  obtain ⟨N, h1, h2⟩ := bd_E e
  exact hv_newa X (kd := 1) d hw rfl (fun C h => by cases h) (by decide) (fun cA => rfl) h1 h2 kk hp
theorem hv_nwL (X : hv_X k cc own nL fr lw ret nm) {n : Int32} {a : Nat} (d : decode cc pc = .ok (.newarray .long, 2)) (hw : Cond.arrayClass .long ∈ hv_ws) (e : ho_nwL k.2.1 σ 2 n = some (σ', a)) (kk : hv_V k σ' pn lo (.ref a :: st)) (hp : pn = pc + 2 := by rfl) : hv_V k σ pc lo (.int n :: st) := by
  obtain ⟨N, h1, h2⟩ := bd_E e
  exact hv_newa X (kd := 2) d hw rfl (fun C h => by cases h) (by decide) (fun cA => rfl) h1 h2 kk hp
theorem hv_gets (X : hv_X k cc own nL fr lw ret nm) {index i : Nat} {C n ds ref : String} (d : decode cc pc = .ok (.getstatic index, 3)) (hi : hv_stat[i]? = some (C, n, ds)) (hlink : Cond.fieldLink own index ref n ds ∈ hv_ws) (hsame : ref = C ∨ Cond.sameField ref C n ds ∈ hv_ws) (kk : hv_V k σ pn lo (.ref (gA k.2.1 i) :: st)) (hp : pn = pc + 3 := by rfl) : hv_V k σ pc lo st := by
  subst hp
  intro H locs ls hR hS g1 g2 hl
  have hsm : ∀ x, k.1.2.2.2.2.1.fieldFound? C n ds = some x → k.1.2.2.2.2.1.fieldFound? ref n ds = some x := by
    rcases hsame with rfl | h
    · exact fun _ h => h
    · exact fun x hx => u_same (X.ts _ h) x hx
  exact va_gets X.1 X.2.1 (X.gs.2.2.2.2.1 i _ hi) hS X.ow (X.ts _ hlink) hsm d (kk H locs ls hR hS g1 g2 hl)
theorem hv_oinit (X : hv_X k cc own nL fr lw ret nm) {index a : Nat} (d : decode cc pc = .ok (.invokespecial index, 3)) (hlink : Cond.methodLink own index objectInit ∈ hv_ws) (hinst : Cond.instanceMethod objectInit ∈ hv_ws) (hcode : Cond.code objectInit ⟨#[0xb1]⟩ 1 none ∈ hv_ws) (hfr : 1 ≤ fr) (hlw : 20 ≤ lw) (hs : (st.map fun v => v.category).sum ≤ 8) (kk : hv_V k σ pn lo st) (hp : pn = pc + 3 := by rfl) : hv_V k σ pc lo (.ref a :: st) := by
  subst hp
  intro H locs ls hR hS g1 g2 hl
  have h1 := X.fr
  have h2 := X.lw
  exact W.objInit X.1 X.2.1 X.ow (X.ts _ hlink) (X.ts _ hinst) (X.ts _ hcode) rfl (by rw [X.2.2.1]; exact hl.1) rfl d (by omega) (by show 2 * 0 + _ + 12 ≤ _; omega) (kk H locs ls hR hS g1 g2 hl)
/-! the end of a method -/
def hv_Qc (G : ho_G) (σ' : ho_H) (r : Option Value) : Array Value → State → Outcome → State → Prop := fun _ st oc t => oc = .returned r ∧ hs_R G σ' t.heap ∧ va_F (gW G) st t
def hv_end (k : mk_T) (σ' : ho_H) (r : Option Value) : Prop := k.2.2.2.1 = MQ k.1.2.2.2.2.2.2.2.1 (hv_Qc k.2.1 σ' r) k.1.2.2.2.2.2.2.1 k.1.2.2.2.2.1 (σ'.1 - k.2.2.1.1) (σ'.2.1 - k.2.2.1.2.1) (gW k.2.1)
theorem hv_iret (X : hv_X k cc own nL fr lw (some .int) nm) {x : Int32} (d : decode cc pc = .ok (.ireturn, 1)) (E : hv_end k σ (some (.int x))) : hv_V k σ pc lo [.int x] := by
  intro H locs ls hR hS g1 g2 hl
  rw [show k.2.2.2.1 = _ from E]
  exact W.iret X.1 X.2.1 X.rt (fun t ht hW => ⟨rfl, by rw [ht]; exact hR, hS.F ht⟩) hS.2.2 d X.lk
theorem hv_zret (X : hv_X k cc own nL fr lw (some .boolean) nm) {x : Int32} (d : decode cc pc = .ok (.ireturn, 1)) (hx : narrow .boolean (.int x) = .int x) (E : hv_end k σ (some (.int x))) : hv_V k σ pc lo [.int x] := by
  intro H locs ls hR hS g1 g2 hl
  rw [show k.2.2.2.1 = _ from E]
  exact W.zret X.1 X.2.1 X.rt hx (fun t ht hW => ⟨rfl, by rw [ht]; exact hR, hS.F ht⟩) hS.2.2 d X.lk
theorem hv_vret (X : hv_X k cc own nL fr lw none nm) (d : decode cc pc = .ok (.return_, 1)) (E : hv_end k σ none) : hv_V k σ pc lo [] := by
  intro H locs ls hR hS g1 g2 hl
  rw [show k.2.2.2.1 = _ from E]
  exact W.vret X.1 X.2.1 X.rt (fun t ht hW => ⟨rfl, by rw [ht]; exact hR, hS.F ht⟩) hS.2.2 d X.lk
theorem hv_aret (X : hv_X k cc own nL fr lw ret nm) {a : Nat} {rt : FieldType} (hrt : ret = some rt) (ho : (∃ n, rt = .object n) ∨ ∃ t, rt = .array t) (d : decode cc pc = .ok (.areturn, 1)) (E : hv_end k σ (some (.ref a))) : hv_V k σ pc lo [.ref a] := by
  intro H locs ls hR hS g1 g2 hl
  rw [show k.2.2.2.1 = _ from E]
  exact W.aret X.1 X.2.1 (X.rt.trans hrt) ho (Or.inr ⟨a, rfl⟩) (fun t ht hW => ⟨rfl, by rw [ht]; exact hR, hS.F ht⟩) hS.2.2 d X.lk
end HV2
end
section
/-! contracts and calls -/
def hv_C (l : Launch) (G : ho_G) (y : MethodName) (ws : List Cond) (fr lw : Nat) (av : List Value) (σ σ' : ho_H) (r : Option Value) : Prop :=
  Met l y ws { frames := fr, cells := gC G - σ.1, slots := gS G - σ.2.1, locals := lw } (va_Pc av (fun U => hs_R G σ U.heap ∧ gs_ok G U U.heap)) (hv_Qc G σ' r) (σ'.1 - σ.1) (σ'.2.1 - σ.2.1) (gW G)
theorem lo_has.pad {ls : Array Slot} {nL n : Nat} {lo : List (Option Value)} (h : lo_has ls nL lo) : lo_has ls nL (lo ++ List.replicate n none) := by
  refine ⟨h.1, h.2.1, fun i v hi => h.2.2 i v ?_⟩
  by_cases hl : i < lo.length
  · rw [List.getElem?_append_left hl] at hi
    exact hi
  · rw [List.getElem?_append_right (by omega)] at hi
    have := List.mem_of_getElem? hi
    simp at this
theorem hv_met {l : Launch} {G : ho_G} {y : MethodName} {cc : ByteArray} {maxL : Nat} {ret : Option FieldType} {fr lw : Nat} {av : List Value} {σ σ' : ho_H} {r : Option Value} (lo : List (Option Value)) (hy : plainFor y = true) (hcat : ∀ v ∈ av, v.category = 1) (hlen : (lg_sl av).length ≤ maxL) (hlo : lo = av.map some ++ List.replicate (maxL - av.length) none)
    (body : ∀ k : mk_T, hv_X k cc y.cls maxL fr lw ret y.name → k.1.2.1 = l → k.2.1 = G → hv_end k σ' r → hv_V k σ 0 lo []) : hv_C l G y (Cond.code y cc maxL ret :: hv_ws) fr lw av σ σ' r := by
  refine va_MetF (cc := cc) (maxL := maxL) (ret := ret) hy rfl ?_
  intro p e s m args below meth c s₁ B hml hv
  obtain ⟨rfl, hR, hG⟩ := hv
  have hts := atoms_spec (ws := Cond.code y cc maxL ret :: hv_ws) B.pre
  have hown : s.vm.findClass y.cls = some m.cls := findClass_of_methodNamed B.named
  have hl := lv_entry av (n := maxL) hlen
  rw [lg_entry_eq]
  subst hlo
  have w := body ((p, l, e, (headSpec (Cond.code y cc maxL ret :: hv_ws) { frames := fr, cells := gC G - σ.1, slots := gS G - σ.2.1, locals := lw }).room, s, m, av.toArray, below, meth, c), G, σ, MQ below (hv_Qc G σ' r) av.toArray s (σ'.1 - σ.1) (σ'.2.1 - σ.2.1) (gW G), maxL)
    ⟨B.exec, B.bytes, hml, hown, fun w h => hts w (List.mem_cons_of_mem _ h), hG, hR.1, rfl, rfl, Nat.le_refl _, Nat.le_refl _, B.returns, B.notSynchronized, rfl, (name_of_methodNamed B.named B.method).1⟩ rfl rfl rfl
    s.heap [] _ hR va_S.rf (Nat.le_refl _) (Nat.le_refl _) (lo_has.pad (lo_has.of hl hcat))
  simp only [Nat.sub_self] at w
  exact w
theorem my_back {l : Launch} {R : Room} {p : Program} {e : Env} {below : List Frame} {s : State} {sargs : Array Value} {y : MethodName} {len W : Nat} {ws : List Cond} {rm : Room} {Pc : Array Value → State → Prop} {Qc : Array Value → State → Outcome → State → Prop} {mc ms : Nat} {free : Addr → Prop} {bytes : ByteArray} {maxL : Nat} {ret : Option FieldType}
    (hM : Met l y ws rm Pc Qc mc ms free) (hblind : FrameBlind Pc) (hframes : rm.frames + 1 ≤ R.frames) (hlocals : W + (maxL + 11) + rm.locals ≤ R.locals)
    (hws : ∀ w ∈ ws, ∀ a' U, s.WarmedH U.vm → w.before a' U = true) (hcode : Cond.code y bytes maxL ret ∈ ws) (hinit : ∀ a' U, s.WarmedH U.vm → (Cond.initialized y.cls).before a' U = true) :
    Back l R p e below s sargs y len W (PreOf R rm.cells rm.slots Pc) (PostOf Qc mc ms free) := by
  refine Back.of_free (S := headSpec ws rm) (P := Pc) (K := fun _ _ _ _ _ => True) (Q := fun a st o t => Qc a st o t ∧ ∃ L, FrameEnd st o t L mc ms ∧ ∀ q ∈ L, free q.base) (bytes := bytes) (maxL := maxL) (ret := ret)
    (E := fun a st o t L k n => k = mc ∧ n = ms ∧ ∀ q ∈ L, free q.base) hM hframes hlocals ?_ ?_ (fun _ _ _ _ _ _ _ _ _ => trivial) ?_ ?_
  · intro m meth c A a X hp
    exact ⟨atoms_intro fun w hw => hws w hw _ _ X.warmed, hws _ hcode _ _ X.warmed, hinit _ _ X.warmed, hp.1, hp.2.1⟩
  · intro m meth c A a g mk X hp
    exact hblind _ _ _ _ hp.2.2
  · intro a st o t ⟨hq, L, hF, hL⟩
    exact ⟨L, mc, ms, hF, rfl, rfl, hL⟩
  · intro m meth c A a g mk v t L k n X hp hq hF ⟨e1, e2, hL⟩
    subst e1; subst e2
    exact ⟨g, mk, t, L, rfl, rfl, hq.1, rfl, hL, rfl, rfl⟩
theorem hv_blind {G : ho_G} {σ : ho_H} {av : List Value} : FrameBlind (va_Pc av (fun U => hs_R G σ U.heap ∧ gs_ok G U U.heap)) := fun a U g mk q => by
  obtain ⟨q0, q1, q2⟩ := q
  exact ⟨q0, q1, gs_ok.self q2 rfl⟩
section HV3
variable {k : mk_T} {cc : ByteArray} {own : String} {nL fr lw : Nat} {ret : Option FieldType} {nm : String} {σ σ' : ho_H} {pc pn : Nat} {lo lo' : List (Option Value)} {st sti : List Value} {index maxL fr' lw' : Nat} {y : MethodName} {bytes : ByteArray} {rt : Option FieldType} {av : List Value} {r : Option Value}
theorem hv_bk (X : hv_X k cc own nL fr lw ret nm) (hc : hv_C k.1.2.1 k.2.1 y (Cond.code y bytes maxL rt :: hv_ws) fr' lw' av σ σ' r) {n : Nat} (hy : hv_cs own index y bytes maxL rt n) (hfr : fr' + 1 ≤ fr) (hlw : 8 + (maxL + 11) + lw' ≤ lw) :
    Back k.1.2.1 k.1.2.2.2.1 k.1.1 k.1.2.2.1 k.1.2.2.2.2.2.2.2.1 k.1.2.2.2.2.1 k.1.2.2.2.2.2.2.1 y 3 8 (PreOf k.1.2.2.2.1 (gC k.2.1 - σ.1) (gS k.2.1 - σ.2.1) (va_Pc av (fun U => hs_R k.2.1 σ U.heap ∧ gs_ok k.2.1 U U.heap))) (PostOf (hv_Qc k.2.1 σ' r) (σ'.1 - σ.1) (σ'.2.1 - σ.2.1) (gW k.2.1)) := by
  have h1 := X.fr
  have h2 := X.lw
  have ok : ∀ w ∈ hv_ws, ∀ (a' : Array Value) (U : State), k.1.2.2.2.2.1.WarmedH U.vm → w.before a' U = true := fun w hw a' U hW => word_at hW (hv_good w hw) (X.ts w hw)
  exact my_back (bytes := bytes) (maxL := maxL) (ret := rt) hc hv_blind (by show fr' + 1 ≤ _; omega) (by show 8 + (maxL + 11) + lw' ≤ _; omega)
    (fun w hw => by rcases List.mem_cons.mp hw with rfl | hw; · exact ok _ hy.1
                    · exact ok w hw) List.mem_cons_self (ok _ hy.2.1)
/-- behind a call -/
theorem hv_after (X : hv_X k cc own nL fr lw ret nm) (hm : σ.1 ≤ σ'.1 ∧ σ.2.1 ≤ σ'.2.1) (kk : hv_V k σ' (pc + 3) lo (r.toList ++ st)) {H : Heap} {locs : List Loc} {ls : Array Slot} (hR : hs_R k.2.1 σ H) (hS : va_S (gW k.2.1) k.1.2.2.2.2.1.heap H locs) (g1 : k.2.2.1.1 ≤ σ.1) (g2 : k.2.2.1.2.1 ≤ σ.2.1) (hl : lo_has ls k.2.2.2.2 lo)
    {T U' t st0 : State} {L : List Loc} {v : Option Value} (hT : T.heap = H) (h0 : st0.heap = H) (e1 : U'.heap = t.heap) (hq : hv_Qc k.2.1 σ' r av.toArray st0 (.returned v) t) (hL : ∀ q ∈ L, gW k.2.1 q.base)
    (X' : Stand k.1.1 k.1.2.1 k.1.2.2.1 k.1.2.2.2.1 k.1.2.2.2.2.1 k.1.2.2.2.2.2.1 k.1.2.2.2.2.2.2.1 k.1.2.2.2.2.2.2.2.1 k.1.2.2.2.2.2.2.2.2.1 k.1.2.2.2.2.2.2.2.2.2 U' (locs ++ L) (σ.1 - k.2.2.1.1 + (σ'.1 - σ.1)) (σ.2.1 - k.2.2.1.2.1 + (σ'.2.1 - σ.2.1)))
    (stp : ∀ target, Steps k.1.1.tables k.1.2.2.1 k.1.2.2.2.2.2.2.2.1 (U'.setTop { F0 k.1.2.2.2.2.2.1 pc ls sti with pc := pc + 3, stack := v.toList ++ st }) target → Steps k.1.1.tables k.1.2.2.1 k.1.2.2.2.2.2.2.2.1 (T.setTop (F0 k.1.2.2.2.2.2.1 pc ls sti)) target) :
    ∃ t, Steps k.1.1.tables k.1.2.2.1 k.1.2.2.2.2.2.2.2.1 (T.setTop (F0 k.1.2.2.2.2.2.1 pc ls sti)) t ∧ k.2.2.2.1 t := by
  obtain ⟨hv, hR', hz, hk⟩ := hq
  cases hv
  rw [h0] at hz hk
  have w := kk U'.heap (locs ++ L) ls (by rw [e1]; exact hR') ⟨Nat.le_trans hS.1 (by rw [e1]; exact hz), fun q a1 a2 => by rw [e1, hk q (Nat.lt_of_lt_of_le a1 hS.1) a2]; exact hS.2.1 q a1 a2, fun q hq => by
      rcases List.mem_append.mp hq with h | h
      · exact hS.2.2 q h
      · exact hL q h⟩ (by omega) (by omega) hl
  rw [show σ'.1 - k.2.2.1.1 = σ.1 - k.2.2.1.1 + (σ'.1 - σ.1) by omega, show σ'.2.1 - k.2.2.1.2.1 = σ.2.1 - k.2.2.1.2.1 + (σ'.2.1 - σ.2.1) by omega] at w
  obtain ⟨t2, a1, b1⟩ := w U' rfl X'
  exact ⟨t2, stp t2 a1, b1⟩
theorem hv_pre (X : hv_X k cc own nL fr lw ret nm) {H : Heap} {locs : List Loc} (hR : hs_R k.2.1 σ H) (hS : va_S (gW k.2.1) k.1.2.2.2.2.1.heap H locs) (g1 : k.2.2.1.1 ≤ σ.1) (g2 : k.2.2.1.2.1 ≤ σ.2.1) {T : State} (hT : T.heap = H) {vm₁ : Vm} (hW : k.1.2.2.2.2.1.WarmedH vm₁) :
    PreOf k.1.2.2.2.1 (gC k.2.1 - σ.1) (gS k.2.1 - σ.2.1) (va_Pc av (fun U => hs_R k.2.1 σ U.heap ∧ gs_ok k.2.1 U U.heap)) ⟨T.setVm vm₁, locs, σ.1 - k.2.2.1.1, σ.2.1 - k.2.2.1.2.1⟩ av.toArray := by
  have h1 := X.rc
  have h2 := X.rs
  have h3 := hR.2.1
  have h4 := hR.2.2.1
  refine ⟨by show σ.1 - k.2.2.1.1 + _ ≤ _; omega, by show σ.2.1 - k.2.2.1.2.1 + _ ≤ _; omega, rfl, ?_, ?_⟩
  · show hs_R k.2.1 σ T.heap
    rw [hT]; exact hR
  · show gs_ok k.2.1 (T.setVm vm₁) T.heap
    rw [hT]
    exact X.gs.move hW hS.1 hS.2.1
theorem hv_callS (X : hv_X k cc own nL fr lw ret nm) (d : decode cc pc = .ok (.invokestatic index, 3)) (hc : hv_C k.1.2.1 k.2.1 y (Cond.code y bytes maxL rt :: hv_ws) fr' lw' av σ σ' r) (hy : hv_cs own index y bytes maxL rt av.length) (hsta : Cond.static y ∈ hv_ws) (hfr : fr' + 1 ≤ fr) (hlw : 8 + (maxL + 11) + lw' ≤ lw) (hm : σ.1 ≤ σ'.1 ∧ σ.2.1 ≤ σ'.2.1) (hs : (st.map fun v => v.category).sum ≤ 8) (kk : hv_V k σ' pn lo (r.toList ++ st)) (hst : sti = av.reverse ++ st := by rfl) (hp : pn = pc + 3 := by rfl) : hv_V k σ pc lo sti := by
  subst hp
  intro H locs ls hR hS g1 g2 hl T hT XT
  have hK := hv_bk X hc hy hfr hlw
  obtain ⟨w1, w2, w3, w4, w5⟩ := hy
  have hn : ∀ sig, parseMethodDescriptor y.desc = some sig → av.length = sig.parameters.length := fun sig h => by
    rw [h] at w4
    exact (Option.some.inj w4).symm
  rcases w5 with w5 | ⟨host, w5⟩
  · obtain ⟨v, vm₁, ⟨U', l2, c2, s2⟩, hW₁, X', ⟨g', mk, t, L, e1, e2, hq, h1, hL, h2, h3⟩, stp⟩ := callS XT X.1 (bytes := bytes) (maxL := maxL) (ret := rt) X.ow (X.ts _ w5) (X.ts _ hsta) (X.ts _ w2) (X.ts _ w1) w3 hK rfl (by rw [X.2.2.1]; exact hl.1) (argsL := av) (rest := st) hn hst (lv_room hs) (by rw [X.2.1]; exact d) (fun vm₁ hW₁ => hv_pre X hR hS g1 g2 hT hW₁)
    dsimp only [Pt.U, Pt.locs, Pt.cells, Pt.slots] at X' e1 e2 h1 h2 h3 stp
    subst h1; subst h2; subst h3
    exact hv_after X hm kk hR hS g1 g2 hl hT (st0 := (T.setVm vm₁).calling g' mk av.toArray) hT e1 hq hL X' stp
  · obtain ⟨v, vm₁, ⟨U', l2, c2, s2⟩, hW₁, X', ⟨g', mk, t, L, e1, e2, hq, h1, hL, h2, h3⟩, stp⟩ := va_callSN XT X.1 (bytes := bytes) (maxL := maxL) (ret := rt) X.ow (va_Nw.use rfl (X.gs.2.2.2.2.2.2.1 _ w5)) (X.ts _ hsta) (X.ts _ w2) (X.ts _ w1) w3 hK rfl (by rw [X.2.2.1]; exact hl.1) (argsL := av) (rest := st) hn hst (lv_room hs) (by rw [X.2.1]; exact d) (fun vm₁ hW₁ => hv_pre X hR hS g1 g2 hT hW₁)
    dsimp only [Pt.U, Pt.locs, Pt.cells, Pt.slots] at X' e1 e2 h1 h2 h3 stp
    subst h1; subst h2; subst h3
    exact hv_after X hm kk hR hS g1 g2 hl hT (st0 := (T.setVm vm₁).calling g' mk av.toArray) hT e1 hq hL X' stp
theorem hv_callI (X : hv_X k cc own nL fr lw ret nm) {b : Nat} {as : List Value} (d : decode cc pc = .ok (.invokespecial index, 3)) (hc : hv_C k.1.2.1 k.2.1 y (Cond.code y bytes maxL none :: hv_ws) fr' lw' (.ref b :: as) σ σ' r) (hy : hv_cs own index y bytes maxL none as.length) (hini : y.name = "<init>") (hinst : Cond.instanceMethod y ∈ hv_ws) (hfr : fr' + 1 ≤ fr) (hlw : 8 + (maxL + 11) + lw' ≤ lw) (hm : σ.1 ≤ σ'.1 ∧ σ.2.1 ≤ σ'.2.1) (hs : (st.map fun v => v.category).sum ≤ 8) (kk : hv_V k σ' pn lo (r.toList ++ st)) (hst : sti = as.reverse ++ .ref b :: st := by rfl) (hp : pn = pc + 3 := by rfl) : hv_V k σ pc lo sti := by
  subst hp
  intro H locs ls hR hS g1 g2 hl T hT XT
  have hK := hv_bk X hc hy hfr hlw
  obtain ⟨w1, w2, w3, w4, w5⟩ := hy
  have hn : ∀ sig, parseMethodDescriptor y.desc = some sig → as.length = sig.parameters.length := fun sig h => by
    rw [h] at w4
    exact (Option.some.inj w4).symm
  rcases w5 with w5 | ⟨host, w5⟩
  · obtain ⟨v, vm₁, ⟨U', l2, c2, s2⟩, hW₁, X', ⟨g', mk, t, L, e1, e2, hq, h1, hL, h2, h3⟩, stp⟩ := callI XT X.1 (bytes := bytes) (maxL := maxL) X.ow hini (X.ts _ w5) (X.ts _ hinst) (X.ts _ w1) w3 hK rfl (by rw [X.2.2.1]; exact hl.1) (a := b) (argsL := as) (rest := st) hn hst (lv_room hs) (by rw [X.2.1]; exact d) (fun vm₁ hW₁ => hv_pre X hR hS g1 g2 hT hW₁)
    dsimp only [Pt.U, Pt.locs, Pt.cells, Pt.slots] at X' e1 e2 h1 h2 h3 stp
    subst h1; subst h2; subst h3
    exact hv_after X hm kk hR hS g1 g2 hl hT (st0 := (T.setVm vm₁).calling g' mk (Value.ref b :: as).toArray) hT e1 hq hL X' stp
  · obtain ⟨v, vm₁, ⟨U', l2, c2, s2⟩, hW₁, X', ⟨g', mk, t, L, e1, e2, hq, h1, hL, h2, h3⟩, stp⟩ := va_callIN XT X.1 (bytes := bytes) (maxL := maxL) X.ow hini (va_Nw.use rfl (X.gs.2.2.2.2.2.2.1 _ w5)) (X.ts _ hinst) (X.ts _ w1) w3 hK rfl (by rw [X.2.2.1]; exact hl.1) (a := b) (argsL := as) (rest := st) hn hst (lv_room hs) (by rw [X.2.1]; exact d) (fun vm₁ hW₁ => hv_pre X hR hS g1 g2 hT hW₁)
    dsimp only [Pt.U, Pt.locs, Pt.cells, Pt.slots] at X' e1 e2 h1 h2 h3 stp
    subst h1; subst h2; subst h3
    exact hv_after X hm kk hR hS g1 g2 hl hT (st0 := (T.setVm vm₁).calling g' mk (Value.ref b :: as).toArray) hT e1 hq hL X' stp
theorem hv_recv (X : hv_X k cc own nL fr lw ret nm) {b ci : Nat} {fs : List Value} {q : vw_C} (hc : vwCl[ci]? = some q) (hf : ho_f σ b ci = some fs) {H : Heap} (hR : hs_R k.2.1 σ H) : ∃ cell : Cell, H[b]? = some cell ∧ cell.vm.isStatics = false ∧ k.1.2.2.2.2.1.vm.findClass q.1 = some cell.cls :=
  va_recv X.gs.2.1 (va_P1 (hR.2.2.2 b _ (ho_f_E hf)).2) hc (q0 := 0) rfl
theorem hv_callV (X : hv_X k cc own nL fr lw ret nm) {b ci : Nat} {as fs : List Value} {q : vw_C} (d : decode cc pc = .ok (.invokevirtual index, 3)) (hc : hv_C k.1.2.1 k.2.1 y (Cond.code y bytes maxL rt :: hv_ws) fr' lw' (.ref b :: as) σ σ' r) (hy : hv_cs own index y bytes maxL rt as.length) (hinst : Cond.instanceMethod y ∈ hv_ws) (hq : vwCl[ci]? = some q) (hsel : Cond.selects q.1 y y ∈ hv_ws) (hf : ho_f σ b ci = some fs) (hfr : fr' + 1 ≤ fr) (hlw : 8 + (maxL + 11) + lw' ≤ lw) (hm : σ.1 ≤ σ'.1 ∧ σ.2.1 ≤ σ'.2.1) (hs : (st.map fun v => v.category).sum ≤ 8) (kk : hv_V k σ' pn lo (r.toList ++ st)) (hst : sti = as.reverse ++ .ref b :: st := by rfl) (hp : pn = pc + 3 := by rfl) : hv_V k σ pc lo sti := by
  subst hp
  intro H locs ls hR hS g1 g2 hl T hT XT
  have hK := hv_bk X hc hy hfr hlw
  obtain ⟨w1, w2, w3, w4, w5⟩ := hy
  obtain ⟨cellB, c1, c2, c3⟩ := hv_recv X hq hf hR
  have hn : ∀ sig, parseMethodDescriptor y.desc = some sig → as.length = sig.parameters.length := fun sig h => by
    rw [h] at w4
    exact (Option.some.inj w4).symm
  rcases w5 with w5 | ⟨host, w5⟩
  · obtain ⟨v, vm₁, ⟨U', l2, c2', s2⟩, hW₁, X', ⟨g', mk, t, L, e1, e2, hq, h1, hL, h2, h3⟩, stp⟩ := callV XT X.1 (bytes := bytes) (maxL := maxL) (ret := rt) X.ow (X.ts _ w5) (X.ts _ hinst) (X.ts _ hsel) (X.ts _ w1) w3 hK (by rw [hT]; exact c1) c2 c3 rfl (by rw [X.2.2.1]; exact hl.1) (argsL := as) (rest := st) hn hst (lv_room hs) (by rw [X.2.1]; exact d) (fun vm₁ hW₁ => hv_pre X hR hS g1 g2 hT hW₁)
    dsimp only [Pt.U, Pt.locs, Pt.cells, Pt.slots] at X' e1 e2 h1 h2 h3 stp
    subst h1; subst h2; subst h3
    exact hv_after X hm kk hR hS g1 g2 hl hT (st0 := (T.setVm vm₁).calling g' mk (Value.ref b :: as).toArray) hT e1 hq hL X' stp
  · obtain ⟨v, vm₁, ⟨U', l2, c2', s2⟩, hW₁, X', ⟨g', mk, t, L, e1, e2, hq, h1, hL, h2, h3⟩, stp⟩ := va_callVN XT X.1 (bytes := bytes) (maxL := maxL) (ret := rt) X.ow (va_Nw.use rfl (X.gs.2.2.2.2.2.2.1 _ w5)) (X.ts _ hinst) (X.ts _ hsel) (X.ts _ w1) w3 hK (by rw [hT]; exact c1) c2 c3 rfl (by rw [X.2.2.1]; exact hl.1) (argsL := as) (rest := st) hn hst (lv_room hs) (by rw [X.2.1]; exact d) (fun vm₁ hW₁ => hv_pre X hR hS g1 g2 hT hW₁)
    dsimp only [Pt.U, Pt.locs, Pt.cells, Pt.slots] at X' e1 e2 h1 h2 h3 stp
    subst h1; subst h2; subst h3
    exact hv_after X hm kk hR hS g1 g2 hl hT (st0 := (T.setVm vm₁).calling g' mk (Value.ref b :: as).toArray) hT e1 hq hL X' stp
theorem ho_ck_E {α : Type} {x : Option (ho_H × α)} {z : ho_H × α} (h : ho_ck σ x = some z) : x = some z ∧ σ.1 ≤ z.1.1 ∧ σ.2.1 ≤ z.1.2.1 := by
  obtain ⟨v, h1, h2⟩ := bd_E h
  split at h2
  · next hc => cases h2; exact ⟨h1, hc⟩
  · cases h2
end HV3
def bd2 {α β γ : Type} (x : Option (α × β)) (f : α → β → Option γ) : Option γ := x.bind fun q => f q.1 q.2
theorem bd2_E {α β γ : Type} {x : Option (α × β)} {f : α → β → Option γ} {r : γ} (h : bd2 x f = some r) : ∃ a b, x = some (a, b) ∧ f a b = some r := by
  obtain ⟨⟨a, b⟩, h1, h2⟩ := bd_E h
  exact ⟨a, b, h1, h2⟩
def sm_e {A B C : Type} (f : A → C) (g : B → C) (e : A ⊕ B) : C := match e with
  | .inl a => f a
  | .inr b => g b
/-- a loop's walk: if a turn of the body leads from the head to the head or out, so does the loop -/
theorem hv_loop {S E : Type} {f : S → Option (S ⊕ E)} {P : S → Prop} {Z : E → Prop} (hb : ∀ s r, f s = some r → sm P Z r → P s) : ∀ (n : Nat) (s : S) (e : E), ho_it f n s = some e → Z e → P s := by
  intro n
  induction n with
  | zero => intro s e h; cases h
  | succ n ih =>
    intro s e h hz
    unfold ho_it at h
    split at h
    · cases h
    · next s' hs => exact hb s _ hs (ih s' e h hz)
    · next e' hs =>
      cases h
      exact hb s _ hs hz
end
section
def ho_cpI (G : ho_G) (σ : ho_H) (src : Nat) (sp : Int32) (dst : Nat) (dp n : Int32) : Option ho_H := (ho_rI G σ src).bind fun q => (ho_aI G σ dst 0).bind fun w => if sp < 0 ∨ dp < 0 ∨ n < 0 ∨ q.1 < sp.toNatClampNeg + n.toNatClampNeg ∨ w.1 < dp.toNatClampNeg + n.toNatClampNeg then none else some (ho_set σ dst (.inl (gc G 0, w.1, .inl (va_cpy q.2 w.2 sp.toNatClampNeg dp.toNatClampNeg n.toNatClampNeg))))
section HV4
variable {k : mk_T} {cc : ByteArray} {own : String} {nL fr lw : Nat} {ret : Option FieldType} {nm : String} {σ σ' : ho_H} {pc pn : Nat} {lo lo' : List (Option Value)} {st : List Value}
theorem hv_cpI (X : hv_X k cc own nL fr lw ret nm) {index src dst : Nat} {sp dp n : Int32} (d : decode cc pc = .ok (.invokestatic index, 3)) (hw1 : Cond.methodLink own index arraycopyName ∈ hv_ws) (hw2 : Cond.native arraycopyName ∈ hv_ws) (hw3 : Cond.static arraycopyName ∈ hv_ws) (hw4 : Cond.initialized "java/lang/System" ∈ hv_ws) (e : ho_cpI k.2.1 σ src sp dst dp n = some σ') (hfr : 1 ≤ fr) (hlw : 8 + (nativeFrameWords "java/lang/System" "arraycopy" 5 + 11) ≤ lw) (hs : (st.map fun v => v.category).sum ≤ 8) (kk : hv_V k σ' pn lo st) (hp : pn = pc + 3 := by rfl) : hv_V k σ pc lo (.int n :: .int dp :: .ref dst :: .int sp :: .ref src :: st) := by
  subst hp
  intro H locs ls hR hS g1 g2 hl
  obtain ⟨q, hq, h2⟩ := bd_E e
  obtain ⟨w, hw, h3⟩ := bd_E h2
  split at h3
  · cases h3
  · next hc =>
    cases h3
    have nn : ∀ z : Int32, ¬ z < 0 → z.toInt = (z.toNatClampNeg : Int) := by
      intro z hz
      have hz0 : (0 : Int) ≤ z.toInt := by
        have := Int32.not_lt.mp hz
        simpa using Int32.le_iff_toInt_le.mp this
      show z.toInt = ((z.toInt.toNat : Nat) : Int)
      omega
    have h1 : ¬ sp < 0 := fun z => hc (Or.inl z)
    have h2' : ¬ dp < 0 := fun z => hc (Or.inr (Or.inl z))
    have h3 : ¬ n < 0 := fun z => hc (Or.inr (Or.inr (Or.inl z)))
    have h4 : sp.toNatClampNeg + n.toNatClampNeg ≤ q.1 := Nat.not_lt.mp fun z => hc (Or.inr (Or.inr (Or.inr (Or.inl z))))
    have h5 : dp.toNatClampNeg + n.toNatClampNeg ≤ w.1 := Nat.not_lt.mp fun z => hc (Or.inr (Or.inr (Or.inr (Or.inr z))))
    have hcd := hR.2.2.2 dst _ (ho_aI_E hw)
    have hc1 : H[dst]? = some (vp_cell (gc k.2.1 0) (w.1, .inl w.2)) := hcd.2
    obtain ⟨-, k1, hk1, cm1, hkk1⟩ := (hv_ki X (i := 0) rfl).1 w.1 (fun j => .int (w.2 j))
    have key : ∃ cs : Cell, H[src]? = some cs ∧ (∀ z, cs.vm ≠ .statics z) ∧ cs.vm ≠ .unknown ∧ (∃ (ks : Class) (cm : ClassId), k.1.2.2.2.2.1.vm.classes[cs.cls]? = some ks ∧ ks.kind = .array cm .int) ∧ q.1 ≤ cs.slots.size ∧ ∀ j : Nat, j < q.1 → cs.slots[j]? = some (.int (q.2 j)) := by
      rcases ho_rI_E hq with h | h
      · have hc0 : H[src]? = some (vp_cell (gc k.2.1 0) (q.1, .inl q.2)) := (hR.2.2.2 src _ h).2
        obtain ⟨-, k0, hk0, cm0, hkk0⟩ := (hv_ki X (i := 0) rfl).1 q.1 (fun j => .int (q.2 j))
        refine ⟨_, hc0, (fun _ h => by cases h), (fun h => by cases h), ⟨k0, cm0, hk0, hkk0⟩, ?_, fun j hj => ?_⟩
        · show _ ≤ (arrV _ _ _).slots.size
          rw [arrV_size]
          exact Nat.le_refl _
        · show (arrV _ _ _).slots[j]? = _
          rw [arrV_read _ _ hj]
      · obtain ⟨cell, t1, ⟨t2, kt, ht, cmt, hkt⟩, t3, t4, t5, t6, t7⟩ := X.gs.2.2.2.1 src _ _ h
        exact ⟨cell, by rw [hS.2.1 src (Array.getElem?_eq_some_iff.mp t1).1 t7]; exact t1, t2, t3, ⟨kt, cmt, ht, hkt⟩, t4, t6⟩
    obtain ⟨cs, hcs, hs1, hs2, ⟨ks, cms, hks, hkks⟩, hsz, hvals⟩ := key
    have hX1 := X.fr
    have hX2 := X.lw
    intro T hT XT
    obtain ⟨vm', X', step⟩ := XT.arraycopy X.1 X.ow (X.ts _ hw1) (X.ts _ hw2) (X.ts _ hw3) (X.ts _ hw4) (src := src) (dst := dst) (cs := cs) (cd := vp_cell (gc k.2.1 0) (w.1, .inl w.2)) (srcPos := sp) (destPos := dp) (n := n) (by rw [hT]; exact hcs) (by rw [hT]; exact hc1)
      hs1 (fun _ h => by cases h) hs2 (fun h => by cases h) hks hk1 hkks hkk1 (by decide) h1 h2' h3
      (by rw [nn sp h1, nn n h3]; omega)
      (by rw [nn dp h2', nn n h3]; show ¬ _ > ((arrV (gc k.2.1 0) w.1 (fun j => .int (w.2 j))).slots.size : Int); rw [arrV_size]; omega)
      (fun vm₁ _ i hi => by
        have e : cs.slots.getD (sp.toNatClampNeg + i) .null = .int (q.2 (sp.toNatClampNeg + i)) := by
          rw [Array.getD_eq_getD_getElem?, hvals _ (by omega)]
          rfl
        rw [e]
        exact ⟨rfl, trivial⟩)
      (g := F0 _ pc ls (.int n :: .int dp :: .ref dst :: .int sp :: .ref src :: st)) rfl (by rw [X.2.2.1]; exact hl.1) (rest := st) rfl (by rw [X.2.1]; exact d) (by omega) (by show 2 * 0 + _ + _ ≤ _; omega)
    have e0 : cs.stretch sp.toNatClampNeg n.toNatClampNeg = (arrV (gc k.2.1 0) q.1 (fun j => .int (q.2 j))).stretch sp.toNatClampNeg n.toNatClampNeg := by
      unfold Cell.stretch
      apply List.map_congr_left
      intro i hi
      have hi' := List.mem_range.mp hi
      rw [Array.getD_eq_getD_getElem?, Array.getD_eq_getD_getElem?, arrV_read _ _ (by omega), hvals _ (by omega)]
    have e1 : copied cs (vp_cell (gc k.2.1 0) (w.1, .inl w.2)) sp dp n = vp_cell (gc k.2.1 0) (w.1, .inl (va_cpy q.2 w.2 sp.toNatClampNeg dp.toNatClampNeg n.toNatClampNeg)) := by
      show Cell.storeRun _ _ (cs.stretch _ _) = _
      rw [e0]
      exact va_copied (fun z => .int z) (gc k.2.1 0) (gc k.2.1 0) q.2 w.2 h4
    rw [e1] at X' step
    have hl' : dst < H.size := (Array.getElem?_eq_some_iff.mp hc1).1
    have hheap : ((T.setVm vm').setCell dst (vp_cell (gc k.2.1 0) (w.1, .inl (va_cpy q.2 w.2 sp.toNatClampNeg dp.toNatClampNeg n.toNatClampNeg)))).heap = H.setIfInBounds dst (vp_cell (gc k.2.1 0) (w.1, .inl (va_cpy q.2 w.2 sp.toNatClampNeg dp.toNatClampNeg n.toNatClampNeg))) := by rw [← hT]; rfl
    have oq : ∀ z : Nat, z ≠ dst → (H.setIfInBounds dst (vp_cell (gc k.2.1 0) (w.1, .inl (va_cpy q.2 w.2 sp.toNatClampNeg dp.toNatClampNeg n.toNatClampNeg))))[z]? = H[z]? := fun z hz => by simp [Array.getElem?_setIfInBounds, Ne.symm hz]
    obtain ⟨t, a1, b1⟩ := kk _ _ ls (hR.set (ho_aI_E hw) (by simp) oq (show (H.setIfInBounds dst _)[dst]? = some _ by simp [Array.getElem?_setIfInBounds, hl'])) ⟨by simp; exact hS.1, fun z z1 z2 => by
        rw [oq z (fun e => z2 (by rw [e]; exact hcd.1))]
        exact hS.2.1 z z1 z2, fun z hz => by
        rcases List.mem_append.mp hz with h | h
        · exact hS.2.2 z h
        · obtain ⟨y, -, hy⟩ := List.mem_map.mp h
          rw [← hy]
          exact hcd.1⟩ g1 g2 hl _ hheap X'
    exact ⟨t, step t a1, b1⟩
end HV4
end
section
/-! arrays of references, casts, class objects, clone, the switch -/
def ho_rR (G : ho_G) (σ : ho_H) (a kd : Nat) : Option (Nat × (Nat → Option Nat)) := match σ.2.2 a with
  | some (.inl (c, n, .inr (.inr (.inr (.inr f))))) => if c = gc G kd then some (n, f) else none
  | some _ => none
  | none => if a = gA G 4 ∧ kd = 5 then some (0, fun _ => none) else none
theorem ho_rR_E {G : ho_G} {σ : ho_H} {a kd : Nat} {q : Nat × (Nat → Option Nat)} (h : ho_rR G σ a kd = some q) : σ.2.2 a = some (.inl (gc G kd, q.1, .inr (.inr (.inr (.inr q.2))))) ∨ (a = gA G 4 ∧ kd = 5 ∧ q.1 = 0) := by
  unfold ho_rR at h
  split at h
  · next c n f e =>
    split at h
    · next hc => subst hc; rw [e, ← Option.some.inj h]; exact Or.inl rfl
    · cases h
  · cases h
  · split at h
    · next hc => cases h; exact Or.inr ⟨hc.1, hc.2, rfl⟩
    · cases h
def ho_lnQ (G : ho_G) (σ : ho_H) (a kd : Nat) : Option Int32 := (ho_rR G σ a kd).map fun q => Int32.ofNat q.1
def ho_cpR (G : ho_G) (σ : ho_H) (src : Nat) (sp : Int32) (dst : Nat) (dp n : Int32) : Option ho_H := (ho_aR G σ src 5).bind fun q => (ho_aR G σ dst 5).bind fun w => if sp < 0 ∨ dp < 0 ∨ n < 0 ∨ q.1 < sp.toNatClampNeg + n.toNatClampNeg ∨ w.1 < dp.toNatClampNeg + n.toNatClampNeg ∨ ¬ (∀ i, i < n.toNatClampNeg → ((q.2 (sp.toNatClampNeg + i)).all fun y => (ho_f σ y 3).isSome) = true) then none else some (ho_set σ dst (.inl (gc G 5, w.1, .inr (.inr (.inr (.inr (va_cpy q.2 w.2 sp.toNatClampNeg dp.toNatClampNeg n.toNatClampNeg)))))))
def ho_clI (G : ho_G) (σ : ho_H) (a : Nat) : Option (ho_H × Nat) := (ho_aI G σ a 0).bind fun q => ho_al G σ q.1 (.inl (gc G 0, q.1, .inl q.2))
def ho_mx (x y : Int32) : Int32 := if x < y then y else x
def ho_mn (x y : Int32) : Int32 := if y < x then y else x
section HV5
variable {k : mk_T} {cc : ByteArray} {own : String} {nL fr lw : Nat} {ret : Option FieldType} {nm : String} {σ σ' : ho_H} {pc pn : Nat} {lo lo' : List (Option Value)} {st : List Value}
theorem hv_alenQ (X : hv_X k cc own nL fr lw ret nm) {a kd : Nat} {C : String} {x : Int32} (d : decode cc pc = .ok (.arraylength, 1)) (ht : hv_tys[kd]? = some (.object C)) (e : ho_lnQ k.2.1 σ a kd = some x) (kk : hv_V k σ pn lo (.int x :: st)) (hp : pn = pc + 1 := by rfl) : hv_V k σ pc lo (.ref a :: st) := by
  subst hp
  intro H locs ls hR hS g1 g2 hl
  obtain ⟨q, h1, h2⟩ := mp_E e
  rcases ho_rR_E h1 with h | ⟨rfl, h3, h4⟩
  · exact va_alen X.1 X.2.1 X.gs.2.1 (va_P1 (hR.2.2.2 a _ h).2) 0 kd rfl (hv_kt X ht) h2 d (kk H locs ls hR hS g1 g2 hl)
  · obtain ⟨cell, t1, t2, t3, t4, t5, t6, t7⟩ := X.gs.2.2.2.2.2.2.2.1
    rw [h4] at h2
    exact W.alen X.1 X.2.1 (by rw [hS.2.1 _ (Array.getElem?_eq_some_iff.mp t1).1 t7]; exact t1) t2 (t5.trans h2) rfl rfl d (kk H locs ls hR hS g1 g2 hl)
theorem hv_acmp_eq (X : hv_X k cc own nL fr lw ret nm) {x y : Nat} {off : Int} {tgt : Nat} (d : decode cc pc = .ok (.if_acmp .eq off, 3)) (ht : (pc : Int) + off = (tgt : Int)) (kt : (x = y) → hv_V k σ tgt lo st) (kf : ¬ (x = y) → hv_V k σ pn lo st) (hp : pn = pc + 3 := by rfl) : hv_V k σ pc lo (.ref y :: .ref x :: st) := by
  subst hp
  intro H locs ls hR hS g1 g2 hl
  exact lv_acmp_eq (rx := some x) (ry := some y) X.1 X.2.1 d ht (fun h => kt (Option.some.inj h) H locs ls hR hS g1 g2 hl) (fun h => kf (fun q => h (congrArg some q)) H locs ls hR hS g1 g2 hl)
theorem hv_acmp_ne (X : hv_X k cc own nL fr lw ret nm) {x y : Nat} {off : Int} {tgt : Nat} (d : decode cc pc = .ok (.if_acmp .ne off, 3)) (ht : (pc : Int) + off = (tgt : Int)) (kt : (¬ x = y) → hv_V k σ tgt lo st) (kf : ¬ (¬ x = y) → hv_V k σ pn lo st) (hp : pn = pc + 3 := by rfl) : hv_V k σ pc lo (.ref y :: .ref x :: st) := by
  subst hp
  intro H locs ls hR hS g1 g2 hl
  exact lv_acmp_ne (rx := some x) (ry := some y) X.1 X.2.1 d ht (fun h => kt (fun q => h (congrArg some q)) H locs ls hR hS g1 g2 hl) (fun h => kf (fun q => q (Option.some.inj h)) H locs ls hR hS g1 g2 hl)
theorem hv_anew (X : hv_X k cc own nL fr lw ret nm) {n : Int32} {a index kd : Nat} {C : String} (d : decode cc pc = .ok (.anewarray index, 3)) (hw : Cond.classLink own index C ∈ hv_ws) (hov : C ∈ hv_ao) (ht : hv_tys[kd]? = some (.object C)) (e : ho_nwR k.2.1 σ kd n = some (σ', a)) (kk : hv_V k σ' pn lo (.ref a :: st)) (hp : pn = pc + 3 := by rfl) : hv_V k σ pc lo (.int n :: st) := by
  subst hp
  intro H locs ls hR hS g1 g2 hl
  obtain ⟨N, hn, e⟩ := bd_E e
  obtain ⟨n1, n2, n3⟩ := ho_n_E hn
  obtain ⟨a1, a2, a3, a4, a5⟩ := ho_al_E e
  refine W.anew X.1 X.2.1 X.ow (X.ts _ hw) (va_AO.use (X.gs.2.2.2.2.2.2.2.2.2.2.2.2.2.2 _ hov)) rfl d rfl n1 (by omega) (by rw [X.rc]; omega) (by rw [X.rs]; omega) fun cA kA comp h1 h2 h3 h4 => ?_
  have hcA : cA = gc k.2.1 kd := by
    obtain ⟨kA', comp', r1, r2, r3, r4⟩ := (hv_ki X ht).2
    exact Option.some.inj (h1.symm.trans r4)
  subst hcA
  rw [n2]
  have z1 : (H.push { cls := gc k.2.1 kd, slots := Array.replicate N .null, vm := .none }).size = H.size + 1 := Array.size_push _
  have o1 : ∀ q : Nat, q < H.size → (H.push { cls := gc k.2.1 kd, slots := Array.replicate N .null, vm := .none })[q]? = H[q]? := fun q hq => by rw [Array.getElem?_push, if_neg (Nat.ne_of_lt hq)]
  have e1 : (H.push { cls := gc k.2.1 kd, slots := Array.replicate N .null, vm := .none })[H.size]? = some (vp_cell (gc k.2.1 kd) (N, .inr (.inr (.inr (.inr fun _ => none))))) := by
    rw [Array.getElem?_push_size, vp_cell_q]
    exact congrArg some (arrV_new _ _ _)
  obtain ⟨b1, b2, -⟩ := hR.push e (Nat.le_trans X.gs.1 hS.1) z1 o1 e1
  have w := kk _ locs ls b1 (hS.grow (by omega) o1) (by omega) (by omega) hl
  rw [a3, a4, show σ.1 + 1 - k.2.2.1.1 = σ.1 - k.2.2.1.1 + 1 by omega, show σ.2.1 + N - k.2.2.1.2.1 = σ.2.1 - k.2.2.1.2.1 + N by omega, b2] at w
  exact w
theorem hv_any (X : hv_X k cc own nL fr lw ret nm) {v ci : Nat} {fs : List Value} {q : vw_C} {E : String} (hq : vwCl[ci]? = some q) (hca : q.1 = E ∨ (q.1, E) ∈ hv_cast) (hf : ho_f σ v ci = some fs) {H : Heap} (hR : hs_R k.2.1 σ H) : va_Any E k.1.2.2.2.2.1 H v := by
  refine va_rAny X.gs.2.1 (va_P1 (hR.2.2.2 v _ (ho_f_E hf)).2) (q0 := 0) rfl hq ?_
  rcases hca with rfl | hca
  · intro comp c0 h1 h2
    have hK := X.gs.2.1.1 ci q hq
    have e1 : comp = (gD k.2.1).1 ci := Option.some.inj (h1.symm.trans hK.2.1)
    have e2 : c0 = (gD k.2.1).1 ci := Option.some.inj (h2.symm.trans hK.2.1)
    rw [e1, e2]
    exact va_assign hK.2
  · exact vb_asgC (X.gs.2.2.2.2.2.2.2.2.1 _ hca)
theorem hv_aast (X : hv_X k cc own nL fr lw ret nm) {a v kd ci : Nat} {i : Int32} {fs : List Value} {q : vw_C} {E : String} (d : decode cc pc = .ok (.aastore, 1)) (ht : hv_tys[kd]? = some (.object E)) (hq : vwCl[ci]? = some q) (hca : q.1 = E ∨ (q.1, E) ∈ hv_cast) (hf : ho_f σ v ci = some fs) (e : ho_stR k.2.1 σ a kd i (some v) = some σ') (kk : hv_V k σ' pn lo st) (hp : pn = pc + 1 := by rfl) : hv_V k σ pc lo (.ref v :: .int i :: .ref a :: st) := by
  subst hp
  intro H locs ls hR hS g1 g2 hl
  obtain ⟨w, h1, h2⟩ := bd_E e
  obtain ⟨j, hj, h3⟩ := mp_E h2
  obtain ⟨hin, rfl⟩ := ho_ix_E hj
  subst h3
  have hc := hR.2.2.2 a _ (ho_aR_E h1)
  have hlt : i.toNatClampNeg < w.1 := Nat.not_le.mp fun q => hin (Or.inr q)
  have h0 : ¬ i < 0 := fun q => hin (Or.inl q)
  obtain ⟨cellV, g3, g4, ⟨kC, hkC⟩, hasg⟩ := hv_any X hq hca hf hR
  obtain ⟨kA, comp, k1, k2, k3, -⟩ := (hv_ki X ht).2
  obtain ⟨kE, hkE, -⟩ := Vm.findClass_spec k3
  refine W.aast X.1 X.2.1 hc.2 (fun q h => by cases h) (fun h => by cases h) k1 k2 rfl hkE ⟨h0, by show _ < (arrV _ _ _).slots.size; rw [arrV_size]; exact hlt⟩ g3 (fun q h => by rw [h] at g4; cases g4) hkC (hasg _ k3) rfl rfl d fun H1 e z oq => ?_
  refine kk H1 _ ls (hR.set (ho_aR_E h1) z oq ?_) (hS.put z oq hc.1) g1 g2 hl
  show H1[a]? = some (vp_cell _ _)
  rw [e]
  rw [vp_cell_q, vp_cell_q, arrV_store]
  congr 2
  funext q
  by_cases hq : q = i.toNatClampNeg
  · subst hq
    simp [updV, va_up, va_rf]
  · simp [updV, va_up, hq]
theorem hv_aastN (X : hv_X k cc own nL fr lw ret nm) {a kd : Nat} {i : Int32} {E : String} (d : decode cc pc = .ok (.aastore, 1)) (ht : hv_tys[kd]? = some (.object E)) (e : ho_stR k.2.1 σ a kd i none = some σ') (kk : hv_V k σ' pn lo st) (hp : pn = pc + 1 := by rfl) : hv_V k σ pc lo (.null :: .int i :: .ref a :: st) := by
  subst hp
  intro H locs ls hR hS g1 g2 hl
  obtain ⟨w, h1, h2⟩ := bd_E e
  obtain ⟨j, hj, h3⟩ := mp_E h2
  obtain ⟨hin, rfl⟩ := ho_ix_E hj
  subst h3
  have hc := hR.2.2.2 a _ (ho_aR_E h1)
  refine va_WaastN (C := E) X.1 X.2.1 hc.2 ((hv_ki X ht).1 w.1 (fun j => va_rf (w.2 j))) (fun h => by cases h) (by show ¬ (i < 0 ∨ (arrV _ _ _).slots.size ≤ _); rw [arrV_size]; exact hin) rfl rfl d fun H1 e z oq => ?_
  refine kk H1 _ ls (hR.set (ho_aR_E h1) z oq ?_) (hS.put z oq hc.1) g1 g2 hl
  show H1[a]? = some (vp_cell _ _)
  rw [e]
  rw [vp_cell_q, vp_cell_q, arrV_store]
  congr 2
  funext q
  by_cases hq : q = i.toNatClampNeg
  · subst hq
    simp [updV, va_up, va_rf]
  · simp [updV, va_up, hq]
theorem hv_cast_o (X : hv_X k cc own nL fr lw ret nm) {a ci index : Nat} {fs : List Value} {q : vw_C} {E : String} (d : decode cc pc = .ok (.checkcast index, 3)) (hw : Cond.classLink own index E ∈ hv_ws) (hq : vwCl[ci]? = some q) (hca : (q.1, E) ∈ hv_cast) (hf : ho_f σ a ci = some fs) (kk : hv_V k σ pn lo (.ref a :: st)) (hp : pn = pc + 3 := by rfl) : hv_V k σ pc lo (.ref a :: st) := by
  subst hp
  intro H locs ls hR hS g1 g2 hl
  exact va_castY X.1 X.2.1 X.ow (X.ts _ hw) (X.gs.2.2.2.2.2.2.2.2.1 _ hca) (hv_recv X hq hf hR) d (kk H locs ls hR hS g1 g2 hl)
theorem hv_cast_i (X : hv_X k cc own nL fr lw ret nm) {a index : Nat} {q : Nat × (Nat → Int32)} (d : decode cc pc = .ok (.checkcast index, 3)) (hw : Cond.classLink own index "[I" ∈ hv_ws) (hf : ho_aI k.2.1 σ a 0 = some q) (kk : hv_V k σ pn lo (.ref a :: st)) (hp : pn = pc + 3 := by rfl) : hv_V k σ pc lo (.ref a :: st) := by
  subst hp
  intro H locs ls hR hS g1 g2 hl
  exact va_castA X.1 X.2.1 X.ow (X.ts _ hw) (va_P1 (hR.2.2.2 a _ (ho_aI_E hf)).2) 0 rfl (hv_ki X (i := 0) (ty := .int) rfl).2 d (kk H locs ls hR hS g1 g2 hl)
theorem hv_max (X : hv_X k cc own nL fr lw ret nm) {x y : Int32} {index : Nat} (d : decode cc pc = .ok (.invokestatic index, 3)) (hw1 : Cond.methodLink own index Lib.Math.max.name ∈ hv_ws) (hw2 : Cond.static Lib.Math.max.name ∈ hv_ws) (hw3 : Cond.initialized "java/lang/Math" ∈ hv_ws) (hw4 : Cond.code Lib.Math.max.name Lib.Math.max.code 2 (some .int) ∈ hv_ws) (hfr : 1 ≤ fr) (hlw : 21 ≤ lw) (hs : (st.map fun v => v.category).sum ≤ 8) (kk : hv_V k σ pn lo (.int (ho_mx x y) :: st)) (hp : pn = pc + 3 := by rfl) : hv_V k σ pc lo (.int y :: .int x :: st) := by
  subst hp
  intro H locs ls hR hS g1 g2 hl
  have h1 := X.fr
  have h2 := X.lw
  have h3 := hR.2.1
  have h4 := hR.2.2.1
  exact va_mmax X.1 X.2.1 (by rw [X.2.2.1]; exact hl.1.symm) X.ow (X.ts _ hw1) (X.ts _ hw2) (X.ts _ hw3) (X.ts _ hw4) (by omega) (by omega) (by rw [X.rc]; omega) (by rw [X.rs]; omega) d (kk H locs ls hR hS g1 g2 hl)
theorem hv_min (X : hv_X k cc own nL fr lw ret nm) {x y : Int32} {index : Nat} (d : decode cc pc = .ok (.invokestatic index, 3)) (hw1 : Cond.methodLink own index Lib.Math.min.name ∈ hv_ws) (hw2 : Cond.static Lib.Math.min.name ∈ hv_ws) (hw3 : Cond.initialized "java/lang/Math" ∈ hv_ws) (hw4 : Cond.code Lib.Math.min.name Lib.Math.min.code 2 (some .int) ∈ hv_ws) (hfr : 1 ≤ fr) (hlw : 21 ≤ lw) (hs : (st.map fun v => v.category).sum ≤ 8) (kk : hv_V k σ pn lo (.int (ho_mn x y) :: st)) (hp : pn = pc + 3 := by rfl) : hv_V k σ pc lo (.int y :: .int x :: st) := by
  subst hp
  intro H locs ls hR hS g1 g2 hl
  have h1 := X.fr
  have h2 := X.lw
  have h3 := hR.2.1
  have h4 := hR.2.2.1
  exact va_mmin X.1 X.2.1 (by rw [X.2.2.1]; exact hl.1.symm) X.ow (X.ts _ hw1) (X.ts _ hw2) (X.ts _ hw3) (X.ts _ hw4) (by omega) (by omega) (by rw [X.rc]; omega) (by rw [X.rs]; omega) d (kk H locs ls hR hS g1 g2 hl)
theorem hv_ldcM (X : hv_X k cc own nL fr lw ret nm) {index : Nat} (d : decode cc pc = .ok (.ldc index, 2)) (hw : Cond.classLink own index "[Ljava/lang/Object;" ∈ hv_ws) (kk : hv_V k σ pn lo (.ref (gA k.2.1 5) :: st)) (hp : pn = pc + 2 := by rfl) : hv_V k σ pc lo st := by
  subst hp
  intro H locs ls hR hS g1 g2 hl
  exact va_ldcM X.1 X.2.1 X.ow (X.ts _ hw) X.gs.2.2.2.2.2.2.2.2.2.2.2.2.2.1 d (kk H locs ls hR hS g1 g2 hl)
theorem hv_getC (X : hv_X k cc own nL fr lw ret nm) {a index : Nat} {q : Nat × (Nat → Option Nat)} (d : decode cc pc = .ok (.invokevirtual index, 3)) (hw1 : Cond.methodLink own index ⟨"java/lang/Object", "getClass", "()Ljava/lang/Class;"⟩ ∈ hv_ws) (hd : (⟨"java/lang/Object", "getClass", "()Ljava/lang/Class;"⟩ : MethodName) ∈ hv_decl) (hw2 : Cond.selects "[Ljava/lang/Object;" ⟨"java/lang/Object", "getClass", "()Ljava/lang/Class;"⟩ ⟨"java/lang/Object", "getClass", "()Ljava/lang/Class;"⟩ ∈ hv_ws) (hw3 : Cond.instanceMethod ⟨"java/lang/Object", "getClass", "()Ljava/lang/Class;"⟩ ∈ hv_ws) (hw4 : Cond.native ⟨"java/lang/Object", "getClass", "()Ljava/lang/Class;"⟩ ∈ hv_ws) (hf : ho_aR k.2.1 σ a 5 = some q) (hfr : 1 ≤ fr) (hlw : 22 ≤ lw) (hs : (st.map fun v => v.category).sum ≤ 8) (kk : hv_V k σ pn lo (.ref (gA k.2.1 5) :: st)) (hp : pn = pc + 3 := by rfl) : hv_V k σ pc lo (.ref a :: st) := by
  subst hp
  intro H locs ls hR hS g1 g2 hl
  have h1 := X.fr
  have h2 := X.lw
  exact va_getC X.1 X.2.1 (by rw [X.2.2.1]; exact hl.1.symm) X.ow (X.ts _ hw1) (va_Nw.use rfl (X.gs.2.2.2.2.2.2.2.2.2.1 _ hd)) (X.ts _ hw2) (X.ts _ hw3) (X.ts _ hw4) X.gs.2.2.2.2.2.2.2.2.2.2.2.2.2.1 ⟨_, (hR.2.2.2 a _ (ho_aR_E hf)).2, rfl, va_nmO (hv_ki X (i := 5) (ty := .object "java/lang/Object") rfl).2 (by decide)⟩ (by omega) (by omega) d (kk H locs ls hR hS g1 g2 hl)
theorem hv_tsw_in (X : hv_X k cc own nL fr lw ret nm) {x : Int32} {dflt a b n off : Int} {offs : Array Int} {len tgt : Nat} (d : decode cc pc = .ok (.tableswitch dflt a b offs, len)) (hx : x.toInt = n) (h1 : ¬ n < a) (h2 : ¬ b < n) (ho : offs[(n - a).toNat]? = some off) (ht : (pc : Int) + off = (tgt : Int)) (kk : hv_V k σ tgt lo st) : hv_V k σ pc lo (.int x :: st) := by
  subst hx
  intro H locs ls hR hS g1 g2 hl
  exact lv_tableIn X.1 X.2.1 d h1 h2 ho ht (kk H locs ls hR hS g1 g2 hl)
theorem hv_tsw_out (X : hv_X k cc own nL fr lw ret nm) {x : Int32} {dflt a b : Int} {offs : Array Int} {len tgt : Nat} (d : decode cc pc = .ok (.tableswitch dflt a b offs, len)) (h : x.toInt < a ∨ b < x.toInt) (ht : (pc : Int) + dflt = (tgt : Int)) (kk : hv_V k σ tgt lo st) : hv_V k σ pc lo (.int x :: st) := by
  intro H locs ls hR hS g1 g2 hl
  exact lv_tableOut X.1 X.2.1 d h ht (kk H locs ls hR hS g1 g2 hl)
theorem hv_lsw (X : hv_X k cc own nL fr lw ret nm) {x : Int32} {dflt off : Int} {ps : Array (Int × Int)} {len tgt : Nat} (d : decode cc pc = .ok (.lookupswitch dflt ps, len)) (hp : (ps.toList.zip (ps.toList.drop 1)).all (fun (a, next) => a.1 < next.1) = true) (ho : Op.lookupswitch.offset ps.toList dflt x.toInt = off) (ht : (pc : Int) + off = (tgt : Int)) (kk : hv_V k σ tgt lo st) : hv_V k σ pc lo (.int x :: st) := by
  intro H locs ls hR hS g1 g2 hl
  exact lv_lookup X.1 X.2.1 d hp ho ht (kk H locs ls hR hS g1 g2 hl)
theorem sw_out {x : Int32} {n : Nat} (hn : n < 2 ^ 31) (h : ∀ j : Nat, j < n → ¬ x = nI j) : x.toInt < 0 ∨ ((n : Int) - 1) < x.toInt := by
  by_cases h0 : x.toInt < 0
  · exact Or.inl h0
  · refine Or.inr ?_
    by_cases h1 : (n : Int) - 1 < x.toInt
    · exact h1
    · exfalso
      have hj : x.toInt.toNat < n := by omega
      refine h _ hj (Int32.toInt_inj.mp ?_)
      rw [nI_toInt (by omega)]
      omega
end HV5
theorem sw_out2 {x : Int32} {a n : Nat} (hn : a + n < 2 ^ 31) (h : ∀ j : Nat, j < n → ¬ x = nI (a + j)) : x.toInt < (a : Int) ∨ (((a + n : Nat) : Int) - 1) < x.toInt := by
  by_cases h0 : x.toInt < (a : Int)
  · exact Or.inl h0
  · refine Or.inr ?_
    by_cases h1 : ((a + n : Nat) : Int) - 1 < x.toInt
    · exact h1
    · exfalso
      have hj : x.toInt.toNat - a < n := by omega
      refine h _ hj (Int32.toInt_inj.mp ?_)
      rw [nI_toInt (by omega)]
      omega
end
section
section HV6
variable {k : mk_T} {cc : ByteArray} {own : String} {nL fr lw : Nat} {ret : Option FieldType} {nm : String} {σ σ' : ho_H} {pc pn : Nat} {lo lo' : List (Option Value)} {st : List Value}
theorem hv_cpR (X : hv_X k cc own nL fr lw ret nm) {index src dst : Nat} {sp dp n : Int32} (d : decode cc pc = .ok (.invokestatic index, 3)) (hw1 : Cond.methodLink own index arraycopyName ∈ hv_ws) (hw2 : Cond.native arraycopyName ∈ hv_ws) (hw3 : Cond.static arraycopyName ∈ hv_ws) (hw4 : Cond.initialized "java/lang/System" ∈ hv_ws) (hca : (R3, "java/lang/Object") ∈ hv_cast) (e : ho_cpR k.2.1 σ src sp dst dp n = some σ') (hfr : 1 ≤ fr) (hlw : 8 + (nativeFrameWords "java/lang/System" "arraycopy" 5 + 11) ≤ lw) (hs : (st.map fun v => v.category).sum ≤ 8) (kk : hv_V k σ' pn lo st) (hp : pn = pc + 3 := by rfl) : hv_V k σ pc lo (.int n :: .int dp :: .ref dst :: .int sp :: .ref src :: st) := by
  subst hp
  intro H locs ls hR hS g1 g2 hl
  obtain ⟨q, hq, h2⟩ := bd_E e
  obtain ⟨w, hw, h3⟩ := bd_E h2
  split at h3
  · cases h3
  · next hc =>
    cases h3
    have nn : ∀ z : Int32, ¬ z < 0 → z.toInt = (z.toNatClampNeg : Int) := by
      intro z hz
      have hz0 : (0 : Int) ≤ z.toInt := by
        have := Int32.not_lt.mp hz
        simpa using Int32.le_iff_toInt_le.mp this
      show z.toInt = ((z.toInt.toNat : Nat) : Int)
      omega
    have h1 : ¬ sp < 0 := fun z => hc (Or.inl z)
    have h2' : ¬ dp < 0 := fun z => hc (Or.inr (Or.inl z))
    have h3 : ¬ n < 0 := fun z => hc (Or.inr (Or.inr (Or.inl z)))
    have h4 : sp.toNatClampNeg + n.toNatClampNeg ≤ q.1 := Nat.not_lt.mp fun z => hc (Or.inr (Or.inr (Or.inr (Or.inl z))))
    have h5 : dp.toNatClampNeg + n.toNatClampNeg ≤ w.1 := Nat.not_lt.mp fun z => hc (Or.inr (Or.inr (Or.inr (Or.inr (Or.inl z)))))
    have h6 : ∀ i, i < n.toNatClampNeg → ((q.2 (sp.toNatClampNeg + i)).all fun y => (ho_f σ y 3).isSome) = true := Classical.not_not.mp fun z => hc (Or.inr (Or.inr (Or.inr (Or.inr (Or.inr z)))))
    have hcs := hR.2.2.2 src _ (ho_aR_E hq)
    have hcd := hR.2.2.2 dst _ (ho_aR_E hw)
    have hc0 : H[src]? = some (vp_cell (gc k.2.1 5) (q.1, .inr (.inr (.inr (.inr q.2))))) := hcs.2
    have hc1 : H[dst]? = some (vp_cell (gc k.2.1 5) (w.1, .inr (.inr (.inr (.inr w.2))))) := hcd.2
    have ht : hv_tys[5]? = some (.object "java/lang/Object") := rfl
    obtain ⟨-, k0, hk0, cm0, hkk0⟩ := (hv_ki X ht).1 q.1 (fun j => va_rf (q.2 j))
    obtain ⟨-, k1, hk1, cm1, hkk1⟩ := (hv_ki X ht).1 w.1 (fun j => va_rf (w.2 j))
    have hX1 := X.fr
    have hX2 := X.lw
    intro T hT XT
    obtain ⟨vm', X', step⟩ := XT.arraycopy X.1 X.ow (X.ts _ hw1) (X.ts _ hw2) (X.ts _ hw3) (X.ts _ hw4) (src := src) (dst := dst) (cs := vp_cell (gc k.2.1 5) (q.1, .inr (.inr (.inr (.inr q.2))))) (cd := vp_cell (gc k.2.1 5) (w.1, .inr (.inr (.inr (.inr w.2))))) (srcPos := sp) (destPos := dp) (n := n) (by rw [hT]; exact hc0) (by rw [hT]; exact hc1)
      (fun _ h => by cases h) (fun _ h => by cases h) (fun h => by cases h) (fun h => by cases h) hk0 hk1 hkk0 hkk1 rfl h1 h2' h3
      (by rw [nn sp h1, nn n h3]; show ¬ _ > ((arrV (gc k.2.1 5) q.1 (fun j => va_rf (q.2 j))).slots.size : Int); rw [arrV_size]; omega)
      (by rw [nn dp h2', nn n h3]; show ¬ _ > ((arrV (gc k.2.1 5) w.1 (fun j => va_rf (w.2 j))).slots.size : Int); rw [arrV_size]; omega)
      (fun vm₁ hal i hi => by
        have e : (vp_cell (gc k.2.1 5) (q.1, .inr (.inr (.inr (.inr q.2))))).slots.getD (sp.toNatClampNeg + i) .null = va_rf (q.2 (sp.toNatClampNeg + i)) := by
          show (arrV (gc k.2.1 5) q.1 (fun j => va_rf (q.2 j))).slots.getD _ _ = _
          rw [Array.getD_eq_getD_getElem?, arrV_read _ _ (by omega)]
          rfl
        rw [e]
        cases hy : q.2 (sp.toNatClampNeg + i) with
        | none => exact ⟨rfl, trivial⟩
        | some y =>
          have h7 := h6 i hi
          rw [hy] at h7
          obtain ⟨fs, hfs⟩ := Option.isSome_iff_exists.mp (show (ho_f σ y 3).isSome = true from h7)
          obtain ⟨cellV, z1, z2, ⟨kC, hkC⟩, hasg⟩ := hv_any X (E := "java/lang/Object") (show vwCl[3]? = some (R3, T3, 1) from rfl) (Or.inr hca) hfs hR
          obtain ⟨kA, comp, r1, r2, r3, -⟩ := (hv_ki X ht).2
          cases hk1.symm.trans r1
          cases hkk1.symm.trans r2
          obtain ⟨kE, hkE, -⟩ := Vm.findClass_spec r3
          obtain ⟨kC', hkC', -⟩ := hal.2.2 _ _ hkC
          obtain ⟨kE', hkE', -⟩ := hal.2.2 _ _ hkE
          refine ⟨rfl, cellV, (show T.heap[y]? = some cellV by rw [hT]; exact z1), (fun q h => by rw [h] at z2; cases z2), ⟨kC', hkC'⟩, ?_, ?_⟩
          · exact ⟨kE', hkE'⟩
          · show vm₁.assignable _ _ = true
            rw [hal.assignable]
            exact hasg _ r3)
      (g := F0 _ pc ls (.int n :: .int dp :: .ref dst :: .int sp :: .ref src :: st)) rfl (by rw [X.2.2.1]; exact hl.1) (rest := st) rfl (by rw [X.2.1]; exact d) (by omega) (by show 2 * 0 + _ + _ ≤ _; omega)
    have e1 : copied (vp_cell (gc k.2.1 5) (q.1, .inr (.inr (.inr (.inr q.2))))) (vp_cell (gc k.2.1 5) (w.1, .inr (.inr (.inr (.inr w.2))))) sp dp n = vp_cell (gc k.2.1 5) (w.1, .inr (.inr (.inr (.inr (va_cpy q.2 w.2 sp.toNatClampNeg dp.toNatClampNeg n.toNatClampNeg))))) := by
      rw [vp_cell_q, vp_cell_q, vp_cell_q]
      exact va_copied (fun z => va_rf z) (gc k.2.1 5) (gc k.2.1 5) q.2 w.2 h4
    rw [e1] at X' step
    have hl' : dst < H.size := (Array.getElem?_eq_some_iff.mp hc1).1
    have hheap : ((T.setVm vm').setCell dst (vp_cell (gc k.2.1 5) (w.1, .inr (.inr (.inr (.inr (va_cpy q.2 w.2 sp.toNatClampNeg dp.toNatClampNeg n.toNatClampNeg))))))).heap = H.setIfInBounds dst (vp_cell (gc k.2.1 5) (w.1, .inr (.inr (.inr (.inr (va_cpy q.2 w.2 sp.toNatClampNeg dp.toNatClampNeg n.toNatClampNeg)))))) := by rw [← hT]; rfl
    have oq : ∀ z : Nat, z ≠ dst → (H.setIfInBounds dst (vp_cell (gc k.2.1 5) (w.1, .inr (.inr (.inr (.inr (va_cpy q.2 w.2 sp.toNatClampNeg dp.toNatClampNeg n.toNatClampNeg)))))))[z]? = H[z]? := fun z hz => by simp [Array.getElem?_setIfInBounds, Ne.symm hz]
    obtain ⟨t, a1, b1⟩ := kk _ _ ls (hR.set (ho_aR_E hw) (by simp) oq (show (H.setIfInBounds dst _)[dst]? = some _ by simp [Array.getElem?_setIfInBounds, hl'])) ⟨by simp; exact hS.1, fun z z1 z2 => by
        rw [oq z (fun e => z2 (by rw [e]; exact hcd.1))]
        exact hS.2.1 z z1 z2, fun z hz => by
        rcases List.mem_append.mp hz with h | h
        · exact hS.2.2 z h
        · obtain ⟨y, -, hy⟩ := List.mem_map.mp h
          rw [← hy]
          exact hcd.1⟩ g1 g2 hl _ hheap X'
    exact ⟨t, step t a1, b1⟩
theorem hv_clI (X : hv_X k cc own nL fr lw ret nm) {index a b : Nat} (d : decode cc pc = .ok (.invokevirtual index, 3)) (hw1 : Cond.methodLink own index ⟨"[I", "clone", "()Ljava/lang/Object;"⟩ ∈ hv_ws) (hw2 : Cond.sameMethod "[I" "java/lang/Object" "clone" "()Ljava/lang/Object;" ∈ hv_ws) (hw3 : Cond.native ⟨"java/lang/Object", "clone", "()Ljava/lang/Object;"⟩ ∈ hv_ws) (hw4 : Cond.instanceMethod ⟨"java/lang/Object", "clone", "()Ljava/lang/Object;"⟩ ∈ hv_ws) (hw5 : Cond.selects "[I" ⟨"[I", "clone", "()Ljava/lang/Object;"⟩ ⟨"java/lang/Object", "clone", "()Ljava/lang/Object;"⟩ ∈ hv_ws) (hca : ("[I", "java/lang/Cloneable") ∈ hv_cast) (e : ho_clI k.2.1 σ a = some (σ', b)) (hfr : 1 ≤ fr) (hlw : 22 ≤ lw) (hs : (st.map fun v => v.category).sum ≤ 8) (kk : hv_V k σ' pn lo (.ref b :: st)) (hp : pn = pc + 3 := by rfl) : hv_V k σ pc lo (.ref a :: st) := by
  subst hp
  intro H locs ls hR hS g1 g2 hl
  obtain ⟨q, hq, e⟩ := bd_E e
  obtain ⟨a1, a2, a3, a4, a5⟩ := ho_al_E e
  have hX1 := X.fr
  have hX2 := X.lw
  have hca2 := hR.2.2.2 a _ (ho_aI_E hq)
  have hc0 : H[a]? = some (vp_cell (gc k.2.1 0) (q.1, .inl q.2)) := hca2.2
  have ht : hv_tys[0]? = some .int := rfl
  have hnm : k.1.2.2.2.2.1.vm.findClass "[I" = some (gc k.2.1 0) := (hv_ki X ht).2
  obtain ⟨c0, t0', f1, f2, f3⟩ := Cond.castable_spec (va_Nw.use (A := k.1.2.2.2.2.2.2.1) rfl (X.gs.2.2.2.2.2.2.2.2.1 _ hca))
  cases hnm.symm.trans f1
  intro T hT XT
  have hcellT : T.heap[a]? = some (vp_cell (gc k.2.1 0) (q.1, .inl q.2)) := by rw [hT]; exact hc0
  obtain ⟨-, kA, hkA, comp, hkind⟩ := State.isArrayOf_alike XT.warmed.alike ((hv_ki X ht).1 0 (fun _ => .null))
  obtain ⟨-, kS, hkS, compS, hkindS⟩ := (hv_ki X ht).1 0 (fun _ => .null)
  obtain ⟨vm', X', stp⟩ := XT.cloneArray X.1 X.ow (X.ts _ hw1) (X.ts _ hw2) (X.ts _ hw3) (X.ts _ hw4) (X.ts _ hw5) (a := a) (cell := vp_cell (gc k.2.1 0) (q.1, .inl q.2)) hcellT (fun z h => by cases h) (fun h => by cases h) hnm f2 f3
    (fun i v hv => by
      have hk' : T.vm.classes[gc k.2.1 0]? = some kA := hkA
      have hsz : i < q.1 := by
        have := (Array.getElem?_eq_some_iff.mp hv).1
        rw [show (vp_cell (gc k.2.1 0) (q.1, .inl q.2)).slots.size = q.1 from arrV_size _ _ _] at this
        exact this
      have hv2 : (arrV (gc k.2.1 0) q.1 (fun j => .int (q.2 j))).slots[i]? = some v := hv
      rw [arrV_read _ _ hsz] at hv2
      cases hv2
      show T.fitsSlot (gc k.2.1 0) .none i (.int (q.2 i)) = true
      simp [State.fitsSlot, State.slotType?, hk', hkind, fits])
    (g := F0 _ pc ls (.ref a :: st)) rfl (by rw [X.2.2.1]; exact hl.1) rfl (by rw [X.2.1]; exact d) (by omega) (by show 2 * 0 + _ + 14 ≤ _; omega) (by rw [X.rc]; omega) (by rw [show (vp_cell (gc k.2.1 0) (q.1, .inl q.2)).slots.size = q.1 from arrV_size _ _ _, X.rs]; omega) (hloader := Vm.clonesLoader_of_array hkS hkindS)
  rw [show ({ cls := (vp_cell (gc k.2.1 0) (q.1, .inl q.2)).cls, slots := (vp_cell (gc k.2.1 0) (q.1, .inl q.2)).slots } : Cell) = vp_cell (gc k.2.1 0) (q.1, .inl q.2) from rfl, show (vp_cell (gc k.2.1 0) (q.1, .inl q.2)).slots.size = q.1 from arrV_size _ _ _] at X'
  have z1 : (H.push (vp_cell (gc k.2.1 0) (q.1, .inl q.2))).size = H.size + 1 := Array.size_push _
  have o1 : ∀ z : Nat, z < H.size → (H.push (vp_cell (gc k.2.1 0) (q.1, .inl q.2)))[z]? = H[z]? := fun z hz => by rw [Array.getElem?_push, if_neg (Nat.ne_of_lt hz)]
  obtain ⟨b1, b2, -⟩ := hR.push e (Nat.le_trans X.gs.1 hS.1) z1 o1 (show (H.push (vp_cell (gc k.2.1 0) (q.1, .inl q.2)))[H.size]? = some _ from Array.getElem?_push_size)
  have w := kk _ locs ls b1 (hS.grow (by omega) o1) (by omega) (by omega) hl
  rw [a3, a4, show σ.1 + 1 - k.2.2.1.1 = σ.1 - k.2.2.1.1 + 1 by omega, show σ.2.1 + q.1 - k.2.2.1.2.1 = σ.2.1 - k.2.2.1.2.1 + q.1 by omega, b2] at w
  obtain ⟨t, c1, c2⟩ := w ((T.setVm vm').pushCell (vp_cell (gc k.2.1 0) (q.1, .inl q.2))) (by rw [← hT]; rfl) X'
  refine ⟨t, stp t ?_, c2⟩
  rw [show ({ cls := (vp_cell (gc k.2.1 0) (q.1, .inl q.2)).cls, slots := (vp_cell (gc k.2.1 0) (q.1, .inl q.2)).slots } : Cell) = vp_cell (gc k.2.1 0) (q.1, .inl q.2) from rfl, hT]
  exact c1
end HV6
end
section
theorem d_Ck_intervalAt_0 : decode b_Ck_intervalAt 0 = .ok (.iload_n 1, 1) := by decide +kernel
theorem d_Ck_intervalAt_1 : decode b_Ck_intervalAt 1 = .ok (.aload_n 0, 1) := by decide +kernel
theorem d_Ck_intervalAt_2 : decode b_Ck_intervalAt 2 = .ok (.getfield 13, 3) := by decide +kernel
theorem d_Ck_intervalAt_5 : decode b_Ck_intervalAt 5 = .ok (.idiv, 1) := by decide +kernel
theorem d_Ck_intervalAt_6 : decode b_Ck_intervalAt 6 = .ok (.iconst 1, 1) := by decide +kernel
theorem d_Ck_intervalAt_7 : decode b_Ck_intervalAt 7 = .ok (.iadd, 1) := by decide +kernel
theorem d_Ck_intervalAt_8 : decode b_Ck_intervalAt 8 = .ok (.ireturn, 1) := by decide +kernel
theorem d_Ck_canHaveShown_0 : decode b_Ck_canHaveShown 0 = .ok (.aload_n 0, 1) := by decide +kernel
theorem d_Ck_canHaveShown_1 : decode b_Ck_canHaveShown 1 = .ok (.getfield 19, 3) := by decide +kernel
theorem d_Ck_canHaveShown_4 : decode b_Ck_canHaveShown 4 = .ok (.iload_n 2, 1) := by decide +kernel
theorem d_Ck_canHaveShown_5 : decode b_Ck_canHaveShown 5 = .ok (.iadd, 1) := by decide +kernel
theorem d_Ck_canHaveShown_6 : decode b_Ck_canHaveShown 6 = .ok (.aload_n 0, 1) := by decide +kernel
theorem d_Ck_canHaveShown_7 : decode b_Ck_canHaveShown 7 = .ok (.getfield 16, 3) := by decide +kernel
theorem d_Ck_canHaveShown_10 : decode b_Ck_canHaveShown 10 = .ok (.iadd, 1) := by decide +kernel
theorem d_Ck_canHaveShown_11 : decode b_Ck_canHaveShown 11 = .ok (.iload_n 1, 1) := by decide +kernel
theorem d_Ck_canHaveShown_12 : decode b_Ck_canHaveShown 12 = .ok (.aload_n 0, 1) := by decide +kernel
theorem d_Ck_canHaveShown_13 : decode b_Ck_canHaveShown 13 = .ok (.getfield 7, 3) := by decide +kernel
theorem d_Ck_canHaveShown_16 : decode b_Ck_canHaveShown 16 = .ok (.iadd, 1) := by decide +kernel
theorem d_Ck_canHaveShown_17 : decode b_Ck_canHaveShown 17 = .ok (.iconst 1, 1) := by decide +kernel
theorem d_Ck_canHaveShown_18 : decode b_Ck_canHaveShown 18 = .ok (.isub, 1) := by decide +kernel
theorem d_Ck_canHaveShown_19 : decode b_Ck_canHaveShown 19 = .ok (.aload_n 0, 1) := by decide +kernel
theorem d_Ck_canHaveShown_20 : decode b_Ck_canHaveShown 20 = .ok (.getfield 13, 3) := by decide +kernel
theorem d_Ck_canHaveShown_23 : decode b_Ck_canHaveShown 23 = .ok (.imul, 1) := by decide +kernel
theorem d_Ck_canHaveShown_24 : decode b_Ck_canHaveShown 24 = .ok (.if_icmp .lt 7, 3) := by decide +kernel
theorem d_Ck_canHaveShown_27 : decode b_Ck_canHaveShown 27 = .ok (.iconst 1, 1) := by decide +kernel
theorem d_Ck_canHaveShown_28 : decode b_Ck_canHaveShown 28 = .ok (.goto 4, 3) := by decide +kernel
theorem d_Ck_canHaveShown_31 : decode b_Ck_canHaveShown 31 = .ok (.iconst 0, 1) := by decide +kernel
theorem d_Ck_canHaveShown_32 : decode b_Ck_canHaveShown 32 = .ok (.ireturn, 1) := by decide +kernel
theorem d_Of_byteOf_0 : decode b_Of_byteOf 0 = .ok (.aload_n 0, 1) := by decide +kernel
theorem d_Of_byteOf_1 : decode b_Of_byteOf 1 = .ok (.iload_n 1, 1) := by decide +kernel
theorem d_Of_byteOf_2 : decode b_Of_byteOf 2 = .ok (.iconst 4, 1) := by decide +kernel
theorem d_Of_byteOf_3 : decode b_Of_byteOf 3 = .ok (.idiv, 1) := by decide +kernel
theorem d_Of_byteOf_4 : decode b_Of_byteOf 4 = .ok (.iaload, 1) := by decide +kernel
theorem d_Of_byteOf_5 : decode b_Of_byteOf 5 = .ok (.bipush 24, 2) := by decide +kernel
theorem d_Of_byteOf_7 : decode b_Of_byteOf 7 = .ok (.bipush 8, 2) := by decide +kernel
theorem d_Of_byteOf_9 : decode b_Of_byteOf 9 = .ok (.iload_n 1, 1) := by decide +kernel
theorem d_Of_byteOf_10 : decode b_Of_byteOf 10 = .ok (.iconst 4, 1) := by decide +kernel
theorem d_Of_byteOf_11 : decode b_Of_byteOf 11 = .ok (.irem, 1) := by decide +kernel
theorem d_Of_byteOf_12 : decode b_Of_byteOf 12 = .ok (.imul, 1) := by decide +kernel
theorem d_Of_byteOf_13 : decode b_Of_byteOf 13 = .ok (.isub, 1) := by decide +kernel
theorem d_Of_byteOf_14 : decode b_Of_byteOf 14 = .ok (.iushr, 1) := by decide +kernel
theorem d_Of_byteOf_15 : decode b_Of_byteOf 15 = .ok (.sipush 255, 3) := by decide +kernel
theorem d_Of_byteOf_18 : decode b_Of_byteOf 18 = .ok (.iand, 1) := by decide +kernel
theorem d_Of_byteOf_19 : decode b_Of_byteOf 19 = .ok (.ireturn, 1) := by decide +kernel
theorem d_Of_wordAt_0 : decode b_Of_wordAt 0 = .ok (.aload_n 0, 1) := by decide +kernel
theorem d_Of_wordAt_1 : decode b_Of_wordAt 1 = .ok (.iload_n 1, 1) := by decide +kernel
theorem d_Of_wordAt_2 : decode b_Of_wordAt 2 = .ok (.iaload, 1) := by decide +kernel
theorem d_Of_wordAt_3 : decode b_Of_wordAt 3 = .ok (.bipush 24, 2) := by decide +kernel
theorem d_Of_wordAt_5 : decode b_Of_wordAt 5 = .ok (.ishl, 1) := by decide +kernel
theorem d_Of_wordAt_6 : decode b_Of_wordAt 6 = .ok (.aload_n 0, 1) := by decide +kernel
theorem d_Of_wordAt_7 : decode b_Of_wordAt 7 = .ok (.iload_n 1, 1) := by decide +kernel
theorem d_Of_wordAt_8 : decode b_Of_wordAt 8 = .ok (.iconst 1, 1) := by decide +kernel
theorem d_Of_wordAt_9 : decode b_Of_wordAt 9 = .ok (.iadd, 1) := by decide +kernel
theorem d_Of_wordAt_10 : decode b_Of_wordAt 10 = .ok (.iaload, 1) := by decide +kernel
theorem d_Of_wordAt_11 : decode b_Of_wordAt 11 = .ok (.bipush 16, 2) := by decide +kernel
theorem d_Of_wordAt_13 : decode b_Of_wordAt 13 = .ok (.ishl, 1) := by decide +kernel
theorem d_Of_wordAt_14 : decode b_Of_wordAt 14 = .ok (.ior, 1) := by decide +kernel
theorem d_Of_wordAt_15 : decode b_Of_wordAt 15 = .ok (.aload_n 0, 1) := by decide +kernel
theorem d_Of_wordAt_16 : decode b_Of_wordAt 16 = .ok (.iload_n 1, 1) := by decide +kernel
theorem d_Of_wordAt_17 : decode b_Of_wordAt 17 = .ok (.iconst 2, 1) := by decide +kernel
theorem d_Of_wordAt_18 : decode b_Of_wordAt 18 = .ok (.iadd, 1) := by decide +kernel
theorem d_Of_wordAt_19 : decode b_Of_wordAt 19 = .ok (.iaload, 1) := by decide +kernel
theorem d_Of_wordAt_20 : decode b_Of_wordAt 20 = .ok (.bipush 8, 2) := by decide +kernel
theorem d_Of_wordAt_22 : decode b_Of_wordAt 22 = .ok (.ishl, 1) := by decide +kernel
theorem d_Of_wordAt_23 : decode b_Of_wordAt 23 = .ok (.ior, 1) := by decide +kernel
theorem d_Of_wordAt_24 : decode b_Of_wordAt 24 = .ok (.aload_n 0, 1) := by decide +kernel
theorem d_Of_wordAt_25 : decode b_Of_wordAt 25 = .ok (.iload_n 1, 1) := by decide +kernel
theorem d_Of_wordAt_26 : decode b_Of_wordAt 26 = .ok (.iconst 3, 1) := by decide +kernel
theorem d_Of_wordAt_27 : decode b_Of_wordAt 27 = .ok (.iadd, 1) := by decide +kernel
theorem d_Of_wordAt_28 : decode b_Of_wordAt 28 = .ok (.iaload, 1) := by decide +kernel
theorem d_Of_wordAt_29 : decode b_Of_wordAt 29 = .ok (.ior, 1) := by decide +kernel
theorem d_Of_wordAt_30 : decode b_Of_wordAt 30 = .ok (.ireturn, 1) := by decide +kernel
theorem d_Of_chainOf_0 : decode b_Of_chainOf 0 = .ok (.iload_n 0, 1) := by decide +kernel
theorem d_Of_chainOf_1 : decode b_Of_chainOf 1 = .ok (.iconst 1, 1) := by decide +kernel
theorem d_Of_chainOf_2 : decode b_Of_chainOf 2 = .ok (.isub, 1) := by decide +kernel
theorem d_Of_chainOf_3 : decode b_Of_chainOf 3 = .ok (.bipush 64, 2) := by decide +kernel
theorem d_Of_chainOf_5 : decode b_Of_chainOf 5 = .ok (.idiv, 1) := by decide +kernel
theorem d_Of_chainOf_6 : decode b_Of_chainOf 6 = .ok (.ireturn, 1) := by decide +kernel
theorem d_Of_numberInChain_0 : decode b_Of_numberInChain 0 = .ok (.iload_n 0, 1) := by decide +kernel
theorem d_Of_numberInChain_1 : decode b_Of_numberInChain 1 = .ok (.iconst 1, 1) := by decide +kernel
theorem d_Of_numberInChain_2 : decode b_Of_numberInChain 2 = .ok (.isub, 1) := by decide +kernel
theorem d_Of_numberInChain_3 : decode b_Of_numberInChain 3 = .ok (.bipush 64, 2) := by decide +kernel
theorem d_Of_numberInChain_5 : decode b_Of_numberInChain 5 = .ok (.irem, 1) := by decide +kernel
theorem d_Of_numberInChain_6 : decode b_Of_numberInChain 6 = .ok (.iconst 1, 1) := by decide +kernel
theorem d_Of_numberInChain_7 : decode b_Of_numberInChain 7 = .ok (.iadd, 1) := by decide +kernel
theorem d_Of_numberInChain_8 : decode b_Of_numberInChain 8 = .ok (.ireturn, 1) := by decide +kernel
theorem d_Mt_floorMod_0 : decode b_Mt_floorMod 0 = .ok (.iload_n 0, 1) := by decide +kernel
theorem d_Mt_floorMod_1 : decode b_Mt_floorMod 1 = .ok (.iload_n 1, 1) := by decide +kernel
theorem d_Mt_floorMod_2 : decode b_Mt_floorMod 2 = .ok (.irem, 1) := by decide +kernel
theorem d_Mt_floorMod_3 : decode b_Mt_floorMod 3 = .ok (.istore_n 2, 1) := by decide +kernel
theorem d_Mt_floorMod_4 : decode b_Mt_floorMod 4 = .ok (.iload_n 0, 1) := by decide +kernel
theorem d_Mt_floorMod_5 : decode b_Mt_floorMod 5 = .ok (.iload_n 1, 1) := by decide +kernel
theorem d_Mt_floorMod_6 : decode b_Mt_floorMod 6 = .ok (.ixor, 1) := by decide +kernel
theorem d_Mt_floorMod_7 : decode b_Mt_floorMod 7 = .ok (.ifCond .ge 11, 3) := by decide +kernel
theorem d_Mt_floorMod_10 : decode b_Mt_floorMod 10 = .ok (.iload_n 2, 1) := by decide +kernel
theorem d_Mt_floorMod_11 : decode b_Mt_floorMod 11 = .ok (.ifCond .eq 7, 3) := by decide +kernel
theorem d_Mt_floorMod_14 : decode b_Mt_floorMod 14 = .ok (.iload_n 2, 1) := by decide +kernel
theorem d_Mt_floorMod_15 : decode b_Mt_floorMod 15 = .ok (.iload_n 1, 1) := by decide +kernel
theorem d_Mt_floorMod_16 : decode b_Mt_floorMod 16 = .ok (.iadd, 1) := by decide +kernel
theorem d_Mt_floorMod_17 : decode b_Mt_floorMod 17 = .ok (.ireturn, 1) := by decide +kernel
theorem d_Mt_floorMod_18 : decode b_Mt_floorMod 18 = .ok (.iload_n 2, 1) := by decide +kernel
theorem d_Mt_floorMod_19 : decode b_Mt_floorMod 19 = .ok (.ireturn, 1) := by decide +kernel
theorem d_Ar_fill_0 : decode b_Ar_fill 0 = .ok (.iconst 0, 1) := by decide +kernel
theorem d_Ar_fill_1 : decode b_Ar_fill 1 = .ok (.istore_n 2, 1) := by decide +kernel
theorem d_Ar_fill_2 : decode b_Ar_fill 2 = .ok (.aload_n 0, 1) := by decide +kernel
theorem d_Ar_fill_3 : decode b_Ar_fill 3 = .ok (.arraylength, 1) := by decide +kernel
theorem d_Ar_fill_4 : decode b_Ar_fill 4 = .ok (.istore_n 3, 1) := by decide +kernel
theorem d_Ar_fill_5 : decode b_Ar_fill 5 = .ok (.iload_n 2, 1) := by decide +kernel
theorem d_Ar_fill_6 : decode b_Ar_fill 6 = .ok (.iload_n 3, 1) := by decide +kernel
theorem d_Ar_fill_7 : decode b_Ar_fill 7 = .ok (.if_icmp .ge 13, 3) := by decide +kernel
theorem d_Ar_fill_10 : decode b_Ar_fill 10 = .ok (.aload_n 0, 1) := by decide +kernel
theorem d_Ar_fill_11 : decode b_Ar_fill 11 = .ok (.iload_n 2, 1) := by decide +kernel
theorem d_Ar_fill_12 : decode b_Ar_fill 12 = .ok (.iload_n 1, 1) := by decide +kernel
theorem d_Ar_fill_13 : decode b_Ar_fill 13 = .ok (.iastore, 1) := by decide +kernel
theorem d_Ar_fill_14 : decode b_Ar_fill 14 = .ok (.iinc 2 1, 3) := by decide +kernel
theorem d_Ar_fill_17 : decode b_Ar_fill 17 = .ok (.goto (-12), 3) := by decide +kernel
theorem d_Ar_fill_20 : decode b_Ar_fill 20 = .ok (.return_, 1) := by decide +kernel
theorem d_Sl_clear_0 : decode b_Sl_clear 0 = .ok (.aload_n 0, 1) := by decide +kernel
theorem d_Sl_clear_1 : decode b_Sl_clear 1 = .ok (.getfield 16, 3) := by decide +kernel
theorem d_Sl_clear_4 : decode b_Sl_clear 4 = .ok (.iconst 0, 1) := by decide +kernel
theorem d_Sl_clear_5 : decode b_Sl_clear 5 = .ok (.invokestatic 22, 3) := by decide +kernel
theorem d_Sl_clear_8 : decode b_Sl_clear 8 = .ok (.aload_n 0, 1) := by decide +kernel
theorem d_Sl_clear_9 : decode b_Sl_clear 9 = .ok (.iconst 0, 1) := by decide +kernel
theorem d_Sl_clear_10 : decode b_Sl_clear 10 = .ok (.putfield 28, 3) := by decide +kernel
theorem d_Sl_clear_13 : decode b_Sl_clear 13 = .ok (.return_, 1) := by decide +kernel
theorem d_Sl_addByte_0 : decode b_Sl_addByte 0 = .ok (.aload_n 0, 1) := by decide +kernel
theorem d_Sl_addByte_1 : decode b_Sl_addByte 1 = .ok (.getfield 28, 3) := by decide +kernel
theorem d_Sl_addByte_4 : decode b_Sl_addByte 4 = .ok (.bipush 120, 2) := by decide +kernel
theorem d_Sl_addByte_6 : decode b_Sl_addByte 6 = .ok (.if_icmp .ge 41, 3) := by decide +kernel
theorem d_Sl_addByte_9 : decode b_Sl_addByte 9 = .ok (.aload_n 0, 1) := by decide +kernel
theorem d_Sl_addByte_10 : decode b_Sl_addByte 10 = .ok (.getfield 16, 3) := by decide +kernel
theorem d_Sl_addByte_13 : decode b_Sl_addByte 13 = .ok (.aload_n 0, 1) := by decide +kernel
theorem d_Sl_addByte_14 : decode b_Sl_addByte 14 = .ok (.getfield 28, 3) := by decide +kernel
theorem d_Sl_addByte_17 : decode b_Sl_addByte 17 = .ok (.iconst 4, 1) := by decide +kernel
theorem d_Sl_addByte_18 : decode b_Sl_addByte 18 = .ok (.idiv, 1) := by decide +kernel
theorem d_Sl_addByte_19 : decode b_Sl_addByte 19 = .ok (.dup2, 1) := by decide +kernel
theorem d_Sl_addByte_20 : decode b_Sl_addByte 20 = .ok (.iaload, 1) := by decide +kernel
theorem d_Sl_addByte_21 : decode b_Sl_addByte 21 = .ok (.iload_n 1, 1) := by decide +kernel
theorem d_Sl_addByte_22 : decode b_Sl_addByte 22 = .ok (.bipush 24, 2) := by decide +kernel
theorem d_Sl_addByte_24 : decode b_Sl_addByte 24 = .ok (.bipush 8, 2) := by decide +kernel
theorem d_Sl_addByte_26 : decode b_Sl_addByte 26 = .ok (.aload_n 0, 1) := by decide +kernel
theorem d_Sl_addByte_27 : decode b_Sl_addByte 27 = .ok (.getfield 28, 3) := by decide +kernel
theorem d_Sl_addByte_30 : decode b_Sl_addByte 30 = .ok (.iconst 4, 1) := by decide +kernel
theorem d_Sl_addByte_31 : decode b_Sl_addByte 31 = .ok (.irem, 1) := by decide +kernel
theorem d_Sl_addByte_32 : decode b_Sl_addByte 32 = .ok (.imul, 1) := by decide +kernel
theorem d_Sl_addByte_33 : decode b_Sl_addByte 33 = .ok (.isub, 1) := by decide +kernel
theorem d_Sl_addByte_34 : decode b_Sl_addByte 34 = .ok (.ishl, 1) := by decide +kernel
theorem d_Sl_addByte_35 : decode b_Sl_addByte 35 = .ok (.ior, 1) := by decide +kernel
theorem d_Sl_addByte_36 : decode b_Sl_addByte 36 = .ok (.iastore, 1) := by decide +kernel
theorem d_Sl_addByte_37 : decode b_Sl_addByte 37 = .ok (.aload_n 0, 1) := by decide +kernel
theorem d_Sl_addByte_38 : decode b_Sl_addByte 38 = .ok (.dup, 1) := by decide +kernel
theorem d_Sl_addByte_39 : decode b_Sl_addByte 39 = .ok (.getfield 28, 3) := by decide +kernel
theorem d_Sl_addByte_42 : decode b_Sl_addByte 42 = .ok (.iconst 1, 1) := by decide +kernel
theorem d_Sl_addByte_43 : decode b_Sl_addByte 43 = .ok (.iadd, 1) := by decide +kernel
theorem d_Sl_addByte_44 : decode b_Sl_addByte 44 = .ok (.putfield 28, 3) := by decide +kernel
theorem d_Sl_addByte_47 : decode b_Sl_addByte 47 = .ok (.return_, 1) := by decide +kernel
theorem d_Sl_spreadBlock_0 : decode b_Sl_spreadBlock 0 = .ok (.aload_n 0, 1) := by decide +kernel
theorem d_Sl_spreadBlock_1 : decode b_Sl_spreadBlock 1 = .ok (.getfield 16, 3) := by decide +kernel
theorem d_Sl_spreadBlock_4 : decode b_Sl_spreadBlock 4 = .ok (.iload_n 1, 1) := by decide +kernel
theorem d_Sl_spreadBlock_5 : decode b_Sl_spreadBlock 5 = .ok (.aload_n 0, 1) := by decide +kernel
theorem d_Sl_spreadBlock_6 : decode b_Sl_spreadBlock 6 = .ok (.getfield 19, 3) := by decide +kernel
theorem d_Sl_spreadBlock_9 : decode b_Sl_spreadBlock 9 = .ok (.iconst 0, 1) := by decide +kernel
theorem d_Sl_spreadBlock_10 : decode b_Sl_spreadBlock 10 = .ok (.bipush 16, 2) := by decide +kernel
theorem d_Sl_spreadBlock_12 : decode b_Sl_spreadBlock 12 = .ok (.invokestatic 39, 3) := by decide +kernel
theorem d_Sl_spreadBlock_15 : decode b_Sl_spreadBlock 15 = .ok (.bipush 16, 2) := by decide +kernel
theorem d_Sl_spreadBlock_17 : decode b_Sl_spreadBlock 17 = .ok (.istore_n 2, 1) := by decide +kernel
theorem d_Sl_spreadBlock_18 : decode b_Sl_spreadBlock 18 = .ok (.iload_n 2, 1) := by decide +kernel
theorem d_Sl_spreadBlock_19 : decode b_Sl_spreadBlock 19 = .ok (.bipush 64, 2) := by decide +kernel
theorem d_Sl_spreadBlock_21 : decode b_Sl_spreadBlock 21 = .ok (.if_icmp .ge 116, 3) := by decide +kernel
theorem d_Sl_spreadBlock_24 : decode b_Sl_spreadBlock 24 = .ok (.aload_n 0, 1) := by decide +kernel
theorem d_Sl_spreadBlock_25 : decode b_Sl_spreadBlock 25 = .ok (.getfield 19, 3) := by decide +kernel
theorem d_Sl_spreadBlock_28 : decode b_Sl_spreadBlock 28 = .ok (.iload_n 2, 1) := by decide +kernel
theorem d_Sl_spreadBlock_29 : decode b_Sl_spreadBlock 29 = .ok (.bipush 15, 2) := by decide +kernel
theorem d_Sl_spreadBlock_31 : decode b_Sl_spreadBlock 31 = .ok (.isub, 1) := by decide +kernel
theorem d_Sl_spreadBlock_32 : decode b_Sl_spreadBlock 32 = .ok (.iaload, 1) := by decide +kernel
theorem d_Sl_spreadBlock_33 : decode b_Sl_spreadBlock 33 = .ok (.istore_n 3, 1) := by decide +kernel
theorem d_Sl_spreadBlock_34 : decode b_Sl_spreadBlock 34 = .ok (.aload_n 0, 1) := by decide +kernel
theorem d_Sl_spreadBlock_35 : decode b_Sl_spreadBlock 35 = .ok (.getfield 19, 3) := by decide +kernel
theorem d_Sl_spreadBlock_38 : decode b_Sl_spreadBlock 38 = .ok (.iload_n 2, 1) := by decide +kernel
theorem d_Sl_spreadBlock_39 : decode b_Sl_spreadBlock 39 = .ok (.iconst 2, 1) := by decide +kernel
theorem d_Sl_spreadBlock_40 : decode b_Sl_spreadBlock 40 = .ok (.isub, 1) := by decide +kernel
theorem d_Sl_spreadBlock_41 : decode b_Sl_spreadBlock 41 = .ok (.iaload, 1) := by decide +kernel
theorem d_Sl_spreadBlock_42 : decode b_Sl_spreadBlock 42 = .ok (.istore 4, 2) := by decide +kernel
theorem d_Sl_spreadBlock_44 : decode b_Sl_spreadBlock 44 = .ok (.iload_n 3, 1) := by decide +kernel
theorem d_Sl_spreadBlock_45 : decode b_Sl_spreadBlock 45 = .ok (.bipush 7, 2) := by decide +kernel
theorem d_Sl_spreadBlock_47 : decode b_Sl_spreadBlock 47 = .ok (.iushr, 1) := by decide +kernel
theorem d_Sl_spreadBlock_48 : decode b_Sl_spreadBlock 48 = .ok (.iload_n 3, 1) := by decide +kernel
theorem d_Sl_spreadBlock_49 : decode b_Sl_spreadBlock 49 = .ok (.bipush 25, 2) := by decide +kernel
theorem d_Sl_spreadBlock_51 : decode b_Sl_spreadBlock 51 = .ok (.ishl, 1) := by decide +kernel
theorem d_Sl_spreadBlock_52 : decode b_Sl_spreadBlock 52 = .ok (.ior, 1) := by decide +kernel
theorem d_Sl_spreadBlock_53 : decode b_Sl_spreadBlock 53 = .ok (.iload_n 3, 1) := by decide +kernel
theorem d_Sl_spreadBlock_54 : decode b_Sl_spreadBlock 54 = .ok (.bipush 18, 2) := by decide +kernel
theorem d_Sl_spreadBlock_56 : decode b_Sl_spreadBlock 56 = .ok (.iushr, 1) := by decide +kernel
theorem d_Sl_spreadBlock_57 : decode b_Sl_spreadBlock 57 = .ok (.iload_n 3, 1) := by decide +kernel
theorem d_Sl_spreadBlock_58 : decode b_Sl_spreadBlock 58 = .ok (.bipush 14, 2) := by decide +kernel
theorem d_Sl_spreadBlock_60 : decode b_Sl_spreadBlock 60 = .ok (.ishl, 1) := by decide +kernel
theorem d_Sl_spreadBlock_61 : decode b_Sl_spreadBlock 61 = .ok (.ior, 1) := by decide +kernel
theorem d_Sl_spreadBlock_62 : decode b_Sl_spreadBlock 62 = .ok (.ixor, 1) := by decide +kernel
theorem d_Sl_spreadBlock_63 : decode b_Sl_spreadBlock 63 = .ok (.iload_n 3, 1) := by decide +kernel
theorem d_Sl_spreadBlock_64 : decode b_Sl_spreadBlock 64 = .ok (.iconst 3, 1) := by decide +kernel
theorem d_Sl_spreadBlock_65 : decode b_Sl_spreadBlock 65 = .ok (.iushr, 1) := by decide +kernel
theorem d_Sl_spreadBlock_66 : decode b_Sl_spreadBlock 66 = .ok (.ixor, 1) := by decide +kernel
theorem d_Sl_spreadBlock_67 : decode b_Sl_spreadBlock 67 = .ok (.istore 5, 2) := by decide +kernel
theorem d_Sl_spreadBlock_69 : decode b_Sl_spreadBlock 69 = .ok (.iload 4, 2) := by decide +kernel
theorem d_Sl_spreadBlock_71 : decode b_Sl_spreadBlock 71 = .ok (.bipush 17, 2) := by decide +kernel
theorem d_Sl_spreadBlock_73 : decode b_Sl_spreadBlock 73 = .ok (.iushr, 1) := by decide +kernel
theorem d_Sl_spreadBlock_74 : decode b_Sl_spreadBlock 74 = .ok (.iload 4, 2) := by decide +kernel
theorem d_Sl_spreadBlock_76 : decode b_Sl_spreadBlock 76 = .ok (.bipush 15, 2) := by decide +kernel
theorem d_Sl_spreadBlock_78 : decode b_Sl_spreadBlock 78 = .ok (.ishl, 1) := by decide +kernel
theorem d_Sl_spreadBlock_79 : decode b_Sl_spreadBlock 79 = .ok (.ior, 1) := by decide +kernel
theorem d_Sl_spreadBlock_80 : decode b_Sl_spreadBlock 80 = .ok (.iload 4, 2) := by decide +kernel
theorem d_Sl_spreadBlock_82 : decode b_Sl_spreadBlock 82 = .ok (.bipush 19, 2) := by decide +kernel
theorem d_Sl_spreadBlock_84 : decode b_Sl_spreadBlock 84 = .ok (.iushr, 1) := by decide +kernel
theorem d_Sl_spreadBlock_85 : decode b_Sl_spreadBlock 85 = .ok (.iload 4, 2) := by decide +kernel
theorem d_Sl_spreadBlock_87 : decode b_Sl_spreadBlock 87 = .ok (.bipush 13, 2) := by decide +kernel
theorem d_Sl_spreadBlock_89 : decode b_Sl_spreadBlock 89 = .ok (.ishl, 1) := by decide +kernel
theorem d_Sl_spreadBlock_90 : decode b_Sl_spreadBlock 90 = .ok (.ior, 1) := by decide +kernel
theorem d_Sl_spreadBlock_91 : decode b_Sl_spreadBlock 91 = .ok (.ixor, 1) := by decide +kernel
theorem d_Sl_spreadBlock_92 : decode b_Sl_spreadBlock 92 = .ok (.iload 4, 2) := by decide +kernel
theorem d_Sl_spreadBlock_94 : decode b_Sl_spreadBlock 94 = .ok (.bipush 10, 2) := by decide +kernel
theorem d_Sl_spreadBlock_96 : decode b_Sl_spreadBlock 96 = .ok (.iushr, 1) := by decide +kernel
theorem d_Sl_spreadBlock_97 : decode b_Sl_spreadBlock 97 = .ok (.ixor, 1) := by decide +kernel
theorem d_Sl_spreadBlock_98 : decode b_Sl_spreadBlock 98 = .ok (.istore 6, 2) := by decide +kernel
theorem d_Sl_spreadBlock_100 : decode b_Sl_spreadBlock 100 = .ok (.aload_n 0, 1) := by decide +kernel
theorem d_Sl_spreadBlock_101 : decode b_Sl_spreadBlock 101 = .ok (.getfield 19, 3) := by decide +kernel
theorem d_Sl_spreadBlock_104 : decode b_Sl_spreadBlock 104 = .ok (.iload_n 2, 1) := by decide +kernel
theorem d_Sl_spreadBlock_105 : decode b_Sl_spreadBlock 105 = .ok (.aload_n 0, 1) := by decide +kernel
theorem d_Sl_spreadBlock_106 : decode b_Sl_spreadBlock 106 = .ok (.getfield 19, 3) := by decide +kernel
theorem d_Sl_spreadBlock_109 : decode b_Sl_spreadBlock 109 = .ok (.iload_n 2, 1) := by decide +kernel
theorem d_Sl_spreadBlock_110 : decode b_Sl_spreadBlock 110 = .ok (.bipush 16, 2) := by decide +kernel
theorem d_Sl_spreadBlock_112 : decode b_Sl_spreadBlock 112 = .ok (.isub, 1) := by decide +kernel
theorem d_Sl_spreadBlock_113 : decode b_Sl_spreadBlock 113 = .ok (.iaload, 1) := by decide +kernel
theorem d_Sl_spreadBlock_114 : decode b_Sl_spreadBlock 114 = .ok (.aload_n 0, 1) := by decide +kernel
theorem d_Sl_spreadBlock_115 : decode b_Sl_spreadBlock 115 = .ok (.getfield 19, 3) := by decide +kernel
theorem d_Sl_spreadBlock_118 : decode b_Sl_spreadBlock 118 = .ok (.iload_n 2, 1) := by decide +kernel
theorem d_Sl_spreadBlock_119 : decode b_Sl_spreadBlock 119 = .ok (.bipush 7, 2) := by decide +kernel
theorem d_Sl_spreadBlock_121 : decode b_Sl_spreadBlock 121 = .ok (.isub, 1) := by decide +kernel
theorem d_Sl_spreadBlock_122 : decode b_Sl_spreadBlock 122 = .ok (.iaload, 1) := by decide +kernel
theorem d_Sl_spreadBlock_123 : decode b_Sl_spreadBlock 123 = .ok (.iadd, 1) := by decide +kernel
theorem d_Sl_spreadBlock_124 : decode b_Sl_spreadBlock 124 = .ok (.iload 5, 2) := by decide +kernel
theorem d_Sl_spreadBlock_126 : decode b_Sl_spreadBlock 126 = .ok (.iadd, 1) := by decide +kernel
theorem d_Sl_spreadBlock_127 : decode b_Sl_spreadBlock 127 = .ok (.iload 6, 2) := by decide +kernel
theorem d_Sl_spreadBlock_129 : decode b_Sl_spreadBlock 129 = .ok (.iadd, 1) := by decide +kernel
theorem d_Sl_spreadBlock_130 : decode b_Sl_spreadBlock 130 = .ok (.iastore, 1) := by decide +kernel
theorem d_Sl_spreadBlock_131 : decode b_Sl_spreadBlock 131 = .ok (.iinc 2 1, 3) := by decide +kernel
theorem d_Sl_spreadBlock_134 : decode b_Sl_spreadBlock 134 = .ok (.goto (-116), 3) := by decide +kernel
theorem d_Sl_spreadBlock_137 : decode b_Sl_spreadBlock 137 = .ok (.return_, 1) := by decide +kernel
theorem d_Sl_mixBlock_0 : decode b_Sl_mixBlock 0 = .ok (.aload_n 0, 1) := by decide +kernel
theorem d_Sl_mixBlock_1 : decode b_Sl_mixBlock 1 = .ok (.getfield 9, 3) := by decide +kernel
theorem d_Sl_mixBlock_4 : decode b_Sl_mixBlock 4 = .ok (.iconst 0, 1) := by decide +kernel
theorem d_Sl_mixBlock_5 : decode b_Sl_mixBlock 5 = .ok (.iaload, 1) := by decide +kernel
theorem d_Sl_mixBlock_6 : decode b_Sl_mixBlock 6 = .ok (.istore_n 1, 1) := by decide +kernel
theorem d_Sl_mixBlock_7 : decode b_Sl_mixBlock 7 = .ok (.aload_n 0, 1) := by decide +kernel
theorem d_Sl_mixBlock_8 : decode b_Sl_mixBlock 8 = .ok (.getfield 9, 3) := by decide +kernel
theorem d_Sl_mixBlock_11 : decode b_Sl_mixBlock 11 = .ok (.iconst 1, 1) := by decide +kernel
theorem d_Sl_mixBlock_12 : decode b_Sl_mixBlock 12 = .ok (.iaload, 1) := by decide +kernel
theorem d_Sl_mixBlock_13 : decode b_Sl_mixBlock 13 = .ok (.istore_n 2, 1) := by decide +kernel
theorem d_Sl_mixBlock_14 : decode b_Sl_mixBlock 14 = .ok (.aload_n 0, 1) := by decide +kernel
theorem d_Sl_mixBlock_15 : decode b_Sl_mixBlock 15 = .ok (.getfield 9, 3) := by decide +kernel
theorem d_Sl_mixBlock_18 : decode b_Sl_mixBlock 18 = .ok (.iconst 2, 1) := by decide +kernel
theorem d_Sl_mixBlock_19 : decode b_Sl_mixBlock 19 = .ok (.iaload, 1) := by decide +kernel
theorem d_Sl_mixBlock_20 : decode b_Sl_mixBlock 20 = .ok (.istore_n 3, 1) := by decide +kernel
theorem d_Sl_mixBlock_21 : decode b_Sl_mixBlock 21 = .ok (.aload_n 0, 1) := by decide +kernel
theorem d_Sl_mixBlock_22 : decode b_Sl_mixBlock 22 = .ok (.getfield 9, 3) := by decide +kernel
theorem d_Sl_mixBlock_25 : decode b_Sl_mixBlock 25 = .ok (.iconst 3, 1) := by decide +kernel
theorem d_Sl_mixBlock_26 : decode b_Sl_mixBlock 26 = .ok (.iaload, 1) := by decide +kernel
theorem d_Sl_mixBlock_27 : decode b_Sl_mixBlock 27 = .ok (.istore 4, 2) := by decide +kernel
theorem d_Sl_mixBlock_29 : decode b_Sl_mixBlock 29 = .ok (.aload_n 0, 1) := by decide +kernel
theorem d_Sl_mixBlock_30 : decode b_Sl_mixBlock 30 = .ok (.getfield 9, 3) := by decide +kernel
theorem d_Sl_mixBlock_33 : decode b_Sl_mixBlock 33 = .ok (.iconst 4, 1) := by decide +kernel
theorem d_Sl_mixBlock_34 : decode b_Sl_mixBlock 34 = .ok (.iaload, 1) := by decide +kernel
theorem d_Sl_mixBlock_35 : decode b_Sl_mixBlock 35 = .ok (.istore 5, 2) := by decide +kernel
theorem d_Sl_mixBlock_37 : decode b_Sl_mixBlock 37 = .ok (.aload_n 0, 1) := by decide +kernel
theorem d_Sl_mixBlock_38 : decode b_Sl_mixBlock 38 = .ok (.getfield 9, 3) := by decide +kernel
theorem d_Sl_mixBlock_41 : decode b_Sl_mixBlock 41 = .ok (.iconst 5, 1) := by decide +kernel
theorem d_Sl_mixBlock_42 : decode b_Sl_mixBlock 42 = .ok (.iaload, 1) := by decide +kernel
theorem d_Sl_mixBlock_43 : decode b_Sl_mixBlock 43 = .ok (.istore 6, 2) := by decide +kernel
theorem d_Sl_mixBlock_45 : decode b_Sl_mixBlock 45 = .ok (.aload_n 0, 1) := by decide +kernel
theorem d_Sl_mixBlock_46 : decode b_Sl_mixBlock 46 = .ok (.getfield 9, 3) := by decide +kernel
theorem d_Sl_mixBlock_49 : decode b_Sl_mixBlock 49 = .ok (.bipush 6, 2) := by decide +kernel
theorem d_Sl_mixBlock_51 : decode b_Sl_mixBlock 51 = .ok (.iaload, 1) := by decide +kernel
theorem d_Sl_mixBlock_52 : decode b_Sl_mixBlock 52 = .ok (.istore 7, 2) := by decide +kernel
theorem d_Sl_mixBlock_54 : decode b_Sl_mixBlock 54 = .ok (.aload_n 0, 1) := by decide +kernel
theorem d_Sl_mixBlock_55 : decode b_Sl_mixBlock 55 = .ok (.getfield 9, 3) := by decide +kernel
theorem d_Sl_mixBlock_58 : decode b_Sl_mixBlock 58 = .ok (.bipush 7, 2) := by decide +kernel
theorem d_Sl_mixBlock_60 : decode b_Sl_mixBlock 60 = .ok (.iaload, 1) := by decide +kernel
theorem d_Sl_mixBlock_61 : decode b_Sl_mixBlock 61 = .ok (.istore 8, 2) := by decide +kernel
theorem d_Sl_mixBlock_63 : decode b_Sl_mixBlock 63 = .ok (.iconst 0, 1) := by decide +kernel
theorem d_Sl_mixBlock_64 : decode b_Sl_mixBlock 64 = .ok (.istore 9, 2) := by decide +kernel
theorem d_Sl_mixBlock_66 : decode b_Sl_mixBlock 66 = .ok (.iload 9, 2) := by decide +kernel
theorem d_Sl_mixBlock_68 : decode b_Sl_mixBlock 68 = .ok (.bipush 64, 2) := by decide +kernel
theorem d_Sl_mixBlock_70 : decode b_Sl_mixBlock 70 = .ok (.if_icmp .ge 152, 3) := by decide +kernel
theorem d_Sl_mixBlock_73 : decode b_Sl_mixBlock 73 = .ok (.iload 8, 2) := by decide +kernel
theorem d_Sl_mixBlock_75 : decode b_Sl_mixBlock 75 = .ok (.iload 5, 2) := by decide +kernel
theorem d_Sl_mixBlock_77 : decode b_Sl_mixBlock 77 = .ok (.bipush 6, 2) := by decide +kernel
theorem d_Sl_mixBlock_79 : decode b_Sl_mixBlock 79 = .ok (.iushr, 1) := by decide +kernel
theorem d_Sl_mixBlock_80 : decode b_Sl_mixBlock 80 = .ok (.iload 5, 2) := by decide +kernel
theorem d_Sl_mixBlock_82 : decode b_Sl_mixBlock 82 = .ok (.bipush 26, 2) := by decide +kernel
theorem d_Sl_mixBlock_84 : decode b_Sl_mixBlock 84 = .ok (.ishl, 1) := by decide +kernel
theorem d_Sl_mixBlock_85 : decode b_Sl_mixBlock 85 = .ok (.ior, 1) := by decide +kernel
theorem d_Sl_mixBlock_86 : decode b_Sl_mixBlock 86 = .ok (.iload 5, 2) := by decide +kernel
theorem d_Sl_mixBlock_88 : decode b_Sl_mixBlock 88 = .ok (.bipush 11, 2) := by decide +kernel
theorem d_Sl_mixBlock_90 : decode b_Sl_mixBlock 90 = .ok (.iushr, 1) := by decide +kernel
theorem d_Sl_mixBlock_91 : decode b_Sl_mixBlock 91 = .ok (.iload 5, 2) := by decide +kernel
theorem d_Sl_mixBlock_93 : decode b_Sl_mixBlock 93 = .ok (.bipush 21, 2) := by decide +kernel
theorem d_Sl_mixBlock_95 : decode b_Sl_mixBlock 95 = .ok (.ishl, 1) := by decide +kernel
theorem d_Sl_mixBlock_96 : decode b_Sl_mixBlock 96 = .ok (.ior, 1) := by decide +kernel
theorem d_Sl_mixBlock_97 : decode b_Sl_mixBlock 97 = .ok (.ixor, 1) := by decide +kernel
theorem d_Sl_mixBlock_98 : decode b_Sl_mixBlock 98 = .ok (.iload 5, 2) := by decide +kernel
theorem d_Sl_mixBlock_100 : decode b_Sl_mixBlock 100 = .ok (.bipush 25, 2) := by decide +kernel
theorem d_Sl_mixBlock_102 : decode b_Sl_mixBlock 102 = .ok (.iushr, 1) := by decide +kernel
theorem d_Sl_mixBlock_103 : decode b_Sl_mixBlock 103 = .ok (.iload 5, 2) := by decide +kernel
theorem d_Sl_mixBlock_105 : decode b_Sl_mixBlock 105 = .ok (.bipush 7, 2) := by decide +kernel
theorem d_Sl_mixBlock_107 : decode b_Sl_mixBlock 107 = .ok (.ishl, 1) := by decide +kernel
theorem d_Sl_mixBlock_108 : decode b_Sl_mixBlock 108 = .ok (.ior, 1) := by decide +kernel
theorem d_Sl_mixBlock_109 : decode b_Sl_mixBlock 109 = .ok (.ixor, 1) := by decide +kernel
theorem d_Sl_mixBlock_110 : decode b_Sl_mixBlock 110 = .ok (.iadd, 1) := by decide +kernel
theorem d_Sl_mixBlock_111 : decode b_Sl_mixBlock 111 = .ok (.iload 5, 2) := by decide +kernel
theorem d_Sl_mixBlock_113 : decode b_Sl_mixBlock 113 = .ok (.iload 6, 2) := by decide +kernel
theorem d_Sl_mixBlock_115 : decode b_Sl_mixBlock 115 = .ok (.iand, 1) := by decide +kernel
theorem d_Sl_mixBlock_116 : decode b_Sl_mixBlock 116 = .ok (.iload 5, 2) := by decide +kernel
theorem d_Sl_mixBlock_118 : decode b_Sl_mixBlock 118 = .ok (.iconst (-1), 1) := by decide +kernel
theorem d_Sl_mixBlock_119 : decode b_Sl_mixBlock 119 = .ok (.ixor, 1) := by decide +kernel
theorem d_Sl_mixBlock_120 : decode b_Sl_mixBlock 120 = .ok (.iload 7, 2) := by decide +kernel
theorem d_Sl_mixBlock_122 : decode b_Sl_mixBlock 122 = .ok (.iand, 1) := by decide +kernel
theorem d_Sl_mixBlock_123 : decode b_Sl_mixBlock 123 = .ok (.ior, 1) := by decide +kernel
theorem d_Sl_mixBlock_124 : decode b_Sl_mixBlock 124 = .ok (.iadd, 1) := by decide +kernel
theorem d_Sl_mixBlock_125 : decode b_Sl_mixBlock 125 = .ok (.getstatic 63, 3) := by decide +kernel
theorem d_Sl_mixBlock_128 : decode b_Sl_mixBlock 128 = .ok (.iload 9, 2) := by decide +kernel
theorem d_Sl_mixBlock_130 : decode b_Sl_mixBlock 130 = .ok (.iaload, 1) := by decide +kernel
theorem d_Sl_mixBlock_131 : decode b_Sl_mixBlock 131 = .ok (.iadd, 1) := by decide +kernel
theorem d_Sl_mixBlock_132 : decode b_Sl_mixBlock 132 = .ok (.aload_n 0, 1) := by decide +kernel
theorem d_Sl_mixBlock_133 : decode b_Sl_mixBlock 133 = .ok (.getfield 19, 3) := by decide +kernel
theorem d_Sl_mixBlock_136 : decode b_Sl_mixBlock 136 = .ok (.iload 9, 2) := by decide +kernel
theorem d_Sl_mixBlock_138 : decode b_Sl_mixBlock 138 = .ok (.iaload, 1) := by decide +kernel
theorem d_Sl_mixBlock_139 : decode b_Sl_mixBlock 139 = .ok (.iadd, 1) := by decide +kernel
theorem d_Sl_mixBlock_140 : decode b_Sl_mixBlock 140 = .ok (.istore 10, 2) := by decide +kernel
theorem d_Sl_mixBlock_142 : decode b_Sl_mixBlock 142 = .ok (.iload_n 1, 1) := by decide +kernel
theorem d_Sl_mixBlock_143 : decode b_Sl_mixBlock 143 = .ok (.iconst 2, 1) := by decide +kernel
theorem d_Sl_mixBlock_144 : decode b_Sl_mixBlock 144 = .ok (.iushr, 1) := by decide +kernel
theorem d_Sl_mixBlock_145 : decode b_Sl_mixBlock 145 = .ok (.iload_n 1, 1) := by decide +kernel
theorem d_Sl_mixBlock_146 : decode b_Sl_mixBlock 146 = .ok (.bipush 30, 2) := by decide +kernel
theorem d_Sl_mixBlock_148 : decode b_Sl_mixBlock 148 = .ok (.ishl, 1) := by decide +kernel
theorem d_Sl_mixBlock_149 : decode b_Sl_mixBlock 149 = .ok (.ior, 1) := by decide +kernel
theorem d_Sl_mixBlock_150 : decode b_Sl_mixBlock 150 = .ok (.iload_n 1, 1) := by decide +kernel
theorem d_Sl_mixBlock_151 : decode b_Sl_mixBlock 151 = .ok (.bipush 13, 2) := by decide +kernel
theorem d_Sl_mixBlock_153 : decode b_Sl_mixBlock 153 = .ok (.iushr, 1) := by decide +kernel
theorem d_Sl_mixBlock_154 : decode b_Sl_mixBlock 154 = .ok (.iload_n 1, 1) := by decide +kernel
theorem d_Sl_mixBlock_155 : decode b_Sl_mixBlock 155 = .ok (.bipush 19, 2) := by decide +kernel
theorem d_Sl_mixBlock_157 : decode b_Sl_mixBlock 157 = .ok (.ishl, 1) := by decide +kernel
theorem d_Sl_mixBlock_158 : decode b_Sl_mixBlock 158 = .ok (.ior, 1) := by decide +kernel
theorem d_Sl_mixBlock_159 : decode b_Sl_mixBlock 159 = .ok (.ixor, 1) := by decide +kernel
theorem d_Sl_mixBlock_160 : decode b_Sl_mixBlock 160 = .ok (.iload_n 1, 1) := by decide +kernel
theorem d_Sl_mixBlock_161 : decode b_Sl_mixBlock 161 = .ok (.bipush 22, 2) := by decide +kernel
theorem d_Sl_mixBlock_163 : decode b_Sl_mixBlock 163 = .ok (.iushr, 1) := by decide +kernel
theorem d_Sl_mixBlock_164 : decode b_Sl_mixBlock 164 = .ok (.iload_n 1, 1) := by decide +kernel
theorem d_Sl_mixBlock_165 : decode b_Sl_mixBlock 165 = .ok (.bipush 10, 2) := by decide +kernel
theorem d_Sl_mixBlock_167 : decode b_Sl_mixBlock 167 = .ok (.ishl, 1) := by decide +kernel
theorem d_Sl_mixBlock_168 : decode b_Sl_mixBlock 168 = .ok (.ior, 1) := by decide +kernel
theorem d_Sl_mixBlock_169 : decode b_Sl_mixBlock 169 = .ok (.ixor, 1) := by decide +kernel
theorem d_Sl_mixBlock_170 : decode b_Sl_mixBlock 170 = .ok (.iload_n 1, 1) := by decide +kernel
theorem d_Sl_mixBlock_171 : decode b_Sl_mixBlock 171 = .ok (.iload_n 2, 1) := by decide +kernel
theorem d_Sl_mixBlock_172 : decode b_Sl_mixBlock 172 = .ok (.iand, 1) := by decide +kernel
theorem d_Sl_mixBlock_173 : decode b_Sl_mixBlock 173 = .ok (.iload_n 1, 1) := by decide +kernel
theorem d_Sl_mixBlock_174 : decode b_Sl_mixBlock 174 = .ok (.iload_n 3, 1) := by decide +kernel
theorem d_Sl_mixBlock_175 : decode b_Sl_mixBlock 175 = .ok (.iand, 1) := by decide +kernel
theorem d_Sl_mixBlock_176 : decode b_Sl_mixBlock 176 = .ok (.ixor, 1) := by decide +kernel
theorem d_Sl_mixBlock_177 : decode b_Sl_mixBlock 177 = .ok (.iload_n 2, 1) := by decide +kernel
theorem d_Sl_mixBlock_178 : decode b_Sl_mixBlock 178 = .ok (.iload_n 3, 1) := by decide +kernel
theorem d_Sl_mixBlock_179 : decode b_Sl_mixBlock 179 = .ok (.iand, 1) := by decide +kernel
theorem d_Sl_mixBlock_180 : decode b_Sl_mixBlock 180 = .ok (.ixor, 1) := by decide +kernel
theorem d_Sl_mixBlock_181 : decode b_Sl_mixBlock 181 = .ok (.iadd, 1) := by decide +kernel
theorem d_Sl_mixBlock_182 : decode b_Sl_mixBlock 182 = .ok (.istore 11, 2) := by decide +kernel
theorem d_Sl_mixBlock_184 : decode b_Sl_mixBlock 184 = .ok (.iload 7, 2) := by decide +kernel
theorem d_Sl_mixBlock_186 : decode b_Sl_mixBlock 186 = .ok (.istore 8, 2) := by decide +kernel
theorem d_Sl_mixBlock_188 : decode b_Sl_mixBlock 188 = .ok (.iload 6, 2) := by decide +kernel
theorem d_Sl_mixBlock_190 : decode b_Sl_mixBlock 190 = .ok (.istore 7, 2) := by decide +kernel
theorem d_Sl_mixBlock_192 : decode b_Sl_mixBlock 192 = .ok (.iload 5, 2) := by decide +kernel
theorem d_Sl_mixBlock_194 : decode b_Sl_mixBlock 194 = .ok (.istore 6, 2) := by decide +kernel
theorem d_Sl_mixBlock_196 : decode b_Sl_mixBlock 196 = .ok (.iload 4, 2) := by decide +kernel
theorem d_Sl_mixBlock_198 : decode b_Sl_mixBlock 198 = .ok (.iload 10, 2) := by decide +kernel
theorem d_Sl_mixBlock_200 : decode b_Sl_mixBlock 200 = .ok (.iadd, 1) := by decide +kernel
theorem d_Sl_mixBlock_201 : decode b_Sl_mixBlock 201 = .ok (.istore 5, 2) := by decide +kernel
theorem d_Sl_mixBlock_203 : decode b_Sl_mixBlock 203 = .ok (.iload_n 3, 1) := by decide +kernel
theorem d_Sl_mixBlock_204 : decode b_Sl_mixBlock 204 = .ok (.istore 4, 2) := by decide +kernel
theorem d_Sl_mixBlock_206 : decode b_Sl_mixBlock 206 = .ok (.iload_n 2, 1) := by decide +kernel
theorem d_Sl_mixBlock_207 : decode b_Sl_mixBlock 207 = .ok (.istore_n 3, 1) := by decide +kernel
theorem d_Sl_mixBlock_208 : decode b_Sl_mixBlock 208 = .ok (.iload_n 1, 1) := by decide +kernel
theorem d_Sl_mixBlock_209 : decode b_Sl_mixBlock 209 = .ok (.istore_n 2, 1) := by decide +kernel
theorem d_Sl_mixBlock_210 : decode b_Sl_mixBlock 210 = .ok (.iload 10, 2) := by decide +kernel
theorem d_Sl_mixBlock_212 : decode b_Sl_mixBlock 212 = .ok (.iload 11, 2) := by decide +kernel
theorem d_Sl_mixBlock_214 : decode b_Sl_mixBlock 214 = .ok (.iadd, 1) := by decide +kernel
theorem d_Sl_mixBlock_215 : decode b_Sl_mixBlock 215 = .ok (.istore_n 1, 1) := by decide +kernel
theorem d_Sl_mixBlock_216 : decode b_Sl_mixBlock 216 = .ok (.iinc 9 1, 3) := by decide +kernel
theorem d_Sl_mixBlock_219 : decode b_Sl_mixBlock 219 = .ok (.goto (-153), 3) := by decide +kernel
theorem d_Sl_mixBlock_222 : decode b_Sl_mixBlock 222 = .ok (.aload_n 0, 1) := by decide +kernel
theorem d_Sl_mixBlock_223 : decode b_Sl_mixBlock 223 = .ok (.getfield 9, 3) := by decide +kernel
theorem d_Sl_mixBlock_226 : decode b_Sl_mixBlock 226 = .ok (.iconst 0, 1) := by decide +kernel
theorem d_Sl_mixBlock_227 : decode b_Sl_mixBlock 227 = .ok (.dup2, 1) := by decide +kernel
theorem d_Sl_mixBlock_228 : decode b_Sl_mixBlock 228 = .ok (.iaload, 1) := by decide +kernel
theorem d_Sl_mixBlock_229 : decode b_Sl_mixBlock 229 = .ok (.iload_n 1, 1) := by decide +kernel
theorem d_Sl_mixBlock_230 : decode b_Sl_mixBlock 230 = .ok (.iadd, 1) := by decide +kernel
theorem d_Sl_mixBlock_231 : decode b_Sl_mixBlock 231 = .ok (.iastore, 1) := by decide +kernel
theorem d_Sl_mixBlock_232 : decode b_Sl_mixBlock 232 = .ok (.aload_n 0, 1) := by decide +kernel
theorem d_Sl_mixBlock_233 : decode b_Sl_mixBlock 233 = .ok (.getfield 9, 3) := by decide +kernel
theorem d_Sl_mixBlock_236 : decode b_Sl_mixBlock 236 = .ok (.iconst 1, 1) := by decide +kernel
theorem d_Sl_mixBlock_237 : decode b_Sl_mixBlock 237 = .ok (.dup2, 1) := by decide +kernel
theorem d_Sl_mixBlock_238 : decode b_Sl_mixBlock 238 = .ok (.iaload, 1) := by decide +kernel
theorem d_Sl_mixBlock_239 : decode b_Sl_mixBlock 239 = .ok (.iload_n 2, 1) := by decide +kernel
theorem d_Sl_mixBlock_240 : decode b_Sl_mixBlock 240 = .ok (.iadd, 1) := by decide +kernel
theorem d_Sl_mixBlock_241 : decode b_Sl_mixBlock 241 = .ok (.iastore, 1) := by decide +kernel
theorem d_Sl_mixBlock_242 : decode b_Sl_mixBlock 242 = .ok (.aload_n 0, 1) := by decide +kernel
theorem d_Sl_mixBlock_243 : decode b_Sl_mixBlock 243 = .ok (.getfield 9, 3) := by decide +kernel
theorem d_Sl_mixBlock_246 : decode b_Sl_mixBlock 246 = .ok (.iconst 2, 1) := by decide +kernel
theorem d_Sl_mixBlock_247 : decode b_Sl_mixBlock 247 = .ok (.dup2, 1) := by decide +kernel
theorem d_Sl_mixBlock_248 : decode b_Sl_mixBlock 248 = .ok (.iaload, 1) := by decide +kernel
theorem d_Sl_mixBlock_249 : decode b_Sl_mixBlock 249 = .ok (.iload_n 3, 1) := by decide +kernel
theorem d_Sl_mixBlock_250 : decode b_Sl_mixBlock 250 = .ok (.iadd, 1) := by decide +kernel
theorem d_Sl_mixBlock_251 : decode b_Sl_mixBlock 251 = .ok (.iastore, 1) := by decide +kernel
theorem d_Sl_mixBlock_252 : decode b_Sl_mixBlock 252 = .ok (.aload_n 0, 1) := by decide +kernel
theorem d_Sl_mixBlock_253 : decode b_Sl_mixBlock 253 = .ok (.getfield 9, 3) := by decide +kernel
theorem d_Sl_mixBlock_256 : decode b_Sl_mixBlock 256 = .ok (.iconst 3, 1) := by decide +kernel
theorem d_Sl_mixBlock_257 : decode b_Sl_mixBlock 257 = .ok (.dup2, 1) := by decide +kernel
theorem d_Sl_mixBlock_258 : decode b_Sl_mixBlock 258 = .ok (.iaload, 1) := by decide +kernel
theorem d_Sl_mixBlock_259 : decode b_Sl_mixBlock 259 = .ok (.iload 4, 2) := by decide +kernel
theorem d_Sl_mixBlock_261 : decode b_Sl_mixBlock 261 = .ok (.iadd, 1) := by decide +kernel
theorem d_Sl_mixBlock_262 : decode b_Sl_mixBlock 262 = .ok (.iastore, 1) := by decide +kernel
theorem d_Sl_mixBlock_263 : decode b_Sl_mixBlock 263 = .ok (.aload_n 0, 1) := by decide +kernel
theorem d_Sl_mixBlock_264 : decode b_Sl_mixBlock 264 = .ok (.getfield 9, 3) := by decide +kernel
theorem d_Sl_mixBlock_267 : decode b_Sl_mixBlock 267 = .ok (.iconst 4, 1) := by decide +kernel
theorem d_Sl_mixBlock_268 : decode b_Sl_mixBlock 268 = .ok (.dup2, 1) := by decide +kernel
theorem d_Sl_mixBlock_269 : decode b_Sl_mixBlock 269 = .ok (.iaload, 1) := by decide +kernel
theorem d_Sl_mixBlock_270 : decode b_Sl_mixBlock 270 = .ok (.iload 5, 2) := by decide +kernel
theorem d_Sl_mixBlock_272 : decode b_Sl_mixBlock 272 = .ok (.iadd, 1) := by decide +kernel
theorem d_Sl_mixBlock_273 : decode b_Sl_mixBlock 273 = .ok (.iastore, 1) := by decide +kernel
theorem d_Sl_mixBlock_274 : decode b_Sl_mixBlock 274 = .ok (.aload_n 0, 1) := by decide +kernel
theorem d_Sl_mixBlock_275 : decode b_Sl_mixBlock 275 = .ok (.getfield 9, 3) := by decide +kernel
theorem d_Sl_mixBlock_278 : decode b_Sl_mixBlock 278 = .ok (.iconst 5, 1) := by decide +kernel
theorem d_Sl_mixBlock_279 : decode b_Sl_mixBlock 279 = .ok (.dup2, 1) := by decide +kernel
theorem d_Sl_mixBlock_280 : decode b_Sl_mixBlock 280 = .ok (.iaload, 1) := by decide +kernel
theorem d_Sl_mixBlock_281 : decode b_Sl_mixBlock 281 = .ok (.iload 6, 2) := by decide +kernel
theorem d_Sl_mixBlock_283 : decode b_Sl_mixBlock 283 = .ok (.iadd, 1) := by decide +kernel
theorem d_Sl_mixBlock_284 : decode b_Sl_mixBlock 284 = .ok (.iastore, 1) := by decide +kernel
theorem d_Sl_mixBlock_285 : decode b_Sl_mixBlock 285 = .ok (.aload_n 0, 1) := by decide +kernel
theorem d_Sl_mixBlock_286 : decode b_Sl_mixBlock 286 = .ok (.getfield 9, 3) := by decide +kernel
theorem d_Sl_mixBlock_289 : decode b_Sl_mixBlock 289 = .ok (.bipush 6, 2) := by decide +kernel
theorem d_Sl_mixBlock_291 : decode b_Sl_mixBlock 291 = .ok (.dup2, 1) := by decide +kernel
theorem d_Sl_mixBlock_292 : decode b_Sl_mixBlock 292 = .ok (.iaload, 1) := by decide +kernel
theorem d_Sl_mixBlock_293 : decode b_Sl_mixBlock 293 = .ok (.iload 7, 2) := by decide +kernel
theorem d_Sl_mixBlock_295 : decode b_Sl_mixBlock 295 = .ok (.iadd, 1) := by decide +kernel
theorem d_Sl_mixBlock_296 : decode b_Sl_mixBlock 296 = .ok (.iastore, 1) := by decide +kernel
theorem d_Sl_mixBlock_297 : decode b_Sl_mixBlock 297 = .ok (.aload_n 0, 1) := by decide +kernel
theorem d_Sl_mixBlock_298 : decode b_Sl_mixBlock 298 = .ok (.getfield 9, 3) := by decide +kernel
theorem d_Sl_mixBlock_301 : decode b_Sl_mixBlock 301 = .ok (.bipush 7, 2) := by decide +kernel
theorem d_Sl_mixBlock_303 : decode b_Sl_mixBlock 303 = .ok (.dup2, 1) := by decide +kernel
theorem d_Sl_mixBlock_304 : decode b_Sl_mixBlock 304 = .ok (.iaload, 1) := by decide +kernel
theorem d_Sl_mixBlock_305 : decode b_Sl_mixBlock 305 = .ok (.iload 8, 2) := by decide +kernel
theorem d_Sl_mixBlock_307 : decode b_Sl_mixBlock 307 = .ok (.iadd, 1) := by decide +kernel
theorem d_Sl_mixBlock_308 : decode b_Sl_mixBlock 308 = .ok (.iastore, 1) := by decide +kernel
theorem d_Sl_mixBlock_309 : decode b_Sl_mixBlock 309 = .ok (.return_, 1) := by decide +kernel
theorem d_Sl_startWithKey_0 : decode b_Sl_startWithKey 0 = .ok (.aload_n 0, 1) := by decide +kernel
theorem d_Sl_startWithKey_1 : decode b_Sl_startWithKey 1 = .ok (.invokevirtual 60, 3) := by decide +kernel
theorem d_Sl_startWithKey_4 : decode b_Sl_startWithKey 4 = .ok (.iconst 0, 1) := by decide +kernel
theorem d_Sl_startWithKey_5 : decode b_Sl_startWithKey 5 = .ok (.istore 5, 2) := by decide +kernel
theorem d_Sl_startWithKey_7 : decode b_Sl_startWithKey 7 = .ok (.iload 5, 2) := by decide +kernel
theorem d_Sl_startWithKey_9 : decode b_Sl_startWithKey 9 = .ok (.bipush 16, 2) := by decide +kernel
theorem d_Sl_startWithKey_11 : decode b_Sl_startWithKey 11 = .ok (.if_icmp .ge 35, 3) := by decide +kernel
theorem d_Sl_startWithKey_14 : decode b_Sl_startWithKey 14 = .ok (.aload_n 0, 1) := by decide +kernel
theorem d_Sl_startWithKey_15 : decode b_Sl_startWithKey 15 = .ok (.getfield 16, 3) := by decide +kernel
theorem d_Sl_startWithKey_18 : decode b_Sl_startWithKey 18 = .ok (.iload 5, 2) := by decide +kernel
theorem d_Sl_startWithKey_20 : decode b_Sl_startWithKey 20 = .ok (.iload 5, 2) := by decide +kernel
theorem d_Sl_startWithKey_22 : decode b_Sl_startWithKey 22 = .ok (.iload_n 3, 1) := by decide +kernel
theorem d_Sl_startWithKey_23 : decode b_Sl_startWithKey 23 = .ok (.if_icmp .ge 12, 3) := by decide +kernel
theorem d_Sl_startWithKey_26 : decode b_Sl_startWithKey 26 = .ok (.aload_n 1, 1) := by decide +kernel
theorem d_Sl_startWithKey_27 : decode b_Sl_startWithKey 27 = .ok (.iload_n 2, 1) := by decide +kernel
theorem d_Sl_startWithKey_28 : decode b_Sl_startWithKey 28 = .ok (.iload 5, 2) := by decide +kernel
theorem d_Sl_startWithKey_30 : decode b_Sl_startWithKey 30 = .ok (.iadd, 1) := by decide +kernel
theorem d_Sl_startWithKey_31 : decode b_Sl_startWithKey 31 = .ok (.iaload, 1) := by decide +kernel
theorem d_Sl_startWithKey_32 : decode b_Sl_startWithKey 32 = .ok (.goto 4, 3) := by decide +kernel
theorem d_Sl_startWithKey_35 : decode b_Sl_startWithKey 35 = .ok (.iconst 0, 1) := by decide +kernel
theorem d_Sl_startWithKey_36 : decode b_Sl_startWithKey 36 = .ok (.iload 4, 2) := by decide +kernel
theorem d_Sl_startWithKey_38 : decode b_Sl_startWithKey 38 = .ok (.ixor, 1) := by decide +kernel
theorem d_Sl_startWithKey_39 : decode b_Sl_startWithKey 39 = .ok (.iastore, 1) := by decide +kernel
theorem d_Sl_startWithKey_40 : decode b_Sl_startWithKey 40 = .ok (.iinc 5 1, 3) := by decide +kernel
theorem d_Sl_startWithKey_43 : decode b_Sl_startWithKey 43 = .ok (.goto (-36), 3) := by decide +kernel
theorem d_Sl_startWithKey_46 : decode b_Sl_startWithKey 46 = .ok (.aload_n 0, 1) := by decide +kernel
theorem d_Sl_startWithKey_47 : decode b_Sl_startWithKey 47 = .ok (.bipush 64, 2) := by decide +kernel
theorem d_Sl_startWithKey_49 : decode b_Sl_startWithKey 49 = .ok (.putfield 28, 3) := by decide +kernel
theorem d_Sl_startWithKey_52 : decode b_Sl_startWithKey 52 = .ok (.return_, 1) := by decide +kernel
theorem d_Sl_finish_0 : decode b_Sl_finish 0 = .ok (.bipush 8, 2) := by decide +kernel
theorem d_Sl_finish_2 : decode b_Sl_finish 2 = .ok (.aload_n 0, 1) := by decide +kernel
theorem d_Sl_finish_3 : decode b_Sl_finish 3 = .ok (.getfield 28, 3) := by decide +kernel
theorem d_Sl_finish_6 : decode b_Sl_finish 6 = .ok (.imul, 1) := by decide +kernel
theorem d_Sl_finish_7 : decode b_Sl_finish 7 = .ok (.istore_n 1, 1) := by decide +kernel
theorem d_Sl_finish_8 : decode b_Sl_finish 8 = .ok (.aload_n 0, 1) := by decide +kernel
theorem d_Sl_finish_9 : decode b_Sl_finish 9 = .ok (.sipush 128, 3) := by decide +kernel
theorem d_Sl_finish_12 : decode b_Sl_finish 12 = .ok (.invokevirtual 32, 3) := by decide +kernel
theorem d_Sl_finish_15 : decode b_Sl_finish 15 = .ok (.aload_n 0, 1) := by decide +kernel
theorem d_Sl_finish_16 : decode b_Sl_finish 16 = .ok (.getfield 28, 3) := by decide +kernel
theorem d_Sl_finish_19 : decode b_Sl_finish 19 = .ok (.bipush 8, 2) := by decide +kernel
theorem d_Sl_finish_21 : decode b_Sl_finish 21 = .ok (.iadd, 1) := by decide +kernel
theorem d_Sl_finish_22 : decode b_Sl_finish 22 = .ok (.bipush 64, 2) := by decide +kernel
theorem d_Sl_finish_24 : decode b_Sl_finish 24 = .ok (.iadd, 1) := by decide +kernel
theorem d_Sl_finish_25 : decode b_Sl_finish 25 = .ok (.iconst 1, 1) := by decide +kernel
theorem d_Sl_finish_26 : decode b_Sl_finish 26 = .ok (.isub, 1) := by decide +kernel
theorem d_Sl_finish_27 : decode b_Sl_finish 27 = .ok (.bipush 64, 2) := by decide +kernel
theorem d_Sl_finish_29 : decode b_Sl_finish 29 = .ok (.idiv, 1) := by decide +kernel
theorem d_Sl_finish_30 : decode b_Sl_finish 30 = .ok (.istore_n 2, 1) := by decide +kernel
theorem d_Sl_finish_31 : decode b_Sl_finish 31 = .ok (.aload_n 0, 1) := by decide +kernel
theorem d_Sl_finish_32 : decode b_Sl_finish 32 = .ok (.getfield 16, 3) := by decide +kernel
theorem d_Sl_finish_35 : decode b_Sl_finish 35 = .ok (.iload_n 2, 1) := by decide +kernel
theorem d_Sl_finish_36 : decode b_Sl_finish 36 = .ok (.bipush 16, 2) := by decide +kernel
theorem d_Sl_finish_38 : decode b_Sl_finish 38 = .ok (.imul, 1) := by decide +kernel
theorem d_Sl_finish_39 : decode b_Sl_finish 39 = .ok (.iconst 1, 1) := by decide +kernel
theorem d_Sl_finish_40 : decode b_Sl_finish 40 = .ok (.isub, 1) := by decide +kernel
theorem d_Sl_finish_41 : decode b_Sl_finish 41 = .ok (.iload_n 1, 1) := by decide +kernel
theorem d_Sl_finish_42 : decode b_Sl_finish 42 = .ok (.iastore, 1) := by decide +kernel
theorem d_Sl_finish_43 : decode b_Sl_finish 43 = .ok (.getstatic 36, 3) := by decide +kernel
theorem d_Sl_finish_46 : decode b_Sl_finish 46 = .ok (.iconst 0, 1) := by decide +kernel
theorem d_Sl_finish_47 : decode b_Sl_finish 47 = .ok (.aload_n 0, 1) := by decide +kernel
theorem d_Sl_finish_48 : decode b_Sl_finish 48 = .ok (.getfield 9, 3) := by decide +kernel
theorem d_Sl_finish_51 : decode b_Sl_finish 51 = .ok (.iconst 0, 1) := by decide +kernel
theorem d_Sl_finish_52 : decode b_Sl_finish 52 = .ok (.bipush 8, 2) := by decide +kernel
theorem d_Sl_finish_54 : decode b_Sl_finish 54 = .ok (.invokestatic 39, 3) := by decide +kernel
theorem d_Sl_finish_57 : decode b_Sl_finish 57 = .ok (.iconst 0, 1) := by decide +kernel
theorem d_Sl_finish_58 : decode b_Sl_finish 58 = .ok (.istore_n 3, 1) := by decide +kernel
theorem d_Sl_finish_59 : decode b_Sl_finish 59 = .ok (.iload_n 3, 1) := by decide +kernel
theorem d_Sl_finish_60 : decode b_Sl_finish 60 = .ok (.iload_n 2, 1) := by decide +kernel
theorem d_Sl_finish_61 : decode b_Sl_finish 61 = .ok (.if_icmp .ge 21, 3) := by decide +kernel
theorem d_Sl_finish_64 : decode b_Sl_finish 64 = .ok (.aload_n 0, 1) := by decide +kernel
theorem d_Sl_finish_65 : decode b_Sl_finish 65 = .ok (.iload_n 3, 1) := by decide +kernel
theorem d_Sl_finish_66 : decode b_Sl_finish 66 = .ok (.bipush 16, 2) := by decide +kernel
theorem d_Sl_finish_68 : decode b_Sl_finish 68 = .ok (.imul, 1) := by decide +kernel
theorem d_Sl_finish_69 : decode b_Sl_finish 69 = .ok (.invokevirtual 45, 3) := by decide +kernel
theorem d_Sl_finish_72 : decode b_Sl_finish 72 = .ok (.aload_n 0, 1) := by decide +kernel
theorem d_Sl_finish_73 : decode b_Sl_finish 73 = .ok (.invokevirtual 48, 3) := by decide +kernel
theorem d_Sl_finish_76 : decode b_Sl_finish 76 = .ok (.iinc 3 1, 3) := by decide +kernel
theorem d_Sl_finish_79 : decode b_Sl_finish 79 = .ok (.goto (-20), 3) := by decide +kernel
theorem d_Sl_finish_82 : decode b_Sl_finish 82 = .ok (.return_, 1) := by decide +kernel
theorem d_Sl_seal_0 : decode b_Sl_seal 0 = .ok (.aload_n 0, 1) := by decide +kernel
theorem d_Sl_seal_1 : decode b_Sl_seal 1 = .ok (.aload_n 1, 1) := by decide +kernel
theorem d_Sl_seal_2 : decode b_Sl_seal 2 = .ok (.iload_n 2, 1) := by decide +kernel
theorem d_Sl_seal_3 : decode b_Sl_seal 3 = .ok (.iload_n 3, 1) := by decide +kernel
theorem d_Sl_seal_4 : decode b_Sl_seal 4 = .ok (.ldc 51, 2) := by decide +kernel
theorem d_Sl_seal_6 : decode b_Sl_seal 6 = .ok (.invokevirtual 52, 3) := by decide +kernel
theorem d_Sl_seal_9 : decode b_Sl_seal 9 = .ok (.iconst 0, 1) := by decide +kernel
theorem d_Sl_seal_10 : decode b_Sl_seal 10 = .ok (.istore 6, 2) := by decide +kernel
theorem d_Sl_seal_12 : decode b_Sl_seal 12 = .ok (.iload 6, 2) := by decide +kernel
theorem d_Sl_seal_14 : decode b_Sl_seal 14 = .ok (.iload 5, 2) := by decide +kernel
theorem d_Sl_seal_16 : decode b_Sl_seal 16 = .ok (.if_icmp .ge 18, 3) := by decide +kernel
theorem d_Sl_seal_19 : decode b_Sl_seal 19 = .ok (.aload_n 0, 1) := by decide +kernel
theorem d_Sl_seal_20 : decode b_Sl_seal 20 = .ok (.aload 4, 2) := by decide +kernel
theorem d_Sl_seal_22 : decode b_Sl_seal 22 = .ok (.iload 6, 2) := by decide +kernel
theorem d_Sl_seal_24 : decode b_Sl_seal 24 = .ok (.iaload, 1) := by decide +kernel
theorem d_Sl_seal_25 : decode b_Sl_seal 25 = .ok (.invokevirtual 32, 3) := by decide +kernel
theorem d_Sl_seal_28 : decode b_Sl_seal 28 = .ok (.iinc 6 1, 3) := by decide +kernel
theorem d_Sl_seal_31 : decode b_Sl_seal 31 = .ok (.goto (-19), 3) := by decide +kernel
theorem d_Sl_seal_34 : decode b_Sl_seal 34 = .ok (.aload_n 0, 1) := by decide +kernel
theorem d_Sl_seal_35 : decode b_Sl_seal 35 = .ok (.invokevirtual 56, 3) := by decide +kernel
theorem d_Sl_seal_38 : decode b_Sl_seal 38 = .ok (.aload_n 0, 1) := by decide +kernel
theorem d_Sl_seal_39 : decode b_Sl_seal 39 = .ok (.aload_n 1, 1) := by decide +kernel
theorem d_Sl_seal_40 : decode b_Sl_seal 40 = .ok (.iload_n 2, 1) := by decide +kernel
theorem d_Sl_seal_41 : decode b_Sl_seal 41 = .ok (.iload_n 3, 1) := by decide +kernel
theorem d_Sl_seal_42 : decode b_Sl_seal 42 = .ok (.ldc 59, 2) := by decide +kernel
theorem d_Sl_seal_44 : decode b_Sl_seal 44 = .ok (.invokevirtual 52, 3) := by decide +kernel
theorem d_Sl_seal_47 : decode b_Sl_seal 47 = .ok (.aload_n 0, 1) := by decide +kernel
theorem d_Sl_seal_48 : decode b_Sl_seal 48 = .ok (.getfield 9, 3) := by decide +kernel
theorem d_Sl_seal_51 : decode b_Sl_seal 51 = .ok (.iconst 0, 1) := by decide +kernel
theorem d_Sl_seal_52 : decode b_Sl_seal 52 = .ok (.aload_n 0, 1) := by decide +kernel
theorem d_Sl_seal_53 : decode b_Sl_seal 53 = .ok (.getfield 16, 3) := by decide +kernel
theorem d_Sl_seal_56 : decode b_Sl_seal 56 = .ok (.bipush 16, 2) := by decide +kernel
theorem d_Sl_seal_58 : decode b_Sl_seal 58 = .ok (.bipush 8, 2) := by decide +kernel
theorem d_Sl_seal_60 : decode b_Sl_seal 60 = .ok (.invokestatic 39, 3) := by decide +kernel
theorem d_Sl_seal_63 : decode b_Sl_seal 63 = .ok (.aload_n 0, 1) := by decide +kernel
theorem d_Sl_seal_64 : decode b_Sl_seal 64 = .ok (.dup, 1) := by decide +kernel
theorem d_Sl_seal_65 : decode b_Sl_seal 65 = .ok (.getfield 28, 3) := by decide +kernel
theorem d_Sl_seal_68 : decode b_Sl_seal 68 = .ok (.bipush 32, 2) := by decide +kernel
theorem d_Sl_seal_70 : decode b_Sl_seal 70 = .ok (.iadd, 1) := by decide +kernel
theorem d_Sl_seal_71 : decode b_Sl_seal 71 = .ok (.putfield 28, 3) := by decide +kernel
theorem d_Sl_seal_74 : decode b_Sl_seal 74 = .ok (.aload_n 0, 1) := by decide +kernel
theorem d_Sl_seal_75 : decode b_Sl_seal 75 = .ok (.invokevirtual 56, 3) := by decide +kernel
theorem d_Sl_seal_78 : decode b_Sl_seal 78 = .ok (.return_, 1) := by decide +kernel
end
section
theorem q_1_48 : (Jvm.Cond.laysFinal "BulletinOffice$Clock" "BulletinOffice$Clock" "lag" "I") ∈ hv_ws := wm (wc_1 (List.mem_of_getElem? (i := 48) rfl)) rfl
theorem q_1_50 : (Jvm.Cond.laysFinal "BulletinOffice$Clock" "BulletinOffice$Clock" "ticks" "I") ∈ hv_ws := wm (wc_1 (List.mem_of_getElem? (i := 50) rfl)) rfl
theorem q_1_52 : (Jvm.Cond.laysFinal "BulletinOffice$Clock" "BulletinOffice$Clock" "error" "I") ∈ hv_ws := wm (wc_1 (List.mem_of_getElem? (i := 52) rfl)) rfl
theorem q_1_54 : (Jvm.Cond.lays "BulletinOffice$Clock" "BulletinOffice$Clock" "time" "I") ∈ hv_ws := wm (wc_1 (List.mem_of_getElem? (i := 54) rfl)) rfl
theorem hin0 : ∀ w ∈ u_ws R0 T0 4, w ∈ hv_ws := by
  intro w hw
  obtain ⟨k, hk, rfl⟩ := List.mem_map.mp hw
  have hk := List.mem_range.mp hk
  match k, hk with
  | 0, _ => exact q_1_48
  | 1, _ => exact q_1_50
  | 2, _ => exact q_1_52
  | 3, _ => exact q_1_54
  | n + 4, h => exact absurd h (by omega)
theorem q_1_44 : (Jvm.Cond.fieldLink "BulletinOffice$Clock" (13 : Nat) "BulletinOffice$Clock" "ticks" "I") ∈ hv_ws := wm (wc_1 (List.mem_of_getElem? (i := 44) rfl)) rfl
theorem fa_Ck_13 : hv_fa "BulletinOffice$Clock" 13 0 1 := ⟨R0, T0, 4, "BulletinOffice$Clock", rfl, hin0, by decide, Or.inl q_1_44, Or.inl rfl⟩
theorem q_1_46 : (Jvm.Cond.fieldLink "BulletinOffice$Clock" (19 : Nat) "BulletinOffice$Clock" "time" "I") ∈ hv_ws := wm (wc_1 (List.mem_of_getElem? (i := 46) rfl)) rfl
theorem fa_Ck_19 : hv_fa "BulletinOffice$Clock" 19 0 3 := ⟨R0, T0, 4, "BulletinOffice$Clock", rfl, hin0, by decide, Or.inl q_1_46, Or.inl rfl⟩
theorem q_1_45 : (Jvm.Cond.fieldLink "BulletinOffice$Clock" (16 : Nat) "BulletinOffice$Clock" "error" "I") ∈ hv_ws := wm (wc_1 (List.mem_of_getElem? (i := 45) rfl)) rfl
theorem fa_Ck_16 : hv_fa "BulletinOffice$Clock" 16 0 2 := ⟨R0, T0, 4, "BulletinOffice$Clock", rfl, hin0, by decide, Or.inl q_1_45, Or.inl rfl⟩
theorem q_1_41 : (Jvm.Cond.fieldLink "BulletinOffice$Clock" (7 : Nat) "BulletinOffice$Clock" "lag" "I") ∈ hv_ws := wm (wc_1 (List.mem_of_getElem? (i := 41) rfl)) rfl
theorem fa_Ck_7 : hv_fa "BulletinOffice$Clock" 7 0 0 := ⟨R0, T0, 4, "BulletinOffice$Clock", rfl, hin0, by decide, Or.inl q_1_41, Or.inl rfl⟩
theorem q_1_72 : (Jvm.Cond.laysFinal "BulletinOffice$Sealer" "BulletinOffice$Sealer" "result" "[I") ∈ hv_ws := wm (wc_1 (List.mem_of_getElem? (i := 72) rfl)) rfl
theorem q_1_74 : (Jvm.Cond.laysFinal "BulletinOffice$Sealer" "BulletinOffice$Sealer" "codeKey" "[I") ∈ hv_ws := wm (wc_1 (List.mem_of_getElem? (i := 74) rfl)) rfl
theorem q_1_76 : (Jvm.Cond.laysFinal "BulletinOffice$Sealer" "BulletinOffice$Sealer" "row" "[I") ∈ hv_ws := wm (wc_1 (List.mem_of_getElem? (i := 76) rfl)) rfl
theorem q_1_78 : (Jvm.Cond.lays "BulletinOffice$Sealer" "BulletinOffice$Sealer" "length" "I") ∈ hv_ws := wm (wc_1 (List.mem_of_getElem? (i := 78) rfl)) rfl
theorem q_1_80 : (Jvm.Cond.laysFinal "BulletinOffice$Sealer" "BulletinOffice$Sealer" "words" "[I") ∈ hv_ws := wm (wc_1 (List.mem_of_getElem? (i := 80) rfl)) rfl
theorem hin1 : ∀ w ∈ u_ws R1 T1 5, w ∈ hv_ws := by
  intro w hw
  obtain ⟨k, hk, rfl⟩ := List.mem_map.mp hw
  have hk := List.mem_range.mp hk
  match k, hk with
  | 0, _ => exact q_1_72
  | 1, _ => exact q_1_74
  | 2, _ => exact q_1_76
  | 3, _ => exact q_1_78
  | 4, _ => exact q_1_80
  | n + 5, h => exact absurd h (by omega)
theorem q_1_69 : (Jvm.Cond.fieldLink "BulletinOffice$Sealer" (16 : Nat) "BulletinOffice$Sealer" "row" "[I") ∈ hv_ws := wm (wc_1 (List.mem_of_getElem? (i := 69) rfl)) rfl
theorem fa_Sl_16 : hv_fa "BulletinOffice$Sealer" 16 1 2 := ⟨R1, T1, 5, "BulletinOffice$Sealer", rfl, hin1, by decide, Or.inl q_1_69, Or.inl rfl⟩
theorem q_2_65 : (Jvm.Cond.code ({ cls := "java/util/Arrays", name := "fill", desc := "([II)V" } : Jvm.MethodName) prog_24_method_103_code (4 : Nat) (Option.none : Option Jvm.ClassFile.FieldType)) ∈ hv_ws := wm (wc_2 (List.mem_of_getElem? (i := 65) rfl)) rfl
theorem q_1_15 : (Jvm.Cond.initialized "java/util/Arrays") ∈ hv_ws := wm (wc_1 (List.mem_of_getElem? (i := 15) rfl)) rfl
theorem q_2_63 : (Jvm.Cond.methodLink "BulletinOffice$Sealer" (22 : Nat) ({ cls := "java/util/Arrays", name := "fill", desc := "([II)V" } : Jvm.MethodName)) ∈ hv_ws := wm (wc_2 (List.mem_of_getElem? (i := 63) rfl)) rfl
theorem cs_Sl_22 : hv_cs "BulletinOffice$Sealer" 22 y_Ar_fill b_Ar_fill 4 none 2 := ⟨q_2_65, q_1_15, ⟨by decide, by decide⟩, by decide +kernel, Or.inl q_2_63⟩
theorem q_2_64 : (Jvm.Cond.static ({ cls := "java/util/Arrays", name := "fill", desc := "([II)V" } : Jvm.MethodName)) ∈ hv_ws := wm (wc_2 (List.mem_of_getElem? (i := 64) rfl)) rfl
theorem q_1_70 : (Jvm.Cond.fieldLink "BulletinOffice$Sealer" (28 : Nat) "BulletinOffice$Sealer" "length" "I") ∈ hv_ws := wm (wc_1 (List.mem_of_getElem? (i := 70) rfl)) rfl
theorem fp_Sl_28 : hv_fp "BulletinOffice$Sealer" 28 1 3 (.int) false := ⟨R1, T1, 5, "BulletinOffice$Sealer", ty1, rfl, hin1, by decide, Or.inl q_1_70, Or.inl rfl, tk1, nm1, rfl, (fun h => by cases h), tk1 3 (by decide)⟩
theorem fa_Sl_28 : hv_fa "BulletinOffice$Sealer" 28 1 3 := ⟨R1, T1, 5, "BulletinOffice$Sealer", rfl, hin1, by decide, Or.inl q_1_70, Or.inl rfl⟩
theorem q_1_71 : (Jvm.Cond.fieldLink "BulletinOffice$Sealer" (19 : Nat) "BulletinOffice$Sealer" "words" "[I") ∈ hv_ws := wm (wc_1 (List.mem_of_getElem? (i := 71) rfl)) rfl
theorem fa_Sl_19 : hv_fa "BulletinOffice$Sealer" 19 1 4 := ⟨R1, T1, 5, "BulletinOffice$Sealer", rfl, hin1, by decide, Or.inl q_1_71, Or.inl rfl⟩
theorem q_2_76 : (Jvm.Cond.methodLink "BulletinOffice$Sealer" (39 : Nat) ({ cls := "java/lang/System", name := "arraycopy", desc := "(Ljava/lang/Object;ILjava/lang/Object;II)V" } : Jvm.MethodName)) ∈ hv_ws := wm (wc_2 (List.mem_of_getElem? (i := 76) rfl)) rfl
theorem q_2_78 : (Jvm.Cond.native ({ cls := "java/lang/System", name := "arraycopy", desc := "(Ljava/lang/Object;ILjava/lang/Object;II)V" } : Jvm.MethodName)) ∈ hv_ws := wm (wc_2 (List.mem_of_getElem? (i := 78) rfl)) rfl
theorem q_2_77 : (Jvm.Cond.static ({ cls := "java/lang/System", name := "arraycopy", desc := "(Ljava/lang/Object;ILjava/lang/Object;II)V" } : Jvm.MethodName)) ∈ hv_ws := wm (wc_2 (List.mem_of_getElem? (i := 77) rfl)) rfl
theorem q_1_16 : (Jvm.Cond.initialized "java/lang/System") ∈ hv_ws := wm (wc_1 (List.mem_of_getElem? (i := 16) rfl)) rfl
theorem q_1_63 : (Jvm.Cond.fieldLink "BulletinOffice$Sealer" (9 : Nat) "BulletinOffice$Sealer" "result" "[I") ∈ hv_ws := wm (wc_1 (List.mem_of_getElem? (i := 63) rfl)) rfl
theorem fa_Sl_9 : hv_fa "BulletinOffice$Sealer" 9 1 0 := ⟨R1, T1, 5, "BulletinOffice$Sealer", rfl, hin1, by decide, Or.inl q_1_63, Or.inl rfl⟩
theorem q_2_87 : (Jvm.Cond.fieldLink "BulletinOffice$Sealer" (63 : Nat) "BulletinOffice$Sealer" "CONSTANTS" "[I") ∈ hv_ws := wm (wc_2 (List.mem_of_getElem? (i := 87) rfl)) rfl
theorem q_2_62 : (Jvm.Cond.code ({ cls := "BulletinOffice$Sealer", name := "clear", desc := "()V" } : Jvm.MethodName) prog_6_method_2_code (1 : Nat) (Option.none : Option Jvm.ClassFile.FieldType)) ∈ hv_ws := wm (wc_2 (List.mem_of_getElem? (i := 62) rfl)) rfl
theorem q_1_4 : (Jvm.Cond.initialized "BulletinOffice$Sealer") ∈ hv_ws := wm (wc_1 (List.mem_of_getElem? (i := 4) rfl)) rfl
theorem q_2_59 : (Jvm.Cond.methodLink "BulletinOffice$Sealer" (60 : Nat) ({ cls := "BulletinOffice$Sealer", name := "clear", desc := "()V" } : Jvm.MethodName)) ∈ hv_ws := wm (wc_2 (List.mem_of_getElem? (i := 59) rfl)) rfl
theorem cs_Sl_60 : hv_cs "BulletinOffice$Sealer" 60 y_Sl_clear b_Sl_clear 1 none 0 := ⟨q_2_62, q_1_4, ⟨by decide, by decide⟩, by decide +kernel, Or.inl q_2_59⟩
theorem q_2_60 : (Jvm.Cond.instanceMethod ({ cls := "BulletinOffice$Sealer", name := "clear", desc := "()V" } : Jvm.MethodName)) ∈ hv_ws := wm (wc_2 (List.mem_of_getElem? (i := 60) rfl)) rfl
theorem q_2_61 : (Jvm.Cond.selects "BulletinOffice$Sealer" ({ cls := "BulletinOffice$Sealer", name := "clear", desc := "()V" } : Jvm.MethodName) ({ cls := "BulletinOffice$Sealer", name := "clear", desc := "()V" } : Jvm.MethodName)) ∈ hv_ws := wm (wc_2 (List.mem_of_getElem? (i := 61) rfl)) rfl
theorem q_2_69 : (Jvm.Cond.code ({ cls := "BulletinOffice$Sealer", name := "addByte", desc := "(I)V" } : Jvm.MethodName) prog_6_method_3_code (2 : Nat) (Option.none : Option Jvm.ClassFile.FieldType)) ∈ hv_ws := wm (wc_2 (List.mem_of_getElem? (i := 69) rfl)) rfl
theorem q_2_66 : (Jvm.Cond.methodLink "BulletinOffice$Sealer" (32 : Nat) ({ cls := "BulletinOffice$Sealer", name := "addByte", desc := "(I)V" } : Jvm.MethodName)) ∈ hv_ws := wm (wc_2 (List.mem_of_getElem? (i := 66) rfl)) rfl
theorem cs_Sl_32 : hv_cs "BulletinOffice$Sealer" 32 y_Sl_addByte b_Sl_addByte 2 none 1 := ⟨q_2_69, q_1_4, ⟨by decide, by decide⟩, by decide +kernel, Or.inl q_2_66⟩
theorem q_2_67 : (Jvm.Cond.instanceMethod ({ cls := "BulletinOffice$Sealer", name := "addByte", desc := "(I)V" } : Jvm.MethodName)) ∈ hv_ws := wm (wc_2 (List.mem_of_getElem? (i := 67) rfl)) rfl
theorem q_2_68 : (Jvm.Cond.selects "BulletinOffice$Sealer" ({ cls := "BulletinOffice$Sealer", name := "addByte", desc := "(I)V" } : Jvm.MethodName) ({ cls := "BulletinOffice$Sealer", name := "addByte", desc := "(I)V" } : Jvm.MethodName)) ∈ hv_ws := wm (wc_2 (List.mem_of_getElem? (i := 68) rfl)) rfl
theorem q_2_74 : (Jvm.Cond.fieldLink "BulletinOffice$Sealer" (36 : Nat) "BulletinOffice$Sealer" "START" "[I") ∈ hv_ws := wm (wc_2 (List.mem_of_getElem? (i := 74) rfl)) rfl
theorem q_2_82 : (Jvm.Cond.code ({ cls := "BulletinOffice$Sealer", name := "spreadBlock", desc := "(I)V" } : Jvm.MethodName) prog_6_method_7_code (7 : Nat) (Option.none : Option Jvm.ClassFile.FieldType)) ∈ hv_ws := wm (wc_2 (List.mem_of_getElem? (i := 82) rfl)) rfl
theorem q_2_79 : (Jvm.Cond.methodLink "BulletinOffice$Sealer" (45 : Nat) ({ cls := "BulletinOffice$Sealer", name := "spreadBlock", desc := "(I)V" } : Jvm.MethodName)) ∈ hv_ws := wm (wc_2 (List.mem_of_getElem? (i := 79) rfl)) rfl
theorem cs_Sl_45 : hv_cs "BulletinOffice$Sealer" 45 y_Sl_spreadBlock b_Sl_spreadBlock 7 none 1 := ⟨q_2_82, q_1_4, ⟨by decide, by decide⟩, by decide +kernel, Or.inl q_2_79⟩
theorem q_2_81 : (Jvm.Cond.instanceMethod ({ cls := "BulletinOffice$Sealer", name := "spreadBlock", desc := "(I)V" } : Jvm.MethodName)) ∈ hv_ws := wm (wc_2 (List.mem_of_getElem? (i := 81) rfl)) rfl
theorem qs_Sl_spreadBlock : Cond.selects y_Sl_spreadBlock.cls y_Sl_spreadBlock y_Sl_spreadBlock ∈ hv_ws := wp (q := (y_Sl_spreadBlock, 5)) (List.mem_append_left _ (List.mem_of_getElem? (i := 2) rfl)) rfl
theorem q_2_86 : (Jvm.Cond.code ({ cls := "BulletinOffice$Sealer", name := "mixBlock", desc := "()V" } : Jvm.MethodName) prog_6_method_8_code (12 : Nat) (Option.none : Option Jvm.ClassFile.FieldType)) ∈ hv_ws := wm (wc_2 (List.mem_of_getElem? (i := 86) rfl)) rfl
theorem q_2_83 : (Jvm.Cond.methodLink "BulletinOffice$Sealer" (48 : Nat) ({ cls := "BulletinOffice$Sealer", name := "mixBlock", desc := "()V" } : Jvm.MethodName)) ∈ hv_ws := wm (wc_2 (List.mem_of_getElem? (i := 83) rfl)) rfl
theorem cs_Sl_48 : hv_cs "BulletinOffice$Sealer" 48 y_Sl_mixBlock b_Sl_mixBlock 12 none 0 := ⟨q_2_86, q_1_4, ⟨by decide, by decide⟩, by decide +kernel, Or.inl q_2_83⟩
theorem q_2_85 : (Jvm.Cond.instanceMethod ({ cls := "BulletinOffice$Sealer", name := "mixBlock", desc := "()V" } : Jvm.MethodName)) ∈ hv_ws := wm (wc_2 (List.mem_of_getElem? (i := 85) rfl)) rfl
theorem qs_Sl_mixBlock : Cond.selects y_Sl_mixBlock.cls y_Sl_mixBlock y_Sl_mixBlock ∈ hv_ws := wp (q := (y_Sl_mixBlock, 5)) (List.mem_append_left _ (List.mem_of_getElem? (i := 3) rfl)) rfl
theorem q_2_54 : (Jvm.Cond.constant "BulletinOffice$Sealer" (51 : Nat) (909522486 : Int32)) ∈ hv_ws := wm (wc_2 (List.mem_of_getElem? (i := 54) rfl)) rfl
theorem q_2_58 : (Jvm.Cond.code ({ cls := "BulletinOffice$Sealer", name := "startWithKey", desc := "([IIII)V" } : Jvm.MethodName) prog_6_method_6_code (6 : Nat) (Option.none : Option Jvm.ClassFile.FieldType)) ∈ hv_ws := wm (wc_2 (List.mem_of_getElem? (i := 58) rfl)) rfl
theorem q_2_55 : (Jvm.Cond.methodLink "BulletinOffice$Sealer" (52 : Nat) ({ cls := "BulletinOffice$Sealer", name := "startWithKey", desc := "([IIII)V" } : Jvm.MethodName)) ∈ hv_ws := wm (wc_2 (List.mem_of_getElem? (i := 55) rfl)) rfl
theorem cs_Sl_52 : hv_cs "BulletinOffice$Sealer" 52 y_Sl_startWithKey b_Sl_startWithKey 6 none 4 := ⟨q_2_58, q_1_4, ⟨by decide, by decide⟩, by decide +kernel, Or.inl q_2_55⟩
theorem q_2_57 : (Jvm.Cond.instanceMethod ({ cls := "BulletinOffice$Sealer", name := "startWithKey", desc := "([IIII)V" } : Jvm.MethodName)) ∈ hv_ws := wm (wc_2 (List.mem_of_getElem? (i := 57) rfl)) rfl
theorem qs_Sl_startWithKey : Cond.selects y_Sl_startWithKey.cls y_Sl_startWithKey y_Sl_startWithKey ∈ hv_ws := wp (q := (y_Sl_startWithKey, 5)) (List.mem_append_left _ (List.mem_of_getElem? (i := 1) rfl)) rfl
theorem q_2_73 : (Jvm.Cond.code ({ cls := "BulletinOffice$Sealer", name := "finish", desc := "()V" } : Jvm.MethodName) prog_6_method_4_code (4 : Nat) (Option.none : Option Jvm.ClassFile.FieldType)) ∈ hv_ws := wm (wc_2 (List.mem_of_getElem? (i := 73) rfl)) rfl
theorem q_2_70 : (Jvm.Cond.methodLink "BulletinOffice$Sealer" (56 : Nat) ({ cls := "BulletinOffice$Sealer", name := "finish", desc := "()V" } : Jvm.MethodName)) ∈ hv_ws := wm (wc_2 (List.mem_of_getElem? (i := 70) rfl)) rfl
theorem cs_Sl_56 : hv_cs "BulletinOffice$Sealer" 56 y_Sl_finish b_Sl_finish 4 none 0 := ⟨q_2_73, q_1_4, ⟨by decide, by decide⟩, by decide +kernel, Or.inl q_2_70⟩
theorem q_2_71 : (Jvm.Cond.instanceMethod ({ cls := "BulletinOffice$Sealer", name := "finish", desc := "()V" } : Jvm.MethodName)) ∈ hv_ws := wm (wc_2 (List.mem_of_getElem? (i := 71) rfl)) rfl
theorem q_2_72 : (Jvm.Cond.selects "BulletinOffice$Sealer" ({ cls := "BulletinOffice$Sealer", name := "finish", desc := "()V" } : Jvm.MethodName) ({ cls := "BulletinOffice$Sealer", name := "finish", desc := "()V" } : Jvm.MethodName)) ∈ hv_ws := wm (wc_2 (List.mem_of_getElem? (i := 72) rfl)) rfl
theorem q_2_89 : (Jvm.Cond.constant "BulletinOffice$Sealer" (59 : Nat) (1549556828 : Int32)) ∈ hv_ws := wm (wc_2 (List.mem_of_getElem? (i := 89) rfl)) rfl
end
section
def f_Ck_intervalAt (G : ho_G) (N : Nat) (σ : ho_H) (a0 : Nat) (x1 : Int32) : Option (Int32) :=
  (ho_gI σ a0 0 1).bind fun v1 =>
  (ho_nz v1).bind fun _ =>
  some ((x1 / v1) + 1)
def f_Ck_canHaveShown_j32 (G : ho_G) (N : Nat) (σ : ho_H) (y0 : Int32) : Option (Int32) :=
  (ho_bz y0).bind fun _ => some y0
def f_Ck_canHaveShown (G : ho_G) (N : Nat) (σ : ho_H) (a0 : Nat) (x1 : Int32) (x2 : Int32) : Option (Int32) :=
  (ho_gI σ a0 0 3).bind fun v1 =>
  (ho_gI σ a0 0 2).bind fun v2 =>
  (ho_gI σ a0 0 0).bind fun v3 =>
  (ho_gI σ a0 0 1).bind fun v4 =>
  if ((v1 + x2) + v2) < (((x1 + v3) - 1) * v4) then
  f_Ck_canHaveShown_j32 G N σ 0
  else
  f_Ck_canHaveShown_j32 G N σ 1
def f_Of_byteOf (G : ho_G) (N : Nat) (σ : ho_H) (a0 : Nat) (x1 : Int32) : Option (Int32) :=
  (ho_ldI G σ a0 (x1 / 4)).bind fun v1 =>
  some ((ho_ur v1 (24 - (8 * (ho_rm x1 4)))) &&& 255)
def f_Of_wordAt (G : ho_G) (N : Nat) (σ : ho_H) (a0 : Nat) (x1 : Int32) : Option (Int32) :=
  (ho_ldI G σ a0 x1).bind fun v1 =>
  (ho_ldI G σ a0 (x1 + 1)).bind fun v2 =>
  (ho_ldI G σ a0 (x1 + 2)).bind fun v3 =>
  (ho_ldI G σ a0 (x1 + 3)).bind fun v4 =>
  some ((((ho_sl v1 24) ||| (ho_sl v2 16)) ||| (ho_sl v3 8)) ||| v4)
def f_Of_chainOf (G : ho_G) (N : Nat) (σ : ho_H) (x0 : Int32) : Option (Int32) :=
  some ((x0 - 1) / 64)
def f_Of_numberInChain (G : ho_G) (N : Nat) (σ : ho_H) (x0 : Int32) : Option (Int32) :=
  some ((ho_rm (x0 - 1) 64) + 1)
def f_Mt_floorMod_j18 (G : ho_G) (N : Nat) (σ : ho_H) (x2 : Int32) : Option (Int32) :=
  some x2
def f_Mt_floorMod (G : ho_G) (N : Nat) (σ : ho_H) (x0 : Int32) (x1 : Int32) : Option (Int32) :=
  (ho_nz x1).bind fun _ =>
  if 0 ≤ (x0 ^^^ x1) then
  f_Mt_floorMod_j18 G N σ (ho_rm x0 x1)
  else
  if (ho_rm x0 x1) = 0 then
  f_Mt_floorMod_j18 G N σ (ho_rm x0 x1)
  else
  some ((ho_rm x0 x1) + x1)
def f_Ar_fill_l5 (G : ho_G) (N : Nat) (a0 : Nat) (x1 : Int32) (x3 : Int32) : ho_H × Int32 → Option ((ho_H × Int32) ⊕ (ho_H)) := fun (σ, x2) =>
  if x3 ≤ x2 then
  some (.inr σ)
  else
  (ho_stI G σ a0 x2 x1).bind fun σ2 =>
  some (.inl (σ2, x2 + 1))
def f_Ar_fill (G : ho_G) (N : Nat) (σ : ho_H) (a0 : Nat) (x1 : Int32) : Option (ho_H) :=
  (ho_lnI G σ a0).bind fun v1 =>
  (ho_it (f_Ar_fill_l5 G N a0 x1 v1) N (σ, 0)).bind fun σ3 =>
  some σ3
def f_Sl_clear (G : ho_G) (N : Nat) (σ : ho_H) (a0 : Nat) : Option (ho_H) :=
  (ho_gR σ a0 1 2).bind fun b1 =>
  (ho_cv σ (f_Ar_fill G N σ b1 0)).bind fun σ2 =>
  (ho_p σ2 a0 1 3 (.int 0)).bind fun σ3 =>
  some σ3
def f_Sl_addByte_j47 (G : ho_G) (N : Nat) (σ : ho_H)  : Option (ho_H) :=
  some σ
def f_Sl_addByte (G : ho_G) (N : Nat) (σ : ho_H) (a0 : Nat) (x1 : Int32) : Option (ho_H) :=
  (ho_gI σ a0 1 3).bind fun v1 =>
  if 120 ≤ v1 then
  f_Sl_addByte_j47 G N σ 
  else
  (ho_gR σ a0 1 2).bind fun b2 =>
  (ho_gI σ a0 1 3).bind fun v3 =>
  (ho_ldI G σ b2 (v3 / 4)).bind fun v4 =>
  (ho_gI σ a0 1 3).bind fun v5 =>
  (ho_stI G σ b2 (v3 / 4) (v4 ||| (ho_sl x1 (24 - (8 * (ho_rm v5 4)))))).bind fun σ6 =>
  (ho_gI σ6 a0 1 3).bind fun v7 =>
  (ho_p σ6 a0 1 3 (.int (v7 + 1))).bind fun σ8 =>
  f_Sl_addByte_j47 G N σ8 
def f_Sl_spreadBlock_l18 (G : ho_G) (N : Nat) (a0 : Nat) : ho_H × Int32 → Option ((ho_H × Int32) ⊕ (ho_H)) := fun (σ, x2) =>
  if 64 ≤ x2 then
  some (.inr σ)
  else
  (ho_gR σ a0 1 4).bind fun b4 =>
  (ho_ldI G σ b4 (x2 - 15)).bind fun v5 =>
  (ho_gR σ a0 1 4).bind fun b6 =>
  (ho_ldI G σ b6 (x2 - 2)).bind fun v7 =>
  (some ((((ho_ur v5 7) ||| (ho_sl v5 25)) ^^^ ((ho_ur v5 18) ||| (ho_sl v5 14))) ^^^ (ho_ur v5 3))).bind fun v8 =>
  (some ((((ho_ur v7 17) ||| (ho_sl v7 15)) ^^^ ((ho_ur v7 19) ||| (ho_sl v7 13))) ^^^ (ho_ur v7 10))).bind fun v9 =>
  (ho_gR σ a0 1 4).bind fun b10 =>
  (ho_gR σ a0 1 4).bind fun b11 =>
  (ho_ldI G σ b11 (x2 - 16)).bind fun v12 =>
  (ho_gR σ a0 1 4).bind fun b13 =>
  (ho_ldI G σ b13 (x2 - 7)).bind fun v14 =>
  (ho_stI G σ b10 x2 (((v12 + v14) + v8) + v9)).bind fun σ15 =>
  some (.inl (σ15, x2 + 1))
def f_Sl_spreadBlock (G : ho_G) (N : Nat) (σ : ho_H) (a0 : Nat) (x1 : Int32) : Option (ho_H) :=
  (ho_gR σ a0 1 2).bind fun b1 =>
  (ho_gR σ a0 1 4).bind fun b2 =>
  (ho_cpI G σ b1 x1 b2 0 16).bind fun σ3 =>
  (ho_it (f_Sl_spreadBlock_l18 G N a0) N (σ3, 16)).bind fun σ16 =>
  some σ16
def f_Sl_mixBlock_l66 (G : ho_G) (N : Nat) (σ : ho_H) (a0 : Nat) : Int32 × Int32 × Int32 × Int32 × Int32 × Int32 × Int32 × Int32 × Int32 → Option ((Int32 × Int32 × Int32 × Int32 × Int32 × Int32 × Int32 × Int32 × Int32) ⊕ (Int32 × Int32 × Int32 × Int32 × Int32 × Int32 × Int32 × Int32)) := fun (x1, x2, x3, x4, x5, x6, x7, x8, x9) =>
  if 64 ≤ x9 then
  some (.inr (x1, x2, x3, x4, x5, x6, x7, x8))
  else
  (ho_ldI G σ (gA G 1) x9).bind fun v17 =>
  (ho_gR σ a0 1 4).bind fun b18 =>
  (ho_ldI G σ b18 x9).bind fun v19 =>
  (some ((((x8 + ((((ho_ur x5 6) ||| (ho_sl x5 26)) ^^^ ((ho_ur x5 11) ||| (ho_sl x5 21))) ^^^ ((ho_ur x5 25) ||| (ho_sl x5 7)))) + ((x5 &&& x6) ||| ((x5 ^^^ (-1)) &&& x7))) + v17) + v19)).bind fun v20 =>
  (some (((((ho_ur x1 2) ||| (ho_sl x1 30)) ^^^ ((ho_ur x1 13) ||| (ho_sl x1 19))) ^^^ ((ho_ur x1 22) ||| (ho_sl x1 10))) + (((x1 &&& x2) ^^^ (x1 &&& x3)) ^^^ (x2 &&& x3)))).bind fun v21 =>
  some (.inl (v20 + v21, x1, x2, x3, x4 + v20, x5, x6, x7, x9 + 1))
def f_Sl_mixBlock (G : ho_G) (N : Nat) (σ : ho_H) (a0 : Nat) : Option (ho_H) :=
  (ho_gR σ a0 1 0).bind fun b1 =>
  (ho_ldI G σ b1 0).bind fun v2 =>
  (ho_gR σ a0 1 0).bind fun b3 =>
  (ho_ldI G σ b3 1).bind fun v4 =>
  (ho_gR σ a0 1 0).bind fun b5 =>
  (ho_ldI G σ b5 2).bind fun v6 =>
  (ho_gR σ a0 1 0).bind fun b7 =>
  (ho_ldI G σ b7 3).bind fun v8 =>
  (ho_gR σ a0 1 0).bind fun b9 =>
  (ho_ldI G σ b9 4).bind fun v10 =>
  (ho_gR σ a0 1 0).bind fun b11 =>
  (ho_ldI G σ b11 5).bind fun v12 =>
  (ho_gR σ a0 1 0).bind fun b13 =>
  (ho_ldI G σ b13 6).bind fun v14 =>
  (ho_gR σ a0 1 0).bind fun b15 =>
  (ho_ldI G σ b15 7).bind fun v16 =>
  (ho_it (f_Sl_mixBlock_l66 G N σ a0) N (v2, v4, v6, v8, v10, v12, v14, v16, 0)).bind fun (x22, x23, x24, x25, x26, x27, x28, x29) =>
  (ho_gR σ a0 1 0).bind fun b30 =>
  (ho_ldI G σ b30 0).bind fun v31 =>
  (ho_stI G σ b30 0 (v31 + x22)).bind fun σ32 =>
  (ho_gR σ32 a0 1 0).bind fun b33 =>
  (ho_ldI G σ32 b33 1).bind fun v34 =>
  (ho_stI G σ32 b33 1 (v34 + x23)).bind fun σ35 =>
  (ho_gR σ35 a0 1 0).bind fun b36 =>
  (ho_ldI G σ35 b36 2).bind fun v37 =>
  (ho_stI G σ35 b36 2 (v37 + x24)).bind fun σ38 =>
  (ho_gR σ38 a0 1 0).bind fun b39 =>
  (ho_ldI G σ38 b39 3).bind fun v40 =>
  (ho_stI G σ38 b39 3 (v40 + x25)).bind fun σ41 =>
  (ho_gR σ41 a0 1 0).bind fun b42 =>
  (ho_ldI G σ41 b42 4).bind fun v43 =>
  (ho_stI G σ41 b42 4 (v43 + x26)).bind fun σ44 =>
  (ho_gR σ44 a0 1 0).bind fun b45 =>
  (ho_ldI G σ44 b45 5).bind fun v46 =>
  (ho_stI G σ44 b45 5 (v46 + x27)).bind fun σ47 =>
  (ho_gR σ47 a0 1 0).bind fun b48 =>
  (ho_ldI G σ47 b48 6).bind fun v49 =>
  (ho_stI G σ47 b48 6 (v49 + x28)).bind fun σ50 =>
  (ho_gR σ50 a0 1 0).bind fun b51 =>
  (ho_ldI G σ50 b51 7).bind fun v52 =>
  (ho_stI G σ50 b51 7 (v52 + x29)).bind fun σ53 =>
  some σ53
def f_Sl_startWithKey_j36_in7 (G : ho_G) (N : Nat) (σ : ho_H) (a0 : Nat) (a1 : Nat) (x2 : Int32) (x3 : Int32) (x4 : Int32) (x5 : Int32) (y0 : Int32) (y1 : Int32) (c2 : Nat) : Option ((ho_H × Int32) ⊕ (ho_H)) :=
  (ho_stI G σ c2 y1 (y0 ^^^ x4)).bind fun σ4 =>
  some (.inl (σ4, x5 + 1))
def f_Sl_startWithKey_l7 (G : ho_G) (N : Nat) (a0 : Nat) (a1 : Nat) (x2 : Int32) (x3 : Int32) (x4 : Int32) : ho_H × Int32 → Option ((ho_H × Int32) ⊕ (ho_H)) := fun (σ, x5) =>
  if 16 ≤ x5 then
  some (.inr σ)
  else
  (ho_gR σ a0 1 2).bind fun b3 =>
  if x3 ≤ x5 then
  f_Sl_startWithKey_j36_in7 G N σ a0 a1 x2 x3 x4 x5 0 x5 b3
  else
  (ho_ldI G σ a1 (x2 + x5)).bind fun v5 =>
  f_Sl_startWithKey_j36_in7 G N σ a0 a1 x2 x3 x4 x5 v5 x5 b3
def f_Sl_startWithKey (G : ho_G) (N : Nat) (σ : ho_H) (a0 : Nat) (a1 : Nat) (x2 : Int32) (x3 : Int32) (x4 : Int32) : Option (ho_H) :=
  (ho_f σ a0 1).bind fun _ =>
  (ho_cv σ (f_Sl_clear G N σ a0)).bind fun σ2 =>
  (ho_it (f_Sl_startWithKey_l7 G N a0 a1 x2 x3 x4) N (σ2, 0)).bind fun σ6 =>
  (ho_p σ6 a0 1 3 (.int 64)).bind fun σ7 =>
  some σ7
def f_Sl_finish_l59 (G : ho_G) (N : Nat) (a0 : Nat) (x2 : Int32) : ho_H × Int32 → Option ((ho_H × Int32) ⊕ (ho_H)) := fun (σ, x3) =>
  if x2 ≤ x3 then
  some (.inr σ)
  else
  (ho_f σ a0 1).bind fun _ =>
  (ho_cv σ (f_Sl_spreadBlock G N σ a0 (x3 * 16))).bind fun σ10 =>
  (ho_f σ10 a0 1).bind fun _ =>
  (ho_cv σ10 (f_Sl_mixBlock G N σ10 a0)).bind fun σ12 =>
  some (.inl (σ12, x3 + 1))
def f_Sl_finish (G : ho_G) (N : Nat) (σ : ho_H) (a0 : Nat) : Option (ho_H) :=
  (ho_gI σ a0 1 3).bind fun v1 =>
  (ho_f σ a0 1).bind fun _ =>
  (ho_cv σ (f_Sl_addByte G N σ a0 128)).bind fun σ3 =>
  (ho_gI σ3 a0 1 3).bind fun v4 =>
  (ho_gR σ3 a0 1 2).bind fun b5 =>
  (ho_stI G σ3 b5 ((((((v4 + 8) + 64) - 1) / 64) * 16) - 1) (8 * v1)).bind fun σ6 =>
  (ho_gR σ6 a0 1 0).bind fun b7 =>
  (ho_cpI G σ6 (gA G 0) 0 b7 0 8).bind fun σ8 =>
  (ho_it (f_Sl_finish_l59 G N a0 ((((v4 + 8) + 64) - 1) / 64)) N (σ8, 0)).bind fun σ13 =>
  some σ13
def f_Sl_seal_l12 (G : ho_G) (N : Nat) (a0 : Nat) (a1 : Nat) (x2 : Int32) (x3 : Int32) (a4 : Nat) (x5 : Int32) : ho_H × Int32 → Option ((ho_H × Int32) ⊕ (ho_H)) := fun (σ, x6) =>
  if x5 ≤ x6 then
  some (.inr σ)
  else
  (ho_ldI G σ a4 x6).bind fun v3 =>
  (ho_f σ a0 1).bind fun _ =>
  (ho_cv σ (f_Sl_addByte G N σ a0 v3)).bind fun σ5 =>
  some (.inl (σ5, x6 + 1))
def f_Sl_seal (G : ho_G) (N : Nat) (σ : ho_H) (a0 : Nat) (a1 : Nat) (x2 : Int32) (x3 : Int32) (a4 : Nat) (x5 : Int32) : Option (ho_H) :=
  (ho_f σ a0 1).bind fun _ =>
  (ho_cv σ (f_Sl_startWithKey G N σ a0 a1 x2 x3 909522486)).bind fun σ2 =>
  (ho_it (f_Sl_seal_l12 G N a0 a1 x2 x3 a4 x5) N (σ2, 0)).bind fun σ6 =>
  (ho_f σ6 a0 1).bind fun _ =>
  (ho_cv σ6 (f_Sl_finish G N σ6 a0)).bind fun σ8 =>
  (ho_f σ8 a0 1).bind fun _ =>
  (ho_cv σ8 (f_Sl_startWithKey G N σ8 a0 a1 x2 x3 1549556828)).bind fun σ10 =>
  (ho_gR σ10 a0 1 0).bind fun b11 =>
  (ho_gR σ10 a0 1 2).bind fun b12 =>
  (ho_cpI G σ10 b11 0 b12 16 8).bind fun σ13 =>
  (ho_gI σ13 a0 1 3).bind fun v14 =>
  (ho_p σ13 a0 1 3 (.int (v14 + 32))).bind fun σ15 =>
  (ho_f σ15 a0 1).bind fun _ =>
  (ho_cv σ15 (f_Sl_finish G N σ15 a0)).bind fun σ17 =>
  some σ17
end
section
set_option maxHeartbeats 4000000 in
set_option maxRecDepth 100000 in
theorem c_Ck_intervalAt (l : Launch) (G : ho_G) (N : Nat) (σ : ho_H) (a0 : Nat) (x1 : Int32) (r : Int32) (hf : f_Ck_intervalAt G N σ a0 x1 = some r) : hv_C l G y_Ck_intervalAt (Cond.code y_Ck_intervalAt b_Ck_intervalAt 2 (some (.int)) :: hv_ws) 0 0 [.ref a0, .int x1] σ σ (some (.int r)) := by
  refine hv_met [some (.ref a0), some (.int x1)] (plainFor_of_name (by decide +kernel)) (by intro v hv; simp at hv; rcases hv with rfl | rfl <;> rfl) (Nat.le_of_ble_eq_true rfl) rfl ?_
  intro k X hkl hkG E
  subst hkl
  subst hkG
  unfold f_Ck_intervalAt at hf
  refine hv_iload_n (pn := 1) X d_Ck_intervalAt_0 ?_
  refine hv_aload_n (pn := 2) X d_Ck_intervalAt_1 ?_
  obtain ⟨v1, hv1, hf⟩ := bd_E hf
  refine hv_getI (pn := 5) X d_Ck_intervalAt_2 fa_Ck_13 hv1 ?_
  obtain ⟨_, hz, hf⟩ := bd_E hf
  refine hv_idiv (pn := 6) X d_Ck_intervalAt_5 (ho_nz_E hz) ?_
  refine hv_iconst (pn := 7) (v := 1) X d_Ck_intervalAt_6 ?_
  refine hv_iadd (pn := 8) X d_Ck_intervalAt_7 ?_
  cases hf
  exact hv_iret X d_Ck_intervalAt_8 E
set_option maxHeartbeats 4000000 in
set_option maxRecDepth 100000 in
theorem w_Ck_canHaveShown_j32 {k : mk_T} (X : hv_X k b_Ck_canHaveShown y_Ck_canHaveShown.cls 3 0 0 (some (.boolean)) y_Ck_canHaveShown.name) (N : Nat) (σ : ho_H) (y0 : Int32)  (r : Int32) (hf : f_Ck_canHaveShown_j32 k.2.1 N σ y0 = some r) (E : hv_end k σ (some (.int r))) : hv_V k σ 32 [none, none, none] [.int y0] := by
  unfold f_Ck_canHaveShown_j32 at hf
  obtain ⟨_, hz, hf⟩ := bd_E hf
  cases hf
  exact hv_zret X d_Ck_canHaveShown_32 (ho_bz_E hz) E
set_option maxHeartbeats 4000000 in
set_option maxRecDepth 100000 in
theorem c_Ck_canHaveShown (l : Launch) (G : ho_G) (N : Nat) (σ : ho_H) (a0 : Nat) (x1 : Int32) (x2 : Int32) (r : Int32) (hf : f_Ck_canHaveShown G N σ a0 x1 x2 = some r) : hv_C l G y_Ck_canHaveShown (Cond.code y_Ck_canHaveShown b_Ck_canHaveShown 3 (some (.boolean)) :: hv_ws) 0 0 [.ref a0, .int x1, .int x2] σ σ (some (.int r)) := by
  refine hv_met [some (.ref a0), some (.int x1), some (.int x2)] (plainFor_of_name (by decide +kernel)) (by intro v hv; simp at hv; rcases hv with rfl | rfl | rfl <;> rfl) (Nat.le_of_ble_eq_true rfl) rfl ?_
  intro k X hkl hkG E
  subst hkl
  subst hkG
  unfold f_Ck_canHaveShown at hf
  refine hv_aload_n (pn := 1) X d_Ck_canHaveShown_0 ?_
  obtain ⟨v1, hv1, hf⟩ := bd_E hf
  refine hv_getI (pn := 4) X d_Ck_canHaveShown_1 fa_Ck_19 hv1 ?_
  refine hv_iload_n (pn := 5) X d_Ck_canHaveShown_4 ?_
  refine hv_iadd (pn := 6) X d_Ck_canHaveShown_5 ?_
  refine hv_aload_n (pn := 7) X d_Ck_canHaveShown_6 ?_
  obtain ⟨v2, hv2, hf⟩ := bd_E hf
  refine hv_getI (pn := 10) X d_Ck_canHaveShown_7 fa_Ck_16 hv2 ?_
  refine hv_iadd (pn := 11) X d_Ck_canHaveShown_10 ?_
  refine hv_iload_n (pn := 12) X d_Ck_canHaveShown_11 ?_
  refine hv_aload_n (pn := 13) X d_Ck_canHaveShown_12 ?_
  obtain ⟨v3, hv3, hf⟩ := bd_E hf
  refine hv_getI (pn := 16) X d_Ck_canHaveShown_13 fa_Ck_7 hv3 ?_
  refine hv_iadd (pn := 17) X d_Ck_canHaveShown_16 ?_
  refine hv_iconst (pn := 18) (v := 1) X d_Ck_canHaveShown_17 ?_
  refine hv_isub (pn := 19) X d_Ck_canHaveShown_18 ?_
  refine hv_aload_n (pn := 20) X d_Ck_canHaveShown_19 ?_
  obtain ⟨v4, hv4, hf⟩ := bd_E hf
  refine hv_getI (pn := 23) X d_Ck_canHaveShown_20 fa_Ck_13 hv4 ?_
  refine hv_imul (pn := 24) X d_Ck_canHaveShown_23 ?_
  refine hv_icmp_lt (pn := 27) (tgt := 31) X d_Ck_canHaveShown_24 (by decide) (fun hc => ?_) (fun hc => ?_)
  · rw [if_pos hc] at hf
    refine hv_iconst (pn := 32) (v := 0) X d_Ck_canHaveShown_31 ?_
    refine hv_drop (i := 0) (lo' := [none, some (.int x1), some (.int x2)]) ?_
    refine hv_drop (i := 1) (lo' := [none, none, some (.int x2)]) ?_
    refine hv_drop (i := 2) (lo' := [none, none, none]) ?_
    exact w_Ck_canHaveShown_j32 X N σ 0  _ hf E
  · rw [if_neg hc] at hf
    refine hv_iconst (pn := 28) (v := 1) X d_Ck_canHaveShown_27 ?_
    refine hv_goto (tgt := 32) X d_Ck_canHaveShown_28 (by decide) ?_
    refine hv_drop (i := 0) (lo' := [none, some (.int x1), some (.int x2)]) ?_
    refine hv_drop (i := 1) (lo' := [none, none, some (.int x2)]) ?_
    refine hv_drop (i := 2) (lo' := [none, none, none]) ?_
    exact w_Ck_canHaveShown_j32 X N σ 1  _ hf E
set_option maxHeartbeats 4000000 in
set_option maxRecDepth 100000 in
theorem c_Of_byteOf (l : Launch) (G : ho_G) (N : Nat) (σ : ho_H) (a0 : Nat) (x1 : Int32) (r : Int32) (hf : f_Of_byteOf G N σ a0 x1 = some r) : hv_C l G y_Of_byteOf (Cond.code y_Of_byteOf b_Of_byteOf 2 (some (.int)) :: hv_ws) 0 0 [.ref a0, .int x1] σ σ (some (.int r)) := by
  refine hv_met [some (.ref a0), some (.int x1)] (plainFor_of_name (by decide +kernel)) (by intro v hv; simp at hv; rcases hv with rfl | rfl <;> rfl) (Nat.le_of_ble_eq_true rfl) rfl ?_
  intro k X hkl hkG E
  subst hkl
  subst hkG
  unfold f_Of_byteOf at hf
  refine hv_aload_n (pn := 1) X d_Of_byteOf_0 ?_
  refine hv_iload_n (pn := 2) X d_Of_byteOf_1 ?_
  refine hv_iconst (pn := 3) (v := 4) X d_Of_byteOf_2 ?_
  refine hv_idiv (pn := 4) X d_Of_byteOf_3 (by decide) ?_
  obtain ⟨v1, hv1, hf⟩ := bd_E hf
  refine hv_iald (pn := 5) X d_Of_byteOf_4 hv1 ?_
  refine hv_bipush (pn := 7) (v := 24) X d_Of_byteOf_5 ?_
  refine hv_bipush (pn := 9) (v := 8) X d_Of_byteOf_7 ?_
  refine hv_iload_n (pn := 10) X d_Of_byteOf_9 ?_
  refine hv_iconst (pn := 11) (v := 4) X d_Of_byteOf_10 ?_
  refine hv_irem (pn := 12) X d_Of_byteOf_11 (by decide) ?_
  refine hv_imul (pn := 13) X d_Of_byteOf_12 ?_
  refine hv_isub (pn := 14) X d_Of_byteOf_13 ?_
  refine hv_iushr (pn := 15) X d_Of_byteOf_14 ?_
  refine hv_sipush (pn := 18) (v := 255) X d_Of_byteOf_15 ?_
  refine hv_iand (pn := 19) X d_Of_byteOf_18 ?_
  cases hf
  exact hv_iret X d_Of_byteOf_19 E
set_option maxHeartbeats 4000000 in
set_option maxRecDepth 100000 in
theorem c_Of_wordAt (l : Launch) (G : ho_G) (N : Nat) (σ : ho_H) (a0 : Nat) (x1 : Int32) (r : Int32) (hf : f_Of_wordAt G N σ a0 x1 = some r) : hv_C l G y_Of_wordAt (Cond.code y_Of_wordAt b_Of_wordAt 2 (some (.int)) :: hv_ws) 0 0 [.ref a0, .int x1] σ σ (some (.int r)) := by
  refine hv_met [some (.ref a0), some (.int x1)] (plainFor_of_name (by decide +kernel)) (by intro v hv; simp at hv; rcases hv with rfl | rfl <;> rfl) (Nat.le_of_ble_eq_true rfl) rfl ?_
  intro k X hkl hkG E
  subst hkl
  subst hkG
  unfold f_Of_wordAt at hf
  refine hv_aload_n (pn := 1) X d_Of_wordAt_0 ?_
  refine hv_iload_n (pn := 2) X d_Of_wordAt_1 ?_
  obtain ⟨v1, hv1, hf⟩ := bd_E hf
  refine hv_iald (pn := 3) X d_Of_wordAt_2 hv1 ?_
  refine hv_bipush (pn := 5) (v := 24) X d_Of_wordAt_3 ?_
  refine hv_ishl (pn := 6) X d_Of_wordAt_5 ?_
  refine hv_aload_n (pn := 7) X d_Of_wordAt_6 ?_
  refine hv_iload_n (pn := 8) X d_Of_wordAt_7 ?_
  refine hv_iconst (pn := 9) (v := 1) X d_Of_wordAt_8 ?_
  refine hv_iadd (pn := 10) X d_Of_wordAt_9 ?_
  obtain ⟨v2, hv2, hf⟩ := bd_E hf
  refine hv_iald (pn := 11) X d_Of_wordAt_10 hv2 ?_
  refine hv_bipush (pn := 13) (v := 16) X d_Of_wordAt_11 ?_
  refine hv_ishl (pn := 14) X d_Of_wordAt_13 ?_
  refine hv_ior (pn := 15) X d_Of_wordAt_14 ?_
  refine hv_aload_n (pn := 16) X d_Of_wordAt_15 ?_
  refine hv_iload_n (pn := 17) X d_Of_wordAt_16 ?_
  refine hv_iconst (pn := 18) (v := 2) X d_Of_wordAt_17 ?_
  refine hv_iadd (pn := 19) X d_Of_wordAt_18 ?_
  obtain ⟨v3, hv3, hf⟩ := bd_E hf
  refine hv_iald (pn := 20) X d_Of_wordAt_19 hv3 ?_
  refine hv_bipush (pn := 22) (v := 8) X d_Of_wordAt_20 ?_
  refine hv_ishl (pn := 23) X d_Of_wordAt_22 ?_
  refine hv_ior (pn := 24) X d_Of_wordAt_23 ?_
  refine hv_aload_n (pn := 25) X d_Of_wordAt_24 ?_
  refine hv_iload_n (pn := 26) X d_Of_wordAt_25 ?_
  refine hv_iconst (pn := 27) (v := 3) X d_Of_wordAt_26 ?_
  refine hv_iadd (pn := 28) X d_Of_wordAt_27 ?_
  obtain ⟨v4, hv4, hf⟩ := bd_E hf
  refine hv_iald (pn := 29) X d_Of_wordAt_28 hv4 ?_
  refine hv_ior (pn := 30) X d_Of_wordAt_29 ?_
  cases hf
  exact hv_iret X d_Of_wordAt_30 E
set_option maxHeartbeats 4000000 in
set_option maxRecDepth 100000 in
theorem c_Of_chainOf (l : Launch) (G : ho_G) (N : Nat) (σ : ho_H) (x0 : Int32) (r : Int32) (hf : f_Of_chainOf G N σ x0 = some r) : hv_C l G y_Of_chainOf (Cond.code y_Of_chainOf b_Of_chainOf 1 (some (.int)) :: hv_ws) 0 0 [.int x0] σ σ (some (.int r)) := by
  refine hv_met [some (.int x0)] (plainFor_of_name (by decide +kernel)) (by intro v hv; simp at hv; rcases hv with rfl <;> rfl) (Nat.le_of_ble_eq_true rfl) rfl ?_
  intro k X hkl hkG E
  subst hkl
  subst hkG
  unfold f_Of_chainOf at hf
  refine hv_iload_n (pn := 1) X d_Of_chainOf_0 ?_
  refine hv_iconst (pn := 2) (v := 1) X d_Of_chainOf_1 ?_
  refine hv_isub (pn := 3) X d_Of_chainOf_2 ?_
  refine hv_bipush (pn := 5) (v := 64) X d_Of_chainOf_3 ?_
  refine hv_idiv (pn := 6) X d_Of_chainOf_5 (by decide) ?_
  cases hf
  exact hv_iret X d_Of_chainOf_6 E
set_option maxHeartbeats 4000000 in
set_option maxRecDepth 100000 in
theorem c_Of_numberInChain (l : Launch) (G : ho_G) (N : Nat) (σ : ho_H) (x0 : Int32) (r : Int32) (hf : f_Of_numberInChain G N σ x0 = some r) : hv_C l G y_Of_numberInChain (Cond.code y_Of_numberInChain b_Of_numberInChain 1 (some (.int)) :: hv_ws) 0 0 [.int x0] σ σ (some (.int r)) := by
  refine hv_met [some (.int x0)] (plainFor_of_name (by decide +kernel)) (by intro v hv; simp at hv; rcases hv with rfl <;> rfl) (Nat.le_of_ble_eq_true rfl) rfl ?_
  intro k X hkl hkG E
  subst hkl
  subst hkG
  unfold f_Of_numberInChain at hf
  refine hv_iload_n (pn := 1) X d_Of_numberInChain_0 ?_
  refine hv_iconst (pn := 2) (v := 1) X d_Of_numberInChain_1 ?_
  refine hv_isub (pn := 3) X d_Of_numberInChain_2 ?_
  refine hv_bipush (pn := 5) (v := 64) X d_Of_numberInChain_3 ?_
  refine hv_irem (pn := 6) X d_Of_numberInChain_5 (by decide) ?_
  refine hv_iconst (pn := 7) (v := 1) X d_Of_numberInChain_6 ?_
  refine hv_iadd (pn := 8) X d_Of_numberInChain_7 ?_
  cases hf
  exact hv_iret X d_Of_numberInChain_8 E
set_option maxHeartbeats 4000000 in
set_option maxRecDepth 100000 in
theorem w_Mt_floorMod_j18 {k : mk_T} (X : hv_X k b_Mt_floorMod y_Mt_floorMod.cls 3 0 0 (some (.int)) y_Mt_floorMod.name) (N : Nat) (σ : ho_H) (x2 : Int32)  (r : Int32) (hf : f_Mt_floorMod_j18 k.2.1 N σ x2 = some r) (E : hv_end k σ (some (.int r))) : hv_V k σ 18 [none, none, some (.int x2)] [] := by
  unfold f_Mt_floorMod_j18 at hf
  refine hv_iload_n (pn := 19) X d_Mt_floorMod_18 ?_
  cases hf
  exact hv_iret X d_Mt_floorMod_19 E
set_option maxHeartbeats 4000000 in
set_option maxRecDepth 100000 in
theorem c_Mt_floorMod (l : Launch) (G : ho_G) (N : Nat) (σ : ho_H) (x0 : Int32) (x1 : Int32) (r : Int32) (hf : f_Mt_floorMod G N σ x0 x1 = some r) : hv_C l G y_Mt_floorMod (Cond.code y_Mt_floorMod b_Mt_floorMod 3 (some (.int)) :: hv_ws) 0 0 [.int x0, .int x1] σ σ (some (.int r)) := by
  refine hv_met [some (.int x0), some (.int x1), none] (by decide +kernel) (by intro v hv; simp at hv; rcases hv with rfl | rfl <;> rfl) (Nat.le_of_ble_eq_true rfl) rfl ?_
  intro k X hkl hkG E
  subst hkl
  subst hkG
  unfold f_Mt_floorMod at hf
  refine hv_iload_n (pn := 1) X d_Mt_floorMod_0 ?_
  refine hv_iload_n (pn := 2) X d_Mt_floorMod_1 ?_
  obtain ⟨_, hz, hf⟩ := bd_E hf
  refine hv_irem (pn := 3) X d_Mt_floorMod_2 (ho_nz_E hz) ?_
  refine hv_istore_n (pn := 4) (i := 2) (lo' := [some (.int x0), some (.int x1), some (.int (ho_rm x0 x1))]) X d_Mt_floorMod_3 ?_
  refine hv_iload_n (pn := 5) X d_Mt_floorMod_4 ?_
  refine hv_iload_n (pn := 6) X d_Mt_floorMod_5 ?_
  refine hv_ixor (pn := 7) X d_Mt_floorMod_6 ?_
  refine hv_if_ge (pn := 10) (tgt := 18) X d_Mt_floorMod_7 (by decide) (fun hc => ?_) (fun hc => ?_)
  · rw [if_pos hc] at hf
    refine hv_drop (i := 0) (lo' := [none, some (.int x1), some (.int (ho_rm x0 x1))]) ?_
    refine hv_drop (i := 1) (lo' := [none, none, some (.int (ho_rm x0 x1))]) ?_
    exact w_Mt_floorMod_j18 X N σ (ho_rm x0 x1)  _ hf E
  · rw [if_neg hc] at hf
    refine hv_iload_n (pn := 11) X d_Mt_floorMod_10 ?_
    refine hv_if_eq (pn := 14) (tgt := 18) X d_Mt_floorMod_11 (by decide) (fun hc => ?_) (fun hc => ?_)
    · rw [if_pos hc] at hf
      refine hv_drop (i := 0) (lo' := [none, some (.int x1), some (.int (ho_rm x0 x1))]) ?_
      refine hv_drop (i := 1) (lo' := [none, none, some (.int (ho_rm x0 x1))]) ?_
      exact w_Mt_floorMod_j18 X N σ (ho_rm x0 x1)  _ hf E
    · rw [if_neg hc] at hf
      refine hv_iload_n (pn := 15) X d_Mt_floorMod_14 ?_
      refine hv_iload_n (pn := 16) X d_Mt_floorMod_15 ?_
      refine hv_iadd (pn := 17) X d_Mt_floorMod_16 ?_
      cases hf
      exact hv_iret X d_Mt_floorMod_17 E
set_option maxHeartbeats 4000000 in
set_option maxRecDepth 100000 in
theorem w_Ar_fill_l5 {k : mk_T} (X : hv_X k b_Ar_fill y_Ar_fill.cls 4 0 0 none y_Ar_fill.name) (N : Nat) (a0 : Nat) (x1 : Int32) (x3 : Int32) (σ : ho_H) (x2 : Int32) (r : (ho_H × Int32) ⊕ (ho_H)) (hf : f_Ar_fill_l5 k.2.1 N a0 x1 x3 (σ, x2) = some r) (E : sm (fun s => hv_V k s.1 5 [some (.ref a0), some (.int x1), some (.int s.2), some (.int x3)] []) (fun s => hv_V k s 20 [none, none, none, none] []) r) : hv_V k σ 5 [some (.ref a0), some (.int x1), some (.int x2), some (.int x3)] [] := by
  unfold f_Ar_fill_l5 at hf
  try dsimp only at hf
  refine hv_iload_n (pn := 6) X d_Ar_fill_5 ?_
  refine hv_iload_n (pn := 7) X d_Ar_fill_6 ?_
  refine hv_icmp_ge (pn := 10) (tgt := 20) X d_Ar_fill_7 (by decide) (fun hc => ?_) (fun hc => ?_)
  · rw [if_pos hc] at hf
    refine hv_drop (i := 0) (lo' := [none, some (.int x1), some (.int x2), some (.int x3)]) ?_
    refine hv_drop (i := 1) (lo' := [none, none, some (.int x2), some (.int x3)]) ?_
    refine hv_drop (i := 2) (lo' := [none, none, none, some (.int x3)]) ?_
    refine hv_drop (i := 3) (lo' := [none, none, none, none]) ?_
    cases hf
    exact E
  · rw [if_neg hc] at hf
    refine hv_aload_n (pn := 11) X d_Ar_fill_10 ?_
    refine hv_iload_n (pn := 12) X d_Ar_fill_11 ?_
    refine hv_iload_n (pn := 13) X d_Ar_fill_12 ?_
    obtain ⟨σ2, hσ2, hf⟩ := bd_E hf
    refine hv_iast (pn := 14) X d_Ar_fill_13 hσ2 ?_
    refine hv_iinc (pn := 17) (i := 2) (v := x2 + 1) (lo' := [some (.ref a0), some (.int x1), some (.int (x2 + 1)), some (.int x3)]) X d_Ar_fill_14 ?_
    refine hv_goto (tgt := 5) X d_Ar_fill_17 (by decide) ?_
    cases hf
    exact E
set_option maxHeartbeats 4000000 in
set_option maxRecDepth 100000 in
theorem c_Ar_fill (l : Launch) (G : ho_G) (N : Nat) (σ : ho_H) (a0 : Nat) (x1 : Int32) (σ' : ho_H) (hf : f_Ar_fill G N σ a0 x1 = some σ') : hv_C l G y_Ar_fill (Cond.code y_Ar_fill b_Ar_fill 4 none :: hv_ws) 0 0 [.ref a0, .int x1] σ σ' (none) := by
  refine hv_met [some (.ref a0), some (.int x1), none, none] (plainFor_of_name (by decide +kernel)) (by intro v hv; simp at hv; rcases hv with rfl | rfl <;> rfl) (Nat.le_of_ble_eq_true rfl) rfl ?_
  intro k X hkl hkG E
  subst hkl
  subst hkG
  unfold f_Ar_fill at hf
  refine hv_iconst (pn := 1) (v := 0) X d_Ar_fill_0 ?_
  refine hv_istore_n (pn := 2) (i := 2) (lo' := [some (.ref a0), some (.int x1), some (.int 0), none]) X d_Ar_fill_1 ?_
  refine hv_aload_n (pn := 3) X d_Ar_fill_2 ?_
  obtain ⟨v1, hv1, hf⟩ := bd_E hf
  refine hv_alenI (pn := 4) X d_Ar_fill_3 hv1 ?_
  refine hv_istore_n (pn := 5) (i := 3) (lo' := [some (.ref a0), some (.int x1), some (.int 0), some (.int v1)]) X d_Ar_fill_4 ?_
  obtain ⟨σ3, he5, hf⟩ := bd_E hf
  refine hv_loop (P := fun s => hv_V k s.1 5 [some (.ref a0), some (.int x1), some (.int s.2), some (.int v1)] []) (Z := fun s => hv_V k s 20 [none, none, none, none] []) (fun s r h1 h2 => by obtain ⟨σ, x2⟩ := s; exact w_Ar_fill_l5 X N a0 x1 v1 σ x2 r h1 h2) N (σ, 0) _ he5 ?_
  try dsimp only at hf ⊢
  cases hf
  exact hv_vret X d_Ar_fill_20 E
set_option maxHeartbeats 4000000 in
set_option maxRecDepth 100000 in
theorem c_Sl_clear (l : Launch) (G : ho_G) (N : Nat) (σ : ho_H) (a0 : Nat) (σ' : ho_H) (hf : f_Sl_clear G N σ a0 = some σ') : hv_C l G y_Sl_clear (Cond.code y_Sl_clear b_Sl_clear 1 none :: hv_ws) 1 23 [.ref a0] σ σ' (none) := by
  refine hv_met [some (.ref a0)] (plainFor_of_name (by decide +kernel)) (by intro v hv; simp at hv; rcases hv with rfl <;> rfl) (Nat.le_of_ble_eq_true rfl) rfl ?_
  intro k X hkl hkG E
  subst hkl
  subst hkG
  unfold f_Sl_clear at hf
  refine hv_aload_n (pn := 1) X d_Sl_clear_0 ?_
  obtain ⟨b1, hb1, hf⟩ := bd_E hf
  refine hv_getR (pn := 4) X d_Sl_clear_1 fa_Sl_16 hb1 ?_
  refine hv_iconst (pn := 5) (v := 0) X d_Sl_clear_4 ?_
  obtain ⟨σ2, hσ2, hf⟩ := bd_E hf
  obtain ⟨hσ2, mσ2⟩ := ho_cv_E hσ2
  refine hv_callS (pn := 8) X d_Sl_clear_5 (c_Ar_fill _ _ N σ b1 0 _ hσ2) cs_Sl_22 q_2_64 (by decide) (by decide) mσ2 (Nat.le_of_ble_eq_true rfl) ?_
  refine hv_aload_n (pn := 9) X d_Sl_clear_8 ?_
  refine hv_iconst (pn := 10) (v := 0) X d_Sl_clear_9 ?_
  obtain ⟨σ3, hσ3, hf⟩ := bd_E hf
  refine hv_put (pn := 13) X d_Sl_clear_10 fp_Sl_28 hσ3 ?_
  cases hf
  exact hv_vret X d_Sl_clear_13 E
set_option maxHeartbeats 4000000 in
set_option maxRecDepth 100000 in
theorem w_Sl_addByte_j47 {k : mk_T} (X : hv_X k b_Sl_addByte y_Sl_addByte.cls 2 0 0 none y_Sl_addByte.name) (N : Nat) (σ : ho_H)   (r : ho_H) (hf : f_Sl_addByte_j47 k.2.1 N σ  = some r) (E : hv_end k r none) : hv_V k σ 47 [none, none] [] := by
  unfold f_Sl_addByte_j47 at hf
  cases hf
  exact hv_vret X d_Sl_addByte_47 E
set_option maxHeartbeats 4000000 in
set_option maxRecDepth 100000 in
theorem c_Sl_addByte (l : Launch) (G : ho_G) (N : Nat) (σ : ho_H) (a0 : Nat) (x1 : Int32) (σ' : ho_H) (hf : f_Sl_addByte G N σ a0 x1 = some σ') : hv_C l G y_Sl_addByte (Cond.code y_Sl_addByte b_Sl_addByte 2 none :: hv_ws) 0 0 [.ref a0, .int x1] σ σ' (none) := by
  refine hv_met [some (.ref a0), some (.int x1)] (plainFor_of_name (by decide +kernel)) (by intro v hv; simp at hv; rcases hv with rfl | rfl <;> rfl) (Nat.le_of_ble_eq_true rfl) rfl ?_
  intro k X hkl hkG E
  subst hkl
  subst hkG
  unfold f_Sl_addByte at hf
  refine hv_aload_n (pn := 1) X d_Sl_addByte_0 ?_
  obtain ⟨v1, hv1, hf⟩ := bd_E hf
  refine hv_getI (pn := 4) X d_Sl_addByte_1 fa_Sl_28 hv1 ?_
  refine hv_bipush (pn := 6) (v := 120) X d_Sl_addByte_4 ?_
  refine hv_icmp_ge (pn := 9) (tgt := 47) X d_Sl_addByte_6 (by decide) (fun hc => ?_) (fun hc => ?_)
  · rw [if_pos hc] at hf
    refine hv_drop (i := 0) (lo' := [none, some (.int x1)]) ?_
    refine hv_drop (i := 1) (lo' := [none, none]) ?_
    exact w_Sl_addByte_j47 X N σ   _ hf E
  · rw [if_neg hc] at hf
    refine hv_aload_n (pn := 10) X d_Sl_addByte_9 ?_
    obtain ⟨b2, hb2, hf⟩ := bd_E hf
    refine hv_getR (pn := 13) X d_Sl_addByte_10 fa_Sl_16 hb2 ?_
    refine hv_aload_n (pn := 14) X d_Sl_addByte_13 ?_
    obtain ⟨v3, hv3, hf⟩ := bd_E hf
    refine hv_getI (pn := 17) X d_Sl_addByte_14 fa_Sl_28 hv3 ?_
    refine hv_iconst (pn := 18) (v := 4) X d_Sl_addByte_17 ?_
    refine hv_idiv (pn := 19) X d_Sl_addByte_18 (by decide) ?_
    refine hv_dup2 (pn := 20) X d_Sl_addByte_19 rfl rfl ?_
    obtain ⟨v4, hv4, hf⟩ := bd_E hf
    refine hv_iald (pn := 21) X d_Sl_addByte_20 hv4 ?_
    refine hv_iload_n (pn := 22) X d_Sl_addByte_21 ?_
    refine hv_bipush (pn := 24) (v := 24) X d_Sl_addByte_22 ?_
    refine hv_bipush (pn := 26) (v := 8) X d_Sl_addByte_24 ?_
    refine hv_aload_n (pn := 27) X d_Sl_addByte_26 ?_
    obtain ⟨v5, hv5, hf⟩ := bd_E hf
    refine hv_getI (pn := 30) X d_Sl_addByte_27 fa_Sl_28 hv5 ?_
    refine hv_iconst (pn := 31) (v := 4) X d_Sl_addByte_30 ?_
    refine hv_irem (pn := 32) X d_Sl_addByte_31 (by decide) ?_
    refine hv_imul (pn := 33) X d_Sl_addByte_32 ?_
    refine hv_isub (pn := 34) X d_Sl_addByte_33 ?_
    refine hv_ishl (pn := 35) X d_Sl_addByte_34 ?_
    refine hv_ior (pn := 36) X d_Sl_addByte_35 ?_
    obtain ⟨σ6, hσ6, hf⟩ := bd_E hf
    refine hv_iast (pn := 37) X d_Sl_addByte_36 hσ6 ?_
    refine hv_aload_n (pn := 38) X d_Sl_addByte_37 ?_
    refine hv_dup (pn := 39) X d_Sl_addByte_38 rfl ?_
    obtain ⟨v7, hv7, hf⟩ := bd_E hf
    refine hv_getI (pn := 42) X d_Sl_addByte_39 fa_Sl_28 hv7 ?_
    refine hv_iconst (pn := 43) (v := 1) X d_Sl_addByte_42 ?_
    refine hv_iadd (pn := 44) X d_Sl_addByte_43 ?_
    obtain ⟨σ8, hσ8, hf⟩ := bd_E hf
    refine hv_put (pn := 47) X d_Sl_addByte_44 fp_Sl_28 hσ8 ?_
    refine hv_drop (i := 0) (lo' := [none, some (.int x1)]) ?_
    refine hv_drop (i := 1) (lo' := [none, none]) ?_
    exact w_Sl_addByte_j47 X N σ8   _ hf E
set_option maxHeartbeats 4000000 in
set_option maxRecDepth 100000 in
theorem w_Sl_spreadBlock_l18 {k : mk_T} (X : hv_X k b_Sl_spreadBlock y_Sl_spreadBlock.cls 7 1 60 none y_Sl_spreadBlock.name) (N : Nat) (a0 : Nat) (σ : ho_H) (x2 : Int32) (r : (ho_H × Int32) ⊕ (ho_H)) (hf : f_Sl_spreadBlock_l18 k.2.1 N a0 (σ, x2) = some r) (E : sm (fun s => hv_V k s.1 18 [some (.ref a0), none, some (.int s.2), none, none, none, none] []) (fun s => hv_V k s 137 [none, none, none, none, none, none, none] []) r) : hv_V k σ 18 [some (.ref a0), none, some (.int x2), none, none, none, none] [] := by
  unfold f_Sl_spreadBlock_l18 at hf
  try dsimp only at hf
  refine hv_iload_n (pn := 19) X d_Sl_spreadBlock_18 ?_
  refine hv_bipush (pn := 21) (v := 64) X d_Sl_spreadBlock_19 ?_
  refine hv_icmp_ge (pn := 24) (tgt := 137) X d_Sl_spreadBlock_21 (by decide) (fun hc => ?_) (fun hc => ?_)
  · rw [if_pos hc] at hf
    refine hv_drop (i := 0) (lo' := [none, none, some (.int x2), none, none, none, none]) ?_
    refine hv_drop (i := 2) (lo' := [none, none, none, none, none, none, none]) ?_
    cases hf
    exact E
  · rw [if_neg hc] at hf
    refine hv_aload_n (pn := 25) X d_Sl_spreadBlock_24 ?_
    obtain ⟨b4, hb4, hf⟩ := bd_E hf
    refine hv_getR (pn := 28) X d_Sl_spreadBlock_25 fa_Sl_19 hb4 ?_
    refine hv_iload_n (pn := 29) X d_Sl_spreadBlock_28 ?_
    refine hv_bipush (pn := 31) (v := 15) X d_Sl_spreadBlock_29 ?_
    refine hv_isub (pn := 32) X d_Sl_spreadBlock_31 ?_
    obtain ⟨v5, hv5, hf⟩ := bd_E hf
    refine hv_iald (pn := 33) X d_Sl_spreadBlock_32 hv5 ?_
    refine hv_istore_n (pn := 34) (i := 3) (lo' := [some (.ref a0), none, some (.int x2), some (.int v5), none, none, none]) X d_Sl_spreadBlock_33 ?_
    refine hv_aload_n (pn := 35) X d_Sl_spreadBlock_34 ?_
    obtain ⟨b6, hb6, hf⟩ := bd_E hf
    refine hv_getR (pn := 38) X d_Sl_spreadBlock_35 fa_Sl_19 hb6 ?_
    refine hv_iload_n (pn := 39) X d_Sl_spreadBlock_38 ?_
    refine hv_iconst (pn := 40) (v := 2) X d_Sl_spreadBlock_39 ?_
    refine hv_isub (pn := 41) X d_Sl_spreadBlock_40 ?_
    obtain ⟨v7, hv7, hf⟩ := bd_E hf
    refine hv_iald (pn := 42) X d_Sl_spreadBlock_41 hv7 ?_
    refine hv_istore (pn := 44) (i := 4) (lo' := [some (.ref a0), none, some (.int x2), some (.int v5), some (.int v7), none, none]) X d_Sl_spreadBlock_42 ?_
    refine hv_iload_n (pn := 45) X d_Sl_spreadBlock_44 ?_
    refine hv_bipush (pn := 47) (v := 7) X d_Sl_spreadBlock_45 ?_
    refine hv_iushr (pn := 48) X d_Sl_spreadBlock_47 ?_
    refine hv_iload_n (pn := 49) X d_Sl_spreadBlock_48 ?_
    refine hv_bipush (pn := 51) (v := 25) X d_Sl_spreadBlock_49 ?_
    refine hv_ishl (pn := 52) X d_Sl_spreadBlock_51 ?_
    refine hv_ior (pn := 53) X d_Sl_spreadBlock_52 ?_
    refine hv_iload_n (pn := 54) X d_Sl_spreadBlock_53 ?_
    refine hv_bipush (pn := 56) (v := 18) X d_Sl_spreadBlock_54 ?_
    refine hv_iushr (pn := 57) X d_Sl_spreadBlock_56 ?_
    refine hv_iload_n (pn := 58) X d_Sl_spreadBlock_57 ?_
    refine hv_bipush (pn := 60) (v := 14) X d_Sl_spreadBlock_58 ?_
    refine hv_ishl (pn := 61) X d_Sl_spreadBlock_60 ?_
    refine hv_ior (pn := 62) X d_Sl_spreadBlock_61 ?_
    refine hv_ixor (pn := 63) X d_Sl_spreadBlock_62 ?_
    refine hv_iload_n (pn := 64) X d_Sl_spreadBlock_63 ?_
    refine hv_iconst (pn := 65) (v := 3) X d_Sl_spreadBlock_64 ?_
    refine hv_iushr (pn := 66) X d_Sl_spreadBlock_65 ?_
    refine hv_ixor (pn := 67) X d_Sl_spreadBlock_66 ?_
    obtain ⟨v8, hv8, hf⟩ := nm_E hf
    refine hv_topi hv8 ?_
    refine hv_istore (pn := 69) (i := 5) (lo' := [some (.ref a0), none, some (.int x2), some (.int v5), some (.int v7), some (.int v8), none]) X d_Sl_spreadBlock_67 ?_
    refine hv_iload (pn := 71) X d_Sl_spreadBlock_69 ?_
    refine hv_bipush (pn := 73) (v := 17) X d_Sl_spreadBlock_71 ?_
    refine hv_iushr (pn := 74) X d_Sl_spreadBlock_73 ?_
    refine hv_iload (pn := 76) X d_Sl_spreadBlock_74 ?_
    refine hv_bipush (pn := 78) (v := 15) X d_Sl_spreadBlock_76 ?_
    refine hv_ishl (pn := 79) X d_Sl_spreadBlock_78 ?_
    refine hv_ior (pn := 80) X d_Sl_spreadBlock_79 ?_
    refine hv_iload (pn := 82) X d_Sl_spreadBlock_80 ?_
    refine hv_bipush (pn := 84) (v := 19) X d_Sl_spreadBlock_82 ?_
    refine hv_iushr (pn := 85) X d_Sl_spreadBlock_84 ?_
    refine hv_iload (pn := 87) X d_Sl_spreadBlock_85 ?_
    refine hv_bipush (pn := 89) (v := 13) X d_Sl_spreadBlock_87 ?_
    refine hv_ishl (pn := 90) X d_Sl_spreadBlock_89 ?_
    refine hv_ior (pn := 91) X d_Sl_spreadBlock_90 ?_
    refine hv_ixor (pn := 92) X d_Sl_spreadBlock_91 ?_
    refine hv_iload (pn := 94) X d_Sl_spreadBlock_92 ?_
    refine hv_bipush (pn := 96) (v := 10) X d_Sl_spreadBlock_94 ?_
    refine hv_iushr (pn := 97) X d_Sl_spreadBlock_96 ?_
    refine hv_ixor (pn := 98) X d_Sl_spreadBlock_97 ?_
    obtain ⟨v9, hv9, hf⟩ := nm_E hf
    refine hv_topi hv9 ?_
    refine hv_istore (pn := 100) (i := 6) (lo' := [some (.ref a0), none, some (.int x2), some (.int v5), some (.int v7), some (.int v8), some (.int v9)]) X d_Sl_spreadBlock_98 ?_
    refine hv_aload_n (pn := 101) X d_Sl_spreadBlock_100 ?_
    obtain ⟨b10, hb10, hf⟩ := bd_E hf
    refine hv_getR (pn := 104) X d_Sl_spreadBlock_101 fa_Sl_19 hb10 ?_
    refine hv_iload_n (pn := 105) X d_Sl_spreadBlock_104 ?_
    refine hv_aload_n (pn := 106) X d_Sl_spreadBlock_105 ?_
    obtain ⟨b11, hb11, hf⟩ := bd_E hf
    refine hv_getR (pn := 109) X d_Sl_spreadBlock_106 fa_Sl_19 hb11 ?_
    refine hv_iload_n (pn := 110) X d_Sl_spreadBlock_109 ?_
    refine hv_bipush (pn := 112) (v := 16) X d_Sl_spreadBlock_110 ?_
    refine hv_isub (pn := 113) X d_Sl_spreadBlock_112 ?_
    obtain ⟨v12, hv12, hf⟩ := bd_E hf
    refine hv_iald (pn := 114) X d_Sl_spreadBlock_113 hv12 ?_
    refine hv_aload_n (pn := 115) X d_Sl_spreadBlock_114 ?_
    obtain ⟨b13, hb13, hf⟩ := bd_E hf
    refine hv_getR (pn := 118) X d_Sl_spreadBlock_115 fa_Sl_19 hb13 ?_
    refine hv_iload_n (pn := 119) X d_Sl_spreadBlock_118 ?_
    refine hv_bipush (pn := 121) (v := 7) X d_Sl_spreadBlock_119 ?_
    refine hv_isub (pn := 122) X d_Sl_spreadBlock_121 ?_
    obtain ⟨v14, hv14, hf⟩ := bd_E hf
    refine hv_iald (pn := 123) X d_Sl_spreadBlock_122 hv14 ?_
    refine hv_iadd (pn := 124) X d_Sl_spreadBlock_123 ?_
    refine hv_iload (pn := 126) X d_Sl_spreadBlock_124 ?_
    refine hv_iadd (pn := 127) X d_Sl_spreadBlock_126 ?_
    refine hv_iload (pn := 129) X d_Sl_spreadBlock_127 ?_
    refine hv_iadd (pn := 130) X d_Sl_spreadBlock_129 ?_
    obtain ⟨σ15, hσ15, hf⟩ := bd_E hf
    refine hv_iast (pn := 131) X d_Sl_spreadBlock_130 hσ15 ?_
    refine hv_iinc (pn := 134) (i := 2) (v := x2 + 1) (lo' := [some (.ref a0), none, some (.int (x2 + 1)), some (.int v5), some (.int v7), some (.int v8), some (.int v9)]) X d_Sl_spreadBlock_131 ?_
    refine hv_goto (tgt := 18) X d_Sl_spreadBlock_134 (by decide) ?_
    refine hv_drop (i := 3) (lo' := [some (.ref a0), none, some (.int (x2 + 1)), none, some (.int v7), some (.int v8), some (.int v9)]) ?_
    refine hv_drop (i := 4) (lo' := [some (.ref a0), none, some (.int (x2 + 1)), none, none, some (.int v8), some (.int v9)]) ?_
    refine hv_drop (i := 5) (lo' := [some (.ref a0), none, some (.int (x2 + 1)), none, none, none, some (.int v9)]) ?_
    refine hv_drop (i := 6) (lo' := [some (.ref a0), none, some (.int (x2 + 1)), none, none, none, none]) ?_
    cases hf
    exact E
set_option maxHeartbeats 4000000 in
set_option maxRecDepth 100000 in
theorem c_Sl_spreadBlock (l : Launch) (G : ho_G) (N : Nat) (σ : ho_H) (a0 : Nat) (x1 : Int32) (σ' : ho_H) (hf : f_Sl_spreadBlock G N σ a0 x1 = some σ') : hv_C l G y_Sl_spreadBlock (Cond.code y_Sl_spreadBlock b_Sl_spreadBlock 7 none :: hv_ws) 1 60 [.ref a0, .int x1] σ σ' (none) := by
  refine hv_met [some (.ref a0), some (.int x1), none, none, none, none, none] (plainFor_of_name (by decide +kernel)) (by intro v hv; simp at hv; rcases hv with rfl | rfl <;> rfl) (Nat.le_of_ble_eq_true rfl) rfl ?_
  intro k X hkl hkG E
  subst hkl
  subst hkG
  unfold f_Sl_spreadBlock at hf
  refine hv_aload_n (pn := 1) X d_Sl_spreadBlock_0 ?_
  obtain ⟨b1, hb1, hf⟩ := bd_E hf
  refine hv_getR (pn := 4) X d_Sl_spreadBlock_1 fa_Sl_16 hb1 ?_
  refine hv_iload_n (pn := 5) X d_Sl_spreadBlock_4 ?_
  refine hv_aload_n (pn := 6) X d_Sl_spreadBlock_5 ?_
  obtain ⟨b2, hb2, hf⟩ := bd_E hf
  refine hv_getR (pn := 9) X d_Sl_spreadBlock_6 fa_Sl_19 hb2 ?_
  refine hv_iconst (pn := 10) (v := 0) X d_Sl_spreadBlock_9 ?_
  refine hv_bipush (pn := 12) (v := 16) X d_Sl_spreadBlock_10 ?_
  obtain ⟨σ3, hσ3, hf⟩ := bd_E hf
  refine hv_cpI (pn := 15) X d_Sl_spreadBlock_12 q_2_76 q_2_78 q_2_77 q_1_16 hσ3 (by decide) (by decide +kernel) (Nat.le_of_ble_eq_true rfl) ?_
  refine hv_bipush (pn := 17) (v := 16) X d_Sl_spreadBlock_15 ?_
  refine hv_istore_n (pn := 18) (i := 2) (lo' := [some (.ref a0), some (.int x1), some (.int 16), none, none, none, none]) X d_Sl_spreadBlock_17 ?_
  refine hv_drop (i := 1) (lo' := [some (.ref a0), none, some (.int 16), none, none, none, none]) ?_
  obtain ⟨σ16, he18, hf⟩ := bd_E hf
  refine hv_loop (P := fun s => hv_V k s.1 18 [some (.ref a0), none, some (.int s.2), none, none, none, none] []) (Z := fun s => hv_V k s 137 [none, none, none, none, none, none, none] []) (fun s r h1 h2 => by obtain ⟨σ, x2⟩ := s; exact w_Sl_spreadBlock_l18 X N a0 σ x2 r h1 h2) N (σ3, 16) _ he18 ?_
  try dsimp only at hf ⊢
  cases hf
  exact hv_vret X d_Sl_spreadBlock_137 E
set_option maxHeartbeats 4000000 in
set_option maxRecDepth 100000 in
theorem w_Sl_mixBlock_l66 {k : mk_T} (X : hv_X k b_Sl_mixBlock y_Sl_mixBlock.cls 12 0 0 none y_Sl_mixBlock.name) (N : Nat) (σ : ho_H) (a0 : Nat) (x1 : Int32) (x2 : Int32) (x3 : Int32) (x4 : Int32) (x5 : Int32) (x6 : Int32) (x7 : Int32) (x8 : Int32) (x9 : Int32) (r : (Int32 × Int32 × Int32 × Int32 × Int32 × Int32 × Int32 × Int32 × Int32) ⊕ (Int32 × Int32 × Int32 × Int32 × Int32 × Int32 × Int32 × Int32)) (hf : f_Sl_mixBlock_l66 k.2.1 N σ a0 (x1, x2, x3, x4, x5, x6, x7, x8, x9) = some r) (E : sm (fun s => hv_V k σ 66 [some (.ref a0), some (.int s.1), some (.int s.2.1), some (.int s.2.2.1), some (.int s.2.2.2.1), some (.int s.2.2.2.2.1), some (.int s.2.2.2.2.2.1), some (.int s.2.2.2.2.2.2.1), some (.int s.2.2.2.2.2.2.2.1), some (.int s.2.2.2.2.2.2.2.2), none, none] []) (fun s => hv_V k σ 222 [some (.ref a0), some (.int s.1), some (.int s.2.1), some (.int s.2.2.1), some (.int s.2.2.2.1), some (.int s.2.2.2.2.1), some (.int s.2.2.2.2.2.1), some (.int s.2.2.2.2.2.2.1), some (.int s.2.2.2.2.2.2.2), none, none, none] []) r) : hv_V k σ 66 [some (.ref a0), some (.int x1), some (.int x2), some (.int x3), some (.int x4), some (.int x5), some (.int x6), some (.int x7), some (.int x8), some (.int x9), none, none] [] := by
  unfold f_Sl_mixBlock_l66 at hf
  try dsimp only at hf
  refine hv_iload (pn := 68) X d_Sl_mixBlock_66 ?_
  refine hv_bipush (pn := 70) (v := 64) X d_Sl_mixBlock_68 ?_
  refine hv_icmp_ge (pn := 73) (tgt := 222) X d_Sl_mixBlock_70 (by decide) (fun hc => ?_) (fun hc => ?_)
  · rw [if_pos hc] at hf
    refine hv_drop (i := 9) (lo' := [some (.ref a0), some (.int x1), some (.int x2), some (.int x3), some (.int x4), some (.int x5), some (.int x6), some (.int x7), some (.int x8), none, none, none]) ?_
    cases hf
    exact E
  · rw [if_neg hc] at hf
    refine hv_iload (pn := 75) X d_Sl_mixBlock_73 ?_
    refine hv_iload (pn := 77) X d_Sl_mixBlock_75 ?_
    refine hv_bipush (pn := 79) (v := 6) X d_Sl_mixBlock_77 ?_
    refine hv_iushr (pn := 80) X d_Sl_mixBlock_79 ?_
    refine hv_iload (pn := 82) X d_Sl_mixBlock_80 ?_
    refine hv_bipush (pn := 84) (v := 26) X d_Sl_mixBlock_82 ?_
    refine hv_ishl (pn := 85) X d_Sl_mixBlock_84 ?_
    refine hv_ior (pn := 86) X d_Sl_mixBlock_85 ?_
    refine hv_iload (pn := 88) X d_Sl_mixBlock_86 ?_
    refine hv_bipush (pn := 90) (v := 11) X d_Sl_mixBlock_88 ?_
    refine hv_iushr (pn := 91) X d_Sl_mixBlock_90 ?_
    refine hv_iload (pn := 93) X d_Sl_mixBlock_91 ?_
    refine hv_bipush (pn := 95) (v := 21) X d_Sl_mixBlock_93 ?_
    refine hv_ishl (pn := 96) X d_Sl_mixBlock_95 ?_
    refine hv_ior (pn := 97) X d_Sl_mixBlock_96 ?_
    refine hv_ixor (pn := 98) X d_Sl_mixBlock_97 ?_
    refine hv_iload (pn := 100) X d_Sl_mixBlock_98 ?_
    refine hv_bipush (pn := 102) (v := 25) X d_Sl_mixBlock_100 ?_
    refine hv_iushr (pn := 103) X d_Sl_mixBlock_102 ?_
    refine hv_iload (pn := 105) X d_Sl_mixBlock_103 ?_
    refine hv_bipush (pn := 107) (v := 7) X d_Sl_mixBlock_105 ?_
    refine hv_ishl (pn := 108) X d_Sl_mixBlock_107 ?_
    refine hv_ior (pn := 109) X d_Sl_mixBlock_108 ?_
    refine hv_ixor (pn := 110) X d_Sl_mixBlock_109 ?_
    refine hv_iadd (pn := 111) X d_Sl_mixBlock_110 ?_
    refine hv_iload (pn := 113) X d_Sl_mixBlock_111 ?_
    refine hv_iload (pn := 115) X d_Sl_mixBlock_113 ?_
    refine hv_iand (pn := 116) X d_Sl_mixBlock_115 ?_
    refine hv_iload (pn := 118) X d_Sl_mixBlock_116 ?_
    refine hv_iconst (pn := 119) (v := (-1)) X d_Sl_mixBlock_118 ?_
    refine hv_ixor (pn := 120) X d_Sl_mixBlock_119 ?_
    refine hv_iload (pn := 122) X d_Sl_mixBlock_120 ?_
    refine hv_iand (pn := 123) X d_Sl_mixBlock_122 ?_
    refine hv_ior (pn := 124) X d_Sl_mixBlock_123 ?_
    refine hv_iadd (pn := 125) X d_Sl_mixBlock_124 ?_
    refine hv_gets (pn := 128) X d_Sl_mixBlock_125 (i := 1) rfl q_2_87 (Or.inl rfl) ?_
    refine hv_iload (pn := 130) X d_Sl_mixBlock_128 ?_
    obtain ⟨v17, hv17, hf⟩ := bd_E hf
    refine hv_iald (pn := 131) X d_Sl_mixBlock_130 hv17 ?_
    refine hv_iadd (pn := 132) X d_Sl_mixBlock_131 ?_
    refine hv_aload_n (pn := 133) X d_Sl_mixBlock_132 ?_
    obtain ⟨b18, hb18, hf⟩ := bd_E hf
    refine hv_getR (pn := 136) X d_Sl_mixBlock_133 fa_Sl_19 hb18 ?_
    refine hv_iload (pn := 138) X d_Sl_mixBlock_136 ?_
    obtain ⟨v19, hv19, hf⟩ := bd_E hf
    refine hv_iald (pn := 139) X d_Sl_mixBlock_138 hv19 ?_
    refine hv_iadd (pn := 140) X d_Sl_mixBlock_139 ?_
    obtain ⟨v20, hv20, hf⟩ := nm_E hf
    refine hv_topi hv20 ?_
    refine hv_istore (pn := 142) (i := 10) (lo' := [some (.ref a0), some (.int x1), some (.int x2), some (.int x3), some (.int x4), some (.int x5), some (.int x6), some (.int x7), some (.int x8), some (.int x9), some (.int v20), none]) X d_Sl_mixBlock_140 ?_
    refine hv_iload_n (pn := 143) X d_Sl_mixBlock_142 ?_
    refine hv_iconst (pn := 144) (v := 2) X d_Sl_mixBlock_143 ?_
    refine hv_iushr (pn := 145) X d_Sl_mixBlock_144 ?_
    refine hv_iload_n (pn := 146) X d_Sl_mixBlock_145 ?_
    refine hv_bipush (pn := 148) (v := 30) X d_Sl_mixBlock_146 ?_
    refine hv_ishl (pn := 149) X d_Sl_mixBlock_148 ?_
    refine hv_ior (pn := 150) X d_Sl_mixBlock_149 ?_
    refine hv_iload_n (pn := 151) X d_Sl_mixBlock_150 ?_
    refine hv_bipush (pn := 153) (v := 13) X d_Sl_mixBlock_151 ?_
    refine hv_iushr (pn := 154) X d_Sl_mixBlock_153 ?_
    refine hv_iload_n (pn := 155) X d_Sl_mixBlock_154 ?_
    refine hv_bipush (pn := 157) (v := 19) X d_Sl_mixBlock_155 ?_
    refine hv_ishl (pn := 158) X d_Sl_mixBlock_157 ?_
    refine hv_ior (pn := 159) X d_Sl_mixBlock_158 ?_
    refine hv_ixor (pn := 160) X d_Sl_mixBlock_159 ?_
    refine hv_iload_n (pn := 161) X d_Sl_mixBlock_160 ?_
    refine hv_bipush (pn := 163) (v := 22) X d_Sl_mixBlock_161 ?_
    refine hv_iushr (pn := 164) X d_Sl_mixBlock_163 ?_
    refine hv_iload_n (pn := 165) X d_Sl_mixBlock_164 ?_
    refine hv_bipush (pn := 167) (v := 10) X d_Sl_mixBlock_165 ?_
    refine hv_ishl (pn := 168) X d_Sl_mixBlock_167 ?_
    refine hv_ior (pn := 169) X d_Sl_mixBlock_168 ?_
    refine hv_ixor (pn := 170) X d_Sl_mixBlock_169 ?_
    refine hv_iload_n (pn := 171) X d_Sl_mixBlock_170 ?_
    refine hv_iload_n (pn := 172) X d_Sl_mixBlock_171 ?_
    refine hv_iand (pn := 173) X d_Sl_mixBlock_172 ?_
    refine hv_iload_n (pn := 174) X d_Sl_mixBlock_173 ?_
    refine hv_iload_n (pn := 175) X d_Sl_mixBlock_174 ?_
    refine hv_iand (pn := 176) X d_Sl_mixBlock_175 ?_
    refine hv_ixor (pn := 177) X d_Sl_mixBlock_176 ?_
    refine hv_iload_n (pn := 178) X d_Sl_mixBlock_177 ?_
    refine hv_iload_n (pn := 179) X d_Sl_mixBlock_178 ?_
    refine hv_iand (pn := 180) X d_Sl_mixBlock_179 ?_
    refine hv_ixor (pn := 181) X d_Sl_mixBlock_180 ?_
    refine hv_iadd (pn := 182) X d_Sl_mixBlock_181 ?_
    obtain ⟨v21, hv21, hf⟩ := nm_E hf
    refine hv_topi hv21 ?_
    refine hv_istore (pn := 184) (i := 11) (lo' := [some (.ref a0), some (.int x1), some (.int x2), some (.int x3), some (.int x4), some (.int x5), some (.int x6), some (.int x7), some (.int x8), some (.int x9), some (.int v20), some (.int v21)]) X d_Sl_mixBlock_182 ?_
    refine hv_iload (pn := 186) X d_Sl_mixBlock_184 ?_
    refine hv_istore (pn := 188) (i := 8) (lo' := [some (.ref a0), some (.int x1), some (.int x2), some (.int x3), some (.int x4), some (.int x5), some (.int x6), some (.int x7), some (.int x7), some (.int x9), some (.int v20), some (.int v21)]) X d_Sl_mixBlock_186 ?_
    refine hv_iload (pn := 190) X d_Sl_mixBlock_188 ?_
    refine hv_istore (pn := 192) (i := 7) (lo' := [some (.ref a0), some (.int x1), some (.int x2), some (.int x3), some (.int x4), some (.int x5), some (.int x6), some (.int x6), some (.int x7), some (.int x9), some (.int v20), some (.int v21)]) X d_Sl_mixBlock_190 ?_
    refine hv_iload (pn := 194) X d_Sl_mixBlock_192 ?_
    refine hv_istore (pn := 196) (i := 6) (lo' := [some (.ref a0), some (.int x1), some (.int x2), some (.int x3), some (.int x4), some (.int x5), some (.int x5), some (.int x6), some (.int x7), some (.int x9), some (.int v20), some (.int v21)]) X d_Sl_mixBlock_194 ?_
    refine hv_iload (pn := 198) X d_Sl_mixBlock_196 ?_
    refine hv_iload (pn := 200) X d_Sl_mixBlock_198 ?_
    refine hv_iadd (pn := 201) X d_Sl_mixBlock_200 ?_
    refine hv_istore (pn := 203) (i := 5) (lo' := [some (.ref a0), some (.int x1), some (.int x2), some (.int x3), some (.int x4), some (.int (x4 + v20)), some (.int x5), some (.int x6), some (.int x7), some (.int x9), some (.int v20), some (.int v21)]) X d_Sl_mixBlock_201 ?_
    refine hv_iload_n (pn := 204) X d_Sl_mixBlock_203 ?_
    refine hv_istore (pn := 206) (i := 4) (lo' := [some (.ref a0), some (.int x1), some (.int x2), some (.int x3), some (.int x3), some (.int (x4 + v20)), some (.int x5), some (.int x6), some (.int x7), some (.int x9), some (.int v20), some (.int v21)]) X d_Sl_mixBlock_204 ?_
    refine hv_iload_n (pn := 207) X d_Sl_mixBlock_206 ?_
    refine hv_istore_n (pn := 208) (i := 3) (lo' := [some (.ref a0), some (.int x1), some (.int x2), some (.int x2), some (.int x3), some (.int (x4 + v20)), some (.int x5), some (.int x6), some (.int x7), some (.int x9), some (.int v20), some (.int v21)]) X d_Sl_mixBlock_207 ?_
    refine hv_iload_n (pn := 209) X d_Sl_mixBlock_208 ?_
    refine hv_istore_n (pn := 210) (i := 2) (lo' := [some (.ref a0), some (.int x1), some (.int x1), some (.int x2), some (.int x3), some (.int (x4 + v20)), some (.int x5), some (.int x6), some (.int x7), some (.int x9), some (.int v20), some (.int v21)]) X d_Sl_mixBlock_209 ?_
    refine hv_iload (pn := 212) X d_Sl_mixBlock_210 ?_
    refine hv_iload (pn := 214) X d_Sl_mixBlock_212 ?_
    refine hv_iadd (pn := 215) X d_Sl_mixBlock_214 ?_
    refine hv_istore_n (pn := 216) (i := 1) (lo' := [some (.ref a0), some (.int (v20 + v21)), some (.int x1), some (.int x2), some (.int x3), some (.int (x4 + v20)), some (.int x5), some (.int x6), some (.int x7), some (.int x9), some (.int v20), some (.int v21)]) X d_Sl_mixBlock_215 ?_
    refine hv_iinc (pn := 219) (i := 9) (v := x9 + 1) (lo' := [some (.ref a0), some (.int (v20 + v21)), some (.int x1), some (.int x2), some (.int x3), some (.int (x4 + v20)), some (.int x5), some (.int x6), some (.int x7), some (.int (x9 + 1)), some (.int v20), some (.int v21)]) X d_Sl_mixBlock_216 ?_
    refine hv_goto (tgt := 66) X d_Sl_mixBlock_219 (by decide) ?_
    refine hv_drop (i := 10) (lo' := [some (.ref a0), some (.int (v20 + v21)), some (.int x1), some (.int x2), some (.int x3), some (.int (x4 + v20)), some (.int x5), some (.int x6), some (.int x7), some (.int (x9 + 1)), none, some (.int v21)]) ?_
    refine hv_drop (i := 11) (lo' := [some (.ref a0), some (.int (v20 + v21)), some (.int x1), some (.int x2), some (.int x3), some (.int (x4 + v20)), some (.int x5), some (.int x6), some (.int x7), some (.int (x9 + 1)), none, none]) ?_
    cases hf
    exact E
set_option maxHeartbeats 4000000 in
set_option maxRecDepth 100000 in
theorem c_Sl_mixBlock (l : Launch) (G : ho_G) (N : Nat) (σ : ho_H) (a0 : Nat) (σ' : ho_H) (hf : f_Sl_mixBlock G N σ a0 = some σ') : hv_C l G y_Sl_mixBlock (Cond.code y_Sl_mixBlock b_Sl_mixBlock 12 none :: hv_ws) 0 0 [.ref a0] σ σ' (none) := by
  refine hv_met [some (.ref a0), none, none, none, none, none, none, none, none, none, none, none] (plainFor_of_name (by decide +kernel)) (by intro v hv; simp at hv; rcases hv with rfl <;> rfl) (Nat.le_of_ble_eq_true rfl) rfl ?_
  intro k X hkl hkG E
  subst hkl
  subst hkG
  unfold f_Sl_mixBlock at hf
  refine hv_aload_n (pn := 1) X d_Sl_mixBlock_0 ?_
  obtain ⟨b1, hb1, hf⟩ := bd_E hf
  refine hv_getR (pn := 4) X d_Sl_mixBlock_1 fa_Sl_9 hb1 ?_
  refine hv_iconst (pn := 5) (v := 0) X d_Sl_mixBlock_4 ?_
  obtain ⟨v2, hv2, hf⟩ := bd_E hf
  refine hv_iald (pn := 6) X d_Sl_mixBlock_5 hv2 ?_
  refine hv_istore_n (pn := 7) (i := 1) (lo' := [some (.ref a0), some (.int v2), none, none, none, none, none, none, none, none, none, none]) X d_Sl_mixBlock_6 ?_
  refine hv_aload_n (pn := 8) X d_Sl_mixBlock_7 ?_
  obtain ⟨b3, hb3, hf⟩ := bd_E hf
  refine hv_getR (pn := 11) X d_Sl_mixBlock_8 fa_Sl_9 hb3 ?_
  refine hv_iconst (pn := 12) (v := 1) X d_Sl_mixBlock_11 ?_
  obtain ⟨v4, hv4, hf⟩ := bd_E hf
  refine hv_iald (pn := 13) X d_Sl_mixBlock_12 hv4 ?_
  refine hv_istore_n (pn := 14) (i := 2) (lo' := [some (.ref a0), some (.int v2), some (.int v4), none, none, none, none, none, none, none, none, none]) X d_Sl_mixBlock_13 ?_
  refine hv_aload_n (pn := 15) X d_Sl_mixBlock_14 ?_
  obtain ⟨b5, hb5, hf⟩ := bd_E hf
  refine hv_getR (pn := 18) X d_Sl_mixBlock_15 fa_Sl_9 hb5 ?_
  refine hv_iconst (pn := 19) (v := 2) X d_Sl_mixBlock_18 ?_
  obtain ⟨v6, hv6, hf⟩ := bd_E hf
  refine hv_iald (pn := 20) X d_Sl_mixBlock_19 hv6 ?_
  refine hv_istore_n (pn := 21) (i := 3) (lo' := [some (.ref a0), some (.int v2), some (.int v4), some (.int v6), none, none, none, none, none, none, none, none]) X d_Sl_mixBlock_20 ?_
  refine hv_aload_n (pn := 22) X d_Sl_mixBlock_21 ?_
  obtain ⟨b7, hb7, hf⟩ := bd_E hf
  refine hv_getR (pn := 25) X d_Sl_mixBlock_22 fa_Sl_9 hb7 ?_
  refine hv_iconst (pn := 26) (v := 3) X d_Sl_mixBlock_25 ?_
  obtain ⟨v8, hv8, hf⟩ := bd_E hf
  refine hv_iald (pn := 27) X d_Sl_mixBlock_26 hv8 ?_
  refine hv_istore (pn := 29) (i := 4) (lo' := [some (.ref a0), some (.int v2), some (.int v4), some (.int v6), some (.int v8), none, none, none, none, none, none, none]) X d_Sl_mixBlock_27 ?_
  refine hv_aload_n (pn := 30) X d_Sl_mixBlock_29 ?_
  obtain ⟨b9, hb9, hf⟩ := bd_E hf
  refine hv_getR (pn := 33) X d_Sl_mixBlock_30 fa_Sl_9 hb9 ?_
  refine hv_iconst (pn := 34) (v := 4) X d_Sl_mixBlock_33 ?_
  obtain ⟨v10, hv10, hf⟩ := bd_E hf
  refine hv_iald (pn := 35) X d_Sl_mixBlock_34 hv10 ?_
  refine hv_istore (pn := 37) (i := 5) (lo' := [some (.ref a0), some (.int v2), some (.int v4), some (.int v6), some (.int v8), some (.int v10), none, none, none, none, none, none]) X d_Sl_mixBlock_35 ?_
  refine hv_aload_n (pn := 38) X d_Sl_mixBlock_37 ?_
  obtain ⟨b11, hb11, hf⟩ := bd_E hf
  refine hv_getR (pn := 41) X d_Sl_mixBlock_38 fa_Sl_9 hb11 ?_
  refine hv_iconst (pn := 42) (v := 5) X d_Sl_mixBlock_41 ?_
  obtain ⟨v12, hv12, hf⟩ := bd_E hf
  refine hv_iald (pn := 43) X d_Sl_mixBlock_42 hv12 ?_
  refine hv_istore (pn := 45) (i := 6) (lo' := [some (.ref a0), some (.int v2), some (.int v4), some (.int v6), some (.int v8), some (.int v10), some (.int v12), none, none, none, none, none]) X d_Sl_mixBlock_43 ?_
  refine hv_aload_n (pn := 46) X d_Sl_mixBlock_45 ?_
  obtain ⟨b13, hb13, hf⟩ := bd_E hf
  refine hv_getR (pn := 49) X d_Sl_mixBlock_46 fa_Sl_9 hb13 ?_
  refine hv_bipush (pn := 51) (v := 6) X d_Sl_mixBlock_49 ?_
  obtain ⟨v14, hv14, hf⟩ := bd_E hf
  refine hv_iald (pn := 52) X d_Sl_mixBlock_51 hv14 ?_
  refine hv_istore (pn := 54) (i := 7) (lo' := [some (.ref a0), some (.int v2), some (.int v4), some (.int v6), some (.int v8), some (.int v10), some (.int v12), some (.int v14), none, none, none, none]) X d_Sl_mixBlock_52 ?_
  refine hv_aload_n (pn := 55) X d_Sl_mixBlock_54 ?_
  obtain ⟨b15, hb15, hf⟩ := bd_E hf
  refine hv_getR (pn := 58) X d_Sl_mixBlock_55 fa_Sl_9 hb15 ?_
  refine hv_bipush (pn := 60) (v := 7) X d_Sl_mixBlock_58 ?_
  obtain ⟨v16, hv16, hf⟩ := bd_E hf
  refine hv_iald (pn := 61) X d_Sl_mixBlock_60 hv16 ?_
  refine hv_istore (pn := 63) (i := 8) (lo' := [some (.ref a0), some (.int v2), some (.int v4), some (.int v6), some (.int v8), some (.int v10), some (.int v12), some (.int v14), some (.int v16), none, none, none]) X d_Sl_mixBlock_61 ?_
  refine hv_iconst (pn := 64) (v := 0) X d_Sl_mixBlock_63 ?_
  refine hv_istore (pn := 66) (i := 9) (lo' := [some (.ref a0), some (.int v2), some (.int v4), some (.int v6), some (.int v8), some (.int v10), some (.int v12), some (.int v14), some (.int v16), some (.int 0), none, none]) X d_Sl_mixBlock_64 ?_
  obtain ⟨⟨x22, x23, x24, x25, x26, x27, x28, x29⟩, he55, hf⟩ := bd_E hf
  refine hv_loop (P := fun s => hv_V k σ 66 [some (.ref a0), some (.int s.1), some (.int s.2.1), some (.int s.2.2.1), some (.int s.2.2.2.1), some (.int s.2.2.2.2.1), some (.int s.2.2.2.2.2.1), some (.int s.2.2.2.2.2.2.1), some (.int s.2.2.2.2.2.2.2.1), some (.int s.2.2.2.2.2.2.2.2), none, none] []) (Z := fun s => hv_V k σ 222 [some (.ref a0), some (.int s.1), some (.int s.2.1), some (.int s.2.2.1), some (.int s.2.2.2.1), some (.int s.2.2.2.2.1), some (.int s.2.2.2.2.2.1), some (.int s.2.2.2.2.2.2.1), some (.int s.2.2.2.2.2.2.2), none, none, none] []) (fun s r h1 h2 => by obtain ⟨x1, x2, x3, x4, x5, x6, x7, x8, x9⟩ := s; exact w_Sl_mixBlock_l66 X N σ a0 x1 x2 x3 x4 x5 x6 x7 x8 x9 r h1 h2) N (v2, v4, v6, v8, v10, v12, v14, v16, 0) _ he55 ?_
  try dsimp only at hf ⊢
  refine hv_aload_n (pn := 223) X d_Sl_mixBlock_222 ?_
  obtain ⟨b30, hb30, hf⟩ := bd_E hf
  refine hv_getR (pn := 226) X d_Sl_mixBlock_223 fa_Sl_9 hb30 ?_
  refine hv_iconst (pn := 227) (v := 0) X d_Sl_mixBlock_226 ?_
  refine hv_dup2 (pn := 228) X d_Sl_mixBlock_227 rfl rfl ?_
  obtain ⟨v31, hv31, hf⟩ := bd_E hf
  refine hv_iald (pn := 229) X d_Sl_mixBlock_228 hv31 ?_
  refine hv_iload_n (pn := 230) X d_Sl_mixBlock_229 ?_
  refine hv_iadd (pn := 231) X d_Sl_mixBlock_230 ?_
  obtain ⟨σ32, hσ32, hf⟩ := bd_E hf
  refine hv_iast (pn := 232) X d_Sl_mixBlock_231 hσ32 ?_
  refine hv_aload_n (pn := 233) X d_Sl_mixBlock_232 ?_
  obtain ⟨b33, hb33, hf⟩ := bd_E hf
  refine hv_getR (pn := 236) X d_Sl_mixBlock_233 fa_Sl_9 hb33 ?_
  refine hv_iconst (pn := 237) (v := 1) X d_Sl_mixBlock_236 ?_
  refine hv_dup2 (pn := 238) X d_Sl_mixBlock_237 rfl rfl ?_
  obtain ⟨v34, hv34, hf⟩ := bd_E hf
  refine hv_iald (pn := 239) X d_Sl_mixBlock_238 hv34 ?_
  refine hv_iload_n (pn := 240) X d_Sl_mixBlock_239 ?_
  refine hv_iadd (pn := 241) X d_Sl_mixBlock_240 ?_
  obtain ⟨σ35, hσ35, hf⟩ := bd_E hf
  refine hv_iast (pn := 242) X d_Sl_mixBlock_241 hσ35 ?_
  refine hv_aload_n (pn := 243) X d_Sl_mixBlock_242 ?_
  obtain ⟨b36, hb36, hf⟩ := bd_E hf
  refine hv_getR (pn := 246) X d_Sl_mixBlock_243 fa_Sl_9 hb36 ?_
  refine hv_iconst (pn := 247) (v := 2) X d_Sl_mixBlock_246 ?_
  refine hv_dup2 (pn := 248) X d_Sl_mixBlock_247 rfl rfl ?_
  obtain ⟨v37, hv37, hf⟩ := bd_E hf
  refine hv_iald (pn := 249) X d_Sl_mixBlock_248 hv37 ?_
  refine hv_iload_n (pn := 250) X d_Sl_mixBlock_249 ?_
  refine hv_iadd (pn := 251) X d_Sl_mixBlock_250 ?_
  obtain ⟨σ38, hσ38, hf⟩ := bd_E hf
  refine hv_iast (pn := 252) X d_Sl_mixBlock_251 hσ38 ?_
  refine hv_aload_n (pn := 253) X d_Sl_mixBlock_252 ?_
  obtain ⟨b39, hb39, hf⟩ := bd_E hf
  refine hv_getR (pn := 256) X d_Sl_mixBlock_253 fa_Sl_9 hb39 ?_
  refine hv_iconst (pn := 257) (v := 3) X d_Sl_mixBlock_256 ?_
  refine hv_dup2 (pn := 258) X d_Sl_mixBlock_257 rfl rfl ?_
  obtain ⟨v40, hv40, hf⟩ := bd_E hf
  refine hv_iald (pn := 259) X d_Sl_mixBlock_258 hv40 ?_
  refine hv_iload (pn := 261) X d_Sl_mixBlock_259 ?_
  refine hv_iadd (pn := 262) X d_Sl_mixBlock_261 ?_
  obtain ⟨σ41, hσ41, hf⟩ := bd_E hf
  refine hv_iast (pn := 263) X d_Sl_mixBlock_262 hσ41 ?_
  refine hv_aload_n (pn := 264) X d_Sl_mixBlock_263 ?_
  obtain ⟨b42, hb42, hf⟩ := bd_E hf
  refine hv_getR (pn := 267) X d_Sl_mixBlock_264 fa_Sl_9 hb42 ?_
  refine hv_iconst (pn := 268) (v := 4) X d_Sl_mixBlock_267 ?_
  refine hv_dup2 (pn := 269) X d_Sl_mixBlock_268 rfl rfl ?_
  obtain ⟨v43, hv43, hf⟩ := bd_E hf
  refine hv_iald (pn := 270) X d_Sl_mixBlock_269 hv43 ?_
  refine hv_iload (pn := 272) X d_Sl_mixBlock_270 ?_
  refine hv_iadd (pn := 273) X d_Sl_mixBlock_272 ?_
  obtain ⟨σ44, hσ44, hf⟩ := bd_E hf
  refine hv_iast (pn := 274) X d_Sl_mixBlock_273 hσ44 ?_
  refine hv_aload_n (pn := 275) X d_Sl_mixBlock_274 ?_
  obtain ⟨b45, hb45, hf⟩ := bd_E hf
  refine hv_getR (pn := 278) X d_Sl_mixBlock_275 fa_Sl_9 hb45 ?_
  refine hv_iconst (pn := 279) (v := 5) X d_Sl_mixBlock_278 ?_
  refine hv_dup2 (pn := 280) X d_Sl_mixBlock_279 rfl rfl ?_
  obtain ⟨v46, hv46, hf⟩ := bd_E hf
  refine hv_iald (pn := 281) X d_Sl_mixBlock_280 hv46 ?_
  refine hv_iload (pn := 283) X d_Sl_mixBlock_281 ?_
  refine hv_iadd (pn := 284) X d_Sl_mixBlock_283 ?_
  obtain ⟨σ47, hσ47, hf⟩ := bd_E hf
  refine hv_iast (pn := 285) X d_Sl_mixBlock_284 hσ47 ?_
  refine hv_aload_n (pn := 286) X d_Sl_mixBlock_285 ?_
  obtain ⟨b48, hb48, hf⟩ := bd_E hf
  refine hv_getR (pn := 289) X d_Sl_mixBlock_286 fa_Sl_9 hb48 ?_
  refine hv_bipush (pn := 291) (v := 6) X d_Sl_mixBlock_289 ?_
  refine hv_dup2 (pn := 292) X d_Sl_mixBlock_291 rfl rfl ?_
  obtain ⟨v49, hv49, hf⟩ := bd_E hf
  refine hv_iald (pn := 293) X d_Sl_mixBlock_292 hv49 ?_
  refine hv_iload (pn := 295) X d_Sl_mixBlock_293 ?_
  refine hv_iadd (pn := 296) X d_Sl_mixBlock_295 ?_
  obtain ⟨σ50, hσ50, hf⟩ := bd_E hf
  refine hv_iast (pn := 297) X d_Sl_mixBlock_296 hσ50 ?_
  refine hv_aload_n (pn := 298) X d_Sl_mixBlock_297 ?_
  obtain ⟨b51, hb51, hf⟩ := bd_E hf
  refine hv_getR (pn := 301) X d_Sl_mixBlock_298 fa_Sl_9 hb51 ?_
  refine hv_bipush (pn := 303) (v := 7) X d_Sl_mixBlock_301 ?_
  refine hv_dup2 (pn := 304) X d_Sl_mixBlock_303 rfl rfl ?_
  obtain ⟨v52, hv52, hf⟩ := bd_E hf
  refine hv_iald (pn := 305) X d_Sl_mixBlock_304 hv52 ?_
  refine hv_iload (pn := 307) X d_Sl_mixBlock_305 ?_
  refine hv_iadd (pn := 308) X d_Sl_mixBlock_307 ?_
  obtain ⟨σ53, hσ53, hf⟩ := bd_E hf
  refine hv_iast (pn := 309) X d_Sl_mixBlock_308 hσ53 ?_
  cases hf
  exact hv_vret X d_Sl_mixBlock_309 E
set_option maxHeartbeats 4000000 in
set_option maxRecDepth 100000 in
theorem w_Sl_startWithKey_j36_in7 {k : mk_T} (X : hv_X k b_Sl_startWithKey y_Sl_startWithKey.cls 6 2 43 none y_Sl_startWithKey.name) (N : Nat) (σ : ho_H) (a0 : Nat) (a1 : Nat) (x2 : Int32) (x3 : Int32) (x4 : Int32) (x5 : Int32) (y0 : Int32) (y1 : Int32) (c2 : Nat)  (r : (ho_H × Int32) ⊕ (ho_H)) (hf : f_Sl_startWithKey_j36_in7 k.2.1 N σ a0 a1 x2 x3 x4 x5 y0 y1 c2 = some r) (E : sm (fun s => hv_V k s.1 7 [some (.ref a0), some (.ref a1), some (.int x2), some (.int x3), some (.int x4), some (.int s.2)] []) (fun s => hv_V k s 46 [some (.ref a0), none, none, none, none, none] []) r) : hv_V k σ 36 [some (.ref a0), some (.ref a1), some (.int x2), some (.int x3), some (.int x4), some (.int x5)] [.int y0, .int y1, .ref c2] := by
  unfold f_Sl_startWithKey_j36_in7 at hf
  refine hv_iload (pn := 38) X d_Sl_startWithKey_36 ?_
  refine hv_ixor (pn := 39) X d_Sl_startWithKey_38 ?_
  obtain ⟨σ4, hσ4, hf⟩ := bd_E hf
  refine hv_iast (pn := 40) X d_Sl_startWithKey_39 hσ4 ?_
  refine hv_iinc (pn := 43) (i := 5) (v := x5 + 1) (lo' := [some (.ref a0), some (.ref a1), some (.int x2), some (.int x3), some (.int x4), some (.int (x5 + 1))]) X d_Sl_startWithKey_40 ?_
  refine hv_goto (tgt := 7) X d_Sl_startWithKey_43 (by decide) ?_
  cases hf
  exact E
set_option maxHeartbeats 4000000 in
set_option maxRecDepth 100000 in
theorem w_Sl_startWithKey_l7 {k : mk_T} (X : hv_X k b_Sl_startWithKey y_Sl_startWithKey.cls 6 2 43 none y_Sl_startWithKey.name) (N : Nat) (a0 : Nat) (a1 : Nat) (x2 : Int32) (x3 : Int32) (x4 : Int32) (σ : ho_H) (x5 : Int32) (r : (ho_H × Int32) ⊕ (ho_H)) (hf : f_Sl_startWithKey_l7 k.2.1 N a0 a1 x2 x3 x4 (σ, x5) = some r) (E : sm (fun s => hv_V k s.1 7 [some (.ref a0), some (.ref a1), some (.int x2), some (.int x3), some (.int x4), some (.int s.2)] []) (fun s => hv_V k s 46 [some (.ref a0), none, none, none, none, none] []) r) : hv_V k σ 7 [some (.ref a0), some (.ref a1), some (.int x2), some (.int x3), some (.int x4), some (.int x5)] [] := by
  unfold f_Sl_startWithKey_l7 at hf
  try dsimp only at hf
  refine hv_iload (pn := 9) X d_Sl_startWithKey_7 ?_
  refine hv_bipush (pn := 11) (v := 16) X d_Sl_startWithKey_9 ?_
  refine hv_icmp_ge (pn := 14) (tgt := 46) X d_Sl_startWithKey_11 (by decide) (fun hc => ?_) (fun hc => ?_)
  · rw [if_pos hc] at hf
    refine hv_drop (i := 1) (lo' := [some (.ref a0), none, some (.int x2), some (.int x3), some (.int x4), some (.int x5)]) ?_
    refine hv_drop (i := 2) (lo' := [some (.ref a0), none, none, some (.int x3), some (.int x4), some (.int x5)]) ?_
    refine hv_drop (i := 3) (lo' := [some (.ref a0), none, none, none, some (.int x4), some (.int x5)]) ?_
    refine hv_drop (i := 4) (lo' := [some (.ref a0), none, none, none, none, some (.int x5)]) ?_
    refine hv_drop (i := 5) (lo' := [some (.ref a0), none, none, none, none, none]) ?_
    cases hf
    exact E
  · rw [if_neg hc] at hf
    refine hv_aload_n (pn := 15) X d_Sl_startWithKey_14 ?_
    obtain ⟨b3, hb3, hf⟩ := bd_E hf
    refine hv_getR (pn := 18) X d_Sl_startWithKey_15 fa_Sl_16 hb3 ?_
    refine hv_iload (pn := 20) X d_Sl_startWithKey_18 ?_
    refine hv_iload (pn := 22) X d_Sl_startWithKey_20 ?_
    refine hv_iload_n (pn := 23) X d_Sl_startWithKey_22 ?_
    refine hv_icmp_ge (pn := 26) (tgt := 35) X d_Sl_startWithKey_23 (by decide) (fun hc => ?_) (fun hc => ?_)
    · rw [if_pos hc] at hf
      refine hv_iconst (pn := 36) (v := 0) X d_Sl_startWithKey_35 ?_
      exact w_Sl_startWithKey_j36_in7 X N σ a0 a1 x2 x3 x4 x5 0 x5 b3  _ hf E
    · rw [if_neg hc] at hf
      refine hv_aload_n (pn := 27) X d_Sl_startWithKey_26 ?_
      refine hv_iload_n (pn := 28) X d_Sl_startWithKey_27 ?_
      refine hv_iload (pn := 30) X d_Sl_startWithKey_28 ?_
      refine hv_iadd (pn := 31) X d_Sl_startWithKey_30 ?_
      obtain ⟨v5, hv5, hf⟩ := bd_E hf
      refine hv_iald (pn := 32) X d_Sl_startWithKey_31 hv5 ?_
      refine hv_goto (tgt := 36) X d_Sl_startWithKey_32 (by decide) ?_
      exact w_Sl_startWithKey_j36_in7 X N σ a0 a1 x2 x3 x4 x5 v5 x5 b3  _ hf E
set_option maxHeartbeats 4000000 in
set_option maxRecDepth 100000 in
theorem c_Sl_startWithKey (l : Launch) (G : ho_G) (N : Nat) (σ : ho_H) (a0 : Nat) (a1 : Nat) (x2 : Int32) (x3 : Int32) (x4 : Int32) (σ' : ho_H) (hf : f_Sl_startWithKey G N σ a0 a1 x2 x3 x4 = some σ') : hv_C l G y_Sl_startWithKey (Cond.code y_Sl_startWithKey b_Sl_startWithKey 6 none :: hv_ws) 2 43 [.ref a0, .ref a1, .int x2, .int x3, .int x4] σ σ' (none) := by
  refine hv_met [some (.ref a0), some (.ref a1), some (.int x2), some (.int x3), some (.int x4), none] (plainFor_of_name (by decide +kernel)) (by intro v hv; simp at hv; rcases hv with rfl | rfl | rfl | rfl | rfl <;> rfl) (Nat.le_of_ble_eq_true rfl) rfl ?_
  intro k X hkl hkG E
  subst hkl
  subst hkG
  unfold f_Sl_startWithKey at hf
  refine hv_aload_n (pn := 1) X d_Sl_startWithKey_0 ?_
  obtain ⟨_, hr1, hf⟩ := bd_E hf
  obtain ⟨σ2, hσ2, hf⟩ := bd_E hf
  obtain ⟨hσ2, mσ2⟩ := ho_cv_E hσ2
  refine hv_callV (pn := 4) X d_Sl_startWithKey_1 (c_Sl_clear _ _ N σ a0 _ hσ2) cs_Sl_60 q_2_60 rfl q_2_61 hr1 (by decide) (by decide) mσ2 (Nat.le_of_ble_eq_true rfl) ?_
  refine hv_iconst (pn := 5) (v := 0) X d_Sl_startWithKey_4 ?_
  refine hv_istore (pn := 7) (i := 5) (lo' := [some (.ref a0), some (.ref a1), some (.int x2), some (.int x3), some (.int x4), some (.int 0)]) X d_Sl_startWithKey_5 ?_
  obtain ⟨σ6, he9, hf⟩ := bd_E hf
  refine hv_loop (P := fun s => hv_V k s.1 7 [some (.ref a0), some (.ref a1), some (.int x2), some (.int x3), some (.int x4), some (.int s.2)] []) (Z := fun s => hv_V k s 46 [some (.ref a0), none, none, none, none, none] []) (fun s r h1 h2 => by obtain ⟨σ, x5⟩ := s; exact w_Sl_startWithKey_l7 X N a0 a1 x2 x3 x4 σ x5 r h1 h2) N (σ2, 0) _ he9 ?_
  try dsimp only at hf ⊢
  refine hv_aload_n (pn := 47) X d_Sl_startWithKey_46 ?_
  refine hv_bipush (pn := 49) (v := 64) X d_Sl_startWithKey_47 ?_
  obtain ⟨σ7, hσ7, hf⟩ := bd_E hf
  refine hv_put (pn := 52) X d_Sl_startWithKey_49 fp_Sl_28 hσ7 ?_
  cases hf
  exact hv_vret X d_Sl_startWithKey_52 E
set_option maxHeartbeats 4000000 in
set_option maxRecDepth 100000 in
theorem w_Sl_finish_l59 {k : mk_T} (X : hv_X k b_Sl_finish y_Sl_finish.cls 4 2 86 none y_Sl_finish.name) (N : Nat) (a0 : Nat) (x2 : Int32) (σ : ho_H) (x3 : Int32) (r : (ho_H × Int32) ⊕ (ho_H)) (hf : f_Sl_finish_l59 k.2.1 N a0 x2 (σ, x3) = some r) (E : sm (fun s => hv_V k s.1 59 [some (.ref a0), none, some (.int x2), some (.int s.2)] []) (fun s => hv_V k s 82 [none, none, none, none] []) r) : hv_V k σ 59 [some (.ref a0), none, some (.int x2), some (.int x3)] [] := by
  unfold f_Sl_finish_l59 at hf
  try dsimp only at hf
  refine hv_iload_n (pn := 60) X d_Sl_finish_59 ?_
  refine hv_iload_n (pn := 61) X d_Sl_finish_60 ?_
  refine hv_icmp_ge (pn := 64) (tgt := 82) X d_Sl_finish_61 (by decide) (fun hc => ?_) (fun hc => ?_)
  · rw [if_pos hc] at hf
    refine hv_drop (i := 0) (lo' := [none, none, some (.int x2), some (.int x3)]) ?_
    refine hv_drop (i := 2) (lo' := [none, none, none, some (.int x3)]) ?_
    refine hv_drop (i := 3) (lo' := [none, none, none, none]) ?_
    cases hf
    exact E
  · rw [if_neg hc] at hf
    refine hv_aload_n (pn := 65) X d_Sl_finish_64 ?_
    refine hv_iload_n (pn := 66) X d_Sl_finish_65 ?_
    refine hv_bipush (pn := 68) (v := 16) X d_Sl_finish_66 ?_
    refine hv_imul (pn := 69) X d_Sl_finish_68 ?_
    obtain ⟨_, hr9, hf⟩ := bd_E hf
    obtain ⟨σ10, hσ10, hf⟩ := bd_E hf
    obtain ⟨hσ10, mσ10⟩ := ho_cv_E hσ10
    refine hv_callV (pn := 72) X d_Sl_finish_69 (c_Sl_spreadBlock _ _ N σ a0 (x3 * 16) _ hσ10) cs_Sl_45 q_2_81 rfl qs_Sl_spreadBlock hr9 (by decide) (by decide) mσ10 (Nat.le_of_ble_eq_true rfl) ?_
    refine hv_aload_n (pn := 73) X d_Sl_finish_72 ?_
    obtain ⟨_, hr11, hf⟩ := bd_E hf
    obtain ⟨σ12, hσ12, hf⟩ := bd_E hf
    obtain ⟨hσ12, mσ12⟩ := ho_cv_E hσ12
    refine hv_callV (pn := 76) X d_Sl_finish_73 (c_Sl_mixBlock _ _ N σ10 a0 _ hσ12) cs_Sl_48 q_2_85 rfl qs_Sl_mixBlock hr11 (by decide) (by decide) mσ12 (Nat.le_of_ble_eq_true rfl) ?_
    refine hv_iinc (pn := 79) (i := 3) (v := x3 + 1) (lo' := [some (.ref a0), none, some (.int x2), some (.int (x3 + 1))]) X d_Sl_finish_76 ?_
    refine hv_goto (tgt := 59) X d_Sl_finish_79 (by decide) ?_
    cases hf
    exact E
set_option maxHeartbeats 4000000 in
set_option maxRecDepth 100000 in
theorem c_Sl_finish (l : Launch) (G : ho_G) (N : Nat) (σ : ho_H) (a0 : Nat) (σ' : ho_H) (hf : f_Sl_finish G N σ a0 = some σ') : hv_C l G y_Sl_finish (Cond.code y_Sl_finish b_Sl_finish 4 none :: hv_ws) 2 86 [.ref a0] σ σ' (none) := by
  refine hv_met [some (.ref a0), none, none, none] (plainFor_of_name (by decide +kernel)) (by intro v hv; simp at hv; rcases hv with rfl <;> rfl) (Nat.le_of_ble_eq_true rfl) rfl ?_
  intro k X hkl hkG E
  subst hkl
  subst hkG
  unfold f_Sl_finish at hf
  refine hv_bipush (pn := 2) (v := 8) X d_Sl_finish_0 ?_
  refine hv_aload_n (pn := 3) X d_Sl_finish_2 ?_
  obtain ⟨v1, hv1, hf⟩ := bd_E hf
  refine hv_getI (pn := 6) X d_Sl_finish_3 fa_Sl_28 hv1 ?_
  refine hv_imul (pn := 7) X d_Sl_finish_6 ?_
  refine hv_istore_n (pn := 8) (i := 1) (lo' := [some (.ref a0), some (.int (8 * v1)), none, none]) X d_Sl_finish_7 ?_
  refine hv_aload_n (pn := 9) X d_Sl_finish_8 ?_
  refine hv_sipush (pn := 12) (v := 128) X d_Sl_finish_9 ?_
  obtain ⟨_, hr2, hf⟩ := bd_E hf
  obtain ⟨σ3, hσ3, hf⟩ := bd_E hf
  obtain ⟨hσ3, mσ3⟩ := ho_cv_E hσ3
  refine hv_callV (pn := 15) X d_Sl_finish_12 (c_Sl_addByte _ _ N σ a0 128 _ hσ3) cs_Sl_32 q_2_67 rfl q_2_68 hr2 (by decide) (by decide) mσ3 (Nat.le_of_ble_eq_true rfl) ?_
  refine hv_aload_n (pn := 16) X d_Sl_finish_15 ?_
  obtain ⟨v4, hv4, hf⟩ := bd_E hf
  refine hv_getI (pn := 19) X d_Sl_finish_16 fa_Sl_28 hv4 ?_
  refine hv_bipush (pn := 21) (v := 8) X d_Sl_finish_19 ?_
  refine hv_iadd (pn := 22) X d_Sl_finish_21 ?_
  refine hv_bipush (pn := 24) (v := 64) X d_Sl_finish_22 ?_
  refine hv_iadd (pn := 25) X d_Sl_finish_24 ?_
  refine hv_iconst (pn := 26) (v := 1) X d_Sl_finish_25 ?_
  refine hv_isub (pn := 27) X d_Sl_finish_26 ?_
  refine hv_bipush (pn := 29) (v := 64) X d_Sl_finish_27 ?_
  refine hv_idiv (pn := 30) X d_Sl_finish_29 (by decide) ?_
  refine hv_istore_n (pn := 31) (i := 2) (lo' := [some (.ref a0), some (.int (8 * v1)), some (.int ((((v4 + 8) + 64) - 1) / 64)), none]) X d_Sl_finish_30 ?_
  refine hv_aload_n (pn := 32) X d_Sl_finish_31 ?_
  obtain ⟨b5, hb5, hf⟩ := bd_E hf
  refine hv_getR (pn := 35) X d_Sl_finish_32 fa_Sl_16 hb5 ?_
  refine hv_iload_n (pn := 36) X d_Sl_finish_35 ?_
  refine hv_bipush (pn := 38) (v := 16) X d_Sl_finish_36 ?_
  refine hv_imul (pn := 39) X d_Sl_finish_38 ?_
  refine hv_iconst (pn := 40) (v := 1) X d_Sl_finish_39 ?_
  refine hv_isub (pn := 41) X d_Sl_finish_40 ?_
  refine hv_iload_n (pn := 42) X d_Sl_finish_41 ?_
  obtain ⟨σ6, hσ6, hf⟩ := bd_E hf
  refine hv_iast (pn := 43) X d_Sl_finish_42 hσ6 ?_
  refine hv_gets (pn := 46) X d_Sl_finish_43 (i := 0) rfl q_2_74 (Or.inl rfl) ?_
  refine hv_iconst (pn := 47) (v := 0) X d_Sl_finish_46 ?_
  refine hv_aload_n (pn := 48) X d_Sl_finish_47 ?_
  obtain ⟨b7, hb7, hf⟩ := bd_E hf
  refine hv_getR (pn := 51) X d_Sl_finish_48 fa_Sl_9 hb7 ?_
  refine hv_iconst (pn := 52) (v := 0) X d_Sl_finish_51 ?_
  refine hv_bipush (pn := 54) (v := 8) X d_Sl_finish_52 ?_
  obtain ⟨σ8, hσ8, hf⟩ := bd_E hf
  refine hv_cpI (pn := 57) X d_Sl_finish_54 q_2_76 q_2_78 q_2_77 q_1_16 hσ8 (by decide) (by decide +kernel) (Nat.le_of_ble_eq_true rfl) ?_
  refine hv_iconst (pn := 58) (v := 0) X d_Sl_finish_57 ?_
  refine hv_istore_n (pn := 59) (i := 3) (lo' := [some (.ref a0), some (.int (8 * v1)), some (.int ((((v4 + 8) + 64) - 1) / 64)), some (.int 0)]) X d_Sl_finish_58 ?_
  refine hv_drop (i := 1) (lo' := [some (.ref a0), none, some (.int ((((v4 + 8) + 64) - 1) / 64)), some (.int 0)]) ?_
  obtain ⟨σ13, he15, hf⟩ := bd_E hf
  refine hv_loop (P := fun s => hv_V k s.1 59 [some (.ref a0), none, some (.int ((((v4 + 8) + 64) - 1) / 64)), some (.int s.2)] []) (Z := fun s => hv_V k s 82 [none, none, none, none] []) (fun s r h1 h2 => by obtain ⟨σ, x3⟩ := s; exact w_Sl_finish_l59 X N a0 ((((v4 + 8) + 64) - 1) / 64) σ x3 r h1 h2) N (σ8, 0) _ he15 ?_
  try dsimp only at hf ⊢
  cases hf
  exact hv_vret X d_Sl_finish_82 E
set_option maxHeartbeats 4000000 in
set_option maxRecDepth 100000 in
theorem w_Sl_seal_l12 {k : mk_T} (X : hv_X k b_Sl_seal y_Sl_seal.cls 7 3 109 none y_Sl_seal.name) (N : Nat) (a0 : Nat) (a1 : Nat) (x2 : Int32) (x3 : Int32) (a4 : Nat) (x5 : Int32) (σ : ho_H) (x6 : Int32) (r : (ho_H × Int32) ⊕ (ho_H)) (hf : f_Sl_seal_l12 k.2.1 N a0 a1 x2 x3 a4 x5 (σ, x6) = some r) (E : sm (fun s => hv_V k s.1 12 [some (.ref a0), some (.ref a1), some (.int x2), some (.int x3), some (.ref a4), some (.int x5), some (.int s.2)] []) (fun s => hv_V k s 34 [some (.ref a0), some (.ref a1), some (.int x2), some (.int x3), none, none, none] []) r) : hv_V k σ 12 [some (.ref a0), some (.ref a1), some (.int x2), some (.int x3), some (.ref a4), some (.int x5), some (.int x6)] [] := by
  unfold f_Sl_seal_l12 at hf
  try dsimp only at hf
  refine hv_iload (pn := 14) X d_Sl_seal_12 ?_
  refine hv_iload (pn := 16) X d_Sl_seal_14 ?_
  refine hv_icmp_ge (pn := 19) (tgt := 34) X d_Sl_seal_16 (by decide) (fun hc => ?_) (fun hc => ?_)
  · rw [if_pos hc] at hf
    refine hv_drop (i := 4) (lo' := [some (.ref a0), some (.ref a1), some (.int x2), some (.int x3), none, some (.int x5), some (.int x6)]) ?_
    refine hv_drop (i := 5) (lo' := [some (.ref a0), some (.ref a1), some (.int x2), some (.int x3), none, none, some (.int x6)]) ?_
    refine hv_drop (i := 6) (lo' := [some (.ref a0), some (.ref a1), some (.int x2), some (.int x3), none, none, none]) ?_
    cases hf
    exact E
  · rw [if_neg hc] at hf
    refine hv_aload_n (pn := 20) X d_Sl_seal_19 ?_
    refine hv_aload (pn := 22) X d_Sl_seal_20 ?_
    refine hv_iload (pn := 24) X d_Sl_seal_22 ?_
    obtain ⟨v3, hv3, hf⟩ := bd_E hf
    refine hv_iald (pn := 25) X d_Sl_seal_24 hv3 ?_
    obtain ⟨_, hr4, hf⟩ := bd_E hf
    obtain ⟨σ5, hσ5, hf⟩ := bd_E hf
    obtain ⟨hσ5, mσ5⟩ := ho_cv_E hσ5
    refine hv_callV (pn := 28) X d_Sl_seal_25 (c_Sl_addByte _ _ N σ a0 v3 _ hσ5) cs_Sl_32 q_2_67 rfl q_2_68 hr4 (by decide) (by decide) mσ5 (Nat.le_of_ble_eq_true rfl) ?_
    refine hv_iinc (pn := 31) (i := 6) (v := x6 + 1) (lo' := [some (.ref a0), some (.ref a1), some (.int x2), some (.int x3), some (.ref a4), some (.int x5), some (.int (x6 + 1))]) X d_Sl_seal_28 ?_
    refine hv_goto (tgt := 12) X d_Sl_seal_31 (by decide) ?_
    cases hf
    exact E
set_option maxHeartbeats 4000000 in
set_option maxRecDepth 100000 in
theorem c_Sl_seal (l : Launch) (G : ho_G) (N : Nat) (σ : ho_H) (a0 : Nat) (a1 : Nat) (x2 : Int32) (x3 : Int32) (a4 : Nat) (x5 : Int32) (σ' : ho_H) (hf : f_Sl_seal G N σ a0 a1 x2 x3 a4 x5 = some σ') : hv_C l G y_Sl_seal (Cond.code y_Sl_seal b_Sl_seal 7 none :: hv_ws) 3 109 [.ref a0, .ref a1, .int x2, .int x3, .ref a4, .int x5] σ σ' (none) := by
  refine hv_met [some (.ref a0), some (.ref a1), some (.int x2), some (.int x3), some (.ref a4), some (.int x5), none] (plainFor_of_name (by decide +kernel)) (by intro v hv; simp at hv; rcases hv with rfl | rfl | rfl | rfl | rfl | rfl <;> rfl) (Nat.le_of_ble_eq_true rfl) rfl ?_
  intro k X hkl hkG E
  subst hkl
  subst hkG
  unfold f_Sl_seal at hf
  refine hv_aload_n (pn := 1) X d_Sl_seal_0 ?_
  refine hv_aload_n (pn := 2) X d_Sl_seal_1 ?_
  refine hv_iload_n (pn := 3) X d_Sl_seal_2 ?_
  refine hv_iload_n (pn := 4) X d_Sl_seal_3 ?_
  refine hv_ldc (pn := 6) X d_Sl_seal_4 q_2_54 ?_
  obtain ⟨_, hr1, hf⟩ := bd_E hf
  obtain ⟨σ2, hσ2, hf⟩ := bd_E hf
  obtain ⟨hσ2, mσ2⟩ := ho_cv_E hσ2
  refine hv_callV (pn := 9) X d_Sl_seal_6 (c_Sl_startWithKey _ _ N σ a0 a1 x2 x3 909522486 _ hσ2) cs_Sl_52 q_2_57 rfl qs_Sl_startWithKey hr1 (by decide) (by decide) mσ2 (Nat.le_of_ble_eq_true rfl) ?_
  refine hv_iconst (pn := 10) (v := 0) X d_Sl_seal_9 ?_
  refine hv_istore (pn := 12) (i := 6) (lo' := [some (.ref a0), some (.ref a1), some (.int x2), some (.int x3), some (.ref a4), some (.int x5), some (.int 0)]) X d_Sl_seal_10 ?_
  obtain ⟨σ6, he19, hf⟩ := bd_E hf
  refine hv_loop (P := fun s => hv_V k s.1 12 [some (.ref a0), some (.ref a1), some (.int x2), some (.int x3), some (.ref a4), some (.int x5), some (.int s.2)] []) (Z := fun s => hv_V k s 34 [some (.ref a0), some (.ref a1), some (.int x2), some (.int x3), none, none, none] []) (fun s r h1 h2 => by obtain ⟨σ, x6⟩ := s; exact w_Sl_seal_l12 X N a0 a1 x2 x3 a4 x5 σ x6 r h1 h2) N (σ2, 0) _ he19 ?_
  try dsimp only at hf ⊢
  refine hv_aload_n (pn := 35) X d_Sl_seal_34 ?_
  obtain ⟨_, hr7, hf⟩ := bd_E hf
  obtain ⟨σ8, hσ8, hf⟩ := bd_E hf
  obtain ⟨hσ8, mσ8⟩ := ho_cv_E hσ8
  refine hv_callV (pn := 38) X d_Sl_seal_35 (c_Sl_finish _ _ N σ6 a0 _ hσ8) cs_Sl_56 q_2_71 rfl q_2_72 hr7 (by decide) (by decide) mσ8 (Nat.le_of_ble_eq_true rfl) ?_
  refine hv_aload_n (pn := 39) X d_Sl_seal_38 ?_
  refine hv_aload_n (pn := 40) X d_Sl_seal_39 ?_
  refine hv_iload_n (pn := 41) X d_Sl_seal_40 ?_
  refine hv_iload_n (pn := 42) X d_Sl_seal_41 ?_
  refine hv_ldc (pn := 44) X d_Sl_seal_42 q_2_89 ?_
  obtain ⟨_, hr9, hf⟩ := bd_E hf
  obtain ⟨σ10, hσ10, hf⟩ := bd_E hf
  obtain ⟨hσ10, mσ10⟩ := ho_cv_E hσ10
  refine hv_callV (pn := 47) X d_Sl_seal_44 (c_Sl_startWithKey _ _ N σ8 a0 a1 x2 x3 1549556828 _ hσ10) cs_Sl_52 q_2_57 rfl qs_Sl_startWithKey hr9 (by decide) (by decide) mσ10 (Nat.le_of_ble_eq_true rfl) ?_
  refine hv_aload_n (pn := 48) X d_Sl_seal_47 ?_
  obtain ⟨b11, hb11, hf⟩ := bd_E hf
  refine hv_getR (pn := 51) X d_Sl_seal_48 fa_Sl_9 hb11 ?_
  refine hv_iconst (pn := 52) (v := 0) X d_Sl_seal_51 ?_
  refine hv_aload_n (pn := 53) X d_Sl_seal_52 ?_
  obtain ⟨b12, hb12, hf⟩ := bd_E hf
  refine hv_getR (pn := 56) X d_Sl_seal_53 fa_Sl_16 hb12 ?_
  refine hv_bipush (pn := 58) (v := 16) X d_Sl_seal_56 ?_
  refine hv_bipush (pn := 60) (v := 8) X d_Sl_seal_58 ?_
  obtain ⟨σ13, hσ13, hf⟩ := bd_E hf
  refine hv_cpI (pn := 63) X d_Sl_seal_60 q_2_76 q_2_78 q_2_77 q_1_16 hσ13 (by decide) (by decide +kernel) (Nat.le_of_ble_eq_true rfl) ?_
  refine hv_aload_n (pn := 64) X d_Sl_seal_63 ?_
  refine hv_dup (pn := 65) X d_Sl_seal_64 rfl ?_
  obtain ⟨v14, hv14, hf⟩ := bd_E hf
  refine hv_getI (pn := 68) X d_Sl_seal_65 fa_Sl_28 hv14 ?_
  refine hv_bipush (pn := 70) (v := 32) X d_Sl_seal_68 ?_
  refine hv_iadd (pn := 71) X d_Sl_seal_70 ?_
  obtain ⟨σ15, hσ15, hf⟩ := bd_E hf
  refine hv_put (pn := 74) X d_Sl_seal_71 fp_Sl_28 hσ15 ?_
  refine hv_aload_n (pn := 75) X d_Sl_seal_74 ?_
  obtain ⟨_, hr16, hf⟩ := bd_E hf
  obtain ⟨σ17, hσ17, hf⟩ := bd_E hf
  obtain ⟨hσ17, mσ17⟩ := ho_cv_E hσ17
  refine hv_callV (pn := 78) X d_Sl_seal_75 (c_Sl_finish _ _ N σ15 a0 _ hσ17) cs_Sl_56 q_2_71 rfl q_2_72 hr16 (by decide) (by decide) mσ17 (Nat.le_of_ble_eq_true rfl) ?_
  cases hf
  exact hv_vret X d_Sl_seal_78 E
end
section
theorem d_Ck_init_0 : decode b_Ck_init 0 = .ok (.aload_n 0, 1) := by decide +kernel
theorem d_Ck_init_1 : decode b_Ck_init 1 = .ok (.invokespecial 1, 3) := by decide +kernel
theorem d_Ck_init_4 : decode b_Ck_init 4 = .ok (.aload_n 0, 1) := by decide +kernel
theorem d_Ck_init_5 : decode b_Ck_init 5 = .ok (.iload_n 1, 1) := by decide +kernel
theorem d_Ck_init_6 : decode b_Ck_init 6 = .ok (.putfield 7, 3) := by decide +kernel
theorem d_Ck_init_9 : decode b_Ck_init 9 = .ok (.aload_n 0, 1) := by decide +kernel
theorem d_Ck_init_10 : decode b_Ck_init 10 = .ok (.iload_n 2, 1) := by decide +kernel
theorem d_Ck_init_11 : decode b_Ck_init 11 = .ok (.putfield 13, 3) := by decide +kernel
theorem d_Ck_init_14 : decode b_Ck_init 14 = .ok (.aload_n 0, 1) := by decide +kernel
theorem d_Ck_init_15 : decode b_Ck_init 15 = .ok (.iload_n 3, 1) := by decide +kernel
theorem d_Ck_init_16 : decode b_Ck_init 16 = .ok (.putfield 16, 3) := by decide +kernel
theorem d_Ck_init_19 : decode b_Ck_init 19 = .ok (.return_, 1) := by decide +kernel
theorem d_Sl_init_0 : decode b_Sl_init 0 = .ok (.aload_n 0, 1) := by decide +kernel
theorem d_Sl_init_1 : decode b_Sl_init 1 = .ok (.invokespecial 3, 3) := by decide +kernel
theorem d_Sl_init_4 : decode b_Sl_init 4 = .ok (.aload_n 0, 1) := by decide +kernel
theorem d_Sl_init_5 : decode b_Sl_init 5 = .ok (.bipush 8, 2) := by decide +kernel
theorem d_Sl_init_7 : decode b_Sl_init 7 = .ok (.newarray .int, 2) := by decide +kernel
theorem d_Sl_init_9 : decode b_Sl_init 9 = .ok (.putfield 9, 3) := by decide +kernel
theorem d_Sl_init_12 : decode b_Sl_init 12 = .ok (.aload_n 0, 1) := by decide +kernel
theorem d_Sl_init_13 : decode b_Sl_init 13 = .ok (.bipush 8, 2) := by decide +kernel
theorem d_Sl_init_15 : decode b_Sl_init 15 = .ok (.newarray .int, 2) := by decide +kernel
theorem d_Sl_init_17 : decode b_Sl_init 17 = .ok (.putfield 13, 3) := by decide +kernel
theorem d_Sl_init_20 : decode b_Sl_init 20 = .ok (.aload_n 0, 1) := by decide +kernel
theorem d_Sl_init_21 : decode b_Sl_init 21 = .ok (.bipush 32, 2) := by decide +kernel
theorem d_Sl_init_23 : decode b_Sl_init 23 = .ok (.newarray .int, 2) := by decide +kernel
theorem d_Sl_init_25 : decode b_Sl_init 25 = .ok (.putfield 16, 3) := by decide +kernel
theorem d_Sl_init_28 : decode b_Sl_init 28 = .ok (.aload_n 0, 1) := by decide +kernel
theorem d_Sl_init_29 : decode b_Sl_init 29 = .ok (.bipush 64, 2) := by decide +kernel
theorem d_Sl_init_31 : decode b_Sl_init 31 = .ok (.newarray .int, 2) := by decide +kernel
theorem d_Sl_init_33 : decode b_Sl_init 33 = .ok (.putfield 19, 3) := by decide +kernel
theorem d_Sl_init_36 : decode b_Sl_init 36 = .ok (.return_, 1) := by decide +kernel
theorem d_Kc_init_0 : decode b_Kc_init 0 = .ok (.aload_n 0, 1) := by decide +kernel
theorem d_Kc_init_1 : decode b_Kc_init 1 = .ok (.invokespecial 3, 3) := by decide +kernel
theorem d_Kc_init_4 : decode b_Kc_init 4 = .ok (.aload_n 0, 1) := by decide +kernel
theorem d_Kc_init_5 : decode b_Kc_init 5 = .ok (.sipush 325, 3) := by decide +kernel
theorem d_Kc_init_8 : decode b_Kc_init 8 = .ok (.newarray .int, 2) := by decide +kernel
theorem d_Kc_init_10 : decode b_Kc_init 10 = .ok (.putfield 9, 3) := by decide +kernel
theorem d_Kc_init_13 : decode b_Kc_init 13 = .ok (.aload_n 0, 1) := by decide +kernel
theorem d_Kc_init_14 : decode b_Kc_init 14 = .ok (.iconst (-1), 1) := by decide +kernel
theorem d_Kc_init_15 : decode b_Kc_init 15 = .ok (.putfield 15, 3) := by decide +kernel
theorem d_Kc_init_18 : decode b_Kc_init 18 = .ok (.aload_n 0, 1) := by decide +kernel
theorem d_Kc_init_19 : decode b_Kc_init 19 = .ok (.iconst (-1), 1) := by decide +kernel
theorem d_Kc_init_20 : decode b_Kc_init 20 = .ok (.putfield 19, 3) := by decide +kernel
theorem d_Kc_init_23 : decode b_Kc_init 23 = .ok (.return_, 1) := by decide +kernel
theorem d_Pk_init1_0 : decode b_Pk_init1 0 = .ok (.aload_n 0, 1) := by decide +kernel
theorem d_Pk_init1_1 : decode b_Pk_init1 1 = .ok (.invokespecial 5, 3) := by decide +kernel
theorem d_Pk_init1_4 : decode b_Pk_init1 4 = .ok (.aload_n 0, 1) := by decide +kernel
theorem d_Pk_init1_5 : decode b_Pk_init1 5 = .ok (.bipush 36, 2) := by decide +kernel
theorem d_Pk_init1_7 : decode b_Pk_init1 7 = .ok (.iload_n 3, 1) := by decide +kernel
theorem d_Pk_init1_8 : decode b_Pk_init1 8 = .ok (.iadd, 1) := by decide +kernel
theorem d_Pk_init1_9 : decode b_Pk_init1 9 = .ok (.newarray .int, 2) := by decide +kernel
theorem d_Pk_init1_11 : decode b_Pk_init1 11 = .ok (.putfield 11, 3) := by decide +kernel
theorem d_Pk_init1_14 : decode b_Pk_init1 14 = .ok (.aload_n 0, 1) := by decide +kernel
theorem d_Pk_init1_15 : decode b_Pk_init1 15 = .ok (.getfield 11, 3) := by decide +kernel
theorem d_Pk_init1_18 : decode b_Pk_init1 18 = .ok (.iconst 0, 1) := by decide +kernel
theorem d_Pk_init1_19 : decode b_Pk_init1 19 = .ok (.iload_n 1, 1) := by decide +kernel
theorem d_Pk_init1_20 : decode b_Pk_init1 20 = .ok (.bipush 24, 2) := by decide +kernel
theorem d_Pk_init1_22 : decode b_Pk_init1 22 = .ok (.iushr, 1) := by decide +kernel
theorem d_Pk_init1_23 : decode b_Pk_init1 23 = .ok (.iastore, 1) := by decide +kernel
theorem d_Pk_init1_24 : decode b_Pk_init1 24 = .ok (.aload_n 0, 1) := by decide +kernel
theorem d_Pk_init1_25 : decode b_Pk_init1 25 = .ok (.getfield 11, 3) := by decide +kernel
theorem d_Pk_init1_28 : decode b_Pk_init1 28 = .ok (.iconst 1, 1) := by decide +kernel
theorem d_Pk_init1_29 : decode b_Pk_init1 29 = .ok (.iload_n 1, 1) := by decide +kernel
theorem d_Pk_init1_30 : decode b_Pk_init1 30 = .ok (.bipush 16, 2) := by decide +kernel
theorem d_Pk_init1_32 : decode b_Pk_init1 32 = .ok (.iushr, 1) := by decide +kernel
theorem d_Pk_init1_33 : decode b_Pk_init1 33 = .ok (.sipush 255, 3) := by decide +kernel
theorem d_Pk_init1_36 : decode b_Pk_init1 36 = .ok (.iand, 1) := by decide +kernel
theorem d_Pk_init1_37 : decode b_Pk_init1 37 = .ok (.iastore, 1) := by decide +kernel
theorem d_Pk_init1_38 : decode b_Pk_init1 38 = .ok (.aload_n 0, 1) := by decide +kernel
theorem d_Pk_init1_39 : decode b_Pk_init1 39 = .ok (.getfield 11, 3) := by decide +kernel
theorem d_Pk_init1_42 : decode b_Pk_init1 42 = .ok (.iconst 2, 1) := by decide +kernel
theorem d_Pk_init1_43 : decode b_Pk_init1 43 = .ok (.iload_n 1, 1) := by decide +kernel
theorem d_Pk_init1_44 : decode b_Pk_init1 44 = .ok (.bipush 8, 2) := by decide +kernel
theorem d_Pk_init1_46 : decode b_Pk_init1 46 = .ok (.iushr, 1) := by decide +kernel
theorem d_Pk_init1_47 : decode b_Pk_init1 47 = .ok (.sipush 255, 3) := by decide +kernel
theorem d_Pk_init1_50 : decode b_Pk_init1 50 = .ok (.iand, 1) := by decide +kernel
theorem d_Pk_init1_51 : decode b_Pk_init1 51 = .ok (.iastore, 1) := by decide +kernel
theorem d_Pk_init1_52 : decode b_Pk_init1 52 = .ok (.aload_n 0, 1) := by decide +kernel
theorem d_Pk_init1_53 : decode b_Pk_init1 53 = .ok (.getfield 11, 3) := by decide +kernel
theorem d_Pk_init1_56 : decode b_Pk_init1 56 = .ok (.iconst 3, 1) := by decide +kernel
theorem d_Pk_init1_57 : decode b_Pk_init1 57 = .ok (.iload_n 1, 1) := by decide +kernel
theorem d_Pk_init1_58 : decode b_Pk_init1 58 = .ok (.sipush 255, 3) := by decide +kernel
theorem d_Pk_init1_61 : decode b_Pk_init1 61 = .ok (.iand, 1) := by decide +kernel
theorem d_Pk_init1_62 : decode b_Pk_init1 62 = .ok (.iastore, 1) := by decide +kernel
theorem d_Pk_init1_63 : decode b_Pk_init1 63 = .ok (.aload_n 0, 1) := by decide +kernel
theorem d_Pk_init1_64 : decode b_Pk_init1 64 = .ok (.getfield 11, 3) := by decide +kernel
theorem d_Pk_init1_67 : decode b_Pk_init1 67 = .ok (.iconst 4, 1) := by decide +kernel
theorem d_Pk_init1_68 : decode b_Pk_init1 68 = .ok (.iload_n 2, 1) := by decide +kernel
theorem d_Pk_init1_69 : decode b_Pk_init1 69 = .ok (.iastore, 1) := by decide +kernel
theorem d_Pk_init1_70 : decode b_Pk_init1 70 = .ok (.aload_n 0, 1) := by decide +kernel
theorem d_Pk_init1_71 : decode b_Pk_init1 71 = .ok (.getfield 11, 3) := by decide +kernel
theorem d_Pk_init1_74 : decode b_Pk_init1 74 = .ok (.iconst 5, 1) := by decide +kernel
theorem d_Pk_init1_75 : decode b_Pk_init1 75 = .ok (.iload_n 3, 1) := by decide +kernel
theorem d_Pk_init1_76 : decode b_Pk_init1 76 = .ok (.iastore, 1) := by decide +kernel
theorem d_Pk_init1_77 : decode b_Pk_init1 77 = .ok (.return_, 1) := by decide +kernel
theorem d_Pk_interval_0 : decode b_Pk_interval 0 = .ok (.aload_n 0, 1) := by decide +kernel
theorem d_Pk_interval_1 : decode b_Pk_interval 1 = .ok (.getfield 11, 3) := by decide +kernel
theorem d_Pk_interval_4 : decode b_Pk_interval 4 = .ok (.iconst 0, 1) := by decide +kernel
theorem d_Pk_interval_5 : decode b_Pk_interval 5 = .ok (.invokestatic 20, 3) := by decide +kernel
theorem d_Pk_interval_8 : decode b_Pk_interval 8 = .ok (.ireturn, 1) := by decide +kernel
theorem d_Pk_size_0 : decode b_Pk_size 0 = .ok (.aload_n 0, 1) := by decide +kernel
theorem d_Pk_size_1 : decode b_Pk_size 1 = .ok (.getfield 11, 3) := by decide +kernel
theorem d_Pk_size_4 : decode b_Pk_size 4 = .ok (.iconst 5, 1) := by decide +kernel
theorem d_Pk_size_5 : decode b_Pk_size 5 = .ok (.iaload, 1) := by decide +kernel
theorem d_Pk_size_6 : decode b_Pk_size 6 = .ok (.ireturn, 1) := by decide +kernel
theorem d_Pk_kind_0 : decode b_Pk_kind 0 = .ok (.aload_n 0, 1) := by decide +kernel
theorem d_Pk_kind_1 : decode b_Pk_kind 1 = .ok (.getfield 11, 3) := by decide +kernel
theorem d_Pk_kind_4 : decode b_Pk_kind 4 = .ok (.iconst 4, 1) := by decide +kernel
theorem d_Pk_kind_5 : decode b_Pk_kind 5 = .ok (.iaload, 1) := by decide +kernel
theorem d_Pk_kind_6 : decode b_Pk_kind 6 = .ok (.ireturn, 1) := by decide +kernel
theorem d_Pk_codeAt_0 : decode b_Pk_codeAt 0 = .ok (.bipush 6, 2) := by decide +kernel
theorem d_Pk_codeAt_2 : decode b_Pk_codeAt 2 = .ok (.aload_n 0, 1) := by decide +kernel
theorem d_Pk_codeAt_3 : decode b_Pk_codeAt 3 = .ok (.invokevirtual 24, 3) := by decide +kernel
theorem d_Pk_codeAt_6 : decode b_Pk_codeAt 6 = .ok (.iadd, 1) := by decide +kernel
theorem d_Pk_codeAt_7 : decode b_Pk_codeAt 7 = .ok (.ireturn, 1) := by decide +kernel
theorem d_Pk_shownAt_0 : decode b_Pk_shownAt 0 = .ok (.aload_n 0, 1) := by decide +kernel
theorem d_Pk_shownAt_1 : decode b_Pk_shownAt 1 = .ok (.invokevirtual 28, 3) := by decide +kernel
theorem d_Pk_shownAt_4 : decode b_Pk_shownAt 4 = .ok (.bipush 10, 2) := by decide +kernel
theorem d_Pk_shownAt_6 : decode b_Pk_shownAt 6 = .ok (.iadd, 1) := by decide +kernel
theorem d_Pk_shownAt_7 : decode b_Pk_shownAt 7 = .ok (.ireturn, 1) := by decide +kernel
theorem d_Pk_isBroken_0 : decode b_Pk_isBroken 0 = .ok (.aload_n 0, 1) := by decide +kernel
theorem d_Pk_isBroken_1 : decode b_Pk_isBroken 1 = .ok (.invokevirtual 24, 3) := by decide +kernel
theorem d_Pk_isBroken_4 : decode b_Pk_isBroken 4 = .ok (.istore_n 1, 1) := by decide +kernel
theorem d_Pk_isBroken_5 : decode b_Pk_isBroken 5 = .ok (.aload_n 0, 1) := by decide +kernel
theorem d_Pk_isBroken_6 : decode b_Pk_isBroken 6 = .ok (.invokevirtual 31, 3) := by decide +kernel
theorem d_Pk_isBroken_9 : decode b_Pk_isBroken 9 = .ok (.istore_n 2, 1) := by decide +kernel
theorem d_Pk_isBroken_10 : decode b_Pk_isBroken 10 = .ok (.aload_n 0, 1) := by decide +kernel
theorem d_Pk_isBroken_11 : decode b_Pk_isBroken 11 = .ok (.getfield 11, 3) := by decide +kernel
theorem d_Pk_isBroken_14 : decode b_Pk_isBroken 14 = .ok (.arraylength, 1) := by decide +kernel
theorem d_Pk_isBroken_15 : decode b_Pk_isBroken 15 = .ok (.bipush 36, 2) := by decide +kernel
theorem d_Pk_isBroken_17 : decode b_Pk_isBroken 17 = .ok (.iload_n 1, 1) := by decide +kernel
theorem d_Pk_isBroken_18 : decode b_Pk_isBroken 18 = .ok (.iadd, 1) := by decide +kernel
theorem d_Pk_isBroken_19 : decode b_Pk_isBroken 19 = .ok (.if_icmp .ne 50, 3) := by decide +kernel
theorem d_Pk_isBroken_22 : decode b_Pk_isBroken 22 = .ok (.iload_n 1, 1) := by decide +kernel
theorem d_Pk_isBroken_23 : decode b_Pk_isBroken 23 = .ok (.bipush 32, 2) := by decide +kernel
theorem d_Pk_isBroken_25 : decode b_Pk_isBroken 25 = .ok (.if_icmp .gt 44, 3) := by decide +kernel
theorem d_Pk_isBroken_28 : decode b_Pk_isBroken 28 = .ok (.aload_n 0, 1) := by decide +kernel
theorem d_Pk_isBroken_29 : decode b_Pk_isBroken 29 = .ok (.invokevirtual 34, 3) := by decide +kernel
theorem d_Pk_isBroken_32 : decode b_Pk_isBroken 32 = .ok (.ifCond .eq 11, 3) := by decide +kernel
theorem d_Pk_isBroken_35 : decode b_Pk_isBroken 35 = .ok (.aload_n 0, 1) := by decide +kernel
theorem d_Pk_isBroken_36 : decode b_Pk_isBroken 36 = .ok (.invokevirtual 34, 3) := by decide +kernel
theorem d_Pk_isBroken_39 : decode b_Pk_isBroken 39 = .ok (.iconst 1, 1) := by decide +kernel
theorem d_Pk_isBroken_40 : decode b_Pk_isBroken 40 = .ok (.if_icmp .ne 29, 3) := by decide +kernel
theorem d_Pk_isBroken_43 : decode b_Pk_isBroken 43 = .ok (.aload_n 0, 1) := by decide +kernel
theorem d_Pk_isBroken_44 : decode b_Pk_isBroken 44 = .ok (.invokevirtual 34, 3) := by decide +kernel
theorem d_Pk_isBroken_47 : decode b_Pk_isBroken 47 = .ok (.iconst 1, 1) := by decide +kernel
theorem d_Pk_isBroken_48 : decode b_Pk_isBroken 48 = .ok (.if_icmp .ne 9, 3) := by decide +kernel
theorem d_Pk_isBroken_51 : decode b_Pk_isBroken 51 = .ok (.iload_n 1, 1) := by decide +kernel
theorem d_Pk_isBroken_52 : decode b_Pk_isBroken 52 = .ok (.bipush 20, 2) := by decide +kernel
theorem d_Pk_isBroken_54 : decode b_Pk_isBroken 54 = .ok (.if_icmp .ne 15, 3) := by decide +kernel
theorem d_Pk_isBroken_57 : decode b_Pk_isBroken 57 = .ok (.iload_n 2, 1) := by decide +kernel
theorem d_Pk_isBroken_58 : decode b_Pk_isBroken 58 = .ok (.iconst 1, 1) := by decide +kernel
theorem d_Pk_isBroken_59 : decode b_Pk_isBroken 59 = .ok (.if_icmp .lt 10, 3) := by decide +kernel
theorem d_Pk_isBroken_62 : decode b_Pk_isBroken 62 = .ok (.iload_n 2, 1) := by decide +kernel
theorem d_Pk_isBroken_63 : decode b_Pk_isBroken 63 = .ok (.sipush 512, 3) := by decide +kernel
theorem d_Pk_isBroken_66 : decode b_Pk_isBroken 66 = .ok (.if_icmp .le 7, 3) := by decide +kernel
theorem d_Pk_isBroken_69 : decode b_Pk_isBroken 69 = .ok (.iconst 1, 1) := by decide +kernel
theorem d_Pk_isBroken_70 : decode b_Pk_isBroken 70 = .ok (.goto 4, 3) := by decide +kernel
theorem d_Pk_isBroken_73 : decode b_Pk_isBroken 73 = .ok (.iconst 0, 1) := by decide +kernel
theorem d_Pk_isBroken_74 : decode b_Pk_isBroken 74 = .ok (.ireturn, 1) := by decide +kernel
theorem d_Pk_writeCode_0 : decode b_Pk_writeCode 0 = .ok (.iconst 0, 1) := by decide +kernel
theorem d_Pk_writeCode_1 : decode b_Pk_writeCode 1 = .ok (.istore_n 2, 1) := by decide +kernel
theorem d_Pk_writeCode_2 : decode b_Pk_writeCode 2 = .ok (.iload_n 2, 1) := by decide +kernel
theorem d_Pk_writeCode_3 : decode b_Pk_writeCode 3 = .ok (.bipush 10, 2) := by decide +kernel
theorem d_Pk_writeCode_5 : decode b_Pk_writeCode 5 = .ok (.if_icmp .ge 25, 3) := by decide +kernel
theorem d_Pk_writeCode_8 : decode b_Pk_writeCode 8 = .ok (.aload_n 0, 1) := by decide +kernel
theorem d_Pk_writeCode_9 : decode b_Pk_writeCode 9 = .ok (.getfield 11, 3) := by decide +kernel
theorem d_Pk_writeCode_12 : decode b_Pk_writeCode 12 = .ok (.aload_n 0, 1) := by decide +kernel
theorem d_Pk_writeCode_13 : decode b_Pk_writeCode 13 = .ok (.invokevirtual 28, 3) := by decide +kernel
theorem d_Pk_writeCode_16 : decode b_Pk_writeCode 16 = .ok (.iload_n 2, 1) := by decide +kernel
theorem d_Pk_writeCode_17 : decode b_Pk_writeCode 17 = .ok (.iadd, 1) := by decide +kernel
theorem d_Pk_writeCode_18 : decode b_Pk_writeCode 18 = .ok (.aload_n 1, 1) := by decide +kernel
theorem d_Pk_writeCode_19 : decode b_Pk_writeCode 19 = .ok (.iload_n 2, 1) := by decide +kernel
theorem d_Pk_writeCode_20 : decode b_Pk_writeCode 20 = .ok (.invokestatic 37, 3) := by decide +kernel
theorem d_Pk_writeCode_23 : decode b_Pk_writeCode 23 = .ok (.iastore, 1) := by decide +kernel
theorem d_Pk_writeCode_24 : decode b_Pk_writeCode 24 = .ok (.iinc 2 1, 3) := by decide +kernel
theorem d_Pk_writeCode_27 : decode b_Pk_writeCode 27 = .ok (.goto (-25), 3) := by decide +kernel
theorem d_Pk_writeCode_30 : decode b_Pk_writeCode 30 = .ok (.return_, 1) := by decide +kernel
theorem d_Pk_hasCode_0 : decode b_Pk_hasCode 0 = .ok (.iconst 0, 1) := by decide +kernel
theorem d_Pk_hasCode_1 : decode b_Pk_hasCode 1 = .ok (.istore_n 2, 1) := by decide +kernel
theorem d_Pk_hasCode_2 : decode b_Pk_hasCode 2 = .ok (.iload_n 2, 1) := by decide +kernel
theorem d_Pk_hasCode_3 : decode b_Pk_hasCode 3 = .ok (.bipush 10, 2) := by decide +kernel
theorem d_Pk_hasCode_5 : decode b_Pk_hasCode 5 = .ok (.if_icmp .ge 30, 3) := by decide +kernel
theorem d_Pk_hasCode_8 : decode b_Pk_hasCode 8 = .ok (.aload_n 0, 1) := by decide +kernel
theorem d_Pk_hasCode_9 : decode b_Pk_hasCode 9 = .ok (.getfield 11, 3) := by decide +kernel
theorem d_Pk_hasCode_12 : decode b_Pk_hasCode 12 = .ok (.aload_n 0, 1) := by decide +kernel
theorem d_Pk_hasCode_13 : decode b_Pk_hasCode 13 = .ok (.invokevirtual 28, 3) := by decide +kernel
theorem d_Pk_hasCode_16 : decode b_Pk_hasCode 16 = .ok (.iload_n 2, 1) := by decide +kernel
theorem d_Pk_hasCode_17 : decode b_Pk_hasCode 17 = .ok (.iadd, 1) := by decide +kernel
theorem d_Pk_hasCode_18 : decode b_Pk_hasCode 18 = .ok (.iaload, 1) := by decide +kernel
theorem d_Pk_hasCode_19 : decode b_Pk_hasCode 19 = .ok (.aload_n 1, 1) := by decide +kernel
theorem d_Pk_hasCode_20 : decode b_Pk_hasCode 20 = .ok (.iload_n 2, 1) := by decide +kernel
theorem d_Pk_hasCode_21 : decode b_Pk_hasCode 21 = .ok (.invokestatic 37, 3) := by decide +kernel
theorem d_Pk_hasCode_24 : decode b_Pk_hasCode 24 = .ok (.if_icmp .eq 5, 3) := by decide +kernel
theorem d_Pk_hasCode_27 : decode b_Pk_hasCode 27 = .ok (.iconst 0, 1) := by decide +kernel
theorem d_Pk_hasCode_28 : decode b_Pk_hasCode 28 = .ok (.ireturn, 1) := by decide +kernel
theorem d_Pk_hasCode_29 : decode b_Pk_hasCode 29 = .ok (.iinc 2 1, 3) := by decide +kernel
theorem d_Pk_hasCode_32 : decode b_Pk_hasCode 32 = .ok (.goto (-30), 3) := by decide +kernel
theorem d_Pk_hasCode_35 : decode b_Pk_hasCode 35 = .ok (.iconst 1, 1) := by decide +kernel
theorem d_Pk_hasCode_36 : decode b_Pk_hasCode 36 = .ok (.ireturn, 1) := by decide +kernel
theorem d_Pk_isTwinOf_0 : decode b_Pk_isTwinOf 0 = .ok (.aload_n 0, 1) := by decide +kernel
theorem d_Pk_isTwinOf_1 : decode b_Pk_isTwinOf 1 = .ok (.invokevirtual 31, 3) := by decide +kernel
theorem d_Pk_isTwinOf_4 : decode b_Pk_isTwinOf 4 = .ok (.aload_n 1, 1) := by decide +kernel
theorem d_Pk_isTwinOf_5 : decode b_Pk_isTwinOf 5 = .ok (.invokevirtual 31, 3) := by decide +kernel
theorem d_Pk_isTwinOf_8 : decode b_Pk_isTwinOf 8 = .ok (.if_icmp .eq 5, 3) := by decide +kernel
theorem d_Pk_isTwinOf_11 : decode b_Pk_isTwinOf 11 = .ok (.iconst 0, 1) := by decide +kernel
theorem d_Pk_isTwinOf_12 : decode b_Pk_isTwinOf 12 = .ok (.ireturn, 1) := by decide +kernel
theorem d_Pk_isTwinOf_13 : decode b_Pk_isTwinOf 13 = .ok (.iconst 0, 1) := by decide +kernel
theorem d_Pk_isTwinOf_14 : decode b_Pk_isTwinOf 14 = .ok (.istore_n 2, 1) := by decide +kernel
theorem d_Pk_isTwinOf_15 : decode b_Pk_isTwinOf 15 = .ok (.iload_n 2, 1) := by decide +kernel
theorem d_Pk_isTwinOf_16 : decode b_Pk_isTwinOf 16 = .ok (.bipush 10, 2) := by decide +kernel
theorem d_Pk_isTwinOf_18 : decode b_Pk_isTwinOf 18 = .ok (.if_icmp .ge 36, 3) := by decide +kernel
theorem d_Pk_isTwinOf_21 : decode b_Pk_isTwinOf 21 = .ok (.aload_n 0, 1) := by decide +kernel
theorem d_Pk_isTwinOf_22 : decode b_Pk_isTwinOf 22 = .ok (.getfield 11, 3) := by decide +kernel
theorem d_Pk_isTwinOf_25 : decode b_Pk_isTwinOf 25 = .ok (.aload_n 0, 1) := by decide +kernel
theorem d_Pk_isTwinOf_26 : decode b_Pk_isTwinOf 26 = .ok (.invokevirtual 28, 3) := by decide +kernel
theorem d_Pk_isTwinOf_29 : decode b_Pk_isTwinOf 29 = .ok (.iload_n 2, 1) := by decide +kernel
theorem d_Pk_isTwinOf_30 : decode b_Pk_isTwinOf 30 = .ok (.iadd, 1) := by decide +kernel
theorem d_Pk_isTwinOf_31 : decode b_Pk_isTwinOf 31 = .ok (.iaload, 1) := by decide +kernel
theorem d_Pk_isTwinOf_32 : decode b_Pk_isTwinOf 32 = .ok (.aload_n 1, 1) := by decide +kernel
theorem d_Pk_isTwinOf_33 : decode b_Pk_isTwinOf 33 = .ok (.getfield 11, 3) := by decide +kernel
theorem d_Pk_isTwinOf_36 : decode b_Pk_isTwinOf 36 = .ok (.aload_n 1, 1) := by decide +kernel
theorem d_Pk_isTwinOf_37 : decode b_Pk_isTwinOf 37 = .ok (.invokevirtual 28, 3) := by decide +kernel
theorem d_Pk_isTwinOf_40 : decode b_Pk_isTwinOf 40 = .ok (.iload_n 2, 1) := by decide +kernel
theorem d_Pk_isTwinOf_41 : decode b_Pk_isTwinOf 41 = .ok (.iadd, 1) := by decide +kernel
theorem d_Pk_isTwinOf_42 : decode b_Pk_isTwinOf 42 = .ok (.iaload, 1) := by decide +kernel
theorem d_Pk_isTwinOf_43 : decode b_Pk_isTwinOf 43 = .ok (.if_icmp .eq 5, 3) := by decide +kernel
theorem d_Pk_isTwinOf_46 : decode b_Pk_isTwinOf 46 = .ok (.iconst 0, 1) := by decide +kernel
theorem d_Pk_isTwinOf_47 : decode b_Pk_isTwinOf 47 = .ok (.ireturn, 1) := by decide +kernel
theorem d_Pk_isTwinOf_48 : decode b_Pk_isTwinOf 48 = .ok (.iinc 2 1, 3) := by decide +kernel
theorem d_Pk_isTwinOf_51 : decode b_Pk_isTwinOf 51 = .ok (.goto (-36), 3) := by decide +kernel
theorem d_Pk_isTwinOf_54 : decode b_Pk_isTwinOf 54 = .ok (.iconst 1, 1) := by decide +kernel
theorem d_Pk_isTwinOf_55 : decode b_Pk_isTwinOf 55 = .ok (.ireturn, 1) := by decide +kernel
theorem d_Kc_isKnown_0 : decode b_Kc_isKnown 0 = .ok (.aload_n 0, 1) := by decide +kernel
theorem d_Kc_isKnown_1 : decode b_Kc_isKnown 1 = .ok (.getfield 19, 3) := by decide +kernel
theorem d_Kc_isKnown_4 : decode b_Kc_isKnown 4 = .ok (.iconst (-1), 1) := by decide +kernel
theorem d_Kc_isKnown_5 : decode b_Kc_isKnown 5 = .ok (.if_icmp .eq 7, 3) := by decide +kernel
theorem d_Kc_isKnown_8 : decode b_Kc_isKnown 8 = .ok (.iconst 1, 1) := by decide +kernel
theorem d_Kc_isKnown_9 : decode b_Kc_isKnown 9 = .ok (.goto 4, 3) := by decide +kernel
theorem d_Kc_isKnown_12 : decode b_Kc_isKnown 12 = .ok (.iconst 0, 1) := by decide +kernel
theorem d_Kc_isKnown_13 : decode b_Kc_isKnown 13 = .ok (.ireturn, 1) := by decide +kernel
theorem d_Kc_forget_0 : decode b_Kc_forget 0 = .ok (.aload_n 0, 1) := by decide +kernel
theorem d_Kc_forget_1 : decode b_Kc_forget 1 = .ok (.iconst (-1), 1) := by decide +kernel
theorem d_Kc_forget_2 : decode b_Kc_forget 2 = .ok (.putfield 15, 3) := by decide +kernel
theorem d_Kc_forget_5 : decode b_Kc_forget 5 = .ok (.aload_n 0, 1) := by decide +kernel
theorem d_Kc_forget_6 : decode b_Kc_forget 6 = .ok (.iconst (-1), 1) := by decide +kernel
theorem d_Kc_forget_7 : decode b_Kc_forget 7 = .ok (.putfield 19, 3) := by decide +kernel
theorem d_Kc_forget_10 : decode b_Kc_forget 10 = .ok (.return_, 1) := by decide +kernel
theorem d_Kc_putTopKey_0 : decode b_Kc_putTopKey 0 = .ok (.sipush 320, 3) := by decide +kernel
theorem d_Kc_putTopKey_3 : decode b_Kc_putTopKey 3 = .ok (.istore 6, 2) := by decide +kernel
theorem d_Kc_putTopKey_5 : decode b_Kc_putTopKey 5 = .ok (.aload_n 0, 1) := by decide +kernel
theorem d_Kc_putTopKey_6 : decode b_Kc_putTopKey 6 = .ok (.getfield 9, 3) := by decide +kernel
theorem d_Kc_putTopKey_9 : decode b_Kc_putTopKey 9 = .ok (.iload 6, 2) := by decide +kernel
theorem d_Kc_putTopKey_11 : decode b_Kc_putTopKey 11 = .ok (.iload_n 1, 1) := by decide +kernel
theorem d_Kc_putTopKey_12 : decode b_Kc_putTopKey 12 = .ok (.iastore, 1) := by decide +kernel
theorem d_Kc_putTopKey_13 : decode b_Kc_putTopKey 13 = .ok (.aload_n 0, 1) := by decide +kernel
theorem d_Kc_putTopKey_14 : decode b_Kc_putTopKey 14 = .ok (.getfield 9, 3) := by decide +kernel
theorem d_Kc_putTopKey_17 : decode b_Kc_putTopKey 17 = .ok (.iload 6, 2) := by decide +kernel
theorem d_Kc_putTopKey_19 : decode b_Kc_putTopKey 19 = .ok (.iconst 1, 1) := by decide +kernel
theorem d_Kc_putTopKey_20 : decode b_Kc_putTopKey 20 = .ok (.iadd, 1) := by decide +kernel
theorem d_Kc_putTopKey_21 : decode b_Kc_putTopKey 21 = .ok (.iload_n 2, 1) := by decide +kernel
theorem d_Kc_putTopKey_22 : decode b_Kc_putTopKey 22 = .ok (.iastore, 1) := by decide +kernel
theorem d_Kc_putTopKey_23 : decode b_Kc_putTopKey 23 = .ok (.aload_n 0, 1) := by decide +kernel
theorem d_Kc_putTopKey_24 : decode b_Kc_putTopKey 24 = .ok (.getfield 9, 3) := by decide +kernel
theorem d_Kc_putTopKey_27 : decode b_Kc_putTopKey 27 = .ok (.iload 6, 2) := by decide +kernel
theorem d_Kc_putTopKey_29 : decode b_Kc_putTopKey 29 = .ok (.iconst 2, 1) := by decide +kernel
theorem d_Kc_putTopKey_30 : decode b_Kc_putTopKey 30 = .ok (.iadd, 1) := by decide +kernel
theorem d_Kc_putTopKey_31 : decode b_Kc_putTopKey 31 = .ok (.iload_n 3, 1) := by decide +kernel
theorem d_Kc_putTopKey_32 : decode b_Kc_putTopKey 32 = .ok (.iastore, 1) := by decide +kernel
theorem d_Kc_putTopKey_33 : decode b_Kc_putTopKey 33 = .ok (.aload_n 0, 1) := by decide +kernel
theorem d_Kc_putTopKey_34 : decode b_Kc_putTopKey 34 = .ok (.getfield 9, 3) := by decide +kernel
theorem d_Kc_putTopKey_37 : decode b_Kc_putTopKey 37 = .ok (.iload 6, 2) := by decide +kernel
theorem d_Kc_putTopKey_39 : decode b_Kc_putTopKey 39 = .ok (.iconst 3, 1) := by decide +kernel
theorem d_Kc_putTopKey_40 : decode b_Kc_putTopKey 40 = .ok (.iadd, 1) := by decide +kernel
theorem d_Kc_putTopKey_41 : decode b_Kc_putTopKey 41 = .ok (.iload 4, 2) := by decide +kernel
theorem d_Kc_putTopKey_43 : decode b_Kc_putTopKey 43 = .ok (.iastore, 1) := by decide +kernel
theorem d_Kc_putTopKey_44 : decode b_Kc_putTopKey 44 = .ok (.aload_n 0, 1) := by decide +kernel
theorem d_Kc_putTopKey_45 : decode b_Kc_putTopKey 45 = .ok (.getfield 9, 3) := by decide +kernel
theorem d_Kc_putTopKey_48 : decode b_Kc_putTopKey 48 = .ok (.iload 6, 2) := by decide +kernel
theorem d_Kc_putTopKey_50 : decode b_Kc_putTopKey 50 = .ok (.iconst 4, 1) := by decide +kernel
theorem d_Kc_putTopKey_51 : decode b_Kc_putTopKey 51 = .ok (.iadd, 1) := by decide +kernel
theorem d_Kc_putTopKey_52 : decode b_Kc_putTopKey 52 = .ok (.iload 5, 2) := by decide +kernel
theorem d_Kc_putTopKey_54 : decode b_Kc_putTopKey 54 = .ok (.iastore, 1) := by decide +kernel
theorem d_Kc_putTopKey_55 : decode b_Kc_putTopKey 55 = .ok (.return_, 1) := by decide +kernel
theorem d_Kc_fillDown_0 : decode b_Kc_fillDown 0 = .ok (.iload_n 1, 1) := by decide +kernel
theorem d_Kc_fillDown_1 : decode b_Kc_fillDown 1 = .ok (.istore 4, 2) := by decide +kernel
theorem d_Kc_fillDown_3 : decode b_Kc_fillDown 3 = .ok (.iload 4, 2) := by decide +kernel
theorem d_Kc_fillDown_5 : decode b_Kc_fillDown 5 = .ok (.iload_n 2, 1) := by decide +kernel
theorem d_Kc_fillDown_6 : decode b_Kc_fillDown 6 = .ok (.if_icmp .le 48, 3) := by decide +kernel
theorem d_Kc_fillDown_9 : decode b_Kc_fillDown 9 = .ok (.aload_n 3, 1) := by decide +kernel
theorem d_Kc_fillDown_10 : decode b_Kc_fillDown 10 = .ok (.aload_n 0, 1) := by decide +kernel
theorem d_Kc_fillDown_11 : decode b_Kc_fillDown 11 = .ok (.getfield 9, 3) := by decide +kernel
theorem d_Kc_fillDown_14 : decode b_Kc_fillDown 14 = .ok (.iload 4, 2) := by decide +kernel
theorem d_Kc_fillDown_16 : decode b_Kc_fillDown 16 = .ok (.iconst 5, 1) := by decide +kernel
theorem d_Kc_fillDown_17 : decode b_Kc_fillDown 17 = .ok (.imul, 1) := by decide +kernel
theorem d_Kc_fillDown_18 : decode b_Kc_fillDown 18 = .ok (.iconst 5, 1) := by decide +kernel
theorem d_Kc_fillDown_19 : decode b_Kc_fillDown 19 = .ok (.getstatic 22, 3) := by decide +kernel
theorem d_Kc_fillDown_22 : decode b_Kc_fillDown 22 = .ok (.getstatic 22, 3) := by decide +kernel
theorem d_Kc_fillDown_25 : decode b_Kc_fillDown 25 = .ok (.arraylength, 1) := by decide +kernel
theorem d_Kc_fillDown_26 : decode b_Kc_fillDown 26 = .ok (.invokevirtual 25, 3) := by decide +kernel
theorem d_Kc_fillDown_29 : decode b_Kc_fillDown 29 = .ok (.aload_n 3, 1) := by decide +kernel
theorem d_Kc_fillDown_30 : decode b_Kc_fillDown 30 = .ok (.getfield 31, 3) := by decide +kernel
theorem d_Kc_fillDown_33 : decode b_Kc_fillDown 33 = .ok (.iconst 0, 1) := by decide +kernel
theorem d_Kc_fillDown_34 : decode b_Kc_fillDown 34 = .ok (.aload_n 0, 1) := by decide +kernel
theorem d_Kc_fillDown_35 : decode b_Kc_fillDown 35 = .ok (.getfield 9, 3) := by decide +kernel
theorem d_Kc_fillDown_38 : decode b_Kc_fillDown 38 = .ok (.iload 4, 2) := by decide +kernel
theorem d_Kc_fillDown_40 : decode b_Kc_fillDown 40 = .ok (.iconst 1, 1) := by decide +kernel
theorem d_Kc_fillDown_41 : decode b_Kc_fillDown 41 = .ok (.isub, 1) := by decide +kernel
theorem d_Kc_fillDown_42 : decode b_Kc_fillDown 42 = .ok (.iconst 5, 1) := by decide +kernel
theorem d_Kc_fillDown_43 : decode b_Kc_fillDown 43 = .ok (.imul, 1) := by decide +kernel
theorem d_Kc_fillDown_44 : decode b_Kc_fillDown 44 = .ok (.iconst 5, 1) := by decide +kernel
theorem d_Kc_fillDown_45 : decode b_Kc_fillDown 45 = .ok (.invokestatic 34, 3) := by decide +kernel
theorem d_Kc_fillDown_48 : decode b_Kc_fillDown 48 = .ok (.iinc 4 (-1), 3) := by decide +kernel
theorem d_Kc_fillDown_51 : decode b_Kc_fillDown 51 = .ok (.goto (-48), 3) := by decide +kernel
theorem d_Kc_fillDown_54 : decode b_Kc_fillDown 54 = .ok (.return_, 1) := by decide +kernel
theorem d_Kc_byteAt_0 : decode b_Kc_byteAt 0 = .ok (.aload_n 0, 1) := by decide +kernel
theorem d_Kc_byteAt_1 : decode b_Kc_byteAt 1 = .ok (.getfield 9, 3) := by decide +kernel
theorem d_Kc_byteAt_4 : decode b_Kc_byteAt 4 = .ok (.iload_n 1, 1) := by decide +kernel
theorem d_Kc_byteAt_5 : decode b_Kc_byteAt 5 = .ok (.bipush 20, 2) := by decide +kernel
theorem d_Kc_byteAt_7 : decode b_Kc_byteAt 7 = .ok (.imul, 1) := by decide +kernel
theorem d_Kc_byteAt_8 : decode b_Kc_byteAt 8 = .ok (.iload_n 2, 1) := by decide +kernel
theorem d_Kc_byteAt_9 : decode b_Kc_byteAt 9 = .ok (.iadd, 1) := by decide +kernel
theorem d_Kc_byteAt_10 : decode b_Kc_byteAt 10 = .ok (.invokestatic 40, 3) := by decide +kernel
theorem d_Kc_byteAt_13 : decode b_Kc_byteAt 13 = .ok (.ireturn, 1) := by decide +kernel
theorem d_Kc_writeKey_0 : decode b_Kc_writeKey 0 = .ok (.iconst 0, 1) := by decide +kernel
theorem d_Kc_writeKey_1 : decode b_Kc_writeKey 1 = .ok (.istore 4, 2) := by decide +kernel
theorem d_Kc_writeKey_3 : decode b_Kc_writeKey 3 = .ok (.iload 4, 2) := by decide +kernel
theorem d_Kc_writeKey_5 : decode b_Kc_writeKey 5 = .ok (.bipush 20, 2) := by decide +kernel
theorem d_Kc_writeKey_7 : decode b_Kc_writeKey 7 = .ok (.if_icmp .ge 22, 3) := by decide +kernel
theorem d_Kc_writeKey_10 : decode b_Kc_writeKey 10 = .ok (.aload_n 2, 1) := by decide +kernel
theorem d_Kc_writeKey_11 : decode b_Kc_writeKey 11 = .ok (.iload_n 3, 1) := by decide +kernel
theorem d_Kc_writeKey_12 : decode b_Kc_writeKey 12 = .ok (.iload 4, 2) := by decide +kernel
theorem d_Kc_writeKey_14 : decode b_Kc_writeKey 14 = .ok (.iadd, 1) := by decide +kernel
theorem d_Kc_writeKey_15 : decode b_Kc_writeKey 15 = .ok (.aload_n 0, 1) := by decide +kernel
theorem d_Kc_writeKey_16 : decode b_Kc_writeKey 16 = .ok (.iload_n 1, 1) := by decide +kernel
theorem d_Kc_writeKey_17 : decode b_Kc_writeKey 17 = .ok (.iload 4, 2) := by decide +kernel
theorem d_Kc_writeKey_19 : decode b_Kc_writeKey 19 = .ok (.invokevirtual 44, 3) := by decide +kernel
theorem d_Kc_writeKey_22 : decode b_Kc_writeKey 22 = .ok (.iastore, 1) := by decide +kernel
theorem d_Kc_writeKey_23 : decode b_Kc_writeKey 23 = .ok (.iinc 4 1, 3) := by decide +kernel
theorem d_Kc_writeKey_26 : decode b_Kc_writeKey 26 = .ok (.goto (-23), 3) := by decide +kernel
theorem d_Kc_writeKey_29 : decode b_Kc_writeKey 29 = .ok (.return_, 1) := by decide +kernel
theorem d_Kc_learnFrom_0 : decode b_Kc_learnFrom 0 = .ok (.aload_n 1, 1) := by decide +kernel
theorem d_Kc_learnFrom_1 : decode b_Kc_learnFrom 1 = .ok (.getfield 9, 3) := by decide +kernel
theorem d_Kc_learnFrom_4 : decode b_Kc_learnFrom 4 = .ok (.iload_n 2, 1) := by decide +kernel
theorem d_Kc_learnFrom_5 : decode b_Kc_learnFrom 5 = .ok (.iconst 5, 1) := by decide +kernel
theorem d_Kc_learnFrom_6 : decode b_Kc_learnFrom 6 = .ok (.imul, 1) := by decide +kernel
theorem d_Kc_learnFrom_7 : decode b_Kc_learnFrom 7 = .ok (.aload_n 0, 1) := by decide +kernel
theorem d_Kc_learnFrom_8 : decode b_Kc_learnFrom 8 = .ok (.getfield 9, 3) := by decide +kernel
theorem d_Kc_learnFrom_11 : decode b_Kc_learnFrom 11 = .ok (.iload_n 2, 1) := by decide +kernel
theorem d_Kc_learnFrom_12 : decode b_Kc_learnFrom 12 = .ok (.iconst 5, 1) := by decide +kernel
theorem d_Kc_learnFrom_13 : decode b_Kc_learnFrom 13 = .ok (.imul, 1) := by decide +kernel
theorem d_Kc_learnFrom_14 : decode b_Kc_learnFrom 14 = .ok (.iconst 5, 1) := by decide +kernel
theorem d_Kc_learnFrom_15 : decode b_Kc_learnFrom 15 = .ok (.invokestatic 34, 3) := by decide +kernel
theorem d_Kc_learnFrom_18 : decode b_Kc_learnFrom 18 = .ok (.aload_n 0, 1) := by decide +kernel
theorem d_Kc_learnFrom_19 : decode b_Kc_learnFrom 19 = .ok (.iload_n 2, 1) := by decide +kernel
theorem d_Kc_learnFrom_20 : decode b_Kc_learnFrom 20 = .ok (.putfield 15, 3) := by decide +kernel
theorem d_Kc_learnFrom_23 : decode b_Kc_learnFrom 23 = .ok (.aload_n 0, 1) := by decide +kernel
theorem d_Kc_learnFrom_24 : decode b_Kc_learnFrom 24 = .ok (.iload_n 2, 1) := by decide +kernel
theorem d_Kc_learnFrom_25 : decode b_Kc_learnFrom 25 = .ok (.putfield 19, 3) := by decide +kernel
theorem d_Kc_learnFrom_28 : decode b_Kc_learnFrom 28 = .ok (.return_, 1) := by decide +kernel
theorem d_Kc_readKey_0 : decode b_Kc_readKey 0 = .ok (.iconst 0, 1) := by decide +kernel
theorem d_Kc_readKey_1 : decode b_Kc_readKey 1 = .ok (.istore 4, 2) := by decide +kernel
theorem d_Kc_readKey_3 : decode b_Kc_readKey 3 = .ok (.iload 4, 2) := by decide +kernel
theorem d_Kc_readKey_5 : decode b_Kc_readKey 5 = .ok (.iconst 5, 1) := by decide +kernel
theorem d_Kc_readKey_6 : decode b_Kc_readKey 6 = .ok (.if_icmp .ge 30, 3) := by decide +kernel
theorem d_Kc_readKey_9 : decode b_Kc_readKey 9 = .ok (.aload_n 0, 1) := by decide +kernel
theorem d_Kc_readKey_10 : decode b_Kc_readKey 10 = .ok (.getfield 9, 3) := by decide +kernel
theorem d_Kc_readKey_13 : decode b_Kc_readKey 13 = .ok (.iload_n 1, 1) := by decide +kernel
theorem d_Kc_readKey_14 : decode b_Kc_readKey 14 = .ok (.iconst 5, 1) := by decide +kernel
theorem d_Kc_readKey_15 : decode b_Kc_readKey 15 = .ok (.imul, 1) := by decide +kernel
theorem d_Kc_readKey_16 : decode b_Kc_readKey 16 = .ok (.iload 4, 2) := by decide +kernel
theorem d_Kc_readKey_18 : decode b_Kc_readKey 18 = .ok (.iadd, 1) := by decide +kernel
theorem d_Kc_readKey_19 : decode b_Kc_readKey 19 = .ok (.aload_n 2, 1) := by decide +kernel
theorem d_Kc_readKey_20 : decode b_Kc_readKey 20 = .ok (.iload_n 3, 1) := by decide +kernel
theorem d_Kc_readKey_21 : decode b_Kc_readKey 21 = .ok (.iconst 4, 1) := by decide +kernel
theorem d_Kc_readKey_22 : decode b_Kc_readKey 22 = .ok (.iload 4, 2) := by decide +kernel
theorem d_Kc_readKey_24 : decode b_Kc_readKey 24 = .ok (.imul, 1) := by decide +kernel
theorem d_Kc_readKey_25 : decode b_Kc_readKey 25 = .ok (.iadd, 1) := by decide +kernel
theorem d_Kc_readKey_26 : decode b_Kc_readKey 26 = .ok (.invokestatic 52, 3) := by decide +kernel
theorem d_Kc_readKey_29 : decode b_Kc_readKey 29 = .ok (.iastore, 1) := by decide +kernel
theorem d_Kc_readKey_30 : decode b_Kc_readKey 30 = .ok (.iinc 4 1, 3) := by decide +kernel
theorem d_Kc_readKey_33 : decode b_Kc_readKey 33 = .ok (.goto (-30), 3) := by decide +kernel
theorem d_Kc_readKey_36 : decode b_Kc_readKey 36 = .ok (.return_, 1) := by decide +kernel
theorem d_Kc_learnRoot_0 : decode b_Kc_learnRoot 0 = .ok (.aload_n 0, 1) := by decide +kernel
theorem d_Kc_learnRoot_1 : decode b_Kc_learnRoot 1 = .ok (.iconst 0, 1) := by decide +kernel
theorem d_Kc_learnRoot_2 : decode b_Kc_learnRoot 2 = .ok (.aload_n 1, 1) := by decide +kernel
theorem d_Kc_learnRoot_3 : decode b_Kc_learnRoot 3 = .ok (.iload_n 2, 1) := by decide +kernel
theorem d_Kc_learnRoot_4 : decode b_Kc_learnRoot 4 = .ok (.invokevirtual 48, 3) := by decide +kernel
theorem d_Kc_learnRoot_7 : decode b_Kc_learnRoot 7 = .ok (.aload_n 0, 1) := by decide +kernel
theorem d_Kc_learnRoot_8 : decode b_Kc_learnRoot 8 = .ok (.iconst 0, 1) := by decide +kernel
theorem d_Kc_learnRoot_9 : decode b_Kc_learnRoot 9 = .ok (.putfield 15, 3) := by decide +kernel
theorem d_Kc_learnRoot_12 : decode b_Kc_learnRoot 12 = .ok (.aload_n 0, 1) := by decide +kernel
theorem d_Kc_learnRoot_13 : decode b_Kc_learnRoot 13 = .ok (.iconst 0, 1) := by decide +kernel
theorem d_Kc_learnRoot_14 : decode b_Kc_learnRoot 14 = .ok (.putfield 19, 3) := by decide +kernel
theorem d_Kc_learnRoot_17 : decode b_Kc_learnRoot 17 = .ok (.return_, 1) := by decide +kernel
theorem d_Kc_isKey_0 : decode b_Kc_isKey 0 = .ok (.iconst 0, 1) := by decide +kernel
theorem d_Kc_isKey_1 : decode b_Kc_isKey 1 = .ok (.istore 4, 2) := by decide +kernel
theorem d_Kc_isKey_3 : decode b_Kc_isKey 3 = .ok (.iload 4, 2) := by decide +kernel
theorem d_Kc_isKey_5 : decode b_Kc_isKey 5 = .ok (.bipush 20, 2) := by decide +kernel
theorem d_Kc_isKey_7 : decode b_Kc_isKey 7 = .ok (.if_icmp .ge 27, 3) := by decide +kernel
theorem d_Kc_isKey_10 : decode b_Kc_isKey 10 = .ok (.aload_n 2, 1) := by decide +kernel
theorem d_Kc_isKey_11 : decode b_Kc_isKey 11 = .ok (.iload_n 3, 1) := by decide +kernel
theorem d_Kc_isKey_12 : decode b_Kc_isKey 12 = .ok (.iload 4, 2) := by decide +kernel
theorem d_Kc_isKey_14 : decode b_Kc_isKey 14 = .ok (.iadd, 1) := by decide +kernel
theorem d_Kc_isKey_15 : decode b_Kc_isKey 15 = .ok (.iaload, 1) := by decide +kernel
theorem d_Kc_isKey_16 : decode b_Kc_isKey 16 = .ok (.aload_n 0, 1) := by decide +kernel
theorem d_Kc_isKey_17 : decode b_Kc_isKey 17 = .ok (.iload_n 1, 1) := by decide +kernel
theorem d_Kc_isKey_18 : decode b_Kc_isKey 18 = .ok (.iload 4, 2) := by decide +kernel
theorem d_Kc_isKey_20 : decode b_Kc_isKey 20 = .ok (.invokevirtual 44, 3) := by decide +kernel
theorem d_Kc_isKey_23 : decode b_Kc_isKey 23 = .ok (.if_icmp .eq 5, 3) := by decide +kernel
theorem d_Kc_isKey_26 : decode b_Kc_isKey 26 = .ok (.iconst 0, 1) := by decide +kernel
theorem d_Kc_isKey_27 : decode b_Kc_isKey 27 = .ok (.ireturn, 1) := by decide +kernel
theorem d_Kc_isKey_28 : decode b_Kc_isKey 28 = .ok (.iinc 4 1, 3) := by decide +kernel
theorem d_Kc_isKey_31 : decode b_Kc_isKey 31 = .ok (.goto (-28), 3) := by decide +kernel
theorem d_Kc_isKey_34 : decode b_Kc_isKey 34 = .ok (.iconst 1, 1) := by decide +kernel
theorem d_Kc_isKey_35 : decode b_Kc_isKey 35 = .ok (.ireturn, 1) := by decide +kernel
theorem d_Kc_raiseTo_0 : decode b_Kc_raiseTo 0 = .ok (.aload_n 0, 1) := by decide +kernel
theorem d_Kc_raiseTo_1 : decode b_Kc_raiseTo 1 = .ok (.getfield 19, 3) := by decide +kernel
theorem d_Kc_raiseTo_4 : decode b_Kc_raiseTo 4 = .ok (.iconst 1, 1) := by decide +kernel
theorem d_Kc_raiseTo_5 : decode b_Kc_raiseTo 5 = .ok (.iadd, 1) := by decide +kernel
theorem d_Kc_raiseTo_6 : decode b_Kc_raiseTo 6 = .ok (.iconst 5, 1) := by decide +kernel
theorem d_Kc_raiseTo_7 : decode b_Kc_raiseTo 7 = .ok (.imul, 1) := by decide +kernel
theorem d_Kc_raiseTo_8 : decode b_Kc_raiseTo 8 = .ok (.istore_n 3, 1) := by decide +kernel
theorem d_Kc_raiseTo_9 : decode b_Kc_raiseTo 9 = .ok (.aload_n 2, 1) := by decide +kernel
theorem d_Kc_raiseTo_10 : decode b_Kc_raiseTo 10 = .ok (.aload_n 0, 1) := by decide +kernel
theorem d_Kc_raiseTo_11 : decode b_Kc_raiseTo 11 = .ok (.getfield 9, 3) := by decide +kernel
theorem d_Kc_raiseTo_14 : decode b_Kc_raiseTo 14 = .ok (.iload_n 3, 1) := by decide +kernel
theorem d_Kc_raiseTo_15 : decode b_Kc_raiseTo 15 = .ok (.iconst 5, 1) := by decide +kernel
theorem d_Kc_raiseTo_16 : decode b_Kc_raiseTo 16 = .ok (.getstatic 22, 3) := by decide +kernel
theorem d_Kc_raiseTo_19 : decode b_Kc_raiseTo 19 = .ok (.getstatic 22, 3) := by decide +kernel
theorem d_Kc_raiseTo_22 : decode b_Kc_raiseTo 22 = .ok (.arraylength, 1) := by decide +kernel
theorem d_Kc_raiseTo_23 : decode b_Kc_raiseTo 23 = .ok (.invokevirtual 25, 3) := by decide +kernel
theorem d_Kc_raiseTo_26 : decode b_Kc_raiseTo 26 = .ok (.iconst 0, 1) := by decide +kernel
theorem d_Kc_raiseTo_27 : decode b_Kc_raiseTo 27 = .ok (.istore 4, 2) := by decide +kernel
theorem d_Kc_raiseTo_29 : decode b_Kc_raiseTo 29 = .ok (.iload 4, 2) := by decide +kernel
theorem d_Kc_raiseTo_31 : decode b_Kc_raiseTo 31 = .ok (.iconst 5, 1) := by decide +kernel
theorem d_Kc_raiseTo_32 : decode b_Kc_raiseTo 32 = .ok (.if_icmp .ge 35, 3) := by decide +kernel
theorem d_Kc_raiseTo_35 : decode b_Kc_raiseTo 35 = .ok (.aload_n 2, 1) := by decide +kernel
theorem d_Kc_raiseTo_36 : decode b_Kc_raiseTo 36 = .ok (.getfield 31, 3) := by decide +kernel
theorem d_Kc_raiseTo_39 : decode b_Kc_raiseTo 39 = .ok (.iload 4, 2) := by decide +kernel
theorem d_Kc_raiseTo_41 : decode b_Kc_raiseTo 41 = .ok (.iaload, 1) := by decide +kernel
theorem d_Kc_raiseTo_42 : decode b_Kc_raiseTo 42 = .ok (.aload_n 0, 1) := by decide +kernel
theorem d_Kc_raiseTo_43 : decode b_Kc_raiseTo 43 = .ok (.getfield 9, 3) := by decide +kernel
theorem d_Kc_raiseTo_46 : decode b_Kc_raiseTo 46 = .ok (.aload_n 0, 1) := by decide +kernel
theorem d_Kc_raiseTo_47 : decode b_Kc_raiseTo 47 = .ok (.getfield 19, 3) := by decide +kernel
theorem d_Kc_raiseTo_50 : decode b_Kc_raiseTo 50 = .ok (.iconst 5, 1) := by decide +kernel
theorem d_Kc_raiseTo_51 : decode b_Kc_raiseTo 51 = .ok (.imul, 1) := by decide +kernel
theorem d_Kc_raiseTo_52 : decode b_Kc_raiseTo 52 = .ok (.iload 4, 2) := by decide +kernel
theorem d_Kc_raiseTo_54 : decode b_Kc_raiseTo 54 = .ok (.iadd, 1) := by decide +kernel
theorem d_Kc_raiseTo_55 : decode b_Kc_raiseTo 55 = .ok (.iaload, 1) := by decide +kernel
theorem d_Kc_raiseTo_56 : decode b_Kc_raiseTo 56 = .ok (.if_icmp .eq 5, 3) := by decide +kernel
theorem d_Kc_raiseTo_59 : decode b_Kc_raiseTo 59 = .ok (.iconst 0, 1) := by decide +kernel
theorem d_Kc_raiseTo_60 : decode b_Kc_raiseTo 60 = .ok (.ireturn, 1) := by decide +kernel
theorem d_Kc_raiseTo_61 : decode b_Kc_raiseTo 61 = .ok (.iinc 4 1, 3) := by decide +kernel
theorem d_Kc_raiseTo_64 : decode b_Kc_raiseTo 64 = .ok (.goto (-35), 3) := by decide +kernel
theorem d_Kc_raiseTo_67 : decode b_Kc_raiseTo 67 = .ok (.aload_n 0, 1) := by decide +kernel
theorem d_Kc_raiseTo_68 : decode b_Kc_raiseTo 68 = .ok (.iload_n 1, 1) := by decide +kernel
theorem d_Kc_raiseTo_69 : decode b_Kc_raiseTo 69 = .ok (.putfield 19, 3) := by decide +kernel
theorem d_Kc_raiseTo_72 : decode b_Kc_raiseTo 72 = .ok (.iconst 1, 1) := by decide +kernel
theorem d_Kc_raiseTo_73 : decode b_Kc_raiseTo 73 = .ok (.ireturn, 1) := by decide +kernel
theorem d_Kc_sealPacket_0 : decode b_Kc_sealPacket 0 = .ok (.aload_n 3, 1) := by decide +kernel
theorem d_Kc_sealPacket_1 : decode b_Kc_sealPacket 1 = .ok (.aload_n 0, 1) := by decide +kernel
theorem d_Kc_sealPacket_2 : decode b_Kc_sealPacket 2 = .ok (.getfield 9, 3) := by decide +kernel
theorem d_Kc_sealPacket_5 : decode b_Kc_sealPacket 5 = .ok (.iload_n 1, 1) := by decide +kernel
theorem d_Kc_sealPacket_6 : decode b_Kc_sealPacket 6 = .ok (.iconst 5, 1) := by decide +kernel
theorem d_Kc_sealPacket_7 : decode b_Kc_sealPacket 7 = .ok (.imul, 1) := by decide +kernel
theorem d_Kc_sealPacket_8 : decode b_Kc_sealPacket 8 = .ok (.iconst 5, 1) := by decide +kernel
theorem d_Kc_sealPacket_9 : decode b_Kc_sealPacket 9 = .ok (.getstatic 55, 3) := by decide +kernel
theorem d_Kc_sealPacket_12 : decode b_Kc_sealPacket 12 = .ok (.getstatic 55, 3) := by decide +kernel
theorem d_Kc_sealPacket_15 : decode b_Kc_sealPacket 15 = .ok (.arraylength, 1) := by decide +kernel
theorem d_Kc_sealPacket_16 : decode b_Kc_sealPacket 16 = .ok (.invokevirtual 25, 3) := by decide +kernel
theorem d_Kc_sealPacket_19 : decode b_Kc_sealPacket 19 = .ok (.aload_n 3, 1) := by decide +kernel
theorem d_Kc_sealPacket_20 : decode b_Kc_sealPacket 20 = .ok (.getfield 31, 3) := by decide +kernel
theorem d_Kc_sealPacket_23 : decode b_Kc_sealPacket 23 = .ok (.iconst 0, 1) := by decide +kernel
theorem d_Kc_sealPacket_24 : decode b_Kc_sealPacket 24 = .ok (.aload_n 3, 1) := by decide +kernel
theorem d_Kc_sealPacket_25 : decode b_Kc_sealPacket 25 = .ok (.getfield 58, 3) := by decide +kernel
theorem d_Kc_sealPacket_28 : decode b_Kc_sealPacket 28 = .ok (.iconst 0, 1) := by decide +kernel
theorem d_Kc_sealPacket_29 : decode b_Kc_sealPacket 29 = .ok (.bipush 8, 2) := by decide +kernel
theorem d_Kc_sealPacket_31 : decode b_Kc_sealPacket 31 = .ok (.invokestatic 34, 3) := by decide +kernel
theorem d_Kc_sealPacket_34 : decode b_Kc_sealPacket 34 = .ok (.aload_n 3, 1) := by decide +kernel
theorem d_Kc_sealPacket_35 : decode b_Kc_sealPacket 35 = .ok (.aload_n 3, 1) := by decide +kernel
theorem d_Kc_sealPacket_36 : decode b_Kc_sealPacket 36 = .ok (.getfield 58, 3) := by decide +kernel
theorem d_Kc_sealPacket_39 : decode b_Kc_sealPacket 39 = .ok (.iconst 0, 1) := by decide +kernel
theorem d_Kc_sealPacket_40 : decode b_Kc_sealPacket 40 = .ok (.bipush 8, 2) := by decide +kernel
theorem d_Kc_sealPacket_42 : decode b_Kc_sealPacket 42 = .ok (.aload_n 2, 1) := by decide +kernel
theorem d_Kc_sealPacket_43 : decode b_Kc_sealPacket 43 = .ok (.getfield 61, 3) := by decide +kernel
theorem d_Kc_sealPacket_46 : decode b_Kc_sealPacket 46 = .ok (.aload_n 2, 1) := by decide +kernel
theorem d_Kc_sealPacket_47 : decode b_Kc_sealPacket 47 = .ok (.invokevirtual 66, 3) := by decide +kernel
theorem d_Kc_sealPacket_50 : decode b_Kc_sealPacket 50 = .ok (.invokevirtual 25, 3) := by decide +kernel
theorem d_Kc_sealPacket_53 : decode b_Kc_sealPacket 53 = .ok (.return_, 1) := by decide +kernel
theorem d_Of_isReceiver_0 : decode b_Of_isReceiver 0 = .ok (.iload_n 1, 1) := by decide +kernel
theorem d_Of_isReceiver_1 : decode b_Of_isReceiver 1 = .ok (.ifCond .lt 13, 3) := by decide +kernel
theorem d_Of_isReceiver_4 : decode b_Of_isReceiver 4 = .ok (.iload_n 1, 1) := by decide +kernel
theorem d_Of_isReceiver_5 : decode b_Of_isReceiver 5 = .ok (.bipush 8, 2) := by decide +kernel
theorem d_Of_isReceiver_7 : decode b_Of_isReceiver 7 = .ok (.if_icmp .ge 7, 3) := by decide +kernel
theorem d_Of_isReceiver_10 : decode b_Of_isReceiver 10 = .ok (.iconst 1, 1) := by decide +kernel
theorem d_Of_isReceiver_11 : decode b_Of_isReceiver 11 = .ok (.goto 4, 3) := by decide +kernel
theorem d_Of_isReceiver_14 : decode b_Of_isReceiver 14 = .ok (.iconst 0, 1) := by decide +kernel
theorem d_Of_isReceiver_15 : decode b_Of_isReceiver 15 = .ok (.ireturn, 1) := by decide +kernel
theorem d_Lw_cell_0 : decode b_Lw_cell 0 = .ok (.iload_n 1, 1) := by decide +kernel
theorem d_Lw_cell_1 : decode b_Lw_cell 1 = .ok (.aload_n 0, 1) := by decide +kernel
theorem d_Lw_cell_2 : decode b_Lw_cell 2 = .ok (.arraylength, 1) := by decide +kernel
theorem d_Lw_cell_3 : decode b_Lw_cell 3 = .ok (.if_icmp .ge 9, 3) := by decide +kernel
theorem d_Lw_cell_6 : decode b_Lw_cell 6 = .ok (.aload_n 0, 1) := by decide +kernel
theorem d_Lw_cell_7 : decode b_Lw_cell 7 = .ok (.iload_n 1, 1) := by decide +kernel
theorem d_Lw_cell_8 : decode b_Lw_cell 8 = .ok (.iaload, 1) := by decide +kernel
theorem d_Lw_cell_9 : decode b_Lw_cell 9 = .ok (.goto 4, 3) := by decide +kernel
theorem d_Lw_cell_12 : decode b_Lw_cell 12 = .ok (.iconst 0, 1) := by decide +kernel
theorem d_Lw_cell_13 : decode b_Lw_cell 13 = .ok (.ireturn, 1) := by decide +kernel
end
section
theorem fp_Ck_16 : hv_fp "BulletinOffice$Clock" 16 0 2 (.int) true := ⟨R0, T0, 4, "BulletinOffice$Clock", ty0, rfl, hin0, by decide, Or.inl q_1_45, Or.inl rfl, tk0, nm0, rfl, (fun _ => rfl), tk0 2 (by decide)⟩
theorem fp_Ck_13 : hv_fp "BulletinOffice$Clock" 13 0 1 (.int) true := ⟨R0, T0, 4, "BulletinOffice$Clock", ty0, rfl, hin0, by decide, Or.inl q_1_44, Or.inl rfl, tk0, nm0, rfl, (fun _ => rfl), tk0 1 (by decide)⟩
theorem fp_Ck_7 : hv_fp "BulletinOffice$Clock" 7 0 0 (.int) true := ⟨R0, T0, 4, "BulletinOffice$Clock", ty0, rfl, hin0, by decide, Or.inl q_1_41, Or.inl rfl, tk0, nm0, rfl, (fun _ => rfl), tk0 0 (by decide)⟩
theorem q_1_40 : (Jvm.Cond.methodLink "BulletinOffice$Clock" (1 : Nat) ({ cls := "java/lang/Object", name := "<init>", desc := "()V" } : Jvm.MethodName)) ∈ hv_ws := wm (wc_1 (List.mem_of_getElem? (i := 40) rfl)) rfl
theorem q_1_30 : (Jvm.Cond.instanceMethod ({ cls := "java/lang/Object", name := "<init>", desc := "()V" } : Jvm.MethodName)) ∈ hv_ws := wm (wc_1 (List.mem_of_getElem? (i := 30) rfl)) rfl
theorem q_1_31 : (Jvm.Cond.code ({ cls := "java/lang/Object", name := "<init>", desc := "()V" } : Jvm.MethodName) object_method_1_code (1 : Nat) (Option.none : Option Jvm.ClassFile.FieldType)) ∈ hv_ws := wm (wc_1 (List.mem_of_getElem? (i := 31) rfl)) rfl
theorem fp_Sl_19 : hv_fp "BulletinOffice$Sealer" 19 1 4 (.array (.int)) true := ⟨R1, T1, 5, "BulletinOffice$Sealer", ty1, rfl, hin1, by decide, Or.inl q_1_71, Or.inl rfl, tk1, nm1, rfl, (fun _ => rfl), tk1 4 (by decide)⟩
theorem q_1_83 : (Jvm.Cond.arrayClass Jvm.ClassFile.FieldType.int) ∈ hv_ws := wm (wc_1 (List.mem_of_getElem? (i := 83) rfl)) rfl
theorem fp_Sl_16 : hv_fp "BulletinOffice$Sealer" 16 1 2 (.array (.int)) true := ⟨R1, T1, 5, "BulletinOffice$Sealer", ty1, rfl, hin1, by decide, Or.inl q_1_69, Or.inl rfl, tk1, nm1, rfl, (fun _ => rfl), tk1 2 (by decide)⟩
theorem q_1_67 : (Jvm.Cond.fieldLink "BulletinOffice$Sealer" (13 : Nat) "BulletinOffice$Sealer" "codeKey" "[I") ∈ hv_ws := wm (wc_1 (List.mem_of_getElem? (i := 67) rfl)) rfl
theorem fp_Sl_13 : hv_fp "BulletinOffice$Sealer" 13 1 1 (.array (.int)) true := ⟨R1, T1, 5, "BulletinOffice$Sealer", ty1, rfl, hin1, by decide, Or.inl q_1_67, Or.inl rfl, tk1, nm1, rfl, (fun _ => rfl), tk1 1 (by decide)⟩
theorem fp_Sl_9 : hv_fp "BulletinOffice$Sealer" 9 1 0 (.array (.int)) true := ⟨R1, T1, 5, "BulletinOffice$Sealer", ty1, rfl, hin1, by decide, Or.inl q_1_63, Or.inl rfl, tk1, nm1, rfl, (fun _ => rfl), tk1 0 (by decide)⟩
theorem q_1_62 : (Jvm.Cond.methodLink "BulletinOffice$Sealer" (3 : Nat) ({ cls := "java/lang/Object", name := "<init>", desc := "()V" } : Jvm.MethodName)) ∈ hv_ws := wm (wc_1 (List.mem_of_getElem? (i := 62) rfl)) rfl
theorem q_1_96 : (Jvm.Cond.laysFinal "BulletinOffice$KeyChain" "BulletinOffice$KeyChain" "words" "[I") ∈ hv_ws := wm (wc_1 (List.mem_of_getElem? (i := 96) rfl)) rfl
theorem q_1_98 : (Jvm.Cond.lays "BulletinOffice$KeyChain" "BulletinOffice$KeyChain" "first" "I") ∈ hv_ws := wm (wc_1 (List.mem_of_getElem? (i := 98) rfl)) rfl
theorem q_1_100 : (Jvm.Cond.lays "BulletinOffice$KeyChain" "BulletinOffice$KeyChain" "latest" "I") ∈ hv_ws := wm (wc_1 (List.mem_of_getElem? (i := 100) rfl)) rfl
theorem hin2 : ∀ w ∈ u_ws R2 T2 3, w ∈ hv_ws := by
  intro w hw
  obtain ⟨k, hk, rfl⟩ := List.mem_map.mp hw
  have hk := List.mem_range.mp hk
  match k, hk with
  | 0, _ => exact q_1_96
  | 1, _ => exact q_1_98
  | 2, _ => exact q_1_100
  | n + 3, h => exact absurd h (by omega)
theorem q_1_94 : (Jvm.Cond.fieldLink "BulletinOffice$KeyChain" (19 : Nat) "BulletinOffice$KeyChain" "latest" "I") ∈ hv_ws := wm (wc_1 (List.mem_of_getElem? (i := 94) rfl)) rfl
theorem fp_Kc_19 : hv_fp "BulletinOffice$KeyChain" 19 2 2 (.int) false := ⟨R2, T2, 3, "BulletinOffice$KeyChain", ty2, rfl, hin2, by decide, Or.inl q_1_94, Or.inl rfl, tk2, nm2, rfl, (fun h => by cases h), tk2 2 (by decide)⟩
theorem q_1_92 : (Jvm.Cond.fieldLink "BulletinOffice$KeyChain" (15 : Nat) "BulletinOffice$KeyChain" "first" "I") ∈ hv_ws := wm (wc_1 (List.mem_of_getElem? (i := 92) rfl)) rfl
theorem fp_Kc_15 : hv_fp "BulletinOffice$KeyChain" 15 2 1 (.int) false := ⟨R2, T2, 3, "BulletinOffice$KeyChain", ty2, rfl, hin2, by decide, Or.inl q_1_92, Or.inl rfl, tk2, nm2, rfl, (fun h => by cases h), tk2 1 (by decide)⟩
theorem q_1_91 : (Jvm.Cond.fieldLink "BulletinOffice$KeyChain" (9 : Nat) "BulletinOffice$KeyChain" "words" "[I") ∈ hv_ws := wm (wc_1 (List.mem_of_getElem? (i := 91) rfl)) rfl
theorem fp_Kc_9 : hv_fp "BulletinOffice$KeyChain" 9 2 0 (.array (.int)) true := ⟨R2, T2, 3, "BulletinOffice$KeyChain", ty2, rfl, hin2, by decide, Or.inl q_1_91, Or.inl rfl, tk2, nm2, rfl, (fun _ => rfl), tk2 0 (by decide)⟩
theorem q_1_90 : (Jvm.Cond.methodLink "BulletinOffice$KeyChain" (3 : Nat) ({ cls := "java/lang/Object", name := "<init>", desc := "()V" } : Jvm.MethodName)) ∈ hv_ws := wm (wc_1 (List.mem_of_getElem? (i := 90) rfl)) rfl
theorem q_2_187 : (Jvm.Cond.laysFinal "BulletinOffice$Packet" "BulletinOffice$Packet" "bytes" "[I") ∈ hv_ws := wm (wc_2 (List.mem_of_getElem? (i := 187) rfl)) rfl
theorem hin3 : ∀ w ∈ u_ws R3 T3 1, w ∈ hv_ws := by
  intro w hw
  obtain ⟨k, hk, rfl⟩ := List.mem_map.mp hw
  have hk := List.mem_range.mp hk
  match k, hk with
  | 0, _ => exact q_2_187
  | n + 1, h => exact absurd h (by omega)
theorem q_2_183 : (Jvm.Cond.fieldLink "BulletinOffice$Packet" (11 : Nat) "BulletinOffice$Packet" "bytes" "[I") ∈ hv_ws := wm (wc_2 (List.mem_of_getElem? (i := 183) rfl)) rfl
theorem fa_Pk_11 : hv_fa "BulletinOffice$Packet" 11 3 0 := ⟨R3, T3, 1, "BulletinOffice$Packet", rfl, hin3, by decide, Or.inl q_2_183, Or.inl rfl⟩
theorem fp_Pk_11 : hv_fp "BulletinOffice$Packet" 11 3 0 (.array (.int)) true := ⟨R3, T3, 1, "BulletinOffice$Packet", ty3, rfl, hin3, by decide, Or.inl q_2_183, Or.inl rfl, tk3, nm3, rfl, (fun _ => rfl), tk3 0 (by decide)⟩
theorem q_2_182 : (Jvm.Cond.methodLink "BulletinOffice$Packet" (5 : Nat) ({ cls := "java/lang/Object", name := "<init>", desc := "()V" } : Jvm.MethodName)) ∈ hv_ws := wm (wc_2 (List.mem_of_getElem? (i := 182) rfl)) rfl
theorem q_2_200 : (Jvm.Cond.code ({ cls := "BulletinOffice", name := "wordAt", desc := "([II)I" } : Jvm.MethodName) prog_1_method_24_code (2 : Nat) (Option.some Jvm.ClassFile.FieldType.int)) ∈ hv_ws := wm (wc_2 (List.mem_of_getElem? (i := 200) rfl)) rfl
theorem q_1_1 : (Jvm.Cond.initialized "BulletinOffice") ∈ hv_ws := wm (wc_1 (List.mem_of_getElem? (i := 1) rfl)) rfl
theorem cs_Pk_20 : hv_cs "BulletinOffice$Packet" 20 y_Of_wordAt b_Of_wordAt 2 (some (.int)) 2 := ⟨q_2_200, q_1_1, ⟨by decide, by decide⟩, by decide +kernel, Or.inr ⟨"BulletinOffice", List.mem_of_getElem? (i := 3) rfl⟩⟩
theorem q_2_199 : (Jvm.Cond.static ({ cls := "BulletinOffice", name := "wordAt", desc := "([II)I" } : Jvm.MethodName)) ∈ hv_ws := wm (wc_2 (List.mem_of_getElem? (i := 199) rfl)) rfl
theorem q_2_217 : (Jvm.Cond.code ({ cls := "BulletinOffice$Packet", name := "size", desc := "()I" } : Jvm.MethodName) prog_4_method_5_code (1 : Nat) (Option.some Jvm.ClassFile.FieldType.int)) ∈ hv_ws := wm (wc_2 (List.mem_of_getElem? (i := 217) rfl)) rfl
theorem q_1_20 : (Jvm.Cond.initialized "BulletinOffice$Packet") ∈ hv_ws := wm (wc_1 (List.mem_of_getElem? (i := 20) rfl)) rfl
theorem q_2_214 : (Jvm.Cond.methodLink "BulletinOffice$Packet" (24 : Nat) ({ cls := "BulletinOffice$Packet", name := "size", desc := "()I" } : Jvm.MethodName)) ∈ hv_ws := wm (wc_2 (List.mem_of_getElem? (i := 214) rfl)) rfl
theorem cs_Pk_24 : hv_cs "BulletinOffice$Packet" 24 y_Pk_size b_Pk_size 1 (some (.int)) 0 := ⟨q_2_217, q_1_20, ⟨by decide, by decide⟩, by decide +kernel, Or.inl q_2_214⟩
theorem q_2_215 : (Jvm.Cond.instanceMethod ({ cls := "BulletinOffice$Packet", name := "size", desc := "()I" } : Jvm.MethodName)) ∈ hv_ws := wm (wc_2 (List.mem_of_getElem? (i := 215) rfl)) rfl
theorem q_2_216 : (Jvm.Cond.selects "BulletinOffice$Packet" ({ cls := "BulletinOffice$Packet", name := "size", desc := "()I" } : Jvm.MethodName) ({ cls := "BulletinOffice$Packet", name := "size", desc := "()I" } : Jvm.MethodName)) ∈ hv_ws := wm (wc_2 (List.mem_of_getElem? (i := 216) rfl)) rfl
theorem q_2_213 : (Jvm.Cond.code ({ cls := "BulletinOffice$Packet", name := "codeAt", desc := "()I" } : Jvm.MethodName) prog_4_method_6_code (1 : Nat) (Option.some Jvm.ClassFile.FieldType.int)) ∈ hv_ws := wm (wc_2 (List.mem_of_getElem? (i := 213) rfl)) rfl
theorem q_2_222 : (Jvm.Cond.methodLink "BulletinOffice$Packet" (28 : Nat) ({ cls := "BulletinOffice$Packet", name := "codeAt", desc := "()I" } : Jvm.MethodName)) ∈ hv_ws := wm (wc_2 (List.mem_of_getElem? (i := 222) rfl)) rfl
theorem cs_Pk_28 : hv_cs "BulletinOffice$Packet" 28 y_Pk_codeAt b_Pk_codeAt 1 (some (.int)) 0 := ⟨q_2_213, q_1_20, ⟨by decide, by decide⟩, by decide +kernel, Or.inl q_2_222⟩
theorem q_2_211 : (Jvm.Cond.instanceMethod ({ cls := "BulletinOffice$Packet", name := "codeAt", desc := "()I" } : Jvm.MethodName)) ∈ hv_ws := wm (wc_2 (List.mem_of_getElem? (i := 211) rfl)) rfl
theorem q_2_212 : (Jvm.Cond.selects "BulletinOffice$Packet" ({ cls := "BulletinOffice$Packet", name := "codeAt", desc := "()I" } : Jvm.MethodName) ({ cls := "BulletinOffice$Packet", name := "codeAt", desc := "()I" } : Jvm.MethodName)) ∈ hv_ws := wm (wc_2 (List.mem_of_getElem? (i := 212) rfl)) rfl
theorem q_2_197 : (Jvm.Cond.code ({ cls := "BulletinOffice$Packet", name := "interval", desc := "()I" } : Jvm.MethodName) prog_4_method_3_code (1 : Nat) (Option.some Jvm.ClassFile.FieldType.int)) ∈ hv_ws := wm (wc_2 (List.mem_of_getElem? (i := 197) rfl)) rfl
theorem q_3_154 : (Jvm.Cond.methodLink "BulletinOffice$Packet" (31 : Nat) ({ cls := "BulletinOffice$Packet", name := "interval", desc := "()I" } : Jvm.MethodName)) ∈ hv_ws := wm (wc_3 (List.mem_of_getElem? (i := 154) rfl)) rfl
theorem cs_Pk_31 : hv_cs "BulletinOffice$Packet" 31 y_Pk_interval b_Pk_interval 1 (some (.int)) 0 := ⟨q_2_197, q_1_20, ⟨by decide, by decide⟩, by decide +kernel, Or.inl q_3_154⟩
theorem q_2_195 : (Jvm.Cond.instanceMethod ({ cls := "BulletinOffice$Packet", name := "interval", desc := "()I" } : Jvm.MethodName)) ∈ hv_ws := wm (wc_2 (List.mem_of_getElem? (i := 195) rfl)) rfl
theorem q_2_196 : (Jvm.Cond.selects "BulletinOffice$Packet" ({ cls := "BulletinOffice$Packet", name := "interval", desc := "()I" } : Jvm.MethodName) ({ cls := "BulletinOffice$Packet", name := "interval", desc := "()I" } : Jvm.MethodName)) ∈ hv_ws := wm (wc_2 (List.mem_of_getElem? (i := 196) rfl)) rfl
theorem q_3_158 : (Jvm.Cond.code ({ cls := "BulletinOffice$Packet", name := "kind", desc := "()I" } : Jvm.MethodName) prog_4_method_4_code (1 : Nat) (Option.some Jvm.ClassFile.FieldType.int)) ∈ hv_ws := wm (wc_3 (List.mem_of_getElem? (i := 158) rfl)) rfl
theorem q_3_155 : (Jvm.Cond.methodLink "BulletinOffice$Packet" (34 : Nat) ({ cls := "BulletinOffice$Packet", name := "kind", desc := "()I" } : Jvm.MethodName)) ∈ hv_ws := wm (wc_3 (List.mem_of_getElem? (i := 155) rfl)) rfl
theorem cs_Pk_34 : hv_cs "BulletinOffice$Packet" 34 y_Pk_kind b_Pk_kind 1 (some (.int)) 0 := ⟨q_3_158, q_1_20, ⟨by decide, by decide⟩, by decide +kernel, Or.inl q_3_155⟩
theorem q_3_156 : (Jvm.Cond.instanceMethod ({ cls := "BulletinOffice$Packet", name := "kind", desc := "()I" } : Jvm.MethodName)) ∈ hv_ws := wm (wc_3 (List.mem_of_getElem? (i := 156) rfl)) rfl
theorem q_3_157 : (Jvm.Cond.selects "BulletinOffice$Packet" ({ cls := "BulletinOffice$Packet", name := "kind", desc := "()I" } : Jvm.MethodName) ({ cls := "BulletinOffice$Packet", name := "kind", desc := "()I" } : Jvm.MethodName)) ∈ hv_ws := wm (wc_3 (List.mem_of_getElem? (i := 157) rfl)) rfl
theorem q_2_148 : (Jvm.Cond.code ({ cls := "BulletinOffice", name := "byteOf", desc := "([II)I" } : Jvm.MethodName) prog_1_method_23_code (2 : Nat) (Option.some Jvm.ClassFile.FieldType.int)) ∈ hv_ws := wm (wc_2 (List.mem_of_getElem? (i := 148) rfl)) rfl
theorem cs_Pk_37 : hv_cs "BulletinOffice$Packet" 37 y_Of_byteOf b_Of_byteOf 2 (some (.int)) 2 := ⟨q_2_148, q_1_1, ⟨by decide, by decide⟩, by decide +kernel, Or.inr ⟨"BulletinOffice", List.mem_of_getElem? (i := 4) rfl⟩⟩
theorem q_2_147 : (Jvm.Cond.static ({ cls := "BulletinOffice", name := "byteOf", desc := "([II)I" } : Jvm.MethodName)) ∈ hv_ws := wm (wc_2 (List.mem_of_getElem? (i := 147) rfl)) rfl
theorem fa_Kc_19 : hv_fa "BulletinOffice$KeyChain" 19 2 2 := ⟨R2, T2, 3, "BulletinOffice$KeyChain", rfl, hin2, by decide, Or.inl q_1_94, Or.inl rfl⟩
theorem fa_Kc_9 : hv_fa "BulletinOffice$KeyChain" 9 2 0 := ⟨R2, T2, 3, "BulletinOffice$KeyChain", rfl, hin2, by decide, Or.inl q_1_91, Or.inl rfl⟩
theorem q_2_48 : (Jvm.Cond.fieldLink "BulletinOffice$KeyChain" (22 : Nat) "BulletinOffice$KeyChain" "CHAIN_TEXT" "[I") ∈ hv_ws := wm (wc_2 (List.mem_of_getElem? (i := 48) rfl)) rfl
theorem q_2_53 : (Jvm.Cond.code ({ cls := "BulletinOffice$Sealer", name := "seal", desc := "([III[II)V" } : Jvm.MethodName) prog_6_method_5_code (7 : Nat) (Option.none : Option Jvm.ClassFile.FieldType)) ∈ hv_ws := wm (wc_2 (List.mem_of_getElem? (i := 53) rfl)) rfl
theorem q_2_50 : (Jvm.Cond.methodLink "BulletinOffice$KeyChain" (25 : Nat) ({ cls := "BulletinOffice$Sealer", name := "seal", desc := "([III[II)V" } : Jvm.MethodName)) ∈ hv_ws := wm (wc_2 (List.mem_of_getElem? (i := 50) rfl)) rfl
theorem cs_Kc_25 : hv_cs "BulletinOffice$KeyChain" 25 y_Sl_seal b_Sl_seal 7 none 5 := ⟨q_2_53, q_1_4, ⟨by decide, by decide⟩, by decide +kernel, Or.inl q_2_50⟩
theorem q_2_51 : (Jvm.Cond.instanceMethod ({ cls := "BulletinOffice$Sealer", name := "seal", desc := "([III[II)V" } : Jvm.MethodName)) ∈ hv_ws := wm (wc_2 (List.mem_of_getElem? (i := 51) rfl)) rfl
theorem q_2_52 : (Jvm.Cond.selects "BulletinOffice$Sealer" ({ cls := "BulletinOffice$Sealer", name := "seal", desc := "([III[II)V" } : Jvm.MethodName) ({ cls := "BulletinOffice$Sealer", name := "seal", desc := "([III[II)V" } : Jvm.MethodName)) ∈ hv_ws := wm (wc_2 (List.mem_of_getElem? (i := 52) rfl)) rfl
theorem q_1_64 : (Jvm.Cond.fieldLink "BulletinOffice$KeyChain" (31 : Nat) "BulletinOffice$Sealer" "result" "[I") ∈ hv_ws := wm (wc_1 (List.mem_of_getElem? (i := 64) rfl)) rfl
theorem fa_Kc_31 : hv_fa "BulletinOffice$KeyChain" 31 1 0 := ⟨R1, T1, 5, "BulletinOffice$Sealer", rfl, hin1, by decide, Or.inl q_1_64, Or.inl rfl⟩
theorem q_2_90 : (Jvm.Cond.methodLink "BulletinOffice$KeyChain" (34 : Nat) ({ cls := "java/lang/System", name := "arraycopy", desc := "(Ljava/lang/Object;ILjava/lang/Object;II)V" } : Jvm.MethodName)) ∈ hv_ws := wm (wc_2 (List.mem_of_getElem? (i := 90) rfl)) rfl
theorem cs_Kc_40 : hv_cs "BulletinOffice$KeyChain" 40 y_Of_byteOf b_Of_byteOf 2 (some (.int)) 2 := ⟨q_2_148, q_1_1, ⟨by decide, by decide⟩, by decide +kernel, Or.inr ⟨"BulletinOffice", List.mem_of_getElem? (i := 5) rfl⟩⟩
theorem q_2_235 : (Jvm.Cond.code ({ cls := "BulletinOffice$KeyChain", name := "byteAt", desc := "(II)I" } : Jvm.MethodName) prog_3_method_6_code (3 : Nat) (Option.some Jvm.ClassFile.FieldType.int)) ∈ hv_ws := wm (wc_2 (List.mem_of_getElem? (i := 235) rfl)) rfl
theorem q_1_5 : (Jvm.Cond.initialized "BulletinOffice$KeyChain") ∈ hv_ws := wm (wc_1 (List.mem_of_getElem? (i := 5) rfl)) rfl
theorem q_2_232 : (Jvm.Cond.methodLink "BulletinOffice$KeyChain" (44 : Nat) ({ cls := "BulletinOffice$KeyChain", name := "byteAt", desc := "(II)I" } : Jvm.MethodName)) ∈ hv_ws := wm (wc_2 (List.mem_of_getElem? (i := 232) rfl)) rfl
theorem cs_Kc_44 : hv_cs "BulletinOffice$KeyChain" 44 y_Kc_byteAt b_Kc_byteAt 3 (some (.int)) 2 := ⟨q_2_235, q_1_5, ⟨by decide, by decide⟩, by decide +kernel, Or.inl q_2_232⟩
theorem q_2_233 : (Jvm.Cond.instanceMethod ({ cls := "BulletinOffice$KeyChain", name := "byteAt", desc := "(II)I" } : Jvm.MethodName)) ∈ hv_ws := wm (wc_2 (List.mem_of_getElem? (i := 233) rfl)) rfl
theorem q_2_234 : (Jvm.Cond.selects "BulletinOffice$KeyChain" ({ cls := "BulletinOffice$KeyChain", name := "byteAt", desc := "(II)I" } : Jvm.MethodName) ({ cls := "BulletinOffice$KeyChain", name := "byteAt", desc := "(II)I" } : Jvm.MethodName)) ∈ hv_ws := wm (wc_2 (List.mem_of_getElem? (i := 234) rfl)) rfl
theorem cs_Kc_52 : hv_cs "BulletinOffice$KeyChain" 52 y_Of_wordAt b_Of_wordAt 2 (some (.int)) 2 := ⟨q_2_200, q_1_1, ⟨by decide, by decide⟩, by decide +kernel, Or.inr ⟨"BulletinOffice", List.mem_of_getElem? (i := 8) rfl⟩⟩
theorem q_3_178 : (Jvm.Cond.code ({ cls := "BulletinOffice$KeyChain", name := "readKey", desc := "(I[II)V" } : Jvm.MethodName) prog_3_method_11_code (5 : Nat) (Option.none : Option Jvm.ClassFile.FieldType)) ∈ hv_ws := wm (wc_3 (List.mem_of_getElem? (i := 178) rfl)) rfl
theorem q_3_224 : (Jvm.Cond.methodLink "BulletinOffice$KeyChain" (48 : Nat) ({ cls := "BulletinOffice$KeyChain", name := "readKey", desc := "(I[II)V" } : Jvm.MethodName)) ∈ hv_ws := wm (wc_3 (List.mem_of_getElem? (i := 224) rfl)) rfl
theorem cs_Kc_48 : hv_cs "BulletinOffice$KeyChain" 48 y_Kc_readKey b_Kc_readKey 5 none 3 := ⟨q_3_178, q_1_5, ⟨by decide, by decide⟩, by decide +kernel, Or.inl q_3_224⟩
theorem q_3_176 : (Jvm.Cond.instanceMethod ({ cls := "BulletinOffice$KeyChain", name := "readKey", desc := "(I[II)V" } : Jvm.MethodName)) ∈ hv_ws := wm (wc_3 (List.mem_of_getElem? (i := 176) rfl)) rfl
theorem q_3_177 : (Jvm.Cond.selects "BulletinOffice$KeyChain" ({ cls := "BulletinOffice$KeyChain", name := "readKey", desc := "(I[II)V" } : Jvm.MethodName) ({ cls := "BulletinOffice$KeyChain", name := "readKey", desc := "(I[II)V" } : Jvm.MethodName)) ∈ hv_ws := wm (wc_3 (List.mem_of_getElem? (i := 177) rfl)) rfl
theorem q_2_208 : (Jvm.Cond.fieldLink "BulletinOffice$KeyChain" (55 : Nat) "BulletinOffice$KeyChain" "MAC_TEXT" "[I") ∈ hv_ws := wm (wc_2 (List.mem_of_getElem? (i := 208) rfl)) rfl
theorem q_1_68 : (Jvm.Cond.fieldLink "BulletinOffice$KeyChain" (58 : Nat) "BulletinOffice$Sealer" "codeKey" "[I") ∈ hv_ws := wm (wc_1 (List.mem_of_getElem? (i := 68) rfl)) rfl
theorem fa_Kc_58 : hv_fa "BulletinOffice$KeyChain" 58 1 1 := ⟨R1, T1, 5, "BulletinOffice$Sealer", rfl, hin1, by decide, Or.inl q_1_68, Or.inl rfl⟩
theorem q_2_186 : (Jvm.Cond.fieldLink "BulletinOffice$KeyChain" (61 : Nat) "BulletinOffice$Packet" "bytes" "[I") ∈ hv_ws := wm (wc_2 (List.mem_of_getElem? (i := 186) rfl)) rfl
theorem fa_Kc_61 : hv_fa "BulletinOffice$KeyChain" 61 3 0 := ⟨R3, T3, 1, "BulletinOffice$Packet", rfl, hin3, by decide, Or.inl q_2_186, Or.inl rfl⟩
theorem q_2_210 : (Jvm.Cond.methodLink "BulletinOffice$KeyChain" (66 : Nat) ({ cls := "BulletinOffice$Packet", name := "codeAt", desc := "()I" } : Jvm.MethodName)) ∈ hv_ws := wm (wc_2 (List.mem_of_getElem? (i := 210) rfl)) rfl
theorem cs_Kc_66 : hv_cs "BulletinOffice$KeyChain" 66 y_Pk_codeAt b_Pk_codeAt 1 (some (.int)) 0 := ⟨q_2_213, q_1_20, ⟨by decide, by decide⟩, by decide +kernel, Or.inl q_2_210⟩
end
section
def f_Ck_init (G : ho_G) (N : Nat) (σ : ho_H) (a0 : Nat) (x1 : Int32) (x2 : Int32) (x3 : Int32) : Option (ho_H) :=
  (ho_p σ a0 0 0 (.int x1)).bind fun σ1 =>
  (ho_p σ1 a0 0 1 (.int x2)).bind fun σ2 =>
  (ho_p σ2 a0 0 2 (.int x3)).bind fun σ3 =>
  some σ3
def f_Sl_init (G : ho_G) (N : Nat) (σ : ho_H) (a0 : Nat) : Option (ho_H) :=
  bd2 (ho_nwI G σ 8) fun σ1 b2 =>
  (ho_p σ1 a0 1 0 (.ref b2)).bind fun σ3 =>
  bd2 (ho_nwI G σ3 8) fun σ4 b5 =>
  (ho_p σ4 a0 1 1 (.ref b5)).bind fun σ6 =>
  bd2 (ho_nwI G σ6 32) fun σ7 b8 =>
  (ho_p σ7 a0 1 2 (.ref b8)).bind fun σ9 =>
  bd2 (ho_nwI G σ9 64) fun σ10 b11 =>
  (ho_p σ10 a0 1 4 (.ref b11)).bind fun σ12 =>
  some σ12
def f_Kc_init (G : ho_G) (N : Nat) (σ : ho_H) (a0 : Nat) : Option (ho_H) :=
  bd2 (ho_nwI G σ 325) fun σ1 b2 =>
  (ho_p σ1 a0 2 0 (.ref b2)).bind fun σ3 =>
  (ho_p σ3 a0 2 1 (.int (-1))).bind fun σ4 =>
  (ho_p σ4 a0 2 2 (.int (-1))).bind fun σ5 =>
  some σ5
def f_Pk_init1 (G : ho_G) (N : Nat) (σ : ho_H) (a0 : Nat) (x1 : Int32) (x2 : Int32) (x3 : Int32) : Option (ho_H) :=
  bd2 (ho_nwI G σ (36 + x3)) fun σ1 b2 =>
  (ho_p σ1 a0 3 0 (.ref b2)).bind fun σ3 =>
  (ho_gR σ3 a0 3 0).bind fun b4 =>
  (ho_stI G σ3 b4 0 (ho_ur x1 24)).bind fun σ5 =>
  (ho_gR σ5 a0 3 0).bind fun b6 =>
  (ho_stI G σ5 b6 1 ((ho_ur x1 16) &&& 255)).bind fun σ7 =>
  (ho_gR σ7 a0 3 0).bind fun b8 =>
  (ho_stI G σ7 b8 2 ((ho_ur x1 8) &&& 255)).bind fun σ9 =>
  (ho_gR σ9 a0 3 0).bind fun b10 =>
  (ho_stI G σ9 b10 3 (x1 &&& 255)).bind fun σ11 =>
  (ho_gR σ11 a0 3 0).bind fun b12 =>
  (ho_stI G σ11 b12 4 x2).bind fun σ13 =>
  (ho_gR σ13 a0 3 0).bind fun b14 =>
  (ho_stI G σ13 b14 5 x3).bind fun σ15 =>
  some σ15
def f_Pk_interval (G : ho_G) (N : Nat) (σ : ho_H) (a0 : Nat) : Option (Int32) :=
  (ho_gR σ a0 3 0).bind fun b1 =>
  (f_Of_wordAt G N σ b1 0).bind fun v2 =>
  some v2
def f_Pk_size (G : ho_G) (N : Nat) (σ : ho_H) (a0 : Nat) : Option (Int32) :=
  (ho_gR σ a0 3 0).bind fun b1 =>
  (ho_ldI G σ b1 5).bind fun v2 =>
  some v2
def f_Pk_kind (G : ho_G) (N : Nat) (σ : ho_H) (a0 : Nat) : Option (Int32) :=
  (ho_gR σ a0 3 0).bind fun b1 =>
  (ho_ldI G σ b1 4).bind fun v2 =>
  some v2
def f_Pk_codeAt (G : ho_G) (N : Nat) (σ : ho_H) (a0 : Nat) : Option (Int32) :=
  (ho_f σ a0 3).bind fun _ =>
  (f_Pk_size G N σ a0).bind fun v2 =>
  some (6 + v2)
def f_Pk_shownAt (G : ho_G) (N : Nat) (σ : ho_H) (a0 : Nat) : Option (Int32) :=
  (ho_f σ a0 3).bind fun _ =>
  (f_Pk_codeAt G N σ a0).bind fun v2 =>
  some (v2 + 10)
def f_Pk_isBroken_j74 (G : ho_G) (N : Nat) (σ : ho_H) (y0 : Int32) : Option (Int32) :=
  (ho_bz y0).bind fun _ => some y0
def f_Pk_isBroken_j69 (G : ho_G) (N : Nat) (σ : ho_H)  : Option (Int32) :=
  f_Pk_isBroken_j74 G N σ 1
def f_Pk_isBroken_j57 (G : ho_G) (N : Nat) (σ : ho_H) (x2 : Int32) : Option (Int32) :=
  if x2 < 1 then
  f_Pk_isBroken_j69 G N σ 
  else
  if x2 ≤ 512 then
  f_Pk_isBroken_j74 G N σ 0
  else
  f_Pk_isBroken_j69 G N σ 
def f_Pk_isBroken_j43 (G : ho_G) (N : Nat) (σ : ho_H) (a0 : Nat) (x1 : Int32) (x2 : Int32) : Option (Int32) :=
  (ho_f σ a0 3).bind fun _ =>
  (f_Pk_kind G N σ a0).bind fun v10 =>
  if ¬ v10 = 1 then
  f_Pk_isBroken_j57 G N σ x2
  else
  if ¬ x1 = 20 then
  f_Pk_isBroken_j69 G N σ 
  else
  f_Pk_isBroken_j57 G N σ x2
def f_Pk_isBroken (G : ho_G) (N : Nat) (σ : ho_H) (a0 : Nat) : Option (Int32) :=
  (ho_f σ a0 3).bind fun _ =>
  (f_Pk_size G N σ a0).bind fun v2 =>
  (ho_f σ a0 3).bind fun _ =>
  (f_Pk_interval G N σ a0).bind fun v4 =>
  (ho_gR σ a0 3 0).bind fun b5 =>
  (ho_lnI G σ b5).bind fun v6 =>
  if ¬ v6 = (36 + v2) then
  f_Pk_isBroken_j69 G N σ 
  else
  if 32 < v2 then
  f_Pk_isBroken_j69 G N σ 
  else
  (ho_f σ a0 3).bind fun _ =>
  (f_Pk_kind G N σ a0).bind fun v8 =>
  if v8 = 0 then
  f_Pk_isBroken_j43 G N σ a0 v2 v4
  else
  (ho_f σ a0 3).bind fun _ =>
  (f_Pk_kind G N σ a0).bind fun v12 =>
  if ¬ v12 = 1 then
  f_Pk_isBroken_j69 G N σ 
  else
  f_Pk_isBroken_j43 G N σ a0 v2 v4
def f_Pk_writeCode_l2 (G : ho_G) (N : Nat) (a0 : Nat) (a1 : Nat) : ho_H × Int32 → Option ((ho_H × Int32) ⊕ (ho_H)) := fun (σ, x2) =>
  if 10 ≤ x2 then
  some (.inr σ)
  else
  (ho_gR σ a0 3 0).bind fun b1 =>
  (ho_f σ a0 3).bind fun _ =>
  (f_Pk_codeAt G N σ a0).bind fun v3 =>
  (f_Of_byteOf G N σ a1 x2).bind fun v4 =>
  (ho_stI G σ b1 (v3 + x2) v4).bind fun σ5 =>
  some (.inl (σ5, x2 + 1))
def f_Pk_writeCode (G : ho_G) (N : Nat) (σ : ho_H) (a0 : Nat) (a1 : Nat) : Option (ho_H) :=
  (ho_it (f_Pk_writeCode_l2 G N a0 a1) N (σ, 0)).bind fun σ6 =>
  some σ6
def f_Pk_hasCode_l2 (G : ho_G) (N : Nat) (σ : ho_H) (a0 : Nat) (a1 : Nat) : Int32 → Option ((Int32) ⊕ ((Unit) ⊕ (Int32))) := fun x2 =>
  if 10 ≤ x2 then
  some (.inr (.inl ()))
  else
  (ho_gR σ a0 3 0).bind fun b1 =>
  (ho_f σ a0 3).bind fun _ =>
  (f_Pk_codeAt G N σ a0).bind fun v3 =>
  (ho_ldI G σ b1 (v3 + x2)).bind fun v4 =>
  (f_Of_byteOf G N σ a1 x2).bind fun v5 =>
  if v4 = v5 then
  some (.inl (x2 + 1))
  else
  some (.inr (.inr 0))
def f_Pk_hasCode (G : ho_G) (N : Nat) (σ : ho_H) (a0 : Nat) (a1 : Nat) : Option (Int32) :=
  (ho_it (f_Pk_hasCode_l2 G N σ a0 a1) N 0).bind (sm_e (fun _ =>
  some 1) (fun z => some z))
def f_Pk_isTwinOf_l15 (G : ho_G) (N : Nat) (σ : ho_H) (a0 : Nat) (a1 : Nat) : Int32 → Option ((Int32) ⊕ ((Unit) ⊕ (Int32))) := fun x2 =>
  if 10 ≤ x2 then
  some (.inr (.inl ()))
  else
  (ho_gR σ a0 3 0).bind fun b5 =>
  (ho_f σ a0 3).bind fun _ =>
  (f_Pk_codeAt G N σ a0).bind fun v7 =>
  (ho_ldI G σ b5 (v7 + x2)).bind fun v8 =>
  (ho_gR σ a1 3 0).bind fun b9 =>
  (ho_f σ a1 3).bind fun _ =>
  (f_Pk_codeAt G N σ a1).bind fun v11 =>
  (ho_ldI G σ b9 (v11 + x2)).bind fun v12 =>
  if v8 = v12 then
  some (.inl (x2 + 1))
  else
  some (.inr (.inr 0))
def f_Pk_isTwinOf (G : ho_G) (N : Nat) (σ : ho_H) (a0 : Nat) (a1 : Nat) : Option (Int32) :=
  (ho_f σ a0 3).bind fun _ =>
  (f_Pk_interval G N σ a0).bind fun v2 =>
  (ho_f σ a1 3).bind fun _ =>
  (f_Pk_interval G N σ a1).bind fun v4 =>
  if v2 = v4 then
  (ho_it (f_Pk_isTwinOf_l15 G N σ a0 a1) N 0).bind (sm_e (fun _ =>
  some 1) (fun z => some z))
  else
  some 0
def f_Kc_isKnown_j13 (G : ho_G) (N : Nat) (σ : ho_H) (y0 : Int32) : Option (Int32) :=
  (ho_bz y0).bind fun _ => some y0
def f_Kc_isKnown (G : ho_G) (N : Nat) (σ : ho_H) (a0 : Nat) : Option (Int32) :=
  (ho_gI σ a0 2 2).bind fun v1 =>
  if v1 = (-1) then
  f_Kc_isKnown_j13 G N σ 0
  else
  f_Kc_isKnown_j13 G N σ 1
def f_Kc_forget (G : ho_G) (N : Nat) (σ : ho_H) (a0 : Nat) : Option (ho_H) :=
  (ho_p σ a0 2 1 (.int (-1))).bind fun σ1 =>
  (ho_p σ1 a0 2 2 (.int (-1))).bind fun σ2 =>
  some σ2
def f_Kc_putTopKey (G : ho_G) (N : Nat) (σ : ho_H) (a0 : Nat) (x1 : Int32) (x2 : Int32) (x3 : Int32) (x4 : Int32) (x5 : Int32) : Option (ho_H) :=
  (ho_gR σ a0 2 0).bind fun b1 =>
  (ho_stI G σ b1 320 x1).bind fun σ2 =>
  (ho_gR σ2 a0 2 0).bind fun b3 =>
  (ho_stI G σ2 b3 (320 + 1) x2).bind fun σ4 =>
  (ho_gR σ4 a0 2 0).bind fun b5 =>
  (ho_stI G σ4 b5 (320 + 2) x3).bind fun σ6 =>
  (ho_gR σ6 a0 2 0).bind fun b7 =>
  (ho_stI G σ6 b7 (320 + 3) x4).bind fun σ8 =>
  (ho_gR σ8 a0 2 0).bind fun b9 =>
  (ho_stI G σ8 b9 (320 + 4) x5).bind fun σ10 =>
  some σ10
def f_Kc_fillDown_l3 (G : ho_G) (N : Nat) (a0 : Nat) (x2 : Int32) (a3 : Nat) : ho_H × Int32 → Option ((ho_H × Int32) ⊕ (ho_H)) := fun (σ, x4) =>
  if x4 ≤ x2 then
  some (.inr σ)
  else
  (ho_gR σ a0 2 0).bind fun b1 =>
  (ho_lnI G σ (gA G 2)).bind fun v2 =>
  (ho_f σ a3 1).bind fun _ =>
  (ho_cv σ (f_Sl_seal G N σ a3 b1 (x4 * 5) 5 (gA G 2) v2)).bind fun σ4 =>
  (ho_gR σ4 a3 1 0).bind fun b5 =>
  (ho_gR σ4 a0 2 0).bind fun b6 =>
  (ho_cpI G σ4 b5 0 b6 ((x4 - 1) * 5) 5).bind fun σ7 =>
  some (.inl (σ7, x4 + (-1)))
def f_Kc_fillDown (G : ho_G) (N : Nat) (σ : ho_H) (a0 : Nat) (x1 : Int32) (x2 : Int32) (a3 : Nat) : Option (ho_H) :=
  (ho_it (f_Kc_fillDown_l3 G N a0 x2 a3) N (σ, x1)).bind fun σ8 =>
  some σ8
def f_Kc_byteAt (G : ho_G) (N : Nat) (σ : ho_H) (a0 : Nat) (x1 : Int32) (x2 : Int32) : Option (Int32) :=
  (ho_gR σ a0 2 0).bind fun b1 =>
  (f_Of_byteOf G N σ b1 ((x1 * 20) + x2)).bind fun v2 =>
  some v2
def f_Kc_writeKey_l3 (G : ho_G) (N : Nat) (a0 : Nat) (x1 : Int32) (a2 : Nat) (x3 : Int32) : ho_H × Int32 → Option ((ho_H × Int32) ⊕ (ho_H)) := fun (σ, x4) =>
  if 20 ≤ x4 then
  some (.inr σ)
  else
  (ho_f σ a0 2).bind fun _ =>
  (f_Kc_byteAt G N σ a0 x1 x4).bind fun v2 =>
  (ho_stI G σ a2 (x3 + x4) v2).bind fun σ3 =>
  some (.inl (σ3, x4 + 1))
def f_Kc_writeKey (G : ho_G) (N : Nat) (σ : ho_H) (a0 : Nat) (x1 : Int32) (a2 : Nat) (x3 : Int32) : Option (ho_H) :=
  (ho_it (f_Kc_writeKey_l3 G N a0 x1 a2 x3) N (σ, 0)).bind fun σ4 =>
  some σ4
def f_Kc_learnFrom (G : ho_G) (N : Nat) (σ : ho_H) (a0 : Nat) (a1 : Nat) (x2 : Int32) : Option (ho_H) :=
  (ho_gR σ a1 2 0).bind fun b1 =>
  (ho_gR σ a0 2 0).bind fun b2 =>
  (ho_cpI G σ b1 (x2 * 5) b2 (x2 * 5) 5).bind fun σ3 =>
  (ho_p σ3 a0 2 1 (.int x2)).bind fun σ4 =>
  (ho_p σ4 a0 2 2 (.int x2)).bind fun σ5 =>
  some σ5
def f_Kc_readKey_l3 (G : ho_G) (N : Nat) (a0 : Nat) (x1 : Int32) (a2 : Nat) (x3 : Int32) : ho_H × Int32 → Option ((ho_H × Int32) ⊕ (ho_H)) := fun (σ, x4) =>
  if 5 ≤ x4 then
  some (.inr σ)
  else
  (ho_gR σ a0 2 0).bind fun b1 =>
  (f_Of_wordAt G N σ a2 (x3 + (4 * x4))).bind fun v2 =>
  (ho_stI G σ b1 ((x1 * 5) + x4) v2).bind fun σ3 =>
  some (.inl (σ3, x4 + 1))
def f_Kc_readKey (G : ho_G) (N : Nat) (σ : ho_H) (a0 : Nat) (x1 : Int32) (a2 : Nat) (x3 : Int32) : Option (ho_H) :=
  (ho_it (f_Kc_readKey_l3 G N a0 x1 a2 x3) N (σ, 0)).bind fun σ4 =>
  some σ4
def f_Kc_learnRoot (G : ho_G) (N : Nat) (σ : ho_H) (a0 : Nat) (a1 : Nat) (x2 : Int32) : Option (ho_H) :=
  (ho_f σ a0 2).bind fun _ =>
  (ho_cv σ (f_Kc_readKey G N σ a0 0 a1 x2)).bind fun σ2 =>
  (ho_p σ2 a0 2 1 (.int 0)).bind fun σ3 =>
  (ho_p σ3 a0 2 2 (.int 0)).bind fun σ4 =>
  some σ4
def f_Kc_isKey_l3 (G : ho_G) (N : Nat) (σ : ho_H) (a0 : Nat) (x1 : Int32) (a2 : Nat) (x3 : Int32) : Int32 → Option ((Int32) ⊕ ((Unit) ⊕ (Int32))) := fun x4 =>
  if 20 ≤ x4 then
  some (.inr (.inl ()))
  else
  (ho_ldI G σ a2 (x3 + x4)).bind fun v1 =>
  (ho_f σ a0 2).bind fun _ =>
  (f_Kc_byteAt G N σ a0 x1 x4).bind fun v3 =>
  if v1 = v3 then
  some (.inl (x4 + 1))
  else
  some (.inr (.inr 0))
def f_Kc_isKey (G : ho_G) (N : Nat) (σ : ho_H) (a0 : Nat) (x1 : Int32) (a2 : Nat) (x3 : Int32) : Option (Int32) :=
  (ho_it (f_Kc_isKey_l3 G N σ a0 x1 a2 x3) N 0).bind (sm_e (fun _ =>
  some 1) (fun z => some z))
def f_Kc_raiseTo_l29 (G : ho_G) (N : Nat) (σ : ho_H) (a0 : Nat) (x1 : Int32) (a2 : Nat) : Int32 → Option ((Int32) ⊕ ((Unit) ⊕ (ho_H × Int32))) := fun x4 =>
  if 5 ≤ x4 then
  some (.inr (.inl ()))
  else
  (ho_gR σ a2 1 0).bind fun b6 =>
  (ho_ldI G σ b6 x4).bind fun v7 =>
  (ho_gR σ a0 2 0).bind fun b8 =>
  (ho_gI σ a0 2 2).bind fun v9 =>
  (ho_ldI G σ b8 ((v9 * 5) + x4)).bind fun v10 =>
  if v7 = v10 then
  some (.inl (x4 + 1))
  else
  some (.inr (.inr (σ, 0)))
def f_Kc_raiseTo (G : ho_G) (N : Nat) (σ : ho_H) (a0 : Nat) (x1 : Int32) (a2 : Nat) : Option (ho_H × Int32) :=
  (ho_gI σ a0 2 2).bind fun v1 =>
  (ho_gR σ a0 2 0).bind fun b2 =>
  (ho_lnI G σ (gA G 2)).bind fun v3 =>
  (ho_f σ a2 1).bind fun _ =>
  (ho_cv σ (f_Sl_seal G N σ a2 b2 ((v1 + 1) * 5) 5 (gA G 2) v3)).bind fun σ5 =>
  (ho_it (f_Kc_raiseTo_l29 G N σ5 a0 x1 a2) N 0).bind (sm_e (fun _ =>
  (ho_p σ5 a0 2 2 (.int x1)).bind fun σ11 =>
  some (σ11, 1)) (fun z => some z))
def f_Kc_sealPacket (G : ho_G) (N : Nat) (σ : ho_H) (a0 : Nat) (x1 : Int32) (a2 : Nat) (a3 : Nat) : Option (ho_H) :=
  (ho_gR σ a0 2 0).bind fun b1 =>
  (ho_lnI G σ (gA G 3)).bind fun v2 =>
  (ho_f σ a3 1).bind fun _ =>
  (ho_cv σ (f_Sl_seal G N σ a3 b1 (x1 * 5) 5 (gA G 3) v2)).bind fun σ4 =>
  (ho_gR σ4 a3 1 0).bind fun b5 =>
  (ho_gR σ4 a3 1 1).bind fun b6 =>
  (ho_cpI G σ4 b5 0 b6 0 8).bind fun σ7 =>
  (ho_gR σ7 a3 1 1).bind fun b8 =>
  (ho_gR σ7 a2 3 0).bind fun b9 =>
  (ho_f σ7 a2 3).bind fun _ =>
  (f_Pk_codeAt G N σ7 a2).bind fun v11 =>
  (ho_f σ7 a3 1).bind fun _ =>
  (ho_cv σ7 (f_Sl_seal G N σ7 a3 b8 0 8 b9 v11)).bind fun σ13 =>
  some σ13
def f_Of_isReceiver_j15 (G : ho_G) (N : Nat) (σ : ho_H) (y0 : Int32) : Option (Int32) :=
  (ho_bz y0).bind fun _ => some y0
def f_Of_isReceiver_j14 (G : ho_G) (N : Nat) (σ : ho_H)  : Option (Int32) :=
  f_Of_isReceiver_j15 G N σ 0
def f_Of_isReceiver (G : ho_G) (N : Nat) (σ : ho_H) (a0 : Nat) (x1 : Int32) : Option (Int32) :=
  if x1 < 0 then
  f_Of_isReceiver_j14 G N σ 
  else
  if 8 ≤ x1 then
  f_Of_isReceiver_j14 G N σ 
  else
  f_Of_isReceiver_j15 G N σ 1
def f_Lw_cell_j13 (G : ho_G) (N : Nat) (σ : ho_H) (y0 : Int32) : Option (Int32) :=
  some y0
def f_Lw_cell (G : ho_G) (N : Nat) (σ : ho_H) (a0 : Nat) (x1 : Int32) : Option (Int32) :=
  (ho_lnI G σ a0).bind fun v1 =>
  if v1 ≤ x1 then
  f_Lw_cell_j13 G N σ 0
  else
  (ho_ldI G σ a0 x1).bind fun v2 =>
  f_Lw_cell_j13 G N σ v2
end
section
set_option maxHeartbeats 4000000 in
set_option maxRecDepth 100000 in
theorem c_Ck_init (l : Launch) (G : ho_G) (N : Nat) (σ : ho_H) (a0 : Nat) (x1 : Int32) (x2 : Int32) (x3 : Int32) (σ' : ho_H) (hf : f_Ck_init G N σ a0 x1 x2 x3 = some σ') : hv_C l G y_Ck_init (Cond.code y_Ck_init b_Ck_init 4 none :: hv_ws) 1 20 [.ref a0, .int x1, .int x2, .int x3] σ σ' (none) := by
  refine hv_met [some (.ref a0), some (.int x1), some (.int x2), some (.int x3)] (plainFor_of_name (by decide +kernel)) (by intro v hv; simp at hv; rcases hv with rfl | rfl | rfl | rfl <;> rfl) (Nat.le_of_ble_eq_true rfl) rfl ?_
  intro k X hkl hkG E
  subst hkl
  subst hkG
  unfold f_Ck_init at hf
  refine hv_aload_n (pn := 1) X d_Ck_init_0 ?_
  refine hv_oinit (pn := 4) X d_Ck_init_1 q_1_40 q_1_30 q_1_31 (by decide) (by decide) (Nat.le_of_ble_eq_true rfl) ?_
  refine hv_aload_n (pn := 5) X d_Ck_init_4 ?_
  refine hv_iload_n (pn := 6) X d_Ck_init_5 ?_
  obtain ⟨σ1, hσ1, hf⟩ := bd_E hf
  refine hv_putF (pn := 9) X d_Ck_init_6 fp_Ck_7 hσ1 ?_
  refine hv_aload_n (pn := 10) X d_Ck_init_9 ?_
  refine hv_iload_n (pn := 11) X d_Ck_init_10 ?_
  obtain ⟨σ2, hσ2, hf⟩ := bd_E hf
  refine hv_putF (pn := 14) X d_Ck_init_11 fp_Ck_13 hσ2 ?_
  refine hv_aload_n (pn := 15) X d_Ck_init_14 ?_
  refine hv_iload_n (pn := 16) X d_Ck_init_15 ?_
  obtain ⟨σ3, hσ3, hf⟩ := bd_E hf
  refine hv_putF (pn := 19) X d_Ck_init_16 fp_Ck_16 hσ3 ?_
  cases hf
  exact hv_vret X d_Ck_init_19 E
set_option maxHeartbeats 4000000 in
set_option maxRecDepth 100000 in
theorem c_Sl_init (l : Launch) (G : ho_G) (N : Nat) (σ : ho_H) (a0 : Nat) (σ' : ho_H) (hf : f_Sl_init G N σ a0 = some σ') : hv_C l G y_Sl_init (Cond.code y_Sl_init b_Sl_init 1 none :: hv_ws) 1 20 [.ref a0] σ σ' (none) := by
  refine hv_met [some (.ref a0)] (plainFor_of_name (by decide +kernel)) (by intro v hv; simp at hv; rcases hv with rfl <;> rfl) (Nat.le_of_ble_eq_true rfl) rfl ?_
  intro k X hkl hkG E
  subst hkl
  subst hkG
  unfold f_Sl_init at hf
  refine hv_aload_n (pn := 1) X d_Sl_init_0 ?_
  refine hv_oinit (pn := 4) X d_Sl_init_1 q_1_62 q_1_30 q_1_31 (by decide) (by decide) (Nat.le_of_ble_eq_true rfl) ?_
  refine hv_aload_n (pn := 5) X d_Sl_init_4 ?_
  refine hv_bipush (pn := 7) (v := 8) X d_Sl_init_5 ?_
  obtain ⟨σ1, b2, hσ1, hf⟩ := bd2_E hf
  refine hv_nwI (pn := 9) X d_Sl_init_7 q_1_83 hσ1 ?_
  obtain ⟨σ3, hσ3, hf⟩ := bd_E hf
  refine hv_putF (pn := 12) X d_Sl_init_9 fp_Sl_9 hσ3 ?_
  refine hv_aload_n (pn := 13) X d_Sl_init_12 ?_
  refine hv_bipush (pn := 15) (v := 8) X d_Sl_init_13 ?_
  obtain ⟨σ4, b5, hσ4, hf⟩ := bd2_E hf
  refine hv_nwI (pn := 17) X d_Sl_init_15 q_1_83 hσ4 ?_
  obtain ⟨σ6, hσ6, hf⟩ := bd_E hf
  refine hv_putF (pn := 20) X d_Sl_init_17 fp_Sl_13 hσ6 ?_
  refine hv_aload_n (pn := 21) X d_Sl_init_20 ?_
  refine hv_bipush (pn := 23) (v := 32) X d_Sl_init_21 ?_
  obtain ⟨σ7, b8, hσ7, hf⟩ := bd2_E hf
  refine hv_nwI (pn := 25) X d_Sl_init_23 q_1_83 hσ7 ?_
  obtain ⟨σ9, hσ9, hf⟩ := bd_E hf
  refine hv_putF (pn := 28) X d_Sl_init_25 fp_Sl_16 hσ9 ?_
  refine hv_aload_n (pn := 29) X d_Sl_init_28 ?_
  refine hv_bipush (pn := 31) (v := 64) X d_Sl_init_29 ?_
  obtain ⟨σ10, b11, hσ10, hf⟩ := bd2_E hf
  refine hv_nwI (pn := 33) X d_Sl_init_31 q_1_83 hσ10 ?_
  obtain ⟨σ12, hσ12, hf⟩ := bd_E hf
  refine hv_putF (pn := 36) X d_Sl_init_33 fp_Sl_19 hσ12 ?_
  cases hf
  exact hv_vret X d_Sl_init_36 E
set_option maxHeartbeats 4000000 in
set_option maxRecDepth 100000 in
theorem c_Kc_init (l : Launch) (G : ho_G) (N : Nat) (σ : ho_H) (a0 : Nat) (σ' : ho_H) (hf : f_Kc_init G N σ a0 = some σ') : hv_C l G y_Kc_init (Cond.code y_Kc_init b_Kc_init 1 none :: hv_ws) 1 20 [.ref a0] σ σ' (none) := by
  refine hv_met [some (.ref a0)] (plainFor_of_name (by decide +kernel)) (by intro v hv; simp at hv; rcases hv with rfl <;> rfl) (Nat.le_of_ble_eq_true rfl) rfl ?_
  intro k X hkl hkG E
  subst hkl
  subst hkG
  unfold f_Kc_init at hf
  refine hv_aload_n (pn := 1) X d_Kc_init_0 ?_
  refine hv_oinit (pn := 4) X d_Kc_init_1 q_1_90 q_1_30 q_1_31 (by decide) (by decide) (Nat.le_of_ble_eq_true rfl) ?_
  refine hv_aload_n (pn := 5) X d_Kc_init_4 ?_
  refine hv_sipush (pn := 8) (v := 325) X d_Kc_init_5 ?_
  obtain ⟨σ1, b2, hσ1, hf⟩ := bd2_E hf
  refine hv_nwI (pn := 10) X d_Kc_init_8 q_1_83 hσ1 ?_
  obtain ⟨σ3, hσ3, hf⟩ := bd_E hf
  refine hv_putF (pn := 13) X d_Kc_init_10 fp_Kc_9 hσ3 ?_
  refine hv_aload_n (pn := 14) X d_Kc_init_13 ?_
  refine hv_iconst (pn := 15) (v := (-1)) X d_Kc_init_14 ?_
  obtain ⟨σ4, hσ4, hf⟩ := bd_E hf
  refine hv_put (pn := 18) X d_Kc_init_15 fp_Kc_15 hσ4 ?_
  refine hv_aload_n (pn := 19) X d_Kc_init_18 ?_
  refine hv_iconst (pn := 20) (v := (-1)) X d_Kc_init_19 ?_
  obtain ⟨σ5, hσ5, hf⟩ := bd_E hf
  refine hv_put (pn := 23) X d_Kc_init_20 fp_Kc_19 hσ5 ?_
  cases hf
  exact hv_vret X d_Kc_init_23 E
set_option maxHeartbeats 4000000 in
set_option maxRecDepth 100000 in
theorem c_Pk_init1 (l : Launch) (G : ho_G) (N : Nat) (σ : ho_H) (a0 : Nat) (x1 : Int32) (x2 : Int32) (x3 : Int32) (σ' : ho_H) (hf : f_Pk_init1 G N σ a0 x1 x2 x3 = some σ') : hv_C l G y_Pk_init1 (Cond.code y_Pk_init1 b_Pk_init1 4 none :: hv_ws) 1 20 [.ref a0, .int x1, .int x2, .int x3] σ σ' (none) := by
  refine hv_met [some (.ref a0), some (.int x1), some (.int x2), some (.int x3)] (plainFor_of_name (by decide +kernel)) (by intro v hv; simp at hv; rcases hv with rfl | rfl | rfl | rfl <;> rfl) (Nat.le_of_ble_eq_true rfl) rfl ?_
  intro k X hkl hkG E
  subst hkl
  subst hkG
  unfold f_Pk_init1 at hf
  refine hv_aload_n (pn := 1) X d_Pk_init1_0 ?_
  refine hv_oinit (pn := 4) X d_Pk_init1_1 q_2_182 q_1_30 q_1_31 (by decide) (by decide) (Nat.le_of_ble_eq_true rfl) ?_
  refine hv_aload_n (pn := 5) X d_Pk_init1_4 ?_
  refine hv_bipush (pn := 7) (v := 36) X d_Pk_init1_5 ?_
  refine hv_iload_n (pn := 8) X d_Pk_init1_7 ?_
  refine hv_iadd (pn := 9) X d_Pk_init1_8 ?_
  obtain ⟨σ1, b2, hσ1, hf⟩ := bd2_E hf
  refine hv_nwI (pn := 11) X d_Pk_init1_9 q_1_83 hσ1 ?_
  obtain ⟨σ3, hσ3, hf⟩ := bd_E hf
  refine hv_putF (pn := 14) X d_Pk_init1_11 fp_Pk_11 hσ3 ?_
  refine hv_aload_n (pn := 15) X d_Pk_init1_14 ?_
  obtain ⟨b4, hb4, hf⟩ := bd_E hf
  refine hv_getR (pn := 18) X d_Pk_init1_15 fa_Pk_11 hb4 ?_
  refine hv_iconst (pn := 19) (v := 0) X d_Pk_init1_18 ?_
  refine hv_iload_n (pn := 20) X d_Pk_init1_19 ?_
  refine hv_bipush (pn := 22) (v := 24) X d_Pk_init1_20 ?_
  refine hv_iushr (pn := 23) X d_Pk_init1_22 ?_
  obtain ⟨σ5, hσ5, hf⟩ := bd_E hf
  refine hv_iast (pn := 24) X d_Pk_init1_23 hσ5 ?_
  refine hv_aload_n (pn := 25) X d_Pk_init1_24 ?_
  obtain ⟨b6, hb6, hf⟩ := bd_E hf
  refine hv_getR (pn := 28) X d_Pk_init1_25 fa_Pk_11 hb6 ?_
  refine hv_iconst (pn := 29) (v := 1) X d_Pk_init1_28 ?_
  refine hv_iload_n (pn := 30) X d_Pk_init1_29 ?_
  refine hv_bipush (pn := 32) (v := 16) X d_Pk_init1_30 ?_
  refine hv_iushr (pn := 33) X d_Pk_init1_32 ?_
  refine hv_sipush (pn := 36) (v := 255) X d_Pk_init1_33 ?_
  refine hv_iand (pn := 37) X d_Pk_init1_36 ?_
  obtain ⟨σ7, hσ7, hf⟩ := bd_E hf
  refine hv_iast (pn := 38) X d_Pk_init1_37 hσ7 ?_
  refine hv_aload_n (pn := 39) X d_Pk_init1_38 ?_
  obtain ⟨b8, hb8, hf⟩ := bd_E hf
  refine hv_getR (pn := 42) X d_Pk_init1_39 fa_Pk_11 hb8 ?_
  refine hv_iconst (pn := 43) (v := 2) X d_Pk_init1_42 ?_
  refine hv_iload_n (pn := 44) X d_Pk_init1_43 ?_
  refine hv_bipush (pn := 46) (v := 8) X d_Pk_init1_44 ?_
  refine hv_iushr (pn := 47) X d_Pk_init1_46 ?_
  refine hv_sipush (pn := 50) (v := 255) X d_Pk_init1_47 ?_
  refine hv_iand (pn := 51) X d_Pk_init1_50 ?_
  obtain ⟨σ9, hσ9, hf⟩ := bd_E hf
  refine hv_iast (pn := 52) X d_Pk_init1_51 hσ9 ?_
  refine hv_aload_n (pn := 53) X d_Pk_init1_52 ?_
  obtain ⟨b10, hb10, hf⟩ := bd_E hf
  refine hv_getR (pn := 56) X d_Pk_init1_53 fa_Pk_11 hb10 ?_
  refine hv_iconst (pn := 57) (v := 3) X d_Pk_init1_56 ?_
  refine hv_iload_n (pn := 58) X d_Pk_init1_57 ?_
  refine hv_sipush (pn := 61) (v := 255) X d_Pk_init1_58 ?_
  refine hv_iand (pn := 62) X d_Pk_init1_61 ?_
  obtain ⟨σ11, hσ11, hf⟩ := bd_E hf
  refine hv_iast (pn := 63) X d_Pk_init1_62 hσ11 ?_
  refine hv_aload_n (pn := 64) X d_Pk_init1_63 ?_
  obtain ⟨b12, hb12, hf⟩ := bd_E hf
  refine hv_getR (pn := 67) X d_Pk_init1_64 fa_Pk_11 hb12 ?_
  refine hv_iconst (pn := 68) (v := 4) X d_Pk_init1_67 ?_
  refine hv_iload_n (pn := 69) X d_Pk_init1_68 ?_
  obtain ⟨σ13, hσ13, hf⟩ := bd_E hf
  refine hv_iast (pn := 70) X d_Pk_init1_69 hσ13 ?_
  refine hv_aload_n (pn := 71) X d_Pk_init1_70 ?_
  obtain ⟨b14, hb14, hf⟩ := bd_E hf
  refine hv_getR (pn := 74) X d_Pk_init1_71 fa_Pk_11 hb14 ?_
  refine hv_iconst (pn := 75) (v := 5) X d_Pk_init1_74 ?_
  refine hv_iload_n (pn := 76) X d_Pk_init1_75 ?_
  obtain ⟨σ15, hσ15, hf⟩ := bd_E hf
  refine hv_iast (pn := 77) X d_Pk_init1_76 hσ15 ?_
  cases hf
  exact hv_vret X d_Pk_init1_77 E
set_option maxHeartbeats 4000000 in
set_option maxRecDepth 100000 in
theorem c_Pk_interval (l : Launch) (G : ho_G) (N : Nat) (σ : ho_H) (a0 : Nat) (r : Int32) (hf : f_Pk_interval G N σ a0 = some r) : hv_C l G y_Pk_interval (Cond.code y_Pk_interval b_Pk_interval 1 (some (.int)) :: hv_ws) 1 21 [.ref a0] σ σ (some (.int r)) := by
  refine hv_met [some (.ref a0)] (plainFor_of_name (by decide +kernel)) (by intro v hv; simp at hv; rcases hv with rfl <;> rfl) (Nat.le_of_ble_eq_true rfl) rfl ?_
  intro k X hkl hkG E
  subst hkl
  subst hkG
  unfold f_Pk_interval at hf
  refine hv_aload_n (pn := 1) X d_Pk_interval_0 ?_
  obtain ⟨b1, hb1, hf⟩ := bd_E hf
  refine hv_getR (pn := 4) X d_Pk_interval_1 fa_Pk_11 hb1 ?_
  refine hv_iconst (pn := 5) (v := 0) X d_Pk_interval_4 ?_
  obtain ⟨v2, hv2, hf⟩ := bd_E hf
  refine hv_callS (pn := 8) X d_Pk_interval_5 (c_Of_wordAt _ _ N σ b1 0 _ hv2) cs_Pk_20 q_2_199 (by decide) (by decide) ⟨Nat.le_refl _, Nat.le_refl _⟩ (Nat.le_of_ble_eq_true rfl) ?_
  cases hf
  exact hv_iret X d_Pk_interval_8 E
set_option maxHeartbeats 4000000 in
set_option maxRecDepth 100000 in
theorem c_Pk_size (l : Launch) (G : ho_G) (N : Nat) (σ : ho_H) (a0 : Nat) (r : Int32) (hf : f_Pk_size G N σ a0 = some r) : hv_C l G y_Pk_size (Cond.code y_Pk_size b_Pk_size 1 (some (.int)) :: hv_ws) 0 0 [.ref a0] σ σ (some (.int r)) := by
  refine hv_met [some (.ref a0)] (plainFor_of_name (by decide +kernel)) (by intro v hv; simp at hv; rcases hv with rfl <;> rfl) (Nat.le_of_ble_eq_true rfl) rfl ?_
  intro k X hkl hkG E
  subst hkl
  subst hkG
  unfold f_Pk_size at hf
  refine hv_aload_n (pn := 1) X d_Pk_size_0 ?_
  obtain ⟨b1, hb1, hf⟩ := bd_E hf
  refine hv_getR (pn := 4) X d_Pk_size_1 fa_Pk_11 hb1 ?_
  refine hv_iconst (pn := 5) (v := 5) X d_Pk_size_4 ?_
  obtain ⟨v2, hv2, hf⟩ := bd_E hf
  refine hv_iald (pn := 6) X d_Pk_size_5 hv2 ?_
  cases hf
  exact hv_iret X d_Pk_size_6 E
set_option maxHeartbeats 4000000 in
set_option maxRecDepth 100000 in
theorem c_Pk_kind (l : Launch) (G : ho_G) (N : Nat) (σ : ho_H) (a0 : Nat) (r : Int32) (hf : f_Pk_kind G N σ a0 = some r) : hv_C l G y_Pk_kind (Cond.code y_Pk_kind b_Pk_kind 1 (some (.int)) :: hv_ws) 0 0 [.ref a0] σ σ (some (.int r)) := by
  refine hv_met [some (.ref a0)] (plainFor_of_name (by decide +kernel)) (by intro v hv; simp at hv; rcases hv with rfl <;> rfl) (Nat.le_of_ble_eq_true rfl) rfl ?_
  intro k X hkl hkG E
  subst hkl
  subst hkG
  unfold f_Pk_kind at hf
  refine hv_aload_n (pn := 1) X d_Pk_kind_0 ?_
  obtain ⟨b1, hb1, hf⟩ := bd_E hf
  refine hv_getR (pn := 4) X d_Pk_kind_1 fa_Pk_11 hb1 ?_
  refine hv_iconst (pn := 5) (v := 4) X d_Pk_kind_4 ?_
  obtain ⟨v2, hv2, hf⟩ := bd_E hf
  refine hv_iald (pn := 6) X d_Pk_kind_5 hv2 ?_
  cases hf
  exact hv_iret X d_Pk_kind_6 E
set_option maxHeartbeats 4000000 in
set_option maxRecDepth 100000 in
theorem c_Pk_codeAt (l : Launch) (G : ho_G) (N : Nat) (σ : ho_H) (a0 : Nat) (r : Int32) (hf : f_Pk_codeAt G N σ a0 = some r) : hv_C l G y_Pk_codeAt (Cond.code y_Pk_codeAt b_Pk_codeAt 1 (some (.int)) :: hv_ws) 1 20 [.ref a0] σ σ (some (.int r)) := by
  refine hv_met [some (.ref a0)] (plainFor_of_name (by decide +kernel)) (by intro v hv; simp at hv; rcases hv with rfl <;> rfl) (Nat.le_of_ble_eq_true rfl) rfl ?_
  intro k X hkl hkG E
  subst hkl
  subst hkG
  unfold f_Pk_codeAt at hf
  refine hv_bipush (pn := 2) (v := 6) X d_Pk_codeAt_0 ?_
  refine hv_aload_n (pn := 3) X d_Pk_codeAt_2 ?_
  obtain ⟨_, hr1, hf⟩ := bd_E hf
  obtain ⟨v2, hv2, hf⟩ := bd_E hf
  refine hv_callV (pn := 6) X d_Pk_codeAt_3 (c_Pk_size _ _ N σ a0 _ hv2) cs_Pk_24 q_2_215 rfl q_2_216 hr1 (by decide) (by decide) ⟨Nat.le_refl _, Nat.le_refl _⟩ (Nat.le_of_ble_eq_true rfl) ?_
  refine hv_iadd (pn := 7) X d_Pk_codeAt_6 ?_
  cases hf
  exact hv_iret X d_Pk_codeAt_7 E
set_option maxHeartbeats 4000000 in
set_option maxRecDepth 100000 in
theorem c_Pk_shownAt (l : Launch) (G : ho_G) (N : Nat) (σ : ho_H) (a0 : Nat) (r : Int32) (hf : f_Pk_shownAt G N σ a0 = some r) : hv_C l G y_Pk_shownAt (Cond.code y_Pk_shownAt b_Pk_shownAt 1 (some (.int)) :: hv_ws) 2 40 [.ref a0] σ σ (some (.int r)) := by
  refine hv_met [some (.ref a0)] (plainFor_of_name (by decide +kernel)) (by intro v hv; simp at hv; rcases hv with rfl <;> rfl) (Nat.le_of_ble_eq_true rfl) rfl ?_
  intro k X hkl hkG E
  subst hkl
  subst hkG
  unfold f_Pk_shownAt at hf
  refine hv_aload_n (pn := 1) X d_Pk_shownAt_0 ?_
  obtain ⟨_, hr1, hf⟩ := bd_E hf
  obtain ⟨v2, hv2, hf⟩ := bd_E hf
  refine hv_callV (pn := 4) X d_Pk_shownAt_1 (c_Pk_codeAt _ _ N σ a0 _ hv2) cs_Pk_28 q_2_211 rfl q_2_212 hr1 (by decide) (by decide) ⟨Nat.le_refl _, Nat.le_refl _⟩ (Nat.le_of_ble_eq_true rfl) ?_
  refine hv_bipush (pn := 6) (v := 10) X d_Pk_shownAt_4 ?_
  refine hv_iadd (pn := 7) X d_Pk_shownAt_6 ?_
  cases hf
  exact hv_iret X d_Pk_shownAt_7 E
set_option maxHeartbeats 4000000 in
set_option maxRecDepth 100000 in
theorem w_Pk_isBroken_j74 {k : mk_T} (X : hv_X k b_Pk_isBroken y_Pk_isBroken.cls 3 2 41 (some (.boolean)) y_Pk_isBroken.name) (N : Nat) (σ : ho_H) (y0 : Int32)  (r : Int32) (hf : f_Pk_isBroken_j74 k.2.1 N σ y0 = some r) (E : hv_end k σ (some (.int r))) : hv_V k σ 74 [none, none, none] [.int y0] := by
  unfold f_Pk_isBroken_j74 at hf
  obtain ⟨_, hz, hf⟩ := bd_E hf
  cases hf
  exact hv_zret X d_Pk_isBroken_74 (ho_bz_E hz) E
set_option maxHeartbeats 4000000 in
set_option maxRecDepth 100000 in
theorem w_Pk_isBroken_j69 {k : mk_T} (X : hv_X k b_Pk_isBroken y_Pk_isBroken.cls 3 2 41 (some (.boolean)) y_Pk_isBroken.name) (N : Nat) (σ : ho_H)   (r : Int32) (hf : f_Pk_isBroken_j69 k.2.1 N σ  = some r) (E : hv_end k σ (some (.int r))) : hv_V k σ 69 [none, none, none] [] := by
  unfold f_Pk_isBroken_j69 at hf
  refine hv_iconst (pn := 70) (v := 1) X d_Pk_isBroken_69 ?_
  refine hv_goto (tgt := 74) X d_Pk_isBroken_70 (by decide) ?_
  exact w_Pk_isBroken_j74 X N σ 1  _ hf E
set_option maxHeartbeats 4000000 in
set_option maxRecDepth 100000 in
theorem w_Pk_isBroken_j57 {k : mk_T} (X : hv_X k b_Pk_isBroken y_Pk_isBroken.cls 3 2 41 (some (.boolean)) y_Pk_isBroken.name) (N : Nat) (σ : ho_H) (x2 : Int32)  (r : Int32) (hf : f_Pk_isBroken_j57 k.2.1 N σ x2 = some r) (E : hv_end k σ (some (.int r))) : hv_V k σ 57 [none, none, some (.int x2)] [] := by
  unfold f_Pk_isBroken_j57 at hf
  refine hv_iload_n (pn := 58) X d_Pk_isBroken_57 ?_
  refine hv_iconst (pn := 59) (v := 1) X d_Pk_isBroken_58 ?_
  refine hv_icmp_lt (pn := 62) (tgt := 69) X d_Pk_isBroken_59 (by decide) (fun hc => ?_) (fun hc => ?_)
  · rw [if_pos hc] at hf
    refine hv_drop (i := 2) (lo' := [none, none, none]) ?_
    exact w_Pk_isBroken_j69 X N σ   _ hf E
  · rw [if_neg hc] at hf
    refine hv_iload_n (pn := 63) X d_Pk_isBroken_62 ?_
    refine hv_sipush (pn := 66) (v := 512) X d_Pk_isBroken_63 ?_
    refine hv_icmp_le (pn := 69) (tgt := 73) X d_Pk_isBroken_66 (by decide) (fun hc => ?_) (fun hc => ?_)
    · rw [if_pos hc] at hf
      refine hv_iconst (pn := 74) (v := 0) X d_Pk_isBroken_73 ?_
      refine hv_drop (i := 2) (lo' := [none, none, none]) ?_
      exact w_Pk_isBroken_j74 X N σ 0  _ hf E
    · rw [if_neg hc] at hf
      refine hv_drop (i := 2) (lo' := [none, none, none]) ?_
      exact w_Pk_isBroken_j69 X N σ   _ hf E
set_option maxHeartbeats 4000000 in
set_option maxRecDepth 100000 in
theorem w_Pk_isBroken_j43 {k : mk_T} (X : hv_X k b_Pk_isBroken y_Pk_isBroken.cls 3 2 41 (some (.boolean)) y_Pk_isBroken.name) (N : Nat) (σ : ho_H) (a0 : Nat) (x1 : Int32) (x2 : Int32)  (r : Int32) (hf : f_Pk_isBroken_j43 k.2.1 N σ a0 x1 x2 = some r) (E : hv_end k σ (some (.int r))) : hv_V k σ 43 [some (.ref a0), some (.int x1), some (.int x2)] [] := by
  unfold f_Pk_isBroken_j43 at hf
  refine hv_aload_n (pn := 44) X d_Pk_isBroken_43 ?_
  obtain ⟨_, hr9, hf⟩ := bd_E hf
  obtain ⟨v10, hv10, hf⟩ := bd_E hf
  refine hv_callV (pn := 47) X d_Pk_isBroken_44 (c_Pk_kind _ _ N σ a0 _ hv10) cs_Pk_34 q_3_156 rfl q_3_157 hr9 (by decide) (by decide) ⟨Nat.le_refl _, Nat.le_refl _⟩ (Nat.le_of_ble_eq_true rfl) ?_
  refine hv_iconst (pn := 48) (v := 1) X d_Pk_isBroken_47 ?_
  refine hv_icmp_ne (pn := 51) (tgt := 57) X d_Pk_isBroken_48 (by decide) (fun hc => ?_) (fun hc => ?_)
  · rw [if_pos hc] at hf
    refine hv_drop (i := 0) (lo' := [none, some (.int x1), some (.int x2)]) ?_
    refine hv_drop (i := 1) (lo' := [none, none, some (.int x2)]) ?_
    exact w_Pk_isBroken_j57 X N σ x2  _ hf E
  · rw [if_neg hc] at hf
    refine hv_iload_n (pn := 52) X d_Pk_isBroken_51 ?_
    refine hv_bipush (pn := 54) (v := 20) X d_Pk_isBroken_52 ?_
    refine hv_icmp_ne (pn := 57) (tgt := 69) X d_Pk_isBroken_54 (by decide) (fun hc => ?_) (fun hc => ?_)
    · rw [if_pos hc] at hf
      refine hv_drop (i := 0) (lo' := [none, some (.int x1), some (.int x2)]) ?_
      refine hv_drop (i := 1) (lo' := [none, none, some (.int x2)]) ?_
      refine hv_drop (i := 2) (lo' := [none, none, none]) ?_
      exact w_Pk_isBroken_j69 X N σ   _ hf E
    · rw [if_neg hc] at hf
      refine hv_drop (i := 0) (lo' := [none, some (.int x1), some (.int x2)]) ?_
      refine hv_drop (i := 1) (lo' := [none, none, some (.int x2)]) ?_
      exact w_Pk_isBroken_j57 X N σ x2  _ hf E
set_option maxHeartbeats 4000000 in
set_option maxRecDepth 100000 in
theorem c_Pk_isBroken (l : Launch) (G : ho_G) (N : Nat) (σ : ho_H) (a0 : Nat) (r : Int32) (hf : f_Pk_isBroken G N σ a0 = some r) : hv_C l G y_Pk_isBroken (Cond.code y_Pk_isBroken b_Pk_isBroken 3 (some (.boolean)) :: hv_ws) 2 41 [.ref a0] σ σ (some (.int r)) := by
  refine hv_met [some (.ref a0), none, none] (plainFor_of_name (by decide +kernel)) (by intro v hv; simp at hv; rcases hv with rfl <;> rfl) (Nat.le_of_ble_eq_true rfl) rfl ?_
  intro k X hkl hkG E
  subst hkl
  subst hkG
  unfold f_Pk_isBroken at hf
  refine hv_aload_n (pn := 1) X d_Pk_isBroken_0 ?_
  obtain ⟨_, hr1, hf⟩ := bd_E hf
  obtain ⟨v2, hv2, hf⟩ := bd_E hf
  refine hv_callV (pn := 4) X d_Pk_isBroken_1 (c_Pk_size _ _ N σ a0 _ hv2) cs_Pk_24 q_2_215 rfl q_2_216 hr1 (by decide) (by decide) ⟨Nat.le_refl _, Nat.le_refl _⟩ (Nat.le_of_ble_eq_true rfl) ?_
  refine hv_istore_n (pn := 5) (i := 1) (lo' := [some (.ref a0), some (.int v2), none]) X d_Pk_isBroken_4 ?_
  refine hv_aload_n (pn := 6) X d_Pk_isBroken_5 ?_
  obtain ⟨_, hr3, hf⟩ := bd_E hf
  obtain ⟨v4, hv4, hf⟩ := bd_E hf
  refine hv_callV (pn := 9) X d_Pk_isBroken_6 (c_Pk_interval _ _ N σ a0 _ hv4) cs_Pk_31 q_2_195 rfl q_2_196 hr3 (by decide) (by decide) ⟨Nat.le_refl _, Nat.le_refl _⟩ (Nat.le_of_ble_eq_true rfl) ?_
  refine hv_istore_n (pn := 10) (i := 2) (lo' := [some (.ref a0), some (.int v2), some (.int v4)]) X d_Pk_isBroken_9 ?_
  refine hv_aload_n (pn := 11) X d_Pk_isBroken_10 ?_
  obtain ⟨b5, hb5, hf⟩ := bd_E hf
  refine hv_getR (pn := 14) X d_Pk_isBroken_11 fa_Pk_11 hb5 ?_
  obtain ⟨v6, hv6, hf⟩ := bd_E hf
  refine hv_alenI (pn := 15) X d_Pk_isBroken_14 hv6 ?_
  refine hv_bipush (pn := 17) (v := 36) X d_Pk_isBroken_15 ?_
  refine hv_iload_n (pn := 18) X d_Pk_isBroken_17 ?_
  refine hv_iadd (pn := 19) X d_Pk_isBroken_18 ?_
  refine hv_icmp_ne (pn := 22) (tgt := 69) X d_Pk_isBroken_19 (by decide) (fun hc => ?_) (fun hc => ?_)
  · rw [if_pos hc] at hf
    refine hv_drop (i := 0) (lo' := [none, some (.int v2), some (.int v4)]) ?_
    refine hv_drop (i := 1) (lo' := [none, none, some (.int v4)]) ?_
    refine hv_drop (i := 2) (lo' := [none, none, none]) ?_
    exact w_Pk_isBroken_j69 X N σ   _ hf E
  · rw [if_neg hc] at hf
    refine hv_iload_n (pn := 23) X d_Pk_isBroken_22 ?_
    refine hv_bipush (pn := 25) (v := 32) X d_Pk_isBroken_23 ?_
    refine hv_icmp_gt (pn := 28) (tgt := 69) X d_Pk_isBroken_25 (by decide) (fun hc => ?_) (fun hc => ?_)
    · rw [if_pos hc] at hf
      refine hv_drop (i := 0) (lo' := [none, some (.int v2), some (.int v4)]) ?_
      refine hv_drop (i := 1) (lo' := [none, none, some (.int v4)]) ?_
      refine hv_drop (i := 2) (lo' := [none, none, none]) ?_
      exact w_Pk_isBroken_j69 X N σ   _ hf E
    · rw [if_neg hc] at hf
      refine hv_aload_n (pn := 29) X d_Pk_isBroken_28 ?_
      obtain ⟨_, hr7, hf⟩ := bd_E hf
      obtain ⟨v8, hv8, hf⟩ := bd_E hf
      refine hv_callV (pn := 32) X d_Pk_isBroken_29 (c_Pk_kind _ _ N σ a0 _ hv8) cs_Pk_34 q_3_156 rfl q_3_157 hr7 (by decide) (by decide) ⟨Nat.le_refl _, Nat.le_refl _⟩ (Nat.le_of_ble_eq_true rfl) ?_
      refine hv_if_eq (pn := 35) (tgt := 43) X d_Pk_isBroken_32 (by decide) (fun hc => ?_) (fun hc => ?_)
      · rw [if_pos hc] at hf
        exact w_Pk_isBroken_j43 X N σ a0 v2 v4  _ hf E
      · rw [if_neg hc] at hf
        refine hv_aload_n (pn := 36) X d_Pk_isBroken_35 ?_
        obtain ⟨_, hr11, hf⟩ := bd_E hf
        obtain ⟨v12, hv12, hf⟩ := bd_E hf
        refine hv_callV (pn := 39) X d_Pk_isBroken_36 (c_Pk_kind _ _ N σ a0 _ hv12) cs_Pk_34 q_3_156 rfl q_3_157 hr11 (by decide) (by decide) ⟨Nat.le_refl _, Nat.le_refl _⟩ (Nat.le_of_ble_eq_true rfl) ?_
        refine hv_iconst (pn := 40) (v := 1) X d_Pk_isBroken_39 ?_
        refine hv_icmp_ne (pn := 43) (tgt := 69) X d_Pk_isBroken_40 (by decide) (fun hc => ?_) (fun hc => ?_)
        · rw [if_pos hc] at hf
          refine hv_drop (i := 0) (lo' := [none, some (.int v2), some (.int v4)]) ?_
          refine hv_drop (i := 1) (lo' := [none, none, some (.int v4)]) ?_
          refine hv_drop (i := 2) (lo' := [none, none, none]) ?_
          exact w_Pk_isBroken_j69 X N σ   _ hf E
        · rw [if_neg hc] at hf
          exact w_Pk_isBroken_j43 X N σ a0 v2 v4  _ hf E
set_option maxHeartbeats 4000000 in
set_option maxRecDepth 100000 in
theorem w_Pk_writeCode_l2 {k : mk_T} (X : hv_X k b_Pk_writeCode y_Pk_writeCode.cls 3 2 40 none y_Pk_writeCode.name) (N : Nat) (a0 : Nat) (a1 : Nat) (σ : ho_H) (x2 : Int32) (r : (ho_H × Int32) ⊕ (ho_H)) (hf : f_Pk_writeCode_l2 k.2.1 N a0 a1 (σ, x2) = some r) (E : sm (fun s => hv_V k s.1 2 [some (.ref a0), some (.ref a1), some (.int s.2)] []) (fun s => hv_V k s 30 [none, none, none] []) r) : hv_V k σ 2 [some (.ref a0), some (.ref a1), some (.int x2)] [] := by
  unfold f_Pk_writeCode_l2 at hf
  try dsimp only at hf
  refine hv_iload_n (pn := 3) X d_Pk_writeCode_2 ?_
  refine hv_bipush (pn := 5) (v := 10) X d_Pk_writeCode_3 ?_
  refine hv_icmp_ge (pn := 8) (tgt := 30) X d_Pk_writeCode_5 (by decide) (fun hc => ?_) (fun hc => ?_)
  · rw [if_pos hc] at hf
    refine hv_drop (i := 0) (lo' := [none, some (.ref a1), some (.int x2)]) ?_
    refine hv_drop (i := 1) (lo' := [none, none, some (.int x2)]) ?_
    refine hv_drop (i := 2) (lo' := [none, none, none]) ?_
    cases hf
    exact E
  · rw [if_neg hc] at hf
    refine hv_aload_n (pn := 9) X d_Pk_writeCode_8 ?_
    obtain ⟨b1, hb1, hf⟩ := bd_E hf
    refine hv_getR (pn := 12) X d_Pk_writeCode_9 fa_Pk_11 hb1 ?_
    refine hv_aload_n (pn := 13) X d_Pk_writeCode_12 ?_
    obtain ⟨_, hr2, hf⟩ := bd_E hf
    obtain ⟨v3, hv3, hf⟩ := bd_E hf
    refine hv_callV (pn := 16) X d_Pk_writeCode_13 (c_Pk_codeAt _ _ N σ a0 _ hv3) cs_Pk_28 q_2_211 rfl q_2_212 hr2 (by decide) (by decide) ⟨Nat.le_refl _, Nat.le_refl _⟩ (Nat.le_of_ble_eq_true rfl) ?_
    refine hv_iload_n (pn := 17) X d_Pk_writeCode_16 ?_
    refine hv_iadd (pn := 18) X d_Pk_writeCode_17 ?_
    refine hv_aload_n (pn := 19) X d_Pk_writeCode_18 ?_
    refine hv_iload_n (pn := 20) X d_Pk_writeCode_19 ?_
    obtain ⟨v4, hv4, hf⟩ := bd_E hf
    refine hv_callS (pn := 23) X d_Pk_writeCode_20 (c_Of_byteOf _ _ N σ a1 x2 _ hv4) cs_Pk_37 q_2_147 (by decide) (by decide) ⟨Nat.le_refl _, Nat.le_refl _⟩ (Nat.le_of_ble_eq_true rfl) ?_
    obtain ⟨σ5, hσ5, hf⟩ := bd_E hf
    refine hv_iast (pn := 24) X d_Pk_writeCode_23 hσ5 ?_
    refine hv_iinc (pn := 27) (i := 2) (v := x2 + 1) (lo' := [some (.ref a0), some (.ref a1), some (.int (x2 + 1))]) X d_Pk_writeCode_24 ?_
    refine hv_goto (tgt := 2) X d_Pk_writeCode_27 (by decide) ?_
    cases hf
    exact E
set_option maxHeartbeats 4000000 in
set_option maxRecDepth 100000 in
theorem c_Pk_writeCode (l : Launch) (G : ho_G) (N : Nat) (σ : ho_H) (a0 : Nat) (a1 : Nat) (σ' : ho_H) (hf : f_Pk_writeCode G N σ a0 a1 = some σ') : hv_C l G y_Pk_writeCode (Cond.code y_Pk_writeCode b_Pk_writeCode 3 none :: hv_ws) 2 40 [.ref a0, .ref a1] σ σ' (none) := by
  refine hv_met [some (.ref a0), some (.ref a1), none] (plainFor_of_name (by decide +kernel)) (by intro v hv; simp at hv; rcases hv with rfl | rfl <;> rfl) (Nat.le_of_ble_eq_true rfl) rfl ?_
  intro k X hkl hkG E
  subst hkl
  subst hkG
  unfold f_Pk_writeCode at hf
  refine hv_iconst (pn := 1) (v := 0) X d_Pk_writeCode_0 ?_
  refine hv_istore_n (pn := 2) (i := 2) (lo' := [some (.ref a0), some (.ref a1), some (.int 0)]) X d_Pk_writeCode_1 ?_
  obtain ⟨σ6, he8, hf⟩ := bd_E hf
  refine hv_loop (P := fun s => hv_V k s.1 2 [some (.ref a0), some (.ref a1), some (.int s.2)] []) (Z := fun s => hv_V k s 30 [none, none, none] []) (fun s r h1 h2 => by obtain ⟨σ, x2⟩ := s; exact w_Pk_writeCode_l2 X N a0 a1 σ x2 r h1 h2) N (σ, 0) _ he8 ?_
  try dsimp only at hf ⊢
  cases hf
  exact hv_vret X d_Pk_writeCode_30 E
set_option maxHeartbeats 4000000 in
set_option maxRecDepth 100000 in
theorem w_Pk_hasCode_l2 {k : mk_T} (X : hv_X k b_Pk_hasCode y_Pk_hasCode.cls 3 2 40 (some (.boolean)) y_Pk_hasCode.name) (N : Nat) (σ : ho_H) (a0 : Nat) (a1 : Nat) (x2 : Int32) (r : (Int32) ⊕ ((Unit) ⊕ (Int32))) (hf : f_Pk_hasCode_l2 k.2.1 N σ a0 a1 x2 = some r) (E : sm (fun s => hv_V k σ 2 [some (.ref a0), some (.ref a1), some (.int s)] []) (sm (fun s => hv_V k σ 35 [none, none, none] []) (fun z => hv_end k σ (some (.int z)))) r) : hv_V k σ 2 [some (.ref a0), some (.ref a1), some (.int x2)] [] := by
  unfold f_Pk_hasCode_l2 at hf
  try dsimp only at hf
  refine hv_iload_n (pn := 3) X d_Pk_hasCode_2 ?_
  refine hv_bipush (pn := 5) (v := 10) X d_Pk_hasCode_3 ?_
  refine hv_icmp_ge (pn := 8) (tgt := 35) X d_Pk_hasCode_5 (by decide) (fun hc => ?_) (fun hc => ?_)
  · rw [if_pos hc] at hf
    refine hv_drop (i := 0) (lo' := [none, some (.ref a1), some (.int x2)]) ?_
    refine hv_drop (i := 1) (lo' := [none, none, some (.int x2)]) ?_
    refine hv_drop (i := 2) (lo' := [none, none, none]) ?_
    cases hf
    exact E
  · rw [if_neg hc] at hf
    refine hv_aload_n (pn := 9) X d_Pk_hasCode_8 ?_
    obtain ⟨b1, hb1, hf⟩ := bd_E hf
    refine hv_getR (pn := 12) X d_Pk_hasCode_9 fa_Pk_11 hb1 ?_
    refine hv_aload_n (pn := 13) X d_Pk_hasCode_12 ?_
    obtain ⟨_, hr2, hf⟩ := bd_E hf
    obtain ⟨v3, hv3, hf⟩ := bd_E hf
    refine hv_callV (pn := 16) X d_Pk_hasCode_13 (c_Pk_codeAt _ _ N σ a0 _ hv3) cs_Pk_28 q_2_211 rfl q_2_212 hr2 (by decide) (by decide) ⟨Nat.le_refl _, Nat.le_refl _⟩ (Nat.le_of_ble_eq_true rfl) ?_
    refine hv_iload_n (pn := 17) X d_Pk_hasCode_16 ?_
    refine hv_iadd (pn := 18) X d_Pk_hasCode_17 ?_
    obtain ⟨v4, hv4, hf⟩ := bd_E hf
    refine hv_iald (pn := 19) X d_Pk_hasCode_18 hv4 ?_
    refine hv_aload_n (pn := 20) X d_Pk_hasCode_19 ?_
    refine hv_iload_n (pn := 21) X d_Pk_hasCode_20 ?_
    obtain ⟨v5, hv5, hf⟩ := bd_E hf
    refine hv_callS (pn := 24) X d_Pk_hasCode_21 (c_Of_byteOf _ _ N σ a1 x2 _ hv5) cs_Pk_37 q_2_147 (by decide) (by decide) ⟨Nat.le_refl _, Nat.le_refl _⟩ (Nat.le_of_ble_eq_true rfl) ?_
    refine hv_icmp_eq (pn := 27) (tgt := 29) X d_Pk_hasCode_24 (by decide) (fun hc => ?_) (fun hc => ?_)
    · rw [if_pos hc] at hf
      refine hv_iinc (pn := 32) (i := 2) (v := x2 + 1) (lo' := [some (.ref a0), some (.ref a1), some (.int (x2 + 1))]) X d_Pk_hasCode_29 ?_
      refine hv_goto (tgt := 2) X d_Pk_hasCode_32 (by decide) ?_
      cases hf
      exact E
    · rw [if_neg hc] at hf
      refine hv_iconst (pn := 28) (v := 0) X d_Pk_hasCode_27 ?_
      cases hf
      exact hv_zret X d_Pk_hasCode_28 (by decide) E
set_option maxHeartbeats 4000000 in
set_option maxRecDepth 100000 in
theorem c_Pk_hasCode (l : Launch) (G : ho_G) (N : Nat) (σ : ho_H) (a0 : Nat) (a1 : Nat) (r : Int32) (hf : f_Pk_hasCode G N σ a0 a1 = some r) : hv_C l G y_Pk_hasCode (Cond.code y_Pk_hasCode b_Pk_hasCode 3 (some (.boolean)) :: hv_ws) 2 40 [.ref a0, .ref a1] σ σ (some (.int r)) := by
  refine hv_met [some (.ref a0), some (.ref a1), none] (plainFor_of_name (by decide +kernel)) (by intro v hv; simp at hv; rcases hv with rfl | rfl <;> rfl) (Nat.le_of_ble_eq_true rfl) rfl ?_
  intro k X hkl hkG E
  subst hkl
  subst hkG
  unfold f_Pk_hasCode at hf
  refine hv_iconst (pn := 1) (v := 0) X d_Pk_hasCode_0 ?_
  refine hv_istore_n (pn := 2) (i := 2) (lo' := [some (.ref a0), some (.ref a1), some (.int 0)]) X d_Pk_hasCode_1 ?_
  obtain ⟨e6, he7, hf⟩ := bd_E hf
  refine hv_loop (P := fun s => hv_V k σ 2 [some (.ref a0), some (.ref a1), some (.int s)] []) (Z := sm (fun s => hv_V k σ 35 [none, none, none] []) (fun z => hv_end k σ (some (.int z)))) (fun s r h1 h2 => by exact w_Pk_hasCode_l2 X N σ a0 a1 s r h1 h2) N 0 e6 he7 ?_
  rcases e6 with _ | z
  · try dsimp only [sm, sm_e] at hf ⊢
    refine hv_iconst (pn := 36) (v := 1) X d_Pk_hasCode_35 ?_
    cases hf
    exact hv_zret X d_Pk_hasCode_36 (by decide) E
  · cases (show some _ = some _ from hf); exact E
set_option maxHeartbeats 4000000 in
set_option maxRecDepth 100000 in
theorem w_Pk_isTwinOf_l15 {k : mk_T} (X : hv_X k b_Pk_isTwinOf y_Pk_isTwinOf.cls 3 2 41 (some (.boolean)) y_Pk_isTwinOf.name) (N : Nat) (σ : ho_H) (a0 : Nat) (a1 : Nat) (x2 : Int32) (r : (Int32) ⊕ ((Unit) ⊕ (Int32))) (hf : f_Pk_isTwinOf_l15 k.2.1 N σ a0 a1 x2 = some r) (E : sm (fun s => hv_V k σ 15 [some (.ref a0), some (.ref a1), some (.int s)] []) (sm (fun s => hv_V k σ 54 [none, none, none] []) (fun z => hv_end k σ (some (.int z)))) r) : hv_V k σ 15 [some (.ref a0), some (.ref a1), some (.int x2)] [] := by
  unfold f_Pk_isTwinOf_l15 at hf
  try dsimp only at hf
  refine hv_iload_n (pn := 16) X d_Pk_isTwinOf_15 ?_
  refine hv_bipush (pn := 18) (v := 10) X d_Pk_isTwinOf_16 ?_
  refine hv_icmp_ge (pn := 21) (tgt := 54) X d_Pk_isTwinOf_18 (by decide) (fun hc => ?_) (fun hc => ?_)
  · rw [if_pos hc] at hf
    refine hv_drop (i := 0) (lo' := [none, some (.ref a1), some (.int x2)]) ?_
    refine hv_drop (i := 1) (lo' := [none, none, some (.int x2)]) ?_
    refine hv_drop (i := 2) (lo' := [none, none, none]) ?_
    cases hf
    exact E
  · rw [if_neg hc] at hf
    refine hv_aload_n (pn := 22) X d_Pk_isTwinOf_21 ?_
    obtain ⟨b5, hb5, hf⟩ := bd_E hf
    refine hv_getR (pn := 25) X d_Pk_isTwinOf_22 fa_Pk_11 hb5 ?_
    refine hv_aload_n (pn := 26) X d_Pk_isTwinOf_25 ?_
    obtain ⟨_, hr6, hf⟩ := bd_E hf
    obtain ⟨v7, hv7, hf⟩ := bd_E hf
    refine hv_callV (pn := 29) X d_Pk_isTwinOf_26 (c_Pk_codeAt _ _ N σ a0 _ hv7) cs_Pk_28 q_2_211 rfl q_2_212 hr6 (by decide) (by decide) ⟨Nat.le_refl _, Nat.le_refl _⟩ (Nat.le_of_ble_eq_true rfl) ?_
    refine hv_iload_n (pn := 30) X d_Pk_isTwinOf_29 ?_
    refine hv_iadd (pn := 31) X d_Pk_isTwinOf_30 ?_
    obtain ⟨v8, hv8, hf⟩ := bd_E hf
    refine hv_iald (pn := 32) X d_Pk_isTwinOf_31 hv8 ?_
    refine hv_aload_n (pn := 33) X d_Pk_isTwinOf_32 ?_
    obtain ⟨b9, hb9, hf⟩ := bd_E hf
    refine hv_getR (pn := 36) X d_Pk_isTwinOf_33 fa_Pk_11 hb9 ?_
    refine hv_aload_n (pn := 37) X d_Pk_isTwinOf_36 ?_
    obtain ⟨_, hr10, hf⟩ := bd_E hf
    obtain ⟨v11, hv11, hf⟩ := bd_E hf
    refine hv_callV (pn := 40) X d_Pk_isTwinOf_37 (c_Pk_codeAt _ _ N σ a1 _ hv11) cs_Pk_28 q_2_211 rfl q_2_212 hr10 (by decide) (by decide) ⟨Nat.le_refl _, Nat.le_refl _⟩ (Nat.le_of_ble_eq_true rfl) ?_
    refine hv_iload_n (pn := 41) X d_Pk_isTwinOf_40 ?_
    refine hv_iadd (pn := 42) X d_Pk_isTwinOf_41 ?_
    obtain ⟨v12, hv12, hf⟩ := bd_E hf
    refine hv_iald (pn := 43) X d_Pk_isTwinOf_42 hv12 ?_
    refine hv_icmp_eq (pn := 46) (tgt := 48) X d_Pk_isTwinOf_43 (by decide) (fun hc => ?_) (fun hc => ?_)
    · rw [if_pos hc] at hf
      refine hv_iinc (pn := 51) (i := 2) (v := x2 + 1) (lo' := [some (.ref a0), some (.ref a1), some (.int (x2 + 1))]) X d_Pk_isTwinOf_48 ?_
      refine hv_goto (tgt := 15) X d_Pk_isTwinOf_51 (by decide) ?_
      cases hf
      exact E
    · rw [if_neg hc] at hf
      refine hv_iconst (pn := 47) (v := 0) X d_Pk_isTwinOf_46 ?_
      cases hf
      exact hv_zret X d_Pk_isTwinOf_47 (by decide) E
set_option maxHeartbeats 4000000 in
set_option maxRecDepth 100000 in
theorem c_Pk_isTwinOf (l : Launch) (G : ho_G) (N : Nat) (σ : ho_H) (a0 : Nat) (a1 : Nat) (r : Int32) (hf : f_Pk_isTwinOf G N σ a0 a1 = some r) : hv_C l G y_Pk_isTwinOf (Cond.code y_Pk_isTwinOf b_Pk_isTwinOf 3 (some (.boolean)) :: hv_ws) 2 41 [.ref a0, .ref a1] σ σ (some (.int r)) := by
  refine hv_met [some (.ref a0), some (.ref a1), none] (plainFor_of_name (by decide +kernel)) (by intro v hv; simp at hv; rcases hv with rfl | rfl <;> rfl) (Nat.le_of_ble_eq_true rfl) rfl ?_
  intro k X hkl hkG E
  subst hkl
  subst hkG
  unfold f_Pk_isTwinOf at hf
  refine hv_aload_n (pn := 1) X d_Pk_isTwinOf_0 ?_
  obtain ⟨_, hr1, hf⟩ := bd_E hf
  obtain ⟨v2, hv2, hf⟩ := bd_E hf
  refine hv_callV (pn := 4) X d_Pk_isTwinOf_1 (c_Pk_interval _ _ N σ a0 _ hv2) cs_Pk_31 q_2_195 rfl q_2_196 hr1 (by decide) (by decide) ⟨Nat.le_refl _, Nat.le_refl _⟩ (Nat.le_of_ble_eq_true rfl) ?_
  refine hv_aload_n (pn := 5) X d_Pk_isTwinOf_4 ?_
  obtain ⟨_, hr3, hf⟩ := bd_E hf
  obtain ⟨v4, hv4, hf⟩ := bd_E hf
  refine hv_callV (pn := 8) X d_Pk_isTwinOf_5 (c_Pk_interval _ _ N σ a1 _ hv4) cs_Pk_31 q_2_195 rfl q_2_196 hr3 (by decide) (by decide) ⟨Nat.le_refl _, Nat.le_refl _⟩ (Nat.le_of_ble_eq_true rfl) ?_
  refine hv_icmp_eq (pn := 11) (tgt := 13) X d_Pk_isTwinOf_8 (by decide) (fun hc => ?_) (fun hc => ?_)
  · rw [if_pos hc] at hf
    refine hv_iconst (pn := 14) (v := 0) X d_Pk_isTwinOf_13 ?_
    refine hv_istore_n (pn := 15) (i := 2) (lo' := [some (.ref a0), some (.ref a1), some (.int 0)]) X d_Pk_isTwinOf_14 ?_
    obtain ⟨e13, he14, hf⟩ := bd_E hf
    refine hv_loop (P := fun s => hv_V k σ 15 [some (.ref a0), some (.ref a1), some (.int s)] []) (Z := sm (fun s => hv_V k σ 54 [none, none, none] []) (fun z => hv_end k σ (some (.int z)))) (fun s r h1 h2 => by exact w_Pk_isTwinOf_l15 X N σ a0 a1 s r h1 h2) N 0 e13 he14 ?_
    rcases e13 with _ | z
    · try dsimp only [sm, sm_e] at hf ⊢
      refine hv_iconst (pn := 55) (v := 1) X d_Pk_isTwinOf_54 ?_
      cases hf
      exact hv_zret X d_Pk_isTwinOf_55 (by decide) E
    · cases (show some _ = some _ from hf); exact E
  · rw [if_neg hc] at hf
    refine hv_iconst (pn := 12) (v := 0) X d_Pk_isTwinOf_11 ?_
    cases hf
    exact hv_zret X d_Pk_isTwinOf_12 (by decide) E
set_option maxHeartbeats 4000000 in
set_option maxRecDepth 100000 in
theorem w_Kc_isKnown_j13 {k : mk_T} (X : hv_X k b_Kc_isKnown y_Kc_isKnown.cls 1 0 0 (some (.boolean)) y_Kc_isKnown.name) (N : Nat) (σ : ho_H) (y0 : Int32)  (r : Int32) (hf : f_Kc_isKnown_j13 k.2.1 N σ y0 = some r) (E : hv_end k σ (some (.int r))) : hv_V k σ 13 [none] [.int y0] := by
  unfold f_Kc_isKnown_j13 at hf
  obtain ⟨_, hz, hf⟩ := bd_E hf
  cases hf
  exact hv_zret X d_Kc_isKnown_13 (ho_bz_E hz) E
set_option maxHeartbeats 4000000 in
set_option maxRecDepth 100000 in
theorem c_Kc_isKnown (l : Launch) (G : ho_G) (N : Nat) (σ : ho_H) (a0 : Nat) (r : Int32) (hf : f_Kc_isKnown G N σ a0 = some r) : hv_C l G y_Kc_isKnown (Cond.code y_Kc_isKnown b_Kc_isKnown 1 (some (.boolean)) :: hv_ws) 0 0 [.ref a0] σ σ (some (.int r)) := by
  refine hv_met [some (.ref a0)] (plainFor_of_name (by decide +kernel)) (by intro v hv; simp at hv; rcases hv with rfl <;> rfl) (Nat.le_of_ble_eq_true rfl) rfl ?_
  intro k X hkl hkG E
  subst hkl
  subst hkG
  unfold f_Kc_isKnown at hf
  refine hv_aload_n (pn := 1) X d_Kc_isKnown_0 ?_
  obtain ⟨v1, hv1, hf⟩ := bd_E hf
  refine hv_getI (pn := 4) X d_Kc_isKnown_1 fa_Kc_19 hv1 ?_
  refine hv_iconst (pn := 5) (v := (-1)) X d_Kc_isKnown_4 ?_
  refine hv_icmp_eq (pn := 8) (tgt := 12) X d_Kc_isKnown_5 (by decide) (fun hc => ?_) (fun hc => ?_)
  · rw [if_pos hc] at hf
    refine hv_iconst (pn := 13) (v := 0) X d_Kc_isKnown_12 ?_
    refine hv_drop (i := 0) (lo' := [none]) ?_
    exact w_Kc_isKnown_j13 X N σ 0  _ hf E
  · rw [if_neg hc] at hf
    refine hv_iconst (pn := 9) (v := 1) X d_Kc_isKnown_8 ?_
    refine hv_goto (tgt := 13) X d_Kc_isKnown_9 (by decide) ?_
    refine hv_drop (i := 0) (lo' := [none]) ?_
    exact w_Kc_isKnown_j13 X N σ 1  _ hf E
set_option maxHeartbeats 4000000 in
set_option maxRecDepth 100000 in
theorem c_Kc_forget (l : Launch) (G : ho_G) (N : Nat) (σ : ho_H) (a0 : Nat) (σ' : ho_H) (hf : f_Kc_forget G N σ a0 = some σ') : hv_C l G y_Kc_forget (Cond.code y_Kc_forget b_Kc_forget 1 none :: hv_ws) 0 0 [.ref a0] σ σ' (none) := by
  refine hv_met [some (.ref a0)] (plainFor_of_name (by decide +kernel)) (by intro v hv; simp at hv; rcases hv with rfl <;> rfl) (Nat.le_of_ble_eq_true rfl) rfl ?_
  intro k X hkl hkG E
  subst hkl
  subst hkG
  unfold f_Kc_forget at hf
  refine hv_aload_n (pn := 1) X d_Kc_forget_0 ?_
  refine hv_iconst (pn := 2) (v := (-1)) X d_Kc_forget_1 ?_
  obtain ⟨σ1, hσ1, hf⟩ := bd_E hf
  refine hv_put (pn := 5) X d_Kc_forget_2 fp_Kc_15 hσ1 ?_
  refine hv_aload_n (pn := 6) X d_Kc_forget_5 ?_
  refine hv_iconst (pn := 7) (v := (-1)) X d_Kc_forget_6 ?_
  obtain ⟨σ2, hσ2, hf⟩ := bd_E hf
  refine hv_put (pn := 10) X d_Kc_forget_7 fp_Kc_19 hσ2 ?_
  cases hf
  exact hv_vret X d_Kc_forget_10 E
set_option maxHeartbeats 4000000 in
set_option maxRecDepth 100000 in
theorem c_Kc_putTopKey (l : Launch) (G : ho_G) (N : Nat) (σ : ho_H) (a0 : Nat) (x1 : Int32) (x2 : Int32) (x3 : Int32) (x4 : Int32) (x5 : Int32) (σ' : ho_H) (hf : f_Kc_putTopKey G N σ a0 x1 x2 x3 x4 x5 = some σ') : hv_C l G y_Kc_putTopKey (Cond.code y_Kc_putTopKey b_Kc_putTopKey 7 none :: hv_ws) 0 0 [.ref a0, .int x1, .int x2, .int x3, .int x4, .int x5] σ σ' (none) := by
  refine hv_met [some (.ref a0), some (.int x1), some (.int x2), some (.int x3), some (.int x4), some (.int x5), none] (plainFor_of_name (by decide +kernel)) (by intro v hv; simp at hv; rcases hv with rfl | rfl | rfl | rfl | rfl | rfl <;> rfl) (Nat.le_of_ble_eq_true rfl) rfl ?_
  intro k X hkl hkG E
  subst hkl
  subst hkG
  unfold f_Kc_putTopKey at hf
  refine hv_sipush (pn := 3) (v := 320) X d_Kc_putTopKey_0 ?_
  refine hv_istore (pn := 5) (i := 6) (lo' := [some (.ref a0), some (.int x1), some (.int x2), some (.int x3), some (.int x4), some (.int x5), some (.int 320)]) X d_Kc_putTopKey_3 ?_
  refine hv_aload_n (pn := 6) X d_Kc_putTopKey_5 ?_
  obtain ⟨b1, hb1, hf⟩ := bd_E hf
  refine hv_getR (pn := 9) X d_Kc_putTopKey_6 fa_Kc_9 hb1 ?_
  refine hv_iload (pn := 11) X d_Kc_putTopKey_9 ?_
  refine hv_iload_n (pn := 12) X d_Kc_putTopKey_11 ?_
  obtain ⟨σ2, hσ2, hf⟩ := bd_E hf
  refine hv_iast (pn := 13) X d_Kc_putTopKey_12 hσ2 ?_
  refine hv_aload_n (pn := 14) X d_Kc_putTopKey_13 ?_
  obtain ⟨b3, hb3, hf⟩ := bd_E hf
  refine hv_getR (pn := 17) X d_Kc_putTopKey_14 fa_Kc_9 hb3 ?_
  refine hv_iload (pn := 19) X d_Kc_putTopKey_17 ?_
  refine hv_iconst (pn := 20) (v := 1) X d_Kc_putTopKey_19 ?_
  refine hv_iadd (pn := 21) X d_Kc_putTopKey_20 ?_
  refine hv_iload_n (pn := 22) X d_Kc_putTopKey_21 ?_
  obtain ⟨σ4, hσ4, hf⟩ := bd_E hf
  refine hv_iast (pn := 23) X d_Kc_putTopKey_22 hσ4 ?_
  refine hv_aload_n (pn := 24) X d_Kc_putTopKey_23 ?_
  obtain ⟨b5, hb5, hf⟩ := bd_E hf
  refine hv_getR (pn := 27) X d_Kc_putTopKey_24 fa_Kc_9 hb5 ?_
  refine hv_iload (pn := 29) X d_Kc_putTopKey_27 ?_
  refine hv_iconst (pn := 30) (v := 2) X d_Kc_putTopKey_29 ?_
  refine hv_iadd (pn := 31) X d_Kc_putTopKey_30 ?_
  refine hv_iload_n (pn := 32) X d_Kc_putTopKey_31 ?_
  obtain ⟨σ6, hσ6, hf⟩ := bd_E hf
  refine hv_iast (pn := 33) X d_Kc_putTopKey_32 hσ6 ?_
  refine hv_aload_n (pn := 34) X d_Kc_putTopKey_33 ?_
  obtain ⟨b7, hb7, hf⟩ := bd_E hf
  refine hv_getR (pn := 37) X d_Kc_putTopKey_34 fa_Kc_9 hb7 ?_
  refine hv_iload (pn := 39) X d_Kc_putTopKey_37 ?_
  refine hv_iconst (pn := 40) (v := 3) X d_Kc_putTopKey_39 ?_
  refine hv_iadd (pn := 41) X d_Kc_putTopKey_40 ?_
  refine hv_iload (pn := 43) X d_Kc_putTopKey_41 ?_
  obtain ⟨σ8, hσ8, hf⟩ := bd_E hf
  refine hv_iast (pn := 44) X d_Kc_putTopKey_43 hσ8 ?_
  refine hv_aload_n (pn := 45) X d_Kc_putTopKey_44 ?_
  obtain ⟨b9, hb9, hf⟩ := bd_E hf
  refine hv_getR (pn := 48) X d_Kc_putTopKey_45 fa_Kc_9 hb9 ?_
  refine hv_iload (pn := 50) X d_Kc_putTopKey_48 ?_
  refine hv_iconst (pn := 51) (v := 4) X d_Kc_putTopKey_50 ?_
  refine hv_iadd (pn := 52) X d_Kc_putTopKey_51 ?_
  refine hv_iload (pn := 54) X d_Kc_putTopKey_52 ?_
  obtain ⟨σ10, hσ10, hf⟩ := bd_E hf
  refine hv_iast (pn := 55) X d_Kc_putTopKey_54 hσ10 ?_
  cases hf
  exact hv_vret X d_Kc_putTopKey_55 E
set_option maxHeartbeats 4000000 in
set_option maxRecDepth 100000 in
theorem w_Kc_fillDown_l3 {k : mk_T} (X : hv_X k b_Kc_fillDown y_Kc_fillDown.cls 5 4 135 none y_Kc_fillDown.name) (N : Nat) (a0 : Nat) (x2 : Int32) (a3 : Nat) (σ : ho_H) (x4 : Int32) (r : (ho_H × Int32) ⊕ (ho_H)) (hf : f_Kc_fillDown_l3 k.2.1 N a0 x2 a3 (σ, x4) = some r) (E : sm (fun s => hv_V k s.1 3 [some (.ref a0), none, some (.int x2), some (.ref a3), some (.int s.2)] []) (fun s => hv_V k s 54 [none, none, none, none, none] []) r) : hv_V k σ 3 [some (.ref a0), none, some (.int x2), some (.ref a3), some (.int x4)] [] := by
  unfold f_Kc_fillDown_l3 at hf
  try dsimp only at hf
  refine hv_iload (pn := 5) X d_Kc_fillDown_3 ?_
  refine hv_iload_n (pn := 6) X d_Kc_fillDown_5 ?_
  refine hv_icmp_le (pn := 9) (tgt := 54) X d_Kc_fillDown_6 (by decide) (fun hc => ?_) (fun hc => ?_)
  · rw [if_pos hc] at hf
    refine hv_drop (i := 0) (lo' := [none, none, some (.int x2), some (.ref a3), some (.int x4)]) ?_
    refine hv_drop (i := 2) (lo' := [none, none, none, some (.ref a3), some (.int x4)]) ?_
    refine hv_drop (i := 3) (lo' := [none, none, none, none, some (.int x4)]) ?_
    refine hv_drop (i := 4) (lo' := [none, none, none, none, none]) ?_
    cases hf
    exact E
  · rw [if_neg hc] at hf
    refine hv_aload_n (pn := 10) X d_Kc_fillDown_9 ?_
    refine hv_aload_n (pn := 11) X d_Kc_fillDown_10 ?_
    obtain ⟨b1, hb1, hf⟩ := bd_E hf
    refine hv_getR (pn := 14) X d_Kc_fillDown_11 fa_Kc_9 hb1 ?_
    refine hv_iload (pn := 16) X d_Kc_fillDown_14 ?_
    refine hv_iconst (pn := 17) (v := 5) X d_Kc_fillDown_16 ?_
    refine hv_imul (pn := 18) X d_Kc_fillDown_17 ?_
    refine hv_iconst (pn := 19) (v := 5) X d_Kc_fillDown_18 ?_
    refine hv_gets (pn := 22) X d_Kc_fillDown_19 (i := 2) rfl q_2_48 (Or.inl rfl) ?_
    refine hv_gets (pn := 25) X d_Kc_fillDown_22 (i := 2) rfl q_2_48 (Or.inl rfl) ?_
    obtain ⟨v2, hv2, hf⟩ := bd_E hf
    refine hv_alenI (pn := 26) X d_Kc_fillDown_25 hv2 ?_
    obtain ⟨_, hr3, hf⟩ := bd_E hf
    obtain ⟨σ4, hσ4, hf⟩ := bd_E hf
    obtain ⟨hσ4, mσ4⟩ := ho_cv_E hσ4
    refine hv_callV (pn := 29) X d_Kc_fillDown_26 (c_Sl_seal _ _ N σ a3 b1 (x4 * 5) 5 (gA k.2.1 2) v2 _ hσ4) cs_Kc_25 q_2_51 rfl q_2_52 hr3 (by decide) (by decide) mσ4 (Nat.le_of_ble_eq_true rfl) ?_
    refine hv_aload_n (pn := 30) X d_Kc_fillDown_29 ?_
    obtain ⟨b5, hb5, hf⟩ := bd_E hf
    refine hv_getR (pn := 33) X d_Kc_fillDown_30 fa_Kc_31 hb5 ?_
    refine hv_iconst (pn := 34) (v := 0) X d_Kc_fillDown_33 ?_
    refine hv_aload_n (pn := 35) X d_Kc_fillDown_34 ?_
    obtain ⟨b6, hb6, hf⟩ := bd_E hf
    refine hv_getR (pn := 38) X d_Kc_fillDown_35 fa_Kc_9 hb6 ?_
    refine hv_iload (pn := 40) X d_Kc_fillDown_38 ?_
    refine hv_iconst (pn := 41) (v := 1) X d_Kc_fillDown_40 ?_
    refine hv_isub (pn := 42) X d_Kc_fillDown_41 ?_
    refine hv_iconst (pn := 43) (v := 5) X d_Kc_fillDown_42 ?_
    refine hv_imul (pn := 44) X d_Kc_fillDown_43 ?_
    refine hv_iconst (pn := 45) (v := 5) X d_Kc_fillDown_44 ?_
    obtain ⟨σ7, hσ7, hf⟩ := bd_E hf
    refine hv_cpI (pn := 48) X d_Kc_fillDown_45 q_2_90 q_2_78 q_2_77 q_1_16 hσ7 (by decide) (by decide +kernel) (Nat.le_of_ble_eq_true rfl) ?_
    refine hv_iinc (pn := 51) (i := 4) (v := x4 + (-1)) (lo' := [some (.ref a0), none, some (.int x2), some (.ref a3), some (.int (x4 + (-1)))]) X d_Kc_fillDown_48 ?_
    refine hv_goto (tgt := 3) X d_Kc_fillDown_51 (by decide) ?_
    cases hf
    exact E
set_option maxHeartbeats 4000000 in
set_option maxRecDepth 100000 in
theorem c_Kc_fillDown (l : Launch) (G : ho_G) (N : Nat) (σ : ho_H) (a0 : Nat) (x1 : Int32) (x2 : Int32) (a3 : Nat) (σ' : ho_H) (hf : f_Kc_fillDown G N σ a0 x1 x2 a3 = some σ') : hv_C l G y_Kc_fillDown (Cond.code y_Kc_fillDown b_Kc_fillDown 5 none :: hv_ws) 4 135 [.ref a0, .int x1, .int x2, .ref a3] σ σ' (none) := by
  refine hv_met [some (.ref a0), some (.int x1), some (.int x2), some (.ref a3), none] (plainFor_of_name (by decide +kernel)) (by intro v hv; simp at hv; rcases hv with rfl | rfl | rfl | rfl <;> rfl) (Nat.le_of_ble_eq_true rfl) rfl ?_
  intro k X hkl hkG E
  subst hkl
  subst hkG
  unfold f_Kc_fillDown at hf
  refine hv_iload_n (pn := 1) X d_Kc_fillDown_0 ?_
  refine hv_istore (pn := 3) (i := 4) (lo' := [some (.ref a0), some (.int x1), some (.int x2), some (.ref a3), some (.int x1)]) X d_Kc_fillDown_1 ?_
  refine hv_drop (i := 1) (lo' := [some (.ref a0), none, some (.int x2), some (.ref a3), some (.int x1)]) ?_
  obtain ⟨σ8, he10, hf⟩ := bd_E hf
  refine hv_loop (P := fun s => hv_V k s.1 3 [some (.ref a0), none, some (.int x2), some (.ref a3), some (.int s.2)] []) (Z := fun s => hv_V k s 54 [none, none, none, none, none] []) (fun s r h1 h2 => by obtain ⟨σ, x4⟩ := s; exact w_Kc_fillDown_l3 X N a0 x2 a3 σ x4 r h1 h2) N (σ, x1) _ he10 ?_
  try dsimp only at hf ⊢
  cases hf
  exact hv_vret X d_Kc_fillDown_54 E
set_option maxHeartbeats 4000000 in
set_option maxRecDepth 100000 in
theorem c_Kc_byteAt (l : Launch) (G : ho_G) (N : Nat) (σ : ho_H) (a0 : Nat) (x1 : Int32) (x2 : Int32) (r : Int32) (hf : f_Kc_byteAt G N σ a0 x1 x2 = some r) : hv_C l G y_Kc_byteAt (Cond.code y_Kc_byteAt b_Kc_byteAt 3 (some (.int)) :: hv_ws) 1 21 [.ref a0, .int x1, .int x2] σ σ (some (.int r)) := by
  refine hv_met [some (.ref a0), some (.int x1), some (.int x2)] (plainFor_of_name (by decide +kernel)) (by intro v hv; simp at hv; rcases hv with rfl | rfl | rfl <;> rfl) (Nat.le_of_ble_eq_true rfl) rfl ?_
  intro k X hkl hkG E
  subst hkl
  subst hkG
  unfold f_Kc_byteAt at hf
  refine hv_aload_n (pn := 1) X d_Kc_byteAt_0 ?_
  obtain ⟨b1, hb1, hf⟩ := bd_E hf
  refine hv_getR (pn := 4) X d_Kc_byteAt_1 fa_Kc_9 hb1 ?_
  refine hv_iload_n (pn := 5) X d_Kc_byteAt_4 ?_
  refine hv_bipush (pn := 7) (v := 20) X d_Kc_byteAt_5 ?_
  refine hv_imul (pn := 8) X d_Kc_byteAt_7 ?_
  refine hv_iload_n (pn := 9) X d_Kc_byteAt_8 ?_
  refine hv_iadd (pn := 10) X d_Kc_byteAt_9 ?_
  obtain ⟨v2, hv2, hf⟩ := bd_E hf
  refine hv_callS (pn := 13) X d_Kc_byteAt_10 (c_Of_byteOf _ _ N σ b1 ((x1 * 20) + x2) _ hv2) cs_Kc_40 q_2_147 (by decide) (by decide) ⟨Nat.le_refl _, Nat.le_refl _⟩ (Nat.le_of_ble_eq_true rfl) ?_
  cases hf
  exact hv_iret X d_Kc_byteAt_13 E
set_option maxHeartbeats 4000000 in
set_option maxRecDepth 100000 in
theorem w_Kc_writeKey_l3 {k : mk_T} (X : hv_X k b_Kc_writeKey y_Kc_writeKey.cls 5 2 43 none y_Kc_writeKey.name) (N : Nat) (a0 : Nat) (x1 : Int32) (a2 : Nat) (x3 : Int32) (σ : ho_H) (x4 : Int32) (r : (ho_H × Int32) ⊕ (ho_H)) (hf : f_Kc_writeKey_l3 k.2.1 N a0 x1 a2 x3 (σ, x4) = some r) (E : sm (fun s => hv_V k s.1 3 [some (.ref a0), some (.int x1), some (.ref a2), some (.int x3), some (.int s.2)] []) (fun s => hv_V k s 29 [none, none, none, none, none] []) r) : hv_V k σ 3 [some (.ref a0), some (.int x1), some (.ref a2), some (.int x3), some (.int x4)] [] := by
  unfold f_Kc_writeKey_l3 at hf
  try dsimp only at hf
  refine hv_iload (pn := 5) X d_Kc_writeKey_3 ?_
  refine hv_bipush (pn := 7) (v := 20) X d_Kc_writeKey_5 ?_
  refine hv_icmp_ge (pn := 10) (tgt := 29) X d_Kc_writeKey_7 (by decide) (fun hc => ?_) (fun hc => ?_)
  · rw [if_pos hc] at hf
    refine hv_drop (i := 0) (lo' := [none, some (.int x1), some (.ref a2), some (.int x3), some (.int x4)]) ?_
    refine hv_drop (i := 1) (lo' := [none, none, some (.ref a2), some (.int x3), some (.int x4)]) ?_
    refine hv_drop (i := 2) (lo' := [none, none, none, some (.int x3), some (.int x4)]) ?_
    refine hv_drop (i := 3) (lo' := [none, none, none, none, some (.int x4)]) ?_
    refine hv_drop (i := 4) (lo' := [none, none, none, none, none]) ?_
    cases hf
    exact E
  · rw [if_neg hc] at hf
    refine hv_aload_n (pn := 11) X d_Kc_writeKey_10 ?_
    refine hv_iload_n (pn := 12) X d_Kc_writeKey_11 ?_
    refine hv_iload (pn := 14) X d_Kc_writeKey_12 ?_
    refine hv_iadd (pn := 15) X d_Kc_writeKey_14 ?_
    refine hv_aload_n (pn := 16) X d_Kc_writeKey_15 ?_
    refine hv_iload_n (pn := 17) X d_Kc_writeKey_16 ?_
    refine hv_iload (pn := 19) X d_Kc_writeKey_17 ?_
    obtain ⟨_, hr1, hf⟩ := bd_E hf
    obtain ⟨v2, hv2, hf⟩ := bd_E hf
    refine hv_callV (pn := 22) X d_Kc_writeKey_19 (c_Kc_byteAt _ _ N σ a0 x1 x4 _ hv2) cs_Kc_44 q_2_233 rfl q_2_234 hr1 (by decide) (by decide) ⟨Nat.le_refl _, Nat.le_refl _⟩ (Nat.le_of_ble_eq_true rfl) ?_
    obtain ⟨σ3, hσ3, hf⟩ := bd_E hf
    refine hv_iast (pn := 23) X d_Kc_writeKey_22 hσ3 ?_
    refine hv_iinc (pn := 26) (i := 4) (v := x4 + 1) (lo' := [some (.ref a0), some (.int x1), some (.ref a2), some (.int x3), some (.int (x4 + 1))]) X d_Kc_writeKey_23 ?_
    refine hv_goto (tgt := 3) X d_Kc_writeKey_26 (by decide) ?_
    cases hf
    exact E
set_option maxHeartbeats 4000000 in
set_option maxRecDepth 100000 in
theorem c_Kc_writeKey (l : Launch) (G : ho_G) (N : Nat) (σ : ho_H) (a0 : Nat) (x1 : Int32) (a2 : Nat) (x3 : Int32) (σ' : ho_H) (hf : f_Kc_writeKey G N σ a0 x1 a2 x3 = some σ') : hv_C l G y_Kc_writeKey (Cond.code y_Kc_writeKey b_Kc_writeKey 5 none :: hv_ws) 2 43 [.ref a0, .int x1, .ref a2, .int x3] σ σ' (none) := by
  refine hv_met [some (.ref a0), some (.int x1), some (.ref a2), some (.int x3), none] (plainFor_of_name (by decide +kernel)) (by intro v hv; simp at hv; rcases hv with rfl | rfl | rfl | rfl <;> rfl) (Nat.le_of_ble_eq_true rfl) rfl ?_
  intro k X hkl hkG E
  subst hkl
  subst hkG
  unfold f_Kc_writeKey at hf
  refine hv_iconst (pn := 1) (v := 0) X d_Kc_writeKey_0 ?_
  refine hv_istore (pn := 3) (i := 4) (lo' := [some (.ref a0), some (.int x1), some (.ref a2), some (.int x3), some (.int 0)]) X d_Kc_writeKey_1 ?_
  obtain ⟨σ4, he6, hf⟩ := bd_E hf
  refine hv_loop (P := fun s => hv_V k s.1 3 [some (.ref a0), some (.int x1), some (.ref a2), some (.int x3), some (.int s.2)] []) (Z := fun s => hv_V k s 29 [none, none, none, none, none] []) (fun s r h1 h2 => by obtain ⟨σ, x4⟩ := s; exact w_Kc_writeKey_l3 X N a0 x1 a2 x3 σ x4 r h1 h2) N (σ, 0) _ he6 ?_
  try dsimp only at hf ⊢
  cases hf
  exact hv_vret X d_Kc_writeKey_29 E
set_option maxHeartbeats 4000000 in
set_option maxRecDepth 100000 in
theorem c_Kc_learnFrom (l : Launch) (G : ho_G) (N : Nat) (σ : ho_H) (a0 : Nat) (a1 : Nat) (x2 : Int32) (σ' : ho_H) (hf : f_Kc_learnFrom G N σ a0 a1 x2 = some σ') : hv_C l G y_Kc_learnFrom (Cond.code y_Kc_learnFrom b_Kc_learnFrom 3 none :: hv_ws) 1 60 [.ref a0, .ref a1, .int x2] σ σ' (none) := by
  refine hv_met [some (.ref a0), some (.ref a1), some (.int x2)] (plainFor_of_name (by decide +kernel)) (by intro v hv; simp at hv; rcases hv with rfl | rfl | rfl <;> rfl) (Nat.le_of_ble_eq_true rfl) rfl ?_
  intro k X hkl hkG E
  subst hkl
  subst hkG
  unfold f_Kc_learnFrom at hf
  refine hv_aload_n (pn := 1) X d_Kc_learnFrom_0 ?_
  obtain ⟨b1, hb1, hf⟩ := bd_E hf
  refine hv_getR (pn := 4) X d_Kc_learnFrom_1 fa_Kc_9 hb1 ?_
  refine hv_iload_n (pn := 5) X d_Kc_learnFrom_4 ?_
  refine hv_iconst (pn := 6) (v := 5) X d_Kc_learnFrom_5 ?_
  refine hv_imul (pn := 7) X d_Kc_learnFrom_6 ?_
  refine hv_aload_n (pn := 8) X d_Kc_learnFrom_7 ?_
  obtain ⟨b2, hb2, hf⟩ := bd_E hf
  refine hv_getR (pn := 11) X d_Kc_learnFrom_8 fa_Kc_9 hb2 ?_
  refine hv_iload_n (pn := 12) X d_Kc_learnFrom_11 ?_
  refine hv_iconst (pn := 13) (v := 5) X d_Kc_learnFrom_12 ?_
  refine hv_imul (pn := 14) X d_Kc_learnFrom_13 ?_
  refine hv_iconst (pn := 15) (v := 5) X d_Kc_learnFrom_14 ?_
  obtain ⟨σ3, hσ3, hf⟩ := bd_E hf
  refine hv_cpI (pn := 18) X d_Kc_learnFrom_15 q_2_90 q_2_78 q_2_77 q_1_16 hσ3 (by decide) (by decide +kernel) (Nat.le_of_ble_eq_true rfl) ?_
  refine hv_aload_n (pn := 19) X d_Kc_learnFrom_18 ?_
  refine hv_iload_n (pn := 20) X d_Kc_learnFrom_19 ?_
  obtain ⟨σ4, hσ4, hf⟩ := bd_E hf
  refine hv_put (pn := 23) X d_Kc_learnFrom_20 fp_Kc_15 hσ4 ?_
  refine hv_aload_n (pn := 24) X d_Kc_learnFrom_23 ?_
  refine hv_iload_n (pn := 25) X d_Kc_learnFrom_24 ?_
  obtain ⟨σ5, hσ5, hf⟩ := bd_E hf
  refine hv_put (pn := 28) X d_Kc_learnFrom_25 fp_Kc_19 hσ5 ?_
  cases hf
  exact hv_vret X d_Kc_learnFrom_28 E
set_option maxHeartbeats 4000000 in
set_option maxRecDepth 100000 in
theorem w_Kc_readKey_l3 {k : mk_T} (X : hv_X k b_Kc_readKey y_Kc_readKey.cls 5 1 21 none y_Kc_readKey.name) (N : Nat) (a0 : Nat) (x1 : Int32) (a2 : Nat) (x3 : Int32) (σ : ho_H) (x4 : Int32) (r : (ho_H × Int32) ⊕ (ho_H)) (hf : f_Kc_readKey_l3 k.2.1 N a0 x1 a2 x3 (σ, x4) = some r) (E : sm (fun s => hv_V k s.1 3 [some (.ref a0), some (.int x1), some (.ref a2), some (.int x3), some (.int s.2)] []) (fun s => hv_V k s 36 [none, none, none, none, none] []) r) : hv_V k σ 3 [some (.ref a0), some (.int x1), some (.ref a2), some (.int x3), some (.int x4)] [] := by
  unfold f_Kc_readKey_l3 at hf
  try dsimp only at hf
  refine hv_iload (pn := 5) X d_Kc_readKey_3 ?_
  refine hv_iconst (pn := 6) (v := 5) X d_Kc_readKey_5 ?_
  refine hv_icmp_ge (pn := 9) (tgt := 36) X d_Kc_readKey_6 (by decide) (fun hc => ?_) (fun hc => ?_)
  · rw [if_pos hc] at hf
    refine hv_drop (i := 0) (lo' := [none, some (.int x1), some (.ref a2), some (.int x3), some (.int x4)]) ?_
    refine hv_drop (i := 1) (lo' := [none, none, some (.ref a2), some (.int x3), some (.int x4)]) ?_
    refine hv_drop (i := 2) (lo' := [none, none, none, some (.int x3), some (.int x4)]) ?_
    refine hv_drop (i := 3) (lo' := [none, none, none, none, some (.int x4)]) ?_
    refine hv_drop (i := 4) (lo' := [none, none, none, none, none]) ?_
    cases hf
    exact E
  · rw [if_neg hc] at hf
    refine hv_aload_n (pn := 10) X d_Kc_readKey_9 ?_
    obtain ⟨b1, hb1, hf⟩ := bd_E hf
    refine hv_getR (pn := 13) X d_Kc_readKey_10 fa_Kc_9 hb1 ?_
    refine hv_iload_n (pn := 14) X d_Kc_readKey_13 ?_
    refine hv_iconst (pn := 15) (v := 5) X d_Kc_readKey_14 ?_
    refine hv_imul (pn := 16) X d_Kc_readKey_15 ?_
    refine hv_iload (pn := 18) X d_Kc_readKey_16 ?_
    refine hv_iadd (pn := 19) X d_Kc_readKey_18 ?_
    refine hv_aload_n (pn := 20) X d_Kc_readKey_19 ?_
    refine hv_iload_n (pn := 21) X d_Kc_readKey_20 ?_
    refine hv_iconst (pn := 22) (v := 4) X d_Kc_readKey_21 ?_
    refine hv_iload (pn := 24) X d_Kc_readKey_22 ?_
    refine hv_imul (pn := 25) X d_Kc_readKey_24 ?_
    refine hv_iadd (pn := 26) X d_Kc_readKey_25 ?_
    obtain ⟨v2, hv2, hf⟩ := bd_E hf
    refine hv_callS (pn := 29) X d_Kc_readKey_26 (c_Of_wordAt _ _ N σ a2 (x3 + (4 * x4)) _ hv2) cs_Kc_52 q_2_199 (by decide) (by decide) ⟨Nat.le_refl _, Nat.le_refl _⟩ (Nat.le_of_ble_eq_true rfl) ?_
    obtain ⟨σ3, hσ3, hf⟩ := bd_E hf
    refine hv_iast (pn := 30) X d_Kc_readKey_29 hσ3 ?_
    refine hv_iinc (pn := 33) (i := 4) (v := x4 + 1) (lo' := [some (.ref a0), some (.int x1), some (.ref a2), some (.int x3), some (.int (x4 + 1))]) X d_Kc_readKey_30 ?_
    refine hv_goto (tgt := 3) X d_Kc_readKey_33 (by decide) ?_
    cases hf
    exact E
set_option maxHeartbeats 4000000 in
set_option maxRecDepth 100000 in
theorem c_Kc_readKey (l : Launch) (G : ho_G) (N : Nat) (σ : ho_H) (a0 : Nat) (x1 : Int32) (a2 : Nat) (x3 : Int32) (σ' : ho_H) (hf : f_Kc_readKey G N σ a0 x1 a2 x3 = some σ') : hv_C l G y_Kc_readKey (Cond.code y_Kc_readKey b_Kc_readKey 5 none :: hv_ws) 1 21 [.ref a0, .int x1, .ref a2, .int x3] σ σ' (none) := by
  refine hv_met [some (.ref a0), some (.int x1), some (.ref a2), some (.int x3), none] (plainFor_of_name (by decide +kernel)) (by intro v hv; simp at hv; rcases hv with rfl | rfl | rfl | rfl <;> rfl) (Nat.le_of_ble_eq_true rfl) rfl ?_
  intro k X hkl hkG E
  subst hkl
  subst hkG
  unfold f_Kc_readKey at hf
  refine hv_iconst (pn := 1) (v := 0) X d_Kc_readKey_0 ?_
  refine hv_istore (pn := 3) (i := 4) (lo' := [some (.ref a0), some (.int x1), some (.ref a2), some (.int x3), some (.int 0)]) X d_Kc_readKey_1 ?_
  obtain ⟨σ4, he6, hf⟩ := bd_E hf
  refine hv_loop (P := fun s => hv_V k s.1 3 [some (.ref a0), some (.int x1), some (.ref a2), some (.int x3), some (.int s.2)] []) (Z := fun s => hv_V k s 36 [none, none, none, none, none] []) (fun s r h1 h2 => by obtain ⟨σ, x4⟩ := s; exact w_Kc_readKey_l3 X N a0 x1 a2 x3 σ x4 r h1 h2) N (σ, 0) _ he6 ?_
  try dsimp only at hf ⊢
  cases hf
  exact hv_vret X d_Kc_readKey_36 E
set_option maxHeartbeats 4000000 in
set_option maxRecDepth 100000 in
theorem c_Kc_learnRoot (l : Launch) (G : ho_G) (N : Nat) (σ : ho_H) (a0 : Nat) (a1 : Nat) (x2 : Int32) (σ' : ho_H) (hf : f_Kc_learnRoot G N σ a0 a1 x2 = some σ') : hv_C l G y_Kc_learnRoot (Cond.code y_Kc_learnRoot b_Kc_learnRoot 3 none :: hv_ws) 2 45 [.ref a0, .ref a1, .int x2] σ σ' (none) := by
  refine hv_met [some (.ref a0), some (.ref a1), some (.int x2)] (plainFor_of_name (by decide +kernel)) (by intro v hv; simp at hv; rcases hv with rfl | rfl | rfl <;> rfl) (Nat.le_of_ble_eq_true rfl) rfl ?_
  intro k X hkl hkG E
  subst hkl
  subst hkG
  unfold f_Kc_learnRoot at hf
  refine hv_aload_n (pn := 1) X d_Kc_learnRoot_0 ?_
  refine hv_iconst (pn := 2) (v := 0) X d_Kc_learnRoot_1 ?_
  refine hv_aload_n (pn := 3) X d_Kc_learnRoot_2 ?_
  refine hv_iload_n (pn := 4) X d_Kc_learnRoot_3 ?_
  obtain ⟨_, hr1, hf⟩ := bd_E hf
  obtain ⟨σ2, hσ2, hf⟩ := bd_E hf
  obtain ⟨hσ2, mσ2⟩ := ho_cv_E hσ2
  refine hv_callV (pn := 7) X d_Kc_learnRoot_4 (c_Kc_readKey _ _ N σ a0 0 a1 x2 _ hσ2) cs_Kc_48 q_3_176 rfl q_3_177 hr1 (by decide) (by decide) mσ2 (Nat.le_of_ble_eq_true rfl) ?_
  refine hv_aload_n (pn := 8) X d_Kc_learnRoot_7 ?_
  refine hv_iconst (pn := 9) (v := 0) X d_Kc_learnRoot_8 ?_
  obtain ⟨σ3, hσ3, hf⟩ := bd_E hf
  refine hv_put (pn := 12) X d_Kc_learnRoot_9 fp_Kc_15 hσ3 ?_
  refine hv_aload_n (pn := 13) X d_Kc_learnRoot_12 ?_
  refine hv_iconst (pn := 14) (v := 0) X d_Kc_learnRoot_13 ?_
  obtain ⟨σ4, hσ4, hf⟩ := bd_E hf
  refine hv_put (pn := 17) X d_Kc_learnRoot_14 fp_Kc_19 hσ4 ?_
  cases hf
  exact hv_vret X d_Kc_learnRoot_17 E
set_option maxHeartbeats 4000000 in
set_option maxRecDepth 100000 in
theorem w_Kc_isKey_l3 {k : mk_T} (X : hv_X k b_Kc_isKey y_Kc_isKey.cls 5 2 43 (some (.boolean)) y_Kc_isKey.name) (N : Nat) (σ : ho_H) (a0 : Nat) (x1 : Int32) (a2 : Nat) (x3 : Int32) (x4 : Int32) (r : (Int32) ⊕ ((Unit) ⊕ (Int32))) (hf : f_Kc_isKey_l3 k.2.1 N σ a0 x1 a2 x3 x4 = some r) (E : sm (fun s => hv_V k σ 3 [some (.ref a0), some (.int x1), some (.ref a2), some (.int x3), some (.int s)] []) (sm (fun s => hv_V k σ 34 [none, none, none, none, none] []) (fun z => hv_end k σ (some (.int z)))) r) : hv_V k σ 3 [some (.ref a0), some (.int x1), some (.ref a2), some (.int x3), some (.int x4)] [] := by
  unfold f_Kc_isKey_l3 at hf
  try dsimp only at hf
  refine hv_iload (pn := 5) X d_Kc_isKey_3 ?_
  refine hv_bipush (pn := 7) (v := 20) X d_Kc_isKey_5 ?_
  refine hv_icmp_ge (pn := 10) (tgt := 34) X d_Kc_isKey_7 (by decide) (fun hc => ?_) (fun hc => ?_)
  · rw [if_pos hc] at hf
    refine hv_drop (i := 0) (lo' := [none, some (.int x1), some (.ref a2), some (.int x3), some (.int x4)]) ?_
    refine hv_drop (i := 1) (lo' := [none, none, some (.ref a2), some (.int x3), some (.int x4)]) ?_
    refine hv_drop (i := 2) (lo' := [none, none, none, some (.int x3), some (.int x4)]) ?_
    refine hv_drop (i := 3) (lo' := [none, none, none, none, some (.int x4)]) ?_
    refine hv_drop (i := 4) (lo' := [none, none, none, none, none]) ?_
    cases hf
    exact E
  · rw [if_neg hc] at hf
    refine hv_aload_n (pn := 11) X d_Kc_isKey_10 ?_
    refine hv_iload_n (pn := 12) X d_Kc_isKey_11 ?_
    refine hv_iload (pn := 14) X d_Kc_isKey_12 ?_
    refine hv_iadd (pn := 15) X d_Kc_isKey_14 ?_
    obtain ⟨v1, hv1, hf⟩ := bd_E hf
    refine hv_iald (pn := 16) X d_Kc_isKey_15 hv1 ?_
    refine hv_aload_n (pn := 17) X d_Kc_isKey_16 ?_
    refine hv_iload_n (pn := 18) X d_Kc_isKey_17 ?_
    refine hv_iload (pn := 20) X d_Kc_isKey_18 ?_
    obtain ⟨_, hr2, hf⟩ := bd_E hf
    obtain ⟨v3, hv3, hf⟩ := bd_E hf
    refine hv_callV (pn := 23) X d_Kc_isKey_20 (c_Kc_byteAt _ _ N σ a0 x1 x4 _ hv3) cs_Kc_44 q_2_233 rfl q_2_234 hr2 (by decide) (by decide) ⟨Nat.le_refl _, Nat.le_refl _⟩ (Nat.le_of_ble_eq_true rfl) ?_
    refine hv_icmp_eq (pn := 26) (tgt := 28) X d_Kc_isKey_23 (by decide) (fun hc => ?_) (fun hc => ?_)
    · rw [if_pos hc] at hf
      refine hv_iinc (pn := 31) (i := 4) (v := x4 + 1) (lo' := [some (.ref a0), some (.int x1), some (.ref a2), some (.int x3), some (.int (x4 + 1))]) X d_Kc_isKey_28 ?_
      refine hv_goto (tgt := 3) X d_Kc_isKey_31 (by decide) ?_
      cases hf
      exact E
    · rw [if_neg hc] at hf
      refine hv_iconst (pn := 27) (v := 0) X d_Kc_isKey_26 ?_
      cases hf
      exact hv_zret X d_Kc_isKey_27 (by decide) E
set_option maxHeartbeats 4000000 in
set_option maxRecDepth 100000 in
theorem c_Kc_isKey (l : Launch) (G : ho_G) (N : Nat) (σ : ho_H) (a0 : Nat) (x1 : Int32) (a2 : Nat) (x3 : Int32) (r : Int32) (hf : f_Kc_isKey G N σ a0 x1 a2 x3 = some r) : hv_C l G y_Kc_isKey (Cond.code y_Kc_isKey b_Kc_isKey 5 (some (.boolean)) :: hv_ws) 2 43 [.ref a0, .int x1, .ref a2, .int x3] σ σ (some (.int r)) := by
  refine hv_met [some (.ref a0), some (.int x1), some (.ref a2), some (.int x3), none] (plainFor_of_name (by decide +kernel)) (by intro v hv; simp at hv; rcases hv with rfl | rfl | rfl | rfl <;> rfl) (Nat.le_of_ble_eq_true rfl) rfl ?_
  intro k X hkl hkG E
  subst hkl
  subst hkG
  unfold f_Kc_isKey at hf
  refine hv_iconst (pn := 1) (v := 0) X d_Kc_isKey_0 ?_
  refine hv_istore (pn := 3) (i := 4) (lo' := [some (.ref a0), some (.int x1), some (.ref a2), some (.int x3), some (.int 0)]) X d_Kc_isKey_1 ?_
  obtain ⟨e4, he5, hf⟩ := bd_E hf
  refine hv_loop (P := fun s => hv_V k σ 3 [some (.ref a0), some (.int x1), some (.ref a2), some (.int x3), some (.int s)] []) (Z := sm (fun s => hv_V k σ 34 [none, none, none, none, none] []) (fun z => hv_end k σ (some (.int z)))) (fun s r h1 h2 => by exact w_Kc_isKey_l3 X N σ a0 x1 a2 x3 s r h1 h2) N 0 e4 he5 ?_
  rcases e4 with _ | z
  · try dsimp only [sm, sm_e] at hf ⊢
    refine hv_iconst (pn := 35) (v := 1) X d_Kc_isKey_34 ?_
    cases hf
    exact hv_zret X d_Kc_isKey_35 (by decide) E
  · cases (show some _ = some _ from hf); exact E
set_option maxHeartbeats 4000000 in
set_option maxRecDepth 100000 in
theorem w_Kc_raiseTo_l29 {k : mk_T} (X : hv_X k b_Kc_raiseTo y_Kc_raiseTo.cls 5 4 135 (some (.boolean)) y_Kc_raiseTo.name) (N : Nat) (σ : ho_H) (a0 : Nat) (x1 : Int32) (a2 : Nat) (x4 : Int32) (r : (Int32) ⊕ ((Unit) ⊕ (ho_H × Int32))) (hf : f_Kc_raiseTo_l29 k.2.1 N σ a0 x1 a2 x4 = some r) (E : sm (fun s => hv_V k σ 29 [some (.ref a0), some (.int x1), some (.ref a2), none, some (.int s)] []) (sm (fun s => hv_V k σ 67 [some (.ref a0), some (.int x1), none, none, none] []) (fun z => hv_end k z.1 (some (.int z.2)))) r) : hv_V k σ 29 [some (.ref a0), some (.int x1), some (.ref a2), none, some (.int x4)] [] := by
  unfold f_Kc_raiseTo_l29 at hf
  try dsimp only at hf
  refine hv_iload (pn := 31) X d_Kc_raiseTo_29 ?_
  refine hv_iconst (pn := 32) (v := 5) X d_Kc_raiseTo_31 ?_
  refine hv_icmp_ge (pn := 35) (tgt := 67) X d_Kc_raiseTo_32 (by decide) (fun hc => ?_) (fun hc => ?_)
  · rw [if_pos hc] at hf
    refine hv_drop (i := 2) (lo' := [some (.ref a0), some (.int x1), none, none, some (.int x4)]) ?_
    refine hv_drop (i := 4) (lo' := [some (.ref a0), some (.int x1), none, none, none]) ?_
    cases hf
    exact E
  · rw [if_neg hc] at hf
    refine hv_aload_n (pn := 36) X d_Kc_raiseTo_35 ?_
    obtain ⟨b6, hb6, hf⟩ := bd_E hf
    refine hv_getR (pn := 39) X d_Kc_raiseTo_36 fa_Kc_31 hb6 ?_
    refine hv_iload (pn := 41) X d_Kc_raiseTo_39 ?_
    obtain ⟨v7, hv7, hf⟩ := bd_E hf
    refine hv_iald (pn := 42) X d_Kc_raiseTo_41 hv7 ?_
    refine hv_aload_n (pn := 43) X d_Kc_raiseTo_42 ?_
    obtain ⟨b8, hb8, hf⟩ := bd_E hf
    refine hv_getR (pn := 46) X d_Kc_raiseTo_43 fa_Kc_9 hb8 ?_
    refine hv_aload_n (pn := 47) X d_Kc_raiseTo_46 ?_
    obtain ⟨v9, hv9, hf⟩ := bd_E hf
    refine hv_getI (pn := 50) X d_Kc_raiseTo_47 fa_Kc_19 hv9 ?_
    refine hv_iconst (pn := 51) (v := 5) X d_Kc_raiseTo_50 ?_
    refine hv_imul (pn := 52) X d_Kc_raiseTo_51 ?_
    refine hv_iload (pn := 54) X d_Kc_raiseTo_52 ?_
    refine hv_iadd (pn := 55) X d_Kc_raiseTo_54 ?_
    obtain ⟨v10, hv10, hf⟩ := bd_E hf
    refine hv_iald (pn := 56) X d_Kc_raiseTo_55 hv10 ?_
    refine hv_icmp_eq (pn := 59) (tgt := 61) X d_Kc_raiseTo_56 (by decide) (fun hc => ?_) (fun hc => ?_)
    · rw [if_pos hc] at hf
      refine hv_iinc (pn := 64) (i := 4) (v := x4 + 1) (lo' := [some (.ref a0), some (.int x1), some (.ref a2), none, some (.int (x4 + 1))]) X d_Kc_raiseTo_61 ?_
      refine hv_goto (tgt := 29) X d_Kc_raiseTo_64 (by decide) ?_
      cases hf
      exact E
    · rw [if_neg hc] at hf
      refine hv_iconst (pn := 60) (v := 0) X d_Kc_raiseTo_59 ?_
      cases hf
      exact hv_zret X d_Kc_raiseTo_60 (by decide) E
set_option maxHeartbeats 4000000 in
set_option maxRecDepth 100000 in
theorem c_Kc_raiseTo (l : Launch) (G : ho_G) (N : Nat) (σ : ho_H) (a0 : Nat) (x1 : Int32) (a2 : Nat) (σ' : ho_H) (r : Int32) (hf : f_Kc_raiseTo G N σ a0 x1 a2 = some (σ', r)) : hv_C l G y_Kc_raiseTo (Cond.code y_Kc_raiseTo b_Kc_raiseTo 5 (some (.boolean)) :: hv_ws) 4 135 [.ref a0, .int x1, .ref a2] σ σ' (some (.int r)) := by
  refine hv_met [some (.ref a0), some (.int x1), some (.ref a2), none, none] (plainFor_of_name (by decide +kernel)) (by intro v hv; simp at hv; rcases hv with rfl | rfl | rfl <;> rfl) (Nat.le_of_ble_eq_true rfl) rfl ?_
  intro k X hkl hkG E
  subst hkl
  subst hkG
  unfold f_Kc_raiseTo at hf
  refine hv_aload_n (pn := 1) X d_Kc_raiseTo_0 ?_
  obtain ⟨v1, hv1, hf⟩ := bd_E hf
  refine hv_getI (pn := 4) X d_Kc_raiseTo_1 fa_Kc_19 hv1 ?_
  refine hv_iconst (pn := 5) (v := 1) X d_Kc_raiseTo_4 ?_
  refine hv_iadd (pn := 6) X d_Kc_raiseTo_5 ?_
  refine hv_iconst (pn := 7) (v := 5) X d_Kc_raiseTo_6 ?_
  refine hv_imul (pn := 8) X d_Kc_raiseTo_7 ?_
  refine hv_istore_n (pn := 9) (i := 3) (lo' := [some (.ref a0), some (.int x1), some (.ref a2), some (.int ((v1 + 1) * 5)), none]) X d_Kc_raiseTo_8 ?_
  refine hv_aload_n (pn := 10) X d_Kc_raiseTo_9 ?_
  refine hv_aload_n (pn := 11) X d_Kc_raiseTo_10 ?_
  obtain ⟨b2, hb2, hf⟩ := bd_E hf
  refine hv_getR (pn := 14) X d_Kc_raiseTo_11 fa_Kc_9 hb2 ?_
  refine hv_iload_n (pn := 15) X d_Kc_raiseTo_14 ?_
  refine hv_iconst (pn := 16) (v := 5) X d_Kc_raiseTo_15 ?_
  refine hv_gets (pn := 19) X d_Kc_raiseTo_16 (i := 2) rfl q_2_48 (Or.inl rfl) ?_
  refine hv_gets (pn := 22) X d_Kc_raiseTo_19 (i := 2) rfl q_2_48 (Or.inl rfl) ?_
  obtain ⟨v3, hv3, hf⟩ := bd_E hf
  refine hv_alenI (pn := 23) X d_Kc_raiseTo_22 hv3 ?_
  obtain ⟨_, hr4, hf⟩ := bd_E hf
  obtain ⟨σ5, hσ5, hf⟩ := bd_E hf
  obtain ⟨hσ5, mσ5⟩ := ho_cv_E hσ5
  refine hv_callV (pn := 26) X d_Kc_raiseTo_23 (c_Sl_seal _ _ N σ a2 b2 ((v1 + 1) * 5) 5 (gA k.2.1 2) v3 _ hσ5) cs_Kc_25 q_2_51 rfl q_2_52 hr4 (by decide) (by decide) mσ5 (Nat.le_of_ble_eq_true rfl) ?_
  refine hv_iconst (pn := 27) (v := 0) X d_Kc_raiseTo_26 ?_
  refine hv_istore (pn := 29) (i := 4) (lo' := [some (.ref a0), some (.int x1), some (.ref a2), some (.int ((v1 + 1) * 5)), some (.int 0)]) X d_Kc_raiseTo_27 ?_
  refine hv_drop (i := 3) (lo' := [some (.ref a0), some (.int x1), some (.ref a2), none, some (.int 0)]) ?_
  obtain ⟨e12, he13, hf⟩ := bd_E hf
  refine hv_loop (P := fun s => hv_V k σ5 29 [some (.ref a0), some (.int x1), some (.ref a2), none, some (.int s)] []) (Z := sm (fun s => hv_V k σ5 67 [some (.ref a0), some (.int x1), none, none, none] []) (fun z => hv_end k z.1 (some (.int z.2)))) (fun s r h1 h2 => by exact w_Kc_raiseTo_l29 X N σ5 a0 x1 a2 s r h1 h2) N 0 e12 he13 ?_
  rcases e12 with _ | z
  · try dsimp only [sm, sm_e] at hf ⊢
    refine hv_aload_n (pn := 68) X d_Kc_raiseTo_67 ?_
    refine hv_iload_n (pn := 69) X d_Kc_raiseTo_68 ?_
    obtain ⟨σ11, hσ11, hf⟩ := bd_E hf
    refine hv_put (pn := 72) X d_Kc_raiseTo_69 fp_Kc_19 hσ11 ?_
    refine hv_iconst (pn := 73) (v := 1) X d_Kc_raiseTo_72 ?_
    cases hf
    exact hv_zret X d_Kc_raiseTo_73 (by decide) E
  · cases (show some _ = some _ from hf); exact E
set_option maxHeartbeats 4000000 in
set_option maxRecDepth 100000 in
theorem c_Kc_sealPacket (l : Launch) (G : ho_G) (N : Nat) (σ : ho_H) (a0 : Nat) (x1 : Int32) (a2 : Nat) (a3 : Nat) (σ' : ho_H) (hf : f_Kc_sealPacket G N σ a0 x1 a2 a3 = some σ') : hv_C l G y_Kc_sealPacket (Cond.code y_Kc_sealPacket b_Kc_sealPacket 4 none :: hv_ws) 4 135 [.ref a0, .int x1, .ref a2, .ref a3] σ σ' (none) := by
  refine hv_met [some (.ref a0), some (.int x1), some (.ref a2), some (.ref a3)] (plainFor_of_name (by decide +kernel)) (by intro v hv; simp at hv; rcases hv with rfl | rfl | rfl | rfl <;> rfl) (Nat.le_of_ble_eq_true rfl) rfl ?_
  intro k X hkl hkG E
  subst hkl
  subst hkG
  unfold f_Kc_sealPacket at hf
  refine hv_aload_n (pn := 1) X d_Kc_sealPacket_0 ?_
  refine hv_aload_n (pn := 2) X d_Kc_sealPacket_1 ?_
  obtain ⟨b1, hb1, hf⟩ := bd_E hf
  refine hv_getR (pn := 5) X d_Kc_sealPacket_2 fa_Kc_9 hb1 ?_
  refine hv_iload_n (pn := 6) X d_Kc_sealPacket_5 ?_
  refine hv_iconst (pn := 7) (v := 5) X d_Kc_sealPacket_6 ?_
  refine hv_imul (pn := 8) X d_Kc_sealPacket_7 ?_
  refine hv_iconst (pn := 9) (v := 5) X d_Kc_sealPacket_8 ?_
  refine hv_gets (pn := 12) X d_Kc_sealPacket_9 (i := 3) rfl q_2_208 (Or.inl rfl) ?_
  refine hv_gets (pn := 15) X d_Kc_sealPacket_12 (i := 3) rfl q_2_208 (Or.inl rfl) ?_
  obtain ⟨v2, hv2, hf⟩ := bd_E hf
  refine hv_alenI (pn := 16) X d_Kc_sealPacket_15 hv2 ?_
  obtain ⟨_, hr3, hf⟩ := bd_E hf
  obtain ⟨σ4, hσ4, hf⟩ := bd_E hf
  obtain ⟨hσ4, mσ4⟩ := ho_cv_E hσ4
  refine hv_callV (pn := 19) X d_Kc_sealPacket_16 (c_Sl_seal _ _ N σ a3 b1 (x1 * 5) 5 (gA k.2.1 3) v2 _ hσ4) cs_Kc_25 q_2_51 rfl q_2_52 hr3 (by decide) (by decide) mσ4 (Nat.le_of_ble_eq_true rfl) ?_
  refine hv_aload_n (pn := 20) X d_Kc_sealPacket_19 ?_
  obtain ⟨b5, hb5, hf⟩ := bd_E hf
  refine hv_getR (pn := 23) X d_Kc_sealPacket_20 fa_Kc_31 hb5 ?_
  refine hv_iconst (pn := 24) (v := 0) X d_Kc_sealPacket_23 ?_
  refine hv_aload_n (pn := 25) X d_Kc_sealPacket_24 ?_
  obtain ⟨b6, hb6, hf⟩ := bd_E hf
  refine hv_getR (pn := 28) X d_Kc_sealPacket_25 fa_Kc_58 hb6 ?_
  refine hv_iconst (pn := 29) (v := 0) X d_Kc_sealPacket_28 ?_
  refine hv_bipush (pn := 31) (v := 8) X d_Kc_sealPacket_29 ?_
  obtain ⟨σ7, hσ7, hf⟩ := bd_E hf
  refine hv_cpI (pn := 34) X d_Kc_sealPacket_31 q_2_90 q_2_78 q_2_77 q_1_16 hσ7 (by decide) (by decide +kernel) (Nat.le_of_ble_eq_true rfl) ?_
  refine hv_aload_n (pn := 35) X d_Kc_sealPacket_34 ?_
  refine hv_aload_n (pn := 36) X d_Kc_sealPacket_35 ?_
  obtain ⟨b8, hb8, hf⟩ := bd_E hf
  refine hv_getR (pn := 39) X d_Kc_sealPacket_36 fa_Kc_58 hb8 ?_
  refine hv_iconst (pn := 40) (v := 0) X d_Kc_sealPacket_39 ?_
  refine hv_bipush (pn := 42) (v := 8) X d_Kc_sealPacket_40 ?_
  refine hv_aload_n (pn := 43) X d_Kc_sealPacket_42 ?_
  obtain ⟨b9, hb9, hf⟩ := bd_E hf
  refine hv_getR (pn := 46) X d_Kc_sealPacket_43 fa_Kc_61 hb9 ?_
  refine hv_aload_n (pn := 47) X d_Kc_sealPacket_46 ?_
  obtain ⟨_, hr10, hf⟩ := bd_E hf
  obtain ⟨v11, hv11, hf⟩ := bd_E hf
  refine hv_callV (pn := 50) X d_Kc_sealPacket_47 (c_Pk_codeAt _ _ N σ7 a2 _ hv11) cs_Kc_66 q_2_211 rfl q_2_212 hr10 (by decide) (by decide) ⟨Nat.le_refl _, Nat.le_refl _⟩ (Nat.le_of_ble_eq_true rfl) ?_
  obtain ⟨_, hr12, hf⟩ := bd_E hf
  obtain ⟨σ13, hσ13, hf⟩ := bd_E hf
  obtain ⟨hσ13, mσ13⟩ := ho_cv_E hσ13
  refine hv_callV (pn := 53) X d_Kc_sealPacket_50 (c_Sl_seal _ _ N σ7 a3 b8 0 8 b9 v11 _ hσ13) cs_Kc_25 q_2_51 rfl q_2_52 hr12 (by decide) (by decide) mσ13 (Nat.le_of_ble_eq_true rfl) ?_
  cases hf
  exact hv_vret X d_Kc_sealPacket_53 E
set_option maxHeartbeats 4000000 in
set_option maxRecDepth 100000 in
theorem w_Of_isReceiver_j15 {k : mk_T} (X : hv_X k b_Of_isReceiver y_Of_isReceiver.cls 2 0 0 (some (.boolean)) y_Of_isReceiver.name) (N : Nat) (σ : ho_H) (y0 : Int32)  (r : Int32) (hf : f_Of_isReceiver_j15 k.2.1 N σ y0 = some r) (E : hv_end k σ (some (.int r))) : hv_V k σ 15 [none, none] [.int y0] := by
  unfold f_Of_isReceiver_j15 at hf
  obtain ⟨_, hz, hf⟩ := bd_E hf
  cases hf
  exact hv_zret X d_Of_isReceiver_15 (ho_bz_E hz) E
set_option maxHeartbeats 4000000 in
set_option maxRecDepth 100000 in
theorem w_Of_isReceiver_j14 {k : mk_T} (X : hv_X k b_Of_isReceiver y_Of_isReceiver.cls 2 0 0 (some (.boolean)) y_Of_isReceiver.name) (N : Nat) (σ : ho_H)   (r : Int32) (hf : f_Of_isReceiver_j14 k.2.1 N σ  = some r) (E : hv_end k σ (some (.int r))) : hv_V k σ 14 [none, none] [] := by
  unfold f_Of_isReceiver_j14 at hf
  refine hv_iconst (pn := 15) (v := 0) X d_Of_isReceiver_14 ?_
  exact w_Of_isReceiver_j15 X N σ 0  _ hf E
set_option maxHeartbeats 4000000 in
set_option maxRecDepth 100000 in
theorem c_Of_isReceiver (l : Launch) (G : ho_G) (N : Nat) (σ : ho_H) (a0 : Nat) (x1 : Int32) (r : Int32) (hf : f_Of_isReceiver G N σ a0 x1 = some r) : hv_C l G y_Of_isReceiver (Cond.code y_Of_isReceiver b_Of_isReceiver 2 (some (.boolean)) :: hv_ws) 0 0 [.ref a0, .int x1] σ σ (some (.int r)) := by
  refine hv_met [some (.ref a0), some (.int x1)] (plainFor_of_name (by decide +kernel)) (by intro v hv; simp at hv; rcases hv with rfl | rfl <;> rfl) (Nat.le_of_ble_eq_true rfl) rfl ?_
  intro k X hkl hkG E
  subst hkl
  subst hkG
  unfold f_Of_isReceiver at hf
  refine hv_iload_n (pn := 1) X d_Of_isReceiver_0 ?_
  refine hv_if_lt (pn := 4) (tgt := 14) X d_Of_isReceiver_1 (by decide) (fun hc => ?_) (fun hc => ?_)
  · rw [if_pos hc] at hf
    refine hv_drop (i := 0) (lo' := [none, some (.int x1)]) ?_
    refine hv_drop (i := 1) (lo' := [none, none]) ?_
    exact w_Of_isReceiver_j14 X N σ   _ hf E
  · rw [if_neg hc] at hf
    refine hv_iload_n (pn := 5) X d_Of_isReceiver_4 ?_
    refine hv_bipush (pn := 7) (v := 8) X d_Of_isReceiver_5 ?_
    refine hv_icmp_ge (pn := 10) (tgt := 14) X d_Of_isReceiver_7 (by decide) (fun hc => ?_) (fun hc => ?_)
    · rw [if_pos hc] at hf
      refine hv_drop (i := 0) (lo' := [none, some (.int x1)]) ?_
      refine hv_drop (i := 1) (lo' := [none, none]) ?_
      exact w_Of_isReceiver_j14 X N σ   _ hf E
    · rw [if_neg hc] at hf
      refine hv_iconst (pn := 11) (v := 1) X d_Of_isReceiver_10 ?_
      refine hv_goto (tgt := 15) X d_Of_isReceiver_11 (by decide) ?_
      refine hv_drop (i := 0) (lo' := [none, some (.int x1)]) ?_
      refine hv_drop (i := 1) (lo' := [none, none]) ?_
      exact w_Of_isReceiver_j15 X N σ 1  _ hf E
set_option maxHeartbeats 4000000 in
set_option maxRecDepth 100000 in
theorem w_Lw_cell_j13 {k : mk_T} (X : hv_X k b_Lw_cell y_Lw_cell.cls 2 0 0 (some (.int)) y_Lw_cell.name) (N : Nat) (σ : ho_H) (y0 : Int32)  (r : Int32) (hf : f_Lw_cell_j13 k.2.1 N σ y0 = some r) (E : hv_end k σ (some (.int r))) : hv_V k σ 13 [none, none] [.int y0] := by
  unfold f_Lw_cell_j13 at hf
  cases hf
  exact hv_iret X d_Lw_cell_13 E
set_option maxHeartbeats 4000000 in
set_option maxRecDepth 100000 in
theorem c_Lw_cell (l : Launch) (G : ho_G) (N : Nat) (σ : ho_H) (a0 : Nat) (x1 : Int32) (r : Int32) (hf : f_Lw_cell G N σ a0 x1 = some r) : hv_C l G y_Lw_cell (Cond.code y_Lw_cell b_Lw_cell 2 (some (.int)) :: hv_ws) 0 0 [.ref a0, .int x1] σ σ (some (.int r)) := by
  refine hv_met [some (.ref a0), some (.int x1)] (plainFor_of_name (by decide +kernel)) (by intro v hv; simp at hv; rcases hv with rfl | rfl <;> rfl) (Nat.le_of_ble_eq_true rfl) rfl ?_
  intro k X hkl hkG E
  subst hkl
  subst hkG
  unfold f_Lw_cell at hf
  refine hv_iload_n (pn := 1) X d_Lw_cell_0 ?_
  refine hv_aload_n (pn := 2) X d_Lw_cell_1 ?_
  obtain ⟨v1, hv1, hf⟩ := bd_E hf
  refine hv_alenI (pn := 3) X d_Lw_cell_2 hv1 ?_
  refine hv_icmp_ge (pn := 6) (tgt := 12) X d_Lw_cell_3 (by decide) (fun hc => ?_) (fun hc => ?_)
  · rw [if_pos hc] at hf
    refine hv_iconst (pn := 13) (v := 0) X d_Lw_cell_12 ?_
    refine hv_drop (i := 0) (lo' := [none, some (.int x1)]) ?_
    refine hv_drop (i := 1) (lo' := [none, none]) ?_
    exact w_Lw_cell_j13 X N σ 0  _ hf E
  · rw [if_neg hc] at hf
    refine hv_aload_n (pn := 7) X d_Lw_cell_6 ?_
    refine hv_iload_n (pn := 8) X d_Lw_cell_7 ?_
    obtain ⟨v2, hv2, hf⟩ := bd_E hf
    refine hv_iald (pn := 9) X d_Lw_cell_8 hv2 ?_
    refine hv_goto (tgt := 13) X d_Lw_cell_9 (by decide) ?_
    refine hv_drop (i := 0) (lo' := [none, some (.int x1)]) ?_
    refine hv_drop (i := 1) (lo' := [none, none]) ?_
    exact w_Lw_cell_j13 X N σ v2  _ hf E
end
section
theorem d_Ac_init_0 : decode b_Ac_init 0 = .ok (.aload_n 0, 1) := by decide +kernel
theorem d_Ac_init_1 : decode b_Ac_init 1 = .ok (.invokespecial 1, 3) := by decide +kernel
theorem d_Ac_init_4 : decode b_Ac_init 4 = .ok (.return_, 1) := by decide +kernel
theorem d_Ab_init_0 : decode b_Ab_init 0 = .ok (.aload_n 0, 1) := by decide +kernel
theorem d_Ab_init_1 : decode b_Ab_init 1 = .ok (.invokespecial 1, 3) := by decide +kernel
theorem d_Ab_init_4 : decode b_Ab_init 4 = .ok (.aload_n 0, 1) := by decide +kernel
theorem d_Ab_init_5 : decode b_Ab_init 5 = .ok (.iconst 0, 1) := by decide +kernel
theorem d_Ab_init_6 : decode b_Ab_init 6 = .ok (.putfield 7, 3) := by decide +kernel
theorem d_Ab_init_9 : decode b_Ab_init 9 = .ok (.return_, 1) := by decide +kernel
theorem d_Al_init_0 : decode b_Al_init 0 = .ok (.aload_n 0, 1) := by decide +kernel
theorem d_Al_init_1 : decode b_Al_init 1 = .ok (.invokespecial 1, 3) := by decide +kernel
theorem d_Al_init_4 : decode b_Al_init 4 = .ok (.aload_n 0, 1) := by decide +kernel
theorem d_Al_init_5 : decode b_Al_init 5 = .ok (.getstatic 39, 3) := by decide +kernel
theorem d_Al_init_8 : decode b_Al_init 8 = .ok (.putfield 9, 3) := by decide +kernel
theorem d_Al_init_11 : decode b_Al_init 11 = .ok (.return_, 1) := by decide +kernel
theorem d_Al_size_0 : decode b_Al_size 0 = .ok (.aload_n 0, 1) := by decide +kernel
theorem d_Al_size_1 : decode b_Al_size 1 = .ok (.getfield 48, 3) := by decide +kernel
theorem d_Al_size_4 : decode b_Al_size 4 = .ok (.ireturn, 1) := by decide +kernel
theorem d_As_newLength_0 : decode b_As_newLength 0 = .ok (.iload_n 0, 1) := by decide +kernel
theorem d_As_newLength_1 : decode b_As_newLength 1 = .ok (.iload_n 1, 1) := by decide +kernel
theorem d_As_newLength_2 : decode b_As_newLength 2 = .ok (.iload_n 2, 1) := by decide +kernel
theorem d_As_newLength_3 : decode b_As_newLength 3 = .ok (.invokestatic 194, 3) := by decide +kernel
theorem d_As_newLength_6 : decode b_As_newLength 6 = .ok (.iadd, 1) := by decide +kernel
theorem d_As_newLength_7 : decode b_As_newLength 7 = .ok (.istore_n 3, 1) := by decide +kernel
theorem d_As_newLength_8 : decode b_As_newLength 8 = .ok (.iconst 0, 1) := by decide +kernel
theorem d_As_newLength_9 : decode b_As_newLength 9 = .ok (.iload_n 3, 1) := by decide +kernel
theorem d_As_newLength_10 : decode b_As_newLength 10 = .ok (.if_icmp .ge 11, 3) := by decide +kernel
theorem d_As_newLength_13 : decode b_As_newLength 13 = .ok (.iload_n 3, 1) := by decide +kernel
theorem d_As_newLength_14 : decode b_As_newLength 14 = .ok (.ldc 200, 2) := by decide +kernel
theorem d_As_newLength_16 : decode b_As_newLength 16 = .ok (.if_icmp .gt 5, 3) := by decide +kernel
theorem d_As_newLength_19 : decode b_As_newLength 19 = .ok (.iload_n 3, 1) := by decide +kernel
theorem d_As_newLength_20 : decode b_As_newLength 20 = .ok (.ireturn, 1) := by decide +kernel
theorem d_As_newLength_21 : decode b_As_newLength 21 = .ok (.iload_n 0, 1) := by decide +kernel
theorem d_As_newLength_22 : decode b_As_newLength 22 = .ok (.iload_n 1, 1) := by decide +kernel
theorem d_As_newLength_23 : decode b_As_newLength 23 = .ok (.invokestatic 201, 3) := by decide +kernel
theorem d_As_newLength_26 : decode b_As_newLength 26 = .ok (.ireturn, 1) := by decide +kernel
theorem d_Ar_copyOf2_0 : decode b_Ar_copyOf2 0 = .ok (.aload_n 2, 1) := by decide +kernel
theorem d_Ar_copyOf2_1 : decode b_Ar_copyOf2 1 = .ok (.ldc 110, 2) := by decide +kernel
theorem d_Ar_copyOf2_3 : decode b_Ar_copyOf2 3 = .ok (.if_acmp .ne 10, 3) := by decide +kernel
theorem d_Ar_copyOf2_6 : decode b_Ar_copyOf2 6 = .ok (.iload_n 1, 1) := by decide +kernel
theorem d_Ar_copyOf2_7 : decode b_Ar_copyOf2 7 = .ok (.anewarray 2, 3) := by decide +kernel
theorem d_Ar_copyOf2_10 : decode b_Ar_copyOf2 10 = .ok (.goto 14, 3) := by decide +kernel
theorem d_Ar_copyOf2_13 : decode b_Ar_copyOf2 13 = .ok (.aload_n 2, 1) := by decide +kernel
theorem d_Ar_copyOf2_14 : decode b_Ar_copyOf2 14 = .ok (.invokevirtual 90, 3) := by decide +kernel
theorem d_Ar_copyOf2_17 : decode b_Ar_copyOf2 17 = .ok (.iload_n 1, 1) := by decide +kernel
theorem d_Ar_copyOf2_18 : decode b_Ar_copyOf2 18 = .ok (.invokestatic 95, 3) := by decide +kernel
theorem d_Ar_copyOf2_21 : decode b_Ar_copyOf2 21 = .ok (.checkcast 110, 3) := by decide +kernel
theorem d_Ar_copyOf2_24 : decode b_Ar_copyOf2 24 = .ok (.astore_n 3, 1) := by decide +kernel
theorem d_Ar_copyOf2_25 : decode b_Ar_copyOf2 25 = .ok (.aload_n 0, 1) := by decide +kernel
theorem d_Ar_copyOf2_26 : decode b_Ar_copyOf2 26 = .ok (.iconst 0, 1) := by decide +kernel
theorem d_Ar_copyOf2_27 : decode b_Ar_copyOf2 27 = .ok (.aload_n 3, 1) := by decide +kernel
theorem d_Ar_copyOf2_28 : decode b_Ar_copyOf2 28 = .ok (.iconst 0, 1) := by decide +kernel
theorem d_Ar_copyOf2_29 : decode b_Ar_copyOf2 29 = .ok (.aload_n 0, 1) := by decide +kernel
theorem d_Ar_copyOf2_30 : decode b_Ar_copyOf2 30 = .ok (.arraylength, 1) := by decide +kernel
theorem d_Ar_copyOf2_31 : decode b_Ar_copyOf2 31 = .ok (.iload_n 1, 1) := by decide +kernel
theorem d_Ar_copyOf2_32 : decode b_Ar_copyOf2 32 = .ok (.invokestatic 304, 3) := by decide +kernel
theorem d_Ar_copyOf2_35 : decode b_Ar_copyOf2 35 = .ok (.invokestatic 150, 3) := by decide +kernel
theorem d_Ar_copyOf2_38 : decode b_Ar_copyOf2 38 = .ok (.aload_n 3, 1) := by decide +kernel
theorem d_Ar_copyOf2_39 : decode b_Ar_copyOf2 39 = .ok (.areturn, 1) := by decide +kernel
theorem d_Ar_copyOf1_0 : decode b_Ar_copyOf1 0 = .ok (.aload_n 0, 1) := by decide +kernel
theorem d_Ar_copyOf1_1 : decode b_Ar_copyOf1 1 = .ok (.iload_n 1, 1) := by decide +kernel
theorem d_Ar_copyOf1_2 : decode b_Ar_copyOf1 2 = .ok (.aload_n 0, 1) := by decide +kernel
theorem d_Ar_copyOf1_3 : decode b_Ar_copyOf1 3 = .ok (.invokevirtual 86, 3) := by decide +kernel
theorem d_Ar_copyOf1_6 : decode b_Ar_copyOf1 6 = .ok (.invokestatic 300, 3) := by decide +kernel
theorem d_Ar_copyOf1_9 : decode b_Ar_copyOf1 9 = .ok (.areturn, 1) := by decide +kernel
theorem d_Al_grow2_0 : decode b_Al_grow2 0 = .ok (.aload_n 0, 1) := by decide +kernel
theorem d_Al_grow2_1 : decode b_Al_grow2 1 = .ok (.getfield 9, 3) := by decide +kernel
theorem d_Al_grow2_4 : decode b_Al_grow2 4 = .ok (.arraylength, 1) := by decide +kernel
theorem d_Al_grow2_5 : decode b_Al_grow2 5 = .ok (.istore_n 2, 1) := by decide +kernel
theorem d_Al_grow2_6 : decode b_Al_grow2 6 = .ok (.iload_n 2, 1) := by decide +kernel
theorem d_Al_grow2_7 : decode b_Al_grow2 7 = .ok (.ifCond .gt 13, 3) := by decide +kernel
theorem d_Al_grow2_10 : decode b_Al_grow2 10 = .ok (.aload_n 0, 1) := by decide +kernel
theorem d_Al_grow2_11 : decode b_Al_grow2 11 = .ok (.getfield 9, 3) := by decide +kernel
theorem d_Al_grow2_14 : decode b_Al_grow2 14 = .ok (.getstatic 39, 3) := by decide +kernel
theorem d_Al_grow2_17 : decode b_Al_grow2 17 = .ok (.if_acmp .eq 28, 3) := by decide +kernel
theorem d_Al_grow2_20 : decode b_Al_grow2 20 = .ok (.iload_n 2, 1) := by decide +kernel
theorem d_Al_grow2_21 : decode b_Al_grow2 21 = .ok (.iload_n 1, 1) := by decide +kernel
theorem d_Al_grow2_22 : decode b_Al_grow2 22 = .ok (.iload_n 2, 1) := by decide +kernel
theorem d_Al_grow2_23 : decode b_Al_grow2 23 = .ok (.isub, 1) := by decide +kernel
theorem d_Al_grow2_24 : decode b_Al_grow2 24 = .ok (.iload_n 2, 1) := by decide +kernel
theorem d_Al_grow2_25 : decode b_Al_grow2 25 = .ok (.iconst 1, 1) := by decide +kernel
theorem d_Al_grow2_26 : decode b_Al_grow2 26 = .ok (.ishr, 1) := by decide +kernel
theorem d_Al_grow2_27 : decode b_Al_grow2 27 = .ok (.invokestatic 73, 3) := by decide +kernel
theorem d_Al_grow2_30 : decode b_Al_grow2 30 = .ok (.istore_n 3, 1) := by decide +kernel
theorem d_Al_grow2_31 : decode b_Al_grow2 31 = .ok (.aload_n 0, 1) := by decide +kernel
theorem d_Al_grow2_32 : decode b_Al_grow2 32 = .ok (.aload_n 0, 1) := by decide +kernel
theorem d_Al_grow2_33 : decode b_Al_grow2 33 = .ok (.getfield 9, 3) := by decide +kernel
theorem d_Al_grow2_36 : decode b_Al_grow2 36 = .ok (.iload_n 3, 1) := by decide +kernel
theorem d_Al_grow2_37 : decode b_Al_grow2 37 = .ok (.invokestatic 66, 3) := by decide +kernel
theorem d_Al_grow2_40 : decode b_Al_grow2 40 = .ok (.dup_x1, 1) := by decide +kernel
theorem d_Al_grow2_41 : decode b_Al_grow2 41 = .ok (.putfield 9, 3) := by decide +kernel
theorem d_Al_grow2_44 : decode b_Al_grow2 44 = .ok (.areturn, 1) := by decide +kernel
theorem d_Al_grow2_45 : decode b_Al_grow2 45 = .ok (.aload_n 0, 1) := by decide +kernel
theorem d_Al_grow2_46 : decode b_Al_grow2 46 = .ok (.bipush 10, 2) := by decide +kernel
theorem d_Al_grow2_48 : decode b_Al_grow2 48 = .ok (.iload_n 1, 1) := by decide +kernel
theorem d_Al_grow2_49 : decode b_Al_grow2 49 = .ok (.invokestatic 79, 3) := by decide +kernel
theorem d_Al_grow2_52 : decode b_Al_grow2 52 = .ok (.anewarray 7, 3) := by decide +kernel
theorem d_Al_grow2_55 : decode b_Al_grow2 55 = .ok (.dup_x1, 1) := by decide +kernel
theorem d_Al_grow2_56 : decode b_Al_grow2 56 = .ok (.putfield 9, 3) := by decide +kernel
theorem d_Al_grow2_59 : decode b_Al_grow2 59 = .ok (.areturn, 1) := by decide +kernel
theorem d_Al_grow1_0 : decode b_Al_grow1 0 = .ok (.aload_n 0, 1) := by decide +kernel
theorem d_Al_grow1_1 : decode b_Al_grow1 1 = .ok (.aload_n 0, 1) := by decide +kernel
theorem d_Al_grow1_2 : decode b_Al_grow1 2 = .ok (.getfield 48, 3) := by decide +kernel
theorem d_Al_grow1_5 : decode b_Al_grow1 5 = .ok (.iconst 1, 1) := by decide +kernel
theorem d_Al_grow1_6 : decode b_Al_grow1 6 = .ok (.iadd, 1) := by decide +kernel
theorem d_Al_grow1_7 : decode b_Al_grow1 7 = .ok (.invokevirtual 69, 3) := by decide +kernel
theorem d_Al_grow1_10 : decode b_Al_grow1 10 = .ok (.areturn, 1) := by decide +kernel
theorem d_Al_add2_0 : decode b_Al_add2 0 = .ok (.iload_n 3, 1) := by decide +kernel
theorem d_Al_add2_1 : decode b_Al_add2 1 = .ok (.aload_n 2, 1) := by decide +kernel
theorem d_Al_add2_2 : decode b_Al_add2 2 = .ok (.arraylength, 1) := by decide +kernel
theorem d_Al_add2_3 : decode b_Al_add2 3 = .ok (.if_icmp .ne 8, 3) := by decide +kernel
theorem d_Al_add2_6 : decode b_Al_add2 6 = .ok (.aload_n 0, 1) := by decide +kernel
theorem d_Al_add2_7 : decode b_Al_add2 7 = .ok (.invokevirtual 129, 3) := by decide +kernel
theorem d_Al_add2_10 : decode b_Al_add2 10 = .ok (.astore_n 2, 1) := by decide +kernel
theorem d_Al_add2_11 : decode b_Al_add2 11 = .ok (.aload_n 2, 1) := by decide +kernel
theorem d_Al_add2_12 : decode b_Al_add2 12 = .ok (.iload_n 3, 1) := by decide +kernel
theorem d_Al_add2_13 : decode b_Al_add2 13 = .ok (.aload_n 1, 1) := by decide +kernel
theorem d_Al_add2_14 : decode b_Al_add2 14 = .ok (.aastore, 1) := by decide +kernel
theorem d_Al_add2_15 : decode b_Al_add2 15 = .ok (.aload_n 0, 1) := by decide +kernel
theorem d_Al_add2_16 : decode b_Al_add2 16 = .ok (.iload_n 3, 1) := by decide +kernel
theorem d_Al_add2_17 : decode b_Al_add2 17 = .ok (.iconst 1, 1) := by decide +kernel
theorem d_Al_add2_18 : decode b_Al_add2 18 = .ok (.iadd, 1) := by decide +kernel
theorem d_Al_add2_19 : decode b_Al_add2 19 = .ok (.putfield 48, 3) := by decide +kernel
theorem d_Al_add2_22 : decode b_Al_add2 22 = .ok (.return_, 1) := by decide +kernel
theorem d_Al_add1_0 : decode b_Al_add1 0 = .ok (.aload_n 0, 1) := by decide +kernel
theorem d_Al_add1_1 : decode b_Al_add1 1 = .ok (.dup, 1) := by decide +kernel
theorem d_Al_add1_2 : decode b_Al_add1 2 = .ok (.getfield 63, 3) := by decide +kernel
theorem d_Al_add1_5 : decode b_Al_add1 5 = .ok (.iconst 1, 1) := by decide +kernel
theorem d_Al_add1_6 : decode b_Al_add1 6 = .ok (.iadd, 1) := by decide +kernel
theorem d_Al_add1_7 : decode b_Al_add1 7 = .ok (.putfield 63, 3) := by decide +kernel
theorem d_Al_add1_10 : decode b_Al_add1 10 = .ok (.aload_n 0, 1) := by decide +kernel
theorem d_Al_add1_11 : decode b_Al_add1 11 = .ok (.aload_n 1, 1) := by decide +kernel
theorem d_Al_add1_12 : decode b_Al_add1 12 = .ok (.aload_n 0, 1) := by decide +kernel
theorem d_Al_add1_13 : decode b_Al_add1 13 = .ok (.getfield 9, 3) := by decide +kernel
theorem d_Al_add1_16 : decode b_Al_add1 16 = .ok (.aload_n 0, 1) := by decide +kernel
theorem d_Al_add1_17 : decode b_Al_add1 17 = .ok (.getfield 48, 3) := by decide +kernel
theorem d_Al_add1_20 : decode b_Al_add1 20 = .ok (.invokevirtual 131, 3) := by decide +kernel
theorem d_Al_add1_23 : decode b_Al_add1 23 = .ok (.iconst 1, 1) := by decide +kernel
theorem d_Al_add1_24 : decode b_Al_add1 24 = .ok (.ireturn, 1) := by decide +kernel
theorem d_Pc_checkIndex_0 : decode b_Pc_checkIndex 0 = .ok (.iload_n 0, 1) := by decide +kernel
theorem d_Pc_checkIndex_1 : decode b_Pc_checkIndex 1 = .ok (.ifCond .lt 8, 3) := by decide +kernel
theorem d_Pc_checkIndex_4 : decode b_Pc_checkIndex 4 = .ok (.iload_n 0, 1) := by decide +kernel
theorem d_Pc_checkIndex_5 : decode b_Pc_checkIndex 5 = .ok (.iload_n 1, 1) := by decide +kernel
theorem d_Pc_checkIndex_6 : decode b_Pc_checkIndex 6 = .ok (.if_icmp .lt 10, 3) := by decide +kernel
theorem d_Pc_checkIndex_9 : decode b_Pc_checkIndex 9 = .ok (.aload_n 2, 1) := by decide +kernel
theorem d_Pc_checkIndex_10 : decode b_Pc_checkIndex 10 = .ok (.iload_n 0, 1) := by decide +kernel
theorem d_Pc_checkIndex_11 : decode b_Pc_checkIndex 11 = .ok (.iload_n 1, 1) := by decide +kernel
theorem d_Pc_checkIndex_12 : decode b_Pc_checkIndex 12 = .ok (.invokestatic 95, 3) := by decide +kernel
theorem d_Pc_checkIndex_15 : decode b_Pc_checkIndex 15 = .ok (.athrow, 1) := by decide +kernel
theorem d_Pc_checkIndex_16 : decode b_Pc_checkIndex 16 = .ok (.iload_n 0, 1) := by decide +kernel
theorem d_Pc_checkIndex_17 : decode b_Pc_checkIndex 17 = .ok (.ireturn, 1) := by decide +kernel
theorem d_Ob_checkIndex_0 : decode b_Ob_checkIndex 0 = .ok (.iload_n 0, 1) := by decide +kernel
theorem d_Ob_checkIndex_1 : decode b_Ob_checkIndex 1 = .ok (.iload_n 1, 1) := by decide +kernel
theorem d_Ob_checkIndex_2 : decode b_Ob_checkIndex 2 = .ok (.aconst_null, 1) := by decide +kernel
theorem d_Ob_checkIndex_3 : decode b_Ob_checkIndex 3 = .ok (.invokestatic 105, 3) := by decide +kernel
theorem d_Ob_checkIndex_6 : decode b_Ob_checkIndex 6 = .ok (.ireturn, 1) := by decide +kernel
theorem d_Al_elementData_0 : decode b_Al_elementData 0 = .ok (.aload_n 0, 1) := by decide +kernel
theorem d_Al_elementData_1 : decode b_Al_elementData 1 = .ok (.getfield 9, 3) := by decide +kernel
theorem d_Al_elementData_4 : decode b_Al_elementData 4 = .ok (.iload_n 1, 1) := by decide +kernel
theorem d_Al_elementData_5 : decode b_Al_elementData 5 = .ok (.aaload, 1) := by decide +kernel
theorem d_Al_elementData_6 : decode b_Al_elementData 6 = .ok (.areturn, 1) := by decide +kernel
theorem d_Al_get_0 : decode b_Al_get 0 = .ok (.iload_n 1, 1) := by decide +kernel
theorem d_Al_get_1 : decode b_Al_get 1 = .ok (.aload_n 0, 1) := by decide +kernel
theorem d_Al_get_2 : decode b_Al_get 2 = .ok (.getfield 48, 3) := by decide +kernel
theorem d_Al_get_5 : decode b_Al_get 5 = .ok (.invokestatic 118, 3) := by decide +kernel
theorem d_Al_get_8 : decode b_Al_get 8 = .ok (.pop, 1) := by decide +kernel
theorem d_Al_get_9 : decode b_Al_get 9 = .ok (.aload_n 0, 1) := by decide +kernel
theorem d_Al_get_10 : decode b_Al_get 10 = .ok (.iload_n 1, 1) := by decide +kernel
theorem d_Al_get_11 : decode b_Al_get 11 = .ok (.invokevirtual 123, 3) := by decide +kernel
theorem d_Al_get_14 : decode b_Al_get 14 = .ok (.areturn, 1) := by decide +kernel
theorem d_Al_clear_0 : decode b_Al_clear 0 = .ok (.aload_n 0, 1) := by decide +kernel
theorem d_Al_clear_1 : decode b_Al_clear 1 = .ok (.dup, 1) := by decide +kernel
theorem d_Al_clear_2 : decode b_Al_clear 2 = .ok (.getfield 63, 3) := by decide +kernel
theorem d_Al_clear_5 : decode b_Al_clear 5 = .ok (.iconst 1, 1) := by decide +kernel
theorem d_Al_clear_6 : decode b_Al_clear 6 = .ok (.iadd, 1) := by decide +kernel
theorem d_Al_clear_7 : decode b_Al_clear 7 = .ok (.putfield 63, 3) := by decide +kernel
theorem d_Al_clear_10 : decode b_Al_clear 10 = .ok (.aload_n 0, 1) := by decide +kernel
theorem d_Al_clear_11 : decode b_Al_clear 11 = .ok (.getfield 9, 3) := by decide +kernel
theorem d_Al_clear_14 : decode b_Al_clear 14 = .ok (.astore_n 1, 1) := by decide +kernel
theorem d_Al_clear_15 : decode b_Al_clear 15 = .ok (.aload_n 0, 1) := by decide +kernel
theorem d_Al_clear_16 : decode b_Al_clear 16 = .ok (.getfield 48, 3) := by decide +kernel
theorem d_Al_clear_19 : decode b_Al_clear 19 = .ok (.istore_n 2, 1) := by decide +kernel
theorem d_Al_clear_20 : decode b_Al_clear 20 = .ok (.aload_n 0, 1) := by decide +kernel
theorem d_Al_clear_21 : decode b_Al_clear 21 = .ok (.iconst 0, 1) := by decide +kernel
theorem d_Al_clear_22 : decode b_Al_clear 22 = .ok (.dup_x1, 1) := by decide +kernel
theorem d_Al_clear_23 : decode b_Al_clear 23 = .ok (.putfield 48, 3) := by decide +kernel
theorem d_Al_clear_26 : decode b_Al_clear 26 = .ok (.istore_n 3, 1) := by decide +kernel
theorem d_Al_clear_27 : decode b_Al_clear 27 = .ok (.iload_n 3, 1) := by decide +kernel
theorem d_Al_clear_28 : decode b_Al_clear 28 = .ok (.iload_n 2, 1) := by decide +kernel
theorem d_Al_clear_29 : decode b_Al_clear 29 = .ok (.if_icmp .ge 13, 3) := by decide +kernel
theorem d_Al_clear_32 : decode b_Al_clear 32 = .ok (.aload_n 1, 1) := by decide +kernel
theorem d_Al_clear_33 : decode b_Al_clear 33 = .ok (.iload_n 3, 1) := by decide +kernel
theorem d_Al_clear_34 : decode b_Al_clear 34 = .ok (.aconst_null, 1) := by decide +kernel
theorem d_Al_clear_35 : decode b_Al_clear 35 = .ok (.aastore, 1) := by decide +kernel
theorem d_Al_clear_36 : decode b_Al_clear 36 = .ok (.iinc 3 1, 3) := by decide +kernel
theorem d_Al_clear_39 : decode b_Al_clear 39 = .ok (.goto (-12), 3) := by decide +kernel
theorem d_Al_clear_42 : decode b_Al_clear 42 = .ok (.return_, 1) := by decide +kernel
theorem d_Al_fastRemove_0 : decode b_Al_fastRemove 0 = .ok (.aload_n 0, 1) := by decide +kernel
theorem d_Al_fastRemove_1 : decode b_Al_fastRemove 1 = .ok (.dup, 1) := by decide +kernel
theorem d_Al_fastRemove_2 : decode b_Al_fastRemove 2 = .ok (.getfield 63, 3) := by decide +kernel
theorem d_Al_fastRemove_5 : decode b_Al_fastRemove 5 = .ok (.iconst 1, 1) := by decide +kernel
theorem d_Al_fastRemove_6 : decode b_Al_fastRemove 6 = .ok (.iadd, 1) := by decide +kernel
theorem d_Al_fastRemove_7 : decode b_Al_fastRemove 7 = .ok (.putfield 63, 3) := by decide +kernel
theorem d_Al_fastRemove_10 : decode b_Al_fastRemove 10 = .ok (.aload_n 0, 1) := by decide +kernel
theorem d_Al_fastRemove_11 : decode b_Al_fastRemove 11 = .ok (.getfield 48, 3) := by decide +kernel
theorem d_Al_fastRemove_14 : decode b_Al_fastRemove 14 = .ok (.iconst 1, 1) := by decide +kernel
theorem d_Al_fastRemove_15 : decode b_Al_fastRemove 15 = .ok (.isub, 1) := by decide +kernel
theorem d_Al_fastRemove_16 : decode b_Al_fastRemove 16 = .ok (.dup, 1) := by decide +kernel
theorem d_Al_fastRemove_17 : decode b_Al_fastRemove 17 = .ok (.istore_n 3, 1) := by decide +kernel
theorem d_Al_fastRemove_18 : decode b_Al_fastRemove 18 = .ok (.iload_n 2, 1) := by decide +kernel
theorem d_Al_fastRemove_19 : decode b_Al_fastRemove 19 = .ok (.if_icmp .le 15, 3) := by decide +kernel
theorem d_Al_fastRemove_22 : decode b_Al_fastRemove 22 = .ok (.aload_n 1, 1) := by decide +kernel
theorem d_Al_fastRemove_23 : decode b_Al_fastRemove 23 = .ok (.iload_n 2, 1) := by decide +kernel
theorem d_Al_fastRemove_24 : decode b_Al_fastRemove 24 = .ok (.iconst 1, 1) := by decide +kernel
theorem d_Al_fastRemove_25 : decode b_Al_fastRemove 25 = .ok (.iadd, 1) := by decide +kernel
theorem d_Al_fastRemove_26 : decode b_Al_fastRemove 26 = .ok (.aload_n 1, 1) := by decide +kernel
theorem d_Al_fastRemove_27 : decode b_Al_fastRemove 27 = .ok (.iload_n 2, 1) := by decide +kernel
theorem d_Al_fastRemove_28 : decode b_Al_fastRemove 28 = .ok (.iload_n 3, 1) := by decide +kernel
theorem d_Al_fastRemove_29 : decode b_Al_fastRemove 29 = .ok (.iload_n 2, 1) := by decide +kernel
theorem d_Al_fastRemove_30 : decode b_Al_fastRemove 30 = .ok (.isub, 1) := by decide +kernel
theorem d_Al_fastRemove_31 : decode b_Al_fastRemove 31 = .ok (.invokestatic 112, 3) := by decide +kernel
theorem d_Al_fastRemove_34 : decode b_Al_fastRemove 34 = .ok (.aload_n 1, 1) := by decide +kernel
theorem d_Al_fastRemove_35 : decode b_Al_fastRemove 35 = .ok (.aload_n 0, 1) := by decide +kernel
theorem d_Al_fastRemove_36 : decode b_Al_fastRemove 36 = .ok (.iload_n 3, 1) := by decide +kernel
theorem d_Al_fastRemove_37 : decode b_Al_fastRemove 37 = .ok (.dup_x1, 1) := by decide +kernel
theorem d_Al_fastRemove_38 : decode b_Al_fastRemove 38 = .ok (.putfield 48, 3) := by decide +kernel
theorem d_Al_fastRemove_41 : decode b_Al_fastRemove 41 = .ok (.aconst_null, 1) := by decide +kernel
theorem d_Al_fastRemove_42 : decode b_Al_fastRemove 42 = .ok (.aastore, 1) := by decide +kernel
theorem d_Al_fastRemove_43 : decode b_Al_fastRemove 43 = .ok (.return_, 1) := by decide +kernel
theorem d_Al_remove_0 : decode b_Al_remove 0 = .ok (.iload_n 1, 1) := by decide +kernel
theorem d_Al_remove_1 : decode b_Al_remove 1 = .ok (.aload_n 0, 1) := by decide +kernel
theorem d_Al_remove_2 : decode b_Al_remove 2 = .ok (.getfield 48, 3) := by decide +kernel
theorem d_Al_remove_5 : decode b_Al_remove 5 = .ok (.invokestatic 118, 3) := by decide +kernel
theorem d_Al_remove_8 : decode b_Al_remove 8 = .ok (.pop, 1) := by decide +kernel
theorem d_Al_remove_9 : decode b_Al_remove 9 = .ok (.aload_n 0, 1) := by decide +kernel
theorem d_Al_remove_10 : decode b_Al_remove 10 = .ok (.getfield 9, 3) := by decide +kernel
theorem d_Al_remove_13 : decode b_Al_remove 13 = .ok (.astore_n 2, 1) := by decide +kernel
theorem d_Al_remove_14 : decode b_Al_remove 14 = .ok (.aload_n 2, 1) := by decide +kernel
theorem d_Al_remove_15 : decode b_Al_remove 15 = .ok (.iload_n 1, 1) := by decide +kernel
theorem d_Al_remove_16 : decode b_Al_remove 16 = .ok (.aaload, 1) := by decide +kernel
theorem d_Al_remove_17 : decode b_Al_remove 17 = .ok (.astore_n 3, 1) := by decide +kernel
theorem d_Al_remove_18 : decode b_Al_remove 18 = .ok (.aload_n 0, 1) := by decide +kernel
theorem d_Al_remove_19 : decode b_Al_remove 19 = .ok (.aload_n 2, 1) := by decide +kernel
theorem d_Al_remove_20 : decode b_Al_remove 20 = .ok (.iload_n 1, 1) := by decide +kernel
theorem d_Al_remove_21 : decode b_Al_remove 21 = .ok (.invokevirtual 144, 3) := by decide +kernel
theorem d_Al_remove_24 : decode b_Al_remove 24 = .ok (.aload_n 3, 1) := by decide +kernel
theorem d_Al_remove_25 : decode b_Al_remove 25 = .ok (.areturn, 1) := by decide +kernel
theorem d_Pk_init2_0 : decode b_Pk_init2 0 = .ok (.aload_n 0, 1) := by decide +kernel
theorem d_Pk_init2_1 : decode b_Pk_init2 1 = .ok (.invokespecial 5, 3) := by decide +kernel
theorem d_Pk_init2_4 : decode b_Pk_init2 4 = .ok (.aload_n 0, 1) := by decide +kernel
theorem d_Pk_init2_5 : decode b_Pk_init2 5 = .ok (.aload_n 1, 1) := by decide +kernel
theorem d_Pk_init2_6 : decode b_Pk_init2 6 = .ok (.getfield 11, 3) := by decide +kernel
theorem d_Pk_init2_9 : decode b_Pk_init2 9 = .ok (.invokevirtual 15, 3) := by decide +kernel
theorem d_Pk_init2_12 : decode b_Pk_init2 12 = .ok (.checkcast 16, 3) := by decide +kernel
theorem d_Pk_init2_15 : decode b_Pk_init2 15 = .ok (.putfield 11, 3) := by decide +kernel
theorem d_Pk_init2_18 : decode b_Pk_init2 18 = .ok (.return_, 1) := by decide +kernel
end
section
theorem q_1_114 : (Jvm.Cond.methodLink "java/util/AbstractCollection" (1 : Nat) ({ cls := "java/lang/Object", name := "<init>", desc := "()V" } : Jvm.MethodName)) ∈ hv_ws := wm (wc_1 (List.mem_of_getElem? (i := 114) rfl)) rfl
theorem q_1_113 : (Jvm.Cond.code ({ cls := "java/util/AbstractCollection", name := "<init>", desc := "()V" } : Jvm.MethodName) prog_21_method_1_code (1 : Nat) (Option.none : Option Jvm.ClassFile.FieldType)) ∈ hv_ws := wm (wc_1 (List.mem_of_getElem? (i := 113) rfl)) rfl
theorem q_1_6 : (Jvm.Cond.initialized "java/util/AbstractCollection") ∈ hv_ws := wm (wc_1 (List.mem_of_getElem? (i := 6) rfl)) rfl
theorem q_1_111 : (Jvm.Cond.methodLink "java/util/AbstractList" (1 : Nat) ({ cls := "java/util/AbstractCollection", name := "<init>", desc := "()V" } : Jvm.MethodName)) ∈ hv_ws := wm (wc_1 (List.mem_of_getElem? (i := 111) rfl)) rfl
theorem cs_Ab_1 : hv_cs "java/util/AbstractList" 1 y_Ac_init b_Ac_init 1 none 0 := ⟨q_1_113, q_1_6, ⟨by decide, by decide⟩, by decide +kernel, Or.inl q_1_111⟩
theorem q_1_112 : (Jvm.Cond.instanceMethod ({ cls := "java/util/AbstractCollection", name := "<init>", desc := "()V" } : Jvm.MethodName)) ∈ hv_ws := wm (wc_1 (List.mem_of_getElem? (i := 112) rfl)) rfl
theorem q_1_122 : (Jvm.Cond.lays "java/util/ArrayList" "java/util/ArrayList" "elementData" "[Ljava/lang/Object;") ∈ hv_ws := wm (wc_1 (List.mem_of_getElem? (i := 122) rfl)) rfl
theorem q_1_124 : (Jvm.Cond.lays "java/util/ArrayList" "java/util/ArrayList" "size" "I") ∈ hv_ws := wm (wc_1 (List.mem_of_getElem? (i := 124) rfl)) rfl
theorem q_1_126 : (Jvm.Cond.lays "java/util/ArrayList" "java/util/AbstractList" "modCount" "I") ∈ hv_ws := wm (wc_1 (List.mem_of_getElem? (i := 126) rfl)) rfl
theorem hin7 : ∀ w ∈ u_ws R7 T7 3, w ∈ hv_ws := by
  intro w hw
  obtain ⟨k, hk, rfl⟩ := List.mem_map.mp hw
  have hk := List.mem_range.mp hk
  match k, hk with
  | 0, _ => exact q_1_122
  | 1, _ => exact q_1_124
  | 2, _ => exact q_1_126
  | n + 3, h => exact absurd h (by omega)
theorem q_1_119 : (Jvm.Cond.fieldLink "java/util/AbstractList" (7 : Nat) "java/util/AbstractList" "modCount" "I") ∈ hv_ws := wm (wc_1 (List.mem_of_getElem? (i := 119) rfl)) rfl
theorem fp_Ab_7 : hv_fp "java/util/AbstractList" 7 7 2 (.int) false := ⟨R7, T7, 3, "java/util/AbstractList", ty7, rfl, hin7, by decide, Or.inl q_1_119, Or.inl rfl, tk7, nm7, rfl, (fun h => by cases h), tk7 2 (by decide)⟩
theorem q_1_110 : (Jvm.Cond.code ({ cls := "java/util/AbstractList", name := "<init>", desc := "()V" } : Jvm.MethodName) prog_22_method_1_code (1 : Nat) (Option.none : Option Jvm.ClassFile.FieldType)) ∈ hv_ws := wm (wc_1 (List.mem_of_getElem? (i := 110) rfl)) rfl
theorem q_1_7 : (Jvm.Cond.initialized "java/util/AbstractList") ∈ hv_ws := wm (wc_1 (List.mem_of_getElem? (i := 7) rfl)) rfl
theorem q_1_108 : (Jvm.Cond.methodLink "java/util/ArrayList" (1 : Nat) ({ cls := "java/util/AbstractList", name := "<init>", desc := "()V" } : Jvm.MethodName)) ∈ hv_ws := wm (wc_1 (List.mem_of_getElem? (i := 108) rfl)) rfl
theorem cs_Al_1 : hv_cs "java/util/ArrayList" 1 y_Ab_init b_Ab_init 1 none 0 := ⟨q_1_110, q_1_7, ⟨by decide, by decide⟩, by decide +kernel, Or.inl q_1_108⟩
theorem q_1_109 : (Jvm.Cond.instanceMethod ({ cls := "java/util/AbstractList", name := "<init>", desc := "()V" } : Jvm.MethodName)) ∈ hv_ws := wm (wc_1 (List.mem_of_getElem? (i := 109) rfl)) rfl
theorem q_1_115 : (Jvm.Cond.fieldLink "java/util/ArrayList" (39 : Nat) "java/util/ArrayList" "DEFAULTCAPACITY_EMPTY_ELEMENTDATA" "[Ljava/lang/Object;") ∈ hv_ws := wm (wc_1 (List.mem_of_getElem? (i := 115) rfl)) rfl
theorem q_1_117 : (Jvm.Cond.fieldLink "java/util/ArrayList" (9 : Nat) "java/util/ArrayList" "elementData" "[Ljava/lang/Object;") ∈ hv_ws := wm (wc_1 (List.mem_of_getElem? (i := 117) rfl)) rfl
theorem fp_Al_9 : hv_fp "java/util/ArrayList" 9 7 0 (.array (.object "java/lang/Object")) false := ⟨R7, T7, 3, "java/util/ArrayList", ty7, rfl, hin7, by decide, Or.inl q_1_117, Or.inl rfl, tk7, nm7, rfl, (fun h => by cases h), tk7 0 (by decide)⟩
theorem q_1_118 : (Jvm.Cond.fieldLink "java/util/ArrayList" (48 : Nat) "java/util/ArrayList" "size" "I") ∈ hv_ws := wm (wc_1 (List.mem_of_getElem? (i := 118) rfl)) rfl
theorem fa_Al_48 : hv_fa "java/util/ArrayList" 48 7 1 := ⟨R7, T7, 3, "java/util/ArrayList", rfl, hin7, by decide, Or.inl q_1_118, Or.inl rfl⟩
theorem q_3_19 : (Jvm.Cond.constant "jdk/internal/util/ArraysSupport" (200 : Nat) (2147483639 : Int32)) ∈ hv_ws := wm (wc_3 (List.mem_of_getElem? (i := 19) rfl)) rfl
theorem q_3_16 : (Jvm.Cond.methodLink "jdk/internal/util/ArraysSupport" (194 : Nat) ({ cls := "java/lang/Math", name := "max", desc := "(II)I" } : Jvm.MethodName)) ∈ hv_ws := wm (wc_3 (List.mem_of_getElem? (i := 16) rfl)) rfl
theorem q_3_17 : (Jvm.Cond.static ({ cls := "java/lang/Math", name := "max", desc := "(II)I" } : Jvm.MethodName)) ∈ hv_ws := wm (wc_3 (List.mem_of_getElem? (i := 17) rfl)) rfl
theorem q_1_3 : (Jvm.Cond.initialized "java/lang/Math") ∈ hv_ws := wm (wc_1 (List.mem_of_getElem? (i := 3) rfl)) rfl
theorem q_3_18 : (Jvm.Cond.code ({ cls := "java/lang/Math", name := "max", desc := "(II)I" } : Jvm.MethodName) prog_16_method_65_code (2 : Nat) (Option.some Jvm.ClassFile.FieldType.int)) ∈ hv_ws := wm (wc_3 (List.mem_of_getElem? (i := 18) rfl)) rfl
theorem q_3_47 : (Jvm.Cond.classLink "java/util/Arrays" (2 : Nat) "java/lang/Object") ∈ hv_ws := wm (wc_3 (List.mem_of_getElem? (i := 47) rfl)) rfl
theorem q_3_51 : (Jvm.Cond.methodLink "java/util/Arrays" (150 : Nat) ({ cls := "java/lang/System", name := "arraycopy", desc := "(Ljava/lang/Object;ILjava/lang/Object;II)V" } : Jvm.MethodName)) ∈ hv_ws := wm (wc_3 (List.mem_of_getElem? (i := 51) rfl)) rfl
theorem q_3_48 : (Jvm.Cond.methodLink "java/util/Arrays" (304 : Nat) ({ cls := "java/lang/Math", name := "min", desc := "(II)I" } : Jvm.MethodName)) ∈ hv_ws := wm (wc_3 (List.mem_of_getElem? (i := 48) rfl)) rfl
theorem q_3_49 : (Jvm.Cond.static ({ cls := "java/lang/Math", name := "min", desc := "(II)I" } : Jvm.MethodName)) ∈ hv_ws := wm (wc_3 (List.mem_of_getElem? (i := 49) rfl)) rfl
theorem q_3_50 : (Jvm.Cond.code ({ cls := "java/lang/Math", name := "min", desc := "(II)I" } : Jvm.MethodName) prog_16_method_69_code (2 : Nat) (Option.some Jvm.ClassFile.FieldType.int)) ∈ hv_ws := wm (wc_3 (List.mem_of_getElem? (i := 50) rfl)) rfl
theorem q_3_45 : (Jvm.Cond.classLink "java/util/Arrays" (110 : Nat) "[Ljava/lang/Object;") ∈ hv_ws := wm (wc_3 (List.mem_of_getElem? (i := 45) rfl)) rfl
theorem q_3_44 : (Jvm.Cond.code ({ cls := "java/util/Arrays", name := "copyOf", desc := "([Ljava/lang/Object;ILjava/lang/Class;)[Ljava/lang/Object;" } : Jvm.MethodName) prog_24_method_120_code (4 : Nat) (Option.some (Jvm.ClassFile.FieldType.array (Jvm.ClassFile.FieldType.object "java/lang/Object")))) ∈ hv_ws := wm (wc_3 (List.mem_of_getElem? (i := 44) rfl)) rfl
theorem q_3_42 : (Jvm.Cond.methodLink "java/util/Arrays" (300 : Nat) ({ cls := "java/util/Arrays", name := "copyOf", desc := "([Ljava/lang/Object;ILjava/lang/Class;)[Ljava/lang/Object;" } : Jvm.MethodName)) ∈ hv_ws := wm (wc_3 (List.mem_of_getElem? (i := 42) rfl)) rfl
theorem cs_Ar_300 : hv_cs "java/util/Arrays" 300 y_Ar_copyOf2 b_Ar_copyOf2 4 (some (.array (.object "java/lang/Object"))) 3 := ⟨q_3_44, q_1_15, ⟨by decide, by decide⟩, by decide +kernel, Or.inl q_3_42⟩
theorem q_3_43 : (Jvm.Cond.static ({ cls := "java/util/Arrays", name := "copyOf", desc := "([Ljava/lang/Object;ILjava/lang/Class;)[Ljava/lang/Object;" } : Jvm.MethodName)) ∈ hv_ws := wm (wc_3 (List.mem_of_getElem? (i := 43) rfl)) rfl
theorem q_5_166 : (Jvm.Cond.selects "[Ljava/lang/Object;" ({ cls := "java/lang/Object", name := "getClass", desc := "()Ljava/lang/Class;" } : Jvm.MethodName) ({ cls := "java/lang/Object", name := "getClass", desc := "()Ljava/lang/Class;" } : Jvm.MethodName)) ∈ hv_ws := wm (wc_5 (List.mem_of_getElem? (i := 166) rfl)) rfl
theorem q_3_26 : (Jvm.Cond.methodLink "java/util/Arrays" (86 : Nat) ({ cls := "java/lang/Object", name := "getClass", desc := "()Ljava/lang/Class;" } : Jvm.MethodName)) ∈ hv_ws := wm (wc_3 (List.mem_of_getElem? (i := 26) rfl)) rfl
theorem q_3_27 : (Jvm.Cond.instanceMethod ({ cls := "java/lang/Object", name := "getClass", desc := "()Ljava/lang/Class;" } : Jvm.MethodName)) ∈ hv_ws := wm (wc_3 (List.mem_of_getElem? (i := 27) rfl)) rfl
theorem q_3_41 : (Jvm.Cond.native ({ cls := "java/lang/Object", name := "getClass", desc := "()Ljava/lang/Class;" } : Jvm.MethodName)) ∈ hv_ws := wm (wc_3 (List.mem_of_getElem? (i := 41) rfl)) rfl
theorem fa_Al_9 : hv_fa "java/util/ArrayList" 9 7 0 := ⟨R7, T7, 3, "java/util/ArrayList", rfl, hin7, by decide, Or.inl q_1_117, Or.inl rfl⟩
theorem q_3_15 : (Jvm.Cond.code ({ cls := "jdk/internal/util/ArraysSupport", name := "newLength", desc := "(III)I" } : Jvm.MethodName) prog_30_method_27_code (4 : Nat) (Option.some Jvm.ClassFile.FieldType.int)) ∈ hv_ws := wm (wc_3 (List.mem_of_getElem? (i := 15) rfl)) rfl
theorem q_1_21 : (Jvm.Cond.initialized "jdk/internal/util/ArraysSupport") ∈ hv_ws := wm (wc_1 (List.mem_of_getElem? (i := 21) rfl)) rfl
theorem q_3_13 : (Jvm.Cond.methodLink "java/util/ArrayList" (73 : Nat) ({ cls := "jdk/internal/util/ArraysSupport", name := "newLength", desc := "(III)I" } : Jvm.MethodName)) ∈ hv_ws := wm (wc_3 (List.mem_of_getElem? (i := 13) rfl)) rfl
theorem cs_Al_73 : hv_cs "java/util/ArrayList" 73 y_As_newLength b_As_newLength 4 (some (.int)) 3 := ⟨q_3_15, q_1_21, ⟨by decide, by decide⟩, by decide +kernel, Or.inl q_3_13⟩
theorem q_3_14 : (Jvm.Cond.static ({ cls := "jdk/internal/util/ArraysSupport", name := "newLength", desc := "(III)I" } : Jvm.MethodName)) ∈ hv_ws := wm (wc_3 (List.mem_of_getElem? (i := 14) rfl)) rfl
theorem q_3_25 : (Jvm.Cond.code ({ cls := "java/util/Arrays", name := "copyOf", desc := "([Ljava/lang/Object;I)[Ljava/lang/Object;" } : Jvm.MethodName) prog_24_method_119_code (2 : Nat) (Option.some (Jvm.ClassFile.FieldType.array (Jvm.ClassFile.FieldType.object "java/lang/Object")))) ∈ hv_ws := wm (wc_3 (List.mem_of_getElem? (i := 25) rfl)) rfl
theorem q_3_23 : (Jvm.Cond.methodLink "java/util/ArrayList" (66 : Nat) ({ cls := "java/util/Arrays", name := "copyOf", desc := "([Ljava/lang/Object;I)[Ljava/lang/Object;" } : Jvm.MethodName)) ∈ hv_ws := wm (wc_3 (List.mem_of_getElem? (i := 23) rfl)) rfl
theorem cs_Al_66 : hv_cs "java/util/ArrayList" 66 y_Ar_copyOf1 b_Ar_copyOf1 2 (some (.array (.object "java/lang/Object"))) 2 := ⟨q_3_25, q_1_15, ⟨by decide, by decide⟩, by decide +kernel, Or.inl q_3_23⟩
theorem q_3_24 : (Jvm.Cond.static ({ cls := "java/util/Arrays", name := "copyOf", desc := "([Ljava/lang/Object;I)[Ljava/lang/Object;" } : Jvm.MethodName)) ∈ hv_ws := wm (wc_3 (List.mem_of_getElem? (i := 24) rfl)) rfl
theorem q_3_53 : (Jvm.Cond.classLink "java/util/ArrayList" (7 : Nat) "java/lang/Object") ∈ hv_ws := wm (wc_3 (List.mem_of_getElem? (i := 53) rfl)) rfl
theorem q_3_52 : (Jvm.Cond.methodLink "java/util/ArrayList" (79 : Nat) ({ cls := "java/lang/Math", name := "max", desc := "(II)I" } : Jvm.MethodName)) ∈ hv_ws := wm (wc_3 (List.mem_of_getElem? (i := 52) rfl)) rfl
theorem q_3_12 : (Jvm.Cond.code ({ cls := "java/util/ArrayList", name := "grow", desc := "(I)[Ljava/lang/Object;" } : Jvm.MethodName) prog_23_method_6_code (4 : Nat) (Option.some (Jvm.ClassFile.FieldType.array (Jvm.ClassFile.FieldType.object "java/lang/Object")))) ∈ hv_ws := wm (wc_3 (List.mem_of_getElem? (i := 12) rfl)) rfl
theorem q_1_8 : (Jvm.Cond.initialized "java/util/ArrayList") ∈ hv_ws := wm (wc_1 (List.mem_of_getElem? (i := 8) rfl)) rfl
theorem q_3_9 : (Jvm.Cond.methodLink "java/util/ArrayList" (69 : Nat) ({ cls := "java/util/ArrayList", name := "grow", desc := "(I)[Ljava/lang/Object;" } : Jvm.MethodName)) ∈ hv_ws := wm (wc_3 (List.mem_of_getElem? (i := 9) rfl)) rfl
theorem cs_Al_69 : hv_cs "java/util/ArrayList" 69 y_Al_grow2 b_Al_grow2 4 (some (.array (.object "java/lang/Object"))) 1 := ⟨q_3_12, q_1_8, ⟨by decide, by decide⟩, by decide +kernel, Or.inl q_3_9⟩
theorem q_3_11 : (Jvm.Cond.instanceMethod ({ cls := "java/util/ArrayList", name := "grow", desc := "(I)[Ljava/lang/Object;" } : Jvm.MethodName)) ∈ hv_ws := wm (wc_3 (List.mem_of_getElem? (i := 11) rfl)) rfl
theorem qs_Al_grow2 : Cond.selects y_Al_grow2.cls y_Al_grow2 y_Al_grow2 ∈ hv_ws := wp (q := (y_Al_grow2, 3)) (List.mem_append_left _ (List.mem_of_getElem? (i := 7) rfl)) rfl
theorem fp_Al_48 : hv_fp "java/util/ArrayList" 48 7 1 (.int) false := ⟨R7, T7, 3, "java/util/ArrayList", ty7, rfl, hin7, by decide, Or.inl q_1_118, Or.inl rfl, tk7, nm7, rfl, (fun h => by cases h), tk7 1 (by decide)⟩
theorem q_3_8 : (Jvm.Cond.code ({ cls := "java/util/ArrayList", name := "grow", desc := "()[Ljava/lang/Object;" } : Jvm.MethodName) prog_23_method_7_code (1 : Nat) (Option.some (Jvm.ClassFile.FieldType.array (Jvm.ClassFile.FieldType.object "java/lang/Object")))) ∈ hv_ws := wm (wc_3 (List.mem_of_getElem? (i := 8) rfl)) rfl
theorem q_3_5 : (Jvm.Cond.methodLink "java/util/ArrayList" (129 : Nat) ({ cls := "java/util/ArrayList", name := "grow", desc := "()[Ljava/lang/Object;" } : Jvm.MethodName)) ∈ hv_ws := wm (wc_3 (List.mem_of_getElem? (i := 5) rfl)) rfl
theorem cs_Al_129 : hv_cs "java/util/ArrayList" 129 y_Al_grow1 b_Al_grow1 1 (some (.array (.object "java/lang/Object"))) 0 := ⟨q_3_8, q_1_8, ⟨by decide, by decide⟩, by decide +kernel, Or.inl q_3_5⟩
theorem q_3_7 : (Jvm.Cond.instanceMethod ({ cls := "java/util/ArrayList", name := "grow", desc := "()[Ljava/lang/Object;" } : Jvm.MethodName)) ∈ hv_ws := wm (wc_3 (List.mem_of_getElem? (i := 7) rfl)) rfl
theorem qs_Al_grow1 : Cond.selects y_Al_grow1.cls y_Al_grow1 y_Al_grow1 ∈ hv_ws := wp (q := (y_Al_grow1, 3)) (List.mem_append_left _ (List.mem_of_getElem? (i := 6) rfl)) rfl
theorem q_1_120 : (Jvm.Cond.fieldLink "java/util/ArrayList" (63 : Nat) "java/util/ArrayList" "modCount" "I") ∈ hv_ws := wm (wc_1 (List.mem_of_getElem? (i := 120) rfl)) rfl
theorem q_1_121 : (Jvm.Cond.sameField "java/util/ArrayList" "java/util/AbstractList" "modCount" "I") ∈ hv_ws := wm (wc_1 (List.mem_of_getElem? (i := 121) rfl)) rfl
theorem fa_Al_63 : hv_fa "java/util/ArrayList" 63 7 2 := ⟨R7, T7, 3, "java/util/ArrayList", rfl, hin7, by decide, Or.inl q_1_120, Or.inr q_1_121⟩
theorem q_3_4 : (Jvm.Cond.code ({ cls := "java/util/ArrayList", name := "add", desc := "(Ljava/lang/Object;[Ljava/lang/Object;I)V" } : Jvm.MethodName) prog_23_method_24_code (4 : Nat) (Option.none : Option Jvm.ClassFile.FieldType)) ∈ hv_ws := wm (wc_3 (List.mem_of_getElem? (i := 4) rfl)) rfl
theorem q_3_1 : (Jvm.Cond.methodLink "java/util/ArrayList" (131 : Nat) ({ cls := "java/util/ArrayList", name := "add", desc := "(Ljava/lang/Object;[Ljava/lang/Object;I)V" } : Jvm.MethodName)) ∈ hv_ws := wm (wc_3 (List.mem_of_getElem? (i := 1) rfl)) rfl
theorem cs_Al_131 : hv_cs "java/util/ArrayList" 131 y_Al_add2 b_Al_add2 4 none 3 := ⟨q_3_4, q_1_8, ⟨by decide, by decide⟩, by decide +kernel, Or.inl q_3_1⟩
theorem q_3_3 : (Jvm.Cond.instanceMethod ({ cls := "java/util/ArrayList", name := "add", desc := "(Ljava/lang/Object;[Ljava/lang/Object;I)V" } : Jvm.MethodName)) ∈ hv_ws := wm (wc_3 (List.mem_of_getElem? (i := 3) rfl)) rfl
theorem qs_Al_add2 : Cond.selects y_Al_add2.cls y_Al_add2 y_Al_add2 ∈ hv_ws := wp (q := (y_Al_add2, 3)) (List.mem_append_left _ (List.mem_of_getElem? (i := 5) rfl)) rfl
theorem fp_Al_63 : hv_fp "java/util/ArrayList" 63 7 2 (.int) false := ⟨R7, T7, 3, "java/util/ArrayList", ty7, rfl, hin7, by decide, Or.inl q_1_120, Or.inr q_1_121, tk7, nm7, rfl, (fun h => by cases h), tk7 2 (by decide)⟩
theorem q_3_81 : (Jvm.Cond.code ({ cls := "jdk/internal/util/Preconditions", name := "checkIndex", desc := "(IILjava/util/function/BiFunction;)I" } : Jvm.MethodName) prog_31_method_11_code (3 : Nat) (Option.some Jvm.ClassFile.FieldType.int)) ∈ hv_ws := wm (wc_3 (List.mem_of_getElem? (i := 81) rfl)) rfl
theorem q_1_23 : (Jvm.Cond.initialized "jdk/internal/util/Preconditions") ∈ hv_ws := wm (wc_1 (List.mem_of_getElem? (i := 23) rfl)) rfl
theorem q_3_79 : (Jvm.Cond.methodLink "java/util/Objects" (105 : Nat) ({ cls := "jdk/internal/util/Preconditions", name := "checkIndex", desc := "(IILjava/util/function/BiFunction;)I" } : Jvm.MethodName)) ∈ hv_ws := wm (wc_3 (List.mem_of_getElem? (i := 79) rfl)) rfl
theorem cs_Ob_105 : hv_cs "java/util/Objects" 105 y_Pc_checkIndex b_Pc_checkIndex 3 (some (.int)) 3 := ⟨q_3_81, q_1_23, ⟨by decide, by decide⟩, by decide +kernel, Or.inl q_3_79⟩
theorem q_3_80 : (Jvm.Cond.static ({ cls := "jdk/internal/util/Preconditions", name := "checkIndex", desc := "(IILjava/util/function/BiFunction;)I" } : Jvm.MethodName)) ∈ hv_ws := wm (wc_3 (List.mem_of_getElem? (i := 80) rfl)) rfl
theorem q_3_78 : (Jvm.Cond.code ({ cls := "java/util/Objects", name := "checkIndex", desc := "(II)I" } : Jvm.MethodName) prog_27_method_17_code (2 : Nat) (Option.some Jvm.ClassFile.FieldType.int)) ∈ hv_ws := wm (wc_3 (List.mem_of_getElem? (i := 78) rfl)) rfl
theorem q_1_22 : (Jvm.Cond.initialized "java/util/Objects") ∈ hv_ws := wm (wc_1 (List.mem_of_getElem? (i := 22) rfl)) rfl
theorem q_3_76 : (Jvm.Cond.methodLink "java/util/ArrayList" (118 : Nat) ({ cls := "java/util/Objects", name := "checkIndex", desc := "(II)I" } : Jvm.MethodName)) ∈ hv_ws := wm (wc_3 (List.mem_of_getElem? (i := 76) rfl)) rfl
theorem cs_Al_118 : hv_cs "java/util/ArrayList" 118 y_Ob_checkIndex b_Ob_checkIndex 2 (some (.int)) 2 := ⟨q_3_78, q_1_22, ⟨by decide, by decide⟩, by decide +kernel, Or.inl q_3_76⟩
theorem q_3_77 : (Jvm.Cond.static ({ cls := "java/util/Objects", name := "checkIndex", desc := "(II)I" } : Jvm.MethodName)) ∈ hv_ws := wm (wc_3 (List.mem_of_getElem? (i := 77) rfl)) rfl
theorem q_3_85 : (Jvm.Cond.code ({ cls := "java/util/ArrayList", name := "elementData", desc := "(I)Ljava/lang/Object;" } : Jvm.MethodName) prog_23_method_18_code (2 : Nat) (Option.some (Jvm.ClassFile.FieldType.object "java/lang/Object"))) ∈ hv_ws := wm (wc_3 (List.mem_of_getElem? (i := 85) rfl)) rfl
theorem q_3_82 : (Jvm.Cond.methodLink "java/util/ArrayList" (123 : Nat) ({ cls := "java/util/ArrayList", name := "elementData", desc := "(I)Ljava/lang/Object;" } : Jvm.MethodName)) ∈ hv_ws := wm (wc_3 (List.mem_of_getElem? (i := 82) rfl)) rfl
theorem cs_Al_123 : hv_cs "java/util/ArrayList" 123 y_Al_elementData b_Al_elementData 2 (some (.object "java/lang/Object")) 1 := ⟨q_3_85, q_1_8, ⟨by decide, by decide⟩, by decide +kernel, Or.inl q_3_82⟩
theorem q_3_83 : (Jvm.Cond.instanceMethod ({ cls := "java/util/ArrayList", name := "elementData", desc := "(I)Ljava/lang/Object;" } : Jvm.MethodName)) ∈ hv_ws := wm (wc_3 (List.mem_of_getElem? (i := 83) rfl)) rfl
theorem q_3_84 : (Jvm.Cond.selects "java/util/ArrayList" ({ cls := "java/util/ArrayList", name := "elementData", desc := "(I)Ljava/lang/Object;" } : Jvm.MethodName) ({ cls := "java/util/ArrayList", name := "elementData", desc := "(I)Ljava/lang/Object;" } : Jvm.MethodName)) ∈ hv_ws := wm (wc_3 (List.mem_of_getElem? (i := 84) rfl)) rfl
theorem q_3_208 : (Jvm.Cond.methodLink "java/util/ArrayList" (112 : Nat) ({ cls := "java/lang/System", name := "arraycopy", desc := "(Ljava/lang/Object;ILjava/lang/Object;II)V" } : Jvm.MethodName)) ∈ hv_ws := wm (wc_3 (List.mem_of_getElem? (i := 208) rfl)) rfl
theorem q_3_207 : (Jvm.Cond.code ({ cls := "java/util/ArrayList", name := "fastRemove", desc := "([Ljava/lang/Object;I)V" } : Jvm.MethodName) prog_23_method_39_code (4 : Nat) (Option.none : Option Jvm.ClassFile.FieldType)) ∈ hv_ws := wm (wc_3 (List.mem_of_getElem? (i := 207) rfl)) rfl
theorem q_3_204 : (Jvm.Cond.methodLink "java/util/ArrayList" (144 : Nat) ({ cls := "java/util/ArrayList", name := "fastRemove", desc := "([Ljava/lang/Object;I)V" } : Jvm.MethodName)) ∈ hv_ws := wm (wc_3 (List.mem_of_getElem? (i := 204) rfl)) rfl
theorem cs_Al_144 : hv_cs "java/util/ArrayList" 144 y_Al_fastRemove b_Al_fastRemove 4 none 2 := ⟨q_3_207, q_1_8, ⟨by decide, by decide⟩, by decide +kernel, Or.inl q_3_204⟩
theorem q_3_206 : (Jvm.Cond.instanceMethod ({ cls := "java/util/ArrayList", name := "fastRemove", desc := "([Ljava/lang/Object;I)V" } : Jvm.MethodName)) ∈ hv_ws := wm (wc_3 (List.mem_of_getElem? (i := 206) rfl)) rfl
theorem qs_Al_fastRemove : Cond.selects y_Al_fastRemove.cls y_Al_fastRemove y_Al_fastRemove ∈ hv_ws := wp (q := (y_Al_fastRemove, 3)) (List.mem_append_left _ (List.mem_of_getElem? (i := 14) rfl)) rfl
theorem q_3_145 : (Jvm.Cond.classLink "BulletinOffice$Packet" (16 : Nat) "[I") ∈ hv_ws := wm (wc_3 (List.mem_of_getElem? (i := 145) rfl)) rfl
theorem q_3_139 : (Jvm.Cond.methodLink "BulletinOffice$Packet" (15 : Nat) ({ cls := "[I", name := "clone", desc := "()Ljava/lang/Object;" } : Jvm.MethodName)) ∈ hv_ws := wm (wc_3 (List.mem_of_getElem? (i := 139) rfl)) rfl
theorem q_3_140 : (Jvm.Cond.sameMethod "[I" "java/lang/Object" "clone" "()Ljava/lang/Object;") ∈ hv_ws := wm (wc_3 (List.mem_of_getElem? (i := 140) rfl)) rfl
theorem q_3_141 : (Jvm.Cond.native ({ cls := "java/lang/Object", name := "clone", desc := "()Ljava/lang/Object;" } : Jvm.MethodName)) ∈ hv_ws := wm (wc_3 (List.mem_of_getElem? (i := 141) rfl)) rfl
theorem q_3_142 : (Jvm.Cond.instanceMethod ({ cls := "java/lang/Object", name := "clone", desc := "()Ljava/lang/Object;" } : Jvm.MethodName)) ∈ hv_ws := wm (wc_3 (List.mem_of_getElem? (i := 142) rfl)) rfl
theorem q_3_143 : (Jvm.Cond.selects "[I" ({ cls := "[I", name := "clone", desc := "()Ljava/lang/Object;" } : Jvm.MethodName) ({ cls := "java/lang/Object", name := "clone", desc := "()Ljava/lang/Object;" } : Jvm.MethodName)) ∈ hv_ws := wm (wc_3 (List.mem_of_getElem? (i := 143) rfl)) rfl
end
section
def f_Ac_init (G : ho_G) (N : Nat) (σ : ho_H) (a0 : Nat) : Option (Unit) :=
  some ()
def f_Ab_init (G : ho_G) (N : Nat) (σ : ho_H) (a0 : Nat) : Option (ho_H) :=
  (f_Ac_init G N σ a0).bind fun _ =>
  (ho_p σ a0 7 2 (.int 0)).bind fun σ1 =>
  some σ1
def f_Al_init (G : ho_G) (N : Nat) (σ : ho_H) (a0 : Nat) : Option (ho_H) :=
  (ho_cv σ (f_Ab_init G N σ a0)).bind fun σ1 =>
  (ho_p σ1 a0 7 0 (.ref (gA G 4))).bind fun σ2 =>
  some σ2
def f_Al_size (G : ho_G) (N : Nat) (σ : ho_H) (a0 : Nat) : Option (Int32) :=
  (ho_gI σ a0 7 1).bind fun v1 =>
  some v1
def f_As_newLength_j21 (G : ho_G) (N : Nat) (σ : ho_H) (x0 : Int32) (x1 : Int32) : Option (Int32) :=
  none
def f_As_newLength (G : ho_G) (N : Nat) (σ : ho_H) (x0 : Int32) (x1 : Int32) (x2 : Int32) : Option (Int32) :=
  if (x0 + (ho_mx x1 x2)) ≤ 0 then
  f_As_newLength_j21 G N σ x0 x1
  else
  if 2147483639 < (x0 + (ho_mx x1 x2)) then
  f_As_newLength_j21 G N σ x0 x1
  else
  some (x0 + (ho_mx x1 x2))
def f_Ar_copyOf2_j24 (G : ho_G) (N : Nat) (σ : ho_H) (a0 : Nat) (x1 : Int32) (c0 : Nat) : Option (ho_H × Nat) :=
  (ho_lnQ G σ a0 5).bind fun v3 =>
  (ho_cpR G σ a0 0 c0 0 (ho_mn v3 x1)).bind fun σ4 =>
  some (σ4, c0)
def f_Ar_copyOf2 (G : ho_G) (N : Nat) (σ : ho_H) (a0 : Nat) (x1 : Int32) (a2 : Nat) : Option (ho_H × Nat) :=
  if ¬ a2 = (gA G 5) then
  none
  else
  bd2 (ho_nwR G σ 5 x1) fun σ1 b2 =>
  f_Ar_copyOf2_j24 G N σ1 a0 x1 b2
def f_Ar_copyOf1 (G : ho_G) (N : Nat) (σ : ho_H) (a0 : Nat) (x1 : Int32) : Option (ho_H × Nat) :=
  (ho_aR G σ a0 5).bind fun _ =>
  bd2 (ho_ck σ (f_Ar_copyOf2 G N σ a0 x1 (gA G 5))) fun σ2 b3 =>
  some (σ2, b3)
def f_Al_grow2_j20 (G : ho_G) (N : Nat) (σ : ho_H) (a0 : Nat) (x1 : Int32) (x2 : Int32) : Option (ho_H × Nat) :=
  (f_As_newLength G N σ x2 (x1 - x2) (ho_sr x2 1)).bind fun v3 =>
  (ho_gR σ a0 7 0).bind fun b4 =>
  bd2 (ho_ck σ (f_Ar_copyOf1 G N σ b4 v3)) fun σ5 b6 =>
  (ho_p σ5 a0 7 0 (.ref b6)).bind fun σ7 =>
  some (σ7, b6)
def f_Al_grow2 (G : ho_G) (N : Nat) (σ : ho_H) (a0 : Nat) (x1 : Int32) : Option (ho_H × Nat) :=
  (ho_gR σ a0 7 0).bind fun b1 =>
  (ho_lnQ G σ b1 5).bind fun v2 =>
  if 0 < v2 then
  f_Al_grow2_j20 G N σ a0 x1 v2
  else
  (ho_gR σ a0 7 0).bind fun b8 =>
  if b8 = (gA G 4) then
  bd2 (ho_nwR G σ 5 (ho_mx 10 x1)) fun σ9 b10 =>
  (ho_p σ9 a0 7 0 (.ref b10)).bind fun σ11 =>
  some (σ11, b10)
  else
  f_Al_grow2_j20 G N σ a0 x1 v2
def f_Al_grow1 (G : ho_G) (N : Nat) (σ : ho_H) (a0 : Nat) : Option (ho_H × Nat) :=
  (ho_gI σ a0 7 1).bind fun v1 =>
  (ho_f σ a0 7).bind fun _ =>
  bd2 (ho_ck σ (f_Al_grow2 G N σ a0 (v1 + 1))) fun σ3 b4 =>
  some (σ3, b4)
def f_Al_add2_j11 (G : ho_G) (N : Nat) (σ : ho_H) (a0 : Nat) (a1 : Nat) (a2 : Nat) (x3 : Int32) : Option (ho_H) :=
  (ho_f σ a1 3).bind fun _ =>
  (ho_stR G σ a2 5 x3 (some a1)).bind fun σ2 =>
  (ho_p σ2 a0 7 1 (.int (x3 + 1))).bind fun σ4 =>
  some σ4
def f_Al_add2 (G : ho_G) (N : Nat) (σ : ho_H) (a0 : Nat) (a1 : Nat) (a2 : Nat) (x3 : Int32) : Option (ho_H) :=
  (ho_lnQ G σ a2 5).bind fun v1 =>
  if ¬ x3 = v1 then
  f_Al_add2_j11 G N σ a0 a1 a2 x3
  else
  (ho_f σ a0 7).bind fun _ =>
  bd2 (ho_ck σ (f_Al_grow1 G N σ a0)) fun σ6 b7 =>
  f_Al_add2_j11 G N σ6 a0 a1 b7 x3
def f_Al_add1 (G : ho_G) (N : Nat) (σ : ho_H) (a0 : Nat) (a1 : Nat) : Option (ho_H × Int32) :=
  (ho_gI σ a0 7 2).bind fun v1 =>
  (ho_p σ a0 7 2 (.int (v1 + 1))).bind fun σ2 =>
  (ho_gR σ2 a0 7 0).bind fun b3 =>
  (ho_gI σ2 a0 7 1).bind fun v4 =>
  (ho_f σ2 a0 7).bind fun _ =>
  (ho_cv σ2 (f_Al_add2 G N σ2 a0 a1 b3 v4)).bind fun σ6 =>
  some (σ6, 1)
def f_Pc_checkIndex_j9 (G : ho_G) (N : Nat) (σ : ho_H) (x0 : Int32) (x1 : Int32) : Option (Int32) :=
  none
def f_Pc_checkIndex (G : ho_G) (N : Nat) (σ : ho_H) (x0 : Int32) (x1 : Int32) : Option (Int32) :=
  if x0 < 0 then
  f_Pc_checkIndex_j9 G N σ x0 x1
  else
  if x0 < x1 then
  some x0
  else
  f_Pc_checkIndex_j9 G N σ x0 x1
def f_Ob_checkIndex (G : ho_G) (N : Nat) (σ : ho_H) (x0 : Int32) (x1 : Int32) : Option (Int32) :=
  (f_Pc_checkIndex G N σ x0 x1).bind fun v1 =>
  some v1
def f_Al_elementData (G : ho_G) (N : Nat) (σ : ho_H) (a0 : Nat) (x1 : Int32) : Option (Nat) :=
  (ho_gR σ a0 7 0).bind fun b1 =>
  (ho_ldR G σ b1 5 x1).bind fun b2 =>
  some b2
def f_Al_get (G : ho_G) (N : Nat) (σ : ho_H) (a0 : Nat) (x1 : Int32) : Option (Nat) :=
  (ho_gI σ a0 7 1).bind fun v1 =>
  (f_Ob_checkIndex G N σ x1 v1).bind fun v2 =>
  (ho_f σ a0 7).bind fun _ =>
  (f_Al_elementData G N σ a0 x1).bind fun b4 =>
  some b4
def f_Al_clear_l27 (G : ho_G) (N : Nat) (a1 : Nat) (x2 : Int32) : ho_H × Int32 → Option ((ho_H × Int32) ⊕ (ho_H)) := fun (σ, x3) =>
  if x2 ≤ x3 then
  some (.inr σ)
  else
  (ho_stR G σ a1 5 x3 none).bind fun σ6 =>
  some (.inl (σ6, x3 + 1))
def f_Al_clear (G : ho_G) (N : Nat) (σ : ho_H) (a0 : Nat) : Option (ho_H) :=
  (ho_gI σ a0 7 2).bind fun v1 =>
  (ho_p σ a0 7 2 (.int (v1 + 1))).bind fun σ2 =>
  (ho_gR σ2 a0 7 0).bind fun b3 =>
  (ho_gI σ2 a0 7 1).bind fun v4 =>
  (ho_p σ2 a0 7 1 (.int 0)).bind fun σ5 =>
  (ho_it (f_Al_clear_l27 G N b3 v4) N (σ5, 0)).bind fun σ7 =>
  some σ7
def f_Al_fastRemove_j34 (G : ho_G) (N : Nat) (σ : ho_H) (a0 : Nat) (a1 : Nat) (x3 : Int32) : Option (ho_H) :=
  (ho_p σ a0 7 1 (.int x3)).bind fun σ4 =>
  (ho_stR G σ4 a1 5 x3 none).bind fun σ5 =>
  some σ5
def f_Al_fastRemove (G : ho_G) (N : Nat) (σ : ho_H) (a0 : Nat) (a1 : Nat) (x2 : Int32) : Option (ho_H) :=
  (ho_gI σ a0 7 2).bind fun v1 =>
  (ho_p σ a0 7 2 (.int (v1 + 1))).bind fun σ2 =>
  (ho_gI σ2 a0 7 1).bind fun v3 =>
  if (v3 - 1) ≤ x2 then
  f_Al_fastRemove_j34 G N σ2 a0 a1 (v3 - 1)
  else
  (ho_cpR G σ2 a1 (x2 + 1) a1 x2 ((v3 - 1) - x2)).bind fun σ6 =>
  f_Al_fastRemove_j34 G N σ6 a0 a1 (v3 - 1)
def f_Al_remove (G : ho_G) (N : Nat) (σ : ho_H) (a0 : Nat) (x1 : Int32) : Option (ho_H × Nat) :=
  (ho_gI σ a0 7 1).bind fun v1 =>
  (f_Ob_checkIndex G N σ x1 v1).bind fun v2 =>
  (ho_gR σ a0 7 0).bind fun b3 =>
  (ho_ldR G σ b3 5 x1).bind fun b4 =>
  (ho_f σ a0 7).bind fun _ =>
  (ho_cv σ (f_Al_fastRemove G N σ a0 b3 x1)).bind fun σ6 =>
  some (σ6, b4)
def f_Pk_init2 (G : ho_G) (N : Nat) (σ : ho_H) (a0 : Nat) (a1 : Nat) : Option (ho_H) :=
  (ho_gR σ a1 3 0).bind fun b1 =>
  bd2 (ho_clI G σ b1) fun σ2 b3 =>
  (ho_aI G σ2 b3 0).bind fun _ =>
  (ho_p σ2 a0 3 0 (.ref b3)).bind fun σ5 =>
  some σ5
end
section
set_option maxHeartbeats 4000000 in
set_option maxRecDepth 100000 in
theorem c_Ac_init (l : Launch) (G : ho_G) (N : Nat) (σ : ho_H) (a0 : Nat)  (hf : f_Ac_init G N σ a0 = some ()) : hv_C l G y_Ac_init (Cond.code y_Ac_init b_Ac_init 1 none :: hv_ws) 1 20 [.ref a0] σ σ (none) := by
  refine hv_met [some (.ref a0)] (plainFor_of_name (by decide +kernel)) (by intro v hv; simp at hv; rcases hv with rfl <;> rfl) (Nat.le_of_ble_eq_true rfl) rfl ?_
  intro k X hkl hkG E
  subst hkl
  subst hkG
  unfold f_Ac_init at hf
  refine hv_aload_n (pn := 1) X d_Ac_init_0 ?_
  refine hv_oinit (pn := 4) X d_Ac_init_1 q_1_114 q_1_30 q_1_31 (by decide) (by decide) (Nat.le_of_ble_eq_true rfl) ?_
  cases hf
  exact hv_vret X d_Ac_init_4 E
set_option maxHeartbeats 4000000 in
set_option maxRecDepth 100000 in
theorem c_Ab_init (l : Launch) (G : ho_G) (N : Nat) (σ : ho_H) (a0 : Nat) (σ' : ho_H) (hf : f_Ab_init G N σ a0 = some σ') : hv_C l G y_Ab_init (Cond.code y_Ab_init b_Ab_init 1 none :: hv_ws) 2 40 [.ref a0] σ σ' (none) := by
  refine hv_met [some (.ref a0)] (plainFor_of_name (by decide +kernel)) (by intro v hv; simp at hv; rcases hv with rfl <;> rfl) (Nat.le_of_ble_eq_true rfl) rfl ?_
  intro k X hkl hkG E
  subst hkl
  subst hkG
  unfold f_Ab_init at hf
  refine hv_aload_n (pn := 1) X d_Ab_init_0 ?_
  obtain ⟨_, h2, hf⟩ := bd_E hf
  refine hv_callI (pn := 4) X d_Ab_init_1 (c_Ac_init _ _ N σ a0 h2) cs_Ab_1 rfl q_1_112 (by decide) (by decide) ⟨Nat.le_refl _, Nat.le_refl _⟩ (Nat.le_of_ble_eq_true rfl) ?_
  refine hv_aload_n (pn := 5) X d_Ab_init_4 ?_
  refine hv_iconst (pn := 6) (v := 0) X d_Ab_init_5 ?_
  obtain ⟨σ1, hσ1, hf⟩ := bd_E hf
  refine hv_put (pn := 9) X d_Ab_init_6 fp_Ab_7 hσ1 ?_
  cases hf
  exact hv_vret X d_Ab_init_9 E
set_option maxHeartbeats 4000000 in
set_option maxRecDepth 100000 in
theorem c_Al_init (l : Launch) (G : ho_G) (N : Nat) (σ : ho_H) (a0 : Nat) (σ' : ho_H) (hf : f_Al_init G N σ a0 = some σ') : hv_C l G y_Al_init (Cond.code y_Al_init b_Al_init 1 none :: hv_ws) 3 60 [.ref a0] σ σ' (none) := by
  refine hv_met [some (.ref a0)] (plainFor_of_name (by decide +kernel)) (by intro v hv; simp at hv; rcases hv with rfl <;> rfl) (Nat.le_of_ble_eq_true rfl) rfl ?_
  intro k X hkl hkG E
  subst hkl
  subst hkG
  unfold f_Al_init at hf
  refine hv_aload_n (pn := 1) X d_Al_init_0 ?_
  obtain ⟨σ1, hσ1, hf⟩ := bd_E hf
  obtain ⟨hσ1, mσ1⟩ := ho_cv_E hσ1
  refine hv_callI (pn := 4) X d_Al_init_1 (c_Ab_init _ _ N σ a0 _ hσ1) cs_Al_1 rfl q_1_109 (by decide) (by decide) mσ1 (Nat.le_of_ble_eq_true rfl) ?_
  refine hv_aload_n (pn := 5) X d_Al_init_4 ?_
  refine hv_gets (pn := 8) X d_Al_init_5 (i := 4) rfl q_1_115 (Or.inl rfl) ?_
  obtain ⟨σ2, hσ2, hf⟩ := bd_E hf
  refine hv_put (pn := 11) X d_Al_init_8 fp_Al_9 hσ2 ?_
  cases hf
  exact hv_vret X d_Al_init_11 E
set_option maxHeartbeats 4000000 in
set_option maxRecDepth 100000 in
theorem c_Al_size (l : Launch) (G : ho_G) (N : Nat) (σ : ho_H) (a0 : Nat) (r : Int32) (hf : f_Al_size G N σ a0 = some r) : hv_C l G y_Al_size (Cond.code y_Al_size b_Al_size 1 (some (.int)) :: hv_ws) 0 0 [.ref a0] σ σ (some (.int r)) := by
  refine hv_met [some (.ref a0)] (plainFor_of_name (by decide +kernel)) (by intro v hv; simp at hv; rcases hv with rfl <;> rfl) (Nat.le_of_ble_eq_true rfl) rfl ?_
  intro k X hkl hkG E
  subst hkl
  subst hkG
  unfold f_Al_size at hf
  refine hv_aload_n (pn := 1) X d_Al_size_0 ?_
  obtain ⟨v1, hv1, hf⟩ := bd_E hf
  refine hv_getI (pn := 4) X d_Al_size_1 fa_Al_48 hv1 ?_
  cases hf
  exact hv_iret X d_Al_size_4 E
set_option maxHeartbeats 4000000 in
set_option maxRecDepth 100000 in
theorem w_As_newLength_j21 {k : mk_T} (X : hv_X k b_As_newLength y_As_newLength.cls 4 2 82 (some (.int)) y_As_newLength.name) (N : Nat) (σ : ho_H) (x0 : Int32) (x1 : Int32)  (r : Int32) (hf : f_As_newLength_j21 k.2.1 N σ x0 x1 = some r) (E : hv_end k σ (some (.int r))) : hv_V k σ 21 [some (.int x0), some (.int x1), none, none] [] := by
  unfold f_As_newLength_j21 at hf
  cases hf
set_option maxHeartbeats 4000000 in
set_option maxRecDepth 100000 in
theorem c_As_newLength (l : Launch) (G : ho_G) (N : Nat) (σ : ho_H) (x0 : Int32) (x1 : Int32) (x2 : Int32) (r : Int32) (hf : f_As_newLength G N σ x0 x1 x2 = some r) : hv_C l G y_As_newLength (Cond.code y_As_newLength b_As_newLength 4 (some (.int)) :: hv_ws) 2 82 [.int x0, .int x1, .int x2] σ σ (some (.int r)) := by
  refine hv_met [some (.int x0), some (.int x1), some (.int x2), none] (plainFor_of_name (by decide +kernel)) (by intro v hv; simp at hv; rcases hv with rfl | rfl | rfl <;> rfl) (Nat.le_of_ble_eq_true rfl) rfl ?_
  intro k X hkl hkG E
  subst hkl
  subst hkG
  unfold f_As_newLength at hf
  refine hv_iload_n (pn := 1) X d_As_newLength_0 ?_
  refine hv_iload_n (pn := 2) X d_As_newLength_1 ?_
  refine hv_iload_n (pn := 3) X d_As_newLength_2 ?_
  refine hv_max (pn := 6) X d_As_newLength_3 q_3_16 q_3_17 q_1_3 q_3_18 (by decide) (by decide) (Nat.le_of_ble_eq_true rfl) ?_
  refine hv_iadd (pn := 7) X d_As_newLength_6 ?_
  refine hv_istore_n (pn := 8) (i := 3) (lo' := [some (.int x0), some (.int x1), some (.int x2), some (.int (x0 + (ho_mx x1 x2)))]) X d_As_newLength_7 ?_
  refine hv_iconst (pn := 9) (v := 0) X d_As_newLength_8 ?_
  refine hv_iload_n (pn := 10) X d_As_newLength_9 ?_
  refine hv_icmp_ge (pn := 13) (tgt := 21) X d_As_newLength_10 (by decide) (fun hc => ?_) (fun hc => ?_)
  · rw [if_pos hc] at hf
    refine hv_drop (i := 2) (lo' := [some (.int x0), some (.int x1), none, some (.int (x0 + (ho_mx x1 x2)))]) ?_
    refine hv_drop (i := 3) (lo' := [some (.int x0), some (.int x1), none, none]) ?_
    exact w_As_newLength_j21 X N σ x0 x1  _ hf E
  · rw [if_neg hc] at hf
    refine hv_iload_n (pn := 14) X d_As_newLength_13 ?_
    refine hv_ldc (pn := 16) X d_As_newLength_14 q_3_19 ?_
    refine hv_icmp_gt (pn := 19) (tgt := 21) X d_As_newLength_16 (by decide) (fun hc => ?_) (fun hc => ?_)
    · rw [if_pos hc] at hf
      refine hv_drop (i := 2) (lo' := [some (.int x0), some (.int x1), none, some (.int (x0 + (ho_mx x1 x2)))]) ?_
      refine hv_drop (i := 3) (lo' := [some (.int x0), some (.int x1), none, none]) ?_
      exact w_As_newLength_j21 X N σ x0 x1  _ hf E
    · rw [if_neg hc] at hf
      refine hv_iload_n (pn := 20) X d_As_newLength_19 ?_
      cases hf
      exact hv_iret X d_As_newLength_20 E
set_option maxHeartbeats 4000000 in
set_option maxRecDepth 100000 in
theorem w_Ar_copyOf2_j24 {k : mk_T} (X : hv_X k b_Ar_copyOf2 y_Ar_copyOf2.cls 4 1 60 (some (.array (.object "java/lang/Object"))) y_Ar_copyOf2.name) (N : Nat) (σ : ho_H) (a0 : Nat) (x1 : Int32) (c0 : Nat)  (r : ho_H × Nat) (hf : f_Ar_copyOf2_j24 k.2.1 N σ a0 x1 c0 = some r) (E : hv_end k r.1 (some (.ref r.2))) : hv_V k σ 24 [some (.ref a0), some (.int x1), none, none] [.ref c0] := by
  unfold f_Ar_copyOf2_j24 at hf
  refine hv_astore_n (pn := 25) (i := 3) (lo' := [some (.ref a0), some (.int x1), none, some (.ref c0)]) X d_Ar_copyOf2_24 ?_
  refine hv_aload_n (pn := 26) X d_Ar_copyOf2_25 ?_
  refine hv_iconst (pn := 27) (v := 0) X d_Ar_copyOf2_26 ?_
  refine hv_aload_n (pn := 28) X d_Ar_copyOf2_27 ?_
  refine hv_iconst (pn := 29) (v := 0) X d_Ar_copyOf2_28 ?_
  refine hv_aload_n (pn := 30) X d_Ar_copyOf2_29 ?_
  obtain ⟨v3, hv3, hf⟩ := bd_E hf
  refine hv_alenQ (pn := 31) X d_Ar_copyOf2_30 rfl hv3 ?_
  refine hv_iload_n (pn := 32) X d_Ar_copyOf2_31 ?_
  refine hv_min (pn := 35) X d_Ar_copyOf2_32 q_3_48 q_3_49 q_1_3 q_3_50 (by decide) (by decide) (Nat.le_of_ble_eq_true rfl) ?_
  obtain ⟨σ4, hσ4, hf⟩ := bd_E hf
  refine hv_cpR (pn := 38) X d_Ar_copyOf2_35 q_3_51 q_2_78 q_2_77 q_1_16 (List.mem_of_getElem? (i := 12) rfl) hσ4 (by decide) (by decide +kernel) (Nat.le_of_ble_eq_true rfl) ?_
  refine hv_aload_n (pn := 39) X d_Ar_copyOf2_38 ?_
  cases hf
  exact hv_aret X rfl (by first | exact Or.inl ⟨_, rfl⟩ | exact Or.inr ⟨_, rfl⟩) d_Ar_copyOf2_39 E
set_option maxHeartbeats 4000000 in
set_option maxRecDepth 100000 in
theorem c_Ar_copyOf2 (l : Launch) (G : ho_G) (N : Nat) (σ : ho_H) (a0 : Nat) (x1 : Int32) (a2 : Nat) (σ' : ho_H) (r : Nat) (hf : f_Ar_copyOf2 G N σ a0 x1 a2 = some (σ', r)) : hv_C l G y_Ar_copyOf2 (Cond.code y_Ar_copyOf2 b_Ar_copyOf2 4 (some (.array (.object "java/lang/Object"))) :: hv_ws) 1 60 [.ref a0, .int x1, .ref a2] σ σ' (some (.ref r)) := by
  refine hv_met [some (.ref a0), some (.int x1), some (.ref a2), none] (plainFor_of_name (by decide +kernel)) (by intro v hv; simp at hv; rcases hv with rfl | rfl | rfl <;> rfl) (Nat.le_of_ble_eq_true rfl) rfl ?_
  intro k X hkl hkG E
  subst hkl
  subst hkG
  unfold f_Ar_copyOf2 at hf
  refine hv_aload_n (pn := 1) X d_Ar_copyOf2_0 ?_
  refine hv_ldcM (pn := 3) X d_Ar_copyOf2_1 q_3_45 ?_
  refine hv_acmp_ne (pn := 6) (tgt := 13) X d_Ar_copyOf2_3 (by decide) (fun hc => ?_) (fun hc => ?_)
  · rw [if_pos hc] at hf
    cases hf
  · rw [if_neg hc] at hf
    refine hv_iload_n (pn := 7) X d_Ar_copyOf2_6 ?_
    obtain ⟨σ1, b2, hσ1, hf⟩ := bd2_E hf
    refine hv_anew (pn := 10) X d_Ar_copyOf2_7 q_3_47 (List.mem_of_getElem? (i := 2) rfl) rfl hσ1 ?_
    refine hv_goto (tgt := 24) X d_Ar_copyOf2_10 (by decide) ?_
    refine hv_drop (i := 2) (lo' := [some (.ref a0), some (.int x1), none, none]) ?_
    exact w_Ar_copyOf2_j24 X N σ1 a0 x1 b2  _ hf E
set_option maxHeartbeats 4000000 in
set_option maxRecDepth 100000 in
theorem c_Ar_copyOf1 (l : Launch) (G : ho_G) (N : Nat) (σ : ho_H) (a0 : Nat) (x1 : Int32) (σ' : ho_H) (r : Nat) (hf : f_Ar_copyOf1 G N σ a0 x1 = some (σ', r)) : hv_C l G y_Ar_copyOf1 (Cond.code y_Ar_copyOf1 b_Ar_copyOf1 2 (some (.array (.object "java/lang/Object"))) :: hv_ws) 2 83 [.ref a0, .int x1] σ σ' (some (.ref r)) := by
  refine hv_met [some (.ref a0), some (.int x1)] (plainFor_of_name (by decide +kernel)) (by intro v hv; simp at hv; rcases hv with rfl | rfl <;> rfl) (Nat.le_of_ble_eq_true rfl) rfl ?_
  intro k X hkl hkG E
  subst hkl
  subst hkG
  unfold f_Ar_copyOf1 at hf
  refine hv_aload_n (pn := 1) X d_Ar_copyOf1_0 ?_
  refine hv_iload_n (pn := 2) X d_Ar_copyOf1_1 ?_
  refine hv_aload_n (pn := 3) X d_Ar_copyOf1_2 ?_
  obtain ⟨_, hr1, hf⟩ := bd_E hf
  refine hv_getC (pn := 6) X d_Ar_copyOf1_3 q_3_26 (List.mem_of_getElem? (i := 6) rfl) q_5_166 q_3_27 q_3_41 hr1 (by decide) (by decide) (Nat.le_of_ble_eq_true rfl) ?_
  obtain ⟨σ2, b3, hσ2, hf⟩ := bd2_E hf
  obtain ⟨hσ2, mσ2⟩ := ho_ck_E hσ2
  refine hv_callS (pn := 9) X d_Ar_copyOf1_6 (c_Ar_copyOf2 _ _ N σ a0 x1 (gA k.2.1 5) _ _ hσ2) cs_Ar_300 q_3_43 (by decide) (by decide) mσ2 (Nat.le_of_ble_eq_true rfl) ?_
  cases hf
  exact hv_aret X rfl (by first | exact Or.inl ⟨_, rfl⟩ | exact Or.inr ⟨_, rfl⟩) d_Ar_copyOf1_9 E
set_option maxHeartbeats 4000000 in
set_option maxRecDepth 100000 in
theorem w_Al_grow2_j20 {k : mk_T} (X : hv_X k b_Al_grow2 y_Al_grow2.cls 4 3 105 (some (.array (.object "java/lang/Object"))) y_Al_grow2.name) (N : Nat) (σ : ho_H) (a0 : Nat) (x1 : Int32) (x2 : Int32)  (r : ho_H × Nat) (hf : f_Al_grow2_j20 k.2.1 N σ a0 x1 x2 = some r) (E : hv_end k r.1 (some (.ref r.2))) : hv_V k σ 20 [some (.ref a0), some (.int x1), some (.int x2), none] [] := by
  unfold f_Al_grow2_j20 at hf
  refine hv_iload_n (pn := 21) X d_Al_grow2_20 ?_
  refine hv_iload_n (pn := 22) X d_Al_grow2_21 ?_
  refine hv_iload_n (pn := 23) X d_Al_grow2_22 ?_
  refine hv_isub (pn := 24) X d_Al_grow2_23 ?_
  refine hv_iload_n (pn := 25) X d_Al_grow2_24 ?_
  refine hv_iconst (pn := 26) (v := 1) X d_Al_grow2_25 ?_
  refine hv_ishr (pn := 27) X d_Al_grow2_26 ?_
  obtain ⟨v3, hv3, hf⟩ := bd_E hf
  refine hv_callS (pn := 30) X d_Al_grow2_27 (c_As_newLength _ _ N σ x2 (x1 - x2) (ho_sr x2 1) _ hv3) cs_Al_73 q_3_14 (by decide) (by decide) ⟨Nat.le_refl _, Nat.le_refl _⟩ (Nat.le_of_ble_eq_true rfl) ?_
  refine hv_istore_n (pn := 31) (i := 3) (lo' := [some (.ref a0), some (.int x1), some (.int x2), some (.int v3)]) X d_Al_grow2_30 ?_
  refine hv_aload_n (pn := 32) X d_Al_grow2_31 ?_
  refine hv_aload_n (pn := 33) X d_Al_grow2_32 ?_
  obtain ⟨b4, hb4, hf⟩ := bd_E hf
  refine hv_getR (pn := 36) X d_Al_grow2_33 fa_Al_9 hb4 ?_
  refine hv_iload_n (pn := 37) X d_Al_grow2_36 ?_
  obtain ⟨σ5, b6, hσ5, hf⟩ := bd2_E hf
  obtain ⟨hσ5, mσ5⟩ := ho_ck_E hσ5
  refine hv_callS (pn := 40) X d_Al_grow2_37 (c_Ar_copyOf1 _ _ N σ b4 v3 _ _ hσ5) cs_Al_66 q_3_24 (by decide) (by decide) mσ5 (Nat.le_of_ble_eq_true rfl) ?_
  refine hv_dup_x1 (pn := 41) X d_Al_grow2_40 rfl rfl ?_
  obtain ⟨σ7, hσ7, hf⟩ := bd_E hf
  refine hv_put (pn := 44) X d_Al_grow2_41 fp_Al_9 hσ7 ?_
  cases hf
  exact hv_aret X rfl (by first | exact Or.inl ⟨_, rfl⟩ | exact Or.inr ⟨_, rfl⟩) d_Al_grow2_44 E
set_option maxHeartbeats 4000000 in
set_option maxRecDepth 100000 in
theorem c_Al_grow2 (l : Launch) (G : ho_G) (N : Nat) (σ : ho_H) (a0 : Nat) (x1 : Int32) (σ' : ho_H) (r : Nat) (hf : f_Al_grow2 G N σ a0 x1 = some (σ', r)) : hv_C l G y_Al_grow2 (Cond.code y_Al_grow2 b_Al_grow2 4 (some (.array (.object "java/lang/Object"))) :: hv_ws) 3 105 [.ref a0, .int x1] σ σ' (some (.ref r)) := by
  refine hv_met [some (.ref a0), some (.int x1), none, none] (plainFor_of_name (by decide +kernel)) (by intro v hv; simp at hv; rcases hv with rfl | rfl <;> rfl) (Nat.le_of_ble_eq_true rfl) rfl ?_
  intro k X hkl hkG E
  subst hkl
  subst hkG
  unfold f_Al_grow2 at hf
  refine hv_aload_n (pn := 1) X d_Al_grow2_0 ?_
  obtain ⟨b1, hb1, hf⟩ := bd_E hf
  refine hv_getR (pn := 4) X d_Al_grow2_1 fa_Al_9 hb1 ?_
  obtain ⟨v2, hv2, hf⟩ := bd_E hf
  refine hv_alenQ (pn := 5) X d_Al_grow2_4 rfl hv2 ?_
  refine hv_istore_n (pn := 6) (i := 2) (lo' := [some (.ref a0), some (.int x1), some (.int v2), none]) X d_Al_grow2_5 ?_
  refine hv_iload_n (pn := 7) X d_Al_grow2_6 ?_
  refine hv_if_gt (pn := 10) (tgt := 20) X d_Al_grow2_7 (by decide) (fun hc => ?_) (fun hc => ?_)
  · rw [if_pos hc] at hf
    exact w_Al_grow2_j20 X N σ a0 x1 v2  _ hf E
  · rw [if_neg hc] at hf
    refine hv_aload_n (pn := 11) X d_Al_grow2_10 ?_
    obtain ⟨b8, hb8, hf⟩ := bd_E hf
    refine hv_getR (pn := 14) X d_Al_grow2_11 fa_Al_9 hb8 ?_
    refine hv_gets (pn := 17) X d_Al_grow2_14 (i := 4) rfl q_1_115 (Or.inl rfl) ?_
    refine hv_acmp_eq (pn := 20) (tgt := 45) X d_Al_grow2_17 (by decide) (fun hc => ?_) (fun hc => ?_)
    · rw [if_pos hc] at hf
      refine hv_aload_n (pn := 46) X d_Al_grow2_45 ?_
      refine hv_bipush (pn := 48) (v := 10) X d_Al_grow2_46 ?_
      refine hv_iload_n (pn := 49) X d_Al_grow2_48 ?_
      refine hv_max (pn := 52) X d_Al_grow2_49 q_3_52 q_3_17 q_1_3 q_3_18 (by decide) (by decide) (Nat.le_of_ble_eq_true rfl) ?_
      obtain ⟨σ9, b10, hσ9, hf⟩ := bd2_E hf
      refine hv_anew (pn := 55) X d_Al_grow2_52 q_3_53 (List.mem_of_getElem? (i := 2) rfl) rfl hσ9 ?_
      refine hv_dup_x1 (pn := 56) X d_Al_grow2_55 rfl rfl ?_
      obtain ⟨σ11, hσ11, hf⟩ := bd_E hf
      refine hv_put (pn := 59) X d_Al_grow2_56 fp_Al_9 hσ11 ?_
      cases hf
      exact hv_aret X rfl (by first | exact Or.inl ⟨_, rfl⟩ | exact Or.inr ⟨_, rfl⟩) d_Al_grow2_59 E
    · rw [if_neg hc] at hf
      exact w_Al_grow2_j20 X N σ a0 x1 v2  _ hf E
set_option maxHeartbeats 4000000 in
set_option maxRecDepth 100000 in
theorem c_Al_grow1 (l : Launch) (G : ho_G) (N : Nat) (σ : ho_H) (a0 : Nat) (σ' : ho_H) (r : Nat) (hf : f_Al_grow1 G N σ a0 = some (σ', r)) : hv_C l G y_Al_grow1 (Cond.code y_Al_grow1 b_Al_grow1 1 (some (.array (.object "java/lang/Object"))) :: hv_ws) 4 128 [.ref a0] σ σ' (some (.ref r)) := by
  refine hv_met [some (.ref a0)] (plainFor_of_name (by decide +kernel)) (by intro v hv; simp at hv; rcases hv with rfl <;> rfl) (Nat.le_of_ble_eq_true rfl) rfl ?_
  intro k X hkl hkG E
  subst hkl
  subst hkG
  unfold f_Al_grow1 at hf
  refine hv_aload_n (pn := 1) X d_Al_grow1_0 ?_
  refine hv_aload_n (pn := 2) X d_Al_grow1_1 ?_
  obtain ⟨v1, hv1, hf⟩ := bd_E hf
  refine hv_getI (pn := 5) X d_Al_grow1_2 fa_Al_48 hv1 ?_
  refine hv_iconst (pn := 6) (v := 1) X d_Al_grow1_5 ?_
  refine hv_iadd (pn := 7) X d_Al_grow1_6 ?_
  obtain ⟨_, hr2, hf⟩ := bd_E hf
  obtain ⟨σ3, b4, hσ3, hf⟩ := bd2_E hf
  obtain ⟨hσ3, mσ3⟩ := ho_ck_E hσ3
  refine hv_callV (pn := 10) X d_Al_grow1_7 (c_Al_grow2 _ _ N σ a0 (v1 + 1) _ _ hσ3) cs_Al_69 q_3_11 rfl qs_Al_grow2 hr2 (by decide) (by decide) mσ3 (Nat.le_of_ble_eq_true rfl) ?_
  cases hf
  exact hv_aret X rfl (by first | exact Or.inl ⟨_, rfl⟩ | exact Or.inr ⟨_, rfl⟩) d_Al_grow1_10 E
set_option maxHeartbeats 4000000 in
set_option maxRecDepth 100000 in
theorem w_Al_add2_j11 {k : mk_T} (X : hv_X k b_Al_add2 y_Al_add2.cls 4 5 148 none y_Al_add2.name) (N : Nat) (σ : ho_H) (a0 : Nat) (a1 : Nat) (a2 : Nat) (x3 : Int32)  (r : ho_H) (hf : f_Al_add2_j11 k.2.1 N σ a0 a1 a2 x3 = some r) (E : hv_end k r none) : hv_V k σ 11 [some (.ref a0), some (.ref a1), some (.ref a2), some (.int x3)] [] := by
  unfold f_Al_add2_j11 at hf
  refine hv_aload_n (pn := 12) X d_Al_add2_11 ?_
  refine hv_iload_n (pn := 13) X d_Al_add2_12 ?_
  refine hv_aload_n (pn := 14) X d_Al_add2_13 ?_
  obtain ⟨_, hr3, hf⟩ := bd_E hf
  obtain ⟨σ2, hσ2, hf⟩ := bd_E hf
  refine hv_aast (pn := 15) X d_Al_add2_14 rfl rfl (Or.inr (List.mem_of_getElem? (i := 12) rfl)) hr3 hσ2 ?_
  refine hv_aload_n (pn := 16) X d_Al_add2_15 ?_
  refine hv_iload_n (pn := 17) X d_Al_add2_16 ?_
  refine hv_iconst (pn := 18) (v := 1) X d_Al_add2_17 ?_
  refine hv_iadd (pn := 19) X d_Al_add2_18 ?_
  obtain ⟨σ4, hσ4, hf⟩ := bd_E hf
  refine hv_put (pn := 22) X d_Al_add2_19 fp_Al_48 hσ4 ?_
  cases hf
  exact hv_vret X d_Al_add2_22 E
set_option maxHeartbeats 4000000 in
set_option maxRecDepth 100000 in
theorem c_Al_add2 (l : Launch) (G : ho_G) (N : Nat) (σ : ho_H) (a0 : Nat) (a1 : Nat) (a2 : Nat) (x3 : Int32) (σ' : ho_H) (hf : f_Al_add2 G N σ a0 a1 a2 x3 = some σ') : hv_C l G y_Al_add2 (Cond.code y_Al_add2 b_Al_add2 4 none :: hv_ws) 5 148 [.ref a0, .ref a1, .ref a2, .int x3] σ σ' (none) := by
  refine hv_met [some (.ref a0), some (.ref a1), some (.ref a2), some (.int x3)] (plainFor_of_name (by decide +kernel)) (by intro v hv; simp at hv; rcases hv with rfl | rfl | rfl | rfl <;> rfl) (Nat.le_of_ble_eq_true rfl) rfl ?_
  intro k X hkl hkG E
  subst hkl
  subst hkG
  unfold f_Al_add2 at hf
  refine hv_iload_n (pn := 1) X d_Al_add2_0 ?_
  refine hv_aload_n (pn := 2) X d_Al_add2_1 ?_
  obtain ⟨v1, hv1, hf⟩ := bd_E hf
  refine hv_alenQ (pn := 3) X d_Al_add2_2 rfl hv1 ?_
  refine hv_icmp_ne (pn := 6) (tgt := 11) X d_Al_add2_3 (by decide) (fun hc => ?_) (fun hc => ?_)
  · rw [if_pos hc] at hf
    exact w_Al_add2_j11 X N σ a0 a1 a2 x3  _ hf E
  · rw [if_neg hc] at hf
    refine hv_aload_n (pn := 7) X d_Al_add2_6 ?_
    obtain ⟨_, hr5, hf⟩ := bd_E hf
    obtain ⟨σ6, b7, hσ6, hf⟩ := bd2_E hf
    obtain ⟨hσ6, mσ6⟩ := ho_ck_E hσ6
    refine hv_callV (pn := 10) X d_Al_add2_7 (c_Al_grow1 _ _ N σ a0 _ _ hσ6) cs_Al_129 q_3_7 rfl qs_Al_grow1 hr5 (by decide) (by decide) mσ6 (Nat.le_of_ble_eq_true rfl) ?_
    refine hv_astore_n (pn := 11) (i := 2) (lo' := [some (.ref a0), some (.ref a1), some (.ref b7), some (.int x3)]) X d_Al_add2_10 ?_
    exact w_Al_add2_j11 X N σ6 a0 a1 b7 x3  _ hf E
set_option maxHeartbeats 4000000 in
set_option maxRecDepth 100000 in
theorem c_Al_add1 (l : Launch) (G : ho_G) (N : Nat) (σ : ho_H) (a0 : Nat) (a1 : Nat) (σ' : ho_H) (r : Int32) (hf : f_Al_add1 G N σ a0 a1 = some (σ', r)) : hv_C l G y_Al_add1 (Cond.code y_Al_add1 b_Al_add1 2 (some (.boolean)) :: hv_ws) 6 171 [.ref a0, .ref a1] σ σ' (some (.int r)) := by
  refine hv_met [some (.ref a0), some (.ref a1)] (plainFor_of_name (by decide +kernel)) (by intro v hv; simp at hv; rcases hv with rfl | rfl <;> rfl) (Nat.le_of_ble_eq_true rfl) rfl ?_
  intro k X hkl hkG E
  subst hkl
  subst hkG
  unfold f_Al_add1 at hf
  refine hv_aload_n (pn := 1) X d_Al_add1_0 ?_
  refine hv_dup (pn := 2) X d_Al_add1_1 rfl ?_
  obtain ⟨v1, hv1, hf⟩ := bd_E hf
  refine hv_getI (pn := 5) X d_Al_add1_2 fa_Al_63 hv1 ?_
  refine hv_iconst (pn := 6) (v := 1) X d_Al_add1_5 ?_
  refine hv_iadd (pn := 7) X d_Al_add1_6 ?_
  obtain ⟨σ2, hσ2, hf⟩ := bd_E hf
  refine hv_put (pn := 10) X d_Al_add1_7 fp_Al_63 hσ2 ?_
  refine hv_aload_n (pn := 11) X d_Al_add1_10 ?_
  refine hv_aload_n (pn := 12) X d_Al_add1_11 ?_
  refine hv_aload_n (pn := 13) X d_Al_add1_12 ?_
  obtain ⟨b3, hb3, hf⟩ := bd_E hf
  refine hv_getR (pn := 16) X d_Al_add1_13 fa_Al_9 hb3 ?_
  refine hv_aload_n (pn := 17) X d_Al_add1_16 ?_
  obtain ⟨v4, hv4, hf⟩ := bd_E hf
  refine hv_getI (pn := 20) X d_Al_add1_17 fa_Al_48 hv4 ?_
  obtain ⟨_, hr5, hf⟩ := bd_E hf
  obtain ⟨σ6, hσ6, hf⟩ := bd_E hf
  obtain ⟨hσ6, mσ6⟩ := ho_cv_E hσ6
  refine hv_callV (pn := 23) X d_Al_add1_20 (c_Al_add2 _ _ N σ2 a0 a1 b3 v4 _ hσ6) cs_Al_131 q_3_3 rfl qs_Al_add2 hr5 (by decide) (by decide) mσ6 (Nat.le_of_ble_eq_true rfl) ?_
  refine hv_iconst (pn := 24) (v := 1) X d_Al_add1_23 ?_
  cases hf
  exact hv_zret X d_Al_add1_24 (by decide) E
set_option maxHeartbeats 4000000 in
set_option maxRecDepth 100000 in
theorem w_Pc_checkIndex_j9 {k : mk_T} (X : hv_X k b_Pc_checkIndex y_Pc_checkIndex.cls 3 1 60 (some (.int)) y_Pc_checkIndex.name) (N : Nat) (σ : ho_H) (x0 : Int32) (x1 : Int32)  (r : Int32) (hf : f_Pc_checkIndex_j9 k.2.1 N σ x0 x1 = some r) (E : hv_end k σ (some (.int r))) : hv_V k σ 9 [some (.int x0), some (.int x1), some (.null)] [] := by
  unfold f_Pc_checkIndex_j9 at hf
  cases hf
set_option maxHeartbeats 4000000 in
set_option maxRecDepth 100000 in
theorem c_Pc_checkIndex (l : Launch) (G : ho_G) (N : Nat) (σ : ho_H) (x0 : Int32) (x1 : Int32) (r : Int32) (hf : f_Pc_checkIndex G N σ x0 x1 = some r) : hv_C l G y_Pc_checkIndex (Cond.code y_Pc_checkIndex b_Pc_checkIndex 3 (some (.int)) :: hv_ws) 1 60 [.int x0, .int x1, .null] σ σ (some (.int r)) := by
  refine hv_met [some (.int x0), some (.int x1), some (.null)] (plainFor_of_name (by decide +kernel)) (by intro v hv; simp at hv; rcases hv with rfl | rfl | rfl <;> rfl) (Nat.le_of_ble_eq_true rfl) rfl ?_
  intro k X hkl hkG E
  subst hkl
  subst hkG
  unfold f_Pc_checkIndex at hf
  refine hv_iload_n (pn := 1) X d_Pc_checkIndex_0 ?_
  refine hv_if_lt (pn := 4) (tgt := 9) X d_Pc_checkIndex_1 (by decide) (fun hc => ?_) (fun hc => ?_)
  · rw [if_pos hc] at hf
    exact w_Pc_checkIndex_j9 X N σ x0 x1  _ hf E
  · rw [if_neg hc] at hf
    refine hv_iload_n (pn := 5) X d_Pc_checkIndex_4 ?_
    refine hv_iload_n (pn := 6) X d_Pc_checkIndex_5 ?_
    refine hv_icmp_lt (pn := 9) (tgt := 16) X d_Pc_checkIndex_6 (by decide) (fun hc => ?_) (fun hc => ?_)
    · rw [if_pos hc] at hf
      refine hv_iload_n (pn := 17) X d_Pc_checkIndex_16 ?_
      cases hf
      exact hv_iret X d_Pc_checkIndex_17 E
    · rw [if_neg hc] at hf
      exact w_Pc_checkIndex_j9 X N σ x0 x1  _ hf E
set_option maxHeartbeats 4000000 in
set_option maxRecDepth 100000 in
theorem c_Ob_checkIndex (l : Launch) (G : ho_G) (N : Nat) (σ : ho_H) (x0 : Int32) (x1 : Int32) (r : Int32) (hf : f_Ob_checkIndex G N σ x0 x1 = some r) : hv_C l G y_Ob_checkIndex (Cond.code y_Ob_checkIndex b_Ob_checkIndex 2 (some (.int)) :: hv_ws) 2 82 [.int x0, .int x1] σ σ (some (.int r)) := by
  refine hv_met [some (.int x0), some (.int x1)] (plainFor_of_name (by decide +kernel)) (by intro v hv; simp at hv; rcases hv with rfl | rfl <;> rfl) (Nat.le_of_ble_eq_true rfl) rfl ?_
  intro k X hkl hkG E
  subst hkl
  subst hkG
  unfold f_Ob_checkIndex at hf
  refine hv_iload_n (pn := 1) X d_Ob_checkIndex_0 ?_
  refine hv_iload_n (pn := 2) X d_Ob_checkIndex_1 ?_
  refine hv_null (pn := 3) X d_Ob_checkIndex_2 ?_
  obtain ⟨v1, hv1, hf⟩ := bd_E hf
  refine hv_callS (pn := 6) X d_Ob_checkIndex_3 (c_Pc_checkIndex _ _ N σ x0 x1 _ hv1) cs_Ob_105 q_3_80 (by decide) (by decide) ⟨Nat.le_refl _, Nat.le_refl _⟩ (Nat.le_of_ble_eq_true rfl) ?_
  cases hf
  exact hv_iret X d_Ob_checkIndex_6 E
set_option maxHeartbeats 4000000 in
set_option maxRecDepth 100000 in
theorem c_Al_elementData (l : Launch) (G : ho_G) (N : Nat) (σ : ho_H) (a0 : Nat) (x1 : Int32) (r : Nat) (hf : f_Al_elementData G N σ a0 x1 = some r) : hv_C l G y_Al_elementData (Cond.code y_Al_elementData b_Al_elementData 2 (some (.object "java/lang/Object")) :: hv_ws) 0 0 [.ref a0, .int x1] σ σ (some (.ref r)) := by
  refine hv_met [some (.ref a0), some (.int x1)] (plainFor_of_name (by decide +kernel)) (by intro v hv; simp at hv; rcases hv with rfl | rfl <;> rfl) (Nat.le_of_ble_eq_true rfl) rfl ?_
  intro k X hkl hkG E
  subst hkl
  subst hkG
  unfold f_Al_elementData at hf
  refine hv_aload_n (pn := 1) X d_Al_elementData_0 ?_
  obtain ⟨b1, hb1, hf⟩ := bd_E hf
  refine hv_getR (pn := 4) X d_Al_elementData_1 fa_Al_9 hb1 ?_
  refine hv_iload_n (pn := 5) X d_Al_elementData_4 ?_
  obtain ⟨b2, hb2, hf⟩ := bd_E hf
  refine hv_aald (pn := 6) X d_Al_elementData_5 rfl hb2 ?_
  cases hf
  exact hv_aret X rfl (by first | exact Or.inl ⟨_, rfl⟩ | exact Or.inr ⟨_, rfl⟩) d_Al_elementData_6 E
set_option maxHeartbeats 4000000 in
set_option maxRecDepth 100000 in
theorem c_Al_get (l : Launch) (G : ho_G) (N : Nat) (σ : ho_H) (a0 : Nat) (x1 : Int32) (r : Nat) (hf : f_Al_get G N σ a0 x1 = some r) : hv_C l G y_Al_get (Cond.code y_Al_get b_Al_get 2 (some (.object "java/lang/Object")) :: hv_ws) 3 103 [.ref a0, .int x1] σ σ (some (.ref r)) := by
  refine hv_met [some (.ref a0), some (.int x1)] (plainFor_of_name (by decide +kernel)) (by intro v hv; simp at hv; rcases hv with rfl | rfl <;> rfl) (Nat.le_of_ble_eq_true rfl) rfl ?_
  intro k X hkl hkG E
  subst hkl
  subst hkG
  unfold f_Al_get at hf
  refine hv_iload_n (pn := 1) X d_Al_get_0 ?_
  refine hv_aload_n (pn := 2) X d_Al_get_1 ?_
  obtain ⟨v1, hv1, hf⟩ := bd_E hf
  refine hv_getI (pn := 5) X d_Al_get_2 fa_Al_48 hv1 ?_
  obtain ⟨v2, hv2, hf⟩ := bd_E hf
  refine hv_callS (pn := 8) X d_Al_get_5 (c_Ob_checkIndex _ _ N σ x1 v1 _ hv2) cs_Al_118 q_3_77 (by decide) (by decide) ⟨Nat.le_refl _, Nat.le_refl _⟩ (Nat.le_of_ble_eq_true rfl) ?_
  refine hv_pop (pn := 9) X d_Al_get_8 rfl ?_
  refine hv_aload_n (pn := 10) X d_Al_get_9 ?_
  refine hv_iload_n (pn := 11) X d_Al_get_10 ?_
  obtain ⟨_, hr3, hf⟩ := bd_E hf
  obtain ⟨b4, hb4, hf⟩ := bd_E hf
  refine hv_callV (pn := 14) X d_Al_get_11 (c_Al_elementData _ _ N σ a0 x1 _ hb4) cs_Al_123 q_3_83 rfl q_3_84 hr3 (by decide) (by decide) ⟨Nat.le_refl _, Nat.le_refl _⟩ (Nat.le_of_ble_eq_true rfl) ?_
  cases hf
  exact hv_aret X rfl (by first | exact Or.inl ⟨_, rfl⟩ | exact Or.inr ⟨_, rfl⟩) d_Al_get_14 E
set_option maxHeartbeats 4000000 in
set_option maxRecDepth 100000 in
theorem w_Al_clear_l27 {k : mk_T} (X : hv_X k b_Al_clear y_Al_clear.cls 4 0 0 none y_Al_clear.name) (N : Nat) (a1 : Nat) (x2 : Int32) (σ : ho_H) (x3 : Int32) (r : (ho_H × Int32) ⊕ (ho_H)) (hf : f_Al_clear_l27 k.2.1 N a1 x2 (σ, x3) = some r) (E : sm (fun s => hv_V k s.1 27 [none, some (.ref a1), some (.int x2), some (.int s.2)] []) (fun s => hv_V k s 42 [none, none, none, none] []) r) : hv_V k σ 27 [none, some (.ref a1), some (.int x2), some (.int x3)] [] := by
  unfold f_Al_clear_l27 at hf
  try dsimp only at hf
  refine hv_iload_n (pn := 28) X d_Al_clear_27 ?_
  refine hv_iload_n (pn := 29) X d_Al_clear_28 ?_
  refine hv_icmp_ge (pn := 32) (tgt := 42) X d_Al_clear_29 (by decide) (fun hc => ?_) (fun hc => ?_)
  · rw [if_pos hc] at hf
    refine hv_drop (i := 1) (lo' := [none, none, some (.int x2), some (.int x3)]) ?_
    refine hv_drop (i := 2) (lo' := [none, none, none, some (.int x3)]) ?_
    refine hv_drop (i := 3) (lo' := [none, none, none, none]) ?_
    cases hf
    exact E
  · rw [if_neg hc] at hf
    refine hv_aload_n (pn := 33) X d_Al_clear_32 ?_
    refine hv_iload_n (pn := 34) X d_Al_clear_33 ?_
    refine hv_null (pn := 35) X d_Al_clear_34 ?_
    obtain ⟨σ6, hσ6, hf⟩ := bd_E hf
    refine hv_aastN (pn := 36) X d_Al_clear_35 rfl hσ6 ?_
    refine hv_iinc (pn := 39) (i := 3) (v := x3 + 1) (lo' := [none, some (.ref a1), some (.int x2), some (.int (x3 + 1))]) X d_Al_clear_36 ?_
    refine hv_goto (tgt := 27) X d_Al_clear_39 (by decide) ?_
    cases hf
    exact E
set_option maxHeartbeats 4000000 in
set_option maxRecDepth 100000 in
theorem c_Al_clear (l : Launch) (G : ho_G) (N : Nat) (σ : ho_H) (a0 : Nat) (σ' : ho_H) (hf : f_Al_clear G N σ a0 = some σ') : hv_C l G y_Al_clear (Cond.code y_Al_clear b_Al_clear 4 none :: hv_ws) 0 0 [.ref a0] σ σ' (none) := by
  refine hv_met [some (.ref a0), none, none, none] (plainFor_of_name (by decide +kernel)) (by intro v hv; simp at hv; rcases hv with rfl <;> rfl) (Nat.le_of_ble_eq_true rfl) rfl ?_
  intro k X hkl hkG E
  subst hkl
  subst hkG
  unfold f_Al_clear at hf
  refine hv_aload_n (pn := 1) X d_Al_clear_0 ?_
  refine hv_dup (pn := 2) X d_Al_clear_1 rfl ?_
  obtain ⟨v1, hv1, hf⟩ := bd_E hf
  refine hv_getI (pn := 5) X d_Al_clear_2 fa_Al_63 hv1 ?_
  refine hv_iconst (pn := 6) (v := 1) X d_Al_clear_5 ?_
  refine hv_iadd (pn := 7) X d_Al_clear_6 ?_
  obtain ⟨σ2, hσ2, hf⟩ := bd_E hf
  refine hv_put (pn := 10) X d_Al_clear_7 fp_Al_63 hσ2 ?_
  refine hv_aload_n (pn := 11) X d_Al_clear_10 ?_
  obtain ⟨b3, hb3, hf⟩ := bd_E hf
  refine hv_getR (pn := 14) X d_Al_clear_11 fa_Al_9 hb3 ?_
  refine hv_astore_n (pn := 15) (i := 1) (lo' := [some (.ref a0), some (.ref b3), none, none]) X d_Al_clear_14 ?_
  refine hv_aload_n (pn := 16) X d_Al_clear_15 ?_
  obtain ⟨v4, hv4, hf⟩ := bd_E hf
  refine hv_getI (pn := 19) X d_Al_clear_16 fa_Al_48 hv4 ?_
  refine hv_istore_n (pn := 20) (i := 2) (lo' := [some (.ref a0), some (.ref b3), some (.int v4), none]) X d_Al_clear_19 ?_
  refine hv_aload_n (pn := 21) X d_Al_clear_20 ?_
  refine hv_iconst (pn := 22) (v := 0) X d_Al_clear_21 ?_
  refine hv_dup_x1 (pn := 23) X d_Al_clear_22 rfl rfl ?_
  obtain ⟨σ5, hσ5, hf⟩ := bd_E hf
  refine hv_put (pn := 26) X d_Al_clear_23 fp_Al_48 hσ5 ?_
  refine hv_istore_n (pn := 27) (i := 3) (lo' := [some (.ref a0), some (.ref b3), some (.int v4), some (.int 0)]) X d_Al_clear_26 ?_
  refine hv_drop (i := 0) (lo' := [none, some (.ref b3), some (.int v4), some (.int 0)]) ?_
  obtain ⟨σ7, he9, hf⟩ := bd_E hf
  refine hv_loop (P := fun s => hv_V k s.1 27 [none, some (.ref b3), some (.int v4), some (.int s.2)] []) (Z := fun s => hv_V k s 42 [none, none, none, none] []) (fun s r h1 h2 => by obtain ⟨σ, x3⟩ := s; exact w_Al_clear_l27 X N b3 v4 σ x3 r h1 h2) N (σ5, 0) _ he9 ?_
  try dsimp only at hf ⊢
  cases hf
  exact hv_vret X d_Al_clear_42 E
set_option maxHeartbeats 4000000 in
set_option maxRecDepth 100000 in
theorem w_Al_fastRemove_j34 {k : mk_T} (X : hv_X k b_Al_fastRemove y_Al_fastRemove.cls 4 1 60 none y_Al_fastRemove.name) (N : Nat) (σ : ho_H) (a0 : Nat) (a1 : Nat) (x3 : Int32)  (r : ho_H) (hf : f_Al_fastRemove_j34 k.2.1 N σ a0 a1 x3 = some r) (E : hv_end k r none) : hv_V k σ 34 [some (.ref a0), some (.ref a1), none, some (.int x3)] [] := by
  unfold f_Al_fastRemove_j34 at hf
  refine hv_aload_n (pn := 35) X d_Al_fastRemove_34 ?_
  refine hv_aload_n (pn := 36) X d_Al_fastRemove_35 ?_
  refine hv_iload_n (pn := 37) X d_Al_fastRemove_36 ?_
  refine hv_dup_x1 (pn := 38) X d_Al_fastRemove_37 rfl rfl ?_
  obtain ⟨σ4, hσ4, hf⟩ := bd_E hf
  refine hv_put (pn := 41) X d_Al_fastRemove_38 fp_Al_48 hσ4 ?_
  refine hv_null (pn := 42) X d_Al_fastRemove_41 ?_
  obtain ⟨σ5, hσ5, hf⟩ := bd_E hf
  refine hv_aastN (pn := 43) X d_Al_fastRemove_42 rfl hσ5 ?_
  cases hf
  exact hv_vret X d_Al_fastRemove_43 E
set_option maxHeartbeats 4000000 in
set_option maxRecDepth 100000 in
theorem c_Al_fastRemove (l : Launch) (G : ho_G) (N : Nat) (σ : ho_H) (a0 : Nat) (a1 : Nat) (x2 : Int32) (σ' : ho_H) (hf : f_Al_fastRemove G N σ a0 a1 x2 = some σ') : hv_C l G y_Al_fastRemove (Cond.code y_Al_fastRemove b_Al_fastRemove 4 none :: hv_ws) 1 60 [.ref a0, .ref a1, .int x2] σ σ' (none) := by
  refine hv_met [some (.ref a0), some (.ref a1), some (.int x2), none] (plainFor_of_name (by decide +kernel)) (by intro v hv; simp at hv; rcases hv with rfl | rfl | rfl <;> rfl) (Nat.le_of_ble_eq_true rfl) rfl ?_
  intro k X hkl hkG E
  subst hkl
  subst hkG
  unfold f_Al_fastRemove at hf
  refine hv_aload_n (pn := 1) X d_Al_fastRemove_0 ?_
  refine hv_dup (pn := 2) X d_Al_fastRemove_1 rfl ?_
  obtain ⟨v1, hv1, hf⟩ := bd_E hf
  refine hv_getI (pn := 5) X d_Al_fastRemove_2 fa_Al_63 hv1 ?_
  refine hv_iconst (pn := 6) (v := 1) X d_Al_fastRemove_5 ?_
  refine hv_iadd (pn := 7) X d_Al_fastRemove_6 ?_
  obtain ⟨σ2, hσ2, hf⟩ := bd_E hf
  refine hv_put (pn := 10) X d_Al_fastRemove_7 fp_Al_63 hσ2 ?_
  refine hv_aload_n (pn := 11) X d_Al_fastRemove_10 ?_
  obtain ⟨v3, hv3, hf⟩ := bd_E hf
  refine hv_getI (pn := 14) X d_Al_fastRemove_11 fa_Al_48 hv3 ?_
  refine hv_iconst (pn := 15) (v := 1) X d_Al_fastRemove_14 ?_
  refine hv_isub (pn := 16) X d_Al_fastRemove_15 ?_
  refine hv_dup (pn := 17) X d_Al_fastRemove_16 rfl ?_
  refine hv_istore_n (pn := 18) (i := 3) (lo' := [some (.ref a0), some (.ref a1), some (.int x2), some (.int (v3 - 1))]) X d_Al_fastRemove_17 ?_
  refine hv_iload_n (pn := 19) X d_Al_fastRemove_18 ?_
  refine hv_icmp_le (pn := 22) (tgt := 34) X d_Al_fastRemove_19 (by decide) (fun hc => ?_) (fun hc => ?_)
  · rw [if_pos hc] at hf
    refine hv_drop (i := 2) (lo' := [some (.ref a0), some (.ref a1), none, some (.int (v3 - 1))]) ?_
    exact w_Al_fastRemove_j34 X N σ2 a0 a1 (v3 - 1)  _ hf E
  · rw [if_neg hc] at hf
    refine hv_aload_n (pn := 23) X d_Al_fastRemove_22 ?_
    refine hv_iload_n (pn := 24) X d_Al_fastRemove_23 ?_
    refine hv_iconst (pn := 25) (v := 1) X d_Al_fastRemove_24 ?_
    refine hv_iadd (pn := 26) X d_Al_fastRemove_25 ?_
    refine hv_aload_n (pn := 27) X d_Al_fastRemove_26 ?_
    refine hv_iload_n (pn := 28) X d_Al_fastRemove_27 ?_
    refine hv_iload_n (pn := 29) X d_Al_fastRemove_28 ?_
    refine hv_iload_n (pn := 30) X d_Al_fastRemove_29 ?_
    refine hv_isub (pn := 31) X d_Al_fastRemove_30 ?_
    obtain ⟨σ6, hσ6, hf⟩ := bd_E hf
    refine hv_cpR (pn := 34) X d_Al_fastRemove_31 q_3_208 q_2_78 q_2_77 q_1_16 (List.mem_of_getElem? (i := 12) rfl) hσ6 (by decide) (by decide +kernel) (Nat.le_of_ble_eq_true rfl) ?_
    refine hv_drop (i := 2) (lo' := [some (.ref a0), some (.ref a1), none, some (.int (v3 - 1))]) ?_
    exact w_Al_fastRemove_j34 X N σ6 a0 a1 (v3 - 1)  _ hf E
set_option maxHeartbeats 4000000 in
set_option maxRecDepth 100000 in
theorem c_Al_remove (l : Launch) (G : ho_G) (N : Nat) (σ : ho_H) (a0 : Nat) (x1 : Int32) (σ' : ho_H) (r : Nat) (hf : f_Al_remove G N σ a0 x1 = some (σ', r)) : hv_C l G y_Al_remove (Cond.code y_Al_remove b_Al_remove 4 (some (.object "java/lang/Object")) :: hv_ws) 3 103 [.ref a0, .int x1] σ σ' (some (.ref r)) := by
  refine hv_met [some (.ref a0), some (.int x1), none, none] (plainFor_of_name (by decide +kernel)) (by intro v hv; simp at hv; rcases hv with rfl | rfl <;> rfl) (Nat.le_of_ble_eq_true rfl) rfl ?_
  intro k X hkl hkG E
  subst hkl
  subst hkG
  unfold f_Al_remove at hf
  refine hv_iload_n (pn := 1) X d_Al_remove_0 ?_
  refine hv_aload_n (pn := 2) X d_Al_remove_1 ?_
  obtain ⟨v1, hv1, hf⟩ := bd_E hf
  refine hv_getI (pn := 5) X d_Al_remove_2 fa_Al_48 hv1 ?_
  obtain ⟨v2, hv2, hf⟩ := bd_E hf
  refine hv_callS (pn := 8) X d_Al_remove_5 (c_Ob_checkIndex _ _ N σ x1 v1 _ hv2) cs_Al_118 q_3_77 (by decide) (by decide) ⟨Nat.le_refl _, Nat.le_refl _⟩ (Nat.le_of_ble_eq_true rfl) ?_
  refine hv_pop (pn := 9) X d_Al_remove_8 rfl ?_
  refine hv_aload_n (pn := 10) X d_Al_remove_9 ?_
  obtain ⟨b3, hb3, hf⟩ := bd_E hf
  refine hv_getR (pn := 13) X d_Al_remove_10 fa_Al_9 hb3 ?_
  refine hv_astore_n (pn := 14) (i := 2) (lo' := [some (.ref a0), some (.int x1), some (.ref b3), none]) X d_Al_remove_13 ?_
  refine hv_aload_n (pn := 15) X d_Al_remove_14 ?_
  refine hv_iload_n (pn := 16) X d_Al_remove_15 ?_
  obtain ⟨b4, hb4, hf⟩ := bd_E hf
  refine hv_aald (pn := 17) X d_Al_remove_16 rfl hb4 ?_
  refine hv_astore_n (pn := 18) (i := 3) (lo' := [some (.ref a0), some (.int x1), some (.ref b3), some (.ref b4)]) X d_Al_remove_17 ?_
  refine hv_aload_n (pn := 19) X d_Al_remove_18 ?_
  refine hv_aload_n (pn := 20) X d_Al_remove_19 ?_
  refine hv_iload_n (pn := 21) X d_Al_remove_20 ?_
  obtain ⟨_, hr5, hf⟩ := bd_E hf
  obtain ⟨σ6, hσ6, hf⟩ := bd_E hf
  obtain ⟨hσ6, mσ6⟩ := ho_cv_E hσ6
  refine hv_callV (pn := 24) X d_Al_remove_21 (c_Al_fastRemove _ _ N σ a0 b3 x1 _ hσ6) cs_Al_144 q_3_206 rfl qs_Al_fastRemove hr5 (by decide) (by decide) mσ6 (Nat.le_of_ble_eq_true rfl) ?_
  refine hv_aload_n (pn := 25) X d_Al_remove_24 ?_
  cases hf
  exact hv_aret X rfl (by first | exact Or.inl ⟨_, rfl⟩ | exact Or.inr ⟨_, rfl⟩) d_Al_remove_25 E
set_option maxHeartbeats 4000000 in
set_option maxRecDepth 100000 in
theorem c_Pk_init2 (l : Launch) (G : ho_G) (N : Nat) (σ : ho_H) (a0 : Nat) (a1 : Nat) (σ' : ho_H) (hf : f_Pk_init2 G N σ a0 a1 = some σ') : hv_C l G y_Pk_init2 (Cond.code y_Pk_init2 b_Pk_init2 2 none :: hv_ws) 1 60 [.ref a0, .ref a1] σ σ' (none) := by
  refine hv_met [some (.ref a0), some (.ref a1)] (plainFor_of_name (by decide +kernel)) (by intro v hv; simp at hv; rcases hv with rfl | rfl <;> rfl) (Nat.le_of_ble_eq_true rfl) rfl ?_
  intro k X hkl hkG E
  subst hkl
  subst hkG
  unfold f_Pk_init2 at hf
  refine hv_aload_n (pn := 1) X d_Pk_init2_0 ?_
  refine hv_oinit (pn := 4) X d_Pk_init2_1 q_2_182 q_1_30 q_1_31 (by decide) (by decide) (Nat.le_of_ble_eq_true rfl) ?_
  refine hv_aload_n (pn := 5) X d_Pk_init2_4 ?_
  refine hv_aload_n (pn := 6) X d_Pk_init2_5 ?_
  obtain ⟨b1, hb1, hf⟩ := bd_E hf
  refine hv_getR (pn := 9) X d_Pk_init2_6 fa_Pk_11 hb1 ?_
  obtain ⟨σ2, b3, hσ2, hf⟩ := bd2_E hf
  refine hv_clI (pn := 12) X d_Pk_init2_9 q_3_139 q_3_140 q_3_141 q_3_142 q_3_143 (List.mem_of_getElem? (i := 4) rfl) hσ2 (by decide) (by decide) (Nat.le_of_ble_eq_true rfl) ?_
  obtain ⟨_, hr4, hf⟩ := bd_E hf
  refine hv_cast_i (pn := 15) X d_Pk_init2_12 q_3_145 hr4 ?_
  obtain ⟨σ5, hσ5, hf⟩ := bd_E hf
  refine hv_putF (pn := 18) X d_Pk_init2_15 fp_Pk_11 hσ5 ?_
  cases hf
  exact hv_vret X d_Pk_init2_18 E
end
section
theorem d_Rc_init_0 : decode b_Rc_init 0 = .ok (.aload_n 0, 1) := by decide +kernel
theorem d_Rc_init_1 : decode b_Rc_init 1 = .ok (.invokespecial 3, 3) := by decide +kernel
theorem d_Rc_init_4 : decode b_Rc_init 4 = .ok (.aload_n 0, 1) := by decide +kernel
theorem d_Rc_init_5 : decode b_Rc_init 5 = .ok (.bipush 8, 2) := by decide +kernel
theorem d_Rc_init_7 : decode b_Rc_init 7 = .ok (.anewarray 9, 3) := by decide +kernel
theorem d_Rc_init_10 : decode b_Rc_init 10 = .ok (.putfield 11, 3) := by decide +kernel
theorem d_Rc_init_13 : decode b_Rc_init 13 = .ok (.aload_n 0, 1) := by decide +kernel
theorem d_Rc_init_14 : decode b_Rc_init 14 = .ok (.new 17, 3) := by decide +kernel
theorem d_Rc_init_17 : decode b_Rc_init 17 = .ok (.dup, 1) := by decide +kernel
theorem d_Rc_init_18 : decode b_Rc_init 18 = .ok (.invokespecial 19, 3) := by decide +kernel
theorem d_Rc_init_21 : decode b_Rc_init 21 = .ok (.putfield 20, 3) := by decide +kernel
theorem d_Rc_init_24 : decode b_Rc_init 24 = .ok (.aload_n 0, 1) := by decide +kernel
theorem d_Rc_init_25 : decode b_Rc_init 25 = .ok (.new 17, 3) := by decide +kernel
theorem d_Rc_init_28 : decode b_Rc_init 28 = .ok (.dup, 1) := by decide +kernel
theorem d_Rc_init_29 : decode b_Rc_init 29 = .ok (.invokespecial 19, 3) := by decide +kernel
theorem d_Rc_init_32 : decode b_Rc_init 32 = .ok (.putfield 24, 3) := by decide +kernel
theorem d_Rc_init_35 : decode b_Rc_init 35 = .ok (.aload_n 0, 1) := by decide +kernel
theorem d_Rc_init_36 : decode b_Rc_init 36 = .ok (.bipush 7, 2) := by decide +kernel
theorem d_Rc_init_38 : decode b_Rc_init 38 = .ok (.newarray .int, 2) := by decide +kernel
theorem d_Rc_init_40 : decode b_Rc_init 40 = .ok (.putfield 27, 3) := by decide +kernel
theorem d_Rc_init_43 : decode b_Rc_init 43 = .ok (.aload_n 0, 1) := by decide +kernel
theorem d_Rc_init_44 : decode b_Rc_init 44 = .ok (.aload_n 1, 1) := by decide +kernel
theorem d_Rc_init_45 : decode b_Rc_init 45 = .ok (.putfield 31, 3) := by decide +kernel
theorem d_Rc_init_48 : decode b_Rc_init 48 = .ok (.aload_n 0, 1) := by decide +kernel
theorem d_Rc_init_49 : decode b_Rc_init 49 = .ok (.aload_n 2, 1) := by decide +kernel
theorem d_Rc_init_50 : decode b_Rc_init 50 = .ok (.putfield 35, 3) := by decide +kernel
theorem d_Rc_init_53 : decode b_Rc_init 53 = .ok (.iconst 0, 1) := by decide +kernel
theorem d_Rc_init_54 : decode b_Rc_init 54 = .ok (.istore_n 3, 1) := by decide +kernel
theorem d_Rc_init_55 : decode b_Rc_init 55 = .ok (.iload_n 3, 1) := by decide +kernel
theorem d_Rc_init_56 : decode b_Rc_init 56 = .ok (.bipush 8, 2) := by decide +kernel
theorem d_Rc_init_58 : decode b_Rc_init 58 = .ok (.if_icmp .ge 22, 3) := by decide +kernel
theorem d_Rc_init_61 : decode b_Rc_init 61 = .ok (.aload_n 0, 1) := by decide +kernel
theorem d_Rc_init_62 : decode b_Rc_init 62 = .ok (.getfield 11, 3) := by decide +kernel
theorem d_Rc_init_65 : decode b_Rc_init 65 = .ok (.iload_n 3, 1) := by decide +kernel
theorem d_Rc_init_66 : decode b_Rc_init 66 = .ok (.new 9, 3) := by decide +kernel
theorem d_Rc_init_69 : decode b_Rc_init 69 = .ok (.dup, 1) := by decide +kernel
theorem d_Rc_init_70 : decode b_Rc_init 70 = .ok (.invokespecial 39, 3) := by decide +kernel
theorem d_Rc_init_73 : decode b_Rc_init 73 = .ok (.aastore, 1) := by decide +kernel
theorem d_Rc_init_74 : decode b_Rc_init 74 = .ok (.iinc 3 1, 3) := by decide +kernel
theorem d_Rc_init_77 : decode b_Rc_init 77 = .ok (.goto (-22), 3) := by decide +kernel
theorem d_Rc_init_80 : decode b_Rc_init 80 = .ok (.return_, 1) := by decide +kernel
theorem d_Of_init_0 : decode b_Of_init 0 = .ok (.aload_n 0, 1) := by decide +kernel
theorem d_Of_init_1 : decode b_Of_init 1 = .ok (.invokespecial 1, 3) := by decide +kernel
theorem d_Of_init_4 : decode b_Of_init 4 = .ok (.aload_n 0, 1) := by decide +kernel
theorem d_Of_init_5 : decode b_Of_init 5 = .ok (.new 7, 3) := by decide +kernel
theorem d_Of_init_8 : decode b_Of_init 8 = .ok (.dup, 1) := by decide +kernel
theorem d_Of_init_9 : decode b_Of_init 9 = .ok (.iconst 1, 1) := by decide +kernel
theorem d_Of_init_10 : decode b_Of_init 10 = .ok (.iload_n 1, 1) := by decide +kernel
theorem d_Of_init_11 : decode b_Of_init 11 = .ok (.bipush 8, 2) := by decide +kernel
theorem d_Of_init_13 : decode b_Of_init 13 = .ok (.invokestatic 9, 3) := by decide +kernel
theorem d_Of_init_16 : decode b_Of_init 16 = .ok (.iadd, 1) := by decide +kernel
theorem d_Of_init_17 : decode b_Of_init 17 = .ok (.iconst 1, 1) := by decide +kernel
theorem d_Of_init_18 : decode b_Of_init 18 = .ok (.iload_n 2, 1) := by decide +kernel
theorem d_Of_init_19 : decode b_Of_init 19 = .ok (.sipush 1000, 3) := by decide +kernel
theorem d_Of_init_22 : decode b_Of_init 22 = .ok (.invokestatic 9, 3) := by decide +kernel
theorem d_Of_init_25 : decode b_Of_init 25 = .ok (.iadd, 1) := by decide +kernel
theorem d_Of_init_26 : decode b_Of_init 26 = .ok (.iload_n 3, 1) := by decide +kernel
theorem d_Of_init_27 : decode b_Of_init 27 = .ok (.sipush 10001, 3) := by decide +kernel
theorem d_Of_init_30 : decode b_Of_init 30 = .ok (.invokestatic 9, 3) := by decide +kernel
theorem d_Of_init_33 : decode b_Of_init 33 = .ok (.invokespecial 15, 3) := by decide +kernel
theorem d_Of_init_36 : decode b_Of_init 36 = .ok (.putfield 18, 3) := by decide +kernel
theorem d_Of_init_39 : decode b_Of_init 39 = .ok (.aload_n 0, 1) := by decide +kernel
theorem d_Of_init_40 : decode b_Of_init 40 = .ok (.new 24, 3) := by decide +kernel
theorem d_Of_init_43 : decode b_Of_init 43 = .ok (.dup, 1) := by decide +kernel
theorem d_Of_init_44 : decode b_Of_init 44 = .ok (.invokespecial 26, 3) := by decide +kernel
theorem d_Of_init_47 : decode b_Of_init 47 = .ok (.putfield 27, 3) := by decide +kernel
theorem d_Of_init_50 : decode b_Of_init 50 = .ok (.aload_n 0, 1) := by decide +kernel
theorem d_Of_init_51 : decode b_Of_init 51 = .ok (.bipush 8, 2) := by decide +kernel
theorem d_Of_init_53 : decode b_Of_init 53 = .ok (.newarray .int, 2) := by decide +kernel
theorem d_Of_init_55 : decode b_Of_init 55 = .ok (.putfield 31, 3) := by decide +kernel
theorem d_Of_init_58 : decode b_Of_init 58 = .ok (.aload_n 0, 1) := by decide +kernel
theorem d_Of_init_59 : decode b_Of_init 59 = .ok (.bipush 8, 2) := by decide +kernel
theorem d_Of_init_61 : decode b_Of_init 61 = .ok (.anewarray 35, 3) := by decide +kernel
theorem d_Of_init_64 : decode b_Of_init 64 = .ok (.putfield 37, 3) := by decide +kernel
theorem d_Of_init_67 : decode b_Of_init 67 = .ok (.iconst 0, 1) := by decide +kernel
theorem d_Of_init_68 : decode b_Of_init 68 = .ok (.istore 4, 2) := by decide +kernel
theorem d_Of_init_70 : decode b_Of_init 70 = .ok (.iload 4, 2) := by decide +kernel
theorem d_Of_init_72 : decode b_Of_init 72 = .ok (.bipush 8, 2) := by decide +kernel
theorem d_Of_init_74 : decode b_Of_init 74 = .ok (.if_icmp .ge 23, 3) := by decide +kernel
theorem d_Of_init_77 : decode b_Of_init 77 = .ok (.aload_n 0, 1) := by decide +kernel
theorem d_Of_init_78 : decode b_Of_init 78 = .ok (.getfield 37, 3) := by decide +kernel
theorem d_Of_init_81 : decode b_Of_init 81 = .ok (.iload 4, 2) := by decide +kernel
theorem d_Of_init_83 : decode b_Of_init 83 = .ok (.new 35, 3) := by decide +kernel
theorem d_Of_init_86 : decode b_Of_init 86 = .ok (.dup, 1) := by decide +kernel
theorem d_Of_init_87 : decode b_Of_init 87 = .ok (.invokespecial 41, 3) := by decide +kernel
theorem d_Of_init_90 : decode b_Of_init 90 = .ok (.aastore, 1) := by decide +kernel
theorem d_Of_init_91 : decode b_Of_init 91 = .ok (.iinc 4 1, 3) := by decide +kernel
theorem d_Of_init_94 : decode b_Of_init 94 = .ok (.goto (-24), 3) := by decide +kernel
theorem d_Of_init_97 : decode b_Of_init 97 = .ok (.aload_n 0, 1) := by decide +kernel
theorem d_Of_init_98 : decode b_Of_init 98 = .ok (.new 42, 3) := by decide +kernel
theorem d_Of_init_101 : decode b_Of_init 101 = .ok (.dup, 1) := by decide +kernel
theorem d_Of_init_102 : decode b_Of_init 102 = .ok (.invokespecial 44, 3) := by decide +kernel
theorem d_Of_init_105 : decode b_Of_init 105 = .ok (.putfield 45, 3) := by decide +kernel
theorem d_Of_init_108 : decode b_Of_init 108 = .ok (.aload_n 0, 1) := by decide +kernel
theorem d_Of_init_109 : decode b_Of_init 109 = .ok (.bipush 8, 2) := by decide +kernel
theorem d_Of_init_111 : decode b_Of_init 111 = .ok (.anewarray 49, 3) := by decide +kernel
theorem d_Of_init_114 : decode b_Of_init 114 = .ok (.putfield 51, 3) := by decide +kernel
theorem d_Of_init_117 : decode b_Of_init 117 = .ok (.iconst 0, 1) := by decide +kernel
theorem d_Of_init_118 : decode b_Of_init 118 = .ok (.istore 4, 2) := by decide +kernel
theorem d_Of_init_120 : decode b_Of_init 120 = .ok (.iload 4, 2) := by decide +kernel
theorem d_Of_init_122 : decode b_Of_init 122 = .ok (.bipush 8, 2) := by decide +kernel
theorem d_Of_init_124 : decode b_Of_init 124 = .ok (.if_icmp .ge 31, 3) := by decide +kernel
theorem d_Of_init_127 : decode b_Of_init 127 = .ok (.aload_n 0, 1) := by decide +kernel
theorem d_Of_init_128 : decode b_Of_init 128 = .ok (.getfield 51, 3) := by decide +kernel
theorem d_Of_init_131 : decode b_Of_init 131 = .ok (.iload 4, 2) := by decide +kernel
theorem d_Of_init_133 : decode b_Of_init 133 = .ok (.new 49, 3) := by decide +kernel
theorem d_Of_init_136 : decode b_Of_init 136 = .ok (.dup, 1) := by decide +kernel
theorem d_Of_init_137 : decode b_Of_init 137 = .ok (.aload_n 0, 1) := by decide +kernel
theorem d_Of_init_138 : decode b_Of_init 138 = .ok (.getfield 18, 3) := by decide +kernel
theorem d_Of_init_141 : decode b_Of_init 141 = .ok (.aload_n 0, 1) := by decide +kernel
theorem d_Of_init_142 : decode b_Of_init 142 = .ok (.getfield 27, 3) := by decide +kernel
theorem d_Of_init_145 : decode b_Of_init 145 = .ok (.invokespecial 55, 3) := by decide +kernel
theorem d_Of_init_148 : decode b_Of_init 148 = .ok (.aastore, 1) := by decide +kernel
theorem d_Of_init_149 : decode b_Of_init 149 = .ok (.iinc 4 1, 3) := by decide +kernel
theorem d_Of_init_152 : decode b_Of_init 152 = .ok (.goto (-32), 3) := by decide +kernel
theorem d_Of_init_155 : decode b_Of_init 155 = .ok (.return_, 1) := by decide +kernel
theorem d_Of_count_0 : decode b_Of_count 0 = .ok (.iload_n 1, 1) := by decide +kernel
theorem d_Of_count_1 : decode b_Of_count 1 = .ok (.tableswitch 67 0 3 #[31, 39, 54, 59], 31) := by decide +kernel
theorem d_Of_count_32 : decode b_Of_count 32 = .ok (.aload_n 0, 1) := by decide +kernel
theorem d_Of_count_33 : decode b_Of_count 33 = .ok (.getfield 18, 3) := by decide +kernel
theorem d_Of_count_36 : decode b_Of_count 36 = .ok (.getfield 77, 3) := by decide +kernel
theorem d_Of_count_39 : decode b_Of_count 39 = .ok (.ireturn, 1) := by decide +kernel
theorem d_Of_count_40 : decode b_Of_count 40 = .ok (.aload_n 0, 1) := by decide +kernel
theorem d_Of_count_41 : decode b_Of_count 41 = .ok (.getfield 18, 3) := by decide +kernel
theorem d_Of_count_44 : decode b_Of_count 44 = .ok (.aload_n 0, 1) := by decide +kernel
theorem d_Of_count_45 : decode b_Of_count 45 = .ok (.getfield 18, 3) := by decide +kernel
theorem d_Of_count_48 : decode b_Of_count 48 = .ok (.getfield 77, 3) := by decide +kernel
theorem d_Of_count_51 : decode b_Of_count 51 = .ok (.invokevirtual 80, 3) := by decide +kernel
theorem d_Of_count_54 : decode b_Of_count 54 = .ok (.ireturn, 1) := by decide +kernel
theorem d_Of_count_55 : decode b_Of_count 55 = .ok (.aload_n 0, 1) := by decide +kernel
theorem d_Of_count_56 : decode b_Of_count 56 = .ok (.getfield 58, 3) := by decide +kernel
theorem d_Of_count_59 : decode b_Of_count 59 = .ok (.ireturn, 1) := by decide +kernel
theorem d_Of_count_60 : decode b_Of_count 60 = .ok (.aload_n 0, 1) := by decide +kernel
theorem d_Of_count_61 : decode b_Of_count 61 = .ok (.getfield 45, 3) := by decide +kernel
theorem d_Of_count_64 : decode b_Of_count 64 = .ok (.invokevirtual 107, 3) := by decide +kernel
theorem d_Of_count_67 : decode b_Of_count 67 = .ok (.ireturn, 1) := by decide +kernel
theorem d_Of_count_68 : decode b_Of_count 68 = .ok (.iconst (-1), 1) := by decide +kernel
theorem d_Of_count_69 : decode b_Of_count 69 = .ok (.ireturn, 1) := by decide +kernel
theorem d_Of_post_0 : decode b_Of_post 0 = .ok (.aload_n 1, 1) := by decide +kernel
theorem d_Of_post_1 : decode b_Of_post 1 = .ok (.invokevirtual 180, 3) := by decide +kernel
theorem d_Of_post_4 : decode b_Of_post 4 = .ok (.istore_n 2, 1) := by decide +kernel
theorem d_Of_post_5 : decode b_Of_post 5 = .ok (.aload_n 0, 1) := by decide +kernel
theorem d_Of_post_6 : decode b_Of_post 6 = .ok (.getfield 37, 3) := by decide +kernel
theorem d_Of_post_9 : decode b_Of_post 9 = .ok (.iload_n 2, 1) := by decide +kernel
theorem d_Of_post_10 : decode b_Of_post 10 = .ok (.invokestatic 104, 3) := by decide +kernel
theorem d_Of_post_13 : decode b_Of_post 13 = .ok (.aaload, 1) := by decide +kernel
theorem d_Of_post_14 : decode b_Of_post 14 = .ok (.iload_n 2, 1) := by decide +kernel
theorem d_Of_post_15 : decode b_Of_post 15 = .ok (.invokestatic 187, 3) := by decide +kernel
theorem d_Of_post_18 : decode b_Of_post 18 = .ok (.aload_n 1, 1) := by decide +kernel
theorem d_Of_post_19 : decode b_Of_post 19 = .ok (.aload_n 0, 1) := by decide +kernel
theorem d_Of_post_20 : decode b_Of_post 20 = .ok (.getfield 27, 3) := by decide +kernel
theorem d_Of_post_23 : decode b_Of_post 23 = .ok (.invokevirtual 190, 3) := by decide +kernel
theorem d_Of_post_26 : decode b_Of_post 26 = .ok (.aload_n 1, 1) := by decide +kernel
theorem d_Of_post_27 : decode b_Of_post 27 = .ok (.aload_n 0, 1) := by decide +kernel
theorem d_Of_post_28 : decode b_Of_post 28 = .ok (.getfield 27, 3) := by decide +kernel
theorem d_Of_post_31 : decode b_Of_post 31 = .ok (.getfield 101, 3) := by decide +kernel
theorem d_Of_post_34 : decode b_Of_post 34 = .ok (.invokevirtual 194, 3) := by decide +kernel
theorem d_Of_post_37 : decode b_Of_post 37 = .ok (.iload_n 2, 1) := by decide +kernel
theorem d_Of_post_38 : decode b_Of_post 38 = .ok (.aload_n 0, 1) := by decide +kernel
theorem d_Of_post_39 : decode b_Of_post 39 = .ok (.getfield 18, 3) := by decide +kernel
theorem d_Of_post_42 : decode b_Of_post 42 = .ok (.getfield 198, 3) := by decide +kernel
theorem d_Of_post_45 : decode b_Of_post 45 = .ok (.isub, 1) := by decide +kernel
theorem d_Of_post_46 : decode b_Of_post 46 = .ok (.istore_n 3, 1) := by decide +kernel
theorem d_Of_post_47 : decode b_Of_post 47 = .ok (.iload_n 3, 1) := by decide +kernel
theorem d_Of_post_48 : decode b_Of_post 48 = .ok (.iconst 1, 1) := by decide +kernel
theorem d_Of_post_49 : decode b_Of_post 49 = .ok (.if_icmp .lt 27, 3) := by decide +kernel
theorem d_Of_post_52 : decode b_Of_post 52 = .ok (.aload_n 0, 1) := by decide +kernel
theorem d_Of_post_53 : decode b_Of_post 53 = .ok (.getfield 37, 3) := by decide +kernel
theorem d_Of_post_56 : decode b_Of_post 56 = .ok (.iload_n 3, 1) := by decide +kernel
theorem d_Of_post_57 : decode b_Of_post 57 = .ok (.invokestatic 104, 3) := by decide +kernel
theorem d_Of_post_60 : decode b_Of_post 60 = .ok (.aaload, 1) := by decide +kernel
theorem d_Of_post_61 : decode b_Of_post 61 = .ok (.iload_n 3, 1) := by decide +kernel
theorem d_Of_post_62 : decode b_Of_post 62 = .ok (.invokestatic 187, 3) := by decide +kernel
theorem d_Of_post_65 : decode b_Of_post 65 = .ok (.aload_n 1, 1) := by decide +kernel
theorem d_Of_post_66 : decode b_Of_post 66 = .ok (.getfield 117, 3) := by decide +kernel
theorem d_Of_post_69 : decode b_Of_post 69 = .ok (.aload_n 1, 1) := by decide +kernel
theorem d_Of_post_70 : decode b_Of_post 70 = .ok (.invokevirtual 201, 3) := by decide +kernel
theorem d_Of_post_73 : decode b_Of_post 73 = .ok (.invokevirtual 124, 3) := by decide +kernel
theorem d_Of_post_76 : decode b_Of_post 76 = .ok (.aload_n 0, 1) := by decide +kernel
theorem d_Of_post_77 : decode b_Of_post 77 = .ok (.getfield 45, 3) := by decide +kernel
theorem d_Of_post_80 : decode b_Of_post 80 = .ok (.aload_n 1, 1) := by decide +kernel
theorem d_Of_post_81 : decode b_Of_post 81 = .ok (.invokevirtual 204, 3) := by decide +kernel
theorem d_Of_post_84 : decode b_Of_post 84 = .ok (.pop, 1) := by decide +kernel
theorem d_Of_post_85 : decode b_Of_post 85 = .ok (.aload_n 0, 1) := by decide +kernel
theorem d_Of_post_86 : decode b_Of_post 86 = .ok (.getfield 45, 3) := by decide +kernel
theorem d_Of_post_89 : decode b_Of_post 89 = .ok (.invokevirtual 107, 3) := by decide +kernel
theorem d_Of_post_92 : decode b_Of_post 92 = .ok (.iconst 1, 1) := by decide +kernel
theorem d_Of_post_93 : decode b_Of_post 93 = .ok (.isub, 1) := by decide +kernel
theorem d_Of_post_94 : decode b_Of_post 94 = .ok (.ireturn, 1) := by decide +kernel
theorem d_Of_hasPacketByte_0 : decode b_Of_hasPacketByte 0 = .ok (.iload_n 1, 1) := by decide +kernel
theorem d_Of_hasPacketByte_1 : decode b_Of_hasPacketByte 1 = .ok (.ifCond .lt 41, 3) := by decide +kernel
theorem d_Of_hasPacketByte_4 : decode b_Of_hasPacketByte 4 = .ok (.iload_n 1, 1) := by decide +kernel
theorem d_Of_hasPacketByte_5 : decode b_Of_hasPacketByte 5 = .ok (.aload_n 0, 1) := by decide +kernel
theorem d_Of_hasPacketByte_6 : decode b_Of_hasPacketByte 6 = .ok (.getfield 45, 3) := by decide +kernel
theorem d_Of_hasPacketByte_9 : decode b_Of_hasPacketByte 9 = .ok (.invokevirtual 107, 3) := by decide +kernel
theorem d_Of_hasPacketByte_12 : decode b_Of_hasPacketByte 12 = .ok (.if_icmp .ge 30, 3) := by decide +kernel
theorem d_Of_hasPacketByte_15 : decode b_Of_hasPacketByte 15 = .ok (.iload_n 2, 1) := by decide +kernel
theorem d_Of_hasPacketByte_16 : decode b_Of_hasPacketByte 16 = .ok (.ifCond .lt 26, 3) := by decide +kernel
theorem d_Of_hasPacketByte_19 : decode b_Of_hasPacketByte 19 = .ok (.iload_n 2, 1) := by decide +kernel
theorem d_Of_hasPacketByte_20 : decode b_Of_hasPacketByte 20 = .ok (.aload_n 0, 1) := by decide +kernel
theorem d_Of_hasPacketByte_21 : decode b_Of_hasPacketByte 21 = .ok (.getfield 45, 3) := by decide +kernel
theorem d_Of_hasPacketByte_24 : decode b_Of_hasPacketByte 24 = .ok (.iload_n 1, 1) := by decide +kernel
theorem d_Of_hasPacketByte_25 : decode b_Of_hasPacketByte 25 = .ok (.invokevirtual 132, 3) := by decide +kernel
theorem d_Of_hasPacketByte_28 : decode b_Of_hasPacketByte 28 = .ok (.checkcast 114, 3) := by decide +kernel
theorem d_Of_hasPacketByte_31 : decode b_Of_hasPacketByte 31 = .ok (.getfield 117, 3) := by decide +kernel
theorem d_Of_hasPacketByte_34 : decode b_Of_hasPacketByte 34 = .ok (.arraylength, 1) := by decide +kernel
theorem d_Of_hasPacketByte_35 : decode b_Of_hasPacketByte 35 = .ok (.if_icmp .ge 7, 3) := by decide +kernel
theorem d_Of_hasPacketByte_38 : decode b_Of_hasPacketByte 38 = .ok (.iconst 1, 1) := by decide +kernel
theorem d_Of_hasPacketByte_39 : decode b_Of_hasPacketByte 39 = .ok (.goto 4, 3) := by decide +kernel
theorem d_Of_hasPacketByte_42 : decode b_Of_hasPacketByte 42 = .ok (.iconst 0, 1) := by decide +kernel
theorem d_Of_hasPacketByte_43 : decode b_Of_hasPacketByte 43 = .ok (.ireturn, 1) := by decide +kernel
theorem d_Of_isKept_0 : decode b_Of_isKept 0 = .ok (.aload_n 0, 1) := by decide +kernel
theorem d_Of_isKept_1 : decode b_Of_isKept 1 = .ok (.iload_n 1, 1) := by decide +kernel
theorem d_Of_isKept_2 : decode b_Of_isKept 2 = .ok (.invokevirtual 139, 3) := by decide +kernel
theorem d_Of_isKept_5 : decode b_Of_isKept 5 = .ok (.ifCond .eq 27, 3) := by decide +kernel
theorem d_Of_isKept_8 : decode b_Of_isKept 8 = .ok (.iload_n 2, 1) := by decide +kernel
theorem d_Of_isKept_9 : decode b_Of_isKept 9 = .ok (.ifCond .lt 23, 3) := by decide +kernel
theorem d_Of_isKept_12 : decode b_Of_isKept 12 = .ok (.iload_n 2, 1) := by decide +kernel
theorem d_Of_isKept_13 : decode b_Of_isKept 13 = .ok (.aload_n 0, 1) := by decide +kernel
theorem d_Of_isKept_14 : decode b_Of_isKept 14 = .ok (.getfield 51, 3) := by decide +kernel
theorem d_Of_isKept_17 : decode b_Of_isKept 17 = .ok (.iload_n 1, 1) := by decide +kernel
theorem d_Of_isKept_18 : decode b_Of_isKept 18 = .ok (.aaload, 1) := by decide +kernel
theorem d_Of_isKept_19 : decode b_Of_isKept 19 = .ok (.getfield 177, 3) := by decide +kernel
theorem d_Of_isKept_22 : decode b_Of_isKept 22 = .ok (.invokevirtual 107, 3) := by decide +kernel
theorem d_Of_isKept_25 : decode b_Of_isKept 25 = .ok (.if_icmp .ge 7, 3) := by decide +kernel
theorem d_Of_isKept_28 : decode b_Of_isKept 28 = .ok (.iconst 1, 1) := by decide +kernel
theorem d_Of_isKept_29 : decode b_Of_isKept 29 = .ok (.goto 4, 3) := by decide +kernel
theorem d_Of_isKept_32 : decode b_Of_isKept 32 = .ok (.iconst 0, 1) := by decide +kernel
theorem d_Of_isKept_33 : decode b_Of_isKept 33 = .ok (.ireturn, 1) := by decide +kernel
theorem d_Rc_beginAnew_0 : decode b_Rc_beginAnew 0 = .ok (.iconst 0, 1) := by decide +kernel
theorem d_Rc_beginAnew_1 : decode b_Rc_beginAnew 1 = .ok (.istore_n 1, 1) := by decide +kernel
theorem d_Rc_beginAnew_2 : decode b_Rc_beginAnew 2 = .ok (.iload_n 1, 1) := by decide +kernel
theorem d_Rc_beginAnew_3 : decode b_Rc_beginAnew 3 = .ok (.bipush 8, 2) := by decide +kernel
theorem d_Rc_beginAnew_5 : decode b_Rc_beginAnew 5 = .ok (.if_icmp .ge 18, 3) := by decide +kernel
theorem d_Rc_beginAnew_8 : decode b_Rc_beginAnew 8 = .ok (.aload_n 0, 1) := by decide +kernel
theorem d_Rc_beginAnew_9 : decode b_Rc_beginAnew 9 = .ok (.getfield 11, 3) := by decide +kernel
theorem d_Rc_beginAnew_12 : decode b_Rc_beginAnew 12 = .ok (.iload_n 1, 1) := by decide +kernel
theorem d_Rc_beginAnew_13 : decode b_Rc_beginAnew 13 = .ok (.aaload, 1) := by decide +kernel
theorem d_Rc_beginAnew_14 : decode b_Rc_beginAnew 14 = .ok (.invokevirtual 40, 3) := by decide +kernel
theorem d_Rc_beginAnew_17 : decode b_Rc_beginAnew 17 = .ok (.iinc 1 1, 3) := by decide +kernel
theorem d_Rc_beginAnew_20 : decode b_Rc_beginAnew 20 = .ok (.goto (-18), 3) := by decide +kernel
theorem d_Rc_beginAnew_23 : decode b_Rc_beginAnew 23 = .ok (.aload_n 0, 1) := by decide +kernel
theorem d_Rc_beginAnew_24 : decode b_Rc_beginAnew 24 = .ok (.getfield 20, 3) := by decide +kernel
theorem d_Rc_beginAnew_27 : decode b_Rc_beginAnew 27 = .ok (.invokevirtual 43, 3) := by decide +kernel
theorem d_Rc_beginAnew_30 : decode b_Rc_beginAnew 30 = .ok (.aload_n 0, 1) := by decide +kernel
theorem d_Rc_beginAnew_31 : decode b_Rc_beginAnew 31 = .ok (.getfield 24, 3) := by decide +kernel
theorem d_Rc_beginAnew_34 : decode b_Rc_beginAnew 34 = .ok (.invokevirtual 43, 3) := by decide +kernel
theorem d_Rc_beginAnew_37 : decode b_Rc_beginAnew 37 = .ok (.aload_n 0, 1) := by decide +kernel
theorem d_Rc_beginAnew_38 : decode b_Rc_beginAnew 38 = .ok (.getfield 27, 3) := by decide +kernel
theorem d_Rc_beginAnew_41 : decode b_Rc_beginAnew 41 = .ok (.iconst 0, 1) := by decide +kernel
theorem d_Rc_beginAnew_42 : decode b_Rc_beginAnew 42 = .ok (.invokestatic 46, 3) := by decide +kernel
theorem d_Rc_beginAnew_45 : decode b_Rc_beginAnew 45 = .ok (.aload_n 0, 1) := by decide +kernel
theorem d_Rc_beginAnew_46 : decode b_Rc_beginAnew 46 = .ok (.iconst 0, 1) := by decide +kernel
theorem d_Rc_beginAnew_47 : decode b_Rc_beginAnew 47 = .ok (.putfield 52, 3) := by decide +kernel
theorem d_Rc_beginAnew_50 : decode b_Rc_beginAnew 50 = .ok (.return_, 1) := by decide +kernel
theorem d_Rc_latestInterval_0 : decode b_Rc_latestInterval 0 = .ok (.bipush 7, 2) := by decide +kernel
theorem d_Rc_latestInterval_2 : decode b_Rc_latestInterval 2 = .ok (.istore_n 1, 1) := by decide +kernel
theorem d_Rc_latestInterval_3 : decode b_Rc_latestInterval 3 = .ok (.iload_n 1, 1) := by decide +kernel
theorem d_Rc_latestInterval_4 : decode b_Rc_latestInterval 4 = .ok (.ifCond .lt 36, 3) := by decide +kernel
theorem d_Rc_latestInterval_7 : decode b_Rc_latestInterval 7 = .ok (.aload_n 0, 1) := by decide +kernel
theorem d_Rc_latestInterval_8 : decode b_Rc_latestInterval 8 = .ok (.getfield 11, 3) := by decide +kernel
theorem d_Rc_latestInterval_11 : decode b_Rc_latestInterval 11 = .ok (.iload_n 1, 1) := by decide +kernel
theorem d_Rc_latestInterval_12 : decode b_Rc_latestInterval 12 = .ok (.aaload, 1) := by decide +kernel
theorem d_Rc_latestInterval_13 : decode b_Rc_latestInterval 13 = .ok (.invokevirtual 56, 3) := by decide +kernel
theorem d_Rc_latestInterval_16 : decode b_Rc_latestInterval 16 = .ok (.ifCond .eq 18, 3) := by decide +kernel
theorem d_Rc_latestInterval_19 : decode b_Rc_latestInterval 19 = .ok (.iload_n 1, 1) := by decide +kernel
theorem d_Rc_latestInterval_20 : decode b_Rc_latestInterval 20 = .ok (.bipush 64, 2) := by decide +kernel
theorem d_Rc_latestInterval_22 : decode b_Rc_latestInterval 22 = .ok (.imul, 1) := by decide +kernel
theorem d_Rc_latestInterval_23 : decode b_Rc_latestInterval 23 = .ok (.aload_n 0, 1) := by decide +kernel
theorem d_Rc_latestInterval_24 : decode b_Rc_latestInterval 24 = .ok (.getfield 11, 3) := by decide +kernel
theorem d_Rc_latestInterval_27 : decode b_Rc_latestInterval 27 = .ok (.iload_n 1, 1) := by decide +kernel
theorem d_Rc_latestInterval_28 : decode b_Rc_latestInterval 28 = .ok (.aaload, 1) := by decide +kernel
theorem d_Rc_latestInterval_29 : decode b_Rc_latestInterval 29 = .ok (.getfield 60, 3) := by decide +kernel
theorem d_Rc_latestInterval_32 : decode b_Rc_latestInterval 32 = .ok (.iadd, 1) := by decide +kernel
theorem d_Rc_latestInterval_33 : decode b_Rc_latestInterval 33 = .ok (.ireturn, 1) := by decide +kernel
theorem d_Rc_latestInterval_34 : decode b_Rc_latestInterval 34 = .ok (.iinc 1 (-1), 3) := by decide +kernel
theorem d_Rc_latestInterval_37 : decode b_Rc_latestInterval 37 = .ok (.goto (-34), 3) := by decide +kernel
theorem d_Rc_latestInterval_40 : decode b_Rc_latestInterval 40 = .ok (.iconst (-1), 1) := by decide +kernel
theorem d_Rc_latestInterval_41 : decode b_Rc_latestInterval 41 = .ok (.ireturn, 1) := by decide +kernel
theorem d_Rc_takeShownKey_0 : decode b_Rc_takeShownKey 0 = .ok (.aload_n 1, 1) := by decide +kernel
theorem d_Rc_takeShownKey_1 : decode b_Rc_takeShownKey 1 = .ok (.invokevirtual 75, 3) := by decide +kernel
theorem d_Rc_takeShownKey_4 : decode b_Rc_takeShownKey 4 = .ok (.aload_n 0, 1) := by decide +kernel
theorem d_Rc_takeShownKey_5 : decode b_Rc_takeShownKey 5 = .ok (.getfield 31, 3) := by decide +kernel
theorem d_Rc_takeShownKey_8 : decode b_Rc_takeShownKey 8 = .ok (.getfield 102, 3) := by decide +kernel
theorem d_Rc_takeShownKey_11 : decode b_Rc_takeShownKey 11 = .ok (.isub, 1) := by decide +kernel
theorem d_Rc_takeShownKey_12 : decode b_Rc_takeShownKey 12 = .ok (.istore_n 2, 1) := by decide +kernel
theorem d_Rc_takeShownKey_13 : decode b_Rc_takeShownKey 13 = .ok (.iload_n 2, 1) := by decide +kernel
theorem d_Rc_takeShownKey_14 : decode b_Rc_takeShownKey 14 = .ok (.iconst 1, 1) := by decide +kernel
theorem d_Rc_takeShownKey_15 : decode b_Rc_takeShownKey 15 = .ok (.if_icmp .ge 5, 3) := by decide +kernel
theorem d_Rc_takeShownKey_18 : decode b_Rc_takeShownKey 18 = .ok (.iconst 1, 1) := by decide +kernel
theorem d_Rc_takeShownKey_19 : decode b_Rc_takeShownKey 19 = .ok (.ireturn, 1) := by decide +kernel
theorem d_Rc_takeShownKey_20 : decode b_Rc_takeShownKey 20 = .ok (.aload_n 0, 1) := by decide +kernel
theorem d_Rc_takeShownKey_21 : decode b_Rc_takeShownKey 21 = .ok (.getfield 11, 3) := by decide +kernel
theorem d_Rc_takeShownKey_24 : decode b_Rc_takeShownKey 24 = .ok (.iload_n 2, 1) := by decide +kernel
theorem d_Rc_takeShownKey_25 : decode b_Rc_takeShownKey 25 = .ok (.invokestatic 105, 3) := by decide +kernel
theorem d_Rc_takeShownKey_28 : decode b_Rc_takeShownKey 28 = .ok (.aaload, 1) := by decide +kernel
theorem d_Rc_takeShownKey_29 : decode b_Rc_takeShownKey 29 = .ok (.astore_n 3, 1) := by decide +kernel
theorem d_Rc_takeShownKey_30 : decode b_Rc_takeShownKey 30 = .ok (.iload_n 2, 1) := by decide +kernel
theorem d_Rc_takeShownKey_31 : decode b_Rc_takeShownKey 31 = .ok (.invokestatic 109, 3) := by decide +kernel
theorem d_Rc_takeShownKey_34 : decode b_Rc_takeShownKey 34 = .ok (.istore 4, 2) := by decide +kernel
theorem d_Rc_takeShownKey_36 : decode b_Rc_takeShownKey 36 = .ok (.aload_n 3, 1) := by decide +kernel
theorem d_Rc_takeShownKey_37 : decode b_Rc_takeShownKey 37 = .ok (.invokevirtual 56, 3) := by decide +kernel
theorem d_Rc_takeShownKey_40 : decode b_Rc_takeShownKey 40 = .ok (.ifCond .eq 12, 3) := by decide +kernel
theorem d_Rc_takeShownKey_43 : decode b_Rc_takeShownKey 43 = .ok (.iload 4, 2) := by decide +kernel
theorem d_Rc_takeShownKey_45 : decode b_Rc_takeShownKey 45 = .ok (.aload_n 3, 1) := by decide +kernel
theorem d_Rc_takeShownKey_46 : decode b_Rc_takeShownKey 46 = .ok (.getfield 112, 3) := by decide +kernel
theorem d_Rc_takeShownKey_49 : decode b_Rc_takeShownKey 49 = .ok (.if_icmp .ge 5, 3) := by decide +kernel
theorem d_Rc_takeShownKey_52 : decode b_Rc_takeShownKey 52 = .ok (.iconst 1, 1) := by decide +kernel
theorem d_Rc_takeShownKey_53 : decode b_Rc_takeShownKey 53 = .ok (.ireturn, 1) := by decide +kernel
theorem d_Rc_takeShownKey_54 : decode b_Rc_takeShownKey 54 = .ok (.iload 4, 2) := by decide +kernel
theorem d_Rc_takeShownKey_56 : decode b_Rc_takeShownKey 56 = .ok (.aload_n 3, 1) := by decide +kernel
theorem d_Rc_takeShownKey_57 : decode b_Rc_takeShownKey 57 = .ok (.getfield 60, 3) := by decide +kernel
theorem d_Rc_takeShownKey_60 : decode b_Rc_takeShownKey 60 = .ok (.if_icmp .gt 18, 3) := by decide +kernel
theorem d_Rc_takeShownKey_63 : decode b_Rc_takeShownKey 63 = .ok (.aload_n 3, 1) := by decide +kernel
theorem d_Rc_takeShownKey_64 : decode b_Rc_takeShownKey 64 = .ok (.iload 4, 2) := by decide +kernel
theorem d_Rc_takeShownKey_66 : decode b_Rc_takeShownKey 66 = .ok (.aload_n 1, 1) := by decide +kernel
theorem d_Rc_takeShownKey_67 : decode b_Rc_takeShownKey 67 = .ok (.getfield 115, 3) := by decide +kernel
theorem d_Rc_takeShownKey_70 : decode b_Rc_takeShownKey 70 = .ok (.aload_n 1, 1) := by decide +kernel
theorem d_Rc_takeShownKey_71 : decode b_Rc_takeShownKey 71 = .ok (.invokevirtual 118, 3) := by decide +kernel
theorem d_Rc_takeShownKey_74 : decode b_Rc_takeShownKey 74 = .ok (.invokevirtual 121, 3) := by decide +kernel
theorem d_Rc_takeShownKey_77 : decode b_Rc_takeShownKey 77 = .ok (.ireturn, 1) := by decide +kernel
theorem d_Rc_takeShownKey_78 : decode b_Rc_takeShownKey 78 = .ok (.aload_n 3, 1) := by decide +kernel
theorem d_Rc_takeShownKey_79 : decode b_Rc_takeShownKey 79 = .ok (.iload 4, 2) := by decide +kernel
theorem d_Rc_takeShownKey_81 : decode b_Rc_takeShownKey 81 = .ok (.aload_n 1, 1) := by decide +kernel
theorem d_Rc_takeShownKey_82 : decode b_Rc_takeShownKey 82 = .ok (.getfield 115, 3) := by decide +kernel
theorem d_Rc_takeShownKey_85 : decode b_Rc_takeShownKey 85 = .ok (.aload_n 1, 1) := by decide +kernel
theorem d_Rc_takeShownKey_86 : decode b_Rc_takeShownKey 86 = .ok (.invokevirtual 118, 3) := by decide +kernel
theorem d_Rc_takeShownKey_89 : decode b_Rc_takeShownKey 89 = .ok (.invokevirtual 125, 3) := by decide +kernel
theorem d_Rc_takeShownKey_92 : decode b_Rc_takeShownKey 92 = .ok (.aload_n 3, 1) := by decide +kernel
theorem d_Rc_takeShownKey_93 : decode b_Rc_takeShownKey 93 = .ok (.iload 4, 2) := by decide +kernel
theorem d_Rc_takeShownKey_95 : decode b_Rc_takeShownKey 95 = .ok (.aload_n 3, 1) := by decide +kernel
theorem d_Rc_takeShownKey_96 : decode b_Rc_takeShownKey 96 = .ok (.getfield 60, 3) := by decide +kernel
theorem d_Rc_takeShownKey_99 : decode b_Rc_takeShownKey 99 = .ok (.iconst 1, 1) := by decide +kernel
theorem d_Rc_takeShownKey_100 : decode b_Rc_takeShownKey 100 = .ok (.iadd, 1) := by decide +kernel
theorem d_Rc_takeShownKey_101 : decode b_Rc_takeShownKey 101 = .ok (.aload_n 0, 1) := by decide +kernel
theorem d_Rc_takeShownKey_102 : decode b_Rc_takeShownKey 102 = .ok (.getfield 35, 3) := by decide +kernel
theorem d_Rc_takeShownKey_105 : decode b_Rc_takeShownKey 105 = .ok (.invokevirtual 129, 3) := by decide +kernel
theorem d_Rc_takeShownKey_108 : decode b_Rc_takeShownKey 108 = .ok (.aload_n 3, 1) := by decide +kernel
theorem d_Rc_takeShownKey_109 : decode b_Rc_takeShownKey 109 = .ok (.iload 4, 2) := by decide +kernel
theorem d_Rc_takeShownKey_111 : decode b_Rc_takeShownKey 111 = .ok (.aload_n 0, 1) := by decide +kernel
theorem d_Rc_takeShownKey_112 : decode b_Rc_takeShownKey 112 = .ok (.getfield 35, 3) := by decide +kernel
theorem d_Rc_takeShownKey_115 : decode b_Rc_takeShownKey 115 = .ok (.invokevirtual 133, 3) := by decide +kernel
theorem d_Rc_takeShownKey_118 : decode b_Rc_takeShownKey 118 = .ok (.ireturn, 1) := by decide +kernel
theorem d_Rc_hasKeyFor_0 : decode b_Rc_hasKeyFor 0 = .ok (.aload_n 0, 1) := by decide +kernel
theorem d_Rc_hasKeyFor_1 : decode b_Rc_hasKeyFor 1 = .ok (.getfield 11, 3) := by decide +kernel
theorem d_Rc_hasKeyFor_4 : decode b_Rc_hasKeyFor 4 = .ok (.iload_n 1, 1) := by decide +kernel
theorem d_Rc_hasKeyFor_5 : decode b_Rc_hasKeyFor 5 = .ok (.invokestatic 105, 3) := by decide +kernel
theorem d_Rc_hasKeyFor_8 : decode b_Rc_hasKeyFor 8 = .ok (.aaload, 1) := by decide +kernel
theorem d_Rc_hasKeyFor_9 : decode b_Rc_hasKeyFor 9 = .ok (.getfield 60, 3) := by decide +kernel
theorem d_Rc_hasKeyFor_12 : decode b_Rc_hasKeyFor 12 = .ok (.iload_n 1, 1) := by decide +kernel
theorem d_Rc_hasKeyFor_13 : decode b_Rc_hasKeyFor 13 = .ok (.invokestatic 109, 3) := by decide +kernel
theorem d_Rc_hasKeyFor_16 : decode b_Rc_hasKeyFor 16 = .ok (.if_icmp .lt 7, 3) := by decide +kernel
theorem d_Rc_hasKeyFor_19 : decode b_Rc_hasKeyFor 19 = .ok (.iconst 1, 1) := by decide +kernel
theorem d_Rc_hasKeyFor_20 : decode b_Rc_hasKeyFor 20 = .ok (.goto 4, 3) := by decide +kernel
theorem d_Rc_hasKeyFor_23 : decode b_Rc_hasKeyFor 23 = .ok (.iconst 0, 1) := by decide +kernel
theorem d_Rc_hasKeyFor_24 : decode b_Rc_hasKeyFor 24 = .ok (.ireturn, 1) := by decide +kernel
theorem d_Rc_holdsTwinOf_0 : decode b_Rc_holdsTwinOf 0 = .ok (.iconst 0, 1) := by decide +kernel
theorem d_Rc_holdsTwinOf_1 : decode b_Rc_holdsTwinOf 1 = .ok (.istore_n 2, 1) := by decide +kernel
theorem d_Rc_holdsTwinOf_2 : decode b_Rc_holdsTwinOf 2 = .ok (.iload_n 2, 1) := by decide +kernel
theorem d_Rc_holdsTwinOf_3 : decode b_Rc_holdsTwinOf 3 = .ok (.aload_n 0, 1) := by decide +kernel
theorem d_Rc_holdsTwinOf_4 : decode b_Rc_holdsTwinOf 4 = .ok (.getfield 20, 3) := by decide +kernel
theorem d_Rc_holdsTwinOf_7 : decode b_Rc_holdsTwinOf 7 = .ok (.invokevirtual 95, 3) := by decide +kernel
theorem d_Rc_holdsTwinOf_10 : decode b_Rc_holdsTwinOf 10 = .ok (.if_icmp .ge 29, 3) := by decide +kernel
theorem d_Rc_holdsTwinOf_13 : decode b_Rc_holdsTwinOf 13 = .ok (.aload_n 0, 1) := by decide +kernel
theorem d_Rc_holdsTwinOf_14 : decode b_Rc_holdsTwinOf 14 = .ok (.getfield 20, 3) := by decide +kernel
theorem d_Rc_holdsTwinOf_17 : decode b_Rc_holdsTwinOf 17 = .ok (.iload_n 2, 1) := by decide +kernel
theorem d_Rc_holdsTwinOf_18 : decode b_Rc_holdsTwinOf 18 = .ok (.invokevirtual 137, 3) := by decide +kernel
theorem d_Rc_holdsTwinOf_21 : decode b_Rc_holdsTwinOf 21 = .ok (.checkcast 64, 3) := by decide +kernel
theorem d_Rc_holdsTwinOf_24 : decode b_Rc_holdsTwinOf 24 = .ok (.aload_n 1, 1) := by decide +kernel
theorem d_Rc_holdsTwinOf_25 : decode b_Rc_holdsTwinOf 25 = .ok (.invokevirtual 141, 3) := by decide +kernel
theorem d_Rc_holdsTwinOf_28 : decode b_Rc_holdsTwinOf 28 = .ok (.ifCond .eq 5, 3) := by decide +kernel
theorem d_Rc_holdsTwinOf_31 : decode b_Rc_holdsTwinOf 31 = .ok (.iconst 1, 1) := by decide +kernel
theorem d_Rc_holdsTwinOf_32 : decode b_Rc_holdsTwinOf 32 = .ok (.ireturn, 1) := by decide +kernel
theorem d_Rc_holdsTwinOf_33 : decode b_Rc_holdsTwinOf 33 = .ok (.iinc 2 1, 3) := by decide +kernel
theorem d_Rc_holdsTwinOf_36 : decode b_Rc_holdsTwinOf 36 = .ok (.goto (-34), 3) := by decide +kernel
theorem d_Rc_holdsTwinOf_39 : decode b_Rc_holdsTwinOf 39 = .ok (.iconst 0, 1) := by decide +kernel
theorem d_Rc_holdsTwinOf_40 : decode b_Rc_holdsTwinOf 40 = .ok (.ireturn, 1) := by decide +kernel
theorem d_Rc_nextToRelease_0 : decode b_Rc_nextToRelease 0 = .ok (.iconst (-1), 1) := by decide +kernel
theorem d_Rc_nextToRelease_1 : decode b_Rc_nextToRelease 1 = .ok (.istore_n 1, 1) := by decide +kernel
theorem d_Rc_nextToRelease_2 : decode b_Rc_nextToRelease 2 = .ok (.sipush 513, 3) := by decide +kernel
theorem d_Rc_nextToRelease_5 : decode b_Rc_nextToRelease 5 = .ok (.istore_n 2, 1) := by decide +kernel
theorem d_Rc_nextToRelease_6 : decode b_Rc_nextToRelease 6 = .ok (.iconst 0, 1) := by decide +kernel
theorem d_Rc_nextToRelease_7 : decode b_Rc_nextToRelease 7 = .ok (.istore_n 3, 1) := by decide +kernel
theorem d_Rc_nextToRelease_8 : decode b_Rc_nextToRelease 8 = .ok (.iload_n 3, 1) := by decide +kernel
theorem d_Rc_nextToRelease_9 : decode b_Rc_nextToRelease 9 = .ok (.aload_n 0, 1) := by decide +kernel
theorem d_Rc_nextToRelease_10 : decode b_Rc_nextToRelease 10 = .ok (.getfield 20, 3) := by decide +kernel
theorem d_Rc_nextToRelease_13 : decode b_Rc_nextToRelease 13 = .ok (.invokevirtual 95, 3) := by decide +kernel
theorem d_Rc_nextToRelease_16 : decode b_Rc_nextToRelease 16 = .ok (.if_icmp .ge 45, 3) := by decide +kernel
theorem d_Rc_nextToRelease_19 : decode b_Rc_nextToRelease 19 = .ok (.aload_n 0, 1) := by decide +kernel
theorem d_Rc_nextToRelease_20 : decode b_Rc_nextToRelease 20 = .ok (.getfield 20, 3) := by decide +kernel
theorem d_Rc_nextToRelease_23 : decode b_Rc_nextToRelease 23 = .ok (.iload_n 3, 1) := by decide +kernel
theorem d_Rc_nextToRelease_24 : decode b_Rc_nextToRelease 24 = .ok (.invokevirtual 137, 3) := by decide +kernel
theorem d_Rc_nextToRelease_27 : decode b_Rc_nextToRelease 27 = .ok (.checkcast 64, 3) := by decide +kernel
theorem d_Rc_nextToRelease_30 : decode b_Rc_nextToRelease 30 = .ok (.invokevirtual 75, 3) := by decide +kernel
theorem d_Rc_nextToRelease_33 : decode b_Rc_nextToRelease 33 = .ok (.istore 4, 2) := by decide +kernel
theorem d_Rc_nextToRelease_35 : decode b_Rc_nextToRelease 35 = .ok (.iload 4, 2) := by decide +kernel
theorem d_Rc_nextToRelease_37 : decode b_Rc_nextToRelease 37 = .ok (.iload_n 2, 1) := by decide +kernel
theorem d_Rc_nextToRelease_38 : decode b_Rc_nextToRelease 38 = .ok (.if_icmp .ge 17, 3) := by decide +kernel
theorem d_Rc_nextToRelease_41 : decode b_Rc_nextToRelease 41 = .ok (.aload_n 0, 1) := by decide +kernel
theorem d_Rc_nextToRelease_42 : decode b_Rc_nextToRelease 42 = .ok (.iload 4, 2) := by decide +kernel
theorem d_Rc_nextToRelease_44 : decode b_Rc_nextToRelease 44 = .ok (.invokevirtual 88, 3) := by decide +kernel
theorem d_Rc_nextToRelease_47 : decode b_Rc_nextToRelease 47 = .ok (.ifCond .eq 8, 3) := by decide +kernel
theorem d_Rc_nextToRelease_50 : decode b_Rc_nextToRelease 50 = .ok (.iload_n 3, 1) := by decide +kernel
theorem d_Rc_nextToRelease_51 : decode b_Rc_nextToRelease 51 = .ok (.istore_n 1, 1) := by decide +kernel
theorem d_Rc_nextToRelease_52 : decode b_Rc_nextToRelease 52 = .ok (.iload 4, 2) := by decide +kernel
theorem d_Rc_nextToRelease_54 : decode b_Rc_nextToRelease 54 = .ok (.istore_n 2, 1) := by decide +kernel
theorem d_Rc_nextToRelease_55 : decode b_Rc_nextToRelease 55 = .ok (.iinc 3 1, 3) := by decide +kernel
theorem d_Rc_nextToRelease_58 : decode b_Rc_nextToRelease 58 = .ok (.goto (-50), 3) := by decide +kernel
theorem d_Rc_nextToRelease_61 : decode b_Rc_nextToRelease 61 = .ok (.iload_n 1, 1) := by decide +kernel
theorem d_Rc_nextToRelease_62 : decode b_Rc_nextToRelease 62 = .ok (.ireturn, 1) := by decide +kernel
theorem d_Rc_letGo_0 : decode b_Rc_letGo 0 = .ok (.aload_n 0, 1) := by decide +kernel
theorem d_Rc_letGo_1 : decode b_Rc_letGo 1 = .ok (.dup, 1) := by decide +kernel
theorem d_Rc_letGo_2 : decode b_Rc_letGo 2 = .ok (.getfield 52, 3) := by decide +kernel
theorem d_Rc_letGo_5 : decode b_Rc_letGo 5 = .ok (.iconst 1, 1) := by decide +kernel
theorem d_Rc_letGo_6 : decode b_Rc_letGo 6 = .ok (.iadd, 1) := by decide +kernel
theorem d_Rc_letGo_7 : decode b_Rc_letGo 7 = .ok (.putfield 52, 3) := by decide +kernel
theorem d_Rc_letGo_10 : decode b_Rc_letGo 10 = .ok (.aload_n 0, 1) := by decide +kernel
theorem d_Rc_letGo_11 : decode b_Rc_letGo 11 = .ok (.getfield 24, 3) := by decide +kernel
theorem d_Rc_letGo_14 : decode b_Rc_letGo 14 = .ok (.invokevirtual 95, 3) := by decide +kernel
theorem d_Rc_letGo_17 : decode b_Rc_letGo 17 = .ok (.bipush 100, 2) := by decide +kernel
theorem d_Rc_letGo_19 : decode b_Rc_letGo 19 = .ok (.if_icmp .ge 12, 3) := by decide +kernel
theorem d_Rc_letGo_22 : decode b_Rc_letGo 22 = .ok (.aload_n 0, 1) := by decide +kernel
theorem d_Rc_letGo_23 : decode b_Rc_letGo 23 = .ok (.getfield 24, 3) := by decide +kernel
theorem d_Rc_letGo_26 : decode b_Rc_letGo 26 = .ok (.aload_n 1, 1) := by decide +kernel
theorem d_Rc_letGo_27 : decode b_Rc_letGo 27 = .ok (.invokevirtual 98, 3) := by decide +kernel
theorem d_Rc_letGo_30 : decode b_Rc_letGo 30 = .ok (.pop, 1) := by decide +kernel
theorem d_Rc_letGo_31 : decode b_Rc_letGo 31 = .ok (.aload_n 1, 1) := by decide +kernel
theorem d_Rc_letGo_32 : decode b_Rc_letGo 32 = .ok (.invokevirtual 75, 3) := by decide +kernel
theorem d_Rc_letGo_35 : decode b_Rc_letGo 35 = .ok (.invokestatic 105, 3) := by decide +kernel
theorem d_Rc_letGo_38 : decode b_Rc_letGo 38 = .ok (.iconst 1, 1) := by decide +kernel
theorem d_Rc_letGo_39 : decode b_Rc_letGo 39 = .ok (.iadd, 1) := by decide +kernel
theorem d_Rc_letGo_40 : decode b_Rc_letGo 40 = .ok (.istore_n 2, 1) := by decide +kernel
theorem d_Rc_letGo_41 : decode b_Rc_letGo 41 = .ok (.aload_n 1, 1) := by decide +kernel
theorem d_Rc_letGo_42 : decode b_Rc_letGo 42 = .ok (.invokevirtual 167, 3) := by decide +kernel
theorem d_Rc_letGo_45 : decode b_Rc_letGo 45 = .ok (.iconst 1, 1) := by decide +kernel
theorem d_Rc_letGo_46 : decode b_Rc_letGo 46 = .ok (.if_icmp .ne 36, 3) := by decide +kernel
theorem d_Rc_letGo_49 : decode b_Rc_letGo 49 = .ok (.iload_n 2, 1) := by decide +kernel
theorem d_Rc_letGo_50 : decode b_Rc_letGo 50 = .ok (.bipush 8, 2) := by decide +kernel
theorem d_Rc_letGo_52 : decode b_Rc_letGo 52 = .ok (.if_icmp .ge 30, 3) := by decide +kernel
theorem d_Rc_letGo_55 : decode b_Rc_letGo 55 = .ok (.aload_n 0, 1) := by decide +kernel
theorem d_Rc_letGo_56 : decode b_Rc_letGo 56 = .ok (.getfield 11, 3) := by decide +kernel
theorem d_Rc_letGo_59 : decode b_Rc_letGo 59 = .ok (.iload_n 2, 1) := by decide +kernel
theorem d_Rc_letGo_60 : decode b_Rc_letGo 60 = .ok (.aaload, 1) := by decide +kernel
theorem d_Rc_letGo_61 : decode b_Rc_letGo 61 = .ok (.invokevirtual 56, 3) := by decide +kernel
theorem d_Rc_letGo_64 : decode b_Rc_letGo 64 = .ok (.ifCond .ne 18, 3) := by decide +kernel
theorem d_Rc_letGo_67 : decode b_Rc_letGo 67 = .ok (.aload_n 0, 1) := by decide +kernel
theorem d_Rc_letGo_68 : decode b_Rc_letGo 68 = .ok (.getfield 11, 3) := by decide +kernel
theorem d_Rc_letGo_71 : decode b_Rc_letGo 71 = .ok (.iload_n 2, 1) := by decide +kernel
theorem d_Rc_letGo_72 : decode b_Rc_letGo 72 = .ok (.aaload, 1) := by decide +kernel
theorem d_Rc_letGo_73 : decode b_Rc_letGo 73 = .ok (.aload_n 1, 1) := by decide +kernel
theorem d_Rc_letGo_74 : decode b_Rc_letGo 74 = .ok (.getfield 115, 3) := by decide +kernel
theorem d_Rc_letGo_77 : decode b_Rc_letGo 77 = .ok (.bipush 6, 2) := by decide +kernel
theorem d_Rc_letGo_79 : decode b_Rc_letGo 79 = .ok (.invokevirtual 170, 3) := by decide +kernel
theorem d_Rc_letGo_82 : decode b_Rc_letGo 82 = .ok (.return_, 1) := by decide +kernel
theorem d_Rc_releaseAll_0 : decode b_Rc_releaseAll 0 = .ok (.iconst 0, 1) := by decide +kernel
theorem d_Rc_releaseAll_1 : decode b_Rc_releaseAll 1 = .ok (.istore_n 1, 1) := by decide +kernel
theorem d_Rc_releaseAll_2 : decode b_Rc_releaseAll 2 = .ok (.iload_n 1, 1) := by decide +kernel
theorem d_Rc_releaseAll_3 : decode b_Rc_releaseAll 3 = .ok (.bipush 16, 2) := by decide +kernel
theorem d_Rc_releaseAll_5 : decode b_Rc_releaseAll 5 = .ok (.if_icmp .ge 94, 3) := by decide +kernel
theorem d_Rc_releaseAll_8 : decode b_Rc_releaseAll 8 = .ok (.aload_n 0, 1) := by decide +kernel
theorem d_Rc_releaseAll_9 : decode b_Rc_releaseAll 9 = .ok (.invokevirtual 144, 3) := by decide +kernel
theorem d_Rc_releaseAll_12 : decode b_Rc_releaseAll 12 = .ok (.istore_n 2, 1) := by decide +kernel
theorem d_Rc_releaseAll_13 : decode b_Rc_releaseAll 13 = .ok (.iload_n 2, 1) := by decide +kernel
theorem d_Rc_releaseAll_14 : decode b_Rc_releaseAll 14 = .ok (.iconst (-1), 1) := by decide +kernel
theorem d_Rc_releaseAll_15 : decode b_Rc_releaseAll 15 = .ok (.if_icmp .ne 4, 3) := by decide +kernel
theorem d_Rc_releaseAll_18 : decode b_Rc_releaseAll 18 = .ok (.return_, 1) := by decide +kernel
theorem d_Rc_releaseAll_19 : decode b_Rc_releaseAll 19 = .ok (.aload_n 0, 1) := by decide +kernel
theorem d_Rc_releaseAll_20 : decode b_Rc_releaseAll 20 = .ok (.getfield 20, 3) := by decide +kernel
theorem d_Rc_releaseAll_23 : decode b_Rc_releaseAll 23 = .ok (.iload_n 2, 1) := by decide +kernel
theorem d_Rc_releaseAll_24 : decode b_Rc_releaseAll 24 = .ok (.invokevirtual 147, 3) := by decide +kernel
theorem d_Rc_releaseAll_27 : decode b_Rc_releaseAll 27 = .ok (.checkcast 64, 3) := by decide +kernel
theorem d_Rc_releaseAll_30 : decode b_Rc_releaseAll 30 = .ok (.astore_n 3, 1) := by decide +kernel
theorem d_Rc_releaseAll_31 : decode b_Rc_releaseAll 31 = .ok (.aload_n 3, 1) := by decide +kernel
theorem d_Rc_releaseAll_32 : decode b_Rc_releaseAll 32 = .ok (.invokevirtual 75, 3) := by decide +kernel
theorem d_Rc_releaseAll_35 : decode b_Rc_releaseAll 35 = .ok (.istore 4, 2) := by decide +kernel
theorem d_Rc_releaseAll_37 : decode b_Rc_releaseAll 37 = .ok (.aload_n 0, 1) := by decide +kernel
theorem d_Rc_releaseAll_38 : decode b_Rc_releaseAll 38 = .ok (.getfield 11, 3) := by decide +kernel
theorem d_Rc_releaseAll_41 : decode b_Rc_releaseAll 41 = .ok (.iload 4, 2) := by decide +kernel
theorem d_Rc_releaseAll_43 : decode b_Rc_releaseAll 43 = .ok (.invokestatic 105, 3) := by decide +kernel
theorem d_Rc_releaseAll_46 : decode b_Rc_releaseAll 46 = .ok (.aaload, 1) := by decide +kernel
theorem d_Rc_releaseAll_47 : decode b_Rc_releaseAll 47 = .ok (.iload 4, 2) := by decide +kernel
theorem d_Rc_releaseAll_49 : decode b_Rc_releaseAll 49 = .ok (.invokestatic 109, 3) := by decide +kernel
theorem d_Rc_releaseAll_52 : decode b_Rc_releaseAll 52 = .ok (.aload_n 3, 1) := by decide +kernel
theorem d_Rc_releaseAll_53 : decode b_Rc_releaseAll 53 = .ok (.aload_n 0, 1) := by decide +kernel
theorem d_Rc_releaseAll_54 : decode b_Rc_releaseAll 54 = .ok (.getfield 35, 3) := by decide +kernel
theorem d_Rc_releaseAll_57 : decode b_Rc_releaseAll 57 = .ok (.invokevirtual 150, 3) := by decide +kernel
theorem d_Rc_releaseAll_60 : decode b_Rc_releaseAll 60 = .ok (.aload_n 3, 1) := by decide +kernel
theorem d_Rc_releaseAll_61 : decode b_Rc_releaseAll 61 = .ok (.aload_n 0, 1) := by decide +kernel
theorem d_Rc_releaseAll_62 : decode b_Rc_releaseAll 62 = .ok (.getfield 35, 3) := by decide +kernel
theorem d_Rc_releaseAll_65 : decode b_Rc_releaseAll 65 = .ok (.getfield 154, 3) := by decide +kernel
theorem d_Rc_releaseAll_68 : decode b_Rc_releaseAll 68 = .ok (.invokevirtual 159, 3) := by decide +kernel
theorem d_Rc_releaseAll_71 : decode b_Rc_releaseAll 71 = .ok (.ifCond .eq 11, 3) := by decide +kernel
theorem d_Rc_releaseAll_74 : decode b_Rc_releaseAll 74 = .ok (.aload_n 0, 1) := by decide +kernel
theorem d_Rc_releaseAll_75 : decode b_Rc_releaseAll 75 = .ok (.aload_n 3, 1) := by decide +kernel
theorem d_Rc_releaseAll_76 : decode b_Rc_releaseAll 76 = .ok (.invokevirtual 163, 3) := by decide +kernel
theorem d_Rc_releaseAll_79 : decode b_Rc_releaseAll 79 = .ok (.goto 14, 3) := by decide +kernel
theorem d_Rc_releaseAll_82 : decode b_Rc_releaseAll 82 = .ok (.aload_n 0, 1) := by decide +kernel
theorem d_Rc_releaseAll_83 : decode b_Rc_releaseAll 83 = .ok (.getfield 27, 3) := by decide +kernel
theorem d_Rc_releaseAll_86 : decode b_Rc_releaseAll 86 = .ok (.bipush 6, 2) := by decide +kernel
theorem d_Rc_releaseAll_88 : decode b_Rc_releaseAll 88 = .ok (.dup2, 1) := by decide +kernel
theorem d_Rc_releaseAll_89 : decode b_Rc_releaseAll 89 = .ok (.iaload, 1) := by decide +kernel
theorem d_Rc_releaseAll_90 : decode b_Rc_releaseAll 90 = .ok (.iconst 1, 1) := by decide +kernel
theorem d_Rc_releaseAll_91 : decode b_Rc_releaseAll 91 = .ok (.iadd, 1) := by decide +kernel
theorem d_Rc_releaseAll_92 : decode b_Rc_releaseAll 92 = .ok (.iastore, 1) := by decide +kernel
theorem d_Rc_releaseAll_93 : decode b_Rc_releaseAll 93 = .ok (.iinc 1 1, 3) := by decide +kernel
theorem d_Rc_releaseAll_96 : decode b_Rc_releaseAll 96 = .ok (.goto (-94), 3) := by decide +kernel
theorem d_Rc_releaseAll_99 : decode b_Rc_releaseAll 99 = .ok (.return_, 1) := by decide +kernel
theorem d_Rc_take_0 : decode b_Rc_take 0 = .ok (.aload_n 1, 1) := by decide +kernel
theorem d_Rc_take_1 : decode b_Rc_take 1 = .ok (.invokevirtual 63, 3) := by decide +kernel
theorem d_Rc_take_4 : decode b_Rc_take 4 = .ok (.ifCond .eq 5, 3) := by decide +kernel
theorem d_Rc_take_7 : decode b_Rc_take 7 = .ok (.iconst 5, 1) := by decide +kernel
theorem d_Rc_take_8 : decode b_Rc_take 8 = .ok (.ireturn, 1) := by decide +kernel
theorem d_Rc_take_9 : decode b_Rc_take 9 = .ok (.aload_n 0, 1) := by decide +kernel
theorem d_Rc_take_10 : decode b_Rc_take 10 = .ok (.aload_n 1, 1) := by decide +kernel
theorem d_Rc_take_11 : decode b_Rc_take 11 = .ok (.invokevirtual 68, 3) := by decide +kernel
theorem d_Rc_take_14 : decode b_Rc_take 14 = .ok (.ifCond .ne 5, 3) := by decide +kernel
theorem d_Rc_take_17 : decode b_Rc_take 17 = .ok (.iconst 2, 1) := by decide +kernel
theorem d_Rc_take_18 : decode b_Rc_take 18 = .ok (.ireturn, 1) := by decide +kernel
theorem d_Rc_take_19 : decode b_Rc_take 19 = .ok (.aload_n 0, 1) := by decide +kernel
theorem d_Rc_take_20 : decode b_Rc_take 20 = .ok (.invokevirtual 72, 3) := by decide +kernel
theorem d_Rc_take_23 : decode b_Rc_take 23 = .ok (.aload_n 1, 1) := by decide +kernel
theorem d_Rc_take_24 : decode b_Rc_take 24 = .ok (.invokevirtual 75, 3) := by decide +kernel
theorem d_Rc_take_27 : decode b_Rc_take 27 = .ok (.istore_n 2, 1) := by decide +kernel
theorem d_Rc_take_28 : decode b_Rc_take 28 = .ok (.aload_n 0, 1) := by decide +kernel
theorem d_Rc_take_29 : decode b_Rc_take 29 = .ok (.getfield 31, 3) := by decide +kernel
theorem d_Rc_take_32 : decode b_Rc_take 32 = .ok (.iload_n 2, 1) := by decide +kernel
theorem d_Rc_take_33 : decode b_Rc_take 33 = .ok (.aload_n 0, 1) := by decide +kernel
theorem d_Rc_take_34 : decode b_Rc_take 34 = .ok (.getfield 79, 3) := by decide +kernel
theorem d_Rc_take_37 : decode b_Rc_take 37 = .ok (.invokevirtual 82, 3) := by decide +kernel
theorem d_Rc_take_40 : decode b_Rc_take 40 = .ok (.ifCond .ne 11, 3) := by decide +kernel
theorem d_Rc_take_43 : decode b_Rc_take 43 = .ok (.aload_n 0, 1) := by decide +kernel
theorem d_Rc_take_44 : decode b_Rc_take 44 = .ok (.iload_n 2, 1) := by decide +kernel
theorem d_Rc_take_45 : decode b_Rc_take 45 = .ok (.invokevirtual 88, 3) := by decide +kernel
theorem d_Rc_take_48 : decode b_Rc_take 48 = .ok (.ifCond .eq 5, 3) := by decide +kernel
theorem d_Rc_take_51 : decode b_Rc_take 51 = .ok (.iconst 1, 1) := by decide +kernel
theorem d_Rc_take_52 : decode b_Rc_take 52 = .ok (.ireturn, 1) := by decide +kernel
theorem d_Rc_take_53 : decode b_Rc_take 53 = .ok (.aload_n 0, 1) := by decide +kernel
theorem d_Rc_take_54 : decode b_Rc_take 54 = .ok (.aload_n 1, 1) := by decide +kernel
theorem d_Rc_take_55 : decode b_Rc_take 55 = .ok (.invokevirtual 92, 3) := by decide +kernel
theorem d_Rc_take_58 : decode b_Rc_take 58 = .ok (.ifCond .eq 5, 3) := by decide +kernel
theorem d_Rc_take_61 : decode b_Rc_take 61 = .ok (.iconst 3, 1) := by decide +kernel
theorem d_Rc_take_62 : decode b_Rc_take 62 = .ok (.ireturn, 1) := by decide +kernel
theorem d_Rc_take_63 : decode b_Rc_take 63 = .ok (.aload_n 0, 1) := by decide +kernel
theorem d_Rc_take_64 : decode b_Rc_take 64 = .ok (.getfield 20, 3) := by decide +kernel
theorem d_Rc_take_67 : decode b_Rc_take 67 = .ok (.invokevirtual 95, 3) := by decide +kernel
theorem d_Rc_take_70 : decode b_Rc_take 70 = .ok (.bipush 16, 2) := by decide +kernel
theorem d_Rc_take_72 : decode b_Rc_take 72 = .ok (.if_icmp .lt 5, 3) := by decide +kernel
theorem d_Rc_take_75 : decode b_Rc_take 75 = .ok (.iconst 4, 1) := by decide +kernel
theorem d_Rc_take_76 : decode b_Rc_take 76 = .ok (.ireturn, 1) := by decide +kernel
theorem d_Rc_take_77 : decode b_Rc_take 77 = .ok (.aload_n 0, 1) := by decide +kernel
theorem d_Rc_take_78 : decode b_Rc_take 78 = .ok (.getfield 20, 3) := by decide +kernel
theorem d_Rc_take_81 : decode b_Rc_take 81 = .ok (.aload_n 1, 1) := by decide +kernel
theorem d_Rc_take_82 : decode b_Rc_take 82 = .ok (.invokevirtual 98, 3) := by decide +kernel
theorem d_Rc_take_85 : decode b_Rc_take 85 = .ok (.pop, 1) := by decide +kernel
theorem d_Rc_take_86 : decode b_Rc_take 86 = .ok (.iconst 0, 1) := by decide +kernel
theorem d_Rc_take_87 : decode b_Rc_take 87 = .ok (.ireturn, 1) := by decide +kernel
end
section
theorem q_1_136 : (Jvm.Cond.classLink "BulletinOffice$Receiver" (9 : Nat) "BulletinOffice$KeyChain") ∈ hv_ws := wm (wc_1 (List.mem_of_getElem? (i := 136) rfl)) rfl
theorem q_1_137 : (Jvm.Cond.classLink "BulletinOffice$Receiver" (17 : Nat) "java/util/ArrayList") ∈ hv_ws := wm (wc_1 (List.mem_of_getElem? (i := 137) rfl)) rfl
theorem q_1_104 : (Jvm.Cond.instantiable "java/util/ArrayList" (3 : Nat)) ∈ hv_ws := wm (wc_1 (List.mem_of_getElem? (i := 104) rfl)) rfl
theorem nw_Rc_17 : hv_nw "BulletinOffice$Receiver" 17 7 3 [.null, .int 0, .int 0] := ⟨R7, T7, ty7, rfl, hin7, tk7, q_1_137, q_1_104, q_1_8, fun j hj => match j, hj with
  | 0, _ => rfl
  | 1, _ => rfl
  | 2, _ => rfl
  | n + 3, h => absurd h (by omega)⟩
theorem q_1_107 : (Jvm.Cond.code ({ cls := "java/util/ArrayList", name := "<init>", desc := "()V" } : Jvm.MethodName) prog_23_method_2_code (1 : Nat) (Option.none : Option Jvm.ClassFile.FieldType)) ∈ hv_ws := wm (wc_1 (List.mem_of_getElem? (i := 107) rfl)) rfl
theorem q_1_138 : (Jvm.Cond.methodLink "BulletinOffice$Receiver" (19 : Nat) ({ cls := "java/util/ArrayList", name := "<init>", desc := "()V" } : Jvm.MethodName)) ∈ hv_ws := wm (wc_1 (List.mem_of_getElem? (i := 138) rfl)) rfl
theorem cs_Rc_19 : hv_cs "BulletinOffice$Receiver" 19 y_Al_init b_Al_init 1 none 0 := ⟨q_1_107, q_1_8, ⟨by decide, by decide⟩, by decide +kernel, Or.inl q_1_138⟩
theorem q_1_106 : (Jvm.Cond.instanceMethod ({ cls := "java/util/ArrayList", name := "<init>", desc := "()V" } : Jvm.MethodName)) ∈ hv_ws := wm (wc_1 (List.mem_of_getElem? (i := 106) rfl)) rfl
theorem q_1_154 : (Jvm.Cond.laysFinal "BulletinOffice$Receiver" "BulletinOffice$Receiver" "clock" "LBulletinOffice$Clock;") ∈ hv_ws := wm (wc_1 (List.mem_of_getElem? (i := 154) rfl)) rfl
theorem q_1_156 : (Jvm.Cond.laysFinal "BulletinOffice$Receiver" "BulletinOffice$Receiver" "sealer" "LBulletinOffice$Sealer;") ∈ hv_ws := wm (wc_1 (List.mem_of_getElem? (i := 156) rfl)) rfl
theorem q_1_158 : (Jvm.Cond.laysFinal "BulletinOffice$Receiver" "BulletinOffice$Receiver" "known" "[LBulletinOffice$KeyChain;") ∈ hv_ws := wm (wc_1 (List.mem_of_getElem? (i := 158) rfl)) rfl
theorem q_1_160 : (Jvm.Cond.laysFinal "BulletinOffice$Receiver" "BulletinOffice$Receiver" "held" "Ljava/util/ArrayList;") ∈ hv_ws := wm (wc_1 (List.mem_of_getElem? (i := 160) rfl)) rfl
theorem q_1_162 : (Jvm.Cond.laysFinal "BulletinOffice$Receiver" "BulletinOffice$Receiver" "kept" "Ljava/util/ArrayList;") ∈ hv_ws := wm (wc_1 (List.mem_of_getElem? (i := 162) rfl)) rfl
theorem q_1_164 : (Jvm.Cond.laysFinal "BulletinOffice$Receiver" "BulletinOffice$Receiver" "counts" "[I") ∈ hv_ws := wm (wc_1 (List.mem_of_getElem? (i := 164) rfl)) rfl
theorem q_1_166 : (Jvm.Cond.lays "BulletinOffice$Receiver" "BulletinOffice$Receiver" "releasedCount" "I") ∈ hv_ws := wm (wc_1 (List.mem_of_getElem? (i := 166) rfl)) rfl
theorem q_1_168 : (Jvm.Cond.lays "BulletinOffice$Receiver" "BulletinOffice$Receiver" "drift" "I") ∈ hv_ws := wm (wc_1 (List.mem_of_getElem? (i := 168) rfl)) rfl
theorem hin4 : ∀ w ∈ u_ws R4 T4 8, w ∈ hv_ws := by
  intro w hw
  obtain ⟨k, hk, rfl⟩ := List.mem_map.mp hw
  have hk := List.mem_range.mp hk
  match k, hk with
  | 0, _ => exact q_1_154
  | 1, _ => exact q_1_156
  | 2, _ => exact q_1_158
  | 3, _ => exact q_1_160
  | 4, _ => exact q_1_162
  | 5, _ => exact q_1_164
  | 6, _ => exact q_1_166
  | 7, _ => exact q_1_168
  | n + 8, h => exact absurd h (by omega)
theorem q_1_142 : (Jvm.Cond.fieldLink "BulletinOffice$Receiver" (11 : Nat) "BulletinOffice$Receiver" "known" "[LBulletinOffice$KeyChain;") ∈ hv_ws := wm (wc_1 (List.mem_of_getElem? (i := 142) rfl)) rfl
theorem fa_Rc_11 : hv_fa "BulletinOffice$Receiver" 11 4 2 := ⟨R4, T4, 8, "BulletinOffice$Receiver", rfl, hin4, by decide, Or.inl q_1_142, Or.inl rfl⟩
theorem q_1_86 : (Jvm.Cond.instantiable "BulletinOffice$KeyChain" (3 : Nat)) ∈ hv_ws := wm (wc_1 (List.mem_of_getElem? (i := 86) rfl)) rfl
theorem nw_Rc_9 : hv_nw "BulletinOffice$Receiver" 9 2 3 [.null, .int 0, .int 0] := ⟨R2, T2, ty2, rfl, hin2, tk2, q_1_136, q_1_86, q_1_5, fun j hj => match j, hj with
  | 0, _ => rfl
  | 1, _ => rfl
  | 2, _ => rfl
  | n + 3, h => absurd h (by omega)⟩
theorem q_1_89 : (Jvm.Cond.code ({ cls := "BulletinOffice$KeyChain", name := "<init>", desc := "()V" } : Jvm.MethodName) prog_3_method_1_code (1 : Nat) (Option.none : Option Jvm.ClassFile.FieldType)) ∈ hv_ws := wm (wc_1 (List.mem_of_getElem? (i := 89) rfl)) rfl
theorem cs_Rc_39 : hv_cs "BulletinOffice$Receiver" 39 y_Kc_init b_Kc_init 1 none 0 := ⟨q_1_89, q_1_5, ⟨by decide, by decide⟩, by decide +kernel, Or.inr ⟨"BulletinOffice", List.mem_of_getElem? (i := 2) rfl⟩⟩
theorem q_1_88 : (Jvm.Cond.instanceMethod ({ cls := "BulletinOffice$KeyChain", name := "<init>", desc := "()V" } : Jvm.MethodName)) ∈ hv_ws := wm (wc_1 (List.mem_of_getElem? (i := 88) rfl)) rfl
theorem q_1_141 : (Jvm.Cond.fieldLink "BulletinOffice$Receiver" (35 : Nat) "BulletinOffice$Receiver" "sealer" "LBulletinOffice$Sealer;") ∈ hv_ws := wm (wc_1 (List.mem_of_getElem? (i := 141) rfl)) rfl
theorem fp_Rc_35 : hv_fp "BulletinOffice$Receiver" 35 4 1 (.object "BulletinOffice$Sealer") true := ⟨R4, T4, 8, "BulletinOffice$Receiver", ty4, rfl, hin4, by decide, Or.inl q_1_141, Or.inl rfl, tk4, nm4, rfl, (fun _ => rfl), tk4 1 (by decide)⟩
theorem q_1_140 : (Jvm.Cond.fieldLink "BulletinOffice$Receiver" (31 : Nat) "BulletinOffice$Receiver" "clock" "LBulletinOffice$Clock;") ∈ hv_ws := wm (wc_1 (List.mem_of_getElem? (i := 140) rfl)) rfl
theorem fp_Rc_31 : hv_fp "BulletinOffice$Receiver" 31 4 0 (.object "BulletinOffice$Clock") true := ⟨R4, T4, 8, "BulletinOffice$Receiver", ty4, rfl, hin4, by decide, Or.inl q_1_140, Or.inl rfl, tk4, nm4, rfl, (fun _ => rfl), tk4 0 (by decide)⟩
theorem q_1_148 : (Jvm.Cond.fieldLink "BulletinOffice$Receiver" (27 : Nat) "BulletinOffice$Receiver" "counts" "[I") ∈ hv_ws := wm (wc_1 (List.mem_of_getElem? (i := 148) rfl)) rfl
theorem fp_Rc_27 : hv_fp "BulletinOffice$Receiver" 27 4 5 (.array (.int)) true := ⟨R4, T4, 8, "BulletinOffice$Receiver", ty4, rfl, hin4, by decide, Or.inl q_1_148, Or.inl rfl, tk4, nm4, rfl, (fun _ => rfl), tk4 5 (by decide)⟩
theorem q_1_146 : (Jvm.Cond.fieldLink "BulletinOffice$Receiver" (24 : Nat) "BulletinOffice$Receiver" "kept" "Ljava/util/ArrayList;") ∈ hv_ws := wm (wc_1 (List.mem_of_getElem? (i := 146) rfl)) rfl
theorem fp_Rc_24 : hv_fp "BulletinOffice$Receiver" 24 4 4 (.object "java/util/ArrayList") true := ⟨R4, T4, 8, "BulletinOffice$Receiver", ty4, rfl, hin4, by decide, Or.inl q_1_146, Or.inl rfl, tk4, nm4, rfl, (fun _ => rfl), tk4 4 (by decide)⟩
theorem q_1_144 : (Jvm.Cond.fieldLink "BulletinOffice$Receiver" (20 : Nat) "BulletinOffice$Receiver" "held" "Ljava/util/ArrayList;") ∈ hv_ws := wm (wc_1 (List.mem_of_getElem? (i := 144) rfl)) rfl
theorem fp_Rc_20 : hv_fp "BulletinOffice$Receiver" 20 4 3 (.object "java/util/ArrayList") true := ⟨R4, T4, 8, "BulletinOffice$Receiver", ty4, rfl, hin4, by decide, Or.inl q_1_144, Or.inl rfl, tk4, nm4, rfl, (fun _ => rfl), tk4 3 (by decide)⟩
theorem fp_Rc_11 : hv_fp "BulletinOffice$Receiver" 11 4 2 (.array (.object "BulletinOffice$KeyChain")) true := ⟨R4, T4, 8, "BulletinOffice$Receiver", ty4, rfl, hin4, by decide, Or.inl q_1_142, Or.inl rfl, tk4, nm4, rfl, (fun _ => rfl), tk4 2 (by decide)⟩
theorem q_1_135 : (Jvm.Cond.methodLink "BulletinOffice$Receiver" (3 : Nat) ({ cls := "java/lang/Object", name := "<init>", desc := "()V" } : Jvm.MethodName)) ∈ hv_ws := wm (wc_1 (List.mem_of_getElem? (i := 135) rfl)) rfl
theorem q_1_32 : (Jvm.Cond.classLink "BulletinOffice" (7 : Nat) "BulletinOffice$Clock") ∈ hv_ws := wm (wc_1 (List.mem_of_getElem? (i := 32) rfl)) rfl
theorem q_1_33 : (Jvm.Cond.instantiable "BulletinOffice$Clock" (4 : Nat)) ∈ hv_ws := wm (wc_1 (List.mem_of_getElem? (i := 33) rfl)) rfl
theorem q_1_2 : (Jvm.Cond.initialized "BulletinOffice$Clock") ∈ hv_ws := wm (wc_1 (List.mem_of_getElem? (i := 2) rfl)) rfl
theorem nw_Of_7 : hv_nw "BulletinOffice" 7 0 4 [.int 0, .int 0, .int 0, .int 0] := ⟨R0, T0, ty0, rfl, hin0, tk0, q_1_32, q_1_33, q_1_2, fun j hj => match j, hj with
  | 0, _ => rfl
  | 1, _ => rfl
  | 2, _ => rfl
  | 3, _ => rfl
  | n + 4, h => absurd h (by omega)⟩
theorem q_1_36 : (Jvm.Cond.code ({ cls := "java/lang/Math", name := "floorMod", desc := "(II)I" } : Jvm.MethodName) prog_16_method_50_code (3 : Nat) (Option.some Jvm.ClassFile.FieldType.int)) ∈ hv_ws := wm (wc_1 (List.mem_of_getElem? (i := 36) rfl)) rfl
theorem q_1_34 : (Jvm.Cond.methodLink "BulletinOffice" (9 : Nat) ({ cls := "java/lang/Math", name := "floorMod", desc := "(II)I" } : Jvm.MethodName)) ∈ hv_ws := wm (wc_1 (List.mem_of_getElem? (i := 34) rfl)) rfl
theorem cs_Of_9 : hv_cs "BulletinOffice" 9 y_Mt_floorMod b_Mt_floorMod 3 (some (.int)) 2 := ⟨q_1_36, q_1_3, ⟨by decide, by decide⟩, by decide +kernel, Or.inl q_1_34⟩
theorem q_1_35 : (Jvm.Cond.static ({ cls := "java/lang/Math", name := "floorMod", desc := "(II)I" } : Jvm.MethodName)) ∈ hv_ws := wm (wc_1 (List.mem_of_getElem? (i := 35) rfl)) rfl
theorem q_1_39 : (Jvm.Cond.code ({ cls := "BulletinOffice$Clock", name := "<init>", desc := "(III)V" } : Jvm.MethodName) prog_2_method_1_code (4 : Nat) (Option.none : Option Jvm.ClassFile.FieldType)) ∈ hv_ws := wm (wc_1 (List.mem_of_getElem? (i := 39) rfl)) rfl
theorem q_1_37 : (Jvm.Cond.methodLink "BulletinOffice" (15 : Nat) ({ cls := "BulletinOffice$Clock", name := "<init>", desc := "(III)V" } : Jvm.MethodName)) ∈ hv_ws := wm (wc_1 (List.mem_of_getElem? (i := 37) rfl)) rfl
theorem cs_Of_15 : hv_cs "BulletinOffice" 15 y_Ck_init b_Ck_init 4 none 3 := ⟨q_1_39, q_1_2, ⟨by decide, by decide⟩, by decide +kernel, Or.inl q_1_37⟩
theorem q_1_38 : (Jvm.Cond.instanceMethod ({ cls := "BulletinOffice$Clock", name := "<init>", desc := "(III)V" } : Jvm.MethodName)) ∈ hv_ws := wm (wc_1 (List.mem_of_getElem? (i := 38) rfl)) rfl
theorem q_1_57 : (Jvm.Cond.classLink "BulletinOffice" (24 : Nat) "BulletinOffice$Sealer") ∈ hv_ws := wm (wc_1 (List.mem_of_getElem? (i := 57) rfl)) rfl
theorem q_1_58 : (Jvm.Cond.instantiable "BulletinOffice$Sealer" (5 : Nat)) ∈ hv_ws := wm (wc_1 (List.mem_of_getElem? (i := 58) rfl)) rfl
theorem nw_Of_24 : hv_nw "BulletinOffice" 24 1 5 [.null, .null, .null, .int 0, .null] := ⟨R1, T1, ty1, rfl, hin1, tk1, q_1_57, q_1_58, q_1_4, fun j hj => match j, hj with
  | 0, _ => rfl
  | 1, _ => rfl
  | 2, _ => rfl
  | 3, _ => rfl
  | 4, _ => rfl
  | n + 5, h => absurd h (by omega)⟩
theorem q_1_61 : (Jvm.Cond.code ({ cls := "BulletinOffice$Sealer", name := "<init>", desc := "()V" } : Jvm.MethodName) prog_6_method_1_code (1 : Nat) (Option.none : Option Jvm.ClassFile.FieldType)) ∈ hv_ws := wm (wc_1 (List.mem_of_getElem? (i := 61) rfl)) rfl
theorem cs_Of_26 : hv_cs "BulletinOffice" 26 y_Sl_init b_Sl_init 1 none 0 := ⟨q_1_61, q_1_4, ⟨by decide, by decide⟩, by decide +kernel, Or.inr ⟨"BulletinOffice", List.mem_of_getElem? (i := 0) rfl⟩⟩
theorem q_1_60 : (Jvm.Cond.instanceMethod ({ cls := "BulletinOffice$Sealer", name := "<init>", desc := "()V" } : Jvm.MethodName)) ∈ hv_ws := wm (wc_1 (List.mem_of_getElem? (i := 60) rfl)) rfl
theorem q_1_84 : (Jvm.Cond.classLink "BulletinOffice" (35 : Nat) "BulletinOffice$KeyChain") ∈ hv_ws := wm (wc_1 (List.mem_of_getElem? (i := 84) rfl)) rfl
theorem q_1_178 : (Jvm.Cond.laysFinal "BulletinOffice" "BulletinOffice" "clock" "LBulletinOffice$Clock;") ∈ hv_ws := wm (wc_1 (List.mem_of_getElem? (i := 178) rfl)) rfl
theorem q_1_180 : (Jvm.Cond.laysFinal "BulletinOffice" "BulletinOffice" "sealer" "LBulletinOffice$Sealer;") ∈ hv_ws := wm (wc_1 (List.mem_of_getElem? (i := 180) rfl)) rfl
theorem q_1_182 : (Jvm.Cond.laysFinal "BulletinOffice" "BulletinOffice" "buffer" "[I") ∈ hv_ws := wm (wc_1 (List.mem_of_getElem? (i := 182) rfl)) rfl
theorem q_1_184 : (Jvm.Cond.laysFinal "BulletinOffice" "BulletinOffice" "chains" "[LBulletinOffice$KeyChain;") ∈ hv_ws := wm (wc_1 (List.mem_of_getElem? (i := 184) rfl)) rfl
theorem q_1_186 : (Jvm.Cond.lays "BulletinOffice" "BulletinOffice" "chainCount" "I") ∈ hv_ws := wm (wc_1 (List.mem_of_getElem? (i := 186) rfl)) rfl
theorem q_1_188 : (Jvm.Cond.laysFinal "BulletinOffice" "BulletinOffice" "packets" "Ljava/util/ArrayList;") ∈ hv_ws := wm (wc_1 (List.mem_of_getElem? (i := 188) rfl)) rfl
theorem q_1_190 : (Jvm.Cond.laysFinal "BulletinOffice" "BulletinOffice" "receivers" "[LBulletinOffice$Receiver;") ∈ hv_ws := wm (wc_1 (List.mem_of_getElem? (i := 190) rfl)) rfl
theorem hin5 : ∀ w ∈ u_ws R5 T5 7, w ∈ hv_ws := by
  intro w hw
  obtain ⟨k, hk, rfl⟩ := List.mem_map.mp hw
  have hk := List.mem_range.mp hk
  match k, hk with
  | 0, _ => exact q_1_178
  | 1, _ => exact q_1_180
  | 2, _ => exact q_1_182
  | 3, _ => exact q_1_184
  | 4, _ => exact q_1_186
  | 5, _ => exact q_1_188
  | 6, _ => exact q_1_190
  | n + 7, h => exact absurd h (by omega)
theorem q_1_174 : (Jvm.Cond.fieldLink "BulletinOffice" (37 : Nat) "BulletinOffice" "chains" "[LBulletinOffice$KeyChain;") ∈ hv_ws := wm (wc_1 (List.mem_of_getElem? (i := 174) rfl)) rfl
theorem fa_Of_37 : hv_fa "BulletinOffice" 37 5 3 := ⟨R5, T5, 7, "BulletinOffice", rfl, hin5, by decide, Or.inl q_1_174, Or.inl rfl⟩
theorem nw_Of_35 : hv_nw "BulletinOffice" 35 2 3 [.null, .int 0, .int 0] := ⟨R2, T2, ty2, rfl, hin2, tk2, q_1_84, q_1_86, q_1_5, fun j hj => match j, hj with
  | 0, _ => rfl
  | 1, _ => rfl
  | 2, _ => rfl
  | n + 3, h => absurd h (by omega)⟩
theorem cs_Of_41 : hv_cs "BulletinOffice" 41 y_Kc_init b_Kc_init 1 none 0 := ⟨q_1_89, q_1_5, ⟨by decide, by decide⟩, by decide +kernel, Or.inr ⟨"BulletinOffice", List.mem_of_getElem? (i := 1) rfl⟩⟩
theorem q_1_103 : (Jvm.Cond.classLink "BulletinOffice" (42 : Nat) "java/util/ArrayList") ∈ hv_ws := wm (wc_1 (List.mem_of_getElem? (i := 103) rfl)) rfl
theorem nw_Of_42 : hv_nw "BulletinOffice" 42 7 3 [.null, .int 0, .int 0] := ⟨R7, T7, ty7, rfl, hin7, tk7, q_1_103, q_1_104, q_1_8, fun j hj => match j, hj with
  | 0, _ => rfl
  | 1, _ => rfl
  | 2, _ => rfl
  | n + 3, h => absurd h (by omega)⟩
theorem q_1_105 : (Jvm.Cond.methodLink "BulletinOffice" (44 : Nat) ({ cls := "java/util/ArrayList", name := "<init>", desc := "()V" } : Jvm.MethodName)) ∈ hv_ws := wm (wc_1 (List.mem_of_getElem? (i := 105) rfl)) rfl
theorem cs_Of_44 : hv_cs "BulletinOffice" 44 y_Al_init b_Al_init 1 none 0 := ⟨q_1_107, q_1_8, ⟨by decide, by decide⟩, by decide +kernel, Or.inl q_1_105⟩
theorem q_1_129 : (Jvm.Cond.classLink "BulletinOffice" (49 : Nat) "BulletinOffice$Receiver") ∈ hv_ws := wm (wc_1 (List.mem_of_getElem? (i := 129) rfl)) rfl
theorem q_1_177 : (Jvm.Cond.fieldLink "BulletinOffice" (51 : Nat) "BulletinOffice" "receivers" "[LBulletinOffice$Receiver;") ∈ hv_ws := wm (wc_1 (List.mem_of_getElem? (i := 177) rfl)) rfl
theorem fa_Of_51 : hv_fa "BulletinOffice" 51 5 6 := ⟨R5, T5, 7, "BulletinOffice", rfl, hin5, by decide, Or.inl q_1_177, Or.inl rfl⟩
theorem q_1_131 : (Jvm.Cond.instantiable "BulletinOffice$Receiver" (8 : Nat)) ∈ hv_ws := wm (wc_1 (List.mem_of_getElem? (i := 131) rfl)) rfl
theorem q_1_9 : (Jvm.Cond.initialized "BulletinOffice$Receiver") ∈ hv_ws := wm (wc_1 (List.mem_of_getElem? (i := 9) rfl)) rfl
theorem nw_Of_49 : hv_nw "BulletinOffice" 49 4 8 [.null, .null, .null, .null, .null, .null, .int 0, .int 0] := ⟨R4, T4, ty4, rfl, hin4, tk4, q_1_129, q_1_131, q_1_9, fun j hj => match j, hj with
  | 0, _ => rfl
  | 1, _ => rfl
  | 2, _ => rfl
  | 3, _ => rfl
  | 4, _ => rfl
  | 5, _ => rfl
  | 6, _ => rfl
  | 7, _ => rfl
  | n + 8, h => absurd h (by omega)⟩
theorem q_1_171 : (Jvm.Cond.fieldLink "BulletinOffice" (18 : Nat) "BulletinOffice" "clock" "LBulletinOffice$Clock;") ∈ hv_ws := wm (wc_1 (List.mem_of_getElem? (i := 171) rfl)) rfl
theorem fa_Of_18 : hv_fa "BulletinOffice" 18 5 0 := ⟨R5, T5, 7, "BulletinOffice", rfl, hin5, by decide, Or.inl q_1_171, Or.inl rfl⟩
theorem q_1_172 : (Jvm.Cond.fieldLink "BulletinOffice" (27 : Nat) "BulletinOffice" "sealer" "LBulletinOffice$Sealer;") ∈ hv_ws := wm (wc_1 (List.mem_of_getElem? (i := 172) rfl)) rfl
theorem fa_Of_27 : hv_fa "BulletinOffice" 27 5 1 := ⟨R5, T5, 7, "BulletinOffice", rfl, hin5, by decide, Or.inl q_1_172, Or.inl rfl⟩
theorem q_1_134 : (Jvm.Cond.code ({ cls := "BulletinOffice$Receiver", name := "<init>", desc := "(LBulletinOffice$Clock;LBulletinOffice$Sealer;)V" } : Jvm.MethodName) prog_5_method_1_code (4 : Nat) (Option.none : Option Jvm.ClassFile.FieldType)) ∈ hv_ws := wm (wc_1 (List.mem_of_getElem? (i := 134) rfl)) rfl
theorem q_1_132 : (Jvm.Cond.methodLink "BulletinOffice" (55 : Nat) ({ cls := "BulletinOffice$Receiver", name := "<init>", desc := "(LBulletinOffice$Clock;LBulletinOffice$Sealer;)V" } : Jvm.MethodName)) ∈ hv_ws := wm (wc_1 (List.mem_of_getElem? (i := 132) rfl)) rfl
theorem cs_Of_55 : hv_cs "BulletinOffice" 55 y_Rc_init b_Rc_init 4 none 2 := ⟨q_1_134, q_1_9, ⟨by decide, by decide⟩, by decide +kernel, Or.inl q_1_132⟩
theorem q_1_133 : (Jvm.Cond.instanceMethod ({ cls := "BulletinOffice$Receiver", name := "<init>", desc := "(LBulletinOffice$Clock;LBulletinOffice$Sealer;)V" } : Jvm.MethodName)) ∈ hv_ws := wm (wc_1 (List.mem_of_getElem? (i := 133) rfl)) rfl
theorem fp_Of_51 : hv_fp "BulletinOffice" 51 5 6 (.array (.object "BulletinOffice$Receiver")) true := ⟨R5, T5, 7, "BulletinOffice", ty5, rfl, hin5, by decide, Or.inl q_1_177, Or.inl rfl, tk5, nm5, rfl, (fun _ => rfl), tk5 6 (by decide)⟩
theorem q_1_176 : (Jvm.Cond.fieldLink "BulletinOffice" (45 : Nat) "BulletinOffice" "packets" "Ljava/util/ArrayList;") ∈ hv_ws := wm (wc_1 (List.mem_of_getElem? (i := 176) rfl)) rfl
theorem fp_Of_45 : hv_fp "BulletinOffice" 45 5 5 (.object "java/util/ArrayList") true := ⟨R5, T5, 7, "BulletinOffice", ty5, rfl, hin5, by decide, Or.inl q_1_176, Or.inl rfl, tk5, nm5, rfl, (fun _ => rfl), tk5 5 (by decide)⟩
theorem fp_Of_37 : hv_fp "BulletinOffice" 37 5 3 (.array (.object "BulletinOffice$KeyChain")) true := ⟨R5, T5, 7, "BulletinOffice", ty5, rfl, hin5, by decide, Or.inl q_1_174, Or.inl rfl, tk5, nm5, rfl, (fun _ => rfl), tk5 3 (by decide)⟩
theorem q_1_173 : (Jvm.Cond.fieldLink "BulletinOffice" (31 : Nat) "BulletinOffice" "buffer" "[I") ∈ hv_ws := wm (wc_1 (List.mem_of_getElem? (i := 173) rfl)) rfl
theorem fp_Of_31 : hv_fp "BulletinOffice" 31 5 2 (.array (.int)) true := ⟨R5, T5, 7, "BulletinOffice", ty5, rfl, hin5, by decide, Or.inl q_1_173, Or.inl rfl, tk5, nm5, rfl, (fun _ => rfl), tk5 2 (by decide)⟩
theorem fp_Of_27 : hv_fp "BulletinOffice" 27 5 1 (.object "BulletinOffice$Sealer") true := ⟨R5, T5, 7, "BulletinOffice", ty5, rfl, hin5, by decide, Or.inl q_1_172, Or.inl rfl, tk5, nm5, rfl, (fun _ => rfl), tk5 1 (by decide)⟩
theorem fp_Of_18 : hv_fp "BulletinOffice" 18 5 0 (.object "BulletinOffice$Clock") true := ⟨R5, T5, 7, "BulletinOffice", ty5, rfl, hin5, by decide, Or.inl q_1_171, Or.inl rfl, tk5, nm5, rfl, (fun _ => rfl), tk5 0 (by decide)⟩
theorem q_1_29 : (Jvm.Cond.methodLink "BulletinOffice" (1 : Nat) ({ cls := "java/lang/Object", name := "<init>", desc := "()V" } : Jvm.MethodName)) ∈ hv_ws := wm (wc_1 (List.mem_of_getElem? (i := 29) rfl)) rfl
theorem q_1_47 : (Jvm.Cond.fieldLink "BulletinOffice" (77 : Nat) "BulletinOffice$Clock" "time" "I") ∈ hv_ws := wm (wc_1 (List.mem_of_getElem? (i := 47) rfl)) rfl
theorem fa_Of_77 : hv_fa "BulletinOffice" 77 0 3 := ⟨R0, T0, 4, "BulletinOffice$Clock", rfl, hin0, by decide, Or.inl q_1_47, Or.inl rfl⟩
theorem q_1_200 : (Jvm.Cond.code ({ cls := "BulletinOffice$Clock", name := "intervalAt", desc := "(I)I" } : Jvm.MethodName) prog_2_method_2_code (2 : Nat) (Option.some Jvm.ClassFile.FieldType.int)) ∈ hv_ws := wm (wc_1 (List.mem_of_getElem? (i := 200) rfl)) rfl
theorem q_1_197 : (Jvm.Cond.methodLink "BulletinOffice" (80 : Nat) ({ cls := "BulletinOffice$Clock", name := "intervalAt", desc := "(I)I" } : Jvm.MethodName)) ∈ hv_ws := wm (wc_1 (List.mem_of_getElem? (i := 197) rfl)) rfl
theorem cs_Of_80 : hv_cs "BulletinOffice" 80 y_Ck_intervalAt b_Ck_intervalAt 2 (some (.int)) 1 := ⟨q_1_200, q_1_2, ⟨by decide, by decide⟩, by decide +kernel, Or.inl q_1_197⟩
theorem q_1_198 : (Jvm.Cond.instanceMethod ({ cls := "BulletinOffice$Clock", name := "intervalAt", desc := "(I)I" } : Jvm.MethodName)) ∈ hv_ws := wm (wc_1 (List.mem_of_getElem? (i := 198) rfl)) rfl
theorem q_1_199 : (Jvm.Cond.selects "BulletinOffice$Clock" ({ cls := "BulletinOffice$Clock", name := "intervalAt", desc := "(I)I" } : Jvm.MethodName) ({ cls := "BulletinOffice$Clock", name := "intervalAt", desc := "(I)I" } : Jvm.MethodName)) ∈ hv_ws := wm (wc_1 (List.mem_of_getElem? (i := 199) rfl)) rfl
theorem q_1_175 : (Jvm.Cond.fieldLink "BulletinOffice" (58 : Nat) "BulletinOffice" "chainCount" "I") ∈ hv_ws := wm (wc_1 (List.mem_of_getElem? (i := 175) rfl)) rfl
theorem fa_Of_58 : hv_fa "BulletinOffice" 58 5 4 := ⟨R5, T5, 7, "BulletinOffice", rfl, hin5, by decide, Or.inl q_1_175, Or.inl rfl⟩
theorem fa_Of_45 : hv_fa "BulletinOffice" 45 5 5 := ⟨R5, T5, 7, "BulletinOffice", rfl, hin5, by decide, Or.inl q_1_176, Or.inl rfl⟩
theorem q_1_204 : (Jvm.Cond.code ({ cls := "java/util/ArrayList", name := "size", desc := "()I" } : Jvm.MethodName) prog_23_method_8_code (1 : Nat) (Option.some Jvm.ClassFile.FieldType.int)) ∈ hv_ws := wm (wc_1 (List.mem_of_getElem? (i := 204) rfl)) rfl
theorem q_1_201 : (Jvm.Cond.methodLink "BulletinOffice" (107 : Nat) ({ cls := "java/util/ArrayList", name := "size", desc := "()I" } : Jvm.MethodName)) ∈ hv_ws := wm (wc_1 (List.mem_of_getElem? (i := 201) rfl)) rfl
theorem cs_Of_107 : hv_cs "BulletinOffice" 107 y_Al_size b_Al_size 1 (some (.int)) 0 := ⟨q_1_204, q_1_8, ⟨by decide, by decide⟩, by decide +kernel, Or.inl q_1_201⟩
theorem q_1_202 : (Jvm.Cond.instanceMethod ({ cls := "java/util/ArrayList", name := "size", desc := "()I" } : Jvm.MethodName)) ∈ hv_ws := wm (wc_1 (List.mem_of_getElem? (i := 202) rfl)) rfl
theorem q_1_203 : (Jvm.Cond.selects "java/util/ArrayList" ({ cls := "java/util/ArrayList", name := "size", desc := "()I" } : Jvm.MethodName) ({ cls := "java/util/ArrayList", name := "size", desc := "()I" } : Jvm.MethodName)) ∈ hv_ws := wm (wc_1 (List.mem_of_getElem? (i := 203) rfl)) rfl
theorem q_2_194 : (Jvm.Cond.methodLink "BulletinOffice" (180 : Nat) ({ cls := "BulletinOffice$Packet", name := "interval", desc := "()I" } : Jvm.MethodName)) ∈ hv_ws := wm (wc_2 (List.mem_of_getElem? (i := 194) rfl)) rfl
theorem cs_Of_180 : hv_cs "BulletinOffice" 180 y_Pk_interval b_Pk_interval 1 (some (.int)) 0 := ⟨q_2_197, q_1_20, ⟨by decide, by decide⟩, by decide +kernel, Or.inl q_2_194⟩
theorem q_2_161 : (Jvm.Cond.code ({ cls := "BulletinOffice", name := "chainOf", desc := "(I)I" } : Jvm.MethodName) prog_1_method_21_code (1 : Nat) (Option.some Jvm.ClassFile.FieldType.int)) ∈ hv_ws := wm (wc_2 (List.mem_of_getElem? (i := 161) rfl)) rfl
theorem q_2_159 : (Jvm.Cond.methodLink "BulletinOffice" (104 : Nat) ({ cls := "BulletinOffice", name := "chainOf", desc := "(I)I" } : Jvm.MethodName)) ∈ hv_ws := wm (wc_2 (List.mem_of_getElem? (i := 159) rfl)) rfl
theorem cs_Of_104 : hv_cs "BulletinOffice" 104 y_Of_chainOf b_Of_chainOf 1 (some (.int)) 1 := ⟨q_2_161, q_1_1, ⟨by decide, by decide⟩, by decide +kernel, Or.inl q_2_159⟩
theorem q_2_160 : (Jvm.Cond.static ({ cls := "BulletinOffice", name := "chainOf", desc := "(I)I" } : Jvm.MethodName)) ∈ hv_ws := wm (wc_2 (List.mem_of_getElem? (i := 160) rfl)) rfl
theorem q_2_203 : (Jvm.Cond.code ({ cls := "BulletinOffice", name := "numberInChain", desc := "(I)I" } : Jvm.MethodName) prog_1_method_22_code (1 : Nat) (Option.some Jvm.ClassFile.FieldType.int)) ∈ hv_ws := wm (wc_2 (List.mem_of_getElem? (i := 203) rfl)) rfl
theorem q_2_201 : (Jvm.Cond.methodLink "BulletinOffice" (187 : Nat) ({ cls := "BulletinOffice", name := "numberInChain", desc := "(I)I" } : Jvm.MethodName)) ∈ hv_ws := wm (wc_2 (List.mem_of_getElem? (i := 201) rfl)) rfl
theorem cs_Of_187 : hv_cs "BulletinOffice" 187 y_Of_numberInChain b_Of_numberInChain 1 (some (.int)) 1 := ⟨q_2_203, q_1_1, ⟨by decide, by decide⟩, by decide +kernel, Or.inl q_2_201⟩
theorem q_2_202 : (Jvm.Cond.static ({ cls := "BulletinOffice", name := "numberInChain", desc := "(I)I" } : Jvm.MethodName)) ∈ hv_ws := wm (wc_2 (List.mem_of_getElem? (i := 202) rfl)) rfl
theorem q_2_207 : (Jvm.Cond.code ({ cls := "BulletinOffice$KeyChain", name := "sealPacket", desc := "(ILBulletinOffice$Packet;LBulletinOffice$Sealer;)V" } : Jvm.MethodName) prog_3_method_13_code (4 : Nat) (Option.none : Option Jvm.ClassFile.FieldType)) ∈ hv_ws := wm (wc_2 (List.mem_of_getElem? (i := 207) rfl)) rfl
theorem q_2_204 : (Jvm.Cond.methodLink "BulletinOffice" (190 : Nat) ({ cls := "BulletinOffice$KeyChain", name := "sealPacket", desc := "(ILBulletinOffice$Packet;LBulletinOffice$Sealer;)V" } : Jvm.MethodName)) ∈ hv_ws := wm (wc_2 (List.mem_of_getElem? (i := 204) rfl)) rfl
theorem cs_Of_190 : hv_cs "BulletinOffice" 190 y_Kc_sealPacket b_Kc_sealPacket 4 none 3 := ⟨q_2_207, q_1_5, ⟨by decide, by decide⟩, by decide +kernel, Or.inl q_2_204⟩
theorem q_2_205 : (Jvm.Cond.instanceMethod ({ cls := "BulletinOffice$KeyChain", name := "sealPacket", desc := "(ILBulletinOffice$Packet;LBulletinOffice$Sealer;)V" } : Jvm.MethodName)) ∈ hv_ws := wm (wc_2 (List.mem_of_getElem? (i := 205) rfl)) rfl
theorem q_2_206 : (Jvm.Cond.selects "BulletinOffice$KeyChain" ({ cls := "BulletinOffice$KeyChain", name := "sealPacket", desc := "(ILBulletinOffice$Packet;LBulletinOffice$Sealer;)V" } : Jvm.MethodName) ({ cls := "BulletinOffice$KeyChain", name := "sealPacket", desc := "(ILBulletinOffice$Packet;LBulletinOffice$Sealer;)V" } : Jvm.MethodName)) ∈ hv_ws := wm (wc_2 (List.mem_of_getElem? (i := 206) rfl)) rfl
theorem q_1_65 : (Jvm.Cond.fieldLink "BulletinOffice" (101 : Nat) "BulletinOffice$Sealer" "result" "[I") ∈ hv_ws := wm (wc_1 (List.mem_of_getElem? (i := 65) rfl)) rfl
theorem fa_Of_101 : hv_fa "BulletinOffice" 101 1 0 := ⟨R1, T1, 5, "BulletinOffice$Sealer", rfl, hin1, by decide, Or.inl q_1_65, Or.inl rfl⟩
theorem q_2_221 : (Jvm.Cond.code ({ cls := "BulletinOffice$Packet", name := "writeCode", desc := "([I)V" } : Jvm.MethodName) prog_4_method_9_code (3 : Nat) (Option.none : Option Jvm.ClassFile.FieldType)) ∈ hv_ws := wm (wc_2 (List.mem_of_getElem? (i := 221) rfl)) rfl
theorem q_2_218 : (Jvm.Cond.methodLink "BulletinOffice" (194 : Nat) ({ cls := "BulletinOffice$Packet", name := "writeCode", desc := "([I)V" } : Jvm.MethodName)) ∈ hv_ws := wm (wc_2 (List.mem_of_getElem? (i := 218) rfl)) rfl
theorem cs_Of_194 : hv_cs "BulletinOffice" 194 y_Pk_writeCode b_Pk_writeCode 3 none 1 := ⟨q_2_221, q_1_20, ⟨by decide, by decide⟩, by decide +kernel, Or.inl q_2_218⟩
theorem q_2_219 : (Jvm.Cond.instanceMethod ({ cls := "BulletinOffice$Packet", name := "writeCode", desc := "([I)V" } : Jvm.MethodName)) ∈ hv_ws := wm (wc_2 (List.mem_of_getElem? (i := 219) rfl)) rfl
theorem q_2_220 : (Jvm.Cond.selects "BulletinOffice$Packet" ({ cls := "BulletinOffice$Packet", name := "writeCode", desc := "([I)V" } : Jvm.MethodName) ({ cls := "BulletinOffice$Packet", name := "writeCode", desc := "([I)V" } : Jvm.MethodName)) ∈ hv_ws := wm (wc_2 (List.mem_of_getElem? (i := 220) rfl)) rfl
theorem q_1_43 : (Jvm.Cond.fieldLink "BulletinOffice" (198 : Nat) "BulletinOffice$Clock" "lag" "I") ∈ hv_ws := wm (wc_1 (List.mem_of_getElem? (i := 43) rfl)) rfl
theorem fa_Of_198 : hv_fa "BulletinOffice" 198 0 0 := ⟨R0, T0, 4, "BulletinOffice$Clock", rfl, hin0, by decide, Or.inl q_1_43, Or.inl rfl⟩
theorem q_3_0 : (Jvm.Cond.code ({ cls := "java/util/ArrayList", name := "add", desc := "(Ljava/lang/Object;)Z" } : Jvm.MethodName) prog_23_method_25_code (2 : Nat) (Option.some Jvm.ClassFile.FieldType.boolean)) ∈ hv_ws := wm (wc_3 (List.mem_of_getElem? (i := 0) rfl)) rfl
theorem q_2_237 : (Jvm.Cond.methodLink "BulletinOffice" (204 : Nat) ({ cls := "java/util/ArrayList", name := "add", desc := "(Ljava/lang/Object;)Z" } : Jvm.MethodName)) ∈ hv_ws := wm (wc_2 (List.mem_of_getElem? (i := 237) rfl)) rfl
theorem cs_Of_204 : hv_cs "BulletinOffice" 204 y_Al_add1 b_Al_add1 2 (some (.boolean)) 1 := ⟨q_3_0, q_1_8, ⟨by decide, by decide⟩, by decide +kernel, Or.inl q_2_237⟩
theorem q_2_238 : (Jvm.Cond.instanceMethod ({ cls := "java/util/ArrayList", name := "add", desc := "(Ljava/lang/Object;)Z" } : Jvm.MethodName)) ∈ hv_ws := wm (wc_2 (List.mem_of_getElem? (i := 238) rfl)) rfl
theorem q_2_239 : (Jvm.Cond.selects "java/util/ArrayList" ({ cls := "java/util/ArrayList", name := "add", desc := "(Ljava/lang/Object;)Z" } : Jvm.MethodName) ({ cls := "java/util/ArrayList", name := "add", desc := "(Ljava/lang/Object;)Z" } : Jvm.MethodName)) ∈ hv_ws := wm (wc_2 (List.mem_of_getElem? (i := 239) rfl)) rfl
theorem q_2_185 : (Jvm.Cond.fieldLink "BulletinOffice" (117 : Nat) "BulletinOffice$Packet" "bytes" "[I") ∈ hv_ws := wm (wc_2 (List.mem_of_getElem? (i := 185) rfl)) rfl
theorem fa_Of_117 : hv_fa "BulletinOffice" 117 3 0 := ⟨R3, T3, 1, "BulletinOffice$Packet", rfl, hin3, by decide, Or.inl q_2_185, Or.inl rfl⟩
theorem q_2_227 : (Jvm.Cond.code ({ cls := "BulletinOffice$Packet", name := "shownAt", desc := "()I" } : Jvm.MethodName) prog_4_method_7_code (1 : Nat) (Option.some Jvm.ClassFile.FieldType.int)) ∈ hv_ws := wm (wc_2 (List.mem_of_getElem? (i := 227) rfl)) rfl
theorem q_2_224 : (Jvm.Cond.methodLink "BulletinOffice" (201 : Nat) ({ cls := "BulletinOffice$Packet", name := "shownAt", desc := "()I" } : Jvm.MethodName)) ∈ hv_ws := wm (wc_2 (List.mem_of_getElem? (i := 224) rfl)) rfl
theorem cs_Of_201 : hv_cs "BulletinOffice" 201 y_Pk_shownAt b_Pk_shownAt 1 (some (.int)) 0 := ⟨q_2_227, q_1_20, ⟨by decide, by decide⟩, by decide +kernel, Or.inl q_2_224⟩
theorem q_2_225 : (Jvm.Cond.instanceMethod ({ cls := "BulletinOffice$Packet", name := "shownAt", desc := "()I" } : Jvm.MethodName)) ∈ hv_ws := wm (wc_2 (List.mem_of_getElem? (i := 225) rfl)) rfl
theorem q_2_226 : (Jvm.Cond.selects "BulletinOffice$Packet" ({ cls := "BulletinOffice$Packet", name := "shownAt", desc := "()I" } : Jvm.MethodName) ({ cls := "BulletinOffice$Packet", name := "shownAt", desc := "()I" } : Jvm.MethodName)) ∈ hv_ws := wm (wc_2 (List.mem_of_getElem? (i := 226) rfl)) rfl
theorem q_2_231 : (Jvm.Cond.code ({ cls := "BulletinOffice$KeyChain", name := "writeKey", desc := "(I[II)V" } : Jvm.MethodName) prog_3_method_7_code (5 : Nat) (Option.none : Option Jvm.ClassFile.FieldType)) ∈ hv_ws := wm (wc_2 (List.mem_of_getElem? (i := 231) rfl)) rfl
theorem q_2_228 : (Jvm.Cond.methodLink "BulletinOffice" (124 : Nat) ({ cls := "BulletinOffice$KeyChain", name := "writeKey", desc := "(I[II)V" } : Jvm.MethodName)) ∈ hv_ws := wm (wc_2 (List.mem_of_getElem? (i := 228) rfl)) rfl
theorem cs_Of_124 : hv_cs "BulletinOffice" 124 y_Kc_writeKey b_Kc_writeKey 5 none 3 := ⟨q_2_231, q_1_5, ⟨by decide, by decide⟩, by decide +kernel, Or.inl q_2_228⟩
theorem q_2_229 : (Jvm.Cond.instanceMethod ({ cls := "BulletinOffice$KeyChain", name := "writeKey", desc := "(I[II)V" } : Jvm.MethodName)) ∈ hv_ws := wm (wc_2 (List.mem_of_getElem? (i := 229) rfl)) rfl
theorem q_2_230 : (Jvm.Cond.selects "BulletinOffice$KeyChain" ({ cls := "BulletinOffice$KeyChain", name := "writeKey", desc := "(I[II)V" } : Jvm.MethodName) ({ cls := "BulletinOffice$KeyChain", name := "writeKey", desc := "(I[II)V" } : Jvm.MethodName)) ∈ hv_ws := wm (wc_2 (List.mem_of_getElem? (i := 230) rfl)) rfl
theorem q_3_75 : (Jvm.Cond.code ({ cls := "java/util/ArrayList", name := "get", desc := "(I)Ljava/lang/Object;" } : Jvm.MethodName) prog_23_method_20_code (2 : Nat) (Option.some (Jvm.ClassFile.FieldType.object "java/lang/Object"))) ∈ hv_ws := wm (wc_3 (List.mem_of_getElem? (i := 75) rfl)) rfl
theorem q_3_72 : (Jvm.Cond.methodLink "BulletinOffice" (132 : Nat) ({ cls := "java/util/ArrayList", name := "get", desc := "(I)Ljava/lang/Object;" } : Jvm.MethodName)) ∈ hv_ws := wm (wc_3 (List.mem_of_getElem? (i := 72) rfl)) rfl
theorem cs_Of_132 : hv_cs "BulletinOffice" 132 y_Al_get b_Al_get 2 (some (.object "java/lang/Object")) 1 := ⟨q_3_75, q_1_8, ⟨by decide, by decide⟩, by decide +kernel, Or.inl q_3_72⟩
theorem q_3_73 : (Jvm.Cond.instanceMethod ({ cls := "java/util/ArrayList", name := "get", desc := "(I)Ljava/lang/Object;" } : Jvm.MethodName)) ∈ hv_ws := wm (wc_3 (List.mem_of_getElem? (i := 73) rfl)) rfl
theorem q_3_74 : (Jvm.Cond.selects "java/util/ArrayList" ({ cls := "java/util/ArrayList", name := "get", desc := "(I)Ljava/lang/Object;" } : Jvm.MethodName) ({ cls := "java/util/ArrayList", name := "get", desc := "(I)Ljava/lang/Object;" } : Jvm.MethodName)) ∈ hv_ws := wm (wc_3 (List.mem_of_getElem? (i := 74) rfl)) rfl
theorem q_2_177 : (Jvm.Cond.classLink "BulletinOffice" (114 : Nat) "BulletinOffice$Packet") ∈ hv_ws := wm (wc_2 (List.mem_of_getElem? (i := 177) rfl)) rfl
theorem q_3_104 : (Jvm.Cond.code ({ cls := "BulletinOffice", name := "isReceiver", desc := "(I)Z" } : Jvm.MethodName) prog_1_method_19_code (2 : Nat) (Option.some Jvm.ClassFile.FieldType.boolean)) ∈ hv_ws := wm (wc_3 (List.mem_of_getElem? (i := 104) rfl)) rfl
theorem q_3_101 : (Jvm.Cond.methodLink "BulletinOffice" (139 : Nat) ({ cls := "BulletinOffice", name := "isReceiver", desc := "(I)Z" } : Jvm.MethodName)) ∈ hv_ws := wm (wc_3 (List.mem_of_getElem? (i := 101) rfl)) rfl
theorem cs_Of_139 : hv_cs "BulletinOffice" 139 y_Of_isReceiver b_Of_isReceiver 2 (some (.boolean)) 1 := ⟨q_3_104, q_1_1, ⟨by decide, by decide⟩, by decide +kernel, Or.inl q_3_101⟩
theorem q_3_103 : (Jvm.Cond.instanceMethod ({ cls := "BulletinOffice", name := "isReceiver", desc := "(I)Z" } : Jvm.MethodName)) ∈ hv_ws := wm (wc_3 (List.mem_of_getElem? (i := 103) rfl)) rfl
theorem qs_Of_isReceiver : Cond.selects y_Of_isReceiver.cls y_Of_isReceiver y_Of_isReceiver ∈ hv_ws := wp (q := (y_Of_isReceiver, 7)) (List.mem_append_left _ (List.mem_of_getElem? (i := 9) rfl)) rfl
theorem q_1_147 : (Jvm.Cond.fieldLink "BulletinOffice" (177 : Nat) "BulletinOffice$Receiver" "kept" "Ljava/util/ArrayList;") ∈ hv_ws := wm (wc_1 (List.mem_of_getElem? (i := 147) rfl)) rfl
theorem fa_Of_177 : hv_fa "BulletinOffice" 177 4 4 := ⟨R4, T4, 8, "BulletinOffice$Receiver", rfl, hin4, by decide, Or.inl q_1_147, Or.inl rfl⟩
theorem q_3_112 : (Jvm.Cond.code ({ cls := "BulletinOffice$KeyChain", name := "forget", desc := "()V" } : Jvm.MethodName) prog_3_method_3_code (1 : Nat) (Option.none : Option Jvm.ClassFile.FieldType)) ∈ hv_ws := wm (wc_3 (List.mem_of_getElem? (i := 112) rfl)) rfl
theorem q_3_109 : (Jvm.Cond.methodLink "BulletinOffice$Receiver" (40 : Nat) ({ cls := "BulletinOffice$KeyChain", name := "forget", desc := "()V" } : Jvm.MethodName)) ∈ hv_ws := wm (wc_3 (List.mem_of_getElem? (i := 109) rfl)) rfl
theorem cs_Rc_40 : hv_cs "BulletinOffice$Receiver" 40 y_Kc_forget b_Kc_forget 1 none 0 := ⟨q_3_112, q_1_5, ⟨by decide, by decide⟩, by decide +kernel, Or.inl q_3_109⟩
theorem q_3_110 : (Jvm.Cond.instanceMethod ({ cls := "BulletinOffice$KeyChain", name := "forget", desc := "()V" } : Jvm.MethodName)) ∈ hv_ws := wm (wc_3 (List.mem_of_getElem? (i := 110) rfl)) rfl
theorem q_3_111 : (Jvm.Cond.selects "BulletinOffice$KeyChain" ({ cls := "BulletinOffice$KeyChain", name := "forget", desc := "()V" } : Jvm.MethodName) ({ cls := "BulletinOffice$KeyChain", name := "forget", desc := "()V" } : Jvm.MethodName)) ∈ hv_ws := wm (wc_3 (List.mem_of_getElem? (i := 111) rfl)) rfl
theorem fa_Rc_20 : hv_fa "BulletinOffice$Receiver" 20 4 3 := ⟨R4, T4, 8, "BulletinOffice$Receiver", rfl, hin4, by decide, Or.inl q_1_144, Or.inl rfl⟩
theorem q_3_116 : (Jvm.Cond.code ({ cls := "java/util/ArrayList", name := "clear", desc := "()V" } : Jvm.MethodName) prog_23_method_40_code (4 : Nat) (Option.none : Option Jvm.ClassFile.FieldType)) ∈ hv_ws := wm (wc_3 (List.mem_of_getElem? (i := 116) rfl)) rfl
theorem q_3_113 : (Jvm.Cond.methodLink "BulletinOffice$Receiver" (43 : Nat) ({ cls := "java/util/ArrayList", name := "clear", desc := "()V" } : Jvm.MethodName)) ∈ hv_ws := wm (wc_3 (List.mem_of_getElem? (i := 113) rfl)) rfl
theorem cs_Rc_43 : hv_cs "BulletinOffice$Receiver" 43 y_Al_clear b_Al_clear 4 none 0 := ⟨q_3_116, q_1_8, ⟨by decide, by decide⟩, by decide +kernel, Or.inl q_3_113⟩
theorem q_3_114 : (Jvm.Cond.instanceMethod ({ cls := "java/util/ArrayList", name := "clear", desc := "()V" } : Jvm.MethodName)) ∈ hv_ws := wm (wc_3 (List.mem_of_getElem? (i := 114) rfl)) rfl
theorem q_3_115 : (Jvm.Cond.selects "java/util/ArrayList" ({ cls := "java/util/ArrayList", name := "clear", desc := "()V" } : Jvm.MethodName) ({ cls := "java/util/ArrayList", name := "clear", desc := "()V" } : Jvm.MethodName)) ∈ hv_ws := wm (wc_3 (List.mem_of_getElem? (i := 115) rfl)) rfl
theorem fa_Rc_24 : hv_fa "BulletinOffice$Receiver" 24 4 4 := ⟨R4, T4, 8, "BulletinOffice$Receiver", rfl, hin4, by decide, Or.inl q_1_146, Or.inl rfl⟩
theorem fa_Rc_27 : hv_fa "BulletinOffice$Receiver" 27 4 5 := ⟨R4, T4, 8, "BulletinOffice$Receiver", rfl, hin4, by decide, Or.inl q_1_148, Or.inl rfl⟩
theorem q_3_117 : (Jvm.Cond.methodLink "BulletinOffice$Receiver" (46 : Nat) ({ cls := "java/util/Arrays", name := "fill", desc := "([II)V" } : Jvm.MethodName)) ∈ hv_ws := wm (wc_3 (List.mem_of_getElem? (i := 117) rfl)) rfl
theorem cs_Rc_46 : hv_cs "BulletinOffice$Receiver" 46 y_Ar_fill b_Ar_fill 4 none 2 := ⟨q_2_65, q_1_15, ⟨by decide, by decide⟩, by decide +kernel, Or.inl q_3_117⟩
theorem q_1_150 : (Jvm.Cond.fieldLink "BulletinOffice$Receiver" (52 : Nat) "BulletinOffice$Receiver" "releasedCount" "I") ∈ hv_ws := wm (wc_1 (List.mem_of_getElem? (i := 150) rfl)) rfl
theorem fp_Rc_52 : hv_fp "BulletinOffice$Receiver" 52 4 6 (.int) false := ⟨R4, T4, 8, "BulletinOffice$Receiver", ty4, rfl, hin4, by decide, Or.inl q_1_150, Or.inl rfl, tk4, nm4, rfl, (fun h => by cases h), tk4 6 (by decide)⟩
theorem q_3_169 : (Jvm.Cond.code ({ cls := "BulletinOffice$KeyChain", name := "isKnown", desc := "()Z" } : Jvm.MethodName) prog_3_method_2_code (1 : Nat) (Option.some Jvm.ClassFile.FieldType.boolean)) ∈ hv_ws := wm (wc_3 (List.mem_of_getElem? (i := 169) rfl)) rfl
theorem q_3_166 : (Jvm.Cond.methodLink "BulletinOffice$Receiver" (56 : Nat) ({ cls := "BulletinOffice$KeyChain", name := "isKnown", desc := "()Z" } : Jvm.MethodName)) ∈ hv_ws := wm (wc_3 (List.mem_of_getElem? (i := 166) rfl)) rfl
theorem cs_Rc_56 : hv_cs "BulletinOffice$Receiver" 56 y_Kc_isKnown b_Kc_isKnown 1 (some (.boolean)) 0 := ⟨q_3_169, q_1_5, ⟨by decide, by decide⟩, by decide +kernel, Or.inl q_3_166⟩
theorem q_3_167 : (Jvm.Cond.instanceMethod ({ cls := "BulletinOffice$KeyChain", name := "isKnown", desc := "()Z" } : Jvm.MethodName)) ∈ hv_ws := wm (wc_3 (List.mem_of_getElem? (i := 167) rfl)) rfl
theorem q_3_168 : (Jvm.Cond.selects "BulletinOffice$KeyChain" ({ cls := "BulletinOffice$KeyChain", name := "isKnown", desc := "()Z" } : Jvm.MethodName) ({ cls := "BulletinOffice$KeyChain", name := "isKnown", desc := "()Z" } : Jvm.MethodName)) ∈ hv_ws := wm (wc_3 (List.mem_of_getElem? (i := 168) rfl)) rfl
theorem q_1_95 : (Jvm.Cond.fieldLink "BulletinOffice$Receiver" (60 : Nat) "BulletinOffice$KeyChain" "latest" "I") ∈ hv_ws := wm (wc_1 (List.mem_of_getElem? (i := 95) rfl)) rfl
theorem fa_Rc_60 : hv_fa "BulletinOffice$Receiver" 60 2 2 := ⟨R2, T2, 3, "BulletinOffice$KeyChain", rfl, hin2, by decide, Or.inl q_1_95, Or.inl rfl⟩
theorem q_3_163 : (Jvm.Cond.methodLink "BulletinOffice$Receiver" (75 : Nat) ({ cls := "BulletinOffice$Packet", name := "interval", desc := "()I" } : Jvm.MethodName)) ∈ hv_ws := wm (wc_3 (List.mem_of_getElem? (i := 163) rfl)) rfl
theorem cs_Rc_75 : hv_cs "BulletinOffice$Receiver" 75 y_Pk_interval b_Pk_interval 1 (some (.int)) 0 := ⟨q_2_197, q_1_20, ⟨by decide, by decide⟩, by decide +kernel, Or.inl q_3_163⟩
theorem fa_Rc_31 : hv_fa "BulletinOffice$Receiver" 31 4 0 := ⟨R4, T4, 8, "BulletinOffice$Receiver", rfl, hin4, by decide, Or.inl q_1_140, Or.inl rfl⟩
theorem q_1_42 : (Jvm.Cond.fieldLink "BulletinOffice$Receiver" (102 : Nat) "BulletinOffice$Clock" "lag" "I") ∈ hv_ws := wm (wc_1 (List.mem_of_getElem? (i := 42) rfl)) rfl
theorem fa_Rc_102 : hv_fa "BulletinOffice$Receiver" 102 0 0 := ⟨R0, T0, 4, "BulletinOffice$Clock", rfl, hin0, by decide, Or.inl q_1_42, Or.inl rfl⟩
theorem cs_Rc_105 : hv_cs "BulletinOffice$Receiver" 105 y_Of_chainOf b_Of_chainOf 1 (some (.int)) 1 := ⟨q_2_161, q_1_1, ⟨by decide, by decide⟩, by decide +kernel, Or.inr ⟨"BulletinOffice", List.mem_of_getElem? (i := 6) rfl⟩⟩
theorem cs_Rc_109 : hv_cs "BulletinOffice$Receiver" 109 y_Of_numberInChain b_Of_numberInChain 1 (some (.int)) 1 := ⟨q_2_203, q_1_1, ⟨by decide, by decide⟩, by decide +kernel, Or.inr ⟨"BulletinOffice", List.mem_of_getElem? (i := 7) rfl⟩⟩
theorem q_1_93 : (Jvm.Cond.fieldLink "BulletinOffice$Receiver" (112 : Nat) "BulletinOffice$KeyChain" "first" "I") ∈ hv_ws := wm (wc_1 (List.mem_of_getElem? (i := 93) rfl)) rfl
theorem fa_Rc_112 : hv_fa "BulletinOffice$Receiver" 112 2 1 := ⟨R2, T2, 3, "BulletinOffice$KeyChain", rfl, hin2, by decide, Or.inl q_1_93, Or.inl rfl⟩
theorem q_2_184 : (Jvm.Cond.fieldLink "BulletinOffice$Receiver" (115 : Nat) "BulletinOffice$Packet" "bytes" "[I") ∈ hv_ws := wm (wc_2 (List.mem_of_getElem? (i := 184) rfl)) rfl
theorem fa_Rc_115 : hv_fa "BulletinOffice$Receiver" 115 3 0 := ⟨R3, T3, 1, "BulletinOffice$Packet", rfl, hin3, by decide, Or.inl q_2_184, Or.inl rfl⟩
theorem q_3_170 : (Jvm.Cond.methodLink "BulletinOffice$Receiver" (118 : Nat) ({ cls := "BulletinOffice$Packet", name := "shownAt", desc := "()I" } : Jvm.MethodName)) ∈ hv_ws := wm (wc_3 (List.mem_of_getElem? (i := 170) rfl)) rfl
theorem cs_Rc_118 : hv_cs "BulletinOffice$Receiver" 118 y_Pk_shownAt b_Pk_shownAt 1 (some (.int)) 0 := ⟨q_2_227, q_1_20, ⟨by decide, by decide⟩, by decide +kernel, Or.inl q_3_170⟩
theorem q_3_175 : (Jvm.Cond.methodLink "BulletinOffice$Receiver" (125 : Nat) ({ cls := "BulletinOffice$KeyChain", name := "readKey", desc := "(I[II)V" } : Jvm.MethodName)) ∈ hv_ws := wm (wc_3 (List.mem_of_getElem? (i := 175) rfl)) rfl
theorem cs_Rc_125 : hv_cs "BulletinOffice$Receiver" 125 y_Kc_readKey b_Kc_readKey 5 none 3 := ⟨q_3_178, q_1_5, ⟨by decide, by decide⟩, by decide +kernel, Or.inl q_3_175⟩
theorem fa_Rc_35 : hv_fa "BulletinOffice$Receiver" 35 4 1 := ⟨R4, T4, 8, "BulletinOffice$Receiver", rfl, hin4, by decide, Or.inl q_1_141, Or.inl rfl⟩
theorem q_2_47 : (Jvm.Cond.code ({ cls := "BulletinOffice$KeyChain", name := "fillDown", desc := "(IILBulletinOffice$Sealer;)V" } : Jvm.MethodName) prog_3_method_5_code (5 : Nat) (Option.none : Option Jvm.ClassFile.FieldType)) ∈ hv_ws := wm (wc_2 (List.mem_of_getElem? (i := 47) rfl)) rfl
theorem q_3_180 : (Jvm.Cond.methodLink "BulletinOffice$Receiver" (129 : Nat) ({ cls := "BulletinOffice$KeyChain", name := "fillDown", desc := "(IILBulletinOffice$Sealer;)V" } : Jvm.MethodName)) ∈ hv_ws := wm (wc_3 (List.mem_of_getElem? (i := 180) rfl)) rfl
theorem cs_Rc_129 : hv_cs "BulletinOffice$Receiver" 129 y_Kc_fillDown b_Kc_fillDown 5 none 3 := ⟨q_2_47, q_1_5, ⟨by decide, by decide⟩, by decide +kernel, Or.inl q_3_180⟩
theorem q_2_45 : (Jvm.Cond.instanceMethod ({ cls := "BulletinOffice$KeyChain", name := "fillDown", desc := "(IILBulletinOffice$Sealer;)V" } : Jvm.MethodName)) ∈ hv_ws := wm (wc_2 (List.mem_of_getElem? (i := 45) rfl)) rfl
theorem q_2_46 : (Jvm.Cond.selects "BulletinOffice$KeyChain" ({ cls := "BulletinOffice$KeyChain", name := "fillDown", desc := "(IILBulletinOffice$Sealer;)V" } : Jvm.MethodName) ({ cls := "BulletinOffice$KeyChain", name := "fillDown", desc := "(IILBulletinOffice$Sealer;)V" } : Jvm.MethodName)) ∈ hv_ws := wm (wc_2 (List.mem_of_getElem? (i := 46) rfl)) rfl
theorem q_3_184 : (Jvm.Cond.code ({ cls := "BulletinOffice$KeyChain", name := "raiseTo", desc := "(ILBulletinOffice$Sealer;)Z" } : Jvm.MethodName) prog_3_method_12_code (5 : Nat) (Option.some Jvm.ClassFile.FieldType.boolean)) ∈ hv_ws := wm (wc_3 (List.mem_of_getElem? (i := 184) rfl)) rfl
theorem q_3_181 : (Jvm.Cond.methodLink "BulletinOffice$Receiver" (133 : Nat) ({ cls := "BulletinOffice$KeyChain", name := "raiseTo", desc := "(ILBulletinOffice$Sealer;)Z" } : Jvm.MethodName)) ∈ hv_ws := wm (wc_3 (List.mem_of_getElem? (i := 181) rfl)) rfl
theorem cs_Rc_133 : hv_cs "BulletinOffice$Receiver" 133 y_Kc_raiseTo b_Kc_raiseTo 5 (some (.boolean)) 2 := ⟨q_3_184, q_1_5, ⟨by decide, by decide⟩, by decide +kernel, Or.inl q_3_181⟩
theorem q_3_182 : (Jvm.Cond.instanceMethod ({ cls := "BulletinOffice$KeyChain", name := "raiseTo", desc := "(ILBulletinOffice$Sealer;)Z" } : Jvm.MethodName)) ∈ hv_ws := wm (wc_3 (List.mem_of_getElem? (i := 182) rfl)) rfl
theorem q_3_183 : (Jvm.Cond.selects "BulletinOffice$KeyChain" ({ cls := "BulletinOffice$KeyChain", name := "raiseTo", desc := "(ILBulletinOffice$Sealer;)Z" } : Jvm.MethodName) ({ cls := "BulletinOffice$KeyChain", name := "raiseTo", desc := "(ILBulletinOffice$Sealer;)Z" } : Jvm.MethodName)) ∈ hv_ws := wm (wc_3 (List.mem_of_getElem? (i := 183) rfl)) rfl
theorem q_3_174 : (Jvm.Cond.code ({ cls := "BulletinOffice$KeyChain", name := "isKey", desc := "(I[II)Z" } : Jvm.MethodName) prog_3_method_10_code (5 : Nat) (Option.some Jvm.ClassFile.FieldType.boolean)) ∈ hv_ws := wm (wc_3 (List.mem_of_getElem? (i := 174) rfl)) rfl
theorem q_3_171 : (Jvm.Cond.methodLink "BulletinOffice$Receiver" (121 : Nat) ({ cls := "BulletinOffice$KeyChain", name := "isKey", desc := "(I[II)Z" } : Jvm.MethodName)) ∈ hv_ws := wm (wc_3 (List.mem_of_getElem? (i := 171) rfl)) rfl
theorem cs_Rc_121 : hv_cs "BulletinOffice$Receiver" 121 y_Kc_isKey b_Kc_isKey 5 (some (.boolean)) 3 := ⟨q_3_174, q_1_5, ⟨by decide, by decide⟩, by decide +kernel, Or.inl q_3_171⟩
theorem q_3_172 : (Jvm.Cond.instanceMethod ({ cls := "BulletinOffice$KeyChain", name := "isKey", desc := "(I[II)Z" } : Jvm.MethodName)) ∈ hv_ws := wm (wc_3 (List.mem_of_getElem? (i := 172) rfl)) rfl
theorem q_3_173 : (Jvm.Cond.selects "BulletinOffice$KeyChain" ({ cls := "BulletinOffice$KeyChain", name := "isKey", desc := "(I[II)Z" } : Jvm.MethodName) ({ cls := "BulletinOffice$KeyChain", name := "isKey", desc := "(I[II)Z" } : Jvm.MethodName)) ∈ hv_ws := wm (wc_3 (List.mem_of_getElem? (i := 173) rfl)) rfl
theorem q_3_193 : (Jvm.Cond.methodLink "BulletinOffice$Receiver" (95 : Nat) ({ cls := "java/util/ArrayList", name := "size", desc := "()I" } : Jvm.MethodName)) ∈ hv_ws := wm (wc_3 (List.mem_of_getElem? (i := 193) rfl)) rfl
theorem cs_Rc_95 : hv_cs "BulletinOffice$Receiver" 95 y_Al_size b_Al_size 1 (some (.int)) 0 := ⟨q_1_204, q_1_8, ⟨by decide, by decide⟩, by decide +kernel, Or.inl q_3_193⟩
theorem q_3_194 : (Jvm.Cond.methodLink "BulletinOffice$Receiver" (137 : Nat) ({ cls := "java/util/ArrayList", name := "get", desc := "(I)Ljava/lang/Object;" } : Jvm.MethodName)) ∈ hv_ws := wm (wc_3 (List.mem_of_getElem? (i := 194) rfl)) rfl
theorem cs_Rc_137 : hv_cs "BulletinOffice$Receiver" 137 y_Al_get b_Al_get 2 (some (.object "java/lang/Object")) 1 := ⟨q_3_75, q_1_8, ⟨by decide, by decide⟩, by decide +kernel, Or.inl q_3_194⟩
theorem q_3_195 : (Jvm.Cond.classLink "BulletinOffice$Receiver" (64 : Nat) "BulletinOffice$Packet") ∈ hv_ws := wm (wc_3 (List.mem_of_getElem? (i := 195) rfl)) rfl
theorem q_3_236 : (Jvm.Cond.code ({ cls := "BulletinOffice$Packet", name := "isTwinOf", desc := "(LBulletinOffice$Packet;)Z" } : Jvm.MethodName) prog_4_method_11_code (3 : Nat) (Option.some Jvm.ClassFile.FieldType.boolean)) ∈ hv_ws := wm (wc_3 (List.mem_of_getElem? (i := 236) rfl)) rfl
theorem q_3_233 : (Jvm.Cond.methodLink "BulletinOffice$Receiver" (141 : Nat) ({ cls := "BulletinOffice$Packet", name := "isTwinOf", desc := "(LBulletinOffice$Packet;)Z" } : Jvm.MethodName)) ∈ hv_ws := wm (wc_3 (List.mem_of_getElem? (i := 233) rfl)) rfl
theorem cs_Rc_141 : hv_cs "BulletinOffice$Receiver" 141 y_Pk_isTwinOf b_Pk_isTwinOf 3 (some (.boolean)) 1 := ⟨q_3_236, q_1_20, ⟨by decide, by decide⟩, by decide +kernel, Or.inl q_3_233⟩
theorem q_3_234 : (Jvm.Cond.instanceMethod ({ cls := "BulletinOffice$Packet", name := "isTwinOf", desc := "(LBulletinOffice$Packet;)Z" } : Jvm.MethodName)) ∈ hv_ws := wm (wc_3 (List.mem_of_getElem? (i := 234) rfl)) rfl
theorem q_3_235 : (Jvm.Cond.selects "BulletinOffice$Packet" ({ cls := "BulletinOffice$Packet", name := "isTwinOf", desc := "(LBulletinOffice$Packet;)Z" } : Jvm.MethodName) ({ cls := "BulletinOffice$Packet", name := "isTwinOf", desc := "(LBulletinOffice$Packet;)Z" } : Jvm.MethodName)) ∈ hv_ws := wm (wc_3 (List.mem_of_getElem? (i := 235) rfl)) rfl
theorem q_3_199 : (Jvm.Cond.code ({ cls := "BulletinOffice$Receiver", name := "hasKeyFor", desc := "(I)Z" } : Jvm.MethodName) prog_5_method_6_code (2 : Nat) (Option.some Jvm.ClassFile.FieldType.boolean)) ∈ hv_ws := wm (wc_3 (List.mem_of_getElem? (i := 199) rfl)) rfl
theorem q_3_196 : (Jvm.Cond.methodLink "BulletinOffice$Receiver" (88 : Nat) ({ cls := "BulletinOffice$Receiver", name := "hasKeyFor", desc := "(I)Z" } : Jvm.MethodName)) ∈ hv_ws := wm (wc_3 (List.mem_of_getElem? (i := 196) rfl)) rfl
theorem cs_Rc_88 : hv_cs "BulletinOffice$Receiver" 88 y_Rc_hasKeyFor b_Rc_hasKeyFor 2 (some (.boolean)) 1 := ⟨q_3_199, q_1_9, ⟨by decide, by decide⟩, by decide +kernel, Or.inl q_3_196⟩
theorem q_3_198 : (Jvm.Cond.instanceMethod ({ cls := "BulletinOffice$Receiver", name := "hasKeyFor", desc := "(I)Z" } : Jvm.MethodName)) ∈ hv_ws := wm (wc_3 (List.mem_of_getElem? (i := 198) rfl)) rfl
theorem qs_Rc_hasKeyFor : Cond.selects y_Rc_hasKeyFor.cls y_Rc_hasKeyFor y_Rc_hasKeyFor ∈ hv_ws := wp (q := (y_Rc_hasKeyFor, 8)) (List.mem_append_left _ (List.mem_of_getElem? (i := 13) rfl)) rfl
theorem fa_Rc_52 : hv_fa "BulletinOffice$Receiver" 52 4 6 := ⟨R4, T4, 8, "BulletinOffice$Receiver", rfl, hin4, by decide, Or.inl q_1_150, Or.inl rfl⟩
theorem q_3_219 : (Jvm.Cond.methodLink "BulletinOffice$Receiver" (167 : Nat) ({ cls := "BulletinOffice$Packet", name := "kind", desc := "()I" } : Jvm.MethodName)) ∈ hv_ws := wm (wc_3 (List.mem_of_getElem? (i := 219) rfl)) rfl
theorem cs_Rc_167 : hv_cs "BulletinOffice$Receiver" 167 y_Pk_kind b_Pk_kind 1 (some (.int)) 0 := ⟨q_3_158, q_1_20, ⟨by decide, by decide⟩, by decide +kernel, Or.inl q_3_219⟩
theorem q_3_223 : (Jvm.Cond.code ({ cls := "BulletinOffice$KeyChain", name := "learnRoot", desc := "([II)V" } : Jvm.MethodName) prog_3_method_9_code (3 : Nat) (Option.none : Option Jvm.ClassFile.FieldType)) ∈ hv_ws := wm (wc_3 (List.mem_of_getElem? (i := 223) rfl)) rfl
theorem q_3_220 : (Jvm.Cond.methodLink "BulletinOffice$Receiver" (170 : Nat) ({ cls := "BulletinOffice$KeyChain", name := "learnRoot", desc := "([II)V" } : Jvm.MethodName)) ∈ hv_ws := wm (wc_3 (List.mem_of_getElem? (i := 220) rfl)) rfl
theorem cs_Rc_170 : hv_cs "BulletinOffice$Receiver" 170 y_Kc_learnRoot b_Kc_learnRoot 3 none 2 := ⟨q_3_223, q_1_5, ⟨by decide, by decide⟩, by decide +kernel, Or.inl q_3_220⟩
theorem q_3_221 : (Jvm.Cond.instanceMethod ({ cls := "BulletinOffice$KeyChain", name := "learnRoot", desc := "([II)V" } : Jvm.MethodName)) ∈ hv_ws := wm (wc_3 (List.mem_of_getElem? (i := 221) rfl)) rfl
theorem q_3_222 : (Jvm.Cond.selects "BulletinOffice$KeyChain" ({ cls := "BulletinOffice$KeyChain", name := "learnRoot", desc := "([II)V" } : Jvm.MethodName) ({ cls := "BulletinOffice$KeyChain", name := "learnRoot", desc := "([II)V" } : Jvm.MethodName)) ∈ hv_ws := wm (wc_3 (List.mem_of_getElem? (i := 222) rfl)) rfl
theorem q_3_218 : (Jvm.Cond.methodLink "BulletinOffice$Receiver" (98 : Nat) ({ cls := "java/util/ArrayList", name := "add", desc := "(Ljava/lang/Object;)Z" } : Jvm.MethodName)) ∈ hv_ws := wm (wc_3 (List.mem_of_getElem? (i := 218) rfl)) rfl
theorem cs_Rc_98 : hv_cs "BulletinOffice$Receiver" 98 y_Al_add1 b_Al_add1 2 (some (.boolean)) 1 := ⟨q_3_0, q_1_8, ⟨by decide, by decide⟩, by decide +kernel, Or.inl q_3_218⟩
theorem q_3_192 : (Jvm.Cond.code ({ cls := "BulletinOffice$Receiver", name := "nextToRelease", desc := "()I" } : Jvm.MethodName) prog_5_method_9_code (5 : Nat) (Option.some Jvm.ClassFile.FieldType.int)) ∈ hv_ws := wm (wc_3 (List.mem_of_getElem? (i := 192) rfl)) rfl
theorem q_3_189 : (Jvm.Cond.methodLink "BulletinOffice$Receiver" (144 : Nat) ({ cls := "BulletinOffice$Receiver", name := "nextToRelease", desc := "()I" } : Jvm.MethodName)) ∈ hv_ws := wm (wc_3 (List.mem_of_getElem? (i := 189) rfl)) rfl
theorem cs_Rc_144 : hv_cs "BulletinOffice$Receiver" 144 y_Rc_nextToRelease b_Rc_nextToRelease 5 (some (.int)) 0 := ⟨q_3_192, q_1_9, ⟨by decide, by decide⟩, by decide +kernel, Or.inl q_3_189⟩
theorem q_3_191 : (Jvm.Cond.instanceMethod ({ cls := "BulletinOffice$Receiver", name := "nextToRelease", desc := "()I" } : Jvm.MethodName)) ∈ hv_ws := wm (wc_3 (List.mem_of_getElem? (i := 191) rfl)) rfl
theorem qs_Rc_nextToRelease : Cond.selects y_Rc_nextToRelease.cls y_Rc_nextToRelease y_Rc_nextToRelease ∈ hv_ws := wp (q := (y_Rc_nextToRelease, 8)) (List.mem_append_left _ (List.mem_of_getElem? (i := 12) rfl)) rfl
theorem q_3_203 : (Jvm.Cond.code ({ cls := "java/util/ArrayList", name := "remove", desc := "(I)Ljava/lang/Object;" } : Jvm.MethodName) prog_23_method_29_code (4 : Nat) (Option.some (Jvm.ClassFile.FieldType.object "java/lang/Object"))) ∈ hv_ws := wm (wc_3 (List.mem_of_getElem? (i := 203) rfl)) rfl
theorem q_3_200 : (Jvm.Cond.methodLink "BulletinOffice$Receiver" (147 : Nat) ({ cls := "java/util/ArrayList", name := "remove", desc := "(I)Ljava/lang/Object;" } : Jvm.MethodName)) ∈ hv_ws := wm (wc_3 (List.mem_of_getElem? (i := 200) rfl)) rfl
theorem cs_Rc_147 : hv_cs "BulletinOffice$Receiver" 147 y_Al_remove b_Al_remove 4 (some (.object "java/lang/Object")) 1 := ⟨q_3_203, q_1_8, ⟨by decide, by decide⟩, by decide +kernel, Or.inl q_3_200⟩
theorem q_3_201 : (Jvm.Cond.instanceMethod ({ cls := "java/util/ArrayList", name := "remove", desc := "(I)Ljava/lang/Object;" } : Jvm.MethodName)) ∈ hv_ws := wm (wc_3 (List.mem_of_getElem? (i := 201) rfl)) rfl
theorem q_3_202 : (Jvm.Cond.selects "java/util/ArrayList" ({ cls := "java/util/ArrayList", name := "remove", desc := "(I)Ljava/lang/Object;" } : Jvm.MethodName) ({ cls := "java/util/ArrayList", name := "remove", desc := "(I)Ljava/lang/Object;" } : Jvm.MethodName)) ∈ hv_ws := wm (wc_3 (List.mem_of_getElem? (i := 202) rfl)) rfl
theorem q_3_209 : (Jvm.Cond.methodLink "BulletinOffice$Receiver" (150 : Nat) ({ cls := "BulletinOffice$KeyChain", name := "sealPacket", desc := "(ILBulletinOffice$Packet;LBulletinOffice$Sealer;)V" } : Jvm.MethodName)) ∈ hv_ws := wm (wc_3 (List.mem_of_getElem? (i := 209) rfl)) rfl
theorem cs_Rc_150 : hv_cs "BulletinOffice$Receiver" 150 y_Kc_sealPacket b_Kc_sealPacket 4 none 3 := ⟨q_2_207, q_1_5, ⟨by decide, by decide⟩, by decide +kernel, Or.inl q_3_209⟩
theorem q_1_66 : (Jvm.Cond.fieldLink "BulletinOffice$Receiver" (154 : Nat) "BulletinOffice$Sealer" "result" "[I") ∈ hv_ws := wm (wc_1 (List.mem_of_getElem? (i := 66) rfl)) rfl
theorem fa_Rc_154 : hv_fa "BulletinOffice$Receiver" 154 1 0 := ⟨R1, T1, 5, "BulletinOffice$Sealer", rfl, hin1, by decide, Or.inl q_1_66, Or.inl rfl⟩
theorem q_3_213 : (Jvm.Cond.code ({ cls := "BulletinOffice$Packet", name := "hasCode", desc := "([I)Z" } : Jvm.MethodName) prog_4_method_10_code (3 : Nat) (Option.some Jvm.ClassFile.FieldType.boolean)) ∈ hv_ws := wm (wc_3 (List.mem_of_getElem? (i := 213) rfl)) rfl
theorem q_3_210 : (Jvm.Cond.methodLink "BulletinOffice$Receiver" (159 : Nat) ({ cls := "BulletinOffice$Packet", name := "hasCode", desc := "([I)Z" } : Jvm.MethodName)) ∈ hv_ws := wm (wc_3 (List.mem_of_getElem? (i := 210) rfl)) rfl
theorem cs_Rc_159 : hv_cs "BulletinOffice$Receiver" 159 y_Pk_hasCode b_Pk_hasCode 3 (some (.boolean)) 1 := ⟨q_3_213, q_1_20, ⟨by decide, by decide⟩, by decide +kernel, Or.inl q_3_210⟩
theorem q_3_211 : (Jvm.Cond.instanceMethod ({ cls := "BulletinOffice$Packet", name := "hasCode", desc := "([I)Z" } : Jvm.MethodName)) ∈ hv_ws := wm (wc_3 (List.mem_of_getElem? (i := 211) rfl)) rfl
theorem q_3_212 : (Jvm.Cond.selects "BulletinOffice$Packet" ({ cls := "BulletinOffice$Packet", name := "hasCode", desc := "([I)Z" } : Jvm.MethodName) ({ cls := "BulletinOffice$Packet", name := "hasCode", desc := "([I)Z" } : Jvm.MethodName)) ∈ hv_ws := wm (wc_3 (List.mem_of_getElem? (i := 212) rfl)) rfl
theorem q_3_217 : (Jvm.Cond.code ({ cls := "BulletinOffice$Receiver", name := "letGo", desc := "(LBulletinOffice$Packet;)V" } : Jvm.MethodName) prog_5_method_10_code (3 : Nat) (Option.none : Option Jvm.ClassFile.FieldType)) ∈ hv_ws := wm (wc_3 (List.mem_of_getElem? (i := 217) rfl)) rfl
theorem q_3_214 : (Jvm.Cond.methodLink "BulletinOffice$Receiver" (163 : Nat) ({ cls := "BulletinOffice$Receiver", name := "letGo", desc := "(LBulletinOffice$Packet;)V" } : Jvm.MethodName)) ∈ hv_ws := wm (wc_3 (List.mem_of_getElem? (i := 214) rfl)) rfl
theorem cs_Rc_163 : hv_cs "BulletinOffice$Receiver" 163 y_Rc_letGo b_Rc_letGo 3 none 1 := ⟨q_3_217, q_1_9, ⟨by decide, by decide⟩, by decide +kernel, Or.inl q_3_214⟩
theorem q_3_216 : (Jvm.Cond.instanceMethod ({ cls := "BulletinOffice$Receiver", name := "letGo", desc := "(LBulletinOffice$Packet;)V" } : Jvm.MethodName)) ∈ hv_ws := wm (wc_3 (List.mem_of_getElem? (i := 216) rfl)) rfl
theorem qs_Rc_letGo : Cond.selects y_Rc_letGo.cls y_Rc_letGo y_Rc_letGo ∈ hv_ws := wp (q := (y_Rc_letGo, 8)) (List.mem_append_left _ (List.mem_of_getElem? (i := 15) rfl)) rfl
theorem q_3_153 : (Jvm.Cond.code ({ cls := "BulletinOffice$Packet", name := "isBroken", desc := "()Z" } : Jvm.MethodName) prog_4_method_8_code (3 : Nat) (Option.some Jvm.ClassFile.FieldType.boolean)) ∈ hv_ws := wm (wc_3 (List.mem_of_getElem? (i := 153) rfl)) rfl
theorem q_3_150 : (Jvm.Cond.methodLink "BulletinOffice$Receiver" (63 : Nat) ({ cls := "BulletinOffice$Packet", name := "isBroken", desc := "()Z" } : Jvm.MethodName)) ∈ hv_ws := wm (wc_3 (List.mem_of_getElem? (i := 150) rfl)) rfl
theorem cs_Rc_63 : hv_cs "BulletinOffice$Receiver" 63 y_Pk_isBroken b_Pk_isBroken 3 (some (.boolean)) 0 := ⟨q_3_153, q_1_20, ⟨by decide, by decide⟩, by decide +kernel, Or.inl q_3_150⟩
theorem q_3_151 : (Jvm.Cond.instanceMethod ({ cls := "BulletinOffice$Packet", name := "isBroken", desc := "()Z" } : Jvm.MethodName)) ∈ hv_ws := wm (wc_3 (List.mem_of_getElem? (i := 151) rfl)) rfl
theorem q_3_152 : (Jvm.Cond.selects "BulletinOffice$Packet" ({ cls := "BulletinOffice$Packet", name := "isBroken", desc := "()Z" } : Jvm.MethodName) ({ cls := "BulletinOffice$Packet", name := "isBroken", desc := "()Z" } : Jvm.MethodName)) ∈ hv_ws := wm (wc_3 (List.mem_of_getElem? (i := 152) rfl)) rfl
theorem q_3_162 : (Jvm.Cond.code ({ cls := "BulletinOffice$Receiver", name := "takeShownKey", desc := "(LBulletinOffice$Packet;)Z" } : Jvm.MethodName) prog_5_method_5_code (5 : Nat) (Option.some Jvm.ClassFile.FieldType.boolean)) ∈ hv_ws := wm (wc_3 (List.mem_of_getElem? (i := 162) rfl)) rfl
theorem q_3_159 : (Jvm.Cond.methodLink "BulletinOffice$Receiver" (68 : Nat) ({ cls := "BulletinOffice$Receiver", name := "takeShownKey", desc := "(LBulletinOffice$Packet;)Z" } : Jvm.MethodName)) ∈ hv_ws := wm (wc_3 (List.mem_of_getElem? (i := 159) rfl)) rfl
theorem cs_Rc_68 : hv_cs "BulletinOffice$Receiver" 68 y_Rc_takeShownKey b_Rc_takeShownKey 5 (some (.boolean)) 1 := ⟨q_3_162, q_1_9, ⟨by decide, by decide⟩, by decide +kernel, Or.inl q_3_159⟩
theorem q_3_161 : (Jvm.Cond.instanceMethod ({ cls := "BulletinOffice$Receiver", name := "takeShownKey", desc := "(LBulletinOffice$Packet;)Z" } : Jvm.MethodName)) ∈ hv_ws := wm (wc_3 (List.mem_of_getElem? (i := 161) rfl)) rfl
theorem qs_Rc_takeShownKey : Cond.selects y_Rc_takeShownKey.cls y_Rc_takeShownKey y_Rc_takeShownKey ∈ hv_ws := wp (q := (y_Rc_takeShownKey, 8)) (List.mem_append_left _ (List.mem_of_getElem? (i := 10) rfl)) rfl
theorem q_3_188 : (Jvm.Cond.code ({ cls := "BulletinOffice$Receiver", name := "releaseAll", desc := "()V" } : Jvm.MethodName) prog_5_method_8_code (5 : Nat) (Option.none : Option Jvm.ClassFile.FieldType)) ∈ hv_ws := wm (wc_3 (List.mem_of_getElem? (i := 188) rfl)) rfl
theorem q_3_185 : (Jvm.Cond.methodLink "BulletinOffice$Receiver" (72 : Nat) ({ cls := "BulletinOffice$Receiver", name := "releaseAll", desc := "()V" } : Jvm.MethodName)) ∈ hv_ws := wm (wc_3 (List.mem_of_getElem? (i := 185) rfl)) rfl
theorem cs_Rc_72 : hv_cs "BulletinOffice$Receiver" 72 y_Rc_releaseAll b_Rc_releaseAll 5 none 0 := ⟨q_3_188, q_1_9, ⟨by decide, by decide⟩, by decide +kernel, Or.inl q_3_185⟩
theorem q_3_187 : (Jvm.Cond.instanceMethod ({ cls := "BulletinOffice$Receiver", name := "releaseAll", desc := "()V" } : Jvm.MethodName)) ∈ hv_ws := wm (wc_3 (List.mem_of_getElem? (i := 187) rfl)) rfl
theorem qs_Rc_releaseAll : Cond.selects y_Rc_releaseAll.cls y_Rc_releaseAll y_Rc_releaseAll ∈ hv_ws := wp (q := (y_Rc_releaseAll, 8)) (List.mem_append_left _ (List.mem_of_getElem? (i := 11) rfl)) rfl
theorem q_1_152 : (Jvm.Cond.fieldLink "BulletinOffice$Receiver" (79 : Nat) "BulletinOffice$Receiver" "drift" "I") ∈ hv_ws := wm (wc_1 (List.mem_of_getElem? (i := 152) rfl)) rfl
theorem fa_Rc_79 : hv_fa "BulletinOffice$Receiver" 79 4 7 := ⟨R4, T4, 8, "BulletinOffice$Receiver", rfl, hin4, by decide, Or.inl q_1_152, Or.inl rfl⟩
theorem q_3_228 : (Jvm.Cond.code ({ cls := "BulletinOffice$Clock", name := "canHaveShown", desc := "(II)Z" } : Jvm.MethodName) prog_2_method_3_code (3 : Nat) (Option.some Jvm.ClassFile.FieldType.boolean)) ∈ hv_ws := wm (wc_3 (List.mem_of_getElem? (i := 228) rfl)) rfl
theorem q_3_225 : (Jvm.Cond.methodLink "BulletinOffice$Receiver" (82 : Nat) ({ cls := "BulletinOffice$Clock", name := "canHaveShown", desc := "(II)Z" } : Jvm.MethodName)) ∈ hv_ws := wm (wc_3 (List.mem_of_getElem? (i := 225) rfl)) rfl
theorem cs_Rc_82 : hv_cs "BulletinOffice$Receiver" 82 y_Ck_canHaveShown b_Ck_canHaveShown 3 (some (.boolean)) 2 := ⟨q_3_228, q_1_2, ⟨by decide, by decide⟩, by decide +kernel, Or.inl q_3_225⟩
theorem q_3_226 : (Jvm.Cond.instanceMethod ({ cls := "BulletinOffice$Clock", name := "canHaveShown", desc := "(II)Z" } : Jvm.MethodName)) ∈ hv_ws := wm (wc_3 (List.mem_of_getElem? (i := 226) rfl)) rfl
theorem q_3_227 : (Jvm.Cond.selects "BulletinOffice$Clock" ({ cls := "BulletinOffice$Clock", name := "canHaveShown", desc := "(II)Z" } : Jvm.MethodName) ({ cls := "BulletinOffice$Clock", name := "canHaveShown", desc := "(II)Z" } : Jvm.MethodName)) ∈ hv_ws := wm (wc_3 (List.mem_of_getElem? (i := 227) rfl)) rfl
theorem q_3_232 : (Jvm.Cond.code ({ cls := "BulletinOffice$Receiver", name := "holdsTwinOf", desc := "(LBulletinOffice$Packet;)Z" } : Jvm.MethodName) prog_5_method_7_code (3 : Nat) (Option.some Jvm.ClassFile.FieldType.boolean)) ∈ hv_ws := wm (wc_3 (List.mem_of_getElem? (i := 232) rfl)) rfl
theorem q_3_229 : (Jvm.Cond.methodLink "BulletinOffice$Receiver" (92 : Nat) ({ cls := "BulletinOffice$Receiver", name := "holdsTwinOf", desc := "(LBulletinOffice$Packet;)Z" } : Jvm.MethodName)) ∈ hv_ws := wm (wc_3 (List.mem_of_getElem? (i := 229) rfl)) rfl
theorem cs_Rc_92 : hv_cs "BulletinOffice$Receiver" 92 y_Rc_holdsTwinOf b_Rc_holdsTwinOf 3 (some (.boolean)) 1 := ⟨q_3_232, q_1_9, ⟨by decide, by decide⟩, by decide +kernel, Or.inl q_3_229⟩
theorem q_3_231 : (Jvm.Cond.instanceMethod ({ cls := "BulletinOffice$Receiver", name := "holdsTwinOf", desc := "(LBulletinOffice$Packet;)Z" } : Jvm.MethodName)) ∈ hv_ws := wm (wc_3 (List.mem_of_getElem? (i := 231) rfl)) rfl
theorem qs_Rc_holdsTwinOf : Cond.selects y_Rc_holdsTwinOf.cls y_Rc_holdsTwinOf y_Rc_holdsTwinOf ∈ hv_ws := wp (q := (y_Rc_holdsTwinOf, 8)) (List.mem_append_right _ (List.mem_append_left _ (List.mem_of_getElem? (i := 0) rfl))) rfl
end
section
def f_Rc_init_l55 (G : ho_G) (N : Nat) (a0 : Nat) : ho_H × Int32 → Option ((ho_H × Int32) ⊕ (ho_H)) := fun (σ, x3) =>
  if 8 ≤ x3 then
  some (.inr σ)
  else
  (ho_gR σ a0 4 2).bind fun b17 =>
  bd2 (ho_al G σ 3 (.inr (2, [.null, .int 0, .int 0]))) fun σ18 b19 =>
  (ho_cv σ18 (f_Kc_init G N σ18 b19)).bind fun σ20 =>
  (ho_f σ20 b19 2).bind fun _ =>
  (ho_stR G σ20 b17 3 x3 (some b19)).bind fun σ21 =>
  some (.inl (σ21, x3 + 1))
def f_Rc_init (G : ho_G) (N : Nat) (σ : ho_H) (a0 : Nat) (a1 : Nat) (a2 : Nat) : Option (ho_H) :=
  bd2 (ho_nwR G σ 3 8) fun σ1 b2 =>
  (ho_p σ1 a0 4 2 (.ref b2)).bind fun σ3 =>
  bd2 (ho_al G σ3 3 (.inr (7, [.null, .int 0, .int 0]))) fun σ4 b5 =>
  (ho_cv σ4 (f_Al_init G N σ4 b5)).bind fun σ6 =>
  (ho_p σ6 a0 4 3 (.ref b5)).bind fun σ7 =>
  bd2 (ho_al G σ7 3 (.inr (7, [.null, .int 0, .int 0]))) fun σ8 b9 =>
  (ho_cv σ8 (f_Al_init G N σ8 b9)).bind fun σ10 =>
  (ho_p σ10 a0 4 4 (.ref b9)).bind fun σ11 =>
  bd2 (ho_nwI G σ11 7) fun σ12 b13 =>
  (ho_p σ12 a0 4 5 (.ref b13)).bind fun σ14 =>
  (ho_p σ14 a0 4 0 (.ref a1)).bind fun σ15 =>
  (ho_p σ15 a0 4 1 (.ref a2)).bind fun σ16 =>
  (ho_it (f_Rc_init_l55 G N a0) N (σ16, 0)).bind fun σ23 =>
  some σ23
def f_Of_init_l70 (G : ho_G) (N : Nat) (a0 : Nat) : ho_H × Int32 → Option ((ho_H × Int32) ⊕ (ho_H)) := fun (σ, x4) =>
  if 8 ≤ x4 then
  some (.inr σ)
  else
  (ho_gR σ a0 5 3).bind fun b18 =>
  bd2 (ho_al G σ 3 (.inr (2, [.null, .int 0, .int 0]))) fun σ19 b20 =>
  (ho_cv σ19 (f_Kc_init G N σ19 b20)).bind fun σ21 =>
  (ho_f σ21 b20 2).bind fun _ =>
  (ho_stR G σ21 b18 3 x4 (some b20)).bind fun σ22 =>
  some (.inl (σ22, x4 + 1))
def f_Of_init_l120 (G : ho_G) (N : Nat) (a0 : Nat) : ho_H × Int32 → Option ((ho_H × Int32) ⊕ (ho_H)) := fun (σ, x4) =>
  if 8 ≤ x4 then
  some (.inr σ)
  else
  (ho_gR σ a0 5 6).bind fun b32 =>
  bd2 (ho_al G σ 8 (.inr (4, [.null, .null, .null, .null, .null, .null, .int 0, .int 0]))) fun σ33 b34 =>
  (ho_gR σ33 a0 5 0).bind fun b35 =>
  (ho_gR σ33 a0 5 1).bind fun b36 =>
  (ho_cv σ33 (f_Rc_init G N σ33 b34 b35 b36)).bind fun σ37 =>
  (ho_f σ37 b34 4).bind fun _ =>
  (ho_stR G σ37 b32 4 x4 (some b34)).bind fun σ38 =>
  some (.inl (σ38, x4 + 1))
def f_Of_init (G : ho_G) (N : Nat) (σ : ho_H) (a0 : Nat) (x1 : Int32) (x2 : Int32) (x3 : Int32) : Option (ho_H) :=
  bd2 (ho_al G σ 4 (.inr (0, [.int 0, .int 0, .int 0, .int 0]))) fun σ1 b2 =>
  (f_Mt_floorMod G N σ1 x1 8).bind fun v3 =>
  (f_Mt_floorMod G N σ1 x2 1000).bind fun v4 =>
  (f_Mt_floorMod G N σ1 x3 10001).bind fun v5 =>
  (ho_cv σ1 (f_Ck_init G N σ1 b2 (1 + v3) (1 + v4) v5)).bind fun σ6 =>
  (ho_p σ6 a0 5 0 (.ref b2)).bind fun σ7 =>
  bd2 (ho_al G σ7 5 (.inr (1, [.null, .null, .null, .int 0, .null]))) fun σ8 b9 =>
  (ho_cv σ8 (f_Sl_init G N σ8 b9)).bind fun σ10 =>
  (ho_p σ10 a0 5 1 (.ref b9)).bind fun σ11 =>
  bd2 (ho_nwI G σ11 8) fun σ12 b13 =>
  (ho_p σ12 a0 5 2 (.ref b13)).bind fun σ14 =>
  bd2 (ho_nwR G σ14 3 8) fun σ15 b16 =>
  (ho_p σ15 a0 5 3 (.ref b16)).bind fun σ17 =>
  (ho_it (f_Of_init_l70 G N a0) N (σ17, 0)).bind fun σ24 =>
  bd2 (ho_al G σ24 3 (.inr (7, [.null, .int 0, .int 0]))) fun σ25 b26 =>
  (ho_cv σ25 (f_Al_init G N σ25 b26)).bind fun σ27 =>
  (ho_p σ27 a0 5 5 (.ref b26)).bind fun σ28 =>
  bd2 (ho_nwR G σ28 4 8) fun σ29 b30 =>
  (ho_p σ29 a0 5 6 (.ref b30)).bind fun σ31 =>
  (ho_it (f_Of_init_l120 G N a0) N (σ31, 0)).bind fun σ40 =>
  some σ40
def f_Of_count (G : ho_G) (N : Nat) (σ : ho_H) (a0 : Nat) (x1 : Int32) : Option (Int32) :=
  if x1 = 0 then
  (ho_gR σ a0 5 0).bind fun b2 =>
  (ho_gI σ b2 0 3).bind fun v3 =>
  some v3
  else
  if x1 = 1 then
  (ho_gR σ a0 5 0).bind fun b4 =>
  (ho_gR σ a0 5 0).bind fun b5 =>
  (ho_gI σ b5 0 3).bind fun v6 =>
  (ho_f σ b4 0).bind fun _ =>
  (f_Ck_intervalAt G N σ b4 v6).bind fun v8 =>
  some v8
  else
  if x1 = 2 then
  (ho_gI σ a0 5 4).bind fun v9 =>
  some v9
  else
  if x1 = 3 then
  (ho_gR σ a0 5 5).bind fun b10 =>
  (ho_f σ b10 7).bind fun _ =>
  (f_Al_size G N σ b10).bind fun v12 =>
  some v12
  else
  some (-1)
def f_Of_post_j76 (G : ho_G) (N : Nat) (σ : ho_H) (a0 : Nat) (a1 : Nat) : Option (ho_H × Int32) :=
  (ho_gR σ a0 5 5).bind fun b16 =>
  (ho_f σ b16 7).bind fun _ =>
  bd2 (ho_ck σ (f_Al_add1 G N σ b16 a1)) fun σ18 v19 =>
  (ho_gR σ18 a0 5 5).bind fun b20 =>
  (ho_f σ18 b20 7).bind fun _ =>
  (f_Al_size G N σ18 b20).bind fun v22 =>
  some (σ18, v22 - 1)
def f_Of_post (G : ho_G) (N : Nat) (σ : ho_H) (a0 : Nat) (a1 : Nat) : Option (ho_H × Int32) :=
  (ho_f σ a1 3).bind fun _ =>
  (f_Pk_interval G N σ a1).bind fun v2 =>
  (ho_gR σ a0 5 3).bind fun b3 =>
  (f_Of_chainOf G N σ v2).bind fun v4 =>
  (ho_ldR G σ b3 3 v4).bind fun b5 =>
  (f_Of_numberInChain G N σ v2).bind fun v6 =>
  (ho_gR σ a0 5 1).bind fun b7 =>
  (ho_f σ b5 2).bind fun _ =>
  (ho_cv σ (f_Kc_sealPacket G N σ b5 v6 a1 b7)).bind fun σ9 =>
  (ho_gR σ9 a0 5 1).bind fun b10 =>
  (ho_gR σ9 b10 1 0).bind fun b11 =>
  (ho_f σ9 a1 3).bind fun _ =>
  (ho_cv σ9 (f_Pk_writeCode G N σ9 a1 b11)).bind fun σ13 =>
  (ho_gR σ13 a0 5 0).bind fun b14 =>
  (ho_gI σ13 b14 0 0).bind fun v15 =>
  if (v2 - v15) < 1 then
  f_Of_post_j76 G N σ13 a0 a1
  else
  (ho_gR σ13 a0 5 3).bind fun b23 =>
  (f_Of_chainOf G N σ13 (v2 - v15)).bind fun v24 =>
  (ho_ldR G σ13 b23 3 v24).bind fun b25 =>
  (f_Of_numberInChain G N σ13 (v2 - v15)).bind fun v26 =>
  (ho_gR σ13 a1 3 0).bind fun b27 =>
  (ho_f σ13 a1 3).bind fun _ =>
  (f_Pk_shownAt G N σ13 a1).bind fun v29 =>
  (ho_f σ13 b25 2).bind fun _ =>
  (ho_cv σ13 (f_Kc_writeKey G N σ13 b25 v26 b27 v29)).bind fun σ31 =>
  f_Of_post_j76 G N σ31 a0 a1
def f_Of_hasPacketByte_j43 (G : ho_G) (N : Nat) (σ : ho_H) (y0 : Int32) : Option (Int32) :=
  (ho_bz y0).bind fun _ => some y0
def f_Of_hasPacketByte_j42 (G : ho_G) (N : Nat) (σ : ho_H)  : Option (Int32) :=
  f_Of_hasPacketByte_j43 G N σ 0
def f_Of_hasPacketByte (G : ho_G) (N : Nat) (σ : ho_H) (a0 : Nat) (x1 : Int32) (x2 : Int32) : Option (Int32) :=
  if x1 < 0 then
  f_Of_hasPacketByte_j42 G N σ 
  else
  (ho_gR σ a0 5 5).bind fun b1 =>
  (ho_f σ b1 7).bind fun _ =>
  (f_Al_size G N σ b1).bind fun v3 =>
  if v3 ≤ x1 then
  f_Of_hasPacketByte_j42 G N σ 
  else
  if x2 < 0 then
  f_Of_hasPacketByte_j42 G N σ 
  else
  (ho_gR σ a0 5 5).bind fun b4 =>
  (ho_f σ b4 7).bind fun _ =>
  (f_Al_get G N σ b4 x1).bind fun b6 =>
  (ho_f σ b6 3).bind fun _ =>
  (ho_gR σ b6 3 0).bind fun b8 =>
  (ho_lnI G σ b8).bind fun v9 =>
  if v9 ≤ x2 then
  f_Of_hasPacketByte_j42 G N σ 
  else
  f_Of_hasPacketByte_j43 G N σ 1
def f_Of_isKept_j33 (G : ho_G) (N : Nat) (σ : ho_H) (y0 : Int32) : Option (Int32) :=
  (ho_bz y0).bind fun _ => some y0
def f_Of_isKept_j32 (G : ho_G) (N : Nat) (σ : ho_H)  : Option (Int32) :=
  f_Of_isKept_j33 G N σ 0
def f_Of_isKept (G : ho_G) (N : Nat) (σ : ho_H) (a0 : Nat) (x1 : Int32) (x2 : Int32) : Option (Int32) :=
  (ho_f σ a0 5).bind fun _ =>
  (f_Of_isReceiver G N σ a0 x1).bind fun v2 =>
  if v2 = 0 then
  f_Of_isKept_j32 G N σ 
  else
  if x2 < 0 then
  f_Of_isKept_j32 G N σ 
  else
  (ho_gR σ a0 5 6).bind fun b3 =>
  (ho_ldR G σ b3 4 x1).bind fun b4 =>
  (ho_gR σ b4 4 4).bind fun b5 =>
  (ho_f σ b5 7).bind fun _ =>
  (f_Al_size G N σ b5).bind fun v7 =>
  if v7 ≤ x2 then
  f_Of_isKept_j32 G N σ 
  else
  f_Of_isKept_j33 G N σ 1
def f_Rc_beginAnew_l2 (G : ho_G) (N : Nat) (a0 : Nat) : ho_H × Int32 → Option ((ho_H × Int32) ⊕ (ho_H)) := fun (σ, x1) =>
  if 8 ≤ x1 then
  some (.inr σ)
  else
  (ho_gR σ a0 4 2).bind fun b1 =>
  (ho_ldR G σ b1 3 x1).bind fun b2 =>
  (ho_f σ b2 2).bind fun _ =>
  (ho_cv σ (f_Kc_forget G N σ b2)).bind fun σ4 =>
  some (.inl (σ4, x1 + 1))
def f_Rc_beginAnew (G : ho_G) (N : Nat) (σ : ho_H) (a0 : Nat) : Option (ho_H) :=
  (ho_it (f_Rc_beginAnew_l2 G N a0) N (σ, 0)).bind fun σ5 =>
  (ho_gR σ5 a0 4 3).bind fun b6 =>
  (ho_f σ5 b6 7).bind fun _ =>
  (ho_cv σ5 (f_Al_clear G N σ5 b6)).bind fun σ8 =>
  (ho_gR σ8 a0 4 4).bind fun b9 =>
  (ho_f σ8 b9 7).bind fun _ =>
  (ho_cv σ8 (f_Al_clear G N σ8 b9)).bind fun σ11 =>
  (ho_gR σ11 a0 4 5).bind fun b12 =>
  (ho_cv σ11 (f_Ar_fill G N σ11 b12 0)).bind fun σ13 =>
  (ho_p σ13 a0 4 6 (.int 0)).bind fun σ14 =>
  some σ14
def f_Rc_latestInterval_l3 (G : ho_G) (N : Nat) (σ : ho_H) (a0 : Nat) : Int32 → Option ((Int32) ⊕ ((Unit) ⊕ (Int32))) := fun x1 =>
  if x1 < 0 then
  some (.inr (.inl ()))
  else
  (ho_gR σ a0 4 2).bind fun b1 =>
  (ho_ldR G σ b1 3 x1).bind fun b2 =>
  (ho_f σ b2 2).bind fun _ =>
  (f_Kc_isKnown G N σ b2).bind fun v4 =>
  if v4 = 0 then
  some (.inl (x1 + (-1)))
  else
  (ho_gR σ a0 4 2).bind fun b5 =>
  (ho_ldR G σ b5 3 x1).bind fun b6 =>
  (ho_gI σ b6 2 2).bind fun v7 =>
  some (.inr (.inr ((x1 * 64) + v7)))
def f_Rc_latestInterval (G : ho_G) (N : Nat) (σ : ho_H) (a0 : Nat) : Option (Int32) :=
  (ho_it (f_Rc_latestInterval_l3 G N σ a0) N 7).bind (sm_e (fun _ =>
  some (-1)) (fun z => some z))
def f_Rc_takeShownKey_j52 (G : ho_G) (N : Nat) (σ : ho_H)  : Option (ho_H × Int32) :=
  some (σ, 1)
def f_Rc_takeShownKey (G : ho_G) (N : Nat) (σ : ho_H) (a0 : Nat) (a1 : Nat) : Option (ho_H × Int32) :=
  (ho_f σ a1 3).bind fun _ =>
  (f_Pk_interval G N σ a1).bind fun v2 =>
  (ho_gR σ a0 4 0).bind fun b3 =>
  (ho_gI σ b3 0 0).bind fun v4 =>
  if 1 ≤ (v2 - v4) then
  (ho_gR σ a0 4 2).bind fun b5 =>
  (f_Of_chainOf G N σ (v2 - v4)).bind fun v6 =>
  (ho_ldR G σ b5 3 v6).bind fun b7 =>
  (f_Of_numberInChain G N σ (v2 - v4)).bind fun v8 =>
  (ho_f σ b7 2).bind fun _ =>
  (f_Kc_isKnown G N σ b7).bind fun v10 =>
  if v10 = 0 then
  f_Rc_takeShownKey_j52 G N σ 
  else
  (ho_gI σ b7 2 1).bind fun v11 =>
  if v11 ≤ v8 then
  (ho_gI σ b7 2 2).bind fun v12 =>
  if v12 < v8 then
  (ho_gR σ a1 3 0).bind fun b13 =>
  (ho_f σ a1 3).bind fun _ =>
  (f_Pk_shownAt G N σ a1).bind fun v15 =>
  (ho_f σ b7 2).bind fun _ =>
  (ho_cv σ (f_Kc_readKey G N σ b7 v8 b13 v15)).bind fun σ17 =>
  (ho_gI σ17 b7 2 2).bind fun v18 =>
  (ho_gR σ17 a0 4 1).bind fun b19 =>
  (ho_f σ17 b7 2).bind fun _ =>
  (ho_cv σ17 (f_Kc_fillDown G N σ17 b7 v8 (v18 + 1) b19)).bind fun σ21 =>
  (ho_gR σ21 a0 4 1).bind fun b22 =>
  (ho_f σ21 b7 2).bind fun _ =>
  bd2 (ho_ck σ21 (f_Kc_raiseTo G N σ21 b7 v8 b22)) fun σ24 v25 =>
  (ho_bz v25).bind fun _ => some (σ24, v25)
  else
  (ho_gR σ a1 3 0).bind fun b26 =>
  (ho_f σ a1 3).bind fun _ =>
  (f_Pk_shownAt G N σ a1).bind fun v28 =>
  (ho_f σ b7 2).bind fun _ =>
  (f_Kc_isKey G N σ b7 v8 b26 v28).bind fun v30 =>
  (ho_bz v30).bind fun _ => some (σ, v30)
  else
  f_Rc_takeShownKey_j52 G N σ 
  else
  some (σ, 1)
def f_Rc_hasKeyFor_j24 (G : ho_G) (N : Nat) (σ : ho_H) (y0 : Int32) : Option (Int32) :=
  (ho_bz y0).bind fun _ => some y0
def f_Rc_hasKeyFor (G : ho_G) (N : Nat) (σ : ho_H) (a0 : Nat) (x1 : Int32) : Option (Int32) :=
  (ho_gR σ a0 4 2).bind fun b1 =>
  (f_Of_chainOf G N σ x1).bind fun v2 =>
  (ho_ldR G σ b1 3 v2).bind fun b3 =>
  (ho_gI σ b3 2 2).bind fun v4 =>
  (f_Of_numberInChain G N σ x1).bind fun v5 =>
  if v4 < v5 then
  f_Rc_hasKeyFor_j24 G N σ 0
  else
  f_Rc_hasKeyFor_j24 G N σ 1
def f_Rc_holdsTwinOf_l2 (G : ho_G) (N : Nat) (σ : ho_H) (a0 : Nat) (a1 : Nat) : Int32 → Option ((Int32) ⊕ ((Unit) ⊕ (Int32))) := fun x2 =>
  (ho_gR σ a0 4 3).bind fun b1 =>
  (ho_f σ b1 7).bind fun _ =>
  (f_Al_size G N σ b1).bind fun v3 =>
  if v3 ≤ x2 then
  some (.inr (.inl ()))
  else
  (ho_gR σ a0 4 3).bind fun b4 =>
  (ho_f σ b4 7).bind fun _ =>
  (f_Al_get G N σ b4 x2).bind fun b6 =>
  (ho_f σ b6 3).bind fun _ =>
  (ho_f σ b6 3).bind fun _ =>
  (f_Pk_isTwinOf G N σ b6 a1).bind fun v9 =>
  if v9 = 0 then
  some (.inl (x2 + 1))
  else
  some (.inr (.inr 1))
def f_Rc_holdsTwinOf (G : ho_G) (N : Nat) (σ : ho_H) (a0 : Nat) (a1 : Nat) : Option (Int32) :=
  (ho_it (f_Rc_holdsTwinOf_l2 G N σ a0 a1) N 0).bind (sm_e (fun _ =>
  some 0) (fun z => some z))
def f_Rc_nextToRelease_j55_in8 (G : ho_G) (N : Nat) (σ : ho_H) (a0 : Nat) (x1 : Int32) (x2 : Int32) (x3 : Int32) : Option ((Int32 × Int32 × Int32) ⊕ (Int32)) :=
  some (.inl (x1, x2, x3 + 1))
def f_Rc_nextToRelease_l8 (G : ho_G) (N : Nat) (σ : ho_H) (a0 : Nat) : Int32 × Int32 × Int32 → Option ((Int32 × Int32 × Int32) ⊕ (Int32)) := fun (x1, x2, x3) =>
  (ho_gR σ a0 4 3).bind fun b1 =>
  (ho_f σ b1 7).bind fun _ =>
  (f_Al_size G N σ b1).bind fun v3 =>
  if v3 ≤ x3 then
  some (.inr x1)
  else
  (ho_gR σ a0 4 3).bind fun b4 =>
  (ho_f σ b4 7).bind fun _ =>
  (f_Al_get G N σ b4 x3).bind fun b6 =>
  (ho_f σ b6 3).bind fun _ =>
  (ho_f σ b6 3).bind fun _ =>
  (f_Pk_interval G N σ b6).bind fun v9 =>
  if x2 ≤ v9 then
  f_Rc_nextToRelease_j55_in8 G N σ a0 x1 x2 x3
  else
  (ho_f σ a0 4).bind fun _ =>
  (f_Rc_hasKeyFor G N σ a0 v9).bind fun v11 =>
  if v11 = 0 then
  f_Rc_nextToRelease_j55_in8 G N σ a0 x1 x2 x3
  else
  f_Rc_nextToRelease_j55_in8 G N σ a0 x3 v9 x3
def f_Rc_nextToRelease (G : ho_G) (N : Nat) (σ : ho_H) (a0 : Nat) : Option (Int32) :=
  (ho_it (f_Rc_nextToRelease_l8 G N σ a0) N ((-1), 513, 0)).bind fun x12 =>
  some x12
def f_Rc_letGo_j82 (G : ho_G) (N : Nat) (σ : ho_H)  : Option (ho_H) :=
  some σ
def f_Rc_letGo_j31 (G : ho_G) (N : Nat) (σ : ho_H) (a0 : Nat) (a1 : Nat) : Option (ho_H) :=
  (ho_f σ a1 3).bind fun _ =>
  (f_Pk_interval G N σ a1).bind fun v7 =>
  (f_Of_chainOf G N σ v7).bind fun v8 =>
  (ho_f σ a1 3).bind fun _ =>
  (f_Pk_kind G N σ a1).bind fun v10 =>
  if ¬ v10 = 1 then
  f_Rc_letGo_j82 G N σ 
  else
  if 8 ≤ (v8 + 1) then
  f_Rc_letGo_j82 G N σ 
  else
  (ho_gR σ a0 4 2).bind fun b11 =>
  (ho_ldR G σ b11 3 (v8 + 1)).bind fun b12 =>
  (ho_f σ b12 2).bind fun _ =>
  (f_Kc_isKnown G N σ b12).bind fun v14 =>
  if ¬ v14 = 0 then
  f_Rc_letGo_j82 G N σ 
  else
  (ho_gR σ a0 4 2).bind fun b15 =>
  (ho_ldR G σ b15 3 (v8 + 1)).bind fun b16 =>
  (ho_gR σ a1 3 0).bind fun b17 =>
  (ho_f σ b16 2).bind fun _ =>
  (ho_cv σ (f_Kc_learnRoot G N σ b16 b17 6)).bind fun σ19 =>
  f_Rc_letGo_j82 G N σ19 
def f_Rc_letGo (G : ho_G) (N : Nat) (σ : ho_H) (a0 : Nat) (a1 : Nat) : Option (ho_H) :=
  (ho_gI σ a0 4 6).bind fun v1 =>
  (ho_p σ a0 4 6 (.int (v1 + 1))).bind fun σ2 =>
  (ho_gR σ2 a0 4 4).bind fun b3 =>
  (ho_f σ2 b3 7).bind fun _ =>
  (f_Al_size G N σ2 b3).bind fun v5 =>
  if 100 ≤ v5 then
  f_Rc_letGo_j31 G N σ2 a0 a1
  else
  (ho_gR σ2 a0 4 4).bind fun b20 =>
  (ho_f σ2 b20 7).bind fun _ =>
  bd2 (ho_ck σ2 (f_Al_add1 G N σ2 b20 a1)) fun σ22 v23 =>
  f_Rc_letGo_j31 G N σ22 a0 a1
def f_Rc_releaseAll_j93_in2 (G : ho_G) (N : Nat) (σ : ho_H) (a0 : Nat) (x1 : Int32) : Option ((ho_H × Int32) ⊕ ((ho_H) ⊕ (ho_H))) :=
  some (.inl (σ, x1 + 1))
def f_Rc_releaseAll_l2 (G : ho_G) (N : Nat) (a0 : Nat) : ho_H × Int32 → Option ((ho_H × Int32) ⊕ ((ho_H) ⊕ (ho_H))) := fun (σ, x1) =>
  if 16 ≤ x1 then
  some (.inr (.inl σ))
  else
  (ho_f σ a0 4).bind fun _ =>
  (f_Rc_nextToRelease G N σ a0).bind fun v2 =>
  if ¬ v2 = (-1) then
  (ho_gR σ a0 4 3).bind fun b3 =>
  (ho_f σ b3 7).bind fun _ =>
  bd2 (ho_ck σ (f_Al_remove G N σ b3 v2)) fun σ5 b6 =>
  (ho_f σ5 b6 3).bind fun _ =>
  (ho_f σ5 b6 3).bind fun _ =>
  (f_Pk_interval G N σ5 b6).bind fun v9 =>
  (ho_gR σ5 a0 4 2).bind fun b10 =>
  (f_Of_chainOf G N σ5 v9).bind fun v11 =>
  (ho_ldR G σ5 b10 3 v11).bind fun b12 =>
  (f_Of_numberInChain G N σ5 v9).bind fun v13 =>
  (ho_gR σ5 a0 4 1).bind fun b14 =>
  (ho_f σ5 b12 2).bind fun _ =>
  (ho_cv σ5 (f_Kc_sealPacket G N σ5 b12 v13 b6 b14)).bind fun σ16 =>
  (ho_gR σ16 a0 4 1).bind fun b17 =>
  (ho_gR σ16 b17 1 0).bind fun b18 =>
  (ho_f σ16 b6 3).bind fun _ =>
  (f_Pk_hasCode G N σ16 b6 b18).bind fun v20 =>
  if v20 = 0 then
  (ho_gR σ16 a0 4 5).bind fun b21 =>
  (ho_ldI G σ16 b21 6).bind fun v22 =>
  (ho_stI G σ16 b21 6 (v22 + 1)).bind fun σ23 =>
  f_Rc_releaseAll_j93_in2 G N σ23 a0 x1
  else
  (ho_f σ16 a0 4).bind fun _ =>
  (ho_cv σ16 (f_Rc_letGo G N σ16 a0 b6)).bind fun σ25 =>
  f_Rc_releaseAll_j93_in2 G N σ25 a0 x1
  else
  some (.inr (.inr σ))
def f_Rc_releaseAll (G : ho_G) (N : Nat) (σ : ho_H) (a0 : Nat) : Option (ho_H) :=
  (ho_it (f_Rc_releaseAll_l2 G N a0) N (σ, 0)).bind (sm_e (fun σ26 =>
  some σ26) (fun z => some z))
def f_Rc_take_j51 (G : ho_G) (N : Nat) (σ : ho_H)  : Option (ho_H × Int32) :=
  some (σ, 1)
def f_Rc_take (G : ho_G) (N : Nat) (σ : ho_H) (a0 : Nat) (a1 : Nat) : Option (ho_H × Int32) :=
  (ho_f σ a1 3).bind fun _ =>
  (f_Pk_isBroken G N σ a1).bind fun v2 =>
  if v2 = 0 then
  (ho_f σ a0 4).bind fun _ =>
  bd2 (ho_ck σ (f_Rc_takeShownKey G N σ a0 a1)) fun σ4 v5 =>
  if ¬ v5 = 0 then
  (ho_f σ4 a0 4).bind fun _ =>
  (ho_cv σ4 (f_Rc_releaseAll G N σ4 a0)).bind fun σ7 =>
  (ho_f σ7 a1 3).bind fun _ =>
  (f_Pk_interval G N σ7 a1).bind fun v9 =>
  (ho_gR σ7 a0 4 0).bind fun b10 =>
  (ho_gI σ7 a0 4 7).bind fun v11 =>
  (ho_f σ7 b10 0).bind fun _ =>
  (f_Ck_canHaveShown G N σ7 b10 v9 v11).bind fun v13 =>
  if ¬ v13 = 0 then
  f_Rc_take_j51 G N σ7 
  else
  (ho_f σ7 a0 4).bind fun _ =>
  (f_Rc_hasKeyFor G N σ7 a0 v9).bind fun v15 =>
  if v15 = 0 then
  (ho_f σ7 a0 4).bind fun _ =>
  (f_Rc_holdsTwinOf G N σ7 a0 a1).bind fun v17 =>
  if v17 = 0 then
  (ho_gR σ7 a0 4 3).bind fun b18 =>
  (ho_f σ7 b18 7).bind fun _ =>
  (f_Al_size G N σ7 b18).bind fun v20 =>
  if v20 < 16 then
  (ho_gR σ7 a0 4 3).bind fun b21 =>
  (ho_f σ7 b21 7).bind fun _ =>
  bd2 (ho_ck σ7 (f_Al_add1 G N σ7 b21 a1)) fun σ23 v24 =>
  some (σ23, 0)
  else
  some (σ7, 4)
  else
  some (σ7, 3)
  else
  f_Rc_take_j51 G N σ7 
  else
  some (σ4, 2)
  else
  some (σ, 5)
end
section
set_option maxHeartbeats 4000000 in
set_option maxRecDepth 100000 in
theorem w_Rc_init_l55 {k : mk_T} (X : hv_X k b_Rc_init y_Rc_init.cls 4 4 80 none y_Rc_init.name) (N : Nat) (a0 : Nat) (σ : ho_H) (x3 : Int32) (r : (ho_H × Int32) ⊕ (ho_H)) (hf : f_Rc_init_l55 k.2.1 N a0 (σ, x3) = some r) (E : sm (fun s => hv_V k s.1 55 [some (.ref a0), none, none, some (.int s.2)] []) (fun s => hv_V k s 80 [none, none, none, none] []) r) : hv_V k σ 55 [some (.ref a0), none, none, some (.int x3)] [] := by
  unfold f_Rc_init_l55 at hf
  try dsimp only at hf
  refine hv_iload_n (pn := 56) X d_Rc_init_55 ?_
  refine hv_bipush (pn := 58) (v := 8) X d_Rc_init_56 ?_
  refine hv_icmp_ge (pn := 61) (tgt := 80) X d_Rc_init_58 (by decide) (fun hc => ?_) (fun hc => ?_)
  · rw [if_pos hc] at hf
    refine hv_drop (i := 0) (lo' := [none, none, none, some (.int x3)]) ?_
    refine hv_drop (i := 3) (lo' := [none, none, none, none]) ?_
    cases hf
    exact E
  · rw [if_neg hc] at hf
    refine hv_aload_n (pn := 62) X d_Rc_init_61 ?_
    obtain ⟨b17, hb17, hf⟩ := bd_E hf
    refine hv_getR (pn := 65) X d_Rc_init_62 fa_Rc_11 hb17 ?_
    refine hv_iload_n (pn := 66) X d_Rc_init_65 ?_
    obtain ⟨σ18, b19, hσ18, hf⟩ := bd2_E hf
    refine hv_new (pn := 69) X d_Rc_init_66 nw_Rc_9 hσ18 ?_
    refine hv_dup (pn := 70) X d_Rc_init_69 rfl ?_
    obtain ⟨σ20, hσ20, hf⟩ := bd_E hf
    obtain ⟨hσ20, mσ20⟩ := ho_cv_E hσ20
    refine hv_callI (pn := 73) X d_Rc_init_70 (c_Kc_init _ _ N σ18 b19 _ hσ20) cs_Rc_39 rfl q_1_88 (by decide) (by decide) mσ20 (Nat.le_of_ble_eq_true rfl) ?_
    obtain ⟨_, hr22, hf⟩ := bd_E hf
    obtain ⟨σ21, hσ21, hf⟩ := bd_E hf
    refine hv_aast (pn := 74) X d_Rc_init_73 rfl rfl (Or.inl rfl) hr22 hσ21 ?_
    refine hv_iinc (pn := 77) (i := 3) (v := x3 + 1) (lo' := [some (.ref a0), none, none, some (.int (x3 + 1))]) X d_Rc_init_74 ?_
    refine hv_goto (tgt := 55) X d_Rc_init_77 (by decide) ?_
    cases hf
    exact E
set_option maxHeartbeats 4000000 in
set_option maxRecDepth 100000 in
theorem c_Rc_init (l : Launch) (G : ho_G) (N : Nat) (σ : ho_H) (a0 : Nat) (a1 : Nat) (a2 : Nat) (σ' : ho_H) (hf : f_Rc_init G N σ a0 a1 a2 = some σ') : hv_C l G y_Rc_init (Cond.code y_Rc_init b_Rc_init 4 none :: hv_ws) 4 80 [.ref a0, .ref a1, .ref a2] σ σ' (none) := by
  refine hv_met [some (.ref a0), some (.ref a1), some (.ref a2), none] (plainFor_of_name (by decide +kernel)) (by intro v hv; simp at hv; rcases hv with rfl | rfl | rfl <;> rfl) (Nat.le_of_ble_eq_true rfl) rfl ?_
  intro k X hkl hkG E
  subst hkl
  subst hkG
  unfold f_Rc_init at hf
  refine hv_aload_n (pn := 1) X d_Rc_init_0 ?_
  refine hv_oinit (pn := 4) X d_Rc_init_1 q_1_135 q_1_30 q_1_31 (by decide) (by decide) (Nat.le_of_ble_eq_true rfl) ?_
  refine hv_aload_n (pn := 5) X d_Rc_init_4 ?_
  refine hv_bipush (pn := 7) (v := 8) X d_Rc_init_5 ?_
  obtain ⟨σ1, b2, hσ1, hf⟩ := bd2_E hf
  refine hv_anew (pn := 10) X d_Rc_init_7 q_1_136 (List.mem_of_getElem? (i := 0) rfl) rfl hσ1 ?_
  obtain ⟨σ3, hσ3, hf⟩ := bd_E hf
  refine hv_putF (pn := 13) X d_Rc_init_10 fp_Rc_11 hσ3 ?_
  refine hv_aload_n (pn := 14) X d_Rc_init_13 ?_
  obtain ⟨σ4, b5, hσ4, hf⟩ := bd2_E hf
  refine hv_new (pn := 17) X d_Rc_init_14 nw_Rc_17 hσ4 ?_
  refine hv_dup (pn := 18) X d_Rc_init_17 rfl ?_
  obtain ⟨σ6, hσ6, hf⟩ := bd_E hf
  obtain ⟨hσ6, mσ6⟩ := ho_cv_E hσ6
  refine hv_callI (pn := 21) X d_Rc_init_18 (c_Al_init _ _ N σ4 b5 _ hσ6) cs_Rc_19 rfl q_1_106 (by decide) (by decide) mσ6 (Nat.le_of_ble_eq_true rfl) ?_
  obtain ⟨σ7, hσ7, hf⟩ := bd_E hf
  refine hv_putF (pn := 24) X d_Rc_init_21 fp_Rc_20 hσ7 ?_
  refine hv_aload_n (pn := 25) X d_Rc_init_24 ?_
  obtain ⟨σ8, b9, hσ8, hf⟩ := bd2_E hf
  refine hv_new (pn := 28) X d_Rc_init_25 nw_Rc_17 hσ8 ?_
  refine hv_dup (pn := 29) X d_Rc_init_28 rfl ?_
  obtain ⟨σ10, hσ10, hf⟩ := bd_E hf
  obtain ⟨hσ10, mσ10⟩ := ho_cv_E hσ10
  refine hv_callI (pn := 32) X d_Rc_init_29 (c_Al_init _ _ N σ8 b9 _ hσ10) cs_Rc_19 rfl q_1_106 (by decide) (by decide) mσ10 (Nat.le_of_ble_eq_true rfl) ?_
  obtain ⟨σ11, hσ11, hf⟩ := bd_E hf
  refine hv_putF (pn := 35) X d_Rc_init_32 fp_Rc_24 hσ11 ?_
  refine hv_aload_n (pn := 36) X d_Rc_init_35 ?_
  refine hv_bipush (pn := 38) (v := 7) X d_Rc_init_36 ?_
  obtain ⟨σ12, b13, hσ12, hf⟩ := bd2_E hf
  refine hv_nwI (pn := 40) X d_Rc_init_38 q_1_83 hσ12 ?_
  obtain ⟨σ14, hσ14, hf⟩ := bd_E hf
  refine hv_putF (pn := 43) X d_Rc_init_40 fp_Rc_27 hσ14 ?_
  refine hv_aload_n (pn := 44) X d_Rc_init_43 ?_
  refine hv_aload_n (pn := 45) X d_Rc_init_44 ?_
  obtain ⟨σ15, hσ15, hf⟩ := bd_E hf
  refine hv_putF (pn := 48) X d_Rc_init_45 fp_Rc_31 hσ15 ?_
  refine hv_aload_n (pn := 49) X d_Rc_init_48 ?_
  refine hv_aload_n (pn := 50) X d_Rc_init_49 ?_
  obtain ⟨σ16, hσ16, hf⟩ := bd_E hf
  refine hv_putF (pn := 53) X d_Rc_init_50 fp_Rc_35 hσ16 ?_
  refine hv_iconst (pn := 54) (v := 0) X d_Rc_init_53 ?_
  refine hv_istore_n (pn := 55) (i := 3) (lo' := [some (.ref a0), some (.ref a1), some (.ref a2), some (.int 0)]) X d_Rc_init_54 ?_
  refine hv_drop (i := 1) (lo' := [some (.ref a0), none, some (.ref a2), some (.int 0)]) ?_
  refine hv_drop (i := 2) (lo' := [some (.ref a0), none, none, some (.int 0)]) ?_
  obtain ⟨σ23, he25, hf⟩ := bd_E hf
  refine hv_loop (P := fun s => hv_V k s.1 55 [some (.ref a0), none, none, some (.int s.2)] []) (Z := fun s => hv_V k s 80 [none, none, none, none] []) (fun s r h1 h2 => by obtain ⟨σ, x3⟩ := s; exact w_Rc_init_l55 X N a0 σ x3 r h1 h2) N (σ16, 0) _ he25 ?_
  try dsimp only at hf ⊢
  cases hf
  exact hv_vret X d_Rc_init_80 E
set_option maxHeartbeats 4000000 in
set_option maxRecDepth 100000 in
theorem w_Of_init_l70 {k : mk_T} (X : hv_X k b_Of_init y_Of_init.cls 5 5 103 none y_Of_init.name) (N : Nat) (a0 : Nat) (σ : ho_H) (x4 : Int32) (r : (ho_H × Int32) ⊕ (ho_H)) (hf : f_Of_init_l70 k.2.1 N a0 (σ, x4) = some r) (E : sm (fun s => hv_V k s.1 70 [some (.ref a0), none, none, none, some (.int s.2)] []) (fun s => hv_V k s 97 [some (.ref a0), none, none, none, none] []) r) : hv_V k σ 70 [some (.ref a0), none, none, none, some (.int x4)] [] := by
  unfold f_Of_init_l70 at hf
  try dsimp only at hf
  refine hv_iload (pn := 72) X d_Of_init_70 ?_
  refine hv_bipush (pn := 74) (v := 8) X d_Of_init_72 ?_
  refine hv_icmp_ge (pn := 77) (tgt := 97) X d_Of_init_74 (by decide) (fun hc => ?_) (fun hc => ?_)
  · rw [if_pos hc] at hf
    refine hv_drop (i := 4) (lo' := [some (.ref a0), none, none, none, none]) ?_
    cases hf
    exact E
  · rw [if_neg hc] at hf
    refine hv_aload_n (pn := 78) X d_Of_init_77 ?_
    obtain ⟨b18, hb18, hf⟩ := bd_E hf
    refine hv_getR (pn := 81) X d_Of_init_78 fa_Of_37 hb18 ?_
    refine hv_iload (pn := 83) X d_Of_init_81 ?_
    obtain ⟨σ19, b20, hσ19, hf⟩ := bd2_E hf
    refine hv_new (pn := 86) X d_Of_init_83 nw_Of_35 hσ19 ?_
    refine hv_dup (pn := 87) X d_Of_init_86 rfl ?_
    obtain ⟨σ21, hσ21, hf⟩ := bd_E hf
    obtain ⟨hσ21, mσ21⟩ := ho_cv_E hσ21
    refine hv_callI (pn := 90) X d_Of_init_87 (c_Kc_init _ _ N σ19 b20 _ hσ21) cs_Of_41 rfl q_1_88 (by decide) (by decide) mσ21 (Nat.le_of_ble_eq_true rfl) ?_
    obtain ⟨_, hr23, hf⟩ := bd_E hf
    obtain ⟨σ22, hσ22, hf⟩ := bd_E hf
    refine hv_aast (pn := 91) X d_Of_init_90 rfl rfl (Or.inl rfl) hr23 hσ22 ?_
    refine hv_iinc (pn := 94) (i := 4) (v := x4 + 1) (lo' := [some (.ref a0), none, none, none, some (.int (x4 + 1))]) X d_Of_init_91 ?_
    refine hv_goto (tgt := 70) X d_Of_init_94 (by decide) ?_
    cases hf
    exact E
set_option maxHeartbeats 4000000 in
set_option maxRecDepth 100000 in
theorem w_Of_init_l120 {k : mk_T} (X : hv_X k b_Of_init y_Of_init.cls 5 5 103 none y_Of_init.name) (N : Nat) (a0 : Nat) (σ : ho_H) (x4 : Int32) (r : (ho_H × Int32) ⊕ (ho_H)) (hf : f_Of_init_l120 k.2.1 N a0 (σ, x4) = some r) (E : sm (fun s => hv_V k s.1 120 [some (.ref a0), none, none, none, some (.int s.2)] []) (fun s => hv_V k s 155 [none, none, none, none, none] []) r) : hv_V k σ 120 [some (.ref a0), none, none, none, some (.int x4)] [] := by
  unfold f_Of_init_l120 at hf
  try dsimp only at hf
  refine hv_iload (pn := 122) X d_Of_init_120 ?_
  refine hv_bipush (pn := 124) (v := 8) X d_Of_init_122 ?_
  refine hv_icmp_ge (pn := 127) (tgt := 155) X d_Of_init_124 (by decide) (fun hc => ?_) (fun hc => ?_)
  · rw [if_pos hc] at hf
    refine hv_drop (i := 0) (lo' := [none, none, none, none, some (.int x4)]) ?_
    refine hv_drop (i := 4) (lo' := [none, none, none, none, none]) ?_
    cases hf
    exact E
  · rw [if_neg hc] at hf
    refine hv_aload_n (pn := 128) X d_Of_init_127 ?_
    obtain ⟨b32, hb32, hf⟩ := bd_E hf
    refine hv_getR (pn := 131) X d_Of_init_128 fa_Of_51 hb32 ?_
    refine hv_iload (pn := 133) X d_Of_init_131 ?_
    obtain ⟨σ33, b34, hσ33, hf⟩ := bd2_E hf
    refine hv_new (pn := 136) X d_Of_init_133 nw_Of_49 hσ33 ?_
    refine hv_dup (pn := 137) X d_Of_init_136 rfl ?_
    refine hv_aload_n (pn := 138) X d_Of_init_137 ?_
    obtain ⟨b35, hb35, hf⟩ := bd_E hf
    refine hv_getR (pn := 141) X d_Of_init_138 fa_Of_18 hb35 ?_
    refine hv_aload_n (pn := 142) X d_Of_init_141 ?_
    obtain ⟨b36, hb36, hf⟩ := bd_E hf
    refine hv_getR (pn := 145) X d_Of_init_142 fa_Of_27 hb36 ?_
    obtain ⟨σ37, hσ37, hf⟩ := bd_E hf
    obtain ⟨hσ37, mσ37⟩ := ho_cv_E hσ37
    refine hv_callI (pn := 148) X d_Of_init_145 (c_Rc_init _ _ N σ33 b34 b35 b36 _ hσ37) cs_Of_55 rfl q_1_133 (by decide) (by decide) mσ37 (Nat.le_of_ble_eq_true rfl) ?_
    obtain ⟨_, hr39, hf⟩ := bd_E hf
    obtain ⟨σ38, hσ38, hf⟩ := bd_E hf
    refine hv_aast (pn := 149) X d_Of_init_148 rfl rfl (Or.inl rfl) hr39 hσ38 ?_
    refine hv_iinc (pn := 152) (i := 4) (v := x4 + 1) (lo' := [some (.ref a0), none, none, none, some (.int (x4 + 1))]) X d_Of_init_149 ?_
    refine hv_goto (tgt := 120) X d_Of_init_152 (by decide) ?_
    cases hf
    exact E
set_option maxHeartbeats 4000000 in
set_option maxRecDepth 100000 in
theorem c_Of_init (l : Launch) (G : ho_G) (N : Nat) (σ : ho_H) (a0 : Nat) (x1 : Int32) (x2 : Int32) (x3 : Int32) (σ' : ho_H) (hf : f_Of_init G N σ a0 x1 x2 x3 = some σ') : hv_C l G y_Of_init (Cond.code y_Of_init b_Of_init 5 none :: hv_ws) 5 103 [.ref a0, .int x1, .int x2, .int x3] σ σ' (none) := by
  refine hv_met [some (.ref a0), some (.int x1), some (.int x2), some (.int x3), none] (plainFor_of_name (by decide +kernel)) (by intro v hv; simp at hv; rcases hv with rfl | rfl | rfl | rfl <;> rfl) (Nat.le_of_ble_eq_true rfl) rfl ?_
  intro k X hkl hkG E
  subst hkl
  subst hkG
  unfold f_Of_init at hf
  refine hv_aload_n (pn := 1) X d_Of_init_0 ?_
  refine hv_oinit (pn := 4) X d_Of_init_1 q_1_29 q_1_30 q_1_31 (by decide) (by decide) (Nat.le_of_ble_eq_true rfl) ?_
  refine hv_aload_n (pn := 5) X d_Of_init_4 ?_
  obtain ⟨σ1, b2, hσ1, hf⟩ := bd2_E hf
  refine hv_new (pn := 8) X d_Of_init_5 nw_Of_7 hσ1 ?_
  refine hv_dup (pn := 9) X d_Of_init_8 rfl ?_
  refine hv_iconst (pn := 10) (v := 1) X d_Of_init_9 ?_
  refine hv_iload_n (pn := 11) X d_Of_init_10 ?_
  refine hv_bipush (pn := 13) (v := 8) X d_Of_init_11 ?_
  obtain ⟨v3, hv3, hf⟩ := bd_E hf
  refine hv_callS (pn := 16) X d_Of_init_13 (c_Mt_floorMod _ _ N σ1 x1 8 _ hv3) cs_Of_9 q_1_35 (by decide) (by decide) ⟨Nat.le_refl _, Nat.le_refl _⟩ (Nat.le_of_ble_eq_true rfl) ?_
  refine hv_iadd (pn := 17) X d_Of_init_16 ?_
  refine hv_iconst (pn := 18) (v := 1) X d_Of_init_17 ?_
  refine hv_iload_n (pn := 19) X d_Of_init_18 ?_
  refine hv_sipush (pn := 22) (v := 1000) X d_Of_init_19 ?_
  obtain ⟨v4, hv4, hf⟩ := bd_E hf
  refine hv_callS (pn := 25) X d_Of_init_22 (c_Mt_floorMod _ _ N σ1 x2 1000 _ hv4) cs_Of_9 q_1_35 (by decide) (by decide) ⟨Nat.le_refl _, Nat.le_refl _⟩ (Nat.le_of_ble_eq_true rfl) ?_
  refine hv_iadd (pn := 26) X d_Of_init_25 ?_
  refine hv_iload_n (pn := 27) X d_Of_init_26 ?_
  refine hv_sipush (pn := 30) (v := 10001) X d_Of_init_27 ?_
  obtain ⟨v5, hv5, hf⟩ := bd_E hf
  refine hv_callS (pn := 33) X d_Of_init_30 (c_Mt_floorMod _ _ N σ1 x3 10001 _ hv5) cs_Of_9 q_1_35 (by decide) (by decide) ⟨Nat.le_refl _, Nat.le_refl _⟩ (Nat.le_of_ble_eq_true rfl) ?_
  obtain ⟨σ6, hσ6, hf⟩ := bd_E hf
  obtain ⟨hσ6, mσ6⟩ := ho_cv_E hσ6
  refine hv_callI (pn := 36) X d_Of_init_33 (c_Ck_init _ _ N σ1 b2 (1 + v3) (1 + v4) v5 _ hσ6) cs_Of_15 rfl q_1_38 (by decide) (by decide) mσ6 (Nat.le_of_ble_eq_true rfl) ?_
  obtain ⟨σ7, hσ7, hf⟩ := bd_E hf
  refine hv_putF (pn := 39) X d_Of_init_36 fp_Of_18 hσ7 ?_
  refine hv_aload_n (pn := 40) X d_Of_init_39 ?_
  obtain ⟨σ8, b9, hσ8, hf⟩ := bd2_E hf
  refine hv_new (pn := 43) X d_Of_init_40 nw_Of_24 hσ8 ?_
  refine hv_dup (pn := 44) X d_Of_init_43 rfl ?_
  obtain ⟨σ10, hσ10, hf⟩ := bd_E hf
  obtain ⟨hσ10, mσ10⟩ := ho_cv_E hσ10
  refine hv_callI (pn := 47) X d_Of_init_44 (c_Sl_init _ _ N σ8 b9 _ hσ10) cs_Of_26 rfl q_1_60 (by decide) (by decide) mσ10 (Nat.le_of_ble_eq_true rfl) ?_
  obtain ⟨σ11, hσ11, hf⟩ := bd_E hf
  refine hv_putF (pn := 50) X d_Of_init_47 fp_Of_27 hσ11 ?_
  refine hv_aload_n (pn := 51) X d_Of_init_50 ?_
  refine hv_bipush (pn := 53) (v := 8) X d_Of_init_51 ?_
  obtain ⟨σ12, b13, hσ12, hf⟩ := bd2_E hf
  refine hv_nwI (pn := 55) X d_Of_init_53 q_1_83 hσ12 ?_
  obtain ⟨σ14, hσ14, hf⟩ := bd_E hf
  refine hv_putF (pn := 58) X d_Of_init_55 fp_Of_31 hσ14 ?_
  refine hv_aload_n (pn := 59) X d_Of_init_58 ?_
  refine hv_bipush (pn := 61) (v := 8) X d_Of_init_59 ?_
  obtain ⟨σ15, b16, hσ15, hf⟩ := bd2_E hf
  refine hv_anew (pn := 64) X d_Of_init_61 q_1_84 (List.mem_of_getElem? (i := 0) rfl) rfl hσ15 ?_
  obtain ⟨σ17, hσ17, hf⟩ := bd_E hf
  refine hv_putF (pn := 67) X d_Of_init_64 fp_Of_37 hσ17 ?_
  refine hv_iconst (pn := 68) (v := 0) X d_Of_init_67 ?_
  refine hv_istore (pn := 70) (i := 4) (lo' := [some (.ref a0), some (.int x1), some (.int x2), some (.int x3), some (.int 0)]) X d_Of_init_68 ?_
  refine hv_drop (i := 1) (lo' := [some (.ref a0), none, some (.int x2), some (.int x3), some (.int 0)]) ?_
  refine hv_drop (i := 2) (lo' := [some (.ref a0), none, none, some (.int x3), some (.int 0)]) ?_
  refine hv_drop (i := 3) (lo' := [some (.ref a0), none, none, none, some (.int 0)]) ?_
  obtain ⟨σ24, he44, hf⟩ := bd_E hf
  refine hv_loop (P := fun s => hv_V k s.1 70 [some (.ref a0), none, none, none, some (.int s.2)] []) (Z := fun s => hv_V k s 97 [some (.ref a0), none, none, none, none] []) (fun s r h1 h2 => by obtain ⟨σ, x4⟩ := s; exact w_Of_init_l70 X N a0 σ x4 r h1 h2) N (σ17, 0) _ he44 ?_
  try dsimp only at hf ⊢
  refine hv_aload_n (pn := 98) X d_Of_init_97 ?_
  obtain ⟨σ25, b26, hσ25, hf⟩ := bd2_E hf
  refine hv_new (pn := 101) X d_Of_init_98 nw_Of_42 hσ25 ?_
  refine hv_dup (pn := 102) X d_Of_init_101 rfl ?_
  obtain ⟨σ27, hσ27, hf⟩ := bd_E hf
  obtain ⟨hσ27, mσ27⟩ := ho_cv_E hσ27
  refine hv_callI (pn := 105) X d_Of_init_102 (c_Al_init _ _ N σ25 b26 _ hσ27) cs_Of_44 rfl q_1_106 (by decide) (by decide) mσ27 (Nat.le_of_ble_eq_true rfl) ?_
  obtain ⟨σ28, hσ28, hf⟩ := bd_E hf
  refine hv_putF (pn := 108) X d_Of_init_105 fp_Of_45 hσ28 ?_
  refine hv_aload_n (pn := 109) X d_Of_init_108 ?_
  refine hv_bipush (pn := 111) (v := 8) X d_Of_init_109 ?_
  obtain ⟨σ29, b30, hσ29, hf⟩ := bd2_E hf
  refine hv_anew (pn := 114) X d_Of_init_111 q_1_129 (List.mem_of_getElem? (i := 1) rfl) rfl hσ29 ?_
  obtain ⟨σ31, hσ31, hf⟩ := bd_E hf
  refine hv_putF (pn := 117) X d_Of_init_114 fp_Of_51 hσ31 ?_
  refine hv_iconst (pn := 118) (v := 0) X d_Of_init_117 ?_
  refine hv_istore (pn := 120) (i := 4) (lo' := [some (.ref a0), none, none, none, some (.int 0)]) X d_Of_init_118 ?_
  obtain ⟨σ40, he42, hf⟩ := bd_E hf
  refine hv_loop (P := fun s => hv_V k s.1 120 [some (.ref a0), none, none, none, some (.int s.2)] []) (Z := fun s => hv_V k s 155 [none, none, none, none, none] []) (fun s r h1 h2 => by obtain ⟨σ, x4⟩ := s; exact w_Of_init_l120 X N a0 σ x4 r h1 h2) N (σ31, 0) _ he42 ?_
  try dsimp only at hf ⊢
  cases hf
  exact hv_vret X d_Of_init_155 E
set_option maxHeartbeats 4000000 in
set_option maxRecDepth 100000 in
theorem c_Of_count (l : Launch) (G : ho_G) (N : Nat) (σ : ho_H) (a0 : Nat) (x1 : Int32) (r : Int32) (hf : f_Of_count G N σ a0 x1 = some r) : hv_C l G y_Of_count (Cond.code y_Of_count b_Of_count 2 (some (.int)) :: hv_ws) 1 21 [.ref a0, .int x1] σ σ (some (.int r)) := by
  refine hv_met [some (.ref a0), some (.int x1)] (plainFor_of_name (by decide +kernel)) (by intro v hv; simp at hv; rcases hv with rfl | rfl <;> rfl) (Nat.le_of_ble_eq_true rfl) rfl ?_
  intro k X hkl hkG E
  subst hkl
  subst hkG
  unfold f_Of_count at hf
  refine hv_iload_n (pn := 1) X d_Of_count_0 ?_
  by_cases hs1_0 : x1 = 0
  · rw [if_pos hs1_0] at hf
    refine hv_tsw_in (n := 0) (off := 31) (tgt := 32) X d_Of_count_1 (by rw [hs1_0]; decide) (by decide) (by decide) (by decide) (by decide) ?_
    refine hv_aload_n (pn := 33) X d_Of_count_32 ?_
    obtain ⟨b2, hb2, hf⟩ := bd_E hf
    refine hv_getR (pn := 36) X d_Of_count_33 fa_Of_18 hb2 ?_
    obtain ⟨v3, hv3, hf⟩ := bd_E hf
    refine hv_getI (pn := 39) X d_Of_count_36 fa_Of_77 hv3 ?_
    cases hf
    exact hv_iret X d_Of_count_39 E
  · rw [if_neg hs1_0] at hf
    by_cases hs1_1 : x1 = 1
    · rw [if_pos hs1_1] at hf
      refine hv_tsw_in (n := 1) (off := 39) (tgt := 40) X d_Of_count_1 (by rw [hs1_1]; decide) (by decide) (by decide) (by decide) (by decide) ?_
      refine hv_aload_n (pn := 41) X d_Of_count_40 ?_
      obtain ⟨b4, hb4, hf⟩ := bd_E hf
      refine hv_getR (pn := 44) X d_Of_count_41 fa_Of_18 hb4 ?_
      refine hv_aload_n (pn := 45) X d_Of_count_44 ?_
      obtain ⟨b5, hb5, hf⟩ := bd_E hf
      refine hv_getR (pn := 48) X d_Of_count_45 fa_Of_18 hb5 ?_
      obtain ⟨v6, hv6, hf⟩ := bd_E hf
      refine hv_getI (pn := 51) X d_Of_count_48 fa_Of_77 hv6 ?_
      obtain ⟨_, hr7, hf⟩ := bd_E hf
      obtain ⟨v8, hv8, hf⟩ := bd_E hf
      refine hv_callV (pn := 54) X d_Of_count_51 (c_Ck_intervalAt _ _ N σ b4 v6 _ hv8) cs_Of_80 q_1_198 rfl q_1_199 hr7 (by decide) (by decide) ⟨Nat.le_refl _, Nat.le_refl _⟩ (Nat.le_of_ble_eq_true rfl) ?_
      cases hf
      exact hv_iret X d_Of_count_54 E
    · rw [if_neg hs1_1] at hf
      by_cases hs1_2 : x1 = 2
      · rw [if_pos hs1_2] at hf
        refine hv_tsw_in (n := 2) (off := 54) (tgt := 55) X d_Of_count_1 (by rw [hs1_2]; decide) (by decide) (by decide) (by decide) (by decide) ?_
        refine hv_aload_n (pn := 56) X d_Of_count_55 ?_
        obtain ⟨v9, hv9, hf⟩ := bd_E hf
        refine hv_getI (pn := 59) X d_Of_count_56 fa_Of_58 hv9 ?_
        cases hf
        exact hv_iret X d_Of_count_59 E
      · rw [if_neg hs1_2] at hf
        by_cases hs1_3 : x1 = 3
        · rw [if_pos hs1_3] at hf
          refine hv_tsw_in (n := 3) (off := 59) (tgt := 60) X d_Of_count_1 (by rw [hs1_3]; decide) (by decide) (by decide) (by decide) (by decide) ?_
          refine hv_aload_n (pn := 61) X d_Of_count_60 ?_
          obtain ⟨b10, hb10, hf⟩ := bd_E hf
          refine hv_getR (pn := 64) X d_Of_count_61 fa_Of_45 hb10 ?_
          obtain ⟨_, hr11, hf⟩ := bd_E hf
          obtain ⟨v12, hv12, hf⟩ := bd_E hf
          refine hv_callV (pn := 67) X d_Of_count_64 (c_Al_size _ _ N σ b10 _ hv12) cs_Of_107 q_1_202 rfl q_1_203 hr11 (by decide) (by decide) ⟨Nat.le_refl _, Nat.le_refl _⟩ (Nat.le_of_ble_eq_true rfl) ?_
          cases hf
          exact hv_iret X d_Of_count_67 E
        · rw [if_neg hs1_3] at hf
          refine hv_tsw_out (tgt := 68) X d_Of_count_1 (sw_out2 (a := 0) (n := 4) (by decide) (fun j hj => by match j, hj with | 0, _ => exact hs1_0 | 1, _ => exact hs1_1 | 2, _ => exact hs1_2 | 3, _ => exact hs1_3 | q + 4, h => exact absurd h (by omega))) (by decide) ?_
          refine hv_iconst (pn := 69) (v := (-1)) X d_Of_count_68 ?_
          cases hf
          exact hv_iret X d_Of_count_69 E
set_option maxHeartbeats 4000000 in
set_option maxRecDepth 100000 in
theorem w_Of_post_j76 {k : mk_T} (X : hv_X k b_Of_post y_Of_post.cls 4 7 192 (some (.int)) y_Of_post.name) (N : Nat) (σ : ho_H) (a0 : Nat) (a1 : Nat)  (r : ho_H × Int32) (hf : f_Of_post_j76 k.2.1 N σ a0 a1 = some r) (E : hv_end k r.1 (some (.int r.2))) : hv_V k σ 76 [some (.ref a0), some (.ref a1), none, none] [] := by
  unfold f_Of_post_j76 at hf
  refine hv_aload_n (pn := 77) X d_Of_post_76 ?_
  obtain ⟨b16, hb16, hf⟩ := bd_E hf
  refine hv_getR (pn := 80) X d_Of_post_77 fa_Of_45 hb16 ?_
  refine hv_aload_n (pn := 81) X d_Of_post_80 ?_
  obtain ⟨_, hr17, hf⟩ := bd_E hf
  obtain ⟨σ18, v19, hσ18, hf⟩ := bd2_E hf
  obtain ⟨hσ18, mσ18⟩ := ho_ck_E hσ18
  refine hv_callV (pn := 84) X d_Of_post_81 (c_Al_add1 _ _ N σ b16 a1 _ _ hσ18) cs_Of_204 q_2_238 rfl q_2_239 hr17 (by decide) (by decide) mσ18 (Nat.le_of_ble_eq_true rfl) ?_
  refine hv_pop (pn := 85) X d_Of_post_84 rfl ?_
  refine hv_aload_n (pn := 86) X d_Of_post_85 ?_
  obtain ⟨b20, hb20, hf⟩ := bd_E hf
  refine hv_getR (pn := 89) X d_Of_post_86 fa_Of_45 hb20 ?_
  obtain ⟨_, hr21, hf⟩ := bd_E hf
  obtain ⟨v22, hv22, hf⟩ := bd_E hf
  refine hv_callV (pn := 92) X d_Of_post_89 (c_Al_size _ _ N σ18 b20 _ hv22) cs_Of_107 q_1_202 rfl q_1_203 hr21 (by decide) (by decide) ⟨Nat.le_refl _, Nat.le_refl _⟩ (Nat.le_of_ble_eq_true rfl) ?_
  refine hv_iconst (pn := 93) (v := 1) X d_Of_post_92 ?_
  refine hv_isub (pn := 94) X d_Of_post_93 ?_
  cases hf
  exact hv_iret X d_Of_post_94 E
set_option maxHeartbeats 4000000 in
set_option maxRecDepth 100000 in
theorem c_Of_post (l : Launch) (G : ho_G) (N : Nat) (σ : ho_H) (a0 : Nat) (a1 : Nat) (σ' : ho_H) (r : Int32) (hf : f_Of_post G N σ a0 a1 = some (σ', r)) : hv_C l G y_Of_post (Cond.code y_Of_post b_Of_post 4 (some (.int)) :: hv_ws) 7 192 [.ref a0, .ref a1] σ σ' (some (.int r)) := by
  refine hv_met [some (.ref a0), some (.ref a1), none, none] (plainFor_of_name (by decide +kernel)) (by intro v hv; simp at hv; rcases hv with rfl | rfl <;> rfl) (Nat.le_of_ble_eq_true rfl) rfl ?_
  intro k X hkl hkG E
  subst hkl
  subst hkG
  unfold f_Of_post at hf
  refine hv_aload_n (pn := 1) X d_Of_post_0 ?_
  obtain ⟨_, hr1, hf⟩ := bd_E hf
  obtain ⟨v2, hv2, hf⟩ := bd_E hf
  refine hv_callV (pn := 4) X d_Of_post_1 (c_Pk_interval _ _ N σ a1 _ hv2) cs_Of_180 q_2_195 rfl q_2_196 hr1 (by decide) (by decide) ⟨Nat.le_refl _, Nat.le_refl _⟩ (Nat.le_of_ble_eq_true rfl) ?_
  refine hv_istore_n (pn := 5) (i := 2) (lo' := [some (.ref a0), some (.ref a1), some (.int v2), none]) X d_Of_post_4 ?_
  refine hv_aload_n (pn := 6) X d_Of_post_5 ?_
  obtain ⟨b3, hb3, hf⟩ := bd_E hf
  refine hv_getR (pn := 9) X d_Of_post_6 fa_Of_37 hb3 ?_
  refine hv_iload_n (pn := 10) X d_Of_post_9 ?_
  obtain ⟨v4, hv4, hf⟩ := bd_E hf
  refine hv_callS (pn := 13) X d_Of_post_10 (c_Of_chainOf _ _ N σ v2 _ hv4) cs_Of_104 q_2_160 (by decide) (by decide) ⟨Nat.le_refl _, Nat.le_refl _⟩ (Nat.le_of_ble_eq_true rfl) ?_
  obtain ⟨b5, hb5, hf⟩ := bd_E hf
  refine hv_aald (pn := 14) X d_Of_post_13 rfl hb5 ?_
  refine hv_iload_n (pn := 15) X d_Of_post_14 ?_
  obtain ⟨v6, hv6, hf⟩ := bd_E hf
  refine hv_callS (pn := 18) X d_Of_post_15 (c_Of_numberInChain _ _ N σ v2 _ hv6) cs_Of_187 q_2_202 (by decide) (by decide) ⟨Nat.le_refl _, Nat.le_refl _⟩ (Nat.le_of_ble_eq_true rfl) ?_
  refine hv_aload_n (pn := 19) X d_Of_post_18 ?_
  refine hv_aload_n (pn := 20) X d_Of_post_19 ?_
  obtain ⟨b7, hb7, hf⟩ := bd_E hf
  refine hv_getR (pn := 23) X d_Of_post_20 fa_Of_27 hb7 ?_
  obtain ⟨_, hr8, hf⟩ := bd_E hf
  obtain ⟨σ9, hσ9, hf⟩ := bd_E hf
  obtain ⟨hσ9, mσ9⟩ := ho_cv_E hσ9
  refine hv_callV (pn := 26) X d_Of_post_23 (c_Kc_sealPacket _ _ N σ b5 v6 a1 b7 _ hσ9) cs_Of_190 q_2_205 rfl q_2_206 hr8 (by decide) (by decide) mσ9 (Nat.le_of_ble_eq_true rfl) ?_
  refine hv_aload_n (pn := 27) X d_Of_post_26 ?_
  refine hv_aload_n (pn := 28) X d_Of_post_27 ?_
  obtain ⟨b10, hb10, hf⟩ := bd_E hf
  refine hv_getR (pn := 31) X d_Of_post_28 fa_Of_27 hb10 ?_
  obtain ⟨b11, hb11, hf⟩ := bd_E hf
  refine hv_getR (pn := 34) X d_Of_post_31 fa_Of_101 hb11 ?_
  obtain ⟨_, hr12, hf⟩ := bd_E hf
  obtain ⟨σ13, hσ13, hf⟩ := bd_E hf
  obtain ⟨hσ13, mσ13⟩ := ho_cv_E hσ13
  refine hv_callV (pn := 37) X d_Of_post_34 (c_Pk_writeCode _ _ N σ9 a1 b11 _ hσ13) cs_Of_194 q_2_219 rfl q_2_220 hr12 (by decide) (by decide) mσ13 (Nat.le_of_ble_eq_true rfl) ?_
  refine hv_iload_n (pn := 38) X d_Of_post_37 ?_
  refine hv_aload_n (pn := 39) X d_Of_post_38 ?_
  obtain ⟨b14, hb14, hf⟩ := bd_E hf
  refine hv_getR (pn := 42) X d_Of_post_39 fa_Of_18 hb14 ?_
  obtain ⟨v15, hv15, hf⟩ := bd_E hf
  refine hv_getI (pn := 45) X d_Of_post_42 fa_Of_198 hv15 ?_
  refine hv_isub (pn := 46) X d_Of_post_45 ?_
  refine hv_istore_n (pn := 47) (i := 3) (lo' := [some (.ref a0), some (.ref a1), some (.int v2), some (.int (v2 - v15))]) X d_Of_post_46 ?_
  refine hv_iload_n (pn := 48) X d_Of_post_47 ?_
  refine hv_iconst (pn := 49) (v := 1) X d_Of_post_48 ?_
  refine hv_icmp_lt (pn := 52) (tgt := 76) X d_Of_post_49 (by decide) (fun hc => ?_) (fun hc => ?_)
  · rw [if_pos hc] at hf
    refine hv_drop (i := 2) (lo' := [some (.ref a0), some (.ref a1), none, some (.int (v2 - v15))]) ?_
    refine hv_drop (i := 3) (lo' := [some (.ref a0), some (.ref a1), none, none]) ?_
    exact w_Of_post_j76 X N σ13 a0 a1  _ hf E
  · rw [if_neg hc] at hf
    refine hv_aload_n (pn := 53) X d_Of_post_52 ?_
    obtain ⟨b23, hb23, hf⟩ := bd_E hf
    refine hv_getR (pn := 56) X d_Of_post_53 fa_Of_37 hb23 ?_
    refine hv_iload_n (pn := 57) X d_Of_post_56 ?_
    obtain ⟨v24, hv24, hf⟩ := bd_E hf
    refine hv_callS (pn := 60) X d_Of_post_57 (c_Of_chainOf _ _ N σ13 (v2 - v15) _ hv24) cs_Of_104 q_2_160 (by decide) (by decide) ⟨Nat.le_refl _, Nat.le_refl _⟩ (Nat.le_of_ble_eq_true rfl) ?_
    obtain ⟨b25, hb25, hf⟩ := bd_E hf
    refine hv_aald (pn := 61) X d_Of_post_60 rfl hb25 ?_
    refine hv_iload_n (pn := 62) X d_Of_post_61 ?_
    obtain ⟨v26, hv26, hf⟩ := bd_E hf
    refine hv_callS (pn := 65) X d_Of_post_62 (c_Of_numberInChain _ _ N σ13 (v2 - v15) _ hv26) cs_Of_187 q_2_202 (by decide) (by decide) ⟨Nat.le_refl _, Nat.le_refl _⟩ (Nat.le_of_ble_eq_true rfl) ?_
    refine hv_aload_n (pn := 66) X d_Of_post_65 ?_
    obtain ⟨b27, hb27, hf⟩ := bd_E hf
    refine hv_getR (pn := 69) X d_Of_post_66 fa_Of_117 hb27 ?_
    refine hv_aload_n (pn := 70) X d_Of_post_69 ?_
    obtain ⟨_, hr28, hf⟩ := bd_E hf
    obtain ⟨v29, hv29, hf⟩ := bd_E hf
    refine hv_callV (pn := 73) X d_Of_post_70 (c_Pk_shownAt _ _ N σ13 a1 _ hv29) cs_Of_201 q_2_225 rfl q_2_226 hr28 (by decide) (by decide) ⟨Nat.le_refl _, Nat.le_refl _⟩ (Nat.le_of_ble_eq_true rfl) ?_
    obtain ⟨_, hr30, hf⟩ := bd_E hf
    obtain ⟨σ31, hσ31, hf⟩ := bd_E hf
    obtain ⟨hσ31, mσ31⟩ := ho_cv_E hσ31
    refine hv_callV (pn := 76) X d_Of_post_73 (c_Kc_writeKey _ _ N σ13 b25 v26 b27 v29 _ hσ31) cs_Of_124 q_2_229 rfl q_2_230 hr30 (by decide) (by decide) mσ31 (Nat.le_of_ble_eq_true rfl) ?_
    refine hv_drop (i := 2) (lo' := [some (.ref a0), some (.ref a1), none, some (.int (v2 - v15))]) ?_
    refine hv_drop (i := 3) (lo' := [some (.ref a0), some (.ref a1), none, none]) ?_
    exact w_Of_post_j76 X N σ31 a0 a1  _ hf E
set_option maxHeartbeats 4000000 in
set_option maxRecDepth 100000 in
theorem w_Of_hasPacketByte_j43 {k : mk_T} (X : hv_X k b_Of_hasPacketByte y_Of_hasPacketByte.cls 3 4 124 (some (.boolean)) y_Of_hasPacketByte.name) (N : Nat) (σ : ho_H) (y0 : Int32)  (r : Int32) (hf : f_Of_hasPacketByte_j43 k.2.1 N σ y0 = some r) (E : hv_end k σ (some (.int r))) : hv_V k σ 43 [none, none, none] [.int y0] := by
  unfold f_Of_hasPacketByte_j43 at hf
  obtain ⟨_, hz, hf⟩ := bd_E hf
  cases hf
  exact hv_zret X d_Of_hasPacketByte_43 (ho_bz_E hz) E
set_option maxHeartbeats 4000000 in
set_option maxRecDepth 100000 in
theorem w_Of_hasPacketByte_j42 {k : mk_T} (X : hv_X k b_Of_hasPacketByte y_Of_hasPacketByte.cls 3 4 124 (some (.boolean)) y_Of_hasPacketByte.name) (N : Nat) (σ : ho_H)   (r : Int32) (hf : f_Of_hasPacketByte_j42 k.2.1 N σ  = some r) (E : hv_end k σ (some (.int r))) : hv_V k σ 42 [none, none, none] [] := by
  unfold f_Of_hasPacketByte_j42 at hf
  refine hv_iconst (pn := 43) (v := 0) X d_Of_hasPacketByte_42 ?_
  exact w_Of_hasPacketByte_j43 X N σ 0  _ hf E
set_option maxHeartbeats 4000000 in
set_option maxRecDepth 100000 in
theorem c_Of_hasPacketByte (l : Launch) (G : ho_G) (N : Nat) (σ : ho_H) (a0 : Nat) (x1 : Int32) (x2 : Int32) (r : Int32) (hf : f_Of_hasPacketByte G N σ a0 x1 x2 = some r) : hv_C l G y_Of_hasPacketByte (Cond.code y_Of_hasPacketByte b_Of_hasPacketByte 3 (some (.boolean)) :: hv_ws) 4 124 [.ref a0, .int x1, .int x2] σ σ (some (.int r)) := by
  refine hv_met [some (.ref a0), some (.int x1), some (.int x2)] (plainFor_of_name (by decide +kernel)) (by intro v hv; simp at hv; rcases hv with rfl | rfl | rfl <;> rfl) (Nat.le_of_ble_eq_true rfl) rfl ?_
  intro k X hkl hkG E
  subst hkl
  subst hkG
  unfold f_Of_hasPacketByte at hf
  refine hv_iload_n (pn := 1) X d_Of_hasPacketByte_0 ?_
  refine hv_if_lt (pn := 4) (tgt := 42) X d_Of_hasPacketByte_1 (by decide) (fun hc => ?_) (fun hc => ?_)
  · rw [if_pos hc] at hf
    refine hv_drop (i := 0) (lo' := [none, some (.int x1), some (.int x2)]) ?_
    refine hv_drop (i := 1) (lo' := [none, none, some (.int x2)]) ?_
    refine hv_drop (i := 2) (lo' := [none, none, none]) ?_
    exact w_Of_hasPacketByte_j42 X N σ   _ hf E
  · rw [if_neg hc] at hf
    refine hv_iload_n (pn := 5) X d_Of_hasPacketByte_4 ?_
    refine hv_aload_n (pn := 6) X d_Of_hasPacketByte_5 ?_
    obtain ⟨b1, hb1, hf⟩ := bd_E hf
    refine hv_getR (pn := 9) X d_Of_hasPacketByte_6 fa_Of_45 hb1 ?_
    obtain ⟨_, hr2, hf⟩ := bd_E hf
    obtain ⟨v3, hv3, hf⟩ := bd_E hf
    refine hv_callV (pn := 12) X d_Of_hasPacketByte_9 (c_Al_size _ _ N σ b1 _ hv3) cs_Of_107 q_1_202 rfl q_1_203 hr2 (by decide) (by decide) ⟨Nat.le_refl _, Nat.le_refl _⟩ (Nat.le_of_ble_eq_true rfl) ?_
    refine hv_icmp_ge (pn := 15) (tgt := 42) X d_Of_hasPacketByte_12 (by decide) (fun hc => ?_) (fun hc => ?_)
    · rw [if_pos hc] at hf
      refine hv_drop (i := 0) (lo' := [none, some (.int x1), some (.int x2)]) ?_
      refine hv_drop (i := 1) (lo' := [none, none, some (.int x2)]) ?_
      refine hv_drop (i := 2) (lo' := [none, none, none]) ?_
      exact w_Of_hasPacketByte_j42 X N σ   _ hf E
    · rw [if_neg hc] at hf
      refine hv_iload_n (pn := 16) X d_Of_hasPacketByte_15 ?_
      refine hv_if_lt (pn := 19) (tgt := 42) X d_Of_hasPacketByte_16 (by decide) (fun hc => ?_) (fun hc => ?_)
      · rw [if_pos hc] at hf
        refine hv_drop (i := 0) (lo' := [none, some (.int x1), some (.int x2)]) ?_
        refine hv_drop (i := 1) (lo' := [none, none, some (.int x2)]) ?_
        refine hv_drop (i := 2) (lo' := [none, none, none]) ?_
        exact w_Of_hasPacketByte_j42 X N σ   _ hf E
      · rw [if_neg hc] at hf
        refine hv_iload_n (pn := 20) X d_Of_hasPacketByte_19 ?_
        refine hv_aload_n (pn := 21) X d_Of_hasPacketByte_20 ?_
        obtain ⟨b4, hb4, hf⟩ := bd_E hf
        refine hv_getR (pn := 24) X d_Of_hasPacketByte_21 fa_Of_45 hb4 ?_
        refine hv_iload_n (pn := 25) X d_Of_hasPacketByte_24 ?_
        obtain ⟨_, hr5, hf⟩ := bd_E hf
        obtain ⟨b6, hb6, hf⟩ := bd_E hf
        refine hv_callV (pn := 28) X d_Of_hasPacketByte_25 (c_Al_get _ _ N σ b4 x1 _ hb6) cs_Of_132 q_3_73 rfl q_3_74 hr5 (by decide) (by decide) ⟨Nat.le_refl _, Nat.le_refl _⟩ (Nat.le_of_ble_eq_true rfl) ?_
        obtain ⟨_, hr7, hf⟩ := bd_E hf
        refine hv_cast_o (pn := 31) X d_Of_hasPacketByte_28 q_2_177 rfl (List.mem_of_getElem? (i := 5) rfl) hr7 ?_
        obtain ⟨b8, hb8, hf⟩ := bd_E hf
        refine hv_getR (pn := 34) X d_Of_hasPacketByte_31 fa_Of_117 hb8 ?_
        obtain ⟨v9, hv9, hf⟩ := bd_E hf
        refine hv_alenI (pn := 35) X d_Of_hasPacketByte_34 hv9 ?_
        refine hv_icmp_ge (pn := 38) (tgt := 42) X d_Of_hasPacketByte_35 (by decide) (fun hc => ?_) (fun hc => ?_)
        · rw [if_pos hc] at hf
          refine hv_drop (i := 0) (lo' := [none, some (.int x1), some (.int x2)]) ?_
          refine hv_drop (i := 1) (lo' := [none, none, some (.int x2)]) ?_
          refine hv_drop (i := 2) (lo' := [none, none, none]) ?_
          exact w_Of_hasPacketByte_j42 X N σ   _ hf E
        · rw [if_neg hc] at hf
          refine hv_iconst (pn := 39) (v := 1) X d_Of_hasPacketByte_38 ?_
          refine hv_goto (tgt := 43) X d_Of_hasPacketByte_39 (by decide) ?_
          refine hv_drop (i := 0) (lo' := [none, some (.int x1), some (.int x2)]) ?_
          refine hv_drop (i := 1) (lo' := [none, none, some (.int x2)]) ?_
          refine hv_drop (i := 2) (lo' := [none, none, none]) ?_
          exact w_Of_hasPacketByte_j43 X N σ 1  _ hf E
set_option maxHeartbeats 4000000 in
set_option maxRecDepth 100000 in
theorem w_Of_isKept_j33 {k : mk_T} (X : hv_X k b_Of_isKept y_Of_isKept.cls 3 1 21 (some (.boolean)) y_Of_isKept.name) (N : Nat) (σ : ho_H) (y0 : Int32)  (r : Int32) (hf : f_Of_isKept_j33 k.2.1 N σ y0 = some r) (E : hv_end k σ (some (.int r))) : hv_V k σ 33 [none, none, none] [.int y0] := by
  unfold f_Of_isKept_j33 at hf
  obtain ⟨_, hz, hf⟩ := bd_E hf
  cases hf
  exact hv_zret X d_Of_isKept_33 (ho_bz_E hz) E
set_option maxHeartbeats 4000000 in
set_option maxRecDepth 100000 in
theorem w_Of_isKept_j32 {k : mk_T} (X : hv_X k b_Of_isKept y_Of_isKept.cls 3 1 21 (some (.boolean)) y_Of_isKept.name) (N : Nat) (σ : ho_H)   (r : Int32) (hf : f_Of_isKept_j32 k.2.1 N σ  = some r) (E : hv_end k σ (some (.int r))) : hv_V k σ 32 [none, none, none] [] := by
  unfold f_Of_isKept_j32 at hf
  refine hv_iconst (pn := 33) (v := 0) X d_Of_isKept_32 ?_
  exact w_Of_isKept_j33 X N σ 0  _ hf E
set_option maxHeartbeats 4000000 in
set_option maxRecDepth 100000 in
theorem c_Of_isKept (l : Launch) (G : ho_G) (N : Nat) (σ : ho_H) (a0 : Nat) (x1 : Int32) (x2 : Int32) (r : Int32) (hf : f_Of_isKept G N σ a0 x1 x2 = some r) : hv_C l G y_Of_isKept (Cond.code y_Of_isKept b_Of_isKept 3 (some (.boolean)) :: hv_ws) 1 21 [.ref a0, .int x1, .int x2] σ σ (some (.int r)) := by
  refine hv_met [some (.ref a0), some (.int x1), some (.int x2)] (plainFor_of_name (by decide +kernel)) (by intro v hv; simp at hv; rcases hv with rfl | rfl | rfl <;> rfl) (Nat.le_of_ble_eq_true rfl) rfl ?_
  intro k X hkl hkG E
  subst hkl
  subst hkG
  unfold f_Of_isKept at hf
  refine hv_aload_n (pn := 1) X d_Of_isKept_0 ?_
  refine hv_iload_n (pn := 2) X d_Of_isKept_1 ?_
  obtain ⟨_, hr1, hf⟩ := bd_E hf
  obtain ⟨v2, hv2, hf⟩ := bd_E hf
  refine hv_callV (pn := 5) X d_Of_isKept_2 (c_Of_isReceiver _ _ N σ a0 x1 _ hv2) cs_Of_139 q_3_103 rfl qs_Of_isReceiver hr1 (by decide) (by decide) ⟨Nat.le_refl _, Nat.le_refl _⟩ (Nat.le_of_ble_eq_true rfl) ?_
  refine hv_if_eq (pn := 8) (tgt := 32) X d_Of_isKept_5 (by decide) (fun hc => ?_) (fun hc => ?_)
  · rw [if_pos hc] at hf
    refine hv_drop (i := 0) (lo' := [none, some (.int x1), some (.int x2)]) ?_
    refine hv_drop (i := 1) (lo' := [none, none, some (.int x2)]) ?_
    refine hv_drop (i := 2) (lo' := [none, none, none]) ?_
    exact w_Of_isKept_j32 X N σ   _ hf E
  · rw [if_neg hc] at hf
    refine hv_iload_n (pn := 9) X d_Of_isKept_8 ?_
    refine hv_if_lt (pn := 12) (tgt := 32) X d_Of_isKept_9 (by decide) (fun hc => ?_) (fun hc => ?_)
    · rw [if_pos hc] at hf
      refine hv_drop (i := 0) (lo' := [none, some (.int x1), some (.int x2)]) ?_
      refine hv_drop (i := 1) (lo' := [none, none, some (.int x2)]) ?_
      refine hv_drop (i := 2) (lo' := [none, none, none]) ?_
      exact w_Of_isKept_j32 X N σ   _ hf E
    · rw [if_neg hc] at hf
      refine hv_iload_n (pn := 13) X d_Of_isKept_12 ?_
      refine hv_aload_n (pn := 14) X d_Of_isKept_13 ?_
      obtain ⟨b3, hb3, hf⟩ := bd_E hf
      refine hv_getR (pn := 17) X d_Of_isKept_14 fa_Of_51 hb3 ?_
      refine hv_iload_n (pn := 18) X d_Of_isKept_17 ?_
      obtain ⟨b4, hb4, hf⟩ := bd_E hf
      refine hv_aald (pn := 19) X d_Of_isKept_18 rfl hb4 ?_
      obtain ⟨b5, hb5, hf⟩ := bd_E hf
      refine hv_getR (pn := 22) X d_Of_isKept_19 fa_Of_177 hb5 ?_
      obtain ⟨_, hr6, hf⟩ := bd_E hf
      obtain ⟨v7, hv7, hf⟩ := bd_E hf
      refine hv_callV (pn := 25) X d_Of_isKept_22 (c_Al_size _ _ N σ b5 _ hv7) cs_Of_107 q_1_202 rfl q_1_203 hr6 (by decide) (by decide) ⟨Nat.le_refl _, Nat.le_refl _⟩ (Nat.le_of_ble_eq_true rfl) ?_
      refine hv_icmp_ge (pn := 28) (tgt := 32) X d_Of_isKept_25 (by decide) (fun hc => ?_) (fun hc => ?_)
      · rw [if_pos hc] at hf
        refine hv_drop (i := 0) (lo' := [none, some (.int x1), some (.int x2)]) ?_
        refine hv_drop (i := 1) (lo' := [none, none, some (.int x2)]) ?_
        refine hv_drop (i := 2) (lo' := [none, none, none]) ?_
        exact w_Of_isKept_j32 X N σ   _ hf E
      · rw [if_neg hc] at hf
        refine hv_iconst (pn := 29) (v := 1) X d_Of_isKept_28 ?_
        refine hv_goto (tgt := 33) X d_Of_isKept_29 (by decide) ?_
        refine hv_drop (i := 0) (lo' := [none, some (.int x1), some (.int x2)]) ?_
        refine hv_drop (i := 1) (lo' := [none, none, some (.int x2)]) ?_
        refine hv_drop (i := 2) (lo' := [none, none, none]) ?_
        exact w_Of_isKept_j33 X N σ 1  _ hf E
set_option maxHeartbeats 4000000 in
set_option maxRecDepth 100000 in
theorem w_Rc_beginAnew_l2 {k : mk_T} (X : hv_X k b_Rc_beginAnew y_Rc_beginAnew.cls 2 1 23 none y_Rc_beginAnew.name) (N : Nat) (a0 : Nat) (σ : ho_H) (x1 : Int32) (r : (ho_H × Int32) ⊕ (ho_H)) (hf : f_Rc_beginAnew_l2 k.2.1 N a0 (σ, x1) = some r) (E : sm (fun s => hv_V k s.1 2 [some (.ref a0), some (.int s.2)] []) (fun s => hv_V k s 23 [some (.ref a0), none] []) r) : hv_V k σ 2 [some (.ref a0), some (.int x1)] [] := by
  unfold f_Rc_beginAnew_l2 at hf
  try dsimp only at hf
  refine hv_iload_n (pn := 3) X d_Rc_beginAnew_2 ?_
  refine hv_bipush (pn := 5) (v := 8) X d_Rc_beginAnew_3 ?_
  refine hv_icmp_ge (pn := 8) (tgt := 23) X d_Rc_beginAnew_5 (by decide) (fun hc => ?_) (fun hc => ?_)
  · rw [if_pos hc] at hf
    refine hv_drop (i := 1) (lo' := [some (.ref a0), none]) ?_
    cases hf
    exact E
  · rw [if_neg hc] at hf
    refine hv_aload_n (pn := 9) X d_Rc_beginAnew_8 ?_
    obtain ⟨b1, hb1, hf⟩ := bd_E hf
    refine hv_getR (pn := 12) X d_Rc_beginAnew_9 fa_Rc_11 hb1 ?_
    refine hv_iload_n (pn := 13) X d_Rc_beginAnew_12 ?_
    obtain ⟨b2, hb2, hf⟩ := bd_E hf
    refine hv_aald (pn := 14) X d_Rc_beginAnew_13 rfl hb2 ?_
    obtain ⟨_, hr3, hf⟩ := bd_E hf
    obtain ⟨σ4, hσ4, hf⟩ := bd_E hf
    obtain ⟨hσ4, mσ4⟩ := ho_cv_E hσ4
    refine hv_callV (pn := 17) X d_Rc_beginAnew_14 (c_Kc_forget _ _ N σ b2 _ hσ4) cs_Rc_40 q_3_110 rfl q_3_111 hr3 (by decide) (by decide) mσ4 (Nat.le_of_ble_eq_true rfl) ?_
    refine hv_iinc (pn := 20) (i := 1) (v := x1 + 1) (lo' := [some (.ref a0), some (.int (x1 + 1))]) X d_Rc_beginAnew_17 ?_
    refine hv_goto (tgt := 2) X d_Rc_beginAnew_20 (by decide) ?_
    cases hf
    exact E
set_option maxHeartbeats 4000000 in
set_option maxRecDepth 100000 in
theorem c_Rc_beginAnew (l : Launch) (G : ho_G) (N : Nat) (σ : ho_H) (a0 : Nat) (σ' : ho_H) (hf : f_Rc_beginAnew G N σ a0 = some σ') : hv_C l G y_Rc_beginAnew (Cond.code y_Rc_beginAnew b_Rc_beginAnew 2 none :: hv_ws) 1 23 [.ref a0] σ σ' (none) := by
  refine hv_met [some (.ref a0), none] (plainFor_of_name (by decide +kernel)) (by intro v hv; simp at hv; rcases hv with rfl <;> rfl) (Nat.le_of_ble_eq_true rfl) rfl ?_
  intro k X hkl hkG E
  subst hkl
  subst hkG
  unfold f_Rc_beginAnew at hf
  refine hv_iconst (pn := 1) (v := 0) X d_Rc_beginAnew_0 ?_
  refine hv_istore_n (pn := 2) (i := 1) (lo' := [some (.ref a0), some (.int 0)]) X d_Rc_beginAnew_1 ?_
  obtain ⟨σ5, he16, hf⟩ := bd_E hf
  refine hv_loop (P := fun s => hv_V k s.1 2 [some (.ref a0), some (.int s.2)] []) (Z := fun s => hv_V k s 23 [some (.ref a0), none] []) (fun s r h1 h2 => by obtain ⟨σ, x1⟩ := s; exact w_Rc_beginAnew_l2 X N a0 σ x1 r h1 h2) N (σ, 0) _ he16 ?_
  try dsimp only at hf ⊢
  refine hv_aload_n (pn := 24) X d_Rc_beginAnew_23 ?_
  obtain ⟨b6, hb6, hf⟩ := bd_E hf
  refine hv_getR (pn := 27) X d_Rc_beginAnew_24 fa_Rc_20 hb6 ?_
  obtain ⟨_, hr7, hf⟩ := bd_E hf
  obtain ⟨σ8, hσ8, hf⟩ := bd_E hf
  obtain ⟨hσ8, mσ8⟩ := ho_cv_E hσ8
  refine hv_callV (pn := 30) X d_Rc_beginAnew_27 (c_Al_clear _ _ N σ5 b6 _ hσ8) cs_Rc_43 q_3_114 rfl q_3_115 hr7 (by decide) (by decide) mσ8 (Nat.le_of_ble_eq_true rfl) ?_
  refine hv_aload_n (pn := 31) X d_Rc_beginAnew_30 ?_
  obtain ⟨b9, hb9, hf⟩ := bd_E hf
  refine hv_getR (pn := 34) X d_Rc_beginAnew_31 fa_Rc_24 hb9 ?_
  obtain ⟨_, hr10, hf⟩ := bd_E hf
  obtain ⟨σ11, hσ11, hf⟩ := bd_E hf
  obtain ⟨hσ11, mσ11⟩ := ho_cv_E hσ11
  refine hv_callV (pn := 37) X d_Rc_beginAnew_34 (c_Al_clear _ _ N σ8 b9 _ hσ11) cs_Rc_43 q_3_114 rfl q_3_115 hr10 (by decide) (by decide) mσ11 (Nat.le_of_ble_eq_true rfl) ?_
  refine hv_aload_n (pn := 38) X d_Rc_beginAnew_37 ?_
  obtain ⟨b12, hb12, hf⟩ := bd_E hf
  refine hv_getR (pn := 41) X d_Rc_beginAnew_38 fa_Rc_27 hb12 ?_
  refine hv_iconst (pn := 42) (v := 0) X d_Rc_beginAnew_41 ?_
  obtain ⟨σ13, hσ13, hf⟩ := bd_E hf
  obtain ⟨hσ13, mσ13⟩ := ho_cv_E hσ13
  refine hv_callS (pn := 45) X d_Rc_beginAnew_42 (c_Ar_fill _ _ N σ11 b12 0 _ hσ13) cs_Rc_46 q_2_64 (by decide) (by decide) mσ13 (Nat.le_of_ble_eq_true rfl) ?_
  refine hv_aload_n (pn := 46) X d_Rc_beginAnew_45 ?_
  refine hv_iconst (pn := 47) (v := 0) X d_Rc_beginAnew_46 ?_
  obtain ⟨σ14, hσ14, hf⟩ := bd_E hf
  refine hv_put (pn := 50) X d_Rc_beginAnew_47 fp_Rc_52 hσ14 ?_
  cases hf
  exact hv_vret X d_Rc_beginAnew_50 E
set_option maxHeartbeats 4000000 in
set_option maxRecDepth 100000 in
theorem w_Rc_latestInterval_l3 {k : mk_T} (X : hv_X k b_Rc_latestInterval y_Rc_latestInterval.cls 2 1 20 (some (.int)) y_Rc_latestInterval.name) (N : Nat) (σ : ho_H) (a0 : Nat) (x1 : Int32) (r : (Int32) ⊕ ((Unit) ⊕ (Int32))) (hf : f_Rc_latestInterval_l3 k.2.1 N σ a0 x1 = some r) (E : sm (fun s => hv_V k σ 3 [some (.ref a0), some (.int s)] []) (sm (fun s => hv_V k σ 40 [none, none] []) (fun z => hv_end k σ (some (.int z)))) r) : hv_V k σ 3 [some (.ref a0), some (.int x1)] [] := by
  unfold f_Rc_latestInterval_l3 at hf
  try dsimp only at hf
  refine hv_iload_n (pn := 4) X d_Rc_latestInterval_3 ?_
  refine hv_if_lt (pn := 7) (tgt := 40) X d_Rc_latestInterval_4 (by decide) (fun hc => ?_) (fun hc => ?_)
  · rw [if_pos hc] at hf
    refine hv_drop (i := 0) (lo' := [none, some (.int x1)]) ?_
    refine hv_drop (i := 1) (lo' := [none, none]) ?_
    cases hf
    exact E
  · rw [if_neg hc] at hf
    refine hv_aload_n (pn := 8) X d_Rc_latestInterval_7 ?_
    obtain ⟨b1, hb1, hf⟩ := bd_E hf
    refine hv_getR (pn := 11) X d_Rc_latestInterval_8 fa_Rc_11 hb1 ?_
    refine hv_iload_n (pn := 12) X d_Rc_latestInterval_11 ?_
    obtain ⟨b2, hb2, hf⟩ := bd_E hf
    refine hv_aald (pn := 13) X d_Rc_latestInterval_12 rfl hb2 ?_
    obtain ⟨_, hr3, hf⟩ := bd_E hf
    obtain ⟨v4, hv4, hf⟩ := bd_E hf
    refine hv_callV (pn := 16) X d_Rc_latestInterval_13 (c_Kc_isKnown _ _ N σ b2 _ hv4) cs_Rc_56 q_3_167 rfl q_3_168 hr3 (by decide) (by decide) ⟨Nat.le_refl _, Nat.le_refl _⟩ (Nat.le_of_ble_eq_true rfl) ?_
    refine hv_if_eq (pn := 19) (tgt := 34) X d_Rc_latestInterval_16 (by decide) (fun hc => ?_) (fun hc => ?_)
    · rw [if_pos hc] at hf
      refine hv_iinc (pn := 37) (i := 1) (v := x1 + (-1)) (lo' := [some (.ref a0), some (.int (x1 + (-1)))]) X d_Rc_latestInterval_34 ?_
      refine hv_goto (tgt := 3) X d_Rc_latestInterval_37 (by decide) ?_
      cases hf
      exact E
    · rw [if_neg hc] at hf
      refine hv_iload_n (pn := 20) X d_Rc_latestInterval_19 ?_
      refine hv_bipush (pn := 22) (v := 64) X d_Rc_latestInterval_20 ?_
      refine hv_imul (pn := 23) X d_Rc_latestInterval_22 ?_
      refine hv_aload_n (pn := 24) X d_Rc_latestInterval_23 ?_
      obtain ⟨b5, hb5, hf⟩ := bd_E hf
      refine hv_getR (pn := 27) X d_Rc_latestInterval_24 fa_Rc_11 hb5 ?_
      refine hv_iload_n (pn := 28) X d_Rc_latestInterval_27 ?_
      obtain ⟨b6, hb6, hf⟩ := bd_E hf
      refine hv_aald (pn := 29) X d_Rc_latestInterval_28 rfl hb6 ?_
      obtain ⟨v7, hv7, hf⟩ := bd_E hf
      refine hv_getI (pn := 32) X d_Rc_latestInterval_29 fa_Rc_60 hv7 ?_
      refine hv_iadd (pn := 33) X d_Rc_latestInterval_32 ?_
      cases hf
      exact hv_iret X d_Rc_latestInterval_33 E
set_option maxHeartbeats 4000000 in
set_option maxRecDepth 100000 in
theorem c_Rc_latestInterval (l : Launch) (G : ho_G) (N : Nat) (σ : ho_H) (a0 : Nat) (r : Int32) (hf : f_Rc_latestInterval G N σ a0 = some r) : hv_C l G y_Rc_latestInterval (Cond.code y_Rc_latestInterval b_Rc_latestInterval 2 (some (.int)) :: hv_ws) 1 20 [.ref a0] σ σ (some (.int r)) := by
  refine hv_met [some (.ref a0), none] (plainFor_of_name (by decide +kernel)) (by intro v hv; simp at hv; rcases hv with rfl <;> rfl) (Nat.le_of_ble_eq_true rfl) rfl ?_
  intro k X hkl hkG E
  subst hkl
  subst hkG
  unfold f_Rc_latestInterval at hf
  refine hv_bipush (pn := 2) (v := 7) X d_Rc_latestInterval_0 ?_
  refine hv_istore_n (pn := 3) (i := 1) (lo' := [some (.ref a0), some (.int 7)]) X d_Rc_latestInterval_2 ?_
  obtain ⟨e8, he9, hf⟩ := bd_E hf
  refine hv_loop (P := fun s => hv_V k σ 3 [some (.ref a0), some (.int s)] []) (Z := sm (fun s => hv_V k σ 40 [none, none] []) (fun z => hv_end k σ (some (.int z)))) (fun s r h1 h2 => by exact w_Rc_latestInterval_l3 X N σ a0 s r h1 h2) N 7 e8 he9 ?_
  rcases e8 with _ | z
  · try dsimp only [sm, sm_e] at hf ⊢
    refine hv_iconst (pn := 41) (v := (-1)) X d_Rc_latestInterval_40 ?_
    cases hf
    exact hv_iret X d_Rc_latestInterval_41 E
  · cases (show some _ = some _ from hf); exact E
set_option maxHeartbeats 4000000 in
set_option maxRecDepth 100000 in
theorem w_Rc_takeShownKey_j52 {k : mk_T} (X : hv_X k b_Rc_takeShownKey y_Rc_takeShownKey.cls 5 5 159 (some (.boolean)) y_Rc_takeShownKey.name) (N : Nat) (σ : ho_H)   (r : ho_H × Int32) (hf : f_Rc_takeShownKey_j52 k.2.1 N σ  = some r) (E : hv_end k r.1 (some (.int r.2))) : hv_V k σ 52 [none, none, none, none, none] [] := by
  unfold f_Rc_takeShownKey_j52 at hf
  refine hv_iconst (pn := 53) (v := 1) X d_Rc_takeShownKey_52 ?_
  cases hf
  exact hv_zret X d_Rc_takeShownKey_53 (by decide) E
set_option maxHeartbeats 4000000 in
set_option maxRecDepth 100000 in
theorem c_Rc_takeShownKey (l : Launch) (G : ho_G) (N : Nat) (σ : ho_H) (a0 : Nat) (a1 : Nat) (σ' : ho_H) (r : Int32) (hf : f_Rc_takeShownKey G N σ a0 a1 = some (σ', r)) : hv_C l G y_Rc_takeShownKey (Cond.code y_Rc_takeShownKey b_Rc_takeShownKey 5 (some (.boolean)) :: hv_ws) 5 159 [.ref a0, .ref a1] σ σ' (some (.int r)) := by
  refine hv_met [some (.ref a0), some (.ref a1), none, none, none] (plainFor_of_name (by decide +kernel)) (by intro v hv; simp at hv; rcases hv with rfl | rfl <;> rfl) (Nat.le_of_ble_eq_true rfl) rfl ?_
  intro k X hkl hkG E
  subst hkl
  subst hkG
  unfold f_Rc_takeShownKey at hf
  refine hv_aload_n (pn := 1) X d_Rc_takeShownKey_0 ?_
  obtain ⟨_, hr1, hf⟩ := bd_E hf
  obtain ⟨v2, hv2, hf⟩ := bd_E hf
  refine hv_callV (pn := 4) X d_Rc_takeShownKey_1 (c_Pk_interval _ _ N σ a1 _ hv2) cs_Rc_75 q_2_195 rfl q_2_196 hr1 (by decide) (by decide) ⟨Nat.le_refl _, Nat.le_refl _⟩ (Nat.le_of_ble_eq_true rfl) ?_
  refine hv_aload_n (pn := 5) X d_Rc_takeShownKey_4 ?_
  obtain ⟨b3, hb3, hf⟩ := bd_E hf
  refine hv_getR (pn := 8) X d_Rc_takeShownKey_5 fa_Rc_31 hb3 ?_
  obtain ⟨v4, hv4, hf⟩ := bd_E hf
  refine hv_getI (pn := 11) X d_Rc_takeShownKey_8 fa_Rc_102 hv4 ?_
  refine hv_isub (pn := 12) X d_Rc_takeShownKey_11 ?_
  refine hv_istore_n (pn := 13) (i := 2) (lo' := [some (.ref a0), some (.ref a1), some (.int (v2 - v4)), none, none]) X d_Rc_takeShownKey_12 ?_
  refine hv_iload_n (pn := 14) X d_Rc_takeShownKey_13 ?_
  refine hv_iconst (pn := 15) (v := 1) X d_Rc_takeShownKey_14 ?_
  refine hv_icmp_ge (pn := 18) (tgt := 20) X d_Rc_takeShownKey_15 (by decide) (fun hc => ?_) (fun hc => ?_)
  · rw [if_pos hc] at hf
    refine hv_aload_n (pn := 21) X d_Rc_takeShownKey_20 ?_
    obtain ⟨b5, hb5, hf⟩ := bd_E hf
    refine hv_getR (pn := 24) X d_Rc_takeShownKey_21 fa_Rc_11 hb5 ?_
    refine hv_iload_n (pn := 25) X d_Rc_takeShownKey_24 ?_
    obtain ⟨v6, hv6, hf⟩ := bd_E hf
    refine hv_callS (pn := 28) X d_Rc_takeShownKey_25 (c_Of_chainOf _ _ N σ (v2 - v4) _ hv6) cs_Rc_105 q_2_160 (by decide) (by decide) ⟨Nat.le_refl _, Nat.le_refl _⟩ (Nat.le_of_ble_eq_true rfl) ?_
    obtain ⟨b7, hb7, hf⟩ := bd_E hf
    refine hv_aald (pn := 29) X d_Rc_takeShownKey_28 rfl hb7 ?_
    refine hv_astore_n (pn := 30) (i := 3) (lo' := [some (.ref a0), some (.ref a1), some (.int (v2 - v4)), some (.ref b7), none]) X d_Rc_takeShownKey_29 ?_
    refine hv_iload_n (pn := 31) X d_Rc_takeShownKey_30 ?_
    obtain ⟨v8, hv8, hf⟩ := bd_E hf
    refine hv_callS (pn := 34) X d_Rc_takeShownKey_31 (c_Of_numberInChain _ _ N σ (v2 - v4) _ hv8) cs_Rc_109 q_2_202 (by decide) (by decide) ⟨Nat.le_refl _, Nat.le_refl _⟩ (Nat.le_of_ble_eq_true rfl) ?_
    refine hv_istore (pn := 36) (i := 4) (lo' := [some (.ref a0), some (.ref a1), some (.int (v2 - v4)), some (.ref b7), some (.int v8)]) X d_Rc_takeShownKey_34 ?_
    refine hv_aload_n (pn := 37) X d_Rc_takeShownKey_36 ?_
    obtain ⟨_, hr9, hf⟩ := bd_E hf
    obtain ⟨v10, hv10, hf⟩ := bd_E hf
    refine hv_callV (pn := 40) X d_Rc_takeShownKey_37 (c_Kc_isKnown _ _ N σ b7 _ hv10) cs_Rc_56 q_3_167 rfl q_3_168 hr9 (by decide) (by decide) ⟨Nat.le_refl _, Nat.le_refl _⟩ (Nat.le_of_ble_eq_true rfl) ?_
    refine hv_if_eq (pn := 43) (tgt := 52) X d_Rc_takeShownKey_40 (by decide) (fun hc => ?_) (fun hc => ?_)
    · rw [if_pos hc] at hf
      refine hv_drop (i := 0) (lo' := [none, some (.ref a1), some (.int (v2 - v4)), some (.ref b7), some (.int v8)]) ?_
      refine hv_drop (i := 1) (lo' := [none, none, some (.int (v2 - v4)), some (.ref b7), some (.int v8)]) ?_
      refine hv_drop (i := 2) (lo' := [none, none, none, some (.ref b7), some (.int v8)]) ?_
      refine hv_drop (i := 3) (lo' := [none, none, none, none, some (.int v8)]) ?_
      refine hv_drop (i := 4) (lo' := [none, none, none, none, none]) ?_
      exact w_Rc_takeShownKey_j52 X N σ   _ hf E
    · rw [if_neg hc] at hf
      refine hv_iload (pn := 45) X d_Rc_takeShownKey_43 ?_
      refine hv_aload_n (pn := 46) X d_Rc_takeShownKey_45 ?_
      obtain ⟨v11, hv11, hf⟩ := bd_E hf
      refine hv_getI (pn := 49) X d_Rc_takeShownKey_46 fa_Rc_112 hv11 ?_
      refine hv_icmp_ge (pn := 52) (tgt := 54) X d_Rc_takeShownKey_49 (by decide) (fun hc => ?_) (fun hc => ?_)
      · rw [if_pos hc] at hf
        refine hv_iload (pn := 56) X d_Rc_takeShownKey_54 ?_
        refine hv_aload_n (pn := 57) X d_Rc_takeShownKey_56 ?_
        obtain ⟨v12, hv12, hf⟩ := bd_E hf
        refine hv_getI (pn := 60) X d_Rc_takeShownKey_57 fa_Rc_60 hv12 ?_
        refine hv_icmp_gt (pn := 63) (tgt := 78) X d_Rc_takeShownKey_60 (by decide) (fun hc => ?_) (fun hc => ?_)
        · rw [if_pos hc] at hf
          refine hv_aload_n (pn := 79) X d_Rc_takeShownKey_78 ?_
          refine hv_iload (pn := 81) X d_Rc_takeShownKey_79 ?_
          refine hv_aload_n (pn := 82) X d_Rc_takeShownKey_81 ?_
          obtain ⟨b13, hb13, hf⟩ := bd_E hf
          refine hv_getR (pn := 85) X d_Rc_takeShownKey_82 fa_Rc_115 hb13 ?_
          refine hv_aload_n (pn := 86) X d_Rc_takeShownKey_85 ?_
          obtain ⟨_, hr14, hf⟩ := bd_E hf
          obtain ⟨v15, hv15, hf⟩ := bd_E hf
          refine hv_callV (pn := 89) X d_Rc_takeShownKey_86 (c_Pk_shownAt _ _ N σ a1 _ hv15) cs_Rc_118 q_2_225 rfl q_2_226 hr14 (by decide) (by decide) ⟨Nat.le_refl _, Nat.le_refl _⟩ (Nat.le_of_ble_eq_true rfl) ?_
          obtain ⟨_, hr16, hf⟩ := bd_E hf
          obtain ⟨σ17, hσ17, hf⟩ := bd_E hf
          obtain ⟨hσ17, mσ17⟩ := ho_cv_E hσ17
          refine hv_callV (pn := 92) X d_Rc_takeShownKey_89 (c_Kc_readKey _ _ N σ b7 v8 b13 v15 _ hσ17) cs_Rc_125 q_3_176 rfl q_3_177 hr16 (by decide) (by decide) mσ17 (Nat.le_of_ble_eq_true rfl) ?_
          refine hv_aload_n (pn := 93) X d_Rc_takeShownKey_92 ?_
          refine hv_iload (pn := 95) X d_Rc_takeShownKey_93 ?_
          refine hv_aload_n (pn := 96) X d_Rc_takeShownKey_95 ?_
          obtain ⟨v18, hv18, hf⟩ := bd_E hf
          refine hv_getI (pn := 99) X d_Rc_takeShownKey_96 fa_Rc_60 hv18 ?_
          refine hv_iconst (pn := 100) (v := 1) X d_Rc_takeShownKey_99 ?_
          refine hv_iadd (pn := 101) X d_Rc_takeShownKey_100 ?_
          refine hv_aload_n (pn := 102) X d_Rc_takeShownKey_101 ?_
          obtain ⟨b19, hb19, hf⟩ := bd_E hf
          refine hv_getR (pn := 105) X d_Rc_takeShownKey_102 fa_Rc_35 hb19 ?_
          obtain ⟨_, hr20, hf⟩ := bd_E hf
          obtain ⟨σ21, hσ21, hf⟩ := bd_E hf
          obtain ⟨hσ21, mσ21⟩ := ho_cv_E hσ21
          refine hv_callV (pn := 108) X d_Rc_takeShownKey_105 (c_Kc_fillDown _ _ N σ17 b7 v8 (v18 + 1) b19 _ hσ21) cs_Rc_129 q_2_45 rfl q_2_46 hr20 (by decide) (by decide) mσ21 (Nat.le_of_ble_eq_true rfl) ?_
          refine hv_aload_n (pn := 109) X d_Rc_takeShownKey_108 ?_
          refine hv_iload (pn := 111) X d_Rc_takeShownKey_109 ?_
          refine hv_aload_n (pn := 112) X d_Rc_takeShownKey_111 ?_
          obtain ⟨b22, hb22, hf⟩ := bd_E hf
          refine hv_getR (pn := 115) X d_Rc_takeShownKey_112 fa_Rc_35 hb22 ?_
          obtain ⟨_, hr23, hf⟩ := bd_E hf
          obtain ⟨σ24, v25, hσ24, hf⟩ := bd2_E hf
          obtain ⟨hσ24, mσ24⟩ := ho_ck_E hσ24
          refine hv_callV (pn := 118) X d_Rc_takeShownKey_115 (c_Kc_raiseTo _ _ N σ21 b7 v8 b22 _ _ hσ24) cs_Rc_133 q_3_182 rfl q_3_183 hr23 (by decide) (by decide) mσ24 (Nat.le_of_ble_eq_true rfl) ?_
          obtain ⟨_, hz, hf⟩ := bd_E hf
          cases hf
          exact hv_zret X d_Rc_takeShownKey_118 (ho_bz_E hz) E
        · rw [if_neg hc] at hf
          refine hv_aload_n (pn := 64) X d_Rc_takeShownKey_63 ?_
          refine hv_iload (pn := 66) X d_Rc_takeShownKey_64 ?_
          refine hv_aload_n (pn := 67) X d_Rc_takeShownKey_66 ?_
          obtain ⟨b26, hb26, hf⟩ := bd_E hf
          refine hv_getR (pn := 70) X d_Rc_takeShownKey_67 fa_Rc_115 hb26 ?_
          refine hv_aload_n (pn := 71) X d_Rc_takeShownKey_70 ?_
          obtain ⟨_, hr27, hf⟩ := bd_E hf
          obtain ⟨v28, hv28, hf⟩ := bd_E hf
          refine hv_callV (pn := 74) X d_Rc_takeShownKey_71 (c_Pk_shownAt _ _ N σ a1 _ hv28) cs_Rc_118 q_2_225 rfl q_2_226 hr27 (by decide) (by decide) ⟨Nat.le_refl _, Nat.le_refl _⟩ (Nat.le_of_ble_eq_true rfl) ?_
          obtain ⟨_, hr29, hf⟩ := bd_E hf
          obtain ⟨v30, hv30, hf⟩ := bd_E hf
          refine hv_callV (pn := 77) X d_Rc_takeShownKey_74 (c_Kc_isKey _ _ N σ b7 v8 b26 v28 _ hv30) cs_Rc_121 q_3_172 rfl q_3_173 hr29 (by decide) (by decide) ⟨Nat.le_refl _, Nat.le_refl _⟩ (Nat.le_of_ble_eq_true rfl) ?_
          obtain ⟨_, hz, hf⟩ := bd_E hf
          cases hf
          exact hv_zret X d_Rc_takeShownKey_77 (ho_bz_E hz) E
      · rw [if_neg hc] at hf
        refine hv_drop (i := 0) (lo' := [none, some (.ref a1), some (.int (v2 - v4)), some (.ref b7), some (.int v8)]) ?_
        refine hv_drop (i := 1) (lo' := [none, none, some (.int (v2 - v4)), some (.ref b7), some (.int v8)]) ?_
        refine hv_drop (i := 2) (lo' := [none, none, none, some (.ref b7), some (.int v8)]) ?_
        refine hv_drop (i := 3) (lo' := [none, none, none, none, some (.int v8)]) ?_
        refine hv_drop (i := 4) (lo' := [none, none, none, none, none]) ?_
        exact w_Rc_takeShownKey_j52 X N σ   _ hf E
  · rw [if_neg hc] at hf
    refine hv_iconst (pn := 19) (v := 1) X d_Rc_takeShownKey_18 ?_
    cases hf
    exact hv_zret X d_Rc_takeShownKey_19 (by decide) E
set_option maxHeartbeats 4000000 in
set_option maxRecDepth 100000 in
theorem w_Rc_hasKeyFor_j24 {k : mk_T} (X : hv_X k b_Rc_hasKeyFor y_Rc_hasKeyFor.cls 2 1 20 (some (.boolean)) y_Rc_hasKeyFor.name) (N : Nat) (σ : ho_H) (y0 : Int32)  (r : Int32) (hf : f_Rc_hasKeyFor_j24 k.2.1 N σ y0 = some r) (E : hv_end k σ (some (.int r))) : hv_V k σ 24 [none, none] [.int y0] := by
  unfold f_Rc_hasKeyFor_j24 at hf
  obtain ⟨_, hz, hf⟩ := bd_E hf
  cases hf
  exact hv_zret X d_Rc_hasKeyFor_24 (ho_bz_E hz) E
set_option maxHeartbeats 4000000 in
set_option maxRecDepth 100000 in
theorem c_Rc_hasKeyFor (l : Launch) (G : ho_G) (N : Nat) (σ : ho_H) (a0 : Nat) (x1 : Int32) (r : Int32) (hf : f_Rc_hasKeyFor G N σ a0 x1 = some r) : hv_C l G y_Rc_hasKeyFor (Cond.code y_Rc_hasKeyFor b_Rc_hasKeyFor 2 (some (.boolean)) :: hv_ws) 1 20 [.ref a0, .int x1] σ σ (some (.int r)) := by
  refine hv_met [some (.ref a0), some (.int x1)] (plainFor_of_name (by decide +kernel)) (by intro v hv; simp at hv; rcases hv with rfl | rfl <;> rfl) (Nat.le_of_ble_eq_true rfl) rfl ?_
  intro k X hkl hkG E
  subst hkl
  subst hkG
  unfold f_Rc_hasKeyFor at hf
  refine hv_aload_n (pn := 1) X d_Rc_hasKeyFor_0 ?_
  obtain ⟨b1, hb1, hf⟩ := bd_E hf
  refine hv_getR (pn := 4) X d_Rc_hasKeyFor_1 fa_Rc_11 hb1 ?_
  refine hv_iload_n (pn := 5) X d_Rc_hasKeyFor_4 ?_
  obtain ⟨v2, hv2, hf⟩ := bd_E hf
  refine hv_callS (pn := 8) X d_Rc_hasKeyFor_5 (c_Of_chainOf _ _ N σ x1 _ hv2) cs_Rc_105 q_2_160 (by decide) (by decide) ⟨Nat.le_refl _, Nat.le_refl _⟩ (Nat.le_of_ble_eq_true rfl) ?_
  obtain ⟨b3, hb3, hf⟩ := bd_E hf
  refine hv_aald (pn := 9) X d_Rc_hasKeyFor_8 rfl hb3 ?_
  obtain ⟨v4, hv4, hf⟩ := bd_E hf
  refine hv_getI (pn := 12) X d_Rc_hasKeyFor_9 fa_Rc_60 hv4 ?_
  refine hv_iload_n (pn := 13) X d_Rc_hasKeyFor_12 ?_
  obtain ⟨v5, hv5, hf⟩ := bd_E hf
  refine hv_callS (pn := 16) X d_Rc_hasKeyFor_13 (c_Of_numberInChain _ _ N σ x1 _ hv5) cs_Rc_109 q_2_202 (by decide) (by decide) ⟨Nat.le_refl _, Nat.le_refl _⟩ (Nat.le_of_ble_eq_true rfl) ?_
  refine hv_icmp_lt (pn := 19) (tgt := 23) X d_Rc_hasKeyFor_16 (by decide) (fun hc => ?_) (fun hc => ?_)
  · rw [if_pos hc] at hf
    refine hv_iconst (pn := 24) (v := 0) X d_Rc_hasKeyFor_23 ?_
    refine hv_drop (i := 0) (lo' := [none, some (.int x1)]) ?_
    refine hv_drop (i := 1) (lo' := [none, none]) ?_
    exact w_Rc_hasKeyFor_j24 X N σ 0  _ hf E
  · rw [if_neg hc] at hf
    refine hv_iconst (pn := 20) (v := 1) X d_Rc_hasKeyFor_19 ?_
    refine hv_goto (tgt := 24) X d_Rc_hasKeyFor_20 (by decide) ?_
    refine hv_drop (i := 0) (lo' := [none, some (.int x1)]) ?_
    refine hv_drop (i := 1) (lo' := [none, none]) ?_
    exact w_Rc_hasKeyFor_j24 X N σ 1  _ hf E
set_option maxHeartbeats 4000000 in
set_option maxRecDepth 100000 in
theorem w_Rc_holdsTwinOf_l2 {k : mk_T} (X : hv_X k b_Rc_holdsTwinOf y_Rc_holdsTwinOf.cls 3 4 124 (some (.boolean)) y_Rc_holdsTwinOf.name) (N : Nat) (σ : ho_H) (a0 : Nat) (a1 : Nat) (x2 : Int32) (r : (Int32) ⊕ ((Unit) ⊕ (Int32))) (hf : f_Rc_holdsTwinOf_l2 k.2.1 N σ a0 a1 x2 = some r) (E : sm (fun s => hv_V k σ 2 [some (.ref a0), some (.ref a1), some (.int s)] []) (sm (fun s => hv_V k σ 39 [none, none, none] []) (fun z => hv_end k σ (some (.int z)))) r) : hv_V k σ 2 [some (.ref a0), some (.ref a1), some (.int x2)] [] := by
  unfold f_Rc_holdsTwinOf_l2 at hf
  try dsimp only at hf
  refine hv_iload_n (pn := 3) X d_Rc_holdsTwinOf_2 ?_
  refine hv_aload_n (pn := 4) X d_Rc_holdsTwinOf_3 ?_
  obtain ⟨b1, hb1, hf⟩ := bd_E hf
  refine hv_getR (pn := 7) X d_Rc_holdsTwinOf_4 fa_Rc_20 hb1 ?_
  obtain ⟨_, hr2, hf⟩ := bd_E hf
  obtain ⟨v3, hv3, hf⟩ := bd_E hf
  refine hv_callV (pn := 10) X d_Rc_holdsTwinOf_7 (c_Al_size _ _ N σ b1 _ hv3) cs_Rc_95 q_1_202 rfl q_1_203 hr2 (by decide) (by decide) ⟨Nat.le_refl _, Nat.le_refl _⟩ (Nat.le_of_ble_eq_true rfl) ?_
  refine hv_icmp_ge (pn := 13) (tgt := 39) X d_Rc_holdsTwinOf_10 (by decide) (fun hc => ?_) (fun hc => ?_)
  · rw [if_pos hc] at hf
    refine hv_drop (i := 0) (lo' := [none, some (.ref a1), some (.int x2)]) ?_
    refine hv_drop (i := 1) (lo' := [none, none, some (.int x2)]) ?_
    refine hv_drop (i := 2) (lo' := [none, none, none]) ?_
    cases hf
    exact E
  · rw [if_neg hc] at hf
    refine hv_aload_n (pn := 14) X d_Rc_holdsTwinOf_13 ?_
    obtain ⟨b4, hb4, hf⟩ := bd_E hf
    refine hv_getR (pn := 17) X d_Rc_holdsTwinOf_14 fa_Rc_20 hb4 ?_
    refine hv_iload_n (pn := 18) X d_Rc_holdsTwinOf_17 ?_
    obtain ⟨_, hr5, hf⟩ := bd_E hf
    obtain ⟨b6, hb6, hf⟩ := bd_E hf
    refine hv_callV (pn := 21) X d_Rc_holdsTwinOf_18 (c_Al_get _ _ N σ b4 x2 _ hb6) cs_Rc_137 q_3_73 rfl q_3_74 hr5 (by decide) (by decide) ⟨Nat.le_refl _, Nat.le_refl _⟩ (Nat.le_of_ble_eq_true rfl) ?_
    obtain ⟨_, hr7, hf⟩ := bd_E hf
    refine hv_cast_o (pn := 24) X d_Rc_holdsTwinOf_21 q_3_195 rfl (List.mem_of_getElem? (i := 5) rfl) hr7 ?_
    refine hv_aload_n (pn := 25) X d_Rc_holdsTwinOf_24 ?_
    obtain ⟨_, hr8, hf⟩ := bd_E hf
    obtain ⟨v9, hv9, hf⟩ := bd_E hf
    refine hv_callV (pn := 28) X d_Rc_holdsTwinOf_25 (c_Pk_isTwinOf _ _ N σ b6 a1 _ hv9) cs_Rc_141 q_3_234 rfl q_3_235 hr8 (by decide) (by decide) ⟨Nat.le_refl _, Nat.le_refl _⟩ (Nat.le_of_ble_eq_true rfl) ?_
    refine hv_if_eq (pn := 31) (tgt := 33) X d_Rc_holdsTwinOf_28 (by decide) (fun hc => ?_) (fun hc => ?_)
    · rw [if_pos hc] at hf
      refine hv_iinc (pn := 36) (i := 2) (v := x2 + 1) (lo' := [some (.ref a0), some (.ref a1), some (.int (x2 + 1))]) X d_Rc_holdsTwinOf_33 ?_
      refine hv_goto (tgt := 2) X d_Rc_holdsTwinOf_36 (by decide) ?_
      cases hf
      exact E
    · rw [if_neg hc] at hf
      refine hv_iconst (pn := 32) (v := 1) X d_Rc_holdsTwinOf_31 ?_
      cases hf
      exact hv_zret X d_Rc_holdsTwinOf_32 (by decide) E
set_option maxHeartbeats 4000000 in
set_option maxRecDepth 100000 in
theorem c_Rc_holdsTwinOf (l : Launch) (G : ho_G) (N : Nat) (σ : ho_H) (a0 : Nat) (a1 : Nat) (r : Int32) (hf : f_Rc_holdsTwinOf G N σ a0 a1 = some r) : hv_C l G y_Rc_holdsTwinOf (Cond.code y_Rc_holdsTwinOf b_Rc_holdsTwinOf 3 (some (.boolean)) :: hv_ws) 4 124 [.ref a0, .ref a1] σ σ (some (.int r)) := by
  refine hv_met [some (.ref a0), some (.ref a1), none] (plainFor_of_name (by decide +kernel)) (by intro v hv; simp at hv; rcases hv with rfl | rfl <;> rfl) (Nat.le_of_ble_eq_true rfl) rfl ?_
  intro k X hkl hkG E
  subst hkl
  subst hkG
  unfold f_Rc_holdsTwinOf at hf
  refine hv_iconst (pn := 1) (v := 0) X d_Rc_holdsTwinOf_0 ?_
  refine hv_istore_n (pn := 2) (i := 2) (lo' := [some (.ref a0), some (.ref a1), some (.int 0)]) X d_Rc_holdsTwinOf_1 ?_
  obtain ⟨e10, he11, hf⟩ := bd_E hf
  refine hv_loop (P := fun s => hv_V k σ 2 [some (.ref a0), some (.ref a1), some (.int s)] []) (Z := sm (fun s => hv_V k σ 39 [none, none, none] []) (fun z => hv_end k σ (some (.int z)))) (fun s r h1 h2 => by exact w_Rc_holdsTwinOf_l2 X N σ a0 a1 s r h1 h2) N 0 e10 he11 ?_
  rcases e10 with _ | z
  · try dsimp only [sm, sm_e] at hf ⊢
    refine hv_iconst (pn := 40) (v := 0) X d_Rc_holdsTwinOf_39 ?_
    cases hf
    exact hv_zret X d_Rc_holdsTwinOf_40 (by decide) E
  · cases (show some _ = some _ from hf); exact E
set_option maxHeartbeats 4000000 in
set_option maxRecDepth 100000 in
theorem w_Rc_nextToRelease_j55_in8 {k : mk_T} (X : hv_X k b_Rc_nextToRelease y_Rc_nextToRelease.cls 5 4 124 (some (.int)) y_Rc_nextToRelease.name) (N : Nat) (σ : ho_H) (a0 : Nat) (x1 : Int32) (x2 : Int32) (x3 : Int32)  (r : (Int32 × Int32 × Int32) ⊕ (Int32)) (hf : f_Rc_nextToRelease_j55_in8 k.2.1 N σ a0 x1 x2 x3 = some r) (E : sm (fun s => hv_V k σ 8 [some (.ref a0), some (.int s.1), some (.int s.2.1), some (.int s.2.2), none] []) (fun s => hv_V k σ 61 [none, some (.int s), none, none, none] []) r) : hv_V k σ 55 [some (.ref a0), some (.int x1), some (.int x2), some (.int x3), none] [] := by
  unfold f_Rc_nextToRelease_j55_in8 at hf
  refine hv_iinc (pn := 58) (i := 3) (v := x3 + 1) (lo' := [some (.ref a0), some (.int x1), some (.int x2), some (.int (x3 + 1)), none]) X d_Rc_nextToRelease_55 ?_
  refine hv_goto (tgt := 8) X d_Rc_nextToRelease_58 (by decide) ?_
  cases hf
  exact E
set_option maxHeartbeats 4000000 in
set_option maxRecDepth 100000 in
theorem w_Rc_nextToRelease_l8 {k : mk_T} (X : hv_X k b_Rc_nextToRelease y_Rc_nextToRelease.cls 5 4 124 (some (.int)) y_Rc_nextToRelease.name) (N : Nat) (σ : ho_H) (a0 : Nat) (x1 : Int32) (x2 : Int32) (x3 : Int32) (r : (Int32 × Int32 × Int32) ⊕ (Int32)) (hf : f_Rc_nextToRelease_l8 k.2.1 N σ a0 (x1, x2, x3) = some r) (E : sm (fun s => hv_V k σ 8 [some (.ref a0), some (.int s.1), some (.int s.2.1), some (.int s.2.2), none] []) (fun s => hv_V k σ 61 [none, some (.int s), none, none, none] []) r) : hv_V k σ 8 [some (.ref a0), some (.int x1), some (.int x2), some (.int x3), none] [] := by
  unfold f_Rc_nextToRelease_l8 at hf
  try dsimp only at hf
  refine hv_iload_n (pn := 9) X d_Rc_nextToRelease_8 ?_
  refine hv_aload_n (pn := 10) X d_Rc_nextToRelease_9 ?_
  obtain ⟨b1, hb1, hf⟩ := bd_E hf
  refine hv_getR (pn := 13) X d_Rc_nextToRelease_10 fa_Rc_20 hb1 ?_
  obtain ⟨_, hr2, hf⟩ := bd_E hf
  obtain ⟨v3, hv3, hf⟩ := bd_E hf
  refine hv_callV (pn := 16) X d_Rc_nextToRelease_13 (c_Al_size _ _ N σ b1 _ hv3) cs_Rc_95 q_1_202 rfl q_1_203 hr2 (by decide) (by decide) ⟨Nat.le_refl _, Nat.le_refl _⟩ (Nat.le_of_ble_eq_true rfl) ?_
  refine hv_icmp_ge (pn := 19) (tgt := 61) X d_Rc_nextToRelease_16 (by decide) (fun hc => ?_) (fun hc => ?_)
  · rw [if_pos hc] at hf
    refine hv_drop (i := 0) (lo' := [none, some (.int x1), some (.int x2), some (.int x3), none]) ?_
    refine hv_drop (i := 2) (lo' := [none, some (.int x1), none, some (.int x3), none]) ?_
    refine hv_drop (i := 3) (lo' := [none, some (.int x1), none, none, none]) ?_
    cases hf
    exact E
  · rw [if_neg hc] at hf
    refine hv_aload_n (pn := 20) X d_Rc_nextToRelease_19 ?_
    obtain ⟨b4, hb4, hf⟩ := bd_E hf
    refine hv_getR (pn := 23) X d_Rc_nextToRelease_20 fa_Rc_20 hb4 ?_
    refine hv_iload_n (pn := 24) X d_Rc_nextToRelease_23 ?_
    obtain ⟨_, hr5, hf⟩ := bd_E hf
    obtain ⟨b6, hb6, hf⟩ := bd_E hf
    refine hv_callV (pn := 27) X d_Rc_nextToRelease_24 (c_Al_get _ _ N σ b4 x3 _ hb6) cs_Rc_137 q_3_73 rfl q_3_74 hr5 (by decide) (by decide) ⟨Nat.le_refl _, Nat.le_refl _⟩ (Nat.le_of_ble_eq_true rfl) ?_
    obtain ⟨_, hr7, hf⟩ := bd_E hf
    refine hv_cast_o (pn := 30) X d_Rc_nextToRelease_27 q_3_195 rfl (List.mem_of_getElem? (i := 5) rfl) hr7 ?_
    obtain ⟨_, hr8, hf⟩ := bd_E hf
    obtain ⟨v9, hv9, hf⟩ := bd_E hf
    refine hv_callV (pn := 33) X d_Rc_nextToRelease_30 (c_Pk_interval _ _ N σ b6 _ hv9) cs_Rc_75 q_2_195 rfl q_2_196 hr8 (by decide) (by decide) ⟨Nat.le_refl _, Nat.le_refl _⟩ (Nat.le_of_ble_eq_true rfl) ?_
    refine hv_istore (pn := 35) (i := 4) (lo' := [some (.ref a0), some (.int x1), some (.int x2), some (.int x3), some (.int v9)]) X d_Rc_nextToRelease_33 ?_
    refine hv_iload (pn := 37) X d_Rc_nextToRelease_35 ?_
    refine hv_iload_n (pn := 38) X d_Rc_nextToRelease_37 ?_
    refine hv_icmp_ge (pn := 41) (tgt := 55) X d_Rc_nextToRelease_38 (by decide) (fun hc => ?_) (fun hc => ?_)
    · rw [if_pos hc] at hf
      refine hv_drop (i := 4) (lo' := [some (.ref a0), some (.int x1), some (.int x2), some (.int x3), none]) ?_
      exact w_Rc_nextToRelease_j55_in8 X N σ a0 x1 x2 x3  _ hf E
    · rw [if_neg hc] at hf
      refine hv_aload_n (pn := 42) X d_Rc_nextToRelease_41 ?_
      refine hv_iload (pn := 44) X d_Rc_nextToRelease_42 ?_
      obtain ⟨_, hr10, hf⟩ := bd_E hf
      obtain ⟨v11, hv11, hf⟩ := bd_E hf
      refine hv_callV (pn := 47) X d_Rc_nextToRelease_44 (c_Rc_hasKeyFor _ _ N σ a0 v9 _ hv11) cs_Rc_88 q_3_198 rfl qs_Rc_hasKeyFor hr10 (by decide) (by decide) ⟨Nat.le_refl _, Nat.le_refl _⟩ (Nat.le_of_ble_eq_true rfl) ?_
      refine hv_if_eq (pn := 50) (tgt := 55) X d_Rc_nextToRelease_47 (by decide) (fun hc => ?_) (fun hc => ?_)
      · rw [if_pos hc] at hf
        refine hv_drop (i := 4) (lo' := [some (.ref a0), some (.int x1), some (.int x2), some (.int x3), none]) ?_
        exact w_Rc_nextToRelease_j55_in8 X N σ a0 x1 x2 x3  _ hf E
      · rw [if_neg hc] at hf
        refine hv_iload_n (pn := 51) X d_Rc_nextToRelease_50 ?_
        refine hv_istore_n (pn := 52) (i := 1) (lo' := [some (.ref a0), some (.int x3), some (.int x2), some (.int x3), some (.int v9)]) X d_Rc_nextToRelease_51 ?_
        refine hv_iload (pn := 54) X d_Rc_nextToRelease_52 ?_
        refine hv_istore_n (pn := 55) (i := 2) (lo' := [some (.ref a0), some (.int x3), some (.int v9), some (.int x3), some (.int v9)]) X d_Rc_nextToRelease_54 ?_
        refine hv_drop (i := 4) (lo' := [some (.ref a0), some (.int x3), some (.int v9), some (.int x3), none]) ?_
        exact w_Rc_nextToRelease_j55_in8 X N σ a0 x3 v9 x3  _ hf E
set_option maxHeartbeats 4000000 in
set_option maxRecDepth 100000 in
theorem c_Rc_nextToRelease (l : Launch) (G : ho_G) (N : Nat) (σ : ho_H) (a0 : Nat) (r : Int32) (hf : f_Rc_nextToRelease G N σ a0 = some r) : hv_C l G y_Rc_nextToRelease (Cond.code y_Rc_nextToRelease b_Rc_nextToRelease 5 (some (.int)) :: hv_ws) 4 124 [.ref a0] σ σ (some (.int r)) := by
  refine hv_met [some (.ref a0), none, none, none, none] (plainFor_of_name (by decide +kernel)) (by intro v hv; simp at hv; rcases hv with rfl <;> rfl) (Nat.le_of_ble_eq_true rfl) rfl ?_
  intro k X hkl hkG E
  subst hkl
  subst hkG
  unfold f_Rc_nextToRelease at hf
  refine hv_iconst (pn := 1) (v := (-1)) X d_Rc_nextToRelease_0 ?_
  refine hv_istore_n (pn := 2) (i := 1) (lo' := [some (.ref a0), some (.int (-1)), none, none, none]) X d_Rc_nextToRelease_1 ?_
  refine hv_sipush (pn := 5) (v := 513) X d_Rc_nextToRelease_2 ?_
  refine hv_istore_n (pn := 6) (i := 2) (lo' := [some (.ref a0), some (.int (-1)), some (.int 513), none, none]) X d_Rc_nextToRelease_5 ?_
  refine hv_iconst (pn := 7) (v := 0) X d_Rc_nextToRelease_6 ?_
  refine hv_istore_n (pn := 8) (i := 3) (lo' := [some (.ref a0), some (.int (-1)), some (.int 513), some (.int 0), none]) X d_Rc_nextToRelease_7 ?_
  obtain ⟨x12, he14, hf⟩ := bd_E hf
  refine hv_loop (P := fun s => hv_V k σ 8 [some (.ref a0), some (.int s.1), some (.int s.2.1), some (.int s.2.2), none] []) (Z := fun s => hv_V k σ 61 [none, some (.int s), none, none, none] []) (fun s r h1 h2 => by obtain ⟨x1, x2, x3⟩ := s; exact w_Rc_nextToRelease_l8 X N σ a0 x1 x2 x3 r h1 h2) N ((-1), 513, 0) _ he14 ?_
  try dsimp only at hf ⊢
  refine hv_iload_n (pn := 62) X d_Rc_nextToRelease_61 ?_
  cases hf
  exact hv_iret X d_Rc_nextToRelease_62 E
set_option maxHeartbeats 4000000 in
set_option maxRecDepth 100000 in
theorem w_Rc_letGo_j82 {k : mk_T} (X : hv_X k b_Rc_letGo y_Rc_letGo.cls 3 7 192 none y_Rc_letGo.name) (N : Nat) (σ : ho_H)   (r : ho_H) (hf : f_Rc_letGo_j82 k.2.1 N σ  = some r) (E : hv_end k r none) : hv_V k σ 82 [none, none, none] [] := by
  unfold f_Rc_letGo_j82 at hf
  cases hf
  exact hv_vret X d_Rc_letGo_82 E
set_option maxHeartbeats 4000000 in
set_option maxRecDepth 100000 in
theorem w_Rc_letGo_j31 {k : mk_T} (X : hv_X k b_Rc_letGo y_Rc_letGo.cls 3 7 192 none y_Rc_letGo.name) (N : Nat) (σ : ho_H) (a0 : Nat) (a1 : Nat)  (r : ho_H) (hf : f_Rc_letGo_j31 k.2.1 N σ a0 a1 = some r) (E : hv_end k r none) : hv_V k σ 31 [some (.ref a0), some (.ref a1), none] [] := by
  unfold f_Rc_letGo_j31 at hf
  refine hv_aload_n (pn := 32) X d_Rc_letGo_31 ?_
  obtain ⟨_, hr6, hf⟩ := bd_E hf
  obtain ⟨v7, hv7, hf⟩ := bd_E hf
  refine hv_callV (pn := 35) X d_Rc_letGo_32 (c_Pk_interval _ _ N σ a1 _ hv7) cs_Rc_75 q_2_195 rfl q_2_196 hr6 (by decide) (by decide) ⟨Nat.le_refl _, Nat.le_refl _⟩ (Nat.le_of_ble_eq_true rfl) ?_
  obtain ⟨v8, hv8, hf⟩ := bd_E hf
  refine hv_callS (pn := 38) X d_Rc_letGo_35 (c_Of_chainOf _ _ N σ v7 _ hv8) cs_Rc_105 q_2_160 (by decide) (by decide) ⟨Nat.le_refl _, Nat.le_refl _⟩ (Nat.le_of_ble_eq_true rfl) ?_
  refine hv_iconst (pn := 39) (v := 1) X d_Rc_letGo_38 ?_
  refine hv_iadd (pn := 40) X d_Rc_letGo_39 ?_
  refine hv_istore_n (pn := 41) (i := 2) (lo' := [some (.ref a0), some (.ref a1), some (.int (v8 + 1))]) X d_Rc_letGo_40 ?_
  refine hv_aload_n (pn := 42) X d_Rc_letGo_41 ?_
  obtain ⟨_, hr9, hf⟩ := bd_E hf
  obtain ⟨v10, hv10, hf⟩ := bd_E hf
  refine hv_callV (pn := 45) X d_Rc_letGo_42 (c_Pk_kind _ _ N σ a1 _ hv10) cs_Rc_167 q_3_156 rfl q_3_157 hr9 (by decide) (by decide) ⟨Nat.le_refl _, Nat.le_refl _⟩ (Nat.le_of_ble_eq_true rfl) ?_
  refine hv_iconst (pn := 46) (v := 1) X d_Rc_letGo_45 ?_
  refine hv_icmp_ne (pn := 49) (tgt := 82) X d_Rc_letGo_46 (by decide) (fun hc => ?_) (fun hc => ?_)
  · rw [if_pos hc] at hf
    refine hv_drop (i := 0) (lo' := [none, some (.ref a1), some (.int (v8 + 1))]) ?_
    refine hv_drop (i := 1) (lo' := [none, none, some (.int (v8 + 1))]) ?_
    refine hv_drop (i := 2) (lo' := [none, none, none]) ?_
    exact w_Rc_letGo_j82 X N σ   _ hf E
  · rw [if_neg hc] at hf
    refine hv_iload_n (pn := 50) X d_Rc_letGo_49 ?_
    refine hv_bipush (pn := 52) (v := 8) X d_Rc_letGo_50 ?_
    refine hv_icmp_ge (pn := 55) (tgt := 82) X d_Rc_letGo_52 (by decide) (fun hc => ?_) (fun hc => ?_)
    · rw [if_pos hc] at hf
      refine hv_drop (i := 0) (lo' := [none, some (.ref a1), some (.int (v8 + 1))]) ?_
      refine hv_drop (i := 1) (lo' := [none, none, some (.int (v8 + 1))]) ?_
      refine hv_drop (i := 2) (lo' := [none, none, none]) ?_
      exact w_Rc_letGo_j82 X N σ   _ hf E
    · rw [if_neg hc] at hf
      refine hv_aload_n (pn := 56) X d_Rc_letGo_55 ?_
      obtain ⟨b11, hb11, hf⟩ := bd_E hf
      refine hv_getR (pn := 59) X d_Rc_letGo_56 fa_Rc_11 hb11 ?_
      refine hv_iload_n (pn := 60) X d_Rc_letGo_59 ?_
      obtain ⟨b12, hb12, hf⟩ := bd_E hf
      refine hv_aald (pn := 61) X d_Rc_letGo_60 rfl hb12 ?_
      obtain ⟨_, hr13, hf⟩ := bd_E hf
      obtain ⟨v14, hv14, hf⟩ := bd_E hf
      refine hv_callV (pn := 64) X d_Rc_letGo_61 (c_Kc_isKnown _ _ N σ b12 _ hv14) cs_Rc_56 q_3_167 rfl q_3_168 hr13 (by decide) (by decide) ⟨Nat.le_refl _, Nat.le_refl _⟩ (Nat.le_of_ble_eq_true rfl) ?_
      refine hv_if_ne (pn := 67) (tgt := 82) X d_Rc_letGo_64 (by decide) (fun hc => ?_) (fun hc => ?_)
      · rw [if_pos hc] at hf
        refine hv_drop (i := 0) (lo' := [none, some (.ref a1), some (.int (v8 + 1))]) ?_
        refine hv_drop (i := 1) (lo' := [none, none, some (.int (v8 + 1))]) ?_
        refine hv_drop (i := 2) (lo' := [none, none, none]) ?_
        exact w_Rc_letGo_j82 X N σ   _ hf E
      · rw [if_neg hc] at hf
        refine hv_aload_n (pn := 68) X d_Rc_letGo_67 ?_
        obtain ⟨b15, hb15, hf⟩ := bd_E hf
        refine hv_getR (pn := 71) X d_Rc_letGo_68 fa_Rc_11 hb15 ?_
        refine hv_iload_n (pn := 72) X d_Rc_letGo_71 ?_
        obtain ⟨b16, hb16, hf⟩ := bd_E hf
        refine hv_aald (pn := 73) X d_Rc_letGo_72 rfl hb16 ?_
        refine hv_aload_n (pn := 74) X d_Rc_letGo_73 ?_
        obtain ⟨b17, hb17, hf⟩ := bd_E hf
        refine hv_getR (pn := 77) X d_Rc_letGo_74 fa_Rc_115 hb17 ?_
        refine hv_bipush (pn := 79) (v := 6) X d_Rc_letGo_77 ?_
        obtain ⟨_, hr18, hf⟩ := bd_E hf
        obtain ⟨σ19, hσ19, hf⟩ := bd_E hf
        obtain ⟨hσ19, mσ19⟩ := ho_cv_E hσ19
        refine hv_callV (pn := 82) X d_Rc_letGo_79 (c_Kc_learnRoot _ _ N σ b16 b17 6 _ hσ19) cs_Rc_170 q_3_221 rfl q_3_222 hr18 (by decide) (by decide) mσ19 (Nat.le_of_ble_eq_true rfl) ?_
        refine hv_drop (i := 0) (lo' := [none, some (.ref a1), some (.int (v8 + 1))]) ?_
        refine hv_drop (i := 1) (lo' := [none, none, some (.int (v8 + 1))]) ?_
        refine hv_drop (i := 2) (lo' := [none, none, none]) ?_
        exact w_Rc_letGo_j82 X N σ19   _ hf E
set_option maxHeartbeats 4000000 in
set_option maxRecDepth 100000 in
theorem c_Rc_letGo (l : Launch) (G : ho_G) (N : Nat) (σ : ho_H) (a0 : Nat) (a1 : Nat) (σ' : ho_H) (hf : f_Rc_letGo G N σ a0 a1 = some σ') : hv_C l G y_Rc_letGo (Cond.code y_Rc_letGo b_Rc_letGo 3 none :: hv_ws) 7 192 [.ref a0, .ref a1] σ σ' (none) := by
  refine hv_met [some (.ref a0), some (.ref a1), none] (plainFor_of_name (by decide +kernel)) (by intro v hv; simp at hv; rcases hv with rfl | rfl <;> rfl) (Nat.le_of_ble_eq_true rfl) rfl ?_
  intro k X hkl hkG E
  subst hkl
  subst hkG
  unfold f_Rc_letGo at hf
  refine hv_aload_n (pn := 1) X d_Rc_letGo_0 ?_
  refine hv_dup (pn := 2) X d_Rc_letGo_1 rfl ?_
  obtain ⟨v1, hv1, hf⟩ := bd_E hf
  refine hv_getI (pn := 5) X d_Rc_letGo_2 fa_Rc_52 hv1 ?_
  refine hv_iconst (pn := 6) (v := 1) X d_Rc_letGo_5 ?_
  refine hv_iadd (pn := 7) X d_Rc_letGo_6 ?_
  obtain ⟨σ2, hσ2, hf⟩ := bd_E hf
  refine hv_put (pn := 10) X d_Rc_letGo_7 fp_Rc_52 hσ2 ?_
  refine hv_aload_n (pn := 11) X d_Rc_letGo_10 ?_
  obtain ⟨b3, hb3, hf⟩ := bd_E hf
  refine hv_getR (pn := 14) X d_Rc_letGo_11 fa_Rc_24 hb3 ?_
  obtain ⟨_, hr4, hf⟩ := bd_E hf
  obtain ⟨v5, hv5, hf⟩ := bd_E hf
  refine hv_callV (pn := 17) X d_Rc_letGo_14 (c_Al_size _ _ N σ2 b3 _ hv5) cs_Rc_95 q_1_202 rfl q_1_203 hr4 (by decide) (by decide) ⟨Nat.le_refl _, Nat.le_refl _⟩ (Nat.le_of_ble_eq_true rfl) ?_
  refine hv_bipush (pn := 19) (v := 100) X d_Rc_letGo_17 ?_
  refine hv_icmp_ge (pn := 22) (tgt := 31) X d_Rc_letGo_19 (by decide) (fun hc => ?_) (fun hc => ?_)
  · rw [if_pos hc] at hf
    exact w_Rc_letGo_j31 X N σ2 a0 a1  _ hf E
  · rw [if_neg hc] at hf
    refine hv_aload_n (pn := 23) X d_Rc_letGo_22 ?_
    obtain ⟨b20, hb20, hf⟩ := bd_E hf
    refine hv_getR (pn := 26) X d_Rc_letGo_23 fa_Rc_24 hb20 ?_
    refine hv_aload_n (pn := 27) X d_Rc_letGo_26 ?_
    obtain ⟨_, hr21, hf⟩ := bd_E hf
    obtain ⟨σ22, v23, hσ22, hf⟩ := bd2_E hf
    obtain ⟨hσ22, mσ22⟩ := ho_ck_E hσ22
    refine hv_callV (pn := 30) X d_Rc_letGo_27 (c_Al_add1 _ _ N σ2 b20 a1 _ _ hσ22) cs_Rc_98 q_2_238 rfl q_2_239 hr21 (by decide) (by decide) mσ22 (Nat.le_of_ble_eq_true rfl) ?_
    refine hv_pop (pn := 31) X d_Rc_letGo_30 rfl ?_
    exact w_Rc_letGo_j31 X N σ22 a0 a1  _ hf E
set_option maxHeartbeats 4000000 in
set_option maxRecDepth 100000 in
theorem w_Rc_releaseAll_j93_in2 {k : mk_T} (X : hv_X k b_Rc_releaseAll y_Rc_releaseAll.cls 5 8 214 none y_Rc_releaseAll.name) (N : Nat) (σ : ho_H) (a0 : Nat) (x1 : Int32)  (r : (ho_H × Int32) ⊕ ((ho_H) ⊕ (ho_H))) (hf : f_Rc_releaseAll_j93_in2 k.2.1 N σ a0 x1 = some r) (E : sm (fun s => hv_V k s.1 2 [some (.ref a0), some (.int s.2), none, none, none] []) (sm (fun s => hv_V k s 99 [none, none, none, none, none] []) (fun z => hv_end k z none)) r) : hv_V k σ 93 [some (.ref a0), some (.int x1), none, none, none] [] := by
  unfold f_Rc_releaseAll_j93_in2 at hf
  refine hv_iinc (pn := 96) (i := 1) (v := x1 + 1) (lo' := [some (.ref a0), some (.int (x1 + 1)), none, none, none]) X d_Rc_releaseAll_93 ?_
  refine hv_goto (tgt := 2) X d_Rc_releaseAll_96 (by decide) ?_
  cases hf
  exact E
set_option maxHeartbeats 4000000 in
set_option maxRecDepth 100000 in
theorem w_Rc_releaseAll_l2 {k : mk_T} (X : hv_X k b_Rc_releaseAll y_Rc_releaseAll.cls 5 8 214 none y_Rc_releaseAll.name) (N : Nat) (a0 : Nat) (σ : ho_H) (x1 : Int32) (r : (ho_H × Int32) ⊕ ((ho_H) ⊕ (ho_H))) (hf : f_Rc_releaseAll_l2 k.2.1 N a0 (σ, x1) = some r) (E : sm (fun s => hv_V k s.1 2 [some (.ref a0), some (.int s.2), none, none, none] []) (sm (fun s => hv_V k s 99 [none, none, none, none, none] []) (fun z => hv_end k z none)) r) : hv_V k σ 2 [some (.ref a0), some (.int x1), none, none, none] [] := by
  unfold f_Rc_releaseAll_l2 at hf
  try dsimp only at hf
  refine hv_iload_n (pn := 3) X d_Rc_releaseAll_2 ?_
  refine hv_bipush (pn := 5) (v := 16) X d_Rc_releaseAll_3 ?_
  refine hv_icmp_ge (pn := 8) (tgt := 99) X d_Rc_releaseAll_5 (by decide) (fun hc => ?_) (fun hc => ?_)
  · rw [if_pos hc] at hf
    refine hv_drop (i := 0) (lo' := [none, some (.int x1), none, none, none]) ?_
    refine hv_drop (i := 1) (lo' := [none, none, none, none, none]) ?_
    cases hf
    exact E
  · rw [if_neg hc] at hf
    refine hv_aload_n (pn := 9) X d_Rc_releaseAll_8 ?_
    obtain ⟨_, hr1, hf⟩ := bd_E hf
    obtain ⟨v2, hv2, hf⟩ := bd_E hf
    refine hv_callV (pn := 12) X d_Rc_releaseAll_9 (c_Rc_nextToRelease _ _ N σ a0 _ hv2) cs_Rc_144 q_3_191 rfl qs_Rc_nextToRelease hr1 (by decide) (by decide) ⟨Nat.le_refl _, Nat.le_refl _⟩ (Nat.le_of_ble_eq_true rfl) ?_
    refine hv_istore_n (pn := 13) (i := 2) (lo' := [some (.ref a0), some (.int x1), some (.int v2), none, none]) X d_Rc_releaseAll_12 ?_
    refine hv_iload_n (pn := 14) X d_Rc_releaseAll_13 ?_
    refine hv_iconst (pn := 15) (v := (-1)) X d_Rc_releaseAll_14 ?_
    refine hv_icmp_ne (pn := 18) (tgt := 19) X d_Rc_releaseAll_15 (by decide) (fun hc => ?_) (fun hc => ?_)
    · rw [if_pos hc] at hf
      refine hv_aload_n (pn := 20) X d_Rc_releaseAll_19 ?_
      obtain ⟨b3, hb3, hf⟩ := bd_E hf
      refine hv_getR (pn := 23) X d_Rc_releaseAll_20 fa_Rc_20 hb3 ?_
      refine hv_iload_n (pn := 24) X d_Rc_releaseAll_23 ?_
      obtain ⟨_, hr4, hf⟩ := bd_E hf
      obtain ⟨σ5, b6, hσ5, hf⟩ := bd2_E hf
      obtain ⟨hσ5, mσ5⟩ := ho_ck_E hσ5
      refine hv_callV (pn := 27) X d_Rc_releaseAll_24 (c_Al_remove _ _ N σ b3 v2 _ _ hσ5) cs_Rc_147 q_3_201 rfl q_3_202 hr4 (by decide) (by decide) mσ5 (Nat.le_of_ble_eq_true rfl) ?_
      obtain ⟨_, hr7, hf⟩ := bd_E hf
      refine hv_cast_o (pn := 30) X d_Rc_releaseAll_27 q_3_195 rfl (List.mem_of_getElem? (i := 5) rfl) hr7 ?_
      refine hv_astore_n (pn := 31) (i := 3) (lo' := [some (.ref a0), some (.int x1), some (.int v2), some (.ref b6), none]) X d_Rc_releaseAll_30 ?_
      refine hv_aload_n (pn := 32) X d_Rc_releaseAll_31 ?_
      obtain ⟨_, hr8, hf⟩ := bd_E hf
      obtain ⟨v9, hv9, hf⟩ := bd_E hf
      refine hv_callV (pn := 35) X d_Rc_releaseAll_32 (c_Pk_interval _ _ N σ5 b6 _ hv9) cs_Rc_75 q_2_195 rfl q_2_196 hr8 (by decide) (by decide) ⟨Nat.le_refl _, Nat.le_refl _⟩ (Nat.le_of_ble_eq_true rfl) ?_
      refine hv_istore (pn := 37) (i := 4) (lo' := [some (.ref a0), some (.int x1), some (.int v2), some (.ref b6), some (.int v9)]) X d_Rc_releaseAll_35 ?_
      refine hv_aload_n (pn := 38) X d_Rc_releaseAll_37 ?_
      obtain ⟨b10, hb10, hf⟩ := bd_E hf
      refine hv_getR (pn := 41) X d_Rc_releaseAll_38 fa_Rc_11 hb10 ?_
      refine hv_iload (pn := 43) X d_Rc_releaseAll_41 ?_
      obtain ⟨v11, hv11, hf⟩ := bd_E hf
      refine hv_callS (pn := 46) X d_Rc_releaseAll_43 (c_Of_chainOf _ _ N σ5 v9 _ hv11) cs_Rc_105 q_2_160 (by decide) (by decide) ⟨Nat.le_refl _, Nat.le_refl _⟩ (Nat.le_of_ble_eq_true rfl) ?_
      obtain ⟨b12, hb12, hf⟩ := bd_E hf
      refine hv_aald (pn := 47) X d_Rc_releaseAll_46 rfl hb12 ?_
      refine hv_iload (pn := 49) X d_Rc_releaseAll_47 ?_
      obtain ⟨v13, hv13, hf⟩ := bd_E hf
      refine hv_callS (pn := 52) X d_Rc_releaseAll_49 (c_Of_numberInChain _ _ N σ5 v9 _ hv13) cs_Rc_109 q_2_202 (by decide) (by decide) ⟨Nat.le_refl _, Nat.le_refl _⟩ (Nat.le_of_ble_eq_true rfl) ?_
      refine hv_aload_n (pn := 53) X d_Rc_releaseAll_52 ?_
      refine hv_aload_n (pn := 54) X d_Rc_releaseAll_53 ?_
      obtain ⟨b14, hb14, hf⟩ := bd_E hf
      refine hv_getR (pn := 57) X d_Rc_releaseAll_54 fa_Rc_35 hb14 ?_
      obtain ⟨_, hr15, hf⟩ := bd_E hf
      obtain ⟨σ16, hσ16, hf⟩ := bd_E hf
      obtain ⟨hσ16, mσ16⟩ := ho_cv_E hσ16
      refine hv_callV (pn := 60) X d_Rc_releaseAll_57 (c_Kc_sealPacket _ _ N σ5 b12 v13 b6 b14 _ hσ16) cs_Rc_150 q_2_205 rfl q_2_206 hr15 (by decide) (by decide) mσ16 (Nat.le_of_ble_eq_true rfl) ?_
      refine hv_aload_n (pn := 61) X d_Rc_releaseAll_60 ?_
      refine hv_aload_n (pn := 62) X d_Rc_releaseAll_61 ?_
      obtain ⟨b17, hb17, hf⟩ := bd_E hf
      refine hv_getR (pn := 65) X d_Rc_releaseAll_62 fa_Rc_35 hb17 ?_
      obtain ⟨b18, hb18, hf⟩ := bd_E hf
      refine hv_getR (pn := 68) X d_Rc_releaseAll_65 fa_Rc_154 hb18 ?_
      obtain ⟨_, hr19, hf⟩ := bd_E hf
      obtain ⟨v20, hv20, hf⟩ := bd_E hf
      refine hv_callV (pn := 71) X d_Rc_releaseAll_68 (c_Pk_hasCode _ _ N σ16 b6 b18 _ hv20) cs_Rc_159 q_3_211 rfl q_3_212 hr19 (by decide) (by decide) ⟨Nat.le_refl _, Nat.le_refl _⟩ (Nat.le_of_ble_eq_true rfl) ?_
      refine hv_if_eq (pn := 74) (tgt := 82) X d_Rc_releaseAll_71 (by decide) (fun hc => ?_) (fun hc => ?_)
      · rw [if_pos hc] at hf
        refine hv_aload_n (pn := 83) X d_Rc_releaseAll_82 ?_
        obtain ⟨b21, hb21, hf⟩ := bd_E hf
        refine hv_getR (pn := 86) X d_Rc_releaseAll_83 fa_Rc_27 hb21 ?_
        refine hv_bipush (pn := 88) (v := 6) X d_Rc_releaseAll_86 ?_
        refine hv_dup2 (pn := 89) X d_Rc_releaseAll_88 rfl rfl ?_
        obtain ⟨v22, hv22, hf⟩ := bd_E hf
        refine hv_iald (pn := 90) X d_Rc_releaseAll_89 hv22 ?_
        refine hv_iconst (pn := 91) (v := 1) X d_Rc_releaseAll_90 ?_
        refine hv_iadd (pn := 92) X d_Rc_releaseAll_91 ?_
        obtain ⟨σ23, hσ23, hf⟩ := bd_E hf
        refine hv_iast (pn := 93) X d_Rc_releaseAll_92 hσ23 ?_
        refine hv_drop (i := 2) (lo' := [some (.ref a0), some (.int x1), none, some (.ref b6), some (.int v9)]) ?_
        refine hv_drop (i := 3) (lo' := [some (.ref a0), some (.int x1), none, none, some (.int v9)]) ?_
        refine hv_drop (i := 4) (lo' := [some (.ref a0), some (.int x1), none, none, none]) ?_
        exact w_Rc_releaseAll_j93_in2 X N σ23 a0 x1  _ hf E
      · rw [if_neg hc] at hf
        refine hv_aload_n (pn := 75) X d_Rc_releaseAll_74 ?_
        refine hv_aload_n (pn := 76) X d_Rc_releaseAll_75 ?_
        obtain ⟨_, hr24, hf⟩ := bd_E hf
        obtain ⟨σ25, hσ25, hf⟩ := bd_E hf
        obtain ⟨hσ25, mσ25⟩ := ho_cv_E hσ25
        refine hv_callV (pn := 79) X d_Rc_releaseAll_76 (c_Rc_letGo _ _ N σ16 a0 b6 _ hσ25) cs_Rc_163 q_3_216 rfl qs_Rc_letGo hr24 (by decide) (by decide) mσ25 (Nat.le_of_ble_eq_true rfl) ?_
        refine hv_goto (tgt := 93) X d_Rc_releaseAll_79 (by decide) ?_
        refine hv_drop (i := 2) (lo' := [some (.ref a0), some (.int x1), none, some (.ref b6), some (.int v9)]) ?_
        refine hv_drop (i := 3) (lo' := [some (.ref a0), some (.int x1), none, none, some (.int v9)]) ?_
        refine hv_drop (i := 4) (lo' := [some (.ref a0), some (.int x1), none, none, none]) ?_
        exact w_Rc_releaseAll_j93_in2 X N σ25 a0 x1  _ hf E
    · rw [if_neg hc] at hf
      cases hf
      exact hv_vret X d_Rc_releaseAll_18 E
set_option maxHeartbeats 4000000 in
set_option maxRecDepth 100000 in
theorem c_Rc_releaseAll (l : Launch) (G : ho_G) (N : Nat) (σ : ho_H) (a0 : Nat) (σ' : ho_H) (hf : f_Rc_releaseAll G N σ a0 = some σ') : hv_C l G y_Rc_releaseAll (Cond.code y_Rc_releaseAll b_Rc_releaseAll 5 none :: hv_ws) 8 214 [.ref a0] σ σ' (none) := by
  refine hv_met [some (.ref a0), none, none, none, none] (plainFor_of_name (by decide +kernel)) (by intro v hv; simp at hv; rcases hv with rfl <;> rfl) (Nat.le_of_ble_eq_true rfl) rfl ?_
  intro k X hkl hkG E
  subst hkl
  subst hkG
  unfold f_Rc_releaseAll at hf
  refine hv_iconst (pn := 1) (v := 0) X d_Rc_releaseAll_0 ?_
  refine hv_istore_n (pn := 2) (i := 1) (lo' := [some (.ref a0), some (.int 0), none, none, none]) X d_Rc_releaseAll_1 ?_
  obtain ⟨e27, he28, hf⟩ := bd_E hf
  refine hv_loop (P := fun s => hv_V k s.1 2 [some (.ref a0), some (.int s.2), none, none, none] []) (Z := sm (fun s => hv_V k s 99 [none, none, none, none, none] []) (fun z => hv_end k z none)) (fun s r h1 h2 => by obtain ⟨σ, x1⟩ := s; exact w_Rc_releaseAll_l2 X N a0 σ x1 r h1 h2) N (σ, 0) e27 he28 ?_
  rcases e27 with σ26 | z
  · try dsimp only [sm, sm_e] at hf ⊢
    cases hf
    exact hv_vret X d_Rc_releaseAll_99 E
  · cases (show some _ = some _ from hf); exact E
set_option maxHeartbeats 4000000 in
set_option maxRecDepth 100000 in
theorem w_Rc_take_j51 {k : mk_T} (X : hv_X k b_Rc_take y_Rc_take.cls 3 9 238 (some (.int)) y_Rc_take.name) (N : Nat) (σ : ho_H)   (r : ho_H × Int32) (hf : f_Rc_take_j51 k.2.1 N σ  = some r) (E : hv_end k r.1 (some (.int r.2))) : hv_V k σ 51 [none, none, none] [] := by
  unfold f_Rc_take_j51 at hf
  refine hv_iconst (pn := 52) (v := 1) X d_Rc_take_51 ?_
  cases hf
  exact hv_iret X d_Rc_take_52 E
set_option maxHeartbeats 4000000 in
set_option maxRecDepth 100000 in
theorem c_Rc_take (l : Launch) (G : ho_G) (N : Nat) (σ : ho_H) (a0 : Nat) (a1 : Nat) (σ' : ho_H) (r : Int32) (hf : f_Rc_take G N σ a0 a1 = some (σ', r)) : hv_C l G y_Rc_take (Cond.code y_Rc_take b_Rc_take 3 (some (.int)) :: hv_ws) 9 238 [.ref a0, .ref a1] σ σ' (some (.int r)) := by
  refine hv_met [some (.ref a0), some (.ref a1), none] (plainFor_of_name (by decide +kernel)) (by intro v hv; simp at hv; rcases hv with rfl | rfl <;> rfl) (Nat.le_of_ble_eq_true rfl) rfl ?_
  intro k X hkl hkG E
  subst hkl
  subst hkG
  unfold f_Rc_take at hf
  refine hv_aload_n (pn := 1) X d_Rc_take_0 ?_
  obtain ⟨_, hr1, hf⟩ := bd_E hf
  obtain ⟨v2, hv2, hf⟩ := bd_E hf
  refine hv_callV (pn := 4) X d_Rc_take_1 (c_Pk_isBroken _ _ N σ a1 _ hv2) cs_Rc_63 q_3_151 rfl q_3_152 hr1 (by decide) (by decide) ⟨Nat.le_refl _, Nat.le_refl _⟩ (Nat.le_of_ble_eq_true rfl) ?_
  refine hv_if_eq (pn := 7) (tgt := 9) X d_Rc_take_4 (by decide) (fun hc => ?_) (fun hc => ?_)
  · rw [if_pos hc] at hf
    refine hv_aload_n (pn := 10) X d_Rc_take_9 ?_
    refine hv_aload_n (pn := 11) X d_Rc_take_10 ?_
    obtain ⟨_, hr3, hf⟩ := bd_E hf
    obtain ⟨σ4, v5, hσ4, hf⟩ := bd2_E hf
    obtain ⟨hσ4, mσ4⟩ := ho_ck_E hσ4
    refine hv_callV (pn := 14) X d_Rc_take_11 (c_Rc_takeShownKey _ _ N σ a0 a1 _ _ hσ4) cs_Rc_68 q_3_161 rfl qs_Rc_takeShownKey hr3 (by decide) (by decide) mσ4 (Nat.le_of_ble_eq_true rfl) ?_
    refine hv_if_ne (pn := 17) (tgt := 19) X d_Rc_take_14 (by decide) (fun hc => ?_) (fun hc => ?_)
    · rw [if_pos hc] at hf
      refine hv_aload_n (pn := 20) X d_Rc_take_19 ?_
      obtain ⟨_, hr6, hf⟩ := bd_E hf
      obtain ⟨σ7, hσ7, hf⟩ := bd_E hf
      obtain ⟨hσ7, mσ7⟩ := ho_cv_E hσ7
      refine hv_callV (pn := 23) X d_Rc_take_20 (c_Rc_releaseAll _ _ N σ4 a0 _ hσ7) cs_Rc_72 q_3_187 rfl qs_Rc_releaseAll hr6 (by decide) (by decide) mσ7 (Nat.le_of_ble_eq_true rfl) ?_
      refine hv_aload_n (pn := 24) X d_Rc_take_23 ?_
      obtain ⟨_, hr8, hf⟩ := bd_E hf
      obtain ⟨v9, hv9, hf⟩ := bd_E hf
      refine hv_callV (pn := 27) X d_Rc_take_24 (c_Pk_interval _ _ N σ7 a1 _ hv9) cs_Rc_75 q_2_195 rfl q_2_196 hr8 (by decide) (by decide) ⟨Nat.le_refl _, Nat.le_refl _⟩ (Nat.le_of_ble_eq_true rfl) ?_
      refine hv_istore_n (pn := 28) (i := 2) (lo' := [some (.ref a0), some (.ref a1), some (.int v9)]) X d_Rc_take_27 ?_
      refine hv_aload_n (pn := 29) X d_Rc_take_28 ?_
      obtain ⟨b10, hb10, hf⟩ := bd_E hf
      refine hv_getR (pn := 32) X d_Rc_take_29 fa_Rc_31 hb10 ?_
      refine hv_iload_n (pn := 33) X d_Rc_take_32 ?_
      refine hv_aload_n (pn := 34) X d_Rc_take_33 ?_
      obtain ⟨v11, hv11, hf⟩ := bd_E hf
      refine hv_getI (pn := 37) X d_Rc_take_34 fa_Rc_79 hv11 ?_
      obtain ⟨_, hr12, hf⟩ := bd_E hf
      obtain ⟨v13, hv13, hf⟩ := bd_E hf
      refine hv_callV (pn := 40) X d_Rc_take_37 (c_Ck_canHaveShown _ _ N σ7 b10 v9 v11 _ hv13) cs_Rc_82 q_3_226 rfl q_3_227 hr12 (by decide) (by decide) ⟨Nat.le_refl _, Nat.le_refl _⟩ (Nat.le_of_ble_eq_true rfl) ?_
      refine hv_if_ne (pn := 43) (tgt := 51) X d_Rc_take_40 (by decide) (fun hc => ?_) (fun hc => ?_)
      · rw [if_pos hc] at hf
        refine hv_drop (i := 0) (lo' := [none, some (.ref a1), some (.int v9)]) ?_
        refine hv_drop (i := 1) (lo' := [none, none, some (.int v9)]) ?_
        refine hv_drop (i := 2) (lo' := [none, none, none]) ?_
        exact w_Rc_take_j51 X N σ7   _ hf E
      · rw [if_neg hc] at hf
        refine hv_aload_n (pn := 44) X d_Rc_take_43 ?_
        refine hv_iload_n (pn := 45) X d_Rc_take_44 ?_
        obtain ⟨_, hr14, hf⟩ := bd_E hf
        obtain ⟨v15, hv15, hf⟩ := bd_E hf
        refine hv_callV (pn := 48) X d_Rc_take_45 (c_Rc_hasKeyFor _ _ N σ7 a0 v9 _ hv15) cs_Rc_88 q_3_198 rfl qs_Rc_hasKeyFor hr14 (by decide) (by decide) ⟨Nat.le_refl _, Nat.le_refl _⟩ (Nat.le_of_ble_eq_true rfl) ?_
        refine hv_if_eq (pn := 51) (tgt := 53) X d_Rc_take_48 (by decide) (fun hc => ?_) (fun hc => ?_)
        · rw [if_pos hc] at hf
          refine hv_aload_n (pn := 54) X d_Rc_take_53 ?_
          refine hv_aload_n (pn := 55) X d_Rc_take_54 ?_
          obtain ⟨_, hr16, hf⟩ := bd_E hf
          obtain ⟨v17, hv17, hf⟩ := bd_E hf
          refine hv_callV (pn := 58) X d_Rc_take_55 (c_Rc_holdsTwinOf _ _ N σ7 a0 a1 _ hv17) cs_Rc_92 q_3_231 rfl qs_Rc_holdsTwinOf hr16 (by decide) (by decide) ⟨Nat.le_refl _, Nat.le_refl _⟩ (Nat.le_of_ble_eq_true rfl) ?_
          refine hv_if_eq (pn := 61) (tgt := 63) X d_Rc_take_58 (by decide) (fun hc => ?_) (fun hc => ?_)
          · rw [if_pos hc] at hf
            refine hv_aload_n (pn := 64) X d_Rc_take_63 ?_
            obtain ⟨b18, hb18, hf⟩ := bd_E hf
            refine hv_getR (pn := 67) X d_Rc_take_64 fa_Rc_20 hb18 ?_
            obtain ⟨_, hr19, hf⟩ := bd_E hf
            obtain ⟨v20, hv20, hf⟩ := bd_E hf
            refine hv_callV (pn := 70) X d_Rc_take_67 (c_Al_size _ _ N σ7 b18 _ hv20) cs_Rc_95 q_1_202 rfl q_1_203 hr19 (by decide) (by decide) ⟨Nat.le_refl _, Nat.le_refl _⟩ (Nat.le_of_ble_eq_true rfl) ?_
            refine hv_bipush (pn := 72) (v := 16) X d_Rc_take_70 ?_
            refine hv_icmp_lt (pn := 75) (tgt := 77) X d_Rc_take_72 (by decide) (fun hc => ?_) (fun hc => ?_)
            · rw [if_pos hc] at hf
              refine hv_aload_n (pn := 78) X d_Rc_take_77 ?_
              obtain ⟨b21, hb21, hf⟩ := bd_E hf
              refine hv_getR (pn := 81) X d_Rc_take_78 fa_Rc_20 hb21 ?_
              refine hv_aload_n (pn := 82) X d_Rc_take_81 ?_
              obtain ⟨_, hr22, hf⟩ := bd_E hf
              obtain ⟨σ23, v24, hσ23, hf⟩ := bd2_E hf
              obtain ⟨hσ23, mσ23⟩ := ho_ck_E hσ23
              refine hv_callV (pn := 85) X d_Rc_take_82 (c_Al_add1 _ _ N σ7 b21 a1 _ _ hσ23) cs_Rc_98 q_2_238 rfl q_2_239 hr22 (by decide) (by decide) mσ23 (Nat.le_of_ble_eq_true rfl) ?_
              refine hv_pop (pn := 86) X d_Rc_take_85 rfl ?_
              refine hv_iconst (pn := 87) (v := 0) X d_Rc_take_86 ?_
              cases hf
              exact hv_iret X d_Rc_take_87 E
            · rw [if_neg hc] at hf
              refine hv_iconst (pn := 76) (v := 4) X d_Rc_take_75 ?_
              cases hf
              exact hv_iret X d_Rc_take_76 E
          · rw [if_neg hc] at hf
            refine hv_iconst (pn := 62) (v := 3) X d_Rc_take_61 ?_
            cases hf
            exact hv_iret X d_Rc_take_62 E
        · rw [if_neg hc] at hf
          refine hv_drop (i := 0) (lo' := [none, some (.ref a1), some (.int v9)]) ?_
          refine hv_drop (i := 1) (lo' := [none, none, some (.int v9)]) ?_
          refine hv_drop (i := 2) (lo' := [none, none, none]) ?_
          exact w_Rc_take_j51 X N σ7   _ hf E
    · rw [if_neg hc] at hf
      refine hv_iconst (pn := 18) (v := 2) X d_Rc_take_17 ?_
      cases hf
      exact hv_iret X d_Rc_take_18 E
  · rw [if_neg hc] at hf
    refine hv_iconst (pn := 8) (v := 5) X d_Rc_take_7 ?_
    cases hf
    exact hv_iret X d_Rc_take_8 E
end
