theorem d_Of_chain_0 : decode b_Of_chain 0 = .ok (.aload_n 0, 1) := by decide +kernel
theorem d_Of_chain_1 : decode b_Of_chain 1 = .ok (.getfield 58, 3) := by decide +kernel
theorem d_Of_chain_4 : decode b_Of_chain 4 = .ok (.bipush 8, 2) := by decide +kernel
theorem d_Of_chain_6 : decode b_Of_chain 6 = .ok (.if_icmp .lt 11, 3) := by decide +kernel
theorem d_Of_chain_9 : decode b_Of_chain 9 = .ok (.new 62, 3) := by decide +kernel
theorem d_Of_chain_12 : decode b_Of_chain 12 = .ok (.dup, 1) := by decide +kernel
theorem d_Of_chain_13 : decode b_Of_chain 13 = .ok (.invokespecial 64, 3) := by decide +kernel
theorem d_Of_chain_16 : decode b_Of_chain 16 = .ok (.athrow, 1) := by decide +kernel
theorem d_Of_chain_17 : decode b_Of_chain 17 = .ok (.aload_n 0, 1) := by decide +kernel
theorem d_Of_chain_18 : decode b_Of_chain 18 = .ok (.getfield 37, 3) := by decide +kernel
theorem d_Of_chain_21 : decode b_Of_chain 21 = .ok (.aload_n 0, 1) := by decide +kernel
theorem d_Of_chain_22 : decode b_Of_chain 22 = .ok (.getfield 58, 3) := by decide +kernel
theorem d_Of_chain_25 : decode b_Of_chain 25 = .ok (.aaload, 1) := by decide +kernel
theorem d_Of_chain_26 : decode b_Of_chain 26 = .ok (.astore 6, 2) := by decide +kernel
theorem d_Of_chain_28 : decode b_Of_chain 28 = .ok (.aload 6, 2) := by decide +kernel
theorem d_Of_chain_30 : decode b_Of_chain 30 = .ok (.iload_n 1, 1) := by decide +kernel
theorem d_Of_chain_31 : decode b_Of_chain 31 = .ok (.iload_n 2, 1) := by decide +kernel
theorem d_Of_chain_32 : decode b_Of_chain 32 = .ok (.iload_n 3, 1) := by decide +kernel
theorem d_Of_chain_33 : decode b_Of_chain 33 = .ok (.iload 4, 2) := by decide +kernel
theorem d_Of_chain_35 : decode b_Of_chain 35 = .ok (.iload 5, 2) := by decide +kernel
theorem d_Of_chain_37 : decode b_Of_chain 37 = .ok (.invokevirtual 65, 3) := by decide +kernel
theorem d_Of_chain_40 : decode b_Of_chain 40 = .ok (.aload 6, 2) := by decide +kernel
theorem d_Of_chain_42 : decode b_Of_chain 42 = .ok (.bipush 64, 2) := by decide +kernel
theorem d_Of_chain_44 : decode b_Of_chain 44 = .ok (.iconst 0, 1) := by decide +kernel
theorem d_Of_chain_45 : decode b_Of_chain 45 = .ok (.aload_n 0, 1) := by decide +kernel
theorem d_Of_chain_46 : decode b_Of_chain 46 = .ok (.getfield 27, 3) := by decide +kernel
theorem d_Of_chain_49 : decode b_Of_chain 49 = .ok (.invokevirtual 69, 3) := by decide +kernel
theorem d_Of_chain_52 : decode b_Of_chain 52 = .ok (.aload_n 0, 1) := by decide +kernel
theorem d_Of_chain_53 : decode b_Of_chain 53 = .ok (.dup, 1) := by decide +kernel
theorem d_Of_chain_54 : decode b_Of_chain 54 = .ok (.getfield 58, 3) := by decide +kernel
theorem d_Of_chain_57 : decode b_Of_chain 57 = .ok (.iconst 1, 1) := by decide +kernel
theorem d_Of_chain_58 : decode b_Of_chain 58 = .ok (.iadd, 1) := by decide +kernel
theorem d_Of_chain_59 : decode b_Of_chain 59 = .ok (.putfield 58, 3) := by decide +kernel
theorem d_Of_chain_62 : decode b_Of_chain 62 = .ok (.aload_n 0, 1) := by decide +kernel
theorem d_Of_chain_63 : decode b_Of_chain 63 = .ok (.getfield 58, 3) := by decide +kernel
theorem d_Of_chain_66 : decode b_Of_chain 66 = .ok (.iconst 1, 1) := by decide +kernel
theorem d_Of_chain_67 : decode b_Of_chain 67 = .ok (.isub, 1) := by decide +kernel
theorem d_Of_chain_68 : decode b_Of_chain 68 = .ok (.ireturn, 1) := by decide +kernel
theorem d_Of_tick_0 : decode b_Of_tick 0 = .ok (.iload_n 1, 1) := by decide +kernel
theorem d_Of_tick_1 : decode b_Of_tick 1 = .ok (.iconst 1, 1) := by decide +kernel
theorem d_Of_tick_2 : decode b_Of_tick 2 = .ok (.if_icmp .lt 9, 3) := by decide +kernel
theorem d_Of_tick_5 : decode b_Of_tick 5 = .ok (.iload_n 1, 1) := by decide +kernel
theorem d_Of_tick_6 : decode b_Of_tick 6 = .ok (.ldc 73, 2) := by decide +kernel
theorem d_Of_tick_8 : decode b_Of_tick 8 = .ok (.if_icmp .le 11, 3) := by decide +kernel
theorem d_Of_tick_11 : decode b_Of_tick 11 = .ok (.new 74, 3) := by decide +kernel
theorem d_Of_tick_14 : decode b_Of_tick 14 = .ok (.dup, 1) := by decide +kernel
theorem d_Of_tick_15 : decode b_Of_tick 15 = .ok (.invokespecial 76, 3) := by decide +kernel
theorem d_Of_tick_18 : decode b_Of_tick 18 = .ok (.athrow, 1) := by decide +kernel
theorem d_Of_tick_19 : decode b_Of_tick 19 = .ok (.aload_n 0, 1) := by decide +kernel
theorem d_Of_tick_20 : decode b_Of_tick 20 = .ok (.getfield 18, 3) := by decide +kernel
theorem d_Of_tick_23 : decode b_Of_tick 23 = .ok (.aload_n 0, 1) := by decide +kernel
theorem d_Of_tick_24 : decode b_Of_tick 24 = .ok (.getfield 18, 3) := by decide +kernel
theorem d_Of_tick_27 : decode b_Of_tick 27 = .ok (.getfield 77, 3) := by decide +kernel
theorem d_Of_tick_30 : decode b_Of_tick 30 = .ok (.iload_n 1, 1) := by decide +kernel
theorem d_Of_tick_31 : decode b_Of_tick 31 = .ok (.iadd, 1) := by decide +kernel
theorem d_Of_tick_32 : decode b_Of_tick 32 = .ok (.invokevirtual 80, 3) := by decide +kernel
theorem d_Of_tick_35 : decode b_Of_tick 35 = .ok (.sipush 512, 3) := by decide +kernel
theorem d_Of_tick_38 : decode b_Of_tick 38 = .ok (.if_icmp .le 11, 3) := by decide +kernel
theorem d_Of_tick_41 : decode b_Of_tick 41 = .ok (.new 62, 3) := by decide +kernel
theorem d_Of_tick_44 : decode b_Of_tick 44 = .ok (.dup, 1) := by decide +kernel
theorem d_Of_tick_45 : decode b_Of_tick 45 = .ok (.invokespecial 64, 3) := by decide +kernel
theorem d_Of_tick_48 : decode b_Of_tick 48 = .ok (.athrow, 1) := by decide +kernel
theorem d_Of_tick_49 : decode b_Of_tick 49 = .ok (.aload_n 0, 1) := by decide +kernel
theorem d_Of_tick_50 : decode b_Of_tick 50 = .ok (.getfield 18, 3) := by decide +kernel
theorem d_Of_tick_53 : decode b_Of_tick 53 = .ok (.dup, 1) := by decide +kernel
theorem d_Of_tick_54 : decode b_Of_tick 54 = .ok (.getfield 77, 3) := by decide +kernel
theorem d_Of_tick_57 : decode b_Of_tick 57 = .ok (.iload_n 1, 1) := by decide +kernel
theorem d_Of_tick_58 : decode b_Of_tick 58 = .ok (.iadd, 1) := by decide +kernel
theorem d_Of_tick_59 : decode b_Of_tick 59 = .ok (.putfield 77, 3) := by decide +kernel
theorem d_Of_tick_62 : decode b_Of_tick 62 = .ok (.aload_n 0, 1) := by decide +kernel
theorem d_Of_tick_63 : decode b_Of_tick 63 = .ok (.getfield 18, 3) := by decide +kernel
theorem d_Of_tick_66 : decode b_Of_tick 66 = .ok (.getfield 77, 3) := by decide +kernel
theorem d_Of_tick_69 : decode b_Of_tick 69 = .ok (.ireturn, 1) := by decide +kernel
theorem d_Of_load_0 : decode b_Of_load 0 = .ok (.iload_n 1, 1) := by decide +kernel
theorem d_Of_load_1 : decode b_Of_load 1 = .ok (.ifCond .lt 9, 3) := by decide +kernel
theorem d_Of_load_4 : decode b_Of_load 4 = .ok (.iload_n 1, 1) := by decide +kernel
theorem d_Of_load_5 : decode b_Of_load 5 = .ok (.bipush 8, 2) := by decide +kernel
theorem d_Of_load_7 : decode b_Of_load 7 = .ok (.if_icmp .lt 11, 3) := by decide +kernel
theorem d_Of_load_10 : decode b_Of_load 10 = .ok (.new 84, 3) := by decide +kernel
theorem d_Of_load_13 : decode b_Of_load 13 = .ok (.dup, 1) := by decide +kernel
theorem d_Of_load_14 : decode b_Of_load 14 = .ok (.invokespecial 86, 3) := by decide +kernel
theorem d_Of_load_17 : decode b_Of_load 17 = .ok (.athrow, 1) := by decide +kernel
theorem d_Of_load_18 : decode b_Of_load 18 = .ok (.aload_n 0, 1) := by decide +kernel
theorem d_Of_load_19 : decode b_Of_load 19 = .ok (.getfield 31, 3) := by decide +kernel
theorem d_Of_load_22 : decode b_Of_load 22 = .ok (.iload_n 1, 1) := by decide +kernel
theorem d_Of_load_23 : decode b_Of_load 23 = .ok (.iaload, 1) := by decide +kernel
theorem d_Of_load_24 : decode b_Of_load 24 = .ok (.istore_n 3, 1) := by decide +kernel
theorem d_Of_load_25 : decode b_Of_load 25 = .ok (.aload_n 0, 1) := by decide +kernel
theorem d_Of_load_26 : decode b_Of_load 26 = .ok (.getfield 31, 3) := by decide +kernel
theorem d_Of_load_29 : decode b_Of_load 29 = .ok (.iload_n 1, 1) := by decide +kernel
theorem d_Of_load_30 : decode b_Of_load 30 = .ok (.iload_n 2, 1) := by decide +kernel
theorem d_Of_load_31 : decode b_Of_load 31 = .ok (.iastore, 1) := by decide +kernel
theorem d_Of_load_32 : decode b_Of_load 32 = .ok (.iload_n 3, 1) := by decide +kernel
theorem d_Of_load_33 : decode b_Of_load 33 = .ok (.ireturn, 1) := by decide +kernel
theorem d_Of_digest_0 : decode b_Of_digest 0 = .ok (.iload_n 1, 1) := by decide +kernel
theorem d_Of_digest_1 : decode b_Of_digest 1 = .ok (.ifCond .lt 9, 3) := by decide +kernel
theorem d_Of_digest_4 : decode b_Of_digest 4 = .ok (.iload_n 1, 1) := by decide +kernel
theorem d_Of_digest_5 : decode b_Of_digest 5 = .ok (.bipush 32, 2) := by decide +kernel
theorem d_Of_digest_7 : decode b_Of_digest 7 = .ok (.if_icmp .le 11, 3) := by decide +kernel
theorem d_Of_digest_10 : decode b_Of_digest 10 = .ok (.new 74, 3) := by decide +kernel
theorem d_Of_digest_13 : decode b_Of_digest 13 = .ok (.dup, 1) := by decide +kernel
theorem d_Of_digest_14 : decode b_Of_digest 14 = .ok (.invokespecial 76, 3) := by decide +kernel
theorem d_Of_digest_17 : decode b_Of_digest 17 = .ok (.athrow, 1) := by decide +kernel
theorem d_Of_digest_18 : decode b_Of_digest 18 = .ok (.iload_n 2, 1) := by decide +kernel
theorem d_Of_digest_19 : decode b_Of_digest 19 = .ok (.ifCond .lt 9, 3) := by decide +kernel
theorem d_Of_digest_22 : decode b_Of_digest 22 = .ok (.iload_n 2, 1) := by decide +kernel
theorem d_Of_digest_23 : decode b_Of_digest 23 = .ok (.bipush 8, 2) := by decide +kernel
theorem d_Of_digest_25 : decode b_Of_digest 25 = .ok (.if_icmp .lt 11, 3) := by decide +kernel
theorem d_Of_digest_28 : decode b_Of_digest 28 = .ok (.new 84, 3) := by decide +kernel
theorem d_Of_digest_31 : decode b_Of_digest 31 = .ok (.dup, 1) := by decide +kernel
theorem d_Of_digest_32 : decode b_Of_digest 32 = .ok (.invokespecial 86, 3) := by decide +kernel
theorem d_Of_digest_35 : decode b_Of_digest 35 = .ok (.athrow, 1) := by decide +kernel
theorem d_Of_digest_36 : decode b_Of_digest 36 = .ok (.aload_n 0, 1) := by decide +kernel
theorem d_Of_digest_37 : decode b_Of_digest 37 = .ok (.getfield 27, 3) := by decide +kernel
theorem d_Of_digest_40 : decode b_Of_digest 40 = .ok (.invokevirtual 87, 3) := by decide +kernel
theorem d_Of_digest_43 : decode b_Of_digest 43 = .ok (.iconst 0, 1) := by decide +kernel
theorem d_Of_digest_44 : decode b_Of_digest 44 = .ok (.istore_n 3, 1) := by decide +kernel
theorem d_Of_digest_45 : decode b_Of_digest 45 = .ok (.iload_n 3, 1) := by decide +kernel
theorem d_Of_digest_46 : decode b_Of_digest 46 = .ok (.iload_n 1, 1) := by decide +kernel
theorem d_Of_digest_47 : decode b_Of_digest 47 = .ok (.if_icmp .ge 24, 3) := by decide +kernel
theorem d_Of_digest_50 : decode b_Of_digest 50 = .ok (.aload_n 0, 1) := by decide +kernel
theorem d_Of_digest_51 : decode b_Of_digest 51 = .ok (.getfield 27, 3) := by decide +kernel
theorem d_Of_digest_54 : decode b_Of_digest 54 = .ok (.aload_n 0, 1) := by decide +kernel
theorem d_Of_digest_55 : decode b_Of_digest 55 = .ok (.getfield 31, 3) := by decide +kernel
theorem d_Of_digest_58 : decode b_Of_digest 58 = .ok (.iload_n 3, 1) := by decide +kernel
theorem d_Of_digest_59 : decode b_Of_digest 59 = .ok (.invokestatic 90, 3) := by decide +kernel
theorem d_Of_digest_62 : decode b_Of_digest 62 = .ok (.invokevirtual 94, 3) := by decide +kernel
theorem d_Of_digest_65 : decode b_Of_digest 65 = .ok (.iinc 3 1, 3) := by decide +kernel
theorem d_Of_digest_68 : decode b_Of_digest 68 = .ok (.goto (-23), 3) := by decide +kernel
theorem d_Of_digest_71 : decode b_Of_digest 71 = .ok (.aload_n 0, 1) := by decide +kernel
theorem d_Of_digest_72 : decode b_Of_digest 72 = .ok (.getfield 27, 3) := by decide +kernel
theorem d_Of_digest_75 : decode b_Of_digest 75 = .ok (.invokevirtual 98, 3) := by decide +kernel
theorem d_Of_digest_78 : decode b_Of_digest 78 = .ok (.aload_n 0, 1) := by decide +kernel
theorem d_Of_digest_79 : decode b_Of_digest 79 = .ok (.getfield 27, 3) := by decide +kernel
theorem d_Of_digest_82 : decode b_Of_digest 82 = .ok (.getfield 101, 3) := by decide +kernel
theorem d_Of_digest_85 : decode b_Of_digest 85 = .ok (.iload_n 2, 1) := by decide +kernel
theorem d_Of_digest_86 : decode b_Of_digest 86 = .ok (.iaload, 1) := by decide +kernel
theorem d_Of_digest_87 : decode b_Of_digest 87 = .ok (.ireturn, 1) := by decide +kernel
theorem d_Of_send_0 : decode b_Of_send 0 = .ok (.iload_n 1, 1) := by decide +kernel
theorem d_Of_send_1 : decode b_Of_send 1 = .ok (.ifCond .lt 9, 3) := by decide +kernel
theorem d_Of_send_4 : decode b_Of_send 4 = .ok (.iload_n 1, 1) := by decide +kernel
theorem d_Of_send_5 : decode b_Of_send 5 = .ok (.bipush 32, 2) := by decide +kernel
theorem d_Of_send_7 : decode b_Of_send 7 = .ok (.if_icmp .le 11, 3) := by decide +kernel
theorem d_Of_send_10 : decode b_Of_send 10 = .ok (.new 74, 3) := by decide +kernel
theorem d_Of_send_13 : decode b_Of_send 13 = .ok (.dup, 1) := by decide +kernel
theorem d_Of_send_14 : decode b_Of_send 14 = .ok (.invokespecial 76, 3) := by decide +kernel
theorem d_Of_send_17 : decode b_Of_send 17 = .ok (.athrow, 1) := by decide +kernel
theorem d_Of_send_18 : decode b_Of_send 18 = .ok (.aload_n 0, 1) := by decide +kernel
theorem d_Of_send_19 : decode b_Of_send 19 = .ok (.getfield 18, 3) := by decide +kernel
theorem d_Of_send_22 : decode b_Of_send 22 = .ok (.aload_n 0, 1) := by decide +kernel
theorem d_Of_send_23 : decode b_Of_send 23 = .ok (.getfield 18, 3) := by decide +kernel
theorem d_Of_send_26 : decode b_Of_send 26 = .ok (.getfield 77, 3) := by decide +kernel
theorem d_Of_send_29 : decode b_Of_send 29 = .ok (.invokevirtual 80, 3) := by decide +kernel
theorem d_Of_send_32 : decode b_Of_send 32 = .ok (.istore_n 2, 1) := by decide +kernel
theorem d_Of_send_33 : decode b_Of_send 33 = .ok (.iload_n 2, 1) := by decide +kernel
theorem d_Of_send_34 : decode b_Of_send 34 = .ok (.invokestatic 104, 3) := by decide +kernel
theorem d_Of_send_37 : decode b_Of_send 37 = .ok (.aload_n 0, 1) := by decide +kernel
theorem d_Of_send_38 : decode b_Of_send 38 = .ok (.getfield 58, 3) := by decide +kernel
theorem d_Of_send_41 : decode b_Of_send 41 = .ok (.if_icmp .lt 11, 3) := by decide +kernel
theorem d_Of_send_44 : decode b_Of_send 44 = .ok (.new 62, 3) := by decide +kernel
theorem d_Of_send_47 : decode b_Of_send 47 = .ok (.dup, 1) := by decide +kernel
theorem d_Of_send_48 : decode b_Of_send 48 = .ok (.invokespecial 64, 3) := by decide +kernel
theorem d_Of_send_51 : decode b_Of_send 51 = .ok (.athrow, 1) := by decide +kernel
theorem d_Of_send_52 : decode b_Of_send 52 = .ok (.aload_n 0, 1) := by decide +kernel
theorem d_Of_send_53 : decode b_Of_send 53 = .ok (.getfield 45, 3) := by decide +kernel
theorem d_Of_send_56 : decode b_Of_send 56 = .ok (.invokevirtual 107, 3) := by decide +kernel
theorem d_Of_send_59 : decode b_Of_send 59 = .ok (.sipush 200, 3) := by decide +kernel
theorem d_Of_send_62 : decode b_Of_send 62 = .ok (.if_icmp .lt 11, 3) := by decide +kernel
theorem d_Of_send_65 : decode b_Of_send 65 = .ok (.new 111, 3) := by decide +kernel
theorem d_Of_send_68 : decode b_Of_send 68 = .ok (.dup, 1) := by decide +kernel
theorem d_Of_send_69 : decode b_Of_send 69 = .ok (.invokespecial 113, 3) := by decide +kernel
theorem d_Of_send_72 : decode b_Of_send 72 = .ok (.athrow, 1) := by decide +kernel
theorem d_Of_send_73 : decode b_Of_send 73 = .ok (.new 114, 3) := by decide +kernel
theorem d_Of_send_76 : decode b_Of_send 76 = .ok (.dup, 1) := by decide +kernel
theorem d_Of_send_77 : decode b_Of_send 77 = .ok (.iload_n 2, 1) := by decide +kernel
theorem d_Of_send_78 : decode b_Of_send 78 = .ok (.iconst 0, 1) := by decide +kernel
theorem d_Of_send_79 : decode b_Of_send 79 = .ok (.iload_n 1, 1) := by decide +kernel
theorem d_Of_send_80 : decode b_Of_send 80 = .ok (.invokespecial 116, 3) := by decide +kernel
theorem d_Of_send_83 : decode b_Of_send 83 = .ok (.astore_n 3, 1) := by decide +kernel
theorem d_Of_send_84 : decode b_Of_send 84 = .ok (.iconst 0, 1) := by decide +kernel
theorem d_Of_send_85 : decode b_Of_send 85 = .ok (.istore 4, 2) := by decide +kernel
theorem d_Of_send_87 : decode b_Of_send 87 = .ok (.iload 4, 2) := by decide +kernel
theorem d_Of_send_89 : decode b_Of_send 89 = .ok (.iload_n 1, 1) := by decide +kernel
theorem d_Of_send_90 : decode b_Of_send 90 = .ok (.if_icmp .ge 28, 3) := by decide +kernel
theorem d_Of_send_93 : decode b_Of_send 93 = .ok (.aload_n 3, 1) := by decide +kernel
theorem d_Of_send_94 : decode b_Of_send 94 = .ok (.getfield 117, 3) := by decide +kernel
theorem d_Of_send_97 : decode b_Of_send 97 = .ok (.bipush 6, 2) := by decide +kernel
theorem d_Of_send_99 : decode b_Of_send 99 = .ok (.iload 4, 2) := by decide +kernel
theorem d_Of_send_101 : decode b_Of_send 101 = .ok (.iadd, 1) := by decide +kernel
theorem d_Of_send_102 : decode b_Of_send 102 = .ok (.aload_n 0, 1) := by decide +kernel
theorem d_Of_send_103 : decode b_Of_send 103 = .ok (.getfield 31, 3) := by decide +kernel
theorem d_Of_send_106 : decode b_Of_send 106 = .ok (.iload 4, 2) := by decide +kernel
theorem d_Of_send_108 : decode b_Of_send 108 = .ok (.invokestatic 90, 3) := by decide +kernel
theorem d_Of_send_111 : decode b_Of_send 111 = .ok (.iastore, 1) := by decide +kernel
theorem d_Of_send_112 : decode b_Of_send 112 = .ok (.iinc 4 1, 3) := by decide +kernel
theorem d_Of_send_115 : decode b_Of_send 115 = .ok (.goto (-28), 3) := by decide +kernel
theorem d_Of_send_118 : decode b_Of_send 118 = .ok (.aload_n 0, 1) := by decide +kernel
theorem d_Of_send_119 : decode b_Of_send 119 = .ok (.aload_n 3, 1) := by decide +kernel
theorem d_Of_send_120 : decode b_Of_send 120 = .ok (.invokevirtual 120, 3) := by decide +kernel
theorem d_Of_send_123 : decode b_Of_send 123 = .ok (.ireturn, 1) := by decide +kernel
theorem d_Of_root_0 : decode b_Of_root 0 = .ok (.aload_n 0, 1) := by decide +kernel
theorem d_Of_root_1 : decode b_Of_root 1 = .ok (.getfield 18, 3) := by decide +kernel
theorem d_Of_root_4 : decode b_Of_root 4 = .ok (.aload_n 0, 1) := by decide +kernel
theorem d_Of_root_5 : decode b_Of_root 5 = .ok (.getfield 18, 3) := by decide +kernel
theorem d_Of_root_8 : decode b_Of_root 8 = .ok (.getfield 77, 3) := by decide +kernel
theorem d_Of_root_11 : decode b_Of_root 11 = .ok (.invokevirtual 80, 3) := by decide +kernel
theorem d_Of_root_14 : decode b_Of_root 14 = .ok (.istore_n 1, 1) := by decide +kernel
theorem d_Of_root_15 : decode b_Of_root 15 = .ok (.iload_n 1, 1) := by decide +kernel
theorem d_Of_root_16 : decode b_Of_root 16 = .ok (.invokestatic 104, 3) := by decide +kernel
theorem d_Of_root_19 : decode b_Of_root 19 = .ok (.iconst 1, 1) := by decide +kernel
theorem d_Of_root_20 : decode b_Of_root 20 = .ok (.iadd, 1) := by decide +kernel
theorem d_Of_root_21 : decode b_Of_root 21 = .ok (.istore_n 2, 1) := by decide +kernel
theorem d_Of_root_22 : decode b_Of_root 22 = .ok (.iload_n 2, 1) := by decide +kernel
theorem d_Of_root_23 : decode b_Of_root 23 = .ok (.aload_n 0, 1) := by decide +kernel
theorem d_Of_root_24 : decode b_Of_root 24 = .ok (.getfield 58, 3) := by decide +kernel
theorem d_Of_root_27 : decode b_Of_root 27 = .ok (.if_icmp .lt 11, 3) := by decide +kernel
theorem d_Of_root_30 : decode b_Of_root 30 = .ok (.new 62, 3) := by decide +kernel
theorem d_Of_root_33 : decode b_Of_root 33 = .ok (.dup, 1) := by decide +kernel
theorem d_Of_root_34 : decode b_Of_root 34 = .ok (.invokespecial 64, 3) := by decide +kernel
theorem d_Of_root_37 : decode b_Of_root 37 = .ok (.athrow, 1) := by decide +kernel
theorem d_Of_root_38 : decode b_Of_root 38 = .ok (.aload_n 0, 1) := by decide +kernel
theorem d_Of_root_39 : decode b_Of_root 39 = .ok (.getfield 45, 3) := by decide +kernel
theorem d_Of_root_42 : decode b_Of_root 42 = .ok (.invokevirtual 107, 3) := by decide +kernel
theorem d_Of_root_45 : decode b_Of_root 45 = .ok (.sipush 200, 3) := by decide +kernel
theorem d_Of_root_48 : decode b_Of_root 48 = .ok (.if_icmp .lt 11, 3) := by decide +kernel
theorem d_Of_root_51 : decode b_Of_root 51 = .ok (.new 111, 3) := by decide +kernel
theorem d_Of_root_54 : decode b_Of_root 54 = .ok (.dup, 1) := by decide +kernel
theorem d_Of_root_55 : decode b_Of_root 55 = .ok (.invokespecial 113, 3) := by decide +kernel
theorem d_Of_root_58 : decode b_Of_root 58 = .ok (.athrow, 1) := by decide +kernel
theorem d_Of_root_59 : decode b_Of_root 59 = .ok (.new 114, 3) := by decide +kernel
theorem d_Of_root_62 : decode b_Of_root 62 = .ok (.dup, 1) := by decide +kernel
theorem d_Of_root_63 : decode b_Of_root 63 = .ok (.iload_n 1, 1) := by decide +kernel
theorem d_Of_root_64 : decode b_Of_root 64 = .ok (.iconst 1, 1) := by decide +kernel
theorem d_Of_root_65 : decode b_Of_root 65 = .ok (.bipush 20, 2) := by decide +kernel
theorem d_Of_root_67 : decode b_Of_root 67 = .ok (.invokespecial 116, 3) := by decide +kernel
theorem d_Of_root_70 : decode b_Of_root 70 = .ok (.astore_n 3, 1) := by decide +kernel
theorem d_Of_root_71 : decode b_Of_root 71 = .ok (.aload_n 0, 1) := by decide +kernel
theorem d_Of_root_72 : decode b_Of_root 72 = .ok (.getfield 37, 3) := by decide +kernel
theorem d_Of_root_75 : decode b_Of_root 75 = .ok (.iload_n 2, 1) := by decide +kernel
theorem d_Of_root_76 : decode b_Of_root 76 = .ok (.aaload, 1) := by decide +kernel
theorem d_Of_root_77 : decode b_Of_root 77 = .ok (.iconst 0, 1) := by decide +kernel
theorem d_Of_root_78 : decode b_Of_root 78 = .ok (.aload_n 3, 1) := by decide +kernel
theorem d_Of_root_79 : decode b_Of_root 79 = .ok (.getfield 117, 3) := by decide +kernel
theorem d_Of_root_82 : decode b_Of_root 82 = .ok (.bipush 6, 2) := by decide +kernel
theorem d_Of_root_84 : decode b_Of_root 84 = .ok (.invokevirtual 124, 3) := by decide +kernel
theorem d_Of_root_87 : decode b_Of_root 87 = .ok (.aload_n 0, 1) := by decide +kernel
theorem d_Of_root_88 : decode b_Of_root 88 = .ok (.aload_n 3, 1) := by decide +kernel
theorem d_Of_root_89 : decode b_Of_root 89 = .ok (.invokevirtual 120, 3) := by decide +kernel
theorem d_Of_root_92 : decode b_Of_root 92 = .ok (.ireturn, 1) := by decide +kernel
theorem d_Of_packet_0 : decode b_Of_packet 0 = .ok (.aload_n 0, 1) := by decide +kernel
theorem d_Of_packet_1 : decode b_Of_packet 1 = .ok (.iload_n 1, 1) := by decide +kernel
theorem d_Of_packet_2 : decode b_Of_packet 2 = .ok (.iload_n 2, 1) := by decide +kernel
theorem d_Of_packet_3 : decode b_Of_packet 3 = .ok (.invokevirtual 128, 3) := by decide +kernel
theorem d_Of_packet_6 : decode b_Of_packet 6 = .ok (.ifCond .ne 11, 3) := by decide +kernel
theorem d_Of_packet_9 : decode b_Of_packet 9 = .ok (.new 84, 3) := by decide +kernel
theorem d_Of_packet_12 : decode b_Of_packet 12 = .ok (.dup, 1) := by decide +kernel
theorem d_Of_packet_13 : decode b_Of_packet 13 = .ok (.invokespecial 86, 3) := by decide +kernel
theorem d_Of_packet_16 : decode b_Of_packet 16 = .ok (.athrow, 1) := by decide +kernel
theorem d_Of_packet_17 : decode b_Of_packet 17 = .ok (.aload_n 0, 1) := by decide +kernel
theorem d_Of_packet_18 : decode b_Of_packet 18 = .ok (.getfield 45, 3) := by decide +kernel
theorem d_Of_packet_21 : decode b_Of_packet 21 = .ok (.iload_n 1, 1) := by decide +kernel
theorem d_Of_packet_22 : decode b_Of_packet 22 = .ok (.invokevirtual 132, 3) := by decide +kernel
theorem d_Of_packet_25 : decode b_Of_packet 25 = .ok (.checkcast 114, 3) := by decide +kernel
theorem d_Of_packet_28 : decode b_Of_packet 28 = .ok (.getfield 117, 3) := by decide +kernel
theorem d_Of_packet_31 : decode b_Of_packet 31 = .ok (.iload_n 2, 1) := by decide +kernel
theorem d_Of_packet_32 : decode b_Of_packet 32 = .ok (.iaload, 1) := by decide +kernel
theorem d_Of_packet_33 : decode b_Of_packet 33 = .ok (.ireturn, 1) := by decide +kernel
theorem d_Of_key_0 : decode b_Of_key 0 = .ok (.iload_n 1, 1) := by decide +kernel
theorem d_Of_key_1 : decode b_Of_key 1 = .ok (.ifCond .lt 20, 3) := by decide +kernel
theorem d_Of_key_4 : decode b_Of_key 4 = .ok (.iload_n 1, 1) := by decide +kernel
theorem d_Of_key_5 : decode b_Of_key 5 = .ok (.sipush 512, 3) := by decide +kernel
theorem d_Of_key_8 : decode b_Of_key 8 = .ok (.if_icmp .gt 13, 3) := by decide +kernel
theorem d_Of_key_11 : decode b_Of_key 11 = .ok (.iload_n 2, 1) := by decide +kernel
theorem d_Of_key_12 : decode b_Of_key 12 = .ok (.ifCond .lt 9, 3) := by decide +kernel
theorem d_Of_key_15 : decode b_Of_key 15 = .ok (.iload_n 2, 1) := by decide +kernel
theorem d_Of_key_16 : decode b_Of_key 16 = .ok (.bipush 20, 2) := by decide +kernel
theorem d_Of_key_18 : decode b_Of_key 18 = .ok (.if_icmp .lt 11, 3) := by decide +kernel
theorem d_Of_key_21 : decode b_Of_key 21 = .ok (.new 84, 3) := by decide +kernel
theorem d_Of_key_24 : decode b_Of_key 24 = .ok (.dup, 1) := by decide +kernel
theorem d_Of_key_25 : decode b_Of_key 25 = .ok (.invokespecial 86, 3) := by decide +kernel
theorem d_Of_key_28 : decode b_Of_key 28 = .ok (.athrow, 1) := by decide +kernel
theorem d_Of_key_29 : decode b_Of_key 29 = .ok (.iload_n 1, 1) := by decide +kernel
theorem d_Of_key_30 : decode b_Of_key 30 = .ok (.bipush 64, 2) := by decide +kernel
theorem d_Of_key_32 : decode b_Of_key 32 = .ok (.idiv, 1) := by decide +kernel
theorem d_Of_key_33 : decode b_Of_key 33 = .ok (.istore_n 3, 1) := by decide +kernel
theorem d_Of_key_34 : decode b_Of_key 34 = .ok (.iload_n 1, 1) := by decide +kernel
theorem d_Of_key_35 : decode b_Of_key 35 = .ok (.bipush 64, 2) := by decide +kernel
theorem d_Of_key_37 : decode b_Of_key 37 = .ok (.irem, 1) := by decide +kernel
theorem d_Of_key_38 : decode b_Of_key 38 = .ok (.istore 4, 2) := by decide +kernel
theorem d_Of_key_40 : decode b_Of_key 40 = .ok (.iload_n 3, 1) := by decide +kernel
theorem d_Of_key_41 : decode b_Of_key 41 = .ok (.aload_n 0, 1) := by decide +kernel
theorem d_Of_key_42 : decode b_Of_key 42 = .ok (.getfield 58, 3) := by decide +kernel
theorem d_Of_key_45 : decode b_Of_key 45 = .ok (.if_icmp .lt 19, 3) := by decide +kernel
theorem d_Of_key_48 : decode b_Of_key 48 = .ok (.iload_n 3, 1) := by decide +kernel
theorem d_Of_key_49 : decode b_Of_key 49 = .ok (.ifCond .le 15, 3) := by decide +kernel
theorem d_Of_key_52 : decode b_Of_key 52 = .ok (.iload 4, 2) := by decide +kernel
theorem d_Of_key_54 : decode b_Of_key 54 = .ok (.ifCond .ne 10, 3) := by decide +kernel
theorem d_Of_key_57 : decode b_Of_key 57 = .ok (.iinc 3 (-1), 3) := by decide +kernel
theorem d_Of_key_60 : decode b_Of_key 60 = .ok (.bipush 64, 2) := by decide +kernel
theorem d_Of_key_62 : decode b_Of_key 62 = .ok (.istore 4, 2) := by decide +kernel
theorem d_Of_key_64 : decode b_Of_key 64 = .ok (.iload_n 3, 1) := by decide +kernel
theorem d_Of_key_65 : decode b_Of_key 65 = .ok (.aload_n 0, 1) := by decide +kernel
theorem d_Of_key_66 : decode b_Of_key 66 = .ok (.getfield 58, 3) := by decide +kernel
theorem d_Of_key_69 : decode b_Of_key 69 = .ok (.if_icmp .lt 11, 3) := by decide +kernel
theorem d_Of_key_72 : decode b_Of_key 72 = .ok (.new 62, 3) := by decide +kernel
theorem d_Of_key_75 : decode b_Of_key 75 = .ok (.dup, 1) := by decide +kernel
theorem d_Of_key_76 : decode b_Of_key 76 = .ok (.invokespecial 64, 3) := by decide +kernel
theorem d_Of_key_79 : decode b_Of_key 79 = .ok (.athrow, 1) := by decide +kernel
theorem d_Of_key_80 : decode b_Of_key 80 = .ok (.aload_n 0, 1) := by decide +kernel
theorem d_Of_key_81 : decode b_Of_key 81 = .ok (.getfield 37, 3) := by decide +kernel
theorem d_Of_key_84 : decode b_Of_key 84 = .ok (.iload_n 3, 1) := by decide +kernel
theorem d_Of_key_85 : decode b_Of_key 85 = .ok (.aaload, 1) := by decide +kernel
theorem d_Of_key_86 : decode b_Of_key 86 = .ok (.iload 4, 2) := by decide +kernel
theorem d_Of_key_88 : decode b_Of_key 88 = .ok (.iload_n 2, 1) := by decide +kernel
theorem d_Of_key_89 : decode b_Of_key 89 = .ok (.invokevirtual 136, 3) := by decide +kernel
theorem d_Of_key_92 : decode b_Of_key 92 = .ok (.ireturn, 1) := by decide +kernel
theorem d_Of_join_0 : decode b_Of_join 0 = .ok (.aload_n 0, 1) := by decide +kernel
theorem d_Of_join_1 : decode b_Of_join 1 = .ok (.iload_n 1, 1) := by decide +kernel
theorem d_Of_join_2 : decode b_Of_join 2 = .ok (.invokevirtual 139, 3) := by decide +kernel
theorem d_Of_join_5 : decode b_Of_join 5 = .ok (.ifCond .eq 14, 3) := by decide +kernel
theorem d_Of_join_8 : decode b_Of_join 8 = .ok (.iload_n 2, 1) := by decide +kernel
theorem d_Of_join_9 : decode b_Of_join 9 = .ok (.ifCond .lt 10, 3) := by decide +kernel
theorem d_Of_join_12 : decode b_Of_join 12 = .ok (.iload_n 2, 1) := by decide +kernel
theorem d_Of_join_13 : decode b_Of_join 13 = .ok (.sipush 512, 3) := by decide +kernel
theorem d_Of_join_16 : decode b_Of_join 16 = .ok (.if_icmp .lt 11, 3) := by decide +kernel
theorem d_Of_join_19 : decode b_Of_join 19 = .ok (.new 84, 3) := by decide +kernel
theorem d_Of_join_22 : decode b_Of_join 22 = .ok (.dup, 1) := by decide +kernel
theorem d_Of_join_23 : decode b_Of_join 23 = .ok (.invokespecial 86, 3) := by decide +kernel
theorem d_Of_join_26 : decode b_Of_join 26 = .ok (.athrow, 1) := by decide +kernel
theorem d_Of_join_27 : decode b_Of_join 27 = .ok (.iload_n 2, 1) := by decide +kernel
theorem d_Of_join_28 : decode b_Of_join 28 = .ok (.bipush 64, 2) := by decide +kernel
theorem d_Of_join_30 : decode b_Of_join 30 = .ok (.idiv, 1) := by decide +kernel
theorem d_Of_join_31 : decode b_Of_join 31 = .ok (.istore_n 3, 1) := by decide +kernel
theorem d_Of_join_32 : decode b_Of_join 32 = .ok (.iload_n 3, 1) := by decide +kernel
theorem d_Of_join_33 : decode b_Of_join 33 = .ok (.aload_n 0, 1) := by decide +kernel
theorem d_Of_join_34 : decode b_Of_join 34 = .ok (.getfield 58, 3) := by decide +kernel
theorem d_Of_join_37 : decode b_Of_join 37 = .ok (.if_icmp .lt 11, 3) := by decide +kernel
theorem d_Of_join_40 : decode b_Of_join 40 = .ok (.new 62, 3) := by decide +kernel
theorem d_Of_join_43 : decode b_Of_join 43 = .ok (.dup, 1) := by decide +kernel
theorem d_Of_join_44 : decode b_Of_join 44 = .ok (.invokespecial 64, 3) := by decide +kernel
theorem d_Of_join_47 : decode b_Of_join 47 = .ok (.athrow, 1) := by decide +kernel
theorem d_Of_join_48 : decode b_Of_join 48 = .ok (.aload_n 0, 1) := by decide +kernel
theorem d_Of_join_49 : decode b_Of_join 49 = .ok (.getfield 51, 3) := by decide +kernel
theorem d_Of_join_52 : decode b_Of_join 52 = .ok (.iload_n 1, 1) := by decide +kernel
theorem d_Of_join_53 : decode b_Of_join 53 = .ok (.aaload, 1) := by decide +kernel
theorem d_Of_join_54 : decode b_Of_join 54 = .ok (.invokevirtual 143, 3) := by decide +kernel
theorem d_Of_join_57 : decode b_Of_join 57 = .ok (.aload_n 0, 1) := by decide +kernel
theorem d_Of_join_58 : decode b_Of_join 58 = .ok (.getfield 51, 3) := by decide +kernel
theorem d_Of_join_61 : decode b_Of_join 61 = .ok (.iload_n 1, 1) := by decide +kernel
theorem d_Of_join_62 : decode b_Of_join 62 = .ok (.aaload, 1) := by decide +kernel
theorem d_Of_join_63 : decode b_Of_join 63 = .ok (.getfield 146, 3) := by decide +kernel
theorem d_Of_join_66 : decode b_Of_join 66 = .ok (.iload_n 3, 1) := by decide +kernel
theorem d_Of_join_67 : decode b_Of_join 67 = .ok (.aaload, 1) := by decide +kernel
theorem d_Of_join_68 : decode b_Of_join 68 = .ok (.aload_n 0, 1) := by decide +kernel
theorem d_Of_join_69 : decode b_Of_join 69 = .ok (.getfield 37, 3) := by decide +kernel
theorem d_Of_join_72 : decode b_Of_join 72 = .ok (.iload_n 3, 1) := by decide +kernel
theorem d_Of_join_73 : decode b_Of_join 73 = .ok (.aaload, 1) := by decide +kernel
theorem d_Of_join_74 : decode b_Of_join 74 = .ok (.iload_n 2, 1) := by decide +kernel
theorem d_Of_join_75 : decode b_Of_join 75 = .ok (.bipush 64, 2) := by decide +kernel
theorem d_Of_join_77 : decode b_Of_join 77 = .ok (.irem, 1) := by decide +kernel
theorem d_Of_join_78 : decode b_Of_join 78 = .ok (.invokevirtual 149, 3) := by decide +kernel
theorem d_Of_join_81 : decode b_Of_join 81 = .ok (.return_, 1) := by decide +kernel
theorem d_Of_drift_0 : decode b_Of_drift 0 = .ok (.aload_n 0, 1) := by decide +kernel
theorem d_Of_drift_1 : decode b_Of_drift 1 = .ok (.iload_n 1, 1) := by decide +kernel
theorem d_Of_drift_2 : decode b_Of_drift 2 = .ok (.invokevirtual 139, 3) := by decide +kernel
theorem d_Of_drift_5 : decode b_Of_drift 5 = .ok (.ifCond .ne 11, 3) := by decide +kernel
theorem d_Of_drift_8 : decode b_Of_drift 8 = .ok (.new 84, 3) := by decide +kernel
theorem d_Of_drift_11 : decode b_Of_drift 11 = .ok (.dup, 1) := by decide +kernel
theorem d_Of_drift_12 : decode b_Of_drift 12 = .ok (.invokespecial 86, 3) := by decide +kernel
theorem d_Of_drift_15 : decode b_Of_drift 15 = .ok (.athrow, 1) := by decide +kernel
theorem d_Of_drift_16 : decode b_Of_drift 16 = .ok (.iload_n 2, 1) := by decide +kernel
theorem d_Of_drift_17 : decode b_Of_drift 17 = .ok (.sipush (-10000), 3) := by decide +kernel
theorem d_Of_drift_20 : decode b_Of_drift 20 = .ok (.if_icmp .lt 10, 3) := by decide +kernel
theorem d_Of_drift_23 : decode b_Of_drift 23 = .ok (.iload_n 2, 1) := by decide +kernel
theorem d_Of_drift_24 : decode b_Of_drift 24 = .ok (.sipush 10000, 3) := by decide +kernel
theorem d_Of_drift_27 : decode b_Of_drift 27 = .ok (.if_icmp .le 11, 3) := by decide +kernel
theorem d_Of_drift_30 : decode b_Of_drift 30 = .ok (.new 74, 3) := by decide +kernel
theorem d_Of_drift_33 : decode b_Of_drift 33 = .ok (.dup, 1) := by decide +kernel
theorem d_Of_drift_34 : decode b_Of_drift 34 = .ok (.invokespecial 76, 3) := by decide +kernel
theorem d_Of_drift_37 : decode b_Of_drift 37 = .ok (.athrow, 1) := by decide +kernel
theorem d_Of_drift_38 : decode b_Of_drift 38 = .ok (.aload_n 0, 1) := by decide +kernel
theorem d_Of_drift_39 : decode b_Of_drift 39 = .ok (.getfield 51, 3) := by decide +kernel
theorem d_Of_drift_42 : decode b_Of_drift 42 = .ok (.iload_n 1, 1) := by decide +kernel
theorem d_Of_drift_43 : decode b_Of_drift 43 = .ok (.aaload, 1) := by decide +kernel
theorem d_Of_drift_44 : decode b_Of_drift 44 = .ok (.getfield 153, 3) := by decide +kernel
theorem d_Of_drift_47 : decode b_Of_drift 47 = .ok (.istore_n 3, 1) := by decide +kernel
theorem d_Of_drift_48 : decode b_Of_drift 48 = .ok (.aload_n 0, 1) := by decide +kernel
theorem d_Of_drift_49 : decode b_Of_drift 49 = .ok (.getfield 51, 3) := by decide +kernel
theorem d_Of_drift_52 : decode b_Of_drift 52 = .ok (.iload_n 1, 1) := by decide +kernel
theorem d_Of_drift_53 : decode b_Of_drift 53 = .ok (.aaload, 1) := by decide +kernel
theorem d_Of_drift_54 : decode b_Of_drift 54 = .ok (.iload_n 2, 1) := by decide +kernel
theorem d_Of_drift_55 : decode b_Of_drift 55 = .ok (.putfield 153, 3) := by decide +kernel
theorem d_Of_drift_58 : decode b_Of_drift 58 = .ok (.iload_n 3, 1) := by decide +kernel
theorem d_Of_drift_59 : decode b_Of_drift 59 = .ok (.ireturn, 1) := by decide +kernel
theorem d_Of_arrive_0 : decode b_Of_arrive 0 = .ok (.aload_n 0, 1) := by decide +kernel
theorem d_Of_arrive_1 : decode b_Of_arrive 1 = .ok (.iload_n 1, 1) := by decide +kernel
theorem d_Of_arrive_2 : decode b_Of_arrive 2 = .ok (.invokevirtual 139, 3) := by decide +kernel
theorem d_Of_arrive_5 : decode b_Of_arrive 5 = .ok (.ifCond .eq 12, 3) := by decide +kernel
theorem d_Of_arrive_8 : decode b_Of_arrive 8 = .ok (.aload_n 0, 1) := by decide +kernel
theorem d_Of_arrive_9 : decode b_Of_arrive 9 = .ok (.iload_n 2, 1) := by decide +kernel
theorem d_Of_arrive_10 : decode b_Of_arrive 10 = .ok (.iload_n 3, 1) := by decide +kernel
theorem d_Of_arrive_11 : decode b_Of_arrive 11 = .ok (.invokevirtual 128, 3) := by decide +kernel
theorem d_Of_arrive_14 : decode b_Of_arrive 14 = .ok (.ifCond .ne 11, 3) := by decide +kernel
theorem d_Of_arrive_17 : decode b_Of_arrive 17 = .ok (.new 84, 3) := by decide +kernel
theorem d_Of_arrive_20 : decode b_Of_arrive 20 = .ok (.dup, 1) := by decide +kernel
theorem d_Of_arrive_21 : decode b_Of_arrive 21 = .ok (.invokespecial 86, 3) := by decide +kernel
theorem d_Of_arrive_24 : decode b_Of_arrive 24 = .ok (.athrow, 1) := by decide +kernel
theorem d_Of_arrive_25 : decode b_Of_arrive 25 = .ok (.iload 4, 2) := by decide +kernel
theorem d_Of_arrive_27 : decode b_Of_arrive 27 = .ok (.ifCond .lt 11, 3) := by decide +kernel
theorem d_Of_arrive_30 : decode b_Of_arrive 30 = .ok (.iload 4, 2) := by decide +kernel
theorem d_Of_arrive_32 : decode b_Of_arrive 32 = .ok (.sipush 255, 3) := by decide +kernel
theorem d_Of_arrive_35 : decode b_Of_arrive 35 = .ok (.if_icmp .le 11, 3) := by decide +kernel
theorem d_Of_arrive_38 : decode b_Of_arrive 38 = .ok (.new 74, 3) := by decide +kernel
theorem d_Of_arrive_41 : decode b_Of_arrive 41 = .ok (.dup, 1) := by decide +kernel
theorem d_Of_arrive_42 : decode b_Of_arrive 42 = .ok (.invokespecial 76, 3) := by decide +kernel
theorem d_Of_arrive_45 : decode b_Of_arrive 45 = .ok (.athrow, 1) := by decide +kernel
theorem d_Of_arrive_46 : decode b_Of_arrive 46 = .ok (.new 114, 3) := by decide +kernel
theorem d_Of_arrive_49 : decode b_Of_arrive 49 = .ok (.dup, 1) := by decide +kernel
theorem d_Of_arrive_50 : decode b_Of_arrive 50 = .ok (.aload_n 0, 1) := by decide +kernel
theorem d_Of_arrive_51 : decode b_Of_arrive 51 = .ok (.getfield 45, 3) := by decide +kernel
theorem d_Of_arrive_54 : decode b_Of_arrive 54 = .ok (.iload_n 2, 1) := by decide +kernel
theorem d_Of_arrive_55 : decode b_Of_arrive 55 = .ok (.invokevirtual 132, 3) := by decide +kernel
theorem d_Of_arrive_58 : decode b_Of_arrive 58 = .ok (.checkcast 114, 3) := by decide +kernel
theorem d_Of_arrive_61 : decode b_Of_arrive 61 = .ok (.invokespecial 156, 3) := by decide +kernel
theorem d_Of_arrive_64 : decode b_Of_arrive 64 = .ok (.astore 5, 2) := by decide +kernel
theorem d_Of_arrive_66 : decode b_Of_arrive 66 = .ok (.aload 5, 2) := by decide +kernel
theorem d_Of_arrive_68 : decode b_Of_arrive 68 = .ok (.getfield 117, 3) := by decide +kernel
theorem d_Of_arrive_71 : decode b_Of_arrive 71 = .ok (.iload_n 3, 1) := by decide +kernel
theorem d_Of_arrive_72 : decode b_Of_arrive 72 = .ok (.dup2, 1) := by decide +kernel
theorem d_Of_arrive_73 : decode b_Of_arrive 73 = .ok (.iaload, 1) := by decide +kernel
theorem d_Of_arrive_74 : decode b_Of_arrive 74 = .ok (.iload 4, 2) := by decide +kernel
theorem d_Of_arrive_76 : decode b_Of_arrive 76 = .ok (.ixor, 1) := by decide +kernel
theorem d_Of_arrive_77 : decode b_Of_arrive 77 = .ok (.iastore, 1) := by decide +kernel
theorem d_Of_arrive_78 : decode b_Of_arrive 78 = .ok (.aload_n 0, 1) := by decide +kernel
theorem d_Of_arrive_79 : decode b_Of_arrive 79 = .ok (.getfield 51, 3) := by decide +kernel
theorem d_Of_arrive_82 : decode b_Of_arrive 82 = .ok (.iload_n 1, 1) := by decide +kernel
theorem d_Of_arrive_83 : decode b_Of_arrive 83 = .ok (.aaload, 1) := by decide +kernel
theorem d_Of_arrive_84 : decode b_Of_arrive 84 = .ok (.aload 5, 2) := by decide +kernel
theorem d_Of_arrive_86 : decode b_Of_arrive 86 = .ok (.invokevirtual 159, 3) := by decide +kernel
theorem d_Of_arrive_89 : decode b_Of_arrive 89 = .ok (.istore 6, 2) := by decide +kernel
theorem d_Of_arrive_91 : decode b_Of_arrive 91 = .ok (.aload_n 0, 1) := by decide +kernel
theorem d_Of_arrive_92 : decode b_Of_arrive 92 = .ok (.getfield 51, 3) := by decide +kernel
theorem d_Of_arrive_95 : decode b_Of_arrive 95 = .ok (.iload_n 1, 1) := by decide +kernel
theorem d_Of_arrive_96 : decode b_Of_arrive 96 = .ok (.aaload, 1) := by decide +kernel
theorem d_Of_arrive_97 : decode b_Of_arrive 97 = .ok (.getfield 162, 3) := by decide +kernel
theorem d_Of_arrive_100 : decode b_Of_arrive 100 = .ok (.iload 6, 2) := by decide +kernel
theorem d_Of_arrive_102 : decode b_Of_arrive 102 = .ok (.dup2, 1) := by decide +kernel
theorem d_Of_arrive_103 : decode b_Of_arrive 103 = .ok (.iaload, 1) := by decide +kernel
theorem d_Of_arrive_104 : decode b_Of_arrive 104 = .ok (.iconst 1, 1) := by decide +kernel
theorem d_Of_arrive_105 : decode b_Of_arrive 105 = .ok (.iadd, 1) := by decide +kernel
theorem d_Of_arrive_106 : decode b_Of_arrive 106 = .ok (.iastore, 1) := by decide +kernel
theorem d_Of_arrive_107 : decode b_Of_arrive 107 = .ok (.iload 6, 2) := by decide +kernel
theorem d_Of_arrive_109 : decode b_Of_arrive 109 = .ok (.ireturn, 1) := by decide +kernel
theorem d_Of_receiver_0 : decode b_Of_receiver 0 = .ok (.aload_n 0, 1) := by decide +kernel
theorem d_Of_receiver_1 : decode b_Of_receiver 1 = .ok (.iload_n 1, 1) := by decide +kernel
theorem d_Of_receiver_2 : decode b_Of_receiver 2 = .ok (.invokevirtual 139, 3) := by decide +kernel
theorem d_Of_receiver_5 : decode b_Of_receiver 5 = .ok (.ifCond .eq 13, 3) := by decide +kernel
theorem d_Of_receiver_8 : decode b_Of_receiver 8 = .ok (.iload_n 2, 1) := by decide +kernel
theorem d_Of_receiver_9 : decode b_Of_receiver 9 = .ok (.ifCond .lt 9, 3) := by decide +kernel
theorem d_Of_receiver_12 : decode b_Of_receiver 12 = .ok (.iload_n 2, 1) := by decide +kernel
theorem d_Of_receiver_13 : decode b_Of_receiver 13 = .ok (.bipush 9, 2) := by decide +kernel
theorem d_Of_receiver_15 : decode b_Of_receiver 15 = .ok (.if_icmp .le 11, 3) := by decide +kernel
theorem d_Of_receiver_18 : decode b_Of_receiver 18 = .ok (.new 84, 3) := by decide +kernel
theorem d_Of_receiver_21 : decode b_Of_receiver 21 = .ok (.dup, 1) := by decide +kernel
theorem d_Of_receiver_22 : decode b_Of_receiver 22 = .ok (.invokespecial 86, 3) := by decide +kernel
theorem d_Of_receiver_25 : decode b_Of_receiver 25 = .ok (.athrow, 1) := by decide +kernel
theorem d_Of_receiver_26 : decode b_Of_receiver 26 = .ok (.aload_n 0, 1) := by decide +kernel
theorem d_Of_receiver_27 : decode b_Of_receiver 27 = .ok (.getfield 51, 3) := by decide +kernel
theorem d_Of_receiver_30 : decode b_Of_receiver 30 = .ok (.iload_n 1, 1) := by decide +kernel
theorem d_Of_receiver_31 : decode b_Of_receiver 31 = .ok (.aaload, 1) := by decide +kernel
theorem d_Of_receiver_32 : decode b_Of_receiver 32 = .ok (.astore_n 3, 1) := by decide +kernel
theorem d_Of_receiver_33 : decode b_Of_receiver 33 = .ok (.iload_n 2, 1) := by decide +kernel
theorem d_Of_receiver_34 : decode b_Of_receiver 34 = .ok (.tableswitch 44 7 9 #[26, 31, 39], 26) := by decide +kernel
theorem d_Of_receiver_60 : decode b_Of_receiver 60 = .ok (.aload_n 3, 1) := by decide +kernel
theorem d_Of_receiver_61 : decode b_Of_receiver 61 = .ok (.getfield 165, 3) := by decide +kernel
theorem d_Of_receiver_64 : decode b_Of_receiver 64 = .ok (.ireturn, 1) := by decide +kernel
theorem d_Of_receiver_65 : decode b_Of_receiver 65 = .ok (.aload_n 3, 1) := by decide +kernel
theorem d_Of_receiver_66 : decode b_Of_receiver 66 = .ok (.getfield 168, 3) := by decide +kernel
theorem d_Of_receiver_69 : decode b_Of_receiver 69 = .ok (.invokevirtual 107, 3) := by decide +kernel
theorem d_Of_receiver_72 : decode b_Of_receiver 72 = .ok (.ireturn, 1) := by decide +kernel
theorem d_Of_receiver_73 : decode b_Of_receiver 73 = .ok (.aload_n 3, 1) := by decide +kernel
theorem d_Of_receiver_74 : decode b_Of_receiver 74 = .ok (.invokevirtual 171, 3) := by decide +kernel
theorem d_Of_receiver_77 : decode b_Of_receiver 77 = .ok (.ireturn, 1) := by decide +kernel
theorem d_Of_receiver_78 : decode b_Of_receiver 78 = .ok (.aload_n 3, 1) := by decide +kernel
theorem d_Of_receiver_79 : decode b_Of_receiver 79 = .ok (.getfield 162, 3) := by decide +kernel
theorem d_Of_receiver_82 : decode b_Of_receiver 82 = .ok (.iload_n 2, 1) := by decide +kernel
theorem d_Of_receiver_83 : decode b_Of_receiver 83 = .ok (.iaload, 1) := by decide +kernel
theorem d_Of_receiver_84 : decode b_Of_receiver 84 = .ok (.ireturn, 1) := by decide +kernel
theorem d_Of_released_0 : decode b_Of_released 0 = .ok (.aload_n 0, 1) := by decide +kernel
theorem d_Of_released_1 : decode b_Of_released 1 = .ok (.iload_n 1, 1) := by decide +kernel
theorem d_Of_released_2 : decode b_Of_released 2 = .ok (.iload_n 2, 1) := by decide +kernel
theorem d_Of_released_3 : decode b_Of_released 3 = .ok (.invokevirtual 174, 3) := by decide +kernel
theorem d_Of_released_6 : decode b_Of_released 6 = .ok (.ifCond .eq 12, 3) := by decide +kernel
theorem d_Of_released_9 : decode b_Of_released 9 = .ok (.iload_n 3, 1) := by decide +kernel
theorem d_Of_released_10 : decode b_Of_released 10 = .ok (.ifCond .lt 8, 3) := by decide +kernel
theorem d_Of_released_13 : decode b_Of_released 13 = .ok (.iload_n 3, 1) := by decide +kernel
theorem d_Of_released_14 : decode b_Of_released 14 = .ok (.iconst 2, 1) := by decide +kernel
theorem d_Of_released_15 : decode b_Of_released 15 = .ok (.if_icmp .le 11, 3) := by decide +kernel
theorem d_Of_released_18 : decode b_Of_released 18 = .ok (.new 84, 3) := by decide +kernel
theorem d_Of_released_21 : decode b_Of_released 21 = .ok (.dup, 1) := by decide +kernel
theorem d_Of_released_22 : decode b_Of_released 22 = .ok (.invokespecial 86, 3) := by decide +kernel
theorem d_Of_released_25 : decode b_Of_released 25 = .ok (.athrow, 1) := by decide +kernel
theorem d_Of_released_26 : decode b_Of_released 26 = .ok (.aload_n 0, 1) := by decide +kernel
theorem d_Of_released_27 : decode b_Of_released 27 = .ok (.getfield 51, 3) := by decide +kernel
theorem d_Of_released_30 : decode b_Of_released 30 = .ok (.iload_n 1, 1) := by decide +kernel
theorem d_Of_released_31 : decode b_Of_released 31 = .ok (.aaload, 1) := by decide +kernel
theorem d_Of_released_32 : decode b_Of_released 32 = .ok (.getfield 177, 3) := by decide +kernel
theorem d_Of_released_35 : decode b_Of_released 35 = .ok (.iload_n 2, 1) := by decide +kernel
theorem d_Of_released_36 : decode b_Of_released 36 = .ok (.invokevirtual 132, 3) := by decide +kernel
theorem d_Of_released_39 : decode b_Of_released 39 = .ok (.checkcast 114, 3) := by decide +kernel
theorem d_Of_released_42 : decode b_Of_released 42 = .ok (.astore 4, 2) := by decide +kernel
theorem d_Of_released_44 : decode b_Of_released 44 = .ok (.iload_n 3, 1) := by decide +kernel
theorem d_Of_released_45 : decode b_Of_released 45 = .ok (.lookupswitch 39 #[(0, 27), (1, 33)], 27) := by decide +kernel
theorem d_Of_released_72 : decode b_Of_released 72 = .ok (.aload 4, 2) := by decide +kernel
theorem d_Of_released_74 : decode b_Of_released 74 = .ok (.invokevirtual 180, 3) := by decide +kernel
theorem d_Of_released_77 : decode b_Of_released 77 = .ok (.ireturn, 1) := by decide +kernel
theorem d_Of_released_78 : decode b_Of_released 78 = .ok (.aload 4, 2) := by decide +kernel
theorem d_Of_released_80 : decode b_Of_released 80 = .ok (.invokevirtual 183, 3) := by decide +kernel
theorem d_Of_released_83 : decode b_Of_released 83 = .ok (.ireturn, 1) := by decide +kernel
theorem d_Of_released_84 : decode b_Of_released 84 = .ok (.aload 4, 2) := by decide +kernel
theorem d_Of_released_86 : decode b_Of_released 86 = .ok (.invokevirtual 186, 3) := by decide +kernel
theorem d_Of_released_89 : decode b_Of_released 89 = .ok (.ireturn, 1) := by decide +kernel
theorem d_Of_releasedByte_0 : decode b_Of_releasedByte 0 = .ok (.aload_n 0, 1) := by decide +kernel
theorem d_Of_releasedByte_1 : decode b_Of_releasedByte 1 = .ok (.iload_n 1, 1) := by decide +kernel
theorem d_Of_releasedByte_2 : decode b_Of_releasedByte 2 = .ok (.iload_n 2, 1) := by decide +kernel
theorem d_Of_releasedByte_3 : decode b_Of_releasedByte 3 = .ok (.invokevirtual 174, 3) := by decide +kernel
theorem d_Of_releasedByte_6 : decode b_Of_releasedByte 6 = .ok (.ifCond .eq 30, 3) := by decide +kernel
theorem d_Of_releasedByte_9 : decode b_Of_releasedByte 9 = .ok (.iload_n 3, 1) := by decide +kernel
theorem d_Of_releasedByte_10 : decode b_Of_releasedByte 10 = .ok (.ifCond .lt 26, 3) := by decide +kernel
theorem d_Of_releasedByte_13 : decode b_Of_releasedByte 13 = .ok (.iload_n 3, 1) := by decide +kernel
theorem d_Of_releasedByte_14 : decode b_Of_releasedByte 14 = .ok (.aload_n 0, 1) := by decide +kernel
theorem d_Of_releasedByte_15 : decode b_Of_releasedByte 15 = .ok (.getfield 51, 3) := by decide +kernel
theorem d_Of_releasedByte_18 : decode b_Of_releasedByte 18 = .ok (.iload_n 1, 1) := by decide +kernel
theorem d_Of_releasedByte_19 : decode b_Of_releasedByte 19 = .ok (.aaload, 1) := by decide +kernel
theorem d_Of_releasedByte_20 : decode b_Of_releasedByte 20 = .ok (.getfield 177, 3) := by decide +kernel
theorem d_Of_releasedByte_23 : decode b_Of_releasedByte 23 = .ok (.iload_n 2, 1) := by decide +kernel
theorem d_Of_releasedByte_24 : decode b_Of_releasedByte 24 = .ok (.invokevirtual 132, 3) := by decide +kernel
theorem d_Of_releasedByte_27 : decode b_Of_releasedByte 27 = .ok (.checkcast 114, 3) := by decide +kernel
theorem d_Of_releasedByte_30 : decode b_Of_releasedByte 30 = .ok (.invokevirtual 186, 3) := by decide +kernel
theorem d_Of_releasedByte_33 : decode b_Of_releasedByte 33 = .ok (.if_icmp .lt 11, 3) := by decide +kernel
theorem d_Of_releasedByte_36 : decode b_Of_releasedByte 36 = .ok (.new 84, 3) := by decide +kernel
theorem d_Of_releasedByte_39 : decode b_Of_releasedByte 39 = .ok (.dup, 1) := by decide +kernel
theorem d_Of_releasedByte_40 : decode b_Of_releasedByte 40 = .ok (.invokespecial 86, 3) := by decide +kernel
theorem d_Of_releasedByte_43 : decode b_Of_releasedByte 43 = .ok (.athrow, 1) := by decide +kernel
theorem d_Of_releasedByte_44 : decode b_Of_releasedByte 44 = .ok (.aload_n 0, 1) := by decide +kernel
theorem d_Of_releasedByte_45 : decode b_Of_releasedByte 45 = .ok (.getfield 51, 3) := by decide +kernel
theorem d_Of_releasedByte_48 : decode b_Of_releasedByte 48 = .ok (.iload_n 1, 1) := by decide +kernel
theorem d_Of_releasedByte_49 : decode b_Of_releasedByte 49 = .ok (.aaload, 1) := by decide +kernel
theorem d_Of_releasedByte_50 : decode b_Of_releasedByte 50 = .ok (.getfield 177, 3) := by decide +kernel
theorem d_Of_releasedByte_53 : decode b_Of_releasedByte 53 = .ok (.iload_n 2, 1) := by decide +kernel
theorem d_Of_releasedByte_54 : decode b_Of_releasedByte 54 = .ok (.invokevirtual 132, 3) := by decide +kernel
theorem d_Of_releasedByte_57 : decode b_Of_releasedByte 57 = .ok (.checkcast 114, 3) := by decide +kernel
theorem d_Of_releasedByte_60 : decode b_Of_releasedByte 60 = .ok (.getfield 117, 3) := by decide +kernel
theorem d_Of_releasedByte_63 : decode b_Of_releasedByte 63 = .ok (.bipush 6, 2) := by decide +kernel
theorem d_Of_releasedByte_65 : decode b_Of_releasedByte 65 = .ok (.iload_n 3, 1) := by decide +kernel
theorem d_Of_releasedByte_66 : decode b_Of_releasedByte 66 = .ok (.iadd, 1) := by decide +kernel
theorem d_Of_releasedByte_67 : decode b_Of_releasedByte 67 = .ok (.iaload, 1) := by decide +kernel
theorem d_Of_releasedByte_68 : decode b_Of_releasedByte 68 = .ok (.ireturn, 1) := by decide +kernel
