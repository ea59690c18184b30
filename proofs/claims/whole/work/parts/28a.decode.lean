theorem d_Lw_chain_0 : decode b_Lw_chain 0 = .ok (.aload 6, 2) := by decide +kernel
theorem d_Lw_chain_2 : decode b_Lw_chain 2 = .ok (.iconst 0, 1) := by decide +kernel
theorem d_Lw_chain_3 : decode b_Lw_chain 3 = .ok (.aload_n 0, 1) := by decide +kernel
theorem d_Lw_chain_4 : decode b_Lw_chain 4 = .ok (.iload_n 1, 1) := by decide +kernel
theorem d_Lw_chain_5 : decode b_Lw_chain 5 = .ok (.iload_n 2, 1) := by decide +kernel
theorem d_Lw_chain_6 : decode b_Lw_chain 6 = .ok (.iload_n 3, 1) := by decide +kernel
theorem d_Lw_chain_7 : decode b_Lw_chain 7 = .ok (.iload 4, 2) := by decide +kernel
theorem d_Lw_chain_9 : decode b_Lw_chain 9 = .ok (.iload 5, 2) := by decide +kernel
theorem d_Lw_chain_11 : decode b_Lw_chain 11 = .ok (.invokevirtual 7, 3) := by decide +kernel
theorem d_Lw_chain_14 : decode b_Lw_chain 14 = .ok (.i2l, 1) := by decide +kernel
theorem d_Lw_chain_15 : decode b_Lw_chain 15 = .ok (.lastore, 1) := by decide +kernel
theorem d_Lw_chain_16 : decode b_Lw_chain 16 = .ok (.goto 7, 3) := by decide +kernel
theorem d_Lw_chain_19 : decode b_Lw_chain 19 = .ok (.astore 7, 2) := by decide +kernel
theorem d_Lw_chain_21 : decode b_Lw_chain 21 = .ok (.iconst 1, 1) := by decide +kernel
theorem d_Lw_chain_22 : decode b_Lw_chain 22 = .ok (.ireturn, 1) := by decide +kernel
theorem d_Lw_chain_23 : decode b_Lw_chain 23 = .ok (.iconst 0, 1) := by decide +kernel
theorem d_Lw_chain_24 : decode b_Lw_chain 24 = .ok (.ireturn, 1) := by decide +kernel
theorem d_Lw_tick_0 : decode b_Lw_tick 0 = .ok (.aload_n 2, 1) := by decide +kernel
theorem d_Lw_tick_1 : decode b_Lw_tick 1 = .ok (.iconst 0, 1) := by decide +kernel
theorem d_Lw_tick_2 : decode b_Lw_tick 2 = .ok (.aload_n 0, 1) := by decide +kernel
theorem d_Lw_tick_3 : decode b_Lw_tick 3 = .ok (.iload_n 1, 1) := by decide +kernel
theorem d_Lw_tick_4 : decode b_Lw_tick 4 = .ok (.invokevirtual 15, 3) := by decide +kernel
theorem d_Lw_tick_7 : decode b_Lw_tick 7 = .ok (.i2l, 1) := by decide +kernel
theorem d_Lw_tick_8 : decode b_Lw_tick 8 = .ok (.lastore, 1) := by decide +kernel
theorem d_Lw_tick_9 : decode b_Lw_tick 9 = .ok (.goto 9, 3) := by decide +kernel
theorem d_Lw_tick_12 : decode b_Lw_tick 12 = .ok (.astore_n 3, 1) := by decide +kernel
theorem d_Lw_tick_13 : decode b_Lw_tick 13 = .ok (.iconst 1, 1) := by decide +kernel
theorem d_Lw_tick_14 : decode b_Lw_tick 14 = .ok (.ireturn, 1) := by decide +kernel
theorem d_Lw_tick_15 : decode b_Lw_tick 15 = .ok (.astore_n 3, 1) := by decide +kernel
theorem d_Lw_tick_16 : decode b_Lw_tick 16 = .ok (.iconst 2, 1) := by decide +kernel
theorem d_Lw_tick_17 : decode b_Lw_tick 17 = .ok (.ireturn, 1) := by decide +kernel
theorem d_Lw_tick_18 : decode b_Lw_tick 18 = .ok (.iconst 0, 1) := by decide +kernel
theorem d_Lw_tick_19 : decode b_Lw_tick 19 = .ok (.ireturn, 1) := by decide +kernel
theorem d_Lw_load_0 : decode b_Lw_load 0 = .ok (.aload_n 3, 1) := by decide +kernel
theorem d_Lw_load_1 : decode b_Lw_load 1 = .ok (.iconst 0, 1) := by decide +kernel
theorem d_Lw_load_2 : decode b_Lw_load 2 = .ok (.aload_n 0, 1) := by decide +kernel
theorem d_Lw_load_3 : decode b_Lw_load 3 = .ok (.iload_n 1, 1) := by decide +kernel
theorem d_Lw_load_4 : decode b_Lw_load 4 = .ok (.iload_n 2, 1) := by decide +kernel
theorem d_Lw_load_5 : decode b_Lw_load 5 = .ok (.invokevirtual 21, 3) := by decide +kernel
theorem d_Lw_load_8 : decode b_Lw_load 8 = .ok (.i2l, 1) := by decide +kernel
theorem d_Lw_load_9 : decode b_Lw_load 9 = .ok (.lastore, 1) := by decide +kernel
theorem d_Lw_load_10 : decode b_Lw_load 10 = .ok (.goto 7, 3) := by decide +kernel
theorem d_Lw_load_13 : decode b_Lw_load 13 = .ok (.astore 4, 2) := by decide +kernel
theorem d_Lw_load_15 : decode b_Lw_load 15 = .ok (.iconst 1, 1) := by decide +kernel
theorem d_Lw_load_16 : decode b_Lw_load 16 = .ok (.ireturn, 1) := by decide +kernel
theorem d_Lw_load_17 : decode b_Lw_load 17 = .ok (.iconst 0, 1) := by decide +kernel
theorem d_Lw_load_18 : decode b_Lw_load 18 = .ok (.ireturn, 1) := by decide +kernel
theorem d_Lw_digest_0 : decode b_Lw_digest 0 = .ok (.aload_n 3, 1) := by decide +kernel
theorem d_Lw_digest_1 : decode b_Lw_digest 1 = .ok (.iconst 0, 1) := by decide +kernel
theorem d_Lw_digest_2 : decode b_Lw_digest 2 = .ok (.aload_n 0, 1) := by decide +kernel
theorem d_Lw_digest_3 : decode b_Lw_digest 3 = .ok (.iload_n 1, 1) := by decide +kernel
theorem d_Lw_digest_4 : decode b_Lw_digest 4 = .ok (.iload_n 2, 1) := by decide +kernel
theorem d_Lw_digest_5 : decode b_Lw_digest 5 = .ok (.invokevirtual 27, 3) := by decide +kernel
theorem d_Lw_digest_8 : decode b_Lw_digest 8 = .ok (.i2l, 1) := by decide +kernel
theorem d_Lw_digest_9 : decode b_Lw_digest 9 = .ok (.lastore, 1) := by decide +kernel
theorem d_Lw_digest_10 : decode b_Lw_digest 10 = .ok (.goto 11, 3) := by decide +kernel
theorem d_Lw_digest_13 : decode b_Lw_digest 13 = .ok (.astore 4, 2) := by decide +kernel
theorem d_Lw_digest_15 : decode b_Lw_digest 15 = .ok (.iconst 1, 1) := by decide +kernel
theorem d_Lw_digest_16 : decode b_Lw_digest 16 = .ok (.ireturn, 1) := by decide +kernel
theorem d_Lw_digest_17 : decode b_Lw_digest 17 = .ok (.astore 4, 2) := by decide +kernel
theorem d_Lw_digest_19 : decode b_Lw_digest 19 = .ok (.iconst 2, 1) := by decide +kernel
theorem d_Lw_digest_20 : decode b_Lw_digest 20 = .ok (.ireturn, 1) := by decide +kernel
theorem d_Lw_digest_21 : decode b_Lw_digest 21 = .ok (.iconst 0, 1) := by decide +kernel
theorem d_Lw_digest_22 : decode b_Lw_digest 22 = .ok (.ireturn, 1) := by decide +kernel
theorem d_Lw_send_0 : decode b_Lw_send 0 = .ok (.aload_n 2, 1) := by decide +kernel
theorem d_Lw_send_1 : decode b_Lw_send 1 = .ok (.iconst 0, 1) := by decide +kernel
theorem d_Lw_send_2 : decode b_Lw_send 2 = .ok (.aload_n 0, 1) := by decide +kernel
theorem d_Lw_send_3 : decode b_Lw_send 3 = .ok (.iload_n 1, 1) := by decide +kernel
theorem d_Lw_send_4 : decode b_Lw_send 4 = .ok (.invokevirtual 30, 3) := by decide +kernel
theorem d_Lw_send_7 : decode b_Lw_send 7 = .ok (.i2l, 1) := by decide +kernel
theorem d_Lw_send_8 : decode b_Lw_send 8 = .ok (.lastore, 1) := by decide +kernel
theorem d_Lw_send_9 : decode b_Lw_send 9 = .ok (.goto 12, 3) := by decide +kernel
theorem d_Lw_send_12 : decode b_Lw_send 12 = .ok (.astore_n 3, 1) := by decide +kernel
theorem d_Lw_send_13 : decode b_Lw_send 13 = .ok (.iconst 1, 1) := by decide +kernel
theorem d_Lw_send_14 : decode b_Lw_send 14 = .ok (.ireturn, 1) := by decide +kernel
theorem d_Lw_send_15 : decode b_Lw_send 15 = .ok (.astore_n 3, 1) := by decide +kernel
theorem d_Lw_send_16 : decode b_Lw_send 16 = .ok (.iconst 2, 1) := by decide +kernel
theorem d_Lw_send_17 : decode b_Lw_send 17 = .ok (.ireturn, 1) := by decide +kernel
theorem d_Lw_send_18 : decode b_Lw_send 18 = .ok (.astore_n 3, 1) := by decide +kernel
theorem d_Lw_send_19 : decode b_Lw_send 19 = .ok (.iconst 3, 1) := by decide +kernel
theorem d_Lw_send_20 : decode b_Lw_send 20 = .ok (.ireturn, 1) := by decide +kernel
theorem d_Lw_send_21 : decode b_Lw_send 21 = .ok (.iconst 0, 1) := by decide +kernel
theorem d_Lw_send_22 : decode b_Lw_send 22 = .ok (.ireturn, 1) := by decide +kernel
theorem d_Lw_root_0 : decode b_Lw_root 0 = .ok (.aload_n 1, 1) := by decide +kernel
theorem d_Lw_root_1 : decode b_Lw_root 1 = .ok (.iconst 0, 1) := by decide +kernel
theorem d_Lw_root_2 : decode b_Lw_root 2 = .ok (.aload_n 0, 1) := by decide +kernel
theorem d_Lw_root_3 : decode b_Lw_root 3 = .ok (.invokevirtual 35, 3) := by decide +kernel
theorem d_Lw_root_6 : decode b_Lw_root 6 = .ok (.i2l, 1) := by decide +kernel
theorem d_Lw_root_7 : decode b_Lw_root 7 = .ok (.lastore, 1) := by decide +kernel
theorem d_Lw_root_8 : decode b_Lw_root 8 = .ok (.goto 9, 3) := by decide +kernel
theorem d_Lw_root_11 : decode b_Lw_root 11 = .ok (.astore_n 2, 1) := by decide +kernel
theorem d_Lw_root_12 : decode b_Lw_root 12 = .ok (.iconst 1, 1) := by decide +kernel
theorem d_Lw_root_13 : decode b_Lw_root 13 = .ok (.ireturn, 1) := by decide +kernel
theorem d_Lw_root_14 : decode b_Lw_root 14 = .ok (.astore_n 2, 1) := by decide +kernel
theorem d_Lw_root_15 : decode b_Lw_root 15 = .ok (.iconst 2, 1) := by decide +kernel
theorem d_Lw_root_16 : decode b_Lw_root 16 = .ok (.ireturn, 1) := by decide +kernel
theorem d_Lw_root_17 : decode b_Lw_root 17 = .ok (.iconst 0, 1) := by decide +kernel
theorem d_Lw_root_18 : decode b_Lw_root 18 = .ok (.ireturn, 1) := by decide +kernel
theorem d_Lw_packet_0 : decode b_Lw_packet 0 = .ok (.aload_n 3, 1) := by decide +kernel
theorem d_Lw_packet_1 : decode b_Lw_packet 1 = .ok (.iconst 0, 1) := by decide +kernel
theorem d_Lw_packet_2 : decode b_Lw_packet 2 = .ok (.aload_n 0, 1) := by decide +kernel
theorem d_Lw_packet_3 : decode b_Lw_packet 3 = .ok (.iload_n 1, 1) := by decide +kernel
theorem d_Lw_packet_4 : decode b_Lw_packet 4 = .ok (.iload_n 2, 1) := by decide +kernel
theorem d_Lw_packet_5 : decode b_Lw_packet 5 = .ok (.invokevirtual 39, 3) := by decide +kernel
theorem d_Lw_packet_8 : decode b_Lw_packet 8 = .ok (.i2l, 1) := by decide +kernel
theorem d_Lw_packet_9 : decode b_Lw_packet 9 = .ok (.lastore, 1) := by decide +kernel
theorem d_Lw_packet_10 : decode b_Lw_packet 10 = .ok (.goto 7, 3) := by decide +kernel
theorem d_Lw_packet_13 : decode b_Lw_packet 13 = .ok (.astore 4, 2) := by decide +kernel
theorem d_Lw_packet_15 : decode b_Lw_packet 15 = .ok (.iconst 1, 1) := by decide +kernel
theorem d_Lw_packet_16 : decode b_Lw_packet 16 = .ok (.ireturn, 1) := by decide +kernel
theorem d_Lw_packet_17 : decode b_Lw_packet 17 = .ok (.iconst 0, 1) := by decide +kernel
theorem d_Lw_packet_18 : decode b_Lw_packet 18 = .ok (.ireturn, 1) := by decide +kernel
theorem d_Lw_key_0 : decode b_Lw_key 0 = .ok (.aload_n 3, 1) := by decide +kernel
theorem d_Lw_key_1 : decode b_Lw_key 1 = .ok (.iconst 0, 1) := by decide +kernel
theorem d_Lw_key_2 : decode b_Lw_key 2 = .ok (.aload_n 0, 1) := by decide +kernel
theorem d_Lw_key_3 : decode b_Lw_key 3 = .ok (.iload_n 1, 1) := by decide +kernel
theorem d_Lw_key_4 : decode b_Lw_key 4 = .ok (.iload_n 2, 1) := by decide +kernel
theorem d_Lw_key_5 : decode b_Lw_key 5 = .ok (.invokevirtual 42, 3) := by decide +kernel
theorem d_Lw_key_8 : decode b_Lw_key 8 = .ok (.i2l, 1) := by decide +kernel
theorem d_Lw_key_9 : decode b_Lw_key 9 = .ok (.lastore, 1) := by decide +kernel
theorem d_Lw_key_10 : decode b_Lw_key 10 = .ok (.goto 11, 3) := by decide +kernel
theorem d_Lw_key_13 : decode b_Lw_key 13 = .ok (.astore 4, 2) := by decide +kernel
theorem d_Lw_key_15 : decode b_Lw_key 15 = .ok (.iconst 1, 1) := by decide +kernel
theorem d_Lw_key_16 : decode b_Lw_key 16 = .ok (.ireturn, 1) := by decide +kernel
theorem d_Lw_key_17 : decode b_Lw_key 17 = .ok (.astore 4, 2) := by decide +kernel
theorem d_Lw_key_19 : decode b_Lw_key 19 = .ok (.iconst 2, 1) := by decide +kernel
theorem d_Lw_key_20 : decode b_Lw_key 20 = .ok (.ireturn, 1) := by decide +kernel
theorem d_Lw_key_21 : decode b_Lw_key 21 = .ok (.iconst 0, 1) := by decide +kernel
theorem d_Lw_key_22 : decode b_Lw_key 22 = .ok (.ireturn, 1) := by decide +kernel
theorem d_Lw_join_0 : decode b_Lw_join 0 = .ok (.aload_n 0, 1) := by decide +kernel
theorem d_Lw_join_1 : decode b_Lw_join 1 = .ok (.iload_n 1, 1) := by decide +kernel
theorem d_Lw_join_2 : decode b_Lw_join 2 = .ok (.iload_n 2, 1) := by decide +kernel
theorem d_Lw_join_3 : decode b_Lw_join 3 = .ok (.invokevirtual 45, 3) := by decide +kernel
theorem d_Lw_join_6 : decode b_Lw_join 6 = .ok (.goto 9, 3) := by decide +kernel
theorem d_Lw_join_9 : decode b_Lw_join 9 = .ok (.astore_n 3, 1) := by decide +kernel
theorem d_Lw_join_10 : decode b_Lw_join 10 = .ok (.iconst 1, 1) := by decide +kernel
theorem d_Lw_join_11 : decode b_Lw_join 11 = .ok (.ireturn, 1) := by decide +kernel
theorem d_Lw_join_12 : decode b_Lw_join 12 = .ok (.astore_n 3, 1) := by decide +kernel
theorem d_Lw_join_13 : decode b_Lw_join 13 = .ok (.iconst 2, 1) := by decide +kernel
theorem d_Lw_join_14 : decode b_Lw_join 14 = .ok (.ireturn, 1) := by decide +kernel
theorem d_Lw_join_15 : decode b_Lw_join 15 = .ok (.iconst 0, 1) := by decide +kernel
theorem d_Lw_join_16 : decode b_Lw_join 16 = .ok (.ireturn, 1) := by decide +kernel
theorem d_Lw_drift_0 : decode b_Lw_drift 0 = .ok (.aload_n 3, 1) := by decide +kernel
theorem d_Lw_drift_1 : decode b_Lw_drift 1 = .ok (.iconst 0, 1) := by decide +kernel
theorem d_Lw_drift_2 : decode b_Lw_drift 2 = .ok (.aload_n 0, 1) := by decide +kernel
theorem d_Lw_drift_3 : decode b_Lw_drift 3 = .ok (.iload_n 1, 1) := by decide +kernel
theorem d_Lw_drift_4 : decode b_Lw_drift 4 = .ok (.iload_n 2, 1) := by decide +kernel
theorem d_Lw_drift_5 : decode b_Lw_drift 5 = .ok (.invokevirtual 49, 3) := by decide +kernel
theorem d_Lw_drift_8 : decode b_Lw_drift 8 = .ok (.i2l, 1) := by decide +kernel
theorem d_Lw_drift_9 : decode b_Lw_drift 9 = .ok (.lastore, 1) := by decide +kernel
theorem d_Lw_drift_10 : decode b_Lw_drift 10 = .ok (.goto 11, 3) := by decide +kernel
theorem d_Lw_drift_13 : decode b_Lw_drift 13 = .ok (.astore 4, 2) := by decide +kernel
theorem d_Lw_drift_15 : decode b_Lw_drift 15 = .ok (.iconst 1, 1) := by decide +kernel
theorem d_Lw_drift_16 : decode b_Lw_drift 16 = .ok (.ireturn, 1) := by decide +kernel
theorem d_Lw_drift_17 : decode b_Lw_drift 17 = .ok (.astore 4, 2) := by decide +kernel
theorem d_Lw_drift_19 : decode b_Lw_drift 19 = .ok (.iconst 2, 1) := by decide +kernel
theorem d_Lw_drift_20 : decode b_Lw_drift 20 = .ok (.ireturn, 1) := by decide +kernel
theorem d_Lw_drift_21 : decode b_Lw_drift 21 = .ok (.iconst 0, 1) := by decide +kernel
theorem d_Lw_drift_22 : decode b_Lw_drift 22 = .ok (.ireturn, 1) := by decide +kernel
theorem d_Lw_arrive_0 : decode b_Lw_arrive 0 = .ok (.aload 5, 2) := by decide +kernel
theorem d_Lw_arrive_2 : decode b_Lw_arrive 2 = .ok (.iconst 0, 1) := by decide +kernel
theorem d_Lw_arrive_3 : decode b_Lw_arrive 3 = .ok (.aload_n 0, 1) := by decide +kernel
theorem d_Lw_arrive_4 : decode b_Lw_arrive 4 = .ok (.iload_n 1, 1) := by decide +kernel
theorem d_Lw_arrive_5 : decode b_Lw_arrive 5 = .ok (.iload_n 2, 1) := by decide +kernel
theorem d_Lw_arrive_6 : decode b_Lw_arrive 6 = .ok (.iload_n 3, 1) := by decide +kernel
theorem d_Lw_arrive_7 : decode b_Lw_arrive 7 = .ok (.iload 4, 2) := by decide +kernel
theorem d_Lw_arrive_9 : decode b_Lw_arrive 9 = .ok (.invokevirtual 52, 3) := by decide +kernel
theorem d_Lw_arrive_12 : decode b_Lw_arrive 12 = .ok (.i2l, 1) := by decide +kernel
theorem d_Lw_arrive_13 : decode b_Lw_arrive 13 = .ok (.lastore, 1) := by decide +kernel
theorem d_Lw_arrive_14 : decode b_Lw_arrive 14 = .ok (.goto 11, 3) := by decide +kernel
theorem d_Lw_arrive_17 : decode b_Lw_arrive 17 = .ok (.astore 6, 2) := by decide +kernel
theorem d_Lw_arrive_19 : decode b_Lw_arrive 19 = .ok (.iconst 1, 1) := by decide +kernel
theorem d_Lw_arrive_20 : decode b_Lw_arrive 20 = .ok (.ireturn, 1) := by decide +kernel
theorem d_Lw_arrive_21 : decode b_Lw_arrive 21 = .ok (.astore 6, 2) := by decide +kernel
theorem d_Lw_arrive_23 : decode b_Lw_arrive 23 = .ok (.iconst 2, 1) := by decide +kernel
theorem d_Lw_arrive_24 : decode b_Lw_arrive 24 = .ok (.ireturn, 1) := by decide +kernel
theorem d_Lw_arrive_25 : decode b_Lw_arrive 25 = .ok (.iconst 0, 1) := by decide +kernel
theorem d_Lw_arrive_26 : decode b_Lw_arrive 26 = .ok (.ireturn, 1) := by decide +kernel
theorem d_Lw_receiver_0 : decode b_Lw_receiver 0 = .ok (.aload_n 3, 1) := by decide +kernel
theorem d_Lw_receiver_1 : decode b_Lw_receiver 1 = .ok (.iconst 0, 1) := by decide +kernel
theorem d_Lw_receiver_2 : decode b_Lw_receiver 2 = .ok (.aload_n 0, 1) := by decide +kernel
theorem d_Lw_receiver_3 : decode b_Lw_receiver 3 = .ok (.iload_n 1, 1) := by decide +kernel
theorem d_Lw_receiver_4 : decode b_Lw_receiver 4 = .ok (.iload_n 2, 1) := by decide +kernel
theorem d_Lw_receiver_5 : decode b_Lw_receiver 5 = .ok (.invokevirtual 56, 3) := by decide +kernel
theorem d_Lw_receiver_8 : decode b_Lw_receiver 8 = .ok (.i2l, 1) := by decide +kernel
theorem d_Lw_receiver_9 : decode b_Lw_receiver 9 = .ok (.lastore, 1) := by decide +kernel
theorem d_Lw_receiver_10 : decode b_Lw_receiver 10 = .ok (.goto 7, 3) := by decide +kernel
theorem d_Lw_receiver_13 : decode b_Lw_receiver 13 = .ok (.astore 4, 2) := by decide +kernel
theorem d_Lw_receiver_15 : decode b_Lw_receiver 15 = .ok (.iconst 1, 1) := by decide +kernel
theorem d_Lw_receiver_16 : decode b_Lw_receiver 16 = .ok (.ireturn, 1) := by decide +kernel
theorem d_Lw_receiver_17 : decode b_Lw_receiver 17 = .ok (.iconst 0, 1) := by decide +kernel
theorem d_Lw_receiver_18 : decode b_Lw_receiver 18 = .ok (.ireturn, 1) := by decide +kernel
theorem d_Lw_released_0 : decode b_Lw_released 0 = .ok (.aload 4, 2) := by decide +kernel
theorem d_Lw_released_2 : decode b_Lw_released 2 = .ok (.iconst 0, 1) := by decide +kernel
theorem d_Lw_released_3 : decode b_Lw_released 3 = .ok (.aload_n 0, 1) := by decide +kernel
theorem d_Lw_released_4 : decode b_Lw_released 4 = .ok (.iload_n 1, 1) := by decide +kernel
theorem d_Lw_released_5 : decode b_Lw_released 5 = .ok (.iload_n 2, 1) := by decide +kernel
theorem d_Lw_released_6 : decode b_Lw_released 6 = .ok (.iload_n 3, 1) := by decide +kernel
theorem d_Lw_released_7 : decode b_Lw_released 7 = .ok (.invokevirtual 59, 3) := by decide +kernel
theorem d_Lw_released_10 : decode b_Lw_released 10 = .ok (.i2l, 1) := by decide +kernel
theorem d_Lw_released_11 : decode b_Lw_released 11 = .ok (.lastore, 1) := by decide +kernel
theorem d_Lw_released_12 : decode b_Lw_released 12 = .ok (.goto 7, 3) := by decide +kernel
theorem d_Lw_released_15 : decode b_Lw_released 15 = .ok (.astore 5, 2) := by decide +kernel
theorem d_Lw_released_17 : decode b_Lw_released 17 = .ok (.iconst 1, 1) := by decide +kernel
theorem d_Lw_released_18 : decode b_Lw_released 18 = .ok (.ireturn, 1) := by decide +kernel
theorem d_Lw_released_19 : decode b_Lw_released 19 = .ok (.iconst 0, 1) := by decide +kernel
theorem d_Lw_released_20 : decode b_Lw_released 20 = .ok (.ireturn, 1) := by decide +kernel
theorem d_Lw_releasedByte_0 : decode b_Lw_releasedByte 0 = .ok (.aload 4, 2) := by decide +kernel
theorem d_Lw_releasedByte_2 : decode b_Lw_releasedByte 2 = .ok (.iconst 0, 1) := by decide +kernel
theorem d_Lw_releasedByte_3 : decode b_Lw_releasedByte 3 = .ok (.aload_n 0, 1) := by decide +kernel
theorem d_Lw_releasedByte_4 : decode b_Lw_releasedByte 4 = .ok (.iload_n 1, 1) := by decide +kernel
theorem d_Lw_releasedByte_5 : decode b_Lw_releasedByte 5 = .ok (.iload_n 2, 1) := by decide +kernel
theorem d_Lw_releasedByte_6 : decode b_Lw_releasedByte 6 = .ok (.iload_n 3, 1) := by decide +kernel
theorem d_Lw_releasedByte_7 : decode b_Lw_releasedByte 7 = .ok (.invokevirtual 63, 3) := by decide +kernel
theorem d_Lw_releasedByte_10 : decode b_Lw_releasedByte 10 = .ok (.i2l, 1) := by decide +kernel
theorem d_Lw_releasedByte_11 : decode b_Lw_releasedByte 11 = .ok (.lastore, 1) := by decide +kernel
theorem d_Lw_releasedByte_12 : decode b_Lw_releasedByte 12 = .ok (.goto 7, 3) := by decide +kernel
theorem d_Lw_releasedByte_15 : decode b_Lw_releasedByte 15 = .ok (.astore 5, 2) := by decide +kernel
theorem d_Lw_releasedByte_17 : decode b_Lw_releasedByte 17 = .ok (.iconst 1, 1) := by decide +kernel
theorem d_Lw_releasedByte_18 : decode b_Lw_releasedByte 18 = .ok (.ireturn, 1) := by decide +kernel
theorem d_Lw_releasedByte_19 : decode b_Lw_releasedByte 19 = .ok (.iconst 0, 1) := by decide +kernel
theorem d_Lw_releasedByte_20 : decode b_Lw_releasedByte 20 = .ok (.ireturn, 1) := by decide +kernel
