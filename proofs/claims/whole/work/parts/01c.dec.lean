theorem dX11_startAnew_46 : decode cX11_startAnew 46 = .ok (.aload_n 0, 1) := by decide +kernel
theorem dX11_startAnew_47 : decode cX11_startAnew 47 = .ok (.getfield 19, 3) := by decide +kernel
theorem dX11_startAnew_50 : decode cX11_startAnew 50 = .ok (.invokevirtual 139, 3) := by decide +kernel
theorem dX11_startAnew_53 : decode cX11_startAnew 53 = .ok (.aload_n 0, 1) := by decide +kernel
theorem dX11_startAnew_54 : decode cX11_startAnew 54 = .ok (.getfield 77, 3) := by decide +kernel
theorem dX11_startAnew_57 : decode cX11_startAnew 57 = .ok (.aload_n 0, 1) := by decide +kernel
theorem dX11_startAnew_58 : decode cX11_startAnew 58 = .ok (.getfield 19, 3) := by decide +kernel
theorem dX11_startAnew_61 : decode cX11_startAnew 61 = .ok (.invokevirtual 141, 3) := by decide +kernel
theorem dX11_startAnew_64 : decode cX11_startAnew 64 = .ok (.return_, 1) := by decide +kernel
theorem dX11_fault_0 : decode cX11_fault 0 = .ok (.aload_n 0, 1) := by decide +kernel
theorem dX11_fault_1 : decode cX11_fault 1 = .ok (.getfield 85, 3) := by decide +kernel
theorem dX11_fault_4 : decode cX11_fault 4 = .ok (.ireturn, 1) := by decide +kernel
theorem dX11_where_0 : decode cX11_where 0 = .ok (.aload_n 0, 1) := by decide +kernel
theorem dX11_where_1 : decode cX11_where 1 = .ok (.getfield 81, 3) := by decide +kernel
theorem dX11_where_4 : decode cX11_where 4 = .ok (.iconst 4, 1) := by decide +kernel
theorem dX11_where_5 : decode cX11_where 5 = .ok (.if_icmp .ne 10, 3) := by decide +kernel
theorem dX11_where_8 : decode cX11_where 8 = .ok (.aload_n 0, 1) := by decide +kernel
theorem dX11_where_9 : decode cX11_where 9 = .ok (.getfield 88, 3) := by decide +kernel
theorem dX11_where_12 : decode cX11_where 12 = .ok (.goto 4, 3) := by decide +kernel
theorem dX11_where_15 : decode cX11_where 15 = .ok (.iconst (-1), 1) := by decide +kernel
theorem dX11_where_16 : decode cX11_where 16 = .ok (.ireturn, 1) := by decide +kernel
theorem dX11_refuse_0 : decode cX11_refuse 0 = .ok (.aload_n 0, 1) := by decide +kernel
theorem dX11_refuse_1 : decode cX11_refuse 1 = .ok (.iload_n 1, 1) := by decide +kernel
theorem dX11_refuse_2 : decode cX11_refuse 2 = .ok (.putfield 81, 3) := by decide +kernel
theorem dX11_refuse_5 : decode cX11_refuse 5 = .ok (.iconst (-1), 1) := by decide +kernel
theorem dX11_refuse_6 : decode cX11_refuse 6 = .ok (.ireturn, 1) := by decide +kernel
theorem dX11_fine_0 : decode cX11_fine 0 = .ok (.aload_n 0, 1) := by decide +kernel
theorem dX11_fine_1 : decode cX11_fine 1 = .ok (.iconst 0, 1) := by decide +kernel
theorem dX11_fine_2 : decode cX11_fine 2 = .ok (.putfield 81, 3) := by decide +kernel
theorem dX11_fine_5 : decode cX11_fine 5 = .ok (.iload_n 1, 1) := by decide +kernel
theorem dX11_fine_6 : decode cX11_fine 6 = .ok (.ireturn, 1) := by decide +kernel
theorem dX11_fineIf_0 : decode cX11_fineIf 0 = .ok (.aload_n 0, 1) := by decide +kernel
theorem dX11_fineIf_1 : decode cX11_fineIf 1 = .ok (.iload_n 1, 1) := by decide +kernel
theorem dX11_fineIf_2 : decode cX11_fineIf 2 = .ok (.ifCond .eq 7, 3) := by decide +kernel
theorem dX11_fineIf_5 : decode cX11_fineIf 5 = .ok (.iconst 1, 1) := by decide +kernel
theorem dX11_fineIf_6 : decode cX11_fineIf 6 = .ok (.goto 4, 3) := by decide +kernel
theorem dX11_fineIf_9 : decode cX11_fineIf 9 = .ok (.iconst 0, 1) := by decide +kernel
theorem dX11_fineIf_10 : decode cX11_fineIf 10 = .ok (.invokevirtual 119, 3) := by decide +kernel
theorem dX11_fineIf_13 : decode cX11_fineIf 13 = .ok (.ireturn, 1) := by decide +kernel
theorem dX11_denied_0 : decode cX11_denied 0 = .ok (.aload_n 0, 1) := by decide +kernel
theorem dX11_denied_1 : decode cX11_denied 1 = .ok (.iload_n 1, 1) := by decide +kernel
theorem dX11_denied_2 : decode cX11_denied 2 = .ok (.putfield 81, 3) := by decide +kernel
theorem dX11_denied_5 : decode cX11_denied 5 = .ok (.iconst 0, 1) := by decide +kernel
theorem dX11_denied_6 : decode cX11_denied 6 = .ok (.ireturn, 1) := by decide +kernel
theorem dX11_noPiece_0 : decode cX11_noPiece 0 = .ok (.aload_n 0, 1) := by decide +kernel
theorem dX11_noPiece_1 : decode cX11_noPiece 1 = .ok (.getfield 19, 3) := by decide +kernel
theorem dX11_noPiece_4 : decode cX11_noPiece 4 = .ok (.getfield 142, 3) := by decide +kernel
theorem dX11_noPiece_7 : decode cX11_noPiece 7 = .ok (.ifCond .ne 7, 3) := by decide +kernel
theorem dX11_noPiece_10 : decode cX11_noPiece 10 = .ok (.iconst 1, 1) := by decide +kernel
theorem dX11_noPiece_11 : decode cX11_noPiece 11 = .ok (.goto 4, 3) := by decide +kernel
theorem dX11_noPiece_14 : decode cX11_noPiece 14 = .ok (.iconst 0, 1) := by decide +kernel
theorem dX11_noPiece_15 : decode cX11_noPiece 15 = .ok (.ireturn, 1) := by decide +kernel
theorem dX11_isPart_0 : decode cX11_isPart 0 = .ok (.iload_n 1, 1) := by decide +kernel
theorem dX11_isPart_1 : decode cX11_isPart 1 = .ok (.ifCond .lt 18, 3) := by decide +kernel
theorem dX11_isPart_4 : decode cX11_isPart 4 = .ok (.iload_n 1, 1) := by decide +kernel
theorem dX11_isPart_5 : decode cX11_isPart 5 = .ok (.aload_n 0, 1) := by decide +kernel
theorem dX11_isPart_6 : decode cX11_isPart 6 = .ok (.getfield 19, 3) := by decide +kernel
theorem dX11_isPart_9 : decode cX11_isPart 9 = .ok (.getfield 142, 3) := by decide +kernel
theorem dX11_isPart_12 : decode cX11_isPart 12 = .ok (.if_icmp .ge 7, 3) := by decide +kernel
theorem dX11_isPart_15 : decode cX11_isPart 15 = .ok (.iconst 1, 1) := by decide +kernel
theorem dX11_isPart_16 : decode cX11_isPart 16 = .ok (.goto 4, 3) := by decide +kernel
theorem dX11_isPart_19 : decode cX11_isPart 19 = .ok (.iconst 0, 1) := by decide +kernel
theorem dX11_isPart_20 : decode cX11_isPart 20 = .ok (.ireturn, 1) := by decide +kernel
theorem dX11_isScene_0 : decode cX11_isScene 0 = .ok (.iload_n 1, 1) := by decide +kernel
theorem dX11_isScene_1 : decode cX11_isScene 1 = .ok (.ifCond .lt 18, 3) := by decide +kernel
theorem dX11_isScene_4 : decode cX11_isScene 4 = .ok (.iload_n 1, 1) := by decide +kernel
theorem dX11_isScene_5 : decode cX11_isScene 5 = .ok (.aload_n 0, 1) := by decide +kernel
theorem dX11_isScene_6 : decode cX11_isScene 6 = .ok (.getfield 19, 3) := by decide +kernel
theorem dX11_isScene_9 : decode cX11_isScene 9 = .ok (.getfield 145, 3) := by decide +kernel
theorem dX11_isScene_12 : decode cX11_isScene 12 = .ok (.if_icmp .ge 7, 3) := by decide +kernel
theorem dX11_isScene_15 : decode cX11_isScene 15 = .ok (.iconst 1, 1) := by decide +kernel
theorem dX11_isScene_16 : decode cX11_isScene 16 = .ok (.goto 4, 3) := by decide +kernel
theorem dX11_isScene_19 : decode cX11_isScene 19 = .ok (.iconst 0, 1) := by decide +kernel
theorem dX11_isScene_20 : decode cX11_isScene 20 = .ok (.ireturn, 1) := by decide +kernel
theorem dX11_isOn_0 : decode cX11_isOn 0 = .ok (.iload_n 1, 1) := by decide +kernel
theorem dX11_isOn_1 : decode cX11_isOn 1 = .ok (.ifCond .lt 18, 3) := by decide +kernel
theorem dX11_isOn_4 : decode cX11_isOn 4 = .ok (.iload_n 1, 1) := by decide +kernel
theorem dX11_isOn_5 : decode cX11_isOn 5 = .ok (.aload_n 0, 1) := by decide +kernel
theorem dX11_isOn_6 : decode cX11_isOn 6 = .ok (.getfield 19, 3) := by decide +kernel
theorem dX11_isOn_9 : decode cX11_isOn 9 = .ok (.getfield 116, 3) := by decide +kernel
theorem dX11_isOn_12 : decode cX11_isOn 12 = .ok (.if_icmp .ge 7, 3) := by decide +kernel
theorem dX11_isOn_15 : decode cX11_isOn 15 = .ok (.iconst 1, 1) := by decide +kernel
theorem dX11_isOn_16 : decode cX11_isOn 16 = .ok (.goto 4, 3) := by decide +kernel
theorem dX11_isOn_19 : decode cX11_isOn 19 = .ok (.iconst 0, 1) := by decide +kernel
theorem dX11_isOn_20 : decode cX11_isOn 20 = .ok (.ireturn, 1) := by decide +kernel
theorem dX11_isSaw_0 : decode cX11_isSaw 0 = .ok (.iload_n 1, 1) := by decide +kernel
theorem dX11_isSaw_1 : decode cX11_isSaw 1 = .ok (.ifCond .lt 18, 3) := by decide +kernel
theorem dX11_isSaw_4 : decode cX11_isSaw 4 = .ok (.iload_n 1, 1) := by decide +kernel
theorem dX11_isSaw_5 : decode cX11_isSaw 5 = .ok (.aload_n 0, 1) := by decide +kernel
theorem dX11_isSaw_6 : decode cX11_isSaw 6 = .ok (.getfield 19, 3) := by decide +kernel
theorem dX11_isSaw_9 : decode cX11_isSaw 9 = .ok (.getfield 148, 3) := by decide +kernel
theorem dX11_isSaw_12 : decode cX11_isSaw 12 = .ok (.if_icmp .ge 7, 3) := by decide +kernel
theorem dX11_isSaw_15 : decode cX11_isSaw 15 = .ok (.iconst 1, 1) := by decide +kernel
theorem dX11_isSaw_16 : decode cX11_isSaw 16 = .ok (.goto 4, 3) := by decide +kernel
theorem dX11_isSaw_19 : decode cX11_isSaw 19 = .ok (.iconst 0, 1) := by decide +kernel
theorem dX11_isSaw_20 : decode cX11_isSaw 20 = .ok (.ireturn, 1) := by decide +kernel
theorem dX11_isPlayer_0 : decode cX11_isPlayer 0 = .ok (.aload_n 0, 1) := by decide +kernel
theorem dX11_isPlayer_1 : decode cX11_isPlayer 1 = .ok (.invokevirtual 151, 3) := by decide +kernel
theorem dX11_isPlayer_4 : decode cX11_isPlayer 4 = .ok (.ifCond .ne 17, 3) := by decide +kernel
theorem dX11_isPlayer_7 : decode cX11_isPlayer 7 = .ok (.iload_n 1, 1) := by decide +kernel
theorem dX11_isPlayer_8 : decode cX11_isPlayer 8 = .ok (.ifCond .lt 13, 3) := by decide +kernel
theorem dX11_isPlayer_11 : decode cX11_isPlayer 11 = .ok (.iload_n 1, 1) := by decide +kernel
theorem dX11_isPlayer_12 : decode cX11_isPlayer 12 = .ok (.bipush 7, 2) := by decide +kernel
theorem dX11_isPlayer_14 : decode cX11_isPlayer 14 = .ok (.if_icmp .ge 7, 3) := by decide +kernel
theorem dX11_isPlayer_17 : decode cX11_isPlayer 17 = .ok (.iconst 1, 1) := by decide +kernel
theorem dX11_isPlayer_18 : decode cX11_isPlayer 18 = .ok (.goto 4, 3) := by decide +kernel
theorem dX11_isPlayer_21 : decode cX11_isPlayer 21 = .ok (.iconst 0, 1) := by decide +kernel
theorem dX11_isPlayer_22 : decode cX11_isPlayer 22 = .ok (.ireturn, 1) := by decide +kernel
theorem dX11_tonight_0 : decode cX11_tonight 0 = .ok (.aload_n 0, 1) := by decide +kernel
theorem dX11_tonight_1 : decode cX11_tonight 1 = .ok (.getfield 54, 3) := by decide +kernel
theorem dX11_tonight_4 : decode cX11_tonight 4 = .ok (.aload_n 0, 1) := by decide +kernel
theorem dX11_tonight_5 : decode cX11_tonight 5 = .ok (.getfield 38, 3) := by decide +kernel
theorem dX11_tonight_8 : decode cX11_tonight 8 = .ok (.getfield 155, 3) := by decide +kernel
theorem dX11_tonight_11 : decode cX11_tonight 11 = .ok (.aload_n 0, 1) := by decide +kernel
theorem dX11_tonight_12 : decode cX11_tonight 12 = .ok (.getfield 19, 3) := by decide +kernel
theorem dX11_tonight_15 : decode cX11_tonight 15 = .ok (.getfield 158, 3) := by decide +kernel
theorem dX11_tonight_18 : decode cX11_tonight 18 = .ok (.aload_n 0, 1) := by decide +kernel
theorem dX11_tonight_19 : decode cX11_tonight 19 = .ok (.getfield 38, 3) := by decide +kernel
theorem dX11_tonight_22 : decode cX11_tonight 22 = .ok (.getfield 161, 3) := by decide +kernel
theorem dX11_tonight_25 : decode cX11_tonight 25 = .ok (.invokevirtual 164, 3) := by decide +kernel
theorem dX11_tonight_28 : decode cX11_tonight 28 = .ok (.aload_n 0, 1) := by decide +kernel
theorem dX11_tonight_29 : decode cX11_tonight 29 = .ok (.getfield 54, 3) := by decide +kernel
theorem dX11_tonight_32 : decode cX11_tonight 32 = .ok (.areturn, 1) := by decide +kernel
theorem dX11_onsOf_0 : decode cX11_onsOf 0 = .ok (.aload_n 0, 1) := by decide +kernel
theorem dX11_onsOf_1 : decode cX11_onsOf 1 = .ok (.getfield 19, 3) := by decide +kernel
theorem dX11_onsOf_4 : decode cX11_onsOf 4 = .ok (.aload_n 0, 1) := by decide +kernel
theorem dX11_onsOf_5 : decode cX11_onsOf 5 = .ok (.getfield 38, 3) := by decide +kernel
theorem dX11_onsOf_8 : decode cX11_onsOf 8 = .ok (.iload_n 1, 1) := by decide +kernel
theorem dX11_onsOf_9 : decode cX11_onsOf 9 = .ok (.aload_n 0, 1) := by decide +kernel
theorem dX11_onsOf_10 : decode cX11_onsOf 10 = .ok (.getfield 19, 3) := by decide +kernel
theorem dX11_onsOf_13 : decode cX11_onsOf 13 = .ok (.getfield 142, 3) := by decide +kernel
theorem dX11_onsOf_16 : decode cX11_onsOf 16 = .ok (.invokevirtual 168, 3) := by decide +kernel
theorem dX11_onsOf_19 : decode cX11_onsOf 19 = .ok (.invokevirtual 172, 3) := by decide +kernel
theorem dX11_onsOf_22 : decode cX11_onsOf 22 = .ok (.aload_n 0, 1) := by decide +kernel
theorem dX11_onsOf_23 : decode cX11_onsOf 23 = .ok (.getfield 38, 3) := by decide +kernel
theorem dX11_onsOf_26 : decode cX11_onsOf 26 = .ok (.getfield 161, 3) := by decide +kernel
theorem dX11_onsOf_29 : decode cX11_onsOf 29 = .ok (.iconst (-1), 1) := by decide +kernel
theorem dX11_onsOf_30 : decode cX11_onsOf 30 = .ok (.ixor, 1) := by decide +kernel
theorem dX11_onsOf_31 : decode cX11_onsOf 31 = .ok (.iand, 1) := by decide +kernel
theorem dX11_onsOf_32 : decode cX11_onsOf 32 = .ok (.ireturn, 1) := by decide +kernel
theorem dX11_orders_0 : decode cX11_orders 0 = .ok (.aload_n 0, 1) := by decide +kernel
theorem dX11_orders_1 : decode cX11_orders 1 = .ok (.invokevirtual 151, 3) := by decide +kernel
theorem dX11_orders_4 : decode cX11_orders 4 = .ok (.ifCond .eq 11, 3) := by decide +kernel
theorem dX11_orders_7 : decode cX11_orders 7 = .ok (.aload_n 0, 1) := by decide +kernel
theorem dX11_orders_8 : decode cX11_orders 8 = .ok (.iconst 1, 1) := by decide +kernel
theorem dX11_orders_9 : decode cX11_orders 9 = .ok (.invokevirtual 102, 3) := by decide +kernel
theorem dX11_orders_12 : decode cX11_orders 12 = .ok (.goto 14, 3) := by decide +kernel
theorem dX11_orders_15 : decode cX11_orders 15 = .ok (.aload_n 0, 1) := by decide +kernel
theorem dX11_orders_16 : decode cX11_orders 16 = .ok (.aload_n 0, 1) := by decide +kernel
theorem dX11_orders_17 : decode cX11_orders 17 = .ok (.getfield 19, 3) := by decide +kernel
theorem dX11_orders_20 : decode cX11_orders 20 = .ok (.getfield 175, 3) := by decide +kernel
theorem dX11_orders_23 : decode cX11_orders 23 = .ok (.invokevirtual 119, 3) := by decide +kernel
theorem dX11_orders_26 : decode cX11_orders 26 = .ok (.ireturn, 1) := by decide +kernel
theorem dX11_scene_0 : decode cX11_scene 0 = .ok (.aload_n 0, 1) := by decide +kernel
theorem dX11_scene_1 : decode cX11_scene 1 = .ok (.iload_n 1, 1) := by decide +kernel
theorem dX11_scene_2 : decode cX11_scene 2 = .ok (.invokevirtual 178, 3) := by decide +kernel
theorem dX11_scene_5 : decode cX11_scene 5 = .ok (.ifCond .eq 21, 3) := by decide +kernel
theorem dX11_scene_8 : decode cX11_scene 8 = .ok (.aload_n 0, 1) := by decide +kernel
theorem dX11_scene_9 : decode cX11_scene 9 = .ok (.aload_n 0, 1) := by decide +kernel
theorem dX11_scene_10 : decode cX11_scene 10 = .ok (.getfield 38, 3) := by decide +kernel
theorem dX11_scene_13 : decode cX11_scene 13 = .ok (.getfield 155, 3) := by decide +kernel
theorem dX11_scene_16 : decode cX11_scene 16 = .ok (.iload_n 1, 1) := by decide +kernel
theorem dX11_scene_17 : decode cX11_scene 17 = .ok (.invokestatic 181, 3) := by decide +kernel
theorem dX11_scene_20 : decode cX11_scene 20 = .ok (.invokevirtual 119, 3) := by decide +kernel
theorem dX11_scene_23 : decode cX11_scene 23 = .ok (.goto 8, 3) := by decide +kernel
theorem dX11_scene_26 : decode cX11_scene 26 = .ok (.aload_n 0, 1) := by decide +kernel
theorem dX11_scene_27 : decode cX11_scene 27 = .ok (.iconst 1, 1) := by decide +kernel
theorem dX11_scene_28 : decode cX11_scene 28 = .ok (.invokevirtual 102, 3) := by decide +kernel
theorem dX11_scene_31 : decode cX11_scene 31 = .ok (.ireturn, 1) := by decide +kernel
theorem dX11_begins_0 : decode cX11_begins 0 = .ok (.aload_n 0, 1) := by decide +kernel
theorem dX11_begins_1 : decode cX11_begins 1 = .ok (.iload_n 1, 1) := by decide +kernel
theorem dX11_begins_2 : decode cX11_begins 2 = .ok (.invokevirtual 178, 3) := by decide +kernel
theorem dX11_begins_5 : decode cX11_begins 5 = .ok (.ifCond .ne 9, 3) := by decide +kernel
theorem dX11_begins_8 : decode cX11_begins 8 = .ok (.aload_n 0, 1) := by decide +kernel
theorem dX11_begins_9 : decode cX11_begins 9 = .ok (.iconst 1, 1) := by decide +kernel
theorem dX11_begins_10 : decode cX11_begins 10 = .ok (.invokevirtual 102, 3) := by decide +kernel
theorem dX11_begins_13 : decode cX11_begins 13 = .ok (.ireturn, 1) := by decide +kernel
theorem dX11_begins_14 : decode cX11_begins 14 = .ok (.aload_n 0, 1) := by decide +kernel
theorem dX11_begins_15 : decode cX11_begins 15 = .ok (.invokevirtual 184, 3) := by decide +kernel
theorem dX11_begins_18 : decode cX11_begins 18 = .ok (.getfield 188, 3) := by decide +kernel
theorem dX11_begins_21 : decode cX11_begins 21 = .ok (.iload_n 1, 1) := by decide +kernel
theorem dX11_begins_22 : decode cX11_begins 22 = .ok (.iaload, 1) := by decide +kernel
theorem dX11_begins_23 : decode cX11_begins 23 = .ok (.istore_n 3, 1) := by decide +kernel
theorem dX11_begins_24 : decode cX11_begins 24 = .ok (.aload_n 0, 1) := by decide +kernel
theorem dX11_begins_25 : decode cX11_begins 25 = .ok (.iload_n 2, 1) := by decide +kernel
theorem dX11_begins_26 : decode cX11_begins 26 = .ok (.ifCond .eq 17, 3) := by decide +kernel
theorem dX11_begins_29 : decode cX11_begins 29 = .ok (.iload_n 3, 1) := by decide +kernel
theorem dX11_begins_30 : decode cX11_begins 30 = .ok (.aload_n 0, 1) := by decide +kernel
theorem dX11_begins_31 : decode cX11_begins 31 = .ok (.getfield 19, 3) := by decide +kernel
theorem dX11_begins_34 : decode cX11_begins 34 = .ok (.getfield 191, 3) := by decide +kernel
theorem dX11_begins_37 : decode cX11_begins 37 = .ok (.iload_n 1, 1) := by decide +kernel
theorem dX11_begins_38 : decode cX11_begins 38 = .ok (.iaload, 1) := by decide +kernel
theorem dX11_begins_39 : decode cX11_begins 39 = .ok (.iadd, 1) := by decide +kernel
theorem dX11_begins_40 : decode cX11_begins 40 = .ok (.goto 4, 3) := by decide +kernel
theorem dX11_begins_43 : decode cX11_begins 43 = .ok (.iload_n 3, 1) := by decide +kernel
theorem dX11_begins_44 : decode cX11_begins 44 = .ok (.invokevirtual 119, 3) := by decide +kernel
theorem dX11_begins_47 : decode cX11_begins 47 = .ok (.ireturn, 1) := by decide +kernel
theorem dX11_seen_0 : decode cX11_seen 0 = .ok (.aload_n 0, 1) := by decide +kernel
theorem dX11_seen_1 : decode cX11_seen 1 = .ok (.iload_n 1, 1) := by decide +kernel
theorem dX11_seen_2 : decode cX11_seen 2 = .ok (.invokevirtual 194, 3) := by decide +kernel
theorem dX11_seen_5 : decode cX11_seen 5 = .ok (.ifCond .ne 9, 3) := by decide +kernel
theorem dX11_seen_8 : decode cX11_seen 8 = .ok (.aload_n 0, 1) := by decide +kernel
theorem dX11_seen_9 : decode cX11_seen 9 = .ok (.iconst 1, 1) := by decide +kernel
theorem dX11_seen_10 : decode cX11_seen 10 = .ok (.invokevirtual 102, 3) := by decide +kernel
theorem dX11_seen_13 : decode cX11_seen 13 = .ok (.ireturn, 1) := by decide +kernel
theorem dX11_seen_14 : decode cX11_seen 14 = .ok (.aload_n 0, 1) := by decide +kernel
theorem dX11_seen_15 : decode cX11_seen 15 = .ok (.invokevirtual 184, 3) := by decide +kernel
theorem dX11_seen_18 : decode cX11_seen 18 = .ok (.astore_n 3, 1) := by decide +kernel
theorem dX11_seen_19 : decode cX11_seen 19 = .ok (.aload_n 0, 1) := by decide +kernel
theorem dX11_seen_20 : decode cX11_seen 20 = .ok (.iload_n 2, 1) := by decide +kernel
theorem dX11_seen_21 : decode cX11_seen 21 = .ok (.ifCond .eq 12, 3) := by decide +kernel
theorem dX11_seen_24 : decode cX11_seen 24 = .ok (.aload_n 3, 1) := by decide +kernel
theorem dX11_seen_25 : decode cX11_seen 25 = .ok (.getfield 197, 3) := by decide +kernel
theorem dX11_seen_28 : decode cX11_seen 28 = .ok (.iload_n 1, 1) := by decide +kernel
theorem dX11_seen_29 : decode cX11_seen 29 = .ok (.iaload, 1) := by decide +kernel
theorem dX11_seen_30 : decode cX11_seen 30 = .ok (.goto 9, 3) := by decide +kernel
theorem dX11_seen_33 : decode cX11_seen 33 = .ok (.aload_n 3, 1) := by decide +kernel
theorem dX11_seen_34 : decode cX11_seen 34 = .ok (.getfield 200, 3) := by decide +kernel
theorem dX11_seen_37 : decode cX11_seen 37 = .ok (.iload_n 1, 1) := by decide +kernel
theorem dX11_seen_38 : decode cX11_seen 38 = .ok (.iaload, 1) := by decide +kernel
theorem dX11_seen_39 : decode cX11_seen 39 = .ok (.invokevirtual 119, 3) := by decide +kernel
theorem dX11_seen_42 : decode cX11_seen 42 = .ok (.ireturn, 1) := by decide +kernel
theorem dX11_change_0 : decode cX11_change 0 = .ok (.aload_n 0, 1) := by decide +kernel
theorem dX11_change_1 : decode cX11_change 1 = .ok (.iload_n 1, 1) := by decide +kernel
theorem dX11_change_2 : decode cX11_change 2 = .ok (.invokevirtual 203, 3) := by decide +kernel
theorem dX11_change_5 : decode cX11_change 5 = .ok (.ifCond .eq 11, 3) := by decide +kernel
theorem dX11_change_8 : decode cX11_change 8 = .ok (.aload_n 0, 1) := by decide +kernel
theorem dX11_change_9 : decode cX11_change 9 = .ok (.iload_n 2, 1) := by decide +kernel
theorem dX11_change_10 : decode cX11_change 10 = .ok (.invokevirtual 203, 3) := by decide +kernel
theorem dX11_change_13 : decode cX11_change 13 = .ok (.ifCond .ne 9, 3) := by decide +kernel
theorem dX11_change_16 : decode cX11_change 16 = .ok (.aload_n 0, 1) := by decide +kernel
theorem dX11_change_17 : decode cX11_change 17 = .ok (.iconst 1, 1) := by decide +kernel
theorem dX11_change_18 : decode cX11_change 18 = .ok (.invokevirtual 102, 3) := by decide +kernel
theorem dX11_change_21 : decode cX11_change 21 = .ok (.ireturn, 1) := by decide +kernel
theorem dX11_change_22 : decode cX11_change 22 = .ok (.aload_n 0, 1) := by decide +kernel
theorem dX11_change_23 : decode cX11_change 23 = .ok (.aload_n 0, 1) := by decide +kernel
theorem dX11_change_24 : decode cX11_change 24 = .ok (.getfield 19, 3) := by decide +kernel
theorem dX11_change_27 : decode cX11_change 27 = .ok (.iload_n 1, 1) := by decide +kernel
theorem dX11_change_28 : decode cX11_change 28 = .ok (.iload_n 2, 1) := by decide +kernel
theorem dX11_change_29 : decode cX11_change 29 = .ok (.iconst (-1), 1) := by decide +kernel
theorem dX11_change_30 : decode cX11_change 30 = .ok (.invokevirtual 206, 3) := by decide +kernel
theorem dX11_change_33 : decode cX11_change 33 = .ok (.invokevirtual 119, 3) := by decide +kernel
theorem dX11_change_36 : decode cX11_change 36 = .ok (.ireturn, 1) := by decide +kernel
theorem dX11_need_0 : decode cX11_need 0 = .ok (.aload_n 0, 1) := by decide +kernel
theorem dX11_need_1 : decode cX11_need 1 = .ok (.iload_n 1, 1) := by decide +kernel
theorem dX11_need_2 : decode cX11_need 2 = .ok (.invokevirtual 194, 3) := by decide +kernel
theorem dX11_need_5 : decode cX11_need 5 = .ok (.ifCond .eq 11, 3) := by decide +kernel
theorem dX11_need_8 : decode cX11_need 8 = .ok (.aload_n 0, 1) := by decide +kernel
theorem dX11_need_9 : decode cX11_need 9 = .ok (.iload_n 2, 1) := by decide +kernel
theorem dX11_need_10 : decode cX11_need 10 = .ok (.invokevirtual 194, 3) := by decide +kernel
theorem dX11_need_13 : decode cX11_need 13 = .ok (.ifCond .ne 9, 3) := by decide +kernel
theorem dX11_need_16 : decode cX11_need 16 = .ok (.aload_n 0, 1) := by decide +kernel
theorem dX11_need_17 : decode cX11_need 17 = .ok (.iconst 1, 1) := by decide +kernel
theorem dX11_need_18 : decode cX11_need 18 = .ok (.invokevirtual 102, 3) := by decide +kernel
theorem dX11_need_21 : decode cX11_need 21 = .ok (.ireturn, 1) := by decide +kernel
theorem dX11_need_22 : decode cX11_need 22 = .ok (.aload_n 0, 1) := by decide +kernel
theorem dX11_need_23 : decode cX11_need 23 = .ok (.aload_n 0, 1) := by decide +kernel
theorem dX11_need_24 : decode cX11_need 24 = .ok (.getfield 19, 3) := by decide +kernel
theorem dX11_need_27 : decode cX11_need 27 = .ok (.iload_n 1, 1) := by decide +kernel
theorem dX11_need_28 : decode cX11_need 28 = .ok (.iload_n 2, 1) := by decide +kernel
theorem dX11_need_29 : decode cX11_need 29 = .ok (.iconst (-1), 1) := by decide +kernel
theorem dX11_need_30 : decode cX11_need 30 = .ok (.invokevirtual 210, 3) := by decide +kernel
theorem dX11_need_33 : decode cX11_need 33 = .ok (.invokevirtual 119, 3) := by decide +kernel
theorem dX11_need_36 : decode cX11_need 36 = .ok (.ireturn, 1) := by decide +kernel
theorem dX11_meet_0 : decode cX11_meet 0 = .ok (.aload_n 0, 1) := by decide +kernel
theorem dX11_meet_1 : decode cX11_meet 1 = .ok (.iload_n 1, 1) := by decide +kernel
theorem dX11_meet_2 : decode cX11_meet 2 = .ok (.invokevirtual 194, 3) := by decide +kernel
theorem dX11_meet_5 : decode cX11_meet 5 = .ok (.ifCond .eq 11, 3) := by decide +kernel
theorem dX11_meet_8 : decode cX11_meet 8 = .ok (.aload_n 0, 1) := by decide +kernel
theorem dX11_meet_9 : decode cX11_meet 9 = .ok (.iload_n 2, 1) := by decide +kernel
theorem dX11_meet_10 : decode cX11_meet 10 = .ok (.invokevirtual 194, 3) := by decide +kernel
theorem dX11_meet_13 : decode cX11_meet 13 = .ok (.ifCond .ne 9, 3) := by decide +kernel
theorem dX11_meet_16 : decode cX11_meet 16 = .ok (.aload_n 0, 1) := by decide +kernel
theorem dX11_meet_17 : decode cX11_meet 17 = .ok (.iconst 1, 1) := by decide +kernel
theorem dX11_meet_18 : decode cX11_meet 18 = .ok (.invokevirtual 102, 3) := by decide +kernel
theorem dX11_meet_21 : decode cX11_meet 21 = .ok (.ireturn, 1) := by decide +kernel
theorem dX11_meet_22 : decode cX11_meet 22 = .ok (.aload_n 0, 1) := by decide +kernel
theorem dX11_meet_23 : decode cX11_meet 23 = .ok (.aload_n 0, 1) := by decide +kernel
theorem dX11_meet_24 : decode cX11_meet 24 = .ok (.invokevirtual 184, 3) := by decide +kernel
theorem dX11_meet_27 : decode cX11_meet 27 = .ok (.iload_n 1, 1) := by decide +kernel
theorem dX11_meet_28 : decode cX11_meet 28 = .ok (.iload_n 2, 1) := by decide +kernel
theorem dX11_meet_29 : decode cX11_meet 29 = .ok (.invokevirtual 213, 3) := by decide +kernel
theorem dX11_meet_32 : decode cX11_meet 32 = .ok (.invokevirtual 217, 3) := by decide +kernel
theorem dX11_meet_35 : decode cX11_meet 35 = .ok (.ireturn, 1) := by decide +kernel
theorem dX11_bodily_0 : decode cX11_bodily 0 = .ok (.aload_n 0, 1) := by decide +kernel
theorem dX11_bodily_1 : decode cX11_bodily 1 = .ok (.iload_n 1, 1) := by decide +kernel
theorem dX11_bodily_2 : decode cX11_bodily 2 = .ok (.invokevirtual 194, 3) := by decide +kernel
theorem dX11_bodily_5 : decode cX11_bodily 5 = .ok (.ifCond .ne 9, 3) := by decide +kernel
theorem dX11_bodily_8 : decode cX11_bodily 8 = .ok (.aload_n 0, 1) := by decide +kernel
theorem dX11_bodily_9 : decode cX11_bodily 9 = .ok (.iconst 1, 1) := by decide +kernel
theorem dX11_bodily_10 : decode cX11_bodily 10 = .ok (.invokevirtual 102, 3) := by decide +kernel
theorem dX11_bodily_13 : decode cX11_bodily 13 = .ok (.ireturn, 1) := by decide +kernel
theorem dX11_bodily_14 : decode cX11_bodily 14 = .ok (.aload_n 0, 1) := by decide +kernel
theorem dX11_bodily_15 : decode cX11_bodily 15 = .ok (.getfield 19, 3) := by decide +kernel
theorem dX11_bodily_18 : decode cX11_bodily 18 = .ok (.invokevirtual 221, 3) := by decide +kernel
theorem dX11_bodily_21 : decode cX11_bodily 21 = .ok (.aload_n 0, 1) := by decide +kernel
theorem dX11_bodily_22 : decode cX11_bodily 22 = .ok (.getfield 38, 3) := by decide +kernel
theorem dX11_bodily_25 : decode cX11_bodily 25 = .ok (.getfield 161, 3) := by decide +kernel
theorem dX11_bodily_28 : decode cX11_bodily 28 = .ok (.iconst (-1), 1) := by decide +kernel
theorem dX11_bodily_29 : decode cX11_bodily 29 = .ok (.ixor, 1) := by decide +kernel
theorem dX11_bodily_30 : decode cX11_bodily 30 = .ok (.iand, 1) := by decide +kernel
theorem dX11_bodily_31 : decode cX11_bodily 31 = .ok (.istore_n 2, 1) := by decide +kernel
theorem dX11_bodily_32 : decode cX11_bodily 32 = .ok (.aload_n 0, 1) := by decide +kernel
theorem dX11_bodily_33 : decode cX11_bodily 33 = .ok (.aload_n 0, 1) := by decide +kernel
theorem dX11_bodily_34 : decode cX11_bodily 34 = .ok (.invokevirtual 184, 3) := by decide +kernel
theorem dX11_bodily_37 : decode cX11_bodily 37 = .ok (.iload_n 2, 1) := by decide +kernel
theorem dX11_bodily_38 : decode cX11_bodily 38 = .ok (.invokevirtual 225, 3) := by decide +kernel
theorem dX11_bodily_41 : decode cX11_bodily 41 = .ok (.iload_n 1, 1) := by decide +kernel
theorem dX11_bodily_42 : decode cX11_bodily 42 = .ok (.ishr, 1) := by decide +kernel
theorem dX11_bodily_43 : decode cX11_bodily 43 = .ok (.iconst 1, 1) := by decide +kernel
theorem dX11_bodily_44 : decode cX11_bodily 44 = .ok (.iand, 1) := by decide +kernel
theorem dX11_bodily_45 : decode cX11_bodily 45 = .ok (.invokevirtual 119, 3) := by decide +kernel
theorem dX11_bodily_48 : decode cX11_bodily 48 = .ok (.ireturn, 1) := by decide +kernel
theorem dX11_can_0 : decode cX11_can 0 = .ok (.aload_n 0, 1) := by decide +kernel
theorem dX11_can_1 : decode cX11_can 1 = .ok (.iload_n 1, 1) := by decide +kernel
theorem dX11_can_2 : decode cX11_can 2 = .ok (.invokevirtual 228, 3) := by decide +kernel
theorem dX11_can_5 : decode cX11_can 5 = .ok (.ifCond .ne 9, 3) := by decide +kernel
theorem dX11_can_8 : decode cX11_can 8 = .ok (.aload_n 0, 1) := by decide +kernel
theorem dX11_can_9 : decode cX11_can 9 = .ok (.iconst 1, 1) := by decide +kernel
theorem dX11_can_10 : decode cX11_can 10 = .ok (.invokevirtual 102, 3) := by decide +kernel
theorem dX11_can_13 : decode cX11_can 13 = .ok (.ireturn, 1) := by decide +kernel
theorem dX11_can_14 : decode cX11_can 14 = .ok (.aload_n 0, 1) := by decide +kernel
theorem dX11_can_15 : decode cX11_can 15 = .ok (.aload_n 0, 1) := by decide +kernel
theorem dX11_can_16 : decode cX11_can 16 = .ok (.invokevirtual 184, 3) := by decide +kernel
theorem dX11_can_19 : decode cX11_can 19 = .ok (.aload_n 0, 1) := by decide +kernel
theorem dX11_can_20 : decode cX11_can 20 = .ok (.iload_n 1, 1) := by decide +kernel
theorem dX11_can_21 : decode cX11_can 21 = .ok (.invokevirtual 231, 3) := by decide +kernel
theorem dX11_can_24 : decode cX11_can 24 = .ok (.invokevirtual 234, 3) := by decide +kernel
theorem dX11_can_27 : decode cX11_can 27 = .ok (.invokevirtual 217, 3) := by decide +kernel
theorem dX11_can_30 : decode cX11_can 30 = .ok (.ireturn, 1) := by decide +kernel
theorem dX11_could_0 : decode cX11_could 0 = .ok (.aload_n 0, 1) := by decide +kernel
theorem dX11_could_1 : decode cX11_could 1 = .ok (.invokevirtual 151, 3) := by decide +kernel
theorem dX11_could_4 : decode cX11_could 4 = .ok (.ifCond .eq 9, 3) := by decide +kernel
theorem dX11_could_7 : decode cX11_could 7 = .ok (.aload_n 0, 1) := by decide +kernel
theorem dX11_could_8 : decode cX11_could 8 = .ok (.iconst 1, 1) := by decide +kernel
theorem dX11_could_9 : decode cX11_could 9 = .ok (.invokevirtual 102, 3) := by decide +kernel
theorem dX11_could_12 : decode cX11_could 12 = .ok (.ireturn, 1) := by decide +kernel
theorem dX11_could_13 : decode cX11_could 13 = .ok (.iload_n 1, 1) := by decide +kernel
theorem dX11_could_14 : decode cX11_could 14 = .ok (.ifCond .lt 14, 3) := by decide +kernel
theorem dX11_could_17 : decode cX11_could 17 = .ok (.iload_n 1, 1) := by decide +kernel
theorem dX11_could_18 : decode cX11_could 18 = .ok (.aload_n 0, 1) := by decide +kernel
theorem dX11_could_19 : decode cX11_could 19 = .ok (.getfield 19, 3) := by decide +kernel
theorem dX11_could_22 : decode cX11_could 22 = .ok (.invokevirtual 237, 3) := by decide +kernel
theorem dX11_could_25 : decode cX11_could 25 = .ok (.if_icmp .le 9, 3) := by decide +kernel
theorem dX11_could_28 : decode cX11_could 28 = .ok (.aload_n 0, 1) := by decide +kernel
theorem dX11_could_29 : decode cX11_could 29 = .ok (.iconst 2, 1) := by decide +kernel
theorem dX11_could_30 : decode cX11_could 30 = .ok (.invokevirtual 102, 3) := by decide +kernel
theorem dX11_could_33 : decode cX11_could 33 = .ok (.ireturn, 1) := by decide +kernel
theorem dX11_could_34 : decode cX11_could 34 = .ok (.aload_n 0, 1) := by decide +kernel
theorem dX11_could_35 : decode cX11_could 35 = .ok (.aload_n 0, 1) := by decide +kernel
theorem dX11_could_36 : decode cX11_could 36 = .ok (.invokevirtual 184, 3) := by decide +kernel
theorem dX11_could_39 : decode cX11_could 39 = .ok (.iload_n 1, 1) := by decide +kernel
theorem dX11_could_40 : decode cX11_could 40 = .ok (.invokevirtual 240, 3) := by decide +kernel
theorem dX11_could_43 : decode cX11_could 43 = .ok (.invokevirtual 217, 3) := by decide +kernel
theorem dX11_could_46 : decode cX11_could 46 = .ok (.ireturn, 1) := by decide +kernel
theorem dX11_troubled_0 : decode cX11_troubled 0 = .ok (.aload_n 0, 1) := by decide +kernel
theorem dX11_troubled_1 : decode cX11_troubled 1 = .ok (.invokevirtual 151, 3) := by decide +kernel
theorem dX11_troubled_4 : decode cX11_troubled 4 = .ok (.ifCond .eq 9, 3) := by decide +kernel
theorem dX11_troubled_7 : decode cX11_troubled 7 = .ok (.aload_n 0, 1) := by decide +kernel
theorem dX11_troubled_8 : decode cX11_troubled 8 = .ok (.iconst 1, 1) := by decide +kernel
theorem dX11_troubled_9 : decode cX11_troubled 9 = .ok (.invokevirtual 102, 3) := by decide +kernel
theorem dX11_troubled_12 : decode cX11_troubled 12 = .ok (.ireturn, 1) := by decide +kernel
theorem dX11_troubled_13 : decode cX11_troubled 13 = .ok (.aload_n 0, 1) := by decide +kernel
theorem dX11_troubled_14 : decode cX11_troubled 14 = .ok (.invokevirtual 184, 3) := by decide +kernel
theorem dX11_troubled_17 : decode cX11_troubled 17 = .ok (.astore_n 1, 1) := by decide +kernel
theorem dX11_troubled_18 : decode cX11_troubled 18 = .ok (.iconst 0, 1) := by decide +kernel
theorem dX11_troubled_19 : decode cX11_troubled 19 = .ok (.istore_n 2, 1) := by decide +kernel
theorem dX11_troubled_20 : decode cX11_troubled 20 = .ok (.iconst 0, 1) := by decide +kernel
theorem dX11_troubled_21 : decode cX11_troubled 21 = .ok (.istore_n 3, 1) := by decide +kernel
theorem dX11_troubled_22 : decode cX11_troubled 22 = .ok (.iload_n 3, 1) := by decide +kernel
theorem dX11_troubled_23 : decode cX11_troubled 23 = .ok (.aload_n 0, 1) := by decide +kernel
theorem dX11_troubled_24 : decode cX11_troubled 24 = .ok (.getfield 19, 3) := by decide +kernel
theorem dX11_troubled_27 : decode cX11_troubled 27 = .ok (.getfield 116, 3) := by decide +kernel
theorem dX11_troubled_30 : decode cX11_troubled 30 = .ok (.if_icmp .ge 79, 3) := by decide +kernel
theorem dX11_troubled_33 : decode cX11_troubled 33 = .ok (.aload_n 1, 1) := by decide +kernel
theorem dX11_troubled_34 : decode cX11_troubled 34 = .ok (.getfield 243, 3) := by decide +kernel
theorem dX11_troubled_37 : decode cX11_troubled 37 = .ok (.iload_n 3, 1) := by decide +kernel
theorem dX11_troubled_38 : decode cX11_troubled 38 = .ok (.iaload, 1) := by decide +kernel
theorem dX11_troubled_39 : decode cX11_troubled 39 = .ok (.istore 4, 2) := by decide +kernel
theorem dX11_troubled_41 : decode cX11_troubled 41 = .ok (.aload_n 0, 1) := by decide +kernel
theorem dX11_troubled_42 : decode cX11_troubled 42 = .ok (.getfield 38, 3) := by decide +kernel
theorem dX11_troubled_45 : decode cX11_troubled 45 = .ok (.iload 4, 2) := by decide +kernel
theorem dX11_troubled_47 : decode cX11_troubled 47 = .ok (.invokevirtual 246, 3) := by decide +kernel
theorem dX11_troubled_50 : decode cX11_troubled 50 = .ok (.ifCond .ne 53, 3) := by decide +kernel
theorem dX11_troubled_53 : decode cX11_troubled 53 = .ok (.iload_n 2, 1) := by decide +kernel
theorem dX11_troubled_54 : decode cX11_troubled 54 = .ok (.iconst 1, 1) := by decide +kernel
theorem dX11_troubled_55 : decode cX11_troubled 55 = .ok (.iload 4, 2) := by decide +kernel
theorem dX11_troubled_57 : decode cX11_troubled 57 = .ok (.ishl, 1) := by decide +kernel
theorem dX11_troubled_58 : decode cX11_troubled 58 = .ok (.ior, 1) := by decide +kernel
theorem dX11_troubled_59 : decode cX11_troubled 59 = .ok (.istore_n 2, 1) := by decide +kernel
theorem dX11_troubled_60 : decode cX11_troubled 60 = .ok (.aload_n 0, 1) := by decide +kernel
theorem dX11_troubled_61 : decode cX11_troubled 61 = .ok (.getfield 38, 3) := by decide +kernel
theorem dX11_troubled_64 : decode cX11_troubled 64 = .ok (.aload_n 0, 1) := by decide +kernel
theorem dX11_troubled_65 : decode cX11_troubled 65 = .ok (.getfield 19, 3) := by decide +kernel
theorem dX11_troubled_68 : decode cX11_troubled 68 = .ok (.getfield 249, 3) := by decide +kernel
theorem dX11_troubled_71 : decode cX11_troubled 71 = .ok (.iload 4, 2) := by decide +kernel
theorem dX11_troubled_73 : decode cX11_troubled 73 = .ok (.aaload, 1) := by decide +kernel
theorem dX11_troubled_74 : decode cX11_troubled 74 = .ok (.iconst 0, 1) := by decide +kernel
theorem dX11_troubled_75 : decode cX11_troubled 75 = .ok (.iaload, 1) := by decide +kernel
theorem dX11_troubled_76 : decode cX11_troubled 76 = .ok (.invokevirtual 253, 3) := by decide +kernel
theorem dX11_troubled_79 : decode cX11_troubled 79 = .ok (.istore 5, 2) := by decide +kernel
theorem dX11_troubled_81 : decode cX11_troubled 81 = .ok (.aload_n 1, 1) := by decide +kernel
theorem dX11_troubled_82 : decode cX11_troubled 82 = .ok (.iload_n 2, 1) := by decide +kernel
theorem dX11_troubled_83 : decode cX11_troubled 83 = .ok (.aload_n 0, 1) := by decide +kernel
theorem dX11_troubled_84 : decode cX11_troubled 84 = .ok (.iload 5, 2) := by decide +kernel
theorem dX11_troubled_86 : decode cX11_troubled 86 = .ok (.invokevirtual 231, 3) := by decide +kernel
theorem dX11_troubled_89 : decode cX11_troubled 89 = .ok (.iand, 1) := by decide +kernel
theorem dX11_troubled_90 : decode cX11_troubled 90 = .ok (.invokevirtual 234, 3) := by decide +kernel
theorem dX11_troubled_93 : decode cX11_troubled 93 = .ok (.ifCond .ne 10, 3) := by decide +kernel
theorem dX11_troubled_96 : decode cX11_troubled 96 = .ok (.aload_n 0, 1) := by decide +kernel
theorem dX11_troubled_97 : decode cX11_troubled 97 = .ok (.iload 4, 2) := by decide +kernel
theorem dX11_troubled_99 : decode cX11_troubled 99 = .ok (.invokevirtual 119, 3) := by decide +kernel
theorem dX11_troubled_102 : decode cX11_troubled 102 = .ok (.ireturn, 1) := by decide +kernel
theorem dX11_troubled_103 : decode cX11_troubled 103 = .ok (.iinc 3 1, 3) := by decide +kernel
theorem dX11_troubled_106 : decode cX11_troubled 106 = .ok (.goto (-84), 3) := by decide +kernel
theorem dX11_troubled_109 : decode cX11_troubled 109 = .ok (.aload_n 0, 1) := by decide +kernel
theorem dX11_troubled_110 : decode cX11_troubled 110 = .ok (.bipush (-2), 2) := by decide +kernel
theorem dX11_troubled_112 : decode cX11_troubled 112 = .ok (.invokevirtual 119, 3) := by decide +kernel
theorem dX11_troubled_115 : decode cX11_troubled 115 = .ok (.ireturn, 1) := by decide +kernel
theorem dX11_slack_0 : decode cX11_slack 0 = .ok (.aload_n 0, 1) := by decide +kernel
theorem dX11_slack_1 : decode cX11_slack 1 = .ok (.iload_n 1, 1) := by decide +kernel
theorem dX11_slack_2 : decode cX11_slack 2 = .ok (.invokevirtual 228, 3) := by decide +kernel
theorem dX11_slack_5 : decode cX11_slack 5 = .ok (.ifCond .ne 13, 3) := by decide +kernel
theorem dX11_slack_8 : decode cX11_slack 8 = .ok (.aload_n 0, 1) := by decide +kernel
theorem dX11_slack_9 : decode cX11_slack 9 = .ok (.iconst 1, 1) := by decide +kernel
theorem dX11_slack_10 : decode cX11_slack 10 = .ok (.invokevirtual 102, 3) := by decide +kernel
theorem dX11_slack_13 : decode cX11_slack 13 = .ok (.pop, 1) := by decide +kernel
theorem dX11_slack_14 : decode cX11_slack 14 = .ok (.sipush (-1000), 3) := by decide +kernel
theorem dX11_slack_17 : decode cX11_slack 17 = .ok (.ireturn, 1) := by decide +kernel
theorem dX11_slack_18 : decode cX11_slack 18 = .ok (.aload_n 0, 1) := by decide +kernel
theorem dX11_slack_19 : decode cX11_slack 19 = .ok (.aload_n 0, 1) := by decide +kernel
theorem dX11_slack_20 : decode cX11_slack 20 = .ok (.invokevirtual 184, 3) := by decide +kernel
theorem dX11_slack_23 : decode cX11_slack 23 = .ok (.aload_n 0, 1) := by decide +kernel
theorem dX11_slack_24 : decode cX11_slack 24 = .ok (.iload_n 1, 1) := by decide +kernel
theorem dX11_slack_25 : decode cX11_slack 25 = .ok (.invokevirtual 231, 3) := by decide +kernel
theorem dX11_slack_28 : decode cX11_slack 28 = .ok (.invokevirtual 256, 3) := by decide +kernel
theorem dX11_slack_31 : decode cX11_slack 31 = .ok (.invokevirtual 119, 3) := by decide +kernel
theorem dX11_slack_34 : decode cX11_slack 34 = .ok (.ireturn, 1) := by decide +kernel
theorem dX11_sweat_0 : decode cX11_sweat 0 = .ok (.aload_n 0, 1) := by decide +kernel
theorem dX11_sweat_1 : decode cX11_sweat 1 = .ok (.iload_n 1, 1) := by decide +kernel
theorem dX11_sweat_2 : decode cX11_sweat 2 = .ok (.invokevirtual 228, 3) := by decide +kernel
theorem dX11_sweat_5 : decode cX11_sweat 5 = .ok (.ifCond .eq 12, 3) := by decide +kernel
theorem dX11_sweat_8 : decode cX11_sweat 8 = .ok (.iload_n 2, 1) := by decide +kernel
theorem dX11_sweat_9 : decode cX11_sweat 9 = .ok (.ifCond .lt 8, 3) := by decide +kernel
theorem dX11_sweat_12 : decode cX11_sweat 12 = .ok (.iload_n 2, 1) := by decide +kernel
theorem dX11_sweat_13 : decode cX11_sweat 13 = .ok (.iconst 5, 1) := by decide +kernel
theorem dX11_sweat_14 : decode cX11_sweat 14 = .ok (.if_icmp .le 9, 3) := by decide +kernel
theorem dX11_sweat_17 : decode cX11_sweat 17 = .ok (.aload_n 0, 1) := by decide +kernel
theorem dX11_sweat_18 : decode cX11_sweat 18 = .ok (.iconst 1, 1) := by decide +kernel
theorem dX11_sweat_19 : decode cX11_sweat 19 = .ok (.invokevirtual 102, 3) := by decide +kernel
theorem dX11_sweat_22 : decode cX11_sweat 22 = .ok (.ireturn, 1) := by decide +kernel
theorem dX11_sweat_23 : decode cX11_sweat 23 = .ok (.aload_n 0, 1) := by decide +kernel
theorem dX11_sweat_24 : decode cX11_sweat 24 = .ok (.iload_n 1, 1) := by decide +kernel
theorem dX11_sweat_25 : decode cX11_sweat 25 = .ok (.invokevirtual 231, 3) := by decide +kernel
theorem dX11_sweat_28 : decode cX11_sweat 28 = .ok (.istore_n 3, 1) := by decide +kernel
theorem dX11_sweat_29 : decode cX11_sweat 29 = .ok (.aload_n 0, 1) := by decide +kernel
theorem dX11_sweat_30 : decode cX11_sweat 30 = .ok (.invokevirtual 184, 3) := by decide +kernel
theorem dX11_sweat_33 : decode cX11_sweat 33 = .ok (.astore 4, 2) := by decide +kernel
theorem dX11_sweat_35 : decode cX11_sweat 35 = .ok (.iload_n 2, 1) := by decide +kernel
theorem dX11_sweat_36 : decode cX11_sweat 36 = .ok (.lookupswitch 90 #[(0, 36), (4, 52), (5, 71)], 36) := by decide +kernel
theorem dX11_sweat_72 : decode cX11_sweat 72 = .ok (.aload_n 0, 1) := by decide +kernel
theorem dX11_sweat_73 : decode cX11_sweat 73 = .ok (.aload 4, 2) := by decide +kernel
theorem dX11_sweat_75 : decode cX11_sweat 75 = .ok (.aload 4, 2) := by decide +kernel
theorem dX11_sweat_77 : decode cX11_sweat 77 = .ok (.iload_n 3, 1) := by decide +kernel
theorem dX11_sweat_78 : decode cX11_sweat 78 = .ok (.invokevirtual 225, 3) := by decide +kernel
theorem dX11_sweat_81 : decode cX11_sweat 81 = .ok (.invokevirtual 259, 3) := by decide +kernel
theorem dX11_sweat_84 : decode cX11_sweat 84 = .ok (.invokevirtual 119, 3) := by decide +kernel
theorem dX11_sweat_87 : decode cX11_sweat 87 = .ok (.ireturn, 1) := by decide +kernel
theorem dX11_sweat_88 : decode cX11_sweat 88 = .ok (.aload_n 0, 1) := by decide +kernel
theorem dX11_sweat_89 : decode cX11_sweat 89 = .ok (.aload 4, 2) := by decide +kernel
theorem dX11_sweat_91 : decode cX11_sweat 91 = .ok (.iload_n 3, 1) := by decide +kernel
theorem dX11_sweat_92 : decode cX11_sweat 92 = .ok (.aload_n 0, 1) := by decide +kernel
theorem dX11_sweat_93 : decode cX11_sweat 93 = .ok (.getfield 19, 3) := by decide +kernel
theorem dX11_sweat_96 : decode cX11_sweat 96 = .ok (.getfield 262, 3) := by decide +kernel
theorem dX11_sweat_99 : decode cX11_sweat 99 = .ok (.iand, 1) := by decide +kernel
theorem dX11_sweat_100 : decode cX11_sweat 100 = .ok (.invokevirtual 259, 3) := by decide +kernel
theorem dX11_sweat_103 : decode cX11_sweat 103 = .ok (.invokevirtual 119, 3) := by decide +kernel
theorem dX11_sweat_106 : decode cX11_sweat 106 = .ok (.ireturn, 1) := by decide +kernel
theorem dX11_sweat_107 : decode cX11_sweat 107 = .ok (.aload_n 0, 1) := by decide +kernel
theorem dX11_sweat_108 : decode cX11_sweat 108 = .ok (.aload 4, 2) := by decide +kernel
theorem dX11_sweat_110 : decode cX11_sweat 110 = .ok (.iload_n 3, 1) := by decide +kernel
theorem dX11_sweat_111 : decode cX11_sweat 111 = .ok (.aload_n 0, 1) := by decide +kernel
theorem dX11_sweat_112 : decode cX11_sweat 112 = .ok (.getfield 19, 3) := by decide +kernel
theorem dX11_sweat_115 : decode cX11_sweat 115 = .ok (.getfield 265, 3) := by decide +kernel
theorem dX11_sweat_118 : decode cX11_sweat 118 = .ok (.iand, 1) := by decide +kernel
theorem dX11_sweat_119 : decode cX11_sweat 119 = .ok (.invokevirtual 259, 3) := by decide +kernel
theorem dX11_sweat_122 : decode cX11_sweat 122 = .ok (.invokevirtual 119, 3) := by decide +kernel
theorem dX11_sweat_125 : decode cX11_sweat 125 = .ok (.ireturn, 1) := by decide +kernel
theorem dX11_sweat_126 : decode cX11_sweat 126 = .ok (.aload_n 0, 1) := by decide +kernel
theorem dX11_sweat_127 : decode cX11_sweat 127 = .ok (.aload 4, 2) := by decide +kernel
theorem dX11_sweat_129 : decode cX11_sweat 129 = .ok (.iload_n 3, 1) := by decide +kernel
theorem dX11_sweat_130 : decode cX11_sweat 130 = .ok (.iload_n 2, 1) := by decide +kernel
theorem dX11_sweat_131 : decode cX11_sweat 131 = .ok (.invokevirtual 268, 3) := by decide +kernel
theorem dX11_sweat_134 : decode cX11_sweat 134 = .ok (.invokevirtual 119, 3) := by decide +kernel
theorem dX11_sweat_137 : decode cX11_sweat 137 = .ok (.ireturn, 1) := by decide +kernel
theorem dX11_fewest_0 : decode cX11_fewest 0 = .ok (.aload_n 0, 1) := by decide +kernel
theorem dX11_fewest_1 : decode cX11_fewest 1 = .ok (.invokevirtual 151, 3) := by decide +kernel
theorem dX11_fewest_4 : decode cX11_fewest 4 = .ok (.ifCond .eq 11, 3) := by decide +kernel
theorem dX11_fewest_7 : decode cX11_fewest 7 = .ok (.aload_n 0, 1) := by decide +kernel
theorem dX11_fewest_8 : decode cX11_fewest 8 = .ok (.iconst 1, 1) := by decide +kernel
theorem dX11_fewest_9 : decode cX11_fewest 9 = .ok (.invokevirtual 102, 3) := by decide +kernel
theorem dX11_fewest_12 : decode cX11_fewest 12 = .ok (.goto 21, 3) := by decide +kernel
theorem dX11_fewest_15 : decode cX11_fewest 15 = .ok (.aload_n 0, 1) := by decide +kernel
theorem dX11_fewest_16 : decode cX11_fewest 16 = .ok (.aload_n 0, 1) := by decide +kernel
theorem dX11_fewest_17 : decode cX11_fewest 17 = .ok (.invokevirtual 184, 3) := by decide +kernel
theorem dX11_fewest_20 : decode cX11_fewest 20 = .ok (.aload_n 0, 1) := by decide +kernel
theorem dX11_fewest_21 : decode cX11_fewest 21 = .ok (.getfield 19, 3) := by decide +kernel
theorem dX11_fewest_24 : decode cX11_fewest 24 = .ok (.invokevirtual 237, 3) := by decide +kernel
theorem dX11_fewest_27 : decode cX11_fewest 27 = .ok (.invokevirtual 271, 3) := by decide +kernel
theorem dX11_fewest_30 : decode cX11_fewest 30 = .ok (.invokevirtual 119, 3) := by decide +kernel
theorem dX11_fewest_33 : decode cX11_fewest 33 = .ok (.ireturn, 1) := by decide +kernel
theorem dX11_player_0 : decode cX11_player 0 = .ok (.aload_n 0, 1) := by decide +kernel
theorem dX11_player_1 : decode cX11_player 1 = .ok (.iload_n 1, 1) := by decide +kernel
theorem dX11_player_2 : decode cX11_player 2 = .ok (.invokevirtual 203, 3) := by decide +kernel
theorem dX11_player_5 : decode cX11_player 5 = .ok (.ifCond .ne 9, 3) := by decide +kernel
theorem dX11_player_8 : decode cX11_player 8 = .ok (.aload_n 0, 1) := by decide +kernel
theorem dX11_player_9 : decode cX11_player 9 = .ok (.iconst 1, 1) := by decide +kernel
theorem dX11_player_10 : decode cX11_player 10 = .ok (.invokevirtual 102, 3) := by decide +kernel
theorem dX11_player_13 : decode cX11_player 13 = .ok (.ireturn, 1) := by decide +kernel
theorem dX11_player_14 : decode cX11_player 14 = .ok (.aload_n 0, 1) := by decide +kernel
theorem dX11_player_15 : decode cX11_player 15 = .ok (.invokevirtual 184, 3) := by decide +kernel
theorem dX11_player_18 : decode cX11_player 18 = .ok (.pop, 1) := by decide +kernel
theorem dX11_player_19 : decode cX11_player 19 = .ok (.aload_n 0, 1) := by decide +kernel
theorem dX11_player_20 : decode cX11_player 20 = .ok (.aload_n 0, 1) := by decide +kernel
theorem dX11_player_21 : decode cX11_player 21 = .ok (.getfield 63, 3) := by decide +kernel
theorem dX11_player_24 : decode cX11_player 24 = .ok (.iload_n 1, 1) := by decide +kernel
theorem dX11_player_25 : decode cX11_player 25 = .ok (.invokevirtual 274, 3) := by decide +kernel
theorem dX11_player_28 : decode cX11_player 28 = .ok (.invokevirtual 119, 3) := by decide +kernel
theorem dX11_player_31 : decode cX11_player 31 = .ok (.ireturn, 1) := by decide +kernel
theorem dX11_fewestOfAll_0 : decode cX11_fewestOfAll 0 = .ok (.aload_n 0, 1) := by decide +kernel
theorem dX11_fewestOfAll_1 : decode cX11_fewestOfAll 1 = .ok (.invokevirtual 151, 3) := by decide +kernel
theorem dX11_fewestOfAll_4 : decode cX11_fewestOfAll 4 = .ok (.ifCond .eq 9, 3) := by decide +kernel
theorem dX11_fewestOfAll_7 : decode cX11_fewestOfAll 7 = .ok (.aload_n 0, 1) := by decide +kernel
theorem dX11_fewestOfAll_8 : decode cX11_fewestOfAll 8 = .ok (.iconst 1, 1) := by decide +kernel
theorem dX11_fewestOfAll_9 : decode cX11_fewestOfAll 9 = .ok (.invokevirtual 102, 3) := by decide +kernel
theorem dX11_fewestOfAll_12 : decode cX11_fewestOfAll 12 = .ok (.ireturn, 1) := by decide +kernel
theorem dX11_fewestOfAll_13 : decode cX11_fewestOfAll 13 = .ok (.aload_n 0, 1) := by decide +kernel
theorem dX11_fewestOfAll_14 : decode cX11_fewestOfAll 14 = .ok (.aload_n 0, 1) := by decide +kernel
theorem dX11_fewestOfAll_15 : decode cX11_fewestOfAll 15 = .ok (.getfield 70, 3) := by decide +kernel
theorem dX11_fewestOfAll_18 : decode cX11_fewestOfAll 18 = .ok (.aload_n 0, 1) := by decide +kernel
theorem dX11_fewestOfAll_19 : decode cX11_fewestOfAll 19 = .ok (.getfield 38, 3) := by decide +kernel
theorem dX11_fewestOfAll_22 : decode cX11_fewestOfAll 22 = .ok (.getfield 161, 3) := by decide +kernel
theorem dX11_fewestOfAll_25 : decode cX11_fewestOfAll 25 = .ok (.invokevirtual 275, 3) := by decide +kernel
theorem dX11_fewestOfAll_28 : decode cX11_fewestOfAll 28 = .ok (.invokevirtual 119, 3) := by decide +kernel
theorem dX11_fewestOfAll_31 : decode cX11_fewestOfAll 31 = .ok (.ireturn, 1) := by decide +kernel
theorem dX11_sceneOfAll_0 : decode cX11_sceneOfAll 0 = .ok (.aload_n 0, 1) := by decide +kernel
theorem dX11_sceneOfAll_1 : decode cX11_sceneOfAll 1 = .ok (.iload_n 1, 1) := by decide +kernel
theorem dX11_sceneOfAll_2 : decode cX11_sceneOfAll 2 = .ok (.invokevirtual 178, 3) := by decide +kernel
theorem dX11_sceneOfAll_5 : decode cX11_sceneOfAll 5 = .ok (.ifCond .ne 9, 3) := by decide +kernel
theorem dX11_sceneOfAll_8 : decode cX11_sceneOfAll 8 = .ok (.aload_n 0, 1) := by decide +kernel
theorem dX11_sceneOfAll_9 : decode cX11_sceneOfAll 9 = .ok (.iconst 1, 1) := by decide +kernel
theorem dX11_sceneOfAll_10 : decode cX11_sceneOfAll 10 = .ok (.invokevirtual 102, 3) := by decide +kernel
theorem dX11_sceneOfAll_13 : decode cX11_sceneOfAll 13 = .ok (.ireturn, 1) := by decide +kernel
theorem dX11_sceneOfAll_14 : decode cX11_sceneOfAll 14 = .ok (.aload_n 0, 1) := by decide +kernel
theorem dX11_sceneOfAll_15 : decode cX11_sceneOfAll 15 = .ok (.getfield 70, 3) := by decide +kernel
theorem dX11_sceneOfAll_18 : decode cX11_sceneOfAll 18 = .ok (.aload_n 0, 1) := by decide +kernel
theorem dX11_sceneOfAll_19 : decode cX11_sceneOfAll 19 = .ok (.getfield 38, 3) := by decide +kernel
theorem dX11_sceneOfAll_22 : decode cX11_sceneOfAll 22 = .ok (.getfield 161, 3) := by decide +kernel
theorem dX11_sceneOfAll_25 : decode cX11_sceneOfAll 25 = .ok (.invokevirtual 275, 3) := by decide +kernel
theorem dX11_sceneOfAll_28 : decode cX11_sceneOfAll 28 = .ok (.bipush (-2), 2) := by decide +kernel
theorem dX11_sceneOfAll_30 : decode cX11_sceneOfAll 30 = .ok (.if_icmp .ne 10, 3) := by decide +kernel
theorem dX11_sceneOfAll_33 : decode cX11_sceneOfAll 33 = .ok (.aload_n 0, 1) := by decide +kernel
theorem dX11_sceneOfAll_34 : decode cX11_sceneOfAll 34 = .ok (.bipush (-2), 2) := by decide +kernel
theorem dX11_sceneOfAll_36 : decode cX11_sceneOfAll 36 = .ok (.invokevirtual 119, 3) := by decide +kernel
theorem dX11_sceneOfAll_39 : decode cX11_sceneOfAll 39 = .ok (.ireturn, 1) := by decide +kernel
theorem dX11_sceneOfAll_40 : decode cX11_sceneOfAll 40 = .ok (.aload_n 0, 1) := by decide +kernel
theorem dX11_sceneOfAll_41 : decode cX11_sceneOfAll 41 = .ok (.aload_n 0, 1) := by decide +kernel
theorem dX11_sceneOfAll_42 : decode cX11_sceneOfAll 42 = .ok (.getfield 70, 3) := by decide +kernel
theorem dX11_sceneOfAll_45 : decode cX11_sceneOfAll 45 = .ok (.getfield 278, 3) := by decide +kernel
theorem dX11_sceneOfAll_48 : decode cX11_sceneOfAll 48 = .ok (.iload_n 1, 1) := by decide +kernel
theorem dX11_sceneOfAll_49 : decode cX11_sceneOfAll 49 = .ok (.invokestatic 181, 3) := by decide +kernel
theorem dX11_sceneOfAll_52 : decode cX11_sceneOfAll 52 = .ok (.invokevirtual 119, 3) := by decide +kernel
theorem dX11_sceneOfAll_55 : decode cX11_sceneOfAll 55 = .ok (.ireturn, 1) := by decide +kernel
theorem dX11_enough_0 : decode cX11_enough 0 = .ok (.aload_n 0, 1) := by decide +kernel
theorem dX11_enough_1 : decode cX11_enough 1 = .ok (.invokevirtual 151, 3) := by decide +kernel
theorem dX11_enough_4 : decode cX11_enough 4 = .ok (.ifCond .eq 9, 3) := by decide +kernel
theorem dX11_enough_7 : decode cX11_enough 7 = .ok (.aload_n 0, 1) := by decide +kernel
theorem dX11_enough_8 : decode cX11_enough 8 = .ok (.iconst 1, 1) := by decide +kernel
theorem dX11_enough_9 : decode cX11_enough 9 = .ok (.invokevirtual 102, 3) := by decide +kernel
theorem dX11_enough_12 : decode cX11_enough 12 = .ok (.ireturn, 1) := by decide +kernel
theorem dX11_enough_13 : decode cX11_enough 13 = .ok (.aload_n 0, 1) := by decide +kernel
theorem dX11_enough_14 : decode cX11_enough 14 = .ok (.getfield 70, 3) := by decide +kernel
theorem dX11_enough_17 : decode cX11_enough 17 = .ok (.aload_n 0, 1) := by decide +kernel
theorem dX11_enough_18 : decode cX11_enough 18 = .ok (.getfield 38, 3) := by decide +kernel
theorem dX11_enough_21 : decode cX11_enough 21 = .ok (.getfield 161, 3) := by decide +kernel
theorem dX11_enough_24 : decode cX11_enough 24 = .ok (.invokevirtual 275, 3) := by decide +kernel
theorem dX11_enough_27 : decode cX11_enough 27 = .ok (.istore_n 1, 1) := by decide +kernel
theorem dX11_enough_28 : decode cX11_enough 28 = .ok (.aload_n 0, 1) := by decide +kernel
theorem dX11_enough_29 : decode cX11_enough 29 = .ok (.iload_n 1, 1) := by decide +kernel
theorem dX11_enough_30 : decode cX11_enough 30 = .ok (.bipush (-2), 2) := by decide +kernel
theorem dX11_enough_32 : decode cX11_enough 32 = .ok (.if_icmp .eq 18, 3) := by decide +kernel
theorem dX11_enough_35 : decode cX11_enough 35 = .ok (.iload_n 1, 1) := by decide +kernel
theorem dX11_enough_36 : decode cX11_enough 36 = .ok (.aload_n 0, 1) := by decide +kernel
theorem dX11_enough_37 : decode cX11_enough 37 = .ok (.getfield 19, 3) := by decide +kernel
theorem dX11_enough_40 : decode cX11_enough 40 = .ok (.getfield 281, 3) := by decide +kernel
theorem dX11_enough_43 : decode cX11_enough 43 = .ok (.if_icmp .gt 7, 3) := by decide +kernel
theorem dX11_enough_46 : decode cX11_enough 46 = .ok (.iconst 1, 1) := by decide +kernel
theorem dX11_enough_47 : decode cX11_enough 47 = .ok (.goto 4, 3) := by decide +kernel
theorem dX11_enough_50 : decode cX11_enough 50 = .ok (.iconst 0, 1) := by decide +kernel
theorem dX11_enough_51 : decode cX11_enough 51 = .ok (.invokevirtual 217, 3) := by decide +kernel
theorem dX11_enough_54 : decode cX11_enough 54 = .ok (.ireturn, 1) := by decide +kernel
theorem dX11_cuts_0 : decode cX11_cuts 0 = .ok (.aload_n 0, 1) := by decide +kernel
theorem dX11_cuts_1 : decode cX11_cuts 1 = .ok (.invokevirtual 151, 3) := by decide +kernel
theorem dX11_cuts_4 : decode cX11_cuts 4 = .ok (.ifCond .eq 9, 3) := by decide +kernel
theorem dX11_cuts_7 : decode cX11_cuts 7 = .ok (.aload_n 0, 1) := by decide +kernel
theorem dX11_cuts_8 : decode cX11_cuts 8 = .ok (.iconst 1, 1) := by decide +kernel
theorem dX11_cuts_9 : decode cX11_cuts 9 = .ok (.invokevirtual 102, 3) := by decide +kernel
theorem dX11_cuts_12 : decode cX11_cuts 12 = .ok (.ireturn, 1) := by decide +kernel
theorem dX11_cuts_13 : decode cX11_cuts 13 = .ok (.aload_n 0, 1) := by decide +kernel
theorem dX11_cuts_14 : decode cX11_cuts 14 = .ok (.invokevirtual 184, 3) := by decide +kernel
theorem dX11_cuts_17 : decode cX11_cuts 17 = .ok (.pop, 1) := by decide +kernel
theorem dX11_cuts_18 : decode cX11_cuts 18 = .ok (.aload_n 0, 1) := by decide +kernel
theorem dX11_cuts_19 : decode cX11_cuts 19 = .ok (.aload_n 0, 1) := by decide +kernel
theorem dX11_cuts_20 : decode cX11_cuts 20 = .ok (.getfield 63, 3) := by decide +kernel
theorem dX11_cuts_23 : decode cX11_cuts 23 = .ok (.invokevirtual 284, 3) := by decide +kernel
theorem dX11_cuts_26 : decode cX11_cuts 26 = .ok (.invokevirtual 119, 3) := by decide +kernel
theorem dX11_cuts_29 : decode cX11_cuts 29 = .ok (.ireturn, 1) := by decide +kernel
theorem dX11_cutsBy_0 : decode cX11_cutsBy 0 = .ok (.aload_n 0, 1) := by decide +kernel
theorem dX11_cutsBy_1 : decode cX11_cutsBy 1 = .ok (.invokevirtual 151, 3) := by decide +kernel
theorem dX11_cutsBy_4 : decode cX11_cutsBy 4 = .ok (.ifCond .eq 9, 3) := by decide +kernel
theorem dX11_cutsBy_7 : decode cX11_cutsBy 7 = .ok (.aload_n 0, 1) := by decide +kernel
theorem dX11_cutsBy_8 : decode cX11_cutsBy 8 = .ok (.iconst 1, 1) := by decide +kernel
theorem dX11_cutsBy_9 : decode cX11_cutsBy 9 = .ok (.invokevirtual 102, 3) := by decide +kernel
theorem dX11_cutsBy_12 : decode cX11_cutsBy 12 = .ok (.ireturn, 1) := by decide +kernel
theorem dX11_cutsBy_13 : decode cX11_cutsBy 13 = .ok (.aload_n 0, 1) := by decide +kernel
theorem dX11_cutsBy_14 : decode cX11_cutsBy 14 = .ok (.invokevirtual 184, 3) := by decide +kernel
theorem dX11_cutsBy_17 : decode cX11_cutsBy 17 = .ok (.pop, 1) := by decide +kernel
theorem dX11_cutsBy_18 : decode cX11_cutsBy 18 = .ok (.aload_n 0, 1) := by decide +kernel
theorem dX11_cutsBy_19 : decode cX11_cutsBy 19 = .ok (.aload_n 0, 1) := by decide +kernel
theorem dX11_cutsBy_20 : decode cX11_cutsBy 20 = .ok (.getfield 63, 3) := by decide +kernel
theorem dX11_cutsBy_23 : decode cX11_cutsBy 23 = .ok (.invokevirtual 287, 3) := by decide +kernel
theorem dX11_cutsBy_26 : decode cX11_cutsBy 26 = .ok (.invokevirtual 119, 3) := by decide +kernel
theorem dX11_cutsBy_29 : decode cX11_cutsBy 29 = .ok (.ireturn, 1) := by decide +kernel
theorem dX11_ready_0 : decode cX11_ready 0 = .ok (.aload_n 0, 1) := by decide +kernel
theorem dX11_ready_1 : decode cX11_ready 1 = .ok (.iload_n 1, 1) := by decide +kernel
theorem dX11_ready_2 : decode cX11_ready 2 = .ok (.invokevirtual 203, 3) := by decide +kernel
theorem dX11_ready_5 : decode cX11_ready 5 = .ok (.ifCond .ne 9, 3) := by decide +kernel
theorem dX11_ready_8 : decode cX11_ready 8 = .ok (.aload_n 0, 1) := by decide +kernel
theorem dX11_ready_9 : decode cX11_ready 9 = .ok (.iconst 1, 1) := by decide +kernel
theorem dX11_ready_10 : decode cX11_ready 10 = .ok (.invokevirtual 102, 3) := by decide +kernel
theorem dX11_ready_13 : decode cX11_ready 13 = .ok (.ireturn, 1) := by decide +kernel
theorem dX11_ready_14 : decode cX11_ready 14 = .ok (.aload_n 0, 1) := by decide +kernel
theorem dX11_ready_15 : decode cX11_ready 15 = .ok (.invokevirtual 184, 3) := by decide +kernel
theorem dX11_ready_18 : decode cX11_ready 18 = .ok (.aload_n 0, 1) := by decide +kernel
theorem dX11_ready_19 : decode cX11_ready 19 = .ok (.getfield 19, 3) := by decide +kernel
theorem dX11_ready_22 : decode cX11_ready 22 = .ok (.invokevirtual 237, 3) := by decide +kernel
theorem dX11_ready_25 : decode cX11_ready 25 = .ok (.invokevirtual 271, 3) := by decide +kernel
theorem dX11_ready_28 : decode cX11_ready 28 = .ok (.istore_n 2, 1) := by decide +kernel
theorem dX11_ready_29 : decode cX11_ready 29 = .ok (.iload_n 2, 1) := by decide +kernel
theorem dX11_ready_30 : decode cX11_ready 30 = .ok (.bipush (-2), 2) := by decide +kernel
theorem dX11_ready_32 : decode cX11_ready 32 = .ok (.if_icmp .ne 10, 3) := by decide +kernel
theorem dX11_ready_35 : decode cX11_ready 35 = .ok (.aload_n 0, 1) := by decide +kernel
theorem dX11_ready_36 : decode cX11_ready 36 = .ok (.bipush (-2), 2) := by decide +kernel
theorem dX11_ready_38 : decode cX11_ready 38 = .ok (.invokevirtual 119, 3) := by decide +kernel
theorem dX11_ready_41 : decode cX11_ready 41 = .ok (.ireturn, 1) := by decide +kernel
theorem dX11_ready_42 : decode cX11_ready 42 = .ok (.aload_n 0, 1) := by decide +kernel
theorem dX11_ready_43 : decode cX11_ready 43 = .ok (.iload_n 2, 1) := by decide +kernel
theorem dX11_ready_44 : decode cX11_ready 44 = .ok (.aload_n 0, 1) := by decide +kernel
theorem dX11_ready_45 : decode cX11_ready 45 = .ok (.getfield 70, 3) := by decide +kernel
theorem dX11_ready_48 : decode cX11_ready 48 = .ok (.iload_n 1, 1) := by decide +kernel
theorem dX11_ready_49 : decode cX11_ready 49 = .ok (.aload_n 0, 1) := by decide +kernel
theorem dX11_ready_50 : decode cX11_ready 50 = .ok (.getfield 38, 3) := by decide +kernel
theorem dX11_ready_53 : decode cX11_ready 53 = .ok (.getfield 155, 3) := by decide +kernel
theorem dX11_ready_56 : decode cX11_ready 56 = .ok (.aload_n 0, 1) := by decide +kernel
theorem dX11_ready_57 : decode cX11_ready 57 = .ok (.getfield 38, 3) := by decide +kernel
theorem dX11_ready_60 : decode cX11_ready 60 = .ok (.getfield 161, 3) := by decide +kernel
theorem dX11_ready_63 : decode cX11_ready 63 = .ok (.invokevirtual 290, 3) := by decide +kernel
theorem dX11_ready_66 : decode cX11_ready 66 = .ok (.isub, 1) := by decide +kernel
theorem dX11_ready_67 : decode cX11_ready 67 = .ok (.invokevirtual 119, 3) := by decide +kernel
theorem dX11_ready_70 : decode cX11_ready 70 = .ok (.ireturn, 1) := by decide +kernel
theorem dX11_lent_0 : decode cX11_lent 0 = .ok (.aload_n 0, 1) := by decide +kernel
theorem dX11_lent_1 : decode cX11_lent 1 = .ok (.iload_n 1, 1) := by decide +kernel
theorem dX11_lent_2 : decode cX11_lent 2 = .ok (.invokevirtual 203, 3) := by decide +kernel
theorem dX11_lent_5 : decode cX11_lent 5 = .ok (.ifCond .eq 15, 3) := by decide +kernel
theorem dX11_lent_8 : decode cX11_lent 8 = .ok (.aload_n 0, 1) := by decide +kernel
theorem dX11_lent_9 : decode cX11_lent 9 = .ok (.aload_n 0, 1) := by decide +kernel
theorem dX11_lent_10 : decode cX11_lent 10 = .ok (.iload_n 1, 1) := by decide +kernel
theorem dX11_lent_11 : decode cX11_lent 11 = .ok (.invokevirtual 293, 3) := by decide +kernel
theorem dX11_lent_14 : decode cX11_lent 14 = .ok (.invokevirtual 119, 3) := by decide +kernel
theorem dX11_lent_17 : decode cX11_lent 17 = .ok (.goto 8, 3) := by decide +kernel
theorem dX11_lent_20 : decode cX11_lent 20 = .ok (.aload_n 0, 1) := by decide +kernel
theorem dX11_lent_21 : decode cX11_lent 21 = .ok (.iconst 1, 1) := by decide +kernel
theorem dX11_lent_22 : decode cX11_lent 22 = .ok (.invokevirtual 102, 3) := by decide +kernel
theorem dX11_lent_25 : decode cX11_lent 25 = .ok (.ireturn, 1) := by decide +kernel
theorem dX11_fewestWithout_0 : decode cX11_fewestWithout 0 = .ok (.aload_n 0, 1) := by decide +kernel
theorem dX11_fewestWithout_1 : decode cX11_fewestWithout 1 = .ok (.invokevirtual 184, 3) := by decide +kernel
theorem dX11_fewestWithout_4 : decode cX11_fewestWithout 4 = .ok (.aload_n 0, 1) := by decide +kernel
theorem dX11_fewestWithout_5 : decode cX11_fewestWithout 5 = .ok (.getfield 19, 3) := by decide +kernel
theorem dX11_fewestWithout_8 : decode cX11_fewestWithout 8 = .ok (.invokevirtual 237, 3) := by decide +kernel
theorem dX11_fewestWithout_11 : decode cX11_fewestWithout 11 = .ok (.iconst 1, 1) := by decide +kernel
theorem dX11_fewestWithout_12 : decode cX11_fewestWithout 12 = .ok (.iload_n 1, 1) := by decide +kernel
theorem dX11_fewestWithout_13 : decode cX11_fewestWithout 13 = .ok (.ishl, 1) := by decide +kernel
theorem dX11_fewestWithout_14 : decode cX11_fewestWithout 14 = .ok (.iconst (-1), 1) := by decide +kernel
theorem dX11_fewestWithout_15 : decode cX11_fewestWithout 15 = .ok (.ixor, 1) := by decide +kernel
theorem dX11_fewestWithout_16 : decode cX11_fewestWithout 16 = .ok (.iand, 1) := by decide +kernel
theorem dX11_fewestWithout_17 : decode cX11_fewestWithout 17 = .ok (.invokevirtual 271, 3) := by decide +kernel
theorem dX11_fewestWithout_20 : decode cX11_fewestWithout 20 = .ok (.ireturn, 1) := by decide +kernel
theorem dX11_lend_0 : decode cX11_lend 0 = .ok (.aload_n 0, 1) := by decide +kernel
theorem dX11_lend_1 : decode cX11_lend 1 = .ok (.invokevirtual 151, 3) := by decide +kernel
theorem dX11_lend_4 : decode cX11_lend 4 = .ok (.ifCond .eq 9, 3) := by decide +kernel
theorem dX11_lend_7 : decode cX11_lend 7 = .ok (.aload_n 0, 1) := by decide +kernel
theorem dX11_lend_8 : decode cX11_lend 8 = .ok (.iconst 1, 1) := by decide +kernel
theorem dX11_lend_9 : decode cX11_lend 9 = .ok (.invokevirtual 102, 3) := by decide +kernel
theorem dX11_lend_12 : decode cX11_lend 12 = .ok (.ireturn, 1) := by decide +kernel
theorem dX11_lend_13 : decode cX11_lend 13 = .ok (.bipush (-2), 2) := by decide +kernel
theorem dX11_lend_15 : decode cX11_lend 15 = .ok (.istore_n 1, 1) := by decide +kernel
theorem dX11_lend_16 : decode cX11_lend 16 = .ok (.bipush (-2), 2) := by decide +kernel
theorem dX11_lend_18 : decode cX11_lend 18 = .ok (.istore_n 2, 1) := by decide +kernel
theorem dX11_lend_19 : decode cX11_lend 19 = .ok (.iconst 0, 1) := by decide +kernel
theorem dX11_lend_20 : decode cX11_lend 20 = .ok (.istore_n 3, 1) := by decide +kernel
theorem dX11_lend_21 : decode cX11_lend 21 = .ok (.iload_n 3, 1) := by decide +kernel
theorem dX11_lend_22 : decode cX11_lend 22 = .ok (.aload_n 0, 1) := by decide +kernel
theorem dX11_lend_23 : decode cX11_lend 23 = .ok (.getfield 19, 3) := by decide +kernel
theorem dX11_lend_26 : decode cX11_lend 26 = .ok (.getfield 142, 3) := by decide +kernel
theorem dX11_lend_29 : decode cX11_lend 29 = .ok (.if_icmp .ge 40, 3) := by decide +kernel
theorem dX11_lend_32 : decode cX11_lend 32 = .ok (.aload_n 0, 1) := by decide +kernel
theorem dX11_lend_33 : decode cX11_lend 33 = .ok (.iload_n 3, 1) := by decide +kernel
theorem dX11_lend_34 : decode cX11_lend 34 = .ok (.invokevirtual 293, 3) := by decide +kernel
theorem dX11_lend_37 : decode cX11_lend 37 = .ok (.istore 4, 2) := by decide +kernel
theorem dX11_lend_39 : decode cX11_lend 39 = .ok (.iload 4, 2) := by decide +kernel
theorem dX11_lend_41 : decode cX11_lend 41 = .ok (.bipush (-2), 2) := by decide +kernel
theorem dX11_lend_43 : decode cX11_lend 43 = .ok (.if_icmp .eq 20, 3) := by decide +kernel
theorem dX11_lend_46 : decode cX11_lend 46 = .ok (.iload_n 2, 1) := by decide +kernel
theorem dX11_lend_47 : decode cX11_lend 47 = .ok (.bipush (-2), 2) := by decide +kernel
theorem dX11_lend_49 : decode cX11_lend 49 = .ok (.if_icmp .eq 9, 3) := by decide +kernel
theorem dX11_lend_52 : decode cX11_lend 52 = .ok (.iload 4, 2) := by decide +kernel
theorem dX11_lend_54 : decode cX11_lend 54 = .ok (.iload_n 1, 1) := by decide +kernel
theorem dX11_lend_55 : decode cX11_lend 55 = .ok (.if_icmp .ge 8, 3) := by decide +kernel
theorem dX11_lend_58 : decode cX11_lend 58 = .ok (.iload 4, 2) := by decide +kernel
theorem dX11_lend_60 : decode cX11_lend 60 = .ok (.istore_n 1, 1) := by decide +kernel
theorem dX11_lend_61 : decode cX11_lend 61 = .ok (.iload_n 3, 1) := by decide +kernel
theorem dX11_lend_62 : decode cX11_lend 62 = .ok (.istore_n 2, 1) := by decide +kernel
theorem dX11_lend_63 : decode cX11_lend 63 = .ok (.iinc 3 1, 3) := by decide +kernel
theorem dX11_lend_66 : decode cX11_lend 66 = .ok (.goto (-45), 3) := by decide +kernel
theorem dX11_lend_69 : decode cX11_lend 69 = .ok (.aload_n 0, 1) := by decide +kernel
theorem dX11_lend_70 : decode cX11_lend 70 = .ok (.iload_n 2, 1) := by decide +kernel
theorem dX11_lend_71 : decode cX11_lend 71 = .ok (.invokevirtual 119, 3) := by decide +kernel
theorem dX11_lend_74 : decode cX11_lend 74 = .ok (.ireturn, 1) := by decide +kernel
theorem dX11_gap_0 : decode cX11_gap 0 = .ok (.aload_n 0, 1) := by decide +kernel
theorem dX11_gap_1 : decode cX11_gap 1 = .ok (.invokevirtual 151, 3) := by decide +kernel
theorem dX11_gap_4 : decode cX11_gap 4 = .ok (.ifCond .eq 9, 3) := by decide +kernel
theorem dX11_gap_7 : decode cX11_gap 7 = .ok (.aload_n 0, 1) := by decide +kernel
theorem dX11_gap_8 : decode cX11_gap 8 = .ok (.iconst 1, 1) := by decide +kernel
theorem dX11_gap_9 : decode cX11_gap 9 = .ok (.invokevirtual 102, 3) := by decide +kernel
theorem dX11_gap_12 : decode cX11_gap 12 = .ok (.ireturn, 1) := by decide +kernel
theorem dX11_gap_13 : decode cX11_gap 13 = .ok (.aload_n 0, 1) := by decide +kernel
theorem dX11_gap_14 : decode cX11_gap 14 = .ok (.aload_n 0, 1) := by decide +kernel
theorem dX11_gap_15 : decode cX11_gap 15 = .ok (.getfield 70, 3) := by decide +kernel
theorem dX11_gap_18 : decode cX11_gap 18 = .ok (.aload_n 0, 1) := by decide +kernel
theorem dX11_gap_19 : decode cX11_gap 19 = .ok (.getfield 38, 3) := by decide +kernel
theorem dX11_gap_22 : decode cX11_gap 22 = .ok (.getfield 155, 3) := by decide +kernel
theorem dX11_gap_25 : decode cX11_gap 25 = .ok (.aload_n 0, 1) := by decide +kernel
theorem dX11_gap_26 : decode cX11_gap 26 = .ok (.getfield 38, 3) := by decide +kernel
theorem dX11_gap_29 : decode cX11_gap 29 = .ok (.getfield 161, 3) := by decide +kernel
theorem dX11_gap_32 : decode cX11_gap 32 = .ok (.invokevirtual 296, 3) := by decide +kernel
theorem dX11_gap_35 : decode cX11_gap 35 = .ok (.invokevirtual 119, 3) := by decide +kernel
theorem dX11_gap_38 : decode cX11_gap 38 = .ok (.ireturn, 1) := by decide +kernel
theorem dX11_swaps_0 : decode cX11_swaps 0 = .ok (.aload_n 0, 1) := by decide +kernel
theorem dX11_swaps_1 : decode cX11_swaps 1 = .ok (.invokevirtual 151, 3) := by decide +kernel
theorem dX11_swaps_4 : decode cX11_swaps 4 = .ok (.ifCond .eq 9, 3) := by decide +kernel
theorem dX11_swaps_7 : decode cX11_swaps 7 = .ok (.aload_n 0, 1) := by decide +kernel
theorem dX11_swaps_8 : decode cX11_swaps 8 = .ok (.iconst 1, 1) := by decide +kernel
theorem dX11_swaps_9 : decode cX11_swaps 9 = .ok (.invokevirtual 102, 3) := by decide +kernel
theorem dX11_swaps_12 : decode cX11_swaps 12 = .ok (.ireturn, 1) := by decide +kernel
theorem dX11_swaps_13 : decode cX11_swaps 13 = .ok (.aload_n 0, 1) := by decide +kernel
theorem dX11_swaps_14 : decode cX11_swaps 14 = .ok (.aload_n 0, 1) := by decide +kernel
theorem dX11_swaps_15 : decode cX11_swaps 15 = .ok (.getfield 70, 3) := by decide +kernel
theorem dX11_swaps_18 : decode cX11_swaps 18 = .ok (.aload_n 0, 1) := by decide +kernel
theorem dX11_swaps_19 : decode cX11_swaps 19 = .ok (.getfield 38, 3) := by decide +kernel
theorem dX11_swaps_22 : decode cX11_swaps 22 = .ok (.getfield 155, 3) := by decide +kernel
theorem dX11_swaps_25 : decode cX11_swaps 25 = .ok (.aload_n 0, 1) := by decide +kernel
theorem dX11_swaps_26 : decode cX11_swaps 26 = .ok (.getfield 38, 3) := by decide +kernel
theorem dX11_swaps_29 : decode cX11_swaps 29 = .ok (.getfield 161, 3) := by decide +kernel
theorem dX11_swaps_32 : decode cX11_swaps 32 = .ok (.invokevirtual 299, 3) := by decide +kernel
theorem dX11_swaps_35 : decode cX11_swaps 35 = .ok (.invokevirtual 119, 3) := by decide +kernel
theorem dX11_swaps_38 : decode cX11_swaps 38 = .ok (.ireturn, 1) := by decide +kernel
theorem dX11_who_0 : decode cX11_who 0 = .ok (.aload_n 0, 1) := by decide +kernel
theorem dX11_who_1 : decode cX11_who 1 = .ok (.invokevirtual 151, 3) := by decide +kernel
theorem dX11_who_4 : decode cX11_who 4 = .ok (.ifCond .eq 9, 3) := by decide +kernel
theorem dX11_who_7 : decode cX11_who 7 = .ok (.aload_n 0, 1) := by decide +kernel
theorem dX11_who_8 : decode cX11_who 8 = .ok (.iconst 1, 1) := by decide +kernel
theorem dX11_who_9 : decode cX11_who 9 = .ok (.invokevirtual 102, 3) := by decide +kernel
theorem dX11_who_12 : decode cX11_who 12 = .ok (.ireturn, 1) := by decide +kernel
theorem dX11_who_13 : decode cX11_who 13 = .ok (.iload_n 1, 1) := by decide +kernel
theorem dX11_who_14 : decode cX11_who 14 = .ok (.iconst 1, 1) := by decide +kernel
theorem dX11_who_15 : decode cX11_who 15 = .ok (.if_icmp .lt 8, 3) := by decide +kernel
theorem dX11_who_18 : decode cX11_who 18 = .ok (.iload_n 1, 1) := by decide +kernel
theorem dX11_who_19 : decode cX11_who 19 = .ok (.iconst 3, 1) := by decide +kernel
theorem dX11_who_20 : decode cX11_who 20 = .ok (.if_icmp .le 9, 3) := by decide +kernel
theorem dX11_who_23 : decode cX11_who 23 = .ok (.aload_n 0, 1) := by decide +kernel
theorem dX11_who_24 : decode cX11_who 24 = .ok (.iconst 2, 1) := by decide +kernel
theorem dX11_who_25 : decode cX11_who 25 = .ok (.invokevirtual 102, 3) := by decide +kernel
theorem dX11_who_28 : decode cX11_who 28 = .ok (.ireturn, 1) := by decide +kernel
theorem dX11_who_29 : decode cX11_who 29 = .ok (.aload_n 0, 1) := by decide +kernel
theorem dX11_who_30 : decode cX11_who 30 = .ok (.invokevirtual 184, 3) := by decide +kernel
theorem dX11_who_33 : decode cX11_who 33 = .ok (.pop, 1) := by decide +kernel
theorem dX11_who_34 : decode cX11_who 34 = .ok (.aload_n 0, 1) := by decide +kernel
theorem dX11_who_35 : decode cX11_who 35 = .ok (.aload_n 0, 1) := by decide +kernel
theorem dX11_who_36 : decode cX11_who 36 = .ok (.getfield 63, 3) := by decide +kernel
theorem dX11_who_39 : decode cX11_who 39 = .ok (.iload_n 1, 1) := by decide +kernel
theorem dX11_who_40 : decode cX11_who 40 = .ok (.invokevirtual 302, 3) := by decide +kernel
theorem dX11_who_43 : decode cX11_who 43 = .ok (.invokevirtual 119, 3) := by decide +kernel
theorem dX11_who_46 : decode cX11_who 46 = .ok (.ireturn, 1) := by decide +kernel
theorem dX11_same_0 : decode cX11_same 0 = .ok (.aload_n 0, 1) := by decide +kernel
theorem dX11_same_1 : decode cX11_same 1 = .ok (.iload_n 1, 1) := by decide +kernel
theorem dX11_same_2 : decode cX11_same 2 = .ok (.invokevirtual 305, 3) := by decide +kernel
theorem dX11_same_5 : decode cX11_same 5 = .ok (.ifCond .eq 16, 3) := by decide +kernel
theorem dX11_same_8 : decode cX11_same 8 = .ok (.aload_n 0, 1) := by decide +kernel
theorem dX11_same_9 : decode cX11_same 9 = .ok (.iload_n 2, 1) := by decide +kernel
theorem dX11_same_10 : decode cX11_same 10 = .ok (.invokevirtual 305, 3) := by decide +kernel
theorem dX11_same_13 : decode cX11_same 13 = .ok (.ifCond .eq 8, 3) := by decide +kernel
theorem dX11_same_16 : decode cX11_same 16 = .ok (.iload_n 1, 1) := by decide +kernel
theorem dX11_same_17 : decode cX11_same 17 = .ok (.iload_n 2, 1) := by decide +kernel
theorem dX11_same_18 : decode cX11_same 18 = .ok (.if_icmp .ne 9, 3) := by decide +kernel
theorem dX11_same_21 : decode cX11_same 21 = .ok (.aload_n 0, 1) := by decide +kernel
theorem dX11_same_22 : decode cX11_same 22 = .ok (.iconst 1, 1) := by decide +kernel
theorem dX11_same_23 : decode cX11_same 23 = .ok (.invokevirtual 102, 3) := by decide +kernel
theorem dX11_same_26 : decode cX11_same 26 = .ok (.ireturn, 1) := by decide +kernel
theorem dX11_same_27 : decode cX11_same 27 = .ok (.aload_n 0, 1) := by decide +kernel
theorem dX11_same_28 : decode cX11_same 28 = .ok (.aload_n 0, 1) := by decide +kernel
theorem dX11_same_29 : decode cX11_same 29 = .ok (.getfield 77, 3) := by decide +kernel
theorem dX11_same_32 : decode cX11_same 32 = .ok (.iconst 1, 1) := by decide +kernel
theorem dX11_same_33 : decode cX11_same 33 = .ok (.iload_n 1, 1) := by decide +kernel
theorem dX11_same_34 : decode cX11_same 34 = .ok (.ishl, 1) := by decide +kernel
theorem dX11_same_35 : decode cX11_same 35 = .ok (.iconst 1, 1) := by decide +kernel
theorem dX11_same_36 : decode cX11_same 36 = .ok (.iload_n 2, 1) := by decide +kernel
theorem dX11_same_37 : decode cX11_same 37 = .ok (.ishl, 1) := by decide +kernel
theorem dX11_same_38 : decode cX11_same 38 = .ok (.ior, 1) := by decide +kernel
theorem dX11_same_39 : decode cX11_same 39 = .ok (.invokevirtual 308, 3) := by decide +kernel
theorem dX11_same_42 : decode cX11_same 42 = .ok (.invokevirtual 217, 3) := by decide +kernel
theorem dX11_same_45 : decode cX11_same 45 = .ok (.ireturn, 1) := by decide +kernel
theorem dX11_must_0 : decode cX11_must 0 = .ok (.aload_n 0, 1) := by decide +kernel
theorem dX11_must_1 : decode cX11_must 1 = .ok (.invokevirtual 151, 3) := by decide +kernel
theorem dX11_must_4 : decode cX11_must 4 = .ok (.ifCond .eq 9, 3) := by decide +kernel
theorem dX11_must_7 : decode cX11_must 7 = .ok (.aload_n 0, 1) := by decide +kernel
theorem dX11_must_8 : decode cX11_must 8 = .ok (.iconst 1, 1) := by decide +kernel
theorem dX11_must_9 : decode cX11_must 9 = .ok (.invokevirtual 102, 3) := by decide +kernel
theorem dX11_must_12 : decode cX11_must 12 = .ok (.ireturn, 1) := by decide +kernel
theorem dX11_must_13 : decode cX11_must 13 = .ok (.aload_n 0, 1) := by decide +kernel
theorem dX11_must_14 : decode cX11_must 14 = .ok (.aload_n 0, 1) := by decide +kernel
theorem dX11_must_15 : decode cX11_must 15 = .ok (.getfield 77, 3) := by decide +kernel
theorem dX11_must_18 : decode cX11_must 18 = .ok (.iconst 1, 1) := by decide +kernel
theorem dX11_must_19 : decode cX11_must 19 = .ok (.aload_n 0, 1) := by decide +kernel
theorem dX11_must_20 : decode cX11_must 20 = .ok (.getfield 19, 3) := by decide +kernel
theorem dX11_must_23 : decode cX11_must 23 = .ok (.getfield 148, 3) := by decide +kernel
theorem dX11_must_26 : decode cX11_must 26 = .ok (.ishl, 1) := by decide +kernel
theorem dX11_must_27 : decode cX11_must 27 = .ok (.iconst 1, 1) := by decide +kernel
theorem dX11_must_28 : decode cX11_must 28 = .ok (.isub, 1) := by decide +kernel
theorem dX11_must_29 : decode cX11_must 29 = .ok (.invokevirtual 309, 3) := by decide +kernel
theorem dX11_must_32 : decode cX11_must 32 = .ok (.invokevirtual 119, 3) := by decide +kernel
theorem dX11_must_35 : decode cX11_must 35 = .ok (.ireturn, 1) := by decide +kernel
theorem dX11_betrayed_0 : decode cX11_betrayed 0 = .ok (.aload_n 0, 1) := by decide +kernel
theorem dX11_betrayed_1 : decode cX11_betrayed 1 = .ok (.invokevirtual 151, 3) := by decide +kernel
theorem dX11_betrayed_4 : decode cX11_betrayed 4 = .ok (.ifCond .eq 9, 3) := by decide +kernel
theorem dX11_betrayed_7 : decode cX11_betrayed 7 = .ok (.aload_n 0, 1) := by decide +kernel
theorem dX11_betrayed_8 : decode cX11_betrayed 8 = .ok (.iconst 1, 1) := by decide +kernel
theorem dX11_betrayed_9 : decode cX11_betrayed 9 = .ok (.invokevirtual 102, 3) := by decide +kernel
theorem dX11_betrayed_12 : decode cX11_betrayed 12 = .ok (.ireturn, 1) := by decide +kernel
theorem dX11_betrayed_13 : decode cX11_betrayed 13 = .ok (.iconst 0, 1) := by decide +kernel
theorem dX11_betrayed_14 : decode cX11_betrayed 14 = .ok (.istore_n 1, 1) := by decide +kernel
theorem dX11_betrayed_15 : decode cX11_betrayed 15 = .ok (.iload_n 1, 1) := by decide +kernel
theorem dX11_betrayed_16 : decode cX11_betrayed 16 = .ok (.aload_n 0, 1) := by decide +kernel
theorem dX11_betrayed_17 : decode cX11_betrayed 17 = .ok (.getfield 19, 3) := by decide +kernel
theorem dX11_betrayed_20 : decode cX11_betrayed 20 = .ok (.getfield 148, 3) := by decide +kernel
theorem dX11_betrayed_23 : decode cX11_betrayed 23 = .ok (.if_icmp .ge 58, 3) := by decide +kernel
theorem dX11_betrayed_26 : decode cX11_betrayed 26 = .ok (.iload_n 1, 1) := by decide +kernel
theorem dX11_betrayed_27 : decode cX11_betrayed 27 = .ok (.iconst 1, 1) := by decide +kernel
theorem dX11_betrayed_28 : decode cX11_betrayed 28 = .ok (.iadd, 1) := by decide +kernel
theorem dX11_betrayed_29 : decode cX11_betrayed 29 = .ok (.istore_n 2, 1) := by decide +kernel
theorem dX11_betrayed_30 : decode cX11_betrayed 30 = .ok (.iload_n 2, 1) := by decide +kernel
theorem dX11_betrayed_31 : decode cX11_betrayed 31 = .ok (.aload_n 0, 1) := by decide +kernel
theorem dX11_betrayed_32 : decode cX11_betrayed 32 = .ok (.getfield 19, 3) := by decide +kernel
theorem dX11_betrayed_35 : decode cX11_betrayed 35 = .ok (.getfield 148, 3) := by decide +kernel
theorem dX11_betrayed_38 : decode cX11_betrayed 38 = .ok (.if_icmp .ge 37, 3) := by decide +kernel
theorem dX11_betrayed_41 : decode cX11_betrayed 41 = .ok (.aload_n 0, 1) := by decide +kernel
theorem dX11_betrayed_42 : decode cX11_betrayed 42 = .ok (.getfield 77, 3) := by decide +kernel
theorem dX11_betrayed_45 : decode cX11_betrayed 45 = .ok (.iconst 1, 1) := by decide +kernel
theorem dX11_betrayed_46 : decode cX11_betrayed 46 = .ok (.iload_n 1, 1) := by decide +kernel
theorem dX11_betrayed_47 : decode cX11_betrayed 47 = .ok (.ishl, 1) := by decide +kernel
theorem dX11_betrayed_48 : decode cX11_betrayed 48 = .ok (.iconst 1, 1) := by decide +kernel
theorem dX11_betrayed_49 : decode cX11_betrayed 49 = .ok (.iload_n 2, 1) := by decide +kernel
theorem dX11_betrayed_50 : decode cX11_betrayed 50 = .ok (.ishl, 1) := by decide +kernel
theorem dX11_betrayed_51 : decode cX11_betrayed 51 = .ok (.ior, 1) := by decide +kernel
theorem dX11_betrayed_52 : decode cX11_betrayed 52 = .ok (.invokevirtual 308, 3) := by decide +kernel
theorem dX11_betrayed_55 : decode cX11_betrayed 55 = .ok (.ifCond .ne 14, 3) := by decide +kernel
theorem dX11_betrayed_58 : decode cX11_betrayed 58 = .ok (.aload_n 0, 1) := by decide +kernel
theorem dX11_betrayed_59 : decode cX11_betrayed 59 = .ok (.bipush 8, 2) := by decide +kernel
theorem dX11_betrayed_61 : decode cX11_betrayed 61 = .ok (.iload_n 1, 1) := by decide +kernel
theorem dX11_betrayed_62 : decode cX11_betrayed 62 = .ok (.imul, 1) := by decide +kernel
theorem dX11_betrayed_63 : decode cX11_betrayed 63 = .ok (.iload_n 2, 1) := by decide +kernel
theorem dX11_betrayed_64 : decode cX11_betrayed 64 = .ok (.iadd, 1) := by decide +kernel
theorem dX11_betrayed_65 : decode cX11_betrayed 65 = .ok (.invokevirtual 119, 3) := by decide +kernel
theorem dX11_betrayed_68 : decode cX11_betrayed 68 = .ok (.ireturn, 1) := by decide +kernel
theorem dX11_betrayed_69 : decode cX11_betrayed 69 = .ok (.iinc 2 1, 3) := by decide +kernel
theorem dX11_betrayed_72 : decode cX11_betrayed 72 = .ok (.goto (-42), 3) := by decide +kernel
theorem dX11_betrayed_75 : decode cX11_betrayed 75 = .ok (.iinc 1 1, 3) := by decide +kernel
theorem dX11_betrayed_78 : decode cX11_betrayed 78 = .ok (.goto (-63), 3) := by decide +kernel
theorem dX11_betrayed_81 : decode cX11_betrayed 81 = .ok (.aload_n 0, 1) := by decide +kernel
theorem dX11_betrayed_82 : decode cX11_betrayed 82 = .ok (.bipush (-2), 2) := by decide +kernel
theorem dX11_betrayed_84 : decode cX11_betrayed 84 = .ok (.invokevirtual 119, 3) := by decide +kernel
theorem dX11_betrayed_87 : decode cX11_betrayed 87 = .ok (.ireturn, 1) := by decide +kernel
theorem dX11_swap_0 : decode cX11_swap 0 = .ok (.aload_n 0, 1) := by decide +kernel
theorem dX11_swap_1 : decode cX11_swap 1 = .ok (.iload_n 1, 1) := by decide +kernel
theorem dX11_swap_2 : decode cX11_swap 2 = .ok (.invokevirtual 178, 3) := by decide +kernel
theorem dX11_swap_5 : decode cX11_swap 5 = .ok (.ifCond .eq 16, 3) := by decide +kernel
theorem dX11_swap_8 : decode cX11_swap 8 = .ok (.aload_n 0, 1) := by decide +kernel
theorem dX11_swap_9 : decode cX11_swap 9 = .ok (.iload_n 2, 1) := by decide +kernel
theorem dX11_swap_10 : decode cX11_swap 10 = .ok (.invokevirtual 178, 3) := by decide +kernel
theorem dX11_swap_13 : decode cX11_swap 13 = .ok (.ifCond .eq 8, 3) := by decide +kernel
theorem dX11_swap_16 : decode cX11_swap 16 = .ok (.iload_n 1, 1) := by decide +kernel
theorem dX11_swap_17 : decode cX11_swap 17 = .ok (.iload_n 2, 1) := by decide +kernel
theorem dX11_swap_18 : decode cX11_swap 18 = .ok (.if_icmp .ne 9, 3) := by decide +kernel
theorem dX11_swap_21 : decode cX11_swap 21 = .ok (.aload_n 0, 1) := by decide +kernel
theorem dX11_swap_22 : decode cX11_swap 22 = .ok (.iconst 1, 1) := by decide +kernel
theorem dX11_swap_23 : decode cX11_swap 23 = .ok (.invokevirtual 310, 3) := by decide +kernel
theorem dX11_swap_26 : decode cX11_swap 26 = .ok (.ireturn, 1) := by decide +kernel
theorem dX11_swap_27 : decode cX11_swap 27 = .ok (.aload_n 0, 1) := by decide +kernel
theorem dX11_swap_28 : decode cX11_swap 28 = .ok (.getfield 38, 3) := by decide +kernel
theorem dX11_swap_31 : decode cX11_swap 31 = .ok (.getfield 155, 3) := by decide +kernel
theorem dX11_swap_34 : decode cX11_swap 34 = .ok (.iload_n 1, 1) := by decide +kernel
theorem dX11_swap_35 : decode cX11_swap 35 = .ok (.iload_n 2, 1) := by decide +kernel
theorem dX11_swap_36 : decode cX11_swap 36 = .ok (.invokestatic 313, 3) := by decide +kernel
theorem dX11_swap_39 : decode cX11_swap 39 = .ok (.istore_n 3, 1) := by decide +kernel
theorem dX11_swap_40 : decode cX11_swap 40 = .ok (.aload_n 0, 1) := by decide +kernel
theorem dX11_swap_41 : decode cX11_swap 41 = .ok (.getfield 19, 3) := by decide +kernel
theorem dX11_swap_44 : decode cX11_swap 44 = .ok (.iload_n 3, 1) := by decide +kernel
theorem dX11_swap_45 : decode cX11_swap 45 = .ok (.invokevirtual 316, 3) := by decide +kernel
theorem dX11_swap_48 : decode cX11_swap 48 = .ok (.ifCond .ne 9, 3) := by decide +kernel
theorem dX11_swap_51 : decode cX11_swap 51 = .ok (.aload_n 0, 1) := by decide +kernel
theorem dX11_swap_52 : decode cX11_swap 52 = .ok (.iconst 5, 1) := by decide +kernel
theorem dX11_swap_53 : decode cX11_swap 53 = .ok (.invokevirtual 310, 3) := by decide +kernel
theorem dX11_swap_56 : decode cX11_swap 56 = .ok (.ireturn, 1) := by decide +kernel
theorem dX11_swap_57 : decode cX11_swap 57 = .ok (.aload_n 0, 1) := by decide +kernel
theorem dX11_swap_58 : decode cX11_swap 58 = .ok (.getfield 45, 3) := by decide +kernel
theorem dX11_swap_61 : decode cX11_swap 61 = .ok (.aload_n 0, 1) := by decide +kernel
theorem dX11_swap_62 : decode cX11_swap 62 = .ok (.getfield 38, 3) := by decide +kernel
theorem dX11_swap_65 : decode cX11_swap 65 = .ok (.invokevirtual 319, 3) := by decide +kernel
theorem dX11_swap_68 : decode cX11_swap 68 = .ok (.invokevirtual 323, 3) := by decide +kernel
theorem dX11_swap_71 : decode cX11_swap 71 = .ok (.aload_n 0, 1) := by decide +kernel
theorem dX11_swap_72 : decode cX11_swap 72 = .ok (.getfield 38, 3) := by decide +kernel
theorem dX11_swap_75 : decode cX11_swap 75 = .ok (.iload_n 3, 1) := by decide +kernel
theorem dX11_swap_76 : decode cX11_swap 76 = .ok (.putfield 155, 3) := by decide +kernel
theorem dX11_swap_79 : decode cX11_swap 79 = .ok (.aload_n 0, 1) := by decide +kernel
theorem dX11_swap_80 : decode cX11_swap 80 = .ok (.invokevirtual 327, 3) := by decide +kernel
theorem dX11_swap_83 : decode cX11_swap 83 = .ok (.ireturn, 1) := by decide +kernel
theorem dX11_cast_0 : decode cX11_cast 0 = .ok (.aload_n 0, 1) := by decide +kernel
theorem dX11_cast_1 : decode cX11_cast 1 = .ok (.iload_n 1, 1) := by decide +kernel
theorem dX11_cast_2 : decode cX11_cast 2 = .ok (.invokevirtual 203, 3) := by decide +kernel
theorem dX11_cast_5 : decode cX11_cast 5 = .ok (.ifCond .ne 9, 3) := by decide +kernel
theorem dX11_cast_8 : decode cX11_cast 8 = .ok (.aload_n 0, 1) := by decide +kernel
theorem dX11_cast_9 : decode cX11_cast 9 = .ok (.iconst 1, 1) := by decide +kernel
theorem dX11_cast_10 : decode cX11_cast 10 = .ok (.invokevirtual 310, 3) := by decide +kernel
theorem dX11_cast_13 : decode cX11_cast 13 = .ok (.ireturn, 1) := by decide +kernel
theorem dX11_cast_14 : decode cX11_cast 14 = .ok (.iload_n 2, 1) := by decide +kernel
theorem dX11_cast_15 : decode cX11_cast 15 = .ok (.ifCond .lt 9, 3) := by decide +kernel
theorem dX11_cast_18 : decode cX11_cast 18 = .ok (.iload_n 2, 1) := by decide +kernel
theorem dX11_cast_19 : decode cX11_cast 19 = .ok (.bipush 7, 2) := by decide +kernel
theorem dX11_cast_21 : decode cX11_cast 21 = .ok (.if_icmp .lt 9, 3) := by decide +kernel
theorem dX11_cast_24 : decode cX11_cast 24 = .ok (.aload_n 0, 1) := by decide +kernel
theorem dX11_cast_25 : decode cX11_cast 25 = .ok (.iconst 2, 1) := by decide +kernel
theorem dX11_cast_26 : decode cX11_cast 26 = .ok (.invokevirtual 310, 3) := by decide +kernel
theorem dX11_cast_29 : decode cX11_cast 29 = .ok (.ireturn, 1) := by decide +kernel
theorem dX11_cast_30 : decode cX11_cast 30 = .ok (.aload_n 0, 1) := by decide +kernel
theorem dX11_cast_31 : decode cX11_cast 31 = .ok (.getfield 38, 3) := by decide +kernel
theorem dX11_cast_34 : decode cX11_cast 34 = .ok (.iload_n 1, 1) := by decide +kernel
theorem dX11_cast_35 : decode cX11_cast 35 = .ok (.invokevirtual 253, 3) := by decide +kernel
theorem dX11_cast_38 : decode cX11_cast 38 = .ok (.iload_n 2, 1) := by decide +kernel
theorem dX11_cast_39 : decode cX11_cast 39 = .ok (.if_icmp .ne 9, 3) := by decide +kernel
theorem dX11_cast_42 : decode cX11_cast 42 = .ok (.aload_n 0, 1) := by decide +kernel
theorem dX11_cast_43 : decode cX11_cast 43 = .ok (.iconst 5, 1) := by decide +kernel
theorem dX11_cast_44 : decode cX11_cast 44 = .ok (.invokevirtual 310, 3) := by decide +kernel
theorem dX11_cast_47 : decode cX11_cast 47 = .ok (.ireturn, 1) := by decide +kernel
theorem dX11_cast_48 : decode cX11_cast 48 = .ok (.aload_n 0, 1) := by decide +kernel
theorem dX11_cast_49 : decode cX11_cast 49 = .ok (.getfield 45, 3) := by decide +kernel
theorem dX11_cast_52 : decode cX11_cast 52 = .ok (.aload_n 0, 1) := by decide +kernel
theorem dX11_cast_53 : decode cX11_cast 53 = .ok (.getfield 38, 3) := by decide +kernel
theorem dX11_cast_56 : decode cX11_cast 56 = .ok (.invokevirtual 319, 3) := by decide +kernel
theorem dX11_cast_59 : decode cX11_cast 59 = .ok (.invokevirtual 323, 3) := by decide +kernel
theorem dX11_cast_62 : decode cX11_cast 62 = .ok (.aload_n 0, 1) := by decide +kernel
theorem dX11_cast_63 : decode cX11_cast 63 = .ok (.getfield 38, 3) := by decide +kernel
theorem dX11_cast_66 : decode cX11_cast 66 = .ok (.iload_n 1, 1) := by decide +kernel
theorem dX11_cast_67 : decode cX11_cast 67 = .ok (.iload_n 2, 1) := by decide +kernel
theorem dX11_cast_68 : decode cX11_cast 68 = .ok (.invokevirtual 330, 3) := by decide +kernel
theorem dX11_cast_71 : decode cX11_cast 71 = .ok (.aload_n 0, 1) := by decide +kernel
theorem dX11_cast_72 : decode cX11_cast 72 = .ok (.invokevirtual 327, 3) := by decide +kernel
theorem dX11_cast_75 : decode cX11_cast 75 = .ok (.ireturn, 1) := by decide +kernel
theorem dX11_cut_0 : decode cX11_cut 0 = .ok (.aload_n 0, 1) := by decide +kernel
theorem dX11_cut_1 : decode cX11_cut 1 = .ok (.iload_n 1, 1) := by decide +kernel
theorem dX11_cut_2 : decode cX11_cut 2 = .ok (.invokevirtual 194, 3) := by decide +kernel
theorem dX11_cut_5 : decode cX11_cut 5 = .ok (.ifCond .ne 9, 3) := by decide +kernel
theorem dX11_cut_8 : decode cX11_cut 8 = .ok (.aload_n 0, 1) := by decide +kernel
theorem dX11_cut_9 : decode cX11_cut 9 = .ok (.iconst 1, 1) := by decide +kernel
theorem dX11_cut_10 : decode cX11_cut 10 = .ok (.invokevirtual 310, 3) := by decide +kernel
theorem dX11_cut_13 : decode cX11_cut 13 = .ok (.ireturn, 1) := by decide +kernel
theorem dX11_cut_14 : decode cX11_cut 14 = .ok (.aload_n 0, 1) := by decide +kernel
theorem dX11_cut_15 : decode cX11_cut 15 = .ok (.getfield 38, 3) := by decide +kernel
theorem dX11_cut_18 : decode cX11_cut 18 = .ok (.iload_n 1, 1) := by decide +kernel
theorem dX11_cut_19 : decode cX11_cut 19 = .ok (.invokevirtual 246, 3) := by decide +kernel
theorem dX11_cut_22 : decode cX11_cut 22 = .ok (.iload_n 2, 1) := by decide +kernel
theorem dX11_cut_23 : decode cX11_cut 23 = .ok (.if_icmp .ne 9, 3) := by decide +kernel
theorem dX11_cut_26 : decode cX11_cut 26 = .ok (.aload_n 0, 1) := by decide +kernel
theorem dX11_cut_27 : decode cX11_cut 27 = .ok (.iconst 5, 1) := by decide +kernel
theorem dX11_cut_28 : decode cX11_cut 28 = .ok (.invokevirtual 310, 3) := by decide +kernel
theorem dX11_cut_31 : decode cX11_cut 31 = .ok (.ireturn, 1) := by decide +kernel
theorem dX11_cut_32 : decode cX11_cut 32 = .ok (.aload_n 0, 1) := by decide +kernel
theorem dX11_cut_33 : decode cX11_cut 33 = .ok (.getfield 45, 3) := by decide +kernel
theorem dX11_cut_36 : decode cX11_cut 36 = .ok (.aload_n 0, 1) := by decide +kernel
theorem dX11_cut_37 : decode cX11_cut 37 = .ok (.getfield 38, 3) := by decide +kernel
theorem dX11_cut_40 : decode cX11_cut 40 = .ok (.invokevirtual 319, 3) := by decide +kernel
theorem dX11_cut_43 : decode cX11_cut 43 = .ok (.invokevirtual 323, 3) := by decide +kernel
theorem dX11_cut_46 : decode cX11_cut 46 = .ok (.aload_n 0, 1) := by decide +kernel
theorem dX11_cut_47 : decode cX11_cut 47 = .ok (.getfield 38, 3) := by decide +kernel
theorem dX11_cut_50 : decode cX11_cut 50 = .ok (.dup, 1) := by decide +kernel
theorem dX11_cut_51 : decode cX11_cut 51 = .ok (.getfield 161, 3) := by decide +kernel
theorem dX11_cut_54 : decode cX11_cut 54 = .ok (.iconst 1, 1) := by decide +kernel
theorem dX11_cut_55 : decode cX11_cut 55 = .ok (.iload_n 1, 1) := by decide +kernel
theorem dX11_cut_56 : decode cX11_cut 56 = .ok (.ishl, 1) := by decide +kernel
theorem dX11_cut_57 : decode cX11_cut 57 = .ok (.ixor, 1) := by decide +kernel
theorem dX11_cut_58 : decode cX11_cut 58 = .ok (.putfield 161, 3) := by decide +kernel
theorem dX11_cut_61 : decode cX11_cut 61 = .ok (.aload_n 0, 1) := by decide +kernel
theorem dX11_cut_62 : decode cX11_cut 62 = .ok (.invokevirtual 327, 3) := by decide +kernel
theorem dX11_cut_65 : decode cX11_cut 65 = .ok (.ireturn, 1) := by decide +kernel
theorem dX11_done_0 : decode cX11_done 0 = .ok (.aload_n 0, 1) := by decide +kernel
theorem dX11_done_1 : decode cX11_done 1 = .ok (.iconst 0, 1) := by decide +kernel
theorem dX11_done_2 : decode cX11_done 2 = .ok (.putfield 81, 3) := by decide +kernel
theorem dX11_done_5 : decode cX11_done 5 = .ok (.iconst 1, 1) := by decide +kernel
theorem dX11_done_6 : decode cX11_done 6 = .ok (.ireturn, 1) := by decide +kernel
theorem dX11_undo_0 : decode cX11_undo 0 = .ok (.aload_n 0, 1) := by decide +kernel
theorem dX11_undo_1 : decode cX11_undo 1 = .ok (.getfield 45, 3) := by decide +kernel
theorem dX11_undo_4 : decode cX11_undo 4 = .ok (.getfield 334, 3) := by decide +kernel
theorem dX11_undo_7 : decode cX11_undo 7 = .ok (.ifCond .ne 10, 3) := by decide +kernel
theorem dX11_undo_10 : decode cX11_undo 10 = .ok (.aload_n 0, 1) := by decide +kernel
theorem dX11_undo_11 : decode cX11_undo 11 = .ok (.bipush 6, 2) := by decide +kernel
theorem dX11_undo_13 : decode cX11_undo 13 = .ok (.invokevirtual 310, 3) := by decide +kernel
theorem dX11_undo_16 : decode cX11_undo 16 = .ok (.ireturn, 1) := by decide +kernel
theorem dX11_undo_17 : decode cX11_undo 17 = .ok (.aload_n 0, 1) := by decide +kernel
theorem dX11_undo_18 : decode cX11_undo 18 = .ok (.getfield 38, 3) := by decide +kernel
theorem dX11_undo_21 : decode cX11_undo 21 = .ok (.aload_n 0, 1) := by decide +kernel
theorem dX11_undo_22 : decode cX11_undo 22 = .ok (.getfield 45, 3) := by decide +kernel
theorem dX11_undo_25 : decode cX11_undo 25 = .ok (.aload_n 0, 1) := by decide +kernel
theorem dX11_undo_26 : decode cX11_undo 26 = .ok (.getfield 38, 3) := by decide +kernel
theorem dX11_undo_29 : decode cX11_undo 29 = .ok (.invokevirtual 319, 3) := by decide +kernel
theorem dX11_undo_32 : decode cX11_undo 32 = .ok (.invokevirtual 337, 3) := by decide +kernel
theorem dX11_undo_35 : decode cX11_undo 35 = .ok (.invokevirtual 341, 3) := by decide +kernel
theorem dX11_undo_38 : decode cX11_undo 38 = .ok (.aload_n 0, 1) := by decide +kernel
theorem dX11_undo_39 : decode cX11_undo 39 = .ok (.invokevirtual 327, 3) := by decide +kernel
theorem dX11_undo_42 : decode cX11_undo 42 = .ok (.ireturn, 1) := by decide +kernel
theorem dX11_redo_0 : decode cX11_redo 0 = .ok (.aload_n 0, 1) := by decide +kernel
theorem dX11_redo_1 : decode cX11_redo 1 = .ok (.getfield 45, 3) := by decide +kernel
theorem dX11_redo_4 : decode cX11_redo 4 = .ok (.getfield 344, 3) := by decide +kernel
theorem dX11_redo_7 : decode cX11_redo 7 = .ok (.ifCond .ne 10, 3) := by decide +kernel
theorem dX11_redo_10 : decode cX11_redo 10 = .ok (.aload_n 0, 1) := by decide +kernel
theorem dX11_redo_11 : decode cX11_redo 11 = .ok (.bipush 6, 2) := by decide +kernel
theorem dX11_redo_13 : decode cX11_redo 13 = .ok (.invokevirtual 310, 3) := by decide +kernel
theorem dX11_redo_16 : decode cX11_redo 16 = .ok (.ireturn, 1) := by decide +kernel
theorem dX11_redo_17 : decode cX11_redo 17 = .ok (.aload_n 0, 1) := by decide +kernel
theorem dX11_redo_18 : decode cX11_redo 18 = .ok (.getfield 38, 3) := by decide +kernel
theorem dX11_redo_21 : decode cX11_redo 21 = .ok (.aload_n 0, 1) := by decide +kernel
theorem dX11_redo_22 : decode cX11_redo 22 = .ok (.getfield 45, 3) := by decide +kernel
theorem dX11_redo_25 : decode cX11_redo 25 = .ok (.aload_n 0, 1) := by decide +kernel
theorem dX11_redo_26 : decode cX11_redo 26 = .ok (.getfield 38, 3) := by decide +kernel
theorem dX11_redo_29 : decode cX11_redo 29 = .ok (.invokevirtual 319, 3) := by decide +kernel
theorem dX11_redo_32 : decode cX11_redo 32 = .ok (.invokevirtual 347, 3) := by decide +kernel
theorem dX11_redo_35 : decode cX11_redo 35 = .ok (.invokevirtual 341, 3) := by decide +kernel
theorem dX11_redo_38 : decode cX11_redo 38 = .ok (.aload_n 0, 1) := by decide +kernel
theorem dX11_redo_39 : decode cX11_redo 39 = .ok (.invokevirtual 327, 3) := by decide +kernel
theorem dX11_redo_42 : decode cX11_redo 42 = .ok (.ireturn, 1) := by decide +kernel
theorem dX11_image_0 : decode cX11_image 0 = .ok (.aload_n 0, 1) := by decide +kernel
theorem dX11_image_1 : decode cX11_image 1 = .ok (.invokevirtual 151, 3) := by decide +kernel
theorem dX11_image_4 : decode cX11_image 4 = .ok (.ifCond .eq 9, 3) := by decide +kernel
theorem dX11_image_7 : decode cX11_image 7 = .ok (.aload_n 0, 1) := by decide +kernel
theorem dX11_image_8 : decode cX11_image 8 = .ok (.iconst 1, 1) := by decide +kernel
theorem dX11_image_9 : decode cX11_image 9 = .ok (.invokevirtual 102, 3) := by decide +kernel
theorem dX11_image_12 : decode cX11_image 12 = .ok (.ireturn, 1) := by decide +kernel
theorem dX11_image_13 : decode cX11_image 13 = .ok (.aload_n 0, 1) := by decide +kernel
theorem dX11_image_14 : decode cX11_image 14 = .ok (.getfield 45, 3) := by decide +kernel
theorem dX11_image_17 : decode cX11_image 17 = .ok (.getfield 350, 3) := by decide +kernel
theorem dX11_image_20 : decode cX11_image 20 = .ok (.iconst 3, 1) := by decide +kernel
theorem dX11_image_21 : decode cX11_image 21 = .ok (.if_icmp .ne 9, 3) := by decide +kernel
theorem dX11_image_24 : decode cX11_image 24 = .ok (.aload_n 0, 1) := by decide +kernel
theorem dX11_image_25 : decode cX11_image 25 = .ok (.iconst 3, 1) := by decide +kernel
theorem dX11_image_26 : decode cX11_image 26 = .ok (.invokevirtual 102, 3) := by decide +kernel
theorem dX11_image_29 : decode cX11_image 29 = .ok (.ireturn, 1) := by decide +kernel
theorem dX11_image_30 : decode cX11_image 30 = .ok (.aload_n 0, 1) := by decide +kernel
theorem dX11_image_31 : decode cX11_image 31 = .ok (.aload_n 0, 1) := by decide +kernel
theorem dX11_image_32 : decode cX11_image 32 = .ok (.getfield 45, 3) := by decide +kernel
theorem dX11_image_35 : decode cX11_image 35 = .ok (.aload_n 0, 1) := by decide +kernel
theorem dX11_image_36 : decode cX11_image 36 = .ok (.getfield 38, 3) := by decide +kernel
theorem dX11_image_39 : decode cX11_image 39 = .ok (.invokevirtual 319, 3) := by decide +kernel
theorem dX11_image_42 : decode cX11_image 42 = .ok (.invokevirtual 353, 3) := by decide +kernel
theorem dX11_image_45 : decode cX11_image 45 = .ok (.invokevirtual 119, 3) := by decide +kernel
theorem dX11_image_48 : decode cX11_image 48 = .ok (.ireturn, 1) := by decide +kernel
theorem dX11_back_0 : decode cX11_back 0 = .ok (.iload_n 1, 1) := by decide +kernel
theorem dX11_back_1 : decode cX11_back 1 = .ok (.ifCond .lt 14, 3) := by decide +kernel
theorem dX11_back_4 : decode cX11_back 4 = .ok (.iload_n 1, 1) := by decide +kernel
theorem dX11_back_5 : decode cX11_back 5 = .ok (.aload_n 0, 1) := by decide +kernel
theorem dX11_back_6 : decode cX11_back 6 = .ok (.getfield 45, 3) := by decide +kernel
theorem dX11_back_9 : decode cX11_back 9 = .ok (.getfield 350, 3) := by decide +kernel
theorem dX11_back_12 : decode cX11_back 12 = .ok (.if_icmp .lt 9, 3) := by decide +kernel
theorem dX11_back_15 : decode cX11_back 15 = .ok (.aload_n 0, 1) := by decide +kernel
theorem dX11_back_16 : decode cX11_back 16 = .ok (.iconst 1, 1) := by decide +kernel
theorem dX11_back_17 : decode cX11_back 17 = .ok (.invokevirtual 310, 3) := by decide +kernel
theorem dX11_back_20 : decode cX11_back 20 = .ok (.ireturn, 1) := by decide +kernel
theorem dX11_back_21 : decode cX11_back 21 = .ok (.aload_n 0, 1) := by decide +kernel
theorem dX11_back_22 : decode cX11_back 22 = .ok (.getfield 38, 3) := by decide +kernel
theorem dX11_back_25 : decode cX11_back 25 = .ok (.aload_n 0, 1) := by decide +kernel
theorem dX11_back_26 : decode cX11_back 26 = .ok (.getfield 45, 3) := by decide +kernel
theorem dX11_back_29 : decode cX11_back 29 = .ok (.getfield 357, 3) := by decide +kernel
theorem dX11_back_32 : decode cX11_back 32 = .ok (.iload_n 1, 1) := by decide +kernel
theorem dX11_back_33 : decode cX11_back 33 = .ok (.laload, 1) := by decide +kernel
theorem dX11_back_34 : decode cX11_back 34 = .ok (.invokevirtual 341, 3) := by decide +kernel
theorem dX11_back_37 : decode cX11_back 37 = .ok (.aload_n 0, 1) := by decide +kernel
theorem dX11_back_38 : decode cX11_back 38 = .ok (.getfield 45, 3) := by decide +kernel
theorem dX11_back_41 : decode cX11_back 41 = .ok (.invokevirtual 361, 3) := by decide +kernel
theorem dX11_back_44 : decode cX11_back 44 = .ok (.aload_n 0, 1) := by decide +kernel
theorem dX11_back_45 : decode cX11_back 45 = .ok (.invokevirtual 327, 3) := by decide +kernel
theorem dX11_back_48 : decode cX11_back 48 = .ok (.ireturn, 1) := by decide +kernel
theorem dX11_part_0 : decode cX11_part 0 = .ok (.aload_n 0, 1) := by decide +kernel
theorem dX11_part_1 : decode cX11_part 1 = .ok (.iload_n 1, 1) := by decide +kernel
theorem dX11_part_2 : decode cX11_part 2 = .ok (.invokevirtual 203, 3) := by decide +kernel
theorem dX11_part_5 : decode cX11_part 5 = .ok (.ifCond .eq 12, 3) := by decide +kernel
theorem dX11_part_8 : decode cX11_part 8 = .ok (.iload_n 2, 1) := by decide +kernel
theorem dX11_part_9 : decode cX11_part 9 = .ok (.ifCond .lt 8, 3) := by decide +kernel
theorem dX11_part_12 : decode cX11_part 12 = .ok (.iload_n 2, 1) := by decide +kernel
theorem dX11_part_13 : decode cX11_part 13 = .ok (.iconst 5, 1) := by decide +kernel
theorem dX11_part_14 : decode cX11_part 14 = .ok (.if_icmp .le 9, 3) := by decide +kernel
theorem dX11_part_17 : decode cX11_part 17 = .ok (.aload_n 0, 1) := by decide +kernel
theorem dX11_part_18 : decode cX11_part 18 = .ok (.iconst 1, 1) := by decide +kernel
theorem dX11_part_19 : decode cX11_part 19 = .ok (.invokevirtual 102, 3) := by decide +kernel
theorem dX11_part_22 : decode cX11_part 22 = .ok (.ireturn, 1) := by decide +kernel
theorem dX11_part_23 : decode cX11_part 23 = .ok (.aload_n 0, 1) := by decide +kernel
theorem dX11_part_24 : decode cX11_part 24 = .ok (.iload_n 2, 1) := by decide +kernel
theorem dX11_part_25 : decode cX11_part 25 = .ok (.iconst 5, 1) := by decide +kernel
theorem dX11_part_26 : decode cX11_part 26 = .ok (.if_icmp .ne 14, 3) := by decide +kernel
theorem dX11_part_29 : decode cX11_part 29 = .ok (.aload_n 0, 1) := by decide +kernel
theorem dX11_part_30 : decode cX11_part 30 = .ok (.getfield 38, 3) := by decide +kernel
theorem dX11_part_33 : decode cX11_part 33 = .ok (.iload_n 1, 1) := by decide +kernel
theorem dX11_part_34 : decode cX11_part 34 = .ok (.invokevirtual 253, 3) := by decide +kernel
theorem dX11_part_37 : decode cX11_part 37 = .ok (.goto 14, 3) := by decide +kernel
theorem dX11_part_40 : decode cX11_part 40 = .ok (.aload_n 0, 1) := by decide +kernel
theorem dX11_part_41 : decode cX11_part 41 = .ok (.getfield 19, 3) := by decide +kernel
theorem dX11_part_44 : decode cX11_part 44 = .ok (.getfield 364, 3) := by decide +kernel
theorem dX11_part_47 : decode cX11_part 47 = .ok (.iload_n 1, 1) := by decide +kernel
theorem dX11_part_48 : decode cX11_part 48 = .ok (.aaload, 1) := by decide +kernel
theorem dX11_part_49 : decode cX11_part 49 = .ok (.iload_n 2, 1) := by decide +kernel
theorem dX11_part_50 : decode cX11_part 50 = .ok (.iaload, 1) := by decide +kernel
theorem dX11_part_51 : decode cX11_part 51 = .ok (.invokevirtual 119, 3) := by decide +kernel
theorem dX11_part_54 : decode cX11_part 54 = .ok (.ireturn, 1) := by decide +kernel
theorem dX11_on_0 : decode cX11_on 0 = .ok (.aload_n 0, 1) := by decide +kernel
theorem dX11_on_1 : decode cX11_on 1 = .ok (.iload_n 1, 1) := by decide +kernel
theorem dX11_on_2 : decode cX11_on 2 = .ok (.invokevirtual 194, 3) := by decide +kernel
theorem dX11_on_5 : decode cX11_on 5 = .ok (.ifCond .eq 12, 3) := by decide +kernel
theorem dX11_on_8 : decode cX11_on 8 = .ok (.iload_n 2, 1) := by decide +kernel
theorem dX11_on_9 : decode cX11_on 9 = .ok (.ifCond .lt 8, 3) := by decide +kernel
theorem dX11_on_12 : decode cX11_on 12 = .ok (.iload_n 2, 1) := by decide +kernel
theorem dX11_on_13 : decode cX11_on 13 = .ok (.iconst 5, 1) := by decide +kernel
theorem dX11_on_14 : decode cX11_on 14 = .ok (.if_icmp .le 9, 3) := by decide +kernel
theorem dX11_on_17 : decode cX11_on 17 = .ok (.aload_n 0, 1) := by decide +kernel
theorem dX11_on_18 : decode cX11_on 18 = .ok (.iconst 1, 1) := by decide +kernel
theorem dX11_on_19 : decode cX11_on 19 = .ok (.invokevirtual 102, 3) := by decide +kernel
theorem dX11_on_22 : decode cX11_on 22 = .ok (.ireturn, 1) := by decide +kernel
theorem dX11_on_23 : decode cX11_on 23 = .ok (.iload_n 2, 1) := by decide +kernel
theorem dX11_on_24 : decode cX11_on 24 = .ok (.iconst 5, 1) := by decide +kernel
theorem dX11_on_25 : decode cX11_on 25 = .ok (.if_icmp .ne 16, 3) := by decide +kernel
theorem dX11_on_28 : decode cX11_on 28 = .ok (.aload_n 0, 1) := by decide +kernel
theorem dX11_on_29 : decode cX11_on 29 = .ok (.aload_n 0, 1) := by decide +kernel
theorem dX11_on_30 : decode cX11_on 30 = .ok (.getfield 38, 3) := by decide +kernel
theorem dX11_on_33 : decode cX11_on 33 = .ok (.iload_n 1, 1) := by decide +kernel
theorem dX11_on_34 : decode cX11_on 34 = .ok (.invokevirtual 246, 3) := by decide +kernel
theorem dX11_on_37 : decode cX11_on 37 = .ok (.invokevirtual 217, 3) := by decide +kernel
theorem dX11_on_40 : decode cX11_on 40 = .ok (.ireturn, 1) := by decide +kernel
theorem dX11_on_41 : decode cX11_on 41 = .ok (.aload_n 0, 1) := by decide +kernel
theorem dX11_on_42 : decode cX11_on 42 = .ok (.aload_n 0, 1) := by decide +kernel
theorem dX11_on_43 : decode cX11_on 43 = .ok (.getfield 19, 3) := by decide +kernel
theorem dX11_on_46 : decode cX11_on 46 = .ok (.getfield 249, 3) := by decide +kernel
theorem dX11_on_49 : decode cX11_on 49 = .ok (.iload_n 1, 1) := by decide +kernel
theorem dX11_on_50 : decode cX11_on 50 = .ok (.aaload, 1) := by decide +kernel
theorem dX11_on_51 : decode cX11_on 51 = .ok (.iload_n 2, 1) := by decide +kernel
theorem dX11_on_52 : decode cX11_on 52 = .ok (.iaload, 1) := by decide +kernel
theorem dX11_on_53 : decode cX11_on 53 = .ok (.invokevirtual 119, 3) := by decide +kernel
theorem dX11_on_56 : decode cX11_on 56 = .ok (.ireturn, 1) := by decide +kernel
theorem dX11_led_0 : decode cX11_led 0 = .ok (.iconst (-1), 1) := by decide +kernel
theorem dX11_led_1 : decode cX11_led 1 = .ok (.istore_n 3, 1) := by decide +kernel
theorem dX11_led_2 : decode cX11_led 2 = .ok (.aload_n 0, 1) := by decide +kernel
theorem dX11_led_3 : decode cX11_led 3 = .ok (.iload_n 1, 1) := by decide +kernel
theorem dX11_led_4 : decode cX11_led 4 = .ok (.invokevirtual 228, 3) := by decide +kernel
theorem dX11_led_7 : decode cX11_led 7 = .ok (.ifCond .eq 21, 3) := by decide +kernel
theorem dX11_led_10 : decode cX11_led 10 = .ok (.iload_n 2, 1) := by decide +kernel
theorem dX11_led_11 : decode cX11_led 11 = .ok (.ifCond .lt 17, 3) := by decide +kernel
theorem dX11_led_14 : decode cX11_led 14 = .ok (.aload_n 0, 1) := by decide +kernel
theorem dX11_led_15 : decode cX11_led 15 = .ok (.invokevirtual 184, 3) := by decide +kernel
theorem dX11_led_18 : decode cX11_led 18 = .ok (.aload_n 0, 1) := by decide +kernel
theorem dX11_led_19 : decode cX11_led 19 = .ok (.iload_n 1, 1) := by decide +kernel
theorem dX11_led_20 : decode cX11_led 20 = .ok (.invokevirtual 231, 3) := by decide +kernel
theorem dX11_led_23 : decode cX11_led 23 = .ok (.iload_n 2, 1) := by decide +kernel
theorem dX11_led_24 : decode cX11_led 24 = .ok (.invokevirtual 367, 3) := by decide +kernel
theorem dX11_led_27 : decode cX11_led 27 = .ok (.istore_n 3, 1) := by decide +kernel
theorem dX11_led_28 : decode cX11_led 28 = .ok (.iload_n 3, 1) := by decide +kernel
theorem dX11_led_29 : decode cX11_led 29 = .ok (.iconst (-1), 1) := by decide +kernel
theorem dX11_led_30 : decode cX11_led 30 = .ok (.if_icmp .ne 11, 3) := by decide +kernel
theorem dX11_led_33 : decode cX11_led 33 = .ok (.new 370, 3) := by decide +kernel
theorem dX11_led_36 : decode cX11_led 36 = .ok (.dup, 1) := by decide +kernel
theorem dX11_led_37 : decode cX11_led 37 = .ok (.invokespecial 372, 3) := by decide +kernel
theorem dX11_led_40 : decode cX11_led 40 = .ok (.athrow, 1) := by decide +kernel
theorem dX11_led_41 : decode cX11_led 41 = .ok (.iload_n 3, 1) := by decide +kernel
theorem dX11_led_42 : decode cX11_led 42 = .ok (.ireturn, 1) := by decide +kernel
theorem dX11_size_0 : decode cX11_size 0 = .ok (.iload_n 1, 1) := by decide +kernel
theorem dX11_size_1 : decode cX11_size 1 = .ok (.tableswitch 135 0 9 #[55, 63, 71, 79, 87, 95, 103, 111, 119, 127], 55) := by decide +kernel
theorem dX11_size_56 : decode cX11_size 56 = .ok (.aload_n 0, 1) := by decide +kernel
theorem dX11_size_57 : decode cX11_size 57 = .ok (.getfield 19, 3) := by decide +kernel
theorem dX11_size_60 : decode cX11_size 60 = .ok (.getfield 142, 3) := by decide +kernel
theorem dX11_size_63 : decode cX11_size 63 = .ok (.ireturn, 1) := by decide +kernel
theorem dX11_size_64 : decode cX11_size 64 = .ok (.aload_n 0, 1) := by decide +kernel
theorem dX11_size_65 : decode cX11_size 65 = .ok (.getfield 19, 3) := by decide +kernel
theorem dX11_size_68 : decode cX11_size 68 = .ok (.getfield 145, 3) := by decide +kernel
theorem dX11_size_71 : decode cX11_size 71 = .ok (.ireturn, 1) := by decide +kernel
theorem dX11_size_72 : decode cX11_size 72 = .ok (.aload_n 0, 1) := by decide +kernel
theorem dX11_size_73 : decode cX11_size 73 = .ok (.getfield 19, 3) := by decide +kernel
theorem dX11_size_76 : decode cX11_size 76 = .ok (.getfield 116, 3) := by decide +kernel
theorem dX11_size_79 : decode cX11_size 79 = .ok (.ireturn, 1) := by decide +kernel
theorem dX11_size_80 : decode cX11_size 80 = .ok (.aload_n 0, 1) := by decide +kernel
theorem dX11_size_81 : decode cX11_size 81 = .ok (.getfield 19, 3) := by decide +kernel
theorem dX11_size_84 : decode cX11_size 84 = .ok (.getfield 373, 3) := by decide +kernel
theorem dX11_size_87 : decode cX11_size 87 = .ok (.ireturn, 1) := by decide +kernel
theorem dX11_size_88 : decode cX11_size 88 = .ok (.aload_n 0, 1) := by decide +kernel
theorem dX11_size_89 : decode cX11_size 89 = .ok (.getfield 19, 3) := by decide +kernel
theorem dX11_size_92 : decode cX11_size 92 = .ok (.getfield 148, 3) := by decide +kernel
theorem dX11_size_95 : decode cX11_size 95 = .ok (.ireturn, 1) := by decide +kernel
theorem dX11_size_96 : decode cX11_size 96 = .ok (.aload_n 0, 1) := by decide +kernel
theorem dX11_size_97 : decode cX11_size 97 = .ok (.getfield 19, 3) := by decide +kernel
theorem dX11_size_100 : decode cX11_size 100 = .ok (.getfield 281, 3) := by decide +kernel
theorem dX11_size_103 : decode cX11_size 103 = .ok (.ireturn, 1) := by decide +kernel
theorem dX11_size_104 : decode cX11_size 104 = .ok (.aload_n 0, 1) := by decide +kernel
theorem dX11_size_105 : decode cX11_size 105 = .ok (.getfield 45, 3) := by decide +kernel
theorem dX11_size_108 : decode cX11_size 108 = .ok (.getfield 334, 3) := by decide +kernel
theorem dX11_size_111 : decode cX11_size 111 = .ok (.ireturn, 1) := by decide +kernel
theorem dX11_size_112 : decode cX11_size 112 = .ok (.aload_n 0, 1) := by decide +kernel
theorem dX11_size_113 : decode cX11_size 113 = .ok (.getfield 45, 3) := by decide +kernel
theorem dX11_size_116 : decode cX11_size 116 = .ok (.getfield 344, 3) := by decide +kernel
theorem dX11_size_119 : decode cX11_size 119 = .ok (.ireturn, 1) := by decide +kernel
theorem dX11_size_120 : decode cX11_size 120 = .ok (.aload_n 0, 1) := by decide +kernel
theorem dX11_size_121 : decode cX11_size 121 = .ok (.getfield 45, 3) := by decide +kernel
theorem dX11_size_124 : decode cX11_size 124 = .ok (.getfield 350, 3) := by decide +kernel
theorem dX11_size_127 : decode cX11_size 127 = .ok (.ireturn, 1) := by decide +kernel
theorem dX11_size_128 : decode cX11_size 128 = .ok (.aload_n 0, 1) := by decide +kernel
theorem dX11_size_129 : decode cX11_size 129 = .ok (.getfield 10, 3) := by decide +kernel
theorem dX11_size_132 : decode cX11_size 132 = .ok (.getfield 99, 3) := by decide +kernel
theorem dX11_size_135 : decode cX11_size 135 = .ok (.ireturn, 1) := by decide +kernel
theorem dX11_size_136 : decode cX11_size 136 = .ok (.iconst (-1), 1) := by decide +kernel
theorem dX11_size_137 : decode cX11_size 137 = .ok (.ireturn, 1) := by decide +kernel
theorem dX11_trouble_0 : decode cX11_trouble 0 = .ok (.aload_n 0, 1) := by decide +kernel
theorem dX11_trouble_1 : decode cX11_trouble 1 = .ok (.getfield 81, 3) := by decide +kernel
theorem dX11_trouble_4 : decode cX11_trouble 4 = .ok (.ireturn, 1) := by decide +kernel
theorem dX11_shiftAt_0 : decode cX11_shiftAt 0 = .ok (.iconst 3, 1) := by decide +kernel
theorem dX11_shiftAt_1 : decode cX11_shiftAt 1 = .ok (.iconst 4, 1) := by decide +kernel
theorem dX11_shiftAt_2 : decode cX11_shiftAt 2 = .ok (.iload_n 0, 1) := by decide +kernel
theorem dX11_shiftAt_3 : decode cX11_shiftAt 3 = .ok (.isub, 1) := by decide +kernel
theorem dX11_shiftAt_4 : decode cX11_shiftAt 4 = .ok (.imul, 1) := by decide +kernel
theorem dX11_shiftAt_5 : decode cX11_shiftAt 5 = .ok (.ireturn, 1) := by decide +kernel
theorem dX11_sceneAt_0 : decode cX11_sceneAt 0 = .ok (.iload_n 0, 1) := by decide +kernel
theorem dX11_sceneAt_1 : decode cX11_sceneAt 1 = .ok (.iload_n 1, 1) := by decide +kernel
theorem dX11_sceneAt_2 : decode cX11_sceneAt 2 = .ok (.invokestatic 376, 3) := by decide +kernel
theorem dX11_sceneAt_5 : decode cX11_sceneAt 5 = .ok (.ishr, 1) := by decide +kernel
theorem dX11_sceneAt_6 : decode cX11_sceneAt 6 = .ok (.bipush 7, 2) := by decide +kernel
theorem dX11_sceneAt_8 : decode cX11_sceneAt 8 = .ok (.iand, 1) := by decide +kernel
theorem dX11_sceneAt_9 : decode cX11_sceneAt 9 = .ok (.ireturn, 1) := by decide +kernel
theorem dX11_swapped_0 : decode cX11_swapped 0 = .ok (.iload_n 0, 1) := by decide +kernel
theorem dX11_swapped_1 : decode cX11_swapped 1 = .ok (.iload_n 1, 1) := by decide +kernel
theorem dX11_swapped_2 : decode cX11_swapped 2 = .ok (.invokestatic 181, 3) := by decide +kernel
theorem dX11_swapped_5 : decode cX11_swapped 5 = .ok (.iload_n 0, 1) := by decide +kernel
theorem dX11_swapped_6 : decode cX11_swapped 6 = .ok (.iload_n 2, 1) := by decide +kernel
theorem dX11_swapped_7 : decode cX11_swapped 7 = .ok (.invokestatic 181, 3) := by decide +kernel
theorem dX11_swapped_10 : decode cX11_swapped 10 = .ok (.ixor, 1) := by decide +kernel
theorem dX11_swapped_11 : decode cX11_swapped 11 = .ok (.istore_n 3, 1) := by decide +kernel
theorem dX11_swapped_12 : decode cX11_swapped 12 = .ok (.iload_n 0, 1) := by decide +kernel
theorem dX11_swapped_13 : decode cX11_swapped 13 = .ok (.iload_n 3, 1) := by decide +kernel
theorem dX11_swapped_14 : decode cX11_swapped 14 = .ok (.iload_n 1, 1) := by decide +kernel
theorem dX11_swapped_15 : decode cX11_swapped 15 = .ok (.invokestatic 376, 3) := by decide +kernel
theorem dX11_swapped_18 : decode cX11_swapped 18 = .ok (.ishl, 1) := by decide +kernel
theorem dX11_swapped_19 : decode cX11_swapped 19 = .ok (.ixor, 1) := by decide +kernel
theorem dX11_swapped_20 : decode cX11_swapped 20 = .ok (.iload_n 3, 1) := by decide +kernel
theorem dX11_swapped_21 : decode cX11_swapped 21 = .ok (.iload_n 2, 1) := by decide +kernel
theorem dX11_swapped_22 : decode cX11_swapped 22 = .ok (.invokestatic 376, 3) := by decide +kernel
theorem dX11_swapped_25 : decode cX11_swapped 25 = .ok (.ishl, 1) := by decide +kernel
theorem dX11_swapped_26 : decode cX11_swapped 26 = .ok (.ixor, 1) := by decide +kernel
theorem dX11_swapped_27 : decode cX11_swapped 27 = .ok (.ireturn, 1) := by decide +kernel
theorem dX12_init_0 : decode cX12_init 0 = .ok (.aload_n 0, 1) := by decide +kernel
theorem dX12_init_1 : decode cX12_init 1 = .ok (.invokespecial 1, 3) := by decide +kernel
theorem dX12_init_4 : decode cX12_init 4 = .ok (.aload_n 0, 1) := by decide +kernel
theorem dX12_init_5 : decode cX12_init 5 = .ok (.sipush 900, 3) := by decide +kernel
theorem dX12_init_8 : decode cX12_init 8 = .ok (.newarray .int, 2) := by decide +kernel
theorem dX12_init_10 : decode cX12_init 10 = .ok (.putfield 7, 3) := by decide +kernel
theorem dX12_init_13 : decode cX12_init 13 = .ok (.aload_n 0, 1) := by decide +kernel
theorem dX12_init_14 : decode cX12_init 14 = .ok (.iconst (-1), 1) := by decide +kernel
theorem dX12_init_15 : decode cX12_init 15 = .ok (.putfield 13, 3) := by decide +kernel
theorem dX12_init_18 : decode cX12_init 18 = .ok (.aload_n 0, 1) := by decide +kernel
theorem dX12_init_19 : decode cX12_init 19 = .ok (.bipush 8, 2) := by decide +kernel
theorem dX12_init_21 : decode cX12_init 21 = .ok (.newarray .int, 2) := by decide +kernel
theorem dX12_init_23 : decode cX12_init 23 = .ok (.putfield 17, 3) := by decide +kernel
theorem dX12_init_26 : decode cX12_init 26 = .ok (.aload_n 0, 1) := by decide +kernel
theorem dX12_init_27 : decode cX12_init 27 = .ok (.sipush 281, 3) := by decide +kernel
theorem dX12_init_30 : decode cX12_init 30 = .ok (.newarray .int, 2) := by decide +kernel
theorem dX12_init_32 : decode cX12_init 32 = .ok (.putfield 20, 3) := by decide +kernel
theorem dX12_init_35 : decode cX12_init 35 = .ok (.aload_n 0, 1) := by decide +kernel
theorem dX12_init_36 : decode cX12_init 36 = .ok (.sipush 281, 3) := by decide +kernel
theorem dX12_init_39 : decode cX12_init 39 = .ok (.newarray .int, 2) := by decide +kernel
theorem dX12_init_41 : decode cX12_init 41 = .ok (.putfield 23, 3) := by decide +kernel
theorem dX12_init_44 : decode cX12_init 44 = .ok (.aload_n 0, 1) := by decide +kernel
theorem dX12_init_45 : decode cX12_init 45 = .ok (.bipush 13, 2) := by decide +kernel
theorem dX12_init_47 : decode cX12_init 47 = .ok (.newarray .int, 2) := by decide +kernel
theorem dX12_init_49 : decode cX12_init 49 = .ok (.putfield 26, 3) := by decide +kernel
theorem dX12_init_52 : decode cX12_init 52 = .ok (.aload_n 0, 1) := by decide +kernel
theorem dX12_init_53 : decode cX12_init 53 = .ok (.bipush 13, 2) := by decide +kernel
theorem dX12_init_55 : decode cX12_init 55 = .ok (.newarray .int, 2) := by decide +kernel
theorem dX12_init_57 : decode cX12_init 57 = .ok (.putfield 29, 3) := by decide +kernel
theorem dX12_init_60 : decode cX12_init 60 = .ok (.aload_n 0, 1) := by decide +kernel
theorem dX12_init_61 : decode cX12_init 61 = .ok (.sipush 156, 3) := by decide +kernel
theorem dX12_init_64 : decode cX12_init 64 = .ok (.newarray .int, 2) := by decide +kernel
theorem dX12_init_66 : decode cX12_init 66 = .ok (.putfield 32, 3) := by decide +kernel
theorem dX12_init_69 : decode cX12_init 69 = .ok (.aload_n 0, 1) := by decide +kernel
theorem dX12_init_70 : decode cX12_init 70 = .ok (.sipush 156, 3) := by decide +kernel
theorem dX12_init_73 : decode cX12_init 73 = .ok (.newarray .int, 2) := by decide +kernel
theorem dX12_init_75 : decode cX12_init 75 = .ok (.putfield 35, 3) := by decide +kernel
theorem dX12_init_78 : decode cX12_init 78 = .ok (.aload_n 0, 1) := by decide +kernel
theorem dX12_init_79 : decode cX12_init 79 = .ok (.bipush 39, 2) := by decide +kernel
theorem dX12_init_81 : decode cX12_init 81 = .ok (.newarray .int, 2) := by decide +kernel
theorem dX12_init_83 : decode cX12_init 83 = .ok (.putfield 38, 3) := by decide +kernel
theorem dX12_init_86 : decode cX12_init 86 = .ok (.aload_n 0, 1) := by decide +kernel
theorem dX12_init_87 : decode cX12_init 87 = .ok (.iconst 5, 1) := by decide +kernel
theorem dX12_init_88 : decode cX12_init 88 = .ok (.newarray .int, 2) := by decide +kernel
theorem dX12_init_90 : decode cX12_init 90 = .ok (.putfield 41, 3) := by decide +kernel
theorem dX12_init_93 : decode cX12_init 93 = .ok (.aload_n 0, 1) := by decide +kernel
theorem dX12_init_94 : decode cX12_init 94 = .ok (.iconst 5, 1) := by decide +kernel
theorem dX12_init_95 : decode cX12_init 95 = .ok (.newarray .int, 2) := by decide +kernel
theorem dX12_init_97 : decode cX12_init 97 = .ok (.putfield 44, 3) := by decide +kernel
theorem dX12_init_100 : decode cX12_init 100 = .ok (.aload_n 0, 1) := by decide +kernel
theorem dX12_init_101 : decode cX12_init 101 = .ok (.bipush 14, 2) := by decide +kernel
theorem dX12_init_103 : decode cX12_init 103 = .ok (.newarray .int, 2) := by decide +kernel
theorem dX12_init_105 : decode cX12_init 105 = .ok (.putfield 47, 3) := by decide +kernel
theorem dX12_init_108 : decode cX12_init 108 = .ok (.aload_n 0, 1) := by decide +kernel
theorem dX12_init_109 : decode cX12_init 109 = .ok (.bipush 14, 2) := by decide +kernel
theorem dX12_init_111 : decode cX12_init 111 = .ok (.newarray .int, 2) := by decide +kernel
theorem dX12_init_113 : decode cX12_init 113 = .ok (.putfield 50, 3) := by decide +kernel
theorem dX12_init_116 : decode cX12_init 116 = .ok (.aload_n 0, 1) := by decide +kernel
theorem dX12_init_117 : decode cX12_init 117 = .ok (.bipush 14, 2) := by decide +kernel
theorem dX12_init_119 : decode cX12_init 119 = .ok (.newarray .int, 2) := by decide +kernel
theorem dX12_init_121 : decode cX12_init 121 = .ok (.putfield 53, 3) := by decide +kernel
theorem dX12_init_124 : decode cX12_init 124 = .ok (.aload_n 0, 1) := by decide +kernel
theorem dX12_init_125 : decode cX12_init 125 = .ok (.iconst (-1), 1) := by decide +kernel
theorem dX12_init_126 : decode cX12_init 126 = .ok (.putfield 56, 3) := by decide +kernel
theorem dX12_init_129 : decode cX12_init 129 = .ok (.aload_n 0, 1) := by decide +kernel
theorem dX12_init_130 : decode cX12_init 130 = .ok (.sipush 128, 3) := by decide +kernel
theorem dX12_init_133 : decode cX12_init 133 = .ok (.newarray .boolean, 2) := by decide +kernel
theorem dX12_init_135 : decode cX12_init 135 = .ok (.putfield 59, 3) := by decide +kernel
theorem dX12_init_138 : decode cX12_init 138 = .ok (.aload_n 0, 1) := by decide +kernel
theorem dX12_init_139 : decode cX12_init 139 = .ok (.sipush 128, 3) := by decide +kernel
theorem dX12_init_142 : decode cX12_init 142 = .ok (.newarray .int, 2) := by decide +kernel
theorem dX12_init_144 : decode cX12_init 144 = .ok (.putfield 63, 3) := by decide +kernel
theorem dX12_init_147 : decode cX12_init 147 = .ok (.aload_n 0, 1) := by decide +kernel
theorem dX12_init_148 : decode cX12_init 148 = .ok (.bipush 7, 2) := by decide +kernel
theorem dX12_init_150 : decode cX12_init 150 = .ok (.newarray .int, 2) := by decide +kernel
theorem dX12_init_152 : decode cX12_init 152 = .ok (.putfield 66, 3) := by decide +kernel
theorem dX12_init_155 : decode cX12_init 155 = .ok (.aload_n 0, 1) := by decide +kernel
theorem dX12_init_156 : decode cX12_init 156 = .ok (.bipush 7, 2) := by decide +kernel
theorem dX12_init_158 : decode cX12_init 158 = .ok (.newarray .int, 2) := by decide +kernel
theorem dX12_init_160 : decode cX12_init 160 = .ok (.putfield 69, 3) := by decide +kernel
theorem dX12_init_163 : decode cX12_init 163 = .ok (.aload_n 0, 1) := by decide +kernel
theorem dX12_init_164 : decode cX12_init 164 = .ok (.iconst 5, 1) := by decide +kernel
theorem dX12_init_165 : decode cX12_init 165 = .ok (.newarray .int, 2) := by decide +kernel
theorem dX12_init_167 : decode cX12_init 167 = .ok (.putfield 72, 3) := by decide +kernel
theorem dX12_init_170 : decode cX12_init 170 = .ok (.aload_n 0, 1) := by decide +kernel
theorem dX12_init_171 : decode cX12_init 171 = .ok (.sipush 3125, 3) := by decide +kernel
theorem dX12_init_174 : decode cX12_init 174 = .ok (.newarray .int, 2) := by decide +kernel
theorem dX12_init_176 : decode cX12_init 176 = .ok (.putfield 75, 3) := by decide +kernel
theorem dX12_init_179 : decode cX12_init 179 = .ok (.aload_n 0, 1) := by decide +kernel
theorem dX12_init_180 : decode cX12_init 180 = .ok (.bipush 120, 2) := by decide +kernel
theorem dX12_init_182 : decode cX12_init 182 = .ok (.newarray .int, 2) := by decide +kernel
theorem dX12_init_184 : decode cX12_init 184 = .ok (.putfield 78, 3) := by decide +kernel
theorem dX12_init_187 : decode cX12_init 187 = .ok (.return_, 1) := by decide +kernel
theorem dX12_thrown_0 : decode cX12_thrown 0 = .ok (.aload_n 0, 1) := by decide +kernel
theorem dX12_thrown_1 : decode cX12_thrown 1 = .ok (.getfield 81, 3) := by decide +kernel
theorem dX12_thrown_4 : decode cX12_thrown 4 = .ok (.ireturn, 1) := by decide +kernel
theorem dX12_good_0 : decode cX12_good 0 = .ok (.aload_n 0, 1) := by decide +kernel
theorem dX12_good_1 : decode cX12_good 1 = .ok (.iconst 0, 1) := by decide +kernel
theorem dX12_good_2 : decode cX12_good 2 = .ok (.putfield 81, 3) := by decide +kernel
theorem dX12_good_5 : decode cX12_good 5 = .ok (.aload_n 0, 1) := by decide +kernel
theorem dX12_good_6 : decode cX12_good 6 = .ok (.iconst 0, 1) := by decide +kernel
theorem dX12_good_7 : decode cX12_good 7 = .ok (.putfield 84, 3) := by decide +kernel
theorem dX12_good_10 : decode cX12_good 10 = .ok (.return_, 1) := by decide +kernel
theorem dX12_no_0 : decode cX12_no 0 = .ok (.aload_n 0, 1) := by decide +kernel
theorem dX12_no_1 : decode cX12_no 1 = .ok (.iload_n 1, 1) := by decide +kernel
theorem dX12_no_2 : decode cX12_no 2 = .ok (.putfield 84, 3) := by decide +kernel
theorem dX12_no_5 : decode cX12_no 5 = .ok (.iconst (-1), 1) := by decide +kernel
theorem dX12_no_6 : decode cX12_no 6 = .ok (.ireturn, 1) := by decide +kernel
theorem dX12_isNot_0 : decode cX12_isNot 0 = .ok (.aload_n 0, 1) := by decide +kernel
theorem dX12_isNot_1 : decode cX12_isNot 1 = .ok (.iload_n 1, 1) := by decide +kernel
theorem dX12_isNot_2 : decode cX12_isNot 2 = .ok (.putfield 84, 3) := by decide +kernel
theorem dX12_isNot_5 : decode cX12_isNot 5 = .ok (.iconst 0, 1) := by decide +kernel
theorem dX12_isNot_6 : decode cX12_isNot 6 = .ok (.ireturn, 1) := by decide +kernel
theorem dX12_within_0 : decode cX12_within 0 = .ok (.iload_n 0, 1) := by decide +kernel
theorem dX12_within_1 : decode cX12_within 1 = .ok (.iload_n 1, 1) := by decide +kernel
theorem dX12_within_2 : decode cX12_within 2 = .ok (.if_icmp .lt 12, 3) := by decide +kernel
theorem dX12_within_5 : decode cX12_within 5 = .ok (.iload_n 0, 1) := by decide +kernel
theorem dX12_within_6 : decode cX12_within 6 = .ok (.iload_n 2, 1) := by decide +kernel
theorem dX12_within_7 : decode cX12_within 7 = .ok (.if_icmp .gt 7, 3) := by decide +kernel
theorem dX12_within_10 : decode cX12_within 10 = .ok (.iconst 1, 1) := by decide +kernel
theorem dX12_within_11 : decode cX12_within 11 = .ok (.goto 4, 3) := by decide +kernel
theorem dX12_within_14 : decode cX12_within 14 = .ok (.iconst 0, 1) := by decide +kernel
theorem dX12_within_15 : decode cX12_within 15 = .ok (.ireturn, 1) := by decide +kernel
theorem dX12_has_0 : decode cX12_has 0 = .ok (.iload_n 0, 1) := by decide +kernel
theorem dX12_has_1 : decode cX12_has 1 = .ok (.iload_n 1, 1) := by decide +kernel
theorem dX12_has_2 : decode cX12_has 2 = .ok (.ishr, 1) := by decide +kernel
theorem dX12_has_3 : decode cX12_has 3 = .ok (.iconst 1, 1) := by decide +kernel
theorem dX12_has_4 : decode cX12_has 4 = .ok (.iand, 1) := by decide +kernel
theorem dX12_has_5 : decode cX12_has 5 = .ok (.iconst 1, 1) := by decide +kernel
theorem dX12_has_6 : decode cX12_has 6 = .ok (.if_icmp .ne 7, 3) := by decide +kernel
theorem dX12_has_9 : decode cX12_has 9 = .ok (.iconst 1, 1) := by decide +kernel
theorem dX12_has_10 : decode cX12_has 10 = .ok (.goto 4, 3) := by decide +kernel
theorem dX12_has_13 : decode cX12_has 13 = .ok (.iconst 0, 1) := by decide +kernel
theorem dX12_has_14 : decode cX12_has 14 = .ok (.ireturn, 1) := by decide +kernel
theorem dX12_bits_0 : decode cX12_bits 0 = .ok (.iconst 0, 1) := by decide +kernel
theorem dX12_bits_1 : decode cX12_bits 1 = .ok (.istore_n 1, 1) := by decide +kernel
theorem dX12_bits_2 : decode cX12_bits 2 = .ok (.iconst 0, 1) := by decide +kernel
theorem dX12_bits_3 : decode cX12_bits 3 = .ok (.istore_n 2, 1) := by decide +kernel
theorem dX12_bits_4 : decode cX12_bits 4 = .ok (.iload_n 2, 1) := by decide +kernel
theorem dX12_bits_5 : decode cX12_bits 5 = .ok (.bipush 14, 2) := by decide +kernel
theorem dX12_bits_7 : decode cX12_bits 7 = .ok (.if_icmp .ge 17, 3) := by decide +kernel
theorem dX12_bits_10 : decode cX12_bits 10 = .ok (.iload_n 1, 1) := by decide +kernel
theorem dX12_bits_11 : decode cX12_bits 11 = .ok (.iload_n 0, 1) := by decide +kernel
theorem dX12_bits_12 : decode cX12_bits 12 = .ok (.iload_n 2, 1) := by decide +kernel
theorem dX12_bits_13 : decode cX12_bits 13 = .ok (.ishr, 1) := by decide +kernel
theorem dX12_bits_14 : decode cX12_bits 14 = .ok (.iconst 1, 1) := by decide +kernel
theorem dX12_bits_15 : decode cX12_bits 15 = .ok (.iand, 1) := by decide +kernel
theorem dX12_bits_16 : decode cX12_bits 16 = .ok (.iadd, 1) := by decide +kernel
theorem dX12_bits_17 : decode cX12_bits 17 = .ok (.istore_n 1, 1) := by decide +kernel
theorem dX12_bits_18 : decode cX12_bits 18 = .ok (.iinc 2 1, 3) := by decide +kernel
theorem dX12_bits_21 : decode cX12_bits 21 = .ok (.goto (-17), 3) := by decide +kernel
theorem dX12_bits_24 : decode cX12_bits 24 = .ok (.iload_n 1, 1) := by decide +kernel
theorem dX12_bits_25 : decode cX12_bits 25 = .ok (.ireturn, 1) := by decide +kernel
theorem dX12_copy_0 : decode cX12_copy 0 = .ok (.iconst 0, 1) := by decide +kernel
theorem dX12_copy_1 : decode cX12_copy 1 = .ok (.istore 5, 2) := by decide +kernel
theorem dX12_copy_3 : decode cX12_copy 3 = .ok (.iload 5, 2) := by decide +kernel
theorem dX12_copy_5 : decode cX12_copy 5 = .ok (.iload 4, 2) := by decide +kernel
theorem dX12_copy_7 : decode cX12_copy 7 = .ok (.if_icmp .ge 21, 3) := by decide +kernel
theorem dX12_copy_10 : decode cX12_copy 10 = .ok (.aload_n 2, 1) := by decide +kernel
theorem dX12_copy_11 : decode cX12_copy 11 = .ok (.iload_n 3, 1) := by decide +kernel
theorem dX12_copy_12 : decode cX12_copy 12 = .ok (.iload 5, 2) := by decide +kernel
theorem dX12_copy_14 : decode cX12_copy 14 = .ok (.iadd, 1) := by decide +kernel
theorem dX12_copy_15 : decode cX12_copy 15 = .ok (.aload_n 0, 1) := by decide +kernel
theorem dX12_copy_16 : decode cX12_copy 16 = .ok (.iload_n 1, 1) := by decide +kernel
theorem dX12_copy_17 : decode cX12_copy 17 = .ok (.iload 5, 2) := by decide +kernel
theorem dX12_copy_19 : decode cX12_copy 19 = .ok (.iadd, 1) := by decide +kernel
theorem dX12_copy_20 : decode cX12_copy 20 = .ok (.iaload, 1) := by decide +kernel
theorem dX12_copy_21 : decode cX12_copy 21 = .ok (.iastore, 1) := by decide +kernel
theorem dX12_copy_22 : decode cX12_copy 22 = .ok (.iinc 5 1, 3) := by decide +kernel
theorem dX12_copy_25 : decode cX12_copy 25 = .ok (.goto (-22), 3) := by decide +kernel
theorem dX12_copy_28 : decode cX12_copy 28 = .ok (.return_, 1) := by decide +kernel
theorem dX12_feed_0 : decode cX12_feed 0 = .ok (.aload_n 0, 1) := by decide +kernel
theorem dX12_feed_1 : decode cX12_feed 1 = .ok (.iconst 0, 1) := by decide +kernel
theorem dX12_feed_2 : decode cX12_feed 2 = .ok (.putfield 81, 3) := by decide +kernel
theorem dX12_feed_5 : decode cX12_feed 5 = .ok (.aload_n 0, 1) := by decide +kernel
theorem dX12_feed_6 : decode cX12_feed 6 = .ok (.getfield 87, 3) := by decide +kernel
theorem dX12_feed_9 : decode cX12_feed 9 = .ok (.bipush 20, 2) := by decide +kernel
theorem dX12_feed_11 : decode cX12_feed 11 = .ok (.iadd, 1) := by decide +kernel
theorem dX12_feed_12 : decode cX12_feed 12 = .ok (.sipush 900, 3) := by decide +kernel
theorem dX12_feed_15 : decode cX12_feed 15 = .ok (.if_icmp .le 5, 3) := by decide +kernel
theorem dX12_feed_18 : decode cX12_feed 18 = .ok (.iconst (-1), 1) := by decide +kernel
theorem dX12_feed_19 : decode cX12_feed 19 = .ok (.ireturn, 1) := by decide +kernel
theorem dX12_feed_20 : decode cX12_feed 20 = .ok (.iconst 0, 1) := by decide +kernel
theorem dX12_feed_21 : decode cX12_feed 21 = .ok (.istore 6, 2) := by decide +kernel
theorem dX12_feed_23 : decode cX12_feed 23 = .ok (.iload 6, 2) := by decide +kernel
theorem dX12_feed_25 : decode cX12_feed 25 = .ok (.bipush 20, 2) := by decide +kernel
theorem dX12_feed_27 : decode cX12_feed 27 = .ok (.if_icmp .ge 93, 3) := by decide +kernel
theorem dX12_feed_30 : decode cX12_feed 30 = .ok (.iload 6, 2) := by decide +kernel
theorem dX12_feed_32 : decode cX12_feed 32 = .ok (.iconst 4, 1) := by decide +kernel
theorem dX12_feed_33 : decode cX12_feed 33 = .ok (.if_icmp .ge 7, 3) := by decide +kernel
theorem dX12_feed_36 : decode cX12_feed 36 = .ok (.iload_n 1, 1) := by decide +kernel
theorem dX12_feed_37 : decode cX12_feed 37 = .ok (.goto 39, 3) := by decide +kernel
theorem dX12_feed_40 : decode cX12_feed 40 = .ok (.iload 6, 2) := by decide +kernel
theorem dX12_feed_42 : decode cX12_feed 42 = .ok (.bipush 8, 2) := by decide +kernel
theorem dX12_feed_44 : decode cX12_feed 44 = .ok (.if_icmp .ge 7, 3) := by decide +kernel
theorem dX12_feed_47 : decode cX12_feed 47 = .ok (.iload_n 2, 1) := by decide +kernel
theorem dX12_feed_48 : decode cX12_feed 48 = .ok (.goto 28, 3) := by decide +kernel
theorem dX12_feed_51 : decode cX12_feed 51 = .ok (.iload 6, 2) := by decide +kernel
theorem dX12_feed_53 : decode cX12_feed 53 = .ok (.bipush 12, 2) := by decide +kernel
theorem dX12_feed_55 : decode cX12_feed 55 = .ok (.if_icmp .ge 7, 3) := by decide +kernel
theorem dX12_feed_58 : decode cX12_feed 58 = .ok (.iload_n 3, 1) := by decide +kernel
theorem dX12_feed_59 : decode cX12_feed 59 = .ok (.goto 17, 3) := by decide +kernel
theorem dX12_feed_62 : decode cX12_feed 62 = .ok (.iload 6, 2) := by decide +kernel
theorem dX12_feed_64 : decode cX12_feed 64 = .ok (.bipush 16, 2) := by decide +kernel
theorem dX12_feed_66 : decode cX12_feed 66 = .ok (.if_icmp .ge 8, 3) := by decide +kernel
theorem dX12_feed_69 : decode cX12_feed 69 = .ok (.iload 4, 2) := by decide +kernel
theorem dX12_feed_71 : decode cX12_feed 71 = .ok (.goto 5, 3) := by decide +kernel
theorem dX12_feed_74 : decode cX12_feed 74 = .ok (.iload 5, 2) := by decide +kernel
theorem dX12_feed_76 : decode cX12_feed 76 = .ok (.istore 7, 2) := by decide +kernel
theorem dX12_feed_78 : decode cX12_feed 78 = .ok (.aload_n 0, 1) := by decide +kernel
theorem dX12_feed_79 : decode cX12_feed 79 = .ok (.getfield 7, 3) := by decide +kernel
theorem dX12_feed_82 : decode cX12_feed 82 = .ok (.aload_n 0, 1) := by decide +kernel
theorem dX12_feed_83 : decode cX12_feed 83 = .ok (.getfield 87, 3) := by decide +kernel
theorem dX12_feed_86 : decode cX12_feed 86 = .ok (.iload 7, 2) := by decide +kernel
theorem dX12_feed_88 : decode cX12_feed 88 = .ok (.bipush 24, 2) := by decide +kernel
theorem dX12_feed_90 : decode cX12_feed 90 = .ok (.bipush 8, 2) := by decide +kernel
theorem dX12_feed_92 : decode cX12_feed 92 = .ok (.iload 6, 2) := by decide +kernel
theorem dX12_feed_94 : decode cX12_feed 94 = .ok (.iconst 4, 1) := by decide +kernel
theorem dX12_feed_95 : decode cX12_feed 95 = .ok (.irem, 1) := by decide +kernel
theorem dX12_feed_96 : decode cX12_feed 96 = .ok (.imul, 1) := by decide +kernel
theorem dX12_feed_97 : decode cX12_feed 97 = .ok (.isub, 1) := by decide +kernel
theorem dX12_feed_98 : decode cX12_feed 98 = .ok (.ishr, 1) := by decide +kernel
theorem dX12_feed_99 : decode cX12_feed 99 = .ok (.sipush 255, 3) := by decide +kernel
theorem dX12_feed_102 : decode cX12_feed 102 = .ok (.iand, 1) := by decide +kernel
theorem dX12_feed_103 : decode cX12_feed 103 = .ok (.iastore, 1) := by decide +kernel
theorem dX12_feed_104 : decode cX12_feed 104 = .ok (.aload_n 0, 1) := by decide +kernel
theorem dX12_feed_105 : decode cX12_feed 105 = .ok (.dup, 1) := by decide +kernel
theorem dX12_feed_106 : decode cX12_feed 106 = .ok (.getfield 87, 3) := by decide +kernel
theorem dX12_feed_109 : decode cX12_feed 109 = .ok (.iconst 1, 1) := by decide +kernel
theorem dX12_feed_110 : decode cX12_feed 110 = .ok (.iadd, 1) := by decide +kernel
theorem dX12_feed_111 : decode cX12_feed 111 = .ok (.putfield 87, 3) := by decide +kernel
theorem dX12_feed_114 : decode cX12_feed 114 = .ok (.iinc 6 1, 3) := by decide +kernel
theorem dX12_feed_117 : decode cX12_feed 117 = .ok (.goto (-94), 3) := by decide +kernel
theorem dX12_feed_120 : decode cX12_feed 120 = .ok (.aload_n 0, 1) := by decide +kernel
theorem dX12_feed_121 : decode cX12_feed 121 = .ok (.getfield 87, 3) := by decide +kernel
theorem dX12_feed_124 : decode cX12_feed 124 = .ok (.ireturn, 1) := by decide +kernel
theorem dX12_look_0 : decode cX12_look 0 = .ok (.iload_n 1, 1) := by decide +kernel
theorem dX12_look_1 : decode cX12_look 1 = .ok (.aload_n 0, 1) := by decide +kernel
theorem dX12_look_2 : decode cX12_look 2 = .ok (.getfield 90, 3) := by decide +kernel
theorem dX12_look_5 : decode cX12_look 5 = .ok (.if_icmp .ge 12, 3) := by decide +kernel
theorem dX12_look_8 : decode cX12_look 8 = .ok (.aload_n 0, 1) := by decide +kernel
theorem dX12_look_9 : decode cX12_look 9 = .ok (.getfield 7, 3) := by decide +kernel
theorem dX12_look_12 : decode cX12_look 12 = .ok (.iload_n 1, 1) := by decide +kernel
theorem dX12_look_13 : decode cX12_look 13 = .ok (.iaload, 1) := by decide +kernel
theorem dX12_look_14 : decode cX12_look 14 = .ok (.goto 4, 3) := by decide +kernel
theorem dX12_look_17 : decode cX12_look 17 = .ok (.iconst (-1), 1) := by decide +kernel
theorem dX12_look_18 : decode cX12_look 18 = .ok (.ireturn, 1) := by decide +kernel
theorem dX12_isSmall_0 : decode cX12_isSmall 0 = .ok (.iload_n 0, 1) := by decide +kernel
theorem dX12_isSmall_1 : decode cX12_isSmall 1 = .ok (.bipush 97, 2) := by decide +kernel
theorem dX12_isSmall_3 : decode cX12_isSmall 3 = .ok (.if_icmp .lt 13, 3) := by decide +kernel
theorem dX12_isSmall_6 : decode cX12_isSmall 6 = .ok (.iload_n 0, 1) := by decide +kernel
theorem dX12_isSmall_7 : decode cX12_isSmall 7 = .ok (.bipush 122, 2) := by decide +kernel
theorem dX12_isSmall_9 : decode cX12_isSmall 9 = .ok (.if_icmp .gt 7, 3) := by decide +kernel
theorem dX12_isSmall_12 : decode cX12_isSmall 12 = .ok (.iconst 1, 1) := by decide +kernel
theorem dX12_isSmall_13 : decode cX12_isSmall 13 = .ok (.goto 4, 3) := by decide +kernel
theorem dX12_isSmall_16 : decode cX12_isSmall 16 = .ok (.iconst 0, 1) := by decide +kernel
theorem dX12_isSmall_17 : decode cX12_isSmall 17 = .ok (.ireturn, 1) := by decide +kernel
theorem dX12_isDigit_0 : decode cX12_isDigit 0 = .ok (.iload_n 0, 1) := by decide +kernel
theorem dX12_isDigit_1 : decode cX12_isDigit 1 = .ok (.bipush 48, 2) := by decide +kernel
theorem dX12_isDigit_3 : decode cX12_isDigit 3 = .ok (.if_icmp .lt 13, 3) := by decide +kernel
theorem dX12_isDigit_6 : decode cX12_isDigit 6 = .ok (.iload_n 0, 1) := by decide +kernel
theorem dX12_isDigit_7 : decode cX12_isDigit 7 = .ok (.bipush 57, 2) := by decide +kernel
theorem dX12_isDigit_9 : decode cX12_isDigit 9 = .ok (.if_icmp .gt 7, 3) := by decide +kernel
theorem dX12_isDigit_12 : decode cX12_isDigit 12 = .ok (.iconst 1, 1) := by decide +kernel
theorem dX12_isDigit_13 : decode cX12_isDigit 13 = .ok (.goto 4, 3) := by decide +kernel
theorem dX12_isDigit_16 : decode cX12_isDigit 16 = .ok (.iconst 0, 1) := by decide +kernel
theorem dX12_isDigit_17 : decode cX12_isDigit 17 = .ok (.ireturn, 1) := by decide +kernel
theorem dX12_next_0 : decode cX12_next 0 = .ok (.aload_n 0, 1) := by decide +kernel
theorem dX12_next_1 : decode cX12_next 1 = .ok (.getfield 93, 3) := by decide +kernel
theorem dX12_next_4 : decode cX12_next 4 = .ok (.istore_n 1, 1) := by decide +kernel
theorem dX12_next_5 : decode cX12_next 5 = .ok (.aload_n 0, 1) := by decide +kernel
theorem dX12_next_6 : decode cX12_next 6 = .ok (.iload_n 1, 1) := by decide +kernel
theorem dX12_next_7 : decode cX12_next 7 = .ok (.invokevirtual 96, 3) := by decide +kernel
theorem dX12_next_10 : decode cX12_next 10 = .ok (.bipush 32, 2) := by decide +kernel
theorem dX12_next_12 : decode cX12_next 12 = .ok (.if_icmp .ne 9, 3) := by decide +kernel
theorem dX12_next_15 : decode cX12_next 15 = .ok (.iinc 1 1, 3) := by decide +kernel
theorem dX12_next_18 : decode cX12_next 18 = .ok (.goto (-13), 3) := by decide +kernel
theorem dX12_next_21 : decode cX12_next 21 = .ok (.aload_n 0, 1) := by decide +kernel
theorem dX12_next_22 : decode cX12_next 22 = .ok (.iload_n 1, 1) := by decide +kernel
theorem dX12_next_23 : decode cX12_next 23 = .ok (.putfield 100, 3) := by decide +kernel
theorem dX12_next_26 : decode cX12_next 26 = .ok (.aload_n 0, 1) := by decide +kernel
theorem dX12_next_27 : decode cX12_next 27 = .ok (.iload_n 1, 1) := by decide +kernel
theorem dX12_next_28 : decode cX12_next 28 = .ok (.invokevirtual 96, 3) := by decide +kernel
theorem dX12_next_31 : decode cX12_next 31 = .ok (.istore_n 2, 1) := by decide +kernel
theorem dX12_next_32 : decode cX12_next 32 = .ok (.aload_n 0, 1) := by decide +kernel
theorem dX12_next_33 : decode cX12_next 33 = .ok (.iconst 0, 1) := by decide +kernel
theorem dX12_next_34 : decode cX12_next 34 = .ok (.putfield 103, 3) := by decide +kernel
theorem dX12_next_37 : decode cX12_next 37 = .ok (.aload_n 0, 1) := by decide +kernel
theorem dX12_next_38 : decode cX12_next 38 = .ok (.iconst 0, 1) := by decide +kernel
theorem dX12_next_39 : decode cX12_next 39 = .ok (.putfield 106, 3) := by decide +kernel
theorem dX12_next_42 : decode cX12_next 42 = .ok (.iload_n 2, 1) := by decide +kernel
theorem dX12_next_43 : decode cX12_next 43 = .ok (.iconst (-1), 1) := by decide +kernel
theorem dX12_next_44 : decode cX12_next 44 = .ok (.if_icmp .ne 16, 3) := by decide +kernel
theorem dX12_next_47 : decode cX12_next 47 = .ok (.aload_n 0, 1) := by decide +kernel
theorem dX12_next_48 : decode cX12_next 48 = .ok (.iconst 0, 1) := by decide +kernel
theorem dX12_next_49 : decode cX12_next 49 = .ok (.putfield 109, 3) := by decide +kernel
theorem dX12_next_52 : decode cX12_next 52 = .ok (.aload_n 0, 1) := by decide +kernel
theorem dX12_next_53 : decode cX12_next 53 = .ok (.iload_n 1, 1) := by decide +kernel
theorem dX12_next_54 : decode cX12_next 54 = .ok (.putfield 93, 3) := by decide +kernel
theorem dX12_next_57 : decode cX12_next 57 = .ok (.goto 190, 3) := by decide +kernel
theorem dX12_next_60 : decode cX12_next 60 = .ok (.iload_n 2, 1) := by decide +kernel
theorem dX12_next_61 : decode cX12_next 61 = .ok (.invokestatic 112, 3) := by decide +kernel
theorem dX12_next_64 : decode cX12_next 64 = .ok (.ifCond .eq 79, 3) := by decide +kernel
theorem dX12_next_67 : decode cX12_next 67 = .ok (.aload_n 0, 1) := by decide +kernel
theorem dX12_next_68 : decode cX12_next 68 = .ok (.iload_n 1, 1) := by decide +kernel
theorem dX12_next_69 : decode cX12_next 69 = .ok (.invokevirtual 96, 3) := by decide +kernel
theorem dX12_next_72 : decode cX12_next 72 = .ok (.invokestatic 112, 3) := by decide +kernel
theorem dX12_next_75 : decode cX12_next 75 = .ok (.ifCond .eq 42, 3) := by decide +kernel
theorem dX12_next_78 : decode cX12_next 78 = .ok (.aload_n 0, 1) := by decide +kernel
theorem dX12_next_79 : decode cX12_next 79 = .ok (.getfield 103, 3) := by decide +kernel
theorem dX12_next_82 : decode cX12_next 82 = .ok (.bipush 8, 2) := by decide +kernel
theorem dX12_next_84 : decode cX12_next 84 = .ok (.if_icmp .ge 17, 3) := by decide +kernel
theorem dX12_next_87 : decode cX12_next 87 = .ok (.aload_n 0, 1) := by decide +kernel
theorem dX12_next_88 : decode cX12_next 88 = .ok (.getfield 17, 3) := by decide +kernel
theorem dX12_next_91 : decode cX12_next 91 = .ok (.aload_n 0, 1) := by decide +kernel
theorem dX12_next_92 : decode cX12_next 92 = .ok (.getfield 103, 3) := by decide +kernel
theorem dX12_next_95 : decode cX12_next 95 = .ok (.aload_n 0, 1) := by decide +kernel
theorem dX12_next_96 : decode cX12_next 96 = .ok (.iload_n 1, 1) := by decide +kernel
theorem dX12_next_97 : decode cX12_next 97 = .ok (.invokevirtual 96, 3) := by decide +kernel
theorem dX12_next_100 : decode cX12_next 100 = .ok (.iastore, 1) := by decide +kernel
theorem dX12_next_101 : decode cX12_next 101 = .ok (.aload_n 0, 1) := by decide +kernel
theorem dX12_next_102 : decode cX12_next 102 = .ok (.dup, 1) := by decide +kernel
theorem dX12_next_103 : decode cX12_next 103 = .ok (.getfield 103, 3) := by decide +kernel
theorem dX12_next_106 : decode cX12_next 106 = .ok (.iconst 1, 1) := by decide +kernel
theorem dX12_next_107 : decode cX12_next 107 = .ok (.iadd, 1) := by decide +kernel
theorem dX12_next_108 : decode cX12_next 108 = .ok (.putfield 103, 3) := by decide +kernel
theorem dX12_next_111 : decode cX12_next 111 = .ok (.iinc 1 1, 3) := by decide +kernel
theorem dX12_next_114 : decode cX12_next 114 = .ok (.goto (-47), 3) := by decide +kernel
theorem dX12_next_117 : decode cX12_next 117 = .ok (.aload_n 0, 1) := by decide +kernel
theorem dX12_next_118 : decode cX12_next 118 = .ok (.iload_n 1, 1) := by decide +kernel
theorem dX12_next_119 : decode cX12_next 119 = .ok (.putfield 93, 3) := by decide +kernel
theorem dX12_next_122 : decode cX12_next 122 = .ok (.aload_n 0, 1) := by decide +kernel
theorem dX12_next_123 : decode cX12_next 123 = .ok (.aload_n 0, 1) := by decide +kernel
theorem dX12_next_124 : decode cX12_next 124 = .ok (.getfield 103, 3) := by decide +kernel
theorem dX12_next_127 : decode cX12_next 127 = .ok (.bipush 8, 2) := by decide +kernel
theorem dX12_next_129 : decode cX12_next 129 = .ok (.if_icmp .le 7, 3) := by decide +kernel
theorem dX12_next_132 : decode cX12_next 132 = .ok (.iconst 1, 1) := by decide +kernel
theorem dX12_next_133 : decode cX12_next 133 = .ok (.goto 4, 3) := by decide +kernel
theorem dX12_next_136 : decode cX12_next 136 = .ok (.iconst 2, 1) := by decide +kernel
theorem dX12_next_137 : decode cX12_next 137 = .ok (.putfield 109, 3) := by decide +kernel
theorem dX12_next_140 : decode cX12_next 140 = .ok (.goto 107, 3) := by decide +kernel
theorem dX12_next_143 : decode cX12_next 143 = .ok (.iload_n 2, 1) := by decide +kernel
theorem dX12_next_144 : decode cX12_next 144 = .ok (.invokestatic 116, 3) := by decide +kernel
theorem dX12_next_147 : decode cX12_next 147 = .ok (.ifCond .eq 72, 3) := by decide +kernel
theorem dX12_next_150 : decode cX12_next 150 = .ok (.iconst 0, 1) := by decide +kernel
theorem dX12_next_151 : decode cX12_next 151 = .ok (.istore_n 3, 1) := by decide +kernel
theorem dX12_next_152 : decode cX12_next 152 = .ok (.aload_n 0, 1) := by decide +kernel
theorem dX12_next_153 : decode cX12_next 153 = .ok (.iload_n 1, 1) := by decide +kernel
theorem dX12_next_154 : decode cX12_next 154 = .ok (.invokevirtual 96, 3) := by decide +kernel
theorem dX12_next_157 : decode cX12_next 157 = .ok (.invokestatic 116, 3) := by decide +kernel
theorem dX12_next_160 : decode cX12_next 160 = .ok (.ifCond .eq 37, 3) := by decide +kernel
theorem dX12_next_163 : decode cX12_next 163 = .ok (.iload_n 3, 1) := by decide +kernel
theorem dX12_next_164 : decode cX12_next 164 = .ok (.iconst 3, 1) := by decide +kernel
theorem dX12_next_165 : decode cX12_next 165 = .ok (.if_icmp .ge 23, 3) := by decide +kernel
theorem dX12_next_168 : decode cX12_next 168 = .ok (.aload_n 0, 1) := by decide +kernel
theorem dX12_next_169 : decode cX12_next 169 = .ok (.bipush 10, 2) := by decide +kernel
theorem dX12_next_171 : decode cX12_next 171 = .ok (.aload_n 0, 1) := by decide +kernel
theorem dX12_next_172 : decode cX12_next 172 = .ok (.getfield 106, 3) := by decide +kernel
theorem dX12_next_175 : decode cX12_next 175 = .ok (.imul, 1) := by decide +kernel
theorem dX12_next_176 : decode cX12_next 176 = .ok (.aload_n 0, 1) := by decide +kernel
theorem dX12_next_177 : decode cX12_next 177 = .ok (.iload_n 1, 1) := by decide +kernel
theorem dX12_next_178 : decode cX12_next 178 = .ok (.invokevirtual 96, 3) := by decide +kernel
theorem dX12_next_181 : decode cX12_next 181 = .ok (.iadd, 1) := by decide +kernel
theorem dX12_next_182 : decode cX12_next 182 = .ok (.bipush 48, 2) := by decide +kernel
theorem dX12_next_184 : decode cX12_next 184 = .ok (.isub, 1) := by decide +kernel
theorem dX12_next_185 : decode cX12_next 185 = .ok (.putfield 106, 3) := by decide +kernel
theorem dX12_next_188 : decode cX12_next 188 = .ok (.iinc 3 1, 3) := by decide +kernel
theorem dX12_next_191 : decode cX12_next 191 = .ok (.iinc 1 1, 3) := by decide +kernel
theorem dX12_next_194 : decode cX12_next 194 = .ok (.goto (-42), 3) := by decide +kernel
theorem dX12_next_197 : decode cX12_next 197 = .ok (.aload_n 0, 1) := by decide +kernel
theorem dX12_next_198 : decode cX12_next 198 = .ok (.iload_n 1, 1) := by decide +kernel
theorem dX12_next_199 : decode cX12_next 199 = .ok (.putfield 93, 3) := by decide +kernel
theorem dX12_next_202 : decode cX12_next 202 = .ok (.aload_n 0, 1) := by decide +kernel
theorem dX12_next_203 : decode cX12_next 203 = .ok (.iload_n 3, 1) := by decide +kernel
theorem dX12_next_204 : decode cX12_next 204 = .ok (.iconst 3, 1) := by decide +kernel
theorem dX12_next_205 : decode cX12_next 205 = .ok (.if_icmp .le 7, 3) := by decide +kernel
theorem dX12_next_208 : decode cX12_next 208 = .ok (.iconst 1, 1) := by decide +kernel
theorem dX12_next_209 : decode cX12_next 209 = .ok (.goto 4, 3) := by decide +kernel
theorem dX12_next_212 : decode cX12_next 212 = .ok (.iconst 3, 1) := by decide +kernel
theorem dX12_next_213 : decode cX12_next 213 = .ok (.putfield 109, 3) := by decide +kernel
theorem dX12_next_216 : decode cX12_next 216 = .ok (.goto 31, 3) := by decide +kernel
theorem dX12_next_219 : decode cX12_next 219 = .ok (.aload_n 0, 1) := by decide +kernel
theorem dX12_next_220 : decode cX12_next 220 = .ok (.iload_n 1, 1) := by decide +kernel
theorem dX12_next_221 : decode cX12_next 221 = .ok (.iconst 1, 1) := by decide +kernel
theorem dX12_next_222 : decode cX12_next 222 = .ok (.iadd, 1) := by decide +kernel
theorem dX12_next_223 : decode cX12_next 223 = .ok (.putfield 93, 3) := by decide +kernel
theorem dX12_next_226 : decode cX12_next 226 = .ok (.aload_n 0, 1) := by decide +kernel
theorem dX12_next_227 : decode cX12_next 227 = .ok (.iload_n 2, 1) := by decide +kernel
theorem dX12_next_228 : decode cX12_next 228 = .ok (.bipush 59, 2) := by decide +kernel
theorem dX12_next_230 : decode cX12_next 230 = .ok (.if_icmp .eq 9, 3) := by decide +kernel
theorem dX12_next_233 : decode cX12_next 233 = .ok (.iload_n 2, 1) := by decide +kernel
theorem dX12_next_234 : decode cX12_next 234 = .ok (.bipush 44, 2) := by decide +kernel
theorem dX12_next_236 : decode cX12_next 236 = .ok (.if_icmp .ne 7, 3) := by decide +kernel
theorem dX12_next_239 : decode cX12_next 239 = .ok (.iload_n 2, 1) := by decide +kernel
theorem dX12_next_240 : decode cX12_next 240 = .ok (.goto 4, 3) := by decide +kernel
theorem dX12_next_243 : decode cX12_next 243 = .ok (.iconst 1, 1) := by decide +kernel
theorem dX12_next_244 : decode cX12_next 244 = .ok (.putfield 109, 3) := by decide +kernel
theorem dX12_next_247 : decode cX12_next 247 = .ok (.return_, 1) := by decide +kernel
theorem dX12_wrong_0 : decode cX12_wrong 0 = .ok (.aload_n 0, 1) := by decide +kernel
theorem dX12_wrong_1 : decode cX12_wrong 1 = .ok (.getfield 119, 3) := by decide +kernel
theorem dX12_wrong_4 : decode cX12_wrong 4 = .ok (.ifCond .eq 4, 3) := by decide +kernel
theorem dX12_wrong_7 : decode cX12_wrong 7 = .ok (.return_, 1) := by decide +kernel
theorem dX12_wrong_8 : decode cX12_wrong 8 = .ok (.aload_n 0, 1) := by decide +kernel
theorem dX12_wrong_9 : decode cX12_wrong 9 = .ok (.iconst 1, 1) := by decide +kernel
theorem dX12_wrong_10 : decode cX12_wrong 10 = .ok (.putfield 119, 3) := by decide +kernel
theorem dX12_wrong_13 : decode cX12_wrong 13 = .ok (.aload_n 0, 1) := by decide +kernel
theorem dX12_wrong_14 : decode cX12_wrong 14 = .ok (.iload_n 1, 1) := by decide +kernel
theorem dX12_wrong_15 : decode cX12_wrong 15 = .ok (.putfield 123, 3) := by decide +kernel
theorem dX12_wrong_18 : decode cX12_wrong 18 = .ok (.aload_n 0, 1) := by decide +kernel
theorem dX12_wrong_19 : decode cX12_wrong 19 = .ok (.iload_n 2, 1) := by decide +kernel
theorem dX12_wrong_20 : decode cX12_wrong 20 = .ok (.putfield 13, 3) := by decide +kernel
theorem dX12_wrong_23 : decode cX12_wrong 23 = .ok (.return_, 1) := by decide +kernel
theorem dX12_isWord_0 : decode cX12_isWord 0 = .ok (.aload_n 0, 1) := by decide +kernel
theorem dX12_isWord_1 : decode cX12_isWord 1 = .ok (.getfield 119, 3) := by decide +kernel
theorem dX12_isWord_4 : decode cX12_isWord 4 = .ok (.ifCond .ne 22, 3) := by decide +kernel
theorem dX12_isWord_7 : decode cX12_isWord 7 = .ok (.aload_n 0, 1) := by decide +kernel
theorem dX12_isWord_8 : decode cX12_isWord 8 = .ok (.getfield 109, 3) := by decide +kernel
theorem dX12_isWord_11 : decode cX12_isWord 11 = .ok (.iconst 2, 1) := by decide +kernel
theorem dX12_isWord_12 : decode cX12_isWord 12 = .ok (.if_icmp .ne 14, 3) := by decide +kernel
theorem dX12_isWord_15 : decode cX12_isWord 15 = .ok (.aload_n 0, 1) := by decide +kernel
theorem dX12_isWord_16 : decode cX12_isWord 16 = .ok (.getfield 103, 3) := by decide +kernel
theorem dX12_isWord_19 : decode cX12_isWord 19 = .ok (.aload_n 1, 1) := by decide +kernel
theorem dX12_isWord_20 : decode cX12_isWord 20 = .ok (.invokevirtual 126, 3) := by decide +kernel
theorem dX12_isWord_23 : decode cX12_isWord 23 = .ok (.if_icmp .eq 5, 3) := by decide +kernel
theorem dX12_isWord_26 : decode cX12_isWord 26 = .ok (.iconst 0, 1) := by decide +kernel
theorem dX12_isWord_27 : decode cX12_isWord 27 = .ok (.ireturn, 1) := by decide +kernel
theorem dX12_isWord_28 : decode cX12_isWord 28 = .ok (.iconst 1, 1) := by decide +kernel
theorem dX12_isWord_29 : decode cX12_isWord 29 = .ok (.istore_n 2, 1) := by decide +kernel
theorem dX12_isWord_30 : decode cX12_isWord 30 = .ok (.iconst 0, 1) := by decide +kernel
theorem dX12_isWord_31 : decode cX12_isWord 31 = .ok (.istore_n 3, 1) := by decide +kernel
theorem dX12_isWord_32 : decode cX12_isWord 32 = .ok (.iload_n 3, 1) := by decide +kernel
theorem dX12_isWord_33 : decode cX12_isWord 33 = .ok (.aload_n 0, 1) := by decide +kernel
theorem dX12_isWord_34 : decode cX12_isWord 34 = .ok (.getfield 103, 3) := by decide +kernel
theorem dX12_isWord_37 : decode cX12_isWord 37 = .ok (.if_icmp .ge 33, 3) := by decide +kernel
theorem dX12_isWord_40 : decode cX12_isWord 40 = .ok (.iload_n 2, 1) := by decide +kernel
theorem dX12_isWord_41 : decode cX12_isWord 41 = .ok (.ifCond .eq 21, 3) := by decide +kernel
theorem dX12_isWord_44 : decode cX12_isWord 44 = .ok (.aload_n 0, 1) := by decide +kernel
theorem dX12_isWord_45 : decode cX12_isWord 45 = .ok (.getfield 17, 3) := by decide +kernel
theorem dX12_isWord_48 : decode cX12_isWord 48 = .ok (.iload_n 3, 1) := by decide +kernel
theorem dX12_isWord_49 : decode cX12_isWord 49 = .ok (.iaload, 1) := by decide +kernel
theorem dX12_isWord_50 : decode cX12_isWord 50 = .ok (.aload_n 1, 1) := by decide +kernel
theorem dX12_isWord_51 : decode cX12_isWord 51 = .ok (.iload_n 3, 1) := by decide +kernel
theorem dX12_isWord_52 : decode cX12_isWord 52 = .ok (.invokevirtual 132, 3) := by decide +kernel
theorem dX12_isWord_55 : decode cX12_isWord 55 = .ok (.if_icmp .ne 7, 3) := by decide +kernel
theorem dX12_isWord_58 : decode cX12_isWord 58 = .ok (.iconst 1, 1) := by decide +kernel
theorem dX12_isWord_59 : decode cX12_isWord 59 = .ok (.goto 4, 3) := by decide +kernel
theorem dX12_isWord_62 : decode cX12_isWord 62 = .ok (.iconst 0, 1) := by decide +kernel
theorem dX12_isWord_63 : decode cX12_isWord 63 = .ok (.istore_n 2, 1) := by decide +kernel
theorem dX12_isWord_64 : decode cX12_isWord 64 = .ok (.iinc 3 1, 3) := by decide +kernel
theorem dX12_isWord_67 : decode cX12_isWord 67 = .ok (.goto (-35), 3) := by decide +kernel
theorem dX12_isWord_70 : decode cX12_isWord 70 = .ok (.iload_n 2, 1) := by decide +kernel
theorem dX12_isWord_71 : decode cX12_isWord 71 = .ok (.ireturn, 1) := by decide +kernel
theorem dX12_takes_0 : decode cX12_takes 0 = .ok (.aload_n 0, 1) := by decide +kernel
theorem dX12_takes_1 : decode cX12_takes 1 = .ok (.aload_n 1, 1) := by decide +kernel
theorem dX12_takes_2 : decode cX12_takes 2 = .ok (.invokevirtual 136, 3) := by decide +kernel
theorem dX12_takes_5 : decode cX12_takes 5 = .ok (.ifCond .ne 5, 3) := by decide +kernel
theorem dX12_takes_8 : decode cX12_takes 8 = .ok (.iconst 0, 1) := by decide +kernel
theorem dX12_takes_9 : decode cX12_takes 9 = .ok (.ireturn, 1) := by decide +kernel
theorem dX12_takes_10 : decode cX12_takes 10 = .ok (.aload_n 0, 1) := by decide +kernel
theorem dX12_takes_11 : decode cX12_takes 11 = .ok (.invokevirtual 140, 3) := by decide +kernel
theorem dX12_takes_14 : decode cX12_takes 14 = .ok (.iconst 1, 1) := by decide +kernel
theorem dX12_takes_15 : decode cX12_takes 15 = .ok (.ireturn, 1) := by decide +kernel
theorem dX12_must_0 : decode cX12_must 0 = .ok (.aload_n 0, 1) := by decide +kernel
theorem dX12_must_1 : decode cX12_must 1 = .ok (.getfield 119, 3) := by decide +kernel
theorem dX12_must_4 : decode cX12_must 4 = .ok (.ifCond .ne 20, 3) := by decide +kernel
theorem dX12_must_7 : decode cX12_must 7 = .ok (.aload_n 0, 1) := by decide +kernel
theorem dX12_must_8 : decode cX12_must 8 = .ok (.aload_n 1, 1) := by decide +kernel
theorem dX12_must_9 : decode cX12_must 9 = .ok (.invokevirtual 143, 3) := by decide +kernel
theorem dX12_must_12 : decode cX12_must 12 = .ok (.ifCond .ne 12, 3) := by decide +kernel
theorem dX12_must_15 : decode cX12_must 15 = .ok (.aload_n 0, 1) := by decide +kernel
theorem dX12_must_16 : decode cX12_must 16 = .ok (.iconst 1, 1) := by decide +kernel
theorem dX12_must_17 : decode cX12_must 17 = .ok (.aload_n 0, 1) := by decide +kernel
theorem dX12_must_18 : decode cX12_must 18 = .ok (.getfield 100, 3) := by decide +kernel
theorem dX12_must_21 : decode cX12_must 21 = .ok (.invokevirtual 146, 3) := by decide +kernel
theorem dX12_must_24 : decode cX12_must 24 = .ok (.return_, 1) := by decide +kernel
theorem dX12_mustName_0 : decode cX12_mustName 0 = .ok (.aload_n 0, 1) := by decide +kernel
theorem dX12_mustName_1 : decode cX12_mustName 1 = .ok (.ldc 150, 2) := by decide +kernel
theorem dX12_mustName_3 : decode cX12_mustName 3 = .ok (.invokevirtual 136, 3) := by decide +kernel
theorem dX12_mustName_6 : decode cX12_mustName 6 = .ok (.ifCond .ne 57, 3) := by decide +kernel
theorem dX12_mustName_9 : decode cX12_mustName 9 = .ok (.aload_n 0, 1) := by decide +kernel
theorem dX12_mustName_10 : decode cX12_mustName 10 = .ok (.ldc 152, 2) := by decide +kernel
theorem dX12_mustName_12 : decode cX12_mustName 12 = .ok (.invokevirtual 136, 3) := by decide +kernel
theorem dX12_mustName_15 : decode cX12_mustName 15 = .ok (.ifCond .ne 48, 3) := by decide +kernel
theorem dX12_mustName_18 : decode cX12_mustName 18 = .ok (.aload_n 0, 1) := by decide +kernel
theorem dX12_mustName_19 : decode cX12_mustName 19 = .ok (.ldc 154, 2) := by decide +kernel
theorem dX12_mustName_21 : decode cX12_mustName 21 = .ok (.invokevirtual 136, 3) := by decide +kernel
theorem dX12_mustName_24 : decode cX12_mustName 24 = .ok (.ifCond .ne 39, 3) := by decide +kernel
theorem dX12_mustName_27 : decode cX12_mustName 27 = .ok (.aload_n 0, 1) := by decide +kernel
theorem dX12_mustName_28 : decode cX12_mustName 28 = .ok (.ldc 156, 2) := by decide +kernel
theorem dX12_mustName_30 : decode cX12_mustName 30 = .ok (.invokevirtual 136, 3) := by decide +kernel
theorem dX12_mustName_33 : decode cX12_mustName 33 = .ok (.ifCond .ne 30, 3) := by decide +kernel
theorem dX12_mustName_36 : decode cX12_mustName 36 = .ok (.aload_n 0, 1) := by decide +kernel
theorem dX12_mustName_37 : decode cX12_mustName 37 = .ok (.ldc 158, 2) := by decide +kernel
theorem dX12_mustName_39 : decode cX12_mustName 39 = .ok (.invokevirtual 136, 3) := by decide +kernel
theorem dX12_mustName_42 : decode cX12_mustName 42 = .ok (.ifCond .ne 21, 3) := by decide +kernel
theorem dX12_mustName_45 : decode cX12_mustName 45 = .ok (.aload_n 0, 1) := by decide +kernel
theorem dX12_mustName_46 : decode cX12_mustName 46 = .ok (.ldc 160, 2) := by decide +kernel
theorem dX12_mustName_48 : decode cX12_mustName 48 = .ok (.invokevirtual 136, 3) := by decide +kernel
theorem dX12_mustName_51 : decode cX12_mustName 51 = .ok (.ifCond .ne 12, 3) := by decide +kernel
theorem dX12_mustName_54 : decode cX12_mustName 54 = .ok (.aload_n 0, 1) := by decide +kernel
theorem dX12_mustName_55 : decode cX12_mustName 55 = .ok (.ldc 162, 2) := by decide +kernel
theorem dX12_mustName_57 : decode cX12_mustName 57 = .ok (.invokevirtual 136, 3) := by decide +kernel
theorem dX12_mustName_60 : decode cX12_mustName 60 = .ok (.ifCond .eq 7, 3) := by decide +kernel
theorem dX12_mustName_63 : decode cX12_mustName 63 = .ok (.iconst 1, 1) := by decide +kernel
theorem dX12_mustName_64 : decode cX12_mustName 64 = .ok (.goto 4, 3) := by decide +kernel
theorem dX12_mustName_67 : decode cX12_mustName 67 = .ok (.iconst 0, 1) := by decide +kernel
theorem dX12_mustName_68 : decode cX12_mustName 68 = .ok (.istore_n 1, 1) := by decide +kernel
theorem dX12_mustName_69 : decode cX12_mustName 69 = .ok (.aload_n 0, 1) := by decide +kernel
theorem dX12_mustName_70 : decode cX12_mustName 70 = .ok (.getfield 109, 3) := by decide +kernel
theorem dX12_mustName_73 : decode cX12_mustName 73 = .ok (.iconst 2, 1) := by decide +kernel
theorem dX12_mustName_74 : decode cX12_mustName 74 = .ok (.if_icmp .ne 7, 3) := by decide +kernel
theorem dX12_mustName_77 : decode cX12_mustName 77 = .ok (.iload_n 1, 1) := by decide +kernel
theorem dX12_mustName_78 : decode cX12_mustName 78 = .ok (.ifCond .eq 12, 3) := by decide +kernel
theorem dX12_mustName_81 : decode cX12_mustName 81 = .ok (.aload_n 0, 1) := by decide +kernel
theorem dX12_mustName_82 : decode cX12_mustName 82 = .ok (.iconst 1, 1) := by decide +kernel
theorem dX12_mustName_83 : decode cX12_mustName 83 = .ok (.aload_n 0, 1) := by decide +kernel
theorem dX12_mustName_84 : decode cX12_mustName 84 = .ok (.getfield 100, 3) := by decide +kernel
theorem dX12_mustName_87 : decode cX12_mustName 87 = .ok (.invokevirtual 146, 3) := by decide +kernel
theorem dX12_mustName_90 : decode cX12_mustName 90 = .ok (.return_, 1) := by decide +kernel
theorem dX12_find_0 : decode cX12_find 0 = .ok (.iconst 0, 1) := by decide +kernel
theorem dX12_find_1 : decode cX12_find 1 = .ok (.istore_n 1, 1) := by decide +kernel
theorem dX12_find_2 : decode cX12_find 2 = .ok (.iload_n 1, 1) := by decide +kernel
theorem dX12_find_3 : decode cX12_find 3 = .ok (.bipush 12, 2) := by decide +kernel
theorem dX12_find_5 : decode cX12_find 5 = .ok (.if_icmp .ge 101, 3) := by decide +kernel
theorem dX12_find_8 : decode cX12_find 8 = .ok (.aload_n 0, 1) := by decide +kernel
theorem dX12_find_9 : decode cX12_find 9 = .ok (.getfield 23, 3) := by decide +kernel
theorem dX12_find_12 : decode cX12_find 12 = .ok (.sipush 173, 3) := by decide +kernel
theorem dX12_find_15 : decode cX12_find 15 = .ok (.iload_n 1, 1) := by decide +kernel
theorem dX12_find_16 : decode cX12_find 16 = .ok (.iadd, 1) := by decide +kernel
theorem dX12_find_17 : decode cX12_find 17 = .ok (.iaload, 1) := by decide +kernel
theorem dX12_find_18 : decode cX12_find 18 = .ok (.ifCond .le 24, 3) := by decide +kernel
theorem dX12_find_21 : decode cX12_find 21 = .ok (.aload_n 0, 1) := by decide +kernel
theorem dX12_find_22 : decode cX12_find 22 = .ok (.getfield 23, 3) := by decide +kernel
theorem dX12_find_25 : decode cX12_find 25 = .ok (.sipush 173, 3) := by decide +kernel
theorem dX12_find_28 : decode cX12_find 28 = .ok (.iload_n 1, 1) := by decide +kernel
theorem dX12_find_29 : decode cX12_find 29 = .ok (.iadd, 1) := by decide +kernel
theorem dX12_find_30 : decode cX12_find 30 = .ok (.iaload, 1) := by decide +kernel
theorem dX12_find_31 : decode cX12_find 31 = .ok (.aload_n 0, 1) := by decide +kernel
theorem dX12_find_32 : decode cX12_find 32 = .ok (.getfield 103, 3) := by decide +kernel
theorem dX12_find_35 : decode cX12_find 35 = .ok (.if_icmp .ne 7, 3) := by decide +kernel
theorem dX12_find_38 : decode cX12_find 38 = .ok (.iconst 1, 1) := by decide +kernel
theorem dX12_find_39 : decode cX12_find 39 = .ok (.goto 4, 3) := by decide +kernel
theorem dX12_find_42 : decode cX12_find 42 = .ok (.iconst 0, 1) := by decide +kernel
theorem dX12_find_43 : decode cX12_find 43 = .ok (.istore_n 2, 1) := by decide +kernel
theorem dX12_find_44 : decode cX12_find 44 = .ok (.iconst 0, 1) := by decide +kernel
theorem dX12_find_45 : decode cX12_find 45 = .ok (.istore_n 3, 1) := by decide +kernel
theorem dX12_find_46 : decode cX12_find 46 = .ok (.iload_n 3, 1) := by decide +kernel
theorem dX12_find_47 : decode cX12_find 47 = .ok (.aload_n 0, 1) := by decide +kernel
theorem dX12_find_48 : decode cX12_find 48 = .ok (.getfield 103, 3) := by decide +kernel
theorem dX12_find_51 : decode cX12_find 51 = .ok (.if_icmp .ge 43, 3) := by decide +kernel
theorem dX12_find_54 : decode cX12_find 54 = .ok (.iload_n 2, 1) := by decide +kernel
theorem dX12_find_55 : decode cX12_find 55 = .ok (.ifCond .eq 39, 3) := by decide +kernel
theorem dX12_find_58 : decode cX12_find 58 = .ok (.aload_n 0, 1) := by decide +kernel
theorem dX12_find_59 : decode cX12_find 59 = .ok (.getfield 23, 3) := by decide +kernel
theorem dX12_find_62 : decode cX12_find 62 = .ok (.sipush 185, 3) := by decide +kernel
theorem dX12_find_65 : decode cX12_find 65 = .ok (.bipush 8, 2) := by decide +kernel
theorem dX12_find_67 : decode cX12_find 67 = .ok (.iload_n 1, 1) := by decide +kernel
theorem dX12_find_68 : decode cX12_find 68 = .ok (.imul, 1) := by decide +kernel
theorem dX12_find_69 : decode cX12_find 69 = .ok (.iadd, 1) := by decide +kernel
theorem dX12_find_70 : decode cX12_find 70 = .ok (.iload_n 3, 1) := by decide +kernel
theorem dX12_find_71 : decode cX12_find 71 = .ok (.iadd, 1) := by decide +kernel
theorem dX12_find_72 : decode cX12_find 72 = .ok (.iaload, 1) := by decide +kernel
theorem dX12_find_73 : decode cX12_find 73 = .ok (.aload_n 0, 1) := by decide +kernel
theorem dX12_find_74 : decode cX12_find 74 = .ok (.getfield 17, 3) := by decide +kernel
theorem dX12_find_77 : decode cX12_find 77 = .ok (.iload_n 3, 1) := by decide +kernel
theorem dX12_find_78 : decode cX12_find 78 = .ok (.iaload, 1) := by decide +kernel
theorem dX12_find_79 : decode cX12_find 79 = .ok (.if_icmp .ne 7, 3) := by decide +kernel
theorem dX12_find_82 : decode cX12_find 82 = .ok (.iconst 1, 1) := by decide +kernel
theorem dX12_find_83 : decode cX12_find 83 = .ok (.goto 4, 3) := by decide +kernel
theorem dX12_find_86 : decode cX12_find 86 = .ok (.iconst 0, 1) := by decide +kernel
theorem dX12_find_87 : decode cX12_find 87 = .ok (.istore_n 2, 1) := by decide +kernel
theorem dX12_find_88 : decode cX12_find 88 = .ok (.iinc 3 1, 3) := by decide +kernel
theorem dX12_find_91 : decode cX12_find 91 = .ok (.goto (-45), 3) := by decide +kernel
theorem dX12_find_94 : decode cX12_find 94 = .ok (.iload_n 2, 1) := by decide +kernel
theorem dX12_find_95 : decode cX12_find 95 = .ok (.ifCond .eq 5, 3) := by decide +kernel
theorem dX12_find_98 : decode cX12_find 98 = .ok (.iload_n 1, 1) := by decide +kernel
theorem dX12_find_99 : decode cX12_find 99 = .ok (.ireturn, 1) := by decide +kernel
theorem dX12_find_100 : decode cX12_find 100 = .ok (.iinc 1 1, 3) := by decide +kernel
theorem dX12_find_103 : decode cX12_find 103 = .ok (.goto (-101), 3) := by decide +kernel
theorem dX12_find_106 : decode cX12_find 106 = .ok (.iconst (-1), 1) := by decide +kernel
theorem dX12_find_107 : decode cX12_find 107 = .ok (.ireturn, 1) := by decide +kernel
theorem dX12_newName_0 : decode cX12_newName 0 = .ok (.aload_n 0, 1) := by decide +kernel
theorem dX12_newName_1 : decode cX12_newName 1 = .ok (.getfield 119, 3) := by decide +kernel
theorem dX12_newName_4 : decode cX12_newName 4 = .ok (.ifCond .eq 4, 3) := by decide +kernel
theorem dX12_newName_7 : decode cX12_newName 7 = .ok (.return_, 1) := by decide +kernel
theorem dX12_newName_8 : decode cX12_newName 8 = .ok (.aload_n 0, 1) := by decide +kernel
theorem dX12_newName_9 : decode cX12_newName 9 = .ok (.invokevirtual 164, 3) := by decide +kernel
theorem dX12_newName_12 : decode cX12_newName 12 = .ok (.aload_n 0, 1) := by decide +kernel
theorem dX12_newName_13 : decode cX12_newName 13 = .ok (.getfield 119, 3) := by decide +kernel
theorem dX12_newName_16 : decode cX12_newName 16 = .ok (.ifCond .ne 19, 3) := by decide +kernel
theorem dX12_newName_19 : decode cX12_newName 19 = .ok (.aload_n 0, 1) := by decide +kernel
theorem dX12_newName_20 : decode cX12_newName 20 = .ok (.invokevirtual 167, 3) := by decide +kernel
theorem dX12_newName_23 : decode cX12_newName 23 = .ok (.ifCond .lt 12, 3) := by decide +kernel
theorem dX12_newName_26 : decode cX12_newName 26 = .ok (.aload_n 0, 1) := by decide +kernel
theorem dX12_newName_27 : decode cX12_newName 27 = .ok (.iconst 3, 1) := by decide +kernel
theorem dX12_newName_28 : decode cX12_newName 28 = .ok (.aload_n 0, 1) := by decide +kernel
theorem dX12_newName_29 : decode cX12_newName 29 = .ok (.getfield 100, 3) := by decide +kernel
theorem dX12_newName_32 : decode cX12_newName 32 = .ok (.invokevirtual 146, 3) := by decide +kernel
theorem dX12_newName_35 : decode cX12_newName 35 = .ok (.aload_n 0, 1) := by decide +kernel
theorem dX12_newName_36 : decode cX12_newName 36 = .ok (.getfield 119, 3) := by decide +kernel
theorem dX12_newName_39 : decode cX12_newName 39 = .ok (.ifCond .eq 4, 3) := by decide +kernel
theorem dX12_newName_42 : decode cX12_newName 42 = .ok (.return_, 1) := by decide +kernel
theorem dX12_newName_43 : decode cX12_newName 43 = .ok (.iconst 0, 1) := by decide +kernel
theorem dX12_newName_44 : decode cX12_newName 44 = .ok (.istore_n 2, 1) := by decide +kernel
theorem dX12_newName_45 : decode cX12_newName 45 = .ok (.iload_n 2, 1) := by decide +kernel
theorem dX12_newName_46 : decode cX12_newName 46 = .ok (.aload_n 0, 1) := by decide +kernel
theorem dX12_newName_47 : decode cX12_newName 47 = .ok (.getfield 103, 3) := by decide +kernel
theorem dX12_newName_50 : decode cX12_newName 50 = .ok (.if_icmp .ge 30, 3) := by decide +kernel
theorem dX12_newName_53 : decode cX12_newName 53 = .ok (.aload_n 0, 1) := by decide +kernel
theorem dX12_newName_54 : decode cX12_newName 54 = .ok (.getfield 23, 3) := by decide +kernel
theorem dX12_newName_57 : decode cX12_newName 57 = .ok (.sipush 185, 3) := by decide +kernel
theorem dX12_newName_60 : decode cX12_newName 60 = .ok (.bipush 8, 2) := by decide +kernel
theorem dX12_newName_62 : decode cX12_newName 62 = .ok (.iload_n 1, 1) := by decide +kernel
theorem dX12_newName_63 : decode cX12_newName 63 = .ok (.imul, 1) := by decide +kernel
theorem dX12_newName_64 : decode cX12_newName 64 = .ok (.iadd, 1) := by decide +kernel
theorem dX12_newName_65 : decode cX12_newName 65 = .ok (.iload_n 2, 1) := by decide +kernel
theorem dX12_newName_66 : decode cX12_newName 66 = .ok (.iadd, 1) := by decide +kernel
theorem dX12_newName_67 : decode cX12_newName 67 = .ok (.aload_n 0, 1) := by decide +kernel
theorem dX12_newName_68 : decode cX12_newName 68 = .ok (.getfield 17, 3) := by decide +kernel
theorem dX12_newName_71 : decode cX12_newName 71 = .ok (.iload_n 2, 1) := by decide +kernel
theorem dX12_newName_72 : decode cX12_newName 72 = .ok (.iaload, 1) := by decide +kernel
theorem dX12_newName_73 : decode cX12_newName 73 = .ok (.iastore, 1) := by decide +kernel
theorem dX12_newName_74 : decode cX12_newName 74 = .ok (.iinc 2 1, 3) := by decide +kernel
theorem dX12_newName_77 : decode cX12_newName 77 = .ok (.goto (-32), 3) := by decide +kernel
theorem dX12_newName_80 : decode cX12_newName 80 = .ok (.aload_n 0, 1) := by decide +kernel
theorem dX12_newName_81 : decode cX12_newName 81 = .ok (.getfield 23, 3) := by decide +kernel
theorem dX12_newName_84 : decode cX12_newName 84 = .ok (.sipush 173, 3) := by decide +kernel
theorem dX12_newName_87 : decode cX12_newName 87 = .ok (.iload_n 1, 1) := by decide +kernel
theorem dX12_newName_88 : decode cX12_newName 88 = .ok (.iadd, 1) := by decide +kernel
theorem dX12_newName_89 : decode cX12_newName 89 = .ok (.aload_n 0, 1) := by decide +kernel
theorem dX12_newName_90 : decode cX12_newName 90 = .ok (.getfield 103, 3) := by decide +kernel
theorem dX12_newName_93 : decode cX12_newName 93 = .ok (.iastore, 1) := by decide +kernel
theorem dX12_newName_94 : decode cX12_newName 94 = .ok (.aload_n 0, 1) := by decide +kernel
theorem dX12_newName_95 : decode cX12_newName 95 = .ok (.invokevirtual 140, 3) := by decide +kernel
theorem dX12_newName_98 : decode cX12_newName 98 = .ok (.return_, 1) := by decide +kernel
theorem dX12_named_0 : decode cX12_named 0 = .ok (.aload_n 0, 1) := by decide +kernel
theorem dX12_named_1 : decode cX12_named 1 = .ok (.getfield 119, 3) := by decide +kernel
theorem dX12_named_4 : decode cX12_named 4 = .ok (.ifCond .eq 5, 3) := by decide +kernel
theorem dX12_named_7 : decode cX12_named 7 = .ok (.iconst 0, 1) := by decide +kernel
theorem dX12_named_8 : decode cX12_named 8 = .ok (.ireturn, 1) := by decide +kernel
theorem dX12_named_9 : decode cX12_named 9 = .ok (.aload_n 0, 1) := by decide +kernel
theorem dX12_named_10 : decode cX12_named 10 = .ok (.invokevirtual 164, 3) := by decide +kernel
theorem dX12_named_13 : decode cX12_named 13 = .ok (.aload_n 0, 1) := by decide +kernel
theorem dX12_named_14 : decode cX12_named 14 = .ok (.getfield 119, 3) := by decide +kernel
theorem dX12_named_17 : decode cX12_named 17 = .ok (.ifCond .eq 5, 3) := by decide +kernel
theorem dX12_named_20 : decode cX12_named 20 = .ok (.iconst 0, 1) := by decide +kernel
theorem dX12_named_21 : decode cX12_named 21 = .ok (.ireturn, 1) := by decide +kernel
theorem dX12_named_22 : decode cX12_named 22 = .ok (.aload_n 0, 1) := by decide +kernel
theorem dX12_named_23 : decode cX12_named 23 = .ok (.invokevirtual 167, 3) := by decide +kernel
theorem dX12_named_26 : decode cX12_named 26 = .ok (.istore_n 2, 1) := by decide +kernel
theorem dX12_named_27 : decode cX12_named 27 = .ok (.iload_n 2, 1) := by decide +kernel
theorem dX12_named_28 : decode cX12_named 28 = .ok (.ifCond .lt 18, 3) := by decide +kernel
theorem dX12_named_31 : decode cX12_named 31 = .ok (.iload_n 1, 1) := by decide +kernel
theorem dX12_named_32 : decode cX12_named 32 = .ok (.iload_n 2, 1) := by decide +kernel
theorem dX12_named_33 : decode cX12_named 33 = .ok (.bipush 7, 2) := by decide +kernel
theorem dX12_named_35 : decode cX12_named 35 = .ok (.if_icmp .ge 7, 3) := by decide +kernel
theorem dX12_named_38 : decode cX12_named 38 = .ok (.iconst 1, 1) := by decide +kernel
theorem dX12_named_39 : decode cX12_named 39 = .ok (.goto 4, 3) := by decide +kernel
theorem dX12_named_42 : decode cX12_named 42 = .ok (.iconst 0, 1) := by decide +kernel
theorem dX12_named_43 : decode cX12_named 43 = .ok (.if_icmp .eq 12, 3) := by decide +kernel
theorem dX12_named_46 : decode cX12_named 46 = .ok (.aload_n 0, 1) := by decide +kernel
theorem dX12_named_47 : decode cX12_named 47 = .ok (.iconst 2, 1) := by decide +kernel
theorem dX12_named_48 : decode cX12_named 48 = .ok (.aload_n 0, 1) := by decide +kernel
theorem dX12_named_49 : decode cX12_named 49 = .ok (.getfield 100, 3) := by decide +kernel
theorem dX12_named_52 : decode cX12_named 52 = .ok (.invokevirtual 146, 3) := by decide +kernel
theorem dX12_named_55 : decode cX12_named 55 = .ok (.aload_n 0, 1) := by decide +kernel
theorem dX12_named_56 : decode cX12_named 56 = .ok (.getfield 119, 3) := by decide +kernel
theorem dX12_named_59 : decode cX12_named 59 = .ok (.ifCond .eq 7, 3) := by decide +kernel
theorem dX12_named_62 : decode cX12_named 62 = .ok (.iconst 0, 1) := by decide +kernel
theorem dX12_named_63 : decode cX12_named 63 = .ok (.goto 15, 3) := by decide +kernel
theorem dX12_named_66 : decode cX12_named 66 = .ok (.iload_n 1, 1) := by decide +kernel
theorem dX12_named_67 : decode cX12_named 67 = .ok (.ifCond .eq 7, 3) := by decide +kernel
theorem dX12_named_70 : decode cX12_named 70 = .ok (.iload_n 2, 1) := by decide +kernel
theorem dX12_named_71 : decode cX12_named 71 = .ok (.goto 7, 3) := by decide +kernel
theorem dX12_named_74 : decode cX12_named 74 = .ok (.iload_n 2, 1) := by decide +kernel
theorem dX12_named_75 : decode cX12_named 75 = .ok (.bipush 7, 2) := by decide +kernel
theorem dX12_named_77 : decode cX12_named 77 = .ok (.isub, 1) := by decide +kernel
theorem dX12_named_78 : decode cX12_named 78 = .ok (.ireturn, 1) := by decide +kernel
theorem dX12_passed_0 : decode cX12_passed 0 = .ok (.aload_n 0, 1) := by decide +kernel
theorem dX12_passed_1 : decode cX12_passed 1 = .ok (.iload_n 1, 1) := by decide +kernel
theorem dX12_passed_2 : decode cX12_passed 2 = .ok (.invokevirtual 170, 3) := by decide +kernel
theorem dX12_passed_5 : decode cX12_passed 5 = .ok (.istore_n 2, 1) := by decide +kernel
theorem dX12_passed_6 : decode cX12_passed 6 = .ok (.aload_n 0, 1) := by decide +kernel
theorem dX12_passed_7 : decode cX12_passed 7 = .ok (.getfield 119, 3) := by decide +kernel
theorem dX12_passed_10 : decode cX12_passed 10 = .ok (.ifCond .ne 7, 3) := by decide +kernel
theorem dX12_passed_13 : decode cX12_passed 13 = .ok (.aload_n 0, 1) := by decide +kernel
theorem dX12_passed_14 : decode cX12_passed 14 = .ok (.invokevirtual 140, 3) := by decide +kernel
theorem dX12_passed_17 : decode cX12_passed 17 = .ok (.iload_n 2, 1) := by decide +kernel
theorem dX12_passed_18 : decode cX12_passed 18 = .ok (.ireturn, 1) := by decide +kernel
theorem dX12_number_0 : decode cX12_number 0 = .ok (.aload_n 0, 1) := by decide +kernel
theorem dX12_number_1 : decode cX12_number 1 = .ok (.getfield 119, 3) := by decide +kernel
theorem dX12_number_4 : decode cX12_number 4 = .ok (.ifCond .eq 5, 3) := by decide +kernel
theorem dX12_number_7 : decode cX12_number 7 = .ok (.iload_n 1, 1) := by decide +kernel
theorem dX12_number_8 : decode cX12_number 8 = .ok (.ireturn, 1) := by decide +kernel
theorem dX12_number_9 : decode cX12_number 9 = .ok (.aload_n 0, 1) := by decide +kernel
theorem dX12_number_10 : decode cX12_number 10 = .ok (.getfield 109, 3) := by decide +kernel
theorem dX12_number_13 : decode cX12_number 13 = .ok (.iconst 3, 1) := by decide +kernel
theorem dX12_number_14 : decode cX12_number 14 = .ok (.if_icmp .eq 14, 3) := by decide +kernel
theorem dX12_number_17 : decode cX12_number 17 = .ok (.aload_n 0, 1) := by decide +kernel
theorem dX12_number_18 : decode cX12_number 18 = .ok (.iconst 1, 1) := by decide +kernel
theorem dX12_number_19 : decode cX12_number 19 = .ok (.aload_n 0, 1) := by decide +kernel
theorem dX12_number_20 : decode cX12_number 20 = .ok (.getfield 100, 3) := by decide +kernel
theorem dX12_number_23 : decode cX12_number 23 = .ok (.invokevirtual 146, 3) := by decide +kernel
theorem dX12_number_26 : decode cX12_number 26 = .ok (.iload_n 1, 1) := by decide +kernel
theorem dX12_number_27 : decode cX12_number 27 = .ok (.ireturn, 1) := by decide +kernel
theorem dX12_number_28 : decode cX12_number 28 = .ok (.aload_n 0, 1) := by decide +kernel
theorem dX12_number_29 : decode cX12_number 29 = .ok (.getfield 106, 3) := by decide +kernel
theorem dX12_number_32 : decode cX12_number 32 = .ok (.istore_n 3, 1) := by decide +kernel
theorem dX12_number_33 : decode cX12_number 33 = .ok (.iload_n 3, 1) := by decide +kernel
theorem dX12_number_34 : decode cX12_number 34 = .ok (.iload_n 1, 1) := by decide +kernel
theorem dX12_number_35 : decode cX12_number 35 = .ok (.iload_n 2, 1) := by decide +kernel
theorem dX12_number_36 : decode cX12_number 36 = .ok (.invokestatic 174, 3) := by decide +kernel
theorem dX12_number_39 : decode cX12_number 39 = .ok (.ifCond .ne 14, 3) := by decide +kernel
theorem dX12_number_42 : decode cX12_number 42 = .ok (.aload_n 0, 1) := by decide +kernel
theorem dX12_number_43 : decode cX12_number 43 = .ok (.iconst 4, 1) := by decide +kernel
theorem dX12_number_44 : decode cX12_number 44 = .ok (.aload_n 0, 1) := by decide +kernel
theorem dX12_number_45 : decode cX12_number 45 = .ok (.getfield 100, 3) := by decide +kernel
theorem dX12_number_48 : decode cX12_number 48 = .ok (.invokevirtual 146, 3) := by decide +kernel
theorem dX12_number_51 : decode cX12_number 51 = .ok (.iload_n 1, 1) := by decide +kernel
theorem dX12_number_52 : decode cX12_number 52 = .ok (.ireturn, 1) := by decide +kernel
theorem dX12_number_53 : decode cX12_number 53 = .ok (.aload_n 0, 1) := by decide +kernel
theorem dX12_number_54 : decode cX12_number 54 = .ok (.invokevirtual 140, 3) := by decide +kernel
theorem dX12_number_57 : decode cX12_number 57 = .ok (.iload_n 3, 1) := by decide +kernel
theorem dX12_number_58 : decode cX12_number 58 = .ok (.ireturn, 1) := by decide +kernel
theorem dX12_told_0 : decode cX12_told 0 = .ok (.aload_n 0, 1) := by decide +kernel
theorem dX12_told_1 : decode cX12_told 1 = .ok (.aload_n 1, 1) := by decide +kernel
theorem dX12_told_2 : decode cX12_told 2 = .ok (.invokevirtual 178, 3) := by decide +kernel
theorem dX12_told_5 : decode cX12_told 5 = .ok (.aload_n 0, 1) := by decide +kernel
theorem dX12_told_6 : decode cX12_told 6 = .ok (.iload_n 2, 1) := by decide +kernel
theorem dX12_told_7 : decode cX12_told 7 = .ok (.iload_n 3, 1) := by decide +kernel
theorem dX12_told_8 : decode cX12_told 8 = .ok (.invokevirtual 182, 3) := by decide +kernel
theorem dX12_told_11 : decode cX12_told 11 = .ok (.ireturn, 1) := by decide +kernel
theorem dX12_side_0 : decode cX12_side 0 = .ok (.aload_n 0, 1) := by decide +kernel
theorem dX12_side_1 : decode cX12_side 1 = .ok (.getfield 119, 3) := by decide +kernel
theorem dX12_side_4 : decode cX12_side 4 = .ok (.ifCond .eq 5, 3) := by decide +kernel
theorem dX12_side_7 : decode cX12_side 7 = .ok (.iconst 0, 1) := by decide +kernel
theorem dX12_side_8 : decode cX12_side 8 = .ok (.ireturn, 1) := by decide +kernel
theorem dX12_side_9 : decode cX12_side 9 = .ok (.aload_n 0, 1) := by decide +kernel
theorem dX12_side_10 : decode cX12_side 10 = .ok (.ldc 186, 2) := by decide +kernel
theorem dX12_side_12 : decode cX12_side 12 = .ok (.invokevirtual 143, 3) := by decide +kernel
theorem dX12_side_15 : decode cX12_side 15 = .ok (.ifCond .eq 5, 3) := by decide +kernel
theorem dX12_side_18 : decode cX12_side 18 = .ok (.iconst 0, 1) := by decide +kernel
theorem dX12_side_19 : decode cX12_side 19 = .ok (.ireturn, 1) := by decide +kernel
theorem dX12_side_20 : decode cX12_side 20 = .ok (.aload_n 0, 1) := by decide +kernel
theorem dX12_side_21 : decode cX12_side 21 = .ok (.ldc 188, 2) := by decide +kernel
theorem dX12_side_23 : decode cX12_side 23 = .ok (.invokevirtual 178, 3) := by decide +kernel
theorem dX12_side_26 : decode cX12_side 26 = .ok (.iconst 1, 1) := by decide +kernel
theorem dX12_side_27 : decode cX12_side 27 = .ok (.ireturn, 1) := by decide +kernel
theorem dX12_piece_0 : decode cX12_piece 0 = .ok (.aload_n 0, 1) := by decide +kernel
theorem dX12_piece_1 : decode cX12_piece 1 = .ok (.invokevirtual 190, 3) := by decide +kernel
theorem dX12_piece_4 : decode cX12_piece 4 = .ok (.iload_n 1, 1) := by decide +kernel
theorem dX12_piece_5 : decode cX12_piece 5 = .ok (.iconst 0, 1) := by decide +kernel
theorem dX12_piece_6 : decode cX12_piece 6 = .ok (.aload_n 0, 1) := by decide +kernel
theorem dX12_piece_7 : decode cX12_piece 7 = .ok (.getfield 87, 3) := by decide +kernel
theorem dX12_piece_10 : decode cX12_piece 10 = .ok (.invokestatic 174, 3) := by decide +kernel
theorem dX12_piece_13 : decode cX12_piece 13 = .ok (.ifCond .ne 9, 3) := by decide +kernel
theorem dX12_piece_16 : decode cX12_piece 16 = .ok (.aload_n 0, 1) := by decide +kernel
theorem dX12_piece_17 : decode cX12_piece 17 = .ok (.iconst 2, 1) := by decide +kernel
theorem dX12_piece_18 : decode cX12_piece 18 = .ok (.invokevirtual 193, 3) := by decide +kernel
theorem dX12_piece_21 : decode cX12_piece 21 = .ok (.ireturn, 1) := by decide +kernel
theorem dX12_piece_22 : decode cX12_piece 22 = .ok (.aload_n 0, 1) := by decide +kernel
theorem dX12_piece_23 : decode cX12_piece 23 = .ok (.iconst 0, 1) := by decide +kernel
theorem dX12_piece_24 : decode cX12_piece 24 = .ok (.putfield 87, 3) := by decide +kernel
theorem dX12_piece_27 : decode cX12_piece 27 = .ok (.aload_n 0, 1) := by decide +kernel
theorem dX12_piece_28 : decode cX12_piece 28 = .ok (.iconst 0, 1) := by decide +kernel
theorem dX12_piece_29 : decode cX12_piece 29 = .ok (.putfield 123, 3) := by decide +kernel
theorem dX12_piece_32 : decode cX12_piece 32 = .ok (.aload_n 0, 1) := by decide +kernel
theorem dX12_piece_33 : decode cX12_piece 33 = .ok (.iconst 0, 1) := by decide +kernel
theorem dX12_piece_34 : decode cX12_piece 34 = .ok (.putfield 119, 3) := by decide +kernel
theorem dX12_piece_37 : decode cX12_piece 37 = .ok (.iconst 0, 1) := by decide +kernel
theorem dX12_piece_38 : decode cX12_piece 38 = .ok (.istore_n 2, 1) := by decide +kernel
theorem dX12_piece_39 : decode cX12_piece 39 = .ok (.iload_n 2, 1) := by decide +kernel
theorem dX12_piece_40 : decode cX12_piece 40 = .ok (.sipush 281, 3) := by decide +kernel
theorem dX12_piece_43 : decode cX12_piece 43 = .ok (.if_icmp .ge 16, 3) := by decide +kernel
theorem dX12_piece_46 : decode cX12_piece 46 = .ok (.aload_n 0, 1) := by decide +kernel
theorem dX12_piece_47 : decode cX12_piece 47 = .ok (.getfield 23, 3) := by decide +kernel
theorem dX12_piece_50 : decode cX12_piece 50 = .ok (.iload_n 2, 1) := by decide +kernel
theorem dX12_piece_51 : decode cX12_piece 51 = .ok (.iconst 0, 1) := by decide +kernel
theorem dX12_piece_52 : decode cX12_piece 52 = .ok (.iastore, 1) := by decide +kernel
theorem dX12_piece_53 : decode cX12_piece 53 = .ok (.iinc 2 1, 3) := by decide +kernel
theorem dX12_piece_56 : decode cX12_piece 56 = .ok (.goto (-17), 3) := by decide +kernel
theorem dX12_piece_59 : decode cX12_piece 59 = .ok (.aload_n 0, 1) := by decide +kernel
theorem dX12_piece_60 : decode cX12_piece 60 = .ok (.iload_n 1, 1) := by decide +kernel
theorem dX12_piece_61 : decode cX12_piece 61 = .ok (.putfield 90, 3) := by decide +kernel
theorem dX12_piece_64 : decode cX12_piece 64 = .ok (.aload_n 0, 1) := by decide +kernel
theorem dX12_piece_65 : decode cX12_piece 65 = .ok (.iconst 0, 1) := by decide +kernel
theorem dX12_piece_66 : decode cX12_piece 66 = .ok (.putfield 93, 3) := by decide +kernel
theorem dX12_piece_69 : decode cX12_piece 69 = .ok (.aload_n 0, 1) := by decide +kernel
theorem dX12_piece_70 : decode cX12_piece 70 = .ok (.invokevirtual 140, 3) := by decide +kernel
theorem dX12_piece_73 : decode cX12_piece 73 = .ok (.aload_n 0, 1) := by decide +kernel
theorem dX12_piece_74 : decode cX12_piece 74 = .ok (.invokevirtual 196, 3) := by decide +kernel
theorem dX12_piece_77 : decode cX12_piece 77 = .ok (.aload_n 0, 1) := by decide +kernel
theorem dX12_piece_78 : decode cX12_piece 78 = .ok (.getfield 119, 3) := by decide +kernel
theorem dX12_piece_81 : decode cX12_piece 81 = .ok (.ifCond .ne 23, 3) := by decide +kernel
theorem dX12_piece_84 : decode cX12_piece 84 = .ok (.aload_n 0, 1) := by decide +kernel
theorem dX12_piece_85 : decode cX12_piece 85 = .ok (.getfield 109, 3) := by decide +kernel
theorem dX12_piece_88 : decode cX12_piece 88 = .ok (.bipush 59, 2) := by decide +kernel
theorem dX12_piece_90 : decode cX12_piece 90 = .ok (.if_icmp .ne 14, 3) := by decide +kernel
theorem dX12_piece_93 : decode cX12_piece 93 = .ok (.aload_n 0, 1) := by decide +kernel
theorem dX12_piece_94 : decode cX12_piece 94 = .ok (.invokevirtual 140, 3) := by decide +kernel
theorem dX12_piece_97 : decode cX12_piece 97 = .ok (.aload_n 0, 1) := by decide +kernel
theorem dX12_piece_98 : decode cX12_piece 98 = .ok (.invokevirtual 196, 3) := by decide +kernel
theorem dX12_piece_101 : decode cX12_piece 101 = .ok (.goto (-24), 3) := by decide +kernel
theorem dX12_piece_104 : decode cX12_piece 104 = .ok (.aload_n 0, 1) := by decide +kernel
theorem dX12_piece_105 : decode cX12_piece 105 = .ok (.getfield 119, 3) := by decide +kernel
theorem dX12_piece_108 : decode cX12_piece 108 = .ok (.ifCond .ne 19, 3) := by decide +kernel
theorem dX12_piece_111 : decode cX12_piece 111 = .ok (.aload_n 0, 1) := by decide +kernel
theorem dX12_piece_112 : decode cX12_piece 112 = .ok (.getfield 109, 3) := by decide +kernel
theorem dX12_piece_115 : decode cX12_piece 115 = .ok (.ifCond .eq 12, 3) := by decide +kernel
theorem dX12_piece_118 : decode cX12_piece 118 = .ok (.aload_n 0, 1) := by decide +kernel
theorem dX12_piece_119 : decode cX12_piece 119 = .ok (.iconst 1, 1) := by decide +kernel
theorem dX12_piece_120 : decode cX12_piece 120 = .ok (.aload_n 0, 1) := by decide +kernel
theorem dX12_piece_121 : decode cX12_piece 121 = .ok (.getfield 100, 3) := by decide +kernel
theorem dX12_piece_124 : decode cX12_piece 124 = .ok (.invokevirtual 146, 3) := by decide +kernel
theorem dX12_piece_127 : decode cX12_piece 127 = .ok (.aload_n 0, 1) := by decide +kernel
theorem dX12_piece_128 : decode cX12_piece 128 = .ok (.getfield 119, 3) := by decide +kernel
theorem dX12_piece_131 : decode cX12_piece 131 = .ok (.ifCond .ne 40, 3) := by decide +kernel
theorem dX12_piece_134 : decode cX12_piece 134 = .ok (.aload_n 0, 1) := by decide +kernel
theorem dX12_piece_135 : decode cX12_piece 135 = .ok (.getfield 23, 3) := by decide +kernel
theorem dX12_piece_138 : decode cX12_piece 138 = .ok (.iconst 0, 1) := by decide +kernel
theorem dX12_piece_139 : decode cX12_piece 139 = .ok (.iaload, 1) := by decide +kernel
theorem dX12_piece_140 : decode cX12_piece 140 = .ok (.ifCond .eq 21, 3) := by decide +kernel
theorem dX12_piece_143 : decode cX12_piece 143 = .ok (.aload_n 0, 1) := by decide +kernel
theorem dX12_piece_144 : decode cX12_piece 144 = .ok (.getfield 23, 3) := by decide +kernel
theorem dX12_piece_147 : decode cX12_piece 147 = .ok (.iconst 4, 1) := by decide +kernel
theorem dX12_piece_148 : decode cX12_piece 148 = .ok (.iaload, 1) := by decide +kernel
theorem dX12_piece_149 : decode cX12_piece 149 = .ok (.ifCond .eq 12, 3) := by decide +kernel
theorem dX12_piece_152 : decode cX12_piece 152 = .ok (.aload_n 0, 1) := by decide +kernel
theorem dX12_piece_153 : decode cX12_piece 153 = .ok (.getfield 23, 3) := by decide +kernel
theorem dX12_piece_156 : decode cX12_piece 156 = .ok (.iconst 5, 1) := by decide +kernel
theorem dX12_piece_157 : decode cX12_piece 157 = .ok (.iaload, 1) := by decide +kernel
theorem dX12_piece_158 : decode cX12_piece 158 = .ok (.ifCond .ne 13, 3) := by decide +kernel
theorem dX12_piece_161 : decode cX12_piece 161 = .ok (.aload_n 0, 1) := by decide +kernel
theorem dX12_piece_162 : decode cX12_piece 162 = .ok (.bipush 6, 2) := by decide +kernel
theorem dX12_piece_164 : decode cX12_piece 164 = .ok (.aload_n 0, 1) := by decide +kernel
theorem dX12_piece_165 : decode cX12_piece 165 = .ok (.getfield 100, 3) := by decide +kernel
theorem dX12_piece_168 : decode cX12_piece 168 = .ok (.invokevirtual 146, 3) := by decide +kernel
theorem dX12_piece_171 : decode cX12_piece 171 = .ok (.aload_n 0, 1) := by decide +kernel
theorem dX12_piece_172 : decode cX12_piece 172 = .ok (.getfield 119, 3) := by decide +kernel
theorem dX12_piece_175 : decode cX12_piece 175 = .ok (.ifCond .eq 9, 3) := by decide +kernel
theorem dX12_piece_178 : decode cX12_piece 178 = .ok (.aload_n 0, 1) := by decide +kernel
theorem dX12_piece_179 : decode cX12_piece 179 = .ok (.iconst 4, 1) := by decide +kernel
theorem dX12_piece_180 : decode cX12_piece 180 = .ok (.invokevirtual 193, 3) := by decide +kernel
theorem dX12_piece_183 : decode cX12_piece 183 = .ok (.ireturn, 1) := by decide +kernel
theorem dX12_piece_184 : decode cX12_piece 184 = .ok (.aload_n 0, 1) := by decide +kernel
theorem dX12_piece_185 : decode cX12_piece 185 = .ok (.getfield 23, 3) := by decide +kernel
theorem dX12_piece_188 : decode cX12_piece 188 = .ok (.iconst 0, 1) := by decide +kernel
theorem dX12_piece_189 : decode cX12_piece 189 = .ok (.aload_n 0, 1) := by decide +kernel
theorem dX12_piece_190 : decode cX12_piece 190 = .ok (.getfield 20, 3) := by decide +kernel
theorem dX12_piece_193 : decode cX12_piece 193 = .ok (.iconst 0, 1) := by decide +kernel
theorem dX12_piece_194 : decode cX12_piece 194 = .ok (.sipush 281, 3) := by decide +kernel
theorem dX12_piece_197 : decode cX12_piece 197 = .ok (.invokestatic 199, 3) := by decide +kernel
theorem dX12_piece_200 : decode cX12_piece 200 = .ok (.aload_n 0, 1) := by decide +kernel
theorem dX12_piece_201 : decode cX12_piece 201 = .ok (.iconst 1, 1) := by decide +kernel
theorem dX12_piece_202 : decode cX12_piece 202 = .ok (.putfield 203, 3) := by decide +kernel
theorem dX12_piece_205 : decode cX12_piece 205 = .ok (.aload_n 0, 1) := by decide +kernel
theorem dX12_piece_206 : decode cX12_piece 206 = .ok (.iconst 0, 1) := by decide +kernel
theorem dX12_piece_207 : decode cX12_piece 207 = .ok (.putfield 206, 3) := by decide +kernel
theorem dX12_piece_210 : decode cX12_piece 210 = .ok (.aload_n 0, 1) := by decide +kernel
theorem dX12_piece_211 : decode cX12_piece 211 = .ok (.iconst 0, 1) := by decide +kernel
theorem dX12_piece_212 : decode cX12_piece 212 = .ok (.putfield 209, 3) := by decide +kernel
theorem dX12_piece_215 : decode cX12_piece 215 = .ok (.aload_n 0, 1) := by decide +kernel
theorem dX12_piece_216 : decode cX12_piece 216 = .ok (.iconst 0, 1) := by decide +kernel
theorem dX12_piece_217 : decode cX12_piece 217 = .ok (.putfield 212, 3) := by decide +kernel
theorem dX12_piece_220 : decode cX12_piece 220 = .ok (.iconst 0, 1) := by decide +kernel
theorem dX12_piece_221 : decode cX12_piece 221 = .ok (.istore_n 2, 1) := by decide +kernel
theorem dX12_piece_222 : decode cX12_piece 222 = .ok (.iload_n 2, 1) := by decide +kernel
theorem dX12_piece_223 : decode cX12_piece 223 = .ok (.bipush 13, 2) := by decide +kernel
theorem dX12_piece_225 : decode cX12_piece 225 = .ok (.if_icmp .ge 16, 3) := by decide +kernel
theorem dX12_piece_228 : decode cX12_piece 228 = .ok (.aload_n 0, 1) := by decide +kernel
theorem dX12_piece_229 : decode cX12_piece 229 = .ok (.getfield 26, 3) := by decide +kernel
theorem dX12_piece_232 : decode cX12_piece 232 = .ok (.iload_n 2, 1) := by decide +kernel
theorem dX12_piece_233 : decode cX12_piece 233 = .ok (.iconst 0, 1) := by decide +kernel
theorem dX12_piece_234 : decode cX12_piece 234 = .ok (.iastore, 1) := by decide +kernel
theorem dX12_piece_235 : decode cX12_piece 235 = .ok (.iinc 2 1, 3) := by decide +kernel
theorem dX12_piece_238 : decode cX12_piece 238 = .ok (.goto (-16), 3) := by decide +kernel
theorem dX12_piece_241 : decode cX12_piece 241 = .ok (.aload_n 0, 1) := by decide +kernel
theorem dX12_piece_242 : decode cX12_piece 242 = .ok (.invokevirtual 215, 3) := by decide +kernel
theorem dX12_piece_245 : decode cX12_piece 245 = .ok (.pop, 1) := by decide +kernel
theorem dX12_piece_246 : decode cX12_piece 246 = .ok (.aload_n 0, 1) := by decide +kernel
theorem dX12_piece_247 : decode cX12_piece 247 = .ok (.getfield 41, 3) := by decide +kernel
theorem dX12_piece_250 : decode cX12_piece 250 = .ok (.iconst 0, 1) := by decide +kernel
theorem dX12_piece_251 : decode cX12_piece 251 = .ok (.aload_n 0, 1) := by decide +kernel
theorem dX12_piece_252 : decode cX12_piece 252 = .ok (.getfield 26, 3) := by decide +kernel
theorem dX12_piece_255 : decode cX12_piece 255 = .ok (.iconst 0, 1) := by decide +kernel
theorem dX12_piece_256 : decode cX12_piece 256 = .ok (.iconst 5, 1) := by decide +kernel
theorem dX12_piece_257 : decode cX12_piece 257 = .ok (.invokestatic 199, 3) := by decide +kernel
theorem dX12_piece_260 : decode cX12_piece 260 = .ok (.aload_n 0, 1) := by decide +kernel
theorem dX12_piece_261 : decode cX12_piece 261 = .ok (.getfield 20, 3) := by decide +kernel
theorem dX12_piece_264 : decode cX12_piece 264 = .ok (.bipush 7, 2) := by decide +kernel
theorem dX12_piece_266 : decode cX12_piece 266 = .ok (.iaload, 1) := by decide +kernel
theorem dX12_piece_267 : decode cX12_piece 267 = .ok (.ireturn, 1) := by decide +kernel
theorem dX12_begins_0 : decode cX12_begins 0 = .ok (.aload_n 0, 1) := by decide +kernel
theorem dX12_begins_1 : decode cX12_begins 1 = .ok (.aload_n 1, 1) := by decide +kernel
theorem dX12_begins_2 : decode cX12_begins 2 = .ok (.invokevirtual 136, 3) := by decide +kernel
theorem dX12_begins_5 : decode cX12_begins 5 = .ok (.ifCond .ne 5, 3) := by decide +kernel
theorem dX12_begins_8 : decode cX12_begins 8 = .ok (.iconst 0, 1) := by decide +kernel
theorem dX12_begins_9 : decode cX12_begins 9 = .ok (.ireturn, 1) := by decide +kernel
theorem dX12_begins_10 : decode cX12_begins 10 = .ok (.iload_n 2, 1) := by decide +kernel
theorem dX12_begins_11 : decode cX12_begins 11 = .ok (.ifCond .ne 12, 3) := by decide +kernel
theorem dX12_begins_14 : decode cX12_begins 14 = .ok (.aload_n 0, 1) := by decide +kernel
theorem dX12_begins_15 : decode cX12_begins 15 = .ok (.iload_n 3, 1) := by decide +kernel
theorem dX12_begins_16 : decode cX12_begins 16 = .ok (.aload_n 0, 1) := by decide +kernel
theorem dX12_begins_17 : decode cX12_begins 17 = .ok (.getfield 100, 3) := by decide +kernel
theorem dX12_begins_20 : decode cX12_begins 20 = .ok (.invokevirtual 146, 3) := by decide +kernel
theorem dX12_begins_23 : decode cX12_begins 23 = .ok (.aload_n 0, 1) := by decide +kernel
theorem dX12_begins_24 : decode cX12_begins 24 = .ok (.getfield 119, 3) := by decide +kernel
theorem dX12_begins_27 : decode cX12_begins 27 = .ok (.ifCond .ne 7, 3) := by decide +kernel
theorem dX12_begins_30 : decode cX12_begins 30 = .ok (.aload_n 0, 1) := by decide +kernel
theorem dX12_begins_31 : decode cX12_begins 31 = .ok (.invokevirtual 140, 3) := by decide +kernel
theorem dX12_begins_34 : decode cX12_begins 34 = .ok (.iconst 1, 1) := by decide +kernel
theorem dX12_begins_35 : decode cX12_begins 35 = .ok (.ireturn, 1) := by decide +kernel
theorem dX12_readLine_0 : decode cX12_readLine 0 = .ok (.aload_n 0, 1) := by decide +kernel
theorem dX12_readLine_1 : decode cX12_readLine 1 = .ok (.ldc 150, 2) := by decide +kernel
theorem dX12_readLine_3 : decode cX12_readLine 3 = .ok (.aload_n 0, 1) := by decide +kernel
theorem dX12_readLine_4 : decode cX12_readLine 4 = .ok (.getfield 23, 3) := by decide +kernel
theorem dX12_readLine_7 : decode cX12_readLine 7 = .ok (.iconst 0, 1) := by decide +kernel
theorem dX12_readLine_8 : decode cX12_readLine 8 = .ok (.iaload, 1) := by decide +kernel
theorem dX12_readLine_9 : decode cX12_readLine 9 = .ok (.ifCond .ne 7, 3) := by decide +kernel
theorem dX12_readLine_12 : decode cX12_readLine 12 = .ok (.iconst 1, 1) := by decide +kernel
theorem dX12_readLine_13 : decode cX12_readLine 13 = .ok (.goto 4, 3) := by decide +kernel
theorem dX12_readLine_16 : decode cX12_readLine 16 = .ok (.iconst 0, 1) := by decide +kernel
theorem dX12_readLine_17 : decode cX12_readLine 17 = .ok (.iconst 3, 1) := by decide +kernel
theorem dX12_readLine_18 : decode cX12_readLine 18 = .ok (.invokevirtual 219, 3) := by decide +kernel
theorem dX12_readLine_21 : decode cX12_readLine 21 = .ok (.ifCond .eq 10, 3) := by decide +kernel
theorem dX12_readLine_24 : decode cX12_readLine 24 = .ok (.aload_n 0, 1) := by decide +kernel
theorem dX12_readLine_25 : decode cX12_readLine 25 = .ok (.invokevirtual 223, 3) := by decide +kernel
theorem dX12_readLine_28 : decode cX12_readLine 28 = .ok (.goto 179, 3) := by decide +kernel
theorem dX12_readLine_31 : decode cX12_readLine 31 = .ok (.aload_n 0, 1) := by decide +kernel
theorem dX12_readLine_32 : decode cX12_readLine 32 = .ok (.ldc 152, 2) := by decide +kernel
theorem dX12_readLine_34 : decode cX12_readLine 34 = .ok (.aload_n 0, 1) := by decide +kernel
theorem dX12_readLine_35 : decode cX12_readLine 35 = .ok (.getfield 23, 3) := by decide +kernel
theorem dX12_readLine_38 : decode cX12_readLine 38 = .ok (.iconst 4, 1) := by decide +kernel
theorem dX12_readLine_39 : decode cX12_readLine 39 = .ok (.iaload, 1) := by decide +kernel
theorem dX12_readLine_40 : decode cX12_readLine 40 = .ok (.bipush 7, 2) := by decide +kernel
theorem dX12_readLine_42 : decode cX12_readLine 42 = .ok (.if_icmp .ge 7, 3) := by decide +kernel
theorem dX12_readLine_45 : decode cX12_readLine 45 = .ok (.iconst 1, 1) := by decide +kernel
theorem dX12_readLine_46 : decode cX12_readLine 46 = .ok (.goto 4, 3) := by decide +kernel
theorem dX12_readLine_49 : decode cX12_readLine 49 = .ok (.iconst 0, 1) := by decide +kernel
theorem dX12_readLine_50 : decode cX12_readLine 50 = .ok (.iconst 5, 1) := by decide +kernel
theorem dX12_readLine_51 : decode cX12_readLine 51 = .ok (.invokevirtual 219, 3) := by decide +kernel
theorem dX12_readLine_54 : decode cX12_readLine 54 = .ok (.ifCond .eq 10, 3) := by decide +kernel
theorem dX12_readLine_57 : decode cX12_readLine 57 = .ok (.aload_n 0, 1) := by decide +kernel
theorem dX12_readLine_58 : decode cX12_readLine 58 = .ok (.invokevirtual 226, 3) := by decide +kernel
theorem dX12_readLine_61 : decode cX12_readLine 61 = .ok (.goto 146, 3) := by decide +kernel
theorem dX12_readLine_64 : decode cX12_readLine 64 = .ok (.aload_n 0, 1) := by decide +kernel
theorem dX12_readLine_65 : decode cX12_readLine 65 = .ok (.ldc 154, 2) := by decide +kernel
theorem dX12_readLine_67 : decode cX12_readLine 67 = .ok (.aload_n 0, 1) := by decide +kernel
theorem dX12_readLine_68 : decode cX12_readLine 68 = .ok (.getfield 23, 3) := by decide +kernel
theorem dX12_readLine_71 : decode cX12_readLine 71 = .ok (.iconst 5, 1) := by decide +kernel
theorem dX12_readLine_72 : decode cX12_readLine 72 = .ok (.iaload, 1) := by decide +kernel
theorem dX12_readLine_73 : decode cX12_readLine 73 = .ok (.iconst 5, 1) := by decide +kernel
theorem dX12_readLine_74 : decode cX12_readLine 74 = .ok (.if_icmp .ge 7, 3) := by decide +kernel
theorem dX12_readLine_77 : decode cX12_readLine 77 = .ok (.iconst 1, 1) := by decide +kernel
theorem dX12_readLine_78 : decode cX12_readLine 78 = .ok (.goto 4, 3) := by decide +kernel
theorem dX12_readLine_81 : decode cX12_readLine 81 = .ok (.iconst 0, 1) := by decide +kernel
theorem dX12_readLine_82 : decode cX12_readLine 82 = .ok (.iconst 5, 1) := by decide +kernel
theorem dX12_readLine_83 : decode cX12_readLine 83 = .ok (.invokevirtual 219, 3) := by decide +kernel
theorem dX12_readLine_86 : decode cX12_readLine 86 = .ok (.ifCond .eq 10, 3) := by decide +kernel
theorem dX12_readLine_89 : decode cX12_readLine 89 = .ok (.aload_n 0, 1) := by decide +kernel
theorem dX12_readLine_90 : decode cX12_readLine 90 = .ok (.invokevirtual 229, 3) := by decide +kernel
theorem dX12_readLine_93 : decode cX12_readLine 93 = .ok (.goto 114, 3) := by decide +kernel
theorem dX12_readLine_96 : decode cX12_readLine 96 = .ok (.aload_n 0, 1) := by decide +kernel
theorem dX12_readLine_97 : decode cX12_readLine 97 = .ok (.ldc 156, 2) := by decide +kernel
theorem dX12_readLine_99 : decode cX12_readLine 99 = .ok (.aload_n 0, 1) := by decide +kernel
theorem dX12_readLine_100 : decode cX12_readLine 100 = .ok (.getfield 23, 3) := by decide +kernel
theorem dX12_readLine_103 : decode cX12_readLine 103 = .ok (.bipush 6, 2) := by decide +kernel
theorem dX12_readLine_105 : decode cX12_readLine 105 = .ok (.iaload, 1) := by decide +kernel
theorem dX12_readLine_106 : decode cX12_readLine 106 = .ok (.bipush 6, 2) := by decide +kernel
theorem dX12_readLine_108 : decode cX12_readLine 108 = .ok (.if_icmp .ge 7, 3) := by decide +kernel
theorem dX12_readLine_111 : decode cX12_readLine 111 = .ok (.iconst 1, 1) := by decide +kernel
theorem dX12_readLine_112 : decode cX12_readLine 112 = .ok (.goto 4, 3) := by decide +kernel
theorem dX12_readLine_115 : decode cX12_readLine 115 = .ok (.iconst 0, 1) := by decide +kernel
theorem dX12_readLine_116 : decode cX12_readLine 116 = .ok (.iconst 5, 1) := by decide +kernel
theorem dX12_readLine_117 : decode cX12_readLine 117 = .ok (.invokevirtual 219, 3) := by decide +kernel
theorem dX12_readLine_120 : decode cX12_readLine 120 = .ok (.ifCond .eq 10, 3) := by decide +kernel
theorem dX12_readLine_123 : decode cX12_readLine 123 = .ok (.aload_n 0, 1) := by decide +kernel
theorem dX12_readLine_124 : decode cX12_readLine 124 = .ok (.invokevirtual 232, 3) := by decide +kernel
theorem dX12_readLine_127 : decode cX12_readLine 127 = .ok (.goto 80, 3) := by decide +kernel
theorem dX12_readLine_130 : decode cX12_readLine 130 = .ok (.aload_n 0, 1) := by decide +kernel
theorem dX12_readLine_131 : decode cX12_readLine 131 = .ok (.ldc 158, 2) := by decide +kernel
theorem dX12_readLine_133 : decode cX12_readLine 133 = .ok (.aload_n 0, 1) := by decide +kernel
theorem dX12_readLine_134 : decode cX12_readLine 134 = .ok (.getfield 23, 3) := by decide +kernel
theorem dX12_readLine_137 : decode cX12_readLine 137 = .ok (.bipush 7, 2) := by decide +kernel
theorem dX12_readLine_139 : decode cX12_readLine 139 = .ok (.iaload, 1) := by decide +kernel
theorem dX12_readLine_140 : decode cX12_readLine 140 = .ok (.bipush 14, 2) := by decide +kernel
theorem dX12_readLine_142 : decode cX12_readLine 142 = .ok (.if_icmp .ge 7, 3) := by decide +kernel
theorem dX12_readLine_145 : decode cX12_readLine 145 = .ok (.iconst 1, 1) := by decide +kernel
theorem dX12_readLine_146 : decode cX12_readLine 146 = .ok (.goto 4, 3) := by decide +kernel
theorem dX12_readLine_149 : decode cX12_readLine 149 = .ok (.iconst 0, 1) := by decide +kernel
theorem dX12_readLine_150 : decode cX12_readLine 150 = .ok (.iconst 5, 1) := by decide +kernel
theorem dX12_readLine_151 : decode cX12_readLine 151 = .ok (.invokevirtual 219, 3) := by decide +kernel
theorem dX12_readLine_154 : decode cX12_readLine 154 = .ok (.ifCond .eq 10, 3) := by decide +kernel
theorem dX12_readLine_157 : decode cX12_readLine 157 = .ok (.aload_n 0, 1) := by decide +kernel
theorem dX12_readLine_158 : decode cX12_readLine 158 = .ok (.invokevirtual 235, 3) := by decide +kernel
theorem dX12_readLine_161 : decode cX12_readLine 161 = .ok (.goto 46, 3) := by decide +kernel
theorem dX12_readLine_164 : decode cX12_readLine 164 = .ok (.aload_n 0, 1) := by decide +kernel
theorem dX12_readLine_165 : decode cX12_readLine 165 = .ok (.ldc 160, 2) := by decide +kernel
theorem dX12_readLine_167 : decode cX12_readLine 167 = .ok (.aload_n 0, 1) := by decide +kernel
theorem dX12_readLine_168 : decode cX12_readLine 168 = .ok (.getfield 23, 3) := by decide +kernel
theorem dX12_readLine_171 : decode cX12_readLine 171 = .ok (.bipush 8, 2) := by decide +kernel
theorem dX12_readLine_173 : decode cX12_readLine 173 = .ok (.iaload, 1) := by decide +kernel
theorem dX12_readLine_174 : decode cX12_readLine 174 = .ok (.bipush 7, 2) := by decide +kernel
theorem dX12_readLine_176 : decode cX12_readLine 176 = .ok (.if_icmp .ge 7, 3) := by decide +kernel
theorem dX12_readLine_179 : decode cX12_readLine 179 = .ok (.iconst 1, 1) := by decide +kernel
theorem dX12_readLine_180 : decode cX12_readLine 180 = .ok (.goto 4, 3) := by decide +kernel
theorem dX12_readLine_183 : decode cX12_readLine 183 = .ok (.iconst 0, 1) := by decide +kernel
theorem dX12_readLine_184 : decode cX12_readLine 184 = .ok (.iconst 5, 1) := by decide +kernel
theorem dX12_readLine_185 : decode cX12_readLine 185 = .ok (.invokevirtual 219, 3) := by decide +kernel
theorem dX12_readLine_188 : decode cX12_readLine 188 = .ok (.ifCond .eq 10, 3) := by decide +kernel
theorem dX12_readLine_191 : decode cX12_readLine 191 = .ok (.aload_n 0, 1) := by decide +kernel
theorem dX12_readLine_192 : decode cX12_readLine 192 = .ok (.invokevirtual 238, 3) := by decide +kernel
theorem dX12_readLine_195 : decode cX12_readLine 195 = .ok (.goto 12, 3) := by decide +kernel
theorem dX12_readLine_198 : decode cX12_readLine 198 = .ok (.aload_n 0, 1) := by decide +kernel
theorem dX12_readLine_199 : decode cX12_readLine 199 = .ok (.iconst 1, 1) := by decide +kernel
theorem dX12_readLine_200 : decode cX12_readLine 200 = .ok (.aload_n 0, 1) := by decide +kernel
theorem dX12_readLine_201 : decode cX12_readLine 201 = .ok (.getfield 100, 3) := by decide +kernel
theorem dX12_readLine_204 : decode cX12_readLine 204 = .ok (.invokevirtual 146, 3) := by decide +kernel
theorem dX12_readLine_207 : decode cX12_readLine 207 = .ok (.return_, 1) := by decide +kernel
theorem dX12_pieceLine_0 : decode cX12_pieceLine 0 = .ok (.aload_n 0, 1) := by decide +kernel
theorem dX12_pieceLine_1 : decode cX12_pieceLine 1 = .ok (.getfield 23, 3) := by decide +kernel
theorem dX12_pieceLine_4 : decode cX12_pieceLine 4 = .ok (.iconst 1, 1) := by decide +kernel
theorem dX12_pieceLine_5 : decode cX12_pieceLine 5 = .ok (.aload_n 0, 1) := by decide +kernel
theorem dX12_pieceLine_6 : decode cX12_pieceLine 6 = .ok (.ldc 241, 2) := by decide +kernel
theorem dX12_pieceLine_8 : decode cX12_pieceLine 8 = .ok (.iconst 0, 1) := by decide +kernel
theorem dX12_pieceLine_9 : decode cX12_pieceLine 9 = .ok (.bipush 99, 2) := by decide +kernel
theorem dX12_pieceLine_11 : decode cX12_pieceLine 11 = .ok (.invokevirtual 243, 3) := by decide +kernel
theorem dX12_pieceLine_14 : decode cX12_pieceLine 14 = .ok (.iastore, 1) := by decide +kernel
theorem dX12_pieceLine_15 : decode cX12_pieceLine 15 = .ok (.aload_n 0, 1) := by decide +kernel
theorem dX12_pieceLine_16 : decode cX12_pieceLine 16 = .ok (.getfield 23, 3) := by decide +kernel
theorem dX12_pieceLine_19 : decode cX12_pieceLine 19 = .ok (.iconst 2, 1) := by decide +kernel
theorem dX12_pieceLine_20 : decode cX12_pieceLine 20 = .ok (.aload_n 0, 1) := by decide +kernel
theorem dX12_pieceLine_21 : decode cX12_pieceLine 21 = .ok (.ldc 247, 2) := by decide +kernel
theorem dX12_pieceLine_23 : decode cX12_pieceLine 23 = .ok (.iconst 0, 1) := by decide +kernel
theorem dX12_pieceLine_24 : decode cX12_pieceLine 24 = .ok (.bipush 99, 2) := by decide +kernel
theorem dX12_pieceLine_26 : decode cX12_pieceLine 26 = .ok (.invokevirtual 243, 3) := by decide +kernel
theorem dX12_pieceLine_29 : decode cX12_pieceLine 29 = .ok (.iastore, 1) := by decide +kernel
theorem dX12_pieceLine_30 : decode cX12_pieceLine 30 = .ok (.aload_n 0, 1) := by decide +kernel
theorem dX12_pieceLine_31 : decode cX12_pieceLine 31 = .ok (.getfield 23, 3) := by decide +kernel
theorem dX12_pieceLine_34 : decode cX12_pieceLine 34 = .ok (.iconst 3, 1) := by decide +kernel
theorem dX12_pieceLine_35 : decode cX12_pieceLine 35 = .ok (.aload_n 0, 1) := by decide +kernel
theorem dX12_pieceLine_36 : decode cX12_pieceLine 36 = .ok (.ldc 249, 2) := by decide +kernel
theorem dX12_pieceLine_38 : decode cX12_pieceLine 38 = .ok (.iconst 1, 1) := by decide +kernel
theorem dX12_pieceLine_39 : decode cX12_pieceLine 39 = .ok (.iconst 3, 1) := by decide +kernel
theorem dX12_pieceLine_40 : decode cX12_pieceLine 40 = .ok (.invokevirtual 243, 3) := by decide +kernel
theorem dX12_pieceLine_43 : decode cX12_pieceLine 43 = .ok (.iastore, 1) := by decide +kernel
theorem dX12_pieceLine_44 : decode cX12_pieceLine 44 = .ok (.aload_n 0, 1) := by decide +kernel
theorem dX12_pieceLine_45 : decode cX12_pieceLine 45 = .ok (.getfield 119, 3) := by decide +kernel
theorem dX12_pieceLine_48 : decode cX12_pieceLine 48 = .ok (.ifCond .ne 10, 3) := by decide +kernel
theorem dX12_pieceLine_51 : decode cX12_pieceLine 51 = .ok (.aload_n 0, 1) := by decide +kernel
theorem dX12_pieceLine_52 : decode cX12_pieceLine 52 = .ok (.getfield 23, 3) := by decide +kernel
theorem dX12_pieceLine_55 : decode cX12_pieceLine 55 = .ok (.iconst 0, 1) := by decide +kernel
theorem dX12_pieceLine_56 : decode cX12_pieceLine 56 = .ok (.iconst 1, 1) := by decide +kernel
theorem dX12_pieceLine_57 : decode cX12_pieceLine 57 = .ok (.iastore, 1) := by decide +kernel
theorem dX12_pieceLine_58 : decode cX12_pieceLine 58 = .ok (.return_, 1) := by decide +kernel
theorem dX12_partLine_0 : decode cX12_partLine 0 = .ok (.aload_n 0, 1) := by decide +kernel
theorem dX12_partLine_1 : decode cX12_partLine 1 = .ok (.getfield 23, 3) := by decide +kernel
theorem dX12_partLine_4 : decode cX12_partLine 4 = .ok (.iconst 4, 1) := by decide +kernel
theorem dX12_partLine_5 : decode cX12_partLine 5 = .ok (.iaload, 1) := by decide +kernel
theorem dX12_partLine_6 : decode cX12_partLine 6 = .ok (.istore_n 1, 1) := by decide +kernel
theorem dX12_partLine_7 : decode cX12_partLine 7 = .ok (.aload_n 0, 1) := by decide +kernel
theorem dX12_partLine_8 : decode cX12_partLine 8 = .ok (.iload_n 1, 1) := by decide +kernel
theorem dX12_partLine_9 : decode cX12_partLine 9 = .ok (.invokevirtual 251, 3) := by decide +kernel
theorem dX12_partLine_12 : decode cX12_partLine 12 = .ok (.aload_n 0, 1) := by decide +kernel
theorem dX12_partLine_13 : decode cX12_partLine 13 = .ok (.getfield 119, 3) := by decide +kernel
theorem dX12_partLine_16 : decode cX12_partLine 16 = .ok (.ifCond .eq 4, 3) := by decide +kernel
theorem dX12_partLine_19 : decode cX12_partLine 19 = .ok (.return_, 1) := by decide +kernel
theorem dX12_partLine_20 : decode cX12_partLine 20 = .ok (.aload_n 0, 1) := by decide +kernel
theorem dX12_partLine_21 : decode cX12_partLine 21 = .ok (.ldc 255, 2) := by decide +kernel
theorem dX12_partLine_23 : decode cX12_partLine 23 = .ok (.invokevirtual 143, 3) := by decide +kernel
theorem dX12_partLine_26 : decode cX12_partLine 26 = .ok (.ifCond .eq 32, 3) := by decide +kernel
theorem dX12_partLine_29 : decode cX12_partLine 29 = .ok (.aload_n 0, 1) := by decide +kernel
theorem dX12_partLine_30 : decode cX12_partLine 30 = .ok (.getfield 23, 3) := by decide +kernel
theorem dX12_partLine_33 : decode cX12_partLine 33 = .ok (.bipush 9, 2) := by decide +kernel
theorem dX12_partLine_35 : decode cX12_partLine 35 = .ok (.iload_n 1, 1) := by decide +kernel
theorem dX12_partLine_36 : decode cX12_partLine 36 = .ok (.iadd, 1) := by decide +kernel
theorem dX12_partLine_37 : decode cX12_partLine 37 = .ok (.iconst 1, 1) := by decide +kernel
theorem dX12_partLine_38 : decode cX12_partLine 38 = .ok (.iastore, 1) := by decide +kernel
theorem dX12_partLine_39 : decode cX12_partLine 39 = .ok (.aload_n 0, 1) := by decide +kernel
theorem dX12_partLine_40 : decode cX12_partLine 40 = .ok (.getfield 23, 3) := by decide +kernel
theorem dX12_partLine_43 : decode cX12_partLine 43 = .ok (.bipush 37, 2) := by decide +kernel
theorem dX12_partLine_45 : decode cX12_partLine 45 = .ok (.iload_n 1, 1) := by decide +kernel
theorem dX12_partLine_46 : decode cX12_partLine 46 = .ok (.iadd, 1) := by decide +kernel
theorem dX12_partLine_47 : decode cX12_partLine 47 = .ok (.aload_n 0, 1) := by decide +kernel
theorem dX12_partLine_48 : decode cX12_partLine 48 = .ok (.iconst 0, 1) := by decide +kernel
theorem dX12_partLine_49 : decode cX12_partLine 49 = .ok (.bipush 99, 2) := by decide +kernel
theorem dX12_partLine_51 : decode cX12_partLine 51 = .ok (.invokevirtual 182, 3) := by decide +kernel
theorem dX12_partLine_54 : decode cX12_partLine 54 = .ok (.iastore, 1) := by decide +kernel
theorem dX12_partLine_55 : decode cX12_partLine 55 = .ok (.goto 56, 3) := by decide +kernel
theorem dX12_partLine_58 : decode cX12_partLine 58 = .ok (.aload_n 0, 1) := by decide +kernel
theorem dX12_partLine_59 : decode cX12_partLine 59 = .ok (.ldc_w 257, 3) := by decide +kernel
theorem dX12_partLine_62 : decode cX12_partLine 62 = .ok (.invokevirtual 143, 3) := by decide +kernel
theorem dX12_partLine_65 : decode cX12_partLine 65 = .ok (.ifCond .eq 16, 3) := by decide +kernel
theorem dX12_partLine_68 : decode cX12_partLine 68 = .ok (.aload_n 0, 1) := by decide +kernel
theorem dX12_partLine_69 : decode cX12_partLine 69 = .ok (.getfield 23, 3) := by decide +kernel
theorem dX12_partLine_72 : decode cX12_partLine 72 = .ok (.bipush 9, 2) := by decide +kernel
theorem dX12_partLine_74 : decode cX12_partLine 74 = .ok (.iload_n 1, 1) := by decide +kernel
theorem dX12_partLine_75 : decode cX12_partLine 75 = .ok (.iadd, 1) := by decide +kernel
theorem dX12_partLine_76 : decode cX12_partLine 76 = .ok (.iconst 2, 1) := by decide +kernel
theorem dX12_partLine_77 : decode cX12_partLine 77 = .ok (.iastore, 1) := by decide +kernel
theorem dX12_partLine_78 : decode cX12_partLine 78 = .ok (.goto 33, 3) := by decide +kernel
theorem dX12_partLine_81 : decode cX12_partLine 81 = .ok (.aload_n 0, 1) := by decide +kernel
theorem dX12_partLine_82 : decode cX12_partLine 82 = .ok (.ldc_w 259, 3) := by decide +kernel
theorem dX12_partLine_85 : decode cX12_partLine 85 = .ok (.invokevirtual 143, 3) := by decide +kernel
theorem dX12_partLine_88 : decode cX12_partLine 88 = .ok (.ifCond .eq 16, 3) := by decide +kernel
theorem dX12_partLine_91 : decode cX12_partLine 91 = .ok (.aload_n 0, 1) := by decide +kernel
theorem dX12_partLine_92 : decode cX12_partLine 92 = .ok (.getfield 23, 3) := by decide +kernel
theorem dX12_partLine_95 : decode cX12_partLine 95 = .ok (.bipush 9, 2) := by decide +kernel
theorem dX12_partLine_97 : decode cX12_partLine 97 = .ok (.iload_n 1, 1) := by decide +kernel
theorem dX12_partLine_98 : decode cX12_partLine 98 = .ok (.iadd, 1) := by decide +kernel
theorem dX12_partLine_99 : decode cX12_partLine 99 = .ok (.iconst 3, 1) := by decide +kernel
theorem dX12_partLine_100 : decode cX12_partLine 100 = .ok (.iastore, 1) := by decide +kernel
theorem dX12_partLine_101 : decode cX12_partLine 101 = .ok (.goto 10, 3) := by decide +kernel
theorem dX12_partLine_104 : decode cX12_partLine 104 = .ok (.aload_n 0, 1) := by decide +kernel
theorem dX12_partLine_105 : decode cX12_partLine 105 = .ok (.ldc_w 261, 3) := by decide +kernel
theorem dX12_partLine_108 : decode cX12_partLine 108 = .ok (.invokevirtual 178, 3) := by decide +kernel
theorem dX12_partLine_111 : decode cX12_partLine 111 = .ok (.aload_n 0, 1) := by decide +kernel
theorem dX12_partLine_112 : decode cX12_partLine 112 = .ok (.getfield 23, 3) := by decide +kernel
theorem dX12_partLine_115 : decode cX12_partLine 115 = .ok (.bipush 16, 2) := by decide +kernel
theorem dX12_partLine_117 : decode cX12_partLine 117 = .ok (.iload_n 1, 1) := by decide +kernel
theorem dX12_partLine_118 : decode cX12_partLine 118 = .ok (.iadd, 1) := by decide +kernel
theorem dX12_partLine_119 : decode cX12_partLine 119 = .ok (.aload_n 0, 1) := by decide +kernel
theorem dX12_partLine_120 : decode cX12_partLine 120 = .ok (.ldc_w 263, 3) := by decide +kernel
theorem dX12_partLine_123 : decode cX12_partLine 123 = .ok (.iconst 0, 1) := by decide +kernel
theorem dX12_partLine_124 : decode cX12_partLine 124 = .ok (.bipush 9, 2) := by decide +kernel
theorem dX12_partLine_126 : decode cX12_partLine 126 = .ok (.invokevirtual 243, 3) := by decide +kernel
theorem dX12_partLine_129 : decode cX12_partLine 129 = .ok (.iastore, 1) := by decide +kernel
theorem dX12_partLine_130 : decode cX12_partLine 130 = .ok (.aload_n 0, 1) := by decide +kernel
theorem dX12_partLine_131 : decode cX12_partLine 131 = .ok (.getfield 23, 3) := by decide +kernel
theorem dX12_partLine_134 : decode cX12_partLine 134 = .ok (.bipush 23, 2) := by decide +kernel
theorem dX12_partLine_136 : decode cX12_partLine 136 = .ok (.iload_n 1, 1) := by decide +kernel
theorem dX12_partLine_137 : decode cX12_partLine 137 = .ok (.iadd, 1) := by decide +kernel
theorem dX12_partLine_138 : decode cX12_partLine 138 = .ok (.aload_n 0, 1) := by decide +kernel
theorem dX12_partLine_139 : decode cX12_partLine 139 = .ok (.ldc_w 265, 3) := by decide +kernel
theorem dX12_partLine_142 : decode cX12_partLine 142 = .ok (.iconst 0, 1) := by decide +kernel
theorem dX12_partLine_143 : decode cX12_partLine 143 = .ok (.bipush 99, 2) := by decide +kernel
theorem dX12_partLine_145 : decode cX12_partLine 145 = .ok (.invokevirtual 243, 3) := by decide +kernel
theorem dX12_partLine_148 : decode cX12_partLine 148 = .ok (.iastore, 1) := by decide +kernel
theorem dX12_partLine_149 : decode cX12_partLine 149 = .ok (.aload_n 0, 1) := by decide +kernel
theorem dX12_partLine_150 : decode cX12_partLine 150 = .ok (.getfield 23, 3) := by decide +kernel
theorem dX12_partLine_153 : decode cX12_partLine 153 = .ok (.bipush 30, 2) := by decide +kernel
theorem dX12_partLine_155 : decode cX12_partLine 155 = .ok (.iload_n 1, 1) := by decide +kernel
theorem dX12_partLine_156 : decode cX12_partLine 156 = .ok (.iadd, 1) := by decide +kernel
theorem dX12_partLine_157 : decode cX12_partLine 157 = .ok (.aload_n 0, 1) := by decide +kernel
theorem dX12_partLine_158 : decode cX12_partLine 158 = .ok (.ldc_w 267, 3) := by decide +kernel
theorem dX12_partLine_161 : decode cX12_partLine 161 = .ok (.iconst 0, 1) := by decide +kernel
theorem dX12_partLine_162 : decode cX12_partLine 162 = .ok (.bipush 99, 2) := by decide +kernel
theorem dX12_partLine_164 : decode cX12_partLine 164 = .ok (.invokevirtual 243, 3) := by decide +kernel
theorem dX12_partLine_167 : decode cX12_partLine 167 = .ok (.iastore, 1) := by decide +kernel
theorem dX12_partLine_168 : decode cX12_partLine 168 = .ok (.aload_n 0, 1) := by decide +kernel
theorem dX12_partLine_169 : decode cX12_partLine 169 = .ok (.getfield 119, 3) := by decide +kernel
theorem dX12_partLine_172 : decode cX12_partLine 172 = .ok (.ifCond .ne 13, 3) := by decide +kernel
theorem dX12_partLine_175 : decode cX12_partLine 175 = .ok (.aload_n 0, 1) := by decide +kernel
theorem dX12_partLine_176 : decode cX12_partLine 176 = .ok (.getfield 23, 3) := by decide +kernel
theorem dX12_partLine_179 : decode cX12_partLine 179 = .ok (.iconst 4, 1) := by decide +kernel
theorem dX12_partLine_180 : decode cX12_partLine 180 = .ok (.dup2, 1) := by decide +kernel
theorem dX12_partLine_181 : decode cX12_partLine 181 = .ok (.iaload, 1) := by decide +kernel
theorem dX12_partLine_182 : decode cX12_partLine 182 = .ok (.iconst 1, 1) := by decide +kernel
theorem dX12_partLine_183 : decode cX12_partLine 183 = .ok (.iadd, 1) := by decide +kernel
theorem dX12_partLine_184 : decode cX12_partLine 184 = .ok (.iastore, 1) := by decide +kernel
theorem dX12_partLine_185 : decode cX12_partLine 185 = .ok (.return_, 1) := by decide +kernel
theorem dX12_sceneLine_0 : decode cX12_sceneLine 0 = .ok (.aload_n 0, 1) := by decide +kernel
theorem dX12_sceneLine_1 : decode cX12_sceneLine 1 = .ok (.getfield 23, 3) := by decide +kernel
theorem dX12_sceneLine_4 : decode cX12_sceneLine 4 = .ok (.iconst 5, 1) := by decide +kernel
theorem dX12_sceneLine_5 : decode cX12_sceneLine 5 = .ok (.iaload, 1) := by decide +kernel
theorem dX12_sceneLine_6 : decode cX12_sceneLine 6 = .ok (.istore_n 1, 1) := by decide +kernel
theorem dX12_sceneLine_7 : decode cX12_sceneLine 7 = .ok (.aload_n 0, 1) := by decide +kernel
theorem dX12_sceneLine_8 : decode cX12_sceneLine 8 = .ok (.bipush 7, 2) := by decide +kernel
theorem dX12_sceneLine_10 : decode cX12_sceneLine 10 = .ok (.iload_n 1, 1) := by decide +kernel
theorem dX12_sceneLine_11 : decode cX12_sceneLine 11 = .ok (.iadd, 1) := by decide +kernel
theorem dX12_sceneLine_12 : decode cX12_sceneLine 12 = .ok (.invokevirtual 251, 3) := by decide +kernel
theorem dX12_sceneLine_15 : decode cX12_sceneLine 15 = .ok (.aload_n 0, 1) := by decide +kernel
theorem dX12_sceneLine_16 : decode cX12_sceneLine 16 = .ok (.getfield 23, 3) := by decide +kernel
theorem dX12_sceneLine_19 : decode cX12_sceneLine 19 = .ok (.bipush 44, 2) := by decide +kernel
theorem dX12_sceneLine_21 : decode cX12_sceneLine 21 = .ok (.iload_n 1, 1) := by decide +kernel
theorem dX12_sceneLine_22 : decode cX12_sceneLine 22 = .ok (.iadd, 1) := by decide +kernel
theorem dX12_sceneLine_23 : decode cX12_sceneLine 23 = .ok (.aload_n 0, 1) := by decide +kernel
theorem dX12_sceneLine_24 : decode cX12_sceneLine 24 = .ok (.ldc_w 269, 3) := by decide +kernel
theorem dX12_sceneLine_27 : decode cX12_sceneLine 27 = .ok (.iconst 1, 1) := by decide +kernel
theorem dX12_sceneLine_28 : decode cX12_sceneLine 28 = .ok (.sipush 500, 3) := by decide +kernel
theorem dX12_sceneLine_31 : decode cX12_sceneLine 31 = .ok (.invokevirtual 243, 3) := by decide +kernel
theorem dX12_sceneLine_34 : decode cX12_sceneLine 34 = .ok (.iastore, 1) := by decide +kernel
theorem dX12_sceneLine_35 : decode cX12_sceneLine 35 = .ok (.aload_n 0, 1) := by decide +kernel
theorem dX12_sceneLine_36 : decode cX12_sceneLine 36 = .ok (.getfield 119, 3) := by decide +kernel
theorem dX12_sceneLine_39 : decode cX12_sceneLine 39 = .ok (.ifCond .ne 13, 3) := by decide +kernel
theorem dX12_sceneLine_42 : decode cX12_sceneLine 42 = .ok (.aload_n 0, 1) := by decide +kernel
theorem dX12_sceneLine_43 : decode cX12_sceneLine 43 = .ok (.getfield 23, 3) := by decide +kernel
theorem dX12_sceneLine_46 : decode cX12_sceneLine 46 = .ok (.iconst 5, 1) := by decide +kernel
theorem dX12_sceneLine_47 : decode cX12_sceneLine 47 = .ok (.dup2, 1) := by decide +kernel
theorem dX12_sceneLine_48 : decode cX12_sceneLine 48 = .ok (.iaload, 1) := by decide +kernel
theorem dX12_sceneLine_49 : decode cX12_sceneLine 49 = .ok (.iconst 1, 1) := by decide +kernel
theorem dX12_sceneLine_50 : decode cX12_sceneLine 50 = .ok (.iadd, 1) := by decide +kernel
theorem dX12_sceneLine_51 : decode cX12_sceneLine 51 = .ok (.iastore, 1) := by decide +kernel
theorem dX12_sceneLine_52 : decode cX12_sceneLine 52 = .ok (.return_, 1) := by decide +kernel
theorem dX12_afterLine_0 : decode cX12_afterLine 0 = .ok (.aload_n 0, 1) := by decide +kernel
theorem dX12_afterLine_1 : decode cX12_afterLine 1 = .ok (.iconst 0, 1) := by decide +kernel
theorem dX12_afterLine_2 : decode cX12_afterLine 2 = .ok (.invokevirtual 271, 3) := by decide +kernel
theorem dX12_afterLine_5 : decode cX12_afterLine 5 = .ok (.istore_n 1, 1) := by decide +kernel
theorem dX12_afterLine_6 : decode cX12_afterLine 6 = .ok (.aload_n 0, 1) := by decide +kernel
theorem dX12_afterLine_7 : decode cX12_afterLine 7 = .ok (.iconst 0, 1) := by decide +kernel
theorem dX12_afterLine_8 : decode cX12_afterLine 8 = .ok (.invokevirtual 170, 3) := by decide +kernel
theorem dX12_afterLine_11 : decode cX12_afterLine 11 = .ok (.istore_n 2, 1) := by decide +kernel
theorem dX12_afterLine_12 : decode cX12_afterLine 12 = .ok (.aload_n 0, 1) := by decide +kernel
theorem dX12_afterLine_13 : decode cX12_afterLine 13 = .ok (.getfield 119, 3) := by decide +kernel
theorem dX12_afterLine_16 : decode cX12_afterLine 16 = .ok (.ifCond .eq 4, 3) := by decide +kernel
theorem dX12_afterLine_19 : decode cX12_afterLine 19 = .ok (.return_, 1) := by decide +kernel
theorem dX12_afterLine_20 : decode cX12_afterLine 20 = .ok (.iload_n 1, 1) := by decide +kernel
theorem dX12_afterLine_21 : decode cX12_afterLine 21 = .ok (.iload_n 2, 1) := by decide +kernel
theorem dX12_afterLine_22 : decode cX12_afterLine 22 = .ok (.if_icmp .ne 12, 3) := by decide +kernel
theorem dX12_afterLine_25 : decode cX12_afterLine 25 = .ok (.aload_n 0, 1) := by decide +kernel
theorem dX12_afterLine_26 : decode cX12_afterLine 26 = .ok (.iconst 3, 1) := by decide +kernel
theorem dX12_afterLine_27 : decode cX12_afterLine 27 = .ok (.aload_n 0, 1) := by decide +kernel
theorem dX12_afterLine_28 : decode cX12_afterLine 28 = .ok (.getfield 100, 3) := by decide +kernel
theorem dX12_afterLine_31 : decode cX12_afterLine 31 = .ok (.invokevirtual 146, 3) := by decide +kernel
theorem dX12_afterLine_34 : decode cX12_afterLine 34 = .ok (.aload_n 0, 1) := by decide +kernel
theorem dX12_afterLine_35 : decode cX12_afterLine 35 = .ok (.getfield 119, 3) := by decide +kernel
theorem dX12_afterLine_38 : decode cX12_afterLine 38 = .ok (.ifCond .ne 22, 3) := by decide +kernel
theorem dX12_afterLine_41 : decode cX12_afterLine 41 = .ok (.aload_n 0, 1) := by decide +kernel
theorem dX12_afterLine_42 : decode cX12_afterLine 42 = .ok (.iload_n 2, 1) := by decide +kernel
theorem dX12_afterLine_43 : decode cX12_afterLine 43 = .ok (.iload_n 1, 1) := by decide +kernel
theorem dX12_afterLine_44 : decode cX12_afterLine 44 = .ok (.invokevirtual 274, 3) := by decide +kernel
theorem dX12_afterLine_47 : decode cX12_afterLine 47 = .ok (.ifCond .eq 13, 3) := by decide +kernel
theorem dX12_afterLine_50 : decode cX12_afterLine 50 = .ok (.aload_n 0, 1) := by decide +kernel
theorem dX12_afterLine_51 : decode cX12_afterLine 51 = .ok (.bipush 7, 2) := by decide +kernel
theorem dX12_afterLine_53 : decode cX12_afterLine 53 = .ok (.aload_n 0, 1) := by decide +kernel
theorem dX12_afterLine_54 : decode cX12_afterLine 54 = .ok (.getfield 100, 3) := by decide +kernel
theorem dX12_afterLine_57 : decode cX12_afterLine 57 = .ok (.invokevirtual 146, 3) := by decide +kernel
theorem dX12_afterLine_60 : decode cX12_afterLine 60 = .ok (.aload_n 0, 1) := by decide +kernel
theorem dX12_afterLine_61 : decode cX12_afterLine 61 = .ok (.getfield 119, 3) := by decide +kernel
theorem dX12_afterLine_64 : decode cX12_afterLine 64 = .ok (.ifCond .eq 4, 3) := by decide +kernel
theorem dX12_afterLine_67 : decode cX12_afterLine 67 = .ok (.return_, 1) := by decide +kernel
theorem dX12_afterLine_68 : decode cX12_afterLine 68 = .ok (.aload_n 0, 1) := by decide +kernel
theorem dX12_afterLine_69 : decode cX12_afterLine 69 = .ok (.invokevirtual 140, 3) := by decide +kernel
theorem dX12_afterLine_72 : decode cX12_afterLine 72 = .ok (.aload_n 0, 1) := by decide +kernel
theorem dX12_afterLine_73 : decode cX12_afterLine 73 = .ok (.getfield 23, 3) := by decide +kernel
theorem dX12_afterLine_76 : decode cX12_afterLine 76 = .ok (.bipush 49, 2) := by decide +kernel
theorem dX12_afterLine_78 : decode cX12_afterLine 78 = .ok (.iload_n 2, 1) := by decide +kernel
theorem dX12_afterLine_79 : decode cX12_afterLine 79 = .ok (.iadd, 1) := by decide +kernel
theorem dX12_afterLine_80 : decode cX12_afterLine 80 = .ok (.dup2, 1) := by decide +kernel
theorem dX12_afterLine_81 : decode cX12_afterLine 81 = .ok (.iaload, 1) := by decide +kernel
theorem dX12_afterLine_82 : decode cX12_afterLine 82 = .ok (.iconst 1, 1) := by decide +kernel
theorem dX12_afterLine_83 : decode cX12_afterLine 83 = .ok (.iload_n 1, 1) := by decide +kernel
theorem dX12_afterLine_84 : decode cX12_afterLine 84 = .ok (.ishl, 1) := by decide +kernel
theorem dX12_afterLine_85 : decode cX12_afterLine 85 = .ok (.ior, 1) := by decide +kernel
theorem dX12_afterLine_86 : decode cX12_afterLine 86 = .ok (.iastore, 1) := by decide +kernel
theorem dX12_afterLine_87 : decode cX12_afterLine 87 = .ok (.aload_n 0, 1) := by decide +kernel
theorem dX12_afterLine_88 : decode cX12_afterLine 88 = .ok (.getfield 23, 3) := by decide +kernel
theorem dX12_afterLine_91 : decode cX12_afterLine 91 = .ok (.bipush 6, 2) := by decide +kernel
theorem dX12_afterLine_93 : decode cX12_afterLine 93 = .ok (.dup2, 1) := by decide +kernel
theorem dX12_afterLine_94 : decode cX12_afterLine 94 = .ok (.iaload, 1) := by decide +kernel
theorem dX12_afterLine_95 : decode cX12_afterLine 95 = .ok (.iconst 1, 1) := by decide +kernel
theorem dX12_afterLine_96 : decode cX12_afterLine 96 = .ok (.iadd, 1) := by decide +kernel
theorem dX12_afterLine_97 : decode cX12_afterLine 97 = .ok (.iastore, 1) := by decide +kernel
theorem dX12_afterLine_98 : decode cX12_afterLine 98 = .ok (.return_, 1) := by decide +kernel
theorem dX12_comesBefore_0 : decode cX12_comesBefore 0 = .ok (.iconst 1, 1) := by decide +kernel
theorem dX12_comesBefore_1 : decode cX12_comesBefore 1 = .ok (.iload_n 2, 1) := by decide +kernel
theorem dX12_comesBefore_2 : decode cX12_comesBefore 2 = .ok (.ishl, 1) := by decide +kernel
theorem dX12_comesBefore_3 : decode cX12_comesBefore 3 = .ok (.istore_n 3, 1) := by decide +kernel
theorem dX12_comesBefore_4 : decode cX12_comesBefore 4 = .ok (.iconst 0, 1) := by decide +kernel
theorem dX12_comesBefore_5 : decode cX12_comesBefore 5 = .ok (.istore 4, 2) := by decide +kernel
theorem dX12_comesBefore_7 : decode cX12_comesBefore 7 = .ok (.iload_n 3, 1) := by decide +kernel
theorem dX12_comesBefore_8 : decode cX12_comesBefore 8 = .ok (.iload 4, 2) := by decide +kernel
theorem dX12_comesBefore_10 : decode cX12_comesBefore 10 = .ok (.if_icmp .eq 50, 3) := by decide +kernel
theorem dX12_comesBefore_13 : decode cX12_comesBefore 13 = .ok (.iload_n 3, 1) := by decide +kernel
theorem dX12_comesBefore_14 : decode cX12_comesBefore 14 = .ok (.istore 4, 2) := by decide +kernel
theorem dX12_comesBefore_16 : decode cX12_comesBefore 16 = .ok (.iconst 0, 1) := by decide +kernel
theorem dX12_comesBefore_17 : decode cX12_comesBefore 17 = .ok (.istore 5, 2) := by decide +kernel
theorem dX12_comesBefore_19 : decode cX12_comesBefore 19 = .ok (.iload 5, 2) := by decide +kernel
theorem dX12_comesBefore_21 : decode cX12_comesBefore 21 = .ok (.iconst 5, 1) := by decide +kernel
theorem dX12_comesBefore_22 : decode cX12_comesBefore 22 = .ok (.if_icmp .ge 35, 3) := by decide +kernel
theorem dX12_comesBefore_25 : decode cX12_comesBefore 25 = .ok (.iload_n 3, 1) := by decide +kernel
theorem dX12_comesBefore_26 : decode cX12_comesBefore 26 = .ok (.iload_n 3, 1) := by decide +kernel
theorem dX12_comesBefore_27 : decode cX12_comesBefore 27 = .ok (.iload 5, 2) := by decide +kernel
theorem dX12_comesBefore_29 : decode cX12_comesBefore 29 = .ok (.invokestatic 278, 3) := by decide +kernel
theorem dX12_comesBefore_32 : decode cX12_comesBefore 32 = .ok (.ifCond .eq 16, 3) := by decide +kernel
theorem dX12_comesBefore_35 : decode cX12_comesBefore 35 = .ok (.aload_n 0, 1) := by decide +kernel
theorem dX12_comesBefore_36 : decode cX12_comesBefore 36 = .ok (.getfield 23, 3) := by decide +kernel
theorem dX12_comesBefore_39 : decode cX12_comesBefore 39 = .ok (.bipush 49, 2) := by decide +kernel
theorem dX12_comesBefore_41 : decode cX12_comesBefore 41 = .ok (.iload 5, 2) := by decide +kernel
theorem dX12_comesBefore_43 : decode cX12_comesBefore 43 = .ok (.iadd, 1) := by decide +kernel
theorem dX12_comesBefore_44 : decode cX12_comesBefore 44 = .ok (.iaload, 1) := by decide +kernel
theorem dX12_comesBefore_45 : decode cX12_comesBefore 45 = .ok (.goto 4, 3) := by decide +kernel
theorem dX12_comesBefore_48 : decode cX12_comesBefore 48 = .ok (.iconst 0, 1) := by decide +kernel
theorem dX12_comesBefore_49 : decode cX12_comesBefore 49 = .ok (.ior, 1) := by decide +kernel
theorem dX12_comesBefore_50 : decode cX12_comesBefore 50 = .ok (.istore_n 3, 1) := by decide +kernel
theorem dX12_comesBefore_51 : decode cX12_comesBefore 51 = .ok (.iinc 5 1, 3) := by decide +kernel
theorem dX12_comesBefore_54 : decode cX12_comesBefore 54 = .ok (.goto (-35), 3) := by decide +kernel
theorem dX12_comesBefore_57 : decode cX12_comesBefore 57 = .ok (.goto (-50), 3) := by decide +kernel
theorem dX12_comesBefore_60 : decode cX12_comesBefore 60 = .ok (.iload_n 3, 1) := by decide +kernel
theorem dX12_comesBefore_61 : decode cX12_comesBefore 61 = .ok (.iload_n 1, 1) := by decide +kernel
theorem dX12_comesBefore_62 : decode cX12_comesBefore 62 = .ok (.invokestatic 278, 3) := by decide +kernel
theorem dX12_comesBefore_65 : decode cX12_comesBefore 65 = .ok (.ireturn, 1) := by decide +kernel
theorem dX12_onLine_0 : decode cX12_onLine 0 = .ok (.bipush 54, 2) := by decide +kernel
theorem dX12_onLine_2 : decode cX12_onLine 2 = .ok (.bipush 7, 2) := by decide +kernel
theorem dX12_onLine_4 : decode cX12_onLine 4 = .ok (.aload_n 0, 1) := by decide +kernel
theorem dX12_onLine_5 : decode cX12_onLine 5 = .ok (.getfield 23, 3) := by decide +kernel
theorem dX12_onLine_8 : decode cX12_onLine 8 = .ok (.bipush 7, 2) := by decide +kernel
theorem dX12_onLine_10 : decode cX12_onLine 10 = .ok (.iaload, 1) := by decide +kernel
theorem dX12_onLine_11 : decode cX12_onLine 11 = .ok (.imul, 1) := by decide +kernel
theorem dX12_onLine_12 : decode cX12_onLine 12 = .ok (.iadd, 1) := by decide +kernel
theorem dX12_onLine_13 : decode cX12_onLine 13 = .ok (.istore_n 1, 1) := by decide +kernel
theorem dX12_onLine_14 : decode cX12_onLine 14 = .ok (.aload_n 0, 1) := by decide +kernel
theorem dX12_onLine_15 : decode cX12_onLine 15 = .ok (.iconst 1, 1) := by decide +kernel
theorem dX12_onLine_16 : decode cX12_onLine 16 = .ok (.invokevirtual 271, 3) := by decide +kernel
theorem dX12_onLine_19 : decode cX12_onLine 19 = .ok (.istore_n 2, 1) := by decide +kernel
theorem dX12_onLine_20 : decode cX12_onLine 20 = .ok (.aload_n 0, 1) := by decide +kernel
theorem dX12_onLine_21 : decode cX12_onLine 21 = .ok (.iconst 0, 1) := by decide +kernel
theorem dX12_onLine_22 : decode cX12_onLine 22 = .ok (.invokevirtual 271, 3) := by decide +kernel
theorem dX12_onLine_25 : decode cX12_onLine 25 = .ok (.istore_n 3, 1) := by decide +kernel
theorem dX12_onLine_26 : decode cX12_onLine 26 = .ok (.aload_n 0, 1) := by decide +kernel
theorem dX12_onLine_27 : decode cX12_onLine 27 = .ok (.getfield 119, 3) := by decide +kernel
theorem dX12_onLine_30 : decode cX12_onLine 30 = .ok (.ifCond .eq 7, 3) := by decide +kernel
theorem dX12_onLine_33 : decode cX12_onLine 33 = .ok (.iconst 1, 1) := by decide +kernel
theorem dX12_onLine_34 : decode cX12_onLine 34 = .ok (.goto 12, 3) := by decide +kernel
theorem dX12_onLine_37 : decode cX12_onLine 37 = .ok (.aload_n 0, 1) := by decide +kernel
theorem dX12_onLine_38 : decode cX12_onLine 38 = .ok (.getfield 23, 3) := by decide +kernel
theorem dX12_onLine_41 : decode cX12_onLine 41 = .ok (.bipush 44, 2) := by decide +kernel
theorem dX12_onLine_43 : decode cX12_onLine 43 = .ok (.iload_n 3, 1) := by decide +kernel
theorem dX12_onLine_44 : decode cX12_onLine 44 = .ok (.iadd, 1) := by decide +kernel
theorem dX12_onLine_45 : decode cX12_onLine 45 = .ok (.iaload, 1) := by decide +kernel
theorem dX12_onLine_46 : decode cX12_onLine 46 = .ok (.istore 4, 2) := by decide +kernel
theorem dX12_onLine_48 : decode cX12_onLine 48 = .ok (.aload_n 0, 1) := by decide +kernel
theorem dX12_onLine_49 : decode cX12_onLine 49 = .ok (.iconst 0, 1) := by decide +kernel
theorem dX12_onLine_50 : decode cX12_onLine 50 = .ok (.iload 4, 2) := by decide +kernel
theorem dX12_onLine_52 : decode cX12_onLine 52 = .ok (.iconst 1, 1) := by decide +kernel
theorem dX12_onLine_53 : decode cX12_onLine 53 = .ok (.isub, 1) := by decide +kernel
theorem dX12_onLine_54 : decode cX12_onLine 54 = .ok (.invokevirtual 182, 3) := by decide +kernel
theorem dX12_onLine_57 : decode cX12_onLine 57 = .ok (.istore 5, 2) := by decide +kernel
theorem dX12_onLine_59 : decode cX12_onLine 59 = .ok (.aload_n 0, 1) := by decide +kernel
theorem dX12_onLine_60 : decode cX12_onLine 60 = .ok (.ldc_w 281, 3) := by decide +kernel
theorem dX12_onLine_63 : decode cX12_onLine 63 = .ok (.invokevirtual 178, 3) := by decide +kernel
theorem dX12_onLine_66 : decode cX12_onLine 66 = .ok (.aload_n 0, 1) := by decide +kernel
theorem dX12_onLine_67 : decode cX12_onLine 67 = .ok (.iload 5, 2) := by decide +kernel
theorem dX12_onLine_69 : decode cX12_onLine 69 = .ok (.iconst 1, 1) := by decide +kernel
theorem dX12_onLine_70 : decode cX12_onLine 70 = .ok (.iadd, 1) := by decide +kernel
theorem dX12_onLine_71 : decode cX12_onLine 71 = .ok (.iload 4, 2) := by decide +kernel
theorem dX12_onLine_73 : decode cX12_onLine 73 = .ok (.invokevirtual 182, 3) := by decide +kernel
theorem dX12_onLine_76 : decode cX12_onLine 76 = .ok (.istore 6, 2) := by decide +kernel
theorem dX12_onLine_78 : decode cX12_onLine 78 = .ok (.aload_n 0, 1) := by decide +kernel
theorem dX12_onLine_79 : decode cX12_onLine 79 = .ok (.invokevirtual 283, 3) := by decide +kernel
theorem dX12_onLine_82 : decode cX12_onLine 82 = .ok (.istore 7, 2) := by decide +kernel
theorem dX12_onLine_84 : decode cX12_onLine 84 = .ok (.aload_n 0, 1) := by decide +kernel
theorem dX12_onLine_85 : decode cX12_onLine 85 = .ok (.invokevirtual 283, 3) := by decide +kernel
theorem dX12_onLine_88 : decode cX12_onLine 88 = .ok (.istore 8, 2) := by decide +kernel
theorem dX12_onLine_90 : decode cX12_onLine 90 = .ok (.aload_n 0, 1) := by decide +kernel
theorem dX12_onLine_91 : decode cX12_onLine 91 = .ok (.getfield 119, 3) := by decide +kernel
theorem dX12_onLine_94 : decode cX12_onLine 94 = .ok (.ifCond .eq 4, 3) := by decide +kernel
theorem dX12_onLine_97 : decode cX12_onLine 97 = .ok (.return_, 1) := by decide +kernel
theorem dX12_onLine_98 : decode cX12_onLine 98 = .ok (.aload_n 0, 1) := by decide +kernel
theorem dX12_onLine_99 : decode cX12_onLine 99 = .ok (.getfield 23, 3) := by decide +kernel
theorem dX12_onLine_102 : decode cX12_onLine 102 = .ok (.iload_n 1, 1) := by decide +kernel
theorem dX12_onLine_103 : decode cX12_onLine 103 = .ok (.iconst 0, 1) := by decide +kernel
theorem dX12_onLine_104 : decode cX12_onLine 104 = .ok (.iadd, 1) := by decide +kernel
theorem dX12_onLine_105 : decode cX12_onLine 105 = .ok (.iload_n 2, 1) := by decide +kernel
theorem dX12_onLine_106 : decode cX12_onLine 106 = .ok (.iastore, 1) := by decide +kernel
theorem dX12_onLine_107 : decode cX12_onLine 107 = .ok (.aload_n 0, 1) := by decide +kernel
theorem dX12_onLine_108 : decode cX12_onLine 108 = .ok (.getfield 23, 3) := by decide +kernel
theorem dX12_onLine_111 : decode cX12_onLine 111 = .ok (.iload_n 1, 1) := by decide +kernel
theorem dX12_onLine_112 : decode cX12_onLine 112 = .ok (.iconst 1, 1) := by decide +kernel
theorem dX12_onLine_113 : decode cX12_onLine 113 = .ok (.iadd, 1) := by decide +kernel
theorem dX12_onLine_114 : decode cX12_onLine 114 = .ok (.iload_n 3, 1) := by decide +kernel
theorem dX12_onLine_115 : decode cX12_onLine 115 = .ok (.iastore, 1) := by decide +kernel
theorem dX12_onLine_116 : decode cX12_onLine 116 = .ok (.aload_n 0, 1) := by decide +kernel
theorem dX12_onLine_117 : decode cX12_onLine 117 = .ok (.getfield 23, 3) := by decide +kernel
theorem dX12_onLine_120 : decode cX12_onLine 120 = .ok (.iload_n 1, 1) := by decide +kernel
theorem dX12_onLine_121 : decode cX12_onLine 121 = .ok (.iconst 2, 1) := by decide +kernel
theorem dX12_onLine_122 : decode cX12_onLine 122 = .ok (.iadd, 1) := by decide +kernel
theorem dX12_onLine_123 : decode cX12_onLine 123 = .ok (.iload 5, 2) := by decide +kernel
theorem dX12_onLine_125 : decode cX12_onLine 125 = .ok (.iastore, 1) := by decide +kernel
theorem dX12_onLine_126 : decode cX12_onLine 126 = .ok (.aload_n 0, 1) := by decide +kernel
theorem dX12_onLine_127 : decode cX12_onLine 127 = .ok (.getfield 23, 3) := by decide +kernel
theorem dX12_onLine_130 : decode cX12_onLine 130 = .ok (.iload_n 1, 1) := by decide +kernel
theorem dX12_onLine_131 : decode cX12_onLine 131 = .ok (.iconst 3, 1) := by decide +kernel
theorem dX12_onLine_132 : decode cX12_onLine 132 = .ok (.iadd, 1) := by decide +kernel
theorem dX12_onLine_133 : decode cX12_onLine 133 = .ok (.iload 6, 2) := by decide +kernel
theorem dX12_onLine_135 : decode cX12_onLine 135 = .ok (.iastore, 1) := by decide +kernel
theorem dX12_onLine_136 : decode cX12_onLine 136 = .ok (.aload_n 0, 1) := by decide +kernel
theorem dX12_onLine_137 : decode cX12_onLine 137 = .ok (.getfield 23, 3) := by decide +kernel
theorem dX12_onLine_140 : decode cX12_onLine 140 = .ok (.iload_n 1, 1) := by decide +kernel
theorem dX12_onLine_141 : decode cX12_onLine 141 = .ok (.iconst 4, 1) := by decide +kernel
theorem dX12_onLine_142 : decode cX12_onLine 142 = .ok (.iadd, 1) := by decide +kernel
theorem dX12_onLine_143 : decode cX12_onLine 143 = .ok (.iload 7, 2) := by decide +kernel
theorem dX12_onLine_145 : decode cX12_onLine 145 = .ok (.iastore, 1) := by decide +kernel
theorem dX12_onLine_146 : decode cX12_onLine 146 = .ok (.aload_n 0, 1) := by decide +kernel
theorem dX12_onLine_147 : decode cX12_onLine 147 = .ok (.getfield 23, 3) := by decide +kernel
theorem dX12_onLine_150 : decode cX12_onLine 150 = .ok (.iload_n 1, 1) := by decide +kernel
theorem dX12_onLine_151 : decode cX12_onLine 151 = .ok (.iconst 5, 1) := by decide +kernel
theorem dX12_onLine_152 : decode cX12_onLine 152 = .ok (.iadd, 1) := by decide +kernel
theorem dX12_onLine_153 : decode cX12_onLine 153 = .ok (.iload 8, 2) := by decide +kernel
theorem dX12_onLine_155 : decode cX12_onLine 155 = .ok (.iastore, 1) := by decide +kernel
theorem dX12_onLine_156 : decode cX12_onLine 156 = .ok (.aload_n 0, 1) := by decide +kernel
theorem dX12_onLine_157 : decode cX12_onLine 157 = .ok (.getfield 23, 3) := by decide +kernel
theorem dX12_onLine_160 : decode cX12_onLine 160 = .ok (.iload_n 1, 1) := by decide +kernel
theorem dX12_onLine_161 : decode cX12_onLine 161 = .ok (.bipush 6, 2) := by decide +kernel
theorem dX12_onLine_163 : decode cX12_onLine 163 = .ok (.iadd, 1) := by decide +kernel
theorem dX12_onLine_164 : decode cX12_onLine 164 = .ok (.aload_n 0, 1) := by decide +kernel
theorem dX12_onLine_165 : decode cX12_onLine 165 = .ok (.ldc 162, 2) := by decide +kernel
theorem dX12_onLine_167 : decode cX12_onLine 167 = .ok (.invokevirtual 143, 3) := by decide +kernel
theorem dX12_onLine_170 : decode cX12_onLine 170 = .ok (.ifCond .eq 7, 3) := by decide +kernel
theorem dX12_onLine_173 : decode cX12_onLine 173 = .ok (.iconst 1, 1) := by decide +kernel
theorem dX12_onLine_174 : decode cX12_onLine 174 = .ok (.goto 4, 3) := by decide +kernel
theorem dX12_onLine_177 : decode cX12_onLine 177 = .ok (.iconst 0, 1) := by decide +kernel
theorem dX12_onLine_178 : decode cX12_onLine 178 = .ok (.iastore, 1) := by decide +kernel
theorem dX12_onLine_179 : decode cX12_onLine 179 = .ok (.aload_n 0, 1) := by decide +kernel
theorem dX12_onLine_180 : decode cX12_onLine 180 = .ok (.getfield 23, 3) := by decide +kernel
theorem dX12_onLine_183 : decode cX12_onLine 183 = .ok (.bipush 7, 2) := by decide +kernel
theorem dX12_onLine_185 : decode cX12_onLine 185 = .ok (.dup2, 1) := by decide +kernel
theorem dX12_onLine_186 : decode cX12_onLine 186 = .ok (.iaload, 1) := by decide +kernel
theorem dX12_onLine_187 : decode cX12_onLine 187 = .ok (.iconst 1, 1) := by decide +kernel
theorem dX12_onLine_188 : decode cX12_onLine 188 = .ok (.iadd, 1) := by decide +kernel
theorem dX12_onLine_189 : decode cX12_onLine 189 = .ok (.iastore, 1) := by decide +kernel
theorem dX12_onLine_190 : decode cX12_onLine 190 = .ok (.return_, 1) := by decide +kernel
theorem dX12_sawLine_0 : decode cX12_sawLine 0 = .ok (.sipush 152, 3) := by decide +kernel
theorem dX12_sawLine_3 : decode cX12_sawLine 3 = .ok (.iconst 3, 1) := by decide +kernel
theorem dX12_sawLine_4 : decode cX12_sawLine 4 = .ok (.aload_n 0, 1) := by decide +kernel
theorem dX12_sawLine_5 : decode cX12_sawLine 5 = .ok (.getfield 23, 3) := by decide +kernel
theorem dX12_sawLine_8 : decode cX12_sawLine 8 = .ok (.bipush 8, 2) := by decide +kernel
theorem dX12_sawLine_10 : decode cX12_sawLine 10 = .ok (.iaload, 1) := by decide +kernel
theorem dX12_sawLine_11 : decode cX12_sawLine 11 = .ok (.imul, 1) := by decide +kernel
theorem dX12_sawLine_12 : decode cX12_sawLine 12 = .ok (.iadd, 1) := by decide +kernel
theorem dX12_sawLine_13 : decode cX12_sawLine 13 = .ok (.istore_n 1, 1) := by decide +kernel
theorem dX12_sawLine_14 : decode cX12_sawLine 14 = .ok (.aload_n 0, 1) := by decide +kernel
theorem dX12_sawLine_15 : decode cX12_sawLine 15 = .ok (.getfield 23, 3) := by decide +kernel
theorem dX12_sawLine_18 : decode cX12_sawLine 18 = .ok (.iload_n 1, 1) := by decide +kernel
theorem dX12_sawLine_19 : decode cX12_sawLine 19 = .ok (.aload_n 0, 1) := by decide +kernel
theorem dX12_sawLine_20 : decode cX12_sawLine 20 = .ok (.iconst 1, 1) := by decide +kernel
theorem dX12_sawLine_21 : decode cX12_sawLine 21 = .ok (.invokevirtual 271, 3) := by decide +kernel
theorem dX12_sawLine_24 : decode cX12_sawLine 24 = .ok (.iastore, 1) := by decide +kernel
theorem dX12_sawLine_25 : decode cX12_sawLine 25 = .ok (.aload_n 0, 1) := by decide +kernel
theorem dX12_sawLine_26 : decode cX12_sawLine 26 = .ok (.getfield 23, 3) := by decide +kernel
theorem dX12_sawLine_29 : decode cX12_sawLine 29 = .ok (.iload_n 1, 1) := by decide +kernel
theorem dX12_sawLine_30 : decode cX12_sawLine 30 = .ok (.iconst 1, 1) := by decide +kernel
theorem dX12_sawLine_31 : decode cX12_sawLine 31 = .ok (.iadd, 1) := by decide +kernel
theorem dX12_sawLine_32 : decode cX12_sawLine 32 = .ok (.aload_n 0, 1) := by decide +kernel
theorem dX12_sawLine_33 : decode cX12_sawLine 33 = .ok (.iconst 0, 1) := by decide +kernel
theorem dX12_sawLine_34 : decode cX12_sawLine 34 = .ok (.sipush 999, 3) := by decide +kernel
theorem dX12_sawLine_37 : decode cX12_sawLine 37 = .ok (.invokevirtual 182, 3) := by decide +kernel
theorem dX12_sawLine_40 : decode cX12_sawLine 40 = .ok (.iastore, 1) := by decide +kernel
theorem dX12_sawLine_41 : decode cX12_sawLine 41 = .ok (.aload_n 0, 1) := by decide +kernel
theorem dX12_sawLine_42 : decode cX12_sawLine 42 = .ok (.getfield 23, 3) := by decide +kernel
theorem dX12_sawLine_45 : decode cX12_sawLine 45 = .ok (.iload_n 1, 1) := by decide +kernel
theorem dX12_sawLine_46 : decode cX12_sawLine 46 = .ok (.iconst 2, 1) := by decide +kernel
theorem dX12_sawLine_47 : decode cX12_sawLine 47 = .ok (.iadd, 1) := by decide +kernel
theorem dX12_sawLine_48 : decode cX12_sawLine 48 = .ok (.aload_n 0, 1) := by decide +kernel
theorem dX12_sawLine_49 : decode cX12_sawLine 49 = .ok (.invokevirtual 283, 3) := by decide +kernel
theorem dX12_sawLine_52 : decode cX12_sawLine 52 = .ok (.iastore, 1) := by decide +kernel
theorem dX12_sawLine_53 : decode cX12_sawLine 53 = .ok (.aload_n 0, 1) := by decide +kernel
theorem dX12_sawLine_54 : decode cX12_sawLine 54 = .ok (.getfield 119, 3) := by decide +kernel
theorem dX12_sawLine_57 : decode cX12_sawLine 57 = .ok (.ifCond .ne 14, 3) := by decide +kernel
theorem dX12_sawLine_60 : decode cX12_sawLine 60 = .ok (.aload_n 0, 1) := by decide +kernel
theorem dX12_sawLine_61 : decode cX12_sawLine 61 = .ok (.getfield 23, 3) := by decide +kernel
theorem dX12_sawLine_64 : decode cX12_sawLine 64 = .ok (.bipush 8, 2) := by decide +kernel
theorem dX12_sawLine_66 : decode cX12_sawLine 66 = .ok (.dup2, 1) := by decide +kernel
theorem dX12_sawLine_67 : decode cX12_sawLine 67 = .ok (.iaload, 1) := by decide +kernel
theorem dX12_sawLine_68 : decode cX12_sawLine 68 = .ok (.iconst 1, 1) := by decide +kernel
theorem dX12_sawLine_69 : decode cX12_sawLine 69 = .ok (.iadd, 1) := by decide +kernel
theorem dX12_sawLine_70 : decode cX12_sawLine 70 = .ok (.iastore, 1) := by decide +kernel
theorem dX12_sawLine_71 : decode cX12_sawLine 71 = .ok (.return_, 1) := by decide +kernel
theorem dX12_fault_0 : decode cX12_fault 0 = .ok (.aload_n 0, 1) := by decide +kernel
theorem dX12_fault_1 : decode cX12_fault 1 = .ok (.iconst 0, 1) := by decide +kernel
theorem dX12_fault_2 : decode cX12_fault 2 = .ok (.putfield 81, 3) := by decide +kernel
theorem dX12_fault_5 : decode cX12_fault 5 = .ok (.aload_n 0, 1) := by decide +kernel
theorem dX12_fault_6 : decode cX12_fault 6 = .ok (.getfield 123, 3) := by decide +kernel
theorem dX12_fault_9 : decode cX12_fault 9 = .ok (.ireturn, 1) := by decide +kernel
theorem dX12_where_0 : decode cX12_where 0 = .ok (.aload_n 0, 1) := by decide +kernel
theorem dX12_where_1 : decode cX12_where 1 = .ok (.iconst 0, 1) := by decide +kernel
theorem dX12_where_2 : decode cX12_where 2 = .ok (.putfield 81, 3) := by decide +kernel
theorem dX12_where_5 : decode cX12_where 5 = .ok (.aload_n 0, 1) := by decide +kernel
theorem dX12_where_6 : decode cX12_where 6 = .ok (.getfield 84, 3) := by decide +kernel
theorem dX12_where_9 : decode cX12_where 9 = .ok (.iconst 4, 1) := by decide +kernel
theorem dX12_where_10 : decode cX12_where 10 = .ok (.if_icmp .ne 10, 3) := by decide +kernel
theorem dX12_where_13 : decode cX12_where 13 = .ok (.aload_n 0, 1) := by decide +kernel
theorem dX12_where_14 : decode cX12_where 14 = .ok (.getfield 13, 3) := by decide +kernel
theorem dX12_where_17 : decode cX12_where 17 = .ok (.goto 4, 3) := by decide +kernel
theorem dX12_where_20 : decode cX12_where 20 = .ok (.iconst (-1), 1) := by decide +kernel
theorem dX12_where_21 : decode cX12_where 21 = .ok (.ireturn, 1) := by decide +kernel
theorem dX12_isPart_0 : decode cX12_isPart 0 = .ok (.aload_n 0, 1) := by decide +kernel
theorem dX12_isPart_1 : decode cX12_isPart 1 = .ok (.getfield 203, 3) := by decide +kernel
theorem dX12_isPart_4 : decode cX12_isPart 4 = .ok (.ifCond .eq 23, 3) := by decide +kernel
theorem dX12_isPart_7 : decode cX12_isPart 7 = .ok (.iload_n 1, 1) := by decide +kernel
theorem dX12_isPart_8 : decode cX12_isPart 8 = .ok (.iconst 0, 1) := by decide +kernel
theorem dX12_isPart_9 : decode cX12_isPart 9 = .ok (.aload_n 0, 1) := by decide +kernel
theorem dX12_isPart_10 : decode cX12_isPart 10 = .ok (.getfield 20, 3) := by decide +kernel
theorem dX12_isPart_13 : decode cX12_isPart 13 = .ok (.iconst 4, 1) := by decide +kernel
theorem dX12_isPart_14 : decode cX12_isPart 14 = .ok (.iaload, 1) := by decide +kernel
theorem dX12_isPart_15 : decode cX12_isPart 15 = .ok (.iconst 1, 1) := by decide +kernel
theorem dX12_isPart_16 : decode cX12_isPart 16 = .ok (.isub, 1) := by decide +kernel
theorem dX12_isPart_17 : decode cX12_isPart 17 = .ok (.invokestatic 174, 3) := by decide +kernel
theorem dX12_isPart_20 : decode cX12_isPart 20 = .ok (.ifCond .eq 7, 3) := by decide +kernel
theorem dX12_isPart_23 : decode cX12_isPart 23 = .ok (.iconst 1, 1) := by decide +kernel
theorem dX12_isPart_24 : decode cX12_isPart 24 = .ok (.goto 4, 3) := by decide +kernel
theorem dX12_isPart_27 : decode cX12_isPart 27 = .ok (.iconst 0, 1) := by decide +kernel
theorem dX12_isPart_28 : decode cX12_isPart 28 = .ok (.ireturn, 1) := by decide +kernel
theorem dX12_isScene_0 : decode cX12_isScene 0 = .ok (.aload_n 0, 1) := by decide +kernel
theorem dX12_isScene_1 : decode cX12_isScene 1 = .ok (.getfield 203, 3) := by decide +kernel
theorem dX12_isScene_4 : decode cX12_isScene 4 = .ok (.ifCond .eq 23, 3) := by decide +kernel
theorem dX12_isScene_7 : decode cX12_isScene 7 = .ok (.iload_n 1, 1) := by decide +kernel
theorem dX12_isScene_8 : decode cX12_isScene 8 = .ok (.iconst 0, 1) := by decide +kernel
theorem dX12_isScene_9 : decode cX12_isScene 9 = .ok (.aload_n 0, 1) := by decide +kernel
theorem dX12_isScene_10 : decode cX12_isScene 10 = .ok (.getfield 20, 3) := by decide +kernel
theorem dX12_isScene_13 : decode cX12_isScene 13 = .ok (.iconst 5, 1) := by decide +kernel
theorem dX12_isScene_14 : decode cX12_isScene 14 = .ok (.iaload, 1) := by decide +kernel
theorem dX12_isScene_15 : decode cX12_isScene 15 = .ok (.iconst 1, 1) := by decide +kernel
theorem dX12_isScene_16 : decode cX12_isScene 16 = .ok (.isub, 1) := by decide +kernel
theorem dX12_isScene_17 : decode cX12_isScene 17 = .ok (.invokestatic 174, 3) := by decide +kernel
theorem dX12_isScene_20 : decode cX12_isScene 20 = .ok (.ifCond .eq 7, 3) := by decide +kernel
theorem dX12_isScene_23 : decode cX12_isScene 23 = .ok (.iconst 1, 1) := by decide +kernel
theorem dX12_isScene_24 : decode cX12_isScene 24 = .ok (.goto 4, 3) := by decide +kernel
theorem dX12_isScene_27 : decode cX12_isScene 27 = .ok (.iconst 0, 1) := by decide +kernel
theorem dX12_isScene_28 : decode cX12_isScene 28 = .ok (.ireturn, 1) := by decide +kernel
theorem dX12_isOn_0 : decode cX12_isOn 0 = .ok (.aload_n 0, 1) := by decide +kernel
theorem dX12_isOn_1 : decode cX12_isOn 1 = .ok (.getfield 203, 3) := by decide +kernel
theorem dX12_isOn_4 : decode cX12_isOn 4 = .ok (.ifCond .eq 24, 3) := by decide +kernel
theorem dX12_isOn_7 : decode cX12_isOn 7 = .ok (.iload_n 1, 1) := by decide +kernel
theorem dX12_isOn_8 : decode cX12_isOn 8 = .ok (.iconst 0, 1) := by decide +kernel
theorem dX12_isOn_9 : decode cX12_isOn 9 = .ok (.aload_n 0, 1) := by decide +kernel
theorem dX12_isOn_10 : decode cX12_isOn 10 = .ok (.getfield 20, 3) := by decide +kernel
theorem dX12_isOn_13 : decode cX12_isOn 13 = .ok (.bipush 7, 2) := by decide +kernel
theorem dX12_isOn_15 : decode cX12_isOn 15 = .ok (.iaload, 1) := by decide +kernel
theorem dX12_isOn_16 : decode cX12_isOn 16 = .ok (.iconst 1, 1) := by decide +kernel
theorem dX12_isOn_17 : decode cX12_isOn 17 = .ok (.isub, 1) := by decide +kernel
theorem dX12_isOn_18 : decode cX12_isOn 18 = .ok (.invokestatic 174, 3) := by decide +kernel
theorem dX12_isOn_21 : decode cX12_isOn 21 = .ok (.ifCond .eq 7, 3) := by decide +kernel
theorem dX12_isOn_24 : decode cX12_isOn 24 = .ok (.iconst 1, 1) := by decide +kernel
theorem dX12_isOn_25 : decode cX12_isOn 25 = .ok (.goto 4, 3) := by decide +kernel
theorem dX12_isOn_28 : decode cX12_isOn 28 = .ok (.iconst 0, 1) := by decide +kernel
theorem dX12_isOn_29 : decode cX12_isOn 29 = .ok (.ireturn, 1) := by decide +kernel
theorem dX12_isPlayer_0 : decode cX12_isPlayer 0 = .ok (.aload_n 0, 1) := by decide +kernel
theorem dX12_isPlayer_1 : decode cX12_isPlayer 1 = .ok (.getfield 203, 3) := by decide +kernel
theorem dX12_isPlayer_4 : decode cX12_isPlayer 4 = .ok (.ifCond .eq 17, 3) := by decide +kernel
theorem dX12_isPlayer_7 : decode cX12_isPlayer 7 = .ok (.iload_n 1, 1) := by decide +kernel
theorem dX12_isPlayer_8 : decode cX12_isPlayer 8 = .ok (.iconst 0, 1) := by decide +kernel
theorem dX12_isPlayer_9 : decode cX12_isPlayer 9 = .ok (.bipush 6, 2) := by decide +kernel
theorem dX12_isPlayer_11 : decode cX12_isPlayer 11 = .ok (.invokestatic 174, 3) := by decide +kernel
theorem dX12_isPlayer_14 : decode cX12_isPlayer 14 = .ok (.ifCond .eq 7, 3) := by decide +kernel
theorem dX12_isPlayer_17 : decode cX12_isPlayer 17 = .ok (.iconst 1, 1) := by decide +kernel
theorem dX12_isPlayer_18 : decode cX12_isPlayer 18 = .ok (.goto 4, 3) := by decide +kernel
theorem dX12_isPlayer_21 : decode cX12_isPlayer 21 = .ok (.iconst 0, 1) := by decide +kernel
theorem dX12_isPlayer_22 : decode cX12_isPlayer 22 = .ok (.ireturn, 1) := by decide +kernel
theorem dX12_isSaw_0 : decode cX12_isSaw 0 = .ok (.aload_n 0, 1) := by decide +kernel
theorem dX12_isSaw_1 : decode cX12_isSaw 1 = .ok (.getfield 203, 3) := by decide +kernel
theorem dX12_isSaw_4 : decode cX12_isSaw 4 = .ok (.ifCond .eq 24, 3) := by decide +kernel
theorem dX12_isSaw_7 : decode cX12_isSaw 7 = .ok (.iload_n 1, 1) := by decide +kernel
theorem dX12_isSaw_8 : decode cX12_isSaw 8 = .ok (.iconst 0, 1) := by decide +kernel
theorem dX12_isSaw_9 : decode cX12_isSaw 9 = .ok (.aload_n 0, 1) := by decide +kernel
theorem dX12_isSaw_10 : decode cX12_isSaw 10 = .ok (.getfield 20, 3) := by decide +kernel
theorem dX12_isSaw_13 : decode cX12_isSaw 13 = .ok (.bipush 8, 2) := by decide +kernel
theorem dX12_isSaw_15 : decode cX12_isSaw 15 = .ok (.iaload, 1) := by decide +kernel
theorem dX12_isSaw_16 : decode cX12_isSaw 16 = .ok (.iconst 1, 1) := by decide +kernel
theorem dX12_isSaw_17 : decode cX12_isSaw 17 = .ok (.isub, 1) := by decide +kernel
theorem dX12_isSaw_18 : decode cX12_isSaw 18 = .ok (.invokestatic 174, 3) := by decide +kernel
theorem dX12_isSaw_21 : decode cX12_isSaw 21 = .ok (.ifCond .eq 7, 3) := by decide +kernel
theorem dX12_isSaw_24 : decode cX12_isSaw 24 = .ok (.iconst 1, 1) := by decide +kernel
theorem dX12_isSaw_25 : decode cX12_isSaw 25 = .ok (.goto 4, 3) := by decide +kernel
theorem dX12_isSaw_28 : decode cX12_isSaw 28 = .ok (.iconst 0, 1) := by decide +kernel
theorem dX12_isSaw_29 : decode cX12_isSaw 29 = .ok (.ireturn, 1) := by decide +kernel
theorem dX12_onOf_0 : decode cX12_onOf 0 = .ok (.aload_n 0, 1) := by decide +kernel
theorem dX12_onOf_1 : decode cX12_onOf 1 = .ok (.getfield 20, 3) := by decide +kernel
theorem dX12_onOf_4 : decode cX12_onOf 4 = .ok (.bipush 54, 2) := by decide +kernel
theorem dX12_onOf_6 : decode cX12_onOf 6 = .ok (.bipush 7, 2) := by decide +kernel
theorem dX12_onOf_8 : decode cX12_onOf 8 = .ok (.iload_n 1, 1) := by decide +kernel
theorem dX12_onOf_9 : decode cX12_onOf 9 = .ok (.imul, 1) := by decide +kernel
theorem dX12_onOf_10 : decode cX12_onOf 10 = .ok (.iadd, 1) := by decide +kernel
theorem dX12_onOf_11 : decode cX12_onOf 11 = .ok (.iload_n 2, 1) := by decide +kernel
theorem dX12_onOf_12 : decode cX12_onOf 12 = .ok (.iadd, 1) := by decide +kernel
theorem dX12_onOf_13 : decode cX12_onOf 13 = .ok (.iaload, 1) := by decide +kernel
theorem dX12_onOf_14 : decode cX12_onOf 14 = .ok (.ireturn, 1) := by decide +kernel
theorem dX12_isOrder_0 : decode cX12_isOrder 0 = .ok (.iconst 0, 1) := by decide +kernel
theorem dX12_isOrder_1 : decode cX12_isOrder 1 = .ok (.istore_n 2, 1) := by decide +kernel
theorem dX12_isOrder_2 : decode cX12_isOrder 2 = .ok (.iconst 0, 1) := by decide +kernel
theorem dX12_isOrder_3 : decode cX12_isOrder 3 = .ok (.istore_n 3, 1) := by decide +kernel
theorem dX12_isOrder_4 : decode cX12_isOrder 4 = .ok (.iload_n 3, 1) := by decide +kernel
theorem dX12_isOrder_5 : decode cX12_isOrder 5 = .ok (.aload_n 0, 1) := by decide +kernel
theorem dX12_isOrder_6 : decode cX12_isOrder 6 = .ok (.getfield 20, 3) := by decide +kernel
theorem dX12_isOrder_9 : decode cX12_isOrder 9 = .ok (.iconst 5, 1) := by decide +kernel
theorem dX12_isOrder_10 : decode cX12_isOrder 10 = .ok (.iaload, 1) := by decide +kernel
theorem dX12_isOrder_11 : decode cX12_isOrder 11 = .ok (.if_icmp .ge 37, 3) := by decide +kernel
theorem dX12_isOrder_14 : decode cX12_isOrder 14 = .ok (.aload_n 0, 1) := by decide +kernel
theorem dX12_isOrder_15 : decode cX12_isOrder 15 = .ok (.getfield 20, 3) := by decide +kernel
theorem dX12_isOrder_18 : decode cX12_isOrder 18 = .ok (.bipush 49, 2) := by decide +kernel
theorem dX12_isOrder_20 : decode cX12_isOrder 20 = .ok (.aload_n 1, 1) := by decide +kernel
theorem dX12_isOrder_21 : decode cX12_isOrder 21 = .ok (.iload_n 3, 1) := by decide +kernel
theorem dX12_isOrder_22 : decode cX12_isOrder 22 = .ok (.iaload, 1) := by decide +kernel
theorem dX12_isOrder_23 : decode cX12_isOrder 23 = .ok (.iadd, 1) := by decide +kernel
theorem dX12_isOrder_24 : decode cX12_isOrder 24 = .ok (.iaload, 1) := by decide +kernel
theorem dX12_isOrder_25 : decode cX12_isOrder 25 = .ok (.iload_n 2, 1) := by decide +kernel
theorem dX12_isOrder_26 : decode cX12_isOrder 26 = .ok (.iconst (-1), 1) := by decide +kernel
theorem dX12_isOrder_27 : decode cX12_isOrder 27 = .ok (.ixor, 1) := by decide +kernel
theorem dX12_isOrder_28 : decode cX12_isOrder 28 = .ok (.iand, 1) := by decide +kernel
theorem dX12_isOrder_29 : decode cX12_isOrder 29 = .ok (.ifCond .eq 5, 3) := by decide +kernel
theorem dX12_isOrder_32 : decode cX12_isOrder 32 = .ok (.iconst 0, 1) := by decide +kernel
theorem dX12_isOrder_33 : decode cX12_isOrder 33 = .ok (.ireturn, 1) := by decide +kernel
theorem dX12_isOrder_34 : decode cX12_isOrder 34 = .ok (.iload_n 2, 1) := by decide +kernel
theorem dX12_isOrder_35 : decode cX12_isOrder 35 = .ok (.iconst 1, 1) := by decide +kernel
theorem dX12_isOrder_36 : decode cX12_isOrder 36 = .ok (.aload_n 1, 1) := by decide +kernel
theorem dX12_isOrder_37 : decode cX12_isOrder 37 = .ok (.iload_n 3, 1) := by decide +kernel
theorem dX12_isOrder_38 : decode cX12_isOrder 38 = .ok (.iaload, 1) := by decide +kernel
theorem dX12_isOrder_39 : decode cX12_isOrder 39 = .ok (.ishl, 1) := by decide +kernel
theorem dX12_isOrder_40 : decode cX12_isOrder 40 = .ok (.ior, 1) := by decide +kernel
theorem dX12_isOrder_41 : decode cX12_isOrder 41 = .ok (.istore_n 2, 1) := by decide +kernel
theorem dX12_isOrder_42 : decode cX12_isOrder 42 = .ok (.iinc 3 1, 3) := by decide +kernel
theorem dX12_isOrder_45 : decode cX12_isOrder 45 = .ok (.goto (-41), 3) := by decide +kernel
theorem dX12_isOrder_48 : decode cX12_isOrder 48 = .ok (.iconst 1, 1) := by decide +kernel
theorem dX12_isOrder_49 : decode cX12_isOrder 49 = .ok (.ireturn, 1) := by decide +kernel
theorem dX12_firstOrder_0 : decode cX12_firstOrder 0 = .ok (.iconst 0, 1) := by decide +kernel
theorem dX12_firstOrder_1 : decode cX12_firstOrder 1 = .ok (.istore_n 1, 1) := by decide +kernel
theorem dX12_firstOrder_2 : decode cX12_firstOrder 2 = .ok (.iload_n 1, 1) := by decide +kernel
theorem dX12_firstOrder_3 : decode cX12_firstOrder 3 = .ok (.iconst 5, 1) := by decide +kernel
theorem dX12_firstOrder_4 : decode cX12_firstOrder 4 = .ok (.if_icmp .ge 30, 3) := by decide +kernel
theorem dX12_firstOrder_7 : decode cX12_firstOrder 7 = .ok (.aload_n 0, 1) := by decide +kernel
theorem dX12_firstOrder_8 : decode cX12_firstOrder 8 = .ok (.getfield 41, 3) := by decide +kernel
theorem dX12_firstOrder_11 : decode cX12_firstOrder 11 = .ok (.iload_n 1, 1) := by decide +kernel
theorem dX12_firstOrder_12 : decode cX12_firstOrder 12 = .ok (.iload_n 1, 1) := by decide +kernel
theorem dX12_firstOrder_13 : decode cX12_firstOrder 13 = .ok (.aload_n 0, 1) := by decide +kernel
theorem dX12_firstOrder_14 : decode cX12_firstOrder 14 = .ok (.getfield 20, 3) := by decide +kernel
theorem dX12_firstOrder_17 : decode cX12_firstOrder 17 = .ok (.iconst 5, 1) := by decide +kernel
theorem dX12_firstOrder_18 : decode cX12_firstOrder 18 = .ok (.iaload, 1) := by decide +kernel
theorem dX12_firstOrder_19 : decode cX12_firstOrder 19 = .ok (.if_icmp .ge 7, 3) := by decide +kernel
theorem dX12_firstOrder_22 : decode cX12_firstOrder 22 = .ok (.iload_n 1, 1) := by decide +kernel
theorem dX12_firstOrder_23 : decode cX12_firstOrder 23 = .ok (.goto 4, 3) := by decide +kernel
theorem dX12_firstOrder_26 : decode cX12_firstOrder 26 = .ok (.iconst 0, 1) := by decide +kernel
theorem dX12_firstOrder_27 : decode cX12_firstOrder 27 = .ok (.iastore, 1) := by decide +kernel
theorem dX12_firstOrder_28 : decode cX12_firstOrder 28 = .ok (.iinc 1 1, 3) := by decide +kernel
theorem dX12_firstOrder_31 : decode cX12_firstOrder 31 = .ok (.goto (-29), 3) := by decide +kernel
theorem dX12_firstOrder_34 : decode cX12_firstOrder 34 = .ok (.aload_n 0, 1) := by decide +kernel
theorem dX12_firstOrder_35 : decode cX12_firstOrder 35 = .ok (.aload_n 0, 1) := by decide +kernel
theorem dX12_firstOrder_36 : decode cX12_firstOrder 36 = .ok (.getfield 41, 3) := by decide +kernel
theorem dX12_firstOrder_39 : decode cX12_firstOrder 39 = .ok (.invokevirtual 286, 3) := by decide +kernel
theorem dX12_firstOrder_42 : decode cX12_firstOrder 42 = .ok (.ifCond .ne 10, 3) := by decide +kernel
theorem dX12_firstOrder_45 : decode cX12_firstOrder 45 = .ok (.aload_n 0, 1) := by decide +kernel
theorem dX12_firstOrder_46 : decode cX12_firstOrder 46 = .ok (.invokevirtual 290, 3) := by decide +kernel
theorem dX12_firstOrder_49 : decode cX12_firstOrder 49 = .ok (.ifCond .eq 7, 3) := by decide +kernel
theorem dX12_firstOrder_52 : decode cX12_firstOrder 52 = .ok (.iconst 1, 1) := by decide +kernel
theorem dX12_firstOrder_53 : decode cX12_firstOrder 53 = .ok (.goto 4, 3) := by decide +kernel
theorem dX12_firstOrder_56 : decode cX12_firstOrder 56 = .ok (.iconst 0, 1) := by decide +kernel
theorem dX12_firstOrder_57 : decode cX12_firstOrder 57 = .ok (.ireturn, 1) := by decide +kernel
theorem dX12_nextOrder_0 : decode cX12_nextOrder 0 = .ok (.aload_n 0, 1) := by decide +kernel
theorem dX12_nextOrder_1 : decode cX12_nextOrder 1 = .ok (.invokevirtual 293, 3) := by decide +kernel
theorem dX12_nextOrder_4 : decode cX12_nextOrder 4 = .ok (.istore_n 1, 1) := by decide +kernel
theorem dX12_nextOrder_5 : decode cX12_nextOrder 5 = .ok (.iload_n 1, 1) := by decide +kernel
theorem dX12_nextOrder_6 : decode cX12_nextOrder 6 = .ok (.ifCond .eq 22, 3) := by decide +kernel
theorem dX12_nextOrder_9 : decode cX12_nextOrder 9 = .ok (.aload_n 0, 1) := by decide +kernel
theorem dX12_nextOrder_10 : decode cX12_nextOrder 10 = .ok (.aload_n 0, 1) := by decide +kernel
theorem dX12_nextOrder_11 : decode cX12_nextOrder 11 = .ok (.getfield 41, 3) := by decide +kernel
theorem dX12_nextOrder_14 : decode cX12_nextOrder 14 = .ok (.invokevirtual 286, 3) := by decide +kernel
theorem dX12_nextOrder_17 : decode cX12_nextOrder 17 = .ok (.ifCond .ne 11, 3) := by decide +kernel
theorem dX12_nextOrder_20 : decode cX12_nextOrder 20 = .ok (.aload_n 0, 1) := by decide +kernel
theorem dX12_nextOrder_21 : decode cX12_nextOrder 21 = .ok (.invokevirtual 293, 3) := by decide +kernel
theorem dX12_nextOrder_24 : decode cX12_nextOrder 24 = .ok (.istore_n 1, 1) := by decide +kernel
theorem dX12_nextOrder_25 : decode cX12_nextOrder 25 = .ok (.goto (-20), 3) := by decide +kernel
theorem dX12_nextOrder_28 : decode cX12_nextOrder 28 = .ok (.iload_n 1, 1) := by decide +kernel
theorem dX12_nextOrder_29 : decode cX12_nextOrder 29 = .ok (.ireturn, 1) := by decide +kernel
theorem dX12_nextRow_0 : decode cX12_nextRow 0 = .ok (.aload_n 0, 1) := by decide +kernel
theorem dX12_nextRow_1 : decode cX12_nextRow 1 = .ok (.getfield 20, 3) := by decide +kernel
theorem dX12_nextRow_4 : decode cX12_nextRow 4 = .ok (.iconst 5, 1) := by decide +kernel
theorem dX12_nextRow_5 : decode cX12_nextRow 5 = .ok (.iaload, 1) := by decide +kernel
theorem dX12_nextRow_6 : decode cX12_nextRow 6 = .ok (.istore_n 1, 1) := by decide +kernel
theorem dX12_nextRow_7 : decode cX12_nextRow 7 = .ok (.iload_n 1, 1) := by decide +kernel
theorem dX12_nextRow_8 : decode cX12_nextRow 8 = .ok (.iconst 2, 1) := by decide +kernel
theorem dX12_nextRow_9 : decode cX12_nextRow 9 = .ok (.isub, 1) := by decide +kernel
theorem dX12_nextRow_10 : decode cX12_nextRow 10 = .ok (.istore_n 2, 1) := by decide +kernel
theorem dX12_nextRow_11 : decode cX12_nextRow 11 = .ok (.iload_n 2, 1) := by decide +kernel
theorem dX12_nextRow_12 : decode cX12_nextRow 12 = .ok (.ifCond .lt 26, 3) := by decide +kernel
theorem dX12_nextRow_15 : decode cX12_nextRow 15 = .ok (.aload_n 0, 1) := by decide +kernel
theorem dX12_nextRow_16 : decode cX12_nextRow 16 = .ok (.getfield 41, 3) := by decide +kernel
theorem dX12_nextRow_19 : decode cX12_nextRow 19 = .ok (.iload_n 2, 1) := by decide +kernel
theorem dX12_nextRow_20 : decode cX12_nextRow 20 = .ok (.iaload, 1) := by decide +kernel
theorem dX12_nextRow_21 : decode cX12_nextRow 21 = .ok (.aload_n 0, 1) := by decide +kernel
theorem dX12_nextRow_22 : decode cX12_nextRow 22 = .ok (.getfield 41, 3) := by decide +kernel
theorem dX12_nextRow_25 : decode cX12_nextRow 25 = .ok (.iload_n 2, 1) := by decide +kernel
theorem dX12_nextRow_26 : decode cX12_nextRow 26 = .ok (.iconst 1, 1) := by decide +kernel
theorem dX12_nextRow_27 : decode cX12_nextRow 27 = .ok (.iadd, 1) := by decide +kernel
theorem dX12_nextRow_28 : decode cX12_nextRow 28 = .ok (.iaload, 1) := by decide +kernel
theorem dX12_nextRow_29 : decode cX12_nextRow 29 = .ok (.if_icmp .le 9, 3) := by decide +kernel
theorem dX12_nextRow_32 : decode cX12_nextRow 32 = .ok (.iinc 2 (-1), 3) := by decide +kernel
theorem dX12_nextRow_35 : decode cX12_nextRow 35 = .ok (.goto (-24), 3) := by decide +kernel
theorem dX12_nextRow_38 : decode cX12_nextRow 38 = .ok (.iload_n 2, 1) := by decide +kernel
theorem dX12_nextRow_39 : decode cX12_nextRow 39 = .ok (.ifCond .ge 5, 3) := by decide +kernel
theorem dX12_nextRow_42 : decode cX12_nextRow 42 = .ok (.iconst 0, 1) := by decide +kernel
theorem dX12_nextRow_43 : decode cX12_nextRow 43 = .ok (.ireturn, 1) := by decide +kernel
theorem dX12_nextRow_44 : decode cX12_nextRow 44 = .ok (.iload_n 1, 1) := by decide +kernel
theorem dX12_nextRow_45 : decode cX12_nextRow 45 = .ok (.iconst 1, 1) := by decide +kernel
theorem dX12_nextRow_46 : decode cX12_nextRow 46 = .ok (.isub, 1) := by decide +kernel
theorem dX12_nextRow_47 : decode cX12_nextRow 47 = .ok (.istore_n 3, 1) := by decide +kernel
theorem dX12_nextRow_48 : decode cX12_nextRow 48 = .ok (.aload_n 0, 1) := by decide +kernel
theorem dX12_nextRow_49 : decode cX12_nextRow 49 = .ok (.getfield 41, 3) := by decide +kernel
theorem dX12_nextRow_52 : decode cX12_nextRow 52 = .ok (.iload_n 3, 1) := by decide +kernel
theorem dX12_nextRow_53 : decode cX12_nextRow 53 = .ok (.iaload, 1) := by decide +kernel
theorem dX12_nextRow_54 : decode cX12_nextRow 54 = .ok (.aload_n 0, 1) := by decide +kernel
theorem dX12_nextRow_55 : decode cX12_nextRow 55 = .ok (.getfield 41, 3) := by decide +kernel
theorem dX12_nextRow_58 : decode cX12_nextRow 58 = .ok (.iload_n 2, 1) := by decide +kernel
theorem dX12_nextRow_59 : decode cX12_nextRow 59 = .ok (.iaload, 1) := by decide +kernel
theorem dX12_nextRow_60 : decode cX12_nextRow 60 = .ok (.if_icmp .ge 9, 3) := by decide +kernel
theorem dX12_nextRow_63 : decode cX12_nextRow 63 = .ok (.iinc 3 (-1), 3) := by decide +kernel
theorem dX12_nextRow_66 : decode cX12_nextRow 66 = .ok (.goto (-18), 3) := by decide +kernel
theorem dX12_nextRow_69 : decode cX12_nextRow 69 = .ok (.aload_n 0, 1) := by decide +kernel
theorem dX12_nextRow_70 : decode cX12_nextRow 70 = .ok (.iload_n 2, 1) := by decide +kernel
theorem dX12_nextRow_71 : decode cX12_nextRow 71 = .ok (.iload_n 3, 1) := by decide +kernel
theorem dX12_nextRow_72 : decode cX12_nextRow 72 = .ok (.invokevirtual 296, 3) := by decide +kernel
theorem dX12_nextRow_75 : decode cX12_nextRow 75 = .ok (.iload_n 2, 1) := by decide +kernel
theorem dX12_nextRow_76 : decode cX12_nextRow 76 = .ok (.iconst 1, 1) := by decide +kernel
theorem dX12_nextRow_77 : decode cX12_nextRow 77 = .ok (.iadd, 1) := by decide +kernel
theorem dX12_nextRow_78 : decode cX12_nextRow 78 = .ok (.istore 4, 2) := by decide +kernel
theorem dX12_nextRow_80 : decode cX12_nextRow 80 = .ok (.iload_n 1, 1) := by decide +kernel
theorem dX12_nextRow_81 : decode cX12_nextRow 81 = .ok (.iconst 1, 1) := by decide +kernel
theorem dX12_nextRow_82 : decode cX12_nextRow 82 = .ok (.isub, 1) := by decide +kernel
theorem dX12_nextRow_83 : decode cX12_nextRow 83 = .ok (.istore 5, 2) := by decide +kernel
theorem dX12_nextRow_85 : decode cX12_nextRow 85 = .ok (.iload 4, 2) := by decide +kernel
theorem dX12_nextRow_87 : decode cX12_nextRow 87 = .ok (.iload 5, 2) := by decide +kernel
theorem dX12_nextRow_89 : decode cX12_nextRow 89 = .ok (.if_icmp .ge 20, 3) := by decide +kernel
theorem dX12_nextRow_92 : decode cX12_nextRow 92 = .ok (.aload_n 0, 1) := by decide +kernel
theorem dX12_nextRow_93 : decode cX12_nextRow 93 = .ok (.iload 4, 2) := by decide +kernel
theorem dX12_nextRow_95 : decode cX12_nextRow 95 = .ok (.iload 5, 2) := by decide +kernel
theorem dX12_nextRow_97 : decode cX12_nextRow 97 = .ok (.invokevirtual 296, 3) := by decide +kernel
theorem dX12_nextRow_100 : decode cX12_nextRow 100 = .ok (.iinc 4 1, 3) := by decide +kernel
theorem dX12_nextRow_103 : decode cX12_nextRow 103 = .ok (.iinc 5 (-1), 3) := by decide +kernel
theorem dX12_nextRow_106 : decode cX12_nextRow 106 = .ok (.goto (-21), 3) := by decide +kernel
theorem dX12_nextRow_109 : decode cX12_nextRow 109 = .ok (.iconst 1, 1) := by decide +kernel
theorem dX12_nextRow_110 : decode cX12_nextRow 110 = .ok (.ireturn, 1) := by decide +kernel
theorem dX12_turn_0 : decode cX12_turn 0 = .ok (.aload_n 0, 1) := by decide +kernel
theorem dX12_turn_1 : decode cX12_turn 1 = .ok (.getfield 41, 3) := by decide +kernel
theorem dX12_turn_4 : decode cX12_turn 4 = .ok (.iload_n 1, 1) := by decide +kernel
theorem dX12_turn_5 : decode cX12_turn 5 = .ok (.iaload, 1) := by decide +kernel
theorem dX12_turn_6 : decode cX12_turn 6 = .ok (.istore_n 3, 1) := by decide +kernel
theorem dX12_turn_7 : decode cX12_turn 7 = .ok (.aload_n 0, 1) := by decide +kernel
theorem dX12_turn_8 : decode cX12_turn 8 = .ok (.getfield 41, 3) := by decide +kernel
theorem dX12_turn_11 : decode cX12_turn 11 = .ok (.iload_n 1, 1) := by decide +kernel
theorem dX12_turn_12 : decode cX12_turn 12 = .ok (.aload_n 0, 1) := by decide +kernel
theorem dX12_turn_13 : decode cX12_turn 13 = .ok (.getfield 41, 3) := by decide +kernel
theorem dX12_turn_16 : decode cX12_turn 16 = .ok (.iload_n 2, 1) := by decide +kernel
theorem dX12_turn_17 : decode cX12_turn 17 = .ok (.iaload, 1) := by decide +kernel
theorem dX12_turn_18 : decode cX12_turn 18 = .ok (.iastore, 1) := by decide +kernel
theorem dX12_turn_19 : decode cX12_turn 19 = .ok (.aload_n 0, 1) := by decide +kernel
theorem dX12_turn_20 : decode cX12_turn 20 = .ok (.getfield 41, 3) := by decide +kernel
theorem dX12_turn_23 : decode cX12_turn 23 = .ok (.iload_n 2, 1) := by decide +kernel
theorem dX12_turn_24 : decode cX12_turn 24 = .ok (.iload_n 3, 1) := by decide +kernel
theorem dX12_turn_25 : decode cX12_turn 25 = .ok (.iastore, 1) := by decide +kernel
theorem dX12_turn_26 : decode cX12_turn 26 = .ok (.return_, 1) := by decide +kernel
theorem dX12_orders_0 : decode cX12_orders 0 = .ok (.aload_n 0, 1) := by decide +kernel
theorem dX12_orders_1 : decode cX12_orders 1 = .ok (.invokevirtual 190, 3) := by decide +kernel
theorem dX12_orders_4 : decode cX12_orders 4 = .ok (.aload_n 0, 1) := by decide +kernel
theorem dX12_orders_5 : decode cX12_orders 5 = .ok (.getfield 203, 3) := by decide +kernel
theorem dX12_orders_8 : decode cX12_orders 8 = .ok (.ifCond .ne 9, 3) := by decide +kernel
theorem dX12_orders_11 : decode cX12_orders 11 = .ok (.aload_n 0, 1) := by decide +kernel
theorem dX12_orders_12 : decode cX12_orders 12 = .ok (.iconst 1, 1) := by decide +kernel
theorem dX12_orders_13 : decode cX12_orders 13 = .ok (.invokevirtual 193, 3) := by decide +kernel
theorem dX12_orders_16 : decode cX12_orders 16 = .ok (.ireturn, 1) := by decide +kernel
theorem dX12_orders_17 : decode cX12_orders 17 = .ok (.iconst 0, 1) := by decide +kernel
theorem dX12_orders_18 : decode cX12_orders 18 = .ok (.istore_n 1, 1) := by decide +kernel
theorem dX12_orders_19 : decode cX12_orders 19 = .ok (.aload_n 0, 1) := by decide +kernel
theorem dX12_orders_20 : decode cX12_orders 20 = .ok (.invokevirtual 215, 3) := by decide +kernel
theorem dX12_orders_23 : decode cX12_orders 23 = .ok (.istore_n 2, 1) := by decide +kernel
theorem dX12_orders_24 : decode cX12_orders 24 = .ok (.iload_n 2, 1) := by decide +kernel
theorem dX12_orders_25 : decode cX12_orders 25 = .ok (.ifCond .eq 14, 3) := by decide +kernel
theorem dX12_orders_28 : decode cX12_orders 28 = .ok (.iinc 1 1, 3) := by decide +kernel
theorem dX12_orders_31 : decode cX12_orders 31 = .ok (.aload_n 0, 1) := by decide +kernel
theorem dX12_orders_32 : decode cX12_orders 32 = .ok (.invokevirtual 290, 3) := by decide +kernel
theorem dX12_orders_35 : decode cX12_orders 35 = .ok (.istore_n 2, 1) := by decide +kernel
theorem dX12_orders_36 : decode cX12_orders 36 = .ok (.goto (-12), 3) := by decide +kernel
theorem dX12_orders_39 : decode cX12_orders 39 = .ok (.iload_n 1, 1) := by decide +kernel
theorem dX12_orders_40 : decode cX12_orders 40 = .ok (.ireturn, 1) := by decide +kernel
theorem dX12_scene_0 : decode cX12_scene 0 = .ok (.aload_n 0, 1) := by decide +kernel
theorem dX12_scene_1 : decode cX12_scene 1 = .ok (.invokevirtual 190, 3) := by decide +kernel
theorem dX12_scene_4 : decode cX12_scene 4 = .ok (.aload_n 0, 1) := by decide +kernel
theorem dX12_scene_5 : decode cX12_scene 5 = .ok (.iload_n 1, 1) := by decide +kernel
theorem dX12_scene_6 : decode cX12_scene 6 = .ok (.invokevirtual 299, 3) := by decide +kernel
theorem dX12_scene_9 : decode cX12_scene 9 = .ok (.ifCond .eq 12, 3) := by decide +kernel
theorem dX12_scene_12 : decode cX12_scene 12 = .ok (.aload_n 0, 1) := by decide +kernel
theorem dX12_scene_13 : decode cX12_scene 13 = .ok (.getfield 26, 3) := by decide +kernel
theorem dX12_scene_16 : decode cX12_scene 16 = .ok (.iload_n 1, 1) := by decide +kernel
theorem dX12_scene_17 : decode cX12_scene 17 = .ok (.iaload, 1) := by decide +kernel
theorem dX12_scene_18 : decode cX12_scene 18 = .ok (.goto 8, 3) := by decide +kernel
theorem dX12_scene_21 : decode cX12_scene 21 = .ok (.aload_n 0, 1) := by decide +kernel
theorem dX12_scene_22 : decode cX12_scene 22 = .ok (.iconst 1, 1) := by decide +kernel
theorem dX12_scene_23 : decode cX12_scene 23 = .ok (.invokevirtual 193, 3) := by decide +kernel
theorem dX12_scene_26 : decode cX12_scene 26 = .ok (.ireturn, 1) := by decide +kernel
theorem dX12_layTime_0 : decode cX12_layTime 0 = .ok (.iconst 0, 1) := by decide +kernel
theorem dX12_layTime_1 : decode cX12_layTime 1 = .ok (.istore_n 2, 1) := by decide +kernel
theorem dX12_layTime_2 : decode cX12_layTime 2 = .ok (.iconst 0, 1) := by decide +kernel
theorem dX12_layTime_3 : decode cX12_layTime 3 = .ok (.istore_n 3, 1) := by decide +kernel
theorem dX12_layTime_4 : decode cX12_layTime 4 = .ok (.iload_n 3, 1) := by decide +kernel
theorem dX12_layTime_5 : decode cX12_layTime 5 = .ok (.aload_n 0, 1) := by decide +kernel
theorem dX12_layTime_6 : decode cX12_layTime 6 = .ok (.getfield 20, 3) := by decide +kernel
theorem dX12_layTime_9 : decode cX12_layTime 9 = .ok (.iconst 5, 1) := by decide +kernel
theorem dX12_layTime_10 : decode cX12_layTime 10 = .ok (.iaload, 1) := by decide +kernel
theorem dX12_layTime_11 : decode cX12_layTime 11 = .ok (.if_icmp .ge 39, 3) := by decide +kernel
theorem dX12_layTime_14 : decode cX12_layTime 14 = .ok (.aload_n 0, 1) := by decide +kernel
theorem dX12_layTime_15 : decode cX12_layTime 15 = .ok (.getfield 44, 3) := by decide +kernel
theorem dX12_layTime_18 : decode cX12_layTime 18 = .ok (.aload_n 1, 1) := by decide +kernel
theorem dX12_layTime_19 : decode cX12_layTime 19 = .ok (.iload_n 3, 1) := by decide +kernel
theorem dX12_layTime_20 : decode cX12_layTime 20 = .ok (.iaload, 1) := by decide +kernel
theorem dX12_layTime_21 : decode cX12_layTime 21 = .ok (.iload_n 2, 1) := by decide +kernel
theorem dX12_layTime_22 : decode cX12_layTime 22 = .ok (.iastore, 1) := by decide +kernel
theorem dX12_layTime_23 : decode cX12_layTime 23 = .ok (.iload_n 2, 1) := by decide +kernel
theorem dX12_layTime_24 : decode cX12_layTime 24 = .ok (.aload_n 0, 1) := by decide +kernel
theorem dX12_layTime_25 : decode cX12_layTime 25 = .ok (.getfield 20, 3) := by decide +kernel
theorem dX12_layTime_28 : decode cX12_layTime 28 = .ok (.bipush 44, 2) := by decide +kernel
theorem dX12_layTime_30 : decode cX12_layTime 30 = .ok (.aload_n 1, 1) := by decide +kernel
theorem dX12_layTime_31 : decode cX12_layTime 31 = .ok (.iload_n 3, 1) := by decide +kernel
theorem dX12_layTime_32 : decode cX12_layTime 32 = .ok (.iaload, 1) := by decide +kernel
theorem dX12_layTime_33 : decode cX12_layTime 33 = .ok (.iadd, 1) := by decide +kernel
theorem dX12_layTime_34 : decode cX12_layTime 34 = .ok (.iaload, 1) := by decide +kernel
theorem dX12_layTime_35 : decode cX12_layTime 35 = .ok (.aload_n 0, 1) := by decide +kernel
theorem dX12_layTime_36 : decode cX12_layTime 36 = .ok (.getfield 20, 3) := by decide +kernel
theorem dX12_layTime_39 : decode cX12_layTime 39 = .ok (.iconst 2, 1) := by decide +kernel
theorem dX12_layTime_40 : decode cX12_layTime 40 = .ok (.iaload, 1) := by decide +kernel
theorem dX12_layTime_41 : decode cX12_layTime 41 = .ok (.iadd, 1) := by decide +kernel
theorem dX12_layTime_42 : decode cX12_layTime 42 = .ok (.iadd, 1) := by decide +kernel
theorem dX12_layTime_43 : decode cX12_layTime 43 = .ok (.istore_n 2, 1) := by decide +kernel
theorem dX12_layTime_44 : decode cX12_layTime 44 = .ok (.iinc 3 1, 3) := by decide +kernel
theorem dX12_layTime_47 : decode cX12_layTime 47 = .ok (.goto (-43), 3) := by decide +kernel
theorem dX12_layTime_50 : decode cX12_layTime 50 = .ok (.iconst 0, 1) := by decide +kernel
theorem dX12_layTime_51 : decode cX12_layTime 51 = .ok (.istore_n 3, 1) := by decide +kernel
theorem dX12_layTime_52 : decode cX12_layTime 52 = .ok (.iload_n 3, 1) := by decide +kernel
theorem dX12_layTime_53 : decode cX12_layTime 53 = .ok (.aload_n 0, 1) := by decide +kernel
theorem dX12_layTime_54 : decode cX12_layTime 54 = .ok (.getfield 20, 3) := by decide +kernel
theorem dX12_layTime_57 : decode cX12_layTime 57 = .ok (.bipush 7, 2) := by decide +kernel
theorem dX12_layTime_59 : decode cX12_layTime 59 = .ok (.iaload, 1) := by decide +kernel
theorem dX12_layTime_60 : decode cX12_layTime 60 = .ok (.if_icmp .ge 118, 3) := by decide +kernel
theorem dX12_layTime_63 : decode cX12_layTime 63 = .ok (.aload_n 0, 1) := by decide +kernel
theorem dX12_layTime_64 : decode cX12_layTime 64 = .ok (.getfield 47, 3) := by decide +kernel
theorem dX12_layTime_67 : decode cX12_layTime 67 = .ok (.iload_n 3, 1) := by decide +kernel
theorem dX12_layTime_68 : decode cX12_layTime 68 = .ok (.aload_n 0, 1) := by decide +kernel
theorem dX12_layTime_69 : decode cX12_layTime 69 = .ok (.getfield 44, 3) := by decide +kernel
theorem dX12_layTime_72 : decode cX12_layTime 72 = .ok (.aload_n 0, 1) := by decide +kernel
theorem dX12_layTime_73 : decode cX12_layTime 73 = .ok (.iload_n 3, 1) := by decide +kernel
theorem dX12_layTime_74 : decode cX12_layTime 74 = .ok (.iconst 1, 1) := by decide +kernel
theorem dX12_layTime_75 : decode cX12_layTime 75 = .ok (.invokevirtual 302, 3) := by decide +kernel
theorem dX12_layTime_78 : decode cX12_layTime 78 = .ok (.iaload, 1) := by decide +kernel
theorem dX12_layTime_79 : decode cX12_layTime 79 = .ok (.aload_n 0, 1) := by decide +kernel
theorem dX12_layTime_80 : decode cX12_layTime 80 = .ok (.iload_n 3, 1) := by decide +kernel
theorem dX12_layTime_81 : decode cX12_layTime 81 = .ok (.iconst 2, 1) := by decide +kernel
theorem dX12_layTime_82 : decode cX12_layTime 82 = .ok (.invokevirtual 302, 3) := by decide +kernel
theorem dX12_layTime_85 : decode cX12_layTime 85 = .ok (.iadd, 1) := by decide +kernel
theorem dX12_layTime_86 : decode cX12_layTime 86 = .ok (.iastore, 1) := by decide +kernel
theorem dX12_layTime_87 : decode cX12_layTime 87 = .ok (.aload_n 0, 1) := by decide +kernel
theorem dX12_layTime_88 : decode cX12_layTime 88 = .ok (.getfield 50, 3) := by decide +kernel
theorem dX12_layTime_91 : decode cX12_layTime 91 = .ok (.iload_n 3, 1) := by decide +kernel
theorem dX12_layTime_92 : decode cX12_layTime 92 = .ok (.aload_n 0, 1) := by decide +kernel
theorem dX12_layTime_93 : decode cX12_layTime 93 = .ok (.getfield 44, 3) := by decide +kernel
theorem dX12_layTime_96 : decode cX12_layTime 96 = .ok (.aload_n 0, 1) := by decide +kernel
theorem dX12_layTime_97 : decode cX12_layTime 97 = .ok (.iload_n 3, 1) := by decide +kernel
theorem dX12_layTime_98 : decode cX12_layTime 98 = .ok (.iconst 1, 1) := by decide +kernel
theorem dX12_layTime_99 : decode cX12_layTime 99 = .ok (.invokevirtual 302, 3) := by decide +kernel
theorem dX12_layTime_102 : decode cX12_layTime 102 = .ok (.iaload, 1) := by decide +kernel
theorem dX12_layTime_103 : decode cX12_layTime 103 = .ok (.aload_n 0, 1) := by decide +kernel
theorem dX12_layTime_104 : decode cX12_layTime 104 = .ok (.iload_n 3, 1) := by decide +kernel
theorem dX12_layTime_105 : decode cX12_layTime 105 = .ok (.iconst 3, 1) := by decide +kernel
theorem dX12_layTime_106 : decode cX12_layTime 106 = .ok (.invokevirtual 302, 3) := by decide +kernel
theorem dX12_layTime_109 : decode cX12_layTime 109 = .ok (.iadd, 1) := by decide +kernel
theorem dX12_layTime_110 : decode cX12_layTime 110 = .ok (.iastore, 1) := by decide +kernel
theorem dX12_layTime_111 : decode cX12_layTime 111 = .ok (.iload_n 3, 1) := by decide +kernel
theorem dX12_layTime_112 : decode cX12_layTime 112 = .ok (.istore 4, 2) := by decide +kernel
theorem dX12_layTime_114 : decode cX12_layTime 114 = .ok (.iload 4, 2) := by decide +kernel
theorem dX12_layTime_116 : decode cX12_layTime 116 = .ok (.ifCond .le 48, 3) := by decide +kernel
theorem dX12_layTime_119 : decode cX12_layTime 119 = .ok (.aload_n 0, 1) := by decide +kernel
theorem dX12_layTime_120 : decode cX12_layTime 120 = .ok (.getfield 47, 3) := by decide +kernel
theorem dX12_layTime_123 : decode cX12_layTime 123 = .ok (.aload_n 0, 1) := by decide +kernel
theorem dX12_layTime_124 : decode cX12_layTime 124 = .ok (.getfield 53, 3) := by decide +kernel
theorem dX12_layTime_127 : decode cX12_layTime 127 = .ok (.iload 4, 2) := by decide +kernel
theorem dX12_layTime_129 : decode cX12_layTime 129 = .ok (.iconst 1, 1) := by decide +kernel
theorem dX12_layTime_130 : decode cX12_layTime 130 = .ok (.isub, 1) := by decide +kernel
theorem dX12_layTime_131 : decode cX12_layTime 131 = .ok (.iaload, 1) := by decide +kernel
theorem dX12_layTime_132 : decode cX12_layTime 132 = .ok (.iaload, 1) := by decide +kernel
theorem dX12_layTime_133 : decode cX12_layTime 133 = .ok (.aload_n 0, 1) := by decide +kernel
theorem dX12_layTime_134 : decode cX12_layTime 134 = .ok (.getfield 47, 3) := by decide +kernel
theorem dX12_layTime_137 : decode cX12_layTime 137 = .ok (.iload_n 3, 1) := by decide +kernel
theorem dX12_layTime_138 : decode cX12_layTime 138 = .ok (.iaload, 1) := by decide +kernel
theorem dX12_layTime_139 : decode cX12_layTime 139 = .ok (.if_icmp .le 25, 3) := by decide +kernel
theorem dX12_layTime_142 : decode cX12_layTime 142 = .ok (.aload_n 0, 1) := by decide +kernel
theorem dX12_layTime_143 : decode cX12_layTime 143 = .ok (.getfield 53, 3) := by decide +kernel
theorem dX12_layTime_146 : decode cX12_layTime 146 = .ok (.iload 4, 2) := by decide +kernel
theorem dX12_layTime_148 : decode cX12_layTime 148 = .ok (.aload_n 0, 1) := by decide +kernel
theorem dX12_layTime_149 : decode cX12_layTime 149 = .ok (.getfield 53, 3) := by decide +kernel
theorem dX12_layTime_152 : decode cX12_layTime 152 = .ok (.iload 4, 2) := by decide +kernel
theorem dX12_layTime_154 : decode cX12_layTime 154 = .ok (.iconst 1, 1) := by decide +kernel
theorem dX12_layTime_155 : decode cX12_layTime 155 = .ok (.isub, 1) := by decide +kernel
theorem dX12_layTime_156 : decode cX12_layTime 156 = .ok (.iaload, 1) := by decide +kernel
theorem dX12_layTime_157 : decode cX12_layTime 157 = .ok (.iastore, 1) := by decide +kernel
theorem dX12_layTime_158 : decode cX12_layTime 158 = .ok (.iinc 4 (-1), 3) := by decide +kernel
theorem dX12_layTime_161 : decode cX12_layTime 161 = .ok (.goto (-47), 3) := by decide +kernel
theorem dX12_layTime_164 : decode cX12_layTime 164 = .ok (.aload_n 0, 1) := by decide +kernel
theorem dX12_layTime_165 : decode cX12_layTime 165 = .ok (.getfield 53, 3) := by decide +kernel
theorem dX12_layTime_168 : decode cX12_layTime 168 = .ok (.iload 4, 2) := by decide +kernel
theorem dX12_layTime_170 : decode cX12_layTime 170 = .ok (.iload_n 3, 1) := by decide +kernel
theorem dX12_layTime_171 : decode cX12_layTime 171 = .ok (.iastore, 1) := by decide +kernel
theorem dX12_layTime_172 : decode cX12_layTime 172 = .ok (.iinc 3 1, 3) := by decide +kernel
theorem dX12_layTime_175 : decode cX12_layTime 175 = .ok (.goto (-123), 3) := by decide +kernel
theorem dX12_layTime_178 : decode cX12_layTime 178 = .ok (.return_, 1) := by decide +kernel
theorem dX12_begins__0 : decode cX12_begins_ 0 = .ok (.aload_n 0, 1) := by decide +kernel
theorem dX12_begins__1 : decode cX12_begins_ 1 = .ok (.invokevirtual 190, 3) := by decide +kernel
theorem dX12_begins__4 : decode cX12_begins_ 4 = .ok (.aload_n 0, 1) := by decide +kernel
theorem dX12_begins__5 : decode cX12_begins_ 5 = .ok (.iload_n 1, 1) := by decide +kernel
theorem dX12_begins__6 : decode cX12_begins_ 6 = .ok (.invokevirtual 299, 3) := by decide +kernel
theorem dX12_begins__9 : decode cX12_begins_ 9 = .ok (.ifCond .ne 9, 3) := by decide +kernel
theorem dX12_begins__12 : decode cX12_begins_ 12 = .ok (.aload_n 0, 1) := by decide +kernel
theorem dX12_begins__13 : decode cX12_begins_ 13 = .ok (.iconst 1, 1) := by decide +kernel
theorem dX12_begins__14 : decode cX12_begins_ 14 = .ok (.invokevirtual 193, 3) := by decide +kernel
theorem dX12_begins__17 : decode cX12_begins_ 17 = .ok (.ireturn, 1) := by decide +kernel
theorem dX12_begins__18 : decode cX12_begins_ 18 = .ok (.aload_n 0, 1) := by decide +kernel
theorem dX12_begins__19 : decode cX12_begins_ 19 = .ok (.aload_n 0, 1) := by decide +kernel
theorem dX12_begins__20 : decode cX12_begins_ 20 = .ok (.getfield 26, 3) := by decide +kernel
theorem dX12_begins__23 : decode cX12_begins_ 23 = .ok (.invokevirtual 305, 3) := by decide +kernel
theorem dX12_begins__26 : decode cX12_begins_ 26 = .ok (.aload_n 0, 1) := by decide +kernel
theorem dX12_begins__27 : decode cX12_begins_ 27 = .ok (.getfield 44, 3) := by decide +kernel
theorem dX12_begins__30 : decode cX12_begins_ 30 = .ok (.iload_n 1, 1) := by decide +kernel
theorem dX12_begins__31 : decode cX12_begins_ 31 = .ok (.iaload, 1) := by decide +kernel
theorem dX12_begins__32 : decode cX12_begins_ 32 = .ok (.iload_n 2, 1) := by decide +kernel
theorem dX12_begins__33 : decode cX12_begins_ 33 = .ok (.ifCond .eq 15, 3) := by decide +kernel
theorem dX12_begins__36 : decode cX12_begins_ 36 = .ok (.aload_n 0, 1) := by decide +kernel
theorem dX12_begins__37 : decode cX12_begins_ 37 = .ok (.getfield 20, 3) := by decide +kernel
theorem dX12_begins__40 : decode cX12_begins_ 40 = .ok (.bipush 44, 2) := by decide +kernel
theorem dX12_begins__42 : decode cX12_begins_ 42 = .ok (.iload_n 1, 1) := by decide +kernel
theorem dX12_begins__43 : decode cX12_begins_ 43 = .ok (.iadd, 1) := by decide +kernel
theorem dX12_begins__44 : decode cX12_begins_ 44 = .ok (.iaload, 1) := by decide +kernel
theorem dX12_begins__45 : decode cX12_begins_ 45 = .ok (.goto 4, 3) := by decide +kernel
theorem dX12_begins__48 : decode cX12_begins_ 48 = .ok (.iconst 0, 1) := by decide +kernel
theorem dX12_begins__49 : decode cX12_begins_ 49 = .ok (.iadd, 1) := by decide +kernel
theorem dX12_begins__50 : decode cX12_begins_ 50 = .ok (.ireturn, 1) := by decide +kernel
theorem dX12_seen_0 : decode cX12_seen 0 = .ok (.aload_n 0, 1) := by decide +kernel
theorem dX12_seen_1 : decode cX12_seen 1 = .ok (.invokevirtual 190, 3) := by decide +kernel
theorem dX12_seen_4 : decode cX12_seen 4 = .ok (.aload_n 0, 1) := by decide +kernel
theorem dX12_seen_5 : decode cX12_seen 5 = .ok (.iload_n 1, 1) := by decide +kernel
theorem dX12_seen_6 : decode cX12_seen 6 = .ok (.invokevirtual 309, 3) := by decide +kernel
theorem dX12_seen_9 : decode cX12_seen 9 = .ok (.ifCond .ne 9, 3) := by decide +kernel
theorem dX12_seen_12 : decode cX12_seen 12 = .ok (.aload_n 0, 1) := by decide +kernel
theorem dX12_seen_13 : decode cX12_seen 13 = .ok (.iconst 1, 1) := by decide +kernel
theorem dX12_seen_14 : decode cX12_seen 14 = .ok (.invokevirtual 193, 3) := by decide +kernel
theorem dX12_seen_17 : decode cX12_seen 17 = .ok (.ireturn, 1) := by decide +kernel
theorem dX12_seen_18 : decode cX12_seen 18 = .ok (.aload_n 0, 1) := by decide +kernel
theorem dX12_seen_19 : decode cX12_seen 19 = .ok (.aload_n 0, 1) := by decide +kernel
theorem dX12_seen_20 : decode cX12_seen 20 = .ok (.getfield 26, 3) := by decide +kernel
theorem dX12_seen_23 : decode cX12_seen 23 = .ok (.invokevirtual 305, 3) := by decide +kernel
theorem dX12_seen_26 : decode cX12_seen 26 = .ok (.iload_n 2, 1) := by decide +kernel
theorem dX12_seen_27 : decode cX12_seen 27 = .ok (.ifCond .eq 12, 3) := by decide +kernel
theorem dX12_seen_30 : decode cX12_seen 30 = .ok (.aload_n 0, 1) := by decide +kernel
theorem dX12_seen_31 : decode cX12_seen 31 = .ok (.getfield 50, 3) := by decide +kernel
theorem dX12_seen_34 : decode cX12_seen 34 = .ok (.iload_n 1, 1) := by decide +kernel
theorem dX12_seen_35 : decode cX12_seen 35 = .ok (.iaload, 1) := by decide +kernel
theorem dX12_seen_36 : decode cX12_seen 36 = .ok (.goto 9, 3) := by decide +kernel
theorem dX12_seen_39 : decode cX12_seen 39 = .ok (.aload_n 0, 1) := by decide +kernel
theorem dX12_seen_40 : decode cX12_seen 40 = .ok (.getfield 47, 3) := by decide +kernel
theorem dX12_seen_43 : decode cX12_seen 43 = .ok (.iload_n 1, 1) := by decide +kernel
theorem dX12_seen_44 : decode cX12_seen 44 = .ok (.iaload, 1) := by decide +kernel
theorem dX12_seen_45 : decode cX12_seen 45 = .ok (.ireturn, 1) := by decide +kernel
theorem dX12_timeOf_0 : decode cX12_timeOf 0 = .ok (.iload_n 2, 1) := by decide +kernel
theorem dX12_timeOf_1 : decode cX12_timeOf 1 = .ok (.aload_n 0, 1) := by decide +kernel
theorem dX12_timeOf_2 : decode cX12_timeOf 2 = .ok (.getfield 56, 3) := by decide +kernel
theorem dX12_timeOf_5 : decode cX12_timeOf 5 = .ok (.if_icmp .ne 7, 3) := by decide +kernel
theorem dX12_timeOf_8 : decode cX12_timeOf 8 = .ok (.iconst 0, 1) := by decide +kernel
theorem dX12_timeOf_9 : decode cX12_timeOf 9 = .ok (.goto 11, 3) := by decide +kernel
theorem dX12_timeOf_12 : decode cX12_timeOf 12 = .ok (.aload_n 0, 1) := by decide +kernel
theorem dX12_timeOf_13 : decode cX12_timeOf 13 = .ok (.getfield 20, 3) := by decide +kernel
theorem dX12_timeOf_16 : decode cX12_timeOf 16 = .ok (.iload_n 1, 1) := by decide +kernel
theorem dX12_timeOf_17 : decode cX12_timeOf 17 = .ok (.iload_n 2, 1) := by decide +kernel
theorem dX12_timeOf_18 : decode cX12_timeOf 18 = .ok (.iadd, 1) := by decide +kernel
theorem dX12_timeOf_19 : decode cX12_timeOf 19 = .ok (.iaload, 1) := by decide +kernel
theorem dX12_timeOf_20 : decode cX12_timeOf 20 = .ok (.ireturn, 1) := by decide +kernel
theorem dX12_changeOf_0 : decode cX12_changeOf 0 = .ok (.iload_n 1, 1) := by decide +kernel
theorem dX12_changeOf_1 : decode cX12_changeOf 1 = .ok (.iload_n 2, 1) := by decide +kernel
theorem dX12_changeOf_2 : decode cX12_changeOf 2 = .ok (.if_icmp .ne 5, 3) := by decide +kernel
theorem dX12_changeOf_5 : decode cX12_changeOf 5 = .ok (.iconst 0, 1) := by decide +kernel
theorem dX12_changeOf_6 : decode cX12_changeOf 6 = .ok (.ireturn, 1) := by decide +kernel
theorem dX12_changeOf_7 : decode cX12_changeOf 7 = .ok (.aload_n 0, 1) := by decide +kernel
theorem dX12_changeOf_8 : decode cX12_changeOf 8 = .ok (.bipush 23, 2) := by decide +kernel
theorem dX12_changeOf_10 : decode cX12_changeOf 10 = .ok (.iload_n 2, 1) := by decide +kernel
theorem dX12_changeOf_11 : decode cX12_changeOf 11 = .ok (.invokevirtual 312, 3) := by decide +kernel
theorem dX12_changeOf_14 : decode cX12_changeOf 14 = .ok (.aload_n 0, 1) := by decide +kernel
theorem dX12_changeOf_15 : decode cX12_changeOf 15 = .ok (.getfield 20, 3) := by decide +kernel
theorem dX12_changeOf_18 : decode cX12_changeOf 18 = .ok (.bipush 9, 2) := by decide +kernel
theorem dX12_changeOf_20 : decode cX12_changeOf 20 = .ok (.iload_n 2, 1) := by decide +kernel
theorem dX12_changeOf_21 : decode cX12_changeOf 21 = .ok (.iadd, 1) := by decide +kernel
theorem dX12_changeOf_22 : decode cX12_changeOf 22 = .ok (.iaload, 1) := by decide +kernel
theorem dX12_changeOf_23 : decode cX12_changeOf 23 = .ok (.iconst 1, 1) := by decide +kernel
theorem dX12_changeOf_24 : decode cX12_changeOf 24 = .ok (.if_icmp .ne 13, 3) := by decide +kernel
theorem dX12_changeOf_27 : decode cX12_changeOf 27 = .ok (.aload_n 0, 1) := by decide +kernel
theorem dX12_changeOf_28 : decode cX12_changeOf 28 = .ok (.bipush 37, 2) := by decide +kernel
theorem dX12_changeOf_30 : decode cX12_changeOf 30 = .ok (.iload_n 2, 1) := by decide +kernel
theorem dX12_changeOf_31 : decode cX12_changeOf 31 = .ok (.invokevirtual 312, 3) := by decide +kernel
theorem dX12_changeOf_34 : decode cX12_changeOf 34 = .ok (.goto 4, 3) := by decide +kernel
theorem dX12_changeOf_37 : decode cX12_changeOf 37 = .ok (.iconst 0, 1) := by decide +kernel
theorem dX12_changeOf_38 : decode cX12_changeOf 38 = .ok (.iadd, 1) := by decide +kernel
theorem dX12_changeOf_39 : decode cX12_changeOf 39 = .ok (.istore_n 3, 1) := by decide +kernel
theorem dX12_changeOf_40 : decode cX12_changeOf 40 = .ok (.aload_n 0, 1) := by decide +kernel
theorem dX12_changeOf_41 : decode cX12_changeOf 41 = .ok (.bipush 30, 2) := by decide +kernel
theorem dX12_changeOf_43 : decode cX12_changeOf 43 = .ok (.iload_n 1, 1) := by decide +kernel
theorem dX12_changeOf_44 : decode cX12_changeOf 44 = .ok (.invokevirtual 312, 3) := by decide +kernel
theorem dX12_changeOf_47 : decode cX12_changeOf 47 = .ok (.istore 4, 2) := by decide +kernel
theorem dX12_changeOf_49 : decode cX12_changeOf 49 = .ok (.aload_n 0, 1) := by decide +kernel
theorem dX12_changeOf_50 : decode cX12_changeOf 50 = .ok (.getfield 20, 3) := by decide +kernel
theorem dX12_changeOf_53 : decode cX12_changeOf 53 = .ok (.bipush 16, 2) := by decide +kernel
theorem dX12_changeOf_55 : decode cX12_changeOf 55 = .ok (.iload_n 2, 1) := by decide +kernel
theorem dX12_changeOf_56 : decode cX12_changeOf 56 = .ok (.iadd, 1) := by decide +kernel
theorem dX12_changeOf_57 : decode cX12_changeOf 57 = .ok (.iaload, 1) := by decide +kernel
theorem dX12_changeOf_58 : decode cX12_changeOf 58 = .ok (.aload_n 0, 1) := by decide +kernel
theorem dX12_changeOf_59 : decode cX12_changeOf 59 = .ok (.getfield 20, 3) := by decide +kernel
theorem dX12_changeOf_62 : decode cX12_changeOf 62 = .ok (.bipush 16, 2) := by decide +kernel
theorem dX12_changeOf_64 : decode cX12_changeOf 64 = .ok (.iload_n 1, 1) := by decide +kernel
theorem dX12_changeOf_65 : decode cX12_changeOf 65 = .ok (.iadd, 1) := by decide +kernel
theorem dX12_changeOf_66 : decode cX12_changeOf 66 = .ok (.iaload, 1) := by decide +kernel
theorem dX12_changeOf_67 : decode cX12_changeOf 67 = .ok (.if_icmp .le 7, 3) := by decide +kernel
theorem dX12_changeOf_70 : decode cX12_changeOf 70 = .ok (.iload_n 3, 1) := by decide +kernel
theorem dX12_changeOf_71 : decode cX12_changeOf 71 = .ok (.goto 33, 3) := by decide +kernel
theorem dX12_changeOf_74 : decode cX12_changeOf 74 = .ok (.aload_n 0, 1) := by decide +kernel
theorem dX12_changeOf_75 : decode cX12_changeOf 75 = .ok (.getfield 20, 3) := by decide +kernel
theorem dX12_changeOf_78 : decode cX12_changeOf 78 = .ok (.bipush 16, 2) := by decide +kernel
theorem dX12_changeOf_80 : decode cX12_changeOf 80 = .ok (.iload_n 2, 1) := by decide +kernel
theorem dX12_changeOf_81 : decode cX12_changeOf 81 = .ok (.iadd, 1) := by decide +kernel
theorem dX12_changeOf_82 : decode cX12_changeOf 82 = .ok (.iaload, 1) := by decide +kernel
theorem dX12_changeOf_83 : decode cX12_changeOf 83 = .ok (.aload_n 0, 1) := by decide +kernel
theorem dX12_changeOf_84 : decode cX12_changeOf 84 = .ok (.getfield 20, 3) := by decide +kernel
theorem dX12_changeOf_87 : decode cX12_changeOf 87 = .ok (.bipush 16, 2) := by decide +kernel
theorem dX12_changeOf_89 : decode cX12_changeOf 89 = .ok (.iload_n 1, 1) := by decide +kernel
theorem dX12_changeOf_90 : decode cX12_changeOf 90 = .ok (.iadd, 1) := by decide +kernel
theorem dX12_changeOf_91 : decode cX12_changeOf 91 = .ok (.iaload, 1) := by decide +kernel
theorem dX12_changeOf_92 : decode cX12_changeOf 92 = .ok (.if_icmp .ge 8, 3) := by decide +kernel
theorem dX12_changeOf_95 : decode cX12_changeOf 95 = .ok (.iload 4, 2) := by decide +kernel
theorem dX12_changeOf_97 : decode cX12_changeOf 97 = .ok (.goto 7, 3) := by decide +kernel
theorem dX12_changeOf_100 : decode cX12_changeOf 100 = .ok (.iload_n 3, 1) := by decide +kernel
theorem dX12_changeOf_101 : decode cX12_changeOf 101 = .ok (.iload 4, 2) := by decide +kernel
theorem dX12_changeOf_103 : decode cX12_changeOf 103 = .ok (.iadd, 1) := by decide +kernel
theorem dX12_changeOf_104 : decode cX12_changeOf 104 = .ok (.ireturn, 1) := by decide +kernel
theorem dX12_needOf_0 : decode cX12_needOf 0 = .ok (.aload_n 0, 1) := by decide +kernel
theorem dX12_needOf_1 : decode cX12_needOf 1 = .ok (.aload_n 0, 1) := by decide +kernel
theorem dX12_needOf_2 : decode cX12_needOf 2 = .ok (.iload_n 1, 1) := by decide +kernel
theorem dX12_needOf_3 : decode cX12_needOf 3 = .ok (.iconst 0, 1) := by decide +kernel
theorem dX12_needOf_4 : decode cX12_needOf 4 = .ok (.invokevirtual 302, 3) := by decide +kernel
theorem dX12_needOf_7 : decode cX12_needOf 7 = .ok (.aload_n 0, 1) := by decide +kernel
theorem dX12_needOf_8 : decode cX12_needOf 8 = .ok (.iload_n 2, 1) := by decide +kernel
theorem dX12_needOf_9 : decode cX12_needOf 9 = .ok (.iconst 0, 1) := by decide +kernel
theorem dX12_needOf_10 : decode cX12_needOf 10 = .ok (.invokevirtual 302, 3) := by decide +kernel
theorem dX12_needOf_13 : decode cX12_needOf 13 = .ok (.invokevirtual 315, 3) := by decide +kernel
theorem dX12_needOf_16 : decode cX12_needOf 16 = .ok (.aload_n 0, 1) := by decide +kernel
theorem dX12_needOf_17 : decode cX12_needOf 17 = .ok (.iload_n 1, 1) := by decide +kernel
theorem dX12_needOf_18 : decode cX12_needOf 18 = .ok (.iconst 5, 1) := by decide +kernel
theorem dX12_needOf_19 : decode cX12_needOf 19 = .ok (.invokevirtual 302, 3) := by decide +kernel
theorem dX12_needOf_22 : decode cX12_needOf 22 = .ok (.aload_n 0, 1) := by decide +kernel
theorem dX12_needOf_23 : decode cX12_needOf 23 = .ok (.iload_n 2, 1) := by decide +kernel
theorem dX12_needOf_24 : decode cX12_needOf 24 = .ok (.iconst 4, 1) := by decide +kernel
theorem dX12_needOf_25 : decode cX12_needOf 25 = .ok (.invokevirtual 302, 3) := by decide +kernel
theorem dX12_needOf_28 : decode cX12_needOf 28 = .ok (.if_icmp .eq 12, 3) := by decide +kernel
theorem dX12_needOf_31 : decode cX12_needOf 31 = .ok (.aload_n 0, 1) := by decide +kernel
theorem dX12_needOf_32 : decode cX12_needOf 32 = .ok (.getfield 20, 3) := by decide +kernel
theorem dX12_needOf_35 : decode cX12_needOf 35 = .ok (.iconst 1, 1) := by decide +kernel
theorem dX12_needOf_36 : decode cX12_needOf 36 = .ok (.iaload, 1) := by decide +kernel
theorem dX12_needOf_37 : decode cX12_needOf 37 = .ok (.goto 4, 3) := by decide +kernel
theorem dX12_needOf_40 : decode cX12_needOf 40 = .ok (.iconst 0, 1) := by decide +kernel
theorem dX12_needOf_41 : decode cX12_needOf 41 = .ok (.iadd, 1) := by decide +kernel
theorem dX12_needOf_42 : decode cX12_needOf 42 = .ok (.ireturn, 1) := by decide +kernel
theorem dX12_change_0 : decode cX12_change 0 = .ok (.aload_n 0, 1) := by decide +kernel
theorem dX12_change_1 : decode cX12_change 1 = .ok (.invokevirtual 190, 3) := by decide +kernel
theorem dX12_change_4 : decode cX12_change 4 = .ok (.aload_n 0, 1) := by decide +kernel
theorem dX12_change_5 : decode cX12_change 5 = .ok (.iload_n 1, 1) := by decide +kernel
theorem dX12_change_6 : decode cX12_change 6 = .ok (.invokevirtual 318, 3) := by decide +kernel
theorem dX12_change_9 : decode cX12_change 9 = .ok (.ifCond .eq 20, 3) := by decide +kernel
theorem dX12_change_12 : decode cX12_change 12 = .ok (.aload_n 0, 1) := by decide +kernel
theorem dX12_change_13 : decode cX12_change 13 = .ok (.iload_n 2, 1) := by decide +kernel
theorem dX12_change_14 : decode cX12_change 14 = .ok (.invokevirtual 318, 3) := by decide +kernel
theorem dX12_change_17 : decode cX12_change 17 = .ok (.ifCond .eq 12, 3) := by decide +kernel
theorem dX12_change_20 : decode cX12_change 20 = .ok (.aload_n 0, 1) := by decide +kernel
theorem dX12_change_21 : decode cX12_change 21 = .ok (.iload_n 1, 1) := by decide +kernel
theorem dX12_change_22 : decode cX12_change 22 = .ok (.iload_n 2, 1) := by decide +kernel
theorem dX12_change_23 : decode cX12_change 23 = .ok (.invokevirtual 315, 3) := by decide +kernel
theorem dX12_change_26 : decode cX12_change 26 = .ok (.goto 8, 3) := by decide +kernel
theorem dX12_change_29 : decode cX12_change 29 = .ok (.aload_n 0, 1) := by decide +kernel
theorem dX12_change_30 : decode cX12_change 30 = .ok (.iconst 1, 1) := by decide +kernel
theorem dX12_change_31 : decode cX12_change 31 = .ok (.invokevirtual 193, 3) := by decide +kernel
theorem dX12_change_34 : decode cX12_change 34 = .ok (.ireturn, 1) := by decide +kernel
theorem dX12_need_0 : decode cX12_need 0 = .ok (.aload_n 0, 1) := by decide +kernel
theorem dX12_need_1 : decode cX12_need 1 = .ok (.invokevirtual 190, 3) := by decide +kernel
theorem dX12_need_4 : decode cX12_need 4 = .ok (.aload_n 0, 1) := by decide +kernel
theorem dX12_need_5 : decode cX12_need 5 = .ok (.iload_n 1, 1) := by decide +kernel
theorem dX12_need_6 : decode cX12_need 6 = .ok (.invokevirtual 309, 3) := by decide +kernel
theorem dX12_need_9 : decode cX12_need 9 = .ok (.ifCond .eq 20, 3) := by decide +kernel
theorem dX12_need_12 : decode cX12_need 12 = .ok (.aload_n 0, 1) := by decide +kernel
theorem dX12_need_13 : decode cX12_need 13 = .ok (.iload_n 2, 1) := by decide +kernel
theorem dX12_need_14 : decode cX12_need 14 = .ok (.invokevirtual 309, 3) := by decide +kernel
theorem dX12_need_17 : decode cX12_need 17 = .ok (.ifCond .eq 12, 3) := by decide +kernel
theorem dX12_need_20 : decode cX12_need 20 = .ok (.aload_n 0, 1) := by decide +kernel
theorem dX12_need_21 : decode cX12_need 21 = .ok (.iload_n 1, 1) := by decide +kernel
theorem dX12_need_22 : decode cX12_need 22 = .ok (.iload_n 2, 1) := by decide +kernel
theorem dX12_need_23 : decode cX12_need 23 = .ok (.invokevirtual 321, 3) := by decide +kernel
theorem dX12_need_26 : decode cX12_need 26 = .ok (.goto 8, 3) := by decide +kernel
theorem dX12_need_29 : decode cX12_need 29 = .ok (.aload_n 0, 1) := by decide +kernel
theorem dX12_need_30 : decode cX12_need 30 = .ok (.iconst 1, 1) := by decide +kernel
theorem dX12_need_31 : decode cX12_need 31 = .ok (.invokevirtual 193, 3) := by decide +kernel
theorem dX12_need_34 : decode cX12_need 34 = .ok (.ireturn, 1) := by decide +kernel
theorem dX12_doMeet_0 : decode cX12_doMeet 0 = .ok (.aload_n 0, 1) := by decide +kernel
theorem dX12_doMeet_1 : decode cX12_doMeet 1 = .ok (.getfield 47, 3) := by decide +kernel
theorem dX12_doMeet_4 : decode cX12_doMeet 4 = .ok (.iload_n 1, 1) := by decide +kernel
theorem dX12_doMeet_5 : decode cX12_doMeet 5 = .ok (.iaload, 1) := by decide +kernel
theorem dX12_doMeet_6 : decode cX12_doMeet 6 = .ok (.aload_n 0, 1) := by decide +kernel
theorem dX12_doMeet_7 : decode cX12_doMeet 7 = .ok (.getfield 50, 3) := by decide +kernel
theorem dX12_doMeet_10 : decode cX12_doMeet 10 = .ok (.iload_n 2, 1) := by decide +kernel
theorem dX12_doMeet_11 : decode cX12_doMeet 11 = .ok (.iaload, 1) := by decide +kernel
theorem dX12_doMeet_12 : decode cX12_doMeet 12 = .ok (.if_icmp .ge 22, 3) := by decide +kernel
theorem dX12_doMeet_15 : decode cX12_doMeet 15 = .ok (.aload_n 0, 1) := by decide +kernel
theorem dX12_doMeet_16 : decode cX12_doMeet 16 = .ok (.getfield 47, 3) := by decide +kernel
theorem dX12_doMeet_19 : decode cX12_doMeet 19 = .ok (.iload_n 2, 1) := by decide +kernel
theorem dX12_doMeet_20 : decode cX12_doMeet 20 = .ok (.iaload, 1) := by decide +kernel
theorem dX12_doMeet_21 : decode cX12_doMeet 21 = .ok (.aload_n 0, 1) := by decide +kernel
theorem dX12_doMeet_22 : decode cX12_doMeet 22 = .ok (.getfield 50, 3) := by decide +kernel
theorem dX12_doMeet_25 : decode cX12_doMeet 25 = .ok (.iload_n 1, 1) := by decide +kernel
theorem dX12_doMeet_26 : decode cX12_doMeet 26 = .ok (.iaload, 1) := by decide +kernel
theorem dX12_doMeet_27 : decode cX12_doMeet 27 = .ok (.if_icmp .ge 7, 3) := by decide +kernel
theorem dX12_doMeet_30 : decode cX12_doMeet 30 = .ok (.iconst 1, 1) := by decide +kernel
theorem dX12_doMeet_31 : decode cX12_doMeet 31 = .ok (.goto 4, 3) := by decide +kernel
theorem dX12_doMeet_34 : decode cX12_doMeet 34 = .ok (.iconst 0, 1) := by decide +kernel
theorem dX12_doMeet_35 : decode cX12_doMeet 35 = .ok (.ireturn, 1) := by decide +kernel
theorem dX12_meet_0 : decode cX12_meet 0 = .ok (.aload_n 0, 1) := by decide +kernel
theorem dX12_meet_1 : decode cX12_meet 1 = .ok (.invokevirtual 190, 3) := by decide +kernel
theorem dX12_meet_4 : decode cX12_meet 4 = .ok (.aload_n 0, 1) := by decide +kernel
theorem dX12_meet_5 : decode cX12_meet 5 = .ok (.iload_n 1, 1) := by decide +kernel
theorem dX12_meet_6 : decode cX12_meet 6 = .ok (.invokevirtual 309, 3) := by decide +kernel
theorem dX12_meet_9 : decode cX12_meet 9 = .ok (.ifCond .eq 11, 3) := by decide +kernel
theorem dX12_meet_12 : decode cX12_meet 12 = .ok (.aload_n 0, 1) := by decide +kernel
theorem dX12_meet_13 : decode cX12_meet 13 = .ok (.iload_n 2, 1) := by decide +kernel
theorem dX12_meet_14 : decode cX12_meet 14 = .ok (.invokevirtual 309, 3) := by decide +kernel
theorem dX12_meet_17 : decode cX12_meet 17 = .ok (.ifCond .ne 9, 3) := by decide +kernel
theorem dX12_meet_20 : decode cX12_meet 20 = .ok (.aload_n 0, 1) := by decide +kernel
theorem dX12_meet_21 : decode cX12_meet 21 = .ok (.iconst 1, 1) := by decide +kernel
theorem dX12_meet_22 : decode cX12_meet 22 = .ok (.invokevirtual 193, 3) := by decide +kernel
theorem dX12_meet_25 : decode cX12_meet 25 = .ok (.ireturn, 1) := by decide +kernel
theorem dX12_meet_26 : decode cX12_meet 26 = .ok (.aload_n 0, 1) := by decide +kernel
theorem dX12_meet_27 : decode cX12_meet 27 = .ok (.aload_n 0, 1) := by decide +kernel
theorem dX12_meet_28 : decode cX12_meet 28 = .ok (.getfield 26, 3) := by decide +kernel
theorem dX12_meet_31 : decode cX12_meet 31 = .ok (.invokevirtual 305, 3) := by decide +kernel
theorem dX12_meet_34 : decode cX12_meet 34 = .ok (.aload_n 0, 1) := by decide +kernel
theorem dX12_meet_35 : decode cX12_meet 35 = .ok (.iload_n 1, 1) := by decide +kernel
theorem dX12_meet_36 : decode cX12_meet 36 = .ok (.iload_n 2, 1) := by decide +kernel
theorem dX12_meet_37 : decode cX12_meet 37 = .ok (.invokevirtual 324, 3) := by decide +kernel
theorem dX12_meet_40 : decode cX12_meet 40 = .ok (.ifCond .eq 7, 3) := by decide +kernel
theorem dX12_meet_43 : decode cX12_meet 43 = .ok (.iconst 1, 1) := by decide +kernel
theorem dX12_meet_44 : decode cX12_meet 44 = .ok (.goto 4, 3) := by decide +kernel
theorem dX12_meet_47 : decode cX12_meet 47 = .ok (.iconst 0, 1) := by decide +kernel
theorem dX12_meet_48 : decode cX12_meet 48 = .ok (.ireturn, 1) := by decide +kernel
theorem dX12_onsOf_0 : decode cX12_onsOf 0 = .ok (.iconst 0, 1) := by decide +kernel
theorem dX12_onsOf_1 : decode cX12_onsOf 1 = .ok (.istore_n 3, 1) := by decide +kernel
theorem dX12_onsOf_2 : decode cX12_onsOf 2 = .ok (.iconst 0, 1) := by decide +kernel
theorem dX12_onsOf_3 : decode cX12_onsOf 3 = .ok (.istore 4, 2) := by decide +kernel
theorem dX12_onsOf_5 : decode cX12_onsOf 5 = .ok (.iload 4, 2) := by decide +kernel
theorem dX12_onsOf_7 : decode cX12_onsOf 7 = .ok (.aload_n 0, 1) := by decide +kernel
theorem dX12_onsOf_8 : decode cX12_onsOf 8 = .ok (.getfield 20, 3) := by decide +kernel
theorem dX12_onsOf_11 : decode cX12_onsOf 11 = .ok (.bipush 7, 2) := by decide +kernel
theorem dX12_onsOf_13 : decode cX12_onsOf 13 = .ok (.iaload, 1) := by decide +kernel
theorem dX12_onsOf_14 : decode cX12_onsOf 14 = .ok (.if_icmp .ge 43, 3) := by decide +kernel
theorem dX12_onsOf_17 : decode cX12_onsOf 17 = .ok (.iload_n 3, 1) := by decide +kernel
theorem dX12_onsOf_18 : decode cX12_onsOf 18 = .ok (.iload_n 1, 1) := by decide +kernel
theorem dX12_onsOf_19 : decode cX12_onsOf 19 = .ok (.aload_n 0, 1) := by decide +kernel
theorem dX12_onsOf_20 : decode cX12_onsOf 20 = .ok (.iload 4, 2) := by decide +kernel
theorem dX12_onsOf_22 : decode cX12_onsOf 22 = .ok (.iconst 0, 1) := by decide +kernel
theorem dX12_onsOf_23 : decode cX12_onsOf 23 = .ok (.invokevirtual 302, 3) := by decide +kernel
theorem dX12_onsOf_26 : decode cX12_onsOf 26 = .ok (.invokestatic 278, 3) := by decide +kernel
theorem dX12_onsOf_29 : decode cX12_onsOf 29 = .ok (.ifCond .eq 19, 3) := by decide +kernel
theorem dX12_onsOf_32 : decode cX12_onsOf 32 = .ok (.iload_n 2, 1) := by decide +kernel
theorem dX12_onsOf_33 : decode cX12_onsOf 33 = .ok (.iload 4, 2) := by decide +kernel
theorem dX12_onsOf_35 : decode cX12_onsOf 35 = .ok (.invokestatic 278, 3) := by decide +kernel
theorem dX12_onsOf_38 : decode cX12_onsOf 38 = .ok (.ifCond .ne 10, 3) := by decide +kernel
theorem dX12_onsOf_41 : decode cX12_onsOf 41 = .ok (.iconst 1, 1) := by decide +kernel
theorem dX12_onsOf_42 : decode cX12_onsOf 42 = .ok (.iload 4, 2) := by decide +kernel
theorem dX12_onsOf_44 : decode cX12_onsOf 44 = .ok (.ishl, 1) := by decide +kernel
theorem dX12_onsOf_45 : decode cX12_onsOf 45 = .ok (.goto 4, 3) := by decide +kernel
theorem dX12_onsOf_48 : decode cX12_onsOf 48 = .ok (.iconst 0, 1) := by decide +kernel
theorem dX12_onsOf_49 : decode cX12_onsOf 49 = .ok (.ior, 1) := by decide +kernel
theorem dX12_onsOf_50 : decode cX12_onsOf 50 = .ok (.istore_n 3, 1) := by decide +kernel
theorem dX12_onsOf_51 : decode cX12_onsOf 51 = .ok (.iinc 4 1, 3) := by decide +kernel
theorem dX12_onsOf_54 : decode cX12_onsOf 54 = .ok (.goto (-49), 3) := by decide +kernel
theorem dX12_onsOf_57 : decode cX12_onsOf 57 = .ok (.iload_n 3, 1) := by decide +kernel
theorem dX12_onsOf_58 : decode cX12_onsOf 58 = .ok (.ireturn, 1) := by decide +kernel
theorem dX12_bodilyOf_0 : decode cX12_bodilyOf 0 = .ok (.iconst 0, 1) := by decide +kernel
theorem dX12_bodilyOf_1 : decode cX12_bodilyOf 1 = .ok (.istore_n 2, 1) := by decide +kernel
theorem dX12_bodilyOf_2 : decode cX12_bodilyOf 2 = .ok (.iconst 0, 1) := by decide +kernel
theorem dX12_bodilyOf_3 : decode cX12_bodilyOf 3 = .ok (.istore_n 3, 1) := by decide +kernel
theorem dX12_bodilyOf_4 : decode cX12_bodilyOf 4 = .ok (.iconst 0, 1) := by decide +kernel
theorem dX12_bodilyOf_5 : decode cX12_bodilyOf 5 = .ok (.istore 4, 2) := by decide +kernel
theorem dX12_bodilyOf_7 : decode cX12_bodilyOf 7 = .ok (.iload 4, 2) := by decide +kernel
theorem dX12_bodilyOf_9 : decode cX12_bodilyOf 9 = .ok (.aload_n 0, 1) := by decide +kernel
theorem dX12_bodilyOf_10 : decode cX12_bodilyOf 10 = .ok (.getfield 20, 3) := by decide +kernel
theorem dX12_bodilyOf_13 : decode cX12_bodilyOf 13 = .ok (.bipush 7, 2) := by decide +kernel
theorem dX12_bodilyOf_15 : decode cX12_bodilyOf 15 = .ok (.iaload, 1) := by decide +kernel
theorem dX12_bodilyOf_16 : decode cX12_bodilyOf 16 = .ok (.if_icmp .ge 123, 3) := by decide +kernel
theorem dX12_bodilyOf_19 : decode cX12_bodilyOf 19 = .ok (.aload_n 0, 1) := by decide +kernel
theorem dX12_bodilyOf_20 : decode cX12_bodilyOf 20 = .ok (.getfield 53, 3) := by decide +kernel
theorem dX12_bodilyOf_23 : decode cX12_bodilyOf 23 = .ok (.iload 4, 2) := by decide +kernel
theorem dX12_bodilyOf_25 : decode cX12_bodilyOf 25 = .ok (.iaload, 1) := by decide +kernel
theorem dX12_bodilyOf_26 : decode cX12_bodilyOf 26 = .ok (.istore 5, 2) := by decide +kernel
theorem dX12_bodilyOf_28 : decode cX12_bodilyOf 28 = .ok (.aload_n 0, 1) := by decide +kernel
theorem dX12_bodilyOf_29 : decode cX12_bodilyOf 29 = .ok (.iload 5, 2) := by decide +kernel
theorem dX12_bodilyOf_31 : decode cX12_bodilyOf 31 = .ok (.iconst 0, 1) := by decide +kernel
theorem dX12_bodilyOf_32 : decode cX12_bodilyOf 32 = .ok (.invokevirtual 302, 3) := by decide +kernel
theorem dX12_bodilyOf_35 : decode cX12_bodilyOf 35 = .ok (.istore 6, 2) := by decide +kernel
theorem dX12_bodilyOf_37 : decode cX12_bodilyOf 37 = .ok (.iload_n 1, 1) := by decide +kernel
theorem dX12_bodilyOf_38 : decode cX12_bodilyOf 38 = .ok (.iload 5, 2) := by decide +kernel
theorem dX12_bodilyOf_40 : decode cX12_bodilyOf 40 = .ok (.invokestatic 278, 3) := by decide +kernel
theorem dX12_bodilyOf_43 : decode cX12_bodilyOf 43 = .ok (.ifCond .eq 90, 3) := by decide +kernel
theorem dX12_bodilyOf_46 : decode cX12_bodilyOf 46 = .ok (.aload_n 0, 1) := by decide +kernel
theorem dX12_bodilyOf_47 : decode cX12_bodilyOf 47 = .ok (.iload 5, 2) := by decide +kernel
theorem dX12_bodilyOf_49 : decode cX12_bodilyOf 49 = .ok (.bipush 6, 2) := by decide +kernel
theorem dX12_bodilyOf_51 : decode cX12_bodilyOf 51 = .ok (.invokevirtual 302, 3) := by decide +kernel
theorem dX12_bodilyOf_54 : decode cX12_bodilyOf 54 = .ok (.iconst 1, 1) := by decide +kernel
theorem dX12_bodilyOf_55 : decode cX12_bodilyOf 55 = .ok (.if_icmp .eq 78, 3) := by decide +kernel
theorem dX12_bodilyOf_58 : decode cX12_bodilyOf 58 = .ok (.aload_n 0, 1) := by decide +kernel
theorem dX12_bodilyOf_59 : decode cX12_bodilyOf 59 = .ok (.getfield 20, 3) := by decide +kernel
theorem dX12_bodilyOf_62 : decode cX12_bodilyOf 62 = .ok (.bipush 9, 2) := by decide +kernel
theorem dX12_bodilyOf_64 : decode cX12_bodilyOf 64 = .ok (.iload 6, 2) := by decide +kernel
theorem dX12_bodilyOf_66 : decode cX12_bodilyOf 66 = .ok (.iadd, 1) := by decide +kernel
theorem dX12_bodilyOf_67 : decode cX12_bodilyOf 67 = .ok (.iaload, 1) := by decide +kernel
theorem dX12_bodilyOf_68 : decode cX12_bodilyOf 68 = .ok (.iconst 2, 1) := by decide +kernel
theorem dX12_bodilyOf_69 : decode cX12_bodilyOf 69 = .ok (.if_icmp .ne 6, 3) := by decide +kernel
theorem dX12_bodilyOf_72 : decode cX12_bodilyOf 72 = .ok (.goto 61, 3) := by decide +kernel
theorem dX12_bodilyOf_75 : decode cX12_bodilyOf 75 = .ok (.aload_n 0, 1) := by decide +kernel
theorem dX12_bodilyOf_76 : decode cX12_bodilyOf 76 = .ok (.getfield 20, 3) := by decide +kernel
theorem dX12_bodilyOf_79 : decode cX12_bodilyOf 79 = .ok (.bipush 9, 2) := by decide +kernel
theorem dX12_bodilyOf_81 : decode cX12_bodilyOf 81 = .ok (.iload 6, 2) := by decide +kernel
theorem dX12_bodilyOf_83 : decode cX12_bodilyOf 83 = .ok (.iadd, 1) := by decide +kernel
theorem dX12_bodilyOf_84 : decode cX12_bodilyOf 84 = .ok (.iaload, 1) := by decide +kernel
theorem dX12_bodilyOf_85 : decode cX12_bodilyOf 85 = .ok (.iconst 3, 1) := by decide +kernel
theorem dX12_bodilyOf_86 : decode cX12_bodilyOf 86 = .ok (.if_icmp .ne 15, 3) := by decide +kernel
theorem dX12_bodilyOf_89 : decode cX12_bodilyOf 89 = .ok (.iload_n 3, 1) := by decide +kernel
theorem dX12_bodilyOf_90 : decode cX12_bodilyOf 90 = .ok (.iload 6, 2) := by decide +kernel
theorem dX12_bodilyOf_92 : decode cX12_bodilyOf 92 = .ok (.invokestatic 278, 3) := by decide +kernel
theorem dX12_bodilyOf_95 : decode cX12_bodilyOf 95 = .ok (.ifCond .eq 6, 3) := by decide +kernel
theorem dX12_bodilyOf_98 : decode cX12_bodilyOf 98 = .ok (.goto 35, 3) := by decide +kernel
theorem dX12_bodilyOf_101 : decode cX12_bodilyOf 101 = .ok (.iload_n 3, 1) := by decide +kernel
theorem dX12_bodilyOf_102 : decode cX12_bodilyOf 102 = .ok (.aload_n 0, 1) := by decide +kernel
theorem dX12_bodilyOf_103 : decode cX12_bodilyOf 103 = .ok (.getfield 20, 3) := by decide +kernel
theorem dX12_bodilyOf_106 : decode cX12_bodilyOf 106 = .ok (.bipush 9, 2) := by decide +kernel
theorem dX12_bodilyOf_108 : decode cX12_bodilyOf 108 = .ok (.iload 6, 2) := by decide +kernel
theorem dX12_bodilyOf_110 : decode cX12_bodilyOf 110 = .ok (.iadd, 1) := by decide +kernel
theorem dX12_bodilyOf_111 : decode cX12_bodilyOf 111 = .ok (.iaload, 1) := by decide +kernel
theorem dX12_bodilyOf_112 : decode cX12_bodilyOf 112 = .ok (.iconst 3, 1) := by decide +kernel
theorem dX12_bodilyOf_113 : decode cX12_bodilyOf 113 = .ok (.if_icmp .ne 10, 3) := by decide +kernel
theorem dX12_bodilyOf_116 : decode cX12_bodilyOf 116 = .ok (.iconst 1, 1) := by decide +kernel
theorem dX12_bodilyOf_117 : decode cX12_bodilyOf 117 = .ok (.iload 6, 2) := by decide +kernel
theorem dX12_bodilyOf_119 : decode cX12_bodilyOf 119 = .ok (.ishl, 1) := by decide +kernel
theorem dX12_bodilyOf_120 : decode cX12_bodilyOf 120 = .ok (.goto 4, 3) := by decide +kernel
theorem dX12_bodilyOf_123 : decode cX12_bodilyOf 123 = .ok (.iconst 0, 1) := by decide +kernel
theorem dX12_bodilyOf_124 : decode cX12_bodilyOf 124 = .ok (.ior, 1) := by decide +kernel
theorem dX12_bodilyOf_125 : decode cX12_bodilyOf 125 = .ok (.istore_n 3, 1) := by decide +kernel
theorem dX12_bodilyOf_126 : decode cX12_bodilyOf 126 = .ok (.iload_n 2, 1) := by decide +kernel
theorem dX12_bodilyOf_127 : decode cX12_bodilyOf 127 = .ok (.iconst 1, 1) := by decide +kernel
theorem dX12_bodilyOf_128 : decode cX12_bodilyOf 128 = .ok (.iload 5, 2) := by decide +kernel
theorem dX12_bodilyOf_130 : decode cX12_bodilyOf 130 = .ok (.ishl, 1) := by decide +kernel
theorem dX12_bodilyOf_131 : decode cX12_bodilyOf 131 = .ok (.ior, 1) := by decide +kernel
theorem dX12_bodilyOf_132 : decode cX12_bodilyOf 132 = .ok (.istore_n 2, 1) := by decide +kernel
theorem dX12_bodilyOf_133 : decode cX12_bodilyOf 133 = .ok (.iinc 4 1, 3) := by decide +kernel
theorem dX12_bodilyOf_136 : decode cX12_bodilyOf 136 = .ok (.goto (-129), 3) := by decide +kernel
theorem dX12_bodilyOf_139 : decode cX12_bodilyOf 139 = .ok (.iload_n 2, 1) := by decide +kernel
theorem dX12_bodilyOf_140 : decode cX12_bodilyOf 140 = .ok (.ireturn, 1) := by decide +kernel
theorem dX12_behindOf_0 : decode cX12_behindOf 0 = .ok (.iconst 0, 1) := by decide +kernel
theorem dX12_behindOf_1 : decode cX12_behindOf 1 = .ok (.istore_n 2, 1) := by decide +kernel
theorem dX12_behindOf_2 : decode cX12_behindOf 2 = .ok (.iconst 0, 1) := by decide +kernel
theorem dX12_behindOf_3 : decode cX12_behindOf 3 = .ok (.istore_n 3, 1) := by decide +kernel
theorem dX12_behindOf_4 : decode cX12_behindOf 4 = .ok (.iload_n 3, 1) := by decide +kernel
theorem dX12_behindOf_5 : decode cX12_behindOf 5 = .ok (.aload_n 0, 1) := by decide +kernel
theorem dX12_behindOf_6 : decode cX12_behindOf 6 = .ok (.getfield 20, 3) := by decide +kernel
theorem dX12_behindOf_9 : decode cX12_behindOf 9 = .ok (.bipush 7, 2) := by decide +kernel
theorem dX12_behindOf_11 : decode cX12_behindOf 11 = .ok (.iaload, 1) := by decide +kernel
theorem dX12_behindOf_12 : decode cX12_behindOf 12 = .ok (.if_icmp .ge 38, 3) := by decide +kernel
theorem dX12_behindOf_15 : decode cX12_behindOf 15 = .ok (.iload_n 2, 1) := by decide +kernel
theorem dX12_behindOf_16 : decode cX12_behindOf 16 = .ok (.iload_n 1, 1) := by decide +kernel
theorem dX12_behindOf_17 : decode cX12_behindOf 17 = .ok (.iload_n 3, 1) := by decide +kernel
theorem dX12_behindOf_18 : decode cX12_behindOf 18 = .ok (.invokestatic 278, 3) := by decide +kernel
theorem dX12_behindOf_21 : decode cX12_behindOf 21 = .ok (.ifCond .eq 20, 3) := by decide +kernel
theorem dX12_behindOf_24 : decode cX12_behindOf 24 = .ok (.aload_n 0, 1) := by decide +kernel
theorem dX12_behindOf_25 : decode cX12_behindOf 25 = .ok (.iload_n 3, 1) := by decide +kernel
theorem dX12_behindOf_26 : decode cX12_behindOf 26 = .ok (.bipush 6, 2) := by decide +kernel
theorem dX12_behindOf_28 : decode cX12_behindOf 28 = .ok (.invokevirtual 302, 3) := by decide +kernel
theorem dX12_behindOf_31 : decode cX12_behindOf 31 = .ok (.iconst 1, 1) := by decide +kernel
theorem dX12_behindOf_32 : decode cX12_behindOf 32 = .ok (.if_icmp .ne 9, 3) := by decide +kernel
theorem dX12_behindOf_35 : decode cX12_behindOf 35 = .ok (.iconst 1, 1) := by decide +kernel
theorem dX12_behindOf_36 : decode cX12_behindOf 36 = .ok (.iload_n 3, 1) := by decide +kernel
theorem dX12_behindOf_37 : decode cX12_behindOf 37 = .ok (.ishl, 1) := by decide +kernel
theorem dX12_behindOf_38 : decode cX12_behindOf 38 = .ok (.goto 4, 3) := by decide +kernel
theorem dX12_behindOf_41 : decode cX12_behindOf 41 = .ok (.iconst 0, 1) := by decide +kernel
theorem dX12_behindOf_42 : decode cX12_behindOf 42 = .ok (.ior, 1) := by decide +kernel
theorem dX12_behindOf_43 : decode cX12_behindOf 43 = .ok (.istore_n 2, 1) := by decide +kernel
theorem dX12_behindOf_44 : decode cX12_behindOf 44 = .ok (.iinc 3 1, 3) := by decide +kernel
theorem dX12_behindOf_47 : decode cX12_behindOf 47 = .ok (.goto (-43), 3) := by decide +kernel
theorem dX12_behindOf_50 : decode cX12_behindOf 50 = .ok (.iload_n 2, 1) := by decide +kernel
theorem dX12_behindOf_51 : decode cX12_behindOf 51 = .ok (.ireturn, 1) := by decide +kernel
theorem dX12_puppetsOf_0 : decode cX12_puppetsOf 0 = .ok (.iconst 0, 1) := by decide +kernel
theorem dX12_puppetsOf_1 : decode cX12_puppetsOf 1 = .ok (.istore_n 2, 1) := by decide +kernel
theorem dX12_puppetsOf_2 : decode cX12_puppetsOf 2 = .ok (.iconst 0, 1) := by decide +kernel
theorem dX12_puppetsOf_3 : decode cX12_puppetsOf 3 = .ok (.istore_n 3, 1) := by decide +kernel
theorem dX12_puppetsOf_4 : decode cX12_puppetsOf 4 = .ok (.iload_n 3, 1) := by decide +kernel
theorem dX12_puppetsOf_5 : decode cX12_puppetsOf 5 = .ok (.aload_n 0, 1) := by decide +kernel
theorem dX12_puppetsOf_6 : decode cX12_puppetsOf 6 = .ok (.getfield 20, 3) := by decide +kernel
theorem dX12_puppetsOf_9 : decode cX12_puppetsOf 9 = .ok (.bipush 7, 2) := by decide +kernel
theorem dX12_puppetsOf_11 : decode cX12_puppetsOf 11 = .ok (.iaload, 1) := by decide +kernel
theorem dX12_puppetsOf_12 : decode cX12_puppetsOf 12 = .ok (.if_icmp .ge 55, 3) := by decide +kernel
theorem dX12_puppetsOf_15 : decode cX12_puppetsOf 15 = .ok (.iload_n 2, 1) := by decide +kernel
theorem dX12_puppetsOf_16 : decode cX12_puppetsOf 16 = .ok (.iload_n 1, 1) := by decide +kernel
theorem dX12_puppetsOf_17 : decode cX12_puppetsOf 17 = .ok (.iload_n 3, 1) := by decide +kernel
theorem dX12_puppetsOf_18 : decode cX12_puppetsOf 18 = .ok (.invokestatic 278, 3) := by decide +kernel
theorem dX12_puppetsOf_21 : decode cX12_puppetsOf 21 = .ok (.ifCond .eq 37, 3) := by decide +kernel
theorem dX12_puppetsOf_24 : decode cX12_puppetsOf 24 = .ok (.aload_n 0, 1) := by decide +kernel
theorem dX12_puppetsOf_25 : decode cX12_puppetsOf 25 = .ok (.iload_n 3, 1) := by decide +kernel
theorem dX12_puppetsOf_26 : decode cX12_puppetsOf 26 = .ok (.bipush 6, 2) := by decide +kernel
theorem dX12_puppetsOf_28 : decode cX12_puppetsOf 28 = .ok (.invokevirtual 302, 3) := by decide +kernel
theorem dX12_puppetsOf_31 : decode cX12_puppetsOf 31 = .ok (.ifCond .ne 27, 3) := by decide +kernel
theorem dX12_puppetsOf_34 : decode cX12_puppetsOf 34 = .ok (.aload_n 0, 1) := by decide +kernel
theorem dX12_puppetsOf_35 : decode cX12_puppetsOf 35 = .ok (.getfield 20, 3) := by decide +kernel
theorem dX12_puppetsOf_38 : decode cX12_puppetsOf 38 = .ok (.bipush 9, 2) := by decide +kernel
theorem dX12_puppetsOf_40 : decode cX12_puppetsOf 40 = .ok (.aload_n 0, 1) := by decide +kernel
theorem dX12_puppetsOf_41 : decode cX12_puppetsOf 41 = .ok (.iload_n 3, 1) := by decide +kernel
theorem dX12_puppetsOf_42 : decode cX12_puppetsOf 42 = .ok (.iconst 0, 1) := by decide +kernel
theorem dX12_puppetsOf_43 : decode cX12_puppetsOf 43 = .ok (.invokevirtual 302, 3) := by decide +kernel
theorem dX12_puppetsOf_46 : decode cX12_puppetsOf 46 = .ok (.iadd, 1) := by decide +kernel
theorem dX12_puppetsOf_47 : decode cX12_puppetsOf 47 = .ok (.iaload, 1) := by decide +kernel
theorem dX12_puppetsOf_48 : decode cX12_puppetsOf 48 = .ok (.iconst 2, 1) := by decide +kernel
theorem dX12_puppetsOf_49 : decode cX12_puppetsOf 49 = .ok (.if_icmp .ne 9, 3) := by decide +kernel
theorem dX12_puppetsOf_52 : decode cX12_puppetsOf 52 = .ok (.iconst 1, 1) := by decide +kernel
theorem dX12_puppetsOf_53 : decode cX12_puppetsOf 53 = .ok (.iload_n 3, 1) := by decide +kernel
theorem dX12_puppetsOf_54 : decode cX12_puppetsOf 54 = .ok (.ishl, 1) := by decide +kernel
theorem dX12_puppetsOf_55 : decode cX12_puppetsOf 55 = .ok (.goto 4, 3) := by decide +kernel
theorem dX12_puppetsOf_58 : decode cX12_puppetsOf 58 = .ok (.iconst 0, 1) := by decide +kernel
theorem dX12_puppetsOf_59 : decode cX12_puppetsOf 59 = .ok (.ior, 1) := by decide +kernel
theorem dX12_puppetsOf_60 : decode cX12_puppetsOf 60 = .ok (.istore_n 2, 1) := by decide +kernel
theorem dX12_puppetsOf_61 : decode cX12_puppetsOf 61 = .ok (.iinc 3 1, 3) := by decide +kernel
theorem dX12_puppetsOf_64 : decode cX12_puppetsOf 64 = .ok (.goto (-60), 3) := by decide +kernel
theorem dX12_puppetsOf_67 : decode cX12_puppetsOf 67 = .ok (.iload_n 2, 1) := by decide +kernel
theorem dX12_puppetsOf_68 : decode cX12_puppetsOf 68 = .ok (.ireturn, 1) := by decide +kernel
theorem dX12_doMeetSets_0 : decode cX12_doMeetSets 0 = .ok (.iconst 0, 1) := by decide +kernel
theorem dX12_doMeetSets_1 : decode cX12_doMeetSets 1 = .ok (.istore_n 3, 1) := by decide +kernel
theorem dX12_doMeetSets_2 : decode cX12_doMeetSets 2 = .ok (.iconst 0, 1) := by decide +kernel
theorem dX12_doMeetSets_3 : decode cX12_doMeetSets 3 = .ok (.istore 4, 2) := by decide +kernel
theorem dX12_doMeetSets_5 : decode cX12_doMeetSets 5 = .ok (.iload 4, 2) := by decide +kernel
theorem dX12_doMeetSets_7 : decode cX12_doMeetSets 7 = .ok (.aload_n 0, 1) := by decide +kernel
theorem dX12_doMeetSets_8 : decode cX12_doMeetSets 8 = .ok (.getfield 20, 3) := by decide +kernel
theorem dX12_doMeetSets_11 : decode cX12_doMeetSets 11 = .ok (.bipush 7, 2) := by decide +kernel
theorem dX12_doMeetSets_13 : decode cX12_doMeetSets 13 = .ok (.iaload, 1) := by decide +kernel
theorem dX12_doMeetSets_14 : decode cX12_doMeetSets 14 = .ok (.if_icmp .ge 76, 3) := by decide +kernel
theorem dX12_doMeetSets_17 : decode cX12_doMeetSets 17 = .ok (.iconst 0, 1) := by decide +kernel
theorem dX12_doMeetSets_18 : decode cX12_doMeetSets 18 = .ok (.istore 5, 2) := by decide +kernel
theorem dX12_doMeetSets_20 : decode cX12_doMeetSets 20 = .ok (.iload 5, 2) := by decide +kernel
theorem dX12_doMeetSets_22 : decode cX12_doMeetSets 22 = .ok (.aload_n 0, 1) := by decide +kernel
theorem dX12_doMeetSets_23 : decode cX12_doMeetSets 23 = .ok (.getfield 20, 3) := by decide +kernel
theorem dX12_doMeetSets_26 : decode cX12_doMeetSets 26 = .ok (.bipush 7, 2) := by decide +kernel
theorem dX12_doMeetSets_28 : decode cX12_doMeetSets 28 = .ok (.iaload, 1) := by decide +kernel
theorem dX12_doMeetSets_29 : decode cX12_doMeetSets 29 = .ok (.if_icmp .ge 55, 3) := by decide +kernel
theorem dX12_doMeetSets_32 : decode cX12_doMeetSets 32 = .ok (.iload_n 1, 1) := by decide +kernel
theorem dX12_doMeetSets_33 : decode cX12_doMeetSets 33 = .ok (.iload 4, 2) := by decide +kernel
theorem dX12_doMeetSets_35 : decode cX12_doMeetSets 35 = .ok (.invokestatic 278, 3) := by decide +kernel
theorem dX12_doMeetSets_38 : decode cX12_doMeetSets 38 = .ok (.ifCond .eq 46, 3) := by decide +kernel
theorem dX12_doMeetSets_41 : decode cX12_doMeetSets 41 = .ok (.iload_n 3, 1) := by decide +kernel
theorem dX12_doMeetSets_42 : decode cX12_doMeetSets 42 = .ok (.ifCond .ne 30, 3) := by decide +kernel
theorem dX12_doMeetSets_45 : decode cX12_doMeetSets 45 = .ok (.iload 4, 2) := by decide +kernel
theorem dX12_doMeetSets_47 : decode cX12_doMeetSets 47 = .ok (.iload 5, 2) := by decide +kernel
theorem dX12_doMeetSets_49 : decode cX12_doMeetSets 49 = .ok (.if_icmp .eq 27, 3) := by decide +kernel
theorem dX12_doMeetSets_52 : decode cX12_doMeetSets 52 = .ok (.iload_n 2, 1) := by decide +kernel
theorem dX12_doMeetSets_53 : decode cX12_doMeetSets 53 = .ok (.iload 5, 2) := by decide +kernel
theorem dX12_doMeetSets_55 : decode cX12_doMeetSets 55 = .ok (.invokestatic 278, 3) := by decide +kernel
theorem dX12_doMeetSets_58 : decode cX12_doMeetSets 58 = .ok (.ifCond .eq 18, 3) := by decide +kernel
theorem dX12_doMeetSets_61 : decode cX12_doMeetSets 61 = .ok (.aload_n 0, 1) := by decide +kernel
theorem dX12_doMeetSets_62 : decode cX12_doMeetSets 62 = .ok (.iload 4, 2) := by decide +kernel
theorem dX12_doMeetSets_64 : decode cX12_doMeetSets 64 = .ok (.iload 5, 2) := by decide +kernel
theorem dX12_doMeetSets_66 : decode cX12_doMeetSets 66 = .ok (.invokevirtual 324, 3) := by decide +kernel
theorem dX12_doMeetSets_69 : decode cX12_doMeetSets 69 = .ok (.ifCond .eq 7, 3) := by decide +kernel
theorem dX12_doMeetSets_72 : decode cX12_doMeetSets 72 = .ok (.iconst 1, 1) := by decide +kernel
theorem dX12_doMeetSets_73 : decode cX12_doMeetSets 73 = .ok (.goto 4, 3) := by decide +kernel
theorem dX12_doMeetSets_76 : decode cX12_doMeetSets 76 = .ok (.iconst 0, 1) := by decide +kernel
theorem dX12_doMeetSets_77 : decode cX12_doMeetSets 77 = .ok (.istore_n 3, 1) := by decide +kernel
theorem dX12_doMeetSets_78 : decode cX12_doMeetSets 78 = .ok (.iinc 5 1, 3) := by decide +kernel
theorem dX12_doMeetSets_81 : decode cX12_doMeetSets 81 = .ok (.goto (-61), 3) := by decide +kernel
theorem dX12_doMeetSets_84 : decode cX12_doMeetSets 84 = .ok (.iinc 4 1, 3) := by decide +kernel
theorem dX12_doMeetSets_87 : decode cX12_doMeetSets 87 = .ok (.goto (-82), 3) := by decide +kernel
theorem dX12_doMeetSets_90 : decode cX12_doMeetSets 90 = .ok (.iload_n 3, 1) := by decide +kernel
theorem dX12_doMeetSets_91 : decode cX12_doMeetSets 91 = .ok (.ireturn, 1) := by decide +kernel
theorem dX12_canHave_0 : decode cX12_canHave 0 = .ok (.aload_n 0, 1) := by decide +kernel
theorem dX12_canHave_1 : decode cX12_canHave 1 = .ok (.iload_n 1, 1) := by decide +kernel
theorem dX12_canHave_2 : decode cX12_canHave 2 = .ok (.invokevirtual 327, 3) := by decide +kernel
theorem dX12_canHave_5 : decode cX12_canHave 5 = .ok (.istore_n 2, 1) := by decide +kernel
theorem dX12_canHave_6 : decode cX12_canHave 6 = .ok (.aload_n 0, 1) := by decide +kernel
theorem dX12_canHave_7 : decode cX12_canHave 7 = .ok (.iload_n 1, 1) := by decide +kernel
theorem dX12_canHave_8 : decode cX12_canHave 8 = .ok (.invokevirtual 330, 3) := by decide +kernel
theorem dX12_canHave_11 : decode cX12_canHave 11 = .ok (.istore_n 3, 1) := by decide +kernel
theorem dX12_canHave_12 : decode cX12_canHave 12 = .ok (.aload_n 0, 1) := by decide +kernel
theorem dX12_canHave_13 : decode cX12_canHave 13 = .ok (.iload_n 1, 1) := by decide +kernel
theorem dX12_canHave_14 : decode cX12_canHave 14 = .ok (.invokevirtual 333, 3) := by decide +kernel
theorem dX12_canHave_17 : decode cX12_canHave 17 = .ok (.istore 4, 2) := by decide +kernel
theorem dX12_canHave_19 : decode cX12_canHave 19 = .ok (.aload_n 0, 1) := by decide +kernel
theorem dX12_canHave_20 : decode cX12_canHave 20 = .ok (.iload_n 2, 1) := by decide +kernel
theorem dX12_canHave_21 : decode cX12_canHave 21 = .ok (.iload_n 2, 1) := by decide +kernel
theorem dX12_canHave_22 : decode cX12_canHave 22 = .ok (.iload_n 3, 1) := by decide +kernel
theorem dX12_canHave_23 : decode cX12_canHave 23 = .ok (.ior, 1) := by decide +kernel
theorem dX12_canHave_24 : decode cX12_canHave 24 = .ok (.invokevirtual 336, 3) := by decide +kernel
theorem dX12_canHave_27 : decode cX12_canHave 27 = .ok (.ifCond .ne 23, 3) := by decide +kernel
theorem dX12_canHave_30 : decode cX12_canHave 30 = .ok (.aload_n 0, 1) := by decide +kernel
theorem dX12_canHave_31 : decode cX12_canHave 31 = .ok (.iload 4, 2) := by decide +kernel
theorem dX12_canHave_33 : decode cX12_canHave 33 = .ok (.iload 4, 2) := by decide +kernel
theorem dX12_canHave_35 : decode cX12_canHave 35 = .ok (.invokevirtual 336, 3) := by decide +kernel
theorem dX12_canHave_38 : decode cX12_canHave 38 = .ok (.ifCond .ne 12, 3) := by decide +kernel
theorem dX12_canHave_41 : decode cX12_canHave 41 = .ok (.aload_n 0, 1) := by decide +kernel
theorem dX12_canHave_42 : decode cX12_canHave 42 = .ok (.iload_n 3, 1) := by decide +kernel
theorem dX12_canHave_43 : decode cX12_canHave 43 = .ok (.iload_n 3, 1) := by decide +kernel
theorem dX12_canHave_44 : decode cX12_canHave 44 = .ok (.invokevirtual 336, 3) := by decide +kernel
theorem dX12_canHave_47 : decode cX12_canHave 47 = .ok (.ifCond .eq 5, 3) := by decide +kernel
theorem dX12_canHave_50 : decode cX12_canHave 50 = .ok (.iconst 0, 1) := by decide +kernel
theorem dX12_canHave_51 : decode cX12_canHave 51 = .ok (.ireturn, 1) := by decide +kernel
theorem dX12_canHave_52 : decode cX12_canHave 52 = .ok (.iconst (-1), 1) := by decide +kernel
theorem dX12_canHave_53 : decode cX12_canHave 53 = .ok (.istore 5, 2) := by decide +kernel
theorem dX12_canHave_55 : decode cX12_canHave 55 = .ok (.iconst 0, 1) := by decide +kernel
theorem dX12_canHave_56 : decode cX12_canHave 56 = .ok (.istore 6, 2) := by decide +kernel
theorem dX12_canHave_58 : decode cX12_canHave 58 = .ok (.iload 6, 2) := by decide +kernel
theorem dX12_canHave_60 : decode cX12_canHave 60 = .ok (.aload_n 0, 1) := by decide +kernel
theorem dX12_canHave_61 : decode cX12_canHave 61 = .ok (.getfield 20, 3) := by decide +kernel
theorem dX12_canHave_64 : decode cX12_canHave 64 = .ok (.bipush 7, 2) := by decide +kernel
theorem dX12_canHave_66 : decode cX12_canHave 66 = .ok (.iaload, 1) := by decide +kernel
theorem dX12_canHave_67 : decode cX12_canHave 67 = .ok (.if_icmp .ge 67, 3) := by decide +kernel
theorem dX12_canHave_70 : decode cX12_canHave 70 = .ok (.aload_n 0, 1) := by decide +kernel
theorem dX12_canHave_71 : decode cX12_canHave 71 = .ok (.getfield 53, 3) := by decide +kernel
theorem dX12_canHave_74 : decode cX12_canHave 74 = .ok (.iload 6, 2) := by decide +kernel
theorem dX12_canHave_76 : decode cX12_canHave 76 = .ok (.iaload, 1) := by decide +kernel
theorem dX12_canHave_77 : decode cX12_canHave 77 = .ok (.istore 7, 2) := by decide +kernel
theorem dX12_canHave_79 : decode cX12_canHave 79 = .ok (.iload_n 3, 1) := by decide +kernel
theorem dX12_canHave_80 : decode cX12_canHave 80 = .ok (.iload 7, 2) := by decide +kernel
theorem dX12_canHave_82 : decode cX12_canHave 82 = .ok (.invokestatic 278, 3) := by decide +kernel
theorem dX12_canHave_85 : decode cX12_canHave 85 = .ok (.ifCond .ne 6, 3) := by decide +kernel
theorem dX12_canHave_88 : decode cX12_canHave 88 = .ok (.goto 40, 3) := by decide +kernel
theorem dX12_canHave_91 : decode cX12_canHave 91 = .ok (.iload 5, 2) := by decide +kernel
theorem dX12_canHave_93 : decode cX12_canHave 93 = .ok (.ifCond .lt 31, 3) := by decide +kernel
theorem dX12_canHave_96 : decode cX12_canHave 96 = .ok (.aload_n 0, 1) := by decide +kernel
theorem dX12_canHave_97 : decode cX12_canHave 97 = .ok (.getfield 47, 3) := by decide +kernel
theorem dX12_canHave_100 : decode cX12_canHave 100 = .ok (.iload 7, 2) := by decide +kernel
theorem dX12_canHave_102 : decode cX12_canHave 102 = .ok (.iaload, 1) := by decide +kernel
theorem dX12_canHave_103 : decode cX12_canHave 103 = .ok (.aload_n 0, 1) := by decide +kernel
theorem dX12_canHave_104 : decode cX12_canHave 104 = .ok (.getfield 50, 3) := by decide +kernel
theorem dX12_canHave_107 : decode cX12_canHave 107 = .ok (.iload 5, 2) := by decide +kernel
theorem dX12_canHave_109 : decode cX12_canHave 109 = .ok (.iaload, 1) := by decide +kernel
theorem dX12_canHave_110 : decode cX12_canHave 110 = .ok (.aload_n 0, 1) := by decide +kernel
theorem dX12_canHave_111 : decode cX12_canHave 111 = .ok (.iload 5, 2) := by decide +kernel
theorem dX12_canHave_113 : decode cX12_canHave 113 = .ok (.iload 7, 2) := by decide +kernel
theorem dX12_canHave_115 : decode cX12_canHave 115 = .ok (.invokevirtual 321, 3) := by decide +kernel
theorem dX12_canHave_118 : decode cX12_canHave 118 = .ok (.iadd, 1) := by decide +kernel
theorem dX12_canHave_119 : decode cX12_canHave 119 = .ok (.if_icmp .ge 5, 3) := by decide +kernel
theorem dX12_canHave_122 : decode cX12_canHave 122 = .ok (.iconst 0, 1) := by decide +kernel
theorem dX12_canHave_123 : decode cX12_canHave 123 = .ok (.ireturn, 1) := by decide +kernel
theorem dX12_canHave_124 : decode cX12_canHave 124 = .ok (.iload 7, 2) := by decide +kernel
theorem dX12_canHave_126 : decode cX12_canHave 126 = .ok (.istore 5, 2) := by decide +kernel
theorem dX12_canHave_128 : decode cX12_canHave 128 = .ok (.iinc 6 1, 3) := by decide +kernel
theorem dX12_canHave_131 : decode cX12_canHave 131 = .ok (.goto (-73), 3) := by decide +kernel
theorem dX12_canHave_134 : decode cX12_canHave 134 = .ok (.iconst 1, 1) := by decide +kernel
theorem dX12_canHave_135 : decode cX12_canHave 135 = .ok (.ireturn, 1) := by decide +kernel
theorem dX12_partsOf_0 : decode cX12_partsOf 0 = .ok (.iconst 0, 1) := by decide +kernel
theorem dX12_partsOf_1 : decode cX12_partsOf 1 = .ok (.istore_n 2, 1) := by decide +kernel
theorem dX12_partsOf_2 : decode cX12_partsOf 2 = .ok (.iconst 0, 1) := by decide +kernel
theorem dX12_partsOf_3 : decode cX12_partsOf 3 = .ok (.istore_n 3, 1) := by decide +kernel
theorem dX12_partsOf_4 : decode cX12_partsOf 4 = .ok (.iload_n 3, 1) := by decide +kernel
theorem dX12_partsOf_5 : decode cX12_partsOf 5 = .ok (.aload_n 0, 1) := by decide +kernel
theorem dX12_partsOf_6 : decode cX12_partsOf 6 = .ok (.getfield 20, 3) := by decide +kernel
theorem dX12_partsOf_9 : decode cX12_partsOf 9 = .ok (.iconst 4, 1) := by decide +kernel
theorem dX12_partsOf_10 : decode cX12_partsOf 10 = .ok (.iaload, 1) := by decide +kernel
theorem dX12_partsOf_11 : decode cX12_partsOf 11 = .ok (.if_icmp .ge 31, 3) := by decide +kernel
theorem dX12_partsOf_14 : decode cX12_partsOf 14 = .ok (.iload_n 2, 1) := by decide +kernel
theorem dX12_partsOf_15 : decode cX12_partsOf 15 = .ok (.aload_n 0, 1) := by decide +kernel
theorem dX12_partsOf_16 : decode cX12_partsOf 16 = .ok (.getfield 26, 3) := by decide +kernel
theorem dX12_partsOf_19 : decode cX12_partsOf 19 = .ok (.iconst 5, 1) := by decide +kernel
theorem dX12_partsOf_20 : decode cX12_partsOf 20 = .ok (.iload_n 3, 1) := by decide +kernel
theorem dX12_partsOf_21 : decode cX12_partsOf 21 = .ok (.iadd, 1) := by decide +kernel
theorem dX12_partsOf_22 : decode cX12_partsOf 22 = .ok (.iaload, 1) := by decide +kernel
theorem dX12_partsOf_23 : decode cX12_partsOf 23 = .ok (.iload_n 1, 1) := by decide +kernel
theorem dX12_partsOf_24 : decode cX12_partsOf 24 = .ok (.if_icmp .ne 9, 3) := by decide +kernel
theorem dX12_partsOf_27 : decode cX12_partsOf 27 = .ok (.iconst 1, 1) := by decide +kernel
theorem dX12_partsOf_28 : decode cX12_partsOf 28 = .ok (.iload_n 3, 1) := by decide +kernel
theorem dX12_partsOf_29 : decode cX12_partsOf 29 = .ok (.ishl, 1) := by decide +kernel
theorem dX12_partsOf_30 : decode cX12_partsOf 30 = .ok (.goto 4, 3) := by decide +kernel
theorem dX12_partsOf_33 : decode cX12_partsOf 33 = .ok (.iconst 0, 1) := by decide +kernel
theorem dX12_partsOf_34 : decode cX12_partsOf 34 = .ok (.ior, 1) := by decide +kernel
theorem dX12_partsOf_35 : decode cX12_partsOf 35 = .ok (.istore_n 2, 1) := by decide +kernel
theorem dX12_partsOf_36 : decode cX12_partsOf 36 = .ok (.iinc 3 1, 3) := by decide +kernel
theorem dX12_partsOf_39 : decode cX12_partsOf 39 = .ok (.goto (-35), 3) := by decide +kernel
theorem dX12_partsOf_42 : decode cX12_partsOf 42 = .ok (.iload_n 2, 1) := by decide +kernel
theorem dX12_partsOf_43 : decode cX12_partsOf 43 = .ok (.ireturn, 1) := by decide +kernel
theorem dX12_onsOfPlayer_0 : decode cX12_onsOfPlayer 0 = .ok (.aload_n 0, 1) := by decide +kernel
theorem dX12_onsOfPlayer_1 : decode cX12_onsOfPlayer 1 = .ok (.aload_n 0, 1) := by decide +kernel
theorem dX12_onsOfPlayer_2 : decode cX12_onsOfPlayer 2 = .ok (.iload_n 1, 1) := by decide +kernel
theorem dX12_onsOfPlayer_3 : decode cX12_onsOfPlayer 3 = .ok (.invokevirtual 339, 3) := by decide +kernel
theorem dX12_onsOfPlayer_6 : decode cX12_onsOfPlayer 6 = .ok (.aload_n 0, 1) := by decide +kernel
theorem dX12_onsOfPlayer_7 : decode cX12_onsOfPlayer 7 = .ok (.getfield 26, 3) := by decide +kernel
theorem dX12_onsOfPlayer_10 : decode cX12_onsOfPlayer 10 = .ok (.bipush 12, 2) := by decide +kernel
theorem dX12_onsOfPlayer_12 : decode cX12_onsOfPlayer 12 = .ok (.iaload, 1) := by decide +kernel
theorem dX12_onsOfPlayer_13 : decode cX12_onsOfPlayer 13 = .ok (.invokevirtual 342, 3) := by decide +kernel
theorem dX12_onsOfPlayer_16 : decode cX12_onsOfPlayer 16 = .ok (.ireturn, 1) := by decide +kernel
theorem dX12_bodily_0 : decode cX12_bodily 0 = .ok (.aload_n 0, 1) := by decide +kernel
theorem dX12_bodily_1 : decode cX12_bodily 1 = .ok (.invokevirtual 190, 3) := by decide +kernel
theorem dX12_bodily_4 : decode cX12_bodily 4 = .ok (.aload_n 0, 1) := by decide +kernel
theorem dX12_bodily_5 : decode cX12_bodily 5 = .ok (.iload_n 1, 1) := by decide +kernel
theorem dX12_bodily_6 : decode cX12_bodily 6 = .ok (.invokevirtual 309, 3) := by decide +kernel
theorem dX12_bodily_9 : decode cX12_bodily 9 = .ok (.ifCond .ne 9, 3) := by decide +kernel
theorem dX12_bodily_12 : decode cX12_bodily 12 = .ok (.aload_n 0, 1) := by decide +kernel
theorem dX12_bodily_13 : decode cX12_bodily 13 = .ok (.iconst 1, 1) := by decide +kernel
theorem dX12_bodily_14 : decode cX12_bodily 14 = .ok (.invokevirtual 193, 3) := by decide +kernel
theorem dX12_bodily_17 : decode cX12_bodily 17 = .ok (.ireturn, 1) := by decide +kernel
theorem dX12_bodily_18 : decode cX12_bodily 18 = .ok (.aload_n 0, 1) := by decide +kernel
theorem dX12_bodily_19 : decode cX12_bodily 19 = .ok (.aload_n 0, 1) := by decide +kernel
theorem dX12_bodily_20 : decode cX12_bodily 20 = .ok (.getfield 26, 3) := by decide +kernel
theorem dX12_bodily_23 : decode cX12_bodily 23 = .ok (.invokevirtual 305, 3) := by decide +kernel
theorem dX12_bodily_26 : decode cX12_bodily 26 = .ok (.aload_n 0, 1) := by decide +kernel
theorem dX12_bodily_27 : decode cX12_bodily 27 = .ok (.aload_n 0, 1) := by decide +kernel
theorem dX12_bodily_28 : decode cX12_bodily 28 = .ok (.aload_n 0, 1) := by decide +kernel
theorem dX12_bodily_29 : decode cX12_bodily 29 = .ok (.getfield 26, 3) := by decide +kernel
theorem dX12_bodily_32 : decode cX12_bodily 32 = .ok (.iconst 5, 1) := by decide +kernel
theorem dX12_bodily_33 : decode cX12_bodily 33 = .ok (.aload_n 0, 1) := by decide +kernel
theorem dX12_bodily_34 : decode cX12_bodily 34 = .ok (.iload_n 1, 1) := by decide +kernel
theorem dX12_bodily_35 : decode cX12_bodily 35 = .ok (.iconst 0, 1) := by decide +kernel
theorem dX12_bodily_36 : decode cX12_bodily 36 = .ok (.invokevirtual 302, 3) := by decide +kernel
theorem dX12_bodily_39 : decode cX12_bodily 39 = .ok (.iadd, 1) := by decide +kernel
theorem dX12_bodily_40 : decode cX12_bodily 40 = .ok (.iaload, 1) := by decide +kernel
theorem dX12_bodily_41 : decode cX12_bodily 41 = .ok (.invokevirtual 345, 3) := by decide +kernel
theorem dX12_bodily_44 : decode cX12_bodily 44 = .ok (.invokevirtual 330, 3) := by decide +kernel
theorem dX12_bodily_47 : decode cX12_bodily 47 = .ok (.iload_n 1, 1) := by decide +kernel
theorem dX12_bodily_48 : decode cX12_bodily 48 = .ok (.invokestatic 278, 3) := by decide +kernel
theorem dX12_bodily_51 : decode cX12_bodily 51 = .ok (.ifCond .eq 7, 3) := by decide +kernel
theorem dX12_bodily_54 : decode cX12_bodily 54 = .ok (.iconst 1, 1) := by decide +kernel
theorem dX12_bodily_55 : decode cX12_bodily 55 = .ok (.goto 4, 3) := by decide +kernel
theorem dX12_bodily_58 : decode cX12_bodily 58 = .ok (.iconst 0, 1) := by decide +kernel
theorem dX12_bodily_59 : decode cX12_bodily 59 = .ok (.ireturn, 1) := by decide +kernel
theorem dX12_can_0 : decode cX12_can 0 = .ok (.aload_n 0, 1) := by decide +kernel
theorem dX12_can_1 : decode cX12_can 1 = .ok (.invokevirtual 190, 3) := by decide +kernel
theorem dX12_can_4 : decode cX12_can 4 = .ok (.aload_n 0, 1) := by decide +kernel
theorem dX12_can_5 : decode cX12_can 5 = .ok (.iload_n 1, 1) := by decide +kernel
theorem dX12_can_6 : decode cX12_can 6 = .ok (.invokevirtual 348, 3) := by decide +kernel
theorem dX12_can_9 : decode cX12_can 9 = .ok (.ifCond .ne 9, 3) := by decide +kernel
theorem dX12_can_12 : decode cX12_can 12 = .ok (.aload_n 0, 1) := by decide +kernel
theorem dX12_can_13 : decode cX12_can 13 = .ok (.iconst 1, 1) := by decide +kernel
theorem dX12_can_14 : decode cX12_can 14 = .ok (.invokevirtual 193, 3) := by decide +kernel
theorem dX12_can_17 : decode cX12_can 17 = .ok (.ireturn, 1) := by decide +kernel
theorem dX12_can_18 : decode cX12_can 18 = .ok (.aload_n 0, 1) := by decide +kernel
theorem dX12_can_19 : decode cX12_can 19 = .ok (.aload_n 0, 1) := by decide +kernel
theorem dX12_can_20 : decode cX12_can 20 = .ok (.getfield 26, 3) := by decide +kernel
theorem dX12_can_23 : decode cX12_can 23 = .ok (.invokevirtual 305, 3) := by decide +kernel
theorem dX12_can_26 : decode cX12_can 26 = .ok (.aload_n 0, 1) := by decide +kernel
theorem dX12_can_27 : decode cX12_can 27 = .ok (.aload_n 0, 1) := by decide +kernel
theorem dX12_can_28 : decode cX12_can 28 = .ok (.iload_n 1, 1) := by decide +kernel
theorem dX12_can_29 : decode cX12_can 29 = .ok (.invokevirtual 345, 3) := by decide +kernel
theorem dX12_can_32 : decode cX12_can 32 = .ok (.invokevirtual 351, 3) := by decide +kernel
theorem dX12_can_35 : decode cX12_can 35 = .ok (.ifCond .eq 7, 3) := by decide +kernel
theorem dX12_can_38 : decode cX12_can 38 = .ok (.iconst 1, 1) := by decide +kernel
theorem dX12_can_39 : decode cX12_can 39 = .ok (.goto 4, 3) := by decide +kernel
theorem dX12_can_42 : decode cX12_can 42 = .ok (.iconst 0, 1) := by decide +kernel
theorem dX12_can_43 : decode cX12_can 43 = .ok (.ireturn, 1) := by decide +kernel
theorem dX12_allParts_0 : decode cX12_allParts 0 = .ok (.iconst 1, 1) := by decide +kernel
theorem dX12_allParts_1 : decode cX12_allParts 1 = .ok (.aload_n 0, 1) := by decide +kernel
theorem dX12_allParts_2 : decode cX12_allParts 2 = .ok (.getfield 20, 3) := by decide +kernel
theorem dX12_allParts_5 : decode cX12_allParts 5 = .ok (.iconst 4, 1) := by decide +kernel
theorem dX12_allParts_6 : decode cX12_allParts 6 = .ok (.iaload, 1) := by decide +kernel
theorem dX12_allParts_7 : decode cX12_allParts 7 = .ok (.ishl, 1) := by decide +kernel
theorem dX12_allParts_8 : decode cX12_allParts 8 = .ok (.iconst 1, 1) := by decide +kernel
theorem dX12_allParts_9 : decode cX12_allParts 9 = .ok (.isub, 1) := by decide +kernel
theorem dX12_allParts_10 : decode cX12_allParts 10 = .ok (.ireturn, 1) := by decide +kernel
theorem dX12_could_0 : decode cX12_could 0 = .ok (.aload_n 0, 1) := by decide +kernel
theorem dX12_could_1 : decode cX12_could 1 = .ok (.invokevirtual 190, 3) := by decide +kernel
theorem dX12_could_4 : decode cX12_could 4 = .ok (.aload_n 0, 1) := by decide +kernel
theorem dX12_could_5 : decode cX12_could 5 = .ok (.getfield 203, 3) := by decide +kernel
theorem dX12_could_8 : decode cX12_could 8 = .ok (.ifCond .ne 9, 3) := by decide +kernel
theorem dX12_could_11 : decode cX12_could 11 = .ok (.aload_n 0, 1) := by decide +kernel
theorem dX12_could_12 : decode cX12_could 12 = .ok (.iconst 1, 1) := by decide +kernel
theorem dX12_could_13 : decode cX12_could 13 = .ok (.invokevirtual 193, 3) := by decide +kernel
theorem dX12_could_16 : decode cX12_could 16 = .ok (.ireturn, 1) := by decide +kernel
theorem dX12_could_17 : decode cX12_could 17 = .ok (.iload_n 1, 1) := by decide +kernel
theorem dX12_could_18 : decode cX12_could 18 = .ok (.iconst 0, 1) := by decide +kernel
theorem dX12_could_19 : decode cX12_could 19 = .ok (.aload_n 0, 1) := by decide +kernel
theorem dX12_could_20 : decode cX12_could 20 = .ok (.invokevirtual 354, 3) := by decide +kernel
theorem dX12_could_23 : decode cX12_could 23 = .ok (.invokestatic 174, 3) := by decide +kernel
theorem dX12_could_26 : decode cX12_could 26 = .ok (.ifCond .ne 9, 3) := by decide +kernel
theorem dX12_could_29 : decode cX12_could 29 = .ok (.aload_n 0, 1) := by decide +kernel
theorem dX12_could_30 : decode cX12_could 30 = .ok (.iconst 2, 1) := by decide +kernel
theorem dX12_could_31 : decode cX12_could 31 = .ok (.invokevirtual 193, 3) := by decide +kernel
theorem dX12_could_34 : decode cX12_could 34 = .ok (.ireturn, 1) := by decide +kernel
theorem dX12_could_35 : decode cX12_could 35 = .ok (.aload_n 0, 1) := by decide +kernel
theorem dX12_could_36 : decode cX12_could 36 = .ok (.aload_n 0, 1) := by decide +kernel
theorem dX12_could_37 : decode cX12_could 37 = .ok (.getfield 26, 3) := by decide +kernel
theorem dX12_could_40 : decode cX12_could 40 = .ok (.invokevirtual 305, 3) := by decide +kernel
theorem dX12_could_43 : decode cX12_could 43 = .ok (.aload_n 0, 1) := by decide +kernel
theorem dX12_could_44 : decode cX12_could 44 = .ok (.aload_n 0, 1) := by decide +kernel
theorem dX12_could_45 : decode cX12_could 45 = .ok (.iload_n 1, 1) := by decide +kernel
theorem dX12_could_46 : decode cX12_could 46 = .ok (.aload_n 0, 1) := by decide +kernel
theorem dX12_could_47 : decode cX12_could 47 = .ok (.getfield 26, 3) := by decide +kernel
theorem dX12_could_50 : decode cX12_could 50 = .ok (.bipush 12, 2) := by decide +kernel
theorem dX12_could_52 : decode cX12_could 52 = .ok (.iaload, 1) := by decide +kernel
theorem dX12_could_53 : decode cX12_could 53 = .ok (.invokevirtual 342, 3) := by decide +kernel
theorem dX12_could_56 : decode cX12_could 56 = .ok (.invokevirtual 351, 3) := by decide +kernel
theorem dX12_could_59 : decode cX12_could 59 = .ok (.ifCond .eq 7, 3) := by decide +kernel
theorem dX12_could_62 : decode cX12_could 62 = .ok (.iconst 1, 1) := by decide +kernel
theorem dX12_could_63 : decode cX12_could 63 = .ok (.goto 4, 3) := by decide +kernel
theorem dX12_could_66 : decode cX12_could 66 = .ok (.iconst 0, 1) := by decide +kernel
theorem dX12_could_67 : decode cX12_could 67 = .ok (.ireturn, 1) := by decide +kernel
theorem dX12_troubled_0 : decode cX12_troubled 0 = .ok (.aload_n 0, 1) := by decide +kernel
theorem dX12_troubled_1 : decode cX12_troubled 1 = .ok (.invokevirtual 190, 3) := by decide +kernel
theorem dX12_troubled_4 : decode cX12_troubled 4 = .ok (.aload_n 0, 1) := by decide +kernel
theorem dX12_troubled_5 : decode cX12_troubled 5 = .ok (.getfield 203, 3) := by decide +kernel
theorem dX12_troubled_8 : decode cX12_troubled 8 = .ok (.ifCond .ne 9, 3) := by decide +kernel
theorem dX12_troubled_11 : decode cX12_troubled 11 = .ok (.aload_n 0, 1) := by decide +kernel
theorem dX12_troubled_12 : decode cX12_troubled 12 = .ok (.iconst 1, 1) := by decide +kernel
theorem dX12_troubled_13 : decode cX12_troubled 13 = .ok (.invokevirtual 193, 3) := by decide +kernel
theorem dX12_troubled_16 : decode cX12_troubled 16 = .ok (.ireturn, 1) := by decide +kernel
theorem dX12_troubled_17 : decode cX12_troubled 17 = .ok (.aload_n 0, 1) := by decide +kernel
theorem dX12_troubled_18 : decode cX12_troubled 18 = .ok (.aload_n 0, 1) := by decide +kernel
theorem dX12_troubled_19 : decode cX12_troubled 19 = .ok (.getfield 26, 3) := by decide +kernel
theorem dX12_troubled_22 : decode cX12_troubled 22 = .ok (.invokevirtual 305, 3) := by decide +kernel
theorem dX12_troubled_25 : decode cX12_troubled 25 = .ok (.iconst 0, 1) := by decide +kernel
theorem dX12_troubled_26 : decode cX12_troubled 26 = .ok (.istore_n 1, 1) := by decide +kernel
theorem dX12_troubled_27 : decode cX12_troubled 27 = .ok (.iconst 0, 1) := by decide +kernel
theorem dX12_troubled_28 : decode cX12_troubled 28 = .ok (.istore_n 2, 1) := by decide +kernel
theorem dX12_troubled_29 : decode cX12_troubled 29 = .ok (.iload_n 2, 1) := by decide +kernel
theorem dX12_troubled_30 : decode cX12_troubled 30 = .ok (.aload_n 0, 1) := by decide +kernel
theorem dX12_troubled_31 : decode cX12_troubled 31 = .ok (.getfield 20, 3) := by decide +kernel
theorem dX12_troubled_34 : decode cX12_troubled 34 = .ok (.bipush 7, 2) := by decide +kernel
theorem dX12_troubled_36 : decode cX12_troubled 36 = .ok (.iaload, 1) := by decide +kernel
theorem dX12_troubled_37 : decode cX12_troubled 37 = .ok (.if_icmp .ge 67, 3) := by decide +kernel
theorem dX12_troubled_40 : decode cX12_troubled 40 = .ok (.aload_n 0, 1) := by decide +kernel
theorem dX12_troubled_41 : decode cX12_troubled 41 = .ok (.getfield 53, 3) := by decide +kernel
theorem dX12_troubled_44 : decode cX12_troubled 44 = .ok (.iload_n 2, 1) := by decide +kernel
theorem dX12_troubled_45 : decode cX12_troubled 45 = .ok (.iaload, 1) := by decide +kernel
theorem dX12_troubled_46 : decode cX12_troubled 46 = .ok (.istore_n 3, 1) := by decide +kernel
theorem dX12_troubled_47 : decode cX12_troubled 47 = .ok (.aload_n 0, 1) := by decide +kernel
theorem dX12_troubled_48 : decode cX12_troubled 48 = .ok (.getfield 26, 3) := by decide +kernel
theorem dX12_troubled_51 : decode cX12_troubled 51 = .ok (.bipush 12, 2) := by decide +kernel
theorem dX12_troubled_53 : decode cX12_troubled 53 = .ok (.iaload, 1) := by decide +kernel
theorem dX12_troubled_54 : decode cX12_troubled 54 = .ok (.iload_n 3, 1) := by decide +kernel
theorem dX12_troubled_55 : decode cX12_troubled 55 = .ok (.invokestatic 278, 3) := by decide +kernel
theorem dX12_troubled_58 : decode cX12_troubled 58 = .ok (.ifCond .eq 6, 3) := by decide +kernel
theorem dX12_troubled_61 : decode cX12_troubled 61 = .ok (.goto 37, 3) := by decide +kernel
theorem dX12_troubled_64 : decode cX12_troubled 64 = .ok (.iload_n 1, 1) := by decide +kernel
theorem dX12_troubled_65 : decode cX12_troubled 65 = .ok (.iconst 1, 1) := by decide +kernel
theorem dX12_troubled_66 : decode cX12_troubled 66 = .ok (.iload_n 3, 1) := by decide +kernel
theorem dX12_troubled_67 : decode cX12_troubled 67 = .ok (.ishl, 1) := by decide +kernel
theorem dX12_troubled_68 : decode cX12_troubled 68 = .ok (.ior, 1) := by decide +kernel
theorem dX12_troubled_69 : decode cX12_troubled 69 = .ok (.istore_n 1, 1) := by decide +kernel
theorem dX12_troubled_70 : decode cX12_troubled 70 = .ok (.aload_n 0, 1) := by decide +kernel
theorem dX12_troubled_71 : decode cX12_troubled 71 = .ok (.iload_n 1, 1) := by decide +kernel
theorem dX12_troubled_72 : decode cX12_troubled 72 = .ok (.aload_n 0, 1) := by decide +kernel
theorem dX12_troubled_73 : decode cX12_troubled 73 = .ok (.aload_n 0, 1) := by decide +kernel
theorem dX12_troubled_74 : decode cX12_troubled 74 = .ok (.getfield 26, 3) := by decide +kernel
theorem dX12_troubled_77 : decode cX12_troubled 77 = .ok (.iconst 5, 1) := by decide +kernel
theorem dX12_troubled_78 : decode cX12_troubled 78 = .ok (.aload_n 0, 1) := by decide +kernel
theorem dX12_troubled_79 : decode cX12_troubled 79 = .ok (.iload_n 3, 1) := by decide +kernel
theorem dX12_troubled_80 : decode cX12_troubled 80 = .ok (.iconst 0, 1) := by decide +kernel
theorem dX12_troubled_81 : decode cX12_troubled 81 = .ok (.invokevirtual 302, 3) := by decide +kernel
theorem dX12_troubled_84 : decode cX12_troubled 84 = .ok (.iadd, 1) := by decide +kernel
theorem dX12_troubled_85 : decode cX12_troubled 85 = .ok (.iaload, 1) := by decide +kernel
theorem dX12_troubled_86 : decode cX12_troubled 86 = .ok (.invokevirtual 345, 3) := by decide +kernel
theorem dX12_troubled_89 : decode cX12_troubled 89 = .ok (.iand, 1) := by decide +kernel
theorem dX12_troubled_90 : decode cX12_troubled 90 = .ok (.invokevirtual 351, 3) := by decide +kernel
theorem dX12_troubled_93 : decode cX12_troubled 93 = .ok (.ifCond .ne 5, 3) := by decide +kernel
theorem dX12_troubled_96 : decode cX12_troubled 96 = .ok (.iload_n 3, 1) := by decide +kernel
theorem dX12_troubled_97 : decode cX12_troubled 97 = .ok (.ireturn, 1) := by decide +kernel
theorem dX12_troubled_98 : decode cX12_troubled 98 = .ok (.iinc 2 1, 3) := by decide +kernel
theorem dX12_troubled_101 : decode cX12_troubled 101 = .ok (.goto (-72), 3) := by decide +kernel
theorem dX12_troubled_104 : decode cX12_troubled 104 = .ok (.bipush (-2), 2) := by decide +kernel
theorem dX12_troubled_106 : decode cX12_troubled 106 = .ok (.ireturn, 1) := by decide +kernel
theorem dX12_slack_0 : decode cX12_slack 0 = .ok (.aload_n 0, 1) := by decide +kernel
theorem dX12_slack_1 : decode cX12_slack 1 = .ok (.invokevirtual 190, 3) := by decide +kernel
theorem dX12_slack_4 : decode cX12_slack 4 = .ok (.aload_n 0, 1) := by decide +kernel
theorem dX12_slack_5 : decode cX12_slack 5 = .ok (.iload_n 1, 1) := by decide +kernel
theorem dX12_slack_6 : decode cX12_slack 6 = .ok (.invokevirtual 348, 3) := by decide +kernel
theorem dX12_slack_9 : decode cX12_slack 9 = .ok (.ifCond .ne 12, 3) := by decide +kernel
theorem dX12_slack_12 : decode cX12_slack 12 = .ok (.aload_n 0, 1) := by decide +kernel
theorem dX12_slack_13 : decode cX12_slack 13 = .ok (.iconst 1, 1) := by decide +kernel
theorem dX12_slack_14 : decode cX12_slack 14 = .ok (.putfield 84, 3) := by decide +kernel
theorem dX12_slack_17 : decode cX12_slack 17 = .ok (.sipush (-1000), 3) := by decide +kernel
theorem dX12_slack_20 : decode cX12_slack 20 = .ok (.ireturn, 1) := by decide +kernel
theorem dX12_slack_21 : decode cX12_slack 21 = .ok (.aload_n 0, 1) := by decide +kernel
theorem dX12_slack_22 : decode cX12_slack 22 = .ok (.aload_n 0, 1) := by decide +kernel
theorem dX12_slack_23 : decode cX12_slack 23 = .ok (.getfield 26, 3) := by decide +kernel
theorem dX12_slack_26 : decode cX12_slack 26 = .ok (.invokevirtual 305, 3) := by decide +kernel
theorem dX12_slack_29 : decode cX12_slack 29 = .ok (.aload_n 0, 1) := by decide +kernel
theorem dX12_slack_30 : decode cX12_slack 30 = .ok (.aload_n 0, 1) := by decide +kernel
theorem dX12_slack_31 : decode cX12_slack 31 = .ok (.iload_n 1, 1) := by decide +kernel
theorem dX12_slack_32 : decode cX12_slack 32 = .ok (.invokevirtual 345, 3) := by decide +kernel
theorem dX12_slack_35 : decode cX12_slack 35 = .ok (.invokevirtual 330, 3) := by decide +kernel
theorem dX12_slack_38 : decode cX12_slack 38 = .ok (.istore_n 2, 1) := by decide +kernel
theorem dX12_slack_39 : decode cX12_slack 39 = .ok (.iconst (-1), 1) := by decide +kernel
theorem dX12_slack_40 : decode cX12_slack 40 = .ok (.istore_n 3, 1) := by decide +kernel
theorem dX12_slack_41 : decode cX12_slack 41 = .ok (.sipush 999, 3) := by decide +kernel
theorem dX12_slack_44 : decode cX12_slack 44 = .ok (.istore 4, 2) := by decide +kernel
theorem dX12_slack_46 : decode cX12_slack 46 = .ok (.iconst 0, 1) := by decide +kernel
theorem dX12_slack_47 : decode cX12_slack 47 = .ok (.istore 5, 2) := by decide +kernel
theorem dX12_slack_49 : decode cX12_slack 49 = .ok (.iconst 0, 1) := by decide +kernel
theorem dX12_slack_50 : decode cX12_slack 50 = .ok (.istore 6, 2) := by decide +kernel
theorem dX12_slack_52 : decode cX12_slack 52 = .ok (.iload 6, 2) := by decide +kernel
theorem dX12_slack_54 : decode cX12_slack 54 = .ok (.aload_n 0, 1) := by decide +kernel
theorem dX12_slack_55 : decode cX12_slack 55 = .ok (.getfield 20, 3) := by decide +kernel
theorem dX12_slack_58 : decode cX12_slack 58 = .ok (.bipush 7, 2) := by decide +kernel
theorem dX12_slack_60 : decode cX12_slack 60 = .ok (.iaload, 1) := by decide +kernel
theorem dX12_slack_61 : decode cX12_slack 61 = .ok (.if_icmp .ge 101, 3) := by decide +kernel
theorem dX12_slack_64 : decode cX12_slack 64 = .ok (.aload_n 0, 1) := by decide +kernel
theorem dX12_slack_65 : decode cX12_slack 65 = .ok (.getfield 53, 3) := by decide +kernel
theorem dX12_slack_68 : decode cX12_slack 68 = .ok (.iload 6, 2) := by decide +kernel
theorem dX12_slack_70 : decode cX12_slack 70 = .ok (.iaload, 1) := by decide +kernel
theorem dX12_slack_71 : decode cX12_slack 71 = .ok (.istore 7, 2) := by decide +kernel
theorem dX12_slack_73 : decode cX12_slack 73 = .ok (.iload_n 2, 1) := by decide +kernel
theorem dX12_slack_74 : decode cX12_slack 74 = .ok (.iload 7, 2) := by decide +kernel
theorem dX12_slack_76 : decode cX12_slack 76 = .ok (.invokestatic 278, 3) := by decide +kernel
theorem dX12_slack_79 : decode cX12_slack 79 = .ok (.ifCond .ne 6, 3) := by decide +kernel
theorem dX12_slack_82 : decode cX12_slack 82 = .ok (.goto 74, 3) := by decide +kernel
theorem dX12_slack_85 : decode cX12_slack 85 = .ok (.iload_n 3, 1) := by decide +kernel
theorem dX12_slack_86 : decode cX12_slack 86 = .ok (.ifCond .ge 7, 3) := by decide +kernel
theorem dX12_slack_89 : decode cX12_slack 89 = .ok (.iconst 0, 1) := by decide +kernel
theorem dX12_slack_90 : decode cX12_slack 90 = .ok (.goto 25, 3) := by decide +kernel
theorem dX12_slack_93 : decode cX12_slack 93 = .ok (.aload_n 0, 1) := by decide +kernel
theorem dX12_slack_94 : decode cX12_slack 94 = .ok (.getfield 47, 3) := by decide +kernel
theorem dX12_slack_97 : decode cX12_slack 97 = .ok (.iload 7, 2) := by decide +kernel
theorem dX12_slack_99 : decode cX12_slack 99 = .ok (.iaload, 1) := by decide +kernel
theorem dX12_slack_100 : decode cX12_slack 100 = .ok (.aload_n 0, 1) := by decide +kernel
theorem dX12_slack_101 : decode cX12_slack 101 = .ok (.getfield 50, 3) := by decide +kernel
theorem dX12_slack_104 : decode cX12_slack 104 = .ok (.iload_n 3, 1) := by decide +kernel
theorem dX12_slack_105 : decode cX12_slack 105 = .ok (.iaload, 1) := by decide +kernel
theorem dX12_slack_106 : decode cX12_slack 106 = .ok (.isub, 1) := by decide +kernel
theorem dX12_slack_107 : decode cX12_slack 107 = .ok (.aload_n 0, 1) := by decide +kernel
theorem dX12_slack_108 : decode cX12_slack 108 = .ok (.iload_n 3, 1) := by decide +kernel
theorem dX12_slack_109 : decode cX12_slack 109 = .ok (.iload 7, 2) := by decide +kernel
theorem dX12_slack_111 : decode cX12_slack 111 = .ok (.invokevirtual 321, 3) := by decide +kernel
