theorem dX_source_0 : decode bX_source 0 = .ok (.aload_n 0, 1) := by decide +kernel
theorem dX_source_1 : decode bX_source 1 = .ok (.getfield 46, 3) := by decide +kernel
theorem dX_source_4 : decode bX_source 4 = .ok (.bipush 16, 2) := by decide +kernel
theorem dX_source_6 : decode bX_source 6 = .ok (.if_icmp .lt 13, 3) := by decide +kernel
theorem dX_source_19 : decode bX_source 19 = .ok (.aload_n 0, 1) := by decide +kernel
theorem dX_source_20 : decode bX_source 20 = .ok (.getfield 46, 3) := by decide +kernel
theorem dX_source_23 : decode bX_source 23 = .ok (.istore_n 1, 1) := by decide +kernel
theorem dX_source_24 : decode bX_source 24 = .ok (.aload_n 0, 1) := by decide +kernel
theorem dX_source_25 : decode bX_source 25 = .ok (.dup, 1) := by decide +kernel
theorem dX_source_26 : decode bX_source 26 = .ok (.getfield 46, 3) := by decide +kernel
theorem dX_source_29 : decode bX_source 29 = .ok (.iconst 1, 1) := by decide +kernel
theorem dX_source_30 : decode bX_source 30 = .ok (.iadd, 1) := by decide +kernel
theorem dX_source_31 : decode bX_source 31 = .ok (.putfield 46, 3) := by decide +kernel
theorem dX_source_34 : decode bX_source 34 = .ok (.aload_n 0, 1) := by decide +kernel
theorem dX_source_35 : decode bX_source 35 = .ok (.iconst 0, 1) := by decide +kernel
theorem dX_source_36 : decode bX_source 36 = .ok (.putfield 50, 3) := by decide +kernel
theorem dX_source_39 : decode bX_source 39 = .ok (.iload_n 1, 1) := by decide +kernel
theorem dX_source_40 : decode bX_source 40 = .ok (.ireturn, 1) := by decide +kernel
theorem dX_source_9 : decode bX_source 9 = .ok (.new 54, 3) := by decide +kernel
theorem dX_source_12 : decode bX_source 12 = .ok (.dup, 1) := by decide +kernel
theorem dX_source_13 : decode bX_source 13 = .ok (.ldc 56, 2) := by decide +kernel
theorem dX_source_15 : decode bX_source 15 = .ok (.invokespecial 58, 3) := by decide +kernel
theorem dX_source_18 : decode bX_source 18 = .ok (.athrow, 1) := by decide +kernel
theorem dX_event_0 : decode bX_event 0 = .ok (.aload_n 0, 1) := by decide +kernel
theorem dX_event_1 : decode bX_event 1 = .ok (.iload_n 1, 1) := by decide +kernel
theorem dX_event_2 : decode bX_event 2 = .ok (.invokevirtual 61, 3) := by decide +kernel
theorem dX_checkSource_0 : decode bX_checkSource 0 = .ok (.iload_n 1, 1) := by decide +kernel
theorem dX_checkSource_1 : decode bX_checkSource 1 = .ok (.ifCond .lt 11, 3) := by decide +kernel
theorem dX_checkSource_12 : decode bX_checkSource 12 = .ok (.new 153, 3) := by decide +kernel
theorem dX_checkSource_15 : decode bX_checkSource 15 = .ok (.dup, 1) := by decide +kernel
theorem dX_checkSource_16 : decode bX_checkSource 16 = .ok (.ldc 184, 2) := by decide +kernel
theorem dX_checkSource_18 : decode bX_checkSource 18 = .ok (.invokespecial 157, 3) := by decide +kernel
theorem dX_checkSource_21 : decode bX_checkSource 21 = .ok (.athrow, 1) := by decide +kernel
theorem dX_checkSource_4 : decode bX_checkSource 4 = .ok (.iload_n 1, 1) := by decide +kernel
theorem dX_checkSource_5 : decode bX_checkSource 5 = .ok (.aload_n 0, 1) := by decide +kernel
theorem dX_checkSource_6 : decode bX_checkSource 6 = .ok (.getfield 46, 3) := by decide +kernel
theorem dX_checkSource_9 : decode bX_checkSource 9 = .ok (.if_icmp .lt 13, 3) := by decide +kernel
theorem dX_checkSource_22 : decode bX_checkSource 22 = .ok (.return_, 1) := by decide +kernel
theorem dX_event_5 : decode bX_event 5 = .ok (.iload_n 2, 1) := by decide +kernel
theorem dX_event_6 : decode bX_event 6 = .ok (.invokestatic 65, 3) := by decide +kernel
theorem dX_checkItem_0 : decode bX_checkItem 0 = .ok (.iload_n 0, 1) := by decide +kernel
theorem dX_checkItem_1 : decode bX_checkItem 1 = .ok (.ifCond .lt 10, 3) := by decide +kernel
theorem dX_checkItem_11 : decode bX_checkItem 11 = .ok (.new 153, 3) := by decide +kernel
theorem dX_checkItem_14 : decode bX_checkItem 14 = .ok (.dup, 1) := by decide +kernel
theorem dX_checkItem_15 : decode bX_checkItem 15 = .ok (.ldc 193, 2) := by decide +kernel
theorem dX_checkItem_17 : decode bX_checkItem 17 = .ok (.invokespecial 157, 3) := by decide +kernel
theorem dX_checkItem_20 : decode bX_checkItem 20 = .ok (.athrow, 1) := by decide +kernel
theorem dX_checkItem_4 : decode bX_checkItem 4 = .ok (.iload_n 0, 1) := by decide +kernel
theorem dX_checkItem_5 : decode bX_checkItem 5 = .ok (.sipush 200, 3) := by decide +kernel
theorem dX_checkItem_8 : decode bX_checkItem 8 = .ok (.if_icmp .lt 13, 3) := by decide +kernel
theorem dX_checkItem_21 : decode bX_checkItem 21 = .ok (.return_, 1) := by decide +kernel
theorem dX_event_9 : decode bX_event 9 = .ok (.iload_n 2, 1) := by decide +kernel
theorem dX_event_10 : decode bX_event 10 = .ok (.iload_n 3, 1) := by decide +kernel
theorem dX_event_11 : decode bX_event 11 = .ok (.iload 4, 2) := by decide +kernel
theorem dX_event_13 : decode bX_event 13 = .ok (.invokestatic 68, 3) := by decide +kernel
theorem dX_checkKindAndPlace_0 : decode bX_checkKindAndPlace 0 = .ok (.iload_n 1, 1) := by decide +kernel
theorem dX_checkKindAndPlace_1 : decode bX_checkKindAndPlace 1 = .ok (.ifCond .lt 9, 3) := by decide +kernel
theorem dX_checkKindAndPlace_10 : decode bX_checkKindAndPlace 10 = .ok (.new 92, 3) := by decide +kernel
theorem dX_checkKindAndPlace_13 : decode bX_checkKindAndPlace 13 = .ok (.dup, 1) := by decide +kernel
theorem dX_checkKindAndPlace_14 : decode bX_checkKindAndPlace 14 = .ok (.ldc 195, 2) := by decide +kernel
theorem dX_checkKindAndPlace_16 : decode bX_checkKindAndPlace 16 = .ok (.invokespecial 96, 3) := by decide +kernel
theorem dX_checkKindAndPlace_19 : decode bX_checkKindAndPlace 19 = .ok (.athrow, 1) := by decide +kernel
theorem dX_checkKindAndPlace_4 : decode bX_checkKindAndPlace 4 = .ok (.iload_n 1, 1) := by decide +kernel
theorem dX_checkKindAndPlace_5 : decode bX_checkKindAndPlace 5 = .ok (.bipush 8, 2) := by decide +kernel
theorem dX_checkKindAndPlace_7 : decode bX_checkKindAndPlace 7 = .ok (.if_icmp .lt 13, 3) := by decide +kernel
theorem dX_checkKindAndPlace_20 : decode bX_checkKindAndPlace 20 = .ok (.iload_n 2, 1) := by decide +kernel
theorem dX_checkKindAndPlace_21 : decode bX_checkKindAndPlace 21 = .ok (.ifCond .lt 10, 3) := by decide +kernel
theorem dX_checkKindAndPlace_31 : decode bX_checkKindAndPlace 31 = .ok (.new 92, 3) := by decide +kernel
theorem dX_checkKindAndPlace_34 : decode bX_checkKindAndPlace 34 = .ok (.dup, 1) := by decide +kernel
theorem dX_checkKindAndPlace_35 : decode bX_checkKindAndPlace 35 = .ok (.ldc 197, 2) := by decide +kernel
theorem dX_checkKindAndPlace_37 : decode bX_checkKindAndPlace 37 = .ok (.invokespecial 96, 3) := by decide +kernel
theorem dX_checkKindAndPlace_40 : decode bX_checkKindAndPlace 40 = .ok (.athrow, 1) := by decide +kernel
theorem dX_checkKindAndPlace_24 : decode bX_checkKindAndPlace 24 = .ok (.iload_n 2, 1) := by decide +kernel
theorem dX_checkKindAndPlace_25 : decode bX_checkKindAndPlace 25 = .ok (.sipush 200, 3) := by decide +kernel
theorem dX_checkKindAndPlace_28 : decode bX_checkKindAndPlace 28 = .ok (.if_icmp .lt 13, 3) := by decide +kernel
theorem dX_checkKindAndPlace_41 : decode bX_checkKindAndPlace 41 = .ok (.iload_n 1, 1) := by decide +kernel
theorem dX_checkKindAndPlace_42 : decode bX_checkKindAndPlace 42 = .ok (.iconst 1, 1) := by decide +kernel
theorem dX_checkKindAndPlace_43 : decode bX_checkKindAndPlace 43 = .ok (.if_icmp .eq 8, 3) := by decide +kernel
theorem dX_checkKindAndPlace_51 : decode bX_checkKindAndPlace 51 = .ok (.iload_n 0, 1) := by decide +kernel
theorem dX_checkKindAndPlace_52 : decode bX_checkKindAndPlace 52 = .ok (.invokestatic 150, 3) := by decide +kernel
theorem dX_isBag_0 : decode bX_isBag 0 = .ok (.iload_n 0, 1) := by decide +kernel
theorem dX_isBag_1 : decode bX_isBag 1 = .ok (.bipush 100, 2) := by decide +kernel
theorem dX_isBag_3 : decode bX_isBag 3 = .ok (.if_icmp .lt 14, 3) := by decide +kernel
theorem dX_isBag_17 : decode bX_isBag 17 = .ok (.iconst 0, 1) := by decide +kernel
theorem dX_isBag_18 : decode bX_isBag 18 = .ok (.ireturn, 1) := by decide +kernel
theorem dX_isBag_6 : decode bX_isBag 6 = .ok (.iload_n 0, 1) := by decide +kernel
theorem dX_isBag_7 : decode bX_isBag 7 = .ok (.sipush 200, 3) := by decide +kernel
theorem dX_isBag_10 : decode bX_isBag 10 = .ok (.if_icmp .ge 7, 3) := by decide +kernel
theorem dX_isBag_13 : decode bX_isBag 13 = .ok (.iconst 1, 1) := by decide +kernel
theorem dX_isBag_14 : decode bX_isBag 14 = .ok (.goto 4, 3) := by decide +kernel
theorem dX_checkKindAndPlace_55 : decode bX_checkKindAndPlace 55 = .ok (.ifCond .ne 10, 3) := by decide +kernel
theorem dX_checkKindAndPlace_65 : decode bX_checkKindAndPlace 65 = .ok (.new 92, 3) := by decide +kernel
theorem dX_checkKindAndPlace_68 : decode bX_checkKindAndPlace 68 = .ok (.dup, 1) := by decide +kernel
theorem dX_checkKindAndPlace_69 : decode bX_checkKindAndPlace 69 = .ok (.ldc 199, 2) := by decide +kernel
theorem dX_checkKindAndPlace_71 : decode bX_checkKindAndPlace 71 = .ok (.invokespecial 96, 3) := by decide +kernel
theorem dX_checkKindAndPlace_74 : decode bX_checkKindAndPlace 74 = .ok (.athrow, 1) := by decide +kernel
theorem dX_checkKindAndPlace_58 : decode bX_checkKindAndPlace 58 = .ok (.iload_n 2, 1) := by decide +kernel
theorem dX_checkKindAndPlace_59 : decode bX_checkKindAndPlace 59 = .ok (.invokestatic 150, 3) := by decide +kernel
theorem dX_checkKindAndPlace_62 : decode bX_checkKindAndPlace 62 = .ok (.ifCond .ne 13, 3) := by decide +kernel
theorem dX_checkKindAndPlace_75 : decode bX_checkKindAndPlace 75 = .ok (.return_, 1) := by decide +kernel
theorem dX_checkKindAndPlace_46 : decode bX_checkKindAndPlace 46 = .ok (.iload_n 1, 1) := by decide +kernel
theorem dX_checkKindAndPlace_47 : decode bX_checkKindAndPlace 47 = .ok (.iconst 2, 1) := by decide +kernel
theorem dX_checkKindAndPlace_48 : decode bX_checkKindAndPlace 48 = .ok (.if_icmp .ne 27, 3) := by decide +kernel
theorem dX_event_16 : decode bX_event 16 = .ok (.lload 5, 2) := by decide +kernel
theorem dX_event_18 : decode bX_event 18 = .ok (.invokestatic 72, 3) := by decide +kernel
theorem dX_checkClock_0 : decode bX_checkClock 0 = .ok (.lload_n 0, 1) := by decide +kernel
theorem dX_checkClock_1 : decode bX_checkClock 1 = .ok (.ldc2_w 201, 3) := by decide +kernel
theorem dX_checkClock_4 : decode bX_checkClock 4 = .ok (.lcmp, 1) := by decide +kernel
theorem dX_checkClock_5 : decode bX_checkClock 5 = .ok (.ifCond .lt 11, 3) := by decide +kernel
theorem dX_checkClock_16 : decode bX_checkClock 16 = .ok (.new 92, 3) := by decide +kernel
theorem dX_checkClock_19 : decode bX_checkClock 19 = .ok (.dup, 1) := by decide +kernel
theorem dX_checkClock_20 : decode bX_checkClock 20 = .ok (.ldc 205, 2) := by decide +kernel
theorem dX_checkClock_22 : decode bX_checkClock 22 = .ok (.invokespecial 96, 3) := by decide +kernel
theorem dX_checkClock_25 : decode bX_checkClock 25 = .ok (.athrow, 1) := by decide +kernel
theorem dX_checkClock_8 : decode bX_checkClock 8 = .ok (.lload_n 0, 1) := by decide +kernel
theorem dX_checkClock_9 : decode bX_checkClock 9 = .ok (.ldc2_w 203, 3) := by decide +kernel
theorem dX_checkClock_12 : decode bX_checkClock 12 = .ok (.lcmp, 1) := by decide +kernel
theorem dX_checkClock_13 : decode bX_checkClock 13 = .ok (.ifCond .le 13, 3) := by decide +kernel
theorem dX_checkClock_26 : decode bX_checkClock 26 = .ok (.return_, 1) := by decide +kernel
theorem dX_event_21 : decode bX_event 21 = .ok (.aload_n 0, 1) := by decide +kernel
theorem dX_event_22 : decode bX_event 22 = .ok (.getfield 12, 3) := by decide +kernel
theorem dX_event_25 : decode bX_event 25 = .ok (.iload_n 1, 1) := by decide +kernel
theorem dX_event_26 : decode bX_event 26 = .ok (.iload_n 2, 1) := by decide +kernel
theorem dX_event_27 : decode bX_event 27 = .ok (.iload_n 3, 1) := by decide +kernel
theorem dX_event_28 : decode bX_event 28 = .ok (.iload 4, 2) := by decide +kernel
theorem dX_event_30 : decode bX_event 30 = .ok (.lload 5, 2) := by decide +kernel
theorem dX_event_32 : decode bX_event 32 = .ok (.invokevirtual 76, 3) := by decide +kernel
theorem dX_event_35 : decode bX_event 35 = .ok (.ifCond .eq 5, 3) := by decide +kernel
theorem dX_event_40 : decode bX_event 40 = .ok (.aload_n 0, 1) := by decide +kernel
theorem dX_event_41 : decode bX_event 41 = .ok (.getfield 12, 3) := by decide +kernel
theorem dX_event_44 : decode bX_event 44 = .ok (.getfield 80, 3) := by decide +kernel
theorem dX_event_47 : decode bX_event 47 = .ok (.sipush 300, 3) := by decide +kernel
theorem dX_event_50 : decode bX_event 50 = .ok (.if_icmp .lt 13, 3) := by decide +kernel
theorem dX_event_63 : decode bX_event 63 = .ok (.aload_n 0, 1) := by decide +kernel
theorem dX_event_64 : decode bX_event 64 = .ok (.iconst 0, 1) := by decide +kernel
theorem dX_event_65 : decode bX_event 65 = .ok (.putfield 50, 3) := by decide +kernel
theorem dX_event_68 : decode bX_event 68 = .ok (.aload_n 0, 1) := by decide +kernel
theorem dX_event_69 : decode bX_event 69 = .ok (.getfield 12, 3) := by decide +kernel
theorem dX_event_72 : decode bX_event 72 = .ok (.iload_n 1, 1) := by decide +kernel
theorem dX_event_73 : decode bX_event 73 = .ok (.iload_n 2, 1) := by decide +kernel
theorem dX_event_74 : decode bX_event 74 = .ok (.iload_n 3, 1) := by decide +kernel
theorem dX_event_75 : decode bX_event 75 = .ok (.iload 4, 2) := by decide +kernel
theorem dX_event_77 : decode bX_event 77 = .ok (.lload 5, 2) := by decide +kernel
theorem dX_event_79 : decode bX_event 79 = .ok (.invokevirtual 85, 3) := by decide +kernel
theorem dX_event_82 : decode bX_event 82 = .ok (.ireturn, 1) := by decide +kernel
theorem dX_event_53 : decode bX_event 53 = .ok (.new 54, 3) := by decide +kernel
theorem dX_event_56 : decode bX_event 56 = .ok (.dup, 1) := by decide +kernel
theorem dX_event_57 : decode bX_event 57 = .ok (.ldc 83, 2) := by decide +kernel
theorem dX_event_59 : decode bX_event 59 = .ok (.invokespecial 58, 3) := by decide +kernel
theorem dX_event_62 : decode bX_event 62 = .ok (.athrow, 1) := by decide +kernel
theorem dX_event_38 : decode bX_event 38 = .ok (.iconst 0, 1) := by decide +kernel
theorem dX_event_39 : decode bX_event 39 = .ok (.ireturn, 1) := by decide +kernel
theorem dX_need_0 : decode bX_need 0 = .ok (.aload_n 0, 1) := by decide +kernel
theorem dX_need_1 : decode bX_need 1 = .ok (.iload_n 1, 1) := by decide +kernel
theorem dX_need_2 : decode bX_need 2 = .ok (.invokevirtual 89, 3) := by decide +kernel
theorem dX_checkEvent_0 : decode bX_checkEvent 0 = .ok (.iload_n 1, 1) := by decide +kernel
theorem dX_checkEvent_1 : decode bX_checkEvent 1 = .ok (.iconst 1, 1) := by decide +kernel
theorem dX_checkEvent_2 : decode bX_checkEvent 2 = .ok (.if_icmp .lt 14, 3) := by decide +kernel
theorem dX_checkEvent_16 : decode bX_checkEvent 16 = .ok (.new 153, 3) := by decide +kernel
theorem dX_checkEvent_19 : decode bX_checkEvent 19 = .ok (.dup, 1) := by decide +kernel
theorem dX_checkEvent_20 : decode bX_checkEvent 20 = .ok (.ldc 186, 2) := by decide +kernel
theorem dX_checkEvent_22 : decode bX_checkEvent 22 = .ok (.invokespecial 157, 3) := by decide +kernel
theorem dX_checkEvent_25 : decode bX_checkEvent 25 = .ok (.athrow, 1) := by decide +kernel
theorem dX_checkEvent_5 : decode bX_checkEvent 5 = .ok (.iload_n 1, 1) := by decide +kernel
theorem dX_checkEvent_6 : decode bX_checkEvent 6 = .ok (.aload_n 0, 1) := by decide +kernel
theorem dX_checkEvent_7 : decode bX_checkEvent 7 = .ok (.getfield 12, 3) := by decide +kernel
theorem dX_checkEvent_10 : decode bX_checkEvent 10 = .ok (.getfield 80, 3) := by decide +kernel
theorem dX_checkEvent_13 : decode bX_checkEvent 13 = .ok (.if_icmp .le 13, 3) := by decide +kernel
theorem dX_checkEvent_26 : decode bX_checkEvent 26 = .ok (.return_, 1) := by decide +kernel
theorem dX_need_5 : decode bX_need 5 = .ok (.aload_n 0, 1) := by decide +kernel
theorem dX_need_6 : decode bX_need 6 = .ok (.iload_n 2, 1) := by decide +kernel
theorem dX_need_7 : decode bX_need 7 = .ok (.invokevirtual 89, 3) := by decide +kernel
theorem dX_need_10 : decode bX_need 10 = .ok (.iload_n 1, 1) := by decide +kernel
theorem dX_need_11 : decode bX_need 11 = .ok (.iload_n 2, 1) := by decide +kernel
theorem dX_need_12 : decode bX_need 12 = .ok (.if_icmp .ne 13, 3) := by decide +kernel
theorem dX_need_25 : decode bX_need 25 = .ok (.aload_n 0, 1) := by decide +kernel
theorem dX_need_26 : decode bX_need 26 = .ok (.getfield 21, 3) := by decide +kernel
theorem dX_need_29 : decode bX_need 29 = .ok (.getfield 97, 3) := by decide +kernel
theorem dX_need_32 : decode bX_need 32 = .ok (.sipush 300, 3) := by decide +kernel
theorem dX_need_35 : decode bX_need 35 = .ok (.if_icmp .lt 13, 3) := by decide +kernel
theorem dX_need_48 : decode bX_need 48 = .ok (.aload_n 0, 1) := by decide +kernel
theorem dX_need_49 : decode bX_need 49 = .ok (.iconst 0, 1) := by decide +kernel
theorem dX_need_50 : decode bX_need 50 = .ok (.putfield 50, 3) := by decide +kernel
theorem dX_need_53 : decode bX_need 53 = .ok (.aload_n 0, 1) := by decide +kernel
theorem dX_need_54 : decode bX_need 54 = .ok (.getfield 21, 3) := by decide +kernel
theorem dX_need_57 : decode bX_need 57 = .ok (.iload_n 1, 1) := by decide +kernel
theorem dX_need_58 : decode bX_need 58 = .ok (.iload_n 2, 1) := by decide +kernel
theorem dX_need_59 : decode bX_need 59 = .ok (.invokevirtual 100, 3) := by decide +kernel
theorem dX_need_62 : decode bX_need 62 = .ok (.ireturn, 1) := by decide +kernel
theorem dX_need_38 : decode bX_need 38 = .ok (.new 54, 3) := by decide +kernel
theorem dX_need_41 : decode bX_need 41 = .ok (.dup, 1) := by decide +kernel
theorem dX_need_42 : decode bX_need 42 = .ok (.ldc 98, 2) := by decide +kernel
theorem dX_need_44 : decode bX_need 44 = .ok (.invokespecial 58, 3) := by decide +kernel
theorem dX_need_47 : decode bX_need 47 = .ok (.athrow, 1) := by decide +kernel
theorem dX_need_15 : decode bX_need 15 = .ok (.new 92, 3) := by decide +kernel
theorem dX_need_18 : decode bX_need 18 = .ok (.dup, 1) := by decide +kernel
theorem dX_need_19 : decode bX_need 19 = .ok (.ldc 94, 2) := by decide +kernel
theorem dX_need_21 : decode bX_need 21 = .ok (.invokespecial 96, 3) := by decide +kernel
theorem dX_need_24 : decode bX_need 24 = .ok (.athrow, 1) := by decide +kernel
theorem dX_settle_0 : decode bX_settle 0 = .ok (.aload_n 0, 1) := by decide +kernel
theorem dX_settle_1 : decode bX_settle 1 = .ok (.getfield 28, 3) := by decide +kernel
theorem dX_settle_4 : decode bX_settle 4 = .ok (.aload_n 0, 1) := by decide +kernel
theorem dX_settle_5 : decode bX_settle 5 = .ok (.getfield 46, 3) := by decide +kernel
theorem dX_settle_8 : decode bX_settle 8 = .ok (.aload_n 0, 1) := by decide +kernel
theorem dX_settle_9 : decode bX_settle 9 = .ok (.getfield 12, 3) := by decide +kernel
theorem dX_settle_12 : decode bX_settle 12 = .ok (.aload_n 0, 1) := by decide +kernel
theorem dX_settle_13 : decode bX_settle 13 = .ok (.getfield 21, 3) := by decide +kernel
theorem dX_settle_16 : decode bX_settle 16 = .ok (.invokevirtual 103, 3) := by decide +kernel
theorem dX_settle_19 : decode bX_settle 19 = .ok (.aload_n 0, 1) := by decide +kernel
theorem dX_settle_20 : decode bX_settle 20 = .ok (.aload_n 0, 1) := by decide +kernel
theorem dX_settle_21 : decode bX_settle 21 = .ok (.getfield 28, 3) := by decide +kernel
theorem dX_settle_24 : decode bX_settle 24 = .ok (.aload_n 0, 1) := by decide +kernel
theorem dX_settle_25 : decode bX_settle 25 = .ok (.getfield 46, 3) := by decide +kernel
theorem dX_settle_28 : decode bX_settle 28 = .ok (.invokevirtual 107, 3) := by decide +kernel
theorem dX_settle_31 : decode bX_settle 31 = .ok (.putfield 50, 3) := by decide +kernel
theorem dX_settle_34 : decode bX_settle 34 = .ok (.aload_n 0, 1) := by decide +kernel
theorem dX_settle_35 : decode bX_settle 35 = .ok (.getfield 50, 3) := by decide +kernel
theorem dX_settle_38 : decode bX_settle 38 = .ok (.ifCond .ne 30, 3) := by decide +kernel
theorem dX_settle_68 : decode bX_settle 68 = .ok (.aload_n 0, 1) := by decide +kernel
theorem dX_settle_69 : decode bX_settle 69 = .ok (.getfield 35, 3) := by decide +kernel
theorem dX_settle_72 : decode bX_settle 72 = .ok (.iconst 0, 1) := by decide +kernel
theorem dX_settle_73 : decode bX_settle 73 = .ok (.putfield 119, 3) := by decide +kernel
theorem dX_settle_76 : decode bX_settle 76 = .ok (.aload_n 0, 1) := by decide +kernel
theorem dX_settle_77 : decode bX_settle 77 = .ok (.getfield 28, 3) := by decide +kernel
theorem dX_settle_80 : decode bX_settle 80 = .ok (.aload_n 0, 1) := by decide +kernel
theorem dX_settle_81 : decode bX_settle 81 = .ok (.getfield 46, 3) := by decide +kernel
theorem dX_settle_84 : decode bX_settle 84 = .ok (.invokevirtual 122, 3) := by decide +kernel
theorem dX_settle_87 : decode bX_settle 87 = .ok (.aload_n 0, 1) := by decide +kernel
theorem dX_settle_88 : decode bX_settle 88 = .ok (.getfield 42, 3) := by decide +kernel
theorem dX_settle_91 : decode bX_settle 91 = .ok (.aload_n 0, 1) := by decide +kernel
theorem dX_settle_92 : decode bX_settle 92 = .ok (.getfield 12, 3) := by decide +kernel
theorem dX_settle_95 : decode bX_settle 95 = .ok (.aload_n 0, 1) := by decide +kernel
theorem dX_settle_96 : decode bX_settle 96 = .ok (.getfield 28, 3) := by decide +kernel
theorem dX_settle_99 : decode bX_settle 99 = .ok (.getfield 125, 3) := by decide +kernel
theorem dX_settle_102 : decode bX_settle 102 = .ok (.invokevirtual 129, 3) := by decide +kernel
theorem dX_settle_105 : decode bX_settle 105 = .ok (.iconst 1, 1) := by decide +kernel
theorem dX_settle_106 : decode bX_settle 106 = .ok (.ireturn, 1) := by decide +kernel
theorem dX_settle_41 : decode bX_settle 41 = .ok (.aload_n 0, 1) := by decide +kernel
theorem dX_settle_42 : decode bX_settle 42 = .ok (.getfield 35, 3) := by decide +kernel
theorem dX_settle_45 : decode bX_settle 45 = .ok (.aload_n 0, 1) := by decide +kernel
theorem dX_settle_46 : decode bX_settle 46 = .ok (.getfield 46, 3) := by decide +kernel
theorem dX_settle_49 : decode bX_settle 49 = .ok (.aload_n 0, 1) := by decide +kernel
theorem dX_settle_50 : decode bX_settle 50 = .ok (.getfield 28, 3) := by decide +kernel
theorem dX_settle_53 : decode bX_settle 53 = .ok (.getfield 111, 3) := by decide +kernel
theorem dX_settle_56 : decode bX_settle 56 = .ok (.invokevirtual 115, 3) := by decide +kernel
theorem dX_settle_59 : decode bX_settle 59 = .ok (.aload_n 0, 1) := by decide +kernel
theorem dX_settle_60 : decode bX_settle 60 = .ok (.getfield 35, 3) := by decide +kernel
theorem dX_settle_63 : decode bX_settle 63 = .ok (.getfield 119, 3) := by decide +kernel
theorem dX_settle_66 : decode bX_settle 66 = .ok (.ineg, 1) := by decide +kernel
theorem dX_settle_67 : decode bX_settle 67 = .ok (.ireturn, 1) := by decide +kernel
theorem dX_ring_0 : decode bX_ring 0 = .ok (.iload_n 1, 1) := by decide +kernel
theorem dX_ring_1 : decode bX_ring 1 = .ok (.ifCond .lt 14, 3) := by decide +kernel
theorem dX_ring_15 : decode bX_ring 15 = .ok (.iconst (-1), 1) := by decide +kernel
theorem dX_ring_16 : decode bX_ring 16 = .ok (.ireturn, 1) := by decide +kernel
theorem dX_ring_4 : decode bX_ring 4 = .ok (.iload_n 1, 1) := by decide +kernel
theorem dX_ring_5 : decode bX_ring 5 = .ok (.aload_n 0, 1) := by decide +kernel
theorem dX_ring_6 : decode bX_ring 6 = .ok (.getfield 35, 3) := by decide +kernel
theorem dX_ring_9 : decode bX_ring 9 = .ok (.getfield 119, 3) := by decide +kernel
theorem dX_ring_12 : decode bX_ring 12 = .ok (.if_icmp .lt 5, 3) := by decide +kernel
theorem dX_ring_17 : decode bX_ring 17 = .ok (.aload_n 0, 1) := by decide +kernel
theorem dX_ring_18 : decode bX_ring 18 = .ok (.getfield 35, 3) := by decide +kernel
theorem dX_ring_21 : decode bX_ring 21 = .ok (.getfield 133, 3) := by decide +kernel
theorem dX_ring_24 : decode bX_ring 24 = .ok (.iload_n 1, 1) := by decide +kernel
theorem dX_ring_25 : decode bX_ring 25 = .ok (.iaload, 1) := by decide +kernel
theorem dX_ring_26 : decode bX_ring 26 = .ok (.ireturn, 1) := by decide +kernel
theorem dX_offset_0 : decode bX_offset 0 = .ok (.aload_n 0, 1) := by decide +kernel
theorem dX_offset_1 : decode bX_offset 1 = .ok (.iload_n 1, 1) := by decide +kernel
theorem dX_offset_2 : decode bX_offset 2 = .ok (.invokevirtual 61, 3) := by decide +kernel
theorem dX_offset_5 : decode bX_offset 5 = .ok (.aload_n 0, 1) := by decide +kernel
theorem dX_offset_6 : decode bX_offset 6 = .ok (.invokevirtual 137, 3) := by decide +kernel
theorem dX_checkSettled_0 : decode bX_checkSettled 0 = .ok (.aload_n 0, 1) := by decide +kernel
theorem dX_checkSettled_1 : decode bX_checkSettled 1 = .ok (.getfield 50, 3) := by decide +kernel
theorem dX_checkSettled_4 : decode bX_checkSettled 4 = .ok (.ifCond .ne 13, 3) := by decide +kernel
theorem dX_checkSettled_17 : decode bX_checkSettled 17 = .ok (.return_, 1) := by decide +kernel
theorem dX_checkSettled_7 : decode bX_checkSettled 7 = .ok (.new 188, 3) := by decide +kernel
theorem dX_checkSettled_10 : decode bX_checkSettled 10 = .ok (.dup, 1) := by decide +kernel
theorem dX_checkSettled_11 : decode bX_checkSettled 11 = .ok (.ldc 190, 2) := by decide +kernel
theorem dX_checkSettled_13 : decode bX_checkSettled 13 = .ok (.invokespecial 192, 3) := by decide +kernel
theorem dX_checkSettled_16 : decode bX_checkSettled 16 = .ok (.athrow, 1) := by decide +kernel
theorem dX_offset_9 : decode bX_offset 9 = .ok (.aload_n 0, 1) := by decide +kernel
theorem dX_offset_10 : decode bX_offset 10 = .ok (.getfield 28, 3) := by decide +kernel
theorem dX_offset_13 : decode bX_offset 13 = .ok (.getfield 125, 3) := by decide +kernel
theorem dX_offset_16 : decode bX_offset 16 = .ok (.iload_n 1, 1) := by decide +kernel
theorem dX_offset_17 : decode bX_offset 17 = .ok (.laload, 1) := by decide +kernel
theorem dX_offset_18 : decode bX_offset 18 = .ok (.lreturn, 1) := by decide +kernel
theorem dX_bound_0 : decode bX_bound 0 = .ok (.aload_n 0, 1) := by decide +kernel
theorem dX_bound_1 : decode bX_bound 1 = .ok (.iload_n 1, 1) := by decide +kernel
theorem dX_bound_2 : decode bX_bound 2 = .ok (.invokevirtual 61, 3) := by decide +kernel
theorem dX_bound_5 : decode bX_bound 5 = .ok (.aload_n 0, 1) := by decide +kernel
theorem dX_bound_6 : decode bX_bound 6 = .ok (.iload_n 2, 1) := by decide +kernel
theorem dX_bound_7 : decode bX_bound 7 = .ok (.invokevirtual 61, 3) := by decide +kernel
theorem dX_bound_10 : decode bX_bound 10 = .ok (.aload_n 0, 1) := by decide +kernel
theorem dX_bound_11 : decode bX_bound 11 = .ok (.invokevirtual 137, 3) := by decide +kernel
theorem dX_bound_14 : decode bX_bound 14 = .ok (.aload_n 0, 1) := by decide +kernel
theorem dX_bound_15 : decode bX_bound 15 = .ok (.getfield 28, 3) := by decide +kernel
theorem dX_bound_18 : decode bX_bound 18 = .ok (.getfield 140, 3) := by decide +kernel
theorem dX_bound_21 : decode bX_bound 21 = .ok (.iload_n 1, 1) := by decide +kernel
theorem dX_bound_22 : decode bX_bound 22 = .ok (.aaload, 1) := by decide +kernel
theorem dX_bound_23 : decode bX_bound 23 = .ok (.iload_n 2, 1) := by decide +kernel
theorem dX_bound_24 : decode bX_bound 24 = .ok (.laload, 1) := by decide +kernel
theorem dX_bound_25 : decode bX_bound 25 = .ok (.lreturn, 1) := by decide +kernel
theorem dX_corrected_0 : decode bX_corrected 0 = .ok (.aload_n 0, 1) := by decide +kernel
theorem dX_corrected_1 : decode bX_corrected 1 = .ok (.iload_n 1, 1) := by decide +kernel
theorem dX_corrected_2 : decode bX_corrected 2 = .ok (.invokevirtual 89, 3) := by decide +kernel
theorem dX_corrected_5 : decode bX_corrected 5 = .ok (.aload_n 0, 1) := by decide +kernel
theorem dX_corrected_6 : decode bX_corrected 6 = .ok (.invokevirtual 137, 3) := by decide +kernel
theorem dX_corrected_9 : decode bX_corrected 9 = .ok (.aload_n 0, 1) := by decide +kernel
theorem dX_corrected_10 : decode bX_corrected 10 = .ok (.getfield 42, 3) := by decide +kernel
theorem dX_corrected_13 : decode bX_corrected 13 = .ok (.getfield 143, 3) := by decide +kernel
theorem dX_corrected_16 : decode bX_corrected 16 = .ok (.iload_n 1, 1) := by decide +kernel
theorem dX_corrected_17 : decode bX_corrected 17 = .ok (.laload, 1) := by decide +kernel
theorem dX_corrected_18 : decode bX_corrected 18 = .ok (.lreturn, 1) := by decide +kernel
theorem dX_ordered_0 : decode bX_ordered 0 = .ok (.iload_n 1, 1) := by decide +kernel
theorem dX_ordered_1 : decode bX_ordered 1 = .ok (.invokestatic 65, 3) := by decide +kernel
theorem dX_ordered_4 : decode bX_ordered 4 = .ok (.aload_n 0, 1) := by decide +kernel
theorem dX_ordered_5 : decode bX_ordered 5 = .ok (.invokevirtual 137, 3) := by decide +kernel
theorem dX_ordered_8 : decode bX_ordered 8 = .ok (.aload_n 0, 1) := by decide +kernel
theorem dX_ordered_9 : decode bX_ordered 9 = .ok (.getfield 42, 3) := by decide +kernel
theorem dX_ordered_12 : decode bX_ordered 12 = .ok (.aload_n 0, 1) := by decide +kernel
theorem dX_ordered_13 : decode bX_ordered 13 = .ok (.getfield 12, 3) := by decide +kernel
theorem dX_ordered_16 : decode bX_ordered 16 = .ok (.iload_n 1, 1) := by decide +kernel
theorem dX_ordered_17 : decode bX_ordered 17 = .ok (.iload_n 2, 1) := by decide +kernel
theorem dX_ordered_18 : decode bX_ordered 18 = .ok (.invokevirtual 146, 3) := by decide +kernel
theorem dX_ordered_21 : decode bX_ordered 21 = .ok (.ireturn, 1) := by decide +kernel
theorem dX_implied_0 : decode bX_implied 0 = .ok (.iload_n 1, 1) := by decide +kernel
theorem dX_implied_1 : decode bX_implied 1 = .ok (.invokestatic 150, 3) := by decide +kernel
theorem dX_implied_4 : decode bX_implied 4 = .ok (.ifCond .ne 13, 3) := by decide +kernel
theorem dX_implied_17 : decode bX_implied 17 = .ok (.iload_n 2, 1) := by decide +kernel
theorem dX_implied_18 : decode bX_implied 18 = .ok (.ifCond .lt 9, 3) := by decide +kernel
theorem dX_implied_27 : decode bX_implied 27 = .ok (.new 153, 3) := by decide +kernel
theorem dX_implied_30 : decode bX_implied 30 = .ok (.dup, 1) := by decide +kernel
theorem dX_implied_31 : decode bX_implied 31 = .ok (.ldc 158, 2) := by decide +kernel
theorem dX_implied_33 : decode bX_implied 33 = .ok (.invokespecial 157, 3) := by decide +kernel
theorem dX_implied_36 : decode bX_implied 36 = .ok (.athrow, 1) := by decide +kernel
theorem dX_implied_21 : decode bX_implied 21 = .ok (.iload_n 2, 1) := by decide +kernel
theorem dX_implied_22 : decode bX_implied 22 = .ok (.bipush 100, 2) := by decide +kernel
theorem dX_implied_24 : decode bX_implied 24 = .ok (.if_icmp .lt 13, 3) := by decide +kernel
theorem dX_implied_37 : decode bX_implied 37 = .ok (.aload_n 0, 1) := by decide +kernel
theorem dX_implied_38 : decode bX_implied 38 = .ok (.invokevirtual 137, 3) := by decide +kernel
theorem dX_implied_41 : decode bX_implied 41 = .ok (.aload_n 0, 1) := by decide +kernel
theorem dX_implied_42 : decode bX_implied 42 = .ok (.getfield 42, 3) := by decide +kernel
theorem dX_implied_45 : decode bX_implied 45 = .ok (.aload_n 0, 1) := by decide +kernel
theorem dX_implied_46 : decode bX_implied 46 = .ok (.getfield 12, 3) := by decide +kernel
theorem dX_implied_49 : decode bX_implied 49 = .ok (.iload_n 1, 1) := by decide +kernel
theorem dX_implied_50 : decode bX_implied 50 = .ok (.iload_n 2, 1) := by decide +kernel
theorem dX_implied_51 : decode bX_implied 51 = .ok (.invokevirtual 160, 3) := by decide +kernel
theorem dX_implied_54 : decode bX_implied 54 = .ok (.ireturn, 1) := by decide +kernel
theorem dX_implied_7 : decode bX_implied 7 = .ok (.new 153, 3) := by decide +kernel
theorem dX_implied_10 : decode bX_implied 10 = .ok (.dup, 1) := by decide +kernel
theorem dX_implied_11 : decode bX_implied 11 = .ok (.ldc 155, 2) := by decide +kernel
theorem dX_implied_13 : decode bX_implied 13 = .ok (.invokespecial 157, 3) := by decide +kernel
theorem dX_implied_16 : decode bX_implied 16 = .ok (.athrow, 1) := by decide +kernel
theorem dX_correct_0 : decode bX_correct 0 = .ok (.aload_n 0, 1) := by decide +kernel
theorem dX_correct_1 : decode bX_correct 1 = .ok (.iload_n 1, 1) := by decide +kernel
theorem dX_correct_2 : decode bX_correct 2 = .ok (.invokevirtual 89, 3) := by decide +kernel
theorem dX_correct_5 : decode bX_correct 5 = .ok (.lload_n 2, 1) := by decide +kernel
theorem dX_correct_6 : decode bX_correct 6 = .ok (.invokestatic 72, 3) := by decide +kernel
theorem dX_correct_9 : decode bX_correct 9 = .ok (.aload_n 0, 1) := by decide +kernel
theorem dX_correct_10 : decode bX_correct 10 = .ok (.getfield 12, 3) := by decide +kernel
theorem dX_correct_13 : decode bX_correct 13 = .ok (.aload_n 0, 1) := by decide +kernel
theorem dX_correct_14 : decode bX_correct 14 = .ok (.getfield 12, 3) := by decide +kernel
theorem dX_correct_17 : decode bX_correct 17 = .ok (.getfield 163, 3) := by decide +kernel
theorem dX_correct_20 : decode bX_correct 20 = .ok (.iload_n 1, 1) := by decide +kernel
theorem dX_correct_21 : decode bX_correct 21 = .ok (.iaload, 1) := by decide +kernel
theorem dX_correct_22 : decode bX_correct 22 = .ok (.aload_n 0, 1) := by decide +kernel
theorem dX_correct_23 : decode bX_correct 23 = .ok (.getfield 12, 3) := by decide +kernel
theorem dX_correct_26 : decode bX_correct 26 = .ok (.getfield 166, 3) := by decide +kernel
theorem dX_correct_29 : decode bX_correct 29 = .ok (.iload_n 1, 1) := by decide +kernel
theorem dX_correct_30 : decode bX_correct 30 = .ok (.iaload, 1) := by decide +kernel
theorem dX_correct_31 : decode bX_correct 31 = .ok (.aload_n 0, 1) := by decide +kernel
theorem dX_correct_32 : decode bX_correct 32 = .ok (.getfield 12, 3) := by decide +kernel
theorem dX_correct_35 : decode bX_correct 35 = .ok (.getfield 169, 3) := by decide +kernel
theorem dX_correct_38 : decode bX_correct 38 = .ok (.iload_n 1, 1) := by decide +kernel
theorem dX_correct_39 : decode bX_correct 39 = .ok (.iaload, 1) := by decide +kernel
theorem dX_correct_40 : decode bX_correct 40 = .ok (.aload_n 0, 1) := by decide +kernel
theorem dX_correct_41 : decode bX_correct 41 = .ok (.getfield 12, 3) := by decide +kernel
theorem dX_correct_44 : decode bX_correct 44 = .ok (.getfield 172, 3) := by decide +kernel
theorem dX_correct_47 : decode bX_correct 47 = .ok (.iload_n 1, 1) := by decide +kernel
theorem dX_correct_48 : decode bX_correct 48 = .ok (.iaload, 1) := by decide +kernel
theorem dX_correct_49 : decode bX_correct 49 = .ok (.lload_n 2, 1) := by decide +kernel
theorem dX_correct_50 : decode bX_correct 50 = .ok (.invokevirtual 76, 3) := by decide +kernel
theorem dX_correct_53 : decode bX_correct 53 = .ok (.ifCond .eq 5, 3) := by decide +kernel
theorem dX_correct_58 : decode bX_correct 58 = .ok (.aload_n 0, 1) := by decide +kernel
theorem dX_correct_59 : decode bX_correct 59 = .ok (.iconst 0, 1) := by decide +kernel
theorem dX_correct_60 : decode bX_correct 60 = .ok (.putfield 50, 3) := by decide +kernel
theorem dX_correct_63 : decode bX_correct 63 = .ok (.aload_n 0, 1) := by decide +kernel
theorem dX_correct_64 : decode bX_correct 64 = .ok (.getfield 12, 3) := by decide +kernel
theorem dX_correct_67 : decode bX_correct 67 = .ok (.getfield 175, 3) := by decide +kernel
theorem dX_correct_70 : decode bX_correct 70 = .ok (.iload_n 1, 1) := by decide +kernel
theorem dX_correct_71 : decode bX_correct 71 = .ok (.lload_n 2, 1) := by decide +kernel
theorem dX_correct_72 : decode bX_correct 72 = .ok (.lastore, 1) := by decide +kernel
theorem dX_correct_73 : decode bX_correct 73 = .ok (.iconst 1, 1) := by decide +kernel
theorem dX_correct_74 : decode bX_correct 74 = .ok (.ireturn, 1) := by decide +kernel
theorem dX_correct_56 : decode bX_correct 56 = .ok (.iconst 0, 1) := by decide +kernel
theorem dX_correct_57 : decode bX_correct 57 = .ok (.ireturn, 1) := by decide +kernel
theorem dX_ask_0 : decode bX_ask 0 = .ok (.iload_n 1, 1) := by decide +kernel
theorem dX_ask_1 : decode bX_ask 1 = .ok (.tableswitch 95 0 3 #[31, 47, 63, 79], 31) := by decide +kernel
theorem dX_ask_32 : decode bX_ask 32 = .ok (.aload_n 0, 1) := by decide +kernel
theorem dX_ask_33 : decode bX_ask 33 = .ok (.getfield 12, 3) := by decide +kernel
theorem dX_ask_36 : decode bX_ask 36 = .ok (.aload_n 0, 1) := by decide +kernel
theorem dX_ask_37 : decode bX_ask 37 = .ok (.getfield 12, 3) := by decide +kernel
theorem dX_ask_40 : decode bX_ask 40 = .ok (.getfield 166, 3) := by decide +kernel
theorem dX_ask_43 : decode bX_ask 43 = .ok (.iload_n 2, 1) := by decide +kernel
theorem dX_ask_44 : decode bX_ask 44 = .ok (.invokevirtual 178, 3) := by decide +kernel
theorem dX_ask_47 : decode bX_ask 47 = .ok (.ireturn, 1) := by decide +kernel
theorem dX_ask_48 : decode bX_ask 48 = .ok (.aload_n 0, 1) := by decide +kernel
theorem dX_ask_49 : decode bX_ask 49 = .ok (.getfield 12, 3) := by decide +kernel
theorem dX_ask_52 : decode bX_ask 52 = .ok (.aload_n 0, 1) := by decide +kernel
theorem dX_ask_53 : decode bX_ask 53 = .ok (.getfield 12, 3) := by decide +kernel
theorem dX_ask_56 : decode bX_ask 56 = .ok (.getfield 172, 3) := by decide +kernel
theorem dX_ask_59 : decode bX_ask 59 = .ok (.iload_n 2, 1) := by decide +kernel
theorem dX_ask_60 : decode bX_ask 60 = .ok (.invokevirtual 178, 3) := by decide +kernel
theorem dX_ask_63 : decode bX_ask 63 = .ok (.ireturn, 1) := by decide +kernel
theorem dX_ask_64 : decode bX_ask 64 = .ok (.aload_n 0, 1) := by decide +kernel
theorem dX_ask_65 : decode bX_ask 65 = .ok (.getfield 12, 3) := by decide +kernel
theorem dX_ask_68 : decode bX_ask 68 = .ok (.aload_n 0, 1) := by decide +kernel
theorem dX_ask_69 : decode bX_ask 69 = .ok (.getfield 12, 3) := by decide +kernel
theorem dX_ask_72 : decode bX_ask 72 = .ok (.getfield 163, 3) := by decide +kernel
theorem dX_ask_75 : decode bX_ask 75 = .ok (.iload_n 2, 1) := by decide +kernel
theorem dX_ask_76 : decode bX_ask 76 = .ok (.invokevirtual 178, 3) := by decide +kernel
theorem dX_ask_79 : decode bX_ask 79 = .ok (.ireturn, 1) := by decide +kernel
theorem dX_ask_80 : decode bX_ask 80 = .ok (.aload_n 0, 1) := by decide +kernel
theorem dX_ask_81 : decode bX_ask 81 = .ok (.getfield 12, 3) := by decide +kernel
theorem dX_ask_84 : decode bX_ask 84 = .ok (.aload_n 0, 1) := by decide +kernel
theorem dX_ask_85 : decode bX_ask 85 = .ok (.getfield 12, 3) := by decide +kernel
theorem dX_ask_88 : decode bX_ask 88 = .ok (.getfield 169, 3) := by decide +kernel
theorem dX_ask_91 : decode bX_ask 91 = .ok (.iload_n 2, 1) := by decide +kernel
theorem dX_ask_92 : decode bX_ask 92 = .ok (.invokevirtual 178, 3) := by decide +kernel
theorem dX_ask_95 : decode bX_ask 95 = .ok (.ireturn, 1) := by decide +kernel
theorem dX_ask_96 : decode bX_ask 96 = .ok (.new 92, 3) := by decide +kernel
theorem dX_ask_99 : decode bX_ask 99 = .ok (.dup, 1) := by decide +kernel
theorem dX_ask_100 : decode bX_ask 100 = .ok (.ldc 182, 2) := by decide +kernel
theorem dX_ask_102 : decode bX_ask 102 = .ok (.invokespecial 96, 3) := by decide +kernel
theorem dX_ask_105 : decode bX_ask 105 = .ok (.athrow, 1) := by decide +kernel
theorem k_x77 : (.fieldLink RX 46 RX "sourceCount" "I" : Cond) ∈ TBL := TBL_in (by decide +kernel) (by decide +kernel)
theorem k_x78 : (.fieldLink RX 50 RX "settled" "Z" : Cond) ∈ TBL := TBL_in (by decide +kernel) (by decide +kernel)
theorem k_x79 : (.classLink RX 54 (x_ex 3) : Cond) ∈ TBL := TBL_in (by decide +kernel) (by decide +kernel)
theorem k_x80 : (.initialized (x_ex 3) : Cond) ∈ TBL := TBL_in (by decide +kernel) (by decide +kernel)
theorem k_xa81 : ∀ a ∈ vx_atS RX 58 (x_ex 3) x_up, a ∈ TBX := fun a h => TBX_in ((by decide +kernel : ∀ a ∈ vx_atS RX 58 (x_ex 3) x_up, a ∈ lw_tbl) a h) ((by decide +kernel : ∀ a ∈ vx_atS RX 58 (x_ex 3) x_up, (a.onTables && a.keepsFace) = true) a h)
theorem k_xo82 : ∀ w ∈ Cond.classLink RX 54 (x_ex 3) :: Cond.initialized (x_ex 3) :: vx_atS RX 58 (x_ex 3) x_up, vx_ot w = true := by decide +kernel
theorem k_xs83 : (RX, 56, "no room for a source") ∈ x_strs := by decide +kernel
theorem k_x84 : (.classLink RX 153 (x_ex 0) : Cond) ∈ TBL := TBL_in (by decide +kernel) (by decide +kernel)
theorem k_x85 : (.initialized (x_ex 0) : Cond) ∈ TBL := TBL_in (by decide +kernel) (by decide +kernel)
theorem k_xa86 : ∀ a ∈ vx_atS RX 157 (x_ex 0) x_up, a ∈ TBX := fun a h => TBX_in ((by decide +kernel : ∀ a ∈ vx_atS RX 157 (x_ex 0) x_up, a ∈ lw_tbl) a h) ((by decide +kernel : ∀ a ∈ vx_atS RX 157 (x_ex 0) x_up, (a.onTables && a.keepsFace) = true) a h)
theorem k_xo87 : ∀ w ∈ Cond.classLink RX 153 (x_ex 0) :: Cond.initialized (x_ex 0) :: vx_atS RX 157 (x_ex 0) x_up, vx_ot w = true := by decide +kernel
theorem k_xs88 : (RX, 184, "no such source") ∈ x_strs := by decide +kernel
theorem k_xs89 : (RX, 193, "no such item") ∈ x_strs := by decide +kernel
theorem k_x90 : (.classLink RX 92 (x_ex 1) : Cond) ∈ TBL := TBL_in (by decide +kernel) (by decide +kernel)
theorem k_x91 : (.initialized (x_ex 1) : Cond) ∈ TBL := TBL_in (by decide +kernel) (by decide +kernel)
theorem k_xa92 : ∀ a ∈ vx_atS RX 96 (x_ex 1) x_up, a ∈ TBX := fun a h => TBX_in ((by decide +kernel : ∀ a ∈ vx_atS RX 96 (x_ex 1) x_up, a ∈ lw_tbl) a h) ((by decide +kernel : ∀ a ∈ vx_atS RX 96 (x_ex 1) x_up, (a.onTables && a.keepsFace) = true) a h)
theorem k_xo93 : ∀ w ∈ Cond.classLink RX 92 (x_ex 1) :: Cond.initialized (x_ex 1) :: vx_atS RX 96 (x_ex 1) x_up, vx_ot w = true := by decide +kernel
theorem k_xs94 : (RX, 195, "kind out of range") ∈ x_strs := by decide +kernel
theorem k_xs95 : (RX, 197, "place out of range") ∈ x_strs := by decide +kernel
theorem k_xs96 : (RX, 199, "only an item that is no bag goes into or out of a bag") ∈ x_strs := by decide +kernel
theorem k_x97 : (.code yX_isBag bX_isBag 1 (some .boolean) : Cond) ∈ TBL := TBL_in (by decide +kernel) (by decide +kernel)
theorem k_x98 : (.initialized yX_isBag.cls : Cond) ∈ TBL := TBL_in (by decide +kernel) (by decide +kernel)
theorem k_x99 : (.methodLink RX 150 yX_isBag : Cond) ∈ TBL := TBL_in (by decide +kernel) (by decide +kernel)
theorem k_x100 : (.static yX_isBag : Cond) ∈ TBL := TBL_in (by decide +kernel) (by decide +kernel)
theorem k_x101 : (.constantLong RX 201 (-1000000000) : Cond) ∈ TBL := TBL_in (by decide +kernel) (by decide +kernel)
theorem k_xs102 : (RX, 205, "clock out of range") ∈ x_strs := by decide +kernel
theorem k_x103 : (.constantLong RX 203 1000000000 : Cond) ∈ TBL := TBL_in (by decide +kernel) (by decide +kernel)
theorem k_x104 : (.fieldLink RX 12 RX "events" "LEventOrder$Events;" : Cond) ∈ TBL := TBL_in (by decide +kernel) (by decide +kernel)
theorem k_x105 : (.fieldLink RX 80 REv "count" "I" : Cond) ∈ TBL := TBL_in (by decide +kernel) (by decide +kernel)
theorem k_x106 : (.code yEv_add bEv_add 7 (some .int) : Cond) ∈ TBL := TBL_in (by decide +kernel) (by decide +kernel)
theorem k_x107 : (.initialized yEv_add.cls : Cond) ∈ TBL := TBL_in (by decide +kernel) (by decide +kernel)
theorem k_x108 : (.methodLink RX 85 yEv_add : Cond) ∈ TBL := TBL_in (by decide +kernel) (by decide +kernel)
theorem k_x109 : (.instanceMethod yEv_add : Cond) ∈ TBL := TBL_in (by decide +kernel) (by decide +kernel)
theorem k_x110 : (.selects REv yEv_add yEv_add : Cond) ∈ TBL := TBL_in (by decide +kernel) (by decide +kernel)
theorem k_xs111 : (RX, 83, "no room for an event") ∈ x_strs := by decide +kernel
theorem k_x112 : (.code yEv_has bEv_has 8 (some .boolean) : Cond) ∈ TBL := TBL_in (by decide +kernel) (by decide +kernel)
theorem k_x113 : (.initialized yEv_has.cls : Cond) ∈ TBL := TBL_in (by decide +kernel) (by decide +kernel)
theorem k_x114 : (.methodLink RX 76 yEv_has : Cond) ∈ TBL := TBL_in (by decide +kernel) (by decide +kernel)
theorem k_x115 : (.instanceMethod yEv_has : Cond) ∈ TBL := TBL_in (by decide +kernel) (by decide +kernel)
theorem k_x116 : (.selects REv yEv_has yEv_has : Cond) ∈ TBL := TBL_in (by decide +kernel) (by decide +kernel)
theorem k_x117 : (.code yX_checkClock bX_checkClock 2 none : Cond) ∈ TBL := TBL_in (by decide +kernel) (by decide +kernel)
theorem k_x118 : (.initialized yX_checkClock.cls : Cond) ∈ TBL := TBL_in (by decide +kernel) (by decide +kernel)
theorem k_x119 : (.methodLink RX 72 yX_checkClock : Cond) ∈ TBL := TBL_in (by decide +kernel) (by decide +kernel)
theorem k_x120 : (.static yX_checkClock : Cond) ∈ TBL := TBL_in (by decide +kernel) (by decide +kernel)
theorem k_x121 : (.code yX_checkKindAndPlace bX_checkKindAndPlace 3 none : Cond) ∈ TBL := TBL_in (by decide +kernel) (by decide +kernel)
theorem k_x122 : (.initialized yX_checkKindAndPlace.cls : Cond) ∈ TBL := TBL_in (by decide +kernel) (by decide +kernel)
theorem k_x123 : (.methodLink RX 68 yX_checkKindAndPlace : Cond) ∈ TBL := TBL_in (by decide +kernel) (by decide +kernel)
theorem k_x124 : (.static yX_checkKindAndPlace : Cond) ∈ TBL := TBL_in (by decide +kernel) (by decide +kernel)
theorem k_x125 : (.code yX_checkItem bX_checkItem 1 none : Cond) ∈ TBL := TBL_in (by decide +kernel) (by decide +kernel)
theorem k_x126 : (.initialized yX_checkItem.cls : Cond) ∈ TBL := TBL_in (by decide +kernel) (by decide +kernel)
theorem k_x127 : (.methodLink RX 65 yX_checkItem : Cond) ∈ TBL := TBL_in (by decide +kernel) (by decide +kernel)
theorem k_x128 : (.static yX_checkItem : Cond) ∈ TBL := TBL_in (by decide +kernel) (by decide +kernel)
theorem k_x129 : (.code yX_checkSource bX_checkSource 2 none : Cond) ∈ TBL := TBL_in (by decide +kernel) (by decide +kernel)
theorem k_x130 : (.initialized yX_checkSource.cls : Cond) ∈ TBL := TBL_in (by decide +kernel) (by decide +kernel)
theorem k_x131 : (.methodLink RX 61 yX_checkSource : Cond) ∈ TBL := TBL_in (by decide +kernel) (by decide +kernel)
theorem k_x132 : (.instanceMethod yX_checkSource : Cond) ∈ TBL := TBL_in (by decide +kernel) (by decide +kernel)
theorem k_x133 : (.selects RX yX_checkSource yX_checkSource : Cond) ∈ TBL := TBL_in (by decide +kernel) (by decide +kernel)
theorem k_xs134 : (RX, 186, "no such event") ∈ x_strs := by decide +kernel
theorem k_x135 : (.fieldLink RX 21 RX "needs" "LEventOrder$Needs;" : Cond) ∈ TBL := TBL_in (by decide +kernel) (by decide +kernel)
theorem k_x136 : (.fieldLink RX 97 RNd "count" "I" : Cond) ∈ TBL := TBL_in (by decide +kernel) (by decide +kernel)
theorem k_x137 : (.code yNd_add bNd_add 3 (some .int) : Cond) ∈ TBL := TBL_in (by decide +kernel) (by decide +kernel)
theorem k_x138 : (.initialized yNd_add.cls : Cond) ∈ TBL := TBL_in (by decide +kernel) (by decide +kernel)
theorem k_x139 : (.methodLink RX 100 yNd_add : Cond) ∈ TBL := TBL_in (by decide +kernel) (by decide +kernel)
theorem k_x140 : (.instanceMethod yNd_add : Cond) ∈ TBL := TBL_in (by decide +kernel) (by decide +kernel)
theorem k_x141 : (.selects RNd yNd_add yNd_add : Cond) ∈ TBL := TBL_in (by decide +kernel) (by decide +kernel)
theorem k_xs142 : (RX, 98, "no room for a need") ∈ x_strs := by decide +kernel
theorem k_xs143 : (RX, 94, "an event cannot be before itself") ∈ x_strs := by decide +kernel
theorem k_x144 : (.code yX_checkEvent bX_checkEvent 2 none : Cond) ∈ TBL := TBL_in (by decide +kernel) (by decide +kernel)
theorem k_x145 : (.initialized yX_checkEvent.cls : Cond) ∈ TBL := TBL_in (by decide +kernel) (by decide +kernel)
theorem k_x146 : (.methodLink RX 89 yX_checkEvent : Cond) ∈ TBL := TBL_in (by decide +kernel) (by decide +kernel)
theorem k_x147 : (.instanceMethod yX_checkEvent : Cond) ∈ TBL := TBL_in (by decide +kernel) (by decide +kernel)
theorem k_x148 : (.selects RX yX_checkEvent yX_checkEvent : Cond) ∈ TBL := TBL_in (by decide +kernel) (by decide +kernel)
theorem k_x149 : (.fieldLink RX 28 RX "limits" "LEventOrder$Limits;" : Cond) ∈ TBL := TBL_in (by decide +kernel) (by decide +kernel)
theorem k_x150 : (.fieldLink RX 35 RX "told" "LEventOrder$Ring;" : Cond) ∈ TBL := TBL_in (by decide +kernel) (by decide +kernel)
theorem k_x151 : (.fieldLink RX 119 RRg "length" "I" : Cond) ∈ TBL := TBL_in (by decide +kernel) (by decide +kernel)
theorem k_x152 : (.fieldLink RX 42 RX "timeline" "LEventOrder$Timeline;" : Cond) ∈ TBL := TBL_in (by decide +kernel) (by decide +kernel)
theorem k_x153 : (.fieldLink RX 125 RLi "offsets" "[J" : Cond) ∈ TBL := TBL_in (by decide +kernel) (by decide +kernel)
theorem k_x154 : (.code yTl_lay bTl_lay 5 none : Cond) ∈ TBL := TBL_in (by decide +kernel) (by decide +kernel)
theorem k_x155 : (.initialized yTl_lay.cls : Cond) ∈ TBL := TBL_in (by decide +kernel) (by decide +kernel)
theorem k_x156 : (.methodLink RX 129 yTl_lay : Cond) ∈ TBL := TBL_in (by decide +kernel) (by decide +kernel)
theorem k_x157 : (.instanceMethod yTl_lay : Cond) ∈ TBL := TBL_in (by decide +kernel) (by decide +kernel)
theorem k_x158 : (.selects RTl yTl_lay yTl_lay : Cond) ∈ TBL := TBL_in (by decide +kernel) (by decide +kernel)
theorem k_x159 : (.code yLi_chooseOffsets bLi_chooseOffsets 8 none : Cond) ∈ TBL := TBL_in (by decide +kernel) (by decide +kernel)
theorem k_x160 : (.initialized yLi_chooseOffsets.cls : Cond) ∈ TBL := TBL_in (by decide +kernel) (by decide +kernel)
theorem k_x161 : (.methodLink RX 122 yLi_chooseOffsets : Cond) ∈ TBL := TBL_in (by decide +kernel) (by decide +kernel)
theorem k_x162 : (.instanceMethod yLi_chooseOffsets : Cond) ∈ TBL := TBL_in (by decide +kernel) (by decide +kernel)
theorem k_x163 : (.selects RLi yLi_chooseOffsets yLi_chooseOffsets : Cond) ∈ TBL := TBL_in (by decide +kernel) (by decide +kernel)
theorem k_x164 : (.fieldLink RX 111 RLi "weights" "[[J" : Cond) ∈ TBL := TBL_in (by decide +kernel) (by decide +kernel)
theorem k_x165 : (.code yRg_find bRg_find 6 none : Cond) ∈ TBL := TBL_in (by decide +kernel) (by decide +kernel)
theorem k_x166 : (.initialized yRg_find.cls : Cond) ∈ TBL := TBL_in (by decide +kernel) (by decide +kernel)
theorem k_x167 : (.methodLink RX 115 yRg_find : Cond) ∈ TBL := TBL_in (by decide +kernel) (by decide +kernel)
theorem k_x168 : (.instanceMethod yRg_find : Cond) ∈ TBL := TBL_in (by decide +kernel) (by decide +kernel)
theorem k_x169 : (.selects RRg yRg_find yRg_find : Cond) ∈ TBL := TBL_in (by decide +kernel) (by decide +kernel)
theorem k_x170 : (.code yLi_findBounds bLi_findBounds 4 (some .boolean) : Cond) ∈ TBL := TBL_in (by decide +kernel) (by decide +kernel)
theorem k_x171 : (.initialized yLi_findBounds.cls : Cond) ∈ TBL := TBL_in (by decide +kernel) (by decide +kernel)
theorem k_x172 : (.methodLink RX 107 yLi_findBounds : Cond) ∈ TBL := TBL_in (by decide +kernel) (by decide +kernel)
theorem k_x173 : (.instanceMethod yLi_findBounds : Cond) ∈ TBL := TBL_in (by decide +kernel) (by decide +kernel)
theorem k_x174 : (.selects RLi yLi_findBounds yLi_findBounds : Cond) ∈ TBL := TBL_in (by decide +kernel) (by decide +kernel)
theorem k_x175 : (.code yLi_weigh bLi_weigh 11 none : Cond) ∈ TBL := TBL_in (by decide +kernel) (by decide +kernel)
theorem k_x176 : (.initialized yLi_weigh.cls : Cond) ∈ TBL := TBL_in (by decide +kernel) (by decide +kernel)
theorem k_x177 : (.methodLink RX 103 yLi_weigh : Cond) ∈ TBL := TBL_in (by decide +kernel) (by decide +kernel)
theorem k_x178 : (.instanceMethod yLi_weigh : Cond) ∈ TBL := TBL_in (by decide +kernel) (by decide +kernel)
theorem k_x179 : (.selects RLi yLi_weigh yLi_weigh : Cond) ∈ TBL := TBL_in (by decide +kernel) (by decide +kernel)
theorem k_x180 : (.fieldLink RX 133 RRg "row" "[I" : Cond) ∈ TBL := TBL_in (by decide +kernel) (by decide +kernel)
theorem k_x181 : (.classLink RX 188 (x_ex 2) : Cond) ∈ TBL := TBL_in (by decide +kernel) (by decide +kernel)
theorem k_x182 : (.initialized (x_ex 2) : Cond) ∈ TBL := TBL_in (by decide +kernel) (by decide +kernel)
theorem k_xa183 : ∀ a ∈ vx_atS RX 192 (x_ex 2) x_up, a ∈ TBX := fun a h => TBX_in ((by decide +kernel : ∀ a ∈ vx_atS RX 192 (x_ex 2) x_up, a ∈ lw_tbl) a h) ((by decide +kernel : ∀ a ∈ vx_atS RX 192 (x_ex 2) x_up, (a.onTables && a.keepsFace) = true) a h)
theorem k_xo184 : ∀ w ∈ Cond.classLink RX 188 (x_ex 2) :: Cond.initialized (x_ex 2) :: vx_atS RX 192 (x_ex 2) x_up, vx_ot w = true := by decide +kernel
theorem k_xs185 : (RX, 190, "not settled without a ring") ∈ x_strs := by decide +kernel
theorem k_x186 : (.code yX_checkSettled bX_checkSettled 1 none : Cond) ∈ TBL := TBL_in (by decide +kernel) (by decide +kernel)
theorem k_x187 : (.initialized yX_checkSettled.cls : Cond) ∈ TBL := TBL_in (by decide +kernel) (by decide +kernel)
theorem k_x188 : (.methodLink RX 137 yX_checkSettled : Cond) ∈ TBL := TBL_in (by decide +kernel) (by decide +kernel)
theorem k_x189 : (.instanceMethod yX_checkSettled : Cond) ∈ TBL := TBL_in (by decide +kernel) (by decide +kernel)
theorem k_x190 : (.selects RX yX_checkSettled yX_checkSettled : Cond) ∈ TBL := TBL_in (by decide +kernel) (by decide +kernel)
theorem k_x191 : (.fieldLink RX 140 RLi "bounds" "[[J" : Cond) ∈ TBL := TBL_in (by decide +kernel) (by decide +kernel)
theorem k_x192 : (.fieldLink RX 143 RTl "times" "[J" : Cond) ∈ TBL := TBL_in (by decide +kernel) (by decide +kernel)
theorem k_x193 : (.code yTl_eventOf bTl_eventOf 6 (some .int) : Cond) ∈ TBL := TBL_in (by decide +kernel) (by decide +kernel)
theorem k_x194 : (.initialized yTl_eventOf.cls : Cond) ∈ TBL := TBL_in (by decide +kernel) (by decide +kernel)
theorem k_x195 : (.methodLink RX 146 yTl_eventOf : Cond) ∈ TBL := TBL_in (by decide +kernel) (by decide +kernel)
theorem k_x196 : (.instanceMethod yTl_eventOf : Cond) ∈ TBL := TBL_in (by decide +kernel) (by decide +kernel)
theorem k_x197 : (.selects RTl yTl_eventOf yTl_eventOf : Cond) ∈ TBL := TBL_in (by decide +kernel) (by decide +kernel)
theorem k_xs198 : (RX, 158, "no such item that is no bag") ∈ x_strs := by decide +kernel
theorem k_x199 : (.code yTl_countImplied bTl_countImplied 9 (some .int) : Cond) ∈ TBL := TBL_in (by decide +kernel) (by decide +kernel)
theorem k_x200 : (.initialized yTl_countImplied.cls : Cond) ∈ TBL := TBL_in (by decide +kernel) (by decide +kernel)
theorem k_x201 : (.methodLink RX 160 yTl_countImplied : Cond) ∈ TBL := TBL_in (by decide +kernel) (by decide +kernel)
theorem k_x202 : (.instanceMethod yTl_countImplied : Cond) ∈ TBL := TBL_in (by decide +kernel) (by decide +kernel)
theorem k_x203 : (.selects RTl yTl_countImplied yTl_countImplied : Cond) ∈ TBL := TBL_in (by decide +kernel) (by decide +kernel)
theorem k_xs204 : (RX, 155, "no such bag") ∈ x_strs := by decide +kernel
theorem k_x205 : (.fieldLink RX 163 REv "sources" "[I" : Cond) ∈ TBL := TBL_in (by decide +kernel) (by decide +kernel)
theorem k_x206 : (.fieldLink RX 166 REv "items" "[I" : Cond) ∈ TBL := TBL_in (by decide +kernel) (by decide +kernel)
theorem k_x207 : (.fieldLink RX 169 REv "kinds" "[I" : Cond) ∈ TBL := TBL_in (by decide +kernel) (by decide +kernel)
theorem k_x208 : (.fieldLink RX 172 REv "places" "[I" : Cond) ∈ TBL := TBL_in (by decide +kernel) (by decide +kernel)
theorem k_x209 : (.fieldLink RX 175 REv "clocks" "[J" : Cond) ∈ TBL := TBL_in (by decide +kernel) (by decide +kernel)
theorem k_x210 : (.code yEv_countIn bEv_countIn 5 (some .int) : Cond) ∈ TBL := TBL_in (by decide +kernel) (by decide +kernel)
theorem k_x211 : (.initialized yEv_countIn.cls : Cond) ∈ TBL := TBL_in (by decide +kernel) (by decide +kernel)
theorem k_x212 : (.methodLink RX 178 yEv_countIn : Cond) ∈ TBL := TBL_in (by decide +kernel) (by decide +kernel)
theorem k_x213 : (.instanceMethod yEv_countIn : Cond) ∈ TBL := TBL_in (by decide +kernel) (by decide +kernel)
theorem k_x214 : (.selects REv yEv_countIn yEv_countIn : Cond) ∈ TBL := TBL_in (by decide +kernel) (by decide +kernel)
theorem k_xs215 : (RX, 182, "no such kind of question") ∈ x_strs := by decide +kernel
