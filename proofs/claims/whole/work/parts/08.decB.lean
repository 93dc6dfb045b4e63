theorem dBL_init_0 : decode mBL_init.2.1 0 = .ok (.aload_n 0, 1) := by decide +kernel
theorem dBL_init_1 : decode mBL_init.2.1 1 = .ok (.invokespecial 3, 3) := by decide +kernel
theorem dBL_init_4 : decode mBL_init.2.1 4 = .ok (.aload_n 0, 1) := by decide +kernel
theorem dBL_init_5 : decode mBL_init.2.1 5 = .ok (.bipush 70, 2) := by decide +kernel
theorem dBL_init_7 : decode mBL_init.2.1 7 = .ok (.anewarray 9, 3) := by decide +kernel
theorem dBL_init_10 : decode mBL_init.2.1 10 = .ok (.putfield 11, 3) := by decide +kernel
theorem dBL_init_13 : decode mBL_init.2.1 13 = .ok (.aload_n 0, 1) := by decide +kernel
theorem dBL_init_14 : decode mBL_init.2.1 14 = .ok (.iconst 0, 1) := by decide +kernel
theorem dBL_init_15 : decode mBL_init.2.1 15 = .ok (.putfield 15, 3) := by decide +kernel
theorem dBL_init_18 : decode mBL_init.2.1 18 = .ok (.aload_n 0, 1) := by decide +kernel
theorem dBL_init_19 : decode mBL_init.2.1 19 = .ok (.new 19, 3) := by decide +kernel
theorem dBL_init_22 : decode mBL_init.2.1 22 = .ok (.dup, 1) := by decide +kernel
theorem dBL_init_23 : decode mBL_init.2.1 23 = .ok (.invokespecial 21, 3) := by decide +kernel
theorem dBL_init_26 : decode mBL_init.2.1 26 = .ok (.putfield 22, 3) := by decide +kernel
theorem dBL_init_29 : decode mBL_init.2.1 29 = .ok (.aload_n 0, 1) := by decide +kernel
theorem dBL_init_30 : decode mBL_init.2.1 30 = .ok (.new 19, 3) := by decide +kernel
theorem dBL_init_33 : decode mBL_init.2.1 33 = .ok (.dup, 1) := by decide +kernel
theorem dBL_init_34 : decode mBL_init.2.1 34 = .ok (.invokespecial 21, 3) := by decide +kernel
theorem dBL_init_37 : decode mBL_init.2.1 37 = .ok (.putfield 26, 3) := by decide +kernel
theorem dBL_init_40 : decode mBL_init.2.1 40 = .ok (.aload_n 0, 1) := by decide +kernel
theorem dBL_init_41 : decode mBL_init.2.1 41 = .ok (.new 29, 3) := by decide +kernel
theorem dBL_init_44 : decode mBL_init.2.1 44 = .ok (.dup, 1) := by decide +kernel
theorem dBL_init_45 : decode mBL_init.2.1 45 = .ok (.invokespecial 31, 3) := by decide +kernel
theorem dBL_init_48 : decode mBL_init.2.1 48 = .ok (.putfield 32, 3) := by decide +kernel
theorem dBL_init_51 : decode mBL_init.2.1 51 = .ok (.aload_n 0, 1) := by decide +kernel
theorem dBL_init_52 : decode mBL_init.2.1 52 = .ok (.new 36, 3) := by decide +kernel
theorem dBL_init_55 : decode mBL_init.2.1 55 = .ok (.dup, 1) := by decide +kernel
theorem dBL_init_56 : decode mBL_init.2.1 56 = .ok (.invokespecial 38, 3) := by decide +kernel
theorem dBL_init_59 : decode mBL_init.2.1 59 = .ok (.putfield 39, 3) := by decide +kernel
theorem dBL_init_62 : decode mBL_init.2.1 62 = .ok (.aload_n 0, 1) := by decide +kernel
theorem dBL_init_63 : decode mBL_init.2.1 63 = .ok (.new 36, 3) := by decide +kernel
theorem dBL_init_66 : decode mBL_init.2.1 66 = .ok (.dup, 1) := by decide +kernel
theorem dBL_init_67 : decode mBL_init.2.1 67 = .ok (.invokespecial 38, 3) := by decide +kernel
theorem dBL_init_70 : decode mBL_init.2.1 70 = .ok (.putfield 43, 3) := by decide +kernel
theorem dBL_init_73 : decode mBL_init.2.1 73 = .ok (.aload_n 0, 1) := by decide +kernel
theorem dBL_init_74 : decode mBL_init.2.1 74 = .ok (.new 46, 3) := by decide +kernel
theorem dBL_init_77 : decode mBL_init.2.1 77 = .ok (.dup, 1) := by decide +kernel
theorem dBL_init_78 : decode mBL_init.2.1 78 = .ok (.invokespecial 48, 3) := by decide +kernel
theorem dBL_init_81 : decode mBL_init.2.1 81 = .ok (.putfield 49, 3) := by decide +kernel
theorem dBL_init_84 : decode mBL_init.2.1 84 = .ok (.aload_n 0, 1) := by decide +kernel
theorem dBL_init_85 : decode mBL_init.2.1 85 = .ok (.new 53, 3) := by decide +kernel
theorem dBL_init_88 : decode mBL_init.2.1 88 = .ok (.dup, 1) := by decide +kernel
theorem dBL_init_89 : decode mBL_init.2.1 89 = .ok (.sipush 1130, 3) := by decide +kernel
theorem dBL_init_92 : decode mBL_init.2.1 92 = .ok (.invokespecial 55, 3) := by decide +kernel
theorem dBL_init_95 : decode mBL_init.2.1 95 = .ok (.putfield 58, 3) := by decide +kernel
theorem dBL_init_98 : decode mBL_init.2.1 98 = .ok (.return_, 1) := by decide +kernel
theorem dBL_haul_0 : decode mBL_haul.2.1 0 = .ok (.lload_n 1, 1) := by decide +kernel
theorem dBL_haul_1 : decode mBL_haul.2.1 1 = .ok (.invokestatic 62, 3) := by decide +kernel
theorem dBL_haul_4 : decode mBL_haul.2.1 4 = .ok (.ifCond .eq 23, 3) := by decide +kernel
theorem dBL_haul_7 : decode mBL_haul.2.1 7 = .ok (.iload_n 3, 1) := by decide +kernel
theorem dBL_haul_8 : decode mBL_haul.2.1 8 = .ok (.sipush 999, 3) := by decide +kernel
theorem dBL_haul_11 : decode mBL_haul.2.1 11 = .ok (.invokestatic 66, 3) := by decide +kernel
theorem dBL_haul_14 : decode mBL_haul.2.1 14 = .ok (.ifCond .eq 13, 3) := by decide +kernel
theorem dBL_haul_17 : decode mBL_haul.2.1 17 = .ok (.iload 4, 2) := by decide +kernel
theorem dBL_haul_19 : decode mBL_haul.2.1 19 = .ok (.ldc 70, 2) := by decide +kernel
theorem dBL_haul_21 : decode mBL_haul.2.1 21 = .ok (.invokestatic 66, 3) := by decide +kernel
theorem dBL_haul_24 : decode mBL_haul.2.1 24 = .ok (.ifCond .ne 5, 3) := by decide +kernel
theorem dBL_haul_27 : decode mBL_haul.2.1 27 = .ok (.iconst (-1), 1) := by decide +kernel
theorem dBL_haul_28 : decode mBL_haul.2.1 28 = .ok (.ireturn, 1) := by decide +kernel
theorem dBL_haul_29 : decode mBL_haul.2.1 29 = .ok (.aload_n 0, 1) := by decide +kernel
theorem dBL_haul_30 : decode mBL_haul.2.1 30 = .ok (.invokevirtual 71, 3) := by decide +kernel
theorem dBL_haul_33 : decode mBL_haul.2.1 33 = .ok (.ifCond .eq 5, 3) := by decide +kernel
theorem dBL_haul_36 : decode mBL_haul.2.1 36 = .ok (.iconst (-1), 1) := by decide +kernel
theorem dBL_haul_37 : decode mBL_haul.2.1 37 = .ok (.ireturn, 1) := by decide +kernel
theorem dBL_haul_38 : decode mBL_haul.2.1 38 = .ok (.new 9, 3) := by decide +kernel
theorem dBL_haul_41 : decode mBL_haul.2.1 41 = .ok (.dup, 1) := by decide +kernel
theorem dBL_haul_42 : decode mBL_haul.2.1 42 = .ok (.iconst 1, 1) := by decide +kernel
theorem dBL_haul_43 : decode mBL_haul.2.1 43 = .ok (.iload_n 3, 1) := by decide +kernel
theorem dBL_haul_44 : decode mBL_haul.2.1 44 = .ok (.iload 4, 2) := by decide +kernel
theorem dBL_haul_46 : decode mBL_haul.2.1 46 = .ok (.invokespecial 75, 3) := by decide +kernel
theorem dBL_haul_49 : decode mBL_haul.2.1 49 = .ok (.astore 5, 2) := by decide +kernel
theorem dBL_haul_51 : decode mBL_haul.2.1 51 = .ok (.aload 5, 2) := by decide +kernel
theorem dBL_haul_53 : decode mBL_haul.2.1 53 = .ok (.lload_n 1, 1) := by decide +kernel
theorem dBL_haul_54 : decode mBL_haul.2.1 54 = .ok (.putfield 78, 3) := by decide +kernel
theorem dBL_haul_57 : decode mBL_haul.2.1 57 = .ok (.aload 5, 2) := by decide +kernel
theorem dBL_haul_59 : decode mBL_haul.2.1 59 = .ok (.getfield 82, 3) := by decide +kernel
theorem dBL_haul_62 : decode mBL_haul.2.1 62 = .ok (.aload_n 0, 1) := by decide +kernel
theorem dBL_haul_63 : decode mBL_haul.2.1 63 = .ok (.getfield 15, 3) := by decide +kernel
theorem dBL_haul_66 : decode mBL_haul.2.1 66 = .ok (.lload_n 1, 1) := by decide +kernel
theorem dBL_haul_67 : decode mBL_haul.2.1 67 = .ok (.invokevirtual 86, 3) := by decide +kernel
theorem dBL_haul_70 : decode mBL_haul.2.1 70 = .ok (.aload_n 0, 1) := by decide +kernel
theorem dBL_haul_71 : decode mBL_haul.2.1 71 = .ok (.aload 5, 2) := by decide +kernel
theorem dBL_haul_73 : decode mBL_haul.2.1 73 = .ok (.invokevirtual 92, 3) := by decide +kernel
theorem dBL_haul_76 : decode mBL_haul.2.1 76 = .ok (.ireturn, 1) := by decide +kernel
theorem dBL_isWeight_0 : decode mBL_isWeight.2.1 0 = .ok (.lload_n 0, 1) := by decide +kernel
theorem dBL_isWeight_1 : decode mBL_isWeight.2.1 1 = .ok (.lconst 1, 1) := by decide +kernel
theorem dBL_isWeight_2 : decode mBL_isWeight.2.1 2 = .ok (.lcmp, 1) := by decide +kernel
theorem dBL_isWeight_3 : decode mBL_isWeight.2.1 3 = .ok (.ifCond .lt 15, 3) := by decide +kernel
theorem dBL_isWeight_6 : decode mBL_isWeight.2.1 6 = .ok (.lload_n 0, 1) := by decide +kernel
theorem dBL_isWeight_7 : decode mBL_isWeight.2.1 7 = .ok (.ldc2_w 243, 3) := by decide +kernel
theorem dBL_isWeight_10 : decode mBL_isWeight.2.1 10 = .ok (.lcmp, 1) := by decide +kernel
theorem dBL_isWeight_11 : decode mBL_isWeight.2.1 11 = .ok (.ifCond .gt 7, 3) := by decide +kernel
theorem dBL_isWeight_14 : decode mBL_isWeight.2.1 14 = .ok (.iconst 1, 1) := by decide +kernel
theorem dBL_isWeight_15 : decode mBL_isWeight.2.1 15 = .ok (.goto 4, 3) := by decide +kernel
theorem dBL_isWeight_18 : decode mBL_isWeight.2.1 18 = .ok (.iconst 0, 1) := by decide +kernel
theorem dBL_isWeight_19 : decode mBL_isWeight.2.1 19 = .ok (.ireturn, 1) := by decide +kernel
theorem dBL_isWithin_0 : decode mBL_isWithin.2.1 0 = .ok (.iload_n 0, 1) := by decide +kernel
theorem dBL_isWithin_1 : decode mBL_isWithin.2.1 1 = .ok (.ifCond .lt 12, 3) := by decide +kernel
theorem dBL_isWithin_4 : decode mBL_isWithin.2.1 4 = .ok (.iload_n 0, 1) := by decide +kernel
theorem dBL_isWithin_5 : decode mBL_isWithin.2.1 5 = .ok (.iload_n 1, 1) := by decide +kernel
theorem dBL_isWithin_6 : decode mBL_isWithin.2.1 6 = .ok (.if_icmp .gt 7, 3) := by decide +kernel
theorem dBL_isWithin_9 : decode mBL_isWithin.2.1 9 = .ok (.iconst 1, 1) := by decide +kernel
theorem dBL_isWithin_10 : decode mBL_isWithin.2.1 10 = .ok (.goto 4, 3) := by decide +kernel
theorem dBL_isWithin_13 : decode mBL_isWithin.2.1 13 = .ok (.iconst 0, 1) := by decide +kernel
theorem dBL_isWithin_14 : decode mBL_isWithin.2.1 14 = .ok (.ireturn, 1) := by decide +kernel
theorem dBL_isFull_0 : decode mBL_isFull.2.1 0 = .ok (.aload_n 0, 1) := by decide +kernel
theorem dBL_isFull_1 : decode mBL_isFull.2.1 1 = .ok (.getfield 15, 3) := by decide +kernel
theorem dBL_isFull_4 : decode mBL_isFull.2.1 4 = .ok (.aload_n 0, 1) := by decide +kernel
theorem dBL_isFull_5 : decode mBL_isFull.2.1 5 = .ok (.getfield 11, 3) := by decide +kernel
theorem dBL_isFull_8 : decode mBL_isFull.2.1 8 = .ok (.arraylength, 1) := by decide +kernel
theorem dBL_isFull_9 : decode mBL_isFull.2.1 9 = .ok (.if_icmp .lt 7, 3) := by decide +kernel
theorem dBL_isFull_12 : decode mBL_isFull.2.1 12 = .ok (.iconst 1, 1) := by decide +kernel
theorem dBL_isFull_13 : decode mBL_isFull.2.1 13 = .ok (.goto 4, 3) := by decide +kernel
theorem dBL_isFull_16 : decode mBL_isFull.2.1 16 = .ok (.iconst 0, 1) := by decide +kernel
theorem dBL_isFull_17 : decode mBL_isFull.2.1 17 = .ok (.ireturn, 1) := by decide +kernel
theorem dBL_keep_0 : decode mBL_keep.2.1 0 = .ok (.aload_n 0, 1) := by decide +kernel
theorem dBL_keep_1 : decode mBL_keep.2.1 1 = .ok (.invokevirtual 71, 3) := by decide +kernel
theorem dBL_keep_4 : decode mBL_keep.2.1 4 = .ok (.ifCond .eq 5, 3) := by decide +kernel
theorem dBL_keep_7 : decode mBL_keep.2.1 7 = .ok (.iconst (-1), 1) := by decide +kernel
theorem dBL_keep_8 : decode mBL_keep.2.1 8 = .ok (.ireturn, 1) := by decide +kernel
theorem dBL_keep_9 : decode mBL_keep.2.1 9 = .ok (.aload_n 0, 1) := by decide +kernel
theorem dBL_keep_10 : decode mBL_keep.2.1 10 = .ok (.getfield 11, 3) := by decide +kernel
theorem dBL_keep_13 : decode mBL_keep.2.1 13 = .ok (.aload_n 0, 1) := by decide +kernel
theorem dBL_keep_14 : decode mBL_keep.2.1 14 = .ok (.getfield 15, 3) := by decide +kernel
theorem dBL_keep_17 : decode mBL_keep.2.1 17 = .ok (.aload_n 1, 1) := by decide +kernel
theorem dBL_keep_18 : decode mBL_keep.2.1 18 = .ok (.aastore, 1) := by decide +kernel
theorem dBL_keep_19 : decode mBL_keep.2.1 19 = .ok (.aload_n 0, 1) := by decide +kernel
theorem dBL_keep_20 : decode mBL_keep.2.1 20 = .ok (.dup, 1) := by decide +kernel
theorem dBL_keep_21 : decode mBL_keep.2.1 21 = .ok (.getfield 15, 3) := by decide +kernel
theorem dBL_keep_24 : decode mBL_keep.2.1 24 = .ok (.iconst 1, 1) := by decide +kernel
theorem dBL_keep_25 : decode mBL_keep.2.1 25 = .ok (.iadd, 1) := by decide +kernel
theorem dBL_keep_26 : decode mBL_keep.2.1 26 = .ok (.putfield 15, 3) := by decide +kernel
theorem dBL_keep_29 : decode mBL_keep.2.1 29 = .ok (.aload_n 0, 1) := by decide +kernel
theorem dBL_keep_30 : decode mBL_keep.2.1 30 = .ok (.getfield 15, 3) := by decide +kernel
theorem dBL_keep_33 : decode mBL_keep.2.1 33 = .ok (.iconst 1, 1) := by decide +kernel
theorem dBL_keep_34 : decode mBL_keep.2.1 34 = .ok (.isub, 1) := by decide +kernel
theorem dBL_keep_35 : decode mBL_keep.2.1 35 = .ok (.ireturn, 1) := by decide +kernel
theorem dBL_batch_0 : decode mBL_batch.2.1 0 = .ok (.aload_n 0, 1) := by decide +kernel
theorem dBL_batch_1 : decode mBL_batch.2.1 1 = .ok (.invokevirtual 71, 3) := by decide +kernel
theorem dBL_batch_4 : decode mBL_batch.2.1 4 = .ok (.ifCond .eq 5, 3) := by decide +kernel
theorem dBL_batch_7 : decode mBL_batch.2.1 7 = .ok (.iconst (-1), 1) := by decide +kernel
theorem dBL_batch_8 : decode mBL_batch.2.1 8 = .ok (.ireturn, 1) := by decide +kernel
theorem dBL_batch_9 : decode mBL_batch.2.1 9 = .ok (.aload_n 0, 1) := by decide +kernel
theorem dBL_batch_10 : decode mBL_batch.2.1 10 = .ok (.new 9, 3) := by decide +kernel
theorem dBL_batch_13 : decode mBL_batch.2.1 13 = .ok (.dup, 1) := by decide +kernel
theorem dBL_batch_14 : decode mBL_batch.2.1 14 = .ok (.iconst 2, 1) := by decide +kernel
theorem dBL_batch_15 : decode mBL_batch.2.1 15 = .ok (.iconst 0, 1) := by decide +kernel
theorem dBL_batch_16 : decode mBL_batch.2.1 16 = .ok (.iconst 0, 1) := by decide +kernel
theorem dBL_batch_17 : decode mBL_batch.2.1 17 = .ok (.invokespecial 75, 3) := by decide +kernel
theorem dBL_batch_20 : decode mBL_batch.2.1 20 = .ok (.invokevirtual 92, 3) := by decide +kernel
theorem dBL_batch_23 : decode mBL_batch.2.1 23 = .ok (.ireturn, 1) := by decide +kernel
theorem dBL_into_0 : decode mBL_into.2.1 0 = .ok (.aload_n 0, 1) := by decide +kernel
theorem dBL_into_1 : decode mBL_into.2.1 1 = .ok (.iload_n 1, 1) := by decide +kernel
theorem dBL_into_2 : decode mBL_into.2.1 2 = .ok (.invokevirtual 96, 3) := by decide +kernel
theorem dBL_into_5 : decode mBL_into.2.1 5 = .ok (.astore 5, 2) := by decide +kernel
theorem dBL_into_7 : decode mBL_into.2.1 7 = .ok (.aload_n 0, 1) := by decide +kernel
theorem dBL_into_8 : decode mBL_into.2.1 8 = .ok (.iload_n 2, 1) := by decide +kernel
theorem dBL_into_9 : decode mBL_into.2.1 9 = .ok (.invokevirtual 96, 3) := by decide +kernel
theorem dBL_into_12 : decode mBL_into.2.1 12 = .ok (.astore 6, 2) := by decide +kernel
theorem dBL_into_14 : decode mBL_into.2.1 14 = .ok (.aload 5, 2) := by decide +kernel
theorem dBL_into_16 : decode mBL_into.2.1 16 = .ok (.ifnull 15, 3) := by decide +kernel
theorem dBL_into_19 : decode mBL_into.2.1 19 = .ok (.aload 6, 2) := by decide +kernel
theorem dBL_into_21 : decode mBL_into.2.1 21 = .ok (.ifnull 10, 3) := by decide +kernel
theorem dBL_into_24 : decode mBL_into.2.1 24 = .ok (.aload 5, 2) := by decide +kernel
theorem dBL_into_26 : decode mBL_into.2.1 26 = .ok (.aload 6, 2) := by decide +kernel
theorem dBL_into_28 : decode mBL_into.2.1 28 = .ok (.if_acmp .ne 5, 3) := by decide +kernel
theorem dBL_into_31 : decode mBL_into.2.1 31 = .ok (.iconst 0, 1) := by decide +kernel
theorem dBL_into_32 : decode mBL_into.2.1 32 = .ok (.ireturn, 1) := by decide +kernel
theorem dBL_into_33 : decode mBL_into.2.1 33 = .ok (.aload 5, 2) := by decide +kernel
theorem dBL_into_35 : decode mBL_into.2.1 35 = .ok (.getfield 100, 3) := by decide +kernel
theorem dBL_into_38 : decode mBL_into.2.1 38 = .ok (.iconst 2, 1) := by decide +kernel
theorem dBL_into_39 : decode mBL_into.2.1 39 = .ok (.if_icmp .ne 12, 3) := by decide +kernel
theorem dBL_into_42 : decode mBL_into.2.1 42 = .ok (.aload 6, 2) := by decide +kernel
theorem dBL_into_44 : decode mBL_into.2.1 44 = .ok (.getfield 100, 3) := by decide +kernel
theorem dBL_into_47 : decode mBL_into.2.1 47 = .ok (.iconst 3, 1) := by decide +kernel
theorem dBL_into_48 : decode mBL_into.2.1 48 = .ok (.if_icmp .ne 5, 3) := by decide +kernel
theorem dBL_into_51 : decode mBL_into.2.1 51 = .ok (.iconst 0, 1) := by decide +kernel
theorem dBL_into_52 : decode mBL_into.2.1 52 = .ok (.ireturn, 1) := by decide +kernel
theorem dBL_into_53 : decode mBL_into.2.1 53 = .ok (.aload 5, 2) := by decide +kernel
theorem dBL_into_55 : decode mBL_into.2.1 55 = .ok (.getfield 103, 3) := by decide +kernel
theorem dBL_into_58 : decode mBL_into.2.1 58 = .ok (.ifCond .ne 23, 3) := by decide +kernel
theorem dBL_into_61 : decode mBL_into.2.1 61 = .ok (.aload 6, 2) := by decide +kernel
theorem dBL_into_63 : decode mBL_into.2.1 63 = .ok (.getfield 103, 3) := by decide +kernel
theorem dBL_into_66 : decode mBL_into.2.1 66 = .ok (.ifCond .ne 15, 3) := by decide +kernel
theorem dBL_into_69 : decode mBL_into.2.1 69 = .ok (.aload 6, 2) := by decide +kernel
theorem dBL_into_71 : decode mBL_into.2.1 71 = .ok (.getfield 82, 3) := by decide +kernel
theorem dBL_into_74 : decode mBL_into.2.1 74 = .ok (.lload_n 3, 1) := by decide +kernel
theorem dBL_into_75 : decode mBL_into.2.1 75 = .ok (.invokevirtual 107, 3) := by decide +kernel
theorem dBL_into_78 : decode mBL_into.2.1 78 = .ok (.ifCond .ne 5, 3) := by decide +kernel
theorem dBL_into_81 : decode mBL_into.2.1 81 = .ok (.iconst 0, 1) := by decide +kernel
theorem dBL_into_82 : decode mBL_into.2.1 82 = .ok (.ireturn, 1) := by decide +kernel
theorem dBL_into_83 : decode mBL_into.2.1 83 = .ok (.aload 5, 2) := by decide +kernel
theorem dBL_into_85 : decode mBL_into.2.1 85 = .ok (.getfield 82, 3) := by decide +kernel
theorem dBL_into_88 : decode mBL_into.2.1 88 = .ok (.aload 6, 2) := by decide +kernel
theorem dBL_into_90 : decode mBL_into.2.1 90 = .ok (.getfield 82, 3) := by decide +kernel
theorem dBL_into_93 : decode mBL_into.2.1 93 = .ok (.lload_n 3, 1) := by decide +kernel
theorem dBL_into_94 : decode mBL_into.2.1 94 = .ok (.invokevirtual 110, 3) := by decide +kernel
theorem dBL_into_97 : decode mBL_into.2.1 97 = .ok (.bipush 80, 2) := by decide +kernel
theorem dBL_into_99 : decode mBL_into.2.1 99 = .ok (.if_icmp .le 5, 3) := by decide +kernel
theorem dBL_into_102 : decode mBL_into.2.1 102 = .ok (.iconst 0, 1) := by decide +kernel
theorem dBL_into_103 : decode mBL_into.2.1 103 = .ok (.ireturn, 1) := by decide +kernel
theorem dBL_into_104 : decode mBL_into.2.1 104 = .ok (.aload 5, 2) := by decide +kernel
theorem dBL_into_106 : decode mBL_into.2.1 106 = .ok (.aload 6, 2) := by decide +kernel
theorem dBL_into_108 : decode mBL_into.2.1 108 = .ok (.lload_n 3, 1) := by decide +kernel
theorem dBL_into_109 : decode mBL_into.2.1 109 = .ok (.invokevirtual 114, 3) := by decide +kernel
theorem dBL_into_112 : decode mBL_into.2.1 112 = .ok (.iconst 1, 1) := by decide +kernel
theorem dBL_into_113 : decode mBL_into.2.1 113 = .ok (.ireturn, 1) := by decide +kernel
theorem dBL_find_0 : decode mBL_find.2.1 0 = .ok (.iload_n 1, 1) := by decide +kernel
theorem dBL_find_1 : decode mBL_find.2.1 1 = .ok (.ifCond .lt 20, 3) := by decide +kernel
theorem dBL_find_4 : decode mBL_find.2.1 4 = .ok (.iload_n 1, 1) := by decide +kernel
theorem dBL_find_5 : decode mBL_find.2.1 5 = .ok (.aload_n 0, 1) := by decide +kernel
theorem dBL_find_6 : decode mBL_find.2.1 6 = .ok (.getfield 15, 3) := by decide +kernel
theorem dBL_find_9 : decode mBL_find.2.1 9 = .ok (.if_icmp .ge 12, 3) := by decide +kernel
theorem dBL_find_12 : decode mBL_find.2.1 12 = .ok (.aload_n 0, 1) := by decide +kernel
theorem dBL_find_13 : decode mBL_find.2.1 13 = .ok (.getfield 11, 3) := by decide +kernel
theorem dBL_find_16 : decode mBL_find.2.1 16 = .ok (.iload_n 1, 1) := by decide +kernel
theorem dBL_find_17 : decode mBL_find.2.1 17 = .ok (.aaload, 1) := by decide +kernel
theorem dBL_find_18 : decode mBL_find.2.1 18 = .ok (.goto 4, 3) := by decide +kernel
theorem dBL_find_21 : decode mBL_find.2.1 21 = .ok (.aconst_null, 1) := by decide +kernel
theorem dBL_find_22 : decode mBL_find.2.1 22 = .ok (.areturn, 1) := by decide +kernel
theorem dBL_box_0 : decode mBL_box.2.1 0 = .ok (.aload_n 0, 1) := by decide +kernel
theorem dBL_box_1 : decode mBL_box.2.1 1 = .ok (.iload_n 1, 1) := by decide +kernel
theorem dBL_box_2 : decode mBL_box.2.1 2 = .ok (.invokevirtual 96, 3) := by decide +kernel
theorem dBL_box_5 : decode mBL_box.2.1 5 = .ok (.astore 5, 2) := by decide +kernel
theorem dBL_box_7 : decode mBL_box.2.1 7 = .ok (.aload 5, 2) := by decide +kernel
theorem dBL_box_9 : decode mBL_box.2.1 9 = .ok (.ifnull 22, 3) := by decide +kernel
theorem dBL_box_12 : decode mBL_box.2.1 12 = .ok (.aload 5, 2) := by decide +kernel
theorem dBL_box_14 : decode mBL_box.2.1 14 = .ok (.getfield 100, 3) := by decide +kernel
theorem dBL_box_17 : decode mBL_box.2.1 17 = .ok (.iconst 3, 1) := by decide +kernel
theorem dBL_box_18 : decode mBL_box.2.1 18 = .ok (.if_icmp .eq 13, 3) := by decide +kernel
theorem dBL_box_21 : decode mBL_box.2.1 21 = .ok (.iload 4, 2) := by decide +kernel
theorem dBL_box_23 : decode mBL_box.2.1 23 = .ok (.bipush 99, 2) := by decide +kernel
theorem dBL_box_25 : decode mBL_box.2.1 25 = .ok (.invokestatic 66, 3) := by decide +kernel
theorem dBL_box_28 : decode mBL_box.2.1 28 = .ok (.ifCond .ne 5, 3) := by decide +kernel
theorem dBL_box_31 : decode mBL_box.2.1 31 = .ok (.iconst (-1), 1) := by decide +kernel
theorem dBL_box_32 : decode mBL_box.2.1 32 = .ok (.ireturn, 1) := by decide +kernel
theorem dBL_box_33 : decode mBL_box.2.1 33 = .ok (.aload 5, 2) := by decide +kernel
theorem dBL_box_35 : decode mBL_box.2.1 35 = .ok (.getfield 103, 3) := by decide +kernel
theorem dBL_box_38 : decode mBL_box.2.1 38 = .ok (.ifCond .ne 15, 3) := by decide +kernel
theorem dBL_box_41 : decode mBL_box.2.1 41 = .ok (.aload 5, 2) := by decide +kernel
theorem dBL_box_43 : decode mBL_box.2.1 43 = .ok (.getfield 82, 3) := by decide +kernel
theorem dBL_box_46 : decode mBL_box.2.1 46 = .ok (.lload_n 2, 1) := by decide +kernel
theorem dBL_box_47 : decode mBL_box.2.1 47 = .ok (.invokevirtual 107, 3) := by decide +kernel
theorem dBL_box_50 : decode mBL_box.2.1 50 = .ok (.ifCond .ne 5, 3) := by decide +kernel
theorem dBL_box_53 : decode mBL_box.2.1 53 = .ok (.iconst (-1), 1) := by decide +kernel
theorem dBL_box_54 : decode mBL_box.2.1 54 = .ok (.ireturn, 1) := by decide +kernel
theorem dBL_box_55 : decode mBL_box.2.1 55 = .ok (.aload 5, 2) := by decide +kernel
theorem dBL_box_57 : decode mBL_box.2.1 57 = .ok (.getfield 82, 3) := by decide +kernel
theorem dBL_box_60 : decode mBL_box.2.1 60 = .ok (.lload_n 2, 1) := by decide +kernel
theorem dBL_box_61 : decode mBL_box.2.1 61 = .ok (.invokevirtual 118, 3) := by decide +kernel
theorem dBL_box_64 : decode mBL_box.2.1 64 = .ok (.bipush 80, 2) := by decide +kernel
theorem dBL_box_66 : decode mBL_box.2.1 66 = .ok (.if_icmp .gt 10, 3) := by decide +kernel
theorem dBL_box_69 : decode mBL_box.2.1 69 = .ok (.aload_n 0, 1) := by decide +kernel
theorem dBL_box_70 : decode mBL_box.2.1 70 = .ok (.invokevirtual 71, 3) := by decide +kernel
theorem dBL_box_73 : decode mBL_box.2.1 73 = .ok (.ifCond .eq 5, 3) := by decide +kernel
theorem dBL_box_76 : decode mBL_box.2.1 76 = .ok (.iconst (-1), 1) := by decide +kernel
theorem dBL_box_77 : decode mBL_box.2.1 77 = .ok (.ireturn, 1) := by decide +kernel
theorem dBL_box_78 : decode mBL_box.2.1 78 = .ok (.new 9, 3) := by decide +kernel
theorem dBL_box_81 : decode mBL_box.2.1 81 = .ok (.dup, 1) := by decide +kernel
theorem dBL_box_82 : decode mBL_box.2.1 82 = .ok (.iconst 3, 1) := by decide +kernel
theorem dBL_box_83 : decode mBL_box.2.1 83 = .ok (.iload 4, 2) := by decide +kernel
theorem dBL_box_85 : decode mBL_box.2.1 85 = .ok (.iconst 0, 1) := by decide +kernel
theorem dBL_box_86 : decode mBL_box.2.1 86 = .ok (.invokespecial 75, 3) := by decide +kernel
theorem dBL_box_89 : decode mBL_box.2.1 89 = .ok (.astore 6, 2) := by decide +kernel
theorem dBL_box_91 : decode mBL_box.2.1 91 = .ok (.aload 6, 2) := by decide +kernel
theorem dBL_box_93 : decode mBL_box.2.1 93 = .ok (.aload 5, 2) := by decide +kernel
theorem dBL_box_95 : decode mBL_box.2.1 95 = .ok (.lload_n 2, 1) := by decide +kernel
theorem dBL_box_96 : decode mBL_box.2.1 96 = .ok (.invokevirtual 114, 3) := by decide +kernel
theorem dBL_box_99 : decode mBL_box.2.1 99 = .ok (.aload_n 0, 1) := by decide +kernel
theorem dBL_box_100 : decode mBL_box.2.1 100 = .ok (.aload 6, 2) := by decide +kernel
theorem dBL_box_102 : decode mBL_box.2.1 102 = .ok (.invokevirtual 92, 3) := by decide +kernel
theorem dBL_box_105 : decode mBL_box.2.1 105 = .ok (.ireturn, 1) := by decide +kernel
theorem dBL_waste_0 : decode mBL_waste.2.1 0 = .ok (.aload_n 0, 1) := by decide +kernel
theorem dBL_waste_1 : decode mBL_waste.2.1 1 = .ok (.iload_n 1, 1) := by decide +kernel
theorem dBL_waste_2 : decode mBL_waste.2.1 2 = .ok (.invokevirtual 96, 3) := by decide +kernel
theorem dBL_waste_5 : decode mBL_waste.2.1 5 = .ok (.astore 4, 2) := by decide +kernel
theorem dBL_waste_7 : decode mBL_waste.2.1 7 = .ok (.aload 4, 2) := by decide +kernel
theorem dBL_waste_9 : decode mBL_waste.2.1 9 = .ok (.ifnull 15, 3) := by decide +kernel
theorem dBL_waste_12 : decode mBL_waste.2.1 12 = .ok (.aload 4, 2) := by decide +kernel
theorem dBL_waste_14 : decode mBL_waste.2.1 14 = .ok (.getfield 82, 3) := by decide +kernel
theorem dBL_waste_17 : decode mBL_waste.2.1 17 = .ok (.lload_n 2, 1) := by decide +kernel
theorem dBL_waste_18 : decode mBL_waste.2.1 18 = .ok (.invokevirtual 107, 3) := by decide +kernel
theorem dBL_waste_21 : decode mBL_waste.2.1 21 = .ok (.ifCond .ne 7, 3) := by decide +kernel
theorem dBL_waste_24 : decode mBL_waste.2.1 24 = .ok (.ldc2_w 122, 3) := by decide +kernel
theorem dBL_waste_27 : decode mBL_waste.2.1 27 = .ok (.lreturn, 1) := by decide +kernel
theorem dBL_waste_28 : decode mBL_waste.2.1 28 = .ok (.aload 4, 2) := by decide +kernel
theorem dBL_waste_30 : decode mBL_waste.2.1 30 = .ok (.getfield 82, 3) := by decide +kernel
theorem dBL_waste_33 : decode mBL_waste.2.1 33 = .ok (.lload_n 2, 1) := by decide +kernel
theorem dBL_waste_34 : decode mBL_waste.2.1 34 = .ok (.invokevirtual 124, 3) := by decide +kernel
theorem dBL_waste_37 : decode mBL_waste.2.1 37 = .ok (.aload 4, 2) := by decide +kernel
theorem dBL_waste_39 : decode mBL_waste.2.1 39 = .ok (.dup, 1) := by decide +kernel
theorem dBL_waste_40 : decode mBL_waste.2.1 40 = .ok (.getfield 128, 3) := by decide +kernel
theorem dBL_waste_43 : decode mBL_waste.2.1 43 = .ok (.lload_n 2, 1) := by decide +kernel
theorem dBL_waste_44 : decode mBL_waste.2.1 44 = .ok (.ladd, 1) := by decide +kernel
theorem dBL_waste_45 : decode mBL_waste.2.1 45 = .ok (.putfield 128, 3) := by decide +kernel
theorem dBL_waste_48 : decode mBL_waste.2.1 48 = .ok (.aload 4, 2) := by decide +kernel
theorem dBL_waste_50 : decode mBL_waste.2.1 50 = .ok (.getfield 128, 3) := by decide +kernel
theorem dBL_waste_53 : decode mBL_waste.2.1 53 = .ok (.lreturn, 1) := by decide +kernel
theorem dBL_hold_0 : decode mBL_hold.2.1 0 = .ok (.aload_n 0, 1) := by decide +kernel
theorem dBL_hold_1 : decode mBL_hold.2.1 1 = .ok (.iload_n 1, 1) := by decide +kernel
theorem dBL_hold_2 : decode mBL_hold.2.1 2 = .ok (.invokevirtual 96, 3) := by decide +kernel
theorem dBL_hold_5 : decode mBL_hold.2.1 5 = .ok (.astore_n 3, 1) := by decide +kernel
theorem dBL_hold_6 : decode mBL_hold.2.1 6 = .ok (.aload_n 3, 1) := by decide +kernel
theorem dBL_hold_7 : decode mBL_hold.2.1 7 = .ok (.ifnonnull 5, 3) := by decide +kernel
theorem dBL_hold_10 : decode mBL_hold.2.1 10 = .ok (.iconst 0, 1) := by decide +kernel
theorem dBL_hold_11 : decode mBL_hold.2.1 11 = .ok (.ireturn, 1) := by decide +kernel
theorem dBL_hold_12 : decode mBL_hold.2.1 12 = .ok (.aload_n 3, 1) := by decide +kernel
theorem dBL_hold_13 : decode mBL_hold.2.1 13 = .ok (.iload_n 2, 1) := by decide +kernel
theorem dBL_hold_14 : decode mBL_hold.2.1 14 = .ok (.putfield 103, 3) := by decide +kernel
theorem dBL_hold_17 : decode mBL_hold.2.1 17 = .ok (.iconst 1, 1) := by decide +kernel
theorem dBL_hold_18 : decode mBL_hold.2.1 18 = .ok (.ireturn, 1) := by decide +kernel
theorem dBL_correct_0 : decode mBL_correct.2.1 0 = .ok (.aload_n 0, 1) := by decide +kernel
theorem dBL_correct_1 : decode mBL_correct.2.1 1 = .ok (.iload_n 1, 1) := by decide +kernel
theorem dBL_correct_2 : decode mBL_correct.2.1 2 = .ok (.invokevirtual 131, 3) := by decide +kernel
theorem dBL_correct_5 : decode mBL_correct.2.1 5 = .ok (.astore 4, 2) := by decide +kernel
theorem dBL_correct_7 : decode mBL_correct.2.1 7 = .ok (.aload 4, 2) := by decide +kernel
theorem dBL_correct_9 : decode mBL_correct.2.1 9 = .ok (.ifnull 10, 3) := by decide +kernel
theorem dBL_correct_12 : decode mBL_correct.2.1 12 = .ok (.lload_n 2, 1) := by decide +kernel
theorem dBL_correct_13 : decode mBL_correct.2.1 13 = .ok (.invokestatic 62, 3) := by decide +kernel
theorem dBL_correct_16 : decode mBL_correct.2.1 16 = .ok (.ifCond .ne 5, 3) := by decide +kernel
theorem dBL_correct_19 : decode mBL_correct.2.1 19 = .ok (.iconst 0, 1) := by decide +kernel
theorem dBL_correct_20 : decode mBL_correct.2.1 20 = .ok (.ireturn, 1) := by decide +kernel
theorem dBL_correct_21 : decode mBL_correct.2.1 21 = .ok (.aload 4, 2) := by decide +kernel
theorem dBL_correct_23 : decode mBL_correct.2.1 23 = .ok (.getfield 82, 3) := by decide +kernel
theorem dBL_correct_26 : decode mBL_correct.2.1 26 = .ok (.invokevirtual 134, 3) := by decide +kernel
theorem dBL_correct_29 : decode mBL_correct.2.1 29 = .ok (.lload_n 2, 1) := by decide +kernel
theorem dBL_correct_30 : decode mBL_correct.2.1 30 = .ok (.ladd, 1) := by decide +kernel
theorem dBL_correct_31 : decode mBL_correct.2.1 31 = .ok (.aload 4, 2) := by decide +kernel
theorem dBL_correct_33 : decode mBL_correct.2.1 33 = .ok (.getfield 78, 3) := by decide +kernel
theorem dBL_correct_36 : decode mBL_correct.2.1 36 = .ok (.lsub, 1) := by decide +kernel
theorem dBL_correct_37 : decode mBL_correct.2.1 37 = .ok (.lstore 5, 2) := by decide +kernel
theorem dBL_correct_39 : decode mBL_correct.2.1 39 = .ok (.lload 5, 2) := by decide +kernel
theorem dBL_correct_41 : decode mBL_correct.2.1 41 = .ok (.lconst 0, 1) := by decide +kernel
theorem dBL_correct_42 : decode mBL_correct.2.1 42 = .ok (.lcmp, 1) := by decide +kernel
theorem dBL_correct_43 : decode mBL_correct.2.1 43 = .ok (.ifCond .ge 5, 3) := by decide +kernel
theorem dBL_correct_46 : decode mBL_correct.2.1 46 = .ok (.iconst 0, 1) := by decide +kernel
theorem dBL_correct_47 : decode mBL_correct.2.1 47 = .ok (.ireturn, 1) := by decide +kernel
theorem dBL_correct_48 : decode mBL_correct.2.1 48 = .ok (.aload 4, 2) := by decide +kernel
theorem dBL_correct_50 : decode mBL_correct.2.1 50 = .ok (.lload_n 2, 1) := by decide +kernel
theorem dBL_correct_51 : decode mBL_correct.2.1 51 = .ok (.putfield 78, 3) := by decide +kernel
theorem dBL_correct_54 : decode mBL_correct.2.1 54 = .ok (.aload 4, 2) := by decide +kernel
theorem dBL_correct_56 : decode mBL_correct.2.1 56 = .ok (.getfield 82, 3) := by decide +kernel
theorem dBL_correct_59 : decode mBL_correct.2.1 59 = .ok (.invokevirtual 138, 3) := by decide +kernel
theorem dBL_correct_62 : decode mBL_correct.2.1 62 = .ok (.lload 5, 2) := by decide +kernel
theorem dBL_correct_64 : decode mBL_correct.2.1 64 = .ok (.lconst 0, 1) := by decide +kernel
theorem dBL_correct_65 : decode mBL_correct.2.1 65 = .ok (.lcmp, 1) := by decide +kernel
theorem dBL_correct_66 : decode mBL_correct.2.1 66 = .ok (.ifCond .le 14, 3) := by decide +kernel
theorem dBL_correct_69 : decode mBL_correct.2.1 69 = .ok (.aload 4, 2) := by decide +kernel
theorem dBL_correct_71 : decode mBL_correct.2.1 71 = .ok (.getfield 82, 3) := by decide +kernel
theorem dBL_correct_74 : decode mBL_correct.2.1 74 = .ok (.iload_n 1, 1) := by decide +kernel
theorem dBL_correct_75 : decode mBL_correct.2.1 75 = .ok (.lload 5, 2) := by decide +kernel
theorem dBL_correct_77 : decode mBL_correct.2.1 77 = .ok (.invokevirtual 86, 3) := by decide +kernel
theorem dBL_correct_80 : decode mBL_correct.2.1 80 = .ok (.iconst 1, 1) := by decide +kernel
theorem dBL_correct_81 : decode mBL_correct.2.1 81 = .ok (.ireturn, 1) := by decide +kernel
theorem dBL_findHaul_0 : decode mBL_findHaul.2.1 0 = .ok (.aload_n 0, 1) := by decide +kernel
theorem dBL_findHaul_1 : decode mBL_findHaul.2.1 1 = .ok (.iload_n 1, 1) := by decide +kernel
theorem dBL_findHaul_2 : decode mBL_findHaul.2.1 2 = .ok (.invokevirtual 96, 3) := by decide +kernel
theorem dBL_findHaul_5 : decode mBL_findHaul.2.1 5 = .ok (.astore_n 2, 1) := by decide +kernel
theorem dBL_findHaul_6 : decode mBL_findHaul.2.1 6 = .ok (.aload_n 2, 1) := by decide +kernel
theorem dBL_findHaul_7 : decode mBL_findHaul.2.1 7 = .ok (.ifnull 15, 3) := by decide +kernel
theorem dBL_findHaul_10 : decode mBL_findHaul.2.1 10 = .ok (.aload_n 2, 1) := by decide +kernel
theorem dBL_findHaul_11 : decode mBL_findHaul.2.1 11 = .ok (.getfield 100, 3) := by decide +kernel
theorem dBL_findHaul_14 : decode mBL_findHaul.2.1 14 = .ok (.iconst 1, 1) := by decide +kernel
theorem dBL_findHaul_15 : decode mBL_findHaul.2.1 15 = .ok (.if_icmp .ne 7, 3) := by decide +kernel
theorem dBL_findHaul_18 : decode mBL_findHaul.2.1 18 = .ok (.aload_n 2, 1) := by decide +kernel
theorem dBL_findHaul_19 : decode mBL_findHaul.2.1 19 = .ok (.goto 4, 3) := by decide +kernel
theorem dBL_findHaul_22 : decode mBL_findHaul.2.1 22 = .ok (.aconst_null, 1) := by decide +kernel
theorem dBL_findHaul_23 : decode mBL_findHaul.2.1 23 = .ok (.areturn, 1) := by decide +kernel
theorem dBL_told_0 : decode mBL_told.2.1 0 = .ok (.aload_n 0, 1) := by decide +kernel
theorem dBL_told_1 : decode mBL_told.2.1 1 = .ok (.iload_n 1, 1) := by decide +kernel
theorem dBL_told_2 : decode mBL_told.2.1 2 = .ok (.invokevirtual 96, 3) := by decide +kernel
theorem dBL_told_5 : decode mBL_told.2.1 5 = .ok (.astore_n 3, 1) := by decide +kernel
theorem dBL_told_6 : decode mBL_told.2.1 6 = .ok (.aload_n 3, 1) := by decide +kernel
theorem dBL_told_7 : decode mBL_told.2.1 7 = .ok (.ifnonnull 9, 3) := by decide +kernel
theorem dBL_told_10 : decode mBL_told.2.1 10 = .ok (.ldc2_w 122, 3) := by decide +kernel
theorem dBL_told_13 : decode mBL_told.2.1 13 = .ok (.goto 8, 3) := by decide +kernel
theorem dBL_told_16 : decode mBL_told.2.1 16 = .ok (.aload_n 3, 1) := by decide +kernel
theorem dBL_told_17 : decode mBL_told.2.1 17 = .ok (.iload_n 2, 1) := by decide +kernel
theorem dBL_told_18 : decode mBL_told.2.1 18 = .ok (.invokevirtual 141, 3) := by decide +kernel
theorem dBL_told_21 : decode mBL_told.2.1 21 = .ok (.lreturn, 1) := by decide +kernel
theorem dBL_layer_0 : decode mBL_layer.2.1 0 = .ok (.aload_n 0, 1) := by decide +kernel
theorem dBL_layer_1 : decode mBL_layer.2.1 1 = .ok (.iload_n 1, 1) := by decide +kernel
theorem dBL_layer_2 : decode mBL_layer.2.1 2 = .ok (.invokevirtual 96, 3) := by decide +kernel
theorem dBL_layer_5 : decode mBL_layer.2.1 5 = .ok (.astore 4, 2) := by decide +kernel
theorem dBL_layer_7 : decode mBL_layer.2.1 7 = .ok (.aload 4, 2) := by decide +kernel
theorem dBL_layer_9 : decode mBL_layer.2.1 9 = .ok (.ifnonnull 7, 3) := by decide +kernel
theorem dBL_layer_12 : decode mBL_layer.2.1 12 = .ok (.ldc2_w 122, 3) := by decide +kernel
theorem dBL_layer_15 : decode mBL_layer.2.1 15 = .ok (.lreturn, 1) := by decide +kernel
theorem dBL_layer_16 : decode mBL_layer.2.1 16 = .ok (.iload_n 3, 1) := by decide +kernel
theorem dBL_layer_17 : decode mBL_layer.2.1 17 = .ok (.lookupswitch 48 #[(0, 27), (1, 38)], 27) := by decide +kernel
theorem dBL_layer_44 : decode mBL_layer.2.1 44 = .ok (.aload 4, 2) := by decide +kernel
theorem dBL_layer_46 : decode mBL_layer.2.1 46 = .ok (.getfield 82, 3) := by decide +kernel
theorem dBL_layer_49 : decode mBL_layer.2.1 49 = .ok (.iload_n 2, 1) := by decide +kernel
theorem dBL_layer_50 : decode mBL_layer.2.1 50 = .ok (.invokevirtual 145, 3) := by decide +kernel
theorem dBL_layer_53 : decode mBL_layer.2.1 53 = .ok (.i2l, 1) := by decide +kernel
theorem dBL_layer_54 : decode mBL_layer.2.1 54 = .ok (.lreturn, 1) := by decide +kernel
theorem dBL_layer_55 : decode mBL_layer.2.1 55 = .ok (.aload 4, 2) := by decide +kernel
theorem dBL_layer_57 : decode mBL_layer.2.1 57 = .ok (.getfield 82, 3) := by decide +kernel
theorem dBL_layer_60 : decode mBL_layer.2.1 60 = .ok (.iload_n 2, 1) := by decide +kernel
theorem dBL_layer_61 : decode mBL_layer.2.1 61 = .ok (.invokevirtual 149, 3) := by decide +kernel
theorem dBL_layer_64 : decode mBL_layer.2.1 64 = .ok (.lreturn, 1) := by decide +kernel
theorem dBL_layer_65 : decode mBL_layer.2.1 65 = .ok (.ldc2_w 122, 3) := by decide +kernel
theorem dBL_layer_68 : decode mBL_layer.2.1 68 = .ok (.lreturn, 1) := by decide +kernel
theorem dBL_share_0 : decode mBL_share.2.1 0 = .ok (.aload_n 0, 1) := by decide +kernel
theorem dBL_share_1 : decode mBL_share.2.1 1 = .ok (.iload_n 1, 1) := by decide +kernel
theorem dBL_share_2 : decode mBL_share.2.1 2 = .ok (.invokevirtual 96, 3) := by decide +kernel
theorem dBL_share_5 : decode mBL_share.2.1 5 = .ok (.astore 4, 2) := by decide +kernel
theorem dBL_share_7 : decode mBL_share.2.1 7 = .ok (.aload 4, 2) := by decide +kernel
theorem dBL_share_9 : decode mBL_share.2.1 9 = .ok (.ifnull 11, 3) := by decide +kernel
theorem dBL_share_12 : decode mBL_share.2.1 12 = .ok (.aload_n 0, 1) := by decide +kernel
theorem dBL_share_13 : decode mBL_share.2.1 13 = .ok (.iload_n 2, 1) := by decide +kernel
theorem dBL_share_14 : decode mBL_share.2.1 14 = .ok (.invokevirtual 131, 3) := by decide +kernel
theorem dBL_share_17 : decode mBL_share.2.1 17 = .ok (.ifnonnull 7, 3) := by decide +kernel
theorem dBL_share_20 : decode mBL_share.2.1 20 = .ok (.ldc2_w 122, 3) := by decide +kernel
theorem dBL_share_23 : decode mBL_share.2.1 23 = .ok (.lreturn, 1) := by decide +kernel
theorem dBL_share_24 : decode mBL_share.2.1 24 = .ok (.aload 4, 2) := by decide +kernel
theorem dBL_share_26 : decode mBL_share.2.1 26 = .ok (.getfield 82, 3) := by decide +kernel
theorem dBL_share_29 : decode mBL_share.2.1 29 = .ok (.invokevirtual 134, 3) := by decide +kernel
theorem dBL_share_32 : decode mBL_share.2.1 32 = .ok (.lstore 5, 2) := by decide +kernel
theorem dBL_share_34 : decode mBL_share.2.1 34 = .ok (.lload 5, 2) := by decide +kernel
theorem dBL_share_36 : decode mBL_share.2.1 36 = .ok (.lconst 1, 1) := by decide +kernel
theorem dBL_share_37 : decode mBL_share.2.1 37 = .ok (.lcmp, 1) := by decide +kernel
theorem dBL_share_38 : decode mBL_share.2.1 38 = .ok (.ifCond .lt 12, 3) := by decide +kernel
theorem dBL_share_41 : decode mBL_share.2.1 41 = .ok (.iload_n 3, 1) := by decide +kernel
theorem dBL_share_42 : decode mBL_share.2.1 42 = .ok (.ifCond .lt 8, 3) := by decide +kernel
theorem dBL_share_45 : decode mBL_share.2.1 45 = .ok (.iload_n 3, 1) := by decide +kernel
theorem dBL_share_46 : decode mBL_share.2.1 46 = .ok (.iconst 1, 1) := by decide +kernel
theorem dBL_share_47 : decode mBL_share.2.1 47 = .ok (.if_icmp .le 7, 3) := by decide +kernel
theorem dBL_share_50 : decode mBL_share.2.1 50 = .ok (.ldc2_w 122, 3) := by decide +kernel
theorem dBL_share_53 : decode mBL_share.2.1 53 = .ok (.lreturn, 1) := by decide +kernel
theorem dBL_share_54 : decode mBL_share.2.1 54 = .ok (.aload 4, 2) := by decide +kernel
theorem dBL_share_56 : decode mBL_share.2.1 56 = .ok (.getfield 82, 3) := by decide +kernel
theorem dBL_share_59 : decode mBL_share.2.1 59 = .ok (.iload_n 2, 1) := by decide +kernel
theorem dBL_share_60 : decode mBL_share.2.1 60 = .ok (.invokevirtual 152, 3) := by decide +kernel
theorem dBL_share_63 : decode mBL_share.2.1 63 = .ok (.lstore 7, 2) := by decide +kernel
theorem dBL_share_65 : decode mBL_share.2.1 65 = .ok (.lload 5, 2) := by decide +kernel
theorem dBL_share_67 : decode mBL_share.2.1 67 = .ok (.lload 7, 2) := by decide +kernel
theorem dBL_share_69 : decode mBL_share.2.1 69 = .ok (.invokestatic 155, 3) := by decide +kernel
theorem dBL_share_72 : decode mBL_share.2.1 72 = .ok (.lstore 9, 2) := by decide +kernel
theorem dBL_share_74 : decode mBL_share.2.1 74 = .ok (.lload 9, 2) := by decide +kernel
theorem dBL_share_76 : decode mBL_share.2.1 76 = .ok (.lconst 1, 1) := by decide +kernel
theorem dBL_share_77 : decode mBL_share.2.1 77 = .ok (.lcmp, 1) := by decide +kernel
theorem dBL_share_78 : decode mBL_share.2.1 78 = .ok (.ifCond .ge 7, 3) := by decide +kernel
theorem dBL_share_81 : decode mBL_share.2.1 81 = .ok (.ldc2_w 122, 3) := by decide +kernel
theorem dBL_share_84 : decode mBL_share.2.1 84 = .ok (.lreturn, 1) := by decide +kernel
theorem dBL_share_85 : decode mBL_share.2.1 85 = .ok (.iload_n 3, 1) := by decide +kernel
theorem dBL_share_86 : decode mBL_share.2.1 86 = .ok (.ifCond .ne 8, 3) := by decide +kernel
theorem dBL_share_89 : decode mBL_share.2.1 89 = .ok (.lload 7, 2) := by decide +kernel
theorem dBL_share_91 : decode mBL_share.2.1 91 = .ok (.goto 5, 3) := by decide +kernel
theorem dBL_share_94 : decode mBL_share.2.1 94 = .ok (.lload 5, 2) := by decide +kernel
theorem dBL_share_96 : decode mBL_share.2.1 96 = .ok (.lload 9, 2) := by decide +kernel
theorem dBL_share_98 : decode mBL_share.2.1 98 = .ok (.ldiv, 1) := by decide +kernel
theorem dBL_share_99 : decode mBL_share.2.1 99 = .ok (.lreturn, 1) := by decide +kernel
theorem dBL_greatestDivisor_0 : decode mBL_greatestDivisor.2.1 0 = .ok (.lload_n 0, 1) := by decide +kernel
theorem dBL_greatestDivisor_1 : decode mBL_greatestDivisor.2.1 1 = .ok (.lstore 4, 2) := by decide +kernel
theorem dBL_greatestDivisor_3 : decode mBL_greatestDivisor.2.1 3 = .ok (.lload_n 2, 1) := by decide +kernel
theorem dBL_greatestDivisor_4 : decode mBL_greatestDivisor.2.1 4 = .ok (.lstore 6, 2) := by decide +kernel
theorem dBL_greatestDivisor_6 : decode mBL_greatestDivisor.2.1 6 = .ok (.iconst 0, 1) := by decide +kernel
theorem dBL_greatestDivisor_7 : decode mBL_greatestDivisor.2.1 7 = .ok (.istore 8, 2) := by decide +kernel
theorem dBL_greatestDivisor_9 : decode mBL_greatestDivisor.2.1 9 = .ok (.iload 8, 2) := by decide +kernel
theorem dBL_greatestDivisor_11 : decode mBL_greatestDivisor.2.1 11 = .ok (.bipush 100, 2) := by decide +kernel
theorem dBL_greatestDivisor_13 : decode mBL_greatestDivisor.2.1 13 = .ok (.if_icmp .ge 31, 3) := by decide +kernel
theorem dBL_greatestDivisor_16 : decode mBL_greatestDivisor.2.1 16 = .ok (.lload 6, 2) := by decide +kernel
theorem dBL_greatestDivisor_18 : decode mBL_greatestDivisor.2.1 18 = .ok (.lconst 0, 1) := by decide +kernel
theorem dBL_greatestDivisor_19 : decode mBL_greatestDivisor.2.1 19 = .ok (.lcmp, 1) := by decide +kernel
theorem dBL_greatestDivisor_20 : decode mBL_greatestDivisor.2.1 20 = .ok (.ifCond .eq 24, 3) := by decide +kernel
theorem dBL_greatestDivisor_23 : decode mBL_greatestDivisor.2.1 23 = .ok (.lload 4, 2) := by decide +kernel
theorem dBL_greatestDivisor_25 : decode mBL_greatestDivisor.2.1 25 = .ok (.lload 6, 2) := by decide +kernel
theorem dBL_greatestDivisor_27 : decode mBL_greatestDivisor.2.1 27 = .ok (.lrem, 1) := by decide +kernel
theorem dBL_greatestDivisor_28 : decode mBL_greatestDivisor.2.1 28 = .ok (.lstore 9, 2) := by decide +kernel
theorem dBL_greatestDivisor_30 : decode mBL_greatestDivisor.2.1 30 = .ok (.lload 6, 2) := by decide +kernel
theorem dBL_greatestDivisor_32 : decode mBL_greatestDivisor.2.1 32 = .ok (.lstore 4, 2) := by decide +kernel
theorem dBL_greatestDivisor_34 : decode mBL_greatestDivisor.2.1 34 = .ok (.lload 9, 2) := by decide +kernel
theorem dBL_greatestDivisor_36 : decode mBL_greatestDivisor.2.1 36 = .ok (.lstore 6, 2) := by decide +kernel
theorem dBL_greatestDivisor_38 : decode mBL_greatestDivisor.2.1 38 = .ok (.iinc 8 1, 3) := by decide +kernel
theorem dBL_greatestDivisor_41 : decode mBL_greatestDivisor.2.1 41 = .ok (.goto (-32), 3) := by decide +kernel
theorem dBL_greatestDivisor_44 : decode mBL_greatestDivisor.2.1 44 = .ok (.lload 4, 2) := by decide +kernel
theorem dBL_greatestDivisor_46 : decode mBL_greatestDivisor.2.1 46 = .ok (.lreturn, 1) := by decide +kernel
theorem dBL_back_0 : decode mBL_back.2.1 0 = .ok (.aload_n 0, 1) := by decide +kernel
theorem dBL_back_1 : decode mBL_back.2.1 1 = .ok (.iload_n 1, 1) := by decide +kernel
theorem dBL_back_2 : decode mBL_back.2.1 2 = .ok (.invokevirtual 96, 3) := by decide +kernel
theorem dBL_back_5 : decode mBL_back.2.1 5 = .ok (.astore_n 3, 1) := by decide +kernel
theorem dBL_back_6 : decode mBL_back.2.1 6 = .ok (.aload_n 3, 1) := by decide +kernel
theorem dBL_back_7 : decode mBL_back.2.1 7 = .ok (.ifnonnull 5, 3) := by decide +kernel
theorem dBL_back_10 : decode mBL_back.2.1 10 = .ok (.iconst (-1), 1) := by decide +kernel
theorem dBL_back_11 : decode mBL_back.2.1 11 = .ok (.ireturn, 1) := by decide +kernel
theorem dBL_back_12 : decode mBL_back.2.1 12 = .ok (.aload_n 0, 1) := by decide +kernel
theorem dBL_back_13 : decode mBL_back.2.1 13 = .ok (.getfield 22, 3) := by decide +kernel
theorem dBL_back_16 : decode mBL_back.2.1 16 = .ok (.invokevirtual 159, 3) := by decide +kernel
theorem dBL_back_19 : decode mBL_back.2.1 19 = .ok (.iconst 0, 1) := by decide +kernel
theorem dBL_back_20 : decode mBL_back.2.1 20 = .ok (.istore 4, 2) := by decide +kernel
theorem dBL_back_22 : decode mBL_back.2.1 22 = .ok (.iload 4, 2) := by decide +kernel
theorem dBL_back_24 : decode mBL_back.2.1 24 = .ok (.aload_n 3, 1) := by decide +kernel
theorem dBL_back_25 : decode mBL_back.2.1 25 = .ok (.getfield 82, 3) := by decide +kernel
theorem dBL_back_28 : decode mBL_back.2.1 28 = .ok (.invokevirtual 160, 3) := by decide +kernel
theorem dBL_back_31 : decode mBL_back.2.1 31 = .ok (.if_icmp .ge 25, 3) := by decide +kernel
theorem dBL_back_34 : decode mBL_back.2.1 34 = .ok (.aload_n 0, 1) := by decide +kernel
theorem dBL_back_35 : decode mBL_back.2.1 35 = .ok (.getfield 22, 3) := by decide +kernel
theorem dBL_back_38 : decode mBL_back.2.1 38 = .ok (.aload_n 3, 1) := by decide +kernel
theorem dBL_back_39 : decode mBL_back.2.1 39 = .ok (.getfield 82, 3) := by decide +kernel
theorem dBL_back_42 : decode mBL_back.2.1 42 = .ok (.iload 4, 2) := by decide +kernel
theorem dBL_back_44 : decode mBL_back.2.1 44 = .ok (.invokevirtual 145, 3) := by decide +kernel
theorem dBL_back_47 : decode mBL_back.2.1 47 = .ok (.invokevirtual 164, 3) := by decide +kernel
theorem dBL_back_50 : decode mBL_back.2.1 50 = .ok (.iinc 4 1, 3) := by decide +kernel
theorem dBL_back_53 : decode mBL_back.2.1 53 = .ok (.goto (-31), 3) := by decide +kernel
theorem dBL_back_56 : decode mBL_back.2.1 56 = .ok (.aload_n 0, 1) := by decide +kernel
theorem dBL_back_57 : decode mBL_back.2.1 57 = .ok (.getfield 22, 3) := by decide +kernel
theorem dBL_back_60 : decode mBL_back.2.1 60 = .ok (.iload_n 2, 1) := by decide +kernel
theorem dBL_back_61 : decode mBL_back.2.1 61 = .ok (.invokevirtual 167, 3) := by decide +kernel
theorem dBL_back_64 : decode mBL_back.2.1 64 = .ok (.ireturn, 1) := by decide +kernel
theorem dBL_recall_0 : decode mBL_recall.2.1 0 = .ok (.aload_n 0, 1) := by decide +kernel
theorem dBL_recall_1 : decode mBL_recall.2.1 1 = .ok (.iload_n 1, 1) := by decide +kernel
theorem dBL_recall_2 : decode mBL_recall.2.1 2 = .ok (.invokevirtual 131, 3) := by decide +kernel
theorem dBL_recall_5 : decode mBL_recall.2.1 5 = .ok (.ifnonnull 5, 3) := by decide +kernel
theorem dBL_recall_8 : decode mBL_recall.2.1 8 = .ok (.iconst (-1), 1) := by decide +kernel
theorem dBL_recall_9 : decode mBL_recall.2.1 9 = .ok (.ireturn, 1) := by decide +kernel
theorem dBL_recall_10 : decode mBL_recall.2.1 10 = .ok (.aload_n 0, 1) := by decide +kernel
theorem dBL_recall_11 : decode mBL_recall.2.1 11 = .ok (.iload_n 1, 1) := by decide +kernel
theorem dBL_recall_12 : decode mBL_recall.2.1 12 = .ok (.invokevirtual 170, 3) := by decide +kernel
theorem dBL_recall_15 : decode mBL_recall.2.1 15 = .ok (.aload_n 0, 1) := by decide +kernel
theorem dBL_recall_16 : decode mBL_recall.2.1 16 = .ok (.getfield 26, 3) := by decide +kernel
theorem dBL_recall_19 : decode mBL_recall.2.1 19 = .ok (.iconst 1, 1) := by decide +kernel
theorem dBL_recall_20 : decode mBL_recall.2.1 20 = .ok (.invokevirtual 173, 3) := by decide +kernel
theorem dBL_recall_23 : decode mBL_recall.2.1 23 = .ok (.ireturn, 1) := by decide +kernel
theorem dBL_countBoxesWith_0 : decode mBL_countBoxesWith.2.1 0 = .ok (.aload_n 0, 1) := by decide +kernel
theorem dBL_countBoxesWith_1 : decode mBL_countBoxesWith.2.1 1 = .ok (.getfield 26, 3) := by decide +kernel
theorem dBL_countBoxesWith_4 : decode mBL_countBoxesWith.2.1 4 = .ok (.invokevirtual 159, 3) := by decide +kernel
theorem dBL_countBoxesWith_7 : decode mBL_countBoxesWith.2.1 7 = .ok (.iconst 0, 1) := by decide +kernel
theorem dBL_countBoxesWith_8 : decode mBL_countBoxesWith.2.1 8 = .ok (.istore_n 2, 1) := by decide +kernel
theorem dBL_countBoxesWith_9 : decode mBL_countBoxesWith.2.1 9 = .ok (.iload_n 2, 1) := by decide +kernel
theorem dBL_countBoxesWith_10 : decode mBL_countBoxesWith.2.1 10 = .ok (.aload_n 0, 1) := by decide +kernel
theorem dBL_countBoxesWith_11 : decode mBL_countBoxesWith.2.1 11 = .ok (.getfield 15, 3) := by decide +kernel
theorem dBL_countBoxesWith_14 : decode mBL_countBoxesWith.2.1 14 = .ok (.if_icmp .ge 51, 3) := by decide +kernel
theorem dBL_countBoxesWith_17 : decode mBL_countBoxesWith.2.1 17 = .ok (.aload_n 0, 1) := by decide +kernel
theorem dBL_countBoxesWith_18 : decode mBL_countBoxesWith.2.1 18 = .ok (.iload_n 2, 1) := by decide +kernel
theorem dBL_countBoxesWith_19 : decode mBL_countBoxesWith.2.1 19 = .ok (.invokevirtual 96, 3) := by decide +kernel
theorem dBL_countBoxesWith_22 : decode mBL_countBoxesWith.2.1 22 = .ok (.astore_n 3, 1) := by decide +kernel
theorem dBL_countBoxesWith_23 : decode mBL_countBoxesWith.2.1 23 = .ok (.aload_n 3, 1) := by decide +kernel
theorem dBL_countBoxesWith_24 : decode mBL_countBoxesWith.2.1 24 = .ok (.ifnull 35, 3) := by decide +kernel
theorem dBL_countBoxesWith_27 : decode mBL_countBoxesWith.2.1 27 = .ok (.aload_n 3, 1) := by decide +kernel
theorem dBL_countBoxesWith_28 : decode mBL_countBoxesWith.2.1 28 = .ok (.getfield 100, 3) := by decide +kernel
theorem dBL_countBoxesWith_31 : decode mBL_countBoxesWith.2.1 31 = .ok (.iconst 3, 1) := by decide +kernel
theorem dBL_countBoxesWith_32 : decode mBL_countBoxesWith.2.1 32 = .ok (.if_icmp .ne 27, 3) := by decide +kernel
theorem dBL_countBoxesWith_35 : decode mBL_countBoxesWith.2.1 35 = .ok (.aload_n 3, 1) := by decide +kernel
theorem dBL_countBoxesWith_36 : decode mBL_countBoxesWith.2.1 36 = .ok (.getfield 82, 3) := by decide +kernel
theorem dBL_countBoxesWith_39 : decode mBL_countBoxesWith.2.1 39 = .ok (.iload_n 1, 1) := by decide +kernel
theorem dBL_countBoxesWith_40 : decode mBL_countBoxesWith.2.1 40 = .ok (.invokevirtual 152, 3) := by decide +kernel
theorem dBL_countBoxesWith_43 : decode mBL_countBoxesWith.2.1 43 = .ok (.lconst 0, 1) := by decide +kernel
theorem dBL_countBoxesWith_44 : decode mBL_countBoxesWith.2.1 44 = .ok (.lcmp, 1) := by decide +kernel
theorem dBL_countBoxesWith_45 : decode mBL_countBoxesWith.2.1 45 = .ok (.ifCond .le 14, 3) := by decide +kernel
theorem dBL_countBoxesWith_48 : decode mBL_countBoxesWith.2.1 48 = .ok (.aload_n 0, 1) := by decide +kernel
theorem dBL_countBoxesWith_49 : decode mBL_countBoxesWith.2.1 49 = .ok (.getfield 26, 3) := by decide +kernel
theorem dBL_countBoxesWith_52 : decode mBL_countBoxesWith.2.1 52 = .ok (.aload_n 3, 1) := by decide +kernel
theorem dBL_countBoxesWith_53 : decode mBL_countBoxesWith.2.1 53 = .ok (.getfield 190, 3) := by decide +kernel
theorem dBL_countBoxesWith_56 : decode mBL_countBoxesWith.2.1 56 = .ok (.invokevirtual 164, 3) := by decide +kernel
theorem dBL_countBoxesWith_59 : decode mBL_countBoxesWith.2.1 59 = .ok (.iinc 2 1, 3) := by decide +kernel
theorem dBL_countBoxesWith_62 : decode mBL_countBoxesWith.2.1 62 = .ok (.goto (-53), 3) := by decide +kernel
theorem dBL_countBoxesWith_65 : decode mBL_countBoxesWith.2.1 65 = .ok (.return_, 1) := by decide +kernel
theorem dBL_recalled_0 : decode mBL_recalled.2.1 0 = .ok (.aload_n 0, 1) := by decide +kernel
theorem dBL_recalled_1 : decode mBL_recalled.2.1 1 = .ok (.iload_n 1, 1) := by decide +kernel
theorem dBL_recalled_2 : decode mBL_recalled.2.1 2 = .ok (.invokevirtual 131, 3) := by decide +kernel
theorem dBL_recalled_5 : decode mBL_recalled.2.1 5 = .ok (.ifnonnull 5, 3) := by decide +kernel
theorem dBL_recalled_8 : decode mBL_recalled.2.1 8 = .ok (.iconst (-1), 1) := by decide +kernel
theorem dBL_recalled_9 : decode mBL_recalled.2.1 9 = .ok (.ireturn, 1) := by decide +kernel
theorem dBL_recalled_10 : decode mBL_recalled.2.1 10 = .ok (.aload_n 0, 1) := by decide +kernel
theorem dBL_recalled_11 : decode mBL_recalled.2.1 11 = .ok (.iload_n 1, 1) := by decide +kernel
theorem dBL_recalled_12 : decode mBL_recalled.2.1 12 = .ok (.invokevirtual 170, 3) := by decide +kernel
theorem dBL_recalled_15 : decode mBL_recalled.2.1 15 = .ok (.aload_n 0, 1) := by decide +kernel
theorem dBL_recalled_16 : decode mBL_recalled.2.1 16 = .ok (.getfield 26, 3) := by decide +kernel
theorem dBL_recalled_19 : decode mBL_recalled.2.1 19 = .ok (.iload_n 2, 1) := by decide +kernel
theorem dBL_recalled_20 : decode mBL_recalled.2.1 20 = .ok (.invokevirtual 167, 3) := by decide +kernel
theorem dBL_recalled_23 : decode mBL_recalled.2.1 23 = .ok (.ireturn, 1) := by decide +kernel
theorem dBL_doubled_0 : decode mBL_doubled.2.1 0 = .ok (.aload_n 0, 1) := by decide +kernel
theorem dBL_doubled_1 : decode mBL_doubled.2.1 1 = .ok (.getfield 22, 3) := by decide +kernel
theorem dBL_doubled_4 : decode mBL_doubled.2.1 4 = .ok (.invokevirtual 159, 3) := by decide +kernel
theorem dBL_doubled_7 : decode mBL_doubled.2.1 7 = .ok (.iconst 0, 1) := by decide +kernel
theorem dBL_doubled_8 : decode mBL_doubled.2.1 8 = .ok (.istore_n 2, 1) := by decide +kernel
theorem dBL_doubled_9 : decode mBL_doubled.2.1 9 = .ok (.iload_n 2, 1) := by decide +kernel
theorem dBL_doubled_10 : decode mBL_doubled.2.1 10 = .ok (.aload_n 0, 1) := by decide +kernel
theorem dBL_doubled_11 : decode mBL_doubled.2.1 11 = .ok (.getfield 15, 3) := by decide +kernel
theorem dBL_doubled_14 : decode mBL_doubled.2.1 14 = .ok (.if_icmp .ge 41, 3) := by decide +kernel
theorem dBL_doubled_17 : decode mBL_doubled.2.1 17 = .ok (.aload_n 0, 1) := by decide +kernel
theorem dBL_doubled_18 : decode mBL_doubled.2.1 18 = .ok (.iload_n 2, 1) := by decide +kernel
theorem dBL_doubled_19 : decode mBL_doubled.2.1 19 = .ok (.invokevirtual 131, 3) := by decide +kernel
theorem dBL_doubled_22 : decode mBL_doubled.2.1 22 = .ok (.ifnull 27, 3) := by decide +kernel
theorem dBL_doubled_25 : decode mBL_doubled.2.1 25 = .ok (.aload_n 0, 1) := by decide +kernel
theorem dBL_doubled_26 : decode mBL_doubled.2.1 26 = .ok (.iload_n 2, 1) := by decide +kernel
theorem dBL_doubled_27 : decode mBL_doubled.2.1 27 = .ok (.invokevirtual 170, 3) := by decide +kernel
theorem dBL_doubled_30 : decode mBL_doubled.2.1 30 = .ok (.aload_n 0, 1) := by decide +kernel
theorem dBL_doubled_31 : decode mBL_doubled.2.1 31 = .ok (.getfield 26, 3) := by decide +kernel
theorem dBL_doubled_34 : decode mBL_doubled.2.1 34 = .ok (.iconst 2, 1) := by decide +kernel
theorem dBL_doubled_35 : decode mBL_doubled.2.1 35 = .ok (.invokevirtual 173, 3) := by decide +kernel
theorem dBL_doubled_38 : decode mBL_doubled.2.1 38 = .ok (.ifCond .le 11, 3) := by decide +kernel
theorem dBL_doubled_41 : decode mBL_doubled.2.1 41 = .ok (.aload_n 0, 1) := by decide +kernel
theorem dBL_doubled_42 : decode mBL_doubled.2.1 42 = .ok (.getfield 22, 3) := by decide +kernel
theorem dBL_doubled_45 : decode mBL_doubled.2.1 45 = .ok (.iload_n 2, 1) := by decide +kernel
theorem dBL_doubled_46 : decode mBL_doubled.2.1 46 = .ok (.invokevirtual 164, 3) := by decide +kernel
theorem dBL_doubled_49 : decode mBL_doubled.2.1 49 = .ok (.iinc 2 1, 3) := by decide +kernel
theorem dBL_doubled_52 : decode mBL_doubled.2.1 52 = .ok (.goto (-43), 3) := by decide +kernel
theorem dBL_doubled_55 : decode mBL_doubled.2.1 55 = .ok (.aload_n 0, 1) := by decide +kernel
theorem dBL_doubled_56 : decode mBL_doubled.2.1 56 = .ok (.getfield 22, 3) := by decide +kernel
theorem dBL_doubled_59 : decode mBL_doubled.2.1 59 = .ok (.iload_n 1, 1) := by decide +kernel
theorem dBL_doubled_60 : decode mBL_doubled.2.1 60 = .ok (.invokevirtual 167, 3) := by decide +kernel
theorem dBL_doubled_63 : decode mBL_doubled.2.1 63 = .ok (.ireturn, 1) := by decide +kernel
theorem dBL_unit_0 : decode mBL_unit.2.1 0 = .ok (.aload_n 0, 1) := by decide +kernel
theorem dBL_unit_1 : decode mBL_unit.2.1 1 = .ok (.getfield 32, 3) := by decide +kernel
theorem dBL_unit_4 : decode mBL_unit.2.1 4 = .ok (.iload_n 1, 1) := by decide +kernel
theorem dBL_unit_5 : decode mBL_unit.2.1 5 = .ok (.sipush 255, 3) := by decide +kernel
theorem dBL_unit_8 : decode mBL_unit.2.1 8 = .ok (.iand, 1) := by decide +kernel
theorem dBL_unit_9 : decode mBL_unit.2.1 9 = .ok (.invokevirtual 176, 3) := by decide +kernel
theorem dBL_unit_12 : decode mBL_unit.2.1 12 = .ok (.ireturn, 1) := by decide +kernel
theorem dBL_names_0 : decode mBL_names.2.1 0 = .ok (.aload_n 0, 1) := by decide +kernel
theorem dBL_names_1 : decode mBL_names.2.1 1 = .ok (.getfield 32, 3) := by decide +kernel
theorem dBL_names_4 : decode mBL_names.2.1 4 = .ok (.aload_n 0, 1) := by decide +kernel
theorem dBL_names_5 : decode mBL_names.2.1 5 = .ok (.getfield 43, 3) := by decide +kernel
theorem dBL_names_8 : decode mBL_names.2.1 8 = .ok (.invokevirtual 180, 3) := by decide +kernel
theorem dBL_names_11 : decode mBL_names.2.1 11 = .ok (.istore_n 1, 1) := by decide +kernel
theorem dBL_names_12 : decode mBL_names.2.1 12 = .ok (.aload_n 0, 1) := by decide +kernel
theorem dBL_names_13 : decode mBL_names.2.1 13 = .ok (.getfield 32, 3) := by decide +kernel
theorem dBL_names_16 : decode mBL_names.2.1 16 = .ok (.invokevirtual 184, 3) := by decide +kernel
theorem dBL_names_19 : decode mBL_names.2.1 19 = .ok (.iload_n 1, 1) := by decide +kernel
theorem dBL_names_20 : decode mBL_names.2.1 20 = .ok (.iconst (-1), 1) := by decide +kernel
theorem dBL_names_21 : decode mBL_names.2.1 21 = .ok (.if_icmp .eq 7, 3) := by decide +kernel
theorem dBL_names_24 : decode mBL_names.2.1 24 = .ok (.iconst (-1), 1) := by decide +kernel
theorem dBL_names_25 : decode mBL_names.2.1 25 = .ok (.iload_n 1, 1) := by decide +kernel
theorem dBL_names_26 : decode mBL_names.2.1 26 = .ok (.isub, 1) := by decide +kernel
theorem dBL_names_27 : decode mBL_names.2.1 27 = .ok (.ireturn, 1) := by decide +kernel
theorem dBL_names_28 : decode mBL_names.2.1 28 = .ok (.aload_n 0, 1) := by decide +kernel
theorem dBL_names_29 : decode mBL_names.2.1 29 = .ok (.getfield 39, 3) := by decide +kernel
theorem dBL_names_32 : decode mBL_names.2.1 32 = .ok (.astore_n 2, 1) := by decide +kernel
theorem dBL_names_33 : decode mBL_names.2.1 33 = .ok (.aload_n 0, 1) := by decide +kernel
theorem dBL_names_34 : decode mBL_names.2.1 34 = .ok (.aload_n 0, 1) := by decide +kernel
theorem dBL_names_35 : decode mBL_names.2.1 35 = .ok (.getfield 43, 3) := by decide +kernel
theorem dBL_names_38 : decode mBL_names.2.1 38 = .ok (.putfield 39, 3) := by decide +kernel
theorem dBL_names_41 : decode mBL_names.2.1 41 = .ok (.aload_n 0, 1) := by decide +kernel
theorem dBL_names_42 : decode mBL_names.2.1 42 = .ok (.aload_n 2, 1) := by decide +kernel
theorem dBL_names_43 : decode mBL_names.2.1 43 = .ok (.putfield 43, 3) := by decide +kernel
theorem dBL_names_46 : decode mBL_names.2.1 46 = .ok (.aload_n 0, 1) := by decide +kernel
theorem dBL_names_47 : decode mBL_names.2.1 47 = .ok (.getfield 39, 3) := by decide +kernel
theorem dBL_names_50 : decode mBL_names.2.1 50 = .ok (.invokevirtual 185, 3) := by decide +kernel
theorem dBL_names_53 : decode mBL_names.2.1 53 = .ok (.ireturn, 1) := by decide +kernel
theorem dBL_name_0 : decode mBL_name.2.1 0 = .ok (.aload_n 0, 1) := by decide +kernel
theorem dBL_name_1 : decode mBL_name.2.1 1 = .ok (.iload_n 1, 1) := by decide +kernel
theorem dBL_name_2 : decode mBL_name.2.1 2 = .ok (.invokevirtual 96, 3) := by decide +kernel
theorem dBL_name_5 : decode mBL_name.2.1 5 = .ok (.astore 4, 2) := by decide +kernel
theorem dBL_name_7 : decode mBL_name.2.1 7 = .ok (.aload 4, 2) := by decide +kernel
theorem dBL_name_9 : decode mBL_name.2.1 9 = .ok (.ifnull 14, 3) := by decide +kernel
theorem dBL_name_12 : decode mBL_name.2.1 12 = .ok (.aload 4, 2) := by decide +kernel
theorem dBL_name_14 : decode mBL_name.2.1 14 = .ok (.getfield 82, 3) := by decide +kernel
theorem dBL_name_17 : decode mBL_name.2.1 17 = .ok (.invokevirtual 160, 3) := by decide +kernel
theorem dBL_name_20 : decode mBL_name.2.1 20 = .ok (.ifCond .ne 5, 3) := by decide +kernel
theorem dBL_name_23 : decode mBL_name.2.1 23 = .ok (.iconst 0, 1) := by decide +kernel
theorem dBL_name_24 : decode mBL_name.2.1 24 = .ok (.ireturn, 1) := by decide +kernel
theorem dBL_name_25 : decode mBL_name.2.1 25 = .ok (.aload_n 0, 1) := by decide +kernel
theorem dBL_name_26 : decode mBL_name.2.1 26 = .ok (.getfield 39, 3) := by decide +kernel
theorem dBL_name_29 : decode mBL_name.2.1 29 = .ok (.iload_n 2, 1) := by decide +kernel
theorem dBL_name_30 : decode mBL_name.2.1 30 = .ok (.iload_n 3, 1) := by decide +kernel
theorem dBL_name_31 : decode mBL_name.2.1 31 = .ok (.invokevirtual 186, 3) := by decide +kernel
theorem dBL_name_34 : decode mBL_name.2.1 34 = .ok (.istore 5, 2) := by decide +kernel
theorem dBL_name_36 : decode mBL_name.2.1 36 = .ok (.iload 5, 2) := by decide +kernel
theorem dBL_name_38 : decode mBL_name.2.1 38 = .ok (.iconst (-1), 1) := by decide +kernel
theorem dBL_name_39 : decode mBL_name.2.1 39 = .ok (.if_icmp .ne 5, 3) := by decide +kernel
theorem dBL_name_42 : decode mBL_name.2.1 42 = .ok (.iconst 0, 1) := by decide +kernel
theorem dBL_name_43 : decode mBL_name.2.1 43 = .ok (.ireturn, 1) := by decide +kernel
theorem dBL_name_44 : decode mBL_name.2.1 44 = .ok (.iconst 0, 1) := by decide +kernel
theorem dBL_name_45 : decode mBL_name.2.1 45 = .ok (.istore 6, 2) := by decide +kernel
theorem dBL_name_47 : decode mBL_name.2.1 47 = .ok (.iload 6, 2) := by decide +kernel
theorem dBL_name_49 : decode mBL_name.2.1 49 = .ok (.aload 4, 2) := by decide +kernel
theorem dBL_name_51 : decode mBL_name.2.1 51 = .ok (.getfield 82, 3) := by decide +kernel
theorem dBL_name_54 : decode mBL_name.2.1 54 = .ok (.invokevirtual 160, 3) := by decide +kernel
theorem dBL_name_57 : decode mBL_name.2.1 57 = .ok (.if_icmp .ge 49, 3) := by decide +kernel
theorem dBL_name_60 : decode mBL_name.2.1 60 = .ok (.aload_n 0, 1) := by decide +kernel
theorem dBL_name_61 : decode mBL_name.2.1 61 = .ok (.aload 4, 2) := by decide +kernel
theorem dBL_name_63 : decode mBL_name.2.1 63 = .ok (.getfield 82, 3) := by decide +kernel
theorem dBL_name_66 : decode mBL_name.2.1 66 = .ok (.iload 6, 2) := by decide +kernel
theorem dBL_name_68 : decode mBL_name.2.1 68 = .ok (.invokevirtual 145, 3) := by decide +kernel
theorem dBL_name_71 : decode mBL_name.2.1 71 = .ok (.invokevirtual 131, 3) := by decide +kernel
theorem dBL_name_74 : decode mBL_name.2.1 74 = .ok (.astore 7, 2) := by decide +kernel
theorem dBL_name_76 : decode mBL_name.2.1 76 = .ok (.aload 7, 2) := by decide +kernel
theorem dBL_name_78 : decode mBL_name.2.1 78 = .ok (.ifnull 20, 3) := by decide +kernel
theorem dBL_name_81 : decode mBL_name.2.1 81 = .ok (.aload_n 0, 1) := by decide +kernel
theorem dBL_name_82 : decode mBL_name.2.1 82 = .ok (.getfield 39, 3) := by decide +kernel
theorem dBL_name_85 : decode mBL_name.2.1 85 = .ok (.iload 5, 2) := by decide +kernel
theorem dBL_name_87 : decode mBL_name.2.1 87 = .ok (.aload 7, 2) := by decide +kernel
theorem dBL_name_89 : decode mBL_name.2.1 89 = .ok (.getfield 190, 3) := by decide +kernel
theorem dBL_name_92 : decode mBL_name.2.1 92 = .ok (.invokevirtual 193, 3) := by decide +kernel
theorem dBL_name_95 : decode mBL_name.2.1 95 = .ok (.ifCond .ne 5, 3) := by decide +kernel
theorem dBL_name_98 : decode mBL_name.2.1 98 = .ok (.iconst 0, 1) := by decide +kernel
theorem dBL_name_99 : decode mBL_name.2.1 99 = .ok (.ireturn, 1) := by decide +kernel
theorem dBL_name_100 : decode mBL_name.2.1 100 = .ok (.iinc 6 1, 3) := by decide +kernel
theorem dBL_name_103 : decode mBL_name.2.1 103 = .ok (.goto (-56), 3) := by decide +kernel
theorem dBL_name_106 : decode mBL_name.2.1 106 = .ok (.iconst 1, 1) := by decide +kernel
theorem dBL_name_107 : decode mBL_name.2.1 107 = .ok (.ireturn, 1) := by decide +kernel
theorem dBL_certificate_0 : decode mBL_certificate.2.1 0 = .ok (.iload_n 1, 1) := by decide +kernel
theorem dBL_certificate_1 : decode mBL_certificate.2.1 1 = .ok (.ldc 70, 2) := by decide +kernel
theorem dBL_certificate_3 : decode mBL_certificate.2.1 3 = .ok (.invokestatic 66, 3) := by decide +kernel
theorem dBL_certificate_6 : decode mBL_certificate.2.1 6 = .ok (.ifCond .eq 14, 3) := by decide +kernel
theorem dBL_certificate_9 : decode mBL_certificate.2.1 9 = .ok (.aload_n 0, 1) := by decide +kernel
theorem dBL_certificate_10 : decode mBL_certificate.2.1 10 = .ok (.getfield 49, 3) := by decide +kernel
theorem dBL_certificate_13 : decode mBL_certificate.2.1 13 = .ok (.iload_n 1, 1) := by decide +kernel
theorem dBL_certificate_14 : decode mBL_certificate.2.1 14 = .ok (.invokevirtual 196, 3) := by decide +kernel
theorem dBL_certificate_17 : decode mBL_certificate.2.1 17 = .ok (.goto 4, 3) := by decide +kernel
theorem dBL_certificate_20 : decode mBL_certificate.2.1 20 = .ok (.iconst (-1), 1) := by decide +kernel
theorem dBL_certificate_21 : decode mBL_certificate.2.1 21 = .ok (.ireturn, 1) := by decide +kernel
theorem dBL_credit_0 : decode mBL_credit.2.1 0 = .ok (.aload_n 0, 1) := by decide +kernel
theorem dBL_credit_1 : decode mBL_credit.2.1 1 = .ok (.iload_n 1, 1) := by decide +kernel
theorem dBL_credit_2 : decode mBL_credit.2.1 2 = .ok (.lload_n 2, 1) := by decide +kernel
theorem dBL_credit_3 : decode mBL_credit.2.1 3 = .ok (.iload 4, 2) := by decide +kernel
theorem dBL_credit_5 : decode mBL_credit.2.1 5 = .ok (.invokevirtual 199, 3) := by decide +kernel
theorem dBL_credit_8 : decode mBL_credit.2.1 8 = .ok (.ifCond .ne 5, 3) := by decide +kernel
theorem dBL_credit_11 : decode mBL_credit.2.1 11 = .ok (.iconst 0, 1) := by decide +kernel
theorem dBL_credit_12 : decode mBL_credit.2.1 12 = .ok (.ireturn, 1) := by decide +kernel
theorem dBL_credit_13 : decode mBL_credit.2.1 13 = .ok (.aload_n 0, 1) := by decide +kernel
theorem dBL_credit_14 : decode mBL_credit.2.1 14 = .ok (.getfield 49, 3) := by decide +kernel
theorem dBL_credit_17 : decode mBL_credit.2.1 17 = .ok (.iload_n 1, 1) := by decide +kernel
theorem dBL_credit_18 : decode mBL_credit.2.1 18 = .ok (.lload_n 2, 1) := by decide +kernel
theorem dBL_credit_19 : decode mBL_credit.2.1 19 = .ok (.iload 4, 2) := by decide +kernel
theorem dBL_credit_21 : decode mBL_credit.2.1 21 = .ok (.invokevirtual 203, 3) := by decide +kernel
theorem dBL_credit_24 : decode mBL_credit.2.1 24 = .ok (.iconst 1, 1) := by decide +kernel
theorem dBL_credit_25 : decode mBL_credit.2.1 25 = .ok (.ireturn, 1) := by decide +kernel
theorem dBL_canEnter_0 : decode mBL_canEnter.2.1 0 = .ok (.aload_n 0, 1) := by decide +kernel
theorem dBL_canEnter_1 : decode mBL_canEnter.2.1 1 = .ok (.getfield 49, 3) := by decide +kernel
theorem dBL_canEnter_4 : decode mBL_canEnter.2.1 4 = .ok (.iload_n 1, 1) := by decide +kernel
theorem dBL_canEnter_5 : decode mBL_canEnter.2.1 5 = .ok (.invokevirtual 213, 3) := by decide +kernel
theorem dBL_canEnter_8 : decode mBL_canEnter.2.1 8 = .ok (.ifCond .eq 34, 3) := by decide +kernel
theorem dBL_canEnter_11 : decode mBL_canEnter.2.1 11 = .ok (.lload_n 2, 1) := by decide +kernel
theorem dBL_canEnter_12 : decode mBL_canEnter.2.1 12 = .ok (.invokestatic 62, 3) := by decide +kernel
theorem dBL_canEnter_15 : decode mBL_canEnter.2.1 15 = .ok (.ifCond .eq 27, 3) := by decide +kernel
theorem dBL_canEnter_18 : decode mBL_canEnter.2.1 18 = .ok (.iload 4, 2) := by decide +kernel
theorem dBL_canEnter_20 : decode mBL_canEnter.2.1 20 = .ok (.ldc 70, 2) := by decide +kernel
theorem dBL_canEnter_22 : decode mBL_canEnter.2.1 22 = .ok (.invokestatic 66, 3) := by decide +kernel
theorem dBL_canEnter_25 : decode mBL_canEnter.2.1 25 = .ok (.ifCond .eq 17, 3) := by decide +kernel
theorem dBL_canEnter_28 : decode mBL_canEnter.2.1 28 = .ok (.aload_n 0, 1) := by decide +kernel
theorem dBL_canEnter_29 : decode mBL_canEnter.2.1 29 = .ok (.getfield 49, 3) := by decide +kernel
theorem dBL_canEnter_32 : decode mBL_canEnter.2.1 32 = .ok (.invokevirtual 245, 3) := by decide +kernel
theorem dBL_canEnter_35 : decode mBL_canEnter.2.1 35 = .ok (.ifCond .ne 7, 3) := by decide +kernel
theorem dBL_canEnter_38 : decode mBL_canEnter.2.1 38 = .ok (.iconst 1, 1) := by decide +kernel
theorem dBL_canEnter_39 : decode mBL_canEnter.2.1 39 = .ok (.goto 4, 3) := by decide +kernel
theorem dBL_canEnter_42 : decode mBL_canEnter.2.1 42 = .ok (.iconst 0, 1) := by decide +kernel
theorem dBL_canEnter_43 : decode mBL_canEnter.2.1 43 = .ok (.ireturn, 1) := by decide +kernel
theorem dBL_claim_0 : decode mBL_claim.2.1 0 = .ok (.aload_n 0, 1) := by decide +kernel
theorem dBL_claim_1 : decode mBL_claim.2.1 1 = .ok (.iload_n 1, 1) := by decide +kernel
theorem dBL_claim_2 : decode mBL_claim.2.1 2 = .ok (.lload_n 2, 1) := by decide +kernel
theorem dBL_claim_3 : decode mBL_claim.2.1 3 = .ok (.iload 4, 2) := by decide +kernel
theorem dBL_claim_5 : decode mBL_claim.2.1 5 = .ok (.invokevirtual 199, 3) := by decide +kernel
theorem dBL_claim_8 : decode mBL_claim.2.1 8 = .ok (.ifCond .ne 5, 3) := by decide +kernel
theorem dBL_claim_11 : decode mBL_claim.2.1 11 = .ok (.iconst (-1), 1) := by decide +kernel
theorem dBL_claim_12 : decode mBL_claim.2.1 12 = .ok (.ireturn, 1) := by decide +kernel
theorem dBL_claim_13 : decode mBL_claim.2.1 13 = .ok (.aload_n 0, 1) := by decide +kernel
theorem dBL_claim_14 : decode mBL_claim.2.1 14 = .ok (.getfield 49, 3) := by decide +kernel
theorem dBL_claim_17 : decode mBL_claim.2.1 17 = .ok (.iload_n 1, 1) := by decide +kernel
theorem dBL_claim_18 : decode mBL_claim.2.1 18 = .ok (.iload 4, 2) := by decide +kernel
theorem dBL_claim_20 : decode mBL_claim.2.1 20 = .ok (.invokevirtual 207, 3) := by decide +kernel
theorem dBL_claim_23 : decode mBL_claim.2.1 23 = .ok (.ifCond .eq 5, 3) := by decide +kernel
theorem dBL_claim_26 : decode mBL_claim.2.1 26 = .ok (.iconst 1, 1) := by decide +kernel
theorem dBL_claim_27 : decode mBL_claim.2.1 27 = .ok (.ireturn, 1) := by decide +kernel
theorem dBL_claim_28 : decode mBL_claim.2.1 28 = .ok (.aload_n 0, 1) := by decide +kernel
theorem dBL_claim_29 : decode mBL_claim.2.1 29 = .ok (.getfield 49, 3) := by decide +kernel
theorem dBL_claim_32 : decode mBL_claim.2.1 32 = .ok (.iload_n 1, 1) := by decide +kernel
theorem dBL_claim_33 : decode mBL_claim.2.1 33 = .ok (.lload_n 2, 1) := by decide +kernel
theorem dBL_claim_34 : decode mBL_claim.2.1 34 = .ok (.iload 4, 2) := by decide +kernel
theorem dBL_claim_36 : decode mBL_claim.2.1 36 = .ok (.invokevirtual 210, 3) := by decide +kernel
theorem dBL_claim_39 : decode mBL_claim.2.1 39 = .ok (.ifCond .ne 5, 3) := by decide +kernel
theorem dBL_claim_42 : decode mBL_claim.2.1 42 = .ok (.iconst 2, 1) := by decide +kernel
theorem dBL_claim_43 : decode mBL_claim.2.1 43 = .ok (.ireturn, 1) := by decide +kernel
theorem dBL_claim_44 : decode mBL_claim.2.1 44 = .ok (.aload_n 0, 1) := by decide +kernel
theorem dBL_claim_45 : decode mBL_claim.2.1 45 = .ok (.getfield 49, 3) := by decide +kernel
theorem dBL_claim_48 : decode mBL_claim.2.1 48 = .ok (.iload_n 1, 1) := by decide +kernel
theorem dBL_claim_49 : decode mBL_claim.2.1 49 = .ok (.lload_n 2, 1) := by decide +kernel
theorem dBL_claim_50 : decode mBL_claim.2.1 50 = .ok (.lneg, 1) := by decide +kernel
theorem dBL_claim_51 : decode mBL_claim.2.1 51 = .ok (.iload 4, 2) := by decide +kernel
theorem dBL_claim_53 : decode mBL_claim.2.1 53 = .ok (.invokevirtual 203, 3) := by decide +kernel
theorem dBL_claim_56 : decode mBL_claim.2.1 56 = .ok (.iconst 0, 1) := by decide +kernel
theorem dBL_claim_57 : decode mBL_claim.2.1 57 = .ok (.ireturn, 1) := by decide +kernel
theorem dBL_balance_0 : decode mBL_balance.2.1 0 = .ok (.aload_n 0, 1) := by decide +kernel
theorem dBL_balance_1 : decode mBL_balance.2.1 1 = .ok (.getfield 49, 3) := by decide +kernel
theorem dBL_balance_4 : decode mBL_balance.2.1 4 = .ok (.iload_n 1, 1) := by decide +kernel
theorem dBL_balance_5 : decode mBL_balance.2.1 5 = .ok (.invokevirtual 213, 3) := by decide +kernel
theorem dBL_balance_8 : decode mBL_balance.2.1 8 = .ok (.ifCond .eq 15, 3) := by decide +kernel
theorem dBL_balance_11 : decode mBL_balance.2.1 11 = .ok (.aload_n 0, 1) := by decide +kernel
theorem dBL_balance_12 : decode mBL_balance.2.1 12 = .ok (.getfield 49, 3) := by decide +kernel
theorem dBL_balance_15 : decode mBL_balance.2.1 15 = .ok (.iload_n 1, 1) := by decide +kernel
theorem dBL_balance_16 : decode mBL_balance.2.1 16 = .ok (.iload_n 2, 1) := by decide +kernel
theorem dBL_balance_17 : decode mBL_balance.2.1 17 = .ok (.invokevirtual 216, 3) := by decide +kernel
theorem dBL_balance_20 : decode mBL_balance.2.1 20 = .ok (.goto 6, 3) := by decide +kernel
theorem dBL_balance_23 : decode mBL_balance.2.1 23 = .ok (.ldc2_w 122, 3) := by decide +kernel
theorem dBL_balance_26 : decode mBL_balance.2.1 26 = .ok (.lreturn, 1) := by decide +kernel
theorem dBL_warm_0 : decode mBL_warm.2.1 0 = .ok (.aload_n 0, 1) := by decide +kernel
theorem dBL_warm_1 : decode mBL_warm.2.1 1 = .ok (.iload_n 1, 1) := by decide +kernel
theorem dBL_warm_2 : decode mBL_warm.2.1 2 = .ok (.invokevirtual 96, 3) := by decide +kernel
theorem dBL_warm_5 : decode mBL_warm.2.1 5 = .ok (.astore_n 3, 1) := by decide +kernel
theorem dBL_warm_6 : decode mBL_warm.2.1 6 = .ok (.aload_n 3, 1) := by decide +kernel
theorem dBL_warm_7 : decode mBL_warm.2.1 7 = .ok (.ifnull 15, 3) := by decide +kernel
theorem dBL_warm_10 : decode mBL_warm.2.1 10 = .ok (.iload_n 2, 1) := by decide +kernel
theorem dBL_warm_11 : decode mBL_warm.2.1 11 = .ok (.iconst 1, 1) := by decide +kernel
theorem dBL_warm_12 : decode mBL_warm.2.1 12 = .ok (.if_icmp .lt 10, 3) := by decide +kernel
theorem dBL_warm_15 : decode mBL_warm.2.1 15 = .ok (.iload_n 2, 1) := by decide +kernel
theorem dBL_warm_16 : decode mBL_warm.2.1 16 = .ok (.sipush 4000, 3) := by decide +kernel
theorem dBL_warm_19 : decode mBL_warm.2.1 19 = .ok (.if_icmp .le 5, 3) := by decide +kernel
theorem dBL_warm_22 : decode mBL_warm.2.1 22 = .ok (.iconst 0, 1) := by decide +kernel
theorem dBL_warm_23 : decode mBL_warm.2.1 23 = .ok (.ireturn, 1) := by decide +kernel
theorem dBL_warm_24 : decode mBL_warm.2.1 24 = .ok (.aload_n 3, 1) := by decide +kernel
theorem dBL_warm_25 : decode mBL_warm.2.1 25 = .ok (.aload_n 3, 1) := by decide +kernel
theorem dBL_warm_26 : decode mBL_warm.2.1 26 = .ok (.getfield 220, 3) := by decide +kernel
theorem dBL_warm_29 : decode mBL_warm.2.1 29 = .ok (.iload_n 2, 1) := by decide +kernel
theorem dBL_warm_30 : decode mBL_warm.2.1 30 = .ok (.invokestatic 223, 3) := by decide +kernel
theorem dBL_warm_33 : decode mBL_warm.2.1 33 = .ok (.putfield 220, 3) := by decide +kernel
theorem dBL_warm_36 : decode mBL_warm.2.1 36 = .ok (.iconst 1, 1) := by decide +kernel
theorem dBL_warm_37 : decode mBL_warm.2.1 37 = .ok (.ireturn, 1) := by decide +kernel
theorem dBL_paper_0 : decode mBL_paper.2.1 0 = .ok (.aload_n 0, 1) := by decide +kernel
theorem dBL_paper_1 : decode mBL_paper.2.1 1 = .ok (.iload_n 1, 1) := by decide +kernel
theorem dBL_paper_2 : decode mBL_paper.2.1 2 = .ok (.invokevirtual 96, 3) := by decide +kernel
theorem dBL_paper_5 : decode mBL_paper.2.1 5 = .ok (.astore 4, 2) := by decide +kernel
theorem dBL_paper_7 : decode mBL_paper.2.1 7 = .ok (.aload 4, 2) := by decide +kernel
theorem dBL_paper_9 : decode mBL_paper.2.1 9 = .ok (.ifnull 21, 3) := by decide +kernel
theorem dBL_paper_12 : decode mBL_paper.2.1 12 = .ok (.aload 4, 2) := by decide +kernel
theorem dBL_paper_14 : decode mBL_paper.2.1 14 = .ok (.getfield 100, 3) := by decide +kernel
theorem dBL_paper_17 : decode mBL_paper.2.1 17 = .ok (.iconst 3, 1) := by decide +kernel
theorem dBL_paper_18 : decode mBL_paper.2.1 18 = .ok (.if_icmp .ne 12, 3) := by decide +kernel
theorem dBL_paper_21 : decode mBL_paper.2.1 21 = .ok (.iload_n 2, 1) := by decide +kernel
theorem dBL_paper_22 : decode mBL_paper.2.1 22 = .ok (.bipush 99, 2) := by decide +kernel
theorem dBL_paper_24 : decode mBL_paper.2.1 24 = .ok (.invokestatic 66, 3) := by decide +kernel
theorem dBL_paper_27 : decode mBL_paper.2.1 27 = .ok (.ifCond .ne 5, 3) := by decide +kernel
theorem dBL_paper_30 : decode mBL_paper.2.1 30 = .ok (.iconst (-1), 1) := by decide +kernel
theorem dBL_paper_31 : decode mBL_paper.2.1 31 = .ok (.ireturn, 1) := by decide +kernel
theorem dBL_paper_32 : decode mBL_paper.2.1 32 = .ok (.aload_n 0, 1) := by decide +kernel
theorem dBL_paper_33 : decode mBL_paper.2.1 33 = .ok (.getfield 58, 3) := by decide +kernel
theorem dBL_paper_36 : decode mBL_paper.2.1 36 = .ok (.invokevirtual 228, 3) := by decide +kernel
theorem dBL_paper_39 : decode mBL_paper.2.1 39 = .ok (.aload_n 0, 1) := by decide +kernel
theorem dBL_paper_40 : decode mBL_paper.2.1 40 = .ok (.getfield 58, 3) := by decide +kernel
theorem dBL_paper_43 : decode mBL_paper.2.1 43 = .ok (.iload_n 2, 1) := by decide +kernel
theorem dBL_paper_44 : decode mBL_paper.2.1 44 = .ok (.i2l, 1) := by decide +kernel
theorem dBL_paper_45 : decode mBL_paper.2.1 45 = .ok (.invokevirtual 229, 3) := by decide +kernel
theorem dBL_paper_48 : decode mBL_paper.2.1 48 = .ok (.aload_n 0, 1) := by decide +kernel
theorem dBL_paper_49 : decode mBL_paper.2.1 49 = .ok (.getfield 58, 3) := by decide +kernel
theorem dBL_paper_52 : decode mBL_paper.2.1 52 = .ok (.bipush 47, 2) := by decide +kernel
theorem dBL_paper_54 : decode mBL_paper.2.1 54 = .ok (.invokevirtual 232, 3) := by decide +kernel
theorem dBL_paper_57 : decode mBL_paper.2.1 57 = .ok (.pop, 1) := by decide +kernel
theorem dBL_paper_58 : decode mBL_paper.2.1 58 = .ok (.aload_n 0, 1) := by decide +kernel
theorem dBL_paper_59 : decode mBL_paper.2.1 59 = .ok (.getfield 58, 3) := by decide +kernel
theorem dBL_paper_62 : decode mBL_paper.2.1 62 = .ok (.iload_n 1, 1) := by decide +kernel
theorem dBL_paper_63 : decode mBL_paper.2.1 63 = .ok (.i2l, 1) := by decide +kernel
theorem dBL_paper_64 : decode mBL_paper.2.1 64 = .ok (.invokevirtual 229, 3) := by decide +kernel
theorem dBL_paper_67 : decode mBL_paper.2.1 67 = .ok (.iconst 0, 1) := by decide +kernel
theorem dBL_paper_68 : decode mBL_paper.2.1 68 = .ok (.istore 5, 2) := by decide +kernel
theorem dBL_paper_70 : decode mBL_paper.2.1 70 = .ok (.iload 5, 2) := by decide +kernel
theorem dBL_paper_72 : decode mBL_paper.2.1 72 = .ok (.aload 4, 2) := by decide +kernel
theorem dBL_paper_74 : decode mBL_paper.2.1 74 = .ok (.getfield 82, 3) := by decide +kernel
theorem dBL_paper_77 : decode mBL_paper.2.1 77 = .ok (.invokevirtual 160, 3) := by decide +kernel
theorem dBL_paper_80 : decode mBL_paper.2.1 80 = .ok (.if_icmp .ge 64, 3) := by decide +kernel
theorem dBL_paper_83 : decode mBL_paper.2.1 83 = .ok (.aload_n 0, 1) := by decide +kernel
theorem dBL_paper_84 : decode mBL_paper.2.1 84 = .ok (.getfield 58, 3) := by decide +kernel
theorem dBL_paper_87 : decode mBL_paper.2.1 87 = .ok (.bipush 32, 2) := by decide +kernel
theorem dBL_paper_89 : decode mBL_paper.2.1 89 = .ok (.invokevirtual 232, 3) := by decide +kernel
theorem dBL_paper_92 : decode mBL_paper.2.1 92 = .ok (.pop, 1) := by decide +kernel
theorem dBL_paper_93 : decode mBL_paper.2.1 93 = .ok (.aload_n 0, 1) := by decide +kernel
theorem dBL_paper_94 : decode mBL_paper.2.1 94 = .ok (.getfield 58, 3) := by decide +kernel
theorem dBL_paper_97 : decode mBL_paper.2.1 97 = .ok (.aload 4, 2) := by decide +kernel
theorem dBL_paper_99 : decode mBL_paper.2.1 99 = .ok (.getfield 82, 3) := by decide +kernel
theorem dBL_paper_102 : decode mBL_paper.2.1 102 = .ok (.iload 5, 2) := by decide +kernel
theorem dBL_paper_104 : decode mBL_paper.2.1 104 = .ok (.invokevirtual 145, 3) := by decide +kernel
theorem dBL_paper_107 : decode mBL_paper.2.1 107 = .ok (.i2l, 1) := by decide +kernel
theorem dBL_paper_108 : decode mBL_paper.2.1 108 = .ok (.invokevirtual 229, 3) := by decide +kernel
theorem dBL_paper_111 : decode mBL_paper.2.1 111 = .ok (.aload_n 0, 1) := by decide +kernel
theorem dBL_paper_112 : decode mBL_paper.2.1 112 = .ok (.getfield 58, 3) := by decide +kernel
theorem dBL_paper_115 : decode mBL_paper.2.1 115 = .ok (.bipush 58, 2) := by decide +kernel
theorem dBL_paper_117 : decode mBL_paper.2.1 117 = .ok (.invokevirtual 232, 3) := by decide +kernel
theorem dBL_paper_120 : decode mBL_paper.2.1 120 = .ok (.pop, 1) := by decide +kernel
theorem dBL_paper_121 : decode mBL_paper.2.1 121 = .ok (.aload_n 0, 1) := by decide +kernel
theorem dBL_paper_122 : decode mBL_paper.2.1 122 = .ok (.getfield 58, 3) := by decide +kernel
theorem dBL_paper_125 : decode mBL_paper.2.1 125 = .ok (.aload 4, 2) := by decide +kernel
theorem dBL_paper_127 : decode mBL_paper.2.1 127 = .ok (.getfield 82, 3) := by decide +kernel
theorem dBL_paper_130 : decode mBL_paper.2.1 130 = .ok (.iload 5, 2) := by decide +kernel
theorem dBL_paper_132 : decode mBL_paper.2.1 132 = .ok (.invokevirtual 149, 3) := by decide +kernel
theorem dBL_paper_135 : decode mBL_paper.2.1 135 = .ok (.invokevirtual 229, 3) := by decide +kernel
theorem dBL_paper_138 : decode mBL_paper.2.1 138 = .ok (.iinc 5 1, 3) := by decide +kernel
theorem dBL_paper_141 : decode mBL_paper.2.1 141 = .ok (.goto (-71), 3) := by decide +kernel
theorem dBL_paper_144 : decode mBL_paper.2.1 144 = .ok (.aload_n 0, 1) := by decide +kernel
theorem dBL_paper_145 : decode mBL_paper.2.1 145 = .ok (.getfield 58, 3) := by decide +kernel
theorem dBL_paper_148 : decode mBL_paper.2.1 148 = .ok (.iload_n 3, 1) := by decide +kernel
theorem dBL_paper_149 : decode mBL_paper.2.1 149 = .ok (.invokevirtual 233, 3) := by decide +kernel
theorem dBL_paper_152 : decode mBL_paper.2.1 152 = .ok (.ireturn, 1) := by decide +kernel
theorem dBL_all_0 : decode mBL_all.2.1 0 = .ok (.iload_n 1, 1) := by decide +kernel
theorem dBL_all_1 : decode mBL_all.2.1 1 = .ok (.tableswitch 102 0 7 #[47, 54, 60, 66, 72, 78, 84, 93], 47) := by decide +kernel
theorem dBL_all_48 : decode mBL_all.2.1 48 = .ok (.aload_n 0, 1) := by decide +kernel
theorem dBL_all_49 : decode mBL_all.2.1 49 = .ok (.bipush 7, 2) := by decide +kernel
theorem dBL_all_51 : decode mBL_all.2.1 51 = .ok (.invokevirtual 236, 3) := by decide +kernel
theorem dBL_all_54 : decode mBL_all.2.1 54 = .ok (.lreturn, 1) := by decide +kernel
theorem dBL_all_55 : decode mBL_all.2.1 55 = .ok (.aload_n 0, 1) := by decide +kernel
theorem dBL_all_56 : decode mBL_all.2.1 56 = .ok (.iconst 1, 1) := by decide +kernel
theorem dBL_all_57 : decode mBL_all.2.1 57 = .ok (.invokevirtual 239, 3) := by decide +kernel
theorem dBL_all_60 : decode mBL_all.2.1 60 = .ok (.lreturn, 1) := by decide +kernel
theorem dBL_all_61 : decode mBL_all.2.1 61 = .ok (.aload_n 0, 1) := by decide +kernel
theorem dBL_all_62 : decode mBL_all.2.1 62 = .ok (.iconst 2, 1) := by decide +kernel
theorem dBL_all_63 : decode mBL_all.2.1 63 = .ok (.invokevirtual 239, 3) := by decide +kernel
theorem dBL_all_66 : decode mBL_all.2.1 66 = .ok (.lreturn, 1) := by decide +kernel
theorem dBL_all_67 : decode mBL_all.2.1 67 = .ok (.aload_n 0, 1) := by decide +kernel
theorem dBL_all_68 : decode mBL_all.2.1 68 = .ok (.iconst 3, 1) := by decide +kernel
theorem dBL_all_69 : decode mBL_all.2.1 69 = .ok (.invokevirtual 239, 3) := by decide +kernel
theorem dBL_all_72 : decode mBL_all.2.1 72 = .ok (.lreturn, 1) := by decide +kernel
theorem dBL_all_73 : decode mBL_all.2.1 73 = .ok (.aload_n 0, 1) := by decide +kernel
theorem dBL_all_74 : decode mBL_all.2.1 74 = .ok (.iconst 3, 1) := by decide +kernel
theorem dBL_all_75 : decode mBL_all.2.1 75 = .ok (.invokevirtual 236, 3) := by decide +kernel
theorem dBL_all_78 : decode mBL_all.2.1 78 = .ok (.lreturn, 1) := by decide +kernel
theorem dBL_all_79 : decode mBL_all.2.1 79 = .ok (.aload_n 0, 1) := by decide +kernel
theorem dBL_all_80 : decode mBL_all.2.1 80 = .ok (.getfield 15, 3) := by decide +kernel
theorem dBL_all_83 : decode mBL_all.2.1 83 = .ok (.i2l, 1) := by decide +kernel
theorem dBL_all_84 : decode mBL_all.2.1 84 = .ok (.lreturn, 1) := by decide +kernel
theorem dBL_all_85 : decode mBL_all.2.1 85 = .ok (.aload_n 0, 1) := by decide +kernel
theorem dBL_all_86 : decode mBL_all.2.1 86 = .ok (.getfield 39, 3) := by decide +kernel
theorem dBL_all_89 : decode mBL_all.2.1 89 = .ok (.invokevirtual 185, 3) := by decide +kernel
theorem dBL_all_92 : decode mBL_all.2.1 92 = .ok (.i2l, 1) := by decide +kernel
theorem dBL_all_93 : decode mBL_all.2.1 93 = .ok (.lreturn, 1) := by decide +kernel
theorem dBL_all_94 : decode mBL_all.2.1 94 = .ok (.aload_n 0, 1) := by decide +kernel
theorem dBL_all_95 : decode mBL_all.2.1 95 = .ok (.getfield 49, 3) := by decide +kernel
theorem dBL_all_98 : decode mBL_all.2.1 98 = .ok (.invokevirtual 242, 3) := by decide +kernel
theorem dBL_all_101 : decode mBL_all.2.1 101 = .ok (.i2l, 1) := by decide +kernel
theorem dBL_all_102 : decode mBL_all.2.1 102 = .ok (.lreturn, 1) := by decide +kernel
theorem dBL_all_103 : decode mBL_all.2.1 103 = .ok (.ldc2_w 122, 3) := by decide +kernel
theorem dBL_all_106 : decode mBL_all.2.1 106 = .ok (.lreturn, 1) := by decide +kernel
theorem dBL_sumOfFact_0 : decode mBL_sumOfFact.2.1 0 = .ok (.lconst 0, 1) := by decide +kernel
theorem dBL_sumOfFact_1 : decode mBL_sumOfFact.2.1 1 = .ok (.lstore_n 2, 1) := by decide +kernel
theorem dBL_sumOfFact_2 : decode mBL_sumOfFact.2.1 2 = .ok (.iconst 0, 1) := by decide +kernel
theorem dBL_sumOfFact_3 : decode mBL_sumOfFact.2.1 3 = .ok (.istore 4, 2) := by decide +kernel
theorem dBL_sumOfFact_5 : decode mBL_sumOfFact.2.1 5 = .ok (.iload 4, 2) := by decide +kernel
theorem dBL_sumOfFact_7 : decode mBL_sumOfFact.2.1 7 = .ok (.aload_n 0, 1) := by decide +kernel
theorem dBL_sumOfFact_8 : decode mBL_sumOfFact.2.1 8 = .ok (.getfield 15, 3) := by decide +kernel
theorem dBL_sumOfFact_11 : decode mBL_sumOfFact.2.1 11 = .ok (.if_icmp .ge 31, 3) := by decide +kernel
theorem dBL_sumOfFact_14 : decode mBL_sumOfFact.2.1 14 = .ok (.aload_n 0, 1) := by decide +kernel
theorem dBL_sumOfFact_15 : decode mBL_sumOfFact.2.1 15 = .ok (.iload 4, 2) := by decide +kernel
theorem dBL_sumOfFact_17 : decode mBL_sumOfFact.2.1 17 = .ok (.invokevirtual 96, 3) := by decide +kernel
theorem dBL_sumOfFact_20 : decode mBL_sumOfFact.2.1 20 = .ok (.astore 5, 2) := by decide +kernel
theorem dBL_sumOfFact_22 : decode mBL_sumOfFact.2.1 22 = .ok (.aload 5, 2) := by decide +kernel
theorem dBL_sumOfFact_24 : decode mBL_sumOfFact.2.1 24 = .ok (.ifnull 12, 3) := by decide +kernel
theorem dBL_sumOfFact_27 : decode mBL_sumOfFact.2.1 27 = .ok (.lload_n 2, 1) := by decide +kernel
theorem dBL_sumOfFact_28 : decode mBL_sumOfFact.2.1 28 = .ok (.aload 5, 2) := by decide +kernel
theorem dBL_sumOfFact_30 : decode mBL_sumOfFact.2.1 30 = .ok (.iload_n 1, 1) := by decide +kernel
theorem dBL_sumOfFact_31 : decode mBL_sumOfFact.2.1 31 = .ok (.invokevirtual 141, 3) := by decide +kernel
theorem dBL_sumOfFact_34 : decode mBL_sumOfFact.2.1 34 = .ok (.ladd, 1) := by decide +kernel
theorem dBL_sumOfFact_35 : decode mBL_sumOfFact.2.1 35 = .ok (.lstore_n 2, 1) := by decide +kernel
theorem dBL_sumOfFact_36 : decode mBL_sumOfFact.2.1 36 = .ok (.iinc 4 1, 3) := by decide +kernel
theorem dBL_sumOfFact_39 : decode mBL_sumOfFact.2.1 39 = .ok (.goto (-34), 3) := by decide +kernel
theorem dBL_sumOfFact_42 : decode mBL_sumOfFact.2.1 42 = .ok (.lload_n 2, 1) := by decide +kernel
theorem dBL_sumOfFact_43 : decode mBL_sumOfFact.2.1 43 = .ok (.lreturn, 1) := by decide +kernel
theorem dBL_sumInside_0 : decode mBL_sumInside.2.1 0 = .ok (.lconst 0, 1) := by decide +kernel
theorem dBL_sumInside_1 : decode mBL_sumInside.2.1 1 = .ok (.lstore_n 2, 1) := by decide +kernel
theorem dBL_sumInside_2 : decode mBL_sumInside.2.1 2 = .ok (.iconst 0, 1) := by decide +kernel
theorem dBL_sumInside_3 : decode mBL_sumInside.2.1 3 = .ok (.istore 4, 2) := by decide +kernel
theorem dBL_sumInside_5 : decode mBL_sumInside.2.1 5 = .ok (.iload 4, 2) := by decide +kernel
theorem dBL_sumInside_7 : decode mBL_sumInside.2.1 7 = .ok (.aload_n 0, 1) := by decide +kernel
theorem dBL_sumInside_8 : decode mBL_sumInside.2.1 8 = .ok (.getfield 15, 3) := by decide +kernel
theorem dBL_sumInside_11 : decode mBL_sumInside.2.1 11 = .ok (.if_icmp .ge 42, 3) := by decide +kernel
theorem dBL_sumInside_14 : decode mBL_sumInside.2.1 14 = .ok (.aload_n 0, 1) := by decide +kernel
theorem dBL_sumInside_15 : decode mBL_sumInside.2.1 15 = .ok (.iload 4, 2) := by decide +kernel
theorem dBL_sumInside_17 : decode mBL_sumInside.2.1 17 = .ok (.invokevirtual 96, 3) := by decide +kernel
theorem dBL_sumInside_20 : decode mBL_sumInside.2.1 20 = .ok (.astore 5, 2) := by decide +kernel
theorem dBL_sumInside_22 : decode mBL_sumInside.2.1 22 = .ok (.aload 5, 2) := by decide +kernel
theorem dBL_sumInside_24 : decode mBL_sumInside.2.1 24 = .ok (.ifnull 23, 3) := by decide +kernel
theorem dBL_sumInside_27 : decode mBL_sumInside.2.1 27 = .ok (.aload 5, 2) := by decide +kernel
theorem dBL_sumInside_29 : decode mBL_sumInside.2.1 29 = .ok (.getfield 100, 3) := by decide +kernel
theorem dBL_sumInside_32 : decode mBL_sumInside.2.1 32 = .ok (.iload_n 1, 1) := by decide +kernel
theorem dBL_sumInside_33 : decode mBL_sumInside.2.1 33 = .ok (.if_icmp .ne 14, 3) := by decide +kernel
theorem dBL_sumInside_36 : decode mBL_sumInside.2.1 36 = .ok (.lload_n 2, 1) := by decide +kernel
theorem dBL_sumInside_37 : decode mBL_sumInside.2.1 37 = .ok (.aload 5, 2) := by decide +kernel
theorem dBL_sumInside_39 : decode mBL_sumInside.2.1 39 = .ok (.getfield 82, 3) := by decide +kernel
theorem dBL_sumInside_42 : decode mBL_sumInside.2.1 42 = .ok (.invokevirtual 134, 3) := by decide +kernel
theorem dBL_sumInside_45 : decode mBL_sumInside.2.1 45 = .ok (.ladd, 1) := by decide +kernel
theorem dBL_sumInside_46 : decode mBL_sumInside.2.1 46 = .ok (.lstore_n 2, 1) := by decide +kernel
theorem dBL_sumInside_47 : decode mBL_sumInside.2.1 47 = .ok (.iinc 4 1, 3) := by decide +kernel
theorem dBL_sumInside_50 : decode mBL_sumInside.2.1 50 = .ok (.goto (-45), 3) := by decide +kernel
theorem dBL_sumInside_53 : decode mBL_sumInside.2.1 53 = .ok (.lload_n 2, 1) := by decide +kernel
theorem dBL_sumInside_54 : decode mBL_sumInside.2.1 54 = .ok (.lreturn, 1) := by decide +kernel
