theorem dTa_init_0 : decode mTa_init.2.1 0 = .ok (.aload_n 0, 1) := by decide +kernel
theorem dTa_init_1 : decode mTa_init.2.1 1 = .ok (.invokespecial 3, 3) := by decide +kernel
theorem dTa_init_4 : decode mTa_init.2.1 4 = .ok (.aload_n 0, 1) := by decide +kernel
theorem dTa_init_5 : decode mTa_init.2.1 5 = .ok (.bipush 100, 2) := by decide +kernel
theorem dTa_init_7 : decode mTa_init.2.1 7 = .ok (.newarray .int, 2) := by decide +kernel
theorem dTa_init_9 : decode mTa_init.2.1 9 = .ok (.putfield 11, 3) := by decide +kernel
theorem dTa_init_12 : decode mTa_init.2.1 12 = .ok (.return_, 1) := by decide +kernel
theorem dNa_init_0 : decode mNa_init.2.1 0 = .ok (.aload_n 0, 1) := by decide +kernel
theorem dNa_init_1 : decode mNa_init.2.1 1 = .ok (.invokespecial 3, 3) := by decide +kernel
theorem dNa_init_4 : decode mNa_init.2.1 4 = .ok (.aload_n 0, 1) := by decide +kernel
theorem dNa_init_5 : decode mNa_init.2.1 5 = .ok (.new 9, 3) := by decide +kernel
theorem dNa_init_8 : decode mNa_init.2.1 8 = .ok (.dup, 1) := by decide +kernel
theorem dNa_init_9 : decode mNa_init.2.1 9 = .ok (.sipush 400, 3) := by decide +kernel
theorem dNa_init_12 : decode mNa_init.2.1 12 = .ok (.invokespecial 13, 3) := by decide +kernel
theorem dNa_init_15 : decode mNa_init.2.1 15 = .ok (.putfield 16, 3) := by decide +kernel
theorem dNa_init_18 : decode mNa_init.2.1 18 = .ok (.return_, 1) := by decide +kernel
theorem dBy_init_0 : decode mBy_init.2.1 0 = .ok (.aload_n 0, 1) := by decide +kernel
theorem dBy_init_1 : decode mBy_init.2.1 1 = .ok (.invokespecial 3, 3) := by decide +kernel
theorem dBy_init_4 : decode mBy_init.2.1 4 = .ok (.aload_n 0, 1) := by decide +kernel
theorem dBy_init_5 : decode mBy_init.2.1 5 = .ok (.iload_n 1, 1) := by decide +kernel
theorem dBy_init_6 : decode mBy_init.2.1 6 = .ok (.iconst 0, 1) := by decide +kernel
theorem dBy_init_7 : decode mBy_init.2.1 7 = .ok (.invokestatic 9, 3) := by decide +kernel
theorem dBy_init_10 : decode mBy_init.2.1 10 = .ok (.newarray .int, 2) := by decide +kernel
theorem dBy_init_12 : decode mBy_init.2.1 12 = .ok (.putfield 15, 3) := by decide +kernel
theorem dBy_init_15 : decode mBy_init.2.1 15 = .ok (.return_, 1) := by decide +kernel
theorem dRu_init_0 : decode mRu_init.2.1 0 = .ok (.aload_n 0, 1) := by decide +kernel
theorem dRu_init_1 : decode mRu_init.2.1 1 = .ok (.invokespecial 3, 3) := by decide +kernel
theorem dRu_init_4 : decode mRu_init.2.1 4 = .ok (.aload_n 0, 1) := by decide +kernel
theorem dRu_init_5 : decode mRu_init.2.1 5 = .ok (.bipush 40, 2) := by decide +kernel
theorem dRu_init_7 : decode mRu_init.2.1 7 = .ok (.newarray .int, 2) := by decide +kernel
theorem dRu_init_9 : decode mRu_init.2.1 9 = .ok (.putfield 11, 3) := by decide +kernel
theorem dRu_init_12 : decode mRu_init.2.1 12 = .ok (.aload_n 0, 1) := by decide +kernel
theorem dRu_init_13 : decode mRu_init.2.1 13 = .ok (.bipush 40, 2) := by decide +kernel
theorem dRu_init_15 : decode mRu_init.2.1 15 = .ok (.newarray .int, 2) := by decide +kernel
theorem dRu_init_17 : decode mRu_init.2.1 17 = .ok (.putfield 15, 3) := by decide +kernel
theorem dRu_init_20 : decode mRu_init.2.1 20 = .ok (.aload_n 0, 1) := by decide +kernel
theorem dRu_init_21 : decode mRu_init.2.1 21 = .ok (.bipush 40, 2) := by decide +kernel
theorem dRu_init_23 : decode mRu_init.2.1 23 = .ok (.newarray .int, 2) := by decide +kernel
theorem dRu_init_25 : decode mRu_init.2.1 25 = .ok (.putfield 18, 3) := by decide +kernel
theorem dRu_init_28 : decode mRu_init.2.1 28 = .ok (.aload_n 0, 1) := by decide +kernel
theorem dRu_init_29 : decode mRu_init.2.1 29 = .ok (.bipush 40, 2) := by decide +kernel
theorem dRu_init_31 : decode mRu_init.2.1 31 = .ok (.newarray .int, 2) := by decide +kernel
theorem dRu_init_33 : decode mRu_init.2.1 33 = .ok (.putfield 21, 3) := by decide +kernel
theorem dRu_init_36 : decode mRu_init.2.1 36 = .ok (.return_, 1) := by decide +kernel
theorem dLe_init_0 : decode mLe_init.2.1 0 = .ok (.aload_n 0, 1) := by decide +kernel
theorem dLe_init_1 : decode mLe_init.2.1 1 = .ok (.invokespecial 3, 3) := by decide +kernel
theorem dLe_init_4 : decode mLe_init.2.1 4 = .ok (.aload_n 0, 1) := by decide +kernel
theorem dLe_init_5 : decode mLe_init.2.1 5 = .ok (.bipush 10, 2) := by decide +kernel
theorem dLe_init_7 : decode mLe_init.2.1 7 = .ok (.newarray .int, 2) := by decide +kernel
theorem dLe_init_9 : decode mLe_init.2.1 9 = .ok (.putfield 11, 3) := by decide +kernel
theorem dLe_init_12 : decode mLe_init.2.1 12 = .ok (.aload_n 0, 1) := by decide +kernel
theorem dLe_init_13 : decode mLe_init.2.1 13 = .ok (.bipush 100, 2) := by decide +kernel
theorem dLe_init_15 : decode mLe_init.2.1 15 = .ok (.newarray .int, 2) := by decide +kernel
theorem dLe_init_17 : decode mLe_init.2.1 17 = .ok (.putfield 15, 3) := by decide +kernel
theorem dLe_init_20 : decode mLe_init.2.1 20 = .ok (.aload_n 0, 1) := by decide +kernel
theorem dLe_init_21 : decode mLe_init.2.1 21 = .ok (.bipush 100, 2) := by decide +kernel
theorem dLe_init_23 : decode mLe_init.2.1 23 = .ok (.newarray .int, 2) := by decide +kernel
theorem dLe_init_25 : decode mLe_init.2.1 25 = .ok (.putfield 18, 3) := by decide +kernel
theorem dLe_init_28 : decode mLe_init.2.1 28 = .ok (.aload_n 0, 1) := by decide +kernel
theorem dLe_init_29 : decode mLe_init.2.1 29 = .ok (.bipush 100, 2) := by decide +kernel
theorem dLe_init_31 : decode mLe_init.2.1 31 = .ok (.newarray .long, 2) := by decide +kernel
theorem dLe_init_33 : decode mLe_init.2.1 33 = .ok (.putfield 21, 3) := by decide +kernel
theorem dLe_init_36 : decode mLe_init.2.1 36 = .ok (.return_, 1) := by decide +kernel
theorem dTh_init_0 : decode mTh_init.2.1 0 = .ok (.aload_n 0, 1) := by decide +kernel
theorem dTh_init_1 : decode mTh_init.2.1 1 = .ok (.invokespecial 3, 3) := by decide +kernel
theorem dTh_init_4 : decode mTh_init.2.1 4 = .ok (.aload_n 0, 1) := by decide +kernel
theorem dTh_init_5 : decode mTh_init.2.1 5 = .ok (.iload_n 1, 1) := by decide +kernel
theorem dTh_init_6 : decode mTh_init.2.1 6 = .ok (.putfield 9, 3) := by decide +kernel
theorem dTh_init_9 : decode mTh_init.2.1 9 = .ok (.aload_n 0, 1) := by decide +kernel
theorem dTh_init_10 : decode mTh_init.2.1 10 = .ok (.iload_n 2, 1) := by decide +kernel
theorem dTh_init_11 : decode mTh_init.2.1 11 = .ok (.putfield 15, 3) := by decide +kernel
theorem dTh_init_14 : decode mTh_init.2.1 14 = .ok (.aload_n 0, 1) := by decide +kernel
theorem dTh_init_15 : decode mTh_init.2.1 15 = .ok (.iload_n 3, 1) := by decide +kernel
theorem dTh_init_16 : decode mTh_init.2.1 16 = .ok (.putfield 18, 3) := by decide +kernel
theorem dTh_init_19 : decode mTh_init.2.1 19 = .ok (.aload_n 0, 1) := by decide +kernel
theorem dTh_init_20 : decode mTh_init.2.1 20 = .ok (.new 21, 3) := by decide +kernel
theorem dTh_init_23 : decode mTh_init.2.1 23 = .ok (.dup, 1) := by decide +kernel
theorem dTh_init_24 : decode mTh_init.2.1 24 = .ok (.invokespecial 23, 3) := by decide +kernel
theorem dTh_init_27 : decode mTh_init.2.1 27 = .ok (.putfield 24, 3) := by decide +kernel
theorem dTh_init_30 : decode mTh_init.2.1 30 = .ok (.return_, 1) := by decide +kernel
theorem dLa_init_0 : decode mLa_init.2.1 0 = .ok (.aload_n 0, 1) := by decide +kernel
theorem dLa_init_1 : decode mLa_init.2.1 1 = .ok (.invokespecial 3, 3) := by decide +kernel
theorem dLa_init_4 : decode mLa_init.2.1 4 = .ok (.aload_n 0, 1) := by decide +kernel
theorem dLa_init_5 : decode mLa_init.2.1 5 = .ok (.bipush 80, 2) := by decide +kernel
theorem dLa_init_7 : decode mLa_init.2.1 7 = .ok (.newarray .int, 2) := by decide +kernel
theorem dLa_init_9 : decode mLa_init.2.1 9 = .ok (.putfield 9, 3) := by decide +kernel
theorem dLa_init_12 : decode mLa_init.2.1 12 = .ok (.aload_n 0, 1) := by decide +kernel
theorem dLa_init_13 : decode mLa_init.2.1 13 = .ok (.bipush 80, 2) := by decide +kernel
theorem dLa_init_15 : decode mLa_init.2.1 15 = .ok (.newarray .long, 2) := by decide +kernel
theorem dLa_init_17 : decode mLa_init.2.1 17 = .ok (.putfield 15, 3) := by decide +kernel
theorem dLa_init_20 : decode mLa_init.2.1 20 = .ok (.return_, 1) := by decide +kernel
theorem dLa_append_0 : decode mLa_append.2.1 0 = .ok (.aload_n 0, 1) := by decide +kernel
theorem dLa_append_1 : decode mLa_append.2.1 1 = .ok (.getfield 19, 3) := by decide +kernel
theorem dLa_append_4 : decode mLa_append.2.1 4 = .ok (.ifCond .le 36, 3) := by decide +kernel
theorem dLa_append_7 : decode mLa_append.2.1 7 = .ok (.aload_n 0, 1) := by decide +kernel
theorem dLa_append_8 : decode mLa_append.2.1 8 = .ok (.getfield 9, 3) := by decide +kernel
theorem dLa_append_11 : decode mLa_append.2.1 11 = .ok (.aload_n 0, 1) := by decide +kernel
theorem dLa_append_12 : decode mLa_append.2.1 12 = .ok (.getfield 19, 3) := by decide +kernel
theorem dLa_append_15 : decode mLa_append.2.1 15 = .ok (.iconst 1, 1) := by decide +kernel
theorem dLa_append_16 : decode mLa_append.2.1 16 = .ok (.isub, 1) := by decide +kernel
theorem dLa_append_17 : decode mLa_append.2.1 17 = .ok (.iaload, 1) := by decide +kernel
theorem dLa_append_18 : decode mLa_append.2.1 18 = .ok (.iload_n 1, 1) := by decide +kernel
theorem dLa_append_19 : decode mLa_append.2.1 19 = .ok (.if_icmp .ne 21, 3) := by decide +kernel
theorem dLa_append_22 : decode mLa_append.2.1 22 = .ok (.aload_n 0, 1) := by decide +kernel
theorem dLa_append_23 : decode mLa_append.2.1 23 = .ok (.getfield 15, 3) := by decide +kernel
theorem dLa_append_26 : decode mLa_append.2.1 26 = .ok (.aload_n 0, 1) := by decide +kernel
theorem dLa_append_27 : decode mLa_append.2.1 27 = .ok (.getfield 19, 3) := by decide +kernel
theorem dLa_append_30 : decode mLa_append.2.1 30 = .ok (.iconst 1, 1) := by decide +kernel
theorem dLa_append_31 : decode mLa_append.2.1 31 = .ok (.isub, 1) := by decide +kernel
theorem dLa_append_32 : decode mLa_append.2.1 32 = .ok (.dup2, 1) := by decide +kernel
theorem dLa_append_33 : decode mLa_append.2.1 33 = .ok (.laload, 1) := by decide +kernel
theorem dLa_append_34 : decode mLa_append.2.1 34 = .ok (.lload_n 2, 1) := by decide +kernel
theorem dLa_append_35 : decode mLa_append.2.1 35 = .ok (.ladd, 1) := by decide +kernel
theorem dLa_append_36 : decode mLa_append.2.1 36 = .ok (.lastore, 1) := by decide +kernel
theorem dLa_append_37 : decode mLa_append.2.1 37 = .ok (.goto 45, 3) := by decide +kernel
theorem dLa_append_40 : decode mLa_append.2.1 40 = .ok (.aload_n 0, 1) := by decide +kernel
theorem dLa_append_41 : decode mLa_append.2.1 41 = .ok (.getfield 19, 3) := by decide +kernel
theorem dLa_append_44 : decode mLa_append.2.1 44 = .ok (.aload_n 0, 1) := by decide +kernel
theorem dLa_append_45 : decode mLa_append.2.1 45 = .ok (.getfield 9, 3) := by decide +kernel
theorem dLa_append_48 : decode mLa_append.2.1 48 = .ok (.arraylength, 1) := by decide +kernel
theorem dLa_append_49 : decode mLa_append.2.1 49 = .ok (.if_icmp .ge 33, 3) := by decide +kernel
theorem dLa_append_52 : decode mLa_append.2.1 52 = .ok (.aload_n 0, 1) := by decide +kernel
theorem dLa_append_53 : decode mLa_append.2.1 53 = .ok (.getfield 9, 3) := by decide +kernel
theorem dLa_append_56 : decode mLa_append.2.1 56 = .ok (.aload_n 0, 1) := by decide +kernel
theorem dLa_append_57 : decode mLa_append.2.1 57 = .ok (.getfield 19, 3) := by decide +kernel
theorem dLa_append_60 : decode mLa_append.2.1 60 = .ok (.iload_n 1, 1) := by decide +kernel
theorem dLa_append_61 : decode mLa_append.2.1 61 = .ok (.iastore, 1) := by decide +kernel
theorem dLa_append_62 : decode mLa_append.2.1 62 = .ok (.aload_n 0, 1) := by decide +kernel
theorem dLa_append_63 : decode mLa_append.2.1 63 = .ok (.getfield 15, 3) := by decide +kernel
theorem dLa_append_66 : decode mLa_append.2.1 66 = .ok (.aload_n 0, 1) := by decide +kernel
theorem dLa_append_67 : decode mLa_append.2.1 67 = .ok (.getfield 19, 3) := by decide +kernel
theorem dLa_append_70 : decode mLa_append.2.1 70 = .ok (.lload_n 2, 1) := by decide +kernel
theorem dLa_append_71 : decode mLa_append.2.1 71 = .ok (.lastore, 1) := by decide +kernel
theorem dLa_append_72 : decode mLa_append.2.1 72 = .ok (.aload_n 0, 1) := by decide +kernel
theorem dLa_append_73 : decode mLa_append.2.1 73 = .ok (.dup, 1) := by decide +kernel
theorem dLa_append_74 : decode mLa_append.2.1 74 = .ok (.getfield 19, 3) := by decide +kernel
theorem dLa_append_77 : decode mLa_append.2.1 77 = .ok (.iconst 1, 1) := by decide +kernel
theorem dLa_append_78 : decode mLa_append.2.1 78 = .ok (.iadd, 1) := by decide +kernel
theorem dLa_append_79 : decode mLa_append.2.1 79 = .ok (.putfield 19, 3) := by decide +kernel
theorem dLa_append_82 : decode mLa_append.2.1 82 = .ok (.return_, 1) := by decide +kernel
theorem dLa_have_0 : decode mLa_have.2.1 0 = .ok (.lload_n 1, 1) := by decide +kernel
theorem dLa_have_1 : decode mLa_have.2.1 1 = .ok (.lconst 1, 1) := by decide +kernel
theorem dLa_have_2 : decode mLa_have.2.1 2 = .ok (.lcmp, 1) := by decide +kernel
theorem dLa_have_3 : decode mLa_have.2.1 3 = .ok (.ifCond .lt 16, 3) := by decide +kernel
theorem dLa_have_6 : decode mLa_have.2.1 6 = .ok (.lload_n 1, 1) := by decide +kernel
theorem dLa_have_7 : decode mLa_have.2.1 7 = .ok (.aload_n 0, 1) := by decide +kernel
theorem dLa_have_8 : decode mLa_have.2.1 8 = .ok (.invokevirtual 25, 3) := by decide +kernel
theorem dLa_have_11 : decode mLa_have.2.1 11 = .ok (.lcmp, 1) := by decide +kernel
theorem dLa_have_12 : decode mLa_have.2.1 12 = .ok (.ifCond .gt 7, 3) := by decide +kernel
theorem dLa_have_15 : decode mLa_have.2.1 15 = .ok (.iconst 1, 1) := by decide +kernel
theorem dLa_have_16 : decode mLa_have.2.1 16 = .ok (.goto 4, 3) := by decide +kernel
theorem dLa_have_19 : decode mLa_have.2.1 19 = .ok (.iconst 0, 1) := by decide +kernel
theorem dLa_have_20 : decode mLa_have.2.1 20 = .ok (.ireturn, 1) := by decide +kernel
theorem dLa_total_0 : decode mLa_total.2.1 0 = .ok (.lconst 0, 1) := by decide +kernel
theorem dLa_total_1 : decode mLa_total.2.1 1 = .ok (.lstore_n 1, 1) := by decide +kernel
theorem dLa_total_2 : decode mLa_total.2.1 2 = .ok (.iconst 0, 1) := by decide +kernel
theorem dLa_total_3 : decode mLa_total.2.1 3 = .ok (.istore_n 3, 1) := by decide +kernel
theorem dLa_total_4 : decode mLa_total.2.1 4 = .ok (.iload_n 3, 1) := by decide +kernel
theorem dLa_total_5 : decode mLa_total.2.1 5 = .ok (.aload_n 0, 1) := by decide +kernel
theorem dLa_total_6 : decode mLa_total.2.1 6 = .ok (.getfield 19, 3) := by decide +kernel
theorem dLa_total_9 : decode mLa_total.2.1 9 = .ok (.if_icmp .ge 18, 3) := by decide +kernel
theorem dLa_total_12 : decode mLa_total.2.1 12 = .ok (.lload_n 1, 1) := by decide +kernel
theorem dLa_total_13 : decode mLa_total.2.1 13 = .ok (.aload_n 0, 1) := by decide +kernel
theorem dLa_total_14 : decode mLa_total.2.1 14 = .ok (.getfield 15, 3) := by decide +kernel
theorem dLa_total_17 : decode mLa_total.2.1 17 = .ok (.iload_n 3, 1) := by decide +kernel
theorem dLa_total_18 : decode mLa_total.2.1 18 = .ok (.laload, 1) := by decide +kernel
theorem dLa_total_19 : decode mLa_total.2.1 19 = .ok (.ladd, 1) := by decide +kernel
theorem dLa_total_20 : decode mLa_total.2.1 20 = .ok (.lstore_n 1, 1) := by decide +kernel
theorem dLa_total_21 : decode mLa_total.2.1 21 = .ok (.iinc 3 1, 3) := by decide +kernel
theorem dLa_total_24 : decode mLa_total.2.1 24 = .ok (.goto (-20), 3) := by decide +kernel
theorem dLa_total_27 : decode mLa_total.2.1 27 = .ok (.lload_n 1, 1) := by decide +kernel
theorem dLa_total_28 : decode mLa_total.2.1 28 = .ok (.lreturn, 1) := by decide +kernel
theorem dLa_sizeWith_0 : decode mLa_sizeWith.2.1 0 = .ok (.aload_n 0, 1) := by decide +kernel
theorem dLa_sizeWith_1 : decode mLa_sizeWith.2.1 1 = .ok (.getfield 19, 3) := by decide +kernel
theorem dLa_sizeWith_4 : decode mLa_sizeWith.2.1 4 = .ok (.aload_n 1, 1) := by decide +kernel
theorem dLa_sizeWith_5 : decode mLa_sizeWith.2.1 5 = .ok (.lload_n 2, 1) := by decide +kernel
theorem dLa_sizeWith_6 : decode mLa_sizeWith.2.1 6 = .ok (.invokevirtual 29, 3) := by decide +kernel
theorem dLa_sizeWith_9 : decode mLa_sizeWith.2.1 9 = .ok (.iadd, 1) := by decide +kernel
theorem dLa_sizeWith_10 : decode mLa_sizeWith.2.1 10 = .ok (.istore 4, 2) := by decide +kernel
theorem dLa_sizeWith_12 : decode mLa_sizeWith.2.1 12 = .ok (.aload_n 0, 1) := by decide +kernel
theorem dLa_sizeWith_13 : decode mLa_sizeWith.2.1 13 = .ok (.getfield 19, 3) := by decide +kernel
theorem dLa_sizeWith_16 : decode mLa_sizeWith.2.1 16 = .ok (.ifCond .le 28, 3) := by decide +kernel
theorem dLa_sizeWith_19 : decode mLa_sizeWith.2.1 19 = .ok (.aload_n 0, 1) := by decide +kernel
theorem dLa_sizeWith_20 : decode mLa_sizeWith.2.1 20 = .ok (.aload_n 0, 1) := by decide +kernel
theorem dLa_sizeWith_21 : decode mLa_sizeWith.2.1 21 = .ok (.getfield 19, 3) := by decide +kernel
theorem dLa_sizeWith_24 : decode mLa_sizeWith.2.1 24 = .ok (.iconst 1, 1) := by decide +kernel
theorem dLa_sizeWith_25 : decode mLa_sizeWith.2.1 25 = .ok (.isub, 1) := by decide +kernel
theorem dLa_sizeWith_26 : decode mLa_sizeWith.2.1 26 = .ok (.invokevirtual 33, 3) := by decide +kernel
theorem dLa_sizeWith_29 : decode mLa_sizeWith.2.1 29 = .ok (.aload_n 1, 1) := by decide +kernel
theorem dLa_sizeWith_30 : decode mLa_sizeWith.2.1 30 = .ok (.iconst 0, 1) := by decide +kernel
theorem dLa_sizeWith_31 : decode mLa_sizeWith.2.1 31 = .ok (.invokevirtual 33, 3) := by decide +kernel
theorem dLa_sizeWith_34 : decode mLa_sizeWith.2.1 34 = .ok (.if_icmp .ne 10, 3) := by decide +kernel
theorem dLa_sizeWith_37 : decode mLa_sizeWith.2.1 37 = .ok (.iload 4, 2) := by decide +kernel
theorem dLa_sizeWith_39 : decode mLa_sizeWith.2.1 39 = .ok (.iconst 1, 1) := by decide +kernel
theorem dLa_sizeWith_40 : decode mLa_sizeWith.2.1 40 = .ok (.isub, 1) := by decide +kernel
theorem dLa_sizeWith_41 : decode mLa_sizeWith.2.1 41 = .ok (.goto 5, 3) := by decide +kernel
theorem dLa_sizeWith_44 : decode mLa_sizeWith.2.1 44 = .ok (.iload 4, 2) := by decide +kernel
theorem dLa_sizeWith_46 : decode mLa_sizeWith.2.1 46 = .ok (.ireturn, 1) := by decide +kernel
theorem dLa_sizeOf_0 : decode mLa_sizeOf.2.1 0 = .ok (.lload_n 1, 1) := by decide +kernel
theorem dLa_sizeOf_1 : decode mLa_sizeOf.2.1 1 = .ok (.lstore_n 3, 1) := by decide +kernel
theorem dLa_sizeOf_2 : decode mLa_sizeOf.2.1 2 = .ok (.iconst 0, 1) := by decide +kernel
theorem dLa_sizeOf_3 : decode mLa_sizeOf.2.1 3 = .ok (.istore 5, 2) := by decide +kernel
theorem dLa_sizeOf_5 : decode mLa_sizeOf.2.1 5 = .ok (.iconst 0, 1) := by decide +kernel
theorem dLa_sizeOf_6 : decode mLa_sizeOf.2.1 6 = .ok (.istore 6, 2) := by decide +kernel
theorem dLa_sizeOf_8 : decode mLa_sizeOf.2.1 8 = .ok (.iload 6, 2) := by decide +kernel
theorem dLa_sizeOf_10 : decode mLa_sizeOf.2.1 10 = .ok (.aload_n 0, 1) := by decide +kernel
theorem dLa_sizeOf_11 : decode mLa_sizeOf.2.1 11 = .ok (.getfield 19, 3) := by decide +kernel
theorem dLa_sizeOf_14 : decode mLa_sizeOf.2.1 14 = .ok (.if_icmp .ge 28, 3) := by decide +kernel
theorem dLa_sizeOf_17 : decode mLa_sizeOf.2.1 17 = .ok (.lload_n 3, 1) := by decide +kernel
theorem dLa_sizeOf_18 : decode mLa_sizeOf.2.1 18 = .ok (.lconst 0, 1) := by decide +kernel
theorem dLa_sizeOf_19 : decode mLa_sizeOf.2.1 19 = .ok (.lcmp, 1) := by decide +kernel
theorem dLa_sizeOf_20 : decode mLa_sizeOf.2.1 20 = .ok (.ifCond .le 22, 3) := by decide +kernel
theorem dLa_sizeOf_23 : decode mLa_sizeOf.2.1 23 = .ok (.lload_n 3, 1) := by decide +kernel
theorem dLa_sizeOf_24 : decode mLa_sizeOf.2.1 24 = .ok (.aload_n 0, 1) := by decide +kernel
theorem dLa_sizeOf_25 : decode mLa_sizeOf.2.1 25 = .ok (.getfield 15, 3) := by decide +kernel
theorem dLa_sizeOf_28 : decode mLa_sizeOf.2.1 28 = .ok (.iload 6, 2) := by decide +kernel
theorem dLa_sizeOf_30 : decode mLa_sizeOf.2.1 30 = .ok (.laload, 1) := by decide +kernel
theorem dLa_sizeOf_31 : decode mLa_sizeOf.2.1 31 = .ok (.lsub, 1) := by decide +kernel
theorem dLa_sizeOf_32 : decode mLa_sizeOf.2.1 32 = .ok (.lstore_n 3, 1) := by decide +kernel
theorem dLa_sizeOf_33 : decode mLa_sizeOf.2.1 33 = .ok (.iinc 5 1, 3) := by decide +kernel
theorem dLa_sizeOf_36 : decode mLa_sizeOf.2.1 36 = .ok (.iinc 6 1, 3) := by decide +kernel
theorem dLa_sizeOf_39 : decode mLa_sizeOf.2.1 39 = .ok (.goto (-31), 3) := by decide +kernel
theorem dLa_sizeOf_42 : decode mLa_sizeOf.2.1 42 = .ok (.iload 5, 2) := by decide +kernel
theorem dLa_sizeOf_44 : decode mLa_sizeOf.2.1 44 = .ok (.ireturn, 1) := by decide +kernel
theorem dLa_haulAt_0 : decode mLa_haulAt.2.1 0 = .ok (.iload_n 1, 1) := by decide +kernel
theorem dLa_haulAt_1 : decode mLa_haulAt.2.1 1 = .ok (.ifCond .lt 20, 3) := by decide +kernel
theorem dLa_haulAt_4 : decode mLa_haulAt.2.1 4 = .ok (.iload_n 1, 1) := by decide +kernel
theorem dLa_haulAt_5 : decode mLa_haulAt.2.1 5 = .ok (.aload_n 0, 1) := by decide +kernel
theorem dLa_haulAt_6 : decode mLa_haulAt.2.1 6 = .ok (.getfield 19, 3) := by decide +kernel
theorem dLa_haulAt_9 : decode mLa_haulAt.2.1 9 = .ok (.if_icmp .ge 12, 3) := by decide +kernel
theorem dLa_haulAt_12 : decode mLa_haulAt.2.1 12 = .ok (.aload_n 0, 1) := by decide +kernel
theorem dLa_haulAt_13 : decode mLa_haulAt.2.1 13 = .ok (.getfield 9, 3) := by decide +kernel
theorem dLa_haulAt_16 : decode mLa_haulAt.2.1 16 = .ok (.iload_n 1, 1) := by decide +kernel
theorem dLa_haulAt_17 : decode mLa_haulAt.2.1 17 = .ok (.iaload, 1) := by decide +kernel
theorem dLa_haulAt_18 : decode mLa_haulAt.2.1 18 = .ok (.goto 4, 3) := by decide +kernel
theorem dLa_haulAt_21 : decode mLa_haulAt.2.1 21 = .ok (.iconst (-1), 1) := by decide +kernel
theorem dLa_haulAt_22 : decode mLa_haulAt.2.1 22 = .ok (.ireturn, 1) := by decide +kernel
theorem dTh_takeFrom_0 : decode mTh_takeFrom.2.1 0 = .ok (.aload_n 0, 1) := by decide +kernel
theorem dTh_takeFrom_1 : decode mTh_takeFrom.2.1 1 = .ok (.getfield 24, 3) := by decide +kernel
theorem dTh_takeFrom_4 : decode mTh_takeFrom.2.1 4 = .ok (.aload_n 1, 1) := by decide +kernel
theorem dTh_takeFrom_5 : decode mTh_takeFrom.2.1 5 = .ok (.getfield 24, 3) := by decide +kernel
theorem dTh_takeFrom_8 : decode mTh_takeFrom.2.1 8 = .ok (.lload_n 2, 1) := by decide +kernel
theorem dTh_takeFrom_9 : decode mTh_takeFrom.2.1 9 = .ok (.invokevirtual 28, 3) := by decide +kernel
theorem dTh_takeFrom_12 : decode mTh_takeFrom.2.1 12 = .ok (.aload_n 1, 1) := by decide +kernel
theorem dTh_takeFrom_13 : decode mTh_takeFrom.2.1 13 = .ok (.getfield 24, 3) := by decide +kernel
theorem dTh_takeFrom_16 : decode mTh_takeFrom.2.1 16 = .ok (.lload_n 2, 1) := by decide +kernel
theorem dTh_takeFrom_17 : decode mTh_takeFrom.2.1 17 = .ok (.invokevirtual 32, 3) := by decide +kernel
theorem dTh_takeFrom_20 : decode mTh_takeFrom.2.1 20 = .ok (.aload_n 0, 1) := by decide +kernel
theorem dTh_takeFrom_21 : decode mTh_takeFrom.2.1 21 = .ok (.aload_n 0, 1) := by decide +kernel
theorem dTh_takeFrom_22 : decode mTh_takeFrom.2.1 22 = .ok (.getfield 36, 3) := by decide +kernel
theorem dTh_takeFrom_25 : decode mTh_takeFrom.2.1 25 = .ok (.aload_n 1, 1) := by decide +kernel
theorem dTh_takeFrom_26 : decode mTh_takeFrom.2.1 26 = .ok (.getfield 36, 3) := by decide +kernel
theorem dTh_takeFrom_29 : decode mTh_takeFrom.2.1 29 = .ok (.invokestatic 39, 3) := by decide +kernel
theorem dTh_takeFrom_32 : decode mTh_takeFrom.2.1 32 = .ok (.putfield 36, 3) := by decide +kernel
theorem dTh_takeFrom_35 : decode mTh_takeFrom.2.1 35 = .ok (.return_, 1) := by decide +kernel
theorem dLa_appendFront_0 : decode mLa_appendFront.2.1 0 = .ok (.lload_n 2, 1) := by decide +kernel
theorem dLa_appendFront_1 : decode mLa_appendFront.2.1 1 = .ok (.lstore 4, 2) := by decide +kernel
theorem dLa_appendFront_3 : decode mLa_appendFront.2.1 3 = .ok (.iconst 0, 1) := by decide +kernel
theorem dLa_appendFront_4 : decode mLa_appendFront.2.1 4 = .ok (.istore 6, 2) := by decide +kernel
theorem dLa_appendFront_6 : decode mLa_appendFront.2.1 6 = .ok (.iload 6, 2) := by decide +kernel
theorem dLa_appendFront_8 : decode mLa_appendFront.2.1 8 = .ok (.aload_n 1, 1) := by decide +kernel
theorem dLa_appendFront_9 : decode mLa_appendFront.2.1 9 = .ok (.getfield 19, 3) := by decide +kernel
theorem dLa_appendFront_12 : decode mLa_appendFront.2.1 12 = .ok (.if_icmp .ge 50, 3) := by decide +kernel
theorem dLa_appendFront_15 : decode mLa_appendFront.2.1 15 = .ok (.lload 4, 2) := by decide +kernel
theorem dLa_appendFront_17 : decode mLa_appendFront.2.1 17 = .ok (.lconst 0, 1) := by decide +kernel
theorem dLa_appendFront_18 : decode mLa_appendFront.2.1 18 = .ok (.lcmp, 1) := by decide +kernel
theorem dLa_appendFront_19 : decode mLa_appendFront.2.1 19 = .ok (.ifCond .le 43, 3) := by decide +kernel
theorem dLa_appendFront_22 : decode mLa_appendFront.2.1 22 = .ok (.lload 4, 2) := by decide +kernel
theorem dLa_appendFront_24 : decode mLa_appendFront.2.1 24 = .ok (.aload_n 1, 1) := by decide +kernel
theorem dLa_appendFront_25 : decode mLa_appendFront.2.1 25 = .ok (.getfield 15, 3) := by decide +kernel
theorem dLa_appendFront_28 : decode mLa_appendFront.2.1 28 = .ok (.iload 6, 2) := by decide +kernel
theorem dLa_appendFront_30 : decode mLa_appendFront.2.1 30 = .ok (.laload, 1) := by decide +kernel
theorem dLa_appendFront_31 : decode mLa_appendFront.2.1 31 = .ok (.invokestatic 37, 3) := by decide +kernel
theorem dLa_appendFront_34 : decode mLa_appendFront.2.1 34 = .ok (.lstore 7, 2) := by decide +kernel
theorem dLa_appendFront_36 : decode mLa_appendFront.2.1 36 = .ok (.aload_n 0, 1) := by decide +kernel
theorem dLa_appendFront_37 : decode mLa_appendFront.2.1 37 = .ok (.aload_n 1, 1) := by decide +kernel
theorem dLa_appendFront_38 : decode mLa_appendFront.2.1 38 = .ok (.getfield 9, 3) := by decide +kernel
theorem dLa_appendFront_41 : decode mLa_appendFront.2.1 41 = .ok (.iload 6, 2) := by decide +kernel
theorem dLa_appendFront_43 : decode mLa_appendFront.2.1 43 = .ok (.iaload, 1) := by decide +kernel
theorem dLa_appendFront_44 : decode mLa_appendFront.2.1 44 = .ok (.lload 7, 2) := by decide +kernel
theorem dLa_appendFront_46 : decode mLa_appendFront.2.1 46 = .ok (.invokevirtual 43, 3) := by decide +kernel
theorem dLa_appendFront_49 : decode mLa_appendFront.2.1 49 = .ok (.lload 4, 2) := by decide +kernel
theorem dLa_appendFront_51 : decode mLa_appendFront.2.1 51 = .ok (.lload 7, 2) := by decide +kernel
theorem dLa_appendFront_53 : decode mLa_appendFront.2.1 53 = .ok (.lsub, 1) := by decide +kernel
theorem dLa_appendFront_54 : decode mLa_appendFront.2.1 54 = .ok (.lstore 4, 2) := by decide +kernel
theorem dLa_appendFront_56 : decode mLa_appendFront.2.1 56 = .ok (.iinc 6 1, 3) := by decide +kernel
theorem dLa_appendFront_59 : decode mLa_appendFront.2.1 59 = .ok (.goto (-53), 3) := by decide +kernel
theorem dLa_appendFront_62 : decode mLa_appendFront.2.1 62 = .ok (.return_, 1) := by decide +kernel
theorem dLa_dropFront_0 : decode mLa_dropFront.2.1 0 = .ok (.lload_n 1, 1) := by decide +kernel
theorem dLa_dropFront_1 : decode mLa_dropFront.2.1 1 = .ok (.lstore_n 3, 1) := by decide +kernel
theorem dLa_dropFront_2 : decode mLa_dropFront.2.1 2 = .ok (.iconst 0, 1) := by decide +kernel
theorem dLa_dropFront_3 : decode mLa_dropFront.2.1 3 = .ok (.istore 5, 2) := by decide +kernel
theorem dLa_dropFront_5 : decode mLa_dropFront.2.1 5 = .ok (.iconst 0, 1) := by decide +kernel
theorem dLa_dropFront_6 : decode mLa_dropFront.2.1 6 = .ok (.istore 6, 2) := by decide +kernel
theorem dLa_dropFront_8 : decode mLa_dropFront.2.1 8 = .ok (.iload 6, 2) := by decide +kernel
theorem dLa_dropFront_10 : decode mLa_dropFront.2.1 10 = .ok (.aload_n 0, 1) := by decide +kernel
theorem dLa_dropFront_11 : decode mLa_dropFront.2.1 11 = .ok (.getfield 19, 3) := by decide +kernel
theorem dLa_dropFront_14 : decode mLa_dropFront.2.1 14 = .ok (.if_icmp .ge 60, 3) := by decide +kernel
theorem dLa_dropFront_17 : decode mLa_dropFront.2.1 17 = .ok (.lload_n 3, 1) := by decide +kernel
theorem dLa_dropFront_18 : decode mLa_dropFront.2.1 18 = .ok (.lconst 0, 1) := by decide +kernel
theorem dLa_dropFront_19 : decode mLa_dropFront.2.1 19 = .ok (.lcmp, 1) := by decide +kernel
theorem dLa_dropFront_20 : decode mLa_dropFront.2.1 20 = .ok (.ifCond .le 54, 3) := by decide +kernel
theorem dLa_dropFront_23 : decode mLa_dropFront.2.1 23 = .ok (.lload_n 3, 1) := by decide +kernel
theorem dLa_dropFront_24 : decode mLa_dropFront.2.1 24 = .ok (.aload_n 0, 1) := by decide +kernel
theorem dLa_dropFront_25 : decode mLa_dropFront.2.1 25 = .ok (.getfield 15, 3) := by decide +kernel
theorem dLa_dropFront_28 : decode mLa_dropFront.2.1 28 = .ok (.iload 6, 2) := by decide +kernel
theorem dLa_dropFront_30 : decode mLa_dropFront.2.1 30 = .ok (.laload, 1) := by decide +kernel
theorem dLa_dropFront_31 : decode mLa_dropFront.2.1 31 = .ok (.invokestatic 37, 3) := by decide +kernel
theorem dLa_dropFront_34 : decode mLa_dropFront.2.1 34 = .ok (.lstore 7, 2) := by decide +kernel
theorem dLa_dropFront_36 : decode mLa_dropFront.2.1 36 = .ok (.aload_n 0, 1) := by decide +kernel
theorem dLa_dropFront_37 : decode mLa_dropFront.2.1 37 = .ok (.getfield 15, 3) := by decide +kernel
theorem dLa_dropFront_40 : decode mLa_dropFront.2.1 40 = .ok (.iload 6, 2) := by decide +kernel
theorem dLa_dropFront_42 : decode mLa_dropFront.2.1 42 = .ok (.dup2, 1) := by decide +kernel
theorem dLa_dropFront_43 : decode mLa_dropFront.2.1 43 = .ok (.laload, 1) := by decide +kernel
theorem dLa_dropFront_44 : decode mLa_dropFront.2.1 44 = .ok (.lload 7, 2) := by decide +kernel
theorem dLa_dropFront_46 : decode mLa_dropFront.2.1 46 = .ok (.lsub, 1) := by decide +kernel
theorem dLa_dropFront_47 : decode mLa_dropFront.2.1 47 = .ok (.lastore, 1) := by decide +kernel
theorem dLa_dropFront_48 : decode mLa_dropFront.2.1 48 = .ok (.lload_n 3, 1) := by decide +kernel
theorem dLa_dropFront_49 : decode mLa_dropFront.2.1 49 = .ok (.lload 7, 2) := by decide +kernel
theorem dLa_dropFront_51 : decode mLa_dropFront.2.1 51 = .ok (.lsub, 1) := by decide +kernel
theorem dLa_dropFront_52 : decode mLa_dropFront.2.1 52 = .ok (.lstore_n 3, 1) := by decide +kernel
theorem dLa_dropFront_53 : decode mLa_dropFront.2.1 53 = .ok (.aload_n 0, 1) := by decide +kernel
theorem dLa_dropFront_54 : decode mLa_dropFront.2.1 54 = .ok (.getfield 15, 3) := by decide +kernel
theorem dLa_dropFront_57 : decode mLa_dropFront.2.1 57 = .ok (.iload 6, 2) := by decide +kernel
theorem dLa_dropFront_59 : decode mLa_dropFront.2.1 59 = .ok (.laload, 1) := by decide +kernel
theorem dLa_dropFront_60 : decode mLa_dropFront.2.1 60 = .ok (.lconst 0, 1) := by decide +kernel
theorem dLa_dropFront_61 : decode mLa_dropFront.2.1 61 = .ok (.lcmp, 1) := by decide +kernel
theorem dLa_dropFront_62 : decode mLa_dropFront.2.1 62 = .ok (.ifCond .ne 6, 3) := by decide +kernel
theorem dLa_dropFront_65 : decode mLa_dropFront.2.1 65 = .ok (.iinc 5 1, 3) := by decide +kernel
theorem dLa_dropFront_68 : decode mLa_dropFront.2.1 68 = .ok (.iinc 6 1, 3) := by decide +kernel
theorem dLa_dropFront_71 : decode mLa_dropFront.2.1 71 = .ok (.goto (-63), 3) := by decide +kernel
theorem dLa_dropFront_74 : decode mLa_dropFront.2.1 74 = .ok (.aload_n 0, 1) := by decide +kernel
theorem dLa_dropFront_75 : decode mLa_dropFront.2.1 75 = .ok (.iload 5, 2) := by decide +kernel
theorem dLa_dropFront_77 : decode mLa_dropFront.2.1 77 = .ok (.invokevirtual 47, 3) := by decide +kernel
theorem dLa_dropFront_80 : decode mLa_dropFront.2.1 80 = .ok (.return_, 1) := by decide +kernel
theorem dLa_dropLayers_0 : decode mLa_dropLayers.2.1 0 = .ok (.iload_n 1, 1) := by decide +kernel
theorem dLa_dropLayers_1 : decode mLa_dropLayers.2.1 1 = .ok (.istore_n 2, 1) := by decide +kernel
theorem dLa_dropLayers_2 : decode mLa_dropLayers.2.1 2 = .ok (.iload_n 2, 1) := by decide +kernel
theorem dLa_dropLayers_3 : decode mLa_dropLayers.2.1 3 = .ok (.aload_n 0, 1) := by decide +kernel
theorem dLa_dropLayers_4 : decode mLa_dropLayers.2.1 4 = .ok (.getfield 19, 3) := by decide +kernel
theorem dLa_dropLayers_7 : decode mLa_dropLayers.2.1 7 = .ok (.if_icmp .ge 37, 3) := by decide +kernel
theorem dLa_dropLayers_10 : decode mLa_dropLayers.2.1 10 = .ok (.aload_n 0, 1) := by decide +kernel
theorem dLa_dropLayers_11 : decode mLa_dropLayers.2.1 11 = .ok (.getfield 9, 3) := by decide +kernel
theorem dLa_dropLayers_14 : decode mLa_dropLayers.2.1 14 = .ok (.iload_n 2, 1) := by decide +kernel
theorem dLa_dropLayers_15 : decode mLa_dropLayers.2.1 15 = .ok (.iload_n 1, 1) := by decide +kernel
theorem dLa_dropLayers_16 : decode mLa_dropLayers.2.1 16 = .ok (.isub, 1) := by decide +kernel
theorem dLa_dropLayers_17 : decode mLa_dropLayers.2.1 17 = .ok (.aload_n 0, 1) := by decide +kernel
theorem dLa_dropLayers_18 : decode mLa_dropLayers.2.1 18 = .ok (.getfield 9, 3) := by decide +kernel
theorem dLa_dropLayers_21 : decode mLa_dropLayers.2.1 21 = .ok (.iload_n 2, 1) := by decide +kernel
theorem dLa_dropLayers_22 : decode mLa_dropLayers.2.1 22 = .ok (.iaload, 1) := by decide +kernel
theorem dLa_dropLayers_23 : decode mLa_dropLayers.2.1 23 = .ok (.iastore, 1) := by decide +kernel
theorem dLa_dropLayers_24 : decode mLa_dropLayers.2.1 24 = .ok (.aload_n 0, 1) := by decide +kernel
theorem dLa_dropLayers_25 : decode mLa_dropLayers.2.1 25 = .ok (.getfield 15, 3) := by decide +kernel
theorem dLa_dropLayers_28 : decode mLa_dropLayers.2.1 28 = .ok (.iload_n 2, 1) := by decide +kernel
theorem dLa_dropLayers_29 : decode mLa_dropLayers.2.1 29 = .ok (.iload_n 1, 1) := by decide +kernel
theorem dLa_dropLayers_30 : decode mLa_dropLayers.2.1 30 = .ok (.isub, 1) := by decide +kernel
theorem dLa_dropLayers_31 : decode mLa_dropLayers.2.1 31 = .ok (.aload_n 0, 1) := by decide +kernel
theorem dLa_dropLayers_32 : decode mLa_dropLayers.2.1 32 = .ok (.getfield 15, 3) := by decide +kernel
theorem dLa_dropLayers_35 : decode mLa_dropLayers.2.1 35 = .ok (.iload_n 2, 1) := by decide +kernel
theorem dLa_dropLayers_36 : decode mLa_dropLayers.2.1 36 = .ok (.laload, 1) := by decide +kernel
theorem dLa_dropLayers_37 : decode mLa_dropLayers.2.1 37 = .ok (.lastore, 1) := by decide +kernel
theorem dLa_dropLayers_38 : decode mLa_dropLayers.2.1 38 = .ok (.iinc 2 1, 3) := by decide +kernel
theorem dLa_dropLayers_41 : decode mLa_dropLayers.2.1 41 = .ok (.goto (-39), 3) := by decide +kernel
theorem dLa_dropLayers_44 : decode mLa_dropLayers.2.1 44 = .ok (.aload_n 0, 1) := by decide +kernel
theorem dLa_dropLayers_45 : decode mLa_dropLayers.2.1 45 = .ok (.dup, 1) := by decide +kernel
theorem dLa_dropLayers_46 : decode mLa_dropLayers.2.1 46 = .ok (.getfield 19, 3) := by decide +kernel
theorem dLa_dropLayers_49 : decode mLa_dropLayers.2.1 49 = .ok (.iload_n 1, 1) := by decide +kernel
theorem dLa_dropLayers_50 : decode mLa_dropLayers.2.1 50 = .ok (.isub, 1) := by decide +kernel
theorem dLa_dropLayers_51 : decode mLa_dropLayers.2.1 51 = .ok (.putfield 19, 3) := by decide +kernel
theorem dLa_dropLayers_54 : decode mLa_dropLayers.2.1 54 = .ok (.return_, 1) := by decide +kernel
theorem dLa_clear_0 : decode mLa_clear.2.1 0 = .ok (.aload_n 0, 1) := by decide +kernel
theorem dLa_clear_1 : decode mLa_clear.2.1 1 = .ok (.iconst 0, 1) := by decide +kernel
theorem dLa_clear_2 : decode mLa_clear.2.1 2 = .ok (.putfield 19, 3) := by decide +kernel
theorem dLa_clear_5 : decode mLa_clear.2.1 5 = .ok (.return_, 1) := by decide +kernel
theorem dTh_fact_0 : decode mTh_fact.2.1 0 = .ok (.iload_n 1, 1) := by decide +kernel
theorem dTh_fact_1 : decode mTh_fact.2.1 1 = .ok (.tableswitch 115 0 8 #[51, 57, 65, 74, 79, 92, 98, 104, 109], 51) := by decide +kernel
theorem dTh_fact_52 : decode mTh_fact.2.1 52 = .ok (.aload_n 0, 1) := by decide +kernel
theorem dTh_fact_53 : decode mTh_fact.2.1 53 = .ok (.getfield 9, 3) := by decide +kernel
theorem dTh_fact_56 : decode mTh_fact.2.1 56 = .ok (.i2l, 1) := by decide +kernel
theorem dTh_fact_57 : decode mTh_fact.2.1 57 = .ok (.lreturn, 1) := by decide +kernel
theorem dTh_fact_58 : decode mTh_fact.2.1 58 = .ok (.aload_n 0, 1) := by decide +kernel
theorem dTh_fact_59 : decode mTh_fact.2.1 59 = .ok (.getfield 24, 3) := by decide +kernel
theorem dTh_fact_62 : decode mTh_fact.2.1 62 = .ok (.invokevirtual 45, 3) := by decide +kernel
theorem dTh_fact_65 : decode mTh_fact.2.1 65 = .ok (.lreturn, 1) := by decide +kernel
theorem dTh_fact_66 : decode mTh_fact.2.1 66 = .ok (.aload_n 0, 1) := by decide +kernel
theorem dTh_fact_67 : decode mTh_fact.2.1 67 = .ok (.getfield 24, 3) := by decide +kernel
theorem dTh_fact_70 : decode mTh_fact.2.1 70 = .ok (.invokevirtual 49, 3) := by decide +kernel
theorem dTh_fact_73 : decode mTh_fact.2.1 73 = .ok (.i2l, 1) := by decide +kernel
theorem dTh_fact_74 : decode mTh_fact.2.1 74 = .ok (.lreturn, 1) := by decide +kernel
theorem dTh_fact_75 : decode mTh_fact.2.1 75 = .ok (.aload_n 0, 1) := by decide +kernel
theorem dTh_fact_76 : decode mTh_fact.2.1 76 = .ok (.getfield 53, 3) := by decide +kernel
theorem dTh_fact_79 : decode mTh_fact.2.1 79 = .ok (.lreturn, 1) := by decide +kernel
theorem dTh_fact_80 : decode mTh_fact.2.1 80 = .ok (.aload_n 0, 1) := by decide +kernel
theorem dTh_fact_81 : decode mTh_fact.2.1 81 = .ok (.getfield 57, 3) := by decide +kernel
theorem dTh_fact_84 : decode mTh_fact.2.1 84 = .ok (.ifCond .eq 7, 3) := by decide +kernel
theorem dTh_fact_87 : decode mTh_fact.2.1 87 = .ok (.lconst 1, 1) := by decide +kernel
theorem dTh_fact_88 : decode mTh_fact.2.1 88 = .ok (.goto 4, 3) := by decide +kernel
theorem dTh_fact_91 : decode mTh_fact.2.1 91 = .ok (.lconst 0, 1) := by decide +kernel
theorem dTh_fact_92 : decode mTh_fact.2.1 92 = .ok (.lreturn, 1) := by decide +kernel
theorem dTh_fact_93 : decode mTh_fact.2.1 93 = .ok (.aload_n 0, 1) := by decide +kernel
theorem dTh_fact_94 : decode mTh_fact.2.1 94 = .ok (.getfield 36, 3) := by decide +kernel
theorem dTh_fact_97 : decode mTh_fact.2.1 97 = .ok (.i2l, 1) := by decide +kernel
theorem dTh_fact_98 : decode mTh_fact.2.1 98 = .ok (.lreturn, 1) := by decide +kernel
theorem dTh_fact_99 : decode mTh_fact.2.1 99 = .ok (.aload_n 0, 1) := by decide +kernel
theorem dTh_fact_100 : decode mTh_fact.2.1 100 = .ok (.getfield 15, 3) := by decide +kernel
theorem dTh_fact_103 : decode mTh_fact.2.1 103 = .ok (.i2l, 1) := by decide +kernel
theorem dTh_fact_104 : decode mTh_fact.2.1 104 = .ok (.lreturn, 1) := by decide +kernel
theorem dTh_fact_105 : decode mTh_fact.2.1 105 = .ok (.aload_n 0, 1) := by decide +kernel
theorem dTh_fact_106 : decode mTh_fact.2.1 106 = .ok (.getfield 61, 3) := by decide +kernel
theorem dTh_fact_109 : decode mTh_fact.2.1 109 = .ok (.lreturn, 1) := by decide +kernel
theorem dTh_fact_110 : decode mTh_fact.2.1 110 = .ok (.aload_n 0, 1) := by decide +kernel
theorem dTh_fact_111 : decode mTh_fact.2.1 111 = .ok (.getfield 18, 3) := by decide +kernel
theorem dTh_fact_114 : decode mTh_fact.2.1 114 = .ok (.i2l, 1) := by decide +kernel
theorem dTh_fact_115 : decode mTh_fact.2.1 115 = .ok (.lreturn, 1) := by decide +kernel
theorem dTh_fact_116 : decode mTh_fact.2.1 116 = .ok (.ldc2_w 64, 3) := by decide +kernel
theorem dTh_fact_119 : decode mTh_fact.2.1 119 = .ok (.lreturn, 1) := by decide +kernel
theorem dLa_size_0 : decode mLa_size.2.1 0 = .ok (.aload_n 0, 1) := by decide +kernel
theorem dLa_size_1 : decode mLa_size.2.1 1 = .ok (.getfield 19, 3) := by decide +kernel
theorem dLa_size_4 : decode mLa_size.2.1 4 = .ok (.ireturn, 1) := by decide +kernel
theorem dLa_gramsAt_0 : decode mLa_gramsAt.2.1 0 = .ok (.iload_n 1, 1) := by decide +kernel
theorem dLa_gramsAt_1 : decode mLa_gramsAt.2.1 1 = .ok (.ifCond .lt 20, 3) := by decide +kernel
theorem dLa_gramsAt_4 : decode mLa_gramsAt.2.1 4 = .ok (.iload_n 1, 1) := by decide +kernel
theorem dLa_gramsAt_5 : decode mLa_gramsAt.2.1 5 = .ok (.aload_n 0, 1) := by decide +kernel
theorem dLa_gramsAt_6 : decode mLa_gramsAt.2.1 6 = .ok (.getfield 19, 3) := by decide +kernel
theorem dLa_gramsAt_9 : decode mLa_gramsAt.2.1 9 = .ok (.if_icmp .ge 12, 3) := by decide +kernel
theorem dLa_gramsAt_12 : decode mLa_gramsAt.2.1 12 = .ok (.aload_n 0, 1) := by decide +kernel
theorem dLa_gramsAt_13 : decode mLa_gramsAt.2.1 13 = .ok (.getfield 15, 3) := by decide +kernel
theorem dLa_gramsAt_16 : decode mLa_gramsAt.2.1 16 = .ok (.iload_n 1, 1) := by decide +kernel
theorem dLa_gramsAt_17 : decode mLa_gramsAt.2.1 17 = .ok (.laload, 1) := by decide +kernel
theorem dLa_gramsAt_18 : decode mLa_gramsAt.2.1 18 = .ok (.goto 6, 3) := by decide +kernel
theorem dLa_gramsAt_21 : decode mLa_gramsAt.2.1 21 = .ok (.ldc2_w 23, 3) := by decide +kernel
theorem dLa_gramsAt_24 : decode mLa_gramsAt.2.1 24 = .ok (.lreturn, 1) := by decide +kernel
theorem dLa_gramsOf_0 : decode mLa_gramsOf.2.1 0 = .ok (.lconst 0, 1) := by decide +kernel
theorem dLa_gramsOf_1 : decode mLa_gramsOf.2.1 1 = .ok (.lstore_n 2, 1) := by decide +kernel
theorem dLa_gramsOf_2 : decode mLa_gramsOf.2.1 2 = .ok (.iconst 0, 1) := by decide +kernel
theorem dLa_gramsOf_3 : decode mLa_gramsOf.2.1 3 = .ok (.istore 4, 2) := by decide +kernel
theorem dLa_gramsOf_5 : decode mLa_gramsOf.2.1 5 = .ok (.iload 4, 2) := by decide +kernel
theorem dLa_gramsOf_7 : decode mLa_gramsOf.2.1 7 = .ok (.aload_n 0, 1) := by decide +kernel
theorem dLa_gramsOf_8 : decode mLa_gramsOf.2.1 8 = .ok (.getfield 19, 3) := by decide +kernel
theorem dLa_gramsOf_11 : decode mLa_gramsOf.2.1 11 = .ok (.if_icmp .ge 30, 3) := by decide +kernel
theorem dLa_gramsOf_14 : decode mLa_gramsOf.2.1 14 = .ok (.aload_n 0, 1) := by decide +kernel
theorem dLa_gramsOf_15 : decode mLa_gramsOf.2.1 15 = .ok (.getfield 9, 3) := by decide +kernel
theorem dLa_gramsOf_18 : decode mLa_gramsOf.2.1 18 = .ok (.iload 4, 2) := by decide +kernel
theorem dLa_gramsOf_20 : decode mLa_gramsOf.2.1 20 = .ok (.iaload, 1) := by decide +kernel
theorem dLa_gramsOf_21 : decode mLa_gramsOf.2.1 21 = .ok (.iload_n 1, 1) := by decide +kernel
theorem dLa_gramsOf_22 : decode mLa_gramsOf.2.1 22 = .ok (.if_icmp .ne 13, 3) := by decide +kernel
theorem dLa_gramsOf_25 : decode mLa_gramsOf.2.1 25 = .ok (.lload_n 2, 1) := by decide +kernel
theorem dLa_gramsOf_26 : decode mLa_gramsOf.2.1 26 = .ok (.aload_n 0, 1) := by decide +kernel
theorem dLa_gramsOf_27 : decode mLa_gramsOf.2.1 27 = .ok (.getfield 15, 3) := by decide +kernel
theorem dLa_gramsOf_30 : decode mLa_gramsOf.2.1 30 = .ok (.iload 4, 2) := by decide +kernel
theorem dLa_gramsOf_32 : decode mLa_gramsOf.2.1 32 = .ok (.laload, 1) := by decide +kernel
theorem dLa_gramsOf_33 : decode mLa_gramsOf.2.1 33 = .ok (.ladd, 1) := by decide +kernel
theorem dLa_gramsOf_34 : decode mLa_gramsOf.2.1 34 = .ok (.lstore_n 2, 1) := by decide +kernel
theorem dLa_gramsOf_35 : decode mLa_gramsOf.2.1 35 = .ok (.iinc 4 1, 3) := by decide +kernel
theorem dLa_gramsOf_38 : decode mLa_gramsOf.2.1 38 = .ok (.goto (-33), 3) := by decide +kernel
theorem dLa_gramsOf_41 : decode mLa_gramsOf.2.1 41 = .ok (.lload_n 2, 1) := by decide +kernel
theorem dLa_gramsOf_42 : decode mLa_gramsOf.2.1 42 = .ok (.lreturn, 1) := by decide +kernel
theorem dTa_clear_0 : decode mTa_clear.2.1 0 = .ok (.iconst 0, 1) := by decide +kernel
theorem dTa_clear_1 : decode mTa_clear.2.1 1 = .ok (.istore_n 1, 1) := by decide +kernel
theorem dTa_clear_2 : decode mTa_clear.2.1 2 = .ok (.iload_n 1, 1) := by decide +kernel
theorem dTa_clear_3 : decode mTa_clear.2.1 3 = .ok (.aload_n 0, 1) := by decide +kernel
theorem dTa_clear_4 : decode mTa_clear.2.1 4 = .ok (.getfield 11, 3) := by decide +kernel
theorem dTa_clear_7 : decode mTa_clear.2.1 7 = .ok (.arraylength, 1) := by decide +kernel
theorem dTa_clear_8 : decode mTa_clear.2.1 8 = .ok (.if_icmp .ge 16, 3) := by decide +kernel
theorem dTa_clear_11 : decode mTa_clear.2.1 11 = .ok (.aload_n 0, 1) := by decide +kernel
theorem dTa_clear_12 : decode mTa_clear.2.1 12 = .ok (.getfield 11, 3) := by decide +kernel
theorem dTa_clear_15 : decode mTa_clear.2.1 15 = .ok (.iload_n 1, 1) := by decide +kernel
theorem dTa_clear_16 : decode mTa_clear.2.1 16 = .ok (.iconst 0, 1) := by decide +kernel
theorem dTa_clear_17 : decode mTa_clear.2.1 17 = .ok (.iastore, 1) := by decide +kernel
theorem dTa_clear_18 : decode mTa_clear.2.1 18 = .ok (.iinc 1 1, 3) := by decide +kernel
theorem dTa_clear_21 : decode mTa_clear.2.1 21 = .ok (.goto (-19), 3) := by decide +kernel
theorem dTa_clear_24 : decode mTa_clear.2.1 24 = .ok (.return_, 1) := by decide +kernel
theorem dTa_count_0 : decode mTa_count.2.1 0 = .ok (.iload_n 1, 1) := by decide +kernel
theorem dTa_count_1 : decode mTa_count.2.1 1 = .ok (.ifCond .lt 22, 3) := by decide +kernel
theorem dTa_count_4 : decode mTa_count.2.1 4 = .ok (.iload_n 1, 1) := by decide +kernel
theorem dTa_count_5 : decode mTa_count.2.1 5 = .ok (.aload_n 0, 1) := by decide +kernel
theorem dTa_count_6 : decode mTa_count.2.1 6 = .ok (.getfield 11, 3) := by decide +kernel
theorem dTa_count_9 : decode mTa_count.2.1 9 = .ok (.arraylength, 1) := by decide +kernel
theorem dTa_count_10 : decode mTa_count.2.1 10 = .ok (.if_icmp .ge 13, 3) := by decide +kernel
theorem dTa_count_13 : decode mTa_count.2.1 13 = .ok (.aload_n 0, 1) := by decide +kernel
theorem dTa_count_14 : decode mTa_count.2.1 14 = .ok (.getfield 11, 3) := by decide +kernel
theorem dTa_count_17 : decode mTa_count.2.1 17 = .ok (.iload_n 1, 1) := by decide +kernel
theorem dTa_count_18 : decode mTa_count.2.1 18 = .ok (.dup2, 1) := by decide +kernel
theorem dTa_count_19 : decode mTa_count.2.1 19 = .ok (.iaload, 1) := by decide +kernel
theorem dTa_count_20 : decode mTa_count.2.1 20 = .ok (.iconst 1, 1) := by decide +kernel
theorem dTa_count_21 : decode mTa_count.2.1 21 = .ok (.iadd, 1) := by decide +kernel
theorem dTa_count_22 : decode mTa_count.2.1 22 = .ok (.iastore, 1) := by decide +kernel
theorem dTa_count_23 : decode mTa_count.2.1 23 = .ok (.return_, 1) := by decide +kernel
theorem dTa_pick_0 : decode mTa_pick.2.1 0 = .ok (.iconst 0, 1) := by decide +kernel
theorem dTa_pick_1 : decode mTa_pick.2.1 1 = .ok (.istore_n 2, 1) := by decide +kernel
theorem dTa_pick_2 : decode mTa_pick.2.1 2 = .ok (.iconst 0, 1) := by decide +kernel
theorem dTa_pick_3 : decode mTa_pick.2.1 3 = .ok (.istore_n 3, 1) := by decide +kernel
theorem dTa_pick_4 : decode mTa_pick.2.1 4 = .ok (.iload_n 3, 1) := by decide +kernel
theorem dTa_pick_5 : decode mTa_pick.2.1 5 = .ok (.aload_n 0, 1) := by decide +kernel
theorem dTa_pick_6 : decode mTa_pick.2.1 6 = .ok (.getfield 11, 3) := by decide +kernel
theorem dTa_pick_9 : decode mTa_pick.2.1 9 = .ok (.arraylength, 1) := by decide +kernel
theorem dTa_pick_10 : decode mTa_pick.2.1 10 = .ok (.if_icmp .ge 28, 3) := by decide +kernel
theorem dTa_pick_13 : decode mTa_pick.2.1 13 = .ok (.aload_n 0, 1) := by decide +kernel
theorem dTa_pick_14 : decode mTa_pick.2.1 14 = .ok (.getfield 11, 3) := by decide +kernel
theorem dTa_pick_17 : decode mTa_pick.2.1 17 = .ok (.iload_n 3, 1) := by decide +kernel
theorem dTa_pick_18 : decode mTa_pick.2.1 18 = .ok (.iaload, 1) := by decide +kernel
theorem dTa_pick_19 : decode mTa_pick.2.1 19 = .ok (.ifCond .le 13, 3) := by decide +kernel
theorem dTa_pick_22 : decode mTa_pick.2.1 22 = .ok (.iload_n 2, 1) := by decide +kernel
theorem dTa_pick_23 : decode mTa_pick.2.1 23 = .ok (.iload_n 1, 1) := by decide +kernel
theorem dTa_pick_24 : decode mTa_pick.2.1 24 = .ok (.if_icmp .ne 5, 3) := by decide +kernel
theorem dTa_pick_27 : decode mTa_pick.2.1 27 = .ok (.iload_n 3, 1) := by decide +kernel
theorem dTa_pick_28 : decode mTa_pick.2.1 28 = .ok (.ireturn, 1) := by decide +kernel
theorem dTa_pick_29 : decode mTa_pick.2.1 29 = .ok (.iinc 2 1, 3) := by decide +kernel
theorem dTa_pick_32 : decode mTa_pick.2.1 32 = .ok (.iinc 3 1, 3) := by decide +kernel
theorem dTa_pick_35 : decode mTa_pick.2.1 35 = .ok (.goto (-31), 3) := by decide +kernel
theorem dTa_pick_38 : decode mTa_pick.2.1 38 = .ok (.iconst (-1), 1) := by decide +kernel
theorem dTa_pick_39 : decode mTa_pick.2.1 39 = .ok (.ireturn, 1) := by decide +kernel
theorem dTa_countedAtLeast_0 : decode mTa_countedAtLeast.2.1 0 = .ok (.iconst 0, 1) := by decide +kernel
theorem dTa_countedAtLeast_1 : decode mTa_countedAtLeast.2.1 1 = .ok (.istore_n 2, 1) := by decide +kernel
theorem dTa_countedAtLeast_2 : decode mTa_countedAtLeast.2.1 2 = .ok (.iconst 0, 1) := by decide +kernel
theorem dTa_countedAtLeast_3 : decode mTa_countedAtLeast.2.1 3 = .ok (.istore_n 3, 1) := by decide +kernel
theorem dTa_countedAtLeast_4 : decode mTa_countedAtLeast.2.1 4 = .ok (.iload_n 3, 1) := by decide +kernel
theorem dTa_countedAtLeast_5 : decode mTa_countedAtLeast.2.1 5 = .ok (.aload_n 0, 1) := by decide +kernel
theorem dTa_countedAtLeast_6 : decode mTa_countedAtLeast.2.1 6 = .ok (.getfield 11, 3) := by decide +kernel
theorem dTa_countedAtLeast_9 : decode mTa_countedAtLeast.2.1 9 = .ok (.arraylength, 1) := by decide +kernel
theorem dTa_countedAtLeast_10 : decode mTa_countedAtLeast.2.1 10 = .ok (.if_icmp .ge 22, 3) := by decide +kernel
theorem dTa_countedAtLeast_13 : decode mTa_countedAtLeast.2.1 13 = .ok (.aload_n 0, 1) := by decide +kernel
theorem dTa_countedAtLeast_14 : decode mTa_countedAtLeast.2.1 14 = .ok (.getfield 11, 3) := by decide +kernel
theorem dTa_countedAtLeast_17 : decode mTa_countedAtLeast.2.1 17 = .ok (.iload_n 3, 1) := by decide +kernel
theorem dTa_countedAtLeast_18 : decode mTa_countedAtLeast.2.1 18 = .ok (.iaload, 1) := by decide +kernel
theorem dTa_countedAtLeast_19 : decode mTa_countedAtLeast.2.1 19 = .ok (.iload_n 1, 1) := by decide +kernel
theorem dTa_countedAtLeast_20 : decode mTa_countedAtLeast.2.1 20 = .ok (.if_icmp .lt 6, 3) := by decide +kernel
theorem dTa_countedAtLeast_23 : decode mTa_countedAtLeast.2.1 23 = .ok (.iinc 2 1, 3) := by decide +kernel
theorem dTa_countedAtLeast_26 : decode mTa_countedAtLeast.2.1 26 = .ok (.iinc 3 1, 3) := by decide +kernel
theorem dTa_countedAtLeast_29 : decode mTa_countedAtLeast.2.1 29 = .ok (.goto (-25), 3) := by decide +kernel
theorem dTa_countedAtLeast_32 : decode mTa_countedAtLeast.2.1 32 = .ok (.iload_n 2, 1) := by decide +kernel
theorem dTa_countedAtLeast_33 : decode mTa_countedAtLeast.2.1 33 = .ok (.ireturn, 1) := by decide +kernel
theorem dNa_put_0 : decode mNa_put.2.1 0 = .ok (.aload_n 0, 1) := by decide +kernel
theorem dNa_put_1 : decode mNa_put.2.1 1 = .ok (.getfield 16, 3) := by decide +kernel
theorem dNa_put_4 : decode mNa_put.2.1 4 = .ok (.iload_n 1, 1) := by decide +kernel
theorem dNa_put_5 : decode mNa_put.2.1 5 = .ok (.invokevirtual 20, 3) := by decide +kernel
theorem dNa_put_8 : decode mNa_put.2.1 8 = .ok (.ireturn, 1) := by decide +kernel
theorem dBy_put_0 : decode mBy_put.2.1 0 = .ok (.aload_n 0, 1) := by decide +kernel
theorem dBy_put_1 : decode mBy_put.2.1 1 = .ok (.getfield 21, 3) := by decide +kernel
theorem dBy_put_4 : decode mBy_put.2.1 4 = .ok (.aload_n 0, 1) := by decide +kernel
theorem dBy_put_5 : decode mBy_put.2.1 5 = .ok (.getfield 15, 3) := by decide +kernel
theorem dBy_put_8 : decode mBy_put.2.1 8 = .ok (.arraylength, 1) := by decide +kernel
theorem dBy_put_9 : decode mBy_put.2.1 9 = .ok (.if_icmp .lt 5, 3) := by decide +kernel
theorem dBy_put_12 : decode mBy_put.2.1 12 = .ok (.iconst 0, 1) := by decide +kernel
theorem dBy_put_13 : decode mBy_put.2.1 13 = .ok (.ireturn, 1) := by decide +kernel
theorem dBy_put_14 : decode mBy_put.2.1 14 = .ok (.aload_n 0, 1) := by decide +kernel
theorem dBy_put_15 : decode mBy_put.2.1 15 = .ok (.getfield 15, 3) := by decide +kernel
theorem dBy_put_18 : decode mBy_put.2.1 18 = .ok (.aload_n 0, 1) := by decide +kernel
theorem dBy_put_19 : decode mBy_put.2.1 19 = .ok (.getfield 21, 3) := by decide +kernel
theorem dBy_put_22 : decode mBy_put.2.1 22 = .ok (.iload_n 1, 1) := by decide +kernel
theorem dBy_put_23 : decode mBy_put.2.1 23 = .ok (.iastore, 1) := by decide +kernel
theorem dBy_put_24 : decode mBy_put.2.1 24 = .ok (.aload_n 0, 1) := by decide +kernel
theorem dBy_put_25 : decode mBy_put.2.1 25 = .ok (.dup, 1) := by decide +kernel
theorem dBy_put_26 : decode mBy_put.2.1 26 = .ok (.getfield 21, 3) := by decide +kernel
theorem dBy_put_29 : decode mBy_put.2.1 29 = .ok (.iconst 1, 1) := by decide +kernel
theorem dBy_put_30 : decode mBy_put.2.1 30 = .ok (.iadd, 1) := by decide +kernel
theorem dBy_put_31 : decode mBy_put.2.1 31 = .ok (.putfield 21, 3) := by decide +kernel
theorem dBy_put_34 : decode mBy_put.2.1 34 = .ok (.iconst 1, 1) := by decide +kernel
theorem dBy_put_35 : decode mBy_put.2.1 35 = .ok (.ireturn, 1) := by decide +kernel
theorem dNa_read_0 : decode mNa_read.2.1 0 = .ok (.aload_n 0, 1) := by decide +kernel
theorem dNa_read_1 : decode mNa_read.2.1 1 = .ok (.iconst 0, 1) := by decide +kernel
theorem dNa_read_2 : decode mNa_read.2.1 2 = .ok (.putfield 27, 3) := by decide +kernel
theorem dNa_read_5 : decode mNa_read.2.1 5 = .ok (.aload_n 0, 1) := by decide +kernel
theorem dNa_read_6 : decode mNa_read.2.1 6 = .ok (.iconst (-1), 1) := by decide +kernel
theorem dNa_read_7 : decode mNa_read.2.1 7 = .ok (.putfield 31, 3) := by decide +kernel
theorem dNa_read_10 : decode mNa_read.2.1 10 = .ok (.aload_n 1, 1) := by decide +kernel
theorem dNa_read_11 : decode mNa_read.2.1 11 = .ok (.invokevirtual 34, 3) := by decide +kernel
theorem dNa_read_14 : decode mNa_read.2.1 14 = .ok (.aload_n 0, 1) := by decide +kernel
theorem dNa_read_15 : decode mNa_read.2.1 15 = .ok (.invokevirtual 37, 3) := by decide +kernel
theorem dNa_read_18 : decode mNa_read.2.1 18 = .ok (.iconst 0, 1) := by decide +kernel
theorem dNa_read_19 : decode mNa_read.2.1 19 = .ok (.istore_n 2, 1) := by decide +kernel
theorem dNa_read_20 : decode mNa_read.2.1 20 = .ok (.iload_n 2, 1) := by decide +kernel
theorem dNa_read_21 : decode mNa_read.2.1 21 = .ok (.bipush 40, 2) := by decide +kernel
theorem dNa_read_23 : decode mNa_read.2.1 23 = .ok (.if_icmp .gt 40, 3) := by decide +kernel
theorem dNa_read_26 : decode mNa_read.2.1 26 = .ok (.aload_n 0, 1) := by decide +kernel
theorem dNa_read_27 : decode mNa_read.2.1 27 = .ok (.getfield 31, 3) := by decide +kernel
theorem dNa_read_30 : decode mNa_read.2.1 30 = .ok (.iconst (-1), 1) := by decide +kernel
theorem dNa_read_31 : decode mNa_read.2.1 31 = .ok (.if_icmp .ne 32, 3) := by decide +kernel
theorem dNa_read_34 : decode mNa_read.2.1 34 = .ok (.aload_n 0, 1) := by decide +kernel
theorem dNa_read_35 : decode mNa_read.2.1 35 = .ok (.getfield 27, 3) := by decide +kernel
theorem dNa_read_38 : decode mNa_read.2.1 38 = .ok (.aload_n 0, 1) := by decide +kernel
theorem dNa_read_39 : decode mNa_read.2.1 39 = .ok (.getfield 16, 3) := by decide +kernel
theorem dNa_read_42 : decode mNa_read.2.1 42 = .ok (.invokevirtual 40, 3) := by decide +kernel
theorem dNa_read_45 : decode mNa_read.2.1 45 = .ok (.if_icmp .ge 18, 3) := by decide +kernel
theorem dNa_read_48 : decode mNa_read.2.1 48 = .ok (.aload_n 0, 1) := by decide +kernel
theorem dNa_read_49 : decode mNa_read.2.1 49 = .ok (.aload_n 1, 1) := by decide +kernel
theorem dNa_read_50 : decode mNa_read.2.1 50 = .ok (.invokevirtual 44, 3) := by decide +kernel
theorem dNa_read_53 : decode mNa_read.2.1 53 = .ok (.aload_n 0, 1) := by decide +kernel
theorem dNa_read_54 : decode mNa_read.2.1 54 = .ok (.invokevirtual 37, 3) := by decide +kernel
theorem dNa_read_57 : decode mNa_read.2.1 57 = .ok (.iinc 2 1, 3) := by decide +kernel
theorem dNa_read_60 : decode mNa_read.2.1 60 = .ok (.goto (-40), 3) := by decide +kernel
theorem dNa_read_63 : decode mNa_read.2.1 63 = .ok (.aload_n 0, 1) := by decide +kernel
theorem dNa_read_64 : decode mNa_read.2.1 64 = .ok (.getfield 31, 3) := by decide +kernel
theorem dNa_read_67 : decode mNa_read.2.1 67 = .ok (.ireturn, 1) := by decide +kernel
theorem dRu_clear_0 : decode mRu_clear.2.1 0 = .ok (.aload_n 0, 1) := by decide +kernel
theorem dRu_clear_1 : decode mRu_clear.2.1 1 = .ok (.iconst 0, 1) := by decide +kernel
theorem dRu_clear_2 : decode mRu_clear.2.1 2 = .ok (.putfield 24, 3) := by decide +kernel
theorem dRu_clear_5 : decode mRu_clear.2.1 5 = .ok (.return_, 1) := by decide +kernel
theorem dNa_skipBlanks_0 : decode mNa_skipBlanks.2.1 0 = .ok (.iconst 0, 1) := by decide +kernel
theorem dNa_skipBlanks_1 : decode mNa_skipBlanks.2.1 1 = .ok (.istore_n 1, 1) := by decide +kernel
theorem dNa_skipBlanks_2 : decode mNa_skipBlanks.2.1 2 = .ok (.iload_n 1, 1) := by decide +kernel
theorem dNa_skipBlanks_3 : decode mNa_skipBlanks.2.1 3 = .ok (.sipush 400, 3) := by decide +kernel
theorem dNa_skipBlanks_6 : decode mNa_skipBlanks.2.1 6 = .ok (.if_icmp .ge 26, 3) := by decide +kernel
theorem dNa_skipBlanks_9 : decode mNa_skipBlanks.2.1 9 = .ok (.aload_n 0, 1) := by decide +kernel
theorem dNa_skipBlanks_10 : decode mNa_skipBlanks.2.1 10 = .ok (.invokevirtual 75, 3) := by decide +kernel
theorem dNa_skipBlanks_13 : decode mNa_skipBlanks.2.1 13 = .ok (.ifCond .eq 19, 3) := by decide +kernel
theorem dNa_skipBlanks_16 : decode mNa_skipBlanks.2.1 16 = .ok (.aload_n 0, 1) := by decide +kernel
theorem dNa_skipBlanks_17 : decode mNa_skipBlanks.2.1 17 = .ok (.dup, 1) := by decide +kernel
theorem dNa_skipBlanks_18 : decode mNa_skipBlanks.2.1 18 = .ok (.getfield 27, 3) := by decide +kernel
theorem dNa_skipBlanks_21 : decode mNa_skipBlanks.2.1 21 = .ok (.iconst 1, 1) := by decide +kernel
theorem dNa_skipBlanks_22 : decode mNa_skipBlanks.2.1 22 = .ok (.iadd, 1) := by decide +kernel
theorem dNa_skipBlanks_23 : decode mNa_skipBlanks.2.1 23 = .ok (.putfield 27, 3) := by decide +kernel
theorem dNa_skipBlanks_26 : decode mNa_skipBlanks.2.1 26 = .ok (.iinc 1 1, 3) := by decide +kernel
theorem dNa_skipBlanks_29 : decode mNa_skipBlanks.2.1 29 = .ok (.goto (-27), 3) := by decide +kernel
theorem dNa_skipBlanks_32 : decode mNa_skipBlanks.2.1 32 = .ok (.return_, 1) := by decide +kernel
theorem dNa_isBlank_0 : decode mNa_isBlank.2.1 0 = .ok (.aload_n 0, 1) := by decide +kernel
theorem dNa_isBlank_1 : decode mNa_isBlank.2.1 1 = .ok (.getfield 16, 3) := by decide +kernel
theorem dNa_isBlank_4 : decode mNa_isBlank.2.1 4 = .ok (.aload_n 0, 1) := by decide +kernel
theorem dNa_isBlank_5 : decode mNa_isBlank.2.1 5 = .ok (.getfield 27, 3) := by decide +kernel
theorem dNa_isBlank_8 : decode mNa_isBlank.2.1 8 = .ok (.invokevirtual 68, 3) := by decide +kernel
theorem dNa_isBlank_11 : decode mNa_isBlank.2.1 11 = .ok (.istore_n 1, 1) := by decide +kernel
theorem dNa_isBlank_12 : decode mNa_isBlank.2.1 12 = .ok (.iload_n 1, 1) := by decide +kernel
theorem dNa_isBlank_13 : decode mNa_isBlank.2.1 13 = .ok (.bipush 9, 2) := by decide +kernel
theorem dNa_isBlank_15 : decode mNa_isBlank.2.1 15 = .ok (.if_icmp .eq 21, 3) := by decide +kernel
theorem dNa_isBlank_18 : decode mNa_isBlank.2.1 18 = .ok (.iload_n 1, 1) := by decide +kernel
theorem dNa_isBlank_19 : decode mNa_isBlank.2.1 19 = .ok (.bipush 10, 2) := by decide +kernel
theorem dNa_isBlank_21 : decode mNa_isBlank.2.1 21 = .ok (.if_icmp .eq 15, 3) := by decide +kernel
theorem dNa_isBlank_24 : decode mNa_isBlank.2.1 24 = .ok (.iload_n 1, 1) := by decide +kernel
theorem dNa_isBlank_25 : decode mNa_isBlank.2.1 25 = .ok (.bipush 13, 2) := by decide +kernel
theorem dNa_isBlank_27 : decode mNa_isBlank.2.1 27 = .ok (.if_icmp .eq 9, 3) := by decide +kernel
theorem dNa_isBlank_30 : decode mNa_isBlank.2.1 30 = .ok (.iload_n 1, 1) := by decide +kernel
theorem dNa_isBlank_31 : decode mNa_isBlank.2.1 31 = .ok (.bipush 32, 2) := by decide +kernel
theorem dNa_isBlank_33 : decode mNa_isBlank.2.1 33 = .ok (.if_icmp .ne 7, 3) := by decide +kernel
theorem dNa_isBlank_36 : decode mNa_isBlank.2.1 36 = .ok (.iconst 1, 1) := by decide +kernel
theorem dNa_isBlank_37 : decode mNa_isBlank.2.1 37 = .ok (.goto 4, 3) := by decide +kernel
theorem dNa_isBlank_40 : decode mNa_isBlank.2.1 40 = .ok (.iconst 0, 1) := by decide +kernel
theorem dNa_isBlank_41 : decode mNa_isBlank.2.1 41 = .ok (.ireturn, 1) := by decide +kernel
theorem dBy_byteAt_0 : decode mBy_byteAt.2.1 0 = .ok (.iload_n 1, 1) := by decide +kernel
theorem dBy_byteAt_1 : decode mBy_byteAt.2.1 1 = .ok (.ifCond .lt 20, 3) := by decide +kernel
theorem dBy_byteAt_4 : decode mBy_byteAt.2.1 4 = .ok (.iload_n 1, 1) := by decide +kernel
theorem dBy_byteAt_5 : decode mBy_byteAt.2.1 5 = .ok (.aload_n 0, 1) := by decide +kernel
theorem dBy_byteAt_6 : decode mBy_byteAt.2.1 6 = .ok (.getfield 21, 3) := by decide +kernel
theorem dBy_byteAt_9 : decode mBy_byteAt.2.1 9 = .ok (.if_icmp .ge 12, 3) := by decide +kernel
theorem dBy_byteAt_12 : decode mBy_byteAt.2.1 12 = .ok (.aload_n 0, 1) := by decide +kernel
theorem dBy_byteAt_13 : decode mBy_byteAt.2.1 13 = .ok (.getfield 15, 3) := by decide +kernel
theorem dBy_byteAt_16 : decode mBy_byteAt.2.1 16 = .ok (.iload_n 1, 1) := by decide +kernel
theorem dBy_byteAt_17 : decode mBy_byteAt.2.1 17 = .ok (.iaload, 1) := by decide +kernel
theorem dBy_byteAt_18 : decode mBy_byteAt.2.1 18 = .ok (.goto 4, 3) := by decide +kernel
theorem dBy_byteAt_21 : decode mBy_byteAt.2.1 21 = .ok (.iconst (-1), 1) := by decide +kernel
theorem dBy_byteAt_22 : decode mBy_byteAt.2.1 22 = .ok (.ireturn, 1) := by decide +kernel
theorem dBy_size_0 : decode mBy_size.2.1 0 = .ok (.aload_n 0, 1) := by decide +kernel
theorem dBy_size_1 : decode mBy_size.2.1 1 = .ok (.getfield 21, 3) := by decide +kernel
theorem dBy_size_4 : decode mBy_size.2.1 4 = .ok (.ireturn, 1) := by decide +kernel
theorem dNa_readRule_0 : decode mNa_readRule.2.1 0 = .ok (.aload_n 0, 1) := by decide +kernel
theorem dNa_readRule_1 : decode mNa_readRule.2.1 1 = .ok (.iconst 0, 1) := by decide +kernel
theorem dNa_readRule_2 : decode mNa_readRule.2.1 2 = .ok (.aload_n 1, 1) := by decide +kernel
theorem dNa_readRule_3 : decode mNa_readRule.2.1 3 = .ok (.invokevirtual 48, 3) := by decide +kernel
theorem dNa_readRule_6 : decode mNa_readRule.2.1 6 = .ok (.ifCond .eq 7, 3) := by decide +kernel
theorem dNa_readRule_9 : decode mNa_readRule.2.1 9 = .ok (.iconst (-1), 1) := by decide +kernel
theorem dNa_readRule_10 : decode mNa_readRule.2.1 10 = .ok (.goto 5, 3) := by decide +kernel
theorem dNa_readRule_13 : decode mNa_readRule.2.1 13 = .ok (.bipush 99, 2) := by decide +kernel
theorem dNa_readRule_15 : decode mNa_readRule.2.1 15 = .ok (.invokevirtual 52, 3) := by decide +kernel
theorem dNa_readRule_18 : decode mNa_readRule.2.1 18 = .ok (.istore_n 2, 1) := by decide +kernel
theorem dNa_readRule_19 : decode mNa_readRule.2.1 19 = .ok (.aload_n 0, 1) := by decide +kernel
theorem dNa_readRule_20 : decode mNa_readRule.2.1 20 = .ok (.bipush 58, 2) := by decide +kernel
theorem dNa_readRule_22 : decode mNa_readRule.2.1 22 = .ok (.invokevirtual 56, 3) := by decide +kernel
theorem dNa_readRule_25 : decode mNa_readRule.2.1 25 = .ok (.aload_n 0, 1) := by decide +kernel
theorem dNa_readRule_26 : decode mNa_readRule.2.1 26 = .ok (.iconst 0, 1) := by decide +kernel
theorem dNa_readRule_27 : decode mNa_readRule.2.1 27 = .ok (.sipush 999, 3) := by decide +kernel
theorem dNa_readRule_30 : decode mNa_readRule.2.1 30 = .ok (.invokevirtual 52, 3) := by decide +kernel
theorem dNa_readRule_33 : decode mNa_readRule.2.1 33 = .ok (.istore_n 3, 1) := by decide +kernel
theorem dNa_readRule_34 : decode mNa_readRule.2.1 34 = .ok (.aload_n 0, 1) := by decide +kernel
theorem dNa_readRule_35 : decode mNa_readRule.2.1 35 = .ok (.bipush 45, 2) := by decide +kernel
theorem dNa_readRule_37 : decode mNa_readRule.2.1 37 = .ok (.invokevirtual 56, 3) := by decide +kernel
theorem dNa_readRule_40 : decode mNa_readRule.2.1 40 = .ok (.aload_n 0, 1) := by decide +kernel
theorem dNa_readRule_41 : decode mNa_readRule.2.1 41 = .ok (.iload_n 3, 1) := by decide +kernel
theorem dNa_readRule_42 : decode mNa_readRule.2.1 42 = .ok (.sipush 999, 3) := by decide +kernel
theorem dNa_readRule_45 : decode mNa_readRule.2.1 45 = .ok (.invokevirtual 52, 3) := by decide +kernel
theorem dNa_readRule_48 : decode mNa_readRule.2.1 48 = .ok (.istore 4, 2) := by decide +kernel
theorem dNa_readRule_50 : decode mNa_readRule.2.1 50 = .ok (.aload_n 0, 1) := by decide +kernel
theorem dNa_readRule_51 : decode mNa_readRule.2.1 51 = .ok (.bipush 44, 2) := by decide +kernel
theorem dNa_readRule_53 : decode mNa_readRule.2.1 53 = .ok (.invokevirtual 56, 3) := by decide +kernel
theorem dNa_readRule_56 : decode mNa_readRule.2.1 56 = .ok (.aload_n 0, 1) := by decide +kernel
theorem dNa_readRule_57 : decode mNa_readRule.2.1 57 = .ok (.iconst 0, 1) := by decide +kernel
theorem dNa_readRule_58 : decode mNa_readRule.2.1 58 = .ok (.ldc 60, 2) := by decide +kernel
theorem dNa_readRule_60 : decode mNa_readRule.2.1 60 = .ok (.invokevirtual 52, 3) := by decide +kernel
theorem dNa_readRule_63 : decode mNa_readRule.2.1 63 = .ok (.istore 5, 2) := by decide +kernel
theorem dNa_readRule_65 : decode mNa_readRule.2.1 65 = .ok (.aload_n 0, 1) := by decide +kernel
theorem dNa_readRule_66 : decode mNa_readRule.2.1 66 = .ok (.bipush 59, 2) := by decide +kernel
theorem dNa_readRule_68 : decode mNa_readRule.2.1 68 = .ok (.invokevirtual 56, 3) := by decide +kernel
theorem dNa_readRule_71 : decode mNa_readRule.2.1 71 = .ok (.aload_n 0, 1) := by decide +kernel
theorem dNa_readRule_72 : decode mNa_readRule.2.1 72 = .ok (.getfield 31, 3) := by decide +kernel
theorem dNa_readRule_75 : decode mNa_readRule.2.1 75 = .ok (.iconst (-1), 1) := by decide +kernel
theorem dNa_readRule_76 : decode mNa_readRule.2.1 76 = .ok (.if_icmp .ne 13, 3) := by decide +kernel
theorem dNa_readRule_79 : decode mNa_readRule.2.1 79 = .ok (.aload_n 1, 1) := by decide +kernel
theorem dNa_readRule_80 : decode mNa_readRule.2.1 80 = .ok (.iload_n 2, 1) := by decide +kernel
theorem dNa_readRule_81 : decode mNa_readRule.2.1 81 = .ok (.iload_n 3, 1) := by decide +kernel
theorem dNa_readRule_82 : decode mNa_readRule.2.1 82 = .ok (.iload 4, 2) := by decide +kernel
theorem dNa_readRule_84 : decode mNa_readRule.2.1 84 = .ok (.iload 5, 2) := by decide +kernel
theorem dNa_readRule_86 : decode mNa_readRule.2.1 86 = .ok (.invokevirtual 61, 3) := by decide +kernel
theorem dNa_readRule_89 : decode mNa_readRule.2.1 89 = .ok (.return_, 1) := by decide +kernel
theorem dRu_isFull_0 : decode mRu_isFull.2.1 0 = .ok (.aload_n 0, 1) := by decide +kernel
theorem dRu_isFull_1 : decode mRu_isFull.2.1 1 = .ok (.getfield 24, 3) := by decide +kernel
theorem dRu_isFull_4 : decode mRu_isFull.2.1 4 = .ok (.aload_n 0, 1) := by decide +kernel
theorem dRu_isFull_5 : decode mRu_isFull.2.1 5 = .ok (.getfield 11, 3) := by decide +kernel
theorem dRu_isFull_8 : decode mRu_isFull.2.1 8 = .ok (.arraylength, 1) := by decide +kernel
theorem dRu_isFull_9 : decode mRu_isFull.2.1 9 = .ok (.if_icmp .lt 7, 3) := by decide +kernel
theorem dRu_isFull_12 : decode mRu_isFull.2.1 12 = .ok (.iconst 1, 1) := by decide +kernel
theorem dRu_isFull_13 : decode mRu_isFull.2.1 13 = .ok (.goto 4, 3) := by decide +kernel
theorem dRu_isFull_16 : decode mRu_isFull.2.1 16 = .ok (.iconst 0, 1) := by decide +kernel
theorem dRu_isFull_17 : decode mRu_isFull.2.1 17 = .ok (.ireturn, 1) := by decide +kernel
theorem dNa_readNumber_0 : decode mNa_readNumber.2.1 0 = .ok (.aload_n 0, 1) := by decide +kernel
theorem dNa_readNumber_1 : decode mNa_readNumber.2.1 1 = .ok (.invokevirtual 37, 3) := by decide +kernel
theorem dNa_readNumber_4 : decode mNa_readNumber.2.1 4 = .ok (.aload_n 0, 1) := by decide +kernel
theorem dNa_readNumber_5 : decode mNa_readNumber.2.1 5 = .ok (.getfield 27, 3) := by decide +kernel
theorem dNa_readNumber_8 : decode mNa_readNumber.2.1 8 = .ok (.istore_n 3, 1) := by decide +kernel
theorem dNa_readNumber_9 : decode mNa_readNumber.2.1 9 = .ok (.iconst 0, 1) := by decide +kernel
theorem dNa_readNumber_10 : decode mNa_readNumber.2.1 10 = .ok (.istore 4, 2) := by decide +kernel
theorem dNa_readNumber_12 : decode mNa_readNumber.2.1 12 = .ok (.iconst 0, 1) := by decide +kernel
theorem dNa_readNumber_13 : decode mNa_readNumber.2.1 13 = .ok (.istore 5, 2) := by decide +kernel
theorem dNa_readNumber_15 : decode mNa_readNumber.2.1 15 = .ok (.iload 5, 2) := by decide +kernel
theorem dNa_readNumber_17 : decode mNa_readNumber.2.1 17 = .ok (.bipush 6, 2) := by decide +kernel
theorem dNa_readNumber_19 : decode mNa_readNumber.2.1 19 = .ok (.if_icmp .ge 48, 3) := by decide +kernel
theorem dNa_readNumber_22 : decode mNa_readNumber.2.1 22 = .ok (.aload_n 0, 1) := by decide +kernel
theorem dNa_readNumber_23 : decode mNa_readNumber.2.1 23 = .ok (.invokevirtual 65, 3) := by decide +kernel
theorem dNa_readNumber_26 : decode mNa_readNumber.2.1 26 = .ok (.ifCond .eq 41, 3) := by decide +kernel
theorem dNa_readNumber_29 : decode mNa_readNumber.2.1 29 = .ok (.iload 4, 2) := by decide +kernel
theorem dNa_readNumber_31 : decode mNa_readNumber.2.1 31 = .ok (.bipush 10, 2) := by decide +kernel
theorem dNa_readNumber_33 : decode mNa_readNumber.2.1 33 = .ok (.imul, 1) := by decide +kernel
theorem dNa_readNumber_34 : decode mNa_readNumber.2.1 34 = .ok (.aload_n 0, 1) := by decide +kernel
theorem dNa_readNumber_35 : decode mNa_readNumber.2.1 35 = .ok (.getfield 16, 3) := by decide +kernel
theorem dNa_readNumber_38 : decode mNa_readNumber.2.1 38 = .ok (.aload_n 0, 1) := by decide +kernel
theorem dNa_readNumber_39 : decode mNa_readNumber.2.1 39 = .ok (.getfield 27, 3) := by decide +kernel
theorem dNa_readNumber_42 : decode mNa_readNumber.2.1 42 = .ok (.invokevirtual 68, 3) := by decide +kernel
theorem dNa_readNumber_45 : decode mNa_readNumber.2.1 45 = .ok (.iadd, 1) := by decide +kernel
theorem dNa_readNumber_46 : decode mNa_readNumber.2.1 46 = .ok (.bipush 48, 2) := by decide +kernel
theorem dNa_readNumber_48 : decode mNa_readNumber.2.1 48 = .ok (.isub, 1) := by decide +kernel
theorem dNa_readNumber_49 : decode mNa_readNumber.2.1 49 = .ok (.istore 4, 2) := by decide +kernel
theorem dNa_readNumber_51 : decode mNa_readNumber.2.1 51 = .ok (.aload_n 0, 1) := by decide +kernel
theorem dNa_readNumber_52 : decode mNa_readNumber.2.1 52 = .ok (.dup, 1) := by decide +kernel
theorem dNa_readNumber_53 : decode mNa_readNumber.2.1 53 = .ok (.getfield 27, 3) := by decide +kernel
theorem dNa_readNumber_56 : decode mNa_readNumber.2.1 56 = .ok (.iconst 1, 1) := by decide +kernel
theorem dNa_readNumber_57 : decode mNa_readNumber.2.1 57 = .ok (.iadd, 1) := by decide +kernel
theorem dNa_readNumber_58 : decode mNa_readNumber.2.1 58 = .ok (.putfield 27, 3) := by decide +kernel
theorem dNa_readNumber_61 : decode mNa_readNumber.2.1 61 = .ok (.iinc 5 1, 3) := by decide +kernel
theorem dNa_readNumber_64 : decode mNa_readNumber.2.1 64 = .ok (.goto (-49), 3) := by decide +kernel
theorem dNa_readNumber_67 : decode mNa_readNumber.2.1 67 = .ok (.aload_n 0, 1) := by decide +kernel
theorem dNa_readNumber_68 : decode mNa_readNumber.2.1 68 = .ok (.getfield 27, 3) := by decide +kernel
theorem dNa_readNumber_71 : decode mNa_readNumber.2.1 71 = .ok (.iload_n 3, 1) := by decide +kernel
theorem dNa_readNumber_72 : decode mNa_readNumber.2.1 72 = .ok (.if_icmp .eq 10, 3) := by decide +kernel
theorem dNa_readNumber_75 : decode mNa_readNumber.2.1 75 = .ok (.aload_n 0, 1) := by decide +kernel
theorem dNa_readNumber_76 : decode mNa_readNumber.2.1 76 = .ok (.invokevirtual 65, 3) := by decide +kernel
theorem dNa_readNumber_79 : decode mNa_readNumber.2.1 79 = .ok (.ifCond .eq 14, 3) := by decide +kernel
theorem dNa_readNumber_82 : decode mNa_readNumber.2.1 82 = .ok (.aload_n 0, 1) := by decide +kernel
theorem dNa_readNumber_83 : decode mNa_readNumber.2.1 83 = .ok (.aload_n 0, 1) := by decide +kernel
theorem dNa_readNumber_84 : decode mNa_readNumber.2.1 84 = .ok (.getfield 27, 3) := by decide +kernel
theorem dNa_readNumber_87 : decode mNa_readNumber.2.1 87 = .ok (.invokevirtual 72, 3) := by decide +kernel
theorem dNa_readNumber_90 : decode mNa_readNumber.2.1 90 = .ok (.goto 20, 3) := by decide +kernel
theorem dNa_readNumber_93 : decode mNa_readNumber.2.1 93 = .ok (.iload 4, 2) := by decide +kernel
theorem dNa_readNumber_95 : decode mNa_readNumber.2.1 95 = .ok (.iload_n 1, 1) := by decide +kernel
theorem dNa_readNumber_96 : decode mNa_readNumber.2.1 96 = .ok (.if_icmp .lt 9, 3) := by decide +kernel
theorem dNa_readNumber_99 : decode mNa_readNumber.2.1 99 = .ok (.iload 4, 2) := by decide +kernel
theorem dNa_readNumber_101 : decode mNa_readNumber.2.1 101 = .ok (.iload_n 2, 1) := by decide +kernel
theorem dNa_readNumber_102 : decode mNa_readNumber.2.1 102 = .ok (.if_icmp .le 8, 3) := by decide +kernel
theorem dNa_readNumber_105 : decode mNa_readNumber.2.1 105 = .ok (.aload_n 0, 1) := by decide +kernel
theorem dNa_readNumber_106 : decode mNa_readNumber.2.1 106 = .ok (.iload_n 3, 1) := by decide +kernel
theorem dNa_readNumber_107 : decode mNa_readNumber.2.1 107 = .ok (.invokevirtual 72, 3) := by decide +kernel
theorem dNa_readNumber_110 : decode mNa_readNumber.2.1 110 = .ok (.iload 4, 2) := by decide +kernel
theorem dNa_readNumber_112 : decode mNa_readNumber.2.1 112 = .ok (.ireturn, 1) := by decide +kernel
theorem dNa_isDigit_0 : decode mNa_isDigit.2.1 0 = .ok (.aload_n 0, 1) := by decide +kernel
theorem dNa_isDigit_1 : decode mNa_isDigit.2.1 1 = .ok (.getfield 16, 3) := by decide +kernel
theorem dNa_isDigit_4 : decode mNa_isDigit.2.1 4 = .ok (.aload_n 0, 1) := by decide +kernel
theorem dNa_isDigit_5 : decode mNa_isDigit.2.1 5 = .ok (.getfield 27, 3) := by decide +kernel
theorem dNa_isDigit_8 : decode mNa_isDigit.2.1 8 = .ok (.invokevirtual 68, 3) := by decide +kernel
theorem dNa_isDigit_11 : decode mNa_isDigit.2.1 11 = .ok (.istore_n 1, 1) := by decide +kernel
theorem dNa_isDigit_12 : decode mNa_isDigit.2.1 12 = .ok (.iload_n 1, 1) := by decide +kernel
theorem dNa_isDigit_13 : decode mNa_isDigit.2.1 13 = .ok (.bipush 48, 2) := by decide +kernel
theorem dNa_isDigit_15 : decode mNa_isDigit.2.1 15 = .ok (.if_icmp .lt 13, 3) := by decide +kernel
theorem dNa_isDigit_18 : decode mNa_isDigit.2.1 18 = .ok (.iload_n 1, 1) := by decide +kernel
theorem dNa_isDigit_19 : decode mNa_isDigit.2.1 19 = .ok (.bipush 57, 2) := by decide +kernel
theorem dNa_isDigit_21 : decode mNa_isDigit.2.1 21 = .ok (.if_icmp .gt 7, 3) := by decide +kernel
theorem dNa_isDigit_24 : decode mNa_isDigit.2.1 24 = .ok (.iconst 1, 1) := by decide +kernel
theorem dNa_isDigit_25 : decode mNa_isDigit.2.1 25 = .ok (.goto 4, 3) := by decide +kernel
theorem dNa_isDigit_28 : decode mNa_isDigit.2.1 28 = .ok (.iconst 0, 1) := by decide +kernel
theorem dNa_isDigit_29 : decode mNa_isDigit.2.1 29 = .ok (.ireturn, 1) := by decide +kernel
theorem dNa_fail_0 : decode mNa_fail.2.1 0 = .ok (.aload_n 0, 1) := by decide +kernel
theorem dNa_fail_1 : decode mNa_fail.2.1 1 = .ok (.getfield 31, 3) := by decide +kernel
theorem dNa_fail_4 : decode mNa_fail.2.1 4 = .ok (.iconst (-1), 1) := by decide +kernel
theorem dNa_fail_5 : decode mNa_fail.2.1 5 = .ok (.if_icmp .ne 8, 3) := by decide +kernel
theorem dNa_fail_8 : decode mNa_fail.2.1 8 = .ok (.aload_n 0, 1) := by decide +kernel
theorem dNa_fail_9 : decode mNa_fail.2.1 9 = .ok (.iload_n 1, 1) := by decide +kernel
theorem dNa_fail_10 : decode mNa_fail.2.1 10 = .ok (.putfield 31, 3) := by decide +kernel
theorem dNa_fail_13 : decode mNa_fail.2.1 13 = .ok (.return_, 1) := by decide +kernel
theorem dNa_readSign_0 : decode mNa_readSign.2.1 0 = .ok (.aload_n 0, 1) := by decide +kernel
theorem dNa_readSign_1 : decode mNa_readSign.2.1 1 = .ok (.invokevirtual 37, 3) := by decide +kernel
theorem dNa_readSign_4 : decode mNa_readSign.2.1 4 = .ok (.aload_n 0, 1) := by decide +kernel
theorem dNa_readSign_5 : decode mNa_readSign.2.1 5 = .ok (.getfield 16, 3) := by decide +kernel
theorem dNa_readSign_8 : decode mNa_readSign.2.1 8 = .ok (.aload_n 0, 1) := by decide +kernel
theorem dNa_readSign_9 : decode mNa_readSign.2.1 9 = .ok (.getfield 27, 3) := by decide +kernel
theorem dNa_readSign_12 : decode mNa_readSign.2.1 12 = .ok (.invokevirtual 68, 3) := by decide +kernel
theorem dNa_readSign_15 : decode mNa_readSign.2.1 15 = .ok (.iload_n 1, 1) := by decide +kernel
theorem dNa_readSign_16 : decode mNa_readSign.2.1 16 = .ok (.if_icmp .ne 16, 3) := by decide +kernel
theorem dNa_readSign_19 : decode mNa_readSign.2.1 19 = .ok (.aload_n 0, 1) := by decide +kernel
theorem dNa_readSign_20 : decode mNa_readSign.2.1 20 = .ok (.dup, 1) := by decide +kernel
theorem dNa_readSign_21 : decode mNa_readSign.2.1 21 = .ok (.getfield 27, 3) := by decide +kernel
theorem dNa_readSign_24 : decode mNa_readSign.2.1 24 = .ok (.iconst 1, 1) := by decide +kernel
theorem dNa_readSign_25 : decode mNa_readSign.2.1 25 = .ok (.iadd, 1) := by decide +kernel
theorem dNa_readSign_26 : decode mNa_readSign.2.1 26 = .ok (.putfield 27, 3) := by decide +kernel
theorem dNa_readSign_29 : decode mNa_readSign.2.1 29 = .ok (.goto 11, 3) := by decide +kernel
theorem dNa_readSign_32 : decode mNa_readSign.2.1 32 = .ok (.aload_n 0, 1) := by decide +kernel
theorem dNa_readSign_33 : decode mNa_readSign.2.1 33 = .ok (.aload_n 0, 1) := by decide +kernel
theorem dNa_readSign_34 : decode mNa_readSign.2.1 34 = .ok (.getfield 27, 3) := by decide +kernel
theorem dNa_readSign_37 : decode mNa_readSign.2.1 37 = .ok (.invokevirtual 72, 3) := by decide +kernel
theorem dNa_readSign_40 : decode mNa_readSign.2.1 40 = .ok (.return_, 1) := by decide +kernel
theorem dRu_add_0 : decode mRu_add.2.1 0 = .ok (.aload_n 0, 1) := by decide +kernel
theorem dRu_add_1 : decode mRu_add.2.1 1 = .ok (.invokevirtual 28, 3) := by decide +kernel
theorem dRu_add_4 : decode mRu_add.2.1 4 = .ok (.ifCond .ne 54, 3) := by decide +kernel
theorem dRu_add_7 : decode mRu_add.2.1 7 = .ok (.aload_n 0, 1) := by decide +kernel
theorem dRu_add_8 : decode mRu_add.2.1 8 = .ok (.getfield 11, 3) := by decide +kernel
theorem dRu_add_11 : decode mRu_add.2.1 11 = .ok (.aload_n 0, 1) := by decide +kernel
theorem dRu_add_12 : decode mRu_add.2.1 12 = .ok (.getfield 24, 3) := by decide +kernel
theorem dRu_add_15 : decode mRu_add.2.1 15 = .ok (.iload_n 1, 1) := by decide +kernel
theorem dRu_add_16 : decode mRu_add.2.1 16 = .ok (.iastore, 1) := by decide +kernel
theorem dRu_add_17 : decode mRu_add.2.1 17 = .ok (.aload_n 0, 1) := by decide +kernel
theorem dRu_add_18 : decode mRu_add.2.1 18 = .ok (.getfield 15, 3) := by decide +kernel
theorem dRu_add_21 : decode mRu_add.2.1 21 = .ok (.aload_n 0, 1) := by decide +kernel
theorem dRu_add_22 : decode mRu_add.2.1 22 = .ok (.getfield 24, 3) := by decide +kernel
theorem dRu_add_25 : decode mRu_add.2.1 25 = .ok (.iload_n 2, 1) := by decide +kernel
theorem dRu_add_26 : decode mRu_add.2.1 26 = .ok (.iastore, 1) := by decide +kernel
theorem dRu_add_27 : decode mRu_add.2.1 27 = .ok (.aload_n 0, 1) := by decide +kernel
theorem dRu_add_28 : decode mRu_add.2.1 28 = .ok (.getfield 18, 3) := by decide +kernel
theorem dRu_add_31 : decode mRu_add.2.1 31 = .ok (.aload_n 0, 1) := by decide +kernel
theorem dRu_add_32 : decode mRu_add.2.1 32 = .ok (.getfield 24, 3) := by decide +kernel
theorem dRu_add_35 : decode mRu_add.2.1 35 = .ok (.iload_n 3, 1) := by decide +kernel
theorem dRu_add_36 : decode mRu_add.2.1 36 = .ok (.iastore, 1) := by decide +kernel
theorem dRu_add_37 : decode mRu_add.2.1 37 = .ok (.aload_n 0, 1) := by decide +kernel
theorem dRu_add_38 : decode mRu_add.2.1 38 = .ok (.getfield 21, 3) := by decide +kernel
theorem dRu_add_41 : decode mRu_add.2.1 41 = .ok (.aload_n 0, 1) := by decide +kernel
theorem dRu_add_42 : decode mRu_add.2.1 42 = .ok (.getfield 24, 3) := by decide +kernel
theorem dRu_add_45 : decode mRu_add.2.1 45 = .ok (.iload 4, 2) := by decide +kernel
theorem dRu_add_47 : decode mRu_add.2.1 47 = .ok (.iastore, 1) := by decide +kernel
theorem dRu_add_48 : decode mRu_add.2.1 48 = .ok (.aload_n 0, 1) := by decide +kernel
theorem dRu_add_49 : decode mRu_add.2.1 49 = .ok (.dup, 1) := by decide +kernel
theorem dRu_add_50 : decode mRu_add.2.1 50 = .ok (.getfield 24, 3) := by decide +kernel
theorem dRu_add_53 : decode mRu_add.2.1 53 = .ok (.iconst 1, 1) := by decide +kernel
theorem dRu_add_54 : decode mRu_add.2.1 54 = .ok (.iadd, 1) := by decide +kernel
theorem dRu_add_55 : decode mRu_add.2.1 55 = .ok (.putfield 24, 3) := by decide +kernel
theorem dRu_add_58 : decode mRu_add.2.1 58 = .ok (.return_, 1) := by decide +kernel
theorem dNa_clear_0 : decode mNa_clear.2.1 0 = .ok (.aload_n 0, 1) := by decide +kernel
theorem dNa_clear_1 : decode mNa_clear.2.1 1 = .ok (.getfield 16, 3) := by decide +kernel
theorem dNa_clear_4 : decode mNa_clear.2.1 4 = .ok (.invokevirtual 24, 3) := by decide +kernel
theorem dNa_clear_7 : decode mNa_clear.2.1 7 = .ok (.return_, 1) := by decide +kernel
theorem dBy_clear_0 : decode mBy_clear.2.1 0 = .ok (.aload_n 0, 1) := by decide +kernel
theorem dBy_clear_1 : decode mBy_clear.2.1 1 = .ok (.iconst 0, 1) := by decide +kernel
theorem dBy_clear_2 : decode mBy_clear.2.1 2 = .ok (.putfield 21, 3) := by decide +kernel
theorem dBy_clear_5 : decode mBy_clear.2.1 5 = .ok (.return_, 1) := by decide +kernel
theorem dRu_size_0 : decode mRu_size.2.1 0 = .ok (.aload_n 0, 1) := by decide +kernel
theorem dRu_size_1 : decode mRu_size.2.1 1 = .ok (.getfield 24, 3) := by decide +kernel
theorem dRu_size_4 : decode mRu_size.2.1 4 = .ok (.ireturn, 1) := by decide +kernel
theorem dRu_inForce_0 : decode mRu_inForce.2.1 0 = .ok (.iconst (-1), 1) := by decide +kernel
theorem dRu_inForce_1 : decode mRu_inForce.2.1 1 = .ok (.istore_n 3, 1) := by decide +kernel
theorem dRu_inForce_2 : decode mRu_inForce.2.1 2 = .ok (.iconst 0, 1) := by decide +kernel
theorem dRu_inForce_3 : decode mRu_inForce.2.1 3 = .ok (.istore 4, 2) := by decide +kernel
theorem dRu_inForce_5 : decode mRu_inForce.2.1 5 = .ok (.iload 4, 2) := by decide +kernel
theorem dRu_inForce_7 : decode mRu_inForce.2.1 7 = .ok (.aload_n 0, 1) := by decide +kernel
theorem dRu_inForce_8 : decode mRu_inForce.2.1 8 = .ok (.getfield 24, 3) := by decide +kernel
theorem dRu_inForce_11 : decode mRu_inForce.2.1 11 = .ok (.if_icmp .ge 67, 3) := by decide +kernel
theorem dRu_inForce_14 : decode mRu_inForce.2.1 14 = .ok (.aload_n 0, 1) := by decide +kernel
theorem dRu_inForce_15 : decode mRu_inForce.2.1 15 = .ok (.getfield 11, 3) := by decide +kernel
theorem dRu_inForce_18 : decode mRu_inForce.2.1 18 = .ok (.iload 4, 2) := by decide +kernel
theorem dRu_inForce_20 : decode mRu_inForce.2.1 20 = .ok (.iaload, 1) := by decide +kernel
theorem dRu_inForce_21 : decode mRu_inForce.2.1 21 = .ok (.iload_n 1, 1) := by decide +kernel
theorem dRu_inForce_22 : decode mRu_inForce.2.1 22 = .ok (.if_icmp .ne 18, 3) := by decide +kernel
theorem dRu_inForce_25 : decode mRu_inForce.2.1 25 = .ok (.aload_n 0, 1) := by decide +kernel
theorem dRu_inForce_26 : decode mRu_inForce.2.1 26 = .ok (.getfield 21, 3) := by decide +kernel
theorem dRu_inForce_29 : decode mRu_inForce.2.1 29 = .ok (.iload 4, 2) := by decide +kernel
theorem dRu_inForce_31 : decode mRu_inForce.2.1 31 = .ok (.iaload, 1) := by decide +kernel
theorem dRu_inForce_32 : decode mRu_inForce.2.1 32 = .ok (.iload_n 2, 1) := by decide +kernel
theorem dRu_inForce_33 : decode mRu_inForce.2.1 33 = .ok (.if_icmp .gt 7, 3) := by decide +kernel
theorem dRu_inForce_36 : decode mRu_inForce.2.1 36 = .ok (.iconst 1, 1) := by decide +kernel
theorem dRu_inForce_37 : decode mRu_inForce.2.1 37 = .ok (.goto 4, 3) := by decide +kernel
theorem dRu_inForce_40 : decode mRu_inForce.2.1 40 = .ok (.iconst 0, 1) := by decide +kernel
theorem dRu_inForce_41 : decode mRu_inForce.2.1 41 = .ok (.istore 5, 2) := by decide +kernel
theorem dRu_inForce_43 : decode mRu_inForce.2.1 43 = .ok (.iload 5, 2) := by decide +kernel
theorem dRu_inForce_45 : decode mRu_inForce.2.1 45 = .ok (.ifCond .eq 27, 3) := by decide +kernel
theorem dRu_inForce_48 : decode mRu_inForce.2.1 48 = .ok (.iload_n 3, 1) := by decide +kernel
theorem dRu_inForce_49 : decode mRu_inForce.2.1 49 = .ok (.iconst (-1), 1) := by decide +kernel
theorem dRu_inForce_50 : decode mRu_inForce.2.1 50 = .ok (.if_icmp .eq 19, 3) := by decide +kernel
theorem dRu_inForce_53 : decode mRu_inForce.2.1 53 = .ok (.aload_n 0, 1) := by decide +kernel
theorem dRu_inForce_54 : decode mRu_inForce.2.1 54 = .ok (.getfield 21, 3) := by decide +kernel
theorem dRu_inForce_57 : decode mRu_inForce.2.1 57 = .ok (.iload 4, 2) := by decide +kernel
theorem dRu_inForce_59 : decode mRu_inForce.2.1 59 = .ok (.iaload, 1) := by decide +kernel
theorem dRu_inForce_60 : decode mRu_inForce.2.1 60 = .ok (.aload_n 0, 1) := by decide +kernel
theorem dRu_inForce_61 : decode mRu_inForce.2.1 61 = .ok (.getfield 21, 3) := by decide +kernel
theorem dRu_inForce_64 : decode mRu_inForce.2.1 64 = .ok (.iload_n 3, 1) := by decide +kernel
theorem dRu_inForce_65 : decode mRu_inForce.2.1 65 = .ok (.iaload, 1) := by decide +kernel
theorem dRu_inForce_66 : decode mRu_inForce.2.1 66 = .ok (.if_icmp .lt 6, 3) := by decide +kernel
theorem dRu_inForce_69 : decode mRu_inForce.2.1 69 = .ok (.iload 4, 2) := by decide +kernel
theorem dRu_inForce_71 : decode mRu_inForce.2.1 71 = .ok (.istore_n 3, 1) := by decide +kernel
theorem dRu_inForce_72 : decode mRu_inForce.2.1 72 = .ok (.iinc 4 1, 3) := by decide +kernel
theorem dRu_inForce_75 : decode mRu_inForce.2.1 75 = .ok (.goto (-70), 3) := by decide +kernel
theorem dRu_inForce_78 : decode mRu_inForce.2.1 78 = .ok (.iload_n 3, 1) := by decide +kernel
theorem dRu_inForce_79 : decode mRu_inForce.2.1 79 = .ok (.ireturn, 1) := by decide +kernel
theorem dRu_allows_0 : decode mRu_allows.2.1 0 = .ok (.iload_n 1, 1) := by decide +kernel
theorem dRu_allows_1 : decode mRu_allows.2.1 1 = .ok (.ifCond .lt 35, 3) := by decide +kernel
theorem dRu_allows_4 : decode mRu_allows.2.1 4 = .ok (.iload_n 1, 1) := by decide +kernel
theorem dRu_allows_5 : decode mRu_allows.2.1 5 = .ok (.aload_n 0, 1) := by decide +kernel
theorem dRu_allows_6 : decode mRu_allows.2.1 6 = .ok (.getfield 24, 3) := by decide +kernel
theorem dRu_allows_9 : decode mRu_allows.2.1 9 = .ok (.if_icmp .ge 27, 3) := by decide +kernel
theorem dRu_allows_12 : decode mRu_allows.2.1 12 = .ok (.iload_n 2, 1) := by decide +kernel
theorem dRu_allows_13 : decode mRu_allows.2.1 13 = .ok (.aload_n 0, 1) := by decide +kernel
theorem dRu_allows_14 : decode mRu_allows.2.1 14 = .ok (.getfield 15, 3) := by decide +kernel
theorem dRu_allows_17 : decode mRu_allows.2.1 17 = .ok (.iload_n 1, 1) := by decide +kernel
theorem dRu_allows_18 : decode mRu_allows.2.1 18 = .ok (.iaload, 1) := by decide +kernel
theorem dRu_allows_19 : decode mRu_allows.2.1 19 = .ok (.if_icmp .lt 17, 3) := by decide +kernel
theorem dRu_allows_22 : decode mRu_allows.2.1 22 = .ok (.iload_n 2, 1) := by decide +kernel
theorem dRu_allows_23 : decode mRu_allows.2.1 23 = .ok (.aload_n 0, 1) := by decide +kernel
theorem dRu_allows_24 : decode mRu_allows.2.1 24 = .ok (.getfield 18, 3) := by decide +kernel
theorem dRu_allows_27 : decode mRu_allows.2.1 27 = .ok (.iload_n 1, 1) := by decide +kernel
theorem dRu_allows_28 : decode mRu_allows.2.1 28 = .ok (.iaload, 1) := by decide +kernel
theorem dRu_allows_29 : decode mRu_allows.2.1 29 = .ok (.if_icmp .gt 7, 3) := by decide +kernel
theorem dRu_allows_32 : decode mRu_allows.2.1 32 = .ok (.iconst 1, 1) := by decide +kernel
theorem dRu_allows_33 : decode mRu_allows.2.1 33 = .ok (.goto 4, 3) := by decide +kernel
theorem dRu_allows_36 : decode mRu_allows.2.1 36 = .ok (.iconst 0, 1) := by decide +kernel
theorem dRu_allows_37 : decode mRu_allows.2.1 37 = .ok (.ireturn, 1) := by decide +kernel
theorem dLe_open_0 : decode mLe_open.2.1 0 = .ok (.aload_n 0, 1) := by decide +kernel
theorem dLe_open_1 : decode mLe_open.2.1 1 = .ok (.getfield 25, 3) := by decide +kernel
theorem dLe_open_4 : decode mLe_open.2.1 4 = .ok (.aload_n 0, 1) := by decide +kernel
theorem dLe_open_5 : decode mLe_open.2.1 5 = .ok (.getfield 11, 3) := by decide +kernel
theorem dLe_open_8 : decode mLe_open.2.1 8 = .ok (.arraylength, 1) := by decide +kernel
theorem dLe_open_9 : decode mLe_open.2.1 9 = .ok (.if_icmp .lt 5, 3) := by decide +kernel
theorem dLe_open_12 : decode mLe_open.2.1 12 = .ok (.iconst (-1), 1) := by decide +kernel
theorem dLe_open_13 : decode mLe_open.2.1 13 = .ok (.ireturn, 1) := by decide +kernel
theorem dLe_open_14 : decode mLe_open.2.1 14 = .ok (.aload_n 0, 1) := by decide +kernel
theorem dLe_open_15 : decode mLe_open.2.1 15 = .ok (.getfield 11, 3) := by decide +kernel
theorem dLe_open_18 : decode mLe_open.2.1 18 = .ok (.aload_n 0, 1) := by decide +kernel
theorem dLe_open_19 : decode mLe_open.2.1 19 = .ok (.getfield 25, 3) := by decide +kernel
theorem dLe_open_22 : decode mLe_open.2.1 22 = .ok (.iload_n 1, 1) := by decide +kernel
theorem dLe_open_23 : decode mLe_open.2.1 23 = .ok (.iastore, 1) := by decide +kernel
theorem dLe_open_24 : decode mLe_open.2.1 24 = .ok (.aload_n 0, 1) := by decide +kernel
theorem dLe_open_25 : decode mLe_open.2.1 25 = .ok (.dup, 1) := by decide +kernel
theorem dLe_open_26 : decode mLe_open.2.1 26 = .ok (.getfield 25, 3) := by decide +kernel
theorem dLe_open_29 : decode mLe_open.2.1 29 = .ok (.iconst 1, 1) := by decide +kernel
theorem dLe_open_30 : decode mLe_open.2.1 30 = .ok (.iadd, 1) := by decide +kernel
theorem dLe_open_31 : decode mLe_open.2.1 31 = .ok (.putfield 25, 3) := by decide +kernel
theorem dLe_open_34 : decode mLe_open.2.1 34 = .ok (.aload_n 0, 1) := by decide +kernel
theorem dLe_open_35 : decode mLe_open.2.1 35 = .ok (.getfield 25, 3) := by decide +kernel
theorem dLe_open_38 : decode mLe_open.2.1 38 = .ok (.iconst 1, 1) := by decide +kernel
theorem dLe_open_39 : decode mLe_open.2.1 39 = .ok (.isub, 1) := by decide +kernel
theorem dLe_open_40 : decode mLe_open.2.1 40 = .ok (.ireturn, 1) := by decide +kernel
theorem dLe_has_0 : decode mLe_has.2.1 0 = .ok (.iload_n 1, 1) := by decide +kernel
theorem dLe_has_1 : decode mLe_has.2.1 1 = .ok (.ifCond .lt 15, 3) := by decide +kernel
theorem dLe_has_4 : decode mLe_has.2.1 4 = .ok (.iload_n 1, 1) := by decide +kernel
theorem dLe_has_5 : decode mLe_has.2.1 5 = .ok (.aload_n 0, 1) := by decide +kernel
theorem dLe_has_6 : decode mLe_has.2.1 6 = .ok (.getfield 25, 3) := by decide +kernel
theorem dLe_has_9 : decode mLe_has.2.1 9 = .ok (.if_icmp .ge 7, 3) := by decide +kernel
theorem dLe_has_12 : decode mLe_has.2.1 12 = .ok (.iconst 1, 1) := by decide +kernel
theorem dLe_has_13 : decode mLe_has.2.1 13 = .ok (.goto 4, 3) := by decide +kernel
theorem dLe_has_16 : decode mLe_has.2.1 16 = .ok (.iconst 0, 1) := by decide +kernel
theorem dLe_has_17 : decode mLe_has.2.1 17 = .ok (.ireturn, 1) := by decide +kernel
theorem dLe_isFull_0 : decode mLe_isFull.2.1 0 = .ok (.aload_n 0, 1) := by decide +kernel
theorem dLe_isFull_1 : decode mLe_isFull.2.1 1 = .ok (.getfield 29, 3) := by decide +kernel
theorem dLe_isFull_4 : decode mLe_isFull.2.1 4 = .ok (.aload_n 0, 1) := by decide +kernel
theorem dLe_isFull_5 : decode mLe_isFull.2.1 5 = .ok (.getfield 15, 3) := by decide +kernel
theorem dLe_isFull_8 : decode mLe_isFull.2.1 8 = .ok (.arraylength, 1) := by decide +kernel
theorem dLe_isFull_9 : decode mLe_isFull.2.1 9 = .ok (.if_icmp .lt 7, 3) := by decide +kernel
theorem dLe_isFull_12 : decode mLe_isFull.2.1 12 = .ok (.iconst 1, 1) := by decide +kernel
theorem dLe_isFull_13 : decode mLe_isFull.2.1 13 = .ok (.goto 4, 3) := by decide +kernel
theorem dLe_isFull_16 : decode mLe_isFull.2.1 16 = .ok (.iconst 0, 1) := by decide +kernel
theorem dLe_isFull_17 : decode mLe_isFull.2.1 17 = .ok (.ireturn, 1) := by decide +kernel
theorem dLe_enter_0 : decode mLe_enter.2.1 0 = .ok (.aload_n 0, 1) := by decide +kernel
theorem dLe_enter_1 : decode mLe_enter.2.1 1 = .ok (.invokevirtual 36, 3) := by decide +kernel
theorem dLe_enter_4 : decode mLe_enter.2.1 4 = .ok (.ifCond .ne 44, 3) := by decide +kernel
theorem dLe_enter_7 : decode mLe_enter.2.1 7 = .ok (.aload_n 0, 1) := by decide +kernel
theorem dLe_enter_8 : decode mLe_enter.2.1 8 = .ok (.getfield 15, 3) := by decide +kernel
theorem dLe_enter_11 : decode mLe_enter.2.1 11 = .ok (.aload_n 0, 1) := by decide +kernel
theorem dLe_enter_12 : decode mLe_enter.2.1 12 = .ok (.getfield 29, 3) := by decide +kernel
theorem dLe_enter_15 : decode mLe_enter.2.1 15 = .ok (.iload_n 1, 1) := by decide +kernel
theorem dLe_enter_16 : decode mLe_enter.2.1 16 = .ok (.iastore, 1) := by decide +kernel
theorem dLe_enter_17 : decode mLe_enter.2.1 17 = .ok (.aload_n 0, 1) := by decide +kernel
theorem dLe_enter_18 : decode mLe_enter.2.1 18 = .ok (.getfield 21, 3) := by decide +kernel
theorem dLe_enter_21 : decode mLe_enter.2.1 21 = .ok (.aload_n 0, 1) := by decide +kernel
theorem dLe_enter_22 : decode mLe_enter.2.1 22 = .ok (.getfield 29, 3) := by decide +kernel
theorem dLe_enter_25 : decode mLe_enter.2.1 25 = .ok (.lload_n 2, 1) := by decide +kernel
theorem dLe_enter_26 : decode mLe_enter.2.1 26 = .ok (.lastore, 1) := by decide +kernel
theorem dLe_enter_27 : decode mLe_enter.2.1 27 = .ok (.aload_n 0, 1) := by decide +kernel
theorem dLe_enter_28 : decode mLe_enter.2.1 28 = .ok (.getfield 18, 3) := by decide +kernel
theorem dLe_enter_31 : decode mLe_enter.2.1 31 = .ok (.aload_n 0, 1) := by decide +kernel
theorem dLe_enter_32 : decode mLe_enter.2.1 32 = .ok (.getfield 29, 3) := by decide +kernel
theorem dLe_enter_35 : decode mLe_enter.2.1 35 = .ok (.iload 4, 2) := by decide +kernel
theorem dLe_enter_37 : decode mLe_enter.2.1 37 = .ok (.iastore, 1) := by decide +kernel
theorem dLe_enter_38 : decode mLe_enter.2.1 38 = .ok (.aload_n 0, 1) := by decide +kernel
theorem dLe_enter_39 : decode mLe_enter.2.1 39 = .ok (.dup, 1) := by decide +kernel
theorem dLe_enter_40 : decode mLe_enter.2.1 40 = .ok (.getfield 29, 3) := by decide +kernel
theorem dLe_enter_43 : decode mLe_enter.2.1 43 = .ok (.iconst 1, 1) := by decide +kernel
theorem dLe_enter_44 : decode mLe_enter.2.1 44 = .ok (.iadd, 1) := by decide +kernel
theorem dLe_enter_45 : decode mLe_enter.2.1 45 = .ok (.putfield 29, 3) := by decide +kernel
theorem dLe_enter_48 : decode mLe_enter.2.1 48 = .ok (.return_, 1) := by decide +kernel
theorem dLe_isOver_0 : decode mLe_isOver.2.1 0 = .ok (.aload_n 0, 1) := by decide +kernel
theorem dLe_isOver_1 : decode mLe_isOver.2.1 1 = .ok (.iload_n 1, 1) := by decide +kernel
theorem dLe_isOver_2 : decode mLe_isOver.2.1 2 = .ok (.invokevirtual 32, 3) := by decide +kernel
theorem dLe_isOver_5 : decode mLe_isOver.2.1 5 = .ok (.ifCond .eq 17, 3) := by decide +kernel
theorem dLe_isOver_8 : decode mLe_isOver.2.1 8 = .ok (.iload_n 2, 1) := by decide +kernel
theorem dLe_isOver_9 : decode mLe_isOver.2.1 9 = .ok (.aload_n 0, 1) := by decide +kernel
theorem dLe_isOver_10 : decode mLe_isOver.2.1 10 = .ok (.getfield 11, 3) := by decide +kernel
theorem dLe_isOver_13 : decode mLe_isOver.2.1 13 = .ok (.iload_n 1, 1) := by decide +kernel
theorem dLe_isOver_14 : decode mLe_isOver.2.1 14 = .ok (.iaload, 1) := by decide +kernel
theorem dLe_isOver_15 : decode mLe_isOver.2.1 15 = .ok (.if_icmp .le 7, 3) := by decide +kernel
theorem dLe_isOver_18 : decode mLe_isOver.2.1 18 = .ok (.iconst 1, 1) := by decide +kernel
theorem dLe_isOver_19 : decode mLe_isOver.2.1 19 = .ok (.goto 4, 3) := by decide +kernel
theorem dLe_isOver_22 : decode mLe_isOver.2.1 22 = .ok (.iconst 0, 1) := by decide +kernel
theorem dLe_isOver_23 : decode mLe_isOver.2.1 23 = .ok (.ireturn, 1) := by decide +kernel
theorem dLe_covers_0 : decode mLe_covers.2.1 0 = .ok (.aload_n 0, 1) := by decide +kernel
theorem dLe_covers_1 : decode mLe_covers.2.1 1 = .ok (.iload_n 1, 1) := by decide +kernel
theorem dLe_covers_2 : decode mLe_covers.2.1 2 = .ok (.iload 4, 2) := by decide +kernel
theorem dLe_covers_4 : decode mLe_covers.2.1 4 = .ok (.invokevirtual 40, 3) := by decide +kernel
theorem dLe_covers_7 : decode mLe_covers.2.1 7 = .ok (.lload_n 2, 1) := by decide +kernel
theorem dLe_covers_8 : decode mLe_covers.2.1 8 = .ok (.lcmp, 1) := by decide +kernel
theorem dLe_covers_9 : decode mLe_covers.2.1 9 = .ok (.ifCond .ge 5, 3) := by decide +kernel
theorem dLe_covers_12 : decode mLe_covers.2.1 12 = .ok (.iconst 0, 1) := by decide +kernel
theorem dLe_covers_13 : decode mLe_covers.2.1 13 = .ok (.ireturn, 1) := by decide +kernel
theorem dLe_covers_14 : decode mLe_covers.2.1 14 = .ok (.iconst 0, 1) := by decide +kernel
theorem dLe_covers_15 : decode mLe_covers.2.1 15 = .ok (.istore 5, 2) := by decide +kernel
theorem dLe_covers_17 : decode mLe_covers.2.1 17 = .ok (.iload 5, 2) := by decide +kernel
theorem dLe_covers_19 : decode mLe_covers.2.1 19 = .ok (.aload_n 0, 1) := by decide +kernel
theorem dLe_covers_20 : decode mLe_covers.2.1 20 = .ok (.getfield 29, 3) := by decide +kernel
theorem dLe_covers_23 : decode mLe_covers.2.1 23 = .ok (.if_icmp .ge 63, 3) := by decide +kernel
theorem dLe_covers_26 : decode mLe_covers.2.1 26 = .ok (.aload_n 0, 1) := by decide +kernel
theorem dLe_covers_27 : decode mLe_covers.2.1 27 = .ok (.getfield 15, 3) := by decide +kernel
theorem dLe_covers_30 : decode mLe_covers.2.1 30 = .ok (.iload 5, 2) := by decide +kernel
theorem dLe_covers_32 : decode mLe_covers.2.1 32 = .ok (.iaload, 1) := by decide +kernel
theorem dLe_covers_33 : decode mLe_covers.2.1 33 = .ok (.iload_n 1, 1) := by decide +kernel
theorem dLe_covers_34 : decode mLe_covers.2.1 34 = .ok (.if_icmp .ne 19, 3) := by decide +kernel
theorem dLe_covers_37 : decode mLe_covers.2.1 37 = .ok (.aload_n 0, 1) := by decide +kernel
theorem dLe_covers_38 : decode mLe_covers.2.1 38 = .ok (.getfield 18, 3) := by decide +kernel
theorem dLe_covers_41 : decode mLe_covers.2.1 41 = .ok (.iload 5, 2) := by decide +kernel
theorem dLe_covers_43 : decode mLe_covers.2.1 43 = .ok (.iaload, 1) := by decide +kernel
theorem dLe_covers_44 : decode mLe_covers.2.1 44 = .ok (.iload 4, 2) := by decide +kernel
theorem dLe_covers_46 : decode mLe_covers.2.1 46 = .ok (.if_icmp .le 7, 3) := by decide +kernel
theorem dLe_covers_49 : decode mLe_covers.2.1 49 = .ok (.iconst 1, 1) := by decide +kernel
theorem dLe_covers_50 : decode mLe_covers.2.1 50 = .ok (.goto 4, 3) := by decide +kernel
theorem dLe_covers_53 : decode mLe_covers.2.1 53 = .ok (.iconst 0, 1) := by decide +kernel
theorem dLe_covers_54 : decode mLe_covers.2.1 54 = .ok (.istore 6, 2) := by decide +kernel
theorem dLe_covers_56 : decode mLe_covers.2.1 56 = .ok (.iload 6, 2) := by decide +kernel
theorem dLe_covers_58 : decode mLe_covers.2.1 58 = .ok (.ifCond .eq 22, 3) := by decide +kernel
theorem dLe_covers_61 : decode mLe_covers.2.1 61 = .ok (.aload_n 0, 1) := by decide +kernel
theorem dLe_covers_62 : decode mLe_covers.2.1 62 = .ok (.iload_n 1, 1) := by decide +kernel
theorem dLe_covers_63 : decode mLe_covers.2.1 63 = .ok (.aload_n 0, 1) := by decide +kernel
theorem dLe_covers_64 : decode mLe_covers.2.1 64 = .ok (.getfield 18, 3) := by decide +kernel
theorem dLe_covers_67 : decode mLe_covers.2.1 67 = .ok (.iload 5, 2) := by decide +kernel
theorem dLe_covers_69 : decode mLe_covers.2.1 69 = .ok (.iaload, 1) := by decide +kernel
theorem dLe_covers_70 : decode mLe_covers.2.1 70 = .ok (.invokevirtual 40, 3) := by decide +kernel
theorem dLe_covers_73 : decode mLe_covers.2.1 73 = .ok (.lload_n 2, 1) := by decide +kernel
theorem dLe_covers_74 : decode mLe_covers.2.1 74 = .ok (.lcmp, 1) := by decide +kernel
theorem dLe_covers_75 : decode mLe_covers.2.1 75 = .ok (.ifCond .ge 5, 3) := by decide +kernel
theorem dLe_covers_78 : decode mLe_covers.2.1 78 = .ok (.iconst 0, 1) := by decide +kernel
theorem dLe_covers_79 : decode mLe_covers.2.1 79 = .ok (.ireturn, 1) := by decide +kernel
theorem dLe_covers_80 : decode mLe_covers.2.1 80 = .ok (.iinc 5 1, 3) := by decide +kernel
theorem dLe_covers_83 : decode mLe_covers.2.1 83 = .ok (.goto (-66), 3) := by decide +kernel
theorem dLe_covers_86 : decode mLe_covers.2.1 86 = .ok (.iconst 1, 1) := by decide +kernel
theorem dLe_covers_87 : decode mLe_covers.2.1 87 = .ok (.ireturn, 1) := by decide +kernel
theorem dLe_sumUpTo_0 : decode mLe_sumUpTo.2.1 0 = .ok (.lconst 0, 1) := by decide +kernel
theorem dLe_sumUpTo_1 : decode mLe_sumUpTo.2.1 1 = .ok (.lstore_n 3, 1) := by decide +kernel
theorem dLe_sumUpTo_2 : decode mLe_sumUpTo.2.1 2 = .ok (.iconst 0, 1) := by decide +kernel
theorem dLe_sumUpTo_3 : decode mLe_sumUpTo.2.1 3 = .ok (.istore 5, 2) := by decide +kernel
theorem dLe_sumUpTo_5 : decode mLe_sumUpTo.2.1 5 = .ok (.iload 5, 2) := by decide +kernel
theorem dLe_sumUpTo_7 : decode mLe_sumUpTo.2.1 7 = .ok (.aload_n 0, 1) := by decide +kernel
theorem dLe_sumUpTo_8 : decode mLe_sumUpTo.2.1 8 = .ok (.getfield 29, 3) := by decide +kernel
theorem dLe_sumUpTo_11 : decode mLe_sumUpTo.2.1 11 = .ok (.if_icmp .ge 41, 3) := by decide +kernel
theorem dLe_sumUpTo_14 : decode mLe_sumUpTo.2.1 14 = .ok (.aload_n 0, 1) := by decide +kernel
theorem dLe_sumUpTo_15 : decode mLe_sumUpTo.2.1 15 = .ok (.getfield 15, 3) := by decide +kernel
theorem dLe_sumUpTo_18 : decode mLe_sumUpTo.2.1 18 = .ok (.iload 5, 2) := by decide +kernel
theorem dLe_sumUpTo_20 : decode mLe_sumUpTo.2.1 20 = .ok (.iaload, 1) := by decide +kernel
theorem dLe_sumUpTo_21 : decode mLe_sumUpTo.2.1 21 = .ok (.iload_n 1, 1) := by decide +kernel
theorem dLe_sumUpTo_22 : decode mLe_sumUpTo.2.1 22 = .ok (.if_icmp .ne 24, 3) := by decide +kernel
theorem dLe_sumUpTo_25 : decode mLe_sumUpTo.2.1 25 = .ok (.aload_n 0, 1) := by decide +kernel
theorem dLe_sumUpTo_26 : decode mLe_sumUpTo.2.1 26 = .ok (.getfield 18, 3) := by decide +kernel
theorem dLe_sumUpTo_29 : decode mLe_sumUpTo.2.1 29 = .ok (.iload 5, 2) := by decide +kernel
theorem dLe_sumUpTo_31 : decode mLe_sumUpTo.2.1 31 = .ok (.iaload, 1) := by decide +kernel
theorem dLe_sumUpTo_32 : decode mLe_sumUpTo.2.1 32 = .ok (.iload_n 2, 1) := by decide +kernel
theorem dLe_sumUpTo_33 : decode mLe_sumUpTo.2.1 33 = .ok (.if_icmp .gt 13, 3) := by decide +kernel
theorem dLe_sumUpTo_36 : decode mLe_sumUpTo.2.1 36 = .ok (.lload_n 3, 1) := by decide +kernel
theorem dLe_sumUpTo_37 : decode mLe_sumUpTo.2.1 37 = .ok (.aload_n 0, 1) := by decide +kernel
theorem dLe_sumUpTo_38 : decode mLe_sumUpTo.2.1 38 = .ok (.getfield 21, 3) := by decide +kernel
theorem dLe_sumUpTo_41 : decode mLe_sumUpTo.2.1 41 = .ok (.iload 5, 2) := by decide +kernel
theorem dLe_sumUpTo_43 : decode mLe_sumUpTo.2.1 43 = .ok (.laload, 1) := by decide +kernel
theorem dLe_sumUpTo_44 : decode mLe_sumUpTo.2.1 44 = .ok (.ladd, 1) := by decide +kernel
theorem dLe_sumUpTo_45 : decode mLe_sumUpTo.2.1 45 = .ok (.lstore_n 3, 1) := by decide +kernel
theorem dLe_sumUpTo_46 : decode mLe_sumUpTo.2.1 46 = .ok (.iinc 5 1, 3) := by decide +kernel
theorem dLe_sumUpTo_49 : decode mLe_sumUpTo.2.1 49 = .ok (.goto (-44), 3) := by decide +kernel
theorem dLe_sumUpTo_52 : decode mLe_sumUpTo.2.1 52 = .ok (.lload_n 3, 1) := by decide +kernel
theorem dLe_sumUpTo_53 : decode mLe_sumUpTo.2.1 53 = .ok (.lreturn, 1) := by decide +kernel
theorem dBy_putNumber_0 : decode mBy_putNumber.2.1 0 = .ok (.aload_n 0, 1) := by decide +kernel
theorem dBy_putNumber_1 : decode mBy_putNumber.2.1 1 = .ok (.getfield 21, 3) := by decide +kernel
theorem dBy_putNumber_4 : decode mBy_putNumber.2.1 4 = .ok (.lload_n 1, 1) := by decide +kernel
theorem dBy_putNumber_5 : decode mBy_putNumber.2.1 5 = .ok (.invokestatic 25, 3) := by decide +kernel
theorem dBy_putNumber_8 : decode mBy_putNumber.2.1 8 = .ok (.iadd, 1) := by decide +kernel
theorem dBy_putNumber_9 : decode mBy_putNumber.2.1 9 = .ok (.istore_n 3, 1) := by decide +kernel
theorem dBy_putNumber_10 : decode mBy_putNumber.2.1 10 = .ok (.lload_n 1, 1) := by decide +kernel
theorem dBy_putNumber_11 : decode mBy_putNumber.2.1 11 = .ok (.lconst 0, 1) := by decide +kernel
theorem dBy_putNumber_12 : decode mBy_putNumber.2.1 12 = .ok (.lcmp, 1) := by decide +kernel
theorem dBy_putNumber_13 : decode mBy_putNumber.2.1 13 = .ok (.ifCond .lt 12, 3) := by decide +kernel
theorem dBy_putNumber_16 : decode mBy_putNumber.2.1 16 = .ok (.iload_n 3, 1) := by decide +kernel
theorem dBy_putNumber_17 : decode mBy_putNumber.2.1 17 = .ok (.aload_n 0, 1) := by decide +kernel
theorem dBy_putNumber_18 : decode mBy_putNumber.2.1 18 = .ok (.getfield 15, 3) := by decide +kernel
theorem dBy_putNumber_21 : decode mBy_putNumber.2.1 21 = .ok (.arraylength, 1) := by decide +kernel
theorem dBy_putNumber_22 : decode mBy_putNumber.2.1 22 = .ok (.if_icmp .le 4, 3) := by decide +kernel
theorem dBy_putNumber_25 : decode mBy_putNumber.2.1 25 = .ok (.return_, 1) := by decide +kernel
theorem dBy_putNumber_26 : decode mBy_putNumber.2.1 26 = .ok (.lload_n 1, 1) := by decide +kernel
theorem dBy_putNumber_27 : decode mBy_putNumber.2.1 27 = .ok (.lstore 4, 2) := by decide +kernel
theorem dBy_putNumber_29 : decode mBy_putNumber.2.1 29 = .ok (.iload_n 3, 1) := by decide +kernel
theorem dBy_putNumber_30 : decode mBy_putNumber.2.1 30 = .ok (.iconst 1, 1) := by decide +kernel
theorem dBy_putNumber_31 : decode mBy_putNumber.2.1 31 = .ok (.isub, 1) := by decide +kernel
theorem dBy_putNumber_32 : decode mBy_putNumber.2.1 32 = .ok (.istore 6, 2) := by decide +kernel
theorem dBy_putNumber_34 : decode mBy_putNumber.2.1 34 = .ok (.iload 6, 2) := by decide +kernel
theorem dBy_putNumber_36 : decode mBy_putNumber.2.1 36 = .ok (.aload_n 0, 1) := by decide +kernel
theorem dBy_putNumber_37 : decode mBy_putNumber.2.1 37 = .ok (.getfield 21, 3) := by decide +kernel
theorem dBy_putNumber_40 : decode mBy_putNumber.2.1 40 = .ok (.if_icmp .lt 34, 3) := by decide +kernel
theorem dBy_putNumber_43 : decode mBy_putNumber.2.1 43 = .ok (.aload_n 0, 1) := by decide +kernel
theorem dBy_putNumber_44 : decode mBy_putNumber.2.1 44 = .ok (.getfield 15, 3) := by decide +kernel
theorem dBy_putNumber_47 : decode mBy_putNumber.2.1 47 = .ok (.iload 6, 2) := by decide +kernel
theorem dBy_putNumber_49 : decode mBy_putNumber.2.1 49 = .ok (.bipush 48, 2) := by decide +kernel
theorem dBy_putNumber_51 : decode mBy_putNumber.2.1 51 = .ok (.lload 4, 2) := by decide +kernel
theorem dBy_putNumber_53 : decode mBy_putNumber.2.1 53 = .ok (.ldc2_w 29, 3) := by decide +kernel
theorem dBy_putNumber_56 : decode mBy_putNumber.2.1 56 = .ok (.lrem, 1) := by decide +kernel
theorem dBy_putNumber_57 : decode mBy_putNumber.2.1 57 = .ok (.l2i, 1) := by decide +kernel
theorem dBy_putNumber_58 : decode mBy_putNumber.2.1 58 = .ok (.iadd, 1) := by decide +kernel
theorem dBy_putNumber_59 : decode mBy_putNumber.2.1 59 = .ok (.iastore, 1) := by decide +kernel
theorem dBy_putNumber_60 : decode mBy_putNumber.2.1 60 = .ok (.lload 4, 2) := by decide +kernel
theorem dBy_putNumber_62 : decode mBy_putNumber.2.1 62 = .ok (.ldc2_w 29, 3) := by decide +kernel
theorem dBy_putNumber_65 : decode mBy_putNumber.2.1 65 = .ok (.ldiv, 1) := by decide +kernel
theorem dBy_putNumber_66 : decode mBy_putNumber.2.1 66 = .ok (.lstore 4, 2) := by decide +kernel
theorem dBy_putNumber_68 : decode mBy_putNumber.2.1 68 = .ok (.iinc 6 (-1), 3) := by decide +kernel
theorem dBy_putNumber_71 : decode mBy_putNumber.2.1 71 = .ok (.goto (-37), 3) := by decide +kernel
theorem dBy_putNumber_74 : decode mBy_putNumber.2.1 74 = .ok (.aload_n 0, 1) := by decide +kernel
theorem dBy_putNumber_75 : decode mBy_putNumber.2.1 75 = .ok (.iload_n 3, 1) := by decide +kernel
theorem dBy_putNumber_76 : decode mBy_putNumber.2.1 76 = .ok (.putfield 21, 3) := by decide +kernel
theorem dBy_putNumber_79 : decode mBy_putNumber.2.1 79 = .ok (.return_, 1) := by decide +kernel
theorem dBy_digitsOf_0 : decode mBy_digitsOf.2.1 0 = .ok (.iconst 1, 1) := by decide +kernel
theorem dBy_digitsOf_1 : decode mBy_digitsOf.2.1 1 = .ok (.istore_n 2, 1) := by decide +kernel
theorem dBy_digitsOf_2 : decode mBy_digitsOf.2.1 2 = .ok (.lload_n 0, 1) := by decide +kernel
theorem dBy_digitsOf_3 : decode mBy_digitsOf.2.1 3 = .ok (.ldc2_w 29, 3) := by decide +kernel
theorem dBy_digitsOf_6 : decode mBy_digitsOf.2.1 6 = .ok (.ldiv, 1) := by decide +kernel
theorem dBy_digitsOf_7 : decode mBy_digitsOf.2.1 7 = .ok (.lstore_n 3, 1) := by decide +kernel
theorem dBy_digitsOf_8 : decode mBy_digitsOf.2.1 8 = .ok (.lload_n 3, 1) := by decide +kernel
theorem dBy_digitsOf_9 : decode mBy_digitsOf.2.1 9 = .ok (.lconst 0, 1) := by decide +kernel
theorem dBy_digitsOf_10 : decode mBy_digitsOf.2.1 10 = .ok (.lcmp, 1) := by decide +kernel
theorem dBy_digitsOf_11 : decode mBy_digitsOf.2.1 11 = .ok (.ifCond .le 21, 3) := by decide +kernel
theorem dBy_digitsOf_14 : decode mBy_digitsOf.2.1 14 = .ok (.iload_n 2, 1) := by decide +kernel
theorem dBy_digitsOf_15 : decode mBy_digitsOf.2.1 15 = .ok (.bipush 19, 2) := by decide +kernel
theorem dBy_digitsOf_17 : decode mBy_digitsOf.2.1 17 = .ok (.if_icmp .ge 15, 3) := by decide +kernel
theorem dBy_digitsOf_20 : decode mBy_digitsOf.2.1 20 = .ok (.lload_n 3, 1) := by decide +kernel
theorem dBy_digitsOf_21 : decode mBy_digitsOf.2.1 21 = .ok (.ldc2_w 29, 3) := by decide +kernel
theorem dBy_digitsOf_24 : decode mBy_digitsOf.2.1 24 = .ok (.ldiv, 1) := by decide +kernel
theorem dBy_digitsOf_25 : decode mBy_digitsOf.2.1 25 = .ok (.lstore_n 3, 1) := by decide +kernel
theorem dBy_digitsOf_26 : decode mBy_digitsOf.2.1 26 = .ok (.iinc 2 1, 3) := by decide +kernel
theorem dBy_digitsOf_29 : decode mBy_digitsOf.2.1 29 = .ok (.goto (-21), 3) := by decide +kernel
theorem dBy_digitsOf_32 : decode mBy_digitsOf.2.1 32 = .ok (.iload_n 2, 1) := by decide +kernel
theorem dBy_digitsOf_33 : decode mBy_digitsOf.2.1 33 = .ok (.ireturn, 1) := by decide +kernel
theorem dLe_size_0 : decode mLe_size.2.1 0 = .ok (.aload_n 0, 1) := by decide +kernel
theorem dLe_size_1 : decode mLe_size.2.1 1 = .ok (.getfield 25, 3) := by decide +kernel
theorem dLe_size_4 : decode mLe_size.2.1 4 = .ok (.ireturn, 1) := by decide +kernel
