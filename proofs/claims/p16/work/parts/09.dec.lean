theorem dX0_init_0 : decode cX0_init 0 = .ok (.aload_n 0, 1) := by decide +kernel
theorem dX0_init_1 : decode cX0_init 1 = .ok (.invokespecial 3, 3) := by decide +kernel
theorem dX0_init_4 : decode cX0_init 4 = .ok (.aload_n 0, 1) := by decide +kernel
theorem dX0_init_5 : decode cX0_init 5 = .ok (.iconst 4, 1) := by decide +kernel
theorem dX0_init_6 : decode cX0_init 6 = .ok (.anewarray 9, 3) := by decide +kernel
theorem dX0_init_9 : decode cX0_init 9 = .ok (.putfield 11, 3) := by decide +kernel
theorem dX0_init_12 : decode cX0_init 12 = .ok (.return_, 1) := by decide +kernel
theorem dX0_keep_0 : decode cX0_keep 0 = .ok (.iload_n 1, 1) := by decide +kernel
theorem dX0_keep_1 : decode cX0_keep 1 = .ok (.ifCond .lt 32, 3) := by decide +kernel
theorem dX0_keep_4 : decode cX0_keep 4 = .ok (.iload_n 1, 1) := by decide +kernel
theorem dX0_keep_5 : decode cX0_keep 5 = .ok (.aload_n 0, 1) := by decide +kernel
theorem dX0_keep_6 : decode cX0_keep 6 = .ok (.getfield 11, 3) := by decide +kernel
theorem dX0_keep_9 : decode cX0_keep 9 = .ok (.arraylength, 1) := by decide +kernel
theorem dX0_keep_10 : decode cX0_keep 10 = .ok (.if_icmp .ge 23, 3) := by decide +kernel
theorem dX0_keep_13 : decode cX0_keep 13 = .ok (.new 9, 3) := by decide +kernel
theorem dX0_keep_16 : decode cX0_keep 16 = .ok (.dup, 1) := by decide +kernel
theorem dX0_keep_17 : decode cX0_keep 17 = .ok (.invokespecial 17, 3) := by decide +kernel
theorem dX0_keep_20 : decode cX0_keep 20 = .ok (.astore_n 3, 1) := by decide +kernel
theorem dX0_keep_21 : decode cX0_keep 21 = .ok (.aload_n 3, 1) := by decide +kernel
theorem dX0_keep_22 : decode cX0_keep 22 = .ok (.aload_n 2, 1) := by decide +kernel
theorem dX0_keep_23 : decode cX0_keep 23 = .ok (.invokevirtual 18, 3) := by decide +kernel
theorem dX0_keep_26 : decode cX0_keep 26 = .ok (.aload_n 0, 1) := by decide +kernel
theorem dX0_keep_27 : decode cX0_keep 27 = .ok (.getfield 11, 3) := by decide +kernel
theorem dX0_keep_30 : decode cX0_keep 30 = .ok (.iload_n 1, 1) := by decide +kernel
theorem dX0_keep_31 : decode cX0_keep 31 = .ok (.aload_n 3, 1) := by decide +kernel
theorem dX0_keep_32 : decode cX0_keep 32 = .ok (.aastore, 1) := by decide +kernel
theorem dX0_keep_33 : decode cX0_keep 33 = .ok (.return_, 1) := by decide +kernel
theorem dX0_signAt_0 : decode cX0_signAt 0 = .ok (.iload_n 1, 1) := by decide +kernel
theorem dX0_signAt_1 : decode cX0_signAt 1 = .ok (.ifCond .lt 21, 3) := by decide +kernel
theorem dX0_signAt_4 : decode cX0_signAt 4 = .ok (.iload_n 1, 1) := by decide +kernel
theorem dX0_signAt_5 : decode cX0_signAt 5 = .ok (.aload_n 0, 1) := by decide +kernel
theorem dX0_signAt_6 : decode cX0_signAt 6 = .ok (.getfield 11, 3) := by decide +kernel
theorem dX0_signAt_9 : decode cX0_signAt 9 = .ok (.arraylength, 1) := by decide +kernel
theorem dX0_signAt_10 : decode cX0_signAt 10 = .ok (.if_icmp .ge 12, 3) := by decide +kernel
theorem dX0_signAt_13 : decode cX0_signAt 13 = .ok (.aload_n 0, 1) := by decide +kernel
theorem dX0_signAt_14 : decode cX0_signAt 14 = .ok (.getfield 11, 3) := by decide +kernel
theorem dX0_signAt_17 : decode cX0_signAt 17 = .ok (.iload_n 1, 1) := by decide +kernel
theorem dX0_signAt_18 : decode cX0_signAt 18 = .ok (.aaload, 1) := by decide +kernel
theorem dX0_signAt_19 : decode cX0_signAt 19 = .ok (.ifnonnull 6, 3) := by decide +kernel
theorem dX0_signAt_22 : decode cX0_signAt 22 = .ok (.bipush 32, 2) := by decide +kernel
theorem dX0_signAt_24 : decode cX0_signAt 24 = .ok (.ireturn, 1) := by decide +kernel
theorem dX0_signAt_25 : decode cX0_signAt 25 = .ok (.aload_n 0, 1) := by decide +kernel
theorem dX0_signAt_26 : decode cX0_signAt 26 = .ok (.getfield 11, 3) := by decide +kernel
theorem dX0_signAt_29 : decode cX0_signAt 29 = .ok (.iload_n 1, 1) := by decide +kernel
theorem dX0_signAt_30 : decode cX0_signAt 30 = .ok (.aaload, 1) := by decide +kernel
theorem dX0_signAt_31 : decode cX0_signAt 31 = .ok (.iload_n 2, 1) := by decide +kernel
theorem dX0_signAt_32 : decode cX0_signAt 32 = .ok (.iload_n 3, 1) := by decide +kernel
theorem dX0_signAt_33 : decode cX0_signAt 33 = .ok (.invokevirtual 22, 3) := by decide +kernel
theorem dX0_signAt_36 : decode cX0_signAt 36 = .ok (.ireturn, 1) := by decide +kernel
theorem dX1_init_0 : decode cX1_init 0 = .ok (.aload_n 0, 1) := by decide +kernel
theorem dX1_init_1 : decode cX1_init 1 = .ok (.invokespecial 3, 3) := by decide +kernel
theorem dX1_init_4 : decode cX1_init 4 = .ok (.aload_n 0, 1) := by decide +kernel
theorem dX1_init_5 : decode cX1_init 5 = .ok (.sipush 960, 3) := by decide +kernel
theorem dX1_init_8 : decode cX1_init 8 = .ok (.newarray .char, 2) := by decide +kernel
theorem dX1_init_10 : decode cX1_init 10 = .ok (.putfield 9, 3) := by decide +kernel
theorem dX1_init_13 : decode cX1_init 13 = .ok (.return_, 1) := by decide +kernel
theorem dX1_clear_0 : decode cX1_clear 0 = .ok (.iconst 0, 1) := by decide +kernel
theorem dX1_clear_1 : decode cX1_clear 1 = .ok (.istore_n 1, 1) := by decide +kernel
theorem dX1_clear_2 : decode cX1_clear 2 = .ok (.iload_n 1, 1) := by decide +kernel
theorem dX1_clear_3 : decode cX1_clear 3 = .ok (.aload_n 0, 1) := by decide +kernel
theorem dX1_clear_4 : decode cX1_clear 4 = .ok (.getfield 9, 3) := by decide +kernel
theorem dX1_clear_7 : decode cX1_clear 7 = .ok (.arraylength, 1) := by decide +kernel
theorem dX1_clear_8 : decode cX1_clear 8 = .ok (.if_icmp .ge 17, 3) := by decide +kernel
theorem dX1_clear_11 : decode cX1_clear 11 = .ok (.aload_n 0, 1) := by decide +kernel
theorem dX1_clear_12 : decode cX1_clear 12 = .ok (.getfield 9, 3) := by decide +kernel
theorem dX1_clear_15 : decode cX1_clear 15 = .ok (.iload_n 1, 1) := by decide +kernel
theorem dX1_clear_16 : decode cX1_clear 16 = .ok (.bipush 46, 2) := by decide +kernel
theorem dX1_clear_18 : decode cX1_clear 18 = .ok (.castore, 1) := by decide +kernel
theorem dX1_clear_19 : decode cX1_clear 19 = .ok (.iinc 1 1, 3) := by decide +kernel
theorem dX1_clear_22 : decode cX1_clear 22 = .ok (.goto (-20), 3) := by decide +kernel
theorem dX1_clear_25 : decode cX1_clear 25 = .ok (.return_, 1) := by decide +kernel
theorem dX1_copyFrom_0 : decode cX1_copyFrom 0 = .ok (.iconst 0, 1) := by decide +kernel
theorem dX1_copyFrom_1 : decode cX1_copyFrom 1 = .ok (.istore_n 2, 1) := by decide +kernel
theorem dX1_copyFrom_2 : decode cX1_copyFrom 2 = .ok (.iload_n 2, 1) := by decide +kernel
theorem dX1_copyFrom_3 : decode cX1_copyFrom 3 = .ok (.aload_n 0, 1) := by decide +kernel
theorem dX1_copyFrom_4 : decode cX1_copyFrom 4 = .ok (.getfield 9, 3) := by decide +kernel
theorem dX1_copyFrom_7 : decode cX1_copyFrom 7 = .ok (.arraylength, 1) := by decide +kernel
theorem dX1_copyFrom_8 : decode cX1_copyFrom 8 = .ok (.if_icmp .ge 30, 3) := by decide +kernel
theorem dX1_copyFrom_11 : decode cX1_copyFrom 11 = .ok (.iload_n 2, 1) := by decide +kernel
theorem dX1_copyFrom_12 : decode cX1_copyFrom 12 = .ok (.aload_n 1, 1) := by decide +kernel
theorem dX1_copyFrom_13 : decode cX1_copyFrom 13 = .ok (.getfield 9, 3) := by decide +kernel
theorem dX1_copyFrom_16 : decode cX1_copyFrom 16 = .ok (.arraylength, 1) := by decide +kernel
theorem dX1_copyFrom_17 : decode cX1_copyFrom 17 = .ok (.if_icmp .ge 21, 3) := by decide +kernel
theorem dX1_copyFrom_20 : decode cX1_copyFrom 20 = .ok (.aload_n 0, 1) := by decide +kernel
theorem dX1_copyFrom_21 : decode cX1_copyFrom 21 = .ok (.getfield 9, 3) := by decide +kernel
theorem dX1_copyFrom_24 : decode cX1_copyFrom 24 = .ok (.iload_n 2, 1) := by decide +kernel
theorem dX1_copyFrom_25 : decode cX1_copyFrom 25 = .ok (.aload_n 1, 1) := by decide +kernel
theorem dX1_copyFrom_26 : decode cX1_copyFrom 26 = .ok (.getfield 9, 3) := by decide +kernel
theorem dX1_copyFrom_29 : decode cX1_copyFrom 29 = .ok (.iload_n 2, 1) := by decide +kernel
theorem dX1_copyFrom_30 : decode cX1_copyFrom 30 = .ok (.caload, 1) := by decide +kernel
theorem dX1_copyFrom_31 : decode cX1_copyFrom 31 = .ok (.castore, 1) := by decide +kernel
theorem dX1_copyFrom_32 : decode cX1_copyFrom 32 = .ok (.iinc 2 1, 3) := by decide +kernel
theorem dX1_copyFrom_35 : decode cX1_copyFrom 35 = .ok (.goto (-33), 3) := by decide +kernel
theorem dX1_copyFrom_38 : decode cX1_copyFrom 38 = .ok (.return_, 1) := by decide +kernel
theorem dX1_signAt_0 : decode cX1_signAt 0 = .ok (.iload_n 1, 1) := by decide +kernel
theorem dX1_signAt_1 : decode cX1_signAt 1 = .ok (.iload_n 2, 1) := by decide +kernel
theorem dX1_signAt_2 : decode cX1_signAt 2 = .ok (.invokestatic 15, 3) := by decide +kernel
theorem dX1_signAt_5 : decode cX1_signAt 5 = .ok (.ifCond .eq 17, 3) := by decide +kernel
theorem dX1_signAt_8 : decode cX1_signAt 8 = .ok (.aload_n 0, 1) := by decide +kernel
theorem dX1_signAt_9 : decode cX1_signAt 9 = .ok (.getfield 9, 3) := by decide +kernel
theorem dX1_signAt_12 : decode cX1_signAt 12 = .ok (.iload_n 1, 1) := by decide +kernel
theorem dX1_signAt_13 : decode cX1_signAt 13 = .ok (.bipush 40, 2) := by decide +kernel
theorem dX1_signAt_15 : decode cX1_signAt 15 = .ok (.imul, 1) := by decide +kernel
theorem dX1_signAt_16 : decode cX1_signAt 16 = .ok (.iload_n 2, 1) := by decide +kernel
theorem dX1_signAt_17 : decode cX1_signAt 17 = .ok (.iadd, 1) := by decide +kernel
theorem dX1_signAt_18 : decode cX1_signAt 18 = .ok (.caload, 1) := by decide +kernel
theorem dX1_signAt_19 : decode cX1_signAt 19 = .ok (.goto 5, 3) := by decide +kernel
theorem dX1_signAt_22 : decode cX1_signAt 22 = .ok (.bipush 32, 2) := by decide +kernel
theorem dX1_signAt_24 : decode cX1_signAt 24 = .ok (.ireturn, 1) := by decide +kernel
theorem dX1_setSign_0 : decode cX1_setSign 0 = .ok (.iload_n 1, 1) := by decide +kernel
theorem dX1_setSign_1 : decode cX1_setSign 1 = .ok (.iload_n 2, 1) := by decide +kernel
theorem dX1_setSign_2 : decode cX1_setSign 2 = .ok (.invokestatic 15, 3) := by decide +kernel
theorem dX1_setSign_5 : decode cX1_setSign 5 = .ok (.ifCond .eq 15, 3) := by decide +kernel
theorem dX1_setSign_8 : decode cX1_setSign 8 = .ok (.aload_n 0, 1) := by decide +kernel
theorem dX1_setSign_9 : decode cX1_setSign 9 = .ok (.getfield 9, 3) := by decide +kernel
theorem dX1_setSign_12 : decode cX1_setSign 12 = .ok (.iload_n 1, 1) := by decide +kernel
theorem dX1_setSign_13 : decode cX1_setSign 13 = .ok (.bipush 40, 2) := by decide +kernel
theorem dX1_setSign_15 : decode cX1_setSign 15 = .ok (.imul, 1) := by decide +kernel
theorem dX1_setSign_16 : decode cX1_setSign 16 = .ok (.iload_n 2, 1) := by decide +kernel
theorem dX1_setSign_17 : decode cX1_setSign 17 = .ok (.iadd, 1) := by decide +kernel
theorem dX1_setSign_18 : decode cX1_setSign 18 = .ok (.iload_n 3, 1) := by decide +kernel
theorem dX1_setSign_19 : decode cX1_setSign 19 = .ok (.castore, 1) := by decide +kernel
theorem dX1_setSign_20 : decode cX1_setSign 20 = .ok (.return_, 1) := by decide +kernel
theorem dX1_write_0 : decode cX1_write 0 = .ok (.iconst 0, 1) := by decide +kernel
theorem dX1_write_1 : decode cX1_write 1 = .ok (.istore 4, 2) := by decide +kernel
theorem dX1_write_3 : decode cX1_write 3 = .ok (.iload 4, 2) := by decide +kernel
theorem dX1_write_5 : decode cX1_write 5 = .ok (.aload_n 3, 1) := by decide +kernel
theorem dX1_write_6 : decode cX1_write 6 = .ok (.invokevirtual 19, 3) := by decide +kernel
theorem dX1_write_9 : decode cX1_write 9 = .ok (.if_icmp .ge 24, 3) := by decide +kernel
theorem dX1_write_12 : decode cX1_write 12 = .ok (.aload_n 0, 1) := by decide +kernel
theorem dX1_write_13 : decode cX1_write 13 = .ok (.iload_n 1, 1) := by decide +kernel
theorem dX1_write_14 : decode cX1_write 14 = .ok (.iload_n 2, 1) := by decide +kernel
theorem dX1_write_15 : decode cX1_write 15 = .ok (.iload 4, 2) := by decide +kernel
theorem dX1_write_17 : decode cX1_write 17 = .ok (.iadd, 1) := by decide +kernel
theorem dX1_write_18 : decode cX1_write 18 = .ok (.aload_n 3, 1) := by decide +kernel
theorem dX1_write_19 : decode cX1_write 19 = .ok (.iload 4, 2) := by decide +kernel
theorem dX1_write_21 : decode cX1_write 21 = .ok (.invokevirtual 25, 3) := by decide +kernel
theorem dX1_write_24 : decode cX1_write 24 = .ok (.invokevirtual 29, 3) := by decide +kernel
theorem dX1_write_27 : decode cX1_write 27 = .ok (.iinc 4 1, 3) := by decide +kernel
theorem dX1_write_30 : decode cX1_write 30 = .ok (.goto (-27), 3) := by decide +kernel
theorem dX1_write_33 : decode cX1_write 33 = .ok (.return_, 1) := by decide +kernel
theorem dX1_erase_0 : decode cX1_erase 0 = .ok (.iconst 0, 1) := by decide +kernel
theorem dX1_erase_1 : decode cX1_erase 1 = .ok (.istore 4, 2) := by decide +kernel
theorem dX1_erase_3 : decode cX1_erase 3 = .ok (.iload 4, 2) := by decide +kernel
theorem dX1_erase_5 : decode cX1_erase 5 = .ok (.iload_n 3, 1) := by decide +kernel
theorem dX1_erase_6 : decode cX1_erase 6 = .ok (.if_icmp .ge 20, 3) := by decide +kernel
theorem dX1_erase_9 : decode cX1_erase 9 = .ok (.aload_n 0, 1) := by decide +kernel
theorem dX1_erase_10 : decode cX1_erase 10 = .ok (.iload_n 1, 1) := by decide +kernel
theorem dX1_erase_11 : decode cX1_erase 11 = .ok (.iload_n 2, 1) := by decide +kernel
theorem dX1_erase_12 : decode cX1_erase 12 = .ok (.iload 4, 2) := by decide +kernel
theorem dX1_erase_14 : decode cX1_erase 14 = .ok (.iadd, 1) := by decide +kernel
theorem dX1_erase_15 : decode cX1_erase 15 = .ok (.bipush 46, 2) := by decide +kernel
theorem dX1_erase_17 : decode cX1_erase 17 = .ok (.invokevirtual 29, 3) := by decide +kernel
theorem dX1_erase_20 : decode cX1_erase 20 = .ok (.iinc 4 1, 3) := by decide +kernel
theorem dX1_erase_23 : decode cX1_erase 23 = .ok (.goto (-20), 3) := by decide +kernel
theorem dX1_erase_26 : decode cX1_erase 26 = .ok (.return_, 1) := by decide +kernel
theorem dX1_isFree_0 : decode cX1_isFree 0 = .ok (.iconst 0, 1) := by decide +kernel
theorem dX1_isFree_1 : decode cX1_isFree 1 = .ok (.istore 4, 2) := by decide +kernel
theorem dX1_isFree_3 : decode cX1_isFree 3 = .ok (.iload 4, 2) := by decide +kernel
theorem dX1_isFree_5 : decode cX1_isFree 5 = .ok (.iload_n 3, 1) := by decide +kernel
theorem dX1_isFree_6 : decode cX1_isFree 6 = .ok (.if_icmp .ge 25, 3) := by decide +kernel
theorem dX1_isFree_9 : decode cX1_isFree 9 = .ok (.aload_n 0, 1) := by decide +kernel
theorem dX1_isFree_10 : decode cX1_isFree 10 = .ok (.iload_n 1, 1) := by decide +kernel
theorem dX1_isFree_11 : decode cX1_isFree 11 = .ok (.iload_n 2, 1) := by decide +kernel
theorem dX1_isFree_12 : decode cX1_isFree 12 = .ok (.iload 4, 2) := by decide +kernel
theorem dX1_isFree_14 : decode cX1_isFree 14 = .ok (.iadd, 1) := by decide +kernel
theorem dX1_isFree_15 : decode cX1_isFree 15 = .ok (.invokevirtual 33, 3) := by decide +kernel
theorem dX1_isFree_18 : decode cX1_isFree 18 = .ok (.bipush 46, 2) := by decide +kernel
theorem dX1_isFree_20 : decode cX1_isFree 20 = .ok (.if_icmp .eq 5, 3) := by decide +kernel
theorem dX1_isFree_23 : decode cX1_isFree 23 = .ok (.iconst 0, 1) := by decide +kernel
theorem dX1_isFree_24 : decode cX1_isFree 24 = .ok (.ireturn, 1) := by decide +kernel
theorem dX1_isFree_25 : decode cX1_isFree 25 = .ok (.iinc 4 1, 3) := by decide +kernel
theorem dX1_isFree_28 : decode cX1_isFree 28 = .ok (.goto (-25), 3) := by decide +kernel
theorem dX1_isFree_31 : decode cX1_isFree 31 = .ok (.iconst 1, 1) := by decide +kernel
theorem dX1_isFree_32 : decode cX1_isFree 32 = .ok (.ireturn, 1) := by decide +kernel
theorem dX2_init_0 : decode cX2_init 0 = .ok (.aload_n 0, 1) := by decide +kernel
theorem dX2_init_1 : decode cX2_init 1 = .ok (.invokespecial 3, 3) := by decide +kernel
theorem dX2_init_4 : decode cX2_init 4 = .ok (.aload_n 0, 1) := by decide +kernel
theorem dX2_init_5 : decode cX2_init 5 = .ok (.iload_n 1, 1) := by decide +kernel
theorem dX2_init_6 : decode cX2_init 6 = .ok (.putfield 9, 3) := by decide +kernel
theorem dX2_init_9 : decode cX2_init 9 = .ok (.aload_n 0, 1) := by decide +kernel
theorem dX2_init_10 : decode cX2_init 10 = .ok (.iload_n 2, 1) := by decide +kernel
theorem dX2_init_11 : decode cX2_init 11 = .ok (.putfield 15, 3) := by decide +kernel
theorem dX2_init_14 : decode cX2_init 14 = .ok (.aload_n 0, 1) := by decide +kernel
theorem dX2_init_15 : decode cX2_init 15 = .ok (.iload_n 3, 1) := by decide +kernel
theorem dX2_init_16 : decode cX2_init 16 = .ok (.putfield 18, 3) := by decide +kernel
theorem dX2_init_19 : decode cX2_init 19 = .ok (.aload_n 0, 1) := by decide +kernel
theorem dX2_init_20 : decode cX2_init 20 = .ok (.bipush 6, 2) := by decide +kernel
theorem dX2_init_22 : decode cX2_init 22 = .ok (.anewarray 21, 3) := by decide +kernel
theorem dX2_init_25 : decode cX2_init 25 = .ok (.putfield 23, 3) := by decide +kernel
theorem dX2_init_28 : decode cX2_init 28 = .ok (.aload_n 0, 1) := by decide +kernel
theorem dX2_init_29 : decode cX2_init 29 = .ok (.iconst 0, 1) := by decide +kernel
theorem dX2_init_30 : decode cX2_init 30 = .ok (.putfield 27, 3) := by decide +kernel
theorem dX2_init_33 : decode cX2_init 33 = .ok (.return_, 1) := by decide +kernel
theorem dX2_isToldOut_0 : decode cX2_isToldOut 0 = .ok (.aload_n 0, 1) := by decide +kernel
theorem dX2_isToldOut_1 : decode cX2_isToldOut 1 = .ok (.getfield 27, 3) := by decide +kernel
theorem dX2_isToldOut_4 : decode cX2_isToldOut 4 = .ok (.aload_n 0, 1) := by decide +kernel
theorem dX2_isToldOut_5 : decode cX2_isToldOut 5 = .ok (.getfield 23, 3) := by decide +kernel
theorem dX2_isToldOut_8 : decode cX2_isToldOut 8 = .ok (.arraylength, 1) := by decide +kernel
theorem dX2_isToldOut_9 : decode cX2_isToldOut 9 = .ok (.if_icmp .lt 7, 3) := by decide +kernel
theorem dX2_isToldOut_12 : decode cX2_isToldOut 12 = .ok (.iconst 1, 1) := by decide +kernel
theorem dX2_isToldOut_13 : decode cX2_isToldOut 13 = .ok (.goto 4, 3) := by decide +kernel
theorem dX2_isToldOut_16 : decode cX2_isToldOut 16 = .ok (.iconst 0, 1) := by decide +kernel
theorem dX2_isToldOut_17 : decode cX2_isToldOut 17 = .ok (.ireturn, 1) := by decide +kernel
theorem dX2_tell_0 : decode cX2_tell 0 = .ok (.aload_n 0, 1) := by decide +kernel
theorem dX2_tell_1 : decode cX2_tell 1 = .ok (.getfield 27, 3) := by decide +kernel
theorem dX2_tell_4 : decode cX2_tell 4 = .ok (.aload_n 0, 1) := by decide +kernel
theorem dX2_tell_5 : decode cX2_tell 5 = .ok (.getfield 23, 3) := by decide +kernel
theorem dX2_tell_8 : decode cX2_tell 8 = .ok (.arraylength, 1) := by decide +kernel
theorem dX2_tell_9 : decode cX2_tell 9 = .ok (.if_icmp .ge 23, 3) := by decide +kernel
theorem dX2_tell_12 : decode cX2_tell 12 = .ok (.aload_n 0, 1) := by decide +kernel
theorem dX2_tell_13 : decode cX2_tell 13 = .ok (.getfield 23, 3) := by decide +kernel
theorem dX2_tell_16 : decode cX2_tell 16 = .ok (.aload_n 0, 1) := by decide +kernel
theorem dX2_tell_17 : decode cX2_tell 17 = .ok (.getfield 27, 3) := by decide +kernel
theorem dX2_tell_20 : decode cX2_tell 20 = .ok (.aload_n 1, 1) := by decide +kernel
theorem dX2_tell_21 : decode cX2_tell 21 = .ok (.aastore, 1) := by decide +kernel
theorem dX2_tell_22 : decode cX2_tell 22 = .ok (.aload_n 0, 1) := by decide +kernel
theorem dX2_tell_23 : decode cX2_tell 23 = .ok (.dup, 1) := by decide +kernel
theorem dX2_tell_24 : decode cX2_tell 24 = .ok (.getfield 27, 3) := by decide +kernel
theorem dX2_tell_27 : decode cX2_tell 27 = .ok (.iconst 1, 1) := by decide +kernel
theorem dX2_tell_28 : decode cX2_tell 28 = .ok (.iadd, 1) := by decide +kernel
theorem dX2_tell_29 : decode cX2_tell 29 = .ok (.putfield 27, 3) := by decide +kernel
theorem dX2_tell_32 : decode cX2_tell 32 = .ok (.return_, 1) := by decide +kernel
theorem dX2_wordOn_0 : decode cX2_wordOn 0 = .ok (.aconst_null, 1) := by decide +kernel
theorem dX2_wordOn_1 : decode cX2_wordOn 1 = .ok (.astore_n 2, 1) := by decide +kernel
theorem dX2_wordOn_2 : decode cX2_wordOn 2 = .ok (.iconst 0, 1) := by decide +kernel
theorem dX2_wordOn_3 : decode cX2_wordOn 3 = .ok (.istore_n 3, 1) := by decide +kernel
theorem dX2_wordOn_4 : decode cX2_wordOn 4 = .ok (.iload_n 3, 1) := by decide +kernel
theorem dX2_wordOn_5 : decode cX2_wordOn 5 = .ok (.aload_n 0, 1) := by decide +kernel
theorem dX2_wordOn_6 : decode cX2_wordOn 6 = .ok (.getfield 27, 3) := by decide +kernel
theorem dX2_wordOn_9 : decode cX2_wordOn 9 = .ok (.if_icmp .ge 46, 3) := by decide +kernel
theorem dX2_wordOn_12 : decode cX2_wordOn 12 = .ok (.iload_n 3, 1) := by decide +kernel
theorem dX2_wordOn_13 : decode cX2_wordOn 13 = .ok (.aload_n 0, 1) := by decide +kernel
theorem dX2_wordOn_14 : decode cX2_wordOn 14 = .ok (.getfield 23, 3) := by decide +kernel
theorem dX2_wordOn_17 : decode cX2_wordOn 17 = .ok (.arraylength, 1) := by decide +kernel
theorem dX2_wordOn_18 : decode cX2_wordOn 18 = .ok (.if_icmp .ge 37, 3) := by decide +kernel
theorem dX2_wordOn_21 : decode cX2_wordOn 21 = .ok (.aload_n 0, 1) := by decide +kernel
theorem dX2_wordOn_22 : decode cX2_wordOn 22 = .ok (.getfield 23, 3) := by decide +kernel
theorem dX2_wordOn_25 : decode cX2_wordOn 25 = .ok (.iload_n 3, 1) := by decide +kernel
theorem dX2_wordOn_26 : decode cX2_wordOn 26 = .ok (.aaload, 1) := by decide +kernel
theorem dX2_wordOn_27 : decode cX2_wordOn 27 = .ok (.astore 4, 2) := by decide +kernel
theorem dX2_wordOn_29 : decode cX2_wordOn 29 = .ok (.aload 4, 2) := by decide +kernel
theorem dX2_wordOn_31 : decode cX2_wordOn 31 = .ok (.ifnull 18, 3) := by decide +kernel
theorem dX2_wordOn_34 : decode cX2_wordOn 34 = .ok (.aload 4, 2) := by decide +kernel
theorem dX2_wordOn_36 : decode cX2_wordOn 36 = .ok (.getfield 30, 3) := by decide +kernel
theorem dX2_wordOn_39 : decode cX2_wordOn 39 = .ok (.iload_n 1, 1) := by decide +kernel
theorem dX2_wordOn_40 : decode cX2_wordOn 40 = .ok (.if_icmp .gt 9, 3) := by decide +kernel
theorem dX2_wordOn_43 : decode cX2_wordOn 43 = .ok (.aload 4, 2) := by decide +kernel
theorem dX2_wordOn_45 : decode cX2_wordOn 45 = .ok (.getfield 33, 3) := by decide +kernel
theorem dX2_wordOn_48 : decode cX2_wordOn 48 = .ok (.astore_n 2, 1) := by decide +kernel
theorem dX2_wordOn_49 : decode cX2_wordOn 49 = .ok (.iinc 3 1, 3) := by decide +kernel
theorem dX2_wordOn_52 : decode cX2_wordOn 52 = .ok (.goto (-48), 3) := by decide +kernel
theorem dX2_wordOn_55 : decode cX2_wordOn 55 = .ok (.aload_n 2, 1) := by decide +kernel
theorem dX2_wordOn_56 : decode cX2_wordOn 56 = .ok (.areturn, 1) := by decide +kernel
theorem dX3_init_0 : decode cX3_init 0 = .ok (.aload_n 0, 1) := by decide +kernel
theorem dX3_init_1 : decode cX3_init 1 = .ok (.invokespecial 3, 3) := by decide +kernel
theorem dX3_init_4 : decode cX3_init 4 = .ok (.aload_n 0, 1) := by decide +kernel
theorem dX3_init_5 : decode cX3_init 5 = .ok (.iload_n 1, 1) := by decide +kernel
theorem dX3_init_6 : decode cX3_init 6 = .ok (.putfield 9, 3) := by decide +kernel
theorem dX3_init_9 : decode cX3_init 9 = .ok (.aload_n 0, 1) := by decide +kernel
theorem dX3_init_10 : decode cX3_init 10 = .ok (.iload_n 2, 1) := by decide +kernel
theorem dX3_init_11 : decode cX3_init 11 = .ok (.putfield 15, 3) := by decide +kernel
theorem dX3_init_14 : decode cX3_init 14 = .ok (.aload_n 0, 1) := by decide +kernel
theorem dX3_init_15 : decode cX3_init 15 = .ok (.iload_n 3, 1) := by decide +kernel
theorem dX3_init_16 : decode cX3_init 16 = .ok (.putfield 18, 3) := by decide +kernel
theorem dX3_init_19 : decode cX3_init 19 = .ok (.aload_n 0, 1) := by decide +kernel
theorem dX3_init_20 : decode cX3_init 20 = .ok (.new 21, 3) := by decide +kernel
theorem dX3_init_23 : decode cX3_init 23 = .ok (.dup, 1) := by decide +kernel
theorem dX3_init_24 : decode cX3_init 24 = .ok (.invokespecial 23, 3) := by decide +kernel
theorem dX3_init_27 : decode cX3_init 27 = .ok (.putfield 24, 3) := by decide +kernel
theorem dX3_init_30 : decode cX3_init 30 = .ok (.aload_n 0, 1) := by decide +kernel
theorem dX3_init_31 : decode cX3_init 31 = .ok (.new 21, 3) := by decide +kernel
theorem dX3_init_34 : decode cX3_init 34 = .ok (.dup, 1) := by decide +kernel
theorem dX3_init_35 : decode cX3_init 35 = .ok (.invokespecial 23, 3) := by decide +kernel
theorem dX3_init_38 : decode cX3_init 38 = .ok (.putfield 28, 3) := by decide +kernel
theorem dX3_init_41 : decode cX3_init 41 = .ok (.aload_n 0, 1) := by decide +kernel
theorem dX3_init_42 : decode cX3_init 42 = .ok (.bipush 14, 2) := by decide +kernel
theorem dX3_init_44 : decode cX3_init 44 = .ok (.anewarray 31, 3) := by decide +kernel
theorem dX3_init_47 : decode cX3_init 47 = .ok (.putfield 33, 3) := by decide +kernel
theorem dX3_init_50 : decode cX3_init 50 = .ok (.aload_n 0, 1) := by decide +kernel
theorem dX3_init_51 : decode cX3_init 51 = .ok (.bipush 14, 2) := by decide +kernel
theorem dX3_init_53 : decode cX3_init 53 = .ok (.anewarray 31, 3) := by decide +kernel
theorem dX3_init_56 : decode cX3_init 56 = .ok (.putfield 37, 3) := by decide +kernel
theorem dX3_init_59 : decode cX3_init 59 = .ok (.aload_n 0, 1) := by decide +kernel
theorem dX3_init_60 : decode cX3_init 60 = .ok (.iconst 0, 1) := by decide +kernel
theorem dX3_init_61 : decode cX3_init 61 = .ok (.putfield 40, 3) := by decide +kernel
theorem dX3_init_64 : decode cX3_init 64 = .ok (.aload_n 0, 1) := by decide +kernel
theorem dX3_init_65 : decode cX3_init 65 = .ok (.iconst 0, 1) := by decide +kernel
theorem dX3_init_66 : decode cX3_init 66 = .ok (.putfield 43, 3) := by decide +kernel
theorem dX3_init_69 : decode cX3_init 69 = .ok (.return_, 1) := by decide +kernel
theorem dX3_show_0 : decode cX3_show 0 = .ok (.aload_n 1, 1) := by decide +kernel
theorem dX3_show_1 : decode cX3_show 1 = .ok (.ifnull 15, 3) := by decide +kernel
theorem dX3_show_4 : decode cX3_show 4 = .ok (.aload_n 0, 1) := by decide +kernel
theorem dX3_show_5 : decode cX3_show 5 = .ok (.getfield 40, 3) := by decide +kernel
theorem dX3_show_8 : decode cX3_show 8 = .ok (.aload_n 0, 1) := by decide +kernel
theorem dX3_show_9 : decode cX3_show 9 = .ok (.getfield 33, 3) := by decide +kernel
theorem dX3_show_12 : decode cX3_show 12 = .ok (.arraylength, 1) := by decide +kernel
theorem dX3_show_13 : decode cX3_show 13 = .ok (.if_icmp .lt 4, 3) := by decide +kernel
theorem dX3_show_16 : decode cX3_show 16 = .ok (.return_, 1) := by decide +kernel
theorem dX3_show_17 : decode cX3_show 17 = .ok (.aload_n 0, 1) := by decide +kernel
theorem dX3_show_18 : decode cX3_show 18 = .ok (.getfield 33, 3) := by decide +kernel
theorem dX3_show_21 : decode cX3_show 21 = .ok (.aload_n 0, 1) := by decide +kernel
theorem dX3_show_22 : decode cX3_show 22 = .ok (.getfield 40, 3) := by decide +kernel
theorem dX3_show_25 : decode cX3_show 25 = .ok (.aload_n 0, 1) := by decide +kernel
theorem dX3_show_26 : decode cX3_show 26 = .ok (.aload_n 1, 1) := by decide +kernel
theorem dX3_show_27 : decode cX3_show 27 = .ok (.invokevirtual 46, 3) := by decide +kernel
theorem dX3_show_30 : decode cX3_show 30 = .ok (.ifCond .eq 24, 3) := by decide +kernel
theorem dX3_show_33 : decode cX3_show 33 = .ok (.new 31, 3) := by decide +kernel
theorem dX3_show_36 : decode cX3_show 36 = .ok (.dup, 1) := by decide +kernel
theorem dX3_show_37 : decode cX3_show 37 = .ok (.aload_n 1, 1) := by decide +kernel
theorem dX3_show_38 : decode cX3_show 38 = .ok (.aload_n 0, 1) := by decide +kernel
theorem dX3_show_39 : decode cX3_show 39 = .ok (.aload_n 1, 1) := by decide +kernel
theorem dX3_show_40 : decode cX3_show 40 = .ok (.invokevirtual 50, 3) := by decide +kernel
theorem dX3_show_43 : decode cX3_show 43 = .ok (.aload_n 0, 1) := by decide +kernel
theorem dX3_show_44 : decode cX3_show 44 = .ok (.aload_n 1, 1) := by decide +kernel
theorem dX3_show_45 : decode cX3_show 45 = .ok (.invokevirtual 54, 3) := by decide +kernel
theorem dX3_show_48 : decode cX3_show 48 = .ok (.invokespecial 57, 3) := by decide +kernel
theorem dX3_show_51 : decode cX3_show 51 = .ok (.goto 13, 3) := by decide +kernel
theorem dX3_show_54 : decode cX3_show 54 = .ok (.new 31, 3) := by decide +kernel
theorem dX3_show_57 : decode cX3_show 57 = .ok (.dup, 1) := by decide +kernel
theorem dX3_show_58 : decode cX3_show 58 = .ok (.aload_n 1, 1) := by decide +kernel
theorem dX3_show_59 : decode cX3_show 59 = .ok (.iconst (-1), 1) := by decide +kernel
theorem dX3_show_60 : decode cX3_show 60 = .ok (.iconst (-1), 1) := by decide +kernel
theorem dX3_show_61 : decode cX3_show 61 = .ok (.invokespecial 57, 3) := by decide +kernel
theorem dX3_show_64 : decode cX3_show 64 = .ok (.aastore, 1) := by decide +kernel
theorem dX3_show_65 : decode cX3_show 65 = .ok (.aload_n 0, 1) := by decide +kernel
theorem dX3_show_66 : decode cX3_show 66 = .ok (.dup, 1) := by decide +kernel
theorem dX3_show_67 : decode cX3_show 67 = .ok (.getfield 40, 3) := by decide +kernel
theorem dX3_show_70 : decode cX3_show 70 = .ok (.iconst 1, 1) := by decide +kernel
theorem dX3_show_71 : decode cX3_show 71 = .ok (.iadd, 1) := by decide +kernel
theorem dX3_show_72 : decode cX3_show 72 = .ok (.putfield 40, 3) := by decide +kernel
theorem dX3_show_75 : decode cX3_show 75 = .ok (.return_, 1) := by decide +kernel
theorem dX3_has_0 : decode cX3_has 0 = .ok (.aload_n 1, 1) := by decide +kernel
theorem dX3_has_1 : decode cX3_has 1 = .ok (.getfield 60, 3) := by decide +kernel
theorem dX3_has_4 : decode cX3_has 4 = .ok (.aload_n 0, 1) := by decide +kernel
theorem dX3_has_5 : decode cX3_has 5 = .ok (.getfield 9, 3) := by decide +kernel
theorem dX3_has_8 : decode cX3_has 8 = .ok (.isub, 1) := by decide +kernel
theorem dX3_has_9 : decode cX3_has 9 = .ok (.iconst 0, 1) := by decide +kernel
theorem dX3_has_10 : decode cX3_has 10 = .ok (.bipush 29, 2) := by decide +kernel
theorem dX3_has_12 : decode cX3_has 12 = .ok (.invokestatic 63, 3) := by decide +kernel
theorem dX3_has_15 : decode cX3_has 15 = .ok (.ifCond .eq 25, 3) := by decide +kernel
theorem dX3_has_18 : decode cX3_has 18 = .ok (.aload_n 1, 1) := by decide +kernel
theorem dX3_has_19 : decode cX3_has 19 = .ok (.getfield 67, 3) := by decide +kernel
theorem dX3_has_22 : decode cX3_has 22 = .ok (.aload_n 0, 1) := by decide +kernel
theorem dX3_has_23 : decode cX3_has 23 = .ok (.getfield 15, 3) := by decide +kernel
theorem dX3_has_26 : decode cX3_has 26 = .ok (.isub, 1) := by decide +kernel
theorem dX3_has_27 : decode cX3_has 27 = .ok (.iconst 0, 1) := by decide +kernel
theorem dX3_has_28 : decode cX3_has 28 = .ok (.bipush 19, 2) := by decide +kernel
theorem dX3_has_30 : decode cX3_has 30 = .ok (.invokestatic 63, 3) := by decide +kernel
theorem dX3_has_33 : decode cX3_has 33 = .ok (.ifCond .eq 7, 3) := by decide +kernel
theorem dX3_has_36 : decode cX3_has 36 = .ok (.iconst 1, 1) := by decide +kernel
theorem dX3_has_37 : decode cX3_has 37 = .ok (.goto 4, 3) := by decide +kernel
theorem dX3_has_40 : decode cX3_has 40 = .ok (.iconst 0, 1) := by decide +kernel
theorem dX3_has_41 : decode cX3_has 41 = .ok (.ireturn, 1) := by decide +kernel
theorem dX3_rowOf_0 : decode cX3_rowOf 0 = .ok (.bipush 24, 2) := by decide +kernel
theorem dX3_rowOf_2 : decode cX3_rowOf 2 = .ok (.aload_n 1, 1) := by decide +kernel
theorem dX3_rowOf_3 : decode cX3_rowOf 3 = .ok (.getfield 67, 3) := by decide +kernel
theorem dX3_rowOf_6 : decode cX3_rowOf 6 = .ok (.aload_n 0, 1) := by decide +kernel
theorem dX3_rowOf_7 : decode cX3_rowOf 7 = .ok (.getfield 15, 3) := by decide +kernel
theorem dX3_rowOf_10 : decode cX3_rowOf 10 = .ok (.isub, 1) := by decide +kernel
theorem dX3_rowOf_11 : decode cX3_rowOf 11 = .ok (.imul, 1) := by decide +kernel
theorem dX3_rowOf_12 : decode cX3_rowOf 12 = .ok (.bipush 20, 2) := by decide +kernel
theorem dX3_rowOf_14 : decode cX3_rowOf 14 = .ok (.idiv, 1) := by decide +kernel
theorem dX3_rowOf_15 : decode cX3_rowOf 15 = .ok (.ireturn, 1) := by decide +kernel
theorem dX3_columnOf_0 : decode cX3_columnOf 0 = .ok (.aload_n 1, 1) := by decide +kernel
theorem dX3_columnOf_1 : decode cX3_columnOf 1 = .ok (.getfield 60, 3) := by decide +kernel
theorem dX3_columnOf_4 : decode cX3_columnOf 4 = .ok (.aload_n 0, 1) := by decide +kernel
theorem dX3_columnOf_5 : decode cX3_columnOf 5 = .ok (.getfield 9, 3) := by decide +kernel
theorem dX3_columnOf_8 : decode cX3_columnOf 8 = .ok (.isub, 1) := by decide +kernel
theorem dX3_columnOf_9 : decode cX3_columnOf 9 = .ok (.istore_n 2, 1) := by decide +kernel
theorem dX3_columnOf_10 : decode cX3_columnOf 10 = .ok (.aload_n 0, 1) := by decide +kernel
theorem dX3_columnOf_11 : decode cX3_columnOf 11 = .ok (.getfield 18, 3) := by decide +kernel
theorem dX3_columnOf_14 : decode cX3_columnOf 14 = .ok (.ifCond .ne 11, 3) := by decide +kernel
theorem dX3_columnOf_17 : decode cX3_columnOf 17 = .ok (.bipush 40, 2) := by decide +kernel
theorem dX3_columnOf_19 : decode cX3_columnOf 19 = .ok (.iload_n 2, 1) := by decide +kernel
theorem dX3_columnOf_20 : decode cX3_columnOf 20 = .ok (.imul, 1) := by decide +kernel
theorem dX3_columnOf_21 : decode cX3_columnOf 21 = .ok (.bipush 30, 2) := by decide +kernel
theorem dX3_columnOf_23 : decode cX3_columnOf 23 = .ok (.idiv, 1) := by decide +kernel
theorem dX3_columnOf_24 : decode cX3_columnOf 24 = .ok (.ireturn, 1) := by decide +kernel
theorem dX3_columnOf_25 : decode cX3_columnOf 25 = .ok (.fconst 1, 1) := by decide +kernel
theorem dX3_columnOf_26 : decode cX3_columnOf 26 = .ok (.ldc 68, 2) := by decide +kernel
theorem dX3_columnOf_28 : decode cX3_columnOf 28 = .ok (.aload_n 1, 1) := by decide +kernel
theorem dX3_columnOf_29 : decode cX3_columnOf 29 = .ok (.getfield 67, 3) := by decide +kernel
theorem dX3_columnOf_32 : decode cX3_columnOf 32 = .ok (.aload_n 0, 1) := by decide +kernel
theorem dX3_columnOf_33 : decode cX3_columnOf 33 = .ok (.getfield 15, 3) := by decide +kernel
theorem dX3_columnOf_36 : decode cX3_columnOf 36 = .ok (.isub, 1) := by decide +kernel
theorem dX3_columnOf_37 : decode cX3_columnOf 37 = .ok (.i2f, 1) := by decide +kernel
theorem dX3_columnOf_38 : decode cX3_columnOf 38 = .ok (.fmul, 1) := by decide +kernel
theorem dX3_columnOf_39 : decode cX3_columnOf 39 = .ok (.fsub, 1) := by decide +kernel
theorem dX3_columnOf_40 : decode cX3_columnOf 40 = .ok (.fstore_n 3, 1) := by decide +kernel
theorem dX3_columnOf_41 : decode cX3_columnOf 41 = .ok (.iload_n 2, 1) := by decide +kernel
theorem dX3_columnOf_42 : decode cX3_columnOf 42 = .ok (.i2f, 1) := by decide +kernel
theorem dX3_columnOf_43 : decode cX3_columnOf 43 = .ok (.ldc 69, 2) := by decide +kernel
theorem dX3_columnOf_45 : decode cX3_columnOf 45 = .ok (.fsub, 1) := by decide +kernel
theorem dX3_columnOf_46 : decode cX3_columnOf 46 = .ok (.ldc 70, 2) := by decide +kernel
theorem dX3_columnOf_48 : decode cX3_columnOf 48 = .ok (.fmul, 1) := by decide +kernel
theorem dX3_columnOf_49 : decode cX3_columnOf 49 = .ok (.ldc 71, 2) := by decide +kernel
theorem dX3_columnOf_51 : decode cX3_columnOf 51 = .ok (.fdiv, 1) := by decide +kernel
theorem dX3_columnOf_52 : decode cX3_columnOf 52 = .ok (.fload_n 3, 1) := by decide +kernel
theorem dX3_columnOf_53 : decode cX3_columnOf 53 = .ok (.fmul, 1) := by decide +kernel
theorem dX3_columnOf_54 : decode cX3_columnOf 54 = .ok (.fstore 4, 2) := by decide +kernel
theorem dX3_columnOf_56 : decode cX3_columnOf 56 = .ok (.ldc 72, 2) := by decide +kernel
theorem dX3_columnOf_58 : decode cX3_columnOf 58 = .ok (.fload 4, 2) := by decide +kernel
theorem dX3_columnOf_60 : decode cX3_columnOf 60 = .ok (.fadd, 1) := by decide +kernel
theorem dX3_columnOf_61 : decode cX3_columnOf 61 = .ok (.f2i, 1) := by decide +kernel
theorem dX3_columnOf_62 : decode cX3_columnOf 62 = .ok (.ireturn, 1) := by decide +kernel
theorem dX3_spotOf_0 : decode cX3_spotOf 0 = .ok (.iload_n 1, 1) := by decide +kernel
theorem dX3_spotOf_1 : decode cX3_spotOf 1 = .ok (.ifCond .lt 20, 3) := by decide +kernel
theorem dX3_spotOf_4 : decode cX3_spotOf 4 = .ok (.iload_n 1, 1) := by decide +kernel
theorem dX3_spotOf_5 : decode cX3_spotOf 5 = .ok (.aload_n 0, 1) := by decide +kernel
theorem dX3_spotOf_6 : decode cX3_spotOf 6 = .ok (.getfield 40, 3) := by decide +kernel
theorem dX3_spotOf_9 : decode cX3_spotOf 9 = .ok (.if_icmp .ge 12, 3) := by decide +kernel
theorem dX3_spotOf_12 : decode cX3_spotOf 12 = .ok (.iload_n 1, 1) := by decide +kernel
theorem dX3_spotOf_13 : decode cX3_spotOf 13 = .ok (.aload_n 0, 1) := by decide +kernel
theorem dX3_spotOf_14 : decode cX3_spotOf 14 = .ok (.getfield 33, 3) := by decide +kernel
theorem dX3_spotOf_17 : decode cX3_spotOf 17 = .ok (.arraylength, 1) := by decide +kernel
theorem dX3_spotOf_18 : decode cX3_spotOf 18 = .ok (.if_icmp .lt 7, 3) := by decide +kernel
theorem dX3_spotOf_21 : decode cX3_spotOf 21 = .ok (.aconst_null, 1) := by decide +kernel
theorem dX3_spotOf_22 : decode cX3_spotOf 22 = .ok (.goto 9, 3) := by decide +kernel
theorem dX3_spotOf_25 : decode cX3_spotOf 25 = .ok (.aload_n 0, 1) := by decide +kernel
theorem dX3_spotOf_26 : decode cX3_spotOf 26 = .ok (.getfield 33, 3) := by decide +kernel
theorem dX3_spotOf_29 : decode cX3_spotOf 29 = .ok (.iload_n 1, 1) := by decide +kernel
theorem dX3_spotOf_30 : decode cX3_spotOf 30 = .ok (.aaload, 1) := by decide +kernel
theorem dX3_spotOf_31 : decode cX3_spotOf 31 = .ok (.areturn, 1) := by decide +kernel
theorem dX3_placeAnew_0 : decode cX3_placeAnew 0 = .ok (.iconst 0, 1) := by decide +kernel
theorem dX3_placeAnew_1 : decode cX3_placeAnew 1 = .ok (.istore_n 2, 1) := by decide +kernel
theorem dX3_placeAnew_2 : decode cX3_placeAnew 2 = .ok (.iload_n 2, 1) := by decide +kernel
theorem dX3_placeAnew_3 : decode cX3_placeAnew 3 = .ok (.aload_n 0, 1) := by decide +kernel
theorem dX3_placeAnew_4 : decode cX3_placeAnew 4 = .ok (.getfield 40, 3) := by decide +kernel
theorem dX3_placeAnew_7 : decode cX3_placeAnew 7 = .ok (.if_icmp .ge 34, 3) := by decide +kernel
theorem dX3_placeAnew_10 : decode cX3_placeAnew 10 = .ok (.iload_n 2, 1) := by decide +kernel
theorem dX3_placeAnew_11 : decode cX3_placeAnew 11 = .ok (.aload_n 0, 1) := by decide +kernel
theorem dX3_placeAnew_12 : decode cX3_placeAnew 12 = .ok (.getfield 33, 3) := by decide +kernel
theorem dX3_placeAnew_15 : decode cX3_placeAnew 15 = .ok (.arraylength, 1) := by decide +kernel
theorem dX3_placeAnew_16 : decode cX3_placeAnew 16 = .ok (.if_icmp .ge 25, 3) := by decide +kernel
theorem dX3_placeAnew_19 : decode cX3_placeAnew 19 = .ok (.aload_n 0, 1) := by decide +kernel
theorem dX3_placeAnew_20 : decode cX3_placeAnew 20 = .ok (.getfield 33, 3) := by decide +kernel
theorem dX3_placeAnew_23 : decode cX3_placeAnew 23 = .ok (.iload_n 2, 1) := by decide +kernel
theorem dX3_placeAnew_24 : decode cX3_placeAnew 24 = .ok (.aaload, 1) := by decide +kernel
theorem dX3_placeAnew_25 : decode cX3_placeAnew 25 = .ok (.astore_n 3, 1) := by decide +kernel
theorem dX3_placeAnew_26 : decode cX3_placeAnew 26 = .ok (.aload_n 3, 1) := by decide +kernel
theorem dX3_placeAnew_27 : decode cX3_placeAnew 27 = .ok (.ifnull 8, 3) := by decide +kernel
theorem dX3_placeAnew_30 : decode cX3_placeAnew 30 = .ok (.aload_n 3, 1) := by decide +kernel
theorem dX3_placeAnew_31 : decode cX3_placeAnew 31 = .ok (.iload_n 1, 1) := by decide +kernel
theorem dX3_placeAnew_32 : decode cX3_placeAnew 32 = .ok (.invokevirtual 73, 3) := by decide +kernel
theorem dX3_placeAnew_35 : decode cX3_placeAnew 35 = .ok (.iinc 2 1, 3) := by decide +kernel
theorem dX3_placeAnew_38 : decode cX3_placeAnew 38 = .ok (.goto (-36), 3) := by decide +kernel
theorem dX3_placeAnew_41 : decode cX3_placeAnew 41 = .ok (.aload_n 0, 1) := by decide +kernel
theorem dX3_placeAnew_42 : decode cX3_placeAnew 42 = .ok (.invokevirtual 77, 3) := by decide +kernel
theorem dX3_placeAnew_45 : decode cX3_placeAnew 45 = .ok (.aload_n 0, 1) := by decide +kernel
theorem dX3_placeAnew_46 : decode cX3_placeAnew 46 = .ok (.aload_n 0, 1) := by decide +kernel
theorem dX3_placeAnew_47 : decode cX3_placeAnew 47 = .ok (.getfield 24, 3) := by decide +kernel
theorem dX3_placeAnew_50 : decode cX3_placeAnew 50 = .ok (.invokevirtual 80, 3) := by decide +kernel
theorem dX3_placeAnew_53 : decode cX3_placeAnew 53 = .ok (.iconst 0, 1) := by decide +kernel
theorem dX3_placeAnew_54 : decode cX3_placeAnew 54 = .ok (.istore_n 2, 1) := by decide +kernel
theorem dX3_placeAnew_55 : decode cX3_placeAnew 55 = .ok (.iload_n 2, 1) := by decide +kernel
theorem dX3_placeAnew_56 : decode cX3_placeAnew 56 = .ok (.aload_n 0, 1) := by decide +kernel
theorem dX3_placeAnew_57 : decode cX3_placeAnew 57 = .ok (.getfield 43, 3) := by decide +kernel
theorem dX3_placeAnew_60 : decode cX3_placeAnew 60 = .ok (.if_icmp .ge 37, 3) := by decide +kernel
theorem dX3_placeAnew_63 : decode cX3_placeAnew 63 = .ok (.iload_n 2, 1) := by decide +kernel
theorem dX3_placeAnew_64 : decode cX3_placeAnew 64 = .ok (.aload_n 0, 1) := by decide +kernel
theorem dX3_placeAnew_65 : decode cX3_placeAnew 65 = .ok (.getfield 37, 3) := by decide +kernel
theorem dX3_placeAnew_68 : decode cX3_placeAnew 68 = .ok (.arraylength, 1) := by decide +kernel
theorem dX3_placeAnew_69 : decode cX3_placeAnew 69 = .ok (.if_icmp .ge 28, 3) := by decide +kernel
theorem dX3_placeAnew_72 : decode cX3_placeAnew 72 = .ok (.aload_n 0, 1) := by decide +kernel
theorem dX3_placeAnew_73 : decode cX3_placeAnew 73 = .ok (.getfield 37, 3) := by decide +kernel
theorem dX3_placeAnew_76 : decode cX3_placeAnew 76 = .ok (.iload_n 2, 1) := by decide +kernel
theorem dX3_placeAnew_77 : decode cX3_placeAnew 77 = .ok (.aaload, 1) := by decide +kernel
theorem dX3_placeAnew_78 : decode cX3_placeAnew 78 = .ok (.astore_n 3, 1) := by decide +kernel
theorem dX3_placeAnew_79 : decode cX3_placeAnew 79 = .ok (.aload_n 3, 1) := by decide +kernel
theorem dX3_placeAnew_80 : decode cX3_placeAnew 80 = .ok (.ifnull 11, 3) := by decide +kernel
theorem dX3_placeAnew_83 : decode cX3_placeAnew 83 = .ok (.aload_n 3, 1) := by decide +kernel
theorem dX3_placeAnew_84 : decode cX3_placeAnew 84 = .ok (.aload_n 0, 1) := by decide +kernel
theorem dX3_placeAnew_85 : decode cX3_placeAnew 85 = .ok (.getfield 24, 3) := by decide +kernel
theorem dX3_placeAnew_88 : decode cX3_placeAnew 88 = .ok (.invokevirtual 84, 3) := by decide +kernel
theorem dX3_placeAnew_91 : decode cX3_placeAnew 91 = .ok (.iinc 2 1, 3) := by decide +kernel
theorem dX3_placeAnew_94 : decode cX3_placeAnew 94 = .ok (.goto (-39), 3) := by decide +kernel
theorem dX3_placeAnew_97 : decode cX3_placeAnew 97 = .ok (.return_, 1) := by decide +kernel
theorem dX3_listNamed_0 : decode cX3_listNamed 0 = .ok (.aload_n 0, 1) := by decide +kernel
theorem dX3_listNamed_1 : decode cX3_listNamed 1 = .ok (.iconst 0, 1) := by decide +kernel
theorem dX3_listNamed_2 : decode cX3_listNamed 2 = .ok (.putfield 43, 3) := by decide +kernel
theorem dX3_listNamed_5 : decode cX3_listNamed 5 = .ok (.iconst 5, 1) := by decide +kernel
theorem dX3_listNamed_6 : decode cX3_listNamed 6 = .ok (.istore_n 1, 1) := by decide +kernel
theorem dX3_listNamed_7 : decode cX3_listNamed 7 = .ok (.iload_n 1, 1) := by decide +kernel
theorem dX3_listNamed_8 : decode cX3_listNamed 8 = .ok (.iconst 1, 1) := by decide +kernel
theorem dX3_listNamed_9 : decode cX3_listNamed 9 = .ok (.if_icmp .lt 92, 3) := by decide +kernel
theorem dX3_listNamed_12 : decode cX3_listNamed 12 = .ok (.iconst 0, 1) := by decide +kernel
theorem dX3_listNamed_13 : decode cX3_listNamed 13 = .ok (.istore_n 2, 1) := by decide +kernel
theorem dX3_listNamed_14 : decode cX3_listNamed 14 = .ok (.iload_n 2, 1) := by decide +kernel
theorem dX3_listNamed_15 : decode cX3_listNamed 15 = .ok (.aload_n 0, 1) := by decide +kernel
theorem dX3_listNamed_16 : decode cX3_listNamed 16 = .ok (.getfield 40, 3) := by decide +kernel
theorem dX3_listNamed_19 : decode cX3_listNamed 19 = .ok (.if_icmp .ge 76, 3) := by decide +kernel
theorem dX3_listNamed_22 : decode cX3_listNamed 22 = .ok (.iload_n 2, 1) := by decide +kernel
theorem dX3_listNamed_23 : decode cX3_listNamed 23 = .ok (.aload_n 0, 1) := by decide +kernel
theorem dX3_listNamed_24 : decode cX3_listNamed 24 = .ok (.getfield 33, 3) := by decide +kernel
theorem dX3_listNamed_27 : decode cX3_listNamed 27 = .ok (.arraylength, 1) := by decide +kernel
theorem dX3_listNamed_28 : decode cX3_listNamed 28 = .ok (.if_icmp .ge 67, 3) := by decide +kernel
theorem dX3_listNamed_31 : decode cX3_listNamed 31 = .ok (.aload_n 0, 1) := by decide +kernel
theorem dX3_listNamed_32 : decode cX3_listNamed 32 = .ok (.getfield 33, 3) := by decide +kernel
theorem dX3_listNamed_35 : decode cX3_listNamed 35 = .ok (.iload_n 2, 1) := by decide +kernel
theorem dX3_listNamed_36 : decode cX3_listNamed 36 = .ok (.aaload, 1) := by decide +kernel
theorem dX3_listNamed_37 : decode cX3_listNamed 37 = .ok (.astore_n 3, 1) := by decide +kernel
theorem dX3_listNamed_38 : decode cX3_listNamed 38 = .ok (.aload_n 3, 1) := by decide +kernel
theorem dX3_listNamed_39 : decode cX3_listNamed 39 = .ok (.ifnull 50, 3) := by decide +kernel
theorem dX3_listNamed_42 : decode cX3_listNamed 42 = .ok (.aload_n 3, 1) := by decide +kernel
theorem dX3_listNamed_43 : decode cX3_listNamed 43 = .ok (.getfield 87, 3) := by decide +kernel
theorem dX3_listNamed_46 : decode cX3_listNamed 46 = .ok (.iload_n 1, 1) := by decide +kernel
theorem dX3_listNamed_47 : decode cX3_listNamed 47 = .ok (.if_icmp .ne 42, 3) := by decide +kernel
theorem dX3_listNamed_50 : decode cX3_listNamed 50 = .ok (.aload_n 3, 1) := by decide +kernel
theorem dX3_listNamed_51 : decode cX3_listNamed 51 = .ok (.invokevirtual 90, 3) := by decide +kernel
theorem dX3_listNamed_54 : decode cX3_listNamed 54 = .ok (.ifCond .eq 35, 3) := by decide +kernel
theorem dX3_listNamed_57 : decode cX3_listNamed 57 = .ok (.aload_n 0, 1) := by decide +kernel
theorem dX3_listNamed_58 : decode cX3_listNamed 58 = .ok (.getfield 43, 3) := by decide +kernel
theorem dX3_listNamed_61 : decode cX3_listNamed 61 = .ok (.aload_n 0, 1) := by decide +kernel
theorem dX3_listNamed_62 : decode cX3_listNamed 62 = .ok (.getfield 37, 3) := by decide +kernel
theorem dX3_listNamed_65 : decode cX3_listNamed 65 = .ok (.arraylength, 1) := by decide +kernel
theorem dX3_listNamed_66 : decode cX3_listNamed 66 = .ok (.if_icmp .ge 23, 3) := by decide +kernel
theorem dX3_listNamed_69 : decode cX3_listNamed 69 = .ok (.aload_n 0, 1) := by decide +kernel
theorem dX3_listNamed_70 : decode cX3_listNamed 70 = .ok (.getfield 37, 3) := by decide +kernel
theorem dX3_listNamed_73 : decode cX3_listNamed 73 = .ok (.aload_n 0, 1) := by decide +kernel
theorem dX3_listNamed_74 : decode cX3_listNamed 74 = .ok (.getfield 43, 3) := by decide +kernel
theorem dX3_listNamed_77 : decode cX3_listNamed 77 = .ok (.aload_n 3, 1) := by decide +kernel
theorem dX3_listNamed_78 : decode cX3_listNamed 78 = .ok (.aastore, 1) := by decide +kernel
theorem dX3_listNamed_79 : decode cX3_listNamed 79 = .ok (.aload_n 0, 1) := by decide +kernel
theorem dX3_listNamed_80 : decode cX3_listNamed 80 = .ok (.dup, 1) := by decide +kernel
theorem dX3_listNamed_81 : decode cX3_listNamed 81 = .ok (.getfield 43, 3) := by decide +kernel
theorem dX3_listNamed_84 : decode cX3_listNamed 84 = .ok (.iconst 1, 1) := by decide +kernel
theorem dX3_listNamed_85 : decode cX3_listNamed 85 = .ok (.iadd, 1) := by decide +kernel
theorem dX3_listNamed_86 : decode cX3_listNamed 86 = .ok (.putfield 43, 3) := by decide +kernel
theorem dX3_listNamed_89 : decode cX3_listNamed 89 = .ok (.iinc 2 1, 3) := by decide +kernel
theorem dX3_listNamed_92 : decode cX3_listNamed 92 = .ok (.goto (-78), 3) := by decide +kernel
theorem dX3_listNamed_95 : decode cX3_listNamed 95 = .ok (.iinc 1 (-1), 3) := by decide +kernel
theorem dX3_listNamed_98 : decode cX3_listNamed 98 = .ok (.goto (-91), 3) := by decide +kernel
theorem dX3_listNamed_101 : decode cX3_listNamed 101 = .ok (.return_, 1) := by decide +kernel
theorem dX3_drawDots_0 : decode cX3_drawDots 0 = .ok (.aload_n 1, 1) := by decide +kernel
theorem dX3_drawDots_1 : decode cX3_drawDots 1 = .ok (.invokevirtual 94, 3) := by decide +kernel
theorem dX3_drawDots_4 : decode cX3_drawDots 4 = .ok (.iconst 0, 1) := by decide +kernel
theorem dX3_drawDots_5 : decode cX3_drawDots 5 = .ok (.istore_n 2, 1) := by decide +kernel
theorem dX3_drawDots_6 : decode cX3_drawDots 6 = .ok (.iload_n 2, 1) := by decide +kernel
theorem dX3_drawDots_7 : decode cX3_drawDots 7 = .ok (.aload_n 0, 1) := by decide +kernel
theorem dX3_drawDots_8 : decode cX3_drawDots 8 = .ok (.getfield 40, 3) := by decide +kernel
theorem dX3_drawDots_11 : decode cX3_drawDots 11 = .ok (.if_icmp .ge 50, 3) := by decide +kernel
theorem dX3_drawDots_14 : decode cX3_drawDots 14 = .ok (.iload_n 2, 1) := by decide +kernel
theorem dX3_drawDots_15 : decode cX3_drawDots 15 = .ok (.aload_n 0, 1) := by decide +kernel
theorem dX3_drawDots_16 : decode cX3_drawDots 16 = .ok (.getfield 33, 3) := by decide +kernel
theorem dX3_drawDots_19 : decode cX3_drawDots 19 = .ok (.arraylength, 1) := by decide +kernel
theorem dX3_drawDots_20 : decode cX3_drawDots 20 = .ok (.if_icmp .ge 41, 3) := by decide +kernel
theorem dX3_drawDots_23 : decode cX3_drawDots 23 = .ok (.aload_n 0, 1) := by decide +kernel
theorem dX3_drawDots_24 : decode cX3_drawDots 24 = .ok (.getfield 33, 3) := by decide +kernel
theorem dX3_drawDots_27 : decode cX3_drawDots 27 = .ok (.iload_n 2, 1) := by decide +kernel
theorem dX3_drawDots_28 : decode cX3_drawDots 28 = .ok (.aaload, 1) := by decide +kernel
theorem dX3_drawDots_29 : decode cX3_drawDots 29 = .ok (.astore_n 3, 1) := by decide +kernel
theorem dX3_drawDots_30 : decode cX3_drawDots 30 = .ok (.aload_n 3, 1) := by decide +kernel
theorem dX3_drawDots_31 : decode cX3_drawDots 31 = .ok (.ifnull 24, 3) := by decide +kernel
theorem dX3_drawDots_34 : decode cX3_drawDots 34 = .ok (.aload_n 3, 1) := by decide +kernel
theorem dX3_drawDots_35 : decode cX3_drawDots 35 = .ok (.invokevirtual 97, 3) := by decide +kernel
theorem dX3_drawDots_38 : decode cX3_drawDots 38 = .ok (.ifCond .eq 17, 3) := by decide +kernel
theorem dX3_drawDots_41 : decode cX3_drawDots 41 = .ok (.aload_n 1, 1) := by decide +kernel
theorem dX3_drawDots_42 : decode cX3_drawDots 42 = .ok (.aload_n 3, 1) := by decide +kernel
theorem dX3_drawDots_43 : decode cX3_drawDots 43 = .ok (.getfield 100, 3) := by decide +kernel
theorem dX3_drawDots_46 : decode cX3_drawDots 46 = .ok (.aload_n 3, 1) := by decide +kernel
theorem dX3_drawDots_47 : decode cX3_drawDots 47 = .ok (.getfield 103, 3) := by decide +kernel
theorem dX3_drawDots_50 : decode cX3_drawDots 50 = .ok (.bipush 42, 2) := by decide +kernel
theorem dX3_drawDots_52 : decode cX3_drawDots 52 = .ok (.invokevirtual 106, 3) := by decide +kernel
theorem dX3_drawDots_55 : decode cX3_drawDots 55 = .ok (.iinc 2 1, 3) := by decide +kernel
theorem dX3_drawDots_58 : decode cX3_drawDots 58 = .ok (.goto (-52), 3) := by decide +kernel
theorem dX3_drawDots_61 : decode cX3_drawDots 61 = .ok (.return_, 1) := by decide +kernel
theorem dX3_pushedBeside_0 : decode cX3_pushedBeside 0 = .ok (.iconst 0, 1) := by decide +kernel
theorem dX3_pushedBeside_1 : decode cX3_pushedBeside 1 = .ok (.istore_n 2, 1) := by decide +kernel
theorem dX3_pushedBeside_2 : decode cX3_pushedBeside 2 = .ok (.iconst 0, 1) := by decide +kernel
theorem dX3_pushedBeside_3 : decode cX3_pushedBeside 3 = .ok (.istore_n 3, 1) := by decide +kernel
theorem dX3_pushedBeside_4 : decode cX3_pushedBeside 4 = .ok (.iload_n 3, 1) := by decide +kernel
theorem dX3_pushedBeside_5 : decode cX3_pushedBeside 5 = .ok (.aload_n 0, 1) := by decide +kernel
theorem dX3_pushedBeside_6 : decode cX3_pushedBeside 6 = .ok (.getfield 40, 3) := by decide +kernel
theorem dX3_pushedBeside_9 : decode cX3_pushedBeside 9 = .ok (.if_icmp .ge 47, 3) := by decide +kernel
theorem dX3_pushedBeside_12 : decode cX3_pushedBeside 12 = .ok (.iload_n 3, 1) := by decide +kernel
theorem dX3_pushedBeside_13 : decode cX3_pushedBeside 13 = .ok (.aload_n 0, 1) := by decide +kernel
theorem dX3_pushedBeside_14 : decode cX3_pushedBeside 14 = .ok (.getfield 33, 3) := by decide +kernel
theorem dX3_pushedBeside_17 : decode cX3_pushedBeside 17 = .ok (.arraylength, 1) := by decide +kernel
theorem dX3_pushedBeside_18 : decode cX3_pushedBeside 18 = .ok (.if_icmp .ge 38, 3) := by decide +kernel
theorem dX3_pushedBeside_21 : decode cX3_pushedBeside 21 = .ok (.aload_n 0, 1) := by decide +kernel
theorem dX3_pushedBeside_22 : decode cX3_pushedBeside 22 = .ok (.getfield 33, 3) := by decide +kernel
theorem dX3_pushedBeside_25 : decode cX3_pushedBeside 25 = .ok (.iload_n 3, 1) := by decide +kernel
theorem dX3_pushedBeside_26 : decode cX3_pushedBeside 26 = .ok (.aaload, 1) := by decide +kernel
theorem dX3_pushedBeside_27 : decode cX3_pushedBeside 27 = .ok (.astore 4, 2) := by decide +kernel
theorem dX3_pushedBeside_29 : decode cX3_pushedBeside 29 = .ok (.iload_n 3, 1) := by decide +kernel
theorem dX3_pushedBeside_30 : decode cX3_pushedBeside 30 = .ok (.iload_n 1, 1) := by decide +kernel
theorem dX3_pushedBeside_31 : decode cX3_pushedBeside 31 = .ok (.if_icmp .eq 19, 3) := by decide +kernel
theorem dX3_pushedBeside_34 : decode cX3_pushedBeside 34 = .ok (.aload 4, 2) := by decide +kernel
theorem dX3_pushedBeside_36 : decode cX3_pushedBeside 36 = .ok (.ifnull 14, 3) := by decide +kernel
theorem dX3_pushedBeside_39 : decode cX3_pushedBeside 39 = .ok (.aload 4, 2) := by decide +kernel
theorem dX3_pushedBeside_41 : decode cX3_pushedBeside 41 = .ok (.invokevirtual 110, 3) := by decide +kernel
theorem dX3_pushedBeside_44 : decode cX3_pushedBeside 44 = .ok (.ifCond .eq 6, 3) := by decide +kernel
theorem dX3_pushedBeside_47 : decode cX3_pushedBeside 47 = .ok (.iinc 2 1, 3) := by decide +kernel
theorem dX3_pushedBeside_50 : decode cX3_pushedBeside 50 = .ok (.iinc 3 1, 3) := by decide +kernel
theorem dX3_pushedBeside_53 : decode cX3_pushedBeside 53 = .ok (.goto (-49), 3) := by decide +kernel
theorem dX3_pushedBeside_56 : decode cX3_pushedBeside 56 = .ok (.iload_n 2, 1) := by decide +kernel
theorem dX3_pushedBeside_57 : decode cX3_pushedBeside 57 = .ok (.ireturn, 1) := by decide +kernel
theorem dX3_worthToday_0 : decode cX3_worthToday 0 = .ok (.iconst 0, 1) := by decide +kernel
theorem dX3_worthToday_1 : decode cX3_worthToday 1 = .ok (.istore_n 1, 1) := by decide +kernel
theorem dX3_worthToday_2 : decode cX3_worthToday 2 = .ok (.iconst 0, 1) := by decide +kernel
theorem dX3_worthToday_3 : decode cX3_worthToday 3 = .ok (.istore_n 2, 1) := by decide +kernel
theorem dX3_worthToday_4 : decode cX3_worthToday 4 = .ok (.iload_n 2, 1) := by decide +kernel
theorem dX3_worthToday_5 : decode cX3_worthToday 5 = .ok (.aload_n 0, 1) := by decide +kernel
theorem dX3_worthToday_6 : decode cX3_worthToday 6 = .ok (.getfield 43, 3) := by decide +kernel
theorem dX3_worthToday_9 : decode cX3_worthToday 9 = .ok (.if_icmp .ge 44, 3) := by decide +kernel
theorem dX3_worthToday_12 : decode cX3_worthToday 12 = .ok (.iload_n 2, 1) := by decide +kernel
theorem dX3_worthToday_13 : decode cX3_worthToday 13 = .ok (.aload_n 0, 1) := by decide +kernel
theorem dX3_worthToday_14 : decode cX3_worthToday 14 = .ok (.getfield 37, 3) := by decide +kernel
theorem dX3_worthToday_17 : decode cX3_worthToday 17 = .ok (.arraylength, 1) := by decide +kernel
theorem dX3_worthToday_18 : decode cX3_worthToday 18 = .ok (.if_icmp .ge 35, 3) := by decide +kernel
theorem dX3_worthToday_21 : decode cX3_worthToday 21 = .ok (.aload_n 0, 1) := by decide +kernel
theorem dX3_worthToday_22 : decode cX3_worthToday 22 = .ok (.getfield 37, 3) := by decide +kernel
theorem dX3_worthToday_25 : decode cX3_worthToday 25 = .ok (.iload_n 2, 1) := by decide +kernel
theorem dX3_worthToday_26 : decode cX3_worthToday 26 = .ok (.aaload, 1) := by decide +kernel
theorem dX3_worthToday_27 : decode cX3_worthToday 27 = .ok (.astore_n 3, 1) := by decide +kernel
theorem dX3_worthToday_28 : decode cX3_worthToday 28 = .ok (.aload_n 3, 1) := by decide +kernel
theorem dX3_worthToday_29 : decode cX3_worthToday 29 = .ok (.ifnull 18, 3) := by decide +kernel
theorem dX3_worthToday_32 : decode cX3_worthToday 32 = .ok (.aload_n 3, 1) := by decide +kernel
theorem dX3_worthToday_33 : decode cX3_worthToday 33 = .ok (.getfield 113, 3) := by decide +kernel
theorem dX3_worthToday_36 : decode cX3_worthToday 36 = .ok (.iconst (-1), 1) := by decide +kernel
theorem dX3_worthToday_37 : decode cX3_worthToday 37 = .ok (.if_icmp .eq 10, 3) := by decide +kernel
theorem dX3_worthToday_40 : decode cX3_worthToday 40 = .ok (.iload_n 1, 1) := by decide +kernel
theorem dX3_worthToday_41 : decode cX3_worthToday 41 = .ok (.aload_n 3, 1) := by decide +kernel
theorem dX3_worthToday_42 : decode cX3_worthToday 42 = .ok (.getfield 87, 3) := by decide +kernel
theorem dX3_worthToday_45 : decode cX3_worthToday 45 = .ok (.iadd, 1) := by decide +kernel
theorem dX3_worthToday_46 : decode cX3_worthToday 46 = .ok (.istore_n 1, 1) := by decide +kernel
theorem dX3_worthToday_47 : decode cX3_worthToday 47 = .ok (.iinc 2 1, 3) := by decide +kernel
theorem dX3_worthToday_50 : decode cX3_worthToday 50 = .ok (.goto (-46), 3) := by decide +kernel
theorem dX3_worthToday_53 : decode cX3_worthToday 53 = .ok (.iload_n 1, 1) := by decide +kernel
theorem dX3_worthToday_54 : decode cX3_worthToday 54 = .ok (.ireturn, 1) := by decide +kernel
theorem dX3_greatestWorth_0 : decode cX3_greatestWorth 0 = .ok (.aload_n 0, 1) := by decide +kernel
theorem dX3_greatestWorth_1 : decode cX3_greatestWorth 1 = .ok (.aload_n 0, 1) := by decide +kernel
theorem dX3_greatestWorth_2 : decode cX3_greatestWorth 2 = .ok (.getfield 28, 3) := by decide +kernel
theorem dX3_greatestWorth_5 : decode cX3_greatestWorth 5 = .ok (.invokevirtual 80, 3) := by decide +kernel
theorem dX3_greatestWorth_8 : decode cX3_greatestWorth 8 = .ok (.aload_n 0, 1) := by decide +kernel
theorem dX3_greatestWorth_9 : decode cX3_greatestWorth 9 = .ok (.getfield 37, 3) := by decide +kernel
theorem dX3_greatestWorth_12 : decode cX3_greatestWorth 12 = .ok (.aload_n 0, 1) := by decide +kernel
theorem dX3_greatestWorth_13 : decode cX3_greatestWorth 13 = .ok (.getfield 43, 3) := by decide +kernel
theorem dX3_greatestWorth_16 : decode cX3_greatestWorth 16 = .ok (.iconst 0, 1) := by decide +kernel
theorem dX3_greatestWorth_17 : decode cX3_greatestWorth 17 = .ok (.aload_n 0, 1) := by decide +kernel
theorem dX3_greatestWorth_18 : decode cX3_greatestWorth 18 = .ok (.getfield 28, 3) := by decide +kernel
theorem dX3_greatestWorth_21 : decode cX3_greatestWorth 21 = .ok (.invokestatic 116, 3) := by decide +kernel
theorem dX3_greatestWorth_24 : decode cX3_greatestWorth 24 = .ok (.ireturn, 1) := by decide +kernel
theorem dX3_greatestFrom_0 : decode cX3_greatestFrom 0 = .ok (.iload_n 2, 1) := by decide +kernel
theorem dX3_greatestFrom_1 : decode cX3_greatestFrom 1 = .ok (.ifCond .lt 25, 3) := by decide +kernel
theorem dX3_greatestFrom_4 : decode cX3_greatestFrom 4 = .ok (.iload_n 2, 1) := by decide +kernel
theorem dX3_greatestFrom_5 : decode cX3_greatestFrom 5 = .ok (.iload_n 1, 1) := by decide +kernel
theorem dX3_greatestFrom_6 : decode cX3_greatestFrom 6 = .ok (.if_icmp .ge 20, 3) := by decide +kernel
theorem dX3_greatestFrom_9 : decode cX3_greatestFrom 9 = .ok (.iload_n 2, 1) := by decide +kernel
theorem dX3_greatestFrom_10 : decode cX3_greatestFrom 10 = .ok (.aload_n 0, 1) := by decide +kernel
theorem dX3_greatestFrom_11 : decode cX3_greatestFrom 11 = .ok (.arraylength, 1) := by decide +kernel
theorem dX3_greatestFrom_12 : decode cX3_greatestFrom 12 = .ok (.if_icmp .ge 14, 3) := by decide +kernel
theorem dX3_greatestFrom_15 : decode cX3_greatestFrom 15 = .ok (.iload_n 2, 1) := by decide +kernel
theorem dX3_greatestFrom_16 : decode cX3_greatestFrom 16 = .ok (.iconst 4, 1) := by decide +kernel
theorem dX3_greatestFrom_17 : decode cX3_greatestFrom 17 = .ok (.if_icmp .ge 9, 3) := by decide +kernel
theorem dX3_greatestFrom_20 : decode cX3_greatestFrom 20 = .ok (.aload_n 0, 1) := by decide +kernel
theorem dX3_greatestFrom_21 : decode cX3_greatestFrom 21 = .ok (.iload_n 2, 1) := by decide +kernel
theorem dX3_greatestFrom_22 : decode cX3_greatestFrom 22 = .ok (.aaload, 1) := by decide +kernel
theorem dX3_greatestFrom_23 : decode cX3_greatestFrom 23 = .ok (.ifnonnull 5, 3) := by decide +kernel
theorem dX3_greatestFrom_26 : decode cX3_greatestFrom 26 = .ok (.iconst 0, 1) := by decide +kernel
theorem dX3_greatestFrom_27 : decode cX3_greatestFrom 27 = .ok (.ireturn, 1) := by decide +kernel
theorem dX3_greatestFrom_28 : decode cX3_greatestFrom 28 = .ok (.aload_n 0, 1) := by decide +kernel
theorem dX3_greatestFrom_29 : decode cX3_greatestFrom 29 = .ok (.iload_n 2, 1) := by decide +kernel
theorem dX3_greatestFrom_30 : decode cX3_greatestFrom 30 = .ok (.aaload, 1) := by decide +kernel
theorem dX3_greatestFrom_31 : decode cX3_greatestFrom 31 = .ok (.astore 4, 2) := by decide +kernel
theorem dX3_greatestFrom_33 : decode cX3_greatestFrom 33 = .ok (.aload_n 0, 1) := by decide +kernel
theorem dX3_greatestFrom_34 : decode cX3_greatestFrom 34 = .ok (.iload_n 1, 1) := by decide +kernel
theorem dX3_greatestFrom_35 : decode cX3_greatestFrom 35 = .ok (.iload_n 2, 1) := by decide +kernel
theorem dX3_greatestFrom_36 : decode cX3_greatestFrom 36 = .ok (.invokestatic 120, 3) := by decide +kernel
theorem dX3_greatestFrom_39 : decode cX3_greatestFrom 39 = .ok (.istore 5, 2) := by decide +kernel
theorem dX3_greatestFrom_41 : decode cX3_greatestFrom 41 = .ok (.iconst 0, 1) := by decide +kernel
theorem dX3_greatestFrom_42 : decode cX3_greatestFrom 42 = .ok (.istore 6, 2) := by decide +kernel
theorem dX3_greatestFrom_44 : decode cX3_greatestFrom 44 = .ok (.iconst 0, 1) := by decide +kernel
theorem dX3_greatestFrom_45 : decode cX3_greatestFrom 45 = .ok (.istore 7, 2) := by decide +kernel
theorem dX3_greatestFrom_47 : decode cX3_greatestFrom 47 = .ok (.iload 7, 2) := by decide +kernel
theorem dX3_greatestFrom_49 : decode cX3_greatestFrom 49 = .ok (.iconst 4, 1) := by decide +kernel
theorem dX3_greatestFrom_50 : decode cX3_greatestFrom 50 = .ok (.if_icmp .ge 69, 3) := by decide +kernel
theorem dX3_greatestFrom_53 : decode cX3_greatestFrom 53 = .ok (.iload 6, 2) := by decide +kernel
theorem dX3_greatestFrom_55 : decode cX3_greatestFrom 55 = .ok (.iload 5, 2) := by decide +kernel
theorem dX3_greatestFrom_57 : decode cX3_greatestFrom 57 = .ok (.if_icmp .ge 62, 3) := by decide +kernel
theorem dX3_greatestFrom_60 : decode cX3_greatestFrom 60 = .ok (.aload 4, 2) := by decide +kernel
theorem dX3_greatestFrom_62 : decode cX3_greatestFrom 62 = .ok (.aload_n 3, 1) := by decide +kernel
theorem dX3_greatestFrom_63 : decode cX3_greatestFrom 63 = .ok (.iload 7, 2) := by decide +kernel
theorem dX3_greatestFrom_65 : decode cX3_greatestFrom 65 = .ok (.invokevirtual 124, 3) := by decide +kernel
theorem dX3_greatestFrom_68 : decode cX3_greatestFrom 68 = .ok (.ifCond .eq 45, 3) := by decide +kernel
theorem dX3_greatestFrom_71 : decode cX3_greatestFrom 71 = .ok (.aload 4, 2) := by decide +kernel
theorem dX3_greatestFrom_73 : decode cX3_greatestFrom 73 = .ok (.aload_n 3, 1) := by decide +kernel
theorem dX3_greatestFrom_74 : decode cX3_greatestFrom 74 = .ok (.iload 7, 2) := by decide +kernel
theorem dX3_greatestFrom_76 : decode cX3_greatestFrom 76 = .ok (.invokevirtual 128, 3) := by decide +kernel
theorem dX3_greatestFrom_79 : decode cX3_greatestFrom 79 = .ok (.aload 4, 2) := by decide +kernel
theorem dX3_greatestFrom_81 : decode cX3_greatestFrom 81 = .ok (.getfield 87, 3) := by decide +kernel
theorem dX3_greatestFrom_84 : decode cX3_greatestFrom 84 = .ok (.aload_n 0, 1) := by decide +kernel
theorem dX3_greatestFrom_85 : decode cX3_greatestFrom 85 = .ok (.iload_n 1, 1) := by decide +kernel
theorem dX3_greatestFrom_86 : decode cX3_greatestFrom 86 = .ok (.iload_n 2, 1) := by decide +kernel
theorem dX3_greatestFrom_87 : decode cX3_greatestFrom 87 = .ok (.iconst 1, 1) := by decide +kernel
theorem dX3_greatestFrom_88 : decode cX3_greatestFrom 88 = .ok (.iadd, 1) := by decide +kernel
theorem dX3_greatestFrom_89 : decode cX3_greatestFrom 89 = .ok (.aload_n 3, 1) := by decide +kernel
theorem dX3_greatestFrom_90 : decode cX3_greatestFrom 90 = .ok (.invokestatic 116, 3) := by decide +kernel
theorem dX3_greatestFrom_93 : decode cX3_greatestFrom 93 = .ok (.iadd, 1) := by decide +kernel
theorem dX3_greatestFrom_94 : decode cX3_greatestFrom 94 = .ok (.istore 8, 2) := by decide +kernel
theorem dX3_greatestFrom_96 : decode cX3_greatestFrom 96 = .ok (.iload 6, 2) := by decide +kernel
theorem dX3_greatestFrom_98 : decode cX3_greatestFrom 98 = .ok (.iload 8, 2) := by decide +kernel
theorem dX3_greatestFrom_100 : decode cX3_greatestFrom 100 = .ok (.invokestatic 132, 3) := by decide +kernel
theorem dX3_greatestFrom_103 : decode cX3_greatestFrom 103 = .ok (.istore 6, 2) := by decide +kernel
theorem dX3_greatestFrom_105 : decode cX3_greatestFrom 105 = .ok (.aload 4, 2) := by decide +kernel
theorem dX3_greatestFrom_107 : decode cX3_greatestFrom 107 = .ok (.aload_n 3, 1) := by decide +kernel
theorem dX3_greatestFrom_108 : decode cX3_greatestFrom 108 = .ok (.iload 7, 2) := by decide +kernel
theorem dX3_greatestFrom_110 : decode cX3_greatestFrom 110 = .ok (.invokevirtual 138, 3) := by decide +kernel
theorem dX3_greatestFrom_113 : decode cX3_greatestFrom 113 = .ok (.iinc 7 1, 3) := by decide +kernel
theorem dX3_greatestFrom_116 : decode cX3_greatestFrom 116 = .ok (.goto (-69), 3) := by decide +kernel
theorem dX3_greatestFrom_119 : decode cX3_greatestFrom 119 = .ok (.iload 6, 2) := by decide +kernel
theorem dX3_greatestFrom_121 : decode cX3_greatestFrom 121 = .ok (.iload 5, 2) := by decide +kernel
theorem dX3_greatestFrom_123 : decode cX3_greatestFrom 123 = .ok (.if_icmp .ge 19, 3) := by decide +kernel
theorem dX3_greatestFrom_126 : decode cX3_greatestFrom 126 = .ok (.iload 6, 2) := by decide +kernel
theorem dX3_greatestFrom_128 : decode cX3_greatestFrom 128 = .ok (.aload_n 0, 1) := by decide +kernel
theorem dX3_greatestFrom_129 : decode cX3_greatestFrom 129 = .ok (.iload_n 1, 1) := by decide +kernel
theorem dX3_greatestFrom_130 : decode cX3_greatestFrom 130 = .ok (.iload_n 2, 1) := by decide +kernel
theorem dX3_greatestFrom_131 : decode cX3_greatestFrom 131 = .ok (.iconst 1, 1) := by decide +kernel
theorem dX3_greatestFrom_132 : decode cX3_greatestFrom 132 = .ok (.iadd, 1) := by decide +kernel
theorem dX3_greatestFrom_133 : decode cX3_greatestFrom 133 = .ok (.aload_n 3, 1) := by decide +kernel
theorem dX3_greatestFrom_134 : decode cX3_greatestFrom 134 = .ok (.invokestatic 116, 3) := by decide +kernel
theorem dX3_greatestFrom_137 : decode cX3_greatestFrom 137 = .ok (.invokestatic 132, 3) := by decide +kernel
theorem dX3_greatestFrom_140 : decode cX3_greatestFrom 140 = .ok (.istore 6, 2) := by decide +kernel
theorem dX3_greatestFrom_142 : decode cX3_greatestFrom 142 = .ok (.iload 6, 2) := by decide +kernel
theorem dX3_greatestFrom_144 : decode cX3_greatestFrom 144 = .ok (.ireturn, 1) := by decide +kernel
theorem dX3_ranksFrom_0 : decode cX3_ranksFrom 0 = .ok (.iconst 0, 1) := by decide +kernel
theorem dX3_ranksFrom_1 : decode cX3_ranksFrom 1 = .ok (.istore_n 3, 1) := by decide +kernel
theorem dX3_ranksFrom_2 : decode cX3_ranksFrom 2 = .ok (.iload_n 2, 1) := by decide +kernel
theorem dX3_ranksFrom_3 : decode cX3_ranksFrom 3 = .ok (.iconst 0, 1) := by decide +kernel
theorem dX3_ranksFrom_4 : decode cX3_ranksFrom 4 = .ok (.invokestatic 132, 3) := by decide +kernel
theorem dX3_ranksFrom_7 : decode cX3_ranksFrom 7 = .ok (.istore 4, 2) := by decide +kernel
theorem dX3_ranksFrom_9 : decode cX3_ranksFrom 9 = .ok (.iload 4, 2) := by decide +kernel
theorem dX3_ranksFrom_11 : decode cX3_ranksFrom 11 = .ok (.iload_n 1, 1) := by decide +kernel
theorem dX3_ranksFrom_12 : decode cX3_ranksFrom 12 = .ok (.if_icmp .ge 35, 3) := by decide +kernel
theorem dX3_ranksFrom_15 : decode cX3_ranksFrom 15 = .ok (.iload 4, 2) := by decide +kernel
theorem dX3_ranksFrom_17 : decode cX3_ranksFrom 17 = .ok (.aload_n 0, 1) := by decide +kernel
theorem dX3_ranksFrom_18 : decode cX3_ranksFrom 18 = .ok (.arraylength, 1) := by decide +kernel
theorem dX3_ranksFrom_19 : decode cX3_ranksFrom 19 = .ok (.if_icmp .ge 28, 3) := by decide +kernel
theorem dX3_ranksFrom_22 : decode cX3_ranksFrom 22 = .ok (.aload_n 0, 1) := by decide +kernel
theorem dX3_ranksFrom_23 : decode cX3_ranksFrom 23 = .ok (.iload 4, 2) := by decide +kernel
theorem dX3_ranksFrom_25 : decode cX3_ranksFrom 25 = .ok (.aaload, 1) := by decide +kernel
theorem dX3_ranksFrom_26 : decode cX3_ranksFrom 26 = .ok (.astore 5, 2) := by decide +kernel
theorem dX3_ranksFrom_28 : decode cX3_ranksFrom 28 = .ok (.aload 5, 2) := by decide +kernel
theorem dX3_ranksFrom_30 : decode cX3_ranksFrom 30 = .ok (.ifnull 11, 3) := by decide +kernel
theorem dX3_ranksFrom_33 : decode cX3_ranksFrom 33 = .ok (.iload_n 3, 1) := by decide +kernel
theorem dX3_ranksFrom_34 : decode cX3_ranksFrom 34 = .ok (.aload 5, 2) := by decide +kernel
theorem dX3_ranksFrom_36 : decode cX3_ranksFrom 36 = .ok (.getfield 87, 3) := by decide +kernel
theorem dX3_ranksFrom_39 : decode cX3_ranksFrom 39 = .ok (.iadd, 1) := by decide +kernel
theorem dX3_ranksFrom_40 : decode cX3_ranksFrom 40 = .ok (.istore_n 3, 1) := by decide +kernel
theorem dX3_ranksFrom_41 : decode cX3_ranksFrom 41 = .ok (.iinc 4 1, 3) := by decide +kernel
theorem dX3_ranksFrom_44 : decode cX3_ranksFrom 44 = .ok (.goto (-35), 3) := by decide +kernel
theorem dX3_ranksFrom_47 : decode cX3_ranksFrom 47 = .ok (.iload_n 3, 1) := by decide +kernel
theorem dX3_ranksFrom_48 : decode cX3_ranksFrom 48 = .ok (.ireturn, 1) := by decide +kernel
theorem dX4_init_0 : decode cX4_init 0 = .ok (.aload_n 0, 1) := by decide +kernel
theorem dX4_init_1 : decode cX4_init 1 = .ok (.invokespecial 1, 3) := by decide +kernel
theorem dX4_init_4 : decode cX4_init 4 = .ok (.aload_n 0, 1) := by decide +kernel
theorem dX4_init_5 : decode cX4_init 5 = .ok (.iload_n 1, 1) := by decide +kernel
theorem dX4_init_6 : decode cX4_init 6 = .ok (.putfield 7, 3) := by decide +kernel
theorem dX4_init_9 : decode cX4_init 9 = .ok (.aload_n 0, 1) := by decide +kernel
theorem dX4_init_10 : decode cX4_init 10 = .ok (.aload_n 2, 1) := by decide +kernel
theorem dX4_init_11 : decode cX4_init 11 = .ok (.putfield 13, 3) := by decide +kernel
theorem dX4_init_14 : decode cX4_init 14 = .ok (.return_, 1) := by decide +kernel
theorem dX5_init_0 : decode cX5_init 0 = .ok (.aload_n 0, 1) := by decide +kernel
theorem dX5_init_1 : decode cX5_init 1 = .ok (.invokespecial 3, 3) := by decide +kernel
theorem dX5_init_4 : decode cX5_init 4 = .ok (.aload_n 0, 1) := by decide +kernel
theorem dX5_init_5 : decode cX5_init 5 = .ok (.aload_n 1, 1) := by decide +kernel
theorem dX5_init_6 : decode cX5_init 6 = .ok (.putfield 9, 3) := by decide +kernel
theorem dX5_init_9 : decode cX5_init 9 = .ok (.aload_n 0, 1) := by decide +kernel
theorem dX5_init_10 : decode cX5_init 10 = .ok (.aload_n 1, 1) := by decide +kernel
theorem dX5_init_11 : decode cX5_init 11 = .ok (.getfield 15, 3) := by decide +kernel
theorem dX5_init_14 : decode cX5_init 14 = .ok (.putfield 21, 3) := by decide +kernel
theorem dX5_init_17 : decode cX5_init 17 = .ok (.aload_n 0, 1) := by decide +kernel
theorem dX5_init_18 : decode cX5_init 18 = .ok (.iload_n 2, 1) := by decide +kernel
theorem dX5_init_19 : decode cX5_init 19 = .ok (.putfield 22, 3) := by decide +kernel
theorem dX5_init_22 : decode cX5_init 22 = .ok (.aload_n 0, 1) := by decide +kernel
theorem dX5_init_23 : decode cX5_init 23 = .ok (.iload_n 3, 1) := by decide +kernel
theorem dX5_init_24 : decode cX5_init 24 = .ok (.putfield 25, 3) := by decide +kernel
theorem dX5_init_27 : decode cX5_init 27 = .ok (.aload_n 0, 1) := by decide +kernel
theorem dX5_init_28 : decode cX5_init 28 = .ok (.aconst_null, 1) := by decide +kernel
theorem dX5_init_29 : decode cX5_init 29 = .ok (.putfield 28, 3) := by decide +kernel
theorem dX5_init_32 : decode cX5_init 32 = .ok (.aload_n 0, 1) := by decide +kernel
theorem dX5_init_33 : decode cX5_init 33 = .ok (.iconst (-1), 1) := by decide +kernel
theorem dX5_init_34 : decode cX5_init 34 = .ok (.putfield 32, 3) := by decide +kernel
theorem dX5_init_37 : decode cX5_init 37 = .ok (.aload_n 0, 1) := by decide +kernel
theorem dX5_init_38 : decode cX5_init 38 = .ok (.iconst (-1), 1) := by decide +kernel
theorem dX5_init_39 : decode cX5_init 39 = .ok (.putfield 35, 3) := by decide +kernel
theorem dX5_init_42 : decode cX5_init 42 = .ok (.return_, 1) := by decide +kernel
theorem dX5_takeUp_0 : decode cX5_takeUp 0 = .ok (.aload_n 0, 1) := by decide +kernel
theorem dX5_takeUp_1 : decode cX5_takeUp 1 = .ok (.aload_n 0, 1) := by decide +kernel
theorem dX5_takeUp_2 : decode cX5_takeUp 2 = .ok (.getfield 9, 3) := by decide +kernel
theorem dX5_takeUp_5 : decode cX5_takeUp 5 = .ok (.iload_n 1, 1) := by decide +kernel
theorem dX5_takeUp_6 : decode cX5_takeUp 6 = .ok (.invokevirtual 38, 3) := by decide +kernel
theorem dX5_takeUp_9 : decode cX5_takeUp 9 = .ok (.putfield 28, 3) := by decide +kernel
theorem dX5_takeUp_12 : decode cX5_takeUp 12 = .ok (.aload_n 0, 1) := by decide +kernel
theorem dX5_takeUp_13 : decode cX5_takeUp 13 = .ok (.aload_n 0, 1) := by decide +kernel
theorem dX5_takeUp_14 : decode cX5_takeUp 14 = .ok (.getfield 32, 3) := by decide +kernel
theorem dX5_takeUp_17 : decode cX5_takeUp 17 = .ok (.putfield 35, 3) := by decide +kernel
theorem dX5_takeUp_20 : decode cX5_takeUp 20 = .ok (.aload_n 0, 1) := by decide +kernel
theorem dX5_takeUp_21 : decode cX5_takeUp 21 = .ok (.iconst (-1), 1) := by decide +kernel
theorem dX5_takeUp_22 : decode cX5_takeUp 22 = .ok (.putfield 32, 3) := by decide +kernel
theorem dX5_takeUp_25 : decode cX5_takeUp 25 = .ok (.return_, 1) := by decide +kernel
theorem dX5_isOnSheet_0 : decode cX5_isOnSheet 0 = .ok (.aload_n 0, 1) := by decide +kernel
theorem dX5_isOnSheet_1 : decode cX5_isOnSheet 1 = .ok (.getfield 22, 3) := by decide +kernel
theorem dX5_isOnSheet_4 : decode cX5_isOnSheet 4 = .ok (.iconst (-1), 1) := by decide +kernel
theorem dX5_isOnSheet_5 : decode cX5_isOnSheet 5 = .ok (.if_icmp .eq 7, 3) := by decide +kernel
theorem dX5_isOnSheet_8 : decode cX5_isOnSheet 8 = .ok (.iconst 1, 1) := by decide +kernel
theorem dX5_isOnSheet_9 : decode cX5_isOnSheet 9 = .ok (.goto 4, 3) := by decide +kernel
theorem dX5_isOnSheet_12 : decode cX5_isOnSheet 12 = .ok (.iconst 0, 1) := by decide +kernel
theorem dX5_isOnSheet_13 : decode cX5_isOnSheet 13 = .ok (.ireturn, 1) := by decide +kernel
theorem dX5_isNamed_0 : decode cX5_isNamed 0 = .ok (.aload_n 0, 1) := by decide +kernel
theorem dX5_isNamed_1 : decode cX5_isNamed 1 = .ok (.invokevirtual 42, 3) := by decide +kernel
theorem dX5_isNamed_4 : decode cX5_isNamed 4 = .ok (.ifCond .eq 14, 3) := by decide +kernel
theorem dX5_isNamed_7 : decode cX5_isNamed 7 = .ok (.aload_n 0, 1) := by decide +kernel
theorem dX5_isNamed_8 : decode cX5_isNamed 8 = .ok (.getfield 28, 3) := by decide +kernel
theorem dX5_isNamed_11 : decode cX5_isNamed 11 = .ok (.ifnull 7, 3) := by decide +kernel
theorem dX5_isNamed_14 : decode cX5_isNamed 14 = .ok (.iconst 1, 1) := by decide +kernel
theorem dX5_isNamed_15 : decode cX5_isNamed 15 = .ok (.goto 4, 3) := by decide +kernel
theorem dX5_isNamed_18 : decode cX5_isNamed 18 = .ok (.iconst 0, 1) := by decide +kernel
theorem dX5_isNamed_19 : decode cX5_isNamed 19 = .ok (.ireturn, 1) := by decide +kernel
theorem dX5_isPushed_0 : decode cX5_isPushed 0 = .ok (.aload_n 0, 1) := by decide +kernel
theorem dX5_isPushed_1 : decode cX5_isPushed 1 = .ok (.getfield 32, 3) := by decide +kernel
theorem dX5_isPushed_4 : decode cX5_isPushed 4 = .ok (.aload_n 0, 1) := by decide +kernel
theorem dX5_isPushed_5 : decode cX5_isPushed 5 = .ok (.getfield 35, 3) := by decide +kernel
theorem dX5_isPushed_8 : decode cX5_isPushed 8 = .ok (.if_icmp .eq 7, 3) := by decide +kernel
theorem dX5_isPushed_11 : decode cX5_isPushed 11 = .ok (.iconst 1, 1) := by decide +kernel
theorem dX5_isPushed_12 : decode cX5_isPushed 12 = .ok (.goto 4, 3) := by decide +kernel
theorem dX5_isPushed_15 : decode cX5_isPushed 15 = .ok (.iconst 0, 1) := by decide +kernel
theorem dX5_isPushed_16 : decode cX5_isPushed 16 = .ok (.ireturn, 1) := by decide +kernel
theorem dX5_rowAt_0 : decode cX5_rowAt 0 = .ok (.iload_n 1, 1) := by decide +kernel
theorem dX5_rowAt_1 : decode cX5_rowAt 1 = .ok (.iconst 2, 1) := by decide +kernel
theorem dX5_rowAt_2 : decode cX5_rowAt 2 = .ok (.if_icmp .ne 10, 3) := by decide +kernel
theorem dX5_rowAt_5 : decode cX5_rowAt 5 = .ok (.aload_n 0, 1) := by decide +kernel
theorem dX5_rowAt_6 : decode cX5_rowAt 6 = .ok (.getfield 25, 3) := by decide +kernel
theorem dX5_rowAt_9 : decode cX5_rowAt 9 = .ok (.iconst 1, 1) := by decide +kernel
theorem dX5_rowAt_10 : decode cX5_rowAt 10 = .ok (.iadd, 1) := by decide +kernel
theorem dX5_rowAt_11 : decode cX5_rowAt 11 = .ok (.ireturn, 1) := by decide +kernel
theorem dX5_rowAt_12 : decode cX5_rowAt 12 = .ok (.iload_n 1, 1) := by decide +kernel
theorem dX5_rowAt_13 : decode cX5_rowAt 13 = .ok (.iconst 3, 1) := by decide +kernel
theorem dX5_rowAt_14 : decode cX5_rowAt 14 = .ok (.if_icmp .ne 12, 3) := by decide +kernel
theorem dX5_rowAt_17 : decode cX5_rowAt 17 = .ok (.aload_n 0, 1) := by decide +kernel
theorem dX5_rowAt_18 : decode cX5_rowAt 18 = .ok (.getfield 25, 3) := by decide +kernel
theorem dX5_rowAt_21 : decode cX5_rowAt 21 = .ok (.iconst 1, 1) := by decide +kernel
theorem dX5_rowAt_22 : decode cX5_rowAt 22 = .ok (.isub, 1) := by decide +kernel
theorem dX5_rowAt_23 : decode cX5_rowAt 23 = .ok (.goto 7, 3) := by decide +kernel
theorem dX5_rowAt_26 : decode cX5_rowAt 26 = .ok (.aload_n 0, 1) := by decide +kernel
theorem dX5_rowAt_27 : decode cX5_rowAt 27 = .ok (.getfield 25, 3) := by decide +kernel
theorem dX5_rowAt_30 : decode cX5_rowAt 30 = .ok (.ireturn, 1) := by decide +kernel
theorem dX5_firstColumnAt_0 : decode cX5_firstColumnAt 0 = .ok (.iload_n 1, 1) := by decide +kernel
theorem dX5_firstColumnAt_1 : decode cX5_firstColumnAt 1 = .ok (.ifCond .ne 10, 3) := by decide +kernel
theorem dX5_firstColumnAt_4 : decode cX5_firstColumnAt 4 = .ok (.aload_n 0, 1) := by decide +kernel
theorem dX5_firstColumnAt_5 : decode cX5_firstColumnAt 5 = .ok (.getfield 22, 3) := by decide +kernel
theorem dX5_firstColumnAt_8 : decode cX5_firstColumnAt 8 = .ok (.iconst 1, 1) := by decide +kernel
theorem dX5_firstColumnAt_9 : decode cX5_firstColumnAt 9 = .ok (.iadd, 1) := by decide +kernel
theorem dX5_firstColumnAt_10 : decode cX5_firstColumnAt 10 = .ok (.ireturn, 1) := by decide +kernel
theorem dX5_firstColumnAt_11 : decode cX5_firstColumnAt 11 = .ok (.iload_n 1, 1) := by decide +kernel
theorem dX5_firstColumnAt_12 : decode cX5_firstColumnAt 12 = .ok (.iconst 1, 1) := by decide +kernel
theorem dX5_firstColumnAt_13 : decode cX5_firstColumnAt 13 = .ok (.if_icmp .ne 12, 3) := by decide +kernel
theorem dX5_firstColumnAt_16 : decode cX5_firstColumnAt 16 = .ok (.aload_n 0, 1) := by decide +kernel
theorem dX5_firstColumnAt_17 : decode cX5_firstColumnAt 17 = .ok (.getfield 22, 3) := by decide +kernel
theorem dX5_firstColumnAt_20 : decode cX5_firstColumnAt 20 = .ok (.iload_n 2, 1) := by decide +kernel
theorem dX5_firstColumnAt_21 : decode cX5_firstColumnAt 21 = .ok (.isub, 1) := by decide +kernel
theorem dX5_firstColumnAt_22 : decode cX5_firstColumnAt 22 = .ok (.goto 11, 3) := by decide +kernel
theorem dX5_firstColumnAt_25 : decode cX5_firstColumnAt 25 = .ok (.aload_n 0, 1) := by decide +kernel
theorem dX5_firstColumnAt_26 : decode cX5_firstColumnAt 26 = .ok (.getfield 22, 3) := by decide +kernel
theorem dX5_firstColumnAt_29 : decode cX5_firstColumnAt 29 = .ok (.iload_n 2, 1) := by decide +kernel
theorem dX5_firstColumnAt_30 : decode cX5_firstColumnAt 30 = .ok (.iconst 2, 1) := by decide +kernel
theorem dX5_firstColumnAt_31 : decode cX5_firstColumnAt 31 = .ok (.idiv, 1) := by decide +kernel
theorem dX5_firstColumnAt_32 : decode cX5_firstColumnAt 32 = .ok (.isub, 1) := by decide +kernel
theorem dX5_firstColumnAt_33 : decode cX5_firstColumnAt 33 = .ok (.ireturn, 1) := by decide +kernel
theorem dX5_mayStand_0 : decode cX5_mayStand 0 = .ok (.aload_n 0, 1) := by decide +kernel
theorem dX5_mayStand_1 : decode cX5_mayStand 1 = .ok (.getfield 28, 3) := by decide +kernel
theorem dX5_mayStand_4 : decode cX5_mayStand 4 = .ok (.ifnonnull 5, 3) := by decide +kernel
theorem dX5_mayStand_7 : decode cX5_mayStand 7 = .ok (.iconst 0, 1) := by decide +kernel
theorem dX5_mayStand_8 : decode cX5_mayStand 8 = .ok (.ireturn, 1) := by decide +kernel
theorem dX5_mayStand_9 : decode cX5_mayStand 9 = .ok (.aload_n 0, 1) := by decide +kernel
theorem dX5_mayStand_10 : decode cX5_mayStand 10 = .ok (.getfield 28, 3) := by decide +kernel
theorem dX5_mayStand_13 : decode cX5_mayStand 13 = .ok (.invokevirtual 46, 3) := by decide +kernel
theorem dX5_mayStand_16 : decode cX5_mayStand 16 = .ok (.istore_n 3, 1) := by decide +kernel
theorem dX5_mayStand_17 : decode cX5_mayStand 17 = .ok (.aload_n 1, 1) := by decide +kernel
theorem dX5_mayStand_18 : decode cX5_mayStand 18 = .ok (.aload_n 0, 1) := by decide +kernel
theorem dX5_mayStand_19 : decode cX5_mayStand 19 = .ok (.iload_n 2, 1) := by decide +kernel
theorem dX5_mayStand_20 : decode cX5_mayStand 20 = .ok (.invokevirtual 52, 3) := by decide +kernel
theorem dX5_mayStand_23 : decode cX5_mayStand 23 = .ok (.aload_n 0, 1) := by decide +kernel
theorem dX5_mayStand_24 : decode cX5_mayStand 24 = .ok (.iload_n 2, 1) := by decide +kernel
theorem dX5_mayStand_25 : decode cX5_mayStand 25 = .ok (.iload_n 3, 1) := by decide +kernel
theorem dX5_mayStand_26 : decode cX5_mayStand 26 = .ok (.invokevirtual 56, 3) := by decide +kernel
theorem dX5_mayStand_29 : decode cX5_mayStand 29 = .ok (.iload_n 3, 1) := by decide +kernel
theorem dX5_mayStand_30 : decode cX5_mayStand 30 = .ok (.invokevirtual 60, 3) := by decide +kernel
theorem dX5_mayStand_33 : decode cX5_mayStand 33 = .ok (.ireturn, 1) := by decide +kernel
theorem dX5_write_0 : decode cX5_write 0 = .ok (.aload_n 0, 1) := by decide +kernel
theorem dX5_write_1 : decode cX5_write 1 = .ok (.getfield 28, 3) := by decide +kernel
theorem dX5_write_4 : decode cX5_write 4 = .ok (.ifnull 28, 3) := by decide +kernel
theorem dX5_write_7 : decode cX5_write 7 = .ok (.aload_n 1, 1) := by decide +kernel
theorem dX5_write_8 : decode cX5_write 8 = .ok (.aload_n 0, 1) := by decide +kernel
theorem dX5_write_9 : decode cX5_write 9 = .ok (.iload_n 2, 1) := by decide +kernel
theorem dX5_write_10 : decode cX5_write 10 = .ok (.invokevirtual 52, 3) := by decide +kernel
theorem dX5_write_13 : decode cX5_write 13 = .ok (.aload_n 0, 1) := by decide +kernel
theorem dX5_write_14 : decode cX5_write 14 = .ok (.iload_n 2, 1) := by decide +kernel
theorem dX5_write_15 : decode cX5_write 15 = .ok (.aload_n 0, 1) := by decide +kernel
theorem dX5_write_16 : decode cX5_write 16 = .ok (.getfield 28, 3) := by decide +kernel
theorem dX5_write_19 : decode cX5_write 19 = .ok (.invokevirtual 46, 3) := by decide +kernel
theorem dX5_write_22 : decode cX5_write 22 = .ok (.invokevirtual 56, 3) := by decide +kernel
theorem dX5_write_25 : decode cX5_write 25 = .ok (.aload_n 0, 1) := by decide +kernel
theorem dX5_write_26 : decode cX5_write 26 = .ok (.getfield 28, 3) := by decide +kernel
theorem dX5_write_29 : decode cX5_write 29 = .ok (.invokevirtual 66, 3) := by decide +kernel
theorem dX5_write_32 : decode cX5_write 32 = .ok (.return_, 1) := by decide +kernel
theorem dX5_erase_0 : decode cX5_erase 0 = .ok (.aload_n 0, 1) := by decide +kernel
theorem dX5_erase_1 : decode cX5_erase 1 = .ok (.getfield 28, 3) := by decide +kernel
theorem dX5_erase_4 : decode cX5_erase 4 = .ok (.ifnull 27, 3) := by decide +kernel
theorem dX5_erase_7 : decode cX5_erase 7 = .ok (.aload_n 0, 1) := by decide +kernel
theorem dX5_erase_8 : decode cX5_erase 8 = .ok (.getfield 28, 3) := by decide +kernel
theorem dX5_erase_11 : decode cX5_erase 11 = .ok (.invokevirtual 46, 3) := by decide +kernel
theorem dX5_erase_14 : decode cX5_erase 14 = .ok (.istore_n 3, 1) := by decide +kernel
theorem dX5_erase_15 : decode cX5_erase 15 = .ok (.aload_n 1, 1) := by decide +kernel
theorem dX5_erase_16 : decode cX5_erase 16 = .ok (.aload_n 0, 1) := by decide +kernel
theorem dX5_erase_17 : decode cX5_erase 17 = .ok (.iload_n 2, 1) := by decide +kernel
theorem dX5_erase_18 : decode cX5_erase 18 = .ok (.invokevirtual 52, 3) := by decide +kernel
theorem dX5_erase_21 : decode cX5_erase 21 = .ok (.aload_n 0, 1) := by decide +kernel
theorem dX5_erase_22 : decode cX5_erase 22 = .ok (.iload_n 2, 1) := by decide +kernel
theorem dX5_erase_23 : decode cX5_erase 23 = .ok (.iload_n 3, 1) := by decide +kernel
theorem dX5_erase_24 : decode cX5_erase 24 = .ok (.invokevirtual 56, 3) := by decide +kernel
theorem dX5_erase_27 : decode cX5_erase 27 = .ok (.iload_n 3, 1) := by decide +kernel
theorem dX5_erase_28 : decode cX5_erase 28 = .ok (.invokevirtual 70, 3) := by decide +kernel
theorem dX5_erase_31 : decode cX5_erase 31 = .ok (.return_, 1) := by decide +kernel
theorem dX5_standAtFirstFree_0 : decode cX5_standAtFirstFree 0 = .ok (.iconst 0, 1) := by decide +kernel
theorem dX5_standAtFirstFree_1 : decode cX5_standAtFirstFree 1 = .ok (.istore_n 2, 1) := by decide +kernel
theorem dX5_standAtFirstFree_2 : decode cX5_standAtFirstFree 2 = .ok (.iload_n 2, 1) := by decide +kernel
theorem dX5_standAtFirstFree_3 : decode cX5_standAtFirstFree 3 = .ok (.iconst 4, 1) := by decide +kernel
theorem dX5_standAtFirstFree_4 : decode cX5_standAtFirstFree 4 = .ok (.if_icmp .ge 37, 3) := by decide +kernel
theorem dX5_standAtFirstFree_7 : decode cX5_standAtFirstFree 7 = .ok (.aload_n 0, 1) := by decide +kernel
theorem dX5_standAtFirstFree_8 : decode cX5_standAtFirstFree 8 = .ok (.getfield 32, 3) := by decide +kernel
theorem dX5_standAtFirstFree_11 : decode cX5_standAtFirstFree 11 = .ok (.iconst (-1), 1) := by decide +kernel
theorem dX5_standAtFirstFree_12 : decode cX5_standAtFirstFree 12 = .ok (.if_icmp .ne 29, 3) := by decide +kernel
theorem dX5_standAtFirstFree_15 : decode cX5_standAtFirstFree 15 = .ok (.aload_n 0, 1) := by decide +kernel
theorem dX5_standAtFirstFree_16 : decode cX5_standAtFirstFree 16 = .ok (.aload_n 1, 1) := by decide +kernel
theorem dX5_standAtFirstFree_17 : decode cX5_standAtFirstFree 17 = .ok (.iload_n 2, 1) := by decide +kernel
theorem dX5_standAtFirstFree_18 : decode cX5_standAtFirstFree 18 = .ok (.invokevirtual 74, 3) := by decide +kernel
theorem dX5_standAtFirstFree_21 : decode cX5_standAtFirstFree 21 = .ok (.ifCond .eq 14, 3) := by decide +kernel
theorem dX5_standAtFirstFree_24 : decode cX5_standAtFirstFree 24 = .ok (.aload_n 0, 1) := by decide +kernel
theorem dX5_standAtFirstFree_25 : decode cX5_standAtFirstFree 25 = .ok (.aload_n 1, 1) := by decide +kernel
theorem dX5_standAtFirstFree_26 : decode cX5_standAtFirstFree 26 = .ok (.iload_n 2, 1) := by decide +kernel
theorem dX5_standAtFirstFree_27 : decode cX5_standAtFirstFree 27 = .ok (.invokevirtual 78, 3) := by decide +kernel
theorem dX5_standAtFirstFree_30 : decode cX5_standAtFirstFree 30 = .ok (.aload_n 0, 1) := by decide +kernel
theorem dX5_standAtFirstFree_31 : decode cX5_standAtFirstFree 31 = .ok (.iload_n 2, 1) := by decide +kernel
theorem dX5_standAtFirstFree_32 : decode cX5_standAtFirstFree 32 = .ok (.putfield 32, 3) := by decide +kernel
theorem dX5_standAtFirstFree_35 : decode cX5_standAtFirstFree 35 = .ok (.iinc 2 1, 3) := by decide +kernel
theorem dX5_standAtFirstFree_38 : decode cX5_standAtFirstFree 38 = .ok (.goto (-36), 3) := by decide +kernel
theorem dX5_standAtFirstFree_41 : decode cX5_standAtFirstFree 41 = .ok (.return_, 1) := by decide +kernel
theorem dX6_init_0 : decode cX6_init 0 = .ok (.aload_n 0, 1) := by decide +kernel
theorem dX6_init_1 : decode cX6_init 1 = .ok (.invokespecial 1, 3) := by decide +kernel
theorem dX6_init_4 : decode cX6_init 4 = .ok (.aload_n 0, 1) := by decide +kernel
theorem dX6_init_5 : decode cX6_init 5 = .ok (.new 7, 3) := by decide +kernel
theorem dX6_init_8 : decode cX6_init 8 = .ok (.dup, 1) := by decide +kernel
theorem dX6_init_9 : decode cX6_init 9 = .ok (.invokespecial 9, 3) := by decide +kernel
theorem dX6_init_12 : decode cX6_init 12 = .ok (.putfield 10, 3) := by decide +kernel
theorem dX6_init_15 : decode cX6_init 15 = .ok (.aload_n 0, 1) := by decide +kernel
theorem dX6_init_16 : decode cX6_init 16 = .ok (.bipush 14, 2) := by decide +kernel
theorem dX6_init_18 : decode cX6_init 18 = .ok (.anewarray 16, 3) := by decide +kernel
theorem dX6_init_21 : decode cX6_init 21 = .ok (.putfield 18, 3) := by decide +kernel
theorem dX6_init_24 : decode cX6_init 24 = .ok (.aload_n 0, 1) := by decide +kernel
theorem dX6_init_25 : decode cX6_init 25 = .ok (.iconst 4, 1) := by decide +kernel
theorem dX6_init_26 : decode cX6_init 26 = .ok (.anewarray 22, 3) := by decide +kernel
theorem dX6_init_29 : decode cX6_init 29 = .ok (.putfield 24, 3) := by decide +kernel
theorem dX6_init_32 : decode cX6_init 32 = .ok (.aload_n 0, 1) := by decide +kernel
theorem dX6_init_33 : decode cX6_init 33 = .ok (.iconst 5, 1) := by decide +kernel
theorem dX6_init_34 : decode cX6_init 34 = .ok (.anewarray 28, 3) := by decide +kernel
theorem dX6_init_37 : decode cX6_init 37 = .ok (.putfield 30, 3) := by decide +kernel
theorem dX6_init_40 : decode cX6_init 40 = .ok (.aload_n 0, 1) := by decide +kernel
theorem dX6_init_41 : decode cX6_init 41 = .ok (.iconst 0, 1) := by decide +kernel
theorem dX6_init_42 : decode cX6_init 42 = .ok (.putfield 34, 3) := by decide +kernel
theorem dX6_init_45 : decode cX6_init 45 = .ok (.aload_n 0, 1) := by decide +kernel
theorem dX6_init_46 : decode cX6_init 46 = .ok (.iconst 0, 1) := by decide +kernel
theorem dX6_init_47 : decode cX6_init 47 = .ok (.putfield 38, 3) := by decide +kernel
theorem dX6_init_50 : decode cX6_init 50 = .ok (.aload_n 0, 1) := by decide +kernel
theorem dX6_init_51 : decode cX6_init 51 = .ok (.iconst 0, 1) := by decide +kernel
theorem dX6_init_52 : decode cX6_init 52 = .ok (.putfield 41, 3) := by decide +kernel
theorem dX6_init_55 : decode cX6_init 55 = .ok (.aload_n 0, 1) := by decide +kernel
theorem dX6_init_56 : decode cX6_init 56 = .ok (.iconst 0, 1) := by decide +kernel
theorem dX6_init_57 : decode cX6_init 57 = .ok (.putfield 44, 3) := by decide +kernel
theorem dX6_init_60 : decode cX6_init 60 = .ok (.return_, 1) := by decide +kernel
theorem dX6_letter_0 : decode cX6_letter 0 = .ok (.iload_n 1, 1) := by decide +kernel
theorem dX6_letter_1 : decode cX6_letter 1 = .ok (.bipush 97, 2) := by decide +kernel
theorem dX6_letter_3 : decode cX6_letter 3 = .ok (.if_icmp .lt 9, 3) := by decide +kernel
theorem dX6_letter_6 : decode cX6_letter 6 = .ok (.iload_n 1, 1) := by decide +kernel
theorem dX6_letter_7 : decode cX6_letter 7 = .ok (.bipush 122, 2) := by decide +kernel
theorem dX6_letter_9 : decode cX6_letter 9 = .ok (.if_icmp .le 13, 3) := by decide +kernel
theorem dX6_letter_12 : decode cX6_letter 12 = .ok (.new 47, 3) := by decide +kernel
theorem dX6_letter_15 : decode cX6_letter 15 = .ok (.dup, 1) := by decide +kernel
theorem dX6_letter_16 : decode cX6_letter 16 = .ok (.ldc 49, 2) := by decide +kernel
theorem dX6_letter_18 : decode cX6_letter 18 = .ok (.invokespecial 51, 3) := by decide +kernel
theorem dX6_letter_21 : decode cX6_letter 21 = .ok (.athrow, 1) := by decide +kernel
theorem dX6_letter_22 : decode cX6_letter 22 = .ok (.aload_n 0, 1) := by decide +kernel
theorem dX6_letter_23 : decode cX6_letter 23 = .ok (.getfield 10, 3) := by decide +kernel
theorem dX6_letter_26 : decode cX6_letter 26 = .ok (.invokevirtual 54, 3) := by decide +kernel
theorem dX6_letter_29 : decode cX6_letter 29 = .ok (.bipush 8, 2) := by decide +kernel
theorem dX6_letter_31 : decode cX6_letter 31 = .ok (.if_icmp .lt 13, 3) := by decide +kernel
theorem dX6_letter_34 : decode cX6_letter 34 = .ok (.new 58, 3) := by decide +kernel
theorem dX6_letter_37 : decode cX6_letter 37 = .ok (.dup, 1) := by decide +kernel
theorem dX6_letter_38 : decode cX6_letter 38 = .ok (.ldc 60, 2) := by decide +kernel
theorem dX6_letter_40 : decode cX6_letter 40 = .ok (.invokespecial 62, 3) := by decide +kernel
theorem dX6_letter_43 : decode cX6_letter 43 = .ok (.athrow, 1) := by decide +kernel
theorem dX6_letter_44 : decode cX6_letter 44 = .ok (.aload_n 0, 1) := by decide +kernel
theorem dX6_letter_45 : decode cX6_letter 45 = .ok (.getfield 10, 3) := by decide +kernel
theorem dX6_letter_48 : decode cX6_letter 48 = .ok (.iload_n 1, 1) := by decide +kernel
theorem dX6_letter_49 : decode cX6_letter 49 = .ok (.invokevirtual 63, 3) := by decide +kernel
theorem dX6_letter_52 : decode cX6_letter 52 = .ok (.pop, 1) := by decide +kernel
theorem dX6_letter_53 : decode cX6_letter 53 = .ok (.aload_n 0, 1) := by decide +kernel
theorem dX6_letter_54 : decode cX6_letter 54 = .ok (.getfield 10, 3) := by decide +kernel
theorem dX6_letter_57 : decode cX6_letter 57 = .ok (.invokevirtual 54, 3) := by decide +kernel
theorem dX6_letter_60 : decode cX6_letter 60 = .ok (.ireturn, 1) := by decide +kernel
theorem dX6_place_0 : decode cX6_place 0 = .ok (.iload_n 1, 1) := by decide +kernel
theorem dX6_place_1 : decode cX6_place 1 = .ok (.sipush (-180), 3) := by decide +kernel
theorem dX6_place_4 : decode cX6_place 4 = .ok (.sipush 179, 3) := by decide +kernel
theorem dX6_place_7 : decode cX6_place 7 = .ok (.invokestatic 67, 3) := by decide +kernel
theorem dX6_place_10 : decode cX6_place 10 = .ok (.ifCond .eq 23, 3) := by decide +kernel
theorem dX6_place_13 : decode cX6_place 13 = .ok (.iload_n 2, 1) := by decide +kernel
theorem dX6_place_14 : decode cX6_place 14 = .ok (.bipush (-60), 2) := by decide +kernel
theorem dX6_place_16 : decode cX6_place 16 = .ok (.bipush 60, 2) := by decide +kernel
theorem dX6_place_18 : decode cX6_place 18 = .ok (.invokestatic 67, 3) := by decide +kernel
theorem dX6_place_21 : decode cX6_place 21 = .ok (.ifCond .eq 12, 3) := by decide +kernel
theorem dX6_place_24 : decode cX6_place 24 = .ok (.iload_n 3, 1) := by decide +kernel
theorem dX6_place_25 : decode cX6_place 25 = .ok (.iconst 1, 1) := by decide +kernel
theorem dX6_place_26 : decode cX6_place 26 = .ok (.iconst 5, 1) := by decide +kernel
theorem dX6_place_27 : decode cX6_place 27 = .ok (.invokestatic 67, 3) := by decide +kernel
theorem dX6_place_30 : decode cX6_place 30 = .ok (.ifCond .ne 13, 3) := by decide +kernel
theorem dX6_place_33 : decode cX6_place 33 = .ok (.new 47, 3) := by decide +kernel
theorem dX6_place_36 : decode cX6_place 36 = .ok (.dup, 1) := by decide +kernel
theorem dX6_place_37 : decode cX6_place 37 = .ok (.ldc 71, 2) := by decide +kernel
theorem dX6_place_39 : decode cX6_place 39 = .ok (.invokespecial 51, 3) := by decide +kernel
theorem dX6_place_42 : decode cX6_place 42 = .ok (.athrow, 1) := by decide +kernel
theorem dX6_place_43 : decode cX6_place 43 = .ok (.aload_n 0, 1) := by decide +kernel
theorem dX6_place_44 : decode cX6_place 44 = .ok (.getfield 34, 3) := by decide +kernel
theorem dX6_place_47 : decode cX6_place 47 = .ok (.aload_n 0, 1) := by decide +kernel
theorem dX6_place_48 : decode cX6_place 48 = .ok (.getfield 18, 3) := by decide +kernel
theorem dX6_place_51 : decode cX6_place 51 = .ok (.arraylength, 1) := by decide +kernel
theorem dX6_place_52 : decode cX6_place 52 = .ok (.if_icmp .lt 13, 3) := by decide +kernel
theorem dX6_place_55 : decode cX6_place 55 = .ok (.new 58, 3) := by decide +kernel
theorem dX6_place_58 : decode cX6_place 58 = .ok (.dup, 1) := by decide +kernel
theorem dX6_place_59 : decode cX6_place 59 = .ok (.ldc 73, 2) := by decide +kernel
theorem dX6_place_61 : decode cX6_place 61 = .ok (.invokespecial 62, 3) := by decide +kernel
theorem dX6_place_64 : decode cX6_place 64 = .ok (.athrow, 1) := by decide +kernel
theorem dX6_place_65 : decode cX6_place 65 = .ok (.new 16, 3) := by decide +kernel
theorem dX6_place_68 : decode cX6_place 68 = .ok (.dup, 1) := by decide +kernel
theorem dX6_place_69 : decode cX6_place 69 = .ok (.iload_n 1, 1) := by decide +kernel
theorem dX6_place_70 : decode cX6_place 70 = .ok (.iload_n 2, 1) := by decide +kernel
theorem dX6_place_71 : decode cX6_place 71 = .ok (.iload_n 3, 1) := by decide +kernel
theorem dX6_place_72 : decode cX6_place 72 = .ok (.invokespecial 75, 3) := by decide +kernel
theorem dX6_place_75 : decode cX6_place 75 = .ok (.astore 4, 2) := by decide +kernel
theorem dX6_place_77 : decode cX6_place 77 = .ok (.aload_n 0, 1) := by decide +kernel
theorem dX6_place_78 : decode cX6_place 78 = .ok (.getfield 18, 3) := by decide +kernel
theorem dX6_place_81 : decode cX6_place 81 = .ok (.aload_n 0, 1) := by decide +kernel
theorem dX6_place_82 : decode cX6_place 82 = .ok (.getfield 34, 3) := by decide +kernel
theorem dX6_place_85 : decode cX6_place 85 = .ok (.aload 4, 2) := by decide +kernel
theorem dX6_place_87 : decode cX6_place 87 = .ok (.aastore, 1) := by decide +kernel
theorem dX6_place_88 : decode cX6_place 88 = .ok (.aload_n 0, 1) := by decide +kernel
theorem dX6_place_89 : decode cX6_place 89 = .ok (.dup, 1) := by decide +kernel
theorem dX6_place_90 : decode cX6_place 90 = .ok (.getfield 34, 3) := by decide +kernel
theorem dX6_place_93 : decode cX6_place 93 = .ok (.iconst 1, 1) := by decide +kernel
theorem dX6_place_94 : decode cX6_place 94 = .ok (.iadd, 1) := by decide +kernel
theorem dX6_place_95 : decode cX6_place 95 = .ok (.putfield 34, 3) := by decide +kernel
theorem dX6_place_98 : decode cX6_place 98 = .ok (.aload_n 0, 1) := by decide +kernel
theorem dX6_place_99 : decode cX6_place 99 = .ok (.aload 4, 2) := by decide +kernel
theorem dX6_place_101 : decode cX6_place 101 = .ok (.invokevirtual 78, 3) := by decide +kernel
theorem dX6_place_104 : decode cX6_place 104 = .ok (.aload_n 0, 1) := by decide +kernel
theorem dX6_place_105 : decode cX6_place 105 = .ok (.getfield 34, 3) := by decide +kernel
theorem dX6_place_108 : decode cX6_place 108 = .ok (.iconst 1, 1) := by decide +kernel
theorem dX6_place_109 : decode cX6_place 109 = .ok (.isub, 1) := by decide +kernel
theorem dX6_place_110 : decode cX6_place 110 = .ok (.ireturn, 1) := by decide +kernel
theorem dX6_name_0 : decode cX6_name 0 = .ok (.aload_n 0, 1) := by decide +kernel
theorem dX6_name_1 : decode cX6_name 1 = .ok (.iload_n 1, 1) := by decide +kernel
theorem dX6_name_2 : decode cX6_name 2 = .ok (.invokevirtual 82, 3) := by decide +kernel
theorem dX6_name_5 : decode cX6_name 5 = .ok (.astore_n 2, 1) := by decide +kernel
theorem dX6_name_6 : decode cX6_name 6 = .ok (.aload_n 0, 1) := by decide +kernel
theorem dX6_name_7 : decode cX6_name 7 = .ok (.getfield 10, 3) := by decide +kernel
theorem dX6_name_10 : decode cX6_name 10 = .ok (.invokevirtual 54, 3) := by decide +kernel
theorem dX6_name_13 : decode cX6_name 13 = .ok (.ifCond .ne 13, 3) := by decide +kernel
theorem dX6_name_16 : decode cX6_name 16 = .ok (.new 58, 3) := by decide +kernel
theorem dX6_name_19 : decode cX6_name 19 = .ok (.dup, 1) := by decide +kernel
theorem dX6_name_20 : decode cX6_name 20 = .ok (.ldc 86, 2) := by decide +kernel
theorem dX6_name_22 : decode cX6_name 22 = .ok (.invokespecial 62, 3) := by decide +kernel
theorem dX6_name_25 : decode cX6_name 25 = .ok (.athrow, 1) := by decide +kernel
theorem dX6_name_26 : decode cX6_name 26 = .ok (.aload_n 2, 1) := by decide +kernel
theorem dX6_name_27 : decode cX6_name 27 = .ok (.invokevirtual 88, 3) := by decide +kernel
theorem dX6_name_30 : decode cX6_name 30 = .ok (.ifCond .eq 13, 3) := by decide +kernel
theorem dX6_name_33 : decode cX6_name 33 = .ok (.new 58, 3) := by decide +kernel
theorem dX6_name_36 : decode cX6_name 36 = .ok (.dup, 1) := by decide +kernel
theorem dX6_name_37 : decode cX6_name 37 = .ok (.ldc 92, 2) := by decide +kernel
theorem dX6_name_39 : decode cX6_name 39 = .ok (.invokespecial 62, 3) := by decide +kernel
theorem dX6_name_42 : decode cX6_name 42 = .ok (.athrow, 1) := by decide +kernel
theorem dX6_name_43 : decode cX6_name 43 = .ok (.aload_n 2, 1) := by decide +kernel
theorem dX6_name_44 : decode cX6_name 44 = .ok (.new 94, 3) := by decide +kernel
theorem dX6_name_47 : decode cX6_name 47 = .ok (.dup, 1) := by decide +kernel
theorem dX6_name_48 : decode cX6_name 48 = .ok (.aload_n 0, 1) := by decide +kernel
theorem dX6_name_49 : decode cX6_name 49 = .ok (.getfield 44, 3) := by decide +kernel
theorem dX6_name_52 : decode cX6_name 52 = .ok (.aload_n 0, 1) := by decide +kernel
theorem dX6_name_53 : decode cX6_name 53 = .ok (.getfield 10, 3) := by decide +kernel
theorem dX6_name_56 : decode cX6_name 56 = .ok (.invokevirtual 96, 3) := by decide +kernel
theorem dX6_name_59 : decode cX6_name 59 = .ok (.invokespecial 100, 3) := by decide +kernel
theorem dX6_name_62 : decode cX6_name 62 = .ok (.invokevirtual 103, 3) := by decide +kernel
theorem dX6_name_65 : decode cX6_name 65 = .ok (.aload_n 0, 1) := by decide +kernel
theorem dX6_name_66 : decode cX6_name 66 = .ok (.getfield 10, 3) := by decide +kernel
theorem dX6_name_69 : decode cX6_name 69 = .ok (.iconst 0, 1) := by decide +kernel
theorem dX6_name_70 : decode cX6_name 70 = .ok (.invokevirtual 107, 3) := by decide +kernel
theorem dX6_name_73 : decode cX6_name 73 = .ok (.aload_n 0, 1) := by decide +kernel
theorem dX6_name_74 : decode cX6_name 74 = .ok (.iload_n 1, 1) := by decide +kernel
theorem dX6_name_75 : decode cX6_name 75 = .ok (.invokevirtual 111, 3) := by decide +kernel
theorem dX6_name_78 : decode cX6_name 78 = .ok (.ireturn, 1) := by decide +kernel
theorem dX6_spelled_0 : decode cX6_spelled 0 = .ok (.aload_n 0, 1) := by decide +kernel
theorem dX6_spelled_1 : decode cX6_spelled 1 = .ok (.iload_n 1, 1) := by decide +kernel
theorem dX6_spelled_2 : decode cX6_spelled 2 = .ok (.invokevirtual 82, 3) := by decide +kernel
theorem dX6_spelled_5 : decode cX6_spelled 5 = .ok (.astore 4, 2) := by decide +kernel
theorem dX6_spelled_7 : decode cX6_spelled 7 = .ok (.iload_n 3, 1) := by decide +kernel
theorem dX6_spelled_8 : decode cX6_spelled 8 = .ok (.ifCond .ge 13, 3) := by decide +kernel
theorem dX6_spelled_11 : decode cX6_spelled 11 = .ok (.new 115, 3) := by decide +kernel
theorem dX6_spelled_14 : decode cX6_spelled 14 = .ok (.dup, 1) := by decide +kernel
theorem dX6_spelled_15 : decode cX6_spelled 15 = .ok (.ldc 117, 2) := by decide +kernel
theorem dX6_spelled_17 : decode cX6_spelled 17 = .ok (.invokespecial 119, 3) := by decide +kernel
theorem dX6_spelled_20 : decode cX6_spelled 20 = .ok (.athrow, 1) := by decide +kernel
theorem dX6_spelled_21 : decode cX6_spelled 21 = .ok (.iload_n 2, 1) := by decide +kernel
theorem dX6_spelled_22 : decode cX6_spelled 22 = .ok (.iconst 0, 1) := by decide +kernel
theorem dX6_spelled_23 : decode cX6_spelled 23 = .ok (.sipush 10000, 3) := by decide +kernel
theorem dX6_spelled_26 : decode cX6_spelled 26 = .ok (.invokestatic 67, 3) := by decide +kernel
theorem dX6_spelled_29 : decode cX6_spelled 29 = .ok (.ifCond .ne 13, 3) := by decide +kernel
theorem dX6_spelled_32 : decode cX6_spelled 32 = .ok (.new 47, 3) := by decide +kernel
theorem dX6_spelled_35 : decode cX6_spelled 35 = .ok (.dup, 1) := by decide +kernel
theorem dX6_spelled_36 : decode cX6_spelled 36 = .ok (.ldc 120, 2) := by decide +kernel
theorem dX6_spelled_38 : decode cX6_spelled 38 = .ok (.invokespecial 51, 3) := by decide +kernel
theorem dX6_spelled_41 : decode cX6_spelled 41 = .ok (.athrow, 1) := by decide +kernel
theorem dX6_spelled_42 : decode cX6_spelled 42 = .ok (.aload 4, 2) := by decide +kernel
theorem dX6_spelled_44 : decode cX6_spelled 44 = .ok (.iload_n 2, 1) := by decide +kernel
theorem dX6_spelled_45 : decode cX6_spelled 45 = .ok (.invokevirtual 122, 3) := by decide +kernel
theorem dX6_spelled_48 : decode cX6_spelled 48 = .ok (.astore 5, 2) := by decide +kernel
theorem dX6_spelled_50 : decode cX6_spelled 50 = .ok (.aload 5, 2) := by decide +kernel
theorem dX6_spelled_52 : decode cX6_spelled 52 = .ok (.ifnull 12, 3) := by decide +kernel
theorem dX6_spelled_55 : decode cX6_spelled 55 = .ok (.iload_n 3, 1) := by decide +kernel
theorem dX6_spelled_56 : decode cX6_spelled 56 = .ok (.aload 5, 2) := by decide +kernel
theorem dX6_spelled_58 : decode cX6_spelled 58 = .ok (.invokevirtual 126, 3) := by decide +kernel
theorem dX6_spelled_61 : decode cX6_spelled 61 = .ok (.if_icmp .lt 8, 3) := by decide +kernel
theorem dX6_spelled_64 : decode cX6_spelled 64 = .ok (.bipush 32, 2) := by decide +kernel
theorem dX6_spelled_66 : decode cX6_spelled 66 = .ok (.goto 9, 3) := by decide +kernel
theorem dX6_spelled_69 : decode cX6_spelled 69 = .ok (.aload 5, 2) := by decide +kernel
theorem dX6_spelled_71 : decode cX6_spelled 71 = .ok (.iload_n 3, 1) := by decide +kernel
theorem dX6_spelled_72 : decode cX6_spelled 72 = .ok (.invokevirtual 129, 3) := by decide +kernel
theorem dX6_spelled_75 : decode cX6_spelled 75 = .ok (.ireturn, 1) := by decide +kernel
theorem dX6_pass_0 : decode cX6_pass 0 = .ok (.iload_n 1, 1) := by decide +kernel
theorem dX6_pass_1 : decode cX6_pass 1 = .ok (.iconst 1, 1) := by decide +kernel
theorem dX6_pass_2 : decode cX6_pass 2 = .ok (.sipush 1000, 3) := by decide +kernel
theorem dX6_pass_5 : decode cX6_pass 5 = .ok (.invokestatic 67, 3) := by decide +kernel
theorem dX6_pass_8 : decode cX6_pass 8 = .ok (.ifCond .ne 13, 3) := by decide +kernel
theorem dX6_pass_11 : decode cX6_pass 11 = .ok (.new 47, 3) := by decide +kernel
theorem dX6_pass_14 : decode cX6_pass 14 = .ok (.dup, 1) := by decide +kernel
theorem dX6_pass_15 : decode cX6_pass 15 = .ok (.ldc 133, 2) := by decide +kernel
theorem dX6_pass_17 : decode cX6_pass 17 = .ok (.invokespecial 51, 3) := by decide +kernel
theorem dX6_pass_20 : decode cX6_pass 20 = .ok (.athrow, 1) := by decide +kernel
theorem dX6_pass_21 : decode cX6_pass 21 = .ok (.aload_n 0, 1) := by decide +kernel
theorem dX6_pass_22 : decode cX6_pass 22 = .ok (.getfield 44, 3) := by decide +kernel
theorem dX6_pass_25 : decode cX6_pass 25 = .ok (.iload_n 1, 1) := by decide +kernel
theorem dX6_pass_26 : decode cX6_pass 26 = .ok (.iadd, 1) := by decide +kernel
theorem dX6_pass_27 : decode cX6_pass 27 = .ok (.sipush 10000, 3) := by decide +kernel
theorem dX6_pass_30 : decode cX6_pass 30 = .ok (.if_icmp .le 13, 3) := by decide +kernel
theorem dX6_pass_33 : decode cX6_pass 33 = .ok (.new 58, 3) := by decide +kernel
theorem dX6_pass_36 : decode cX6_pass 36 = .ok (.dup, 1) := by decide +kernel
theorem dX6_pass_37 : decode cX6_pass 37 = .ok (.ldc 135, 2) := by decide +kernel
theorem dX6_pass_39 : decode cX6_pass 39 = .ok (.invokespecial 62, 3) := by decide +kernel
theorem dX6_pass_42 : decode cX6_pass 42 = .ok (.athrow, 1) := by decide +kernel
theorem dX6_pass_43 : decode cX6_pass 43 = .ok (.aload_n 0, 1) := by decide +kernel
theorem dX6_pass_44 : decode cX6_pass 44 = .ok (.dup, 1) := by decide +kernel
theorem dX6_pass_45 : decode cX6_pass 45 = .ok (.getfield 44, 3) := by decide +kernel
theorem dX6_pass_48 : decode cX6_pass 48 = .ok (.iload_n 1, 1) := by decide +kernel
theorem dX6_pass_49 : decode cX6_pass 49 = .ok (.iadd, 1) := by decide +kernel
theorem dX6_pass_50 : decode cX6_pass 50 = .ok (.putfield 44, 3) := by decide +kernel
theorem dX6_pass_53 : decode cX6_pass 53 = .ok (.aload_n 0, 1) := by decide +kernel
theorem dX6_pass_54 : decode cX6_pass 54 = .ok (.getfield 44, 3) := by decide +kernel
theorem dX6_pass_57 : decode cX6_pass 57 = .ok (.ireturn, 1) := by decide +kernel
theorem dX6_sheet_0 : decode cX6_sheet 0 = .ok (.iload_n 1, 1) := by decide +kernel
theorem dX6_sheet_1 : decode cX6_sheet 1 = .ok (.sipush (-180), 3) := by decide +kernel
theorem dX6_sheet_4 : decode cX6_sheet 4 = .ok (.sipush 150, 3) := by decide +kernel
theorem dX6_sheet_7 : decode cX6_sheet 7 = .ok (.invokestatic 67, 3) := by decide +kernel
theorem dX6_sheet_10 : decode cX6_sheet 10 = .ok (.ifCond .eq 23, 3) := by decide +kernel
theorem dX6_sheet_13 : decode cX6_sheet 13 = .ok (.iload_n 2, 1) := by decide +kernel
theorem dX6_sheet_14 : decode cX6_sheet 14 = .ok (.bipush (-60), 2) := by decide +kernel
theorem dX6_sheet_16 : decode cX6_sheet 16 = .ok (.bipush 41, 2) := by decide +kernel
theorem dX6_sheet_18 : decode cX6_sheet 18 = .ok (.invokestatic 67, 3) := by decide +kernel
theorem dX6_sheet_21 : decode cX6_sheet 21 = .ok (.ifCond .eq 12, 3) := by decide +kernel
theorem dX6_sheet_24 : decode cX6_sheet 24 = .ok (.iload_n 3, 1) := by decide +kernel
theorem dX6_sheet_25 : decode cX6_sheet 25 = .ok (.ifCond .eq 18, 3) := by decide +kernel
theorem dX6_sheet_28 : decode cX6_sheet 28 = .ok (.iload_n 3, 1) := by decide +kernel
theorem dX6_sheet_29 : decode cX6_sheet 29 = .ok (.iconst 1, 1) := by decide +kernel
theorem dX6_sheet_30 : decode cX6_sheet 30 = .ok (.if_icmp .eq 13, 3) := by decide +kernel
theorem dX6_sheet_33 : decode cX6_sheet 33 = .ok (.new 47, 3) := by decide +kernel
theorem dX6_sheet_36 : decode cX6_sheet 36 = .ok (.dup, 1) := by decide +kernel
theorem dX6_sheet_37 : decode cX6_sheet 37 = .ok (.ldc 137, 2) := by decide +kernel
theorem dX6_sheet_39 : decode cX6_sheet 39 = .ok (.invokespecial 51, 3) := by decide +kernel
theorem dX6_sheet_42 : decode cX6_sheet 42 = .ok (.athrow, 1) := by decide +kernel
theorem dX6_sheet_43 : decode cX6_sheet 43 = .ok (.aload_n 0, 1) := by decide +kernel
theorem dX6_sheet_44 : decode cX6_sheet 44 = .ok (.getfield 38, 3) := by decide +kernel
theorem dX6_sheet_47 : decode cX6_sheet 47 = .ok (.aload_n 0, 1) := by decide +kernel
theorem dX6_sheet_48 : decode cX6_sheet 48 = .ok (.getfield 24, 3) := by decide +kernel
theorem dX6_sheet_51 : decode cX6_sheet 51 = .ok (.arraylength, 1) := by decide +kernel
theorem dX6_sheet_52 : decode cX6_sheet 52 = .ok (.if_icmp .lt 13, 3) := by decide +kernel
theorem dX6_sheet_55 : decode cX6_sheet 55 = .ok (.new 58, 3) := by decide +kernel
theorem dX6_sheet_58 : decode cX6_sheet 58 = .ok (.dup, 1) := by decide +kernel
theorem dX6_sheet_59 : decode cX6_sheet 59 = .ok (.ldc 139, 2) := by decide +kernel
theorem dX6_sheet_61 : decode cX6_sheet 61 = .ok (.invokespecial 62, 3) := by decide +kernel
theorem dX6_sheet_64 : decode cX6_sheet 64 = .ok (.athrow, 1) := by decide +kernel
theorem dX6_sheet_65 : decode cX6_sheet 65 = .ok (.new 22, 3) := by decide +kernel
theorem dX6_sheet_68 : decode cX6_sheet 68 = .ok (.dup, 1) := by decide +kernel
theorem dX6_sheet_69 : decode cX6_sheet 69 = .ok (.iload_n 1, 1) := by decide +kernel
theorem dX6_sheet_70 : decode cX6_sheet 70 = .ok (.iload_n 2, 1) := by decide +kernel
theorem dX6_sheet_71 : decode cX6_sheet 71 = .ok (.iload_n 3, 1) := by decide +kernel
theorem dX6_sheet_72 : decode cX6_sheet 72 = .ok (.invokespecial 141, 3) := by decide +kernel
theorem dX6_sheet_75 : decode cX6_sheet 75 = .ok (.astore 4, 2) := by decide +kernel
theorem dX6_sheet_77 : decode cX6_sheet 77 = .ok (.iconst 0, 1) := by decide +kernel
theorem dX6_sheet_78 : decode cX6_sheet 78 = .ok (.istore 5, 2) := by decide +kernel
theorem dX6_sheet_80 : decode cX6_sheet 80 = .ok (.iload 5, 2) := by decide +kernel
theorem dX6_sheet_82 : decode cX6_sheet 82 = .ok (.aload_n 0, 1) := by decide +kernel
theorem dX6_sheet_83 : decode cX6_sheet 83 = .ok (.getfield 34, 3) := by decide +kernel
theorem dX6_sheet_86 : decode cX6_sheet 86 = .ok (.if_icmp .ge 31, 3) := by decide +kernel
theorem dX6_sheet_89 : decode cX6_sheet 89 = .ok (.iload 5, 2) := by decide +kernel
theorem dX6_sheet_91 : decode cX6_sheet 91 = .ok (.aload_n 0, 1) := by decide +kernel
theorem dX6_sheet_92 : decode cX6_sheet 92 = .ok (.getfield 18, 3) := by decide +kernel
theorem dX6_sheet_95 : decode cX6_sheet 95 = .ok (.arraylength, 1) := by decide +kernel
theorem dX6_sheet_96 : decode cX6_sheet 96 = .ok (.if_icmp .ge 21, 3) := by decide +kernel
theorem dX6_sheet_99 : decode cX6_sheet 99 = .ok (.aload 4, 2) := by decide +kernel
theorem dX6_sheet_101 : decode cX6_sheet 101 = .ok (.aload_n 0, 1) := by decide +kernel
theorem dX6_sheet_102 : decode cX6_sheet 102 = .ok (.getfield 18, 3) := by decide +kernel
theorem dX6_sheet_105 : decode cX6_sheet 105 = .ok (.iload 5, 2) := by decide +kernel
theorem dX6_sheet_107 : decode cX6_sheet 107 = .ok (.aaload, 1) := by decide +kernel
theorem dX6_sheet_108 : decode cX6_sheet 108 = .ok (.invokevirtual 142, 3) := by decide +kernel
theorem dX6_sheet_111 : decode cX6_sheet 111 = .ok (.iinc 5 1, 3) := by decide +kernel
theorem dX6_sheet_114 : decode cX6_sheet 114 = .ok (.goto (-34), 3) := by decide +kernel
theorem dX6_sheet_117 : decode cX6_sheet 117 = .ok (.aload 4, 2) := by decide +kernel
theorem dX6_sheet_119 : decode cX6_sheet 119 = .ok (.aload_n 0, 1) := by decide +kernel
theorem dX6_sheet_120 : decode cX6_sheet 120 = .ok (.getfield 44, 3) := by decide +kernel
theorem dX6_sheet_123 : decode cX6_sheet 123 = .ok (.invokevirtual 145, 3) := by decide +kernel
theorem dX6_sheet_126 : decode cX6_sheet 126 = .ok (.aload_n 0, 1) := by decide +kernel
theorem dX6_sheet_127 : decode cX6_sheet 127 = .ok (.getfield 24, 3) := by decide +kernel
theorem dX6_sheet_130 : decode cX6_sheet 130 = .ok (.aload_n 0, 1) := by decide +kernel
theorem dX6_sheet_131 : decode cX6_sheet 131 = .ok (.getfield 38, 3) := by decide +kernel
theorem dX6_sheet_134 : decode cX6_sheet 134 = .ok (.aload 4, 2) := by decide +kernel
theorem dX6_sheet_136 : decode cX6_sheet 136 = .ok (.aastore, 1) := by decide +kernel
theorem dX6_sheet_137 : decode cX6_sheet 137 = .ok (.aload_n 0, 1) := by decide +kernel
theorem dX6_sheet_138 : decode cX6_sheet 138 = .ok (.dup, 1) := by decide +kernel
theorem dX6_sheet_139 : decode cX6_sheet 139 = .ok (.getfield 38, 3) := by decide +kernel
theorem dX6_sheet_142 : decode cX6_sheet 142 = .ok (.iconst 1, 1) := by decide +kernel
theorem dX6_sheet_143 : decode cX6_sheet 143 = .ok (.iadd, 1) := by decide +kernel
theorem dX6_sheet_144 : decode cX6_sheet 144 = .ok (.putfield 38, 3) := by decide +kernel
theorem dX6_sheet_147 : decode cX6_sheet 147 = .ok (.aload_n 0, 1) := by decide +kernel
theorem dX6_sheet_148 : decode cX6_sheet 148 = .ok (.getfield 38, 3) := by decide +kernel
theorem dX6_sheet_151 : decode cX6_sheet 151 = .ok (.iconst 1, 1) := by decide +kernel
theorem dX6_sheet_152 : decode cX6_sheet 152 = .ok (.isub, 1) := by decide +kernel
theorem dX6_sheet_153 : decode cX6_sheet 153 = .ok (.ireturn, 1) := by decide +kernel
theorem dX6_dot_0 : decode cX6_dot 0 = .ok (.aload_n 0, 1) := by decide +kernel
theorem dX6_dot_1 : decode cX6_dot 1 = .ok (.iload_n 1, 1) := by decide +kernel
theorem dX6_dot_2 : decode cX6_dot 2 = .ok (.iload_n 2, 1) := by decide +kernel
theorem dX6_dot_3 : decode cX6_dot 3 = .ok (.invokevirtual 148, 3) := by decide +kernel
theorem dX6_dot_6 : decode cX6_dot 6 = .ok (.astore 4, 2) := by decide +kernel
theorem dX6_dot_8 : decode cX6_dot 8 = .ok (.iload_n 3, 1) := by decide +kernel
theorem dX6_dot_9 : decode cX6_dot 9 = .ok (.ifCond .eq 11, 3) := by decide +kernel
theorem dX6_dot_12 : decode cX6_dot 12 = .ok (.aload 4, 2) := by decide +kernel
theorem dX6_dot_14 : decode cX6_dot 14 = .ok (.getfield 152, 3) := by decide +kernel
theorem dX6_dot_17 : decode cX6_dot 17 = .ok (.goto 8, 3) := by decide +kernel
theorem dX6_dot_20 : decode cX6_dot 20 = .ok (.aload 4, 2) := by decide +kernel
theorem dX6_dot_22 : decode cX6_dot 22 = .ok (.getfield 157, 3) := by decide +kernel
theorem dX6_dot_25 : decode cX6_dot 25 = .ok (.ireturn, 1) := by decide +kernel
theorem dX6_side_0 : decode cX6_side 0 = .ok (.aload_n 0, 1) := by decide +kernel
theorem dX6_side_1 : decode cX6_side 1 = .ok (.iload_n 1, 1) := by decide +kernel
theorem dX6_side_2 : decode cX6_side 2 = .ok (.iload_n 2, 1) := by decide +kernel
theorem dX6_side_3 : decode cX6_side 3 = .ok (.invokevirtual 148, 3) := by decide +kernel
theorem dX6_side_6 : decode cX6_side 6 = .ok (.getfield 160, 3) := by decide +kernel
theorem dX6_side_9 : decode cX6_side 9 = .ok (.ireturn, 1) := by decide +kernel
theorem dX6_drawn_0 : decode cX6_drawn 0 = .ok (.aload_n 0, 1) := by decide +kernel
theorem dX6_drawn_1 : decode cX6_drawn 1 = .ok (.iload_n 1, 1) := by decide +kernel
theorem dX6_drawn_2 : decode cX6_drawn 2 = .ok (.invokevirtual 163, 3) := by decide +kernel
theorem dX6_drawn_5 : decode cX6_drawn 5 = .ok (.astore 4, 2) := by decide +kernel
theorem dX6_drawn_7 : decode cX6_drawn 7 = .ok (.iload_n 2, 1) := by decide +kernel
theorem dX6_drawn_8 : decode cX6_drawn 8 = .ok (.iload_n 3, 1) := by decide +kernel
theorem dX6_drawn_9 : decode cX6_drawn 9 = .ok (.invokestatic 167, 3) := by decide +kernel
theorem dX6_drawn_12 : decode cX6_drawn 12 = .ok (.ifCond .ne 13, 3) := by decide +kernel
theorem dX6_drawn_15 : decode cX6_drawn 15 = .ok (.new 115, 3) := by decide +kernel
theorem dX6_drawn_18 : decode cX6_drawn 18 = .ok (.dup, 1) := by decide +kernel
theorem dX6_drawn_19 : decode cX6_drawn 19 = .ok (.ldc 171, 2) := by decide +kernel
theorem dX6_drawn_21 : decode cX6_drawn 21 = .ok (.invokespecial 119, 3) := by decide +kernel
theorem dX6_drawn_24 : decode cX6_drawn 24 = .ok (.athrow, 1) := by decide +kernel
theorem dX6_drawn_25 : decode cX6_drawn 25 = .ok (.aload 4, 2) := by decide +kernel
theorem dX6_drawn_27 : decode cX6_drawn 27 = .ok (.getfield 173, 3) := by decide +kernel
theorem dX6_drawn_30 : decode cX6_drawn 30 = .ok (.iload_n 2, 1) := by decide +kernel
theorem dX6_drawn_31 : decode cX6_drawn 31 = .ok (.iload_n 3, 1) := by decide +kernel
theorem dX6_drawn_32 : decode cX6_drawn 32 = .ok (.invokevirtual 177, 3) := by decide +kernel
theorem dX6_drawn_35 : decode cX6_drawn 35 = .ok (.ireturn, 1) := by decide +kernel
theorem dX6_worth_0 : decode cX6_worth 0 = .ok (.aload_n 0, 1) := by decide +kernel
theorem dX6_worth_1 : decode cX6_worth 1 = .ok (.iload_n 1, 1) := by decide +kernel
theorem dX6_worth_2 : decode cX6_worth 2 = .ok (.invokevirtual 163, 3) := by decide +kernel
theorem dX6_worth_5 : decode cX6_worth 5 = .ok (.invokevirtual 183, 3) := by decide +kernel
theorem dX6_worth_8 : decode cX6_worth 8 = .ok (.ireturn, 1) := by decide +kernel
theorem dX6_best_0 : decode cX6_best 0 = .ok (.aload_n 0, 1) := by decide +kernel
theorem dX6_best_1 : decode cX6_best 1 = .ok (.iload_n 1, 1) := by decide +kernel
theorem dX6_best_2 : decode cX6_best 2 = .ok (.invokevirtual 163, 3) := by decide +kernel
theorem dX6_best_5 : decode cX6_best 5 = .ok (.astore_n 2, 1) := by decide +kernel
theorem dX6_best_6 : decode cX6_best 6 = .ok (.aload_n 2, 1) := by decide +kernel
theorem dX6_best_7 : decode cX6_best 7 = .ok (.getfield 186, 3) := by decide +kernel
theorem dX6_best_10 : decode cX6_best 10 = .ok (.iconst 4, 1) := by decide +kernel
theorem dX6_best_11 : decode cX6_best 11 = .ok (.if_icmp .le 13, 3) := by decide +kernel
theorem dX6_best_14 : decode cX6_best 14 = .ok (.new 58, 3) := by decide +kernel
theorem dX6_best_17 : decode cX6_best 17 = .ok (.dup, 1) := by decide +kernel
theorem dX6_best_18 : decode cX6_best 18 = .ok (.ldc 189, 2) := by decide +kernel
theorem dX6_best_20 : decode cX6_best 20 = .ok (.invokespecial 62, 3) := by decide +kernel
theorem dX6_best_23 : decode cX6_best 23 = .ok (.athrow, 1) := by decide +kernel
theorem dX6_best_24 : decode cX6_best 24 = .ok (.aload_n 2, 1) := by decide +kernel
theorem dX6_best_25 : decode cX6_best 25 = .ok (.invokevirtual 191, 3) := by decide +kernel
theorem dX6_best_28 : decode cX6_best 28 = .ok (.ireturn, 1) := by decide +kernel
theorem dX6_print_0 : decode cX6_print 0 = .ok (.aload_n 0, 1) := by decide +kernel
theorem dX6_print_1 : decode cX6_print 1 = .ok (.getfield 41, 3) := by decide +kernel
theorem dX6_print_4 : decode cX6_print 4 = .ok (.aload_n 0, 1) := by decide +kernel
theorem dX6_print_5 : decode cX6_print 5 = .ok (.getfield 30, 3) := by decide +kernel
theorem dX6_print_8 : decode cX6_print 8 = .ok (.arraylength, 1) := by decide +kernel
theorem dX6_print_9 : decode cX6_print 9 = .ok (.if_icmp .lt 13, 3) := by decide +kernel
theorem dX6_print_12 : decode cX6_print 12 = .ok (.new 58, 3) := by decide +kernel
theorem dX6_print_15 : decode cX6_print 15 = .ok (.dup, 1) := by decide +kernel
theorem dX6_print_16 : decode cX6_print 16 = .ok (.ldc 194, 2) := by decide +kernel
theorem dX6_print_18 : decode cX6_print 18 = .ok (.invokespecial 62, 3) := by decide +kernel
theorem dX6_print_21 : decode cX6_print 21 = .ok (.athrow, 1) := by decide +kernel
theorem dX6_print_22 : decode cX6_print 22 = .ok (.new 28, 3) := by decide +kernel
theorem dX6_print_25 : decode cX6_print 25 = .ok (.dup, 1) := by decide +kernel
theorem dX6_print_26 : decode cX6_print 26 = .ok (.invokespecial 196, 3) := by decide +kernel
theorem dX6_print_29 : decode cX6_print 29 = .ok (.astore_n 1, 1) := by decide +kernel
theorem dX6_print_30 : decode cX6_print 30 = .ok (.iconst 0, 1) := by decide +kernel
theorem dX6_print_31 : decode cX6_print 31 = .ok (.istore_n 2, 1) := by decide +kernel
theorem dX6_print_32 : decode cX6_print 32 = .ok (.iload_n 2, 1) := by decide +kernel
theorem dX6_print_33 : decode cX6_print 33 = .ok (.aload_n 0, 1) := by decide +kernel
theorem dX6_print_34 : decode cX6_print 34 = .ok (.getfield 38, 3) := by decide +kernel
theorem dX6_print_37 : decode cX6_print 37 = .ok (.if_icmp .ge 38, 3) := by decide +kernel
theorem dX6_print_40 : decode cX6_print 40 = .ok (.iload_n 2, 1) := by decide +kernel
theorem dX6_print_41 : decode cX6_print 41 = .ok (.aload_n 0, 1) := by decide +kernel
theorem dX6_print_42 : decode cX6_print 42 = .ok (.getfield 24, 3) := by decide +kernel
theorem dX6_print_45 : decode cX6_print 45 = .ok (.arraylength, 1) := by decide +kernel
theorem dX6_print_46 : decode cX6_print 46 = .ok (.if_icmp .ge 29, 3) := by decide +kernel
theorem dX6_print_49 : decode cX6_print 49 = .ok (.aload_n 0, 1) := by decide +kernel
theorem dX6_print_50 : decode cX6_print 50 = .ok (.getfield 24, 3) := by decide +kernel
theorem dX6_print_53 : decode cX6_print 53 = .ok (.iload_n 2, 1) := by decide +kernel
theorem dX6_print_54 : decode cX6_print 54 = .ok (.aaload, 1) := by decide +kernel
theorem dX6_print_55 : decode cX6_print 55 = .ok (.astore_n 3, 1) := by decide +kernel
theorem dX6_print_56 : decode cX6_print 56 = .ok (.aload_n 3, 1) := by decide +kernel
theorem dX6_print_57 : decode cX6_print 57 = .ok (.ifnull 12, 3) := by decide +kernel
theorem dX6_print_60 : decode cX6_print 60 = .ok (.aload_n 1, 1) := by decide +kernel
theorem dX6_print_61 : decode cX6_print 61 = .ok (.iload_n 2, 1) := by decide +kernel
theorem dX6_print_62 : decode cX6_print 62 = .ok (.aload_n 3, 1) := by decide +kernel
theorem dX6_print_63 : decode cX6_print 63 = .ok (.getfield 173, 3) := by decide +kernel
theorem dX6_print_66 : decode cX6_print 66 = .ok (.invokevirtual 197, 3) := by decide +kernel
theorem dX6_print_69 : decode cX6_print 69 = .ok (.iinc 2 1, 3) := by decide +kernel
theorem dX6_print_72 : decode cX6_print 72 = .ok (.goto (-40), 3) := by decide +kernel
theorem dX6_print_75 : decode cX6_print 75 = .ok (.aload_n 0, 1) := by decide +kernel
theorem dX6_print_76 : decode cX6_print 76 = .ok (.getfield 30, 3) := by decide +kernel
theorem dX6_print_79 : decode cX6_print 79 = .ok (.aload_n 0, 1) := by decide +kernel
theorem dX6_print_80 : decode cX6_print 80 = .ok (.getfield 41, 3) := by decide +kernel
theorem dX6_print_83 : decode cX6_print 83 = .ok (.aload_n 1, 1) := by decide +kernel
theorem dX6_print_84 : decode cX6_print 84 = .ok (.aastore, 1) := by decide +kernel
theorem dX6_print_85 : decode cX6_print 85 = .ok (.aload_n 0, 1) := by decide +kernel
theorem dX6_print_86 : decode cX6_print 86 = .ok (.dup, 1) := by decide +kernel
theorem dX6_print_87 : decode cX6_print 87 = .ok (.getfield 41, 3) := by decide +kernel
theorem dX6_print_90 : decode cX6_print 90 = .ok (.iconst 1, 1) := by decide +kernel
theorem dX6_print_91 : decode cX6_print 91 = .ok (.iadd, 1) := by decide +kernel
theorem dX6_print_92 : decode cX6_print 92 = .ok (.putfield 41, 3) := by decide +kernel
theorem dX6_print_95 : decode cX6_print 95 = .ok (.aload_n 0, 1) := by decide +kernel
theorem dX6_print_96 : decode cX6_print 96 = .ok (.getfield 41, 3) := by decide +kernel
theorem dX6_print_99 : decode cX6_print 99 = .ok (.iconst 1, 1) := by decide +kernel
theorem dX6_print_100 : decode cX6_print 100 = .ok (.isub, 1) := by decide +kernel
theorem dX6_print_101 : decode cX6_print 101 = .ok (.ireturn, 1) := by decide +kernel
theorem dX6_printed_0 : decode cX6_printed 0 = .ok (.aload_n 0, 1) := by decide +kernel
theorem dX6_printed_1 : decode cX6_printed 1 = .ok (.iload_n 1, 1) := by decide +kernel
theorem dX6_printed_2 : decode cX6_printed 2 = .ok (.invokevirtual 201, 3) := by decide +kernel
theorem dX6_printed_5 : decode cX6_printed 5 = .ok (.astore 5, 2) := by decide +kernel
theorem dX6_printed_7 : decode cX6_printed 7 = .ok (.iload_n 2, 1) := by decide +kernel
theorem dX6_printed_8 : decode cX6_printed 8 = .ok (.iconst 0, 1) := by decide +kernel
theorem dX6_printed_9 : decode cX6_printed 9 = .ok (.aload_n 0, 1) := by decide +kernel
theorem dX6_printed_10 : decode cX6_printed 10 = .ok (.getfield 38, 3) := by decide +kernel
theorem dX6_printed_13 : decode cX6_printed 13 = .ok (.iconst 1, 1) := by decide +kernel
theorem dX6_printed_14 : decode cX6_printed 14 = .ok (.isub, 1) := by decide +kernel
theorem dX6_printed_15 : decode cX6_printed 15 = .ok (.invokestatic 67, 3) := by decide +kernel
theorem dX6_printed_18 : decode cX6_printed 18 = .ok (.ifCond .eq 12, 3) := by decide +kernel
theorem dX6_printed_21 : decode cX6_printed 21 = .ok (.iload_n 3, 1) := by decide +kernel
theorem dX6_printed_22 : decode cX6_printed 22 = .ok (.iload 4, 2) := by decide +kernel
theorem dX6_printed_24 : decode cX6_printed 24 = .ok (.invokestatic 167, 3) := by decide +kernel
theorem dX6_printed_27 : decode cX6_printed 27 = .ok (.ifCond .ne 13, 3) := by decide +kernel
theorem dX6_printed_30 : decode cX6_printed 30 = .ok (.new 115, 3) := by decide +kernel
theorem dX6_printed_33 : decode cX6_printed 33 = .ok (.dup, 1) := by decide +kernel
theorem dX6_printed_34 : decode cX6_printed 34 = .ok (.ldc 205, 2) := by decide +kernel
theorem dX6_printed_36 : decode cX6_printed 36 = .ok (.invokespecial 119, 3) := by decide +kernel
theorem dX6_printed_39 : decode cX6_printed 39 = .ok (.athrow, 1) := by decide +kernel
theorem dX6_printed_40 : decode cX6_printed 40 = .ok (.aload 5, 2) := by decide +kernel
theorem dX6_printed_42 : decode cX6_printed 42 = .ok (.iload_n 2, 1) := by decide +kernel
theorem dX6_printed_43 : decode cX6_printed 43 = .ok (.iload_n 3, 1) := by decide +kernel
theorem dX6_printed_44 : decode cX6_printed 44 = .ok (.iload 4, 2) := by decide +kernel
theorem dX6_printed_46 : decode cX6_printed 46 = .ok (.invokevirtual 207, 3) := by decide +kernel
theorem dX6_printed_49 : decode cX6_printed 49 = .ok (.ireturn, 1) := by decide +kernel
theorem dX6_isWithin_0 : decode cX6_isWithin 0 = .ok (.iload_n 0, 1) := by decide +kernel
theorem dX6_isWithin_1 : decode cX6_isWithin 1 = .ok (.iload_n 1, 1) := by decide +kernel
theorem dX6_isWithin_2 : decode cX6_isWithin 2 = .ok (.if_icmp .lt 12, 3) := by decide +kernel
theorem dX6_isWithin_5 : decode cX6_isWithin 5 = .ok (.iload_n 0, 1) := by decide +kernel
theorem dX6_isWithin_6 : decode cX6_isWithin 6 = .ok (.iload_n 2, 1) := by decide +kernel
theorem dX6_isWithin_7 : decode cX6_isWithin 7 = .ok (.if_icmp .gt 7, 3) := by decide +kernel
theorem dX6_isWithin_10 : decode cX6_isWithin 10 = .ok (.iconst 1, 1) := by decide +kernel
theorem dX6_isWithin_11 : decode cX6_isWithin 11 = .ok (.goto 4, 3) := by decide +kernel
theorem dX6_isWithin_14 : decode cX6_isWithin 14 = .ok (.iconst 0, 1) := by decide +kernel
theorem dX6_isWithin_15 : decode cX6_isWithin 15 = .ok (.ireturn, 1) := by decide +kernel
theorem dX6_isOnGrid_0 : decode cX6_isOnGrid 0 = .ok (.iload_n 0, 1) := by decide +kernel
theorem dX6_isOnGrid_1 : decode cX6_isOnGrid 1 = .ok (.ifCond .lt 23, 3) := by decide +kernel
theorem dX6_isOnGrid_4 : decode cX6_isOnGrid 4 = .ok (.iload_n 0, 1) := by decide +kernel
theorem dX6_isOnGrid_5 : decode cX6_isOnGrid 5 = .ok (.bipush 24, 2) := by decide +kernel
theorem dX6_isOnGrid_7 : decode cX6_isOnGrid 7 = .ok (.if_icmp .ge 17, 3) := by decide +kernel
theorem dX6_isOnGrid_10 : decode cX6_isOnGrid 10 = .ok (.iload_n 1, 1) := by decide +kernel
theorem dX6_isOnGrid_11 : decode cX6_isOnGrid 11 = .ok (.ifCond .lt 13, 3) := by decide +kernel
theorem dX6_isOnGrid_14 : decode cX6_isOnGrid 14 = .ok (.iload_n 1, 1) := by decide +kernel
theorem dX6_isOnGrid_15 : decode cX6_isOnGrid 15 = .ok (.bipush 40, 2) := by decide +kernel
theorem dX6_isOnGrid_17 : decode cX6_isOnGrid 17 = .ok (.if_icmp .ge 7, 3) := by decide +kernel
theorem dX6_isOnGrid_20 : decode cX6_isOnGrid 20 = .ok (.iconst 1, 1) := by decide +kernel
theorem dX6_isOnGrid_21 : decode cX6_isOnGrid 21 = .ok (.goto 4, 3) := by decide +kernel
theorem dX6_isOnGrid_24 : decode cX6_isOnGrid 24 = .ok (.iconst 0, 1) := by decide +kernel
theorem dX6_isOnGrid_25 : decode cX6_isOnGrid 25 = .ok (.ireturn, 1) := by decide +kernel
theorem dX6_placeNumbered_0 : decode cX6_placeNumbered 0 = .ok (.iload_n 1, 1) := by decide +kernel
theorem dX6_placeNumbered_1 : decode cX6_placeNumbered 1 = .ok (.ifCond .lt 29, 3) := by decide +kernel
theorem dX6_placeNumbered_4 : decode cX6_placeNumbered 4 = .ok (.iload_n 1, 1) := by decide +kernel
theorem dX6_placeNumbered_5 : decode cX6_placeNumbered 5 = .ok (.aload_n 0, 1) := by decide +kernel
theorem dX6_placeNumbered_6 : decode cX6_placeNumbered 6 = .ok (.getfield 34, 3) := by decide +kernel
theorem dX6_placeNumbered_9 : decode cX6_placeNumbered 9 = .ok (.if_icmp .ge 21, 3) := by decide +kernel
theorem dX6_placeNumbered_12 : decode cX6_placeNumbered 12 = .ok (.iload_n 1, 1) := by decide +kernel
theorem dX6_placeNumbered_13 : decode cX6_placeNumbered 13 = .ok (.aload_n 0, 1) := by decide +kernel
theorem dX6_placeNumbered_14 : decode cX6_placeNumbered 14 = .ok (.getfield 18, 3) := by decide +kernel
theorem dX6_placeNumbered_17 : decode cX6_placeNumbered 17 = .ok (.arraylength, 1) := by decide +kernel
theorem dX6_placeNumbered_18 : decode cX6_placeNumbered 18 = .ok (.if_icmp .ge 12, 3) := by decide +kernel
theorem dX6_placeNumbered_21 : decode cX6_placeNumbered 21 = .ok (.aload_n 0, 1) := by decide +kernel
theorem dX6_placeNumbered_22 : decode cX6_placeNumbered 22 = .ok (.getfield 18, 3) := by decide +kernel
theorem dX6_placeNumbered_25 : decode cX6_placeNumbered 25 = .ok (.iload_n 1, 1) := by decide +kernel
theorem dX6_placeNumbered_26 : decode cX6_placeNumbered 26 = .ok (.aaload, 1) := by decide +kernel
theorem dX6_placeNumbered_27 : decode cX6_placeNumbered 27 = .ok (.ifnonnull 13, 3) := by decide +kernel
theorem dX6_placeNumbered_30 : decode cX6_placeNumbered 30 = .ok (.new 115, 3) := by decide +kernel
theorem dX6_placeNumbered_33 : decode cX6_placeNumbered 33 = .ok (.dup, 1) := by decide +kernel
theorem dX6_placeNumbered_34 : decode cX6_placeNumbered 34 = .ok (.ldc 210, 2) := by decide +kernel
theorem dX6_placeNumbered_36 : decode cX6_placeNumbered 36 = .ok (.invokespecial 119, 3) := by decide +kernel
theorem dX6_placeNumbered_39 : decode cX6_placeNumbered 39 = .ok (.athrow, 1) := by decide +kernel
theorem dX6_placeNumbered_40 : decode cX6_placeNumbered 40 = .ok (.aload_n 0, 1) := by decide +kernel
theorem dX6_placeNumbered_41 : decode cX6_placeNumbered 41 = .ok (.getfield 18, 3) := by decide +kernel
theorem dX6_placeNumbered_44 : decode cX6_placeNumbered 44 = .ok (.iload_n 1, 1) := by decide +kernel
theorem dX6_placeNumbered_45 : decode cX6_placeNumbered 45 = .ok (.aaload, 1) := by decide +kernel
theorem dX6_placeNumbered_46 : decode cX6_placeNumbered 46 = .ok (.areturn, 1) := by decide +kernel
theorem dX6_sheetNumbered_0 : decode cX6_sheetNumbered 0 = .ok (.iload_n 1, 1) := by decide +kernel
theorem dX6_sheetNumbered_1 : decode cX6_sheetNumbered 1 = .ok (.ifCond .lt 29, 3) := by decide +kernel
theorem dX6_sheetNumbered_4 : decode cX6_sheetNumbered 4 = .ok (.iload_n 1, 1) := by decide +kernel
theorem dX6_sheetNumbered_5 : decode cX6_sheetNumbered 5 = .ok (.aload_n 0, 1) := by decide +kernel
theorem dX6_sheetNumbered_6 : decode cX6_sheetNumbered 6 = .ok (.getfield 38, 3) := by decide +kernel
theorem dX6_sheetNumbered_9 : decode cX6_sheetNumbered 9 = .ok (.if_icmp .ge 21, 3) := by decide +kernel
theorem dX6_sheetNumbered_12 : decode cX6_sheetNumbered 12 = .ok (.iload_n 1, 1) := by decide +kernel
theorem dX6_sheetNumbered_13 : decode cX6_sheetNumbered 13 = .ok (.aload_n 0, 1) := by decide +kernel
theorem dX6_sheetNumbered_14 : decode cX6_sheetNumbered 14 = .ok (.getfield 24, 3) := by decide +kernel
theorem dX6_sheetNumbered_17 : decode cX6_sheetNumbered 17 = .ok (.arraylength, 1) := by decide +kernel
theorem dX6_sheetNumbered_18 : decode cX6_sheetNumbered 18 = .ok (.if_icmp .ge 12, 3) := by decide +kernel
theorem dX6_sheetNumbered_21 : decode cX6_sheetNumbered 21 = .ok (.aload_n 0, 1) := by decide +kernel
theorem dX6_sheetNumbered_22 : decode cX6_sheetNumbered 22 = .ok (.getfield 24, 3) := by decide +kernel
theorem dX6_sheetNumbered_25 : decode cX6_sheetNumbered 25 = .ok (.iload_n 1, 1) := by decide +kernel
theorem dX6_sheetNumbered_26 : decode cX6_sheetNumbered 26 = .ok (.aaload, 1) := by decide +kernel
theorem dX6_sheetNumbered_27 : decode cX6_sheetNumbered 27 = .ok (.ifnonnull 13, 3) := by decide +kernel
theorem dX6_sheetNumbered_30 : decode cX6_sheetNumbered 30 = .ok (.new 115, 3) := by decide +kernel
theorem dX6_sheetNumbered_33 : decode cX6_sheetNumbered 33 = .ok (.dup, 1) := by decide +kernel
theorem dX6_sheetNumbered_34 : decode cX6_sheetNumbered 34 = .ok (.ldc 212, 2) := by decide +kernel
theorem dX6_sheetNumbered_36 : decode cX6_sheetNumbered 36 = .ok (.invokespecial 119, 3) := by decide +kernel
theorem dX6_sheetNumbered_39 : decode cX6_sheetNumbered 39 = .ok (.athrow, 1) := by decide +kernel
theorem dX6_sheetNumbered_40 : decode cX6_sheetNumbered 40 = .ok (.aload_n 0, 1) := by decide +kernel
theorem dX6_sheetNumbered_41 : decode cX6_sheetNumbered 41 = .ok (.getfield 24, 3) := by decide +kernel
theorem dX6_sheetNumbered_44 : decode cX6_sheetNumbered 44 = .ok (.iload_n 1, 1) := by decide +kernel
theorem dX6_sheetNumbered_45 : decode cX6_sheetNumbered 45 = .ok (.aaload, 1) := by decide +kernel
theorem dX6_sheetNumbered_46 : decode cX6_sheetNumbered 46 = .ok (.areturn, 1) := by decide +kernel
theorem dX6_editionNumbered_0 : decode cX6_editionNumbered 0 = .ok (.iload_n 1, 1) := by decide +kernel
theorem dX6_editionNumbered_1 : decode cX6_editionNumbered 1 = .ok (.ifCond .lt 29, 3) := by decide +kernel
theorem dX6_editionNumbered_4 : decode cX6_editionNumbered 4 = .ok (.iload_n 1, 1) := by decide +kernel
theorem dX6_editionNumbered_5 : decode cX6_editionNumbered 5 = .ok (.aload_n 0, 1) := by decide +kernel
theorem dX6_editionNumbered_6 : decode cX6_editionNumbered 6 = .ok (.getfield 41, 3) := by decide +kernel
theorem dX6_editionNumbered_9 : decode cX6_editionNumbered 9 = .ok (.if_icmp .ge 21, 3) := by decide +kernel
theorem dX6_editionNumbered_12 : decode cX6_editionNumbered 12 = .ok (.iload_n 1, 1) := by decide +kernel
theorem dX6_editionNumbered_13 : decode cX6_editionNumbered 13 = .ok (.aload_n 0, 1) := by decide +kernel
theorem dX6_editionNumbered_14 : decode cX6_editionNumbered 14 = .ok (.getfield 30, 3) := by decide +kernel
theorem dX6_editionNumbered_17 : decode cX6_editionNumbered 17 = .ok (.arraylength, 1) := by decide +kernel
theorem dX6_editionNumbered_18 : decode cX6_editionNumbered 18 = .ok (.if_icmp .ge 12, 3) := by decide +kernel
theorem dX6_editionNumbered_21 : decode cX6_editionNumbered 21 = .ok (.aload_n 0, 1) := by decide +kernel
theorem dX6_editionNumbered_22 : decode cX6_editionNumbered 22 = .ok (.getfield 30, 3) := by decide +kernel
theorem dX6_editionNumbered_25 : decode cX6_editionNumbered 25 = .ok (.iload_n 1, 1) := by decide +kernel
theorem dX6_editionNumbered_26 : decode cX6_editionNumbered 26 = .ok (.aaload, 1) := by decide +kernel
theorem dX6_editionNumbered_27 : decode cX6_editionNumbered 27 = .ok (.ifnonnull 13, 3) := by decide +kernel
theorem dX6_editionNumbered_30 : decode cX6_editionNumbered 30 = .ok (.new 115, 3) := by decide +kernel
theorem dX6_editionNumbered_33 : decode cX6_editionNumbered 33 = .ok (.dup, 1) := by decide +kernel
theorem dX6_editionNumbered_34 : decode cX6_editionNumbered 34 = .ok (.ldc 214, 2) := by decide +kernel
theorem dX6_editionNumbered_36 : decode cX6_editionNumbered 36 = .ok (.invokespecial 119, 3) := by decide +kernel
theorem dX6_editionNumbered_39 : decode cX6_editionNumbered 39 = .ok (.athrow, 1) := by decide +kernel
theorem dX6_editionNumbered_40 : decode cX6_editionNumbered 40 = .ok (.aload_n 0, 1) := by decide +kernel
theorem dX6_editionNumbered_41 : decode cX6_editionNumbered 41 = .ok (.getfield 30, 3) := by decide +kernel
theorem dX6_editionNumbered_44 : decode cX6_editionNumbered 44 = .ok (.iload_n 1, 1) := by decide +kernel
theorem dX6_editionNumbered_45 : decode cX6_editionNumbered 45 = .ok (.aaload, 1) := by decide +kernel
theorem dX6_editionNumbered_46 : decode cX6_editionNumbered 46 = .ok (.areturn, 1) := by decide +kernel
theorem dX6_spotOn_0 : decode cX6_spotOn 0 = .ok (.aload_n 0, 1) := by decide +kernel
theorem dX6_spotOn_1 : decode cX6_spotOn 1 = .ok (.iload_n 1, 1) := by decide +kernel
theorem dX6_spotOn_2 : decode cX6_spotOn 2 = .ok (.invokevirtual 163, 3) := by decide +kernel
theorem dX6_spotOn_5 : decode cX6_spotOn 5 = .ok (.iload_n 2, 1) := by decide +kernel
theorem dX6_spotOn_6 : decode cX6_spotOn 6 = .ok (.invokevirtual 216, 3) := by decide +kernel
theorem dX6_spotOn_9 : decode cX6_spotOn 9 = .ok (.astore_n 3, 1) := by decide +kernel
theorem dX6_spotOn_10 : decode cX6_spotOn 10 = .ok (.aload_n 3, 1) := by decide +kernel
theorem dX6_spotOn_11 : decode cX6_spotOn 11 = .ok (.ifnonnull 13, 3) := by decide +kernel
theorem dX6_spotOn_14 : decode cX6_spotOn 14 = .ok (.new 115, 3) := by decide +kernel
theorem dX6_spotOn_17 : decode cX6_spotOn 17 = .ok (.dup, 1) := by decide +kernel
theorem dX6_spotOn_18 : decode cX6_spotOn 18 = .ok (.ldc 210, 2) := by decide +kernel
theorem dX6_spotOn_20 : decode cX6_spotOn 20 = .ok (.invokespecial 119, 3) := by decide +kernel
theorem dX6_spotOn_23 : decode cX6_spotOn 23 = .ok (.athrow, 1) := by decide +kernel
theorem dX6_spotOn_24 : decode cX6_spotOn 24 = .ok (.aload_n 3, 1) := by decide +kernel
theorem dX6_spotOn_25 : decode cX6_spotOn 25 = .ok (.areturn, 1) := by decide +kernel
theorem dX6_showOnAllSheets_0 : decode cX6_showOnAllSheets 0 = .ok (.iconst 0, 1) := by decide +kernel
theorem dX6_showOnAllSheets_1 : decode cX6_showOnAllSheets 1 = .ok (.istore_n 2, 1) := by decide +kernel
theorem dX6_showOnAllSheets_2 : decode cX6_showOnAllSheets 2 = .ok (.iload_n 2, 1) := by decide +kernel
theorem dX6_showOnAllSheets_3 : decode cX6_showOnAllSheets 3 = .ok (.aload_n 0, 1) := by decide +kernel
theorem dX6_showOnAllSheets_4 : decode cX6_showOnAllSheets 4 = .ok (.getfield 38, 3) := by decide +kernel
theorem dX6_showOnAllSheets_7 : decode cX6_showOnAllSheets 7 = .ok (.if_icmp .ge 42, 3) := by decide +kernel
theorem dX6_showOnAllSheets_10 : decode cX6_showOnAllSheets 10 = .ok (.iload_n 2, 1) := by decide +kernel
theorem dX6_showOnAllSheets_11 : decode cX6_showOnAllSheets 11 = .ok (.aload_n 0, 1) := by decide +kernel
theorem dX6_showOnAllSheets_12 : decode cX6_showOnAllSheets 12 = .ok (.getfield 24, 3) := by decide +kernel
theorem dX6_showOnAllSheets_15 : decode cX6_showOnAllSheets 15 = .ok (.arraylength, 1) := by decide +kernel
theorem dX6_showOnAllSheets_16 : decode cX6_showOnAllSheets 16 = .ok (.if_icmp .ge 33, 3) := by decide +kernel
theorem dX6_showOnAllSheets_19 : decode cX6_showOnAllSheets 19 = .ok (.aload_n 0, 1) := by decide +kernel
theorem dX6_showOnAllSheets_20 : decode cX6_showOnAllSheets 20 = .ok (.getfield 24, 3) := by decide +kernel
theorem dX6_showOnAllSheets_23 : decode cX6_showOnAllSheets 23 = .ok (.iload_n 2, 1) := by decide +kernel
theorem dX6_showOnAllSheets_24 : decode cX6_showOnAllSheets 24 = .ok (.aaload, 1) := by decide +kernel
theorem dX6_showOnAllSheets_25 : decode cX6_showOnAllSheets 25 = .ok (.astore_n 3, 1) := by decide +kernel
theorem dX6_showOnAllSheets_26 : decode cX6_showOnAllSheets 26 = .ok (.aload_n 3, 1) := by decide +kernel
theorem dX6_showOnAllSheets_27 : decode cX6_showOnAllSheets 27 = .ok (.ifnull 16, 3) := by decide +kernel
theorem dX6_showOnAllSheets_30 : decode cX6_showOnAllSheets 30 = .ok (.aload_n 3, 1) := by decide +kernel
theorem dX6_showOnAllSheets_31 : decode cX6_showOnAllSheets 31 = .ok (.aload_n 1, 1) := by decide +kernel
theorem dX6_showOnAllSheets_32 : decode cX6_showOnAllSheets 32 = .ok (.invokevirtual 142, 3) := by decide +kernel
theorem dX6_showOnAllSheets_35 : decode cX6_showOnAllSheets 35 = .ok (.aload_n 3, 1) := by decide +kernel
theorem dX6_showOnAllSheets_36 : decode cX6_showOnAllSheets 36 = .ok (.aload_n 0, 1) := by decide +kernel
theorem dX6_showOnAllSheets_37 : decode cX6_showOnAllSheets 37 = .ok (.getfield 44, 3) := by decide +kernel
theorem dX6_showOnAllSheets_40 : decode cX6_showOnAllSheets 40 = .ok (.invokevirtual 145, 3) := by decide +kernel
theorem dX6_showOnAllSheets_43 : decode cX6_showOnAllSheets 43 = .ok (.iinc 2 1, 3) := by decide +kernel
theorem dX6_showOnAllSheets_46 : decode cX6_showOnAllSheets 46 = .ok (.goto (-44), 3) := by decide +kernel
theorem dX6_showOnAllSheets_49 : decode cX6_showOnAllSheets 49 = .ok (.return_, 1) := by decide +kernel
theorem dX6_placeAllSheetsAnew_0 : decode cX6_placeAllSheetsAnew 0 = .ok (.iconst 0, 1) := by decide +kernel
theorem dX6_placeAllSheetsAnew_1 : decode cX6_placeAllSheetsAnew 1 = .ok (.istore_n 2, 1) := by decide +kernel
theorem dX6_placeAllSheetsAnew_2 : decode cX6_placeAllSheetsAnew 2 = .ok (.iconst 0, 1) := by decide +kernel
theorem dX6_placeAllSheetsAnew_3 : decode cX6_placeAllSheetsAnew 3 = .ok (.istore_n 3, 1) := by decide +kernel
theorem dX6_placeAllSheetsAnew_4 : decode cX6_placeAllSheetsAnew 4 = .ok (.iload_n 3, 1) := by decide +kernel
theorem dX6_placeAllSheetsAnew_5 : decode cX6_placeAllSheetsAnew 5 = .ok (.aload_n 0, 1) := by decide +kernel
theorem dX6_placeAllSheetsAnew_6 : decode cX6_placeAllSheetsAnew 6 = .ok (.getfield 38, 3) := by decide +kernel
theorem dX6_placeAllSheetsAnew_9 : decode cX6_placeAllSheetsAnew 9 = .ok (.if_icmp .ge 49, 3) := by decide +kernel
theorem dX6_placeAllSheetsAnew_12 : decode cX6_placeAllSheetsAnew 12 = .ok (.iload_n 3, 1) := by decide +kernel
theorem dX6_placeAllSheetsAnew_13 : decode cX6_placeAllSheetsAnew 13 = .ok (.aload_n 0, 1) := by decide +kernel
theorem dX6_placeAllSheetsAnew_14 : decode cX6_placeAllSheetsAnew 14 = .ok (.getfield 24, 3) := by decide +kernel
theorem dX6_placeAllSheetsAnew_17 : decode cX6_placeAllSheetsAnew 17 = .ok (.arraylength, 1) := by decide +kernel
theorem dX6_placeAllSheetsAnew_18 : decode cX6_placeAllSheetsAnew 18 = .ok (.if_icmp .ge 40, 3) := by decide +kernel
theorem dX6_placeAllSheetsAnew_21 : decode cX6_placeAllSheetsAnew 21 = .ok (.aload_n 0, 1) := by decide +kernel
theorem dX6_placeAllSheetsAnew_22 : decode cX6_placeAllSheetsAnew 22 = .ok (.getfield 24, 3) := by decide +kernel
theorem dX6_placeAllSheetsAnew_25 : decode cX6_placeAllSheetsAnew 25 = .ok (.iload_n 3, 1) := by decide +kernel
theorem dX6_placeAllSheetsAnew_26 : decode cX6_placeAllSheetsAnew 26 = .ok (.aaload, 1) := by decide +kernel
theorem dX6_placeAllSheetsAnew_27 : decode cX6_placeAllSheetsAnew 27 = .ok (.astore 4, 2) := by decide +kernel
theorem dX6_placeAllSheetsAnew_29 : decode cX6_placeAllSheetsAnew 29 = .ok (.aload 4, 2) := by decide +kernel
theorem dX6_placeAllSheetsAnew_31 : decode cX6_placeAllSheetsAnew 31 = .ok (.ifnull 21, 3) := by decide +kernel
theorem dX6_placeAllSheetsAnew_34 : decode cX6_placeAllSheetsAnew 34 = .ok (.aload 4, 2) := by decide +kernel
theorem dX6_placeAllSheetsAnew_36 : decode cX6_placeAllSheetsAnew 36 = .ok (.aload_n 0, 1) := by decide +kernel
theorem dX6_placeAllSheetsAnew_37 : decode cX6_placeAllSheetsAnew 37 = .ok (.getfield 44, 3) := by decide +kernel
theorem dX6_placeAllSheetsAnew_40 : decode cX6_placeAllSheetsAnew 40 = .ok (.invokevirtual 145, 3) := by decide +kernel
theorem dX6_placeAllSheetsAnew_43 : decode cX6_placeAllSheetsAnew 43 = .ok (.iload_n 2, 1) := by decide +kernel
theorem dX6_placeAllSheetsAnew_44 : decode cX6_placeAllSheetsAnew 44 = .ok (.aload 4, 2) := by decide +kernel
theorem dX6_placeAllSheetsAnew_46 : decode cX6_placeAllSheetsAnew 46 = .ok (.iload_n 1, 1) := by decide +kernel
theorem dX6_placeAllSheetsAnew_47 : decode cX6_placeAllSheetsAnew 47 = .ok (.invokevirtual 220, 3) := by decide +kernel
theorem dX6_placeAllSheetsAnew_50 : decode cX6_placeAllSheetsAnew 50 = .ok (.iadd, 1) := by decide +kernel
theorem dX6_placeAllSheetsAnew_51 : decode cX6_placeAllSheetsAnew 51 = .ok (.istore_n 2, 1) := by decide +kernel
theorem dX6_placeAllSheetsAnew_52 : decode cX6_placeAllSheetsAnew 52 = .ok (.iinc 3 1, 3) := by decide +kernel
theorem dX6_placeAllSheetsAnew_55 : decode cX6_placeAllSheetsAnew 55 = .ok (.goto (-51), 3) := by decide +kernel
theorem dX6_placeAllSheetsAnew_58 : decode cX6_placeAllSheetsAnew 58 = .ok (.iload_n 2, 1) := by decide +kernel
theorem dX6_placeAllSheetsAnew_59 : decode cX6_placeAllSheetsAnew 59 = .ok (.ireturn, 1) := by decide +kernel
theorem dL_at_0 : decode cL_at 0 = .ok (.iload_n 1, 1) := by decide +kernel
theorem dL_at_1 : decode cL_at 1 = .ok (.aload_n 0, 1) := by decide +kernel
theorem dL_at_2 : decode cL_at 2 = .ok (.arraylength, 1) := by decide +kernel
theorem dL_at_3 : decode cL_at 3 = .ok (.if_icmp .ge 9, 3) := by decide +kernel
theorem dL_at_6 : decode cL_at 6 = .ok (.aload_n 0, 1) := by decide +kernel
theorem dL_at_7 : decode cL_at 7 = .ok (.iload_n 1, 1) := by decide +kernel
theorem dL_at_8 : decode cL_at 8 = .ok (.iaload, 1) := by decide +kernel
theorem dL_at_9 : decode cL_at 9 = .ok (.goto 12, 3) := by decide +kernel
theorem dL_at_12 : decode cL_at 12 = .ok (.ldc 7, 2) := by decide +kernel
theorem dL_at_14 : decode cL_at 14 = .ok (.iload_n 1, 1) := by decide +kernel
theorem dL_at_15 : decode cL_at 15 = .ok (.iconst 1, 1) := by decide +kernel
theorem dL_at_16 : decode cL_at 16 = .ok (.iadd, 1) := by decide +kernel
theorem dL_at_17 : decode cL_at 17 = .ok (.imul, 1) := by decide +kernel
theorem dL_at_18 : decode cL_at 18 = .ok (.ldc 8, 2) := by decide +kernel
theorem dL_at_20 : decode cL_at 20 = .ok (.iadd, 1) := by decide +kernel
theorem dL_at_21 : decode cL_at 21 = .ok (.ireturn, 1) := by decide +kernel
theorem dL_low_0 : decode cL_low 0 = .ok (.iload_n 0, 1) := by decide +kernel
theorem dL_low_1 : decode cL_low 1 = .ok (.ldc 9, 2) := by decide +kernel
theorem dL_low_3 : decode cL_low 3 = .ok (.iand, 1) := by decide +kernel
theorem dL_low_4 : decode cL_low 4 = .ok (.iload_n 1, 1) := by decide +kernel
theorem dL_low_5 : decode cL_low 5 = .ok (.irem, 1) := by decide +kernel
theorem dL_low_6 : decode cL_low 6 = .ok (.ireturn, 1) := by decide +kernel
theorem dL_letter_0 : decode cL_letter 0 = .ok (.aload_n 0, 1) := by decide +kernel
theorem dL_letter_1 : decode cL_letter 1 = .ok (.iload_n 1, 1) := by decide +kernel
theorem dL_letter_2 : decode cL_letter 2 = .ok (.invokevirtual 10, 3) := by decide +kernel
theorem dL_letter_5 : decode cL_letter 5 = .ok (.ireturn, 1) := by decide +kernel
theorem dL_letter_6 : decode cL_letter 6 = .ok (.astore_n 2, 1) := by decide +kernel
theorem dL_letter_7 : decode cL_letter 7 = .ok (.ldc 18, 2) := by decide +kernel
theorem dL_letter_9 : decode cL_letter 9 = .ok (.ireturn, 1) := by decide +kernel
theorem dL_letter_10 : decode cL_letter 10 = .ok (.astore_n 2, 1) := by decide +kernel
theorem dL_letter_11 : decode cL_letter 11 = .ok (.ldc 21, 2) := by decide +kernel
theorem dL_letter_13 : decode cL_letter 13 = .ok (.ireturn, 1) := by decide +kernel
theorem dL_place_0 : decode cL_place 0 = .ok (.aload_n 0, 1) := by decide +kernel
theorem dL_place_1 : decode cL_place 1 = .ok (.iload_n 1, 1) := by decide +kernel
theorem dL_place_2 : decode cL_place 2 = .ok (.iload_n 2, 1) := by decide +kernel
theorem dL_place_3 : decode cL_place 3 = .ok (.iload_n 3, 1) := by decide +kernel
theorem dL_place_4 : decode cL_place 4 = .ok (.invokevirtual 22, 3) := by decide +kernel
theorem dL_place_7 : decode cL_place 7 = .ok (.ireturn, 1) := by decide +kernel
theorem dL_place_8 : decode cL_place 8 = .ok (.astore 4, 2) := by decide +kernel
theorem dL_place_10 : decode cL_place 10 = .ok (.ldc 18, 2) := by decide +kernel
theorem dL_place_12 : decode cL_place 12 = .ok (.ireturn, 1) := by decide +kernel
theorem dL_place_13 : decode cL_place 13 = .ok (.astore 4, 2) := by decide +kernel
theorem dL_place_15 : decode cL_place 15 = .ok (.ldc 21, 2) := by decide +kernel
theorem dL_place_17 : decode cL_place 17 = .ok (.ireturn, 1) := by decide +kernel
theorem dL_name_0 : decode cL_name 0 = .ok (.aload_n 0, 1) := by decide +kernel
theorem dL_name_1 : decode cL_name 1 = .ok (.iload_n 1, 1) := by decide +kernel
theorem dL_name_2 : decode cL_name 2 = .ok (.invokevirtual 26, 3) := by decide +kernel
theorem dL_name_5 : decode cL_name 5 = .ok (.ireturn, 1) := by decide +kernel
theorem dL_name_6 : decode cL_name 6 = .ok (.astore_n 2, 1) := by decide +kernel
theorem dL_name_7 : decode cL_name 7 = .ok (.ldc 32, 2) := by decide +kernel
theorem dL_name_9 : decode cL_name 9 = .ok (.ireturn, 1) := by decide +kernel
theorem dL_name_10 : decode cL_name 10 = .ok (.astore_n 2, 1) := by decide +kernel
theorem dL_name_11 : decode cL_name 11 = .ok (.ldc 21, 2) := by decide +kernel
theorem dL_name_13 : decode cL_name 13 = .ok (.ireturn, 1) := by decide +kernel
theorem dL_spelled_0 : decode cL_spelled 0 = .ok (.aload_n 0, 1) := by decide +kernel
theorem dL_spelled_1 : decode cL_spelled 1 = .ok (.iload_n 1, 1) := by decide +kernel
theorem dL_spelled_2 : decode cL_spelled 2 = .ok (.iload_n 2, 1) := by decide +kernel
theorem dL_spelled_3 : decode cL_spelled 3 = .ok (.iload_n 3, 1) := by decide +kernel
theorem dL_spelled_4 : decode cL_spelled 4 = .ok (.invokevirtual 33, 3) := by decide +kernel
theorem dL_spelled_7 : decode cL_spelled 7 = .ok (.ireturn, 1) := by decide +kernel
theorem dL_spelled_8 : decode cL_spelled 8 = .ok (.astore 4, 2) := by decide +kernel
theorem dL_spelled_10 : decode cL_spelled 10 = .ok (.ldc 32, 2) := by decide +kernel
theorem dL_spelled_12 : decode cL_spelled 12 = .ok (.ireturn, 1) := by decide +kernel
theorem dL_spelled_13 : decode cL_spelled 13 = .ok (.astore 4, 2) := by decide +kernel
theorem dL_spelled_15 : decode cL_spelled 15 = .ok (.ldc 18, 2) := by decide +kernel
theorem dL_spelled_17 : decode cL_spelled 17 = .ok (.ireturn, 1) := by decide +kernel
theorem dL_pass_0 : decode cL_pass 0 = .ok (.aload_n 0, 1) := by decide +kernel
theorem dL_pass_1 : decode cL_pass 1 = .ok (.iload_n 1, 1) := by decide +kernel
theorem dL_pass_2 : decode cL_pass 2 = .ok (.invokevirtual 37, 3) := by decide +kernel
theorem dL_pass_5 : decode cL_pass 5 = .ok (.ireturn, 1) := by decide +kernel
theorem dL_pass_6 : decode cL_pass 6 = .ok (.astore_n 2, 1) := by decide +kernel
theorem dL_pass_7 : decode cL_pass 7 = .ok (.ldc 18, 2) := by decide +kernel
theorem dL_pass_9 : decode cL_pass 9 = .ok (.ireturn, 1) := by decide +kernel
theorem dL_pass_10 : decode cL_pass 10 = .ok (.astore_n 2, 1) := by decide +kernel
theorem dL_pass_11 : decode cL_pass 11 = .ok (.ldc 21, 2) := by decide +kernel
theorem dL_pass_13 : decode cL_pass 13 = .ok (.ireturn, 1) := by decide +kernel
theorem dL_sheet_0 : decode cL_sheet 0 = .ok (.aload_n 0, 1) := by decide +kernel
theorem dL_sheet_1 : decode cL_sheet 1 = .ok (.iload_n 1, 1) := by decide +kernel
theorem dL_sheet_2 : decode cL_sheet 2 = .ok (.iload_n 2, 1) := by decide +kernel
theorem dL_sheet_3 : decode cL_sheet 3 = .ok (.iload_n 3, 1) := by decide +kernel
theorem dL_sheet_4 : decode cL_sheet 4 = .ok (.invokevirtual 40, 3) := by decide +kernel
theorem dL_sheet_7 : decode cL_sheet 7 = .ok (.ireturn, 1) := by decide +kernel
theorem dL_sheet_8 : decode cL_sheet 8 = .ok (.astore 4, 2) := by decide +kernel
theorem dL_sheet_10 : decode cL_sheet 10 = .ok (.ldc 18, 2) := by decide +kernel
theorem dL_sheet_12 : decode cL_sheet 12 = .ok (.ireturn, 1) := by decide +kernel
theorem dL_sheet_13 : decode cL_sheet 13 = .ok (.astore 4, 2) := by decide +kernel
theorem dL_sheet_15 : decode cL_sheet 15 = .ok (.ldc 21, 2) := by decide +kernel
theorem dL_sheet_17 : decode cL_sheet 17 = .ok (.ireturn, 1) := by decide +kernel
theorem dL_dot_0 : decode cL_dot 0 = .ok (.aload_n 0, 1) := by decide +kernel
theorem dL_dot_1 : decode cL_dot 1 = .ok (.iload_n 1, 1) := by decide +kernel
theorem dL_dot_2 : decode cL_dot 2 = .ok (.iload_n 2, 1) := by decide +kernel
theorem dL_dot_3 : decode cL_dot 3 = .ok (.iload_n 3, 1) := by decide +kernel
theorem dL_dot_4 : decode cL_dot 4 = .ok (.invokevirtual 43, 3) := by decide +kernel
theorem dL_dot_7 : decode cL_dot 7 = .ok (.ireturn, 1) := by decide +kernel
theorem dL_dot_8 : decode cL_dot 8 = .ok (.astore 4, 2) := by decide +kernel
theorem dL_dot_10 : decode cL_dot 10 = .ok (.ldc 32, 2) := by decide +kernel
theorem dL_dot_12 : decode cL_dot 12 = .ok (.ireturn, 1) := by decide +kernel
theorem dL_side_0 : decode cL_side 0 = .ok (.aload_n 0, 1) := by decide +kernel
theorem dL_side_1 : decode cL_side 1 = .ok (.iload_n 1, 1) := by decide +kernel
theorem dL_side_2 : decode cL_side 2 = .ok (.iload_n 2, 1) := by decide +kernel
theorem dL_side_3 : decode cL_side 3 = .ok (.invokevirtual 47, 3) := by decide +kernel
theorem dL_side_6 : decode cL_side 6 = .ok (.ireturn, 1) := by decide +kernel
theorem dL_side_7 : decode cL_side 7 = .ok (.astore_n 3, 1) := by decide +kernel
theorem dL_side_8 : decode cL_side 8 = .ok (.ldc 32, 2) := by decide +kernel
theorem dL_side_10 : decode cL_side 10 = .ok (.ireturn, 1) := by decide +kernel
theorem dL_drawn_0 : decode cL_drawn 0 = .ok (.aload_n 0, 1) := by decide +kernel
theorem dL_drawn_1 : decode cL_drawn 1 = .ok (.iload_n 1, 1) := by decide +kernel
theorem dL_drawn_2 : decode cL_drawn 2 = .ok (.iload_n 2, 1) := by decide +kernel
theorem dL_drawn_3 : decode cL_drawn 3 = .ok (.iload_n 3, 1) := by decide +kernel
theorem dL_drawn_4 : decode cL_drawn 4 = .ok (.invokevirtual 51, 3) := by decide +kernel
theorem dL_drawn_7 : decode cL_drawn 7 = .ok (.ireturn, 1) := by decide +kernel
theorem dL_drawn_8 : decode cL_drawn 8 = .ok (.astore 4, 2) := by decide +kernel
theorem dL_drawn_10 : decode cL_drawn 10 = .ok (.ldc 32, 2) := by decide +kernel
theorem dL_drawn_12 : decode cL_drawn 12 = .ok (.ireturn, 1) := by decide +kernel
theorem dL_worth_0 : decode cL_worth 0 = .ok (.aload_n 0, 1) := by decide +kernel
theorem dL_worth_1 : decode cL_worth 1 = .ok (.iload_n 1, 1) := by decide +kernel
theorem dL_worth_2 : decode cL_worth 2 = .ok (.invokevirtual 54, 3) := by decide +kernel
theorem dL_worth_5 : decode cL_worth 5 = .ok (.ireturn, 1) := by decide +kernel
theorem dL_worth_6 : decode cL_worth 6 = .ok (.astore_n 2, 1) := by decide +kernel
theorem dL_worth_7 : decode cL_worth 7 = .ok (.ldc 32, 2) := by decide +kernel
theorem dL_worth_9 : decode cL_worth 9 = .ok (.ireturn, 1) := by decide +kernel
theorem dL_best_0 : decode cL_best 0 = .ok (.aload_n 0, 1) := by decide +kernel
theorem dL_best_1 : decode cL_best 1 = .ok (.iload_n 1, 1) := by decide +kernel
theorem dL_best_2 : decode cL_best 2 = .ok (.invokevirtual 57, 3) := by decide +kernel
theorem dL_best_5 : decode cL_best 5 = .ok (.ireturn, 1) := by decide +kernel
theorem dL_best_6 : decode cL_best 6 = .ok (.astore_n 2, 1) := by decide +kernel
theorem dL_best_7 : decode cL_best 7 = .ok (.ldc 32, 2) := by decide +kernel
theorem dL_best_9 : decode cL_best 9 = .ok (.ireturn, 1) := by decide +kernel
theorem dL_best_10 : decode cL_best 10 = .ok (.astore_n 2, 1) := by decide +kernel
theorem dL_best_11 : decode cL_best 11 = .ok (.ldc 21, 2) := by decide +kernel
theorem dL_best_13 : decode cL_best 13 = .ok (.ireturn, 1) := by decide +kernel
theorem dL_print_0 : decode cL_print 0 = .ok (.aload_n 0, 1) := by decide +kernel
theorem dL_print_1 : decode cL_print 1 = .ok (.invokevirtual 60, 3) := by decide +kernel
theorem dL_print_4 : decode cL_print 4 = .ok (.ireturn, 1) := by decide +kernel
theorem dL_print_5 : decode cL_print 5 = .ok (.astore_n 1, 1) := by decide +kernel
theorem dL_print_6 : decode cL_print 6 = .ok (.ldc 21, 2) := by decide +kernel
theorem dL_print_8 : decode cL_print 8 = .ok (.ireturn, 1) := by decide +kernel
theorem dL_printed_0 : decode cL_printed 0 = .ok (.aload_n 0, 1) := by decide +kernel
theorem dL_printed_1 : decode cL_printed 1 = .ok (.iload_n 1, 1) := by decide +kernel
theorem dL_printed_2 : decode cL_printed 2 = .ok (.iload_n 2, 1) := by decide +kernel
theorem dL_printed_3 : decode cL_printed 3 = .ok (.iload_n 3, 1) := by decide +kernel
theorem dL_printed_4 : decode cL_printed 4 = .ok (.iload 4, 2) := by decide +kernel
theorem dL_printed_6 : decode cL_printed 6 = .ok (.invokevirtual 64, 3) := by decide +kernel
theorem dL_printed_9 : decode cL_printed 9 = .ok (.ireturn, 1) := by decide +kernel
theorem dL_printed_10 : decode cL_printed 10 = .ok (.astore 5, 2) := by decide +kernel
theorem dL_printed_12 : decode cL_printed 12 = .ok (.ldc 32, 2) := by decide +kernel
theorem dL_printed_14 : decode cL_printed 14 = .ok (.ireturn, 1) := by decide +kernel
theorem dL_isOn_0 : decode cL_isOn 0 = .ok (.aload_n 0, 1) := by decide +kernel
theorem dL_isOn_1 : decode cL_isOn 1 = .ok (.iconst 5, 1) := by decide +kernel
theorem dL_isOn_2 : decode cL_isOn 2 = .ok (.iload_n 3, 1) := by decide +kernel
theorem dL_isOn_3 : decode cL_isOn 3 = .ok (.imul, 1) := by decide +kernel
theorem dL_isOn_4 : decode cL_isOn 4 = .ok (.iaload, 1) := by decide +kernel
theorem dL_isOn_5 : decode cL_isOn 5 = .ok (.aload_n 1, 1) := by decide +kernel
theorem dL_isOn_6 : decode cL_isOn 6 = .ok (.iconst 3, 1) := by decide +kernel
theorem dL_isOn_7 : decode cL_isOn 7 = .ok (.iload_n 2, 1) := by decide +kernel
theorem dL_isOn_8 : decode cL_isOn 8 = .ok (.imul, 1) := by decide +kernel
theorem dL_isOn_9 : decode cL_isOn 9 = .ok (.iaload, 1) := by decide +kernel
theorem dL_isOn_10 : decode cL_isOn 10 = .ok (.isub, 1) := by decide +kernel
theorem dL_isOn_11 : decode cL_isOn 11 = .ok (.istore 4, 2) := by decide +kernel
theorem dL_isOn_13 : decode cL_isOn 13 = .ok (.aload_n 0, 1) := by decide +kernel
theorem dL_isOn_14 : decode cL_isOn 14 = .ok (.iconst 5, 1) := by decide +kernel
theorem dL_isOn_15 : decode cL_isOn 15 = .ok (.iload_n 3, 1) := by decide +kernel
theorem dL_isOn_16 : decode cL_isOn 16 = .ok (.imul, 1) := by decide +kernel
theorem dL_isOn_17 : decode cL_isOn 17 = .ok (.iconst 1, 1) := by decide +kernel
theorem dL_isOn_18 : decode cL_isOn 18 = .ok (.iadd, 1) := by decide +kernel
theorem dL_isOn_19 : decode cL_isOn 19 = .ok (.iaload, 1) := by decide +kernel
theorem dL_isOn_20 : decode cL_isOn 20 = .ok (.aload_n 1, 1) := by decide +kernel
theorem dL_isOn_21 : decode cL_isOn 21 = .ok (.iconst 3, 1) := by decide +kernel
theorem dL_isOn_22 : decode cL_isOn 22 = .ok (.iload_n 2, 1) := by decide +kernel
theorem dL_isOn_23 : decode cL_isOn 23 = .ok (.imul, 1) := by decide +kernel
theorem dL_isOn_24 : decode cL_isOn 24 = .ok (.iconst 1, 1) := by decide +kernel
theorem dL_isOn_25 : decode cL_isOn 25 = .ok (.iadd, 1) := by decide +kernel
theorem dL_isOn_26 : decode cL_isOn 26 = .ok (.iaload, 1) := by decide +kernel
theorem dL_isOn_27 : decode cL_isOn 27 = .ok (.isub, 1) := by decide +kernel
theorem dL_isOn_28 : decode cL_isOn 28 = .ok (.istore 5, 2) := by decide +kernel
theorem dL_isOn_30 : decode cL_isOn 30 = .ok (.iload 4, 2) := by decide +kernel
theorem dL_isOn_32 : decode cL_isOn 32 = .ok (.ifCond .lt 26, 3) := by decide +kernel
theorem dL_isOn_35 : decode cL_isOn 35 = .ok (.iload 4, 2) := by decide +kernel
theorem dL_isOn_37 : decode cL_isOn 37 = .ok (.bipush 30, 2) := by decide +kernel
theorem dL_isOn_39 : decode cL_isOn 39 = .ok (.if_icmp .ge 19, 3) := by decide +kernel
theorem dL_isOn_42 : decode cL_isOn 42 = .ok (.iload 5, 2) := by decide +kernel
theorem dL_isOn_44 : decode cL_isOn 44 = .ok (.ifCond .lt 14, 3) := by decide +kernel
theorem dL_isOn_47 : decode cL_isOn 47 = .ok (.iload 5, 2) := by decide +kernel
theorem dL_isOn_49 : decode cL_isOn 49 = .ok (.bipush 20, 2) := by decide +kernel
theorem dL_isOn_51 : decode cL_isOn 51 = .ok (.if_icmp .ge 7, 3) := by decide +kernel
theorem dL_isOn_54 : decode cL_isOn 54 = .ok (.iconst 1, 1) := by decide +kernel
theorem dL_isOn_55 : decode cL_isOn 55 = .ok (.goto 4, 3) := by decide +kernel
theorem dL_isOn_58 : decode cL_isOn 58 = .ok (.iconst 0, 1) := by decide +kernel
theorem dL_isOn_59 : decode cL_isOn 59 = .ok (.ireturn, 1) := by decide +kernel
theorem dL_isSheet_0 : decode cL_isSheet 0 = .ok (.bipush 64, 2) := by decide +kernel
theorem dL_isSheet_2 : decode cL_isSheet 2 = .ok (.newarray .int, 2) := by decide +kernel
theorem dL_isSheet_4 : decode cL_isSheet 4 = .ok (.astore 5, 2) := by decide +kernel
theorem dL_isSheet_6 : decode cL_isSheet 6 = .ok (.iconst 0, 1) := by decide +kernel
theorem dL_isSheet_7 : decode cL_isSheet 7 = .ok (.istore 6, 2) := by decide +kernel
theorem dL_isSheet_9 : decode cL_isSheet 9 = .ok (.iconst 0, 1) := by decide +kernel
theorem dL_isSheet_10 : decode cL_isSheet 10 = .ok (.istore 7, 2) := by decide +kernel
theorem dL_isSheet_12 : decode cL_isSheet 12 = .ok (.iconst 1, 1) := by decide +kernel
theorem dL_isSheet_13 : decode cL_isSheet 13 = .ok (.istore 8, 2) := by decide +kernel
theorem dL_isSheet_15 : decode cL_isSheet 15 = .ok (.iconst 0, 1) := by decide +kernel
theorem dL_isSheet_16 : decode cL_isSheet 16 = .ok (.istore 9, 2) := by decide +kernel
theorem dL_isSheet_18 : decode cL_isSheet 18 = .ok (.iload 9, 2) := by decide +kernel
theorem dL_isSheet_20 : decode cL_isSheet 20 = .ok (.aload_n 1, 1) := by decide +kernel
theorem dL_isSheet_21 : decode cL_isSheet 21 = .ok (.iconst 0, 1) := by decide +kernel
theorem dL_isSheet_22 : decode cL_isSheet 22 = .ok (.iaload, 1) := by decide +kernel
theorem dL_isSheet_23 : decode cL_isSheet 23 = .ok (.if_icmp .ge 454, 3) := by decide +kernel
theorem dL_isSheet_26 : decode cL_isSheet 26 = .ok (.iload 8, 2) := by decide +kernel
theorem dL_isSheet_28 : decode cL_isSheet 28 = .ok (.ifCond .eq 449, 3) := by decide +kernel
theorem dL_isSheet_31 : decode cL_isSheet 31 = .ok (.aload_n 0, 1) := by decide +kernel
theorem dL_isSheet_32 : decode cL_isSheet 32 = .ok (.iload 4, 2) := by decide +kernel
theorem dL_isSheet_34 : decode cL_isSheet 34 = .ok (.iload 9, 2) := by decide +kernel
theorem dL_isSheet_36 : decode cL_isSheet 36 = .ok (.iconst 0, 1) := by decide +kernel
theorem dL_isSheet_37 : decode cL_isSheet 37 = .ok (.invokestatic 68, 3) := by decide +kernel
theorem dL_isSheet_40 : decode cL_isSheet 40 = .ok (.istore 10, 2) := by decide +kernel
theorem dL_isSheet_42 : decode cL_isSheet 42 = .ok (.aload_n 0, 1) := by decide +kernel
theorem dL_isSheet_43 : decode cL_isSheet 43 = .ok (.iload 4, 2) := by decide +kernel
theorem dL_isSheet_45 : decode cL_isSheet 45 = .ok (.iload 9, 2) := by decide +kernel
theorem dL_isSheet_47 : decode cL_isSheet 47 = .ok (.iconst 1, 1) := by decide +kernel
theorem dL_isSheet_48 : decode cL_isSheet 48 = .ok (.invokestatic 68, 3) := by decide +kernel
theorem dL_isSheet_51 : decode cL_isSheet 51 = .ok (.istore 11, 2) := by decide +kernel
theorem dL_isSheet_53 : decode cL_isSheet 53 = .ok (.aload_n 0, 1) := by decide +kernel
theorem dL_isSheet_54 : decode cL_isSheet 54 = .ok (.iload 4, 2) := by decide +kernel
theorem dL_isSheet_56 : decode cL_isSheet 56 = .ok (.iload 9, 2) := by decide +kernel
theorem dL_isSheet_58 : decode cL_isSheet 58 = .ok (.invokestatic 73, 3) := by decide +kernel
theorem dL_isSheet_61 : decode cL_isSheet 61 = .ok (.istore 12, 2) := by decide +kernel
theorem dL_isSheet_63 : decode cL_isSheet 63 = .ok (.aload_n 2, 1) := by decide +kernel
theorem dL_isSheet_64 : decode cL_isSheet 64 = .ok (.aload_n 3, 1) := by decide +kernel
theorem dL_isSheet_65 : decode cL_isSheet 65 = .ok (.iload 4, 2) := by decide +kernel
theorem dL_isSheet_67 : decode cL_isSheet 67 = .ok (.iload 9, 2) := by decide +kernel
theorem dL_isSheet_69 : decode cL_isSheet 69 = .ok (.invokestatic 76, 3) := by decide +kernel
theorem dL_isSheet_72 : decode cL_isSheet 72 = .ok (.istore 13, 2) := by decide +kernel
theorem dL_isSheet_74 : decode cL_isSheet 74 = .ok (.iload 7, 2) := by decide +kernel
theorem dL_isSheet_76 : decode cL_isSheet 76 = .ok (.iload 13, 2) := by decide +kernel
theorem dL_isSheet_78 : decode cL_isSheet 78 = .ok (.ifCond .eq 18, 3) := by decide +kernel
theorem dL_isSheet_81 : decode cL_isSheet 81 = .ok (.aload_n 2, 1) := by decide +kernel
theorem dL_isSheet_82 : decode cL_isSheet 82 = .ok (.iconst 5, 1) := by decide +kernel
theorem dL_isSheet_83 : decode cL_isSheet 83 = .ok (.iload 9, 2) := by decide +kernel
theorem dL_isSheet_85 : decode cL_isSheet 85 = .ok (.imul, 1) := by decide +kernel
theorem dL_isSheet_86 : decode cL_isSheet 86 = .ok (.iconst 4, 1) := by decide +kernel
theorem dL_isSheet_87 : decode cL_isSheet 87 = .ok (.iadd, 1) := by decide +kernel
theorem dL_isSheet_88 : decode cL_isSheet 88 = .ok (.iaload, 1) := by decide +kernel
theorem dL_isSheet_89 : decode cL_isSheet 89 = .ok (.ifCond .le 7, 3) := by decide +kernel
theorem dL_isSheet_92 : decode cL_isSheet 92 = .ok (.iconst 1, 1) := by decide +kernel
theorem dL_isSheet_93 : decode cL_isSheet 93 = .ok (.goto 4, 3) := by decide +kernel
theorem dL_isSheet_96 : decode cL_isSheet 96 = .ok (.iconst 0, 1) := by decide +kernel
theorem dL_isSheet_97 : decode cL_isSheet 97 = .ok (.iadd, 1) := by decide +kernel
theorem dL_isSheet_98 : decode cL_isSheet 98 = .ok (.istore 7, 2) := by decide +kernel
theorem dL_isSheet_100 : decode cL_isSheet 100 = .ok (.iload 13, 2) := by decide +kernel
theorem dL_isSheet_102 : decode cL_isSheet 102 = .ok (.ifCond .eq 69, 3) := by decide +kernel
theorem dL_isSheet_105 : decode cL_isSheet 105 = .ok (.iload 10, 2) := by decide +kernel
theorem dL_isSheet_107 : decode cL_isSheet 107 = .ok (.ifCond .lt 60, 3) := by decide +kernel
theorem dL_isSheet_110 : decode cL_isSheet 110 = .ok (.iload 10, 2) := by decide +kernel
theorem dL_isSheet_112 : decode cL_isSheet 112 = .ok (.bipush 40, 2) := by decide +kernel
theorem dL_isSheet_114 : decode cL_isSheet 114 = .ok (.if_icmp .ge 53, 3) := by decide +kernel
theorem dL_isSheet_117 : decode cL_isSheet 117 = .ok (.iload 11, 2) := by decide +kernel
theorem dL_isSheet_119 : decode cL_isSheet 119 = .ok (.ifCond .lt 48, 3) := by decide +kernel
theorem dL_isSheet_122 : decode cL_isSheet 122 = .ok (.iload 11, 2) := by decide +kernel
theorem dL_isSheet_124 : decode cL_isSheet 124 = .ok (.bipush 24, 2) := by decide +kernel
theorem dL_isSheet_126 : decode cL_isSheet 126 = .ok (.if_icmp .ge 41, 3) := by decide +kernel
theorem dL_isSheet_129 : decode cL_isSheet 129 = .ok (.aload_n 3, 1) := by decide +kernel
theorem dL_isSheet_130 : decode cL_isSheet 130 = .ok (.iconst 3, 1) := by decide +kernel
theorem dL_isSheet_131 : decode cL_isSheet 131 = .ok (.iload 4, 2) := by decide +kernel
theorem dL_isSheet_133 : decode cL_isSheet 133 = .ok (.imul, 1) := by decide +kernel
theorem dL_isSheet_134 : decode cL_isSheet 134 = .ok (.iconst 2, 1) := by decide +kernel
theorem dL_isSheet_135 : decode cL_isSheet 135 = .ok (.iadd, 1) := by decide +kernel
theorem dL_isSheet_136 : decode cL_isSheet 136 = .ok (.iaload, 1) := by decide +kernel
theorem dL_isSheet_137 : decode cL_isSheet 137 = .ok (.iconst 1, 1) := by decide +kernel
theorem dL_isSheet_138 : decode cL_isSheet 138 = .ok (.if_icmp .eq 25, 3) := by decide +kernel
theorem dL_isSheet_141 : decode cL_isSheet 141 = .ok (.iload 10, 2) := by decide +kernel
theorem dL_isSheet_143 : decode cL_isSheet 143 = .ok (.aload_n 2, 1) := by decide +kernel
theorem dL_isSheet_144 : decode cL_isSheet 144 = .ok (.iconst 5, 1) := by decide +kernel
theorem dL_isSheet_145 : decode cL_isSheet 145 = .ok (.iload 9, 2) := by decide +kernel
theorem dL_isSheet_147 : decode cL_isSheet 147 = .ok (.imul, 1) := by decide +kernel
theorem dL_isSheet_148 : decode cL_isSheet 148 = .ok (.iaload, 1) := by decide +kernel
theorem dL_isSheet_149 : decode cL_isSheet 149 = .ok (.aload_n 3, 1) := by decide +kernel
theorem dL_isSheet_150 : decode cL_isSheet 150 = .ok (.iconst 3, 1) := by decide +kernel
theorem dL_isSheet_151 : decode cL_isSheet 151 = .ok (.iload 4, 2) := by decide +kernel
theorem dL_isSheet_153 : decode cL_isSheet 153 = .ok (.imul, 1) := by decide +kernel
theorem dL_isSheet_154 : decode cL_isSheet 154 = .ok (.iaload, 1) := by decide +kernel
theorem dL_isSheet_155 : decode cL_isSheet 155 = .ok (.isub, 1) := by decide +kernel
theorem dL_isSheet_156 : decode cL_isSheet 156 = .ok (.iconst 4, 1) := by decide +kernel
theorem dL_isSheet_157 : decode cL_isSheet 157 = .ok (.imul, 1) := by decide +kernel
theorem dL_isSheet_158 : decode cL_isSheet 158 = .ok (.iconst 3, 1) := by decide +kernel
theorem dL_isSheet_159 : decode cL_isSheet 159 = .ok (.idiv, 1) := by decide +kernel
theorem dL_isSheet_160 : decode cL_isSheet 160 = .ok (.if_icmp .ne 7, 3) := by decide +kernel
theorem dL_isSheet_163 : decode cL_isSheet 163 = .ok (.iconst 1, 1) := by decide +kernel
theorem dL_isSheet_164 : decode cL_isSheet 164 = .ok (.goto 30, 3) := by decide +kernel
theorem dL_isSheet_167 : decode cL_isSheet 167 = .ok (.iconst 0, 1) := by decide +kernel
theorem dL_isSheet_168 : decode cL_isSheet 168 = .ok (.goto 26, 3) := by decide +kernel
theorem dL_isSheet_171 : decode cL_isSheet 171 = .ok (.iload 10, 2) := by decide +kernel
theorem dL_isSheet_173 : decode cL_isSheet 173 = .ok (.iconst (-1), 1) := by decide +kernel
theorem dL_isSheet_174 : decode cL_isSheet 174 = .ok (.if_icmp .ne 19, 3) := by decide +kernel
theorem dL_isSheet_177 : decode cL_isSheet 177 = .ok (.iload 11, 2) := by decide +kernel
theorem dL_isSheet_179 : decode cL_isSheet 179 = .ok (.iconst (-1), 1) := by decide +kernel
theorem dL_isSheet_180 : decode cL_isSheet 180 = .ok (.if_icmp .ne 13, 3) := by decide +kernel
theorem dL_isSheet_183 : decode cL_isSheet 183 = .ok (.iload 12, 2) := by decide +kernel
theorem dL_isSheet_185 : decode cL_isSheet 185 = .ok (.iconst (-1), 1) := by decide +kernel
theorem dL_isSheet_186 : decode cL_isSheet 186 = .ok (.if_icmp .ne 7, 3) := by decide +kernel
theorem dL_isSheet_189 : decode cL_isSheet 189 = .ok (.iconst 1, 1) := by decide +kernel
theorem dL_isSheet_190 : decode cL_isSheet 190 = .ok (.goto 4, 3) := by decide +kernel
theorem dL_isSheet_193 : decode cL_isSheet 193 = .ok (.iconst 0, 1) := by decide +kernel
theorem dL_isSheet_194 : decode cL_isSheet 194 = .ok (.istore 8, 2) := by decide +kernel
theorem dL_isSheet_196 : decode cL_isSheet 196 = .ok (.iload 8, 2) := by decide +kernel
theorem dL_isSheet_198 : decode cL_isSheet 198 = .ok (.ifCond .eq 35, 3) := by decide +kernel
theorem dL_isSheet_201 : decode cL_isSheet 201 = .ok (.iload 12, 2) := by decide +kernel
theorem dL_isSheet_203 : decode cL_isSheet 203 = .ok (.iconst (-1), 1) := by decide +kernel
theorem dL_isSheet_204 : decode cL_isSheet 204 = .ok (.if_icmp .lt 29, 3) := by decide +kernel
theorem dL_isSheet_207 : decode cL_isSheet 207 = .ok (.iload 12, 2) := by decide +kernel
theorem dL_isSheet_209 : decode cL_isSheet 209 = .ok (.iconst 4, 1) := by decide +kernel
theorem dL_isSheet_210 : decode cL_isSheet 210 = .ok (.if_icmp .ge 23, 3) := by decide +kernel
theorem dL_isSheet_213 : decode cL_isSheet 213 = .ok (.iload 12, 2) := by decide +kernel
theorem dL_isSheet_215 : decode cL_isSheet 215 = .ok (.ifCond .lt 14, 3) := by decide +kernel
theorem dL_isSheet_218 : decode cL_isSheet 218 = .ok (.aload_n 2, 1) := by decide +kernel
theorem dL_isSheet_219 : decode cL_isSheet 219 = .ok (.iconst 5, 1) := by decide +kernel
theorem dL_isSheet_220 : decode cL_isSheet 220 = .ok (.iload 9, 2) := by decide +kernel
theorem dL_isSheet_222 : decode cL_isSheet 222 = .ok (.imul, 1) := by decide +kernel
theorem dL_isSheet_223 : decode cL_isSheet 223 = .ok (.iconst 4, 1) := by decide +kernel
theorem dL_isSheet_224 : decode cL_isSheet 224 = .ok (.iadd, 1) := by decide +kernel
theorem dL_isSheet_225 : decode cL_isSheet 225 = .ok (.iaload, 1) := by decide +kernel
theorem dL_isSheet_226 : decode cL_isSheet 226 = .ok (.ifCond .le 7, 3) := by decide +kernel
theorem dL_isSheet_229 : decode cL_isSheet 229 = .ok (.iconst 1, 1) := by decide +kernel
theorem dL_isSheet_230 : decode cL_isSheet 230 = .ok (.goto 4, 3) := by decide +kernel
theorem dL_isSheet_233 : decode cL_isSheet 233 = .ok (.iconst 0, 1) := by decide +kernel
theorem dL_isSheet_234 : decode cL_isSheet 234 = .ok (.istore 8, 2) := by decide +kernel
theorem dL_isSheet_236 : decode cL_isSheet 236 = .ok (.iload 6, 2) := by decide +kernel
theorem dL_isSheet_238 : decode cL_isSheet 238 = .ok (.iload 12, 2) := by decide +kernel
theorem dL_isSheet_240 : decode cL_isSheet 240 = .ok (.ifCond .ge 7, 3) := by decide +kernel
theorem dL_isSheet_243 : decode cL_isSheet 243 = .ok (.iconst 0, 1) := by decide +kernel
theorem dL_isSheet_244 : decode cL_isSheet 244 = .ok (.goto 11, 3) := by decide +kernel
theorem dL_isSheet_247 : decode cL_isSheet 247 = .ok (.aload_n 2, 1) := by decide +kernel
theorem dL_isSheet_248 : decode cL_isSheet 248 = .ok (.iconst 5, 1) := by decide +kernel
theorem dL_isSheet_249 : decode cL_isSheet 249 = .ok (.iload 9, 2) := by decide +kernel
theorem dL_isSheet_251 : decode cL_isSheet 251 = .ok (.imul, 1) := by decide +kernel
theorem dL_isSheet_252 : decode cL_isSheet 252 = .ok (.iconst 2, 1) := by decide +kernel
theorem dL_isSheet_253 : decode cL_isSheet 253 = .ok (.iadd, 1) := by decide +kernel
theorem dL_isSheet_254 : decode cL_isSheet 254 = .ok (.iaload, 1) := by decide +kernel
theorem dL_isSheet_255 : decode cL_isSheet 255 = .ok (.iadd, 1) := by decide +kernel
theorem dL_isSheet_256 : decode cL_isSheet 256 = .ok (.istore 6, 2) := by decide +kernel
theorem dL_isSheet_258 : decode cL_isSheet 258 = .ok (.iload 12, 2) := by decide +kernel
theorem dL_isSheet_260 : decode cL_isSheet 260 = .ok (.iconst 2, 1) := by decide +kernel
theorem dL_isSheet_261 : decode cL_isSheet 261 = .ok (.if_icmp .ne 10, 3) := by decide +kernel
theorem dL_isSheet_264 : decode cL_isSheet 264 = .ok (.iload 11, 2) := by decide +kernel
theorem dL_isSheet_266 : decode cL_isSheet 266 = .ok (.iconst 1, 1) := by decide +kernel
theorem dL_isSheet_267 : decode cL_isSheet 267 = .ok (.iadd, 1) := by decide +kernel
theorem dL_isSheet_268 : decode cL_isSheet 268 = .ok (.goto 18, 3) := by decide +kernel
theorem dL_isSheet_271 : decode cL_isSheet 271 = .ok (.iload 12, 2) := by decide +kernel
theorem dL_isSheet_273 : decode cL_isSheet 273 = .ok (.iconst 3, 1) := by decide +kernel
theorem dL_isSheet_274 : decode cL_isSheet 274 = .ok (.if_icmp .ne 10, 3) := by decide +kernel
theorem dL_isSheet_277 : decode cL_isSheet 277 = .ok (.iload 11, 2) := by decide +kernel
theorem dL_isSheet_279 : decode cL_isSheet 279 = .ok (.iconst 1, 1) := by decide +kernel
theorem dL_isSheet_280 : decode cL_isSheet 280 = .ok (.isub, 1) := by decide +kernel
theorem dL_isSheet_281 : decode cL_isSheet 281 = .ok (.goto 5, 3) := by decide +kernel
theorem dL_isSheet_284 : decode cL_isSheet 284 = .ok (.iload 11, 2) := by decide +kernel
theorem dL_isSheet_286 : decode cL_isSheet 286 = .ok (.istore 14, 2) := by decide +kernel
theorem dL_isSheet_288 : decode cL_isSheet 288 = .ok (.iload 12, 2) := by decide +kernel
theorem dL_isSheet_290 : decode cL_isSheet 290 = .ok (.ifCond .ne 10, 3) := by decide +kernel
theorem dL_isSheet_293 : decode cL_isSheet 293 = .ok (.iload 10, 2) := by decide +kernel
theorem dL_isSheet_295 : decode cL_isSheet 295 = .ok (.iconst 1, 1) := by decide +kernel
theorem dL_isSheet_296 : decode cL_isSheet 296 = .ok (.iadd, 1) := by decide +kernel
theorem dL_isSheet_297 : decode cL_isSheet 297 = .ok (.goto 36, 3) := by decide +kernel
theorem dL_isSheet_300 : decode cL_isSheet 300 = .ok (.iload 12, 2) := by decide +kernel
theorem dL_isSheet_302 : decode cL_isSheet 302 = .ok (.iconst 1, 1) := by decide +kernel
theorem dL_isSheet_303 : decode cL_isSheet 303 = .ok (.if_icmp .ne 17, 3) := by decide +kernel
theorem dL_isSheet_306 : decode cL_isSheet 306 = .ok (.iload 10, 2) := by decide +kernel
theorem dL_isSheet_308 : decode cL_isSheet 308 = .ok (.aload_n 2, 1) := by decide +kernel
theorem dL_isSheet_309 : decode cL_isSheet 309 = .ok (.iconst 5, 1) := by decide +kernel
theorem dL_isSheet_310 : decode cL_isSheet 310 = .ok (.iload 9, 2) := by decide +kernel
theorem dL_isSheet_312 : decode cL_isSheet 312 = .ok (.imul, 1) := by decide +kernel
theorem dL_isSheet_313 : decode cL_isSheet 313 = .ok (.iconst 4, 1) := by decide +kernel
theorem dL_isSheet_314 : decode cL_isSheet 314 = .ok (.iadd, 1) := by decide +kernel
theorem dL_isSheet_315 : decode cL_isSheet 315 = .ok (.iaload, 1) := by decide +kernel
theorem dL_isSheet_316 : decode cL_isSheet 316 = .ok (.isub, 1) := by decide +kernel
theorem dL_isSheet_317 : decode cL_isSheet 317 = .ok (.goto 16, 3) := by decide +kernel
theorem dL_isSheet_320 : decode cL_isSheet 320 = .ok (.iload 10, 2) := by decide +kernel
theorem dL_isSheet_322 : decode cL_isSheet 322 = .ok (.aload_n 2, 1) := by decide +kernel
theorem dL_isSheet_323 : decode cL_isSheet 323 = .ok (.iconst 5, 1) := by decide +kernel
theorem dL_isSheet_324 : decode cL_isSheet 324 = .ok (.iload 9, 2) := by decide +kernel
theorem dL_isSheet_326 : decode cL_isSheet 326 = .ok (.imul, 1) := by decide +kernel
theorem dL_isSheet_327 : decode cL_isSheet 327 = .ok (.iconst 4, 1) := by decide +kernel
theorem dL_isSheet_328 : decode cL_isSheet 328 = .ok (.iadd, 1) := by decide +kernel
theorem dL_isSheet_329 : decode cL_isSheet 329 = .ok (.iaload, 1) := by decide +kernel
theorem dL_isSheet_330 : decode cL_isSheet 330 = .ok (.iconst 2, 1) := by decide +kernel
theorem dL_isSheet_331 : decode cL_isSheet 331 = .ok (.idiv, 1) := by decide +kernel
theorem dL_isSheet_332 : decode cL_isSheet 332 = .ok (.isub, 1) := by decide +kernel
theorem dL_isSheet_333 : decode cL_isSheet 333 = .ok (.istore 15, 2) := by decide +kernel
theorem dL_isSheet_335 : decode cL_isSheet 335 = .ok (.iconst 0, 1) := by decide +kernel
theorem dL_isSheet_336 : decode cL_isSheet 336 = .ok (.istore 16, 2) := by decide +kernel
theorem dL_isSheet_338 : decode cL_isSheet 338 = .ok (.iload 16, 2) := by decide +kernel
theorem dL_isSheet_340 : decode cL_isSheet 340 = .ok (.aload_n 2, 1) := by decide +kernel
theorem dL_isSheet_341 : decode cL_isSheet 341 = .ok (.iconst 5, 1) := by decide +kernel
theorem dL_isSheet_342 : decode cL_isSheet 342 = .ok (.iload 9, 2) := by decide +kernel
theorem dL_isSheet_344 : decode cL_isSheet 344 = .ok (.imul, 1) := by decide +kernel
theorem dL_isSheet_345 : decode cL_isSheet 345 = .ok (.iconst 4, 1) := by decide +kernel
theorem dL_isSheet_346 : decode cL_isSheet 346 = .ok (.iadd, 1) := by decide +kernel
theorem dL_isSheet_347 : decode cL_isSheet 347 = .ok (.iaload, 1) := by decide +kernel
theorem dL_isSheet_348 : decode cL_isSheet 348 = .ok (.if_icmp .ge 123, 3) := by decide +kernel
theorem dL_isSheet_351 : decode cL_isSheet 351 = .ok (.iload 12, 2) := by decide +kernel
theorem dL_isSheet_353 : decode cL_isSheet 353 = .ok (.ifCond .lt 118, 3) := by decide +kernel
theorem dL_isSheet_356 : decode cL_isSheet 356 = .ok (.iload 8, 2) := by decide +kernel
theorem dL_isSheet_358 : decode cL_isSheet 358 = .ok (.ifCond .eq 113, 3) := by decide +kernel
theorem dL_isSheet_361 : decode cL_isSheet 361 = .ok (.iload 14, 2) := by decide +kernel
theorem dL_isSheet_363 : decode cL_isSheet 363 = .ok (.iload 15, 2) := by decide +kernel
theorem dL_isSheet_365 : decode cL_isSheet 365 = .ok (.iload 16, 2) := by decide +kernel
theorem dL_isSheet_367 : decode cL_isSheet 367 = .ok (.iadd, 1) := by decide +kernel
theorem dL_isSheet_368 : decode cL_isSheet 368 = .ok (.bipush 31, 2) := by decide +kernel
theorem dL_isSheet_370 : decode cL_isSheet 370 = .ok (.if_icmp .le 8, 3) := by decide +kernel
theorem dL_isSheet_373 : decode cL_isSheet 373 = .ok (.bipush 24, 2) := by decide +kernel
theorem dL_isSheet_375 : decode cL_isSheet 375 = .ok (.goto 4, 3) := by decide +kernel
theorem dL_isSheet_378 : decode cL_isSheet 378 = .ok (.iconst 0, 1) := by decide +kernel
theorem dL_isSheet_379 : decode cL_isSheet 379 = .ok (.iadd, 1) := by decide +kernel
theorem dL_isSheet_380 : decode cL_isSheet 380 = .ok (.istore 17, 2) := by decide +kernel
theorem dL_isSheet_382 : decode cL_isSheet 382 = .ok (.iload 14, 2) := by decide +kernel
theorem dL_isSheet_384 : decode cL_isSheet 384 = .ok (.ifCond .lt 51, 3) := by decide +kernel
theorem dL_isSheet_387 : decode cL_isSheet 387 = .ok (.iload 14, 2) := by decide +kernel
theorem dL_isSheet_389 : decode cL_isSheet 389 = .ok (.bipush 24, 2) := by decide +kernel
theorem dL_isSheet_391 : decode cL_isSheet 391 = .ok (.if_icmp .ge 44, 3) := by decide +kernel
theorem dL_isSheet_394 : decode cL_isSheet 394 = .ok (.iload 15, 2) := by decide +kernel
theorem dL_isSheet_396 : decode cL_isSheet 396 = .ok (.iload 16, 2) := by decide +kernel
theorem dL_isSheet_398 : decode cL_isSheet 398 = .ok (.iadd, 1) := by decide +kernel
theorem dL_isSheet_399 : decode cL_isSheet 399 = .ok (.ifCond .lt 36, 3) := by decide +kernel
theorem dL_isSheet_402 : decode cL_isSheet 402 = .ok (.iload 15, 2) := by decide +kernel
theorem dL_isSheet_404 : decode cL_isSheet 404 = .ok (.iload 16, 2) := by decide +kernel
theorem dL_isSheet_406 : decode cL_isSheet 406 = .ok (.iadd, 1) := by decide +kernel
theorem dL_isSheet_407 : decode cL_isSheet 407 = .ok (.bipush 40, 2) := by decide +kernel
theorem dL_isSheet_409 : decode cL_isSheet 409 = .ok (.if_icmp .ge 26, 3) := by decide +kernel
theorem dL_isSheet_412 : decode cL_isSheet 412 = .ok (.aload 5, 2) := by decide +kernel
theorem dL_isSheet_414 : decode cL_isSheet 414 = .ok (.iload 17, 2) := by decide +kernel
theorem dL_isSheet_416 : decode cL_isSheet 416 = .ok (.iaload, 1) := by decide +kernel
theorem dL_isSheet_417 : decode cL_isSheet 417 = .ok (.iload 15, 2) := by decide +kernel
theorem dL_isSheet_419 : decode cL_isSheet 419 = .ok (.iload 16, 2) := by decide +kernel
theorem dL_isSheet_421 : decode cL_isSheet 421 = .ok (.iadd, 1) := by decide +kernel
theorem dL_isSheet_422 : decode cL_isSheet 422 = .ok (.bipush 31, 2) := by decide +kernel
theorem dL_isSheet_424 : decode cL_isSheet 424 = .ok (.iand, 1) := by decide +kernel
theorem dL_isSheet_425 : decode cL_isSheet 425 = .ok (.ishr, 1) := by decide +kernel
theorem dL_isSheet_426 : decode cL_isSheet 426 = .ok (.iconst 1, 1) := by decide +kernel
theorem dL_isSheet_427 : decode cL_isSheet 427 = .ok (.iand, 1) := by decide +kernel
theorem dL_isSheet_428 : decode cL_isSheet 428 = .ok (.ifCond .ne 7, 3) := by decide +kernel
theorem dL_isSheet_431 : decode cL_isSheet 431 = .ok (.iconst 1, 1) := by decide +kernel
theorem dL_isSheet_432 : decode cL_isSheet 432 = .ok (.goto 4, 3) := by decide +kernel
theorem dL_isSheet_435 : decode cL_isSheet 435 = .ok (.iconst 0, 1) := by decide +kernel
theorem dL_isSheet_436 : decode cL_isSheet 436 = .ok (.istore 8, 2) := by decide +kernel
theorem dL_isSheet_438 : decode cL_isSheet 438 = .ok (.aload 5, 2) := by decide +kernel
theorem dL_isSheet_440 : decode cL_isSheet 440 = .ok (.iload 17, 2) := by decide +kernel
theorem dL_isSheet_442 : decode cL_isSheet 442 = .ok (.dup2, 1) := by decide +kernel
theorem dL_isSheet_443 : decode cL_isSheet 443 = .ok (.iaload, 1) := by decide +kernel
theorem dL_isSheet_444 : decode cL_isSheet 444 = .ok (.iload 8, 2) := by decide +kernel
theorem dL_isSheet_446 : decode cL_isSheet 446 = .ok (.ifCond .eq 16, 3) := by decide +kernel
theorem dL_isSheet_449 : decode cL_isSheet 449 = .ok (.iconst 1, 1) := by decide +kernel
theorem dL_isSheet_450 : decode cL_isSheet 450 = .ok (.iload 15, 2) := by decide +kernel
theorem dL_isSheet_452 : decode cL_isSheet 452 = .ok (.iload 16, 2) := by decide +kernel
theorem dL_isSheet_454 : decode cL_isSheet 454 = .ok (.iadd, 1) := by decide +kernel
theorem dL_isSheet_455 : decode cL_isSheet 455 = .ok (.bipush 31, 2) := by decide +kernel
theorem dL_isSheet_457 : decode cL_isSheet 457 = .ok (.iand, 1) := by decide +kernel
theorem dL_isSheet_458 : decode cL_isSheet 458 = .ok (.ishl, 1) := by decide +kernel
theorem dL_isSheet_459 : decode cL_isSheet 459 = .ok (.goto 4, 3) := by decide +kernel
theorem dL_isSheet_462 : decode cL_isSheet 462 = .ok (.iconst 0, 1) := by decide +kernel
theorem dL_isSheet_463 : decode cL_isSheet 463 = .ok (.ior, 1) := by decide +kernel
theorem dL_isSheet_464 : decode cL_isSheet 464 = .ok (.iastore, 1) := by decide +kernel
theorem dL_isSheet_465 : decode cL_isSheet 465 = .ok (.iinc 16 1, 3) := by decide +kernel
theorem dL_isSheet_468 : decode cL_isSheet 468 = .ok (.goto (-130), 3) := by decide +kernel
theorem dL_isSheet_471 : decode cL_isSheet 471 = .ok (.iinc 9 1, 3) := by decide +kernel
theorem dL_isSheet_474 : decode cL_isSheet 474 = .ok (.goto (-456), 3) := by decide +kernel
theorem dL_isSheet_477 : decode cL_isSheet 477 = .ok (.iconst 0, 1) := by decide +kernel
theorem dL_isSheet_478 : decode cL_isSheet 478 = .ok (.istore 9, 2) := by decide +kernel
theorem dL_isSheet_480 : decode cL_isSheet 480 = .ok (.iload 9, 2) := by decide +kernel
theorem dL_isSheet_482 : decode cL_isSheet 482 = .ok (.aload_n 1, 1) := by decide +kernel
theorem dL_isSheet_483 : decode cL_isSheet 483 = .ok (.iconst 0, 1) := by decide +kernel
theorem dL_isSheet_484 : decode cL_isSheet 484 = .ok (.iaload, 1) := by decide +kernel
theorem dL_isSheet_485 : decode cL_isSheet 485 = .ok (.if_icmp .ge 78, 3) := by decide +kernel
theorem dL_isSheet_488 : decode cL_isSheet 488 = .ok (.iload 8, 2) := by decide +kernel
theorem dL_isSheet_490 : decode cL_isSheet 490 = .ok (.ifCond .eq 73, 3) := by decide +kernel
theorem dL_isSheet_493 : decode cL_isSheet 493 = .ok (.aload_n 0, 1) := by decide +kernel
theorem dL_isSheet_494 : decode cL_isSheet 494 = .ok (.iload 4, 2) := by decide +kernel
theorem dL_isSheet_496 : decode cL_isSheet 496 = .ok (.iload 9, 2) := by decide +kernel
theorem dL_isSheet_498 : decode cL_isSheet 498 = .ok (.iconst 0, 1) := by decide +kernel
theorem dL_isSheet_499 : decode cL_isSheet 499 = .ok (.invokestatic 68, 3) := by decide +kernel
theorem dL_isSheet_502 : decode cL_isSheet 502 = .ok (.istore 10, 2) := by decide +kernel
theorem dL_isSheet_504 : decode cL_isSheet 504 = .ok (.aload_n 0, 1) := by decide +kernel
theorem dL_isSheet_505 : decode cL_isSheet 505 = .ok (.iload 4, 2) := by decide +kernel
theorem dL_isSheet_507 : decode cL_isSheet 507 = .ok (.iload 9, 2) := by decide +kernel
theorem dL_isSheet_509 : decode cL_isSheet 509 = .ok (.iconst 1, 1) := by decide +kernel
theorem dL_isSheet_510 : decode cL_isSheet 510 = .ok (.invokestatic 68, 3) := by decide +kernel
theorem dL_isSheet_513 : decode cL_isSheet 513 = .ok (.istore 11, 2) := by decide +kernel
theorem dL_isSheet_515 : decode cL_isSheet 515 = .ok (.iload 10, 2) := by decide +kernel
theorem dL_isSheet_517 : decode cL_isSheet 517 = .ok (.ifCond .lt 33, 3) := by decide +kernel
theorem dL_isSheet_520 : decode cL_isSheet 520 = .ok (.aload 5, 2) := by decide +kernel
theorem dL_isSheet_522 : decode cL_isSheet 522 = .ok (.iload 11, 2) := by decide +kernel
theorem dL_isSheet_524 : decode cL_isSheet 524 = .ok (.iload 10, 2) := by decide +kernel
theorem dL_isSheet_526 : decode cL_isSheet 526 = .ok (.bipush 31, 2) := by decide +kernel
theorem dL_isSheet_528 : decode cL_isSheet 528 = .ok (.if_icmp .le 8, 3) := by decide +kernel
theorem dL_isSheet_531 : decode cL_isSheet 531 = .ok (.bipush 24, 2) := by decide +kernel
theorem dL_isSheet_533 : decode cL_isSheet 533 = .ok (.goto 4, 3) := by decide +kernel
theorem dL_isSheet_536 : decode cL_isSheet 536 = .ok (.iconst 0, 1) := by decide +kernel
theorem dL_isSheet_537 : decode cL_isSheet 537 = .ok (.iadd, 1) := by decide +kernel
theorem dL_isSheet_538 : decode cL_isSheet 538 = .ok (.iaload, 1) := by decide +kernel
theorem dL_isSheet_539 : decode cL_isSheet 539 = .ok (.iload 10, 2) := by decide +kernel
theorem dL_isSheet_541 : decode cL_isSheet 541 = .ok (.bipush 31, 2) := by decide +kernel
theorem dL_isSheet_543 : decode cL_isSheet 543 = .ok (.iand, 1) := by decide +kernel
theorem dL_isSheet_544 : decode cL_isSheet 544 = .ok (.ishr, 1) := by decide +kernel
theorem dL_isSheet_545 : decode cL_isSheet 545 = .ok (.iconst 1, 1) := by decide +kernel
theorem dL_isSheet_546 : decode cL_isSheet 546 = .ok (.iand, 1) := by decide +kernel
theorem dL_isSheet_547 : decode cL_isSheet 547 = .ok (.ifCond .ne 7, 3) := by decide +kernel
theorem dL_isSheet_550 : decode cL_isSheet 550 = .ok (.iconst 1, 1) := by decide +kernel
theorem dL_isSheet_551 : decode cL_isSheet 551 = .ok (.goto 4, 3) := by decide +kernel
theorem dL_isSheet_554 : decode cL_isSheet 554 = .ok (.iconst 0, 1) := by decide +kernel
theorem dL_isSheet_555 : decode cL_isSheet 555 = .ok (.istore 8, 2) := by decide +kernel
theorem dL_isSheet_557 : decode cL_isSheet 557 = .ok (.iinc 9 1, 3) := by decide +kernel
theorem dL_isSheet_560 : decode cL_isSheet 560 = .ok (.goto (-80), 3) := by decide +kernel
theorem dL_isSheet_563 : decode cL_isSheet 563 = .ok (.aload_n 0, 1) := by decide +kernel
theorem dL_isSheet_564 : decode cL_isSheet 564 = .ok (.iload 4, 2) := by decide +kernel
theorem dL_isSheet_566 : decode cL_isSheet 566 = .ok (.invokestatic 80, 3) := by decide +kernel
theorem dL_isSheet_569 : decode cL_isSheet 569 = .ok (.istore 9, 2) := by decide +kernel
theorem dL_isSheet_571 : decode cL_isSheet 571 = .ok (.iload 8, 2) := by decide +kernel
theorem dL_isSheet_573 : decode cL_isSheet 573 = .ok (.ifCond .eq 51, 3) := by decide +kernel
theorem dL_isSheet_576 : decode cL_isSheet 576 = .ok (.iload 9, 2) := by decide +kernel
theorem dL_isSheet_578 : decode cL_isSheet 578 = .ok (.iload 6, 2) := by decide +kernel
theorem dL_isSheet_580 : decode cL_isSheet 580 = .ok (.if_icmp .ne 44, 3) := by decide +kernel
theorem dL_isSheet_583 : decode cL_isSheet 583 = .ok (.iload 7, 2) := by decide +kernel
theorem dL_isSheet_585 : decode cL_isSheet 585 = .ok (.iconst 4, 1) := by decide +kernel
theorem dL_isSheet_586 : decode cL_isSheet 586 = .ok (.if_icmp .le 17, 3) := by decide +kernel
theorem dL_isSheet_589 : decode cL_isSheet 589 = .ok (.aload_n 0, 1) := by decide +kernel
theorem dL_isSheet_590 : decode cL_isSheet 590 = .ok (.iload 4, 2) := by decide +kernel
theorem dL_isSheet_592 : decode cL_isSheet 592 = .ok (.invokestatic 83, 3) := by decide +kernel
theorem dL_isSheet_595 : decode cL_isSheet 595 = .ok (.ldc 21, 2) := by decide +kernel
theorem dL_isSheet_597 : decode cL_isSheet 597 = .ok (.if_icmp .ne 27, 3) := by decide +kernel
theorem dL_isSheet_600 : decode cL_isSheet 600 = .ok (.goto 20, 3) := by decide +kernel
theorem dL_isSheet_603 : decode cL_isSheet 603 = .ok (.iload 7, 2) := by decide +kernel
theorem dL_isSheet_605 : decode cL_isSheet 605 = .ok (.iconst 2, 1) := by decide +kernel
theorem dL_isSheet_606 : decode cL_isSheet 606 = .ok (.if_icmp .gt 14, 3) := by decide +kernel
theorem dL_isSheet_609 : decode cL_isSheet 609 = .ok (.aload_n 0, 1) := by decide +kernel
theorem dL_isSheet_610 : decode cL_isSheet 610 = .ok (.iload 4, 2) := by decide +kernel
theorem dL_isSheet_612 : decode cL_isSheet 612 = .ok (.invokestatic 83, 3) := by decide +kernel
theorem dL_isSheet_615 : decode cL_isSheet 615 = .ok (.iload 9, 2) := by decide +kernel
theorem dL_isSheet_617 : decode cL_isSheet 617 = .ok (.if_icmp .lt 7, 3) := by decide +kernel
theorem dL_isSheet_620 : decode cL_isSheet 620 = .ok (.iconst 1, 1) := by decide +kernel
theorem dL_isSheet_621 : decode cL_isSheet 621 = .ok (.goto 4, 3) := by decide +kernel
theorem dL_isSheet_624 : decode cL_isSheet 624 = .ok (.iconst 0, 1) := by decide +kernel
theorem dL_isSheet_625 : decode cL_isSheet 625 = .ok (.ireturn, 1) := by decide +kernel
theorem dL_isRow_0 : decode cL_isRow 0 = .ok (.aload_n 2, 1) := by decide +kernel
theorem dL_isRow_1 : decode cL_isRow 1 = .ok (.aload_n 3, 1) := by decide +kernel
theorem dL_isRow_2 : decode cL_isRow 2 = .ok (.iload 4, 2) := by decide +kernel
theorem dL_isRow_4 : decode cL_isRow 4 = .ok (.iload 5, 2) := by decide +kernel
theorem dL_isRow_6 : decode cL_isRow 6 = .ok (.invokestatic 76, 3) := by decide +kernel
theorem dL_isRow_9 : decode cL_isRow 9 = .ok (.ifCond .ne 5, 3) := by decide +kernel
theorem dL_isRow_12 : decode cL_isRow 12 = .ok (.iconst 1, 1) := by decide +kernel
theorem dL_isRow_13 : decode cL_isRow 13 = .ok (.ireturn, 1) := by decide +kernel
theorem dL_isRow_14 : decode cL_isRow 14 = .ok (.aload_n 0, 1) := by decide +kernel
theorem dL_isRow_15 : decode cL_isRow 15 = .ok (.iload 4, 2) := by decide +kernel
theorem dL_isRow_17 : decode cL_isRow 17 = .ok (.iload 5, 2) := by decide +kernel
theorem dL_isRow_19 : decode cL_isRow 19 = .ok (.iconst 1, 1) := by decide +kernel
theorem dL_isRow_20 : decode cL_isRow 20 = .ok (.invokestatic 68, 3) := by decide +kernel
theorem dL_isRow_23 : decode cL_isRow 23 = .ok (.istore 6, 2) := by decide +kernel
theorem dL_isRow_25 : decode cL_isRow 25 = .ok (.aload_n 0, 1) := by decide +kernel
theorem dL_isRow_26 : decode cL_isRow 26 = .ok (.iload 4, 2) := by decide +kernel
theorem dL_isRow_28 : decode cL_isRow 28 = .ok (.iload 5, 2) := by decide +kernel
theorem dL_isRow_30 : decode cL_isRow 30 = .ok (.iconst 0, 1) := by decide +kernel
theorem dL_isRow_31 : decode cL_isRow 31 = .ok (.invokestatic 68, 3) := by decide +kernel
theorem dL_isRow_34 : decode cL_isRow 34 = .ok (.istore 7, 2) := by decide +kernel
theorem dL_isRow_36 : decode cL_isRow 36 = .ok (.aload_n 0, 1) := by decide +kernel
theorem dL_isRow_37 : decode cL_isRow 37 = .ok (.iload 4, 2) := by decide +kernel
theorem dL_isRow_39 : decode cL_isRow 39 = .ok (.iload 5, 2) := by decide +kernel
theorem dL_isRow_41 : decode cL_isRow 41 = .ok (.invokestatic 73, 3) := by decide +kernel
theorem dL_isRow_44 : decode cL_isRow 44 = .ok (.istore 8, 2) := by decide +kernel
theorem dL_isRow_46 : decode cL_isRow 46 = .ok (.aload_n 0, 1) := by decide +kernel
theorem dL_isRow_47 : decode cL_isRow 47 = .ok (.iload 4, 2) := by decide +kernel
theorem dL_isRow_49 : decode cL_isRow 49 = .ok (.iload 6, 2) := by decide +kernel
theorem dL_isRow_51 : decode cL_isRow 51 = .ok (.iload 7, 2) := by decide +kernel
theorem dL_isRow_53 : decode cL_isRow 53 = .ok (.invokestatic 85, 3) := by decide +kernel
theorem dL_isRow_56 : decode cL_isRow 56 = .ok (.bipush 42, 2) := by decide +kernel
theorem dL_isRow_58 : decode cL_isRow 58 = .ok (.if_icmp .ne 7, 3) := by decide +kernel
theorem dL_isRow_61 : decode cL_isRow 61 = .ok (.iconst 1, 1) := by decide +kernel
theorem dL_isRow_62 : decode cL_isRow 62 = .ok (.goto 4, 3) := by decide +kernel
theorem dL_isRow_65 : decode cL_isRow 65 = .ok (.iconst 0, 1) := by decide +kernel
theorem dL_isRow_66 : decode cL_isRow 66 = .ok (.istore 9, 2) := by decide +kernel
theorem dL_isRow_68 : decode cL_isRow 68 = .ok (.iload 8, 2) := by decide +kernel
theorem dL_isRow_70 : decode cL_isRow 70 = .ok (.ifCond .eq 9, 3) := by decide +kernel
theorem dL_isRow_73 : decode cL_isRow 73 = .ok (.iload 8, 2) := by decide +kernel
theorem dL_isRow_75 : decode cL_isRow 75 = .ok (.iconst 1, 1) := by decide +kernel
theorem dL_isRow_76 : decode cL_isRow 76 = .ok (.if_icmp .ne 110, 3) := by decide +kernel
theorem dL_isRow_79 : decode cL_isRow 79 = .ok (.iload 8, 2) := by decide +kernel
theorem dL_isRow_81 : decode cL_isRow 81 = .ok (.ifCond .ne 10, 3) := by decide +kernel
theorem dL_isRow_84 : decode cL_isRow 84 = .ok (.iload 7, 2) := by decide +kernel
theorem dL_isRow_86 : decode cL_isRow 86 = .ok (.iconst 1, 1) := by decide +kernel
theorem dL_isRow_87 : decode cL_isRow 87 = .ok (.iadd, 1) := by decide +kernel
theorem dL_isRow_88 : decode cL_isRow 88 = .ok (.goto 14, 3) := by decide +kernel
theorem dL_isRow_91 : decode cL_isRow 91 = .ok (.iload 7, 2) := by decide +kernel
theorem dL_isRow_93 : decode cL_isRow 93 = .ok (.aload_n 2, 1) := by decide +kernel
theorem dL_isRow_94 : decode cL_isRow 94 = .ok (.iconst 5, 1) := by decide +kernel
theorem dL_isRow_95 : decode cL_isRow 95 = .ok (.iload 5, 2) := by decide +kernel
theorem dL_isRow_97 : decode cL_isRow 97 = .ok (.imul, 1) := by decide +kernel
theorem dL_isRow_98 : decode cL_isRow 98 = .ok (.iconst 4, 1) := by decide +kernel
theorem dL_isRow_99 : decode cL_isRow 99 = .ok (.iadd, 1) := by decide +kernel
theorem dL_isRow_100 : decode cL_isRow 100 = .ok (.iaload, 1) := by decide +kernel
theorem dL_isRow_101 : decode cL_isRow 101 = .ok (.isub, 1) := by decide +kernel
theorem dL_isRow_102 : decode cL_isRow 102 = .ok (.istore 10, 2) := by decide +kernel
theorem dL_isRow_104 : decode cL_isRow 104 = .ok (.iload 10, 2) := by decide +kernel
theorem dL_isRow_106 : decode cL_isRow 106 = .ok (.aload_n 2, 1) := by decide +kernel
theorem dL_isRow_107 : decode cL_isRow 107 = .ok (.iconst 5, 1) := by decide +kernel
theorem dL_isRow_108 : decode cL_isRow 108 = .ok (.iload 5, 2) := by decide +kernel
theorem dL_isRow_110 : decode cL_isRow 110 = .ok (.imul, 1) := by decide +kernel
theorem dL_isRow_111 : decode cL_isRow 111 = .ok (.iconst 4, 1) := by decide +kernel
theorem dL_isRow_112 : decode cL_isRow 112 = .ok (.iadd, 1) := by decide +kernel
theorem dL_isRow_113 : decode cL_isRow 113 = .ok (.iaload, 1) := by decide +kernel
theorem dL_isRow_114 : decode cL_isRow 114 = .ok (.iadd, 1) := by decide +kernel
theorem dL_isRow_115 : decode cL_isRow 115 = .ok (.iconst 1, 1) := by decide +kernel
theorem dL_isRow_116 : decode cL_isRow 116 = .ok (.isub, 1) := by decide +kernel
theorem dL_isRow_117 : decode cL_isRow 117 = .ok (.istore 11, 2) := by decide +kernel
theorem dL_isRow_119 : decode cL_isRow 119 = .ok (.iload 9, 2) := by decide +kernel
theorem dL_isRow_121 : decode cL_isRow 121 = .ok (.ifCond .eq 62, 3) := by decide +kernel
theorem dL_isRow_124 : decode cL_isRow 124 = .ok (.aload_n 0, 1) := by decide +kernel
theorem dL_isRow_125 : decode cL_isRow 125 = .ok (.iload 4, 2) := by decide +kernel
theorem dL_isRow_127 : decode cL_isRow 127 = .ok (.iload 6, 2) := by decide +kernel
theorem dL_isRow_129 : decode cL_isRow 129 = .ok (.iload 10, 2) := by decide +kernel
theorem dL_isRow_131 : decode cL_isRow 131 = .ok (.invokestatic 85, 3) := by decide +kernel
theorem dL_isRow_134 : decode cL_isRow 134 = .ok (.aload_n 0, 1) := by decide +kernel
theorem dL_isRow_135 : decode cL_isRow 135 = .ok (.iload 5, 2) := by decide +kernel
theorem dL_isRow_137 : decode cL_isRow 137 = .ok (.aload_n 1, 1) := by decide +kernel
theorem dL_isRow_138 : decode cL_isRow 138 = .ok (.iconst 3, 1) := by decide +kernel
theorem dL_isRow_139 : decode cL_isRow 139 = .ok (.iaload, 1) := by decide +kernel
theorem dL_isRow_140 : decode cL_isRow 140 = .ok (.iconst 0, 1) := by decide +kernel
theorem dL_isRow_141 : decode cL_isRow 141 = .ok (.invokestatic 88, 3) := by decide +kernel
theorem dL_isRow_144 : decode cL_isRow 144 = .ok (.if_icmp .ne 39, 3) := by decide +kernel
theorem dL_isRow_147 : decode cL_isRow 147 = .ok (.aload_n 0, 1) := by decide +kernel
theorem dL_isRow_148 : decode cL_isRow 148 = .ok (.iload 4, 2) := by decide +kernel
theorem dL_isRow_150 : decode cL_isRow 150 = .ok (.iload 6, 2) := by decide +kernel
theorem dL_isRow_152 : decode cL_isRow 152 = .ok (.iload 11, 2) := by decide +kernel
theorem dL_isRow_154 : decode cL_isRow 154 = .ok (.invokestatic 85, 3) := by decide +kernel
theorem dL_isRow_157 : decode cL_isRow 157 = .ok (.aload_n 0, 1) := by decide +kernel
theorem dL_isRow_158 : decode cL_isRow 158 = .ok (.iload 5, 2) := by decide +kernel
theorem dL_isRow_160 : decode cL_isRow 160 = .ok (.aload_n 1, 1) := by decide +kernel
theorem dL_isRow_161 : decode cL_isRow 161 = .ok (.iconst 3, 1) := by decide +kernel
theorem dL_isRow_162 : decode cL_isRow 162 = .ok (.iaload, 1) := by decide +kernel
theorem dL_isRow_163 : decode cL_isRow 163 = .ok (.aload_n 2, 1) := by decide +kernel
theorem dL_isRow_164 : decode cL_isRow 164 = .ok (.iconst 5, 1) := by decide +kernel
theorem dL_isRow_165 : decode cL_isRow 165 = .ok (.iload 5, 2) := by decide +kernel
theorem dL_isRow_167 : decode cL_isRow 167 = .ok (.imul, 1) := by decide +kernel
theorem dL_isRow_168 : decode cL_isRow 168 = .ok (.iconst 4, 1) := by decide +kernel
theorem dL_isRow_169 : decode cL_isRow 169 = .ok (.iadd, 1) := by decide +kernel
theorem dL_isRow_170 : decode cL_isRow 170 = .ok (.iaload, 1) := by decide +kernel
theorem dL_isRow_171 : decode cL_isRow 171 = .ok (.iconst 1, 1) := by decide +kernel
theorem dL_isRow_172 : decode cL_isRow 172 = .ok (.isub, 1) := by decide +kernel
theorem dL_isRow_173 : decode cL_isRow 173 = .ok (.invokestatic 88, 3) := by decide +kernel
theorem dL_isRow_176 : decode cL_isRow 176 = .ok (.if_icmp .ne 7, 3) := by decide +kernel
theorem dL_isRow_179 : decode cL_isRow 179 = .ok (.iconst 1, 1) := by decide +kernel
theorem dL_isRow_180 : decode cL_isRow 180 = .ok (.goto 4, 3) := by decide +kernel
theorem dL_isRow_183 : decode cL_isRow 183 = .ok (.iconst 0, 1) := by decide +kernel
theorem dL_isRow_184 : decode cL_isRow 184 = .ok (.istore 9, 2) := by decide +kernel
theorem dL_isRow_186 : decode cL_isRow 186 = .ok (.aload_n 0, 1) := by decide +kernel
theorem dL_isRow_187 : decode cL_isRow 187 = .ok (.iload 4, 2) := by decide +kernel
theorem dL_isRow_189 : decode cL_isRow 189 = .ok (.iload 6, 2) := by decide +kernel
theorem dL_isRow_191 : decode cL_isRow 191 = .ok (.iload 7, 2) := by decide +kernel
theorem dL_isRow_193 : decode cL_isRow 193 = .ok (.bipush 17, 2) := by decide +kernel
theorem dL_isRow_195 : decode cL_isRow 195 = .ok (.iadd, 1) := by decide +kernel
theorem dL_isRow_196 : decode cL_isRow 196 = .ok (.bipush 40, 2) := by decide +kernel
theorem dL_isRow_198 : decode cL_isRow 198 = .ok (.irem, 1) := by decide +kernel
theorem dL_isRow_199 : decode cL_isRow 199 = .ok (.invokestatic 85, 3) := by decide +kernel
theorem dL_isRow_202 : decode cL_isRow 202 = .ok (.istore 10, 2) := by decide +kernel
theorem dL_isRow_204 : decode cL_isRow 204 = .ok (.iload 9, 2) := by decide +kernel
theorem dL_isRow_206 : decode cL_isRow 206 = .ok (.ifCond .eq 35, 3) := by decide +kernel
theorem dL_isRow_209 : decode cL_isRow 209 = .ok (.iload 10, 2) := by decide +kernel
theorem dL_isRow_211 : decode cL_isRow 211 = .ok (.bipush 46, 2) := by decide +kernel
theorem dL_isRow_213 : decode cL_isRow 213 = .ok (.if_icmp .eq 24, 3) := by decide +kernel
theorem dL_isRow_216 : decode cL_isRow 216 = .ok (.iload 10, 2) := by decide +kernel
theorem dL_isRow_218 : decode cL_isRow 218 = .ok (.bipush 42, 2) := by decide +kernel
theorem dL_isRow_220 : decode cL_isRow 220 = .ok (.if_icmp .eq 17, 3) := by decide +kernel
theorem dL_isRow_223 : decode cL_isRow 223 = .ok (.iload 10, 2) := by decide +kernel
theorem dL_isRow_225 : decode cL_isRow 225 = .ok (.bipush 97, 2) := by decide +kernel
theorem dL_isRow_227 : decode cL_isRow 227 = .ok (.if_icmp .lt 14, 3) := by decide +kernel
theorem dL_isRow_230 : decode cL_isRow 230 = .ok (.iload 10, 2) := by decide +kernel
theorem dL_isRow_232 : decode cL_isRow 232 = .ok (.bipush 122, 2) := by decide +kernel
theorem dL_isRow_234 : decode cL_isRow 234 = .ok (.if_icmp .gt 7, 3) := by decide +kernel
theorem dL_isRow_237 : decode cL_isRow 237 = .ok (.iconst 1, 1) := by decide +kernel
theorem dL_isRow_238 : decode cL_isRow 238 = .ok (.goto 4, 3) := by decide +kernel
theorem dL_isRow_241 : decode cL_isRow 241 = .ok (.iconst 0, 1) := by decide +kernel
theorem dL_isRow_242 : decode cL_isRow 242 = .ok (.ireturn, 1) := by decide +kernel
theorem dL_types_0 : decode cL_types 0 = .ok (.iconst 1, 1) := by decide +kernel
theorem dL_types_1 : decode cL_types 1 = .ok (.istore 4, 2) := by decide +kernel
theorem dL_types_3 : decode cL_types 3 = .ok (.iconst 1, 1) := by decide +kernel
theorem dL_types_4 : decode cL_types 4 = .ok (.iload_n 2, 1) := by decide +kernel
theorem dL_types_5 : decode cL_types 5 = .ok (.iconst 4, 1) := by decide +kernel
theorem dL_types_6 : decode cL_types 6 = .ok (.invokestatic 90, 3) := by decide +kernel
theorem dL_types_9 : decode cL_types 9 = .ok (.iadd, 1) := by decide +kernel
theorem dL_types_10 : decode cL_types 10 = .ok (.istore 5, 2) := by decide +kernel
theorem dL_types_12 : decode cL_types 12 = .ok (.iconst 0, 1) := by decide +kernel
theorem dL_types_13 : decode cL_types 13 = .ok (.istore 6, 2) := by decide +kernel
theorem dL_types_15 : decode cL_types 15 = .ok (.iload 6, 2) := by decide +kernel
theorem dL_types_17 : decode cL_types 17 = .ok (.iload 5, 2) := by decide +kernel
theorem dL_types_19 : decode cL_types 19 = .ok (.if_icmp .ge 80, 3) := by decide +kernel
theorem dL_types_22 : decode cL_types 22 = .ok (.iload 4, 2) := by decide +kernel
theorem dL_types_24 : decode cL_types 24 = .ok (.ifCond .eq 47, 3) := by decide +kernel
theorem dL_types_27 : decode cL_types 27 = .ok (.aload_n 0, 1) := by decide +kernel
theorem dL_types_28 : decode cL_types 28 = .ok (.bipush 97, 2) := by decide +kernel
theorem dL_types_30 : decode cL_types 30 = .ok (.iload_n 3, 1) := by decide +kernel
theorem dL_types_31 : decode cL_types 31 = .ok (.iconst 4, 1) := by decide +kernel
theorem dL_types_32 : decode cL_types 32 = .ok (.iload 6, 2) := by decide +kernel
theorem dL_types_34 : decode cL_types 34 = .ok (.imul, 1) := by decide +kernel
theorem dL_types_35 : decode cL_types 35 = .ok (.ishr, 1) := by decide +kernel
theorem dL_types_36 : decode cL_types 36 = .ok (.bipush 26, 2) := by decide +kernel
theorem dL_types_38 : decode cL_types 38 = .ok (.invokestatic 90, 3) := by decide +kernel
theorem dL_types_41 : decode cL_types 41 = .ok (.iadd, 1) := by decide +kernel
theorem dL_types_42 : decode cL_types 42 = .ok (.i2c, 1) := by decide +kernel
theorem dL_types_43 : decode cL_types 43 = .ok (.invokestatic 93, 3) := by decide +kernel
theorem dL_types_46 : decode cL_types 46 = .ok (.aload_n 1, 1) := by decide +kernel
theorem dL_types_47 : decode cL_types 47 = .ok (.iconst 4, 1) := by decide +kernel
theorem dL_types_48 : decode cL_types 48 = .ok (.iaload, 1) := by decide +kernel
theorem dL_types_49 : decode cL_types 49 = .ok (.bipush 8, 2) := by decide +kernel
theorem dL_types_51 : decode cL_types 51 = .ok (.if_icmp .ne 8, 3) := by decide +kernel
theorem dL_types_54 : decode cL_types 54 = .ok (.ldc 21, 2) := by decide +kernel
theorem dL_types_56 : decode cL_types 56 = .ok (.goto 8, 3) := by decide +kernel
theorem dL_types_59 : decode cL_types 59 = .ok (.aload_n 1, 1) := by decide +kernel
theorem dL_types_60 : decode cL_types 60 = .ok (.iconst 4, 1) := by decide +kernel
theorem dL_types_61 : decode cL_types 61 = .ok (.iaload, 1) := by decide +kernel
theorem dL_types_62 : decode cL_types 62 = .ok (.iconst 1, 1) := by decide +kernel
theorem dL_types_63 : decode cL_types 63 = .ok (.iadd, 1) := by decide +kernel
theorem dL_types_64 : decode cL_types 64 = .ok (.if_icmp .ne 7, 3) := by decide +kernel
theorem dL_types_67 : decode cL_types 67 = .ok (.iconst 1, 1) := by decide +kernel
theorem dL_types_68 : decode cL_types 68 = .ok (.goto 4, 3) := by decide +kernel
theorem dL_types_71 : decode cL_types 71 = .ok (.iconst 0, 1) := by decide +kernel
theorem dL_types_72 : decode cL_types 72 = .ok (.istore 4, 2) := by decide +kernel
theorem dL_types_74 : decode cL_types 74 = .ok (.aload_n 1, 1) := by decide +kernel
theorem dL_types_75 : decode cL_types 75 = .ok (.iconst 4, 1) := by decide +kernel
theorem dL_types_76 : decode cL_types 76 = .ok (.dup2, 1) := by decide +kernel
theorem dL_types_77 : decode cL_types 77 = .ok (.iaload, 1) := by decide +kernel
theorem dL_types_78 : decode cL_types 78 = .ok (.aload_n 1, 1) := by decide +kernel
theorem dL_types_79 : decode cL_types 79 = .ok (.iconst 4, 1) := by decide +kernel
theorem dL_types_80 : decode cL_types 80 = .ok (.iaload, 1) := by decide +kernel
theorem dL_types_81 : decode cL_types 81 = .ok (.bipush 8, 2) := by decide +kernel
theorem dL_types_83 : decode cL_types 83 = .ok (.if_icmp .ge 7, 3) := by decide +kernel
theorem dL_types_86 : decode cL_types 86 = .ok (.iconst 1, 1) := by decide +kernel
theorem dL_types_87 : decode cL_types 87 = .ok (.goto 4, 3) := by decide +kernel
theorem dL_types_90 : decode cL_types 90 = .ok (.iconst 0, 1) := by decide +kernel
theorem dL_types_91 : decode cL_types 91 = .ok (.iadd, 1) := by decide +kernel
theorem dL_types_92 : decode cL_types 92 = .ok (.iastore, 1) := by decide +kernel
theorem dL_types_93 : decode cL_types 93 = .ok (.iinc 6 1, 3) := by decide +kernel
theorem dL_types_96 : decode cL_types 96 = .ok (.goto (-81), 3) := by decide +kernel
theorem dL_types_99 : decode cL_types 99 = .ok (.iload 4, 2) := by decide +kernel
theorem dL_types_101 : decode cL_types 101 = .ok (.ireturn, 1) := by decide +kernel
theorem dL_names_0 : decode cL_names 0 = .ok (.aload_n 0, 1) := by decide +kernel
theorem dL_names_1 : decode cL_names 1 = .ok (.iload_n 3, 1) := by decide +kernel
theorem dL_names_2 : decode cL_names 2 = .ok (.invokestatic 96, 3) := by decide +kernel
theorem dL_names_5 : decode cL_names 5 = .ok (.istore 4, 2) := by decide +kernel
theorem dL_names_7 : decode cL_names 7 = .ok (.aload_n 1, 1) := by decide +kernel
theorem dL_names_8 : decode cL_names 8 = .ok (.iconst 4, 1) := by decide +kernel
theorem dL_names_9 : decode cL_names 9 = .ok (.iaload, 1) := by decide +kernel
theorem dL_names_10 : decode cL_names 10 = .ok (.ifCond .eq 15, 3) := by decide +kernel
theorem dL_names_13 : decode cL_names 13 = .ok (.aload_n 2, 1) := by decide +kernel
theorem dL_names_14 : decode cL_names 14 = .ok (.iconst 5, 1) := by decide +kernel
theorem dL_names_15 : decode cL_names 15 = .ok (.iload_n 3, 1) := by decide +kernel
theorem dL_names_16 : decode cL_names 16 = .ok (.imul, 1) := by decide +kernel
theorem dL_names_17 : decode cL_names 17 = .ok (.iconst 3, 1) := by decide +kernel
theorem dL_names_18 : decode cL_names 18 = .ok (.iadd, 1) := by decide +kernel
theorem dL_names_19 : decode cL_names 19 = .ok (.iaload, 1) := by decide +kernel
theorem dL_names_20 : decode cL_names 20 = .ok (.bipush 6, 2) := by decide +kernel
theorem dL_names_22 : decode cL_names 22 = .ok (.if_icmp .ne 16, 3) := by decide +kernel
theorem dL_names_25 : decode cL_names 25 = .ok (.iload 4, 2) := by decide +kernel
theorem dL_names_27 : decode cL_names 27 = .ok (.ldc 21, 2) := by decide +kernel
theorem dL_names_29 : decode cL_names 29 = .ok (.if_icmp .ne 7, 3) := by decide +kernel
theorem dL_names_32 : decode cL_names 32 = .ok (.iconst 1, 1) := by decide +kernel
theorem dL_names_33 : decode cL_names 33 = .ok (.goto 4, 3) := by decide +kernel
theorem dL_names_36 : decode cL_names 36 = .ok (.iconst 0, 1) := by decide +kernel
theorem dL_names_37 : decode cL_names 37 = .ok (.ireturn, 1) := by decide +kernel
theorem dL_names_38 : decode cL_names 38 = .ok (.aload_n 2, 1) := by decide +kernel
theorem dL_names_39 : decode cL_names 39 = .ok (.iconst 5, 1) := by decide +kernel
theorem dL_names_40 : decode cL_names 40 = .ok (.iload_n 3, 1) := by decide +kernel
theorem dL_names_41 : decode cL_names 41 = .ok (.imul, 1) := by decide +kernel
theorem dL_names_42 : decode cL_names 42 = .ok (.iconst 3, 1) := by decide +kernel
theorem dL_names_43 : decode cL_names 43 = .ok (.iadd, 1) := by decide +kernel
theorem dL_names_44 : decode cL_names 44 = .ok (.dup2, 1) := by decide +kernel
theorem dL_names_45 : decode cL_names 45 = .ok (.iaload, 1) := by decide +kernel
theorem dL_names_46 : decode cL_names 46 = .ok (.iconst 1, 1) := by decide +kernel
theorem dL_names_47 : decode cL_names 47 = .ok (.iadd, 1) := by decide +kernel
theorem dL_names_48 : decode cL_names 48 = .ok (.iastore, 1) := by decide +kernel
theorem dL_names_49 : decode cL_names 49 = .ok (.aload_n 2, 1) := by decide +kernel
theorem dL_names_50 : decode cL_names 50 = .ok (.iconst 5, 1) := by decide +kernel
theorem dL_names_51 : decode cL_names 51 = .ok (.iload_n 3, 1) := by decide +kernel
theorem dL_names_52 : decode cL_names 52 = .ok (.imul, 1) := by decide +kernel
theorem dL_names_53 : decode cL_names 53 = .ok (.iconst 4, 1) := by decide +kernel
theorem dL_names_54 : decode cL_names 54 = .ok (.iadd, 1) := by decide +kernel
theorem dL_names_55 : decode cL_names 55 = .ok (.aload_n 1, 1) := by decide +kernel
theorem dL_names_56 : decode cL_names 56 = .ok (.iconst 4, 1) := by decide +kernel
theorem dL_names_57 : decode cL_names 57 = .ok (.iaload, 1) := by decide +kernel
theorem dL_names_58 : decode cL_names 58 = .ok (.iastore, 1) := by decide +kernel
theorem dL_names_59 : decode cL_names 59 = .ok (.aload_n 1, 1) := by decide +kernel
theorem dL_names_60 : decode cL_names 60 = .ok (.iconst 4, 1) := by decide +kernel
theorem dL_names_61 : decode cL_names 61 = .ok (.iconst 0, 1) := by decide +kernel
theorem dL_names_62 : decode cL_names 62 = .ok (.iastore, 1) := by decide +kernel
theorem dL_names_63 : decode cL_names 63 = .ok (.iload 4, 2) := by decide +kernel
theorem dL_names_65 : decode cL_names 65 = .ok (.ifCond .lt 117, 3) := by decide +kernel
theorem dL_names_68 : decode cL_names 68 = .ok (.iload 4, 2) := by decide +kernel
theorem dL_names_70 : decode cL_names 70 = .ok (.aload_n 1, 1) := by decide +kernel
theorem dL_names_71 : decode cL_names 71 = .ok (.iconst 0, 1) := by decide +kernel
theorem dL_names_72 : decode cL_names 72 = .ok (.iaload, 1) := by decide +kernel
theorem dL_names_73 : decode cL_names 73 = .ok (.iconst 1, 1) := by decide +kernel
theorem dL_names_74 : decode cL_names 74 = .ok (.isub, 1) := by decide +kernel
theorem dL_names_75 : decode cL_names 75 = .ok (.aload_n 1, 1) := by decide +kernel
theorem dL_names_76 : decode cL_names 76 = .ok (.iconst 1, 1) := by decide +kernel
theorem dL_names_77 : decode cL_names 77 = .ok (.iaload, 1) := by decide +kernel
theorem dL_names_78 : decode cL_names 78 = .ok (.imul, 1) := by decide +kernel
theorem dL_names_79 : decode cL_names 79 = .ok (.if_icmp .gt 103, 3) := by decide +kernel
theorem dL_names_82 : decode cL_names 82 = .ok (.aload_n 0, 1) := by decide +kernel
theorem dL_names_83 : decode cL_names 83 = .ok (.iload_n 3, 1) := by decide +kernel
theorem dL_names_84 : decode cL_names 84 = .ok (.aload_n 1, 1) := by decide +kernel
theorem dL_names_85 : decode cL_names 85 = .ok (.iconst 3, 1) := by decide +kernel
theorem dL_names_86 : decode cL_names 86 = .ok (.iaload, 1) := by decide +kernel
theorem dL_names_87 : decode cL_names 87 = .ok (.aload_n 2, 1) := by decide +kernel
theorem dL_names_88 : decode cL_names 88 = .ok (.iconst 5, 1) := by decide +kernel
theorem dL_names_89 : decode cL_names 89 = .ok (.iload_n 3, 1) := by decide +kernel
theorem dL_names_90 : decode cL_names 90 = .ok (.imul, 1) := by decide +kernel
theorem dL_names_91 : decode cL_names 91 = .ok (.iconst 4, 1) := by decide +kernel
theorem dL_names_92 : decode cL_names 92 = .ok (.iadd, 1) := by decide +kernel
theorem dL_names_93 : decode cL_names 93 = .ok (.iaload, 1) := by decide +kernel
theorem dL_names_94 : decode cL_names 94 = .ok (.iconst 1, 1) := by decide +kernel
theorem dL_names_95 : decode cL_names 95 = .ok (.isub, 1) := by decide +kernel
theorem dL_names_96 : decode cL_names 96 = .ok (.invokestatic 88, 3) := by decide +kernel
theorem dL_names_99 : decode cL_names 99 = .ok (.bipush 32, 2) := by decide +kernel
theorem dL_names_101 : decode cL_names 101 = .ok (.if_icmp .eq 81, 3) := by decide +kernel
theorem dL_names_104 : decode cL_names 104 = .ok (.aload_n 0, 1) := by decide +kernel
theorem dL_names_105 : decode cL_names 105 = .ok (.iload_n 3, 1) := by decide +kernel
theorem dL_names_106 : decode cL_names 106 = .ok (.aload_n 1, 1) := by decide +kernel
theorem dL_names_107 : decode cL_names 107 = .ok (.iconst 3, 1) := by decide +kernel
theorem dL_names_108 : decode cL_names 108 = .ok (.iaload, 1) := by decide +kernel
theorem dL_names_109 : decode cL_names 109 = .ok (.aload_n 2, 1) := by decide +kernel
theorem dL_names_110 : decode cL_names 110 = .ok (.iconst 5, 1) := by decide +kernel
theorem dL_names_111 : decode cL_names 111 = .ok (.iload_n 3, 1) := by decide +kernel
theorem dL_names_112 : decode cL_names 112 = .ok (.imul, 1) := by decide +kernel
theorem dL_names_113 : decode cL_names 113 = .ok (.iconst 4, 1) := by decide +kernel
theorem dL_names_114 : decode cL_names 114 = .ok (.iadd, 1) := by decide +kernel
theorem dL_names_115 : decode cL_names 115 = .ok (.iaload, 1) := by decide +kernel
theorem dL_names_116 : decode cL_names 116 = .ok (.invokestatic 88, 3) := by decide +kernel
theorem dL_names_119 : decode cL_names 119 = .ok (.bipush 32, 2) := by decide +kernel
theorem dL_names_121 : decode cL_names 121 = .ok (.if_icmp .ne 61, 3) := by decide +kernel
theorem dL_names_124 : decode cL_names 124 = .ok (.aload_n 0, 1) := by decide +kernel
theorem dL_names_125 : decode cL_names 125 = .ok (.iload_n 3, 1) := by decide +kernel
theorem dL_names_126 : decode cL_names 126 = .ok (.sipush 10000, 3) := by decide +kernel
theorem dL_names_129 : decode cL_names 129 = .ok (.iconst 0, 1) := by decide +kernel
theorem dL_names_130 : decode cL_names 130 = .ok (.invokestatic 88, 3) := by decide +kernel
theorem dL_names_133 : decode cL_names 133 = .ok (.aload_n 0, 1) := by decide +kernel
theorem dL_names_134 : decode cL_names 134 = .ok (.iload_n 3, 1) := by decide +kernel
theorem dL_names_135 : decode cL_names 135 = .ok (.aload_n 1, 1) := by decide +kernel
theorem dL_names_136 : decode cL_names 136 = .ok (.iconst 3, 1) := by decide +kernel
theorem dL_names_137 : decode cL_names 137 = .ok (.iaload, 1) := by decide +kernel
theorem dL_names_138 : decode cL_names 138 = .ok (.iconst 0, 1) := by decide +kernel
theorem dL_names_139 : decode cL_names 139 = .ok (.invokestatic 88, 3) := by decide +kernel
theorem dL_names_142 : decode cL_names 142 = .ok (.if_icmp .ne 40, 3) := by decide +kernel
theorem dL_names_145 : decode cL_names 145 = .ok (.aload_n 2, 1) := by decide +kernel
theorem dL_names_146 : decode cL_names 146 = .ok (.iconst 5, 1) := by decide +kernel
theorem dL_names_147 : decode cL_names 147 = .ok (.iload_n 3, 1) := by decide +kernel
theorem dL_names_148 : decode cL_names 148 = .ok (.imul, 1) := by decide +kernel
theorem dL_names_149 : decode cL_names 149 = .ok (.iconst 3, 1) := by decide +kernel
theorem dL_names_150 : decode cL_names 150 = .ok (.iadd, 1) := by decide +kernel
theorem dL_names_151 : decode cL_names 151 = .ok (.iaload, 1) := by decide +kernel
theorem dL_names_152 : decode cL_names 152 = .ok (.iconst 1, 1) := by decide +kernel
theorem dL_names_153 : decode cL_names 153 = .ok (.if_icmp .gt 25, 3) := by decide +kernel
theorem dL_names_156 : decode cL_names 156 = .ok (.aload_n 1, 1) := by decide +kernel
theorem dL_names_157 : decode cL_names 157 = .ok (.iconst 3, 1) := by decide +kernel
theorem dL_names_158 : decode cL_names 158 = .ok (.iaload, 1) := by decide +kernel
theorem dL_names_159 : decode cL_names 159 = .ok (.ifCond .eq 19, 3) := by decide +kernel
theorem dL_names_162 : decode cL_names 162 = .ok (.aload_n 0, 1) := by decide +kernel
theorem dL_names_163 : decode cL_names 163 = .ok (.iload_n 3, 1) := by decide +kernel
theorem dL_names_164 : decode cL_names 164 = .ok (.aload_n 1, 1) := by decide +kernel
theorem dL_names_165 : decode cL_names 165 = .ok (.iconst 3, 1) := by decide +kernel
theorem dL_names_166 : decode cL_names 166 = .ok (.iaload, 1) := by decide +kernel
theorem dL_names_167 : decode cL_names 167 = .ok (.iconst 1, 1) := by decide +kernel
theorem dL_names_168 : decode cL_names 168 = .ok (.isub, 1) := by decide +kernel
theorem dL_names_169 : decode cL_names 169 = .ok (.iconst 0, 1) := by decide +kernel
theorem dL_names_170 : decode cL_names 170 = .ok (.invokestatic 88, 3) := by decide +kernel
theorem dL_names_173 : decode cL_names 173 = .ok (.bipush 32, 2) := by decide +kernel
theorem dL_names_175 : decode cL_names 175 = .ok (.if_icmp .ne 7, 3) := by decide +kernel
theorem dL_names_178 : decode cL_names 178 = .ok (.iconst 1, 1) := by decide +kernel
theorem dL_names_179 : decode cL_names 179 = .ok (.goto 4, 3) := by decide +kernel
theorem dL_names_182 : decode cL_names 182 = .ok (.iconst 0, 1) := by decide +kernel
theorem dL_names_183 : decode cL_names 183 = .ok (.ireturn, 1) := by decide +kernel
theorem dL_makes_0 : decode cL_makes 0 = .ok (.iload 4, 2) := by decide +kernel
theorem dL_makes_2 : decode cL_makes 2 = .ok (.iconst 4, 1) := by decide +kernel
theorem dL_makes_3 : decode cL_makes 3 = .ok (.invokestatic 90, 3) := by decide +kernel
theorem dL_makes_6 : decode cL_makes 6 = .ok (.ifCond .ne 127, 3) := by decide +kernel
theorem dL_makes_9 : decode cL_makes 9 = .ok (.iload 5, 2) := by decide +kernel
theorem dL_makes_11 : decode cL_makes 11 = .ok (.iconst 4, 1) := by decide +kernel
theorem dL_makes_12 : decode cL_makes 12 = .ok (.invokestatic 90, 3) := by decide +kernel
theorem dL_makes_15 : decode cL_makes 15 = .ok (.bipush 10, 2) := by decide +kernel
theorem dL_makes_17 : decode cL_makes 17 = .ok (.imul, 1) := by decide +kernel
theorem dL_makes_18 : decode cL_makes 18 = .ok (.bipush 20, 2) := by decide +kernel
theorem dL_makes_20 : decode cL_makes 20 = .ok (.isub, 1) := by decide +kernel
theorem dL_makes_21 : decode cL_makes 21 = .ok (.istore 6, 2) := by decide +kernel
theorem dL_makes_23 : decode cL_makes 23 = .ok (.iload 5, 2) := by decide +kernel
theorem dL_makes_25 : decode cL_makes 25 = .ok (.iconst 2, 1) := by decide +kernel
theorem dL_makes_26 : decode cL_makes 26 = .ok (.ishr, 1) := by decide +kernel
theorem dL_makes_27 : decode cL_makes 27 = .ok (.iconst 3, 1) := by decide +kernel
theorem dL_makes_28 : decode cL_makes 28 = .ok (.invokestatic 90, 3) := by decide +kernel
theorem dL_makes_31 : decode cL_makes 31 = .ok (.iconst 5, 1) := by decide +kernel
theorem dL_makes_32 : decode cL_makes 32 = .ok (.imul, 1) := by decide +kernel
theorem dL_makes_33 : decode cL_makes 33 = .ok (.iconst 5, 1) := by decide +kernel
theorem dL_makes_34 : decode cL_makes 34 = .ok (.isub, 1) := by decide +kernel
theorem dL_makes_35 : decode cL_makes 35 = .ok (.istore 7, 2) := by decide +kernel
theorem dL_makes_37 : decode cL_makes 37 = .ok (.iload 5, 2) := by decide +kernel
theorem dL_makes_39 : decode cL_makes 39 = .ok (.iconst 4, 1) := by decide +kernel
theorem dL_makes_40 : decode cL_makes 40 = .ok (.ishr, 1) := by decide +kernel
theorem dL_makes_41 : decode cL_makes 41 = .ok (.iconst 2, 1) := by decide +kernel
theorem dL_makes_42 : decode cL_makes 42 = .ok (.invokestatic 90, 3) := by decide +kernel
theorem dL_makes_45 : decode cL_makes 45 = .ok (.istore 8, 2) := by decide +kernel
theorem dL_makes_47 : decode cL_makes 47 = .ok (.aload_n 0, 1) := by decide +kernel
theorem dL_makes_48 : decode cL_makes 48 = .ok (.iload 6, 2) := by decide +kernel
theorem dL_makes_50 : decode cL_makes 50 = .ok (.iload 7, 2) := by decide +kernel
theorem dL_makes_52 : decode cL_makes 52 = .ok (.iload 8, 2) := by decide +kernel
theorem dL_makes_54 : decode cL_makes 54 = .ok (.invokestatic 98, 3) := by decide +kernel
theorem dL_makes_57 : decode cL_makes 57 = .ok (.istore 9, 2) := by decide +kernel
theorem dL_makes_59 : decode cL_makes 59 = .ok (.aload_n 1, 1) := by decide +kernel
theorem dL_makes_60 : decode cL_makes 60 = .ok (.iconst 1, 1) := by decide +kernel
theorem dL_makes_61 : decode cL_makes 61 = .ok (.iaload, 1) := by decide +kernel
theorem dL_makes_62 : decode cL_makes 62 = .ok (.iconst 4, 1) := by decide +kernel
theorem dL_makes_63 : decode cL_makes 63 = .ok (.if_icmp .ne 16, 3) := by decide +kernel
theorem dL_makes_66 : decode cL_makes 66 = .ok (.iload 9, 2) := by decide +kernel
theorem dL_makes_68 : decode cL_makes 68 = .ok (.ldc 21, 2) := by decide +kernel
theorem dL_makes_70 : decode cL_makes 70 = .ok (.if_icmp .ne 7, 3) := by decide +kernel
theorem dL_makes_73 : decode cL_makes 73 = .ok (.iconst 1, 1) := by decide +kernel
theorem dL_makes_74 : decode cL_makes 74 = .ok (.goto 4, 3) := by decide +kernel
theorem dL_makes_77 : decode cL_makes 77 = .ok (.iconst 0, 1) := by decide +kernel
theorem dL_makes_78 : decode cL_makes 78 = .ok (.ireturn, 1) := by decide +kernel
theorem dL_makes_79 : decode cL_makes 79 = .ok (.aload_n 3, 1) := by decide +kernel
theorem dL_makes_80 : decode cL_makes 80 = .ok (.iconst 3, 1) := by decide +kernel
theorem dL_makes_81 : decode cL_makes 81 = .ok (.aload_n 1, 1) := by decide +kernel
theorem dL_makes_82 : decode cL_makes 82 = .ok (.iconst 1, 1) := by decide +kernel
theorem dL_makes_83 : decode cL_makes 83 = .ok (.iaload, 1) := by decide +kernel
theorem dL_makes_84 : decode cL_makes 84 = .ok (.imul, 1) := by decide +kernel
theorem dL_makes_85 : decode cL_makes 85 = .ok (.iload 6, 2) := by decide +kernel
theorem dL_makes_87 : decode cL_makes 87 = .ok (.iastore, 1) := by decide +kernel
theorem dL_makes_88 : decode cL_makes 88 = .ok (.aload_n 3, 1) := by decide +kernel
theorem dL_makes_89 : decode cL_makes 89 = .ok (.iconst 3, 1) := by decide +kernel
theorem dL_makes_90 : decode cL_makes 90 = .ok (.aload_n 1, 1) := by decide +kernel
theorem dL_makes_91 : decode cL_makes 91 = .ok (.iconst 1, 1) := by decide +kernel
theorem dL_makes_92 : decode cL_makes 92 = .ok (.iaload, 1) := by decide +kernel
theorem dL_makes_93 : decode cL_makes 93 = .ok (.imul, 1) := by decide +kernel
theorem dL_makes_94 : decode cL_makes 94 = .ok (.iconst 1, 1) := by decide +kernel
theorem dL_makes_95 : decode cL_makes 95 = .ok (.iadd, 1) := by decide +kernel
theorem dL_makes_96 : decode cL_makes 96 = .ok (.iload 7, 2) := by decide +kernel
theorem dL_makes_98 : decode cL_makes 98 = .ok (.iastore, 1) := by decide +kernel
theorem dL_makes_99 : decode cL_makes 99 = .ok (.aload_n 3, 1) := by decide +kernel
theorem dL_makes_100 : decode cL_makes 100 = .ok (.iconst 3, 1) := by decide +kernel
theorem dL_makes_101 : decode cL_makes 101 = .ok (.aload_n 1, 1) := by decide +kernel
theorem dL_makes_102 : decode cL_makes 102 = .ok (.iconst 1, 1) := by decide +kernel
theorem dL_makes_103 : decode cL_makes 103 = .ok (.iaload, 1) := by decide +kernel
theorem dL_makes_104 : decode cL_makes 104 = .ok (.imul, 1) := by decide +kernel
theorem dL_makes_105 : decode cL_makes 105 = .ok (.iconst 2, 1) := by decide +kernel
theorem dL_makes_106 : decode cL_makes 106 = .ok (.iadd, 1) := by decide +kernel
theorem dL_makes_107 : decode cL_makes 107 = .ok (.iload 8, 2) := by decide +kernel
theorem dL_makes_109 : decode cL_makes 109 = .ok (.iastore, 1) := by decide +kernel
theorem dL_makes_110 : decode cL_makes 110 = .ok (.aload_n 1, 1) := by decide +kernel
theorem dL_makes_111 : decode cL_makes 111 = .ok (.iconst 1, 1) := by decide +kernel
theorem dL_makes_112 : decode cL_makes 112 = .ok (.dup2, 1) := by decide +kernel
theorem dL_makes_113 : decode cL_makes 113 = .ok (.iaload, 1) := by decide +kernel
theorem dL_makes_114 : decode cL_makes 114 = .ok (.iconst 1, 1) := by decide +kernel
theorem dL_makes_115 : decode cL_makes 115 = .ok (.iadd, 1) := by decide +kernel
theorem dL_makes_116 : decode cL_makes 116 = .ok (.iastore, 1) := by decide +kernel
theorem dL_makes_117 : decode cL_makes 117 = .ok (.iload 9, 2) := by decide +kernel
theorem dL_makes_119 : decode cL_makes 119 = .ok (.aload_n 1, 1) := by decide +kernel
theorem dL_makes_120 : decode cL_makes 120 = .ok (.iconst 1, 1) := by decide +kernel
theorem dL_makes_121 : decode cL_makes 121 = .ok (.iaload, 1) := by decide +kernel
theorem dL_makes_122 : decode cL_makes 122 = .ok (.iconst 1, 1) := by decide +kernel
theorem dL_makes_123 : decode cL_makes 123 = .ok (.isub, 1) := by decide +kernel
theorem dL_makes_124 : decode cL_makes 124 = .ok (.if_icmp .ne 7, 3) := by decide +kernel
theorem dL_makes_127 : decode cL_makes 127 = .ok (.iconst 1, 1) := by decide +kernel
theorem dL_makes_128 : decode cL_makes 128 = .ok (.goto 4, 3) := by decide +kernel
theorem dL_makes_131 : decode cL_makes 131 = .ok (.iconst 0, 1) := by decide +kernel
theorem dL_makes_132 : decode cL_makes 132 = .ok (.ireturn, 1) := by decide +kernel
theorem dL_makes_133 : decode cL_makes 133 = .ok (.iload 5, 2) := by decide +kernel
theorem dL_makes_135 : decode cL_makes 135 = .ok (.bipush 40, 2) := by decide +kernel
theorem dL_makes_137 : decode cL_makes 137 = .ok (.invokestatic 90, 3) := by decide +kernel
theorem dL_makes_140 : decode cL_makes 140 = .ok (.bipush 10, 2) := by decide +kernel
theorem dL_makes_142 : decode cL_makes 142 = .ok (.isub, 1) := by decide +kernel
theorem dL_makes_143 : decode cL_makes 143 = .ok (.istore 6, 2) := by decide +kernel
theorem dL_makes_145 : decode cL_makes 145 = .ok (.iload 5, 2) := by decide +kernel
theorem dL_makes_147 : decode cL_makes 147 = .ok (.bipush 6, 2) := by decide +kernel
theorem dL_makes_149 : decode cL_makes 149 = .ok (.ishr, 1) := by decide +kernel
theorem dL_makes_150 : decode cL_makes 150 = .ok (.bipush 15, 2) := by decide +kernel
theorem dL_makes_152 : decode cL_makes 152 = .ok (.invokestatic 90, 3) := by decide +kernel
theorem dL_makes_155 : decode cL_makes 155 = .ok (.istore 7, 2) := by decide +kernel
theorem dL_makes_157 : decode cL_makes 157 = .ok (.iconst 1, 1) := by decide +kernel
theorem dL_makes_158 : decode cL_makes 158 = .ok (.iload 5, 2) := by decide +kernel
theorem dL_makes_160 : decode cL_makes 160 = .ok (.bipush 10, 2) := by decide +kernel
theorem dL_makes_162 : decode cL_makes 162 = .ok (.ishr, 1) := by decide +kernel
theorem dL_makes_163 : decode cL_makes 163 = .ok (.iconst 5, 1) := by decide +kernel
theorem dL_makes_164 : decode cL_makes 164 = .ok (.invokestatic 90, 3) := by decide +kernel
theorem dL_makes_167 : decode cL_makes 167 = .ok (.iadd, 1) := by decide +kernel
theorem dL_makes_168 : decode cL_makes 168 = .ok (.istore 8, 2) := by decide +kernel
theorem dL_makes_170 : decode cL_makes 170 = .ok (.aload_n 1, 1) := by decide +kernel
theorem dL_makes_171 : decode cL_makes 171 = .ok (.iconst 0, 1) := by decide +kernel
theorem dL_makes_172 : decode cL_makes 172 = .ok (.iaload, 1) := by decide +kernel
theorem dL_makes_173 : decode cL_makes 173 = .ok (.bipush 10, 2) := by decide +kernel
theorem dL_makes_175 : decode cL_makes 175 = .ok (.if_icmp .ne 5, 3) := by decide +kernel
theorem dL_makes_178 : decode cL_makes 178 = .ok (.iconst 1, 1) := by decide +kernel
theorem dL_makes_179 : decode cL_makes 179 = .ok (.ireturn, 1) := by decide +kernel
theorem dL_makes_180 : decode cL_makes 180 = .ok (.aload_n 0, 1) := by decide +kernel
theorem dL_makes_181 : decode cL_makes 181 = .ok (.iload 6, 2) := by decide +kernel
theorem dL_makes_183 : decode cL_makes 183 = .ok (.iload 7, 2) := by decide +kernel
theorem dL_makes_185 : decode cL_makes 185 = .ok (.iload 8, 2) := by decide +kernel
theorem dL_makes_187 : decode cL_makes 187 = .ok (.invokestatic 100, 3) := by decide +kernel
theorem dL_makes_190 : decode cL_makes 190 = .ok (.istore 9, 2) := by decide +kernel
theorem dL_makes_192 : decode cL_makes 192 = .ok (.aload_n 2, 1) := by decide +kernel
theorem dL_makes_193 : decode cL_makes 193 = .ok (.iconst 5, 1) := by decide +kernel
theorem dL_makes_194 : decode cL_makes 194 = .ok (.aload_n 1, 1) := by decide +kernel
theorem dL_makes_195 : decode cL_makes 195 = .ok (.iconst 0, 1) := by decide +kernel
theorem dL_makes_196 : decode cL_makes 196 = .ok (.iaload, 1) := by decide +kernel
theorem dL_makes_197 : decode cL_makes 197 = .ok (.imul, 1) := by decide +kernel
theorem dL_makes_198 : decode cL_makes 198 = .ok (.iload 6, 2) := by decide +kernel
theorem dL_makes_200 : decode cL_makes 200 = .ok (.iastore, 1) := by decide +kernel
theorem dL_makes_201 : decode cL_makes 201 = .ok (.aload_n 2, 1) := by decide +kernel
theorem dL_makes_202 : decode cL_makes 202 = .ok (.iconst 5, 1) := by decide +kernel
theorem dL_makes_203 : decode cL_makes 203 = .ok (.aload_n 1, 1) := by decide +kernel
theorem dL_makes_204 : decode cL_makes 204 = .ok (.iconst 0, 1) := by decide +kernel
theorem dL_makes_205 : decode cL_makes 205 = .ok (.iaload, 1) := by decide +kernel
theorem dL_makes_206 : decode cL_makes 206 = .ok (.imul, 1) := by decide +kernel
theorem dL_makes_207 : decode cL_makes 207 = .ok (.iconst 1, 1) := by decide +kernel
theorem dL_makes_208 : decode cL_makes 208 = .ok (.iadd, 1) := by decide +kernel
theorem dL_makes_209 : decode cL_makes 209 = .ok (.iload 7, 2) := by decide +kernel
theorem dL_makes_211 : decode cL_makes 211 = .ok (.iastore, 1) := by decide +kernel
theorem dL_makes_212 : decode cL_makes 212 = .ok (.aload_n 2, 1) := by decide +kernel
theorem dL_makes_213 : decode cL_makes 213 = .ok (.iconst 5, 1) := by decide +kernel
theorem dL_makes_214 : decode cL_makes 214 = .ok (.aload_n 1, 1) := by decide +kernel
theorem dL_makes_215 : decode cL_makes 215 = .ok (.iconst 0, 1) := by decide +kernel
theorem dL_makes_216 : decode cL_makes 216 = .ok (.iaload, 1) := by decide +kernel
theorem dL_makes_217 : decode cL_makes 217 = .ok (.imul, 1) := by decide +kernel
theorem dL_makes_218 : decode cL_makes 218 = .ok (.iconst 2, 1) := by decide +kernel
theorem dL_makes_219 : decode cL_makes 219 = .ok (.iadd, 1) := by decide +kernel
theorem dL_makes_220 : decode cL_makes 220 = .ok (.iload 8, 2) := by decide +kernel
theorem dL_makes_222 : decode cL_makes 222 = .ok (.iastore, 1) := by decide +kernel
theorem dL_makes_223 : decode cL_makes 223 = .ok (.aload_n 1, 1) := by decide +kernel
theorem dL_makes_224 : decode cL_makes 224 = .ok (.iconst 0, 1) := by decide +kernel
theorem dL_makes_225 : decode cL_makes 225 = .ok (.dup2, 1) := by decide +kernel
theorem dL_makes_226 : decode cL_makes 226 = .ok (.iaload, 1) := by decide +kernel
theorem dL_makes_227 : decode cL_makes 227 = .ok (.iconst 1, 1) := by decide +kernel
theorem dL_makes_228 : decode cL_makes 228 = .ok (.iadd, 1) := by decide +kernel
theorem dL_makes_229 : decode cL_makes 229 = .ok (.iastore, 1) := by decide +kernel
theorem dL_makes_230 : decode cL_makes 230 = .ok (.iload 9, 2) := by decide +kernel
theorem dL_makes_232 : decode cL_makes 232 = .ok (.aload_n 1, 1) := by decide +kernel
theorem dL_makes_233 : decode cL_makes 233 = .ok (.iconst 0, 1) := by decide +kernel
theorem dL_makes_234 : decode cL_makes 234 = .ok (.iaload, 1) := by decide +kernel
theorem dL_makes_235 : decode cL_makes 235 = .ok (.iconst 1, 1) := by decide +kernel
theorem dL_makes_236 : decode cL_makes 236 = .ok (.isub, 1) := by decide +kernel
theorem dL_makes_237 : decode cL_makes 237 = .ok (.if_icmp .ne 22, 3) := by decide +kernel
theorem dL_makes_240 : decode cL_makes 240 = .ok (.aload_n 0, 1) := by decide +kernel
theorem dL_makes_241 : decode cL_makes 241 = .ok (.iload 9, 2) := by decide +kernel
theorem dL_makes_243 : decode cL_makes 243 = .ok (.sipush 10000, 3) := by decide +kernel
theorem dL_makes_246 : decode cL_makes 246 = .ok (.iconst 0, 1) := by decide +kernel
theorem dL_makes_247 : decode cL_makes 247 = .ok (.invokestatic 88, 3) := by decide +kernel
theorem dL_makes_250 : decode cL_makes 250 = .ok (.bipush 32, 2) := by decide +kernel
theorem dL_makes_252 : decode cL_makes 252 = .ok (.if_icmp .ne 7, 3) := by decide +kernel
theorem dL_makes_255 : decode cL_makes 255 = .ok (.iconst 1, 1) := by decide +kernel
theorem dL_makes_256 : decode cL_makes 256 = .ok (.goto 4, 3) := by decide +kernel
theorem dL_makes_259 : decode cL_makes 259 = .ok (.iconst 0, 1) := by decide +kernel
theorem dL_makes_260 : decode cL_makes 260 = .ok (.ireturn, 1) := by decide +kernel
theorem dL_prints_0 : decode cL_prints 0 = .ok (.iload_n 3, 1) := by decide +kernel
theorem dL_prints_1 : decode cL_prints 1 = .ok (.aload_n 1, 1) := by decide +kernel
theorem dL_prints_2 : decode cL_prints 2 = .ok (.iconst 1, 1) := by decide +kernel
theorem dL_prints_3 : decode cL_prints 3 = .ok (.iaload, 1) := by decide +kernel
theorem dL_prints_4 : decode cL_prints 4 = .ok (.invokestatic 90, 3) := by decide +kernel
theorem dL_prints_7 : decode cL_prints 7 = .ok (.istore 4, 2) := by decide +kernel
theorem dL_prints_9 : decode cL_prints 9 = .ok (.iload_n 3, 1) := by decide +kernel
theorem dL_prints_10 : decode cL_prints 10 = .ok (.iconst 3, 1) := by decide +kernel
theorem dL_prints_11 : decode cL_prints 11 = .ok (.ishr, 1) := by decide +kernel
theorem dL_prints_12 : decode cL_prints 12 = .ok (.bipush 24, 2) := by decide +kernel
theorem dL_prints_14 : decode cL_prints 14 = .ok (.invokestatic 90, 3) := by decide +kernel
theorem dL_prints_17 : decode cL_prints 17 = .ok (.istore 5, 2) := by decide +kernel
theorem dL_prints_19 : decode cL_prints 19 = .ok (.iload_n 3, 1) := by decide +kernel
theorem dL_prints_20 : decode cL_prints 20 = .ok (.bipush 8, 2) := by decide +kernel
theorem dL_prints_22 : decode cL_prints 22 = .ok (.ishr, 1) := by decide +kernel
theorem dL_prints_23 : decode cL_prints 23 = .ok (.bipush 40, 2) := by decide +kernel
theorem dL_prints_25 : decode cL_prints 25 = .ok (.invokestatic 90, 3) := by decide +kernel
theorem dL_prints_28 : decode cL_prints 28 = .ok (.istore 6, 2) := by decide +kernel
theorem dL_prints_30 : decode cL_prints 30 = .ok (.aload_n 0, 1) := by decide +kernel
theorem dL_prints_31 : decode cL_prints 31 = .ok (.iload 4, 2) := by decide +kernel
theorem dL_prints_33 : decode cL_prints 33 = .ok (.iload 5, 2) := by decide +kernel
theorem dL_prints_35 : decode cL_prints 35 = .ok (.iload 6, 2) := by decide +kernel
theorem dL_prints_37 : decode cL_prints 37 = .ok (.invokestatic 85, 3) := by decide +kernel
theorem dL_prints_40 : decode cL_prints 40 = .ok (.istore 7, 2) := by decide +kernel
theorem dL_prints_42 : decode cL_prints 42 = .ok (.aload_n 0, 1) := by decide +kernel
theorem dL_prints_43 : decode cL_prints 43 = .ok (.invokestatic 102, 3) := by decide +kernel
theorem dL_prints_46 : decode cL_prints 46 = .ok (.istore 8, 2) := by decide +kernel
theorem dL_prints_48 : decode cL_prints 48 = .ok (.aload_n 1, 1) := by decide +kernel
theorem dL_prints_49 : decode cL_prints 49 = .ok (.iconst 2, 1) := by decide +kernel
theorem dL_prints_50 : decode cL_prints 50 = .ok (.iaload, 1) := by decide +kernel
theorem dL_prints_51 : decode cL_prints 51 = .ok (.iconst 5, 1) := by decide +kernel
theorem dL_prints_52 : decode cL_prints 52 = .ok (.if_icmp .ne 16, 3) := by decide +kernel
theorem dL_prints_55 : decode cL_prints 55 = .ok (.iload 8, 2) := by decide +kernel
theorem dL_prints_57 : decode cL_prints 57 = .ok (.ldc 21, 2) := by decide +kernel
theorem dL_prints_59 : decode cL_prints 59 = .ok (.if_icmp .ne 7, 3) := by decide +kernel
theorem dL_prints_62 : decode cL_prints 62 = .ok (.iconst 1, 1) := by decide +kernel
theorem dL_prints_63 : decode cL_prints 63 = .ok (.goto 4, 3) := by decide +kernel
theorem dL_prints_66 : decode cL_prints 66 = .ok (.iconst 0, 1) := by decide +kernel
theorem dL_prints_67 : decode cL_prints 67 = .ok (.ireturn, 1) := by decide +kernel
theorem dL_prints_68 : decode cL_prints 68 = .ok (.aload_n 2, 1) := by decide +kernel
theorem dL_prints_69 : decode cL_prints 69 = .ok (.iconst 4, 1) := by decide +kernel
theorem dL_prints_70 : decode cL_prints 70 = .ok (.iload 8, 2) := by decide +kernel
theorem dL_prints_72 : decode cL_prints 72 = .ok (.imul, 1) := by decide +kernel
theorem dL_prints_73 : decode cL_prints 73 = .ok (.iload 4, 2) := by decide +kernel
theorem dL_prints_75 : decode cL_prints 75 = .ok (.iastore, 1) := by decide +kernel
theorem dL_prints_76 : decode cL_prints 76 = .ok (.aload_n 2, 1) := by decide +kernel
theorem dL_prints_77 : decode cL_prints 77 = .ok (.iconst 4, 1) := by decide +kernel
theorem dL_prints_78 : decode cL_prints 78 = .ok (.iload 8, 2) := by decide +kernel
theorem dL_prints_80 : decode cL_prints 80 = .ok (.imul, 1) := by decide +kernel
theorem dL_prints_81 : decode cL_prints 81 = .ok (.iconst 1, 1) := by decide +kernel
theorem dL_prints_82 : decode cL_prints 82 = .ok (.iadd, 1) := by decide +kernel
theorem dL_prints_83 : decode cL_prints 83 = .ok (.iload 5, 2) := by decide +kernel
theorem dL_prints_85 : decode cL_prints 85 = .ok (.iastore, 1) := by decide +kernel
theorem dL_prints_86 : decode cL_prints 86 = .ok (.aload_n 2, 1) := by decide +kernel
theorem dL_prints_87 : decode cL_prints 87 = .ok (.iconst 4, 1) := by decide +kernel
theorem dL_prints_88 : decode cL_prints 88 = .ok (.iload 8, 2) := by decide +kernel
theorem dL_prints_90 : decode cL_prints 90 = .ok (.imul, 1) := by decide +kernel
theorem dL_prints_91 : decode cL_prints 91 = .ok (.iconst 2, 1) := by decide +kernel
theorem dL_prints_92 : decode cL_prints 92 = .ok (.iadd, 1) := by decide +kernel
theorem dL_prints_93 : decode cL_prints 93 = .ok (.iload 6, 2) := by decide +kernel
theorem dL_prints_95 : decode cL_prints 95 = .ok (.iastore, 1) := by decide +kernel
theorem dL_prints_96 : decode cL_prints 96 = .ok (.aload_n 2, 1) := by decide +kernel
theorem dL_prints_97 : decode cL_prints 97 = .ok (.iconst 4, 1) := by decide +kernel
theorem dL_prints_98 : decode cL_prints 98 = .ok (.iload 8, 2) := by decide +kernel
theorem dL_prints_100 : decode cL_prints 100 = .ok (.imul, 1) := by decide +kernel
theorem dL_prints_101 : decode cL_prints 101 = .ok (.iconst 3, 1) := by decide +kernel
theorem dL_prints_102 : decode cL_prints 102 = .ok (.iadd, 1) := by decide +kernel
theorem dL_prints_103 : decode cL_prints 103 = .ok (.iload 7, 2) := by decide +kernel
theorem dL_prints_105 : decode cL_prints 105 = .ok (.iastore, 1) := by decide +kernel
theorem dL_prints_106 : decode cL_prints 106 = .ok (.aload_n 1, 1) := by decide +kernel
theorem dL_prints_107 : decode cL_prints 107 = .ok (.iconst 2, 1) := by decide +kernel
theorem dL_prints_108 : decode cL_prints 108 = .ok (.dup2, 1) := by decide +kernel
theorem dL_prints_109 : decode cL_prints 109 = .ok (.iaload, 1) := by decide +kernel
theorem dL_prints_110 : decode cL_prints 110 = .ok (.iconst 1, 1) := by decide +kernel
theorem dL_prints_111 : decode cL_prints 111 = .ok (.iadd, 1) := by decide +kernel
theorem dL_prints_112 : decode cL_prints 112 = .ok (.iastore, 1) := by decide +kernel
theorem dL_prints_113 : decode cL_prints 113 = .ok (.iload 8, 2) := by decide +kernel
theorem dL_prints_115 : decode cL_prints 115 = .ok (.aload_n 1, 1) := by decide +kernel
theorem dL_prints_116 : decode cL_prints 116 = .ok (.iconst 2, 1) := by decide +kernel
theorem dL_prints_117 : decode cL_prints 117 = .ok (.iaload, 1) := by decide +kernel
theorem dL_prints_118 : decode cL_prints 118 = .ok (.iconst 1, 1) := by decide +kernel
theorem dL_prints_119 : decode cL_prints 119 = .ok (.isub, 1) := by decide +kernel
theorem dL_prints_120 : decode cL_prints 120 = .ok (.if_icmp .ne 39, 3) := by decide +kernel
theorem dL_prints_123 : decode cL_prints 123 = .ok (.aload_n 0, 1) := by decide +kernel
theorem dL_prints_124 : decode cL_prints 124 = .ok (.iload 8, 2) := by decide +kernel
theorem dL_prints_126 : decode cL_prints 126 = .ok (.iload 4, 2) := by decide +kernel
theorem dL_prints_128 : decode cL_prints 128 = .ok (.iload 5, 2) := by decide +kernel
theorem dL_prints_130 : decode cL_prints 130 = .ok (.iload 6, 2) := by decide +kernel
theorem dL_prints_132 : decode cL_prints 132 = .ok (.invokestatic 105, 3) := by decide +kernel
theorem dL_prints_135 : decode cL_prints 135 = .ok (.iload 7, 2) := by decide +kernel
theorem dL_prints_137 : decode cL_prints 137 = .ok (.if_icmp .ne 22, 3) := by decide +kernel
theorem dL_prints_140 : decode cL_prints 140 = .ok (.aload_n 0, 1) := by decide +kernel
theorem dL_prints_141 : decode cL_prints 141 = .ok (.aload_n 1, 1) := by decide +kernel
theorem dL_prints_142 : decode cL_prints 142 = .ok (.iconst 2, 1) := by decide +kernel
theorem dL_prints_143 : decode cL_prints 143 = .ok (.iaload, 1) := by decide +kernel
theorem dL_prints_144 : decode cL_prints 144 = .ok (.iconst 0, 1) := by decide +kernel
theorem dL_prints_145 : decode cL_prints 145 = .ok (.iconst 0, 1) := by decide +kernel
theorem dL_prints_146 : decode cL_prints 146 = .ok (.iconst 0, 1) := by decide +kernel
theorem dL_prints_147 : decode cL_prints 147 = .ok (.invokestatic 105, 3) := by decide +kernel
theorem dL_prints_150 : decode cL_prints 150 = .ok (.ldc 32, 2) := by decide +kernel
theorem dL_prints_152 : decode cL_prints 152 = .ok (.if_icmp .ne 7, 3) := by decide +kernel
theorem dL_prints_155 : decode cL_prints 155 = .ok (.iconst 1, 1) := by decide +kernel
theorem dL_prints_156 : decode cL_prints 156 = .ok (.goto 4, 3) := by decide +kernel
theorem dL_prints_159 : decode cL_prints 159 = .ok (.iconst 0, 1) := by decide +kernel
theorem dL_prints_160 : decode cL_prints 160 = .ok (.ireturn, 1) := by decide +kernel
theorem dL_arePrinted_0 : decode cL_arePrinted 0 = .ok (.iconst 1, 1) := by decide +kernel
theorem dL_arePrinted_1 : decode cL_arePrinted 1 = .ok (.istore_n 3, 1) := by decide +kernel
theorem dL_arePrinted_2 : decode cL_arePrinted 2 = .ok (.iconst 0, 1) := by decide +kernel
theorem dL_arePrinted_3 : decode cL_arePrinted 3 = .ok (.istore 4, 2) := by decide +kernel
theorem dL_arePrinted_5 : decode cL_arePrinted 5 = .ok (.iload 4, 2) := by decide +kernel
theorem dL_arePrinted_7 : decode cL_arePrinted 7 = .ok (.aload_n 1, 1) := by decide +kernel
theorem dL_arePrinted_8 : decode cL_arePrinted 8 = .ok (.iconst 2, 1) := by decide +kernel
theorem dL_arePrinted_9 : decode cL_arePrinted 9 = .ok (.iaload, 1) := by decide +kernel
theorem dL_arePrinted_10 : decode cL_arePrinted 10 = .ok (.if_icmp .ge 58, 3) := by decide +kernel
theorem dL_arePrinted_13 : decode cL_arePrinted 13 = .ok (.iload_n 3, 1) := by decide +kernel
theorem dL_arePrinted_14 : decode cL_arePrinted 14 = .ok (.ifCond .eq 54, 3) := by decide +kernel
theorem dL_arePrinted_17 : decode cL_arePrinted 17 = .ok (.aload_n 0, 1) := by decide +kernel
theorem dL_arePrinted_18 : decode cL_arePrinted 18 = .ok (.iload 4, 2) := by decide +kernel
theorem dL_arePrinted_20 : decode cL_arePrinted 20 = .ok (.aload_n 2, 1) := by decide +kernel
theorem dL_arePrinted_21 : decode cL_arePrinted 21 = .ok (.iconst 4, 1) := by decide +kernel
theorem dL_arePrinted_22 : decode cL_arePrinted 22 = .ok (.iload 4, 2) := by decide +kernel
theorem dL_arePrinted_24 : decode cL_arePrinted 24 = .ok (.imul, 1) := by decide +kernel
theorem dL_arePrinted_25 : decode cL_arePrinted 25 = .ok (.iaload, 1) := by decide +kernel
theorem dL_arePrinted_26 : decode cL_arePrinted 26 = .ok (.aload_n 2, 1) := by decide +kernel
theorem dL_arePrinted_27 : decode cL_arePrinted 27 = .ok (.iconst 4, 1) := by decide +kernel
theorem dL_arePrinted_28 : decode cL_arePrinted 28 = .ok (.iload 4, 2) := by decide +kernel
theorem dL_arePrinted_30 : decode cL_arePrinted 30 = .ok (.imul, 1) := by decide +kernel
theorem dL_arePrinted_31 : decode cL_arePrinted 31 = .ok (.iconst 1, 1) := by decide +kernel
theorem dL_arePrinted_32 : decode cL_arePrinted 32 = .ok (.iadd, 1) := by decide +kernel
theorem dL_arePrinted_33 : decode cL_arePrinted 33 = .ok (.iaload, 1) := by decide +kernel
theorem dL_arePrinted_34 : decode cL_arePrinted 34 = .ok (.aload_n 2, 1) := by decide +kernel
theorem dL_arePrinted_35 : decode cL_arePrinted 35 = .ok (.iconst 4, 1) := by decide +kernel
theorem dL_arePrinted_36 : decode cL_arePrinted 36 = .ok (.iload 4, 2) := by decide +kernel
theorem dL_arePrinted_38 : decode cL_arePrinted 38 = .ok (.imul, 1) := by decide +kernel
theorem dL_arePrinted_39 : decode cL_arePrinted 39 = .ok (.iconst 2, 1) := by decide +kernel
theorem dL_arePrinted_40 : decode cL_arePrinted 40 = .ok (.iadd, 1) := by decide +kernel
theorem dL_arePrinted_41 : decode cL_arePrinted 41 = .ok (.iaload, 1) := by decide +kernel
theorem dL_arePrinted_42 : decode cL_arePrinted 42 = .ok (.invokestatic 105, 3) := by decide +kernel
theorem dL_arePrinted_45 : decode cL_arePrinted 45 = .ok (.aload_n 2, 1) := by decide +kernel
theorem dL_arePrinted_46 : decode cL_arePrinted 46 = .ok (.iconst 4, 1) := by decide +kernel
theorem dL_arePrinted_47 : decode cL_arePrinted 47 = .ok (.iload 4, 2) := by decide +kernel
theorem dL_arePrinted_49 : decode cL_arePrinted 49 = .ok (.imul, 1) := by decide +kernel
theorem dL_arePrinted_50 : decode cL_arePrinted 50 = .ok (.iconst 3, 1) := by decide +kernel
theorem dL_arePrinted_51 : decode cL_arePrinted 51 = .ok (.iadd, 1) := by decide +kernel
theorem dL_arePrinted_52 : decode cL_arePrinted 52 = .ok (.iaload, 1) := by decide +kernel
theorem dL_arePrinted_53 : decode cL_arePrinted 53 = .ok (.if_icmp .ne 7, 3) := by decide +kernel
theorem dL_arePrinted_56 : decode cL_arePrinted 56 = .ok (.iconst 1, 1) := by decide +kernel
theorem dL_arePrinted_57 : decode cL_arePrinted 57 = .ok (.goto 4, 3) := by decide +kernel
theorem dL_arePrinted_60 : decode cL_arePrinted 60 = .ok (.iconst 0, 1) := by decide +kernel
theorem dL_arePrinted_61 : decode cL_arePrinted 61 = .ok (.istore_n 3, 1) := by decide +kernel
theorem dL_arePrinted_62 : decode cL_arePrinted 62 = .ok (.iinc 4 1, 3) := by decide +kernel
theorem dL_arePrinted_65 : decode cL_arePrinted 65 = .ok (.goto (-60), 3) := by decide +kernel
theorem dL_arePrinted_68 : decode cL_arePrinted 68 = .ok (.iload_n 3, 1) := by decide +kernel
theorem dL_arePrinted_69 : decode cL_arePrinted 69 = .ok (.ireturn, 1) := by decide +kernel
theorem dL_acts_0 : decode cL_acts 0 = .ok (.iload 5, 2) := by decide +kernel
theorem dL_acts_2 : decode cL_acts 2 = .ok (.bipush 12, 2) := by decide +kernel
theorem dL_acts_4 : decode cL_acts 4 = .ok (.invokestatic 90, 3) := by decide +kernel
theorem dL_acts_7 : decode cL_acts 7 = .ok (.istore 7, 2) := by decide +kernel
theorem dL_acts_9 : decode cL_acts 9 = .ok (.iload 7, 2) := by decide +kernel
theorem dL_acts_11 : decode cL_acts 11 = .ok (.iconst 2, 1) := by decide +kernel
theorem dL_acts_12 : decode cL_acts 12 = .ok (.if_icmp .lt 9, 3) := by decide +kernel
theorem dL_acts_15 : decode cL_acts 15 = .ok (.aload_n 1, 1) := by decide +kernel
theorem dL_acts_16 : decode cL_acts 16 = .ok (.iconst 0, 1) := by decide +kernel
theorem dL_acts_17 : decode cL_acts 17 = .ok (.iaload, 1) := by decide +kernel
theorem dL_acts_18 : decode cL_acts 18 = .ok (.ifCond .ne 43, 3) := by decide +kernel
theorem dL_acts_21 : decode cL_acts 21 = .ok (.aload_n 1, 1) := by decide +kernel
theorem dL_acts_22 : decode cL_acts 22 = .ok (.iconst 0, 1) := by decide +kernel
theorem dL_acts_23 : decode cL_acts 23 = .ok (.iaload, 1) := by decide +kernel
theorem dL_acts_24 : decode cL_acts 24 = .ok (.bipush 10, 2) := by decide +kernel
theorem dL_acts_26 : decode cL_acts 26 = .ok (.if_icmp .eq 29, 3) := by decide +kernel
theorem dL_acts_29 : decode cL_acts 29 = .ok (.aload_n 0, 1) := by decide +kernel
theorem dL_acts_30 : decode cL_acts 30 = .ok (.aload_n 1, 1) := by decide +kernel
theorem dL_acts_31 : decode cL_acts 31 = .ok (.aload_n 2, 1) := by decide +kernel
theorem dL_acts_32 : decode cL_acts 32 = .ok (.aload_n 3, 1) := by decide +kernel
theorem dL_acts_33 : decode cL_acts 33 = .ok (.aload_n 1, 1) := by decide +kernel
theorem dL_acts_34 : decode cL_acts 34 = .ok (.iconst 0, 1) := by decide +kernel
theorem dL_acts_35 : decode cL_acts 35 = .ok (.iaload, 1) := by decide +kernel
theorem dL_acts_36 : decode cL_acts 36 = .ok (.ifCond .ne 7, 3) := by decide +kernel
theorem dL_acts_39 : decode cL_acts 39 = .ok (.iconst 1, 1) := by decide +kernel
theorem dL_acts_40 : decode cL_acts 40 = .ok (.goto 7, 3) := by decide +kernel
theorem dL_acts_43 : decode cL_acts 43 = .ok (.iload 5, 2) := by decide +kernel
theorem dL_acts_45 : decode cL_acts 45 = .ok (.iconst 4, 1) := by decide +kernel
theorem dL_acts_46 : decode cL_acts 46 = .ok (.ishr, 1) := by decide +kernel
theorem dL_acts_47 : decode cL_acts 47 = .ok (.iload 6, 2) := by decide +kernel
theorem dL_acts_49 : decode cL_acts 49 = .ok (.invokestatic 108, 3) := by decide +kernel
theorem dL_acts_52 : decode cL_acts 52 = .ok (.ifCond .eq 7, 3) := by decide +kernel
theorem dL_acts_55 : decode cL_acts 55 = .ok (.iconst 1, 1) := by decide +kernel
theorem dL_acts_56 : decode cL_acts 56 = .ok (.goto 4, 3) := by decide +kernel
theorem dL_acts_59 : decode cL_acts 59 = .ok (.iconst 0, 1) := by decide +kernel
theorem dL_acts_60 : decode cL_acts 60 = .ok (.ireturn, 1) := by decide +kernel
theorem dL_acts_61 : decode cL_acts 61 = .ok (.iload 7, 2) := by decide +kernel
theorem dL_acts_63 : decode cL_acts 63 = .ok (.bipush 6, 2) := by decide +kernel
theorem dL_acts_65 : decode cL_acts 65 = .ok (.if_icmp .ge 43, 3) := by decide +kernel
theorem dL_acts_68 : decode cL_acts 68 = .ok (.aload_n 0, 1) := by decide +kernel
theorem dL_acts_69 : decode cL_acts 69 = .ok (.aload_n 1, 1) := by decide +kernel
theorem dL_acts_70 : decode cL_acts 70 = .ok (.iload 5, 2) := by decide +kernel
theorem dL_acts_72 : decode cL_acts 72 = .ok (.iconst 4, 1) := by decide +kernel
theorem dL_acts_73 : decode cL_acts 73 = .ok (.ishr, 1) := by decide +kernel
theorem dL_acts_74 : decode cL_acts 74 = .ok (.iload 6, 2) := by decide +kernel
theorem dL_acts_76 : decode cL_acts 76 = .ok (.invokestatic 112, 3) := by decide +kernel
theorem dL_acts_79 : decode cL_acts 79 = .ok (.ifCond .eq 27, 3) := by decide +kernel
theorem dL_acts_82 : decode cL_acts 82 = .ok (.aload_n 0, 1) := by decide +kernel
theorem dL_acts_83 : decode cL_acts 83 = .ok (.aload_n 1, 1) := by decide +kernel
theorem dL_acts_84 : decode cL_acts 84 = .ok (.aload_n 2, 1) := by decide +kernel
theorem dL_acts_85 : decode cL_acts 85 = .ok (.iload 6, 2) := by decide +kernel
theorem dL_acts_87 : decode cL_acts 87 = .ok (.bipush 20, 2) := by decide +kernel
theorem dL_acts_89 : decode cL_acts 89 = .ok (.ishr, 1) := by decide +kernel
theorem dL_acts_90 : decode cL_acts 90 = .ok (.aload_n 1, 1) := by decide +kernel
theorem dL_acts_91 : decode cL_acts 91 = .ok (.iconst 0, 1) := by decide +kernel
theorem dL_acts_92 : decode cL_acts 92 = .ok (.iaload, 1) := by decide +kernel
theorem dL_acts_93 : decode cL_acts 93 = .ok (.invokestatic 90, 3) := by decide +kernel
theorem dL_acts_96 : decode cL_acts 96 = .ok (.invokestatic 116, 3) := by decide +kernel
theorem dL_acts_99 : decode cL_acts 99 = .ok (.ifCond .eq 7, 3) := by decide +kernel
theorem dL_acts_102 : decode cL_acts 102 = .ok (.iconst 1, 1) := by decide +kernel
theorem dL_acts_103 : decode cL_acts 103 = .ok (.goto 4, 3) := by decide +kernel
theorem dL_acts_106 : decode cL_acts 106 = .ok (.iconst 0, 1) := by decide +kernel
theorem dL_acts_107 : decode cL_acts 107 = .ok (.ireturn, 1) := by decide +kernel
theorem dL_acts_108 : decode cL_acts 108 = .ok (.iload 7, 2) := by decide +kernel
theorem dL_acts_110 : decode cL_acts 110 = .ok (.bipush 6, 2) := by decide +kernel
theorem dL_acts_112 : decode cL_acts 112 = .ok (.if_icmp .ne 40, 3) := by decide +kernel
theorem dL_acts_115 : decode cL_acts 115 = .ok (.iconst 1, 1) := by decide +kernel
theorem dL_acts_116 : decode cL_acts 116 = .ok (.iload 6, 2) := by decide +kernel
theorem dL_acts_118 : decode cL_acts 118 = .ok (.bipush 50, 2) := by decide +kernel
theorem dL_acts_120 : decode cL_acts 120 = .ok (.invokestatic 90, 3) := by decide +kernel
theorem dL_acts_123 : decode cL_acts 123 = .ok (.iadd, 1) := by decide +kernel
theorem dL_acts_124 : decode cL_acts 124 = .ok (.istore 8, 2) := by decide +kernel
theorem dL_acts_126 : decode cL_acts 126 = .ok (.aload_n 1, 1) := by decide +kernel
theorem dL_acts_127 : decode cL_acts 127 = .ok (.iconst 3, 1) := by decide +kernel
theorem dL_acts_128 : decode cL_acts 128 = .ok (.dup2, 1) := by decide +kernel
theorem dL_acts_129 : decode cL_acts 129 = .ok (.iaload, 1) := by decide +kernel
theorem dL_acts_130 : decode cL_acts 130 = .ok (.iload 8, 2) := by decide +kernel
theorem dL_acts_132 : decode cL_acts 132 = .ok (.iadd, 1) := by decide +kernel
theorem dL_acts_133 : decode cL_acts 133 = .ok (.iastore, 1) := by decide +kernel
theorem dL_acts_134 : decode cL_acts 134 = .ok (.aload_n 0, 1) := by decide +kernel
theorem dL_acts_135 : decode cL_acts 135 = .ok (.iload 8, 2) := by decide +kernel
theorem dL_acts_137 : decode cL_acts 137 = .ok (.invokestatic 120, 3) := by decide +kernel
theorem dL_acts_140 : decode cL_acts 140 = .ok (.aload_n 1, 1) := by decide +kernel
theorem dL_acts_141 : decode cL_acts 141 = .ok (.iconst 3, 1) := by decide +kernel
theorem dL_acts_142 : decode cL_acts 142 = .ok (.iaload, 1) := by decide +kernel
theorem dL_acts_143 : decode cL_acts 143 = .ok (.if_icmp .ne 7, 3) := by decide +kernel
theorem dL_acts_146 : decode cL_acts 146 = .ok (.iconst 1, 1) := by decide +kernel
theorem dL_acts_147 : decode cL_acts 147 = .ok (.goto 4, 3) := by decide +kernel
theorem dL_acts_150 : decode cL_acts 150 = .ok (.iconst 0, 1) := by decide +kernel
theorem dL_acts_151 : decode cL_acts 151 = .ok (.ireturn, 1) := by decide +kernel
theorem dL_acts_152 : decode cL_acts 152 = .ok (.aload_n 1, 1) := by decide +kernel
theorem dL_acts_153 : decode cL_acts 153 = .ok (.iconst 1, 1) := by decide +kernel
theorem dL_acts_154 : decode cL_acts 154 = .ok (.iaload, 1) := by decide +kernel
theorem dL_acts_155 : decode cL_acts 155 = .ok (.ifCond .ne 14, 3) := by decide +kernel
theorem dL_acts_158 : decode cL_acts 158 = .ok (.aload_n 0, 1) := by decide +kernel
theorem dL_acts_159 : decode cL_acts 159 = .ok (.aload_n 1, 1) := by decide +kernel
theorem dL_acts_160 : decode cL_acts 160 = .ok (.aload_n 2, 1) := by decide +kernel
theorem dL_acts_161 : decode cL_acts 161 = .ok (.aload_n 3, 1) := by decide +kernel
theorem dL_acts_162 : decode cL_acts 162 = .ok (.iconst 4, 1) := by decide +kernel
theorem dL_acts_163 : decode cL_acts 163 = .ok (.iload 6, 2) := by decide +kernel
theorem dL_acts_165 : decode cL_acts 165 = .ok (.invokestatic 108, 3) := by decide +kernel
theorem dL_acts_168 : decode cL_acts 168 = .ok (.ireturn, 1) := by decide +kernel
theorem dL_acts_169 : decode cL_acts 169 = .ok (.aload_n 1, 1) := by decide +kernel
theorem dL_acts_170 : decode cL_acts 170 = .ok (.iconst 5, 1) := by decide +kernel
theorem dL_acts_171 : decode cL_acts 171 = .ok (.dup2, 1) := by decide +kernel
theorem dL_acts_172 : decode cL_acts 172 = .ok (.iaload, 1) := by decide +kernel
theorem dL_acts_173 : decode cL_acts 173 = .ok (.iconst 1, 1) := by decide +kernel
theorem dL_acts_174 : decode cL_acts 174 = .ok (.iadd, 1) := by decide +kernel
theorem dL_acts_175 : decode cL_acts 175 = .ok (.iastore, 1) := by decide +kernel
theorem dL_acts_176 : decode cL_acts 176 = .ok (.aload_n 1, 1) := by decide +kernel
theorem dL_acts_177 : decode cL_acts 177 = .ok (.iconst 5, 1) := by decide +kernel
theorem dL_acts_178 : decode cL_acts 178 = .ok (.iaload, 1) := by decide +kernel
theorem dL_acts_179 : decode cL_acts 179 = .ok (.bipush 12, 2) := by decide +kernel
theorem dL_acts_181 : decode cL_acts 181 = .ok (.if_icmp .le 5, 3) := by decide +kernel
theorem dL_acts_184 : decode cL_acts 184 = .ok (.iconst 1, 1) := by decide +kernel
theorem dL_acts_185 : decode cL_acts 185 = .ok (.ireturn, 1) := by decide +kernel
theorem dL_acts_186 : decode cL_acts 186 = .ok (.iload 7, 2) := by decide +kernel
theorem dL_acts_188 : decode cL_acts 188 = .ok (.bipush 7, 2) := by decide +kernel
theorem dL_acts_190 : decode cL_acts 190 = .ok (.if_icmp .ne 15, 3) := by decide +kernel
theorem dL_acts_193 : decode cL_acts 193 = .ok (.aload_n 0, 1) := by decide +kernel
theorem dL_acts_194 : decode cL_acts 194 = .ok (.aload_n 1, 1) := by decide +kernel
theorem dL_acts_195 : decode cL_acts 195 = .ok (.aload 4, 2) := by decide +kernel
theorem dL_acts_197 : decode cL_acts 197 = .ok (.iload 6, 2) := by decide +kernel
theorem dL_acts_199 : decode cL_acts 199 = .ok (.invokestatic 122, 3) := by decide +kernel
theorem dL_acts_202 : decode cL_acts 202 = .ok (.goto 70, 3) := by decide +kernel
theorem dL_acts_205 : decode cL_acts 205 = .ok (.iload 7, 2) := by decide +kernel
theorem dL_acts_207 : decode cL_acts 207 = .ok (.bipush 8, 2) := by decide +kernel
theorem dL_acts_209 : decode cL_acts 209 = .ok (.if_icmp .ne 13, 3) := by decide +kernel
theorem dL_acts_212 : decode cL_acts 212 = .ok (.aload_n 0, 1) := by decide +kernel
theorem dL_acts_213 : decode cL_acts 213 = .ok (.aload_n 1, 1) := by decide +kernel
theorem dL_acts_214 : decode cL_acts 214 = .ok (.aload 4, 2) := by decide +kernel
theorem dL_acts_216 : decode cL_acts 216 = .ok (.invokestatic 125, 3) := by decide +kernel
theorem dL_acts_219 : decode cL_acts 219 = .ok (.goto 53, 3) := by decide +kernel
theorem dL_acts_222 : decode cL_acts 222 = .ok (.iload 7, 2) := by decide +kernel
theorem dL_acts_224 : decode cL_acts 224 = .ok (.bipush 11, 2) := by decide +kernel
theorem dL_acts_226 : decode cL_acts 226 = .ok (.if_icmp .ge 31, 3) := by decide +kernel
theorem dL_acts_229 : decode cL_acts 229 = .ok (.aload_n 0, 1) := by decide +kernel
theorem dL_acts_230 : decode cL_acts 230 = .ok (.aload_n 1, 1) := by decide +kernel
theorem dL_acts_231 : decode cL_acts 231 = .ok (.aload_n 2, 1) := by decide +kernel
theorem dL_acts_232 : decode cL_acts 232 = .ok (.aload_n 3, 1) := by decide +kernel
theorem dL_acts_233 : decode cL_acts 233 = .ok (.iload 6, 2) := by decide +kernel
theorem dL_acts_235 : decode cL_acts 235 = .ok (.aload_n 1, 1) := by decide +kernel
theorem dL_acts_236 : decode cL_acts 236 = .ok (.iconst 1, 1) := by decide +kernel
theorem dL_acts_237 : decode cL_acts 237 = .ok (.iaload, 1) := by decide +kernel
theorem dL_acts_238 : decode cL_acts 238 = .ok (.invokestatic 90, 3) := by decide +kernel
theorem dL_acts_241 : decode cL_acts 241 = .ok (.iload 6, 2) := by decide +kernel
theorem dL_acts_243 : decode cL_acts 243 = .ok (.iconst 3, 1) := by decide +kernel
theorem dL_acts_244 : decode cL_acts 244 = .ok (.ishr, 1) := by decide +kernel
theorem dL_acts_245 : decode cL_acts 245 = .ok (.aload_n 1, 1) := by decide +kernel
theorem dL_acts_246 : decode cL_acts 246 = .ok (.iconst 0, 1) := by decide +kernel
theorem dL_acts_247 : decode cL_acts 247 = .ok (.iaload, 1) := by decide +kernel
theorem dL_acts_248 : decode cL_acts 248 = .ok (.invokestatic 90, 3) := by decide +kernel
theorem dL_acts_251 : decode cL_acts 251 = .ok (.invokestatic 129, 3) := by decide +kernel
theorem dL_acts_254 : decode cL_acts 254 = .ok (.goto 18, 3) := by decide +kernel
theorem dL_acts_257 : decode cL_acts 257 = .ok (.aload_n 0, 1) := by decide +kernel
theorem dL_acts_258 : decode cL_acts 258 = .ok (.aload_n 1, 1) := by decide +kernel
theorem dL_acts_259 : decode cL_acts 259 = .ok (.aload_n 2, 1) := by decide +kernel
theorem dL_acts_260 : decode cL_acts 260 = .ok (.aload_n 3, 1) := by decide +kernel
theorem dL_acts_261 : decode cL_acts 261 = .ok (.iload 6, 2) := by decide +kernel
theorem dL_acts_263 : decode cL_acts 263 = .ok (.aload_n 1, 1) := by decide +kernel
theorem dL_acts_264 : decode cL_acts 264 = .ok (.iconst 1, 1) := by decide +kernel
theorem dL_acts_265 : decode cL_acts 265 = .ok (.iaload, 1) := by decide +kernel
theorem dL_acts_266 : decode cL_acts 266 = .ok (.invokestatic 90, 3) := by decide +kernel
theorem dL_acts_269 : decode cL_acts 269 = .ok (.invokestatic 132, 3) := by decide +kernel
theorem dL_acts_272 : decode cL_acts 272 = .ok (.ireturn, 1) := by decide +kernel
theorem dL_law_0 : decode cL_law 0 = .ok (.new 11, 3) := by decide +kernel
theorem dL_law_3 : decode cL_law 3 = .ok (.dup, 1) := by decide +kernel
theorem dL_law_4 : decode cL_law 4 = .ok (.invokespecial 136, 3) := by decide +kernel
theorem dL_law_7 : decode cL_law 7 = .ok (.astore_n 1, 1) := by decide +kernel
theorem dL_law_8 : decode cL_law 8 = .ok (.bipush 6, 2) := by decide +kernel
theorem dL_law_10 : decode cL_law 10 = .ok (.newarray .int, 2) := by decide +kernel
theorem dL_law_12 : decode cL_law 12 = .ok (.astore_n 2, 1) := by decide +kernel
theorem dL_law_13 : decode cL_law 13 = .ok (.bipush 50, 2) := by decide +kernel
theorem dL_law_15 : decode cL_law 15 = .ok (.newarray .int, 2) := by decide +kernel
theorem dL_law_17 : decode cL_law 17 = .ok (.astore_n 3, 1) := by decide +kernel
theorem dL_law_18 : decode cL_law 18 = .ok (.bipush 12, 2) := by decide +kernel
theorem dL_law_20 : decode cL_law 20 = .ok (.newarray .int, 2) := by decide +kernel
theorem dL_law_22 : decode cL_law 22 = .ok (.astore 4, 2) := by decide +kernel
theorem dL_law_24 : decode cL_law 24 = .ok (.bipush 20, 2) := by decide +kernel
theorem dL_law_26 : decode cL_law 26 = .ok (.newarray .int, 2) := by decide +kernel
theorem dL_law_28 : decode cL_law 28 = .ok (.astore 5, 2) := by decide +kernel
theorem dL_law_30 : decode cL_law 30 = .ok (.aload_n 1, 1) := by decide +kernel
theorem dL_law_31 : decode cL_law 31 = .ok (.aload_n 2, 1) := by decide +kernel
theorem dL_law_32 : decode cL_law 32 = .ok (.aload_n 3, 1) := by decide +kernel
theorem dL_law_33 : decode cL_law 33 = .ok (.aload 4, 2) := by decide +kernel
theorem dL_law_35 : decode cL_law 35 = .ok (.iconst 4, 1) := by decide +kernel
theorem dL_law_36 : decode cL_law 36 = .ok (.aload_n 0, 1) := by decide +kernel
theorem dL_law_37 : decode cL_law 37 = .ok (.iconst 0, 1) := by decide +kernel
theorem dL_law_38 : decode cL_law 38 = .ok (.invokestatic 137, 3) := by decide +kernel
theorem dL_law_41 : decode cL_law 41 = .ok (.invokestatic 108, 3) := by decide +kernel
theorem dL_law_44 : decode cL_law 44 = .ok (.ifCond .eq 41, 3) := by decide +kernel
theorem dL_law_47 : decode cL_law 47 = .ok (.aload_n 1, 1) := by decide +kernel
theorem dL_law_48 : decode cL_law 48 = .ok (.aload_n 2, 1) := by decide +kernel
theorem dL_law_49 : decode cL_law 49 = .ok (.aload_n 3, 1) := by decide +kernel
theorem dL_law_50 : decode cL_law 50 = .ok (.aload 4, 2) := by decide +kernel
theorem dL_law_52 : decode cL_law 52 = .ok (.iconst 1, 1) := by decide +kernel
theorem dL_law_53 : decode cL_law 53 = .ok (.aload_n 0, 1) := by decide +kernel
theorem dL_law_54 : decode cL_law 54 = .ok (.iconst 1, 1) := by decide +kernel
theorem dL_law_55 : decode cL_law 55 = .ok (.invokestatic 137, 3) := by decide +kernel
theorem dL_law_58 : decode cL_law 58 = .ok (.invokestatic 108, 3) := by decide +kernel
theorem dL_law_61 : decode cL_law 61 = .ok (.ifCond .eq 24, 3) := by decide +kernel
theorem dL_law_64 : decode cL_law 64 = .ok (.aload_n 1, 1) := by decide +kernel
theorem dL_law_65 : decode cL_law 65 = .ok (.aload_n 2, 1) := by decide +kernel
theorem dL_law_66 : decode cL_law 66 = .ok (.aload_n 3, 1) := by decide +kernel
theorem dL_law_67 : decode cL_law 67 = .ok (.aload 4, 2) := by decide +kernel
theorem dL_law_69 : decode cL_law 69 = .ok (.iconst 1, 1) := by decide +kernel
theorem dL_law_70 : decode cL_law 70 = .ok (.aload_n 0, 1) := by decide +kernel
theorem dL_law_71 : decode cL_law 71 = .ok (.iconst 2, 1) := by decide +kernel
theorem dL_law_72 : decode cL_law 72 = .ok (.invokestatic 137, 3) := by decide +kernel
theorem dL_law_75 : decode cL_law 75 = .ok (.invokestatic 108, 3) := by decide +kernel
theorem dL_law_78 : decode cL_law 78 = .ok (.ifCond .eq 7, 3) := by decide +kernel
theorem dL_law_81 : decode cL_law 81 = .ok (.iconst 1, 1) := by decide +kernel
theorem dL_law_82 : decode cL_law 82 = .ok (.goto 4, 3) := by decide +kernel
theorem dL_law_85 : decode cL_law 85 = .ok (.iconst 0, 1) := by decide +kernel
theorem dL_law_86 : decode cL_law 86 = .ok (.istore 6, 2) := by decide +kernel
theorem dL_law_88 : decode cL_law 88 = .ok (.iconst 2, 1) := by decide +kernel
theorem dL_law_89 : decode cL_law 89 = .ok (.istore 7, 2) := by decide +kernel
theorem dL_law_91 : decode cL_law 91 = .ok (.iload 7, 2) := by decide +kernel
theorem dL_law_93 : decode cL_law 93 = .ok (.bipush 50, 2) := by decide +kernel
theorem dL_law_95 : decode cL_law 95 = .ok (.if_icmp .ge 44, 3) := by decide +kernel
theorem dL_law_98 : decode cL_law 98 = .ok (.iload 6, 2) := by decide +kernel
theorem dL_law_100 : decode cL_law 100 = .ok (.ifCond .eq 39, 3) := by decide +kernel
theorem dL_law_103 : decode cL_law 103 = .ok (.aload_n 1, 1) := by decide +kernel
theorem dL_law_104 : decode cL_law 104 = .ok (.aload_n 2, 1) := by decide +kernel
theorem dL_law_105 : decode cL_law 105 = .ok (.aload_n 3, 1) := by decide +kernel
theorem dL_law_106 : decode cL_law 106 = .ok (.aload 4, 2) := by decide +kernel
theorem dL_law_108 : decode cL_law 108 = .ok (.aload 5, 2) := by decide +kernel
theorem dL_law_110 : decode cL_law 110 = .ok (.aload_n 0, 1) := by decide +kernel
theorem dL_law_111 : decode cL_law 111 = .ok (.iconst 2, 1) := by decide +kernel
theorem dL_law_112 : decode cL_law 112 = .ok (.iload 7, 2) := by decide +kernel
theorem dL_law_114 : decode cL_law 114 = .ok (.imul, 1) := by decide +kernel
theorem dL_law_115 : decode cL_law 115 = .ok (.invokestatic 137, 3) := by decide +kernel
theorem dL_law_118 : decode cL_law 118 = .ok (.aload_n 0, 1) := by decide +kernel
theorem dL_law_119 : decode cL_law 119 = .ok (.iconst 2, 1) := by decide +kernel
theorem dL_law_120 : decode cL_law 120 = .ok (.iload 7, 2) := by decide +kernel
theorem dL_law_122 : decode cL_law 122 = .ok (.imul, 1) := by decide +kernel
theorem dL_law_123 : decode cL_law 123 = .ok (.iconst 1, 1) := by decide +kernel
theorem dL_law_124 : decode cL_law 124 = .ok (.iadd, 1) := by decide +kernel
theorem dL_law_125 : decode cL_law 125 = .ok (.invokestatic 137, 3) := by decide +kernel
theorem dL_law_128 : decode cL_law 128 = .ok (.invokestatic 141, 3) := by decide +kernel
theorem dL_law_131 : decode cL_law 131 = .ok (.istore 6, 2) := by decide +kernel
theorem dL_law_133 : decode cL_law 133 = .ok (.iinc 7 1, 3) := by decide +kernel
theorem dL_law_136 : decode cL_law 136 = .ok (.goto (-45), 3) := by decide +kernel
theorem dL_law_139 : decode cL_law 139 = .ok (.iload 6, 2) := by decide +kernel
theorem dL_law_141 : decode cL_law 141 = .ok (.ifCond .eq 29, 3) := by decide +kernel
theorem dL_law_144 : decode cL_law 144 = .ok (.aload_n 1, 1) := by decide +kernel
theorem dL_law_145 : decode cL_law 145 = .ok (.aload_n 2, 1) := by decide +kernel
theorem dL_law_146 : decode cL_law 146 = .ok (.aload 5, 2) := by decide +kernel
theorem dL_law_148 : decode cL_law 148 = .ok (.invokestatic 125, 3) := by decide +kernel
theorem dL_law_151 : decode cL_law 151 = .ok (.ifCond .eq 19, 3) := by decide +kernel
theorem dL_law_154 : decode cL_law 154 = .ok (.aload_n 1, 1) := by decide +kernel
theorem dL_law_155 : decode cL_law 155 = .ok (.aload_n 2, 1) := by decide +kernel
theorem dL_law_156 : decode cL_law 156 = .ok (.aload_n 3, 1) := by decide +kernel
theorem dL_law_157 : decode cL_law 157 = .ok (.aload 4, 2) := by decide +kernel
theorem dL_law_159 : decode cL_law 159 = .ok (.iconst 0, 1) := by decide +kernel
theorem dL_law_160 : decode cL_law 160 = .ok (.invokestatic 132, 3) := by decide +kernel
theorem dL_law_163 : decode cL_law 163 = .ok (.ifCond .eq 7, 3) := by decide +kernel
theorem dL_law_166 : decode cL_law 166 = .ok (.iconst 1, 1) := by decide +kernel
theorem dL_law_167 : decode cL_law 167 = .ok (.goto 4, 3) := by decide +kernel
theorem dL_law_170 : decode cL_law 170 = .ok (.iconst 0, 1) := by decide +kernel
theorem dL_law_171 : decode cL_law 171 = .ok (.ireturn, 1) := by decide +kernel
