theorem dX0_init_0 : decode cX0_init 0 = .ok (.aload_n 0, 1) := by decide +kernel
theorem dX0_init_1 : decode cX0_init 1 = .ok (.invokespecial 3, 3) := by decide +kernel
theorem dX0_init_4 : decode cX0_init 4 = .ok (.aload_n 0, 1) := by decide +kernel
theorem dX0_init_5 : decode cX0_init 5 = .ok (.iconst 4, 1) := by decide +kernel
theorem dX0_init_6 : decode cX0_init 6 = .ok (.anewarray 9, 3) := by decide +kernel
theorem dX0_init_9 : decode cX0_init 9 = .ok (.putfield 11, 3) := by decide +kernel
theorem dX0_init_12 : decode cX0_init 12 = .ok (.return_, 1) := by decide +kernel
theorem dX0_keep_0 : decode cX0_keep 0 = .ok (.iload_n 1, 1) := by decide +kernel
theorem dX0_keep_1 : decode cX0_keep 1 = .ok (.ifCond .lt 32, 3) := by decide +kernel
theorem dX0_keep_4 : decode cX0_keep 4 = .ok (.iload_n 1, 1) := by decide +kernel
theorem dX0_keep_5 : decode cX0_keep 5 = .ok (.aload_n 0, 1) := by decide +kernel
theorem dX0_keep_6 : decode cX0_keep 6 = .ok (.getfield 11, 3) := by decide +kernel
theorem dX0_keep_9 : decode cX0_keep 9 = .ok (.arraylength, 1) := by decide +kernel
theorem dX0_keep_10 : decode cX0_keep 10 = .ok (.if_icmp .ge 23, 3) := by decide +kernel
theorem dX0_keep_13 : decode cX0_keep 13 = .ok (.new 9, 3) := by decide +kernel
theorem dX0_keep_16 : decode cX0_keep 16 = .ok (.dup, 1) := by decide +kernel
theorem dX0_keep_17 : decode cX0_keep 17 = .ok (.invokespecial 17, 3) := by decide +kernel
theorem dX0_keep_20 : decode cX0_keep 20 = .ok (.astore_n 3, 1) := by decide +kernel
theorem dX0_keep_21 : decode cX0_keep 21 = .ok (.aload_n 3, 1) := by decide +kernel
theorem dX0_keep_22 : decode cX0_keep 22 = .ok (.aload_n 2, 1) := by decide +kernel
theorem dX0_keep_23 : decode cX0_keep 23 = .ok (.invokevirtual 18, 3) := by decide +kernel
theorem dX0_keep_26 : decode cX0_keep 26 = .ok (.aload_n 0, 1) := by decide +kernel
theorem dX0_keep_27 : decode cX0_keep 27 = .ok (.getfield 11, 3) := by decide +kernel
theorem dX0_keep_30 : decode cX0_keep 30 = .ok (.iload_n 1, 1) := by decide +kernel
theorem dX0_keep_31 : decode cX0_keep 31 = .ok (.aload_n 3, 1) := by decide +kernel
theorem dX0_keep_32 : decode cX0_keep 32 = .ok (.aastore, 1) := by decide +kernel
theorem dX0_keep_33 : decode cX0_keep 33 = .ok (.return_, 1) := by decide +kernel
theorem dX0_signAt_0 : decode cX0_signAt 0 = .ok (.iload_n 1, 1) := by decide +kernel
theorem dX0_signAt_1 : decode cX0_signAt 1 = .ok (.ifCond .lt 21, 3) := by decide +kernel
theorem dX0_signAt_4 : decode cX0_signAt 4 = .ok (.iload_n 1, 1) := by decide +kernel
theorem dX0_signAt_5 : decode cX0_signAt 5 = .ok (.aload_n 0, 1) := by decide +kernel
theorem dX0_signAt_6 : decode cX0_signAt 6 = .ok (.getfield 11, 3) := by decide +kernel
theorem dX0_signAt_9 : decode cX0_signAt 9 = .ok (.arraylength, 1) := by decide +kernel
theorem dX0_signAt_10 : decode cX0_signAt 10 = .ok (.if_icmp .ge 12, 3) := by decide +kernel
theorem dX0_signAt_13 : decode cX0_signAt 13 = .ok (.aload_n 0, 1) := by decide +kernel
theorem dX0_signAt_14 : decode cX0_signAt 14 = .ok (.getfield 11, 3) := by decide +kernel
theorem dX0_signAt_17 : decode cX0_signAt 17 = .ok (.iload_n 1, 1) := by decide +kernel
theorem dX0_signAt_18 : decode cX0_signAt 18 = .ok (.aaload, 1) := by decide +kernel
theorem dX0_signAt_19 : decode cX0_signAt 19 = .ok (.ifnonnull 6, 3) := by decide +kernel
theorem dX0_signAt_22 : decode cX0_signAt 22 = .ok (.bipush 32, 2) := by decide +kernel
theorem dX0_signAt_24 : decode cX0_signAt 24 = .ok (.ireturn, 1) := by decide +kernel
theorem dX0_signAt_25 : decode cX0_signAt 25 = .ok (.aload_n 0, 1) := by decide +kernel
theorem dX0_signAt_26 : decode cX0_signAt 26 = .ok (.getfield 11, 3) := by decide +kernel
theorem dX0_signAt_29 : decode cX0_signAt 29 = .ok (.iload_n 1, 1) := by decide +kernel
theorem dX0_signAt_30 : decode cX0_signAt 30 = .ok (.aaload, 1) := by decide +kernel
theorem dX0_signAt_31 : decode cX0_signAt 31 = .ok (.iload_n 2, 1) := by decide +kernel
theorem dX0_signAt_32 : decode cX0_signAt 32 = .ok (.iload_n 3, 1) := by decide +kernel
theorem dX0_signAt_33 : decode cX0_signAt 33 = .ok (.invokevirtual 22, 3) := by decide +kernel
theorem dX0_signAt_36 : decode cX0_signAt 36 = .ok (.ireturn, 1) := by decide +kernel
theorem dX1_init_0 : decode cX1_init 0 = .ok (.aload_n 0, 1) := by decide +kernel
theorem dX1_init_1 : decode cX1_init 1 = .ok (.invokespecial 3, 3) := by decide +kernel
theorem dX1_init_4 : decode cX1_init 4 = .ok (.aload_n 0, 1) := by decide +kernel
theorem dX1_init_5 : decode cX1_init 5 = .ok (.sipush 960, 3) := by decide +kernel
theorem dX1_init_8 : decode cX1_init 8 = .ok (.newarray .char, 2) := by decide +kernel
theorem dX1_init_10 : decode cX1_init 10 = .ok (.putfield 9, 3) := by decide +kernel
theorem dX1_init_13 : decode cX1_init 13 = .ok (.return_, 1) := by decide +kernel
theorem dX1_clear_0 : decode cX1_clear 0 = .ok (.iconst 0, 1) := by decide +kernel
theorem dX1_clear_1 : decode cX1_clear 1 = .ok (.istore_n 1, 1) := by decide +kernel
theorem dX1_clear_2 : decode cX1_clear 2 = .ok (.iload_n 1, 1) := by decide +kernel
theorem dX1_clear_3 : decode cX1_clear 3 = .ok (.aload_n 0, 1) := by decide +kernel
theorem dX1_clear_4 : decode cX1_clear 4 = .ok (.getfield 9, 3) := by decide +kernel
theorem dX1_clear_7 : decode cX1_clear 7 = .ok (.arraylength, 1) := by decide +kernel
theorem dX1_clear_8 : decode cX1_clear 8 = .ok (.if_icmp .ge 17, 3) := by decide +kernel
theorem dX1_clear_11 : decode cX1_clear 11 = .ok (.aload_n 0, 1) := by decide +kernel
theorem dX1_clear_12 : decode cX1_clear 12 = .ok (.getfield 9, 3) := by decide +kernel
theorem dX1_clear_15 : decode cX1_clear 15 = .ok (.iload_n 1, 1) := by decide +kernel
theorem dX1_clear_16 : decode cX1_clear 16 = .ok (.bipush 46, 2) := by decide +kernel
theorem dX1_clear_18 : decode cX1_clear 18 = .ok (.castore, 1) := by decide +kernel
theorem dX1_clear_19 : decode cX1_clear 19 = .ok (.iinc 1 1, 3) := by decide +kernel
theorem dX1_clear_22 : decode cX1_clear 22 = .ok (.goto (-20), 3) := by decide +kernel
theorem dX1_clear_25 : decode cX1_clear 25 = .ok (.return_, 1) := by decide +kernel
theorem dX1_copyFrom_0 : decode cX1_copyFrom 0 = .ok (.iconst 0, 1) := by decide +kernel
theorem dX1_copyFrom_1 : decode cX1_copyFrom 1 = .ok (.istore_n 2, 1) := by decide +kernel
theorem dX1_copyFrom_2 : decode cX1_copyFrom 2 = .ok (.iload_n 2, 1) := by decide +kernel
theorem dX1_copyFrom_3 : decode cX1_copyFrom 3 = .ok (.aload_n 0, 1) := by decide +kernel
theorem dX1_copyFrom_4 : decode cX1_copyFrom 4 = .ok (.getfield 9, 3) := by decide +kernel
theorem dX1_copyFrom_7 : decode cX1_copyFrom 7 = .ok (.arraylength, 1) := by decide +kernel
theorem dX1_copyFrom_8 : decode cX1_copyFrom 8 = .ok (.if_icmp .ge 30, 3) := by decide +kernel
theorem dX1_copyFrom_11 : decode cX1_copyFrom 11 = .ok (.iload_n 2, 1) := by decide +kernel
theorem dX1_copyFrom_12 : decode cX1_copyFrom 12 = .ok (.aload_n 1, 1) := by decide +kernel
theorem dX1_copyFrom_13 : decode cX1_copyFrom 13 = .ok (.getfield 9, 3) := by decide +kernel
theorem dX1_copyFrom_16 : decode cX1_copyFrom 16 = .ok (.arraylength, 1) := by decide +kernel
theorem dX1_copyFrom_17 : decode cX1_copyFrom 17 = .ok (.if_icmp .ge 21, 3) := by decide +kernel
theorem dX1_copyFrom_20 : decode cX1_copyFrom 20 = .ok (.aload_n 0, 1) := by decide +kernel
theorem dX1_copyFrom_21 : decode cX1_copyFrom 21 = .ok (.getfield 9, 3) := by decide +kernel
theorem dX1_copyFrom_24 : decode cX1_copyFrom 24 = .ok (.iload_n 2, 1) := by decide +kernel
theorem dX1_copyFrom_25 : decode cX1_copyFrom 25 = .ok (.aload_n 1, 1) := by decide +kernel
theorem dX1_copyFrom_26 : decode cX1_copyFrom 26 = .ok (.getfield 9, 3) := by decide +kernel
theorem dX1_copyFrom_29 : decode cX1_copyFrom 29 = .ok (.iload_n 2, 1) := by decide +kernel
theorem dX1_copyFrom_30 : decode cX1_copyFrom 30 = .ok (.caload, 1) := by decide +kernel
theorem dX1_copyFrom_31 : decode cX1_copyFrom 31 = .ok (.castore, 1) := by decide +kernel
theorem dX1_copyFrom_32 : decode cX1_copyFrom 32 = .ok (.iinc 2 1, 3) := by decide +kernel
theorem dX1_copyFrom_35 : decode cX1_copyFrom 35 = .ok (.goto (-33), 3) := by decide +kernel
theorem dX1_copyFrom_38 : decode cX1_copyFrom 38 = .ok (.return_, 1) := by decide +kernel
theorem dX1_signAt_0 : decode cX1_signAt 0 = .ok (.iload_n 1, 1) := by decide +kernel
theorem dX1_signAt_1 : decode cX1_signAt 1 = .ok (.iload_n 2, 1) := by decide +kernel
theorem dX1_signAt_2 : decode cX1_signAt 2 = .ok (.invokestatic 15, 3) := by decide +kernel
theorem dX1_signAt_5 : decode cX1_signAt 5 = .ok (.ifCond .eq 17, 3) := by decide +kernel
theorem dX1_signAt_8 : decode cX1_signAt 8 = .ok (.aload_n 0, 1) := by decide +kernel
theorem dX1_signAt_9 : decode cX1_signAt 9 = .ok (.getfield 9, 3) := by decide +kernel
theorem dX1_signAt_12 : decode cX1_signAt 12 = .ok (.iload_n 1, 1) := by decide +kernel
theorem dX1_signAt_13 : decode cX1_signAt 13 = .ok (.bipush 40, 2) := by decide +kernel
theorem dX1_signAt_15 : decode cX1_signAt 15 = .ok (.imul, 1) := by decide +kernel
theorem dX1_signAt_16 : decode cX1_signAt 16 = .ok (.iload_n 2, 1) := by decide +kernel
theorem dX1_signAt_17 : decode cX1_signAt 17 = .ok (.iadd, 1) := by decide +kernel
theorem dX1_signAt_18 : decode cX1_signAt 18 = .ok (.caload, 1) := by decide +kernel
theorem dX1_signAt_19 : decode cX1_signAt 19 = .ok (.goto 5, 3) := by decide +kernel
theorem dX1_signAt_22 : decode cX1_signAt 22 = .ok (.bipush 32, 2) := by decide +kernel
theorem dX1_signAt_24 : decode cX1_signAt 24 = .ok (.ireturn, 1) := by decide +kernel
theorem dX1_setSign_0 : decode cX1_setSign 0 = .ok (.iload_n 1, 1) := by decide +kernel
theorem dX1_setSign_1 : decode cX1_setSign 1 = .ok (.iload_n 2, 1) := by decide +kernel
theorem dX1_setSign_2 : decode cX1_setSign 2 = .ok (.invokestatic 15, 3) := by decide +kernel
theorem dX1_setSign_5 : decode cX1_setSign 5 = .ok (.ifCond .eq 15, 3) := by decide +kernel
theorem dX1_setSign_8 : decode cX1_setSign 8 = .ok (.aload_n 0, 1) := by decide +kernel
theorem dX1_setSign_9 : decode cX1_setSign 9 = .ok (.getfield 9, 3) := by decide +kernel
theorem dX1_setSign_12 : decode cX1_setSign 12 = .ok (.iload_n 1, 1) := by decide +kernel
theorem dX1_setSign_13 : decode cX1_setSign 13 = .ok (.bipush 40, 2) := by decide +kernel
theorem dX1_setSign_15 : decode cX1_setSign 15 = .ok (.imul, 1) := by decide +kernel
theorem dX1_setSign_16 : decode cX1_setSign 16 = .ok (.iload_n 2, 1) := by decide +kernel
theorem dX1_setSign_17 : decode cX1_setSign 17 = .ok (.iadd, 1) := by decide +kernel
theorem dX1_setSign_18 : decode cX1_setSign 18 = .ok (.iload_n 3, 1) := by decide +kernel
theorem dX1_setSign_19 : decode cX1_setSign 19 = .ok (.castore, 1) := by decide +kernel
theorem dX1_setSign_20 : decode cX1_setSign 20 = .ok (.return_, 1) := by decide +kernel
theorem dX1_write_0 : decode cX1_write 0 = .ok (.iconst 0, 1) := by decide +kernel
theorem dX1_write_1 : decode cX1_write 1 = .ok (.istore 4, 2) := by decide +kernel
theorem dX1_write_3 : decode cX1_write 3 = .ok (.iload 4, 2) := by decide +kernel
theorem dX1_write_5 : decode cX1_write 5 = .ok (.aload_n 3, 1) := by decide +kernel
theorem dX1_write_6 : decode cX1_write 6 = .ok (.invokevirtual 19, 3) := by decide +kernel
theorem dX1_write_9 : decode cX1_write 9 = .ok (.if_icmp .ge 24, 3) := by decide +kernel
theorem dX1_write_12 : decode cX1_write 12 = .ok (.aload_n 0, 1) := by decide +kernel
theorem dX1_write_13 : decode cX1_write 13 = .ok (.iload_n 1, 1) := by decide +kernel
theorem dX1_write_14 : decode cX1_write 14 = .ok (.iload_n 2, 1) := by decide +kernel
theorem dX1_write_15 : decode cX1_write 15 = .ok (.iload 4, 2) := by decide +kernel
theorem dX1_write_17 : decode cX1_write 17 = .ok (.iadd, 1) := by decide +kernel
theorem dX1_write_18 : decode cX1_write 18 = .ok (.aload_n 3, 1) := by decide +kernel
theorem dX1_write_19 : decode cX1_write 19 = .ok (.iload 4, 2) := by decide +kernel
theorem dX1_write_21 : decode cX1_write 21 = .ok (.invokevirtual 25, 3) := by decide +kernel
theorem dX1_write_24 : decode cX1_write 24 = .ok (.invokevirtual 29, 3) := by decide +kernel
theorem dX1_write_27 : decode cX1_write 27 = .ok (.iinc 4 1, 3) := by decide +kernel
theorem dX1_write_30 : decode cX1_write 30 = .ok (.goto (-27), 3) := by decide +kernel
theorem dX1_write_33 : decode cX1_write 33 = .ok (.return_, 1) := by decide +kernel
theorem dX1_erase_0 : decode cX1_erase 0 = .ok (.iconst 0, 1) := by decide +kernel
theorem dX1_erase_1 : decode cX1_erase 1 = .ok (.istore 4, 2) := by decide +kernel
theorem dX1_erase_3 : decode cX1_erase 3 = .ok (.iload 4, 2) := by decide +kernel
theorem dX1_erase_5 : decode cX1_erase 5 = .ok (.iload_n 3, 1) := by decide +kernel
theorem dX1_erase_6 : decode cX1_erase 6 = .ok (.if_icmp .ge 20, 3) := by decide +kernel
theorem dX1_erase_9 : decode cX1_erase 9 = .ok (.aload_n 0, 1) := by decide +kernel
theorem dX1_erase_10 : decode cX1_erase 10 = .ok (.iload_n 1, 1) := by decide +kernel
theorem dX1_erase_11 : decode cX1_erase 11 = .ok (.iload_n 2, 1) := by decide +kernel
theorem dX1_erase_12 : decode cX1_erase 12 = .ok (.iload 4, 2) := by decide +kernel
theorem dX1_erase_14 : decode cX1_erase 14 = .ok (.iadd, 1) := by decide +kernel
theorem dX1_erase_15 : decode cX1_erase 15 = .ok (.bipush 46, 2) := by decide +kernel
theorem dX1_erase_17 : decode cX1_erase 17 = .ok (.invokevirtual 29, 3) := by decide +kernel
theorem dX1_erase_20 : decode cX1_erase 20 = .ok (.iinc 4 1, 3) := by decide +kernel
theorem dX1_erase_23 : decode cX1_erase 23 = .ok (.goto (-20), 3) := by decide +kernel
theorem dX1_erase_26 : decode cX1_erase 26 = .ok (.return_, 1) := by decide +kernel
theorem dX1_isFree_0 : decode cX1_isFree 0 = .ok (.iconst 0, 1) := by decide +kernel
theorem dX1_isFree_1 : decode cX1_isFree 1 = .ok (.istore 4, 2) := by decide +kernel
theorem dX1_isFree_3 : decode cX1_isFree 3 = .ok (.iload 4, 2) := by decide +kernel
theorem dX1_isFree_5 : decode cX1_isFree 5 = .ok (.iload_n 3, 1) := by decide +kernel
theorem dX1_isFree_6 : decode cX1_isFree 6 = .ok (.if_icmp .ge 25, 3) := by decide +kernel
theorem dX1_isFree_9 : decode cX1_isFree 9 = .ok (.aload_n 0, 1) := by decide +kernel
theorem dX1_isFree_10 : decode cX1_isFree 10 = .ok (.iload_n 1, 1) := by decide +kernel
theorem dX1_isFree_11 : decode cX1_isFree 11 = .ok (.iload_n 2, 1) := by decide +kernel
theorem dX1_isFree_12 : decode cX1_isFree 12 = .ok (.iload 4, 2) := by decide +kernel
theorem dX1_isFree_14 : decode cX1_isFree 14 = .ok (.iadd, 1) := by decide +kernel
theorem dX1_isFree_15 : decode cX1_isFree 15 = .ok (.invokevirtual 33, 3) := by decide +kernel
theorem dX1_isFree_18 : decode cX1_isFree 18 = .ok (.bipush 46, 2) := by decide +kernel
theorem dX1_isFree_20 : decode cX1_isFree 20 = .ok (.if_icmp .eq 5, 3) := by decide +kernel
theorem dX1_isFree_23 : decode cX1_isFree 23 = .ok (.iconst 0, 1) := by decide +kernel
theorem dX1_isFree_24 : decode cX1_isFree 24 = .ok (.ireturn, 1) := by decide +kernel
theorem dX1_isFree_25 : decode cX1_isFree 25 = .ok (.iinc 4 1, 3) := by decide +kernel
theorem dX1_isFree_28 : decode cX1_isFree 28 = .ok (.goto (-25), 3) := by decide +kernel
theorem dX1_isFree_31 : decode cX1_isFree 31 = .ok (.iconst 1, 1) := by decide +kernel
theorem dX1_isFree_32 : decode cX1_isFree 32 = .ok (.ireturn, 1) := by decide +kernel
theorem dX2_init_0 : decode cX2_init 0 = .ok (.aload_n 0, 1) := by decide +kernel
theorem dX2_init_1 : decode cX2_init 1 = .ok (.invokespecial 3, 3) := by decide +kernel
theorem dX2_init_4 : decode cX2_init 4 = .ok (.aload_n 0, 1) := by decide +kernel
theorem dX2_init_5 : decode cX2_init 5 = .ok (.iload_n 1, 1) := by decide +kernel
theorem dX2_init_6 : decode cX2_init 6 = .ok (.putfield 9, 3) := by decide +kernel
theorem dX2_init_9 : decode cX2_init 9 = .ok (.aload_n 0, 1) := by decide +kernel
theorem dX2_init_10 : decode cX2_init 10 = .ok (.iload_n 2, 1) := by decide +kernel
theorem dX2_init_11 : decode cX2_init 11 = .ok (.putfield 15, 3) := by decide +kernel
theorem dX2_init_14 : decode cX2_init 14 = .ok (.aload_n 0, 1) := by decide +kernel
theorem dX2_init_15 : decode cX2_init 15 = .ok (.iload_n 3, 1) := by decide +kernel
theorem dX2_init_16 : decode cX2_init 16 = .ok (.putfield 18, 3) := by decide +kernel
theorem dX2_init_19 : decode cX2_init 19 = .ok (.aload_n 0, 1) := by decide +kernel
theorem dX2_init_20 : decode cX2_init 20 = .ok (.bipush 6, 2) := by decide +kernel
theorem dX2_init_22 : decode cX2_init 22 = .ok (.anewarray 21, 3) := by decide +kernel
theorem dX2_init_25 : decode cX2_init 25 = .ok (.putfield 23, 3) := by decide +kernel
theorem dX2_init_28 : decode cX2_init 28 = .ok (.aload_n 0, 1) := by decide +kernel
theorem dX2_init_29 : decode cX2_init 29 = .ok (.iconst 0, 1) := by decide +kernel
theorem dX2_init_30 : decode cX2_init 30 = .ok (.putfield 27, 3) := by decide +kernel
theorem dX2_init_33 : decode cX2_init 33 = .ok (.return_, 1) := by decide +kernel
theorem dX2_isToldOut_0 : decode cX2_isToldOut 0 = .ok (.aload_n 0, 1) := by decide +kernel
theorem dX2_isToldOut_1 : decode cX2_isToldOut 1 = .ok (.getfield 27, 3) := by decide +kernel
theorem dX2_isToldOut_4 : decode cX2_isToldOut 4 = .ok (.aload_n 0, 1) := by decide +kernel
theorem dX2_isToldOut_5 : decode cX2_isToldOut 5 = .ok (.getfield 23, 3) := by decide +kernel
theorem dX2_isToldOut_8 : decode cX2_isToldOut 8 = .ok (.arraylength, 1) := by decide +kernel
theorem dX2_isToldOut_9 : decode cX2_isToldOut 9 = .ok (.if_icmp .lt 7, 3) := by decide +kernel
theorem dX2_isToldOut_12 : decode cX2_isToldOut 12 = .ok (.iconst 1, 1) := by decide +kernel
theorem dX2_isToldOut_13 : decode cX2_isToldOut 13 = .ok (.goto 4, 3) := by decide +kernel
theorem dX2_isToldOut_16 : decode cX2_isToldOut 16 = .ok (.iconst 0, 1) := by decide +kernel
theorem dX2_isToldOut_17 : decode cX2_isToldOut 17 = .ok (.ireturn, 1) := by decide +kernel
theorem dX2_tell_0 : decode cX2_tell 0 = .ok (.aload_n 0, 1) := by decide +kernel
theorem dX2_tell_1 : decode cX2_tell 1 = .ok (.getfield 27, 3) := by decide +kernel
theorem dX2_tell_4 : decode cX2_tell 4 = .ok (.aload_n 0, 1) := by decide +kernel
theorem dX2_tell_5 : decode cX2_tell 5 = .ok (.getfield 23, 3) := by decide +kernel
theorem dX2_tell_8 : decode cX2_tell 8 = .ok (.arraylength, 1) := by decide +kernel
theorem dX2_tell_9 : decode cX2_tell 9 = .ok (.if_icmp .ge 23, 3) := by decide +kernel
theorem dX2_tell_12 : decode cX2_tell 12 = .ok (.aload_n 0, 1) := by decide +kernel
theorem dX2_tell_13 : decode cX2_tell 13 = .ok (.getfield 23, 3) := by decide +kernel
theorem dX2_tell_16 : decode cX2_tell 16 = .ok (.aload_n 0, 1) := by decide +kernel
theorem dX2_tell_17 : decode cX2_tell 17 = .ok (.getfield 27, 3) := by decide +kernel
theorem dX2_tell_20 : decode cX2_tell 20 = .ok (.aload_n 1, 1) := by decide +kernel
theorem dX2_tell_21 : decode cX2_tell 21 = .ok (.aastore, 1) := by decide +kernel
theorem dX2_tell_22 : decode cX2_tell 22 = .ok (.aload_n 0, 1) := by decide +kernel
theorem dX2_tell_23 : decode cX2_tell 23 = .ok (.dup, 1) := by decide +kernel
theorem dX2_tell_24 : decode cX2_tell 24 = .ok (.getfield 27, 3) := by decide +kernel
theorem dX2_tell_27 : decode cX2_tell 27 = .ok (.iconst 1, 1) := by decide +kernel
theorem dX2_tell_28 : decode cX2_tell 28 = .ok (.iadd, 1) := by decide +kernel
theorem dX2_tell_29 : decode cX2_tell 29 = .ok (.putfield 27, 3) := by decide +kernel
theorem dX2_tell_32 : decode cX2_tell 32 = .ok (.return_, 1) := by decide +kernel
theorem dX2_wordOn_0 : decode cX2_wordOn 0 = .ok (.aconst_null, 1) := by decide +kernel
theorem dX2_wordOn_1 : decode cX2_wordOn 1 = .ok (.astore_n 2, 1) := by decide +kernel
theorem dX2_wordOn_2 : decode cX2_wordOn 2 = .ok (.iconst 0, 1) := by decide +kernel
theorem dX2_wordOn_3 : decode cX2_wordOn 3 = .ok (.istore_n 3, 1) := by decide +kernel
theorem dX2_wordOn_4 : decode cX2_wordOn 4 = .ok (.iload_n 3, 1) := by decide +kernel
theorem dX2_wordOn_5 : decode cX2_wordOn 5 = .ok (.aload_n 0, 1) := by decide +kernel
theorem dX2_wordOn_6 : decode cX2_wordOn 6 = .ok (.getfield 27, 3) := by decide +kernel
theorem dX2_wordOn_9 : decode cX2_wordOn 9 = .ok (.if_icmp .ge 46, 3) := by decide +kernel
theorem dX2_wordOn_12 : decode cX2_wordOn 12 = .ok (.iload_n 3, 1) := by decide +kernel
theorem dX2_wordOn_13 : decode cX2_wordOn 13 = .ok (.aload_n 0, 1) := by decide +kernel
theorem dX2_wordOn_14 : decode cX2_wordOn 14 = .ok (.getfield 23, 3) := by decide +kernel
theorem dX2_wordOn_17 : decode cX2_wordOn 17 = .ok (.arraylength, 1) := by decide +kernel
theorem dX2_wordOn_18 : decode cX2_wordOn 18 = .ok (.if_icmp .ge 37, 3) := by decide +kernel
theorem dX2_wordOn_21 : decode cX2_wordOn 21 = .ok (.aload_n 0, 1) := by decide +kernel
theorem dX2_wordOn_22 : decode cX2_wordOn 22 = .ok (.getfield 23, 3) := by decide +kernel
theorem dX2_wordOn_25 : decode cX2_wordOn 25 = .ok (.iload_n 3, 1) := by decide +kernel
theorem dX2_wordOn_26 : decode cX2_wordOn 26 = .ok (.aaload, 1) := by decide +kernel
theorem dX2_wordOn_27 : decode cX2_wordOn 27 = .ok (.astore 4, 2) := by decide +kernel
theorem dX2_wordOn_29 : decode cX2_wordOn 29 = .ok (.aload 4, 2) := by decide +kernel
theorem dX2_wordOn_31 : decode cX2_wordOn 31 = .ok (.ifnull 18, 3) := by decide +kernel
theorem dX2_wordOn_34 : decode cX2_wordOn 34 = .ok (.aload 4, 2) := by decide +kernel
theorem dX2_wordOn_36 : decode cX2_wordOn 36 = .ok (.getfield 30, 3) := by decide +kernel
theorem dX2_wordOn_39 : decode cX2_wordOn 39 = .ok (.iload_n 1, 1) := by decide +kernel
theorem dX2_wordOn_40 : decode cX2_wordOn 40 = .ok (.if_icmp .gt 9, 3) := by decide +kernel
theorem dX2_wordOn_43 : decode cX2_wordOn 43 = .ok (.aload 4, 2) := by decide +kernel
theorem dX2_wordOn_45 : decode cX2_wordOn 45 = .ok (.getfield 33, 3) := by decide +kernel
theorem dX2_wordOn_48 : decode cX2_wordOn 48 = .ok (.astore_n 2, 1) := by decide +kernel
theorem dX2_wordOn_49 : decode cX2_wordOn 49 = .ok (.iinc 3 1, 3) := by decide +kernel
theorem dX2_wordOn_52 : decode cX2_wordOn 52 = .ok (.goto (-48), 3) := by decide +kernel
theorem dX2_wordOn_55 : decode cX2_wordOn 55 = .ok (.aload_n 2, 1) := by decide +kernel
theorem dX2_wordOn_56 : decode cX2_wordOn 56 = .ok (.areturn, 1) := by decide +kernel
theorem dX3_init_0 : decode cX3_init 0 = .ok (.aload_n 0, 1) := by decide +kernel
theorem dX3_init_1 : decode cX3_init 1 = .ok (.invokespecial 3, 3) := by decide +kernel
theorem dX3_init_4 : decode cX3_init 4 = .ok (.aload_n 0, 1) := by decide +kernel
theorem dX3_init_5 : decode cX3_init 5 = .ok (.iload_n 1, 1) := by decide +kernel
theorem dX3_init_6 : decode cX3_init 6 = .ok (.putfield 9, 3) := by decide +kernel
theorem dX3_init_9 : decode cX3_init 9 = .ok (.aload_n 0, 1) := by decide +kernel
theorem dX3_init_10 : decode cX3_init 10 = .ok (.iload_n 2, 1) := by decide +kernel
theorem dX3_init_11 : decode cX3_init 11 = .ok (.putfield 15, 3) := by decide +kernel
theorem dX3_init_14 : decode cX3_init 14 = .ok (.aload_n 0, 1) := by decide +kernel
theorem dX3_init_15 : decode cX3_init 15 = .ok (.iload_n 3, 1) := by decide +kernel
theorem dX3_init_16 : decode cX3_init 16 = .ok (.putfield 18, 3) := by decide +kernel
theorem dX3_init_19 : decode cX3_init 19 = .ok (.aload_n 0, 1) := by decide +kernel
theorem dX3_init_20 : decode cX3_init 20 = .ok (.new 21, 3) := by decide +kernel
theorem dX3_init_23 : decode cX3_init 23 = .ok (.dup, 1) := by decide +kernel
theorem dX3_init_24 : decode cX3_init 24 = .ok (.invokespecial 23, 3) := by decide +kernel
theorem dX3_init_27 : decode cX3_init 27 = .ok (.putfield 24, 3) := by decide +kernel
theorem dX3_init_30 : decode cX3_init 30 = .ok (.aload_n 0, 1) := by decide +kernel
theorem dX3_init_31 : decode cX3_init 31 = .ok (.new 21, 3) := by decide +kernel
theorem dX3_init_34 : decode cX3_init 34 = .ok (.dup, 1) := by decide +kernel
theorem dX3_init_35 : decode cX3_init 35 = .ok (.invokespecial 23, 3) := by decide +kernel
theorem dX3_init_38 : decode cX3_init 38 = .ok (.putfield 28, 3) := by decide +kernel
theorem dX3_init_41 : decode cX3_init 41 = .ok (.aload_n 0, 1) := by decide +kernel
theorem dX3_init_42 : decode cX3_init 42 = .ok (.bipush 14, 2) := by decide +kernel
theorem dX3_init_44 : decode cX3_init 44 = .ok (.anewarray 31, 3) := by decide +kernel
theorem dX3_init_47 : decode cX3_init 47 = .ok (.putfield 33, 3) := by decide +kernel
theorem dX3_init_50 : decode cX3_init 50 = .ok (.aload_n 0, 1) := by decide +kernel
theorem dX3_init_51 : decode cX3_init 51 = .ok (.bipush 14, 2) := by decide +kernel
theorem dX3_init_53 : decode cX3_init 53 = .ok (.anewarray 31, 3) := by decide +kernel
theorem dX3_init_56 : decode cX3_init 56 = .ok (.putfield 37, 3) := by decide +kernel
theorem dX3_init_59 : decode cX3_init 59 = .ok (.aload_n 0, 1) := by decide +kernel
theorem dX3_init_60 : decode cX3_init 60 = .ok (.iconst 0, 1) := by decide +kernel
theorem dX3_init_61 : decode cX3_init 61 = .ok (.putfield 40, 3) := by decide +kernel
theorem dX3_init_64 : decode cX3_init 64 = .ok (.aload_n 0, 1) := by decide +kernel
theorem dX3_init_65 : decode cX3_init 65 = .ok (.iconst 0, 1) := by decide +kernel
theorem dX3_init_66 : decode cX3_init 66 = .ok (.putfield 43, 3) := by decide +kernel
theorem dX3_init_69 : decode cX3_init 69 = .ok (.return_, 1) := by decide +kernel
theorem dX3_show_0 : decode cX3_show 0 = .ok (.aload_n 1, 1) := by decide +kernel
theorem dX3_show_1 : decode cX3_show 1 = .ok (.ifnull 15, 3) := by decide +kernel
theorem dX3_show_4 : decode cX3_show 4 = .ok (.aload_n 0, 1) := by decide +kernel
theorem dX3_show_5 : decode cX3_show 5 = .ok (.getfield 40, 3) := by decide +kernel
theorem dX3_show_8 : decode cX3_show 8 = .ok (.aload_n 0, 1) := by decide +kernel
theorem dX3_show_9 : decode cX3_show 9 = .ok (.getfield 33, 3) := by decide +kernel
theorem dX3_show_12 : decode cX3_show 12 = .ok (.arraylength, 1) := by decide +kernel
theorem dX3_show_13 : decode cX3_show 13 = .ok (.if_icmp .lt 4, 3) := by decide +kernel
theorem dX3_show_16 : decode cX3_show 16 = .ok (.return_, 1) := by decide +kernel
theorem dX3_show_17 : decode cX3_show 17 = .ok (.aload_n 0, 1) := by decide +kernel
theorem dX3_show_18 : decode cX3_show 18 = .ok (.getfield 33, 3) := by decide +kernel
theorem dX3_show_21 : decode cX3_show 21 = .ok (.aload_n 0, 1) := by decide +kernel
theorem dX3_show_22 : decode cX3_show 22 = .ok (.getfield 40, 3) := by decide +kernel
theorem dX3_show_25 : decode cX3_show 25 = .ok (.aload_n 0, 1) := by decide +kernel
theorem dX3_show_26 : decode cX3_show 26 = .ok (.aload_n 1, 1) := by decide +kernel
theorem dX3_show_27 : decode cX3_show 27 = .ok (.invokevirtual 46, 3) := by decide +kernel
theorem dX3_show_30 : decode cX3_show 30 = .ok (.ifCond .eq 24, 3) := by decide +kernel
theorem dX3_show_33 : decode cX3_show 33 = .ok (.new 31, 3) := by decide +kernel
theorem dX3_show_36 : decode cX3_show 36 = .ok (.dup, 1) := by decide +kernel
theorem dX3_show_37 : decode cX3_show 37 = .ok (.aload_n 1, 1) := by decide +kernel
theorem dX3_show_38 : decode cX3_show 38 = .ok (.aload_n 0, 1) := by decide +kernel
theorem dX3_show_39 : decode cX3_show 39 = .ok (.aload_n 1, 1) := by decide +kernel
theorem dX3_show_40 : decode cX3_show 40 = .ok (.invokevirtual 50, 3) := by decide +kernel
theorem dX3_show_43 : decode cX3_show 43 = .ok (.aload_n 0, 1) := by decide +kernel
theorem dX3_show_44 : decode cX3_show 44 = .ok (.aload_n 1, 1) := by decide +kernel
theorem dX3_show_45 : decode cX3_show 45 = .ok (.invokevirtual 54, 3) := by decide +kernel
theorem dX3_show_48 : decode cX3_show 48 = .ok (.invokespecial 57, 3) := by decide +kernel
theorem dX3_show_51 : decode cX3_show 51 = .ok (.goto 13, 3) := by decide +kernel
theorem dX3_show_54 : decode cX3_show 54 = .ok (.new 31, 3) := by decide +kernel
theorem dX3_show_57 : decode cX3_show 57 = .ok (.dup, 1) := by decide +kernel
theorem dX3_show_58 : decode cX3_show 58 = .ok (.aload_n 1, 1) := by decide +kernel
theorem dX3_show_59 : decode cX3_show 59 = .ok (.iconst (-1), 1) := by decide +kernel
theorem dX3_show_60 : decode cX3_show 60 = .ok (.iconst (-1), 1) := by decide +kernel
theorem dX3_show_61 : decode cX3_show 61 = .ok (.invokespecial 57, 3) := by decide +kernel
theorem dX3_show_64 : decode cX3_show 64 = .ok (.aastore, 1) := by decide +kernel
theorem dX3_show_65 : decode cX3_show 65 = .ok (.aload_n 0, 1) := by decide +kernel
theorem dX3_show_66 : decode cX3_show 66 = .ok (.dup, 1) := by decide +kernel
theorem dX3_show_67 : decode cX3_show 67 = .ok (.getfield 40, 3) := by decide +kernel
theorem dX3_show_70 : decode cX3_show 70 = .ok (.iconst 1, 1) := by decide +kernel
theorem dX3_show_71 : decode cX3_show 71 = .ok (.iadd, 1) := by decide +kernel
theorem dX3_show_72 : decode cX3_show 72 = .ok (.putfield 40, 3) := by decide +kernel
theorem dX3_show_75 : decode cX3_show 75 = .ok (.return_, 1) := by decide +kernel
theorem dX3_has_0 : decode cX3_has 0 = .ok (.aload_n 1, 1) := by decide +kernel
theorem dX3_has_1 : decode cX3_has 1 = .ok (.getfield 60, 3) := by decide +kernel
theorem dX3_has_4 : decode cX3_has 4 = .ok (.aload_n 0, 1) := by decide +kernel
theorem dX3_has_5 : decode cX3_has 5 = .ok (.getfield 9, 3) := by decide +kernel
theorem dX3_has_8 : decode cX3_has 8 = .ok (.isub, 1) := by decide +kernel
theorem dX3_has_9 : decode cX3_has 9 = .ok (.iconst 0, 1) := by decide +kernel
theorem dX3_has_10 : decode cX3_has 10 = .ok (.bipush 29, 2) := by decide +kernel
theorem dX3_has_12 : decode cX3_has 12 = .ok (.invokestatic 63, 3) := by decide +kernel
theorem dX3_has_15 : decode cX3_has 15 = .ok (.ifCond .eq 25, 3) := by decide +kernel
theorem dX3_has_18 : decode cX3_has 18 = .ok (.aload_n 1, 1) := by decide +kernel
theorem dX3_has_19 : decode cX3_has 19 = .ok (.getfield 67, 3) := by decide +kernel
theorem dX3_has_22 : decode cX3_has 22 = .ok (.aload_n 0, 1) := by decide +kernel
theorem dX3_has_23 : decode cX3_has 23 = .ok (.getfield 15, 3) := by decide +kernel
theorem dX3_has_26 : decode cX3_has 26 = .ok (.isub, 1) := by decide +kernel
theorem dX3_has_27 : decode cX3_has 27 = .ok (.iconst 0, 1) := by decide +kernel
theorem dX3_has_28 : decode cX3_has 28 = .ok (.bipush 19, 2) := by decide +kernel
theorem dX3_has_30 : decode cX3_has 30 = .ok (.invokestatic 63, 3) := by decide +kernel
theorem dX3_has_33 : decode cX3_has 33 = .ok (.ifCond .eq 7, 3) := by decide +kernel
theorem dX3_has_36 : decode cX3_has 36 = .ok (.iconst 1, 1) := by decide +kernel
theorem dX3_has_37 : decode cX3_has 37 = .ok (.goto 4, 3) := by decide +kernel
theorem dX3_has_40 : decode cX3_has 40 = .ok (.iconst 0, 1) := by decide +kernel
theorem dX3_has_41 : decode cX3_has 41 = .ok (.ireturn, 1) := by decide +kernel
theorem dX3_rowOf_0 : decode cX3_rowOf 0 = .ok (.bipush 24, 2) := by decide +kernel
theorem dX3_rowOf_2 : decode cX3_rowOf 2 = .ok (.aload_n 1, 1) := by decide +kernel
theorem dX3_rowOf_3 : decode cX3_rowOf 3 = .ok (.getfield 67, 3) := by decide +kernel
theorem dX3_rowOf_6 : decode cX3_rowOf 6 = .ok (.aload_n 0, 1) := by decide +kernel
theorem dX3_rowOf_7 : decode cX3_rowOf 7 = .ok (.getfield 15, 3) := by decide +kernel
theorem dX3_rowOf_10 : decode cX3_rowOf 10 = .ok (.isub, 1) := by decide +kernel
theorem dX3_rowOf_11 : decode cX3_rowOf 11 = .ok (.imul, 1) := by decide +kernel
theorem dX3_rowOf_12 : decode cX3_rowOf 12 = .ok (.bipush 20, 2) := by decide +kernel
theorem dX3_rowOf_14 : decode cX3_rowOf 14 = .ok (.idiv, 1) := by decide +kernel
theorem dX3_rowOf_15 : decode cX3_rowOf 15 = .ok (.ireturn, 1) := by decide +kernel
theorem dX3_columnOf_0 : decode cX3_columnOf 0 = .ok (.aload_n 1, 1) := by decide +kernel
theorem dX3_columnOf_1 : decode cX3_columnOf 1 = .ok (.getfield 60, 3) := by decide +kernel
theorem dX3_columnOf_4 : decode cX3_columnOf 4 = .ok (.aload_n 0, 1) := by decide +kernel
theorem dX3_columnOf_5 : decode cX3_columnOf 5 = .ok (.getfield 9, 3) := by decide +kernel
theorem dX3_columnOf_8 : decode cX3_columnOf 8 = .ok (.isub, 1) := by decide +kernel
theorem dX3_columnOf_9 : decode cX3_columnOf 9 = .ok (.istore_n 2, 1) := by decide +kernel
theorem dX3_columnOf_10 : decode cX3_columnOf 10 = .ok (.aload_n 0, 1) := by decide +kernel
theorem dX3_columnOf_11 : decode cX3_columnOf 11 = .ok (.getfield 18, 3) := by decide +kernel
theorem dX3_columnOf_14 : decode cX3_columnOf 14 = .ok (.ifCond .ne 11, 3) := by decide +kernel
theorem dX3_columnOf_17 : decode cX3_columnOf 17 = .ok (.bipush 40, 2) := by decide +kernel
theorem dX3_columnOf_19 : decode cX3_columnOf 19 = .ok (.iload_n 2, 1) := by decide +kernel
theorem dX3_columnOf_20 : decode cX3_columnOf 20 = .ok (.imul, 1) := by decide +kernel
theorem dX3_columnOf_21 : decode cX3_columnOf 21 = .ok (.bipush 30, 2) := by decide +kernel
theorem dX3_columnOf_23 : decode cX3_columnOf 23 = .ok (.idiv, 1) := by decide +kernel
theorem dX3_columnOf_24 : decode cX3_columnOf 24 = .ok (.ireturn, 1) := by decide +kernel
theorem dX3_columnOf_25 : decode cX3_columnOf 25 = .ok (.fconst 1, 1) := by decide +kernel
theorem dX3_columnOf_26 : decode cX3_columnOf 26 = .ok (.ldc 68, 2) := by decide +kernel
theorem dX3_columnOf_28 : decode cX3_columnOf 28 = .ok (.aload_n 1, 1) := by decide +kernel
theorem dX3_columnOf_29 : decode cX3_columnOf 29 = .ok (.getfield 67, 3) := by decide +kernel
theorem dX3_columnOf_32 : decode cX3_columnOf 32 = .ok (.aload_n 0, 1) := by decide +kernel
theorem dX3_columnOf_33 : decode cX3_columnOf 33 = .ok (.getfield 15, 3) := by decide +kernel
theorem dX3_columnOf_36 : decode cX3_columnOf 36 = .ok (.isub, 1) := by decide +kernel
theorem dX3_columnOf_37 : decode cX3_columnOf 37 = .ok (.i2f, 1) := by decide +kernel
theorem dX3_columnOf_38 : decode cX3_columnOf 38 = .ok (.fmul, 1) := by decide +kernel
theorem dX3_columnOf_39 : decode cX3_columnOf 39 = .ok (.fsub, 1) := by decide +kernel
theorem dX3_columnOf_40 : decode cX3_columnOf 40 = .ok (.fstore_n 3, 1) := by decide +kernel
theorem dX3_columnOf_41 : decode cX3_columnOf 41 = .ok (.iload_n 2, 1) := by decide +kernel
theorem dX3_columnOf_42 : decode cX3_columnOf 42 = .ok (.i2f, 1) := by decide +kernel
theorem dX3_columnOf_43 : decode cX3_columnOf 43 = .ok (.ldc 69, 2) := by decide +kernel
theorem dX3_columnOf_45 : decode cX3_columnOf 45 = .ok (.fsub, 1) := by decide +kernel
theorem dX3_columnOf_46 : decode cX3_columnOf 46 = .ok (.ldc 70, 2) := by decide +kernel
theorem dX3_columnOf_48 : decode cX3_columnOf 48 = .ok (.fmul, 1) := by decide +kernel
theorem dX3_columnOf_49 : decode cX3_columnOf 49 = .ok (.ldc 71, 2) := by decide +kernel
theorem dX3_columnOf_51 : decode cX3_columnOf 51 = .ok (.fdiv, 1) := by decide +kernel
theorem dX3_columnOf_52 : decode cX3_columnOf 52 = .ok (.fload_n 3, 1) := by decide +kernel
theorem dX3_columnOf_53 : decode cX3_columnOf 53 = .ok (.fmul, 1) := by decide +kernel
theorem dX3_columnOf_54 : decode cX3_columnOf 54 = .ok (.fstore 4, 2) := by decide +kernel
theorem dX3_columnOf_56 : decode cX3_columnOf 56 = .ok (.ldc 72, 2) := by decide +kernel
theorem dX3_columnOf_58 : decode cX3_columnOf 58 = .ok (.fload 4, 2) := by decide +kernel
theorem dX3_columnOf_60 : decode cX3_columnOf 60 = .ok (.fadd, 1) := by decide +kernel
theorem dX3_columnOf_61 : decode cX3_columnOf 61 = .ok (.f2i, 1) := by decide +kernel
theorem dX3_columnOf_62 : decode cX3_columnOf 62 = .ok (.ireturn, 1) := by decide +kernel
theorem dX3_spotOf_0 : decode cX3_spotOf 0 = .ok (.iload_n 1, 1) := by decide +kernel
theorem dX3_spotOf_1 : decode cX3_spotOf 1 = .ok (.ifCond .lt 20, 3) := by decide +kernel
theorem dX3_spotOf_4 : decode cX3_spotOf 4 = .ok (.iload_n 1, 1) := by decide +kernel
theorem dX3_spotOf_5 : decode cX3_spotOf 5 = .ok (.aload_n 0, 1) := by decide +kernel
theorem dX3_spotOf_6 : decode cX3_spotOf 6 = .ok (.getfield 40, 3) := by decide +kernel
theorem dX3_spotOf_9 : decode cX3_spotOf 9 = .ok (.if_icmp .ge 12, 3) := by decide +kernel
theorem dX3_spotOf_12 : decode cX3_spotOf 12 = .ok (.iload_n 1, 1) := by decide +kernel
theorem dX3_spotOf_13 : decode cX3_spotOf 13 = .ok (.aload_n 0, 1) := by decide +kernel
theorem dX3_spotOf_14 : decode cX3_spotOf 14 = .ok (.getfield 33, 3) := by decide +kernel
theorem dX3_spotOf_17 : decode cX3_spotOf 17 = .ok (.arraylength, 1) := by decide +kernel
theorem dX3_spotOf_18 : decode cX3_spotOf 18 = .ok (.if_icmp .lt 7, 3) := by decide +kernel
theorem dX3_spotOf_21 : decode cX3_spotOf 21 = .ok (.aconst_null, 1) := by decide +kernel
theorem dX3_spotOf_22 : decode cX3_spotOf 22 = .ok (.goto 9, 3) := by decide +kernel
theorem dX3_spotOf_25 : decode cX3_spotOf 25 = .ok (.aload_n 0, 1) := by decide +kernel
theorem dX3_spotOf_26 : decode cX3_spotOf 26 = .ok (.getfield 33, 3) := by decide +kernel
theorem dX3_spotOf_29 : decode cX3_spotOf 29 = .ok (.iload_n 1, 1) := by decide +kernel
theorem dX3_spotOf_30 : decode cX3_spotOf 30 = .ok (.aaload, 1) := by decide +kernel
theorem dX3_spotOf_31 : decode cX3_spotOf 31 = .ok (.areturn, 1) := by decide +kernel
theorem dX3_placeAnew_0 : decode cX3_placeAnew 0 = .ok (.iconst 0, 1) := by decide +kernel
theorem dX3_placeAnew_1 : decode cX3_placeAnew 1 = .ok (.istore_n 2, 1) := by decide +kernel
theorem dX3_placeAnew_2 : decode cX3_placeAnew 2 = .ok (.iload_n 2, 1) := by decide +kernel
theorem dX3_placeAnew_3 : decode cX3_placeAnew 3 = .ok (.aload_n 0, 1) := by decide +kernel
theorem dX3_placeAnew_4 : decode cX3_placeAnew 4 = .ok (.getfield 40, 3) := by decide +kernel
theorem dX3_placeAnew_7 : decode cX3_placeAnew 7 = .ok (.if_icmp .ge 34, 3) := by decide +kernel
theorem dX3_placeAnew_10 : decode cX3_placeAnew 10 = .ok (.iload_n 2, 1) := by decide +kernel
theorem dX3_placeAnew_11 : decode cX3_placeAnew 11 = .ok (.aload_n 0, 1) := by decide +kernel
theorem dX3_placeAnew_12 : decode cX3_placeAnew 12 = .ok (.getfield 33, 3) := by decide +kernel
theorem dX3_placeAnew_15 : decode cX3_placeAnew 15 = .ok (.arraylength, 1) := by decide +kernel
theorem dX3_placeAnew_16 : decode cX3_placeAnew 16 = .ok (.if_icmp .ge 25, 3) := by decide +kernel
theorem dX3_placeAnew_19 : decode cX3_placeAnew 19 = .ok (.aload_n 0, 1) := by decide +kernel
theorem dX3_placeAnew_20 : decode cX3_placeAnew 20 = .ok (.getfield 33, 3) := by decide +kernel
theorem dX3_placeAnew_23 : decode cX3_placeAnew 23 = .ok (.iload_n 2, 1) := by decide +kernel
theorem dX3_placeAnew_24 : decode cX3_placeAnew 24 = .ok (.aaload, 1) := by decide +kernel
theorem dX3_placeAnew_25 : decode cX3_placeAnew 25 = .ok (.astore_n 3, 1) := by decide +kernel
theorem dX3_placeAnew_26 : decode cX3_placeAnew 26 = .ok (.aload_n 3, 1) := by decide +kernel
theorem dX3_placeAnew_27 : decode cX3_placeAnew 27 = .ok (.ifnull 8, 3) := by decide +kernel
theorem dX3_placeAnew_30 : decode cX3_placeAnew 30 = .ok (.aload_n 3, 1) := by decide +kernel
theorem dX3_placeAnew_31 : decode cX3_placeAnew 31 = .ok (.iload_n 1, 1) := by decide +kernel
theorem dX3_placeAnew_32 : decode cX3_placeAnew 32 = .ok (.invokevirtual 73, 3) := by decide +kernel
theorem dX3_placeAnew_35 : decode cX3_placeAnew 35 = .ok (.iinc 2 1, 3) := by decide +kernel
theorem dX3_placeAnew_38 : decode cX3_placeAnew 38 = .ok (.goto (-36), 3) := by decide +kernel
theorem dX3_placeAnew_41 : decode cX3_placeAnew 41 = .ok (.aload_n 0, 1) := by decide +kernel
theorem dX3_placeAnew_42 : decode cX3_placeAnew 42 = .ok (.invokevirtual 77, 3) := by decide +kernel
theorem dX3_placeAnew_45 : decode cX3_placeAnew 45 = .ok (.aload_n 0, 1) := by decide +kernel
theorem dX3_placeAnew_46 : decode cX3_placeAnew 46 = .ok (.aload_n 0, 1) := by decide +kernel
theorem dX3_placeAnew_47 : decode cX3_placeAnew 47 = .ok (.getfield 24, 3) := by decide +kernel
theorem dX3_placeAnew_50 : decode cX3_placeAnew 50 = .ok (.invokevirtual 80, 3) := by decide +kernel
theorem dX3_placeAnew_53 : decode cX3_placeAnew 53 = .ok (.iconst 0, 1) := by decide +kernel
theorem dX3_placeAnew_54 : decode cX3_placeAnew 54 = .ok (.istore_n 2, 1) := by decide +kernel
theorem dX3_placeAnew_55 : decode cX3_placeAnew 55 = .ok (.iload_n 2, 1) := by decide +kernel
theorem dX3_placeAnew_56 : decode cX3_placeAnew 56 = .ok (.aload_n 0, 1) := by decide +kernel
theorem dX3_placeAnew_57 : decode cX3_placeAnew 57 = .ok (.getfield 43, 3) := by decide +kernel
theorem dX3_placeAnew_60 : decode cX3_placeAnew 60 = .ok (.if_icmp .ge 37, 3) := by decide +kernel
theorem dX3_placeAnew_63 : decode cX3_placeAnew 63 = .ok (.iload_n 2, 1) := by decide +kernel
theorem dX3_placeAnew_64 : decode cX3_placeAnew 64 = .ok (.aload_n 0, 1) := by decide +kernel
theorem dX3_placeAnew_65 : decode cX3_placeAnew 65 = .ok (.getfield 37, 3) := by decide +kernel
theorem dX3_placeAnew_68 : decode cX3_placeAnew 68 = .ok (.arraylength, 1) := by decide +kernel
theorem dX3_placeAnew_69 : decode cX3_placeAnew 69 = .ok (.if_icmp .ge 28, 3) := by decide +kernel
theorem dX3_placeAnew_72 : decode cX3_placeAnew 72 = .ok (.aload_n 0, 1) := by decide +kernel
theorem dX3_placeAnew_73 : decode cX3_placeAnew 73 = .ok (.getfield 37, 3) := by decide +kernel
theorem dX3_placeAnew_76 : decode cX3_placeAnew 76 = .ok (.iload_n 2, 1) := by decide +kernel
theorem dX3_placeAnew_77 : decode cX3_placeAnew 77 = .ok (.aaload, 1) := by decide +kernel
theorem dX3_placeAnew_78 : decode cX3_placeAnew 78 = .ok (.astore_n 3, 1) := by decide +kernel
theorem dX3_placeAnew_79 : decode cX3_placeAnew 79 = .ok (.aload_n 3, 1) := by decide +kernel
theorem dX3_placeAnew_80 : decode cX3_placeAnew 80 = .ok (.ifnull 11, 3) := by decide +kernel
theorem dX3_placeAnew_83 : decode cX3_placeAnew 83 = .ok (.aload_n 3, 1) := by decide +kernel
theorem dX3_placeAnew_84 : decode cX3_placeAnew 84 = .ok (.aload_n 0, 1) := by decide +kernel
theorem dX3_placeAnew_85 : decode cX3_placeAnew 85 = .ok (.getfield 24, 3) := by decide +kernel
theorem dX3_placeAnew_88 : decode cX3_placeAnew 88 = .ok (.invokevirtual 84, 3) := by decide +kernel
theorem dX3_placeAnew_91 : decode cX3_placeAnew 91 = .ok (.iinc 2 1, 3) := by decide +kernel
theorem dX3_placeAnew_94 : decode cX3_placeAnew 94 = .ok (.goto (-39), 3) := by decide +kernel
theorem dX3_placeAnew_97 : decode cX3_placeAnew 97 = .ok (.return_, 1) := by decide +kernel
theorem dX3_listNamed_0 : decode cX3_listNamed 0 = .ok (.aload_n 0, 1) := by decide +kernel
theorem dX3_listNamed_1 : decode cX3_listNamed 1 = .ok (.iconst 0, 1) := by decide +kernel
theorem dX3_listNamed_2 : decode cX3_listNamed 2 = .ok (.putfield 43, 3) := by decide +kernel
theorem dX3_listNamed_5 : decode cX3_listNamed 5 = .ok (.iconst 5, 1) := by decide +kernel
theorem dX3_listNamed_6 : decode cX3_listNamed 6 = .ok (.istore_n 1, 1) := by decide +kernel
theorem dX3_listNamed_7 : decode cX3_listNamed 7 = .ok (.iload_n 1, 1) := by decide +kernel
theorem dX3_listNamed_8 : decode cX3_listNamed 8 = .ok (.iconst 1, 1) := by decide +kernel
theorem dX3_listNamed_9 : decode cX3_listNamed 9 = .ok (.if_icmp .lt 92, 3) := by decide +kernel
theorem dX3_listNamed_12 : decode cX3_listNamed 12 = .ok (.iconst 0, 1) := by decide +kernel
theorem dX3_listNamed_13 : decode cX3_listNamed 13 = .ok (.istore_n 2, 1) := by decide +kernel
theorem dX3_listNamed_14 : decode cX3_listNamed 14 = .ok (.iload_n 2, 1) := by decide +kernel
theorem dX3_listNamed_15 : decode cX3_listNamed 15 = .ok (.aload_n 0, 1) := by decide +kernel
theorem dX3_listNamed_16 : decode cX3_listNamed 16 = .ok (.getfield 40, 3) := by decide +kernel
theorem dX3_listNamed_19 : decode cX3_listNamed 19 = .ok (.if_icmp .ge 76, 3) := by decide +kernel
theorem dX3_listNamed_22 : decode cX3_listNamed 22 = .ok (.iload_n 2, 1) := by decide +kernel
theorem dX3_listNamed_23 : decode cX3_listNamed 23 = .ok (.aload_n 0, 1) := by decide +kernel
theorem dX3_listNamed_24 : decode cX3_listNamed 24 = .ok (.getfield 33, 3) := by decide +kernel
theorem dX3_listNamed_27 : decode cX3_listNamed 27 = .ok (.arraylength, 1) := by decide +kernel
theorem dX3_listNamed_28 : decode cX3_listNamed 28 = .ok (.if_icmp .ge 67, 3) := by decide +kernel
theorem dX3_listNamed_31 : decode cX3_listNamed 31 = .ok (.aload_n 0, 1) := by decide +kernel
theorem dX3_listNamed_32 : decode cX3_listNamed 32 = .ok (.getfield 33, 3) := by decide +kernel
theorem dX3_listNamed_35 : decode cX3_listNamed 35 = .ok (.iload_n 2, 1) := by decide +kernel
theorem dX3_listNamed_36 : decode cX3_listNamed 36 = .ok (.aaload, 1) := by decide +kernel
theorem dX3_listNamed_37 : decode cX3_listNamed 37 = .ok (.astore_n 3, 1) := by decide +kernel
theorem dX3_listNamed_38 : decode cX3_listNamed 38 = .ok (.aload_n 3, 1) := by decide +kernel
theorem dX3_listNamed_39 : decode cX3_listNamed 39 = .ok (.ifnull 50, 3) := by decide +kernel
theorem dX3_listNamed_42 : decode cX3_listNamed 42 = .ok (.aload_n 3, 1) := by decide +kernel
theorem dX3_listNamed_43 : decode cX3_listNamed 43 = .ok (.getfield 87, 3) := by decide +kernel
theorem dX3_listNamed_46 : decode cX3_listNamed 46 = .ok (.iload_n 1, 1) := by decide +kernel
theorem dX3_listNamed_47 : decode cX3_listNamed 47 = .ok (.if_icmp .ne 42, 3) := by decide +kernel
theorem dX3_listNamed_50 : decode cX3_listNamed 50 = .ok (.aload_n 3, 1) := by decide +kernel
theorem dX3_listNamed_51 : decode cX3_listNamed 51 = .ok (.invokevirtual 90, 3) := by decide +kernel
theorem dX3_listNamed_54 : decode cX3_listNamed 54 = .ok (.ifCond .eq 35, 3) := by decide +kernel
theorem dX3_listNamed_57 : decode cX3_listNamed 57 = .ok (.aload_n 0, 1) := by decide +kernel
theorem dX3_listNamed_58 : decode cX3_listNamed 58 = .ok (.getfield 43, 3) := by decide +kernel
theorem dX3_listNamed_61 : decode cX3_listNamed 61 = .ok (.aload_n 0, 1) := by decide +kernel
theorem dX3_listNamed_62 : decode cX3_listNamed 62 = .ok (.getfield 37, 3) := by decide +kernel
theorem dX3_listNamed_65 : decode cX3_listNamed 65 = .ok (.arraylength, 1) := by decide +kernel
theorem dX3_listNamed_66 : decode cX3_listNamed 66 = .ok (.if_icmp .ge 23, 3) := by decide +kernel
theorem dX3_listNamed_69 : decode cX3_listNamed 69 = .ok (.aload_n 0, 1) := by decide +kernel
theorem dX3_listNamed_70 : decode cX3_listNamed 70 = .ok (.getfield 37, 3) := by decide +kernel
theorem dX3_listNamed_73 : decode cX3_listNamed 73 = .ok (.aload_n 0, 1) := by decide +kernel
theorem dX3_listNamed_74 : decode cX3_listNamed 74 = .ok (.getfield 43, 3) := by decide +kernel
theorem dX3_listNamed_77 : decode cX3_listNamed 77 = .ok (.aload_n 3, 1) := by decide +kernel
theorem dX3_listNamed_78 : decode cX3_listNamed 78 = .ok (.aastore, 1) := by decide +kernel
theorem dX3_listNamed_79 : decode cX3_listNamed 79 = .ok (.aload_n 0, 1) := by decide +kernel
theorem dX3_listNamed_80 : decode cX3_listNamed 80 = .ok (.dup, 1) := by decide +kernel
theorem dX3_listNamed_81 : decode cX3_listNamed 81 = .ok (.getfield 43, 3) := by decide +kernel
theorem dX3_listNamed_84 : decode cX3_listNamed 84 = .ok (.iconst 1, 1) := by decide +kernel
theorem dX3_listNamed_85 : decode cX3_listNamed 85 = .ok (.iadd, 1) := by decide +kernel
theorem dX3_listNamed_86 : decode cX3_listNamed 86 = .ok (.putfield 43, 3) := by decide +kernel
theorem dX3_listNamed_89 : decode cX3_listNamed 89 = .ok (.iinc 2 1, 3) := by decide +kernel
theorem dX3_listNamed_92 : decode cX3_listNamed 92 = .ok (.goto (-78), 3) := by decide +kernel
theorem dX3_listNamed_95 : decode cX3_listNamed 95 = .ok (.iinc 1 (-1), 3) := by decide +kernel
theorem dX3_listNamed_98 : decode cX3_listNamed 98 = .ok (.goto (-91), 3) := by decide +kernel
theorem dX3_listNamed_101 : decode cX3_listNamed 101 = .ok (.return_, 1) := by decide +kernel
theorem dX3_drawDots_0 : decode cX3_drawDots 0 = .ok (.aload_n 1, 1) := by decide +kernel
theorem dX3_drawDots_1 : decode cX3_drawDots 1 = .ok (.invokevirtual 94, 3) := by decide +kernel
theorem dX3_drawDots_4 : decode cX3_drawDots 4 = .ok (.iconst 0, 1) := by decide +kernel
theorem dX3_drawDots_5 : decode cX3_drawDots 5 = .ok (.istore_n 2, 1) := by decide +kernel
theorem dX3_drawDots_6 : decode cX3_drawDots 6 = .ok (.iload_n 2, 1) := by decide +kernel
theorem dX3_drawDots_7 : decode cX3_drawDots 7 = .ok (.aload_n 0, 1) := by decide +kernel
theorem dX3_drawDots_8 : decode cX3_drawDots 8 = .ok (.getfield 40, 3) := by decide +kernel
theorem dX3_drawDots_11 : decode cX3_drawDots 11 = .ok (.if_icmp .ge 50, 3) := by decide +kernel
theorem dX3_drawDots_14 : decode cX3_drawDots 14 = .ok (.iload_n 2, 1) := by decide +kernel
theorem dX3_drawDots_15 : decode cX3_drawDots 15 = .ok (.aload_n 0, 1) := by decide +kernel
theorem dX3_drawDots_16 : decode cX3_drawDots 16 = .ok (.getfield 33, 3) := by decide +kernel
theorem dX3_drawDots_19 : decode cX3_drawDots 19 = .ok (.arraylength, 1) := by decide +kernel
theorem dX3_drawDots_20 : decode cX3_drawDots 20 = .ok (.if_icmp .ge 41, 3) := by decide +kernel
theorem dX3_drawDots_23 : decode cX3_drawDots 23 = .ok (.aload_n 0, 1) := by decide +kernel
theorem dX3_drawDots_24 : decode cX3_drawDots 24 = .ok (.getfield 33, 3) := by decide +kernel
theorem dX3_drawDots_27 : decode cX3_drawDots 27 = .ok (.iload_n 2, 1) := by decide +kernel
theorem dX3_drawDots_28 : decode cX3_drawDots 28 = .ok (.aaload, 1) := by decide +kernel
theorem dX3_drawDots_29 : decode cX3_drawDots 29 = .ok (.astore_n 3, 1) := by decide +kernel
theorem dX3_drawDots_30 : decode cX3_drawDots 30 = .ok (.aload_n 3, 1) := by decide +kernel
theorem dX3_drawDots_31 : decode cX3_drawDots 31 = .ok (.ifnull 24, 3) := by decide +kernel
theorem dX3_drawDots_34 : decode cX3_drawDots 34 = .ok (.aload_n 3, 1) := by decide +kernel
theorem dX3_drawDots_35 : decode cX3_drawDots 35 = .ok (.invokevirtual 97, 3) := by decide +kernel
theorem dX3_drawDots_38 : decode cX3_drawDots 38 = .ok (.ifCond .eq 17, 3) := by decide +kernel
theorem dX3_drawDots_41 : decode cX3_drawDots 41 = .ok (.aload_n 1, 1) := by decide +kernel
theorem dX3_drawDots_42 : decode cX3_drawDots 42 = .ok (.aload_n 3, 1) := by decide +kernel
theorem dX3_drawDots_43 : decode cX3_drawDots 43 = .ok (.getfield 100, 3) := by decide +kernel
theorem dX3_drawDots_46 : decode cX3_drawDots 46 = .ok (.aload_n 3, 1) := by decide +kernel
theorem dX3_drawDots_47 : decode cX3_drawDots 47 = .ok (.getfield 103, 3) := by decide +kernel
theorem dX3_drawDots_50 : decode cX3_drawDots 50 = .ok (.bipush 42, 2) := by decide +kernel
theorem dX3_drawDots_52 : decode cX3_drawDots 52 = .ok (.invokevirtual 106, 3) := by decide +kernel
theorem dX3_drawDots_55 : decode cX3_drawDots 55 = .ok (.iinc 2 1, 3) := by decide +kernel
theorem dX3_drawDots_58 : decode cX3_drawDots 58 = .ok (.goto (-52), 3) := by decide +kernel
theorem dX3_drawDots_61 : decode cX3_drawDots 61 = .ok (.return_, 1) := by decide +kernel
theorem dX3_pushedBeside_0 : decode cX3_pushedBeside 0 = .ok (.iconst 0, 1) := by decide +kernel
theorem dX3_pushedBeside_1 : decode cX3_pushedBeside 1 = .ok (.istore_n 2, 1) := by decide +kernel
theorem dX3_pushedBeside_2 : decode cX3_pushedBeside 2 = .ok (.iconst 0, 1) := by decide +kernel
theorem dX3_pushedBeside_3 : decode cX3_pushedBeside 3 = .ok (.istore_n 3, 1) := by decide +kernel
theorem dX3_pushedBeside_4 : decode cX3_pushedBeside 4 = .ok (.iload_n 3, 1) := by decide +kernel
theorem dX3_pushedBeside_5 : decode cX3_pushedBeside 5 = .ok (.aload_n 0, 1) := by decide +kernel
theorem dX3_pushedBeside_6 : decode cX3_pushedBeside 6 = .ok (.getfield 40, 3) := by decide +kernel
theorem dX3_pushedBeside_9 : decode cX3_pushedBeside 9 = .ok (.if_icmp .ge 47, 3) := by decide +kernel
theorem dX3_pushedBeside_12 : decode cX3_pushedBeside 12 = .ok (.iload_n 3, 1) := by decide +kernel
theorem dX3_pushedBeside_13 : decode cX3_pushedBeside 13 = .ok (.aload_n 0, 1) := by decide +kernel
theorem dX3_pushedBeside_14 : decode cX3_pushedBeside 14 = .ok (.getfield 33, 3) := by decide +kernel
theorem dX3_pushedBeside_17 : decode cX3_pushedBeside 17 = .ok (.arraylength, 1) := by decide +kernel
theorem dX3_pushedBeside_18 : decode cX3_pushedBeside 18 = .ok (.if_icmp .ge 38, 3) := by decide +kernel
theorem dX3_pushedBeside_21 : decode cX3_pushedBeside 21 = .ok (.aload_n 0, 1) := by decide +kernel
theorem dX3_pushedBeside_22 : decode cX3_pushedBeside 22 = .ok (.getfield 33, 3) := by decide +kernel
theorem dX3_pushedBeside_25 : decode cX3_pushedBeside 25 = .ok (.iload_n 3, 1) := by decide +kernel
theorem dX3_pushedBeside_26 : decode cX3_pushedBeside 26 = .ok (.aaload, 1) := by decide +kernel
theorem dX3_pushedBeside_27 : decode cX3_pushedBeside 27 = .ok (.astore 4, 2) := by decide +kernel
theorem dX3_pushedBeside_29 : decode cX3_pushedBeside 29 = .ok (.iload_n 3, 1) := by decide +kernel
theorem dX3_pushedBeside_30 : decode cX3_pushedBeside 30 = .ok (.iload_n 1, 1) := by decide +kernel
theorem dX3_pushedBeside_31 : decode cX3_pushedBeside 31 = .ok (.if_icmp .eq 19, 3) := by decide +kernel
theorem dX3_pushedBeside_34 : decode cX3_pushedBeside 34 = .ok (.aload 4, 2) := by decide +kernel
theorem dX3_pushedBeside_36 : decode cX3_pushedBeside 36 = .ok (.ifnull 14, 3) := by decide +kernel
theorem dX3_pushedBeside_39 : decode cX3_pushedBeside 39 = .ok (.aload 4, 2) := by decide +kernel
theorem dX3_pushedBeside_41 : decode cX3_pushedBeside 41 = .ok (.invokevirtual 110, 3) := by decide +kernel
theorem dX3_pushedBeside_44 : decode cX3_pushedBeside 44 = .ok (.ifCond .eq 6, 3) := by decide +kernel
theorem dX3_pushedBeside_47 : decode cX3_pushedBeside 47 = .ok (.iinc 2 1, 3) := by decide +kernel
theorem dX3_pushedBeside_50 : decode cX3_pushedBeside 50 = .ok (.iinc 3 1, 3) := by decide +kernel
theorem dX3_pushedBeside_53 : decode cX3_pushedBeside 53 = .ok (.goto (-49), 3) := by decide +kernel
theorem dX3_pushedBeside_56 : decode cX3_pushedBeside 56 = .ok (.iload_n 2, 1) := by decide +kernel
theorem dX3_pushedBeside_57 : decode cX3_pushedBeside 57 = .ok (.ireturn, 1) := by decide +kernel
theorem dX3_worthToday_0 : decode cX3_worthToday 0 = .ok (.iconst 0, 1) := by decide +kernel
theorem dX3_worthToday_1 : decode cX3_worthToday 1 = .ok (.istore_n 1, 1) := by decide +kernel
theorem dX3_worthToday_2 : decode cX3_worthToday 2 = .ok (.iconst 0, 1) := by decide +kernel
theorem dX3_worthToday_3 : decode cX3_worthToday 3 = .ok (.istore_n 2, 1) := by decide +kernel
theorem dX3_worthToday_4 : decode cX3_worthToday 4 = .ok (.iload_n 2, 1) := by decide +kernel
theorem dX3_worthToday_5 : decode cX3_worthToday 5 = .ok (.aload_n 0, 1) := by decide +kernel
theorem dX3_worthToday_6 : decode cX3_worthToday 6 = .ok (.getfield 43, 3) := by decide +kernel
theorem dX3_worthToday_9 : decode cX3_worthToday 9 = .ok (.if_icmp .ge 44, 3) := by decide +kernel
theorem dX3_worthToday_12 : decode cX3_worthToday 12 = .ok (.iload_n 2, 1) := by decide +kernel
theorem dX3_worthToday_13 : decode cX3_worthToday 13 = .ok (.aload_n 0, 1) := by decide +kernel
theorem dX3_worthToday_14 : decode cX3_worthToday 14 = .ok (.getfield 37, 3) := by decide +kernel
theorem dX3_worthToday_17 : decode cX3_worthToday 17 = .ok (.arraylength, 1) := by decide +kernel
theorem dX3_worthToday_18 : decode cX3_worthToday 18 = .ok (.if_icmp .ge 35, 3) := by decide +kernel
theorem dX3_worthToday_21 : decode cX3_worthToday 21 = .ok (.aload_n 0, 1) := by decide +kernel
theorem dX3_worthToday_22 : decode cX3_worthToday 22 = .ok (.getfield 37, 3) := by decide +kernel
theorem dX3_worthToday_25 : decode cX3_worthToday 25 = .ok (.iload_n 2, 1) := by decide +kernel
theorem dX3_worthToday_26 : decode cX3_worthToday 26 = .ok (.aaload, 1) := by decide +kernel
theorem dX3_worthToday_27 : decode cX3_worthToday 27 = .ok (.astore_n 3, 1) := by decide +kernel
theorem dX3_worthToday_28 : decode cX3_worthToday 28 = .ok (.aload_n 3, 1) := by decide +kernel
theorem dX3_worthToday_29 : decode cX3_worthToday 29 = .ok (.ifnull 18, 3) := by decide +kernel
theorem dX3_worthToday_32 : decode cX3_worthToday 32 = .ok (.aload_n 3, 1) := by decide +kernel
theorem dX3_worthToday_33 : decode cX3_worthToday 33 = .ok (.getfield 113, 3) := by decide +kernel
theorem dX3_worthToday_36 : decode cX3_worthToday 36 = .ok (.iconst (-1), 1) := by decide +kernel
theorem dX3_worthToday_37 : decode cX3_worthToday 37 = .ok (.if_icmp .eq 10, 3) := by decide +kernel
theorem dX3_worthToday_40 : decode cX3_worthToday 40 = .ok (.iload_n 1, 1) := by decide +kernel
theorem dX3_worthToday_41 : decode cX3_worthToday 41 = .ok (.aload_n 3, 1) := by decide +kernel
theorem dX3_worthToday_42 : decode cX3_worthToday 42 = .ok (.getfield 87, 3) := by decide +kernel
theorem dX3_worthToday_45 : decode cX3_worthToday 45 = .ok (.iadd, 1) := by decide +kernel
theorem dX3_worthToday_46 : decode cX3_worthToday 46 = .ok (.istore_n 1, 1) := by decide +kernel
theorem dX3_worthToday_47 : decode cX3_worthToday 47 = .ok (.iinc 2 1, 3) := by decide +kernel
theorem dX3_worthToday_50 : decode cX3_worthToday 50 = .ok (.goto (-46), 3) := by decide +kernel
theorem dX3_worthToday_53 : decode cX3_worthToday 53 = .ok (.iload_n 1, 1) := by decide +kernel
theorem dX3_worthToday_54 : decode cX3_worthToday 54 = .ok (.ireturn, 1) := by decide +kernel
theorem dX3_greatestWorth_0 : decode cX3_greatestWorth 0 = .ok (.aload_n 0, 1) := by decide +kernel
theorem dX3_greatestWorth_1 : decode cX3_greatestWorth 1 = .ok (.aload_n 0, 1) := by decide +kernel
theorem dX3_greatestWorth_2 : decode cX3_greatestWorth 2 = .ok (.getfield 28, 3) := by decide +kernel
theorem dX3_greatestWorth_5 : decode cX3_greatestWorth 5 = .ok (.invokevirtual 80, 3) := by decide +kernel
theorem dX3_greatestWorth_8 : decode cX3_greatestWorth 8 = .ok (.aload_n 0, 1) := by decide +kernel
theorem dX3_greatestWorth_9 : decode cX3_greatestWorth 9 = .ok (.getfield 37, 3) := by decide +kernel
theorem dX3_greatestWorth_12 : decode cX3_greatestWorth 12 = .ok (.aload_n 0, 1) := by decide +kernel
theorem dX3_greatestWorth_13 : decode cX3_greatestWorth 13 = .ok (.getfield 43, 3) := by decide +kernel
theorem dX3_greatestWorth_16 : decode cX3_greatestWorth 16 = .ok (.iconst 0, 1) := by decide +kernel
theorem dX3_greatestWorth_17 : decode cX3_greatestWorth 17 = .ok (.aload_n 0, 1) := by decide +kernel
theorem dX3_greatestWorth_18 : decode cX3_greatestWorth 18 = .ok (.getfield 28, 3) := by decide +kernel
theorem dX3_greatestWorth_21 : decode cX3_greatestWorth 21 = .ok (.invokestatic 116, 3) := by decide +kernel
theorem dX3_greatestWorth_24 : decode cX3_greatestWorth 24 = .ok (.ireturn, 1) := by decide +kernel
theorem dX3_greatestFrom_0 : decode cX3_greatestFrom 0 = .ok (.iload_n 2, 1) := by decide +kernel
theorem dX3_greatestFrom_1 : decode cX3_greatestFrom 1 = .ok (.ifCond .lt 25, 3) := by decide +kernel
theorem dX3_greatestFrom_4 : decode cX3_greatestFrom 4 = .ok (.iload_n 2, 1) := by decide +kernel
theorem dX3_greatestFrom_5 : decode cX3_greatestFrom 5 = .ok (.iload_n 1, 1) := by decide +kernel
theorem dX3_greatestFrom_6 : decode cX3_greatestFrom 6 = .ok (.if_icmp .ge 20, 3) := by decide +kernel
theorem dX3_greatestFrom_9 : decode cX3_greatestFrom 9 = .ok (.iload_n 2, 1) := by decide +kernel
theorem dX3_greatestFrom_10 : decode cX3_greatestFrom 10 = .ok (.aload_n 0, 1) := by decide +kernel
theorem dX3_greatestFrom_11 : decode cX3_greatestFrom 11 = .ok (.arraylength, 1) := by decide +kernel
theorem dX3_greatestFrom_12 : decode cX3_greatestFrom 12 = .ok (.if_icmp .ge 14, 3) := by decide +kernel
theorem dX3_greatestFrom_15 : decode cX3_greatestFrom 15 = .ok (.iload_n 2, 1) := by decide +kernel
theorem dX3_greatestFrom_16 : decode cX3_greatestFrom 16 = .ok (.iconst 4, 1) := by decide +kernel
theorem dX3_greatestFrom_17 : decode cX3_greatestFrom 17 = .ok (.if_icmp .ge 9, 3) := by decide +kernel
theorem dX3_greatestFrom_20 : decode cX3_greatestFrom 20 = .ok (.aload_n 0, 1) := by decide +kernel
theorem dX3_greatestFrom_21 : decode cX3_greatestFrom 21 = .ok (.iload_n 2, 1) := by decide +kernel
theorem dX3_greatestFrom_22 : decode cX3_greatestFrom 22 = .ok (.aaload, 1) := by decide +kernel
theorem dX3_greatestFrom_23 : decode cX3_greatestFrom 23 = .ok (.ifnonnull 5, 3) := by decide +kernel
theorem dX3_greatestFrom_26 : decode cX3_greatestFrom 26 = .ok (.iconst 0, 1) := by decide +kernel
theorem dX3_greatestFrom_27 : decode cX3_greatestFrom 27 = .ok (.ireturn, 1) := by decide +kernel
theorem dX3_greatestFrom_28 : decode cX3_greatestFrom 28 = .ok (.aload_n 0, 1) := by decide +kernel
theorem dX3_greatestFrom_29 : decode cX3_greatestFrom 29 = .ok (.iload_n 2, 1) := by decide +kernel
theorem dX3_greatestFrom_30 : decode cX3_greatestFrom 30 = .ok (.aaload, 1) := by decide +kernel
theorem dX3_greatestFrom_31 : decode cX3_greatestFrom 31 = .ok (.astore 4, 2) := by decide +kernel
theorem dX3_greatestFrom_33 : decode cX3_greatestFrom 33 = .ok (.aload_n 0, 1) := by decide +kernel
theorem dX3_greatestFrom_34 : decode cX3_greatestFrom 34 = .ok (.iload_n 1, 1) := by decide +kernel
theorem dX3_greatestFrom_35 : decode cX3_greatestFrom 35 = .ok (.iload_n 2, 1) := by decide +kernel
theorem dX3_greatestFrom_36 : decode cX3_greatestFrom 36 = .ok (.invokestatic 120, 3) := by decide +kernel
theorem dX3_greatestFrom_39 : decode cX3_greatestFrom 39 = .ok (.istore 5, 2) := by decide +kernel
theorem dX3_greatestFrom_41 : decode cX3_greatestFrom 41 = .ok (.iconst 0, 1) := by decide +kernel
theorem dX3_greatestFrom_42 : decode cX3_greatestFrom 42 = .ok (.istore 6, 2) := by decide +kernel
theorem dX3_greatestFrom_44 : decode cX3_greatestFrom 44 = .ok (.iconst 0, 1) := by decide +kernel
theorem dX3_greatestFrom_45 : decode cX3_greatestFrom 45 = .ok (.istore 7, 2) := by decide +kernel
theorem dX3_greatestFrom_47 : decode cX3_greatestFrom 47 = .ok (.iload 7, 2) := by decide +kernel
theorem dX3_greatestFrom_49 : decode cX3_greatestFrom 49 = .ok (.iconst 4, 1) := by decide +kernel
theorem dX3_greatestFrom_50 : decode cX3_greatestFrom 50 = .ok (.if_icmp .ge 69, 3) := by decide +kernel
theorem dX3_greatestFrom_53 : decode cX3_greatestFrom 53 = .ok (.iload 6, 2) := by decide +kernel
theorem dX3_greatestFrom_55 : decode cX3_greatestFrom 55 = .ok (.iload 5, 2) := by decide +kernel
theorem dX3_greatestFrom_57 : decode cX3_greatestFrom 57 = .ok (.if_icmp .ge 62, 3) := by decide +kernel
theorem dX3_greatestFrom_60 : decode cX3_greatestFrom 60 = .ok (.aload 4, 2) := by decide +kernel
theorem dX3_greatestFrom_62 : decode cX3_greatestFrom 62 = .ok (.aload_n 3, 1) := by decide +kernel
theorem dX3_greatestFrom_63 : decode cX3_greatestFrom 63 = .ok (.iload 7, 2) := by decide +kernel
theorem dX3_greatestFrom_65 : decode cX3_greatestFrom 65 = .ok (.invokevirtual 124, 3) := by decide +kernel
theorem dX3_greatestFrom_68 : decode cX3_greatestFrom 68 = .ok (.ifCond .eq 45, 3) := by decide +kernel
theorem dX3_greatestFrom_71 : decode cX3_greatestFrom 71 = .ok (.aload 4, 2) := by decide +kernel
theorem dX3_greatestFrom_73 : decode cX3_greatestFrom 73 = .ok (.aload_n 3, 1) := by decide +kernel
theorem dX3_greatestFrom_74 : decode cX3_greatestFrom 74 = .ok (.iload 7, 2) := by decide +kernel
theorem dX3_greatestFrom_76 : decode cX3_greatestFrom 76 = .ok (.invokevirtual 128, 3) := by decide +kernel
theorem dX3_greatestFrom_79 : decode cX3_greatestFrom 79 = .ok (.aload 4, 2) := by decide +kernel
theorem dX3_greatestFrom_81 : decode cX3_greatestFrom 81 = .ok (.getfield 87, 3) := by decide +kernel
theorem dX3_greatestFrom_84 : decode cX3_greatestFrom 84 = .ok (.aload_n 0, 1) := by decide +kernel
theorem dX3_greatestFrom_85 : decode cX3_greatestFrom 85 = .ok (.iload_n 1, 1) := by decide +kernel
theorem dX3_greatestFrom_86 : decode cX3_greatestFrom 86 = .ok (.iload_n 2, 1) := by decide +kernel
theorem dX3_greatestFrom_87 : decode cX3_greatestFrom 87 = .ok (.iconst 1, 1) := by decide +kernel
theorem dX3_greatestFrom_88 : decode cX3_greatestFrom 88 = .ok (.iadd, 1) := by decide +kernel
theorem dX3_greatestFrom_89 : decode cX3_greatestFrom 89 = .ok (.aload_n 3, 1) := by decide +kernel
theorem dX3_greatestFrom_90 : decode cX3_greatestFrom 90 = .ok (.invokestatic 116, 3) := by decide +kernel
theorem dX3_greatestFrom_93 : decode cX3_greatestFrom 93 = .ok (.iadd, 1) := by decide +kernel
theorem dX3_greatestFrom_94 : decode cX3_greatestFrom 94 = .ok (.istore 8, 2) := by decide +kernel
theorem dX3_greatestFrom_96 : decode cX3_greatestFrom 96 = .ok (.iload 6, 2) := by decide +kernel
theorem dX3_greatestFrom_98 : decode cX3_greatestFrom 98 = .ok (.iload 8, 2) := by decide +kernel
theorem dX3_greatestFrom_100 : decode cX3_greatestFrom 100 = .ok (.invokestatic 132, 3) := by decide +kernel
theorem dX3_greatestFrom_103 : decode cX3_greatestFrom 103 = .ok (.istore 6, 2) := by decide +kernel
theorem dX3_greatestFrom_105 : decode cX3_greatestFrom 105 = .ok (.aload 4, 2) := by decide +kernel
theorem dX3_greatestFrom_107 : decode cX3_greatestFrom 107 = .ok (.aload_n 3, 1) := by decide +kernel
theorem dX3_greatestFrom_108 : decode cX3_greatestFrom 108 = .ok (.iload 7, 2) := by decide +kernel
theorem dX3_greatestFrom_110 : decode cX3_greatestFrom 110 = .ok (.invokevirtual 138, 3) := by decide +kernel
theorem dX3_greatestFrom_113 : decode cX3_greatestFrom 113 = .ok (.iinc 7 1, 3) := by decide +kernel
theorem dX3_greatestFrom_116 : decode cX3_greatestFrom 116 = .ok (.goto (-69), 3) := by decide +kernel
theorem dX3_greatestFrom_119 : decode cX3_greatestFrom 119 = .ok (.iload 6, 2) := by decide +kernel
theorem dX3_greatestFrom_121 : decode cX3_greatestFrom 121 = .ok (.iload 5, 2) := by decide +kernel
theorem dX3_greatestFrom_123 : decode cX3_greatestFrom 123 = .ok (.if_icmp .ge 19, 3) := by decide +kernel
theorem dX3_greatestFrom_126 : decode cX3_greatestFrom 126 = .ok (.iload 6, 2) := by decide +kernel
theorem dX3_greatestFrom_128 : decode cX3_greatestFrom 128 = .ok (.aload_n 0, 1) := by decide +kernel
theorem dX3_greatestFrom_129 : decode cX3_greatestFrom 129 = .ok (.iload_n 1, 1) := by decide +kernel
theorem dX3_greatestFrom_130 : decode cX3_greatestFrom 130 = .ok (.iload_n 2, 1) := by decide +kernel
theorem dX3_greatestFrom_131 : decode cX3_greatestFrom 131 = .ok (.iconst 1, 1) := by decide +kernel
theorem dX3_greatestFrom_132 : decode cX3_greatestFrom 132 = .ok (.iadd, 1) := by decide +kernel
theorem dX3_greatestFrom_133 : decode cX3_greatestFrom 133 = .ok (.aload_n 3, 1) := by decide +kernel
theorem dX3_greatestFrom_134 : decode cX3_greatestFrom 134 = .ok (.invokestatic 116, 3) := by decide +kernel
theorem dX3_greatestFrom_137 : decode cX3_greatestFrom 137 = .ok (.invokestatic 132, 3) := by decide +kernel
theorem dX3_greatestFrom_140 : decode cX3_greatestFrom 140 = .ok (.istore 6, 2) := by decide +kernel
theorem dX3_greatestFrom_142 : decode cX3_greatestFrom 142 = .ok (.iload 6, 2) := by decide +kernel
theorem dX3_greatestFrom_144 : decode cX3_greatestFrom 144 = .ok (.ireturn, 1) := by decide +kernel
theorem dX3_ranksFrom_0 : decode cX3_ranksFrom 0 = .ok (.iconst 0, 1) := by decide +kernel
theorem dX3_ranksFrom_1 : decode cX3_ranksFrom 1 = .ok (.istore_n 3, 1) := by decide +kernel
theorem dX3_ranksFrom_2 : decode cX3_ranksFrom 2 = .ok (.iload_n 2, 1) := by decide +kernel
theorem dX3_ranksFrom_3 : decode cX3_ranksFrom 3 = .ok (.iconst 0, 1) := by decide +kernel
theorem dX3_ranksFrom_4 : decode cX3_ranksFrom 4 = .ok (.invokestatic 132, 3) := by decide +kernel
theorem dX3_ranksFrom_7 : decode cX3_ranksFrom 7 = .ok (.istore 4, 2) := by decide +kernel
theorem dX3_ranksFrom_9 : decode cX3_ranksFrom 9 = .ok (.iload 4, 2) := by decide +kernel
theorem dX3_ranksFrom_11 : decode cX3_ranksFrom 11 = .ok (.iload_n 1, 1) := by decide +kernel
theorem dX3_ranksFrom_12 : decode cX3_ranksFrom 12 = .ok (.if_icmp .ge 35, 3) := by decide +kernel
theorem dX3_ranksFrom_15 : decode cX3_ranksFrom 15 = .ok (.iload 4, 2) := by decide +kernel
theorem dX3_ranksFrom_17 : decode cX3_ranksFrom 17 = .ok (.aload_n 0, 1) := by decide +kernel
theorem dX3_ranksFrom_18 : decode cX3_ranksFrom 18 = .ok (.arraylength, 1) := by decide +kernel
theorem dX3_ranksFrom_19 : decode cX3_ranksFrom 19 = .ok (.if_icmp .ge 28, 3) := by decide +kernel
theorem dX3_ranksFrom_22 : decode cX3_ranksFrom 22 = .ok (.aload_n 0, 1) := by decide +kernel
theorem dX3_ranksFrom_23 : decode cX3_ranksFrom 23 = .ok (.iload 4, 2) := by decide +kernel
theorem dX3_ranksFrom_25 : decode cX3_ranksFrom 25 = .ok (.aaload, 1) := by decide +kernel
theorem dX3_ranksFrom_26 : decode cX3_ranksFrom 26 = .ok (.astore 5, 2) := by decide +kernel
theorem dX3_ranksFrom_28 : decode cX3_ranksFrom 28 = .ok (.aload 5, 2) := by decide +kernel
theorem dX3_ranksFrom_30 : decode cX3_ranksFrom 30 = .ok (.ifnull 11, 3) := by decide +kernel
theorem dX3_ranksFrom_33 : decode cX3_ranksFrom 33 = .ok (.iload_n 3, 1) := by decide +kernel
theorem dX3_ranksFrom_34 : decode cX3_ranksFrom 34 = .ok (.aload 5, 2) := by decide +kernel
theorem dX3_ranksFrom_36 : decode cX3_ranksFrom 36 = .ok (.getfield 87, 3) := by decide +kernel
theorem dX3_ranksFrom_39 : decode cX3_ranksFrom 39 = .ok (.iadd, 1) := by decide +kernel
theorem dX3_ranksFrom_40 : decode cX3_ranksFrom 40 = .ok (.istore_n 3, 1) := by decide +kernel
theorem dX3_ranksFrom_41 : decode cX3_ranksFrom 41 = .ok (.iinc 4 1, 3) := by decide +kernel
theorem dX3_ranksFrom_44 : decode cX3_ranksFrom 44 = .ok (.goto (-35), 3) := by decide +kernel
theorem dX3_ranksFrom_47 : decode cX3_ranksFrom 47 = .ok (.iload_n 3, 1) := by decide +kernel
theorem dX3_ranksFrom_48 : decode cX3_ranksFrom 48 = .ok (.ireturn, 1) := by decide +kernel
theorem dX4_init_0 : decode cX4_init 0 = .ok (.aload_n 0, 1) := by decide +kernel
theorem dX4_init_1 : decode cX4_init 1 = .ok (.invokespecial 1, 3) := by decide +kernel
theorem dX4_init_4 : decode cX4_init 4 = .ok (.aload_n 0, 1) := by decide +kernel
theorem dX4_init_5 : decode cX4_init 5 = .ok (.iload_n 1, 1) := by decide +kernel
theorem dX4_init_6 : decode cX4_init 6 = .ok (.putfield 7, 3) := by decide +kernel
theorem dX4_init_9 : decode cX4_init 9 = .ok (.aload_n 0, 1) := by decide +kernel
theorem dX4_init_10 : decode cX4_init 10 = .ok (.aload_n 2, 1) := by decide +kernel
theorem dX4_init_11 : decode cX4_init 11 = .ok (.putfield 13, 3) := by decide +kernel
theorem dX4_init_14 : decode cX4_init 14 = .ok (.return_, 1) := by decide +kernel
theorem dX5_init_0 : decode cX5_init 0 = .ok (.aload_n 0, 1) := by decide +kernel
theorem dX5_init_1 : decode cX5_init 1 = .ok (.invokespecial 3, 3) := by decide +kernel
theorem dX5_init_4 : decode cX5_init 4 = .ok (.aload_n 0, 1) := by decide +kernel
theorem dX5_init_5 : decode cX5_init 5 = .ok (.aload_n 1, 1) := by decide +kernel
theorem dX5_init_6 : decode cX5_init 6 = .ok (.putfield 9, 3) := by decide +kernel
theorem dX5_init_9 : decode cX5_init 9 = .ok (.aload_n 0, 1) := by decide +kernel
theorem dX5_init_10 : decode cX5_init 10 = .ok (.aload_n 1, 1) := by decide +kernel
theorem dX5_init_11 : decode cX5_init 11 = .ok (.getfield 15, 3) := by decide +kernel
theorem dX5_init_14 : decode cX5_init 14 = .ok (.putfield 21, 3) := by decide +kernel
theorem dX5_init_17 : decode cX5_init 17 = .ok (.aload_n 0, 1) := by decide +kernel
theorem dX5_init_18 : decode cX5_init 18 = .ok (.iload_n 2, 1) := by decide +kernel
theorem dX5_init_19 : decode cX5_init 19 = .ok (.putfield 22, 3) := by decide +kernel
theorem dX5_init_22 : decode cX5_init 22 = .ok (.aload_n 0, 1) := by decide +kernel
theorem dX5_init_23 : decode cX5_init 23 = .ok (.iload_n 3, 1) := by decide +kernel
theorem dX5_init_24 : decode cX5_init 24 = .ok (.putfield 25, 3) := by decide +kernel
theorem dX5_init_27 : decode cX5_init 27 = .ok (.aload_n 0, 1) := by decide +kernel
theorem dX5_init_28 : decode cX5_init 28 = .ok (.aconst_null, 1) := by decide +kernel
theorem dX5_init_29 : decode cX5_init 29 = .ok (.putfield 28, 3) := by decide +kernel
theorem dX5_init_32 : decode cX5_init 32 = .ok (.aload_n 0, 1) := by decide +kernel
theorem dX5_init_33 : decode cX5_init 33 = .ok (.iconst (-1), 1) := by decide +kernel
theorem dX5_init_34 : decode cX5_init 34 = .ok (.putfield 32, 3) := by decide +kernel
theorem dX5_init_37 : decode cX5_init 37 = .ok (.aload_n 0, 1) := by decide +kernel
theorem dX5_init_38 : decode cX5_init 38 = .ok (.iconst (-1), 1) := by decide +kernel
theorem dX5_init_39 : decode cX5_init 39 = .ok (.putfield 35, 3) := by decide +kernel
theorem dX5_init_42 : decode cX5_init 42 = .ok (.return_, 1) := by decide +kernel
theorem dX5_takeUp_0 : decode cX5_takeUp 0 = .ok (.aload_n 0, 1) := by decide +kernel
theorem dX5_takeUp_1 : decode cX5_takeUp 1 = .ok (.aload_n 0, 1) := by decide +kernel
theorem dX5_takeUp_2 : decode cX5_takeUp 2 = .ok (.getfield 9, 3) := by decide +kernel
theorem dX5_takeUp_5 : decode cX5_takeUp 5 = .ok (.iload_n 1, 1) := by decide +kernel
theorem dX5_takeUp_6 : decode cX5_takeUp 6 = .ok (.invokevirtual 38, 3) := by decide +kernel
theorem dX5_takeUp_9 : decode cX5_takeUp 9 = .ok (.putfield 28, 3) := by decide +kernel
theorem dX5_takeUp_12 : decode cX5_takeUp 12 = .ok (.aload_n 0, 1) := by decide +kernel
theorem dX5_takeUp_13 : decode cX5_takeUp 13 = .ok (.aload_n 0, 1) := by decide +kernel
theorem dX5_takeUp_14 : decode cX5_takeUp 14 = .ok (.getfield 32, 3) := by decide +kernel
theorem dX5_takeUp_17 : decode cX5_takeUp 17 = .ok (.putfield 35, 3) := by decide +kernel
theorem dX5_takeUp_20 : decode cX5_takeUp 20 = .ok (.aload_n 0, 1) := by decide +kernel
theorem dX5_takeUp_21 : decode cX5_takeUp 21 = .ok (.iconst (-1), 1) := by decide +kernel
theorem dX5_takeUp_22 : decode cX5_takeUp 22 = .ok (.putfield 32, 3) := by decide +kernel
theorem dX5_takeUp_25 : decode cX5_takeUp 25 = .ok (.return_, 1) := by decide +kernel
theorem dX5_isOnSheet_0 : decode cX5_isOnSheet 0 = .ok (.aload_n 0, 1) := by decide +kernel
theorem dX5_isOnSheet_1 : decode cX5_isOnSheet 1 = .ok (.getfield 22, 3) := by decide +kernel
theorem dX5_isOnSheet_4 : decode cX5_isOnSheet 4 = .ok (.iconst (-1), 1) := by decide +kernel
theorem dX5_isOnSheet_5 : decode cX5_isOnSheet 5 = .ok (.if_icmp .eq 7, 3) := by decide +kernel
theorem dX5_isOnSheet_8 : decode cX5_isOnSheet 8 = .ok (.iconst 1, 1) := by decide +kernel
theorem dX5_isOnSheet_9 : decode cX5_isOnSheet 9 = .ok (.goto 4, 3) := by decide +kernel
theorem dX5_isOnSheet_12 : decode cX5_isOnSheet 12 = .ok (.iconst 0, 1) := by decide +kernel
theorem dX5_isOnSheet_13 : decode cX5_isOnSheet 13 = .ok (.ireturn, 1) := by decide +kernel
theorem dX5_isNamed_0 : decode cX5_isNamed 0 = .ok (.aload_n 0, 1) := by decide +kernel
theorem dX5_isNamed_1 : decode cX5_isNamed 1 = .ok (.invokevirtual 42, 3) := by decide +kernel
theorem dX5_isNamed_4 : decode cX5_isNamed 4 = .ok (.ifCond .eq 14, 3) := by decide +kernel
theorem dX5_isNamed_7 : decode cX5_isNamed 7 = .ok (.aload_n 0, 1) := by decide +kernel
theorem dX5_isNamed_8 : decode cX5_isNamed 8 = .ok (.getfield 28, 3) := by decide +kernel
theorem dX5_isNamed_11 : decode cX5_isNamed 11 = .ok (.ifnull 7, 3) := by decide +kernel
theorem dX5_isNamed_14 : decode cX5_isNamed 14 = .ok (.iconst 1, 1) := by decide +kernel
theorem dX5_isNamed_15 : decode cX5_isNamed 15 = .ok (.goto 4, 3) := by decide +kernel
theorem dX5_isNamed_18 : decode cX5_isNamed 18 = .ok (.iconst 0, 1) := by decide +kernel
theorem dX5_isNamed_19 : decode cX5_isNamed 19 = .ok (.ireturn, 1) := by decide +kernel
theorem dX5_isPushed_0 : decode cX5_isPushed 0 = .ok (.aload_n 0, 1) := by decide +kernel
theorem dX5_isPushed_1 : decode cX5_isPushed 1 = .ok (.getfield 32, 3) := by decide +kernel
theorem dX5_isPushed_4 : decode cX5_isPushed 4 = .ok (.aload_n 0, 1) := by decide +kernel
theorem dX5_isPushed_5 : decode cX5_isPushed 5 = .ok (.getfield 35, 3) := by decide +kernel
theorem dX5_isPushed_8 : decode cX5_isPushed 8 = .ok (.if_icmp .eq 7, 3) := by decide +kernel
theorem dX5_isPushed_11 : decode cX5_isPushed 11 = .ok (.iconst 1, 1) := by decide +kernel
theorem dX5_isPushed_12 : decode cX5_isPushed 12 = .ok (.goto 4, 3) := by decide +kernel
theorem dX5_isPushed_15 : decode cX5_isPushed 15 = .ok (.iconst 0, 1) := by decide +kernel
theorem dX5_isPushed_16 : decode cX5_isPushed 16 = .ok (.ireturn, 1) := by decide +kernel
theorem dX5_rowAt_0 : decode cX5_rowAt 0 = .ok (.iload_n 1, 1) := by decide +kernel
theorem dX5_rowAt_1 : decode cX5_rowAt 1 = .ok (.iconst 2, 1) := by decide +kernel
theorem dX5_rowAt_2 : decode cX5_rowAt 2 = .ok (.if_icmp .ne 10, 3) := by decide +kernel
theorem dX5_rowAt_5 : decode cX5_rowAt 5 = .ok (.aload_n 0, 1) := by decide +kernel
theorem dX5_rowAt_6 : decode cX5_rowAt 6 = .ok (.getfield 25, 3) := by decide +kernel
theorem dX5_rowAt_9 : decode cX5_rowAt 9 = .ok (.iconst 1, 1) := by decide +kernel
theorem dX5_rowAt_10 : decode cX5_rowAt 10 = .ok (.iadd, 1) := by decide +kernel
theorem dX5_rowAt_11 : decode cX5_rowAt 11 = .ok (.ireturn, 1) := by decide +kernel
theorem dX5_rowAt_12 : decode cX5_rowAt 12 = .ok (.iload_n 1, 1) := by decide +kernel
theorem dX5_rowAt_13 : decode cX5_rowAt 13 = .ok (.iconst 3, 1) := by decide +kernel
theorem dX5_rowAt_14 : decode cX5_rowAt 14 = .ok (.if_icmp .ne 12, 3) := by decide +kernel
theorem dX5_rowAt_17 : decode cX5_rowAt 17 = .ok (.aload_n 0, 1) := by decide +kernel
theorem dX5_rowAt_18 : decode cX5_rowAt 18 = .ok (.getfield 25, 3) := by decide +kernel
theorem dX5_rowAt_21 : decode cX5_rowAt 21 = .ok (.iconst 1, 1) := by decide +kernel
theorem dX5_rowAt_22 : decode cX5_rowAt 22 = .ok (.isub, 1) := by decide +kernel
theorem dX5_rowAt_23 : decode cX5_rowAt 23 = .ok (.goto 7, 3) := by decide +kernel
theorem dX5_rowAt_26 : decode cX5_rowAt 26 = .ok (.aload_n 0, 1) := by decide +kernel
theorem dX5_rowAt_27 : decode cX5_rowAt 27 = .ok (.getfield 25, 3) := by decide +kernel
theorem dX5_rowAt_30 : decode cX5_rowAt 30 = .ok (.ireturn, 1) := by decide +kernel
theorem dX5_firstColumnAt_0 : decode cX5_firstColumnAt 0 = .ok (.iload_n 1, 1) := by decide +kernel
theorem dX5_firstColumnAt_1 : decode cX5_firstColumnAt 1 = .ok (.ifCond .ne 10, 3) := by decide +kernel
theorem dX5_firstColumnAt_4 : decode cX5_firstColumnAt 4 = .ok (.aload_n 0, 1) := by decide +kernel
theorem dX5_firstColumnAt_5 : decode cX5_firstColumnAt 5 = .ok (.getfield 22, 3) := by decide +kernel
theorem dX5_firstColumnAt_8 : decode cX5_firstColumnAt 8 = .ok (.iconst 1, 1) := by decide +kernel
theorem dX5_firstColumnAt_9 : decode cX5_firstColumnAt 9 = .ok (.iadd, 1) := by decide +kernel
theorem dX5_firstColumnAt_10 : decode cX5_firstColumnAt 10 = .ok (.ireturn, 1) := by decide +kernel
theorem dX5_firstColumnAt_11 : decode cX5_firstColumnAt 11 = .ok (.iload_n 1, 1) := by decide +kernel
theorem dX5_firstColumnAt_12 : decode cX5_firstColumnAt 12 = .ok (.iconst 1, 1) := by decide +kernel
theorem dX5_firstColumnAt_13 : decode cX5_firstColumnAt 13 = .ok (.if_icmp .ne 12, 3) := by decide +kernel
theorem dX5_firstColumnAt_16 : decode cX5_firstColumnAt 16 = .ok (.aload_n 0, 1) := by decide +kernel
theorem dX5_firstColumnAt_17 : decode cX5_firstColumnAt 17 = .ok (.getfield 22, 3) := by decide +kernel
theorem dX5_firstColumnAt_20 : decode cX5_firstColumnAt 20 = .ok (.iload_n 2, 1) := by decide +kernel
theorem dX5_firstColumnAt_21 : decode cX5_firstColumnAt 21 = .ok (.isub, 1) := by decide +kernel
theorem dX5_firstColumnAt_22 : decode cX5_firstColumnAt 22 = .ok (.goto 11, 3) := by decide +kernel
theorem dX5_firstColumnAt_25 : decode cX5_firstColumnAt 25 = .ok (.aload_n 0, 1) := by decide +kernel
theorem dX5_firstColumnAt_26 : decode cX5_firstColumnAt 26 = .ok (.getfield 22, 3) := by decide +kernel
theorem dX5_firstColumnAt_29 : decode cX5_firstColumnAt 29 = .ok (.iload_n 2, 1) := by decide +kernel
theorem dX5_firstColumnAt_30 : decode cX5_firstColumnAt 30 = .ok (.iconst 2, 1) := by decide +kernel
theorem dX5_firstColumnAt_31 : decode cX5_firstColumnAt 31 = .ok (.idiv, 1) := by decide +kernel
theorem dX5_firstColumnAt_32 : decode cX5_firstColumnAt 32 = .ok (.isub, 1) := by decide +kernel
theorem dX5_firstColumnAt_33 : decode cX5_firstColumnAt 33 = .ok (.ireturn, 1) := by decide +kernel
theorem dX5_mayStand_0 : decode cX5_mayStand 0 = .ok (.aload_n 0, 1) := by decide +kernel
theorem dX5_mayStand_1 : decode cX5_mayStand 1 = .ok (.getfield 28, 3) := by decide +kernel
theorem dX5_mayStand_4 : decode cX5_mayStand 4 = .ok (.ifnonnull 5, 3) := by decide +kernel
theorem dX5_mayStand_7 : decode cX5_mayStand 7 = .ok (.iconst 0, 1) := by decide +kernel
theorem dX5_mayStand_8 : decode cX5_mayStand 8 = .ok (.ireturn, 1) := by decide +kernel
theorem dX5_mayStand_9 : decode cX5_mayStand 9 = .ok (.aload_n 0, 1) := by decide +kernel
theorem dX5_mayStand_10 : decode cX5_mayStand 10 = .ok (.getfield 28, 3) := by decide +kernel
theorem dX5_mayStand_13 : decode cX5_mayStand 13 = .ok (.invokevirtual 46, 3) := by decide +kernel
theorem dX5_mayStand_16 : decode cX5_mayStand 16 = .ok (.istore_n 3, 1) := by decide +kernel
theorem dX5_mayStand_17 : decode cX5_mayStand 17 = .ok (.aload_n 1, 1) := by decide +kernel
theorem dX5_mayStand_18 : decode cX5_mayStand 18 = .ok (.aload_n 0, 1) := by decide +kernel
theorem dX5_mayStand_19 : decode cX5_mayStand 19 = .ok (.iload_n 2, 1) := by decide +kernel
theorem dX5_mayStand_20 : decode cX5_mayStand 20 = .ok (.invokevirtual 52, 3) := by decide +kernel
theorem dX5_mayStand_23 : decode cX5_mayStand 23 = .ok (.aload_n 0, 1) := by decide +kernel
theorem dX5_mayStand_24 : decode cX5_mayStand 24 = .ok (.iload_n 2, 1) := by decide +kernel
theorem dX5_mayStand_25 : decode cX5_mayStand 25 = .ok (.iload_n 3, 1) := by decide +kernel
theorem dX5_mayStand_26 : decode cX5_mayStand 26 = .ok (.invokevirtual 56, 3) := by decide +kernel
theorem dX5_mayStand_29 : decode cX5_mayStand 29 = .ok (.iload_n 3, 1) := by decide +kernel
theorem dX5_mayStand_30 : decode cX5_mayStand 30 = .ok (.invokevirtual 60, 3) := by decide +kernel
theorem dX5_mayStand_33 : decode cX5_mayStand 33 = .ok (.ireturn, 1) := by decide +kernel
theorem dX5_write_0 : decode cX5_write 0 = .ok (.aload_n 0, 1) := by decide +kernel
theorem dX5_write_1 : decode cX5_write 1 = .ok (.getfield 28, 3) := by decide +kernel
theorem dX5_write_4 : decode cX5_write 4 = .ok (.ifnull 28, 3) := by decide +kernel
theorem dX5_write_7 : decode cX5_write 7 = .ok (.aload_n 1, 1) := by decide +kernel
theorem dX5_write_8 : decode cX5_write 8 = .ok (.aload_n 0, 1) := by decide +kernel
theorem dX5_write_9 : decode cX5_write 9 = .ok (.iload_n 2, 1) := by decide +kernel
theorem dX5_write_10 : decode cX5_write 10 = .ok (.invokevirtual 52, 3) := by decide +kernel
theorem dX5_write_13 : decode cX5_write 13 = .ok (.aload_n 0, 1) := by decide +kernel
theorem dX5_write_14 : decode cX5_write 14 = .ok (.iload_n 2, 1) := by decide +kernel
theorem dX5_write_15 : decode cX5_write 15 = .ok (.aload_n 0, 1) := by decide +kernel
theorem dX5_write_16 : decode cX5_write 16 = .ok (.getfield 28, 3) := by decide +kernel
theorem dX5_write_19 : decode cX5_write 19 = .ok (.invokevirtual 46, 3) := by decide +kernel
theorem dX5_write_22 : decode cX5_write 22 = .ok (.invokevirtual 56, 3) := by decide +kernel
theorem dX5_write_25 : decode cX5_write 25 = .ok (.aload_n 0, 1) := by decide +kernel
theorem dX5_write_26 : decode cX5_write 26 = .ok (.getfield 28, 3) := by decide +kernel
theorem dX5_write_29 : decode cX5_write 29 = .ok (.invokevirtual 66, 3) := by decide +kernel
theorem dX5_write_32 : decode cX5_write 32 = .ok (.return_, 1) := by decide +kernel
theorem dX5_erase_0 : decode cX5_erase 0 = .ok (.aload_n 0, 1) := by decide +kernel
theorem dX5_erase_1 : decode cX5_erase 1 = .ok (.getfield 28, 3) := by decide +kernel
theorem dX5_erase_4 : decode cX5_erase 4 = .ok (.ifnull 27, 3) := by decide +kernel
theorem dX5_erase_7 : decode cX5_erase 7 = .ok (.aload_n 0, 1) := by decide +kernel
theorem dX5_erase_8 : decode cX5_erase 8 = .ok (.getfield 28, 3) := by decide +kernel
theorem dX5_erase_11 : decode cX5_erase 11 = .ok (.invokevirtual 46, 3) := by decide +kernel
theorem dX5_erase_14 : decode cX5_erase 14 = .ok (.istore_n 3, 1) := by decide +kernel
theorem dX5_erase_15 : decode cX5_erase 15 = .ok (.aload_n 1, 1) := by decide +kernel
theorem dX5_erase_16 : decode cX5_erase 16 = .ok (.aload_n 0, 1) := by decide +kernel
theorem dX5_erase_17 : decode cX5_erase 17 = .ok (.iload_n 2, 1) := by decide +kernel
theorem dX5_erase_18 : decode cX5_erase 18 = .ok (.invokevirtual 52, 3) := by decide +kernel
theorem dX5_erase_21 : decode cX5_erase 21 = .ok (.aload_n 0, 1) := by decide +kernel
theorem dX5_erase_22 : decode cX5_erase 22 = .ok (.iload_n 2, 1) := by decide +kernel
theorem dX5_erase_23 : decode cX5_erase 23 = .ok (.iload_n 3, 1) := by decide +kernel
theorem dX5_erase_24 : decode cX5_erase 24 = .ok (.invokevirtual 56, 3) := by decide +kernel
theorem dX5_erase_27 : decode cX5_erase 27 = .ok (.iload_n 3, 1) := by decide +kernel
theorem dX5_erase_28 : decode cX5_erase 28 = .ok (.invokevirtual 70, 3) := by decide +kernel
theorem dX5_erase_31 : decode cX5_erase 31 = .ok (.return_, 1) := by decide +kernel
theorem dX5_standAtFirstFree_0 : decode cX5_standAtFirstFree 0 = .ok (.iconst 0, 1) := by decide +kernel
theorem dX5_standAtFirstFree_1 : decode cX5_standAtFirstFree 1 = .ok (.istore_n 2, 1) := by decide +kernel
theorem dX5_standAtFirstFree_2 : decode cX5_standAtFirstFree 2 = .ok (.iload_n 2, 1) := by decide +kernel
theorem dX5_standAtFirstFree_3 : decode cX5_standAtFirstFree 3 = .ok (.iconst 4, 1) := by decide +kernel
theorem dX5_standAtFirstFree_4 : decode cX5_standAtFirstFree 4 = .ok (.if_icmp .ge 37, 3) := by decide +kernel
theorem dX5_standAtFirstFree_7 : decode cX5_standAtFirstFree 7 = .ok (.aload_n 0, 1) := by decide +kernel
theorem dX5_standAtFirstFree_8 : decode cX5_standAtFirstFree 8 = .ok (.getfield 32, 3) := by decide +kernel
theorem dX5_standAtFirstFree_11 : decode cX5_standAtFirstFree 11 = .ok (.iconst (-1), 1) := by decide +kernel
theorem dX5_standAtFirstFree_12 : decode cX5_standAtFirstFree 12 = .ok (.if_icmp .ne 29, 3) := by decide +kernel
theorem dX5_standAtFirstFree_15 : decode cX5_standAtFirstFree 15 = .ok (.aload_n 0, 1) := by decide +kernel
theorem dX5_standAtFirstFree_16 : decode cX5_standAtFirstFree 16 = .ok (.aload_n 1, 1) := by decide +kernel
theorem dX5_standAtFirstFree_17 : decode cX5_standAtFirstFree 17 = .ok (.iload_n 2, 1) := by decide +kernel
theorem dX5_standAtFirstFree_18 : decode cX5_standAtFirstFree 18 = .ok (.invokevirtual 74, 3) := by decide +kernel
theorem dX5_standAtFirstFree_21 : decode cX5_standAtFirstFree 21 = .ok (.ifCond .eq 14, 3) := by decide +kernel
theorem dX5_standAtFirstFree_24 : decode cX5_standAtFirstFree 24 = .ok (.aload_n 0, 1) := by decide +kernel
theorem dX5_standAtFirstFree_25 : decode cX5_standAtFirstFree 25 = .ok (.aload_n 1, 1) := by decide +kernel
theorem dX5_standAtFirstFree_26 : decode cX5_standAtFirstFree 26 = .ok (.iload_n 2, 1) := by decide +kernel
theorem dX5_standAtFirstFree_27 : decode cX5_standAtFirstFree 27 = .ok (.invokevirtual 78, 3) := by decide +kernel
theorem dX5_standAtFirstFree_30 : decode cX5_standAtFirstFree 30 = .ok (.aload_n 0, 1) := by decide +kernel
theorem dX5_standAtFirstFree_31 : decode cX5_standAtFirstFree 31 = .ok (.iload_n 2, 1) := by decide +kernel
theorem dX5_standAtFirstFree_32 : decode cX5_standAtFirstFree 32 = .ok (.putfield 32, 3) := by decide +kernel
theorem dX5_standAtFirstFree_35 : decode cX5_standAtFirstFree 35 = .ok (.iinc 2 1, 3) := by decide +kernel
theorem dX5_standAtFirstFree_38 : decode cX5_standAtFirstFree 38 = .ok (.goto (-36), 3) := by decide +kernel
theorem dX5_standAtFirstFree_41 : decode cX5_standAtFirstFree 41 = .ok (.return_, 1) := by decide +kernel
theorem dX6_init_0 : decode cX6_init 0 = .ok (.aload_n 0, 1) := by decide +kernel
theorem dX6_init_1 : decode cX6_init 1 = .ok (.invokespecial 1, 3) := by decide +kernel
theorem dX6_init_4 : decode cX6_init 4 = .ok (.aload_n 0, 1) := by decide +kernel
theorem dX6_init_5 : decode cX6_init 5 = .ok (.new 7, 3) := by decide +kernel
theorem dX6_init_8 : decode cX6_init 8 = .ok (.dup, 1) := by decide +kernel
theorem dX6_init_9 : decode cX6_init 9 = .ok (.invokespecial 9, 3) := by decide +kernel
theorem dX6_init_12 : decode cX6_init 12 = .ok (.putfield 10, 3) := by decide +kernel
theorem dX6_init_15 : decode cX6_init 15 = .ok (.aload_n 0, 1) := by decide +kernel
theorem dX6_init_16 : decode cX6_init 16 = .ok (.bipush 14, 2) := by decide +kernel
theorem dX6_init_18 : decode cX6_init 18 = .ok (.anewarray 16, 3) := by decide +kernel
theorem dX6_init_21 : decode cX6_init 21 = .ok (.putfield 18, 3) := by decide +kernel
theorem dX6_init_24 : decode cX6_init 24 = .ok (.aload_n 0, 1) := by decide +kernel
theorem dX6_init_25 : decode cX6_init 25 = .ok (.iconst 4, 1) := by decide +kernel
theorem dX6_init_26 : decode cX6_init 26 = .ok (.anewarray 22, 3) := by decide +kernel
theorem dX6_init_29 : decode cX6_init 29 = .ok (.putfield 24, 3) := by decide +kernel
theorem dX6_init_32 : decode cX6_init 32 = .ok (.aload_n 0, 1) := by decide +kernel
theorem dX6_init_33 : decode cX6_init 33 = .ok (.iconst 5, 1) := by decide +kernel
theorem dX6_init_34 : decode cX6_init 34 = .ok (.anewarray 28, 3) := by decide +kernel
theorem dX6_init_37 : decode cX6_init 37 = .ok (.putfield 30, 3) := by decide +kernel
theorem dX6_init_40 : decode cX6_init 40 = .ok (.aload_n 0, 1) := by decide +kernel
theorem dX6_init_41 : decode cX6_init 41 = .ok (.iconst 0, 1) := by decide +kernel
theorem dX6_init_42 : decode cX6_init 42 = .ok (.putfield 34, 3) := by decide +kernel
theorem dX6_init_45 : decode cX6_init 45 = .ok (.aload_n 0, 1) := by decide +kernel
theorem dX6_init_46 : decode cX6_init 46 = .ok (.iconst 0, 1) := by decide +kernel
theorem dX6_init_47 : decode cX6_init 47 = .ok (.putfield 38, 3) := by decide +kernel
theorem dX6_init_50 : decode cX6_init 50 = .ok (.aload_n 0, 1) := by decide +kernel
theorem dX6_init_51 : decode cX6_init 51 = .ok (.iconst 0, 1) := by decide +kernel
theorem dX6_init_52 : decode cX6_init 52 = .ok (.putfield 41, 3) := by decide +kernel
theorem dX6_init_55 : decode cX6_init 55 = .ok (.aload_n 0, 1) := by decide +kernel
theorem dX6_init_56 : decode cX6_init 56 = .ok (.iconst 0, 1) := by decide +kernel
theorem dX6_init_57 : decode cX6_init 57 = .ok (.putfield 44, 3) := by decide +kernel
theorem dX6_init_60 : decode cX6_init 60 = .ok (.return_, 1) := by decide +kernel
theorem dX6_letter_0 : decode cX6_letter 0 = .ok (.iload_n 1, 1) := by decide +kernel
theorem dX6_letter_1 : decode cX6_letter 1 = .ok (.bipush 97, 2) := by decide +kernel
theorem dX6_letter_3 : decode cX6_letter 3 = .ok (.if_icmp .lt 9, 3) := by decide +kernel
theorem dX6_letter_6 : decode cX6_letter 6 = .ok (.iload_n 1, 1) := by decide +kernel
theorem dX6_letter_7 : decode cX6_letter 7 = .ok (.bipush 122, 2) := by decide +kernel
theorem dX6_letter_9 : decode cX6_letter 9 = .ok (.if_icmp .le 13, 3) := by decide +kernel
theorem dX6_letter_12 : decode cX6_letter 12 = .ok (.new 47, 3) := by decide +kernel
theorem dX6_letter_15 : decode cX6_letter 15 = .ok (.dup, 1) := by decide +kernel
theorem dX6_letter_16 : decode cX6_letter 16 = .ok (.ldc 49, 2) := by decide +kernel
theorem dX6_letter_18 : decode cX6_letter 18 = .ok (.invokespecial 51, 3) := by decide +kernel
theorem dX6_letter_21 : decode cX6_letter 21 = .ok (.athrow, 1) := by decide +kernel
theorem dX6_letter_22 : decode cX6_letter 22 = .ok (.aload_n 0, 1) := by decide +kernel
theorem dX6_letter_23 : decode cX6_letter 23 = .ok (.getfield 10, 3) := by decide +kernel
theorem dX6_letter_26 : decode cX6_letter 26 = .ok (.invokevirtual 54, 3) := by decide +kernel
theorem dX6_letter_29 : decode cX6_letter 29 = .ok (.bipush 8, 2) := by decide +kernel
theorem dX6_letter_31 : decode cX6_letter 31 = .ok (.if_icmp .lt 13, 3) := by decide +kernel
theorem dX6_letter_34 : decode cX6_letter 34 = .ok (.new 58, 3) := by decide +kernel
theorem dX6_letter_37 : decode cX6_letter 37 = .ok (.dup, 1) := by decide +kernel
theorem dX6_letter_38 : decode cX6_letter 38 = .ok (.ldc 60, 2) := by decide +kernel
theorem dX6_letter_40 : decode cX6_letter 40 = .ok (.invokespecial 62, 3) := by decide +kernel
theorem dX6_letter_43 : decode cX6_letter 43 = .ok (.athrow, 1) := by decide +kernel
theorem dX6_letter_44 : decode cX6_letter 44 = .ok (.aload_n 0, 1) := by decide +kernel
theorem dX6_letter_45 : decode cX6_letter 45 = .ok (.getfield 10, 3) := by decide +kernel
theorem dX6_letter_48 : decode cX6_letter 48 = .ok (.iload_n 1, 1) := by decide +kernel
theorem dX6_letter_49 : decode cX6_letter 49 = .ok (.invokevirtual 63, 3) := by decide +kernel
theorem dX6_letter_52 : decode cX6_letter 52 = .ok (.pop, 1) := by decide +kernel
theorem dX6_letter_53 : decode cX6_letter 53 = .ok (.aload_n 0, 1) := by decide +kernel
theorem dX6_letter_54 : decode cX6_letter 54 = .ok (.getfield 10, 3) := by decide +kernel
theorem dX6_letter_57 : decode cX6_letter 57 = .ok (.invokevirtual 54, 3) := by decide +kernel
theorem dX6_letter_60 : decode cX6_letter 60 = .ok (.ireturn, 1) := by decide +kernel
theorem dX6_place_0 : decode cX6_place 0 = .ok (.iload_n 1, 1) := by decide +kernel
theorem dX6_place_1 : decode cX6_place 1 = .ok (.sipush (-180), 3) := by decide +kernel
theorem dX6_place_4 : decode cX6_place 4 = .ok (.sipush 179, 3) := by decide +kernel
theorem dX6_place_7 : decode cX6_place 7 = .ok (.invokestatic 67, 3) := by decide +kernel
theorem dX6_place_10 : decode cX6_place 10 = .ok (.ifCond .eq 23, 3) := by decide +kernel
theorem dX6_place_13 : decode cX6_place 13 = .ok (.iload_n 2, 1) := by decide +kernel
theorem dX6_place_14 : decode cX6_place 14 = .ok (.bipush (-60), 2) := by decide +kernel
theorem dX6_place_16 : decode cX6_place 16 = .ok (.bipush 60, 2) := by decide +kernel
theorem dX6_place_18 : decode cX6_place 18 = .ok (.invokestatic 67, 3) := by decide +kernel
theorem dX6_place_21 : decode cX6_place 21 = .ok (.ifCond .eq 12, 3) := by decide +kernel
theorem dX6_place_24 : decode cX6_place 24 = .ok (.iload_n 3, 1) := by decide +kernel
theorem dX6_place_25 : decode cX6_place 25 = .ok (.iconst 1, 1) := by decide +kernel
theorem dX6_place_26 : decode cX6_place 26 = .ok (.iconst 5, 1) := by decide +kernel
theorem dX6_place_27 : decode cX6_place 27 = .ok (.invokestatic 67, 3) := by decide +kernel
theorem dX6_place_30 : decode cX6_place 30 = .ok (.ifCond .ne 13, 3) := by decide +kernel
theorem dX6_place_33 : decode cX6_place 33 = .ok (.new 47, 3) := by decide +kernel
theorem dX6_place_36 : decode cX6_place 36 = .ok (.dup, 1) := by decide +kernel
theorem dX6_place_37 : decode cX6_place 37 = .ok (.ldc 71, 2) := by decide +kernel
theorem dX6_place_39 : decode cX6_place 39 = .ok (.invokespecial 51, 3) := by decide +kernel
theorem dX6_place_42 : decode cX6_place 42 = .ok (.athrow, 1) := by decide +kernel
theorem dX6_place_43 : decode cX6_place 43 = .ok (.aload_n 0, 1) := by decide +kernel
theorem dX6_place_44 : decode cX6_place 44 = .ok (.getfield 34, 3) := by decide +kernel
theorem dX6_place_47 : decode cX6_place 47 = .ok (.aload_n 0, 1) := by decide +kernel
theorem dX6_place_48 : decode cX6_place 48 = .ok (.getfield 18, 3) := by decide +kernel
theorem dX6_place_51 : decode cX6_place 51 = .ok (.arraylength, 1) := by decide +kernel
theorem dX6_place_52 : decode cX6_place 52 = .ok (.if_icmp .lt 13, 3) := by decide +kernel
theorem dX6_place_55 : decode cX6_place 55 = .ok (.new 58, 3) := by decide +kernel
theorem dX6_place_58 : decode cX6_place 58 = .ok (.dup, 1) := by decide +kernel
theorem dX6_place_59 : decode cX6_place 59 = .ok (.ldc 73, 2) := by decide +kernel
theorem dX6_place_61 : decode cX6_place 61 = .ok (.invokespecial 62, 3) := by decide +kernel
theorem dX6_place_64 : decode cX6_place 64 = .ok (.athrow, 1) := by decide +kernel
theorem dX6_place_65 : decode cX6_place 65 = .ok (.new 16, 3) := by decide +kernel
theorem dX6_place_68 : decode cX6_place 68 = .ok (.dup, 1) := by decide +kernel
theorem dX6_place_69 : decode cX6_place 69 = .ok (.iload_n 1, 1) := by decide +kernel
theorem dX6_place_70 : decode cX6_place 70 = .ok (.iload_n 2, 1) := by decide +kernel
theorem dX6_place_71 : decode cX6_place 71 = .ok (.iload_n 3, 1) := by decide +kernel
theorem dX6_place_72 : decode cX6_place 72 = .ok (.invokespecial 75, 3) := by decide +kernel
theorem dX6_place_75 : decode cX6_place 75 = .ok (.astore 4, 2) := by decide +kernel
theorem dX6_place_77 : decode cX6_place 77 = .ok (.aload_n 0, 1) := by decide +kernel
theorem dX6_place_78 : decode cX6_place 78 = .ok (.getfield 18, 3) := by decide +kernel
theorem dX6_place_81 : decode cX6_place 81 = .ok (.aload_n 0, 1) := by decide +kernel
theorem dX6_place_82 : decode cX6_place 82 = .ok (.getfield 34, 3) := by decide +kernel
theorem dX6_place_85 : decode cX6_place 85 = .ok (.aload 4, 2) := by decide +kernel
theorem dX6_place_87 : decode cX6_place 87 = .ok (.aastore, 1) := by decide +kernel
theorem dX6_place_88 : decode cX6_place 88 = .ok (.aload_n 0, 1) := by decide +kernel
theorem dX6_place_89 : decode cX6_place 89 = .ok (.dup, 1) := by decide +kernel
theorem dX6_place_90 : decode cX6_place 90 = .ok (.getfield 34, 3) := by decide +kernel
theorem dX6_place_93 : decode cX6_place 93 = .ok (.iconst 1, 1) := by decide +kernel
theorem dX6_place_94 : decode cX6_place 94 = .ok (.iadd, 1) := by decide +kernel
theorem dX6_place_95 : decode cX6_place 95 = .ok (.putfield 34, 3) := by decide +kernel
theorem dX6_place_98 : decode cX6_place 98 = .ok (.aload_n 0, 1) := by decide +kernel
theorem dX6_place_99 : decode cX6_place 99 = .ok (.aload 4, 2) := by decide +kernel
theorem dX6_place_101 : decode cX6_place 101 = .ok (.invokevirtual 78, 3) := by decide +kernel
theorem dX6_place_104 : decode cX6_place 104 = .ok (.aload_n 0, 1) := by decide +kernel
theorem dX6_place_105 : decode cX6_place 105 = .ok (.getfield 34, 3) := by decide +kernel
theorem dX6_place_108 : decode cX6_place 108 = .ok (.iconst 1, 1) := by decide +kernel
theorem dX6_place_109 : decode cX6_place 109 = .ok (.isub, 1) := by decide +kernel
theorem dX6_place_110 : decode cX6_place 110 = .ok (.ireturn, 1) := by decide +kernel
theorem dX6_name_0 : decode cX6_name 0 = .ok (.aload_n 0, 1) := by decide +kernel
theorem dX6_name_1 : decode cX6_name 1 = .ok (.iload_n 1, 1) := by decide +kernel
theorem dX6_name_2 : decode cX6_name 2 = .ok (.invokevirtual 82, 3) := by decide +kernel
theorem dX6_name_5 : decode cX6_name 5 = .ok (.astore_n 2, 1) := by decide +kernel
theorem dX6_name_6 : decode cX6_name 6 = .ok (.aload_n 0, 1) := by decide +kernel
theorem dX6_name_7 : decode cX6_name 7 = .ok (.getfield 10, 3) := by decide +kernel
theorem dX6_name_10 : decode cX6_name 10 = .ok (.invokevirtual 54, 3) := by decide +kernel
theorem dX6_name_13 : decode cX6_name 13 = .ok (.ifCond .ne 13, 3) := by decide +kernel
theorem dX6_name_16 : decode cX6_name 16 = .ok (.new 58, 3) := by decide +kernel
theorem dX6_name_19 : decode cX6_name 19 = .ok (.dup, 1) := by decide +kernel
theorem dX6_name_20 : decode cX6_name 20 = .ok (.ldc 86, 2) := by decide +kernel
theorem dX6_name_22 : decode cX6_name 22 = .ok (.invokespecial 62, 3) := by decide +kernel
theorem dX6_name_25 : decode cX6_name 25 = .ok (.athrow, 1) := by decide +kernel
theorem dX6_name_26 : decode cX6_name 26 = .ok (.aload_n 2, 1) := by decide +kernel
theorem dX6_name_27 : decode cX6_name 27 = .ok (.invokevirtual 88, 3) := by decide +kernel
theorem dX6_name_30 : decode cX6_name 30 = .ok (.ifCond .eq 13, 3) := by decide +kernel
theorem dX6_name_33 : decode cX6_name 33 = .ok (.new 58, 3) := by decide +kernel
theorem dX6_name_36 : decode cX6_name 36 = .ok (.dup, 1) := by decide +kernel
theorem dX6_name_37 : decode cX6_name 37 = .ok (.ldc 92, 2) := by decide +kernel
theorem dX6_name_39 : decode cX6_name 39 = .ok (.invokespecial 62, 3) := by decide +kernel
theorem dX6_name_42 : decode cX6_name 42 = .ok (.athrow, 1) := by decide +kernel
theorem dX6_name_43 : decode cX6_name 43 = .ok (.aload_n 2, 1) := by decide +kernel
theorem dX6_name_44 : decode cX6_name 44 = .ok (.new 94, 3) := by decide +kernel
theorem dX6_name_47 : decode cX6_name 47 = .ok (.dup, 1) := by decide +kernel
theorem dX6_name_48 : decode cX6_name 48 = .ok (.aload_n 0, 1) := by decide +kernel
theorem dX6_name_49 : decode cX6_name 49 = .ok (.getfield 44, 3) := by decide +kernel
theorem dX6_name_52 : decode cX6_name 52 = .ok (.aload_n 0, 1) := by decide +kernel
theorem dX6_name_53 : decode cX6_name 53 = .ok (.getfield 10, 3) := by decide +kernel
theorem dX6_name_56 : decode cX6_name 56 = .ok (.invokevirtual 96, 3) := by decide +kernel
theorem dX6_name_59 : decode cX6_name 59 = .ok (.invokespecial 100, 3) := by decide +kernel
theorem dX6_name_62 : decode cX6_name 62 = .ok (.invokevirtual 103, 3) := by decide +kernel
theorem dX6_name_65 : decode cX6_name 65 = .ok (.aload_n 0, 1) := by decide +kernel
theorem dX6_name_66 : decode cX6_name 66 = .ok (.getfield 10, 3) := by decide +kernel
theorem dX6_name_69 : decode cX6_name 69 = .ok (.iconst 0, 1) := by decide +kernel
theorem dX6_name_70 : decode cX6_name 70 = .ok (.invokevirtual 107, 3) := by decide +kernel
theorem dX6_name_73 : decode cX6_name 73 = .ok (.aload_n 0, 1) := by decide +kernel
theorem dX6_name_74 : decode cX6_name 74 = .ok (.iload_n 1, 1) := by decide +kernel
theorem dX6_name_75 : decode cX6_name 75 = .ok (.invokevirtual 111, 3) := by decide +kernel
theorem dX6_name_78 : decode cX6_name 78 = .ok (.ireturn, 1) := by decide +kernel
theorem dX6_spelled_0 : decode cX6_spelled 0 = .ok (.aload_n 0, 1) := by decide +kernel
theorem dX6_spelled_1 : decode cX6_spelled 1 = .ok (.iload_n 1, 1) := by decide +kernel
theorem dX6_spelled_2 : decode cX6_spelled 2 = .ok (.invokevirtual 82, 3) := by decide +kernel
theorem dX6_spelled_5 : decode cX6_spelled 5 = .ok (.astore 4, 2) := by decide +kernel
theorem dX6_spelled_7 : decode cX6_spelled 7 = .ok (.iload_n 3, 1) := by decide +kernel
theorem dX6_spelled_8 : decode cX6_spelled 8 = .ok (.ifCond .ge 13, 3) := by decide +kernel
theorem dX6_spelled_11 : decode cX6_spelled 11 = .ok (.new 115, 3) := by decide +kernel
theorem dX6_spelled_14 : decode cX6_spelled 14 = .ok (.dup, 1) := by decide +kernel
theorem dX6_spelled_15 : decode cX6_spelled 15 = .ok (.ldc 117, 2) := by decide +kernel
theorem dX6_spelled_17 : decode cX6_spelled 17 = .ok (.invokespecial 119, 3) := by decide +kernel
theorem dX6_spelled_20 : decode cX6_spelled 20 = .ok (.athrow, 1) := by decide +kernel
theorem dX6_spelled_21 : decode cX6_spelled 21 = .ok (.iload_n 2, 1) := by decide +kernel
theorem dX6_spelled_22 : decode cX6_spelled 22 = .ok (.iconst 0, 1) := by decide +kernel
theorem dX6_spelled_23 : decode cX6_spelled 23 = .ok (.sipush 10000, 3) := by decide +kernel
theorem dX6_spelled_26 : decode cX6_spelled 26 = .ok (.invokestatic 67, 3) := by decide +kernel
theorem dX6_spelled_29 : decode cX6_spelled 29 = .ok (.ifCond .ne 13, 3) := by decide +kernel
theorem dX6_spelled_32 : decode cX6_spelled 32 = .ok (.new 47, 3) := by decide +kernel
theorem dX6_spelled_35 : decode cX6_spelled 35 = .ok (.dup, 1) := by decide +kernel
theorem dX6_spelled_36 : decode cX6_spelled 36 = .ok (.ldc 120, 2) := by decide +kernel
theorem dX6_spelled_38 : decode cX6_spelled 38 = .ok (.invokespecial 51, 3) := by decide +kernel
theorem dX6_spelled_41 : decode cX6_spelled 41 = .ok (.athrow, 1) := by decide +kernel
theorem dX6_spelled_42 : decode cX6_spelled 42 = .ok (.aload 4, 2) := by decide +kernel
theorem dX6_spelled_44 : decode cX6_spelled 44 = .ok (.iload_n 2, 1) := by decide +kernel
theorem dX6_spelled_45 : decode cX6_spelled 45 = .ok (.invokevirtual 122, 3) := by decide +kernel
theorem dX6_spelled_48 : decode cX6_spelled 48 = .ok (.astore 5, 2) := by decide +kernel
theorem dX6_spelled_50 : decode cX6_spelled 50 = .ok (.aload 5, 2) := by decide +kernel
theorem dX6_spelled_52 : decode cX6_spelled 52 = .ok (.ifnull 12, 3) := by decide +kernel
theorem dX6_spelled_55 : decode cX6_spelled 55 = .ok (.iload_n 3, 1) := by decide +kernel
theorem dX6_spelled_56 : decode cX6_spelled 56 = .ok (.aload 5, 2) := by decide +kernel
theorem dX6_spelled_58 : decode cX6_spelled 58 = .ok (.invokevirtual 126, 3) := by decide +kernel
theorem dX6_spelled_61 : decode cX6_spelled 61 = .ok (.if_icmp .lt 8, 3) := by decide +kernel
theorem dX6_spelled_64 : decode cX6_spelled 64 = .ok (.bipush 32, 2) := by decide +kernel
theorem dX6_spelled_66 : decode cX6_spelled 66 = .ok (.goto 9, 3) := by decide +kernel
theorem dX6_spelled_69 : decode cX6_spelled 69 = .ok (.aload 5, 2) := by decide +kernel
theorem dX6_spelled_71 : decode cX6_spelled 71 = .ok (.iload_n 3, 1) := by decide +kernel
theorem dX6_spelled_72 : decode cX6_spelled 72 = .ok (.invokevirtual 129, 3) := by decide +kernel
theorem dX6_spelled_75 : decode cX6_spelled 75 = .ok (.ireturn, 1) := by decide +kernel
theorem dX6_pass_0 : decode cX6_pass 0 = .ok (.iload_n 1, 1) := by decide +kernel
theorem dX6_pass_1 : decode cX6_pass 1 = .ok (.iconst 1, 1) := by decide +kernel
theorem dX6_pass_2 : decode cX6_pass 2 = .ok (.sipush 1000, 3) := by decide +kernel
theorem dX6_pass_5 : decode cX6_pass 5 = .ok (.invokestatic 67, 3) := by decide +kernel
theorem dX6_pass_8 : decode cX6_pass 8 = .ok (.ifCond .ne 13, 3) := by decide +kernel
theorem dX6_pass_11 : decode cX6_pass 11 = .ok (.new 47, 3) := by decide +kernel
theorem dX6_pass_14 : decode cX6_pass 14 = .ok (.dup, 1) := by decide +kernel
theorem dX6_pass_15 : decode cX6_pass 15 = .ok (.ldc 133, 2) := by decide +kernel
theorem dX6_pass_17 : decode cX6_pass 17 = .ok (.invokespecial 51, 3) := by decide +kernel
theorem dX6_pass_20 : decode cX6_pass 20 = .ok (.athrow, 1) := by decide +kernel
theorem dX6_pass_21 : decode cX6_pass 21 = .ok (.aload_n 0, 1) := by decide +kernel
theorem dX6_pass_22 : decode cX6_pass 22 = .ok (.getfield 44, 3) := by decide +kernel
theorem dX6_pass_25 : decode cX6_pass 25 = .ok (.iload_n 1, 1) := by decide +kernel
theorem dX6_pass_26 : decode cX6_pass 26 = .ok (.iadd, 1) := by decide +kernel
theorem dX6_pass_27 : decode cX6_pass 27 = .ok (.sipush 10000, 3) := by decide +kernel
theorem dX6_pass_30 : decode cX6_pass 30 = .ok (.if_icmp .le 13, 3) := by decide +kernel
theorem dX6_pass_33 : decode cX6_pass 33 = .ok (.new 58, 3) := by decide +kernel
theorem dX6_pass_36 : decode cX6_pass 36 = .ok (.dup, 1) := by decide +kernel
theorem dX6_pass_37 : decode cX6_pass 37 = .ok (.ldc 135, 2) := by decide +kernel
theorem dX6_pass_39 : decode cX6_pass 39 = .ok (.invokespecial 62, 3) := by decide +kernel
theorem dX6_pass_42 : decode cX6_pass 42 = .ok (.athrow, 1) := by decide +kernel
theorem dX6_pass_43 : decode cX6_pass 43 = .ok (.aload_n 0, 1) := by decide +kernel
theorem dX6_pass_44 : decode cX6_pass 44 = .ok (.dup, 1) := by decide +kernel
theorem dX6_pass_45 : decode cX6_pass 45 = .ok (.getfield 44, 3) := by decide +kernel
theorem dX6_pass_48 : decode cX6_pass 48 = .ok (.iload_n 1, 1) := by decide +kernel
theorem dX6_pass_49 : decode cX6_pass 49 = .ok (.iadd, 1) := by decide +kernel
theorem dX6_pass_50 : decode cX6_pass 50 = .ok (.putfield 44, 3) := by decide +kernel
theorem dX6_pass_53 : decode cX6_pass 53 = .ok (.aload_n 0, 1) := by decide +kernel
theorem dX6_pass_54 : decode cX6_pass 54 = .ok (.getfield 44, 3) := by decide +kernel
theorem dX6_pass_57 : decode cX6_pass 57 = .ok (.ireturn, 1) := by decide +kernel
theorem dX6_sheet_0 : decode cX6_sheet 0 = .ok (.iload_n 1, 1) := by decide +kernel
theorem dX6_sheet_1 : decode cX6_sheet 1 = .ok (.sipush (-180), 3) := by decide +kernel
theorem dX6_sheet_4 : decode cX6_sheet 4 = .ok (.sipush 150, 3) := by decide +kernel
theorem dX6_sheet_7 : decode cX6_sheet 7 = .ok (.invokestatic 67, 3) := by decide +kernel
theorem dX6_sheet_10 : decode cX6_sheet 10 = .ok (.ifCond .eq 23, 3) := by decide +kernel
theorem dX6_sheet_13 : decode cX6_sheet 13 = .ok (.iload_n 2, 1) := by decide +kernel
theorem dX6_sheet_14 : decode cX6_sheet 14 = .ok (.bipush (-60), 2) := by decide +kernel
theorem dX6_sheet_16 : decode cX6_sheet 16 = .ok (.bipush 41, 2) := by decide +kernel
theorem dX6_sheet_18 : decode cX6_sheet 18 = .ok (.invokestatic 67, 3) := by decide +kernel
theorem dX6_sheet_21 : decode cX6_sheet 21 = .ok (.ifCond .eq 12, 3) := by decide +kernel
theorem dX6_sheet_24 : decode cX6_sheet 24 = .ok (.iload_n 3, 1) := by decide +kernel
theorem dX6_sheet_25 : decode cX6_sheet 25 = .ok (.ifCond .eq 18, 3) := by decide +kernel
theorem dX6_sheet_28 : decode cX6_sheet 28 = .ok (.iload_n 3, 1) := by decide +kernel
theorem dX6_sheet_29 : decode cX6_sheet 29 = .ok (.iconst 1, 1) := by decide +kernel
theorem dX6_sheet_30 : decode cX6_sheet 30 = .ok (.if_icmp .eq 13, 3) := by decide +kernel
theorem dX6_sheet_33 : decode cX6_sheet 33 = .ok (.new 47, 3) := by decide +kernel
theorem dX6_sheet_36 : decode cX6_sheet 36 = .ok (.dup, 1) := by decide +kernel
theorem dX6_sheet_37 : decode cX6_sheet 37 = .ok (.ldc 137, 2) := by decide +kernel
theorem dX6_sheet_39 : decode cX6_sheet 39 = .ok (.invokespecial 51, 3) := by decide +kernel
theorem dX6_sheet_42 : decode cX6_sheet 42 = .ok (.athrow, 1) := by decide +kernel
theorem dX6_sheet_43 : decode cX6_sheet 43 = .ok (.aload_n 0, 1) := by decide +kernel
theorem dX6_sheet_44 : decode cX6_sheet 44 = .ok (.getfield 38, 3) := by decide +kernel
theorem dX6_sheet_47 : decode cX6_sheet 47 = .ok (.aload_n 0, 1) := by decide +kernel
theorem dX6_sheet_48 : decode cX6_sheet 48 = .ok (.getfield 24, 3) := by decide +kernel
theorem dX6_sheet_51 : decode cX6_sheet 51 = .ok (.arraylength, 1) := by decide +kernel
theorem dX6_sheet_52 : decode cX6_sheet 52 = .ok (.if_icmp .lt 13, 3) := by decide +kernel
theorem dX6_sheet_55 : decode cX6_sheet 55 = .ok (.new 58, 3) := by decide +kernel
theorem dX6_sheet_58 : decode cX6_sheet 58 = .ok (.dup, 1) := by decide +kernel
theorem dX6_sheet_59 : decode cX6_sheet 59 = .ok (.ldc 139, 2) := by decide +kernel
theorem dX6_sheet_61 : decode cX6_sheet 61 = .ok (.invokespecial 62, 3) := by decide +kernel
theorem dX6_sheet_64 : decode cX6_sheet 64 = .ok (.athrow, 1) := by decide +kernel
theorem dX6_sheet_65 : decode cX6_sheet 65 = .ok (.new 22, 3) := by decide +kernel
theorem dX6_sheet_68 : decode cX6_sheet 68 = .ok (.dup, 1) := by decide +kernel
theorem dX6_sheet_69 : decode cX6_sheet 69 = .ok (.iload_n 1, 1) := by decide +kernel
theorem dX6_sheet_70 : decode cX6_sheet 70 = .ok (.iload_n 2, 1) := by decide +kernel
theorem dX6_sheet_71 : decode cX6_sheet 71 = .ok (.iload_n 3, 1) := by decide +kernel
theorem dX6_sheet_72 : decode cX6_sheet 72 = .ok (.invokespecial 141, 3) := by decide +kernel
theorem dX6_sheet_75 : decode cX6_sheet 75 = .ok (.astore 4, 2) := by decide +kernel
theorem dX6_sheet_77 : decode cX6_sheet 77 = .ok (.iconst 0, 1) := by decide +kernel
theorem dX6_sheet_78 : decode cX6_sheet 78 = .ok (.istore 5, 2) := by decide +kernel
theorem dX6_sheet_80 : decode cX6_sheet 80 = .ok (.iload 5, 2) := by decide +kernel
theorem dX6_sheet_82 : decode cX6_sheet 82 = .ok (.aload_n 0, 1) := by decide +kernel
theorem dX6_sheet_83 : decode cX6_sheet 83 = .ok (.getfield 34, 3) := by decide +kernel
theorem dX6_sheet_86 : decode cX6_sheet 86 = .ok (.if_icmp .ge 31, 3) := by decide +kernel
theorem dX6_sheet_89 : decode cX6_sheet 89 = .ok (.iload 5, 2) := by decide +kernel
theorem dX6_sheet_91 : decode cX6_sheet 91 = .ok (.aload_n 0, 1) := by decide +kernel
theorem dX6_sheet_92 : decode cX6_sheet 92 = .ok (.getfield 18, 3) := by decide +kernel
theorem dX6_sheet_95 : decode cX6_sheet 95 = .ok (.arraylength, 1) := by decide +kernel
theorem dX6_sheet_96 : decode cX6_sheet 96 = .ok (.if_icmp .ge 21, 3) := by decide +kernel
theorem dX6_sheet_99 : decode cX6_sheet 99 = .ok (.aload 4, 2) := by decide +kernel
theorem dX6_sheet_101 : decode cX6_sheet 101 = .ok (.aload_n 0, 1) := by decide +kernel
theorem dX6_sheet_102 : decode cX6_sheet 102 = .ok (.getfield 18, 3) := by decide +kernel
theorem dX6_sheet_105 : decode cX6_sheet 105 = .ok (.iload 5, 2) := by decide +kernel
theorem dX6_sheet_107 : decode cX6_sheet 107 = .ok (.aaload, 1) := by decide +kernel
theorem dX6_sheet_108 : decode cX6_sheet 108 = .ok (.invokevirtual 142, 3) := by decide +kernel
theorem dX6_sheet_111 : decode cX6_sheet 111 = .ok (.iinc 5 1, 3) := by decide +kernel
theorem dX6_sheet_114 : decode cX6_sheet 114 = .ok (.goto (-34), 3) := by decide +kernel
theorem dX6_sheet_117 : decode cX6_sheet 117 = .ok (.aload 4, 2) := by decide +kernel
theorem dX6_sheet_119 : decode cX6_sheet 119 = .ok (.aload_n 0, 1) := by decide +kernel
theorem dX6_sheet_120 : decode cX6_sheet 120 = .ok (.getfield 44, 3) := by decide +kernel
theorem dX6_sheet_123 : decode cX6_sheet 123 = .ok (.invokevirtual 145, 3) := by decide +kernel
theorem dX6_sheet_126 : decode cX6_sheet 126 = .ok (.aload_n 0, 1) := by decide +kernel
theorem dX6_sheet_127 : decode cX6_sheet 127 = .ok (.getfield 24, 3) := by decide +kernel
theorem dX6_sheet_130 : decode cX6_sheet 130 = .ok (.aload_n 0, 1) := by decide +kernel
theorem dX6_sheet_131 : decode cX6_sheet 131 = .ok (.getfield 38, 3) := by decide +kernel
theorem dX6_sheet_134 : decode cX6_sheet 134 = .ok (.aload 4, 2) := by decide +kernel
theorem dX6_sheet_136 : decode cX6_sheet 136 = .ok (.aastore, 1) := by decide +kernel
theorem dX6_sheet_137 : decode cX6_sheet 137 = .ok (.aload_n 0, 1) := by decide +kernel
theorem dX6_sheet_138 : decode cX6_sheet 138 = .ok (.dup, 1) := by decide +kernel
theorem dX6_sheet_139 : decode cX6_sheet 139 = .ok (.getfield 38, 3) := by decide +kernel
theorem dX6_sheet_142 : decode cX6_sheet 142 = .ok (.iconst 1, 1) := by decide +kernel
theorem dX6_sheet_143 : decode cX6_sheet 143 = .ok (.iadd, 1) := by decide +kernel
theorem dX6_sheet_144 : decode cX6_sheet 144 = .ok (.putfield 38, 3) := by decide +kernel
theorem dX6_sheet_147 : decode cX6_sheet 147 = .ok (.aload_n 0, 1) := by decide +kernel
theorem dX6_sheet_148 : decode cX6_sheet 148 = .ok (.getfield 38, 3) := by decide +kernel
theorem dX6_sheet_151 : decode cX6_sheet 151 = .ok (.iconst 1, 1) := by decide +kernel
theorem dX6_sheet_152 : decode cX6_sheet 152 = .ok (.isub, 1) := by decide +kernel
theorem dX6_sheet_153 : decode cX6_sheet 153 = .ok (.ireturn, 1) := by decide +kernel
theorem dX6_dot_0 : decode cX6_dot 0 = .ok (.aload_n 0, 1) := by decide +kernel
theorem dX6_dot_1 : decode cX6_dot 1 = .ok (.iload_n 1, 1) := by decide +kernel
theorem dX6_dot_2 : decode cX6_dot 2 = .ok (.iload_n 2, 1) := by decide +kernel
theorem dX6_dot_3 : decode cX6_dot 3 = .ok (.invokevirtual 148, 3) := by decide +kernel
theorem dX6_dot_6 : decode cX6_dot 6 = .ok (.astore 4, 2) := by decide +kernel
theorem dX6_dot_8 : decode cX6_dot 8 = .ok (.iload_n 3, 1) := by decide +kernel
theorem dX6_dot_9 : decode cX6_dot 9 = .ok (.ifCond .eq 11, 3) := by decide +kernel
theorem dX6_dot_12 : decode cX6_dot 12 = .ok (.aload 4, 2) := by decide +kernel
theorem dX6_dot_14 : decode cX6_dot 14 = .ok (.getfield 152, 3) := by decide +kernel
theorem dX6_dot_17 : decode cX6_dot 17 = .ok (.goto 8, 3) := by decide +kernel
theorem dX6_dot_20 : decode cX6_dot 20 = .ok (.aload 4, 2) := by decide +kernel
theorem dX6_dot_22 : decode cX6_dot 22 = .ok (.getfield 157, 3) := by decide +kernel
theorem dX6_dot_25 : decode cX6_dot 25 = .ok (.ireturn, 1) := by decide +kernel
theorem dX6_side_0 : decode cX6_side 0 = .ok (.aload_n 0, 1) := by decide +kernel
theorem dX6_side_1 : decode cX6_side 1 = .ok (.iload_n 1, 1) := by decide +kernel
theorem dX6_side_2 : decode cX6_side 2 = .ok (.iload_n 2, 1) := by decide +kernel
theorem dX6_side_3 : decode cX6_side 3 = .ok (.invokevirtual 148, 3) := by decide +kernel
theorem dX6_side_6 : decode cX6_side 6 = .ok (.getfield 160, 3) := by decide +kernel
theorem dX6_side_9 : decode cX6_side 9 = .ok (.ireturn, 1) := by decide +kernel
theorem dX6_drawn_0 : decode cX6_drawn 0 = .ok (.aload_n 0, 1) := by decide +kernel
theorem dX6_drawn_1 : decode cX6_drawn 1 = .ok (.iload_n 1, 1) := by decide +kernel
theorem dX6_drawn_2 : decode cX6_drawn 2 = .ok (.invokevirtual 163, 3) := by decide +kernel
theorem dX6_drawn_5 : decode cX6_drawn 5 = .ok (.astore 4, 2) := by decide +kernel
theorem dX6_drawn_7 : decode cX6_drawn 7 = .ok (.iload_n 2, 1) := by decide +kernel
theorem dX6_drawn_8 : decode cX6_drawn 8 = .ok (.iload_n 3, 1) := by decide +kernel
theorem dX6_drawn_9 : decode cX6_drawn 9 = .ok (.invokestatic 167, 3) := by decide +kernel
theorem dX6_drawn_12 : decode cX6_drawn 12 = .ok (.ifCond .ne 13, 3) := by decide +kernel
theorem dX6_drawn_15 : decode cX6_drawn 15 = .ok (.new 115, 3) := by decide +kernel
theorem dX6_drawn_18 : decode cX6_drawn 18 = .ok (.dup, 1) := by decide +kernel
theorem dX6_drawn_19 : decode cX6_drawn 19 = .ok (.ldc 171, 2) := by decide +kernel
theorem dX6_drawn_21 : decode cX6_drawn 21 = .ok (.invokespecial 119, 3) := by decide +kernel
theorem dX6_drawn_24 : decode cX6_drawn 24 = .ok (.athrow, 1) := by decide +kernel
theorem dX6_drawn_25 : decode cX6_drawn 25 = .ok (.aload 4, 2) := by decide +kernel
theorem dX6_drawn_27 : decode cX6_drawn 27 = .ok (.getfield 173, 3) := by decide +kernel
theorem dX6_drawn_30 : decode cX6_drawn 30 = .ok (.iload_n 2, 1) := by decide +kernel
theorem dX6_drawn_31 : decode cX6_drawn 31 = .ok (.iload_n 3, 1) := by decide +kernel
theorem dX6_drawn_32 : decode cX6_drawn 32 = .ok (.invokevirtual 177, 3) := by decide +kernel
theorem dX6_drawn_35 : decode cX6_drawn 35 = .ok (.ireturn, 1) := by decide +kernel
theorem dX6_worth_0 : decode cX6_worth 0 = .ok (.aload_n 0, 1) := by decide +kernel
theorem dX6_worth_1 : decode cX6_worth 1 = .ok (.iload_n 1, 1) := by decide +kernel
theorem dX6_worth_2 : decode cX6_worth 2 = .ok (.invokevirtual 163, 3) := by decide +kernel
theorem dX6_worth_5 : decode cX6_worth 5 = .ok (.invokevirtual 183, 3) := by decide +kernel
theorem dX6_worth_8 : decode cX6_worth 8 = .ok (.ireturn, 1) := by decide +kernel
theorem dX6_best_0 : decode cX6_best 0 = .ok (.aload_n 0, 1) := by decide +kernel
theorem dX6_best_1 : decode cX6_best 1 = .ok (.iload_n 1, 1) := by decide +kernel
theorem dX6_best_2 : decode cX6_best 2 = .ok (.invokevirtual 163, 3) := by decide +kernel
theorem dX6_best_5 : decode cX6_best 5 = .ok (.astore_n 2, 1) := by decide +kernel
theorem dX6_best_6 : decode cX6_best 6 = .ok (.aload_n 2, 1) := by decide +kernel
theorem dX6_best_7 : decode cX6_best 7 = .ok (.getfield 186, 3) := by decide +kernel
theorem dX6_best_10 : decode cX6_best 10 = .ok (.iconst 4, 1) := by decide +kernel
theorem dX6_best_11 : decode cX6_best 11 = .ok (.if_icmp .le 13, 3) := by decide +kernel
theorem dX6_best_14 : decode cX6_best 14 = .ok (.new 58, 3) := by decide +kernel
theorem dX6_best_17 : decode cX6_best 17 = .ok (.dup, 1) := by decide +kernel
theorem dX6_best_18 : decode cX6_best 18 = .ok (.ldc 189, 2) := by decide +kernel
theorem dX6_best_20 : decode cX6_best 20 = .ok (.invokespecial 62, 3) := by decide +kernel
theorem dX6_best_23 : decode cX6_best 23 = .ok (.athrow, 1) := by decide +kernel
theorem dX6_best_24 : decode cX6_best 24 = .ok (.aload_n 2, 1) := by decide +kernel
theorem dX6_best_25 : decode cX6_best 25 = .ok (.invokevirtual 191, 3) := by decide +kernel
theorem dX6_best_28 : decode cX6_best 28 = .ok (.ireturn, 1) := by decide +kernel
theorem dX6_print_0 : decode cX6_print 0 = .ok (.aload_n 0, 1) := by decide +kernel
theorem dX6_print_1 : decode cX6_print 1 = .ok (.getfield 41, 3) := by decide +kernel
theorem dX6_print_4 : decode cX6_print 4 = .ok (.aload_n 0, 1) := by decide +kernel
theorem dX6_print_5 : decode cX6_print 5 = .ok (.getfield 30, 3) := by decide +kernel
theorem dX6_print_8 : decode cX6_print 8 = .ok (.arraylength, 1) := by decide +kernel
theorem dX6_print_9 : decode cX6_print 9 = .ok (.if_icmp .lt 13, 3) := by decide +kernel
theorem dX6_print_12 : decode cX6_print 12 = .ok (.new 58, 3) := by decide +kernel
theorem dX6_print_15 : decode cX6_print 15 = .ok (.dup, 1) := by decide +kernel
theorem dX6_print_16 : decode cX6_print 16 = .ok (.ldc 194, 2) := by decide +kernel
theorem dX6_print_18 : decode cX6_print 18 = .ok (.invokespecial 62, 3) := by decide +kernel
theorem dX6_print_21 : decode cX6_print 21 = .ok (.athrow, 1) := by decide +kernel
theorem dX6_print_22 : decode cX6_print 22 = .ok (.new 28, 3) := by decide +kernel
theorem dX6_print_25 : decode cX6_print 25 = .ok (.dup, 1) := by decide +kernel
theorem dX6_print_26 : decode cX6_print 26 = .ok (.invokespecial 196, 3) := by decide +kernel
theorem dX6_print_29 : decode cX6_print 29 = .ok (.astore_n 1, 1) := by decide +kernel
theorem dX6_print_30 : decode cX6_print 30 = .ok (.iconst 0, 1) := by decide +kernel
theorem dX6_print_31 : decode cX6_print 31 = .ok (.istore_n 2, 1) := by decide +kernel
theorem dX6_print_32 : decode cX6_print 32 = .ok (.iload_n 2, 1) := by decide +kernel
theorem dX6_print_33 : decode cX6_print 33 = .ok (.aload_n 0, 1) := by decide +kernel
theorem dX6_print_34 : decode cX6_print 34 = .ok (.getfield 38, 3) := by decide +kernel
theorem dX6_print_37 : decode cX6_print 37 = .ok (.if_icmp .ge 38, 3) := by decide +kernel
theorem dX6_print_40 : decode cX6_print 40 = .ok (.iload_n 2, 1) := by decide +kernel
theorem dX6_print_41 : decode cX6_print 41 = .ok (.aload_n 0, 1) := by decide +kernel
theorem dX6_print_42 : decode cX6_print 42 = .ok (.getfield 24, 3) := by decide +kernel
theorem dX6_print_45 : decode cX6_print 45 = .ok (.arraylength, 1) := by decide +kernel
theorem dX6_print_46 : decode cX6_print 46 = .ok (.if_icmp .ge 29, 3) := by decide +kernel
theorem dX6_print_49 : decode cX6_print 49 = .ok (.aload_n 0, 1) := by decide +kernel
theorem dX6_print_50 : decode cX6_print 50 = .ok (.getfield 24, 3) := by decide +kernel
theorem dX6_print_53 : decode cX6_print 53 = .ok (.iload_n 2, 1) := by decide +kernel
theorem dX6_print_54 : decode cX6_print 54 = .ok (.aaload, 1) := by decide +kernel
theorem dX6_print_55 : decode cX6_print 55 = .ok (.astore_n 3, 1) := by decide +kernel
theorem dX6_print_56 : decode cX6_print 56 = .ok (.aload_n 3, 1) := by decide +kernel
theorem dX6_print_57 : decode cX6_print 57 = .ok (.ifnull 12, 3) := by decide +kernel
theorem dX6_print_60 : decode cX6_print 60 = .ok (.aload_n 1, 1) := by decide +kernel
theorem dX6_print_61 : decode cX6_print 61 = .ok (.iload_n 2, 1) := by decide +kernel
theorem dX6_print_62 : decode cX6_print 62 = .ok (.aload_n 3, 1) := by decide +kernel
theorem dX6_print_63 : decode cX6_print 63 = .ok (.getfield 173, 3) := by decide +kernel
theorem dX6_print_66 : decode cX6_print 66 = .ok (.invokevirtual 197, 3) := by decide +kernel
theorem dX6_print_69 : decode cX6_print 69 = .ok (.iinc 2 1, 3) := by decide +kernel
theorem dX6_print_72 : decode cX6_print 72 = .ok (.goto (-40), 3) := by decide +kernel
theorem dX6_print_75 : decode cX6_print 75 = .ok (.aload_n 0, 1) := by decide +kernel
theorem dX6_print_76 : decode cX6_print 76 = .ok (.getfield 30, 3) := by decide +kernel
theorem dX6_print_79 : decode cX6_print 79 = .ok (.aload_n 0, 1) := by decide +kernel
theorem dX6_print_80 : decode cX6_print 80 = .ok (.getfield 41, 3) := by decide +kernel
theorem dX6_print_83 : decode cX6_print 83 = .ok (.aload_n 1, 1) := by decide +kernel
theorem dX6_print_84 : decode cX6_print 84 = .ok (.aastore, 1) := by decide +kernel
theorem dX6_print_85 : decode cX6_print 85 = .ok (.aload_n 0, 1) := by decide +kernel
theorem dX6_print_86 : decode cX6_print 86 = .ok (.dup, 1) := by decide +kernel
theorem dX6_print_87 : decode cX6_print 87 = .ok (.getfield 41, 3) := by decide +kernel
theorem dX6_print_90 : decode cX6_print 90 = .ok (.iconst 1, 1) := by decide +kernel
theorem dX6_print_91 : decode cX6_print 91 = .ok (.iadd, 1) := by decide +kernel
theorem dX6_print_92 : decode cX6_print 92 = .ok (.putfield 41, 3) := by decide +kernel
theorem dX6_print_95 : decode cX6_print 95 = .ok (.aload_n 0, 1) := by decide +kernel
theorem dX6_print_96 : decode cX6_print 96 = .ok (.getfield 41, 3) := by decide +kernel
theorem dX6_print_99 : decode cX6_print 99 = .ok (.iconst 1, 1) := by decide +kernel
theorem dX6_print_100 : decode cX6_print 100 = .ok (.isub, 1) := by decide +kernel
theorem dX6_print_101 : decode cX6_print 101 = .ok (.ireturn, 1) := by decide +kernel
theorem dX6_printed_0 : decode cX6_printed 0 = .ok (.aload_n 0, 1) := by decide +kernel
theorem dX6_printed_1 : decode cX6_printed 1 = .ok (.iload_n 1, 1) := by decide +kernel
theorem dX6_printed_2 : decode cX6_printed 2 = .ok (.invokevirtual 201, 3) := by decide +kernel
theorem dX6_printed_5 : decode cX6_printed 5 = .ok (.astore 5, 2) := by decide +kernel
theorem dX6_printed_7 : decode cX6_printed 7 = .ok (.iload_n 2, 1) := by decide +kernel
theorem dX6_printed_8 : decode cX6_printed 8 = .ok (.iconst 0, 1) := by decide +kernel
theorem dX6_printed_9 : decode cX6_printed 9 = .ok (.aload_n 0, 1) := by decide +kernel
theorem dX6_printed_10 : decode cX6_printed 10 = .ok (.getfield 38, 3) := by decide +kernel
theorem dX6_printed_13 : decode cX6_printed 13 = .ok (.iconst 1, 1) := by decide +kernel
theorem dX6_printed_14 : decode cX6_printed 14 = .ok (.isub, 1) := by decide +kernel
theorem dX6_printed_15 : decode cX6_printed 15 = .ok (.invokestatic 67, 3) := by decide +kernel
theorem dX6_printed_18 : decode cX6_printed 18 = .ok (.ifCond .eq 12, 3) := by decide +kernel
theorem dX6_printed_21 : decode cX6_printed 21 = .ok (.iload_n 3, 1) := by decide +kernel
theorem dX6_printed_22 : decode cX6_printed 22 = .ok (.iload 4, 2) := by decide +kernel
theorem dX6_printed_24 : decode cX6_printed 24 = .ok (.invokestatic 167, 3) := by decide +kernel
theorem dX6_printed_27 : decode cX6_printed 27 = .ok (.ifCond .ne 13, 3) := by decide +kernel
theorem dX6_printed_30 : decode cX6_printed 30 = .ok (.new 115, 3) := by decide +kernel
theorem dX6_printed_33 : decode cX6_printed 33 = .ok (.dup, 1) := by decide +kernel
theorem dX6_printed_34 : decode cX6_printed 34 = .ok (.ldc 205, 2) := by decide +kernel
theorem dX6_printed_36 : decode cX6_printed 36 = .ok (.invokespecial 119, 3) := by decide +kernel
theorem dX6_printed_39 : decode cX6_printed 39 = .ok (.athrow, 1) := by decide +kernel
theorem dX6_printed_40 : decode cX6_printed 40 = .ok (.aload 5, 2) := by decide +kernel
theorem dX6_printed_42 : decode cX6_printed 42 = .ok (.iload_n 2, 1) := by decide +kernel
theorem dX6_printed_43 : decode cX6_printed 43 = .ok (.iload_n 3, 1) := by decide +kernel
theorem dX6_printed_44 : decode cX6_printed 44 = .ok (.iload 4, 2) := by decide +kernel
theorem dX6_printed_46 : decode cX6_printed 46 = .ok (.invokevirtual 207, 3) := by decide +kernel
theorem dX6_printed_49 : decode cX6_printed 49 = .ok (.ireturn, 1) := by decide +kernel
theorem dX6_isWithin_0 : decode cX6_isWithin 0 = .ok (.iload_n 0, 1) := by decide +kernel
theorem dX6_isWithin_1 : decode cX6_isWithin 1 = .ok (.iload_n 1, 1) := by decide +kernel
theorem dX6_isWithin_2 : decode cX6_isWithin 2 = .ok (.if_icmp .lt 12, 3) := by decide +kernel
theorem dX6_isWithin_5 : decode cX6_isWithin 5 = .ok (.iload_n 0, 1) := by decide +kernel
theorem dX6_isWithin_6 : decode cX6_isWithin 6 = .ok (.iload_n 2, 1) := by decide +kernel
theorem dX6_isWithin_7 : decode cX6_isWithin 7 = .ok (.if_icmp .gt 7, 3) := by decide +kernel
theorem dX6_isWithin_10 : decode cX6_isWithin 10 = .ok (.iconst 1, 1) := by decide +kernel
theorem dX6_isWithin_11 : decode cX6_isWithin 11 = .ok (.goto 4, 3) := by decide +kernel
theorem dX6_isWithin_14 : decode cX6_isWithin 14 = .ok (.iconst 0, 1) := by decide +kernel
theorem dX6_isWithin_15 : decode cX6_isWithin 15 = .ok (.ireturn, 1) := by decide +kernel
theorem dX6_isOnGrid_0 : decode cX6_isOnGrid 0 = .ok (.iload_n 0, 1) := by decide +kernel
theorem dX6_isOnGrid_1 : decode cX6_isOnGrid 1 = .ok (.ifCond .lt 23, 3) := by decide +kernel
theorem dX6_isOnGrid_4 : decode cX6_isOnGrid 4 = .ok (.iload_n 0, 1) := by decide +kernel
theorem dX6_isOnGrid_5 : decode cX6_isOnGrid 5 = .ok (.bipush 24, 2) := by decide +kernel
theorem dX6_isOnGrid_7 : decode cX6_isOnGrid 7 = .ok (.if_icmp .ge 17, 3) := by decide +kernel
theorem dX6_isOnGrid_10 : decode cX6_isOnGrid 10 = .ok (.iload_n 1, 1) := by decide +kernel
theorem dX6_isOnGrid_11 : decode cX6_isOnGrid 11 = .ok (.ifCond .lt 13, 3) := by decide +kernel
theorem dX6_isOnGrid_14 : decode cX6_isOnGrid 14 = .ok (.iload_n 1, 1) := by decide +kernel
theorem dX6_isOnGrid_15 : decode cX6_isOnGrid 15 = .ok (.bipush 40, 2) := by decide +kernel
theorem dX6_isOnGrid_17 : decode cX6_isOnGrid 17 = .ok (.if_icmp .ge 7, 3) := by decide +kernel
theorem dX6_isOnGrid_20 : decode cX6_isOnGrid 20 = .ok (.iconst 1, 1) := by decide +kernel
theorem dX6_isOnGrid_21 : decode cX6_isOnGrid 21 = .ok (.goto 4, 3) := by decide +kernel
theorem dX6_isOnGrid_24 : decode cX6_isOnGrid 24 = .ok (.iconst 0, 1) := by decide +kernel
theorem dX6_isOnGrid_25 : decode cX6_isOnGrid 25 = .ok (.ireturn, 1) := by decide +kernel
theorem dX6_placeNumbered_0 : decode cX6_placeNumbered 0 = .ok (.iload_n 1, 1) := by decide +kernel
theorem dX6_placeNumbered_1 : decode cX6_placeNumbered 1 = .ok (.ifCond .lt 29, 3) := by decide +kernel
theorem dX6_placeNumbered_4 : decode cX6_placeNumbered 4 = .ok (.iload_n 1, 1) := by decide +kernel
theorem dX6_placeNumbered_5 : decode cX6_placeNumbered 5 = .ok (.aload_n 0, 1) := by decide +kernel
theorem dX6_placeNumbered_6 : decode cX6_placeNumbered 6 = .ok (.getfield 34, 3) := by decide +kernel
theorem dX6_placeNumbered_9 : decode cX6_placeNumbered 9 = .ok (.if_icmp .ge 21, 3) := by decide +kernel
theorem dX6_placeNumbered_12 : decode cX6_placeNumbered 12 = .ok (.iload_n 1, 1) := by decide +kernel
theorem dX6_placeNumbered_13 : decode cX6_placeNumbered 13 = .ok (.aload_n 0, 1) := by decide +kernel
theorem dX6_placeNumbered_14 : decode cX6_placeNumbered 14 = .ok (.getfield 18, 3) := by decide +kernel
theorem dX6_placeNumbered_17 : decode cX6_placeNumbered 17 = .ok (.arraylength, 1) := by decide +kernel
theorem dX6_placeNumbered_18 : decode cX6_placeNumbered 18 = .ok (.if_icmp .ge 12, 3) := by decide +kernel
theorem dX6_placeNumbered_21 : decode cX6_placeNumbered 21 = .ok (.aload_n 0, 1) := by decide +kernel
theorem dX6_placeNumbered_22 : decode cX6_placeNumbered 22 = .ok (.getfield 18, 3) := by decide +kernel
theorem dX6_placeNumbered_25 : decode cX6_placeNumbered 25 = .ok (.iload_n 1, 1) := by decide +kernel
theorem dX6_placeNumbered_26 : decode cX6_placeNumbered 26 = .ok (.aaload, 1) := by decide +kernel
theorem dX6_placeNumbered_27 : decode cX6_placeNumbered 27 = .ok (.ifnonnull 13, 3) := by decide +kernel
theorem dX6_placeNumbered_30 : decode cX6_placeNumbered 30 = .ok (.new 115, 3) := by decide +kernel
theorem dX6_placeNumbered_33 : decode cX6_placeNumbered 33 = .ok (.dup, 1) := by decide +kernel
theorem dX6_placeNumbered_34 : decode cX6_placeNumbered 34 = .ok (.ldc 210, 2) := by decide +kernel
theorem dX6_placeNumbered_36 : decode cX6_placeNumbered 36 = .ok (.invokespecial 119, 3) := by decide +kernel
theorem dX6_placeNumbered_39 : decode cX6_placeNumbered 39 = .ok (.athrow, 1) := by decide +kernel
theorem dX6_placeNumbered_40 : decode cX6_placeNumbered 40 = .ok (.aload_n 0, 1) := by decide +kernel
theorem dX6_placeNumbered_41 : decode cX6_placeNumbered 41 = .ok (.getfield 18, 3) := by decide +kernel
theorem dX6_placeNumbered_44 : decode cX6_placeNumbered 44 = .ok (.iload_n 1, 1) := by decide +kernel
theorem dX6_placeNumbered_45 : decode cX6_placeNumbered 45 = .ok (.aaload, 1) := by decide +kernel
theorem dX6_placeNumbered_46 : decode cX6_placeNumbered 46 = .ok (.areturn, 1) := by decide +kernel
theorem dX6_sheetNumbered_0 : decode cX6_sheetNumbered 0 = .ok (.iload_n 1, 1) := by decide +kernel
theorem dX6_sheetNumbered_1 : decode cX6_sheetNumbered 1 = .ok (.ifCond .lt 29, 3) := by decide +kernel
theorem dX6_sheetNumbered_4 : decode cX6_sheetNumbered 4 = .ok (.iload_n 1, 1) := by decide +kernel
theorem dX6_sheetNumbered_5 : decode cX6_sheetNumbered 5 = .ok (.aload_n 0, 1) := by decide +kernel
theorem dX6_sheetNumbered_6 : decode cX6_sheetNumbered 6 = .ok (.getfield 38, 3) := by decide +kernel
theorem dX6_sheetNumbered_9 : decode cX6_sheetNumbered 9 = .ok (.if_icmp .ge 21, 3) := by decide +kernel
theorem dX6_sheetNumbered_12 : decode cX6_sheetNumbered 12 = .ok (.iload_n 1, 1) := by decide +kernel
theorem dX6_sheetNumbered_13 : decode cX6_sheetNumbered 13 = .ok (.aload_n 0, 1) := by decide +kernel
theorem dX6_sheetNumbered_14 : decode cX6_sheetNumbered 14 = .ok (.getfield 24, 3) := by decide +kernel
theorem dX6_sheetNumbered_17 : decode cX6_sheetNumbered 17 = .ok (.arraylength, 1) := by decide +kernel
theorem dX6_sheetNumbered_18 : decode cX6_sheetNumbered 18 = .ok (.if_icmp .ge 12, 3) := by decide +kernel
theorem dX6_sheetNumbered_21 : decode cX6_sheetNumbered 21 = .ok (.aload_n 0, 1) := by decide +kernel
theorem dX6_sheetNumbered_22 : decode cX6_sheetNumbered 22 = .ok (.getfield 24, 3) := by decide +kernel
theorem dX6_sheetNumbered_25 : decode cX6_sheetNumbered 25 = .ok (.iload_n 1, 1) := by decide +kernel
theorem dX6_sheetNumbered_26 : decode cX6_sheetNumbered 26 = .ok (.aaload, 1) := by decide +kernel
theorem dX6_sheetNumbered_27 : decode cX6_sheetNumbered 27 = .ok (.ifnonnull 13, 3) := by decide +kernel
theorem dX6_sheetNumbered_30 : decode cX6_sheetNumbered 30 = .ok (.new 115, 3) := by decide +kernel
theorem dX6_sheetNumbered_33 : decode cX6_sheetNumbered 33 = .ok (.dup, 1) := by decide +kernel
theorem dX6_sheetNumbered_34 : decode cX6_sheetNumbered 34 = .ok (.ldc 212, 2) := by decide +kernel
theorem dX6_sheetNumbered_36 : decode cX6_sheetNumbered 36 = .ok (.invokespecial 119, 3) := by decide +kernel
theorem dX6_sheetNumbered_39 : decode cX6_sheetNumbered 39 = .ok (.athrow, 1) := by decide +kernel
theorem dX6_sheetNumbered_40 : decode cX6_sheetNumbered 40 = .ok (.aload_n 0, 1) := by decide +kernel
theorem dX6_sheetNumbered_41 : decode cX6_sheetNumbered 41 = .ok (.getfield 24, 3) := by decide +kernel
theorem dX6_sheetNumbered_44 : decode cX6_sheetNumbered 44 = .ok (.iload_n 1, 1) := by decide +kernel
theorem dX6_sheetNumbered_45 : decode cX6_sheetNumbered 45 = .ok (.aaload, 1) := by decide +kernel
theorem dX6_sheetNumbered_46 : decode cX6_sheetNumbered 46 = .ok (.areturn, 1) := by decide +kernel
theorem dX6_editionNumbered_0 : decode cX6_editionNumbered 0 = .ok (.iload_n 1, 1) := by decide +kernel
theorem dX6_editionNumbered_1 : decode cX6_editionNumbered 1 = .ok (.ifCond .lt 29, 3) := by decide +kernel
theorem dX6_editionNumbered_4 : decode cX6_editionNumbered 4 = .ok (.iload_n 1, 1) := by decide +kernel
theorem dX6_editionNumbered_5 : decode cX6_editionNumbered 5 = .ok (.aload_n 0, 1) := by decide +kernel
theorem dX6_editionNumbered_6 : decode cX6_editionNumbered 6 = .ok (.getfield 41, 3) := by decide +kernel
theorem dX6_editionNumbered_9 : decode cX6_editionNumbered 9 = .ok (.if_icmp .ge 21, 3) := by decide +kernel
theorem dX6_editionNumbered_12 : decode cX6_editionNumbered 12 = .ok (.iload_n 1, 1) := by decide +kernel
theorem dX6_editionNumbered_13 : decode cX6_editionNumbered 13 = .ok (.aload_n 0, 1) := by decide +kernel
theorem dX6_editionNumbered_14 : decode cX6_editionNumbered 14 = .ok (.getfield 30, 3) := by decide +kernel
theorem dX6_editionNumbered_17 : decode cX6_editionNumbered 17 = .ok (.arraylength, 1) := by decide +kernel
theorem dX6_editionNumbered_18 : decode cX6_editionNumbered 18 = .ok (.if_icmp .ge 12, 3) := by decide +kernel
theorem dX6_editionNumbered_21 : decode cX6_editionNumbered 21 = .ok (.aload_n 0, 1) := by decide +kernel
theorem dX6_editionNumbered_22 : decode cX6_editionNumbered 22 = .ok (.getfield 30, 3) := by decide +kernel
theorem dX6_editionNumbered_25 : decode cX6_editionNumbered 25 = .ok (.iload_n 1, 1) := by decide +kernel
theorem dX6_editionNumbered_26 : decode cX6_editionNumbered 26 = .ok (.aaload, 1) := by decide +kernel
theorem dX6_editionNumbered_27 : decode cX6_editionNumbered 27 = .ok (.ifnonnull 13, 3) := by decide +kernel
theorem dX6_editionNumbered_30 : decode cX6_editionNumbered 30 = .ok (.new 115, 3) := by decide +kernel
theorem dX6_editionNumbered_33 : decode cX6_editionNumbered 33 = .ok (.dup, 1) := by decide +kernel
theorem dX6_editionNumbered_34 : decode cX6_editionNumbered 34 = .ok (.ldc 214, 2) := by decide +kernel
theorem dX6_editionNumbered_36 : decode cX6_editionNumbered 36 = .ok (.invokespecial 119, 3) := by decide +kernel
theorem dX6_editionNumbered_39 : decode cX6_editionNumbered 39 = .ok (.athrow, 1) := by decide +kernel
theorem dX6_editionNumbered_40 : decode cX6_editionNumbered 40 = .ok (.aload_n 0, 1) := by decide +kernel
theorem dX6_editionNumbered_41 : decode cX6_editionNumbered 41 = .ok (.getfield 30, 3) := by decide +kernel
theorem dX6_editionNumbered_44 : decode cX6_editionNumbered 44 = .ok (.iload_n 1, 1) := by decide +kernel
theorem dX6_editionNumbered_45 : decode cX6_editionNumbered 45 = .ok (.aaload, 1) := by decide +kernel
theorem dX6_editionNumbered_46 : decode cX6_editionNumbered 46 = .ok (.areturn, 1) := by decide +kernel
theorem dX6_spotOn_0 : decode cX6_spotOn 0 = .ok (.aload_n 0, 1) := by decide +kernel
theorem dX6_spotOn_1 : decode cX6_spotOn 1 = .ok (.iload_n 1, 1) := by decide +kernel
theorem dX6_spotOn_2 : decode cX6_spotOn 2 = .ok (.invokevirtual 163, 3) := by decide +kernel
theorem dX6_spotOn_5 : decode cX6_spotOn 5 = .ok (.iload_n 2, 1) := by decide +kernel
theorem dX6_spotOn_6 : decode cX6_spotOn 6 = .ok (.invokevirtual 216, 3) := by decide +kernel
theorem dX6_spotOn_9 : decode cX6_spotOn 9 = .ok (.astore_n 3, 1) := by decide +kernel
theorem dX6_spotOn_10 : decode cX6_spotOn 10 = .ok (.aload_n 3, 1) := by decide +kernel
theorem dX6_spotOn_11 : decode cX6_spotOn 11 = .ok (.ifnonnull 13, 3) := by decide +kernel
theorem dX6_spotOn_14 : decode cX6_spotOn 14 = .ok (.new 115, 3) := by decide +kernel
theorem dX6_spotOn_17 : decode cX6_spotOn 17 = .ok (.dup, 1) := by decide +kernel
theorem dX6_spotOn_18 : decode cX6_spotOn 18 = .ok (.ldc 210, 2) := by decide +kernel
theorem dX6_spotOn_20 : decode cX6_spotOn 20 = .ok (.invokespecial 119, 3) := by decide +kernel
theorem dX6_spotOn_23 : decode cX6_spotOn 23 = .ok (.athrow, 1) := by decide +kernel
theorem dX6_spotOn_24 : decode cX6_spotOn 24 = .ok (.aload_n 3, 1) := by decide +kernel
theorem dX6_spotOn_25 : decode cX6_spotOn 25 = .ok (.areturn, 1) := by decide +kernel
theorem dX6_showOnAllSheets_0 : decode cX6_showOnAllSheets 0 = .ok (.iconst 0, 1) := by decide +kernel
theorem dX6_showOnAllSheets_1 : decode cX6_showOnAllSheets 1 = .ok (.istore_n 2, 1) := by decide +kernel
theorem dX6_showOnAllSheets_2 : decode cX6_showOnAllSheets 2 = .ok (.iload_n 2, 1) := by decide +kernel
theorem dX6_showOnAllSheets_3 : decode cX6_showOnAllSheets 3 = .ok (.aload_n 0, 1) := by decide +kernel
theorem dX6_showOnAllSheets_4 : decode cX6_showOnAllSheets 4 = .ok (.getfield 38, 3) := by decide +kernel
theorem dX6_showOnAllSheets_7 : decode cX6_showOnAllSheets 7 = .ok (.if_icmp .ge 42, 3) := by decide +kernel
theorem dX6_showOnAllSheets_10 : decode cX6_showOnAllSheets 10 = .ok (.iload_n 2, 1) := by decide +kernel
theorem dX6_showOnAllSheets_11 : decode cX6_showOnAllSheets 11 = .ok (.aload_n 0, 1) := by decide +kernel
theorem dX6_showOnAllSheets_12 : decode cX6_showOnAllSheets 12 = .ok (.getfield 24, 3) := by decide +kernel
theorem dX6_showOnAllSheets_15 : decode cX6_showOnAllSheets 15 = .ok (.arraylength, 1) := by decide +kernel
theorem dX6_showOnAllSheets_16 : decode cX6_showOnAllSheets 16 = .ok (.if_icmp .ge 33, 3) := by decide +kernel
theorem dX6_showOnAllSheets_19 : decode cX6_showOnAllSheets 19 = .ok (.aload_n 0, 1) := by decide +kernel
theorem dX6_showOnAllSheets_20 : decode cX6_showOnAllSheets 20 = .ok (.getfield 24, 3) := by decide +kernel
theorem dX6_showOnAllSheets_23 : decode cX6_showOnAllSheets 23 = .ok (.iload_n 2, 1) := by decide +kernel
theorem dX6_showOnAllSheets_24 : decode cX6_showOnAllSheets 24 = .ok (.aaload, 1) := by decide +kernel
theorem dX6_showOnAllSheets_25 : decode cX6_showOnAllSheets 25 = .ok (.astore_n 3, 1) := by decide +kernel
theorem dX6_showOnAllSheets_26 : decode cX6_showOnAllSheets 26 = .ok (.aload_n 3, 1) := by decide +kernel
theorem dX6_showOnAllSheets_27 : decode cX6_showOnAllSheets 27 = .ok (.ifnull 16, 3) := by decide +kernel
theorem dX6_showOnAllSheets_30 : decode cX6_showOnAllSheets 30 = .ok (.aload_n 3, 1) := by decide +kernel
theorem dX6_showOnAllSheets_31 : decode cX6_showOnAllSheets 31 = .ok (.aload_n 1, 1) := by decide +kernel
theorem dX6_showOnAllSheets_32 : decode cX6_showOnAllSheets 32 = .ok (.invokevirtual 142, 3) := by decide +kernel
theorem dX6_showOnAllSheets_35 : decode cX6_showOnAllSheets 35 = .ok (.aload_n 3, 1) := by decide +kernel
theorem dX6_showOnAllSheets_36 : decode cX6_showOnAllSheets 36 = .ok (.aload_n 0, 1) := by decide +kernel
theorem dX6_showOnAllSheets_37 : decode cX6_showOnAllSheets 37 = .ok (.getfield 44, 3) := by decide +kernel
theorem dX6_showOnAllSheets_40 : decode cX6_showOnAllSheets 40 = .ok (.invokevirtual 145, 3) := by decide +kernel
theorem dX6_showOnAllSheets_43 : decode cX6_showOnAllSheets 43 = .ok (.iinc 2 1, 3) := by decide +kernel
theorem dX6_showOnAllSheets_46 : decode cX6_showOnAllSheets 46 = .ok (.goto (-44), 3) := by decide +kernel
theorem dX6_showOnAllSheets_49 : decode cX6_showOnAllSheets 49 = .ok (.return_, 1) := by decide +kernel
theorem dX6_placeAllSheetsAnew_0 : decode cX6_placeAllSheetsAnew 0 = .ok (.iconst 0, 1) := by decide +kernel
theorem dX6_placeAllSheetsAnew_1 : decode cX6_placeAllSheetsAnew 1 = .ok (.istore_n 2, 1) := by decide +kernel
theorem dX6_placeAllSheetsAnew_2 : decode cX6_placeAllSheetsAnew 2 = .ok (.iconst 0, 1) := by decide +kernel
theorem dX6_placeAllSheetsAnew_3 : decode cX6_placeAllSheetsAnew 3 = .ok (.istore_n 3, 1) := by decide +kernel
theorem dX6_placeAllSheetsAnew_4 : decode cX6_placeAllSheetsAnew 4 = .ok (.iload_n 3, 1) := by decide +kernel
theorem dX6_placeAllSheetsAnew_5 : decode cX6_placeAllSheetsAnew 5 = .ok (.aload_n 0, 1) := by decide +kernel
theorem dX6_placeAllSheetsAnew_6 : decode cX6_placeAllSheetsAnew 6 = .ok (.getfield 38, 3) := by decide +kernel
theorem dX6_placeAllSheetsAnew_9 : decode cX6_placeAllSheetsAnew 9 = .ok (.if_icmp .ge 49, 3) := by decide +kernel
theorem dX6_placeAllSheetsAnew_12 : decode cX6_placeAllSheetsAnew 12 = .ok (.iload_n 3, 1) := by decide +kernel
theorem dX6_placeAllSheetsAnew_13 : decode cX6_placeAllSheetsAnew 13 = .ok (.aload_n 0, 1) := by decide +kernel
theorem dX6_placeAllSheetsAnew_14 : decode cX6_placeAllSheetsAnew 14 = .ok (.getfield 24, 3) := by decide +kernel
theorem dX6_placeAllSheetsAnew_17 : decode cX6_placeAllSheetsAnew 17 = .ok (.arraylength, 1) := by decide +kernel
theorem dX6_placeAllSheetsAnew_18 : decode cX6_placeAllSheetsAnew 18 = .ok (.if_icmp .ge 40, 3) := by decide +kernel
theorem dX6_placeAllSheetsAnew_21 : decode cX6_placeAllSheetsAnew 21 = .ok (.aload_n 0, 1) := by decide +kernel
theorem dX6_placeAllSheetsAnew_22 : decode cX6_placeAllSheetsAnew 22 = .ok (.getfield 24, 3) := by decide +kernel
theorem dX6_placeAllSheetsAnew_25 : decode cX6_placeAllSheetsAnew 25 = .ok (.iload_n 3, 1) := by decide +kernel
theorem dX6_placeAllSheetsAnew_26 : decode cX6_placeAllSheetsAnew 26 = .ok (.aaload, 1) := by decide +kernel
theorem dX6_placeAllSheetsAnew_27 : decode cX6_placeAllSheetsAnew 27 = .ok (.astore 4, 2) := by decide +kernel
theorem dX6_placeAllSheetsAnew_29 : decode cX6_placeAllSheetsAnew 29 = .ok (.aload 4, 2) := by decide +kernel
theorem dX6_placeAllSheetsAnew_31 : decode cX6_placeAllSheetsAnew 31 = .ok (.ifnull 21, 3) := by decide +kernel
theorem dX6_placeAllSheetsAnew_34 : decode cX6_placeAllSheetsAnew 34 = .ok (.aload 4, 2) := by decide +kernel
theorem dX6_placeAllSheetsAnew_36 : decode cX6_placeAllSheetsAnew 36 = .ok (.aload_n 0, 1) := by decide +kernel
theorem dX6_placeAllSheetsAnew_37 : decode cX6_placeAllSheetsAnew 37 = .ok (.getfield 44, 3) := by decide +kernel
theorem dX6_placeAllSheetsAnew_40 : decode cX6_placeAllSheetsAnew 40 = .ok (.invokevirtual 145, 3) := by decide +kernel
theorem dX6_placeAllSheetsAnew_43 : decode cX6_placeAllSheetsAnew 43 = .ok (.iload_n 2, 1) := by decide +kernel
theorem dX6_placeAllSheetsAnew_44 : decode cX6_placeAllSheetsAnew 44 = .ok (.aload 4, 2) := by decide +kernel
theorem dX6_placeAllSheetsAnew_46 : decode cX6_placeAllSheetsAnew 46 = .ok (.iload_n 1, 1) := by decide +kernel
theorem dX6_placeAllSheetsAnew_47 : decode cX6_placeAllSheetsAnew 47 = .ok (.invokevirtual 220, 3) := by decide +kernel
theorem dX6_placeAllSheetsAnew_50 : decode cX6_placeAllSheetsAnew 50 = .ok (.iadd, 1) := by decide +kernel
theorem dX6_placeAllSheetsAnew_51 : decode cX6_placeAllSheetsAnew 51 = .ok (.istore_n 2, 1) := by decide +kernel
theorem dX6_placeAllSheetsAnew_52 : decode cX6_placeAllSheetsAnew 52 = .ok (.iinc 3 1, 3) := by decide +kernel
theorem dX6_placeAllSheetsAnew_55 : decode cX6_placeAllSheetsAnew 55 = .ok (.goto (-51), 3) := by decide +kernel
theorem dX6_placeAllSheetsAnew_58 : decode cX6_placeAllSheetsAnew 58 = .ok (.iload_n 2, 1) := by decide +kernel
theorem dX6_placeAllSheetsAnew_59 : decode cX6_placeAllSheetsAnew 59 = .ok (.ireturn, 1) := by decide +kernel
theorem dX7_init_0 : decode cX7_init 0 = .ok (.aload_n 0, 1) := by decide +kernel
theorem dX7_init_1 : decode cX7_init 1 = .ok (.invokespecial 1, 3) := by decide +kernel
theorem dX7_init_4 : decode cX7_init 4 = .ok (.aload_n 0, 1) := by decide +kernel
theorem dX7_init_5 : decode cX7_init 5 = .ok (.bipush 8, 2) := by decide +kernel
theorem dX7_init_7 : decode cX7_init 7 = .ok (.newarray .char, 2) := by decide +kernel
theorem dX7_init_9 : decode cX7_init 9 = .ok (.putfield 7, 3) := by decide +kernel
theorem dX7_init_12 : decode cX7_init 12 = .ok (.aload_n 0, 1) := by decide +kernel
theorem dX7_init_13 : decode cX7_init 13 = .ok (.bipush 14, 2) := by decide +kernel
theorem dX7_init_15 : decode cX7_init 15 = .ok (.newarray .int, 2) := by decide +kernel
theorem dX7_init_17 : decode cX7_init 17 = .ok (.putfield 13, 3) := by decide +kernel
theorem dX7_init_20 : decode cX7_init 20 = .ok (.aload_n 0, 1) := by decide +kernel
theorem dX7_init_21 : decode cX7_init 21 = .ok (.bipush 14, 2) := by decide +kernel
theorem dX7_init_23 : decode cX7_init 23 = .ok (.newarray .int, 2) := by decide +kernel
theorem dX7_init_25 : decode cX7_init 25 = .ok (.putfield 17, 3) := by decide +kernel
theorem dX7_init_28 : decode cX7_init 28 = .ok (.aload_n 0, 1) := by decide +kernel
theorem dX7_init_29 : decode cX7_init 29 = .ok (.bipush 14, 2) := by decide +kernel
theorem dX7_init_31 : decode cX7_init 31 = .ok (.newarray .int, 2) := by decide +kernel
theorem dX7_init_33 : decode cX7_init 33 = .ok (.putfield 20, 3) := by decide +kernel
theorem dX7_init_36 : decode cX7_init 36 = .ok (.aload_n 0, 1) := by decide +kernel
theorem dX7_init_37 : decode cX7_init 37 = .ok (.bipush 14, 2) := by decide +kernel
theorem dX7_init_39 : decode cX7_init 39 = .ok (.newarray .int, 2) := by decide +kernel
theorem dX7_init_41 : decode cX7_init 41 = .ok (.putfield 23, 3) := by decide +kernel
theorem dX7_init_44 : decode cX7_init 44 = .ok (.aload_n 0, 1) := by decide +kernel
theorem dX7_init_45 : decode cX7_init 45 = .ok (.bipush 84, 2) := by decide +kernel
theorem dX7_init_47 : decode cX7_init 47 = .ok (.newarray .int, 2) := by decide +kernel
theorem dX7_init_49 : decode cX7_init 49 = .ok (.putfield 26, 3) := by decide +kernel
theorem dX7_init_52 : decode cX7_init 52 = .ok (.aload_n 0, 1) := by decide +kernel
theorem dX7_init_53 : decode cX7_init 53 = .ok (.bipush 84, 2) := by decide +kernel
theorem dX7_init_55 : decode cX7_init 55 = .ok (.newarray .int, 2) := by decide +kernel
theorem dX7_init_57 : decode cX7_init 57 = .ok (.putfield 29, 3) := by decide +kernel
theorem dX7_init_60 : decode cX7_init 60 = .ok (.aload_n 0, 1) := by decide +kernel
theorem dX7_init_61 : decode cX7_init 61 = .ok (.sipush 672, 3) := by decide +kernel
theorem dX7_init_64 : decode cX7_init 64 = .ok (.newarray .char, 2) := by decide +kernel
theorem dX7_init_66 : decode cX7_init 66 = .ok (.putfield 32, 3) := by decide +kernel
theorem dX7_init_69 : decode cX7_init 69 = .ok (.aload_n 0, 1) := by decide +kernel
theorem dX7_init_70 : decode cX7_init 70 = .ok (.iconst 4, 1) := by decide +kernel
theorem dX7_init_71 : decode cX7_init 71 = .ok (.newarray .int, 2) := by decide +kernel
theorem dX7_init_73 : decode cX7_init 73 = .ok (.putfield 35, 3) := by decide +kernel
theorem dX7_init_76 : decode cX7_init 76 = .ok (.aload_n 0, 1) := by decide +kernel
theorem dX7_init_77 : decode cX7_init 77 = .ok (.iconst 4, 1) := by decide +kernel
theorem dX7_init_78 : decode cX7_init 78 = .ok (.newarray .int, 2) := by decide +kernel
theorem dX7_init_80 : decode cX7_init 80 = .ok (.putfield 38, 3) := by decide +kernel
theorem dX7_init_83 : decode cX7_init 83 = .ok (.aload_n 0, 1) := by decide +kernel
theorem dX7_init_84 : decode cX7_init 84 = .ok (.iconst 4, 1) := by decide +kernel
theorem dX7_init_85 : decode cX7_init 85 = .ok (.newarray .int, 2) := by decide +kernel
theorem dX7_init_87 : decode cX7_init 87 = .ok (.putfield 41, 3) := by decide +kernel
theorem dX7_init_90 : decode cX7_init 90 = .ok (.aload_n 0, 1) := by decide +kernel
theorem dX7_init_91 : decode cX7_init 91 = .ok (.bipush 14, 2) := by decide +kernel
theorem dX7_init_93 : decode cX7_init 93 = .ok (.newarray .int, 2) := by decide +kernel
theorem dX7_init_95 : decode cX7_init 95 = .ok (.putfield 44, 3) := by decide +kernel
theorem dX7_init_98 : decode cX7_init 98 = .ok (.aload_n 0, 1) := by decide +kernel
theorem dX7_init_99 : decode cX7_init 99 = .ok (.bipush 14, 2) := by decide +kernel
theorem dX7_init_101 : decode cX7_init 101 = .ok (.newarray .int, 2) := by decide +kernel
theorem dX7_init_103 : decode cX7_init 103 = .ok (.putfield 47, 3) := by decide +kernel
theorem dX7_init_106 : decode cX7_init 106 = .ok (.aload_n 0, 1) := by decide +kernel
theorem dX7_init_107 : decode cX7_init 107 = .ok (.bipush 14, 2) := by decide +kernel
theorem dX7_init_109 : decode cX7_init 109 = .ok (.newarray .int, 2) := by decide +kernel
theorem dX7_init_111 : decode cX7_init 111 = .ok (.putfield 50, 3) := by decide +kernel
theorem dX7_init_114 : decode cX7_init 114 = .ok (.aload_n 0, 1) := by decide +kernel
theorem dX7_init_115 : decode cX7_init 115 = .ok (.sipush 960, 3) := by decide +kernel
theorem dX7_init_118 : decode cX7_init 118 = .ok (.newarray .char, 2) := by decide +kernel
theorem dX7_init_120 : decode cX7_init 120 = .ok (.putfield 53, 3) := by decide +kernel
theorem dX7_init_123 : decode cX7_init 123 = .ok (.aload_n 0, 1) := by decide +kernel
theorem dX7_init_124 : decode cX7_init 124 = .ok (.bipush 56, 2) := by decide +kernel
theorem dX7_init_126 : decode cX7_init 126 = .ok (.newarray .int, 2) := by decide +kernel
theorem dX7_init_128 : decode cX7_init 128 = .ok (.putfield 56, 3) := by decide +kernel
theorem dX7_init_131 : decode cX7_init 131 = .ok (.aload_n 0, 1) := by decide +kernel
theorem dX7_init_132 : decode cX7_init 132 = .ok (.iconst 4, 1) := by decide +kernel
theorem dX7_init_133 : decode cX7_init 133 = .ok (.newarray .int, 2) := by decide +kernel
theorem dX7_init_135 : decode cX7_init 135 = .ok (.putfield 59, 3) := by decide +kernel
theorem dX7_init_138 : decode cX7_init 138 = .ok (.aload_n 0, 1) := by decide +kernel
theorem dX7_init_139 : decode cX7_init 139 = .ok (.iconst 5, 1) := by decide +kernel
theorem dX7_init_140 : decode cX7_init 140 = .ok (.newarray .int, 2) := by decide +kernel
theorem dX7_init_142 : decode cX7_init 142 = .ok (.putfield 62, 3) := by decide +kernel
theorem dX7_init_145 : decode cX7_init 145 = .ok (.aload_n 0, 1) := by decide +kernel
theorem dX7_init_146 : decode cX7_init 146 = .ok (.iconst 5, 1) := by decide +kernel
theorem dX7_init_147 : decode cX7_init 147 = .ok (.newarray .int, 2) := by decide +kernel
theorem dX7_init_149 : decode cX7_init 149 = .ok (.putfield 65, 3) := by decide +kernel
theorem dX7_init_152 : decode cX7_init 152 = .ok (.aload_n 0, 1) := by decide +kernel
theorem dX7_init_153 : decode cX7_init 153 = .ok (.bipush 70, 2) := by decide +kernel
theorem dX7_init_155 : decode cX7_init 155 = .ok (.newarray .int, 2) := by decide +kernel
theorem dX7_init_157 : decode cX7_init 157 = .ok (.putfield 68, 3) := by decide +kernel
theorem dX7_init_160 : decode cX7_init 160 = .ok (.aload_n 0, 1) := by decide +kernel
theorem dX7_init_161 : decode cX7_init 161 = .ok (.sipush 280, 3) := by decide +kernel
theorem dX7_init_164 : decode cX7_init 164 = .ok (.newarray .int, 2) := by decide +kernel
theorem dX7_init_166 : decode cX7_init 166 = .ok (.putfield 71, 3) := by decide +kernel
theorem dX7_init_169 : decode cX7_init 169 = .ok (.return_, 1) := by decide +kernel
theorem dX7_thrown_0 : decode cX7_thrown 0 = .ok (.aload_n 0, 1) := by decide +kernel
theorem dX7_thrown_1 : decode cX7_thrown 1 = .ok (.getfield 74, 3) := by decide +kernel
theorem dX7_thrown_4 : decode cX7_thrown 4 = .ok (.ireturn, 1) := by decide +kernel
theorem dX7_in_0 : decode cX7_in 0 = .ok (.iload_n 0, 1) := by decide +kernel
theorem dX7_in_1 : decode cX7_in 1 = .ok (.iload_n 1, 1) := by decide +kernel
theorem dX7_in_2 : decode cX7_in 2 = .ok (.if_icmp .lt 12, 3) := by decide +kernel
theorem dX7_in_5 : decode cX7_in 5 = .ok (.iload_n 0, 1) := by decide +kernel
theorem dX7_in_6 : decode cX7_in 6 = .ok (.iload_n 2, 1) := by decide +kernel
theorem dX7_in_7 : decode cX7_in 7 = .ok (.if_icmp .gt 7, 3) := by decide +kernel
theorem dX7_in_10 : decode cX7_in 10 = .ok (.iconst 1, 1) := by decide +kernel
theorem dX7_in_11 : decode cX7_in 11 = .ok (.goto 4, 3) := by decide +kernel
theorem dX7_in_14 : decode cX7_in 14 = .ok (.iconst 0, 1) := by decide +kernel
theorem dX7_in_15 : decode cX7_in 15 = .ok (.ireturn, 1) := by decide +kernel
theorem dX7_goes_0 : decode cX7_goes 0 = .ok (.aload_n 0, 1) := by decide +kernel
theorem dX7_goes_1 : decode cX7_goes 1 = .ok (.iload_n 1, 1) := by decide +kernel
theorem dX7_goes_2 : decode cX7_goes 2 = .ok (.ifCond .ne 7, 3) := by decide +kernel
theorem dX7_goes_5 : decode cX7_goes 5 = .ok (.iconst 1, 1) := by decide +kernel
theorem dX7_goes_6 : decode cX7_goes 6 = .ok (.goto 20, 3) := by decide +kernel
theorem dX7_goes_9 : decode cX7_goes 9 = .ok (.iload_n 2, 1) := by decide +kernel
theorem dX7_goes_10 : decode cX7_goes 10 = .ok (.ifCond .ne 7, 3) := by decide +kernel
theorem dX7_goes_13 : decode cX7_goes 13 = .ok (.iconst 2, 1) := by decide +kernel
theorem dX7_goes_14 : decode cX7_goes 14 = .ok (.goto 12, 3) := by decide +kernel
theorem dX7_goes_17 : decode cX7_goes 17 = .ok (.iload_n 3, 1) := by decide +kernel
theorem dX7_goes_18 : decode cX7_goes 18 = .ok (.ifCond .ne 7, 3) := by decide +kernel
theorem dX7_goes_21 : decode cX7_goes 21 = .ok (.iconst 3, 1) := by decide +kernel
theorem dX7_goes_22 : decode cX7_goes 22 = .ok (.goto 4, 3) := by decide +kernel
theorem dX7_goes_25 : decode cX7_goes 25 = .ok (.iconst 0, 1) := by decide +kernel
theorem dX7_goes_26 : decode cX7_goes 26 = .ok (.putfield 74, 3) := by decide +kernel
theorem dX7_goes_29 : decode cX7_goes 29 = .ok (.aload_n 0, 1) := by decide +kernel
theorem dX7_goes_30 : decode cX7_goes 30 = .ok (.getfield 74, 3) := by decide +kernel
theorem dX7_goes_33 : decode cX7_goes 33 = .ok (.ifCond .ne 7, 3) := by decide +kernel
theorem dX7_goes_36 : decode cX7_goes 36 = .ok (.iconst 1, 1) := by decide +kernel
theorem dX7_goes_37 : decode cX7_goes 37 = .ok (.goto 4, 3) := by decide +kernel
theorem dX7_goes_40 : decode cX7_goes 40 = .ok (.iconst 0, 1) := by decide +kernel
theorem dX7_goes_41 : decode cX7_goes 41 = .ok (.ireturn, 1) := by decide +kernel
theorem dX7_isPlace_0 : decode cX7_isPlace 0 = .ok (.iload_n 1, 1) := by decide +kernel
theorem dX7_isPlace_1 : decode cX7_isPlace 1 = .ok (.iconst 0, 1) := by decide +kernel
theorem dX7_isPlace_2 : decode cX7_isPlace 2 = .ok (.aload_n 0, 1) := by decide +kernel
theorem dX7_isPlace_3 : decode cX7_isPlace 3 = .ok (.getfield 78, 3) := by decide +kernel
theorem dX7_isPlace_6 : decode cX7_isPlace 6 = .ok (.iconst 1, 1) := by decide +kernel
theorem dX7_isPlace_7 : decode cX7_isPlace 7 = .ok (.isub, 1) := by decide +kernel
theorem dX7_isPlace_8 : decode cX7_isPlace 8 = .ok (.invokestatic 81, 3) := by decide +kernel
theorem dX7_isPlace_11 : decode cX7_isPlace 11 = .ok (.ireturn, 1) := by decide +kernel
theorem dX7_isSheet_0 : decode cX7_isSheet 0 = .ok (.iload_n 1, 1) := by decide +kernel
theorem dX7_isSheet_1 : decode cX7_isSheet 1 = .ok (.iconst 0, 1) := by decide +kernel
theorem dX7_isSheet_2 : decode cX7_isSheet 2 = .ok (.aload_n 0, 1) := by decide +kernel
theorem dX7_isSheet_3 : decode cX7_isSheet 3 = .ok (.getfield 85, 3) := by decide +kernel
theorem dX7_isSheet_6 : decode cX7_isSheet 6 = .ok (.iconst 1, 1) := by decide +kernel
theorem dX7_isSheet_7 : decode cX7_isSheet 7 = .ok (.isub, 1) := by decide +kernel
theorem dX7_isSheet_8 : decode cX7_isSheet 8 = .ok (.invokestatic 81, 3) := by decide +kernel
theorem dX7_isSheet_11 : decode cX7_isSheet 11 = .ok (.ireturn, 1) := by decide +kernel
theorem dX7_letter_0 : decode cX7_letter 0 = .ok (.aload_n 0, 1) := by decide +kernel
theorem dX7_letter_1 : decode cX7_letter 1 = .ok (.iload_n 1, 1) := by decide +kernel
theorem dX7_letter_2 : decode cX7_letter 2 = .ok (.bipush 97, 2) := by decide +kernel
theorem dX7_letter_4 : decode cX7_letter 4 = .ok (.bipush 122, 2) := by decide +kernel
theorem dX7_letter_6 : decode cX7_letter 6 = .ok (.invokestatic 81, 3) := by decide +kernel
theorem dX7_letter_9 : decode cX7_letter 9 = .ok (.aload_n 0, 1) := by decide +kernel
theorem dX7_letter_10 : decode cX7_letter 10 = .ok (.getfield 88, 3) := by decide +kernel
theorem dX7_letter_13 : decode cX7_letter 13 = .ok (.bipush 8, 2) := by decide +kernel
theorem dX7_letter_15 : decode cX7_letter 15 = .ok (.if_icmp .ge 7, 3) := by decide +kernel
theorem dX7_letter_18 : decode cX7_letter 18 = .ok (.iconst 1, 1) := by decide +kernel
theorem dX7_letter_19 : decode cX7_letter 19 = .ok (.goto 4, 3) := by decide +kernel
theorem dX7_letter_22 : decode cX7_letter 22 = .ok (.iconst 0, 1) := by decide +kernel
theorem dX7_letter_23 : decode cX7_letter 23 = .ok (.iconst 1, 1) := by decide +kernel
theorem dX7_letter_24 : decode cX7_letter 24 = .ok (.invokevirtual 91, 3) := by decide +kernel
theorem dX7_letter_27 : decode cX7_letter 27 = .ok (.ifCond .ne 5, 3) := by decide +kernel
theorem dX7_letter_30 : decode cX7_letter 30 = .ok (.iconst 0, 1) := by decide +kernel
theorem dX7_letter_31 : decode cX7_letter 31 = .ok (.ireturn, 1) := by decide +kernel
theorem dX7_letter_32 : decode cX7_letter 32 = .ok (.aload_n 0, 1) := by decide +kernel
theorem dX7_letter_33 : decode cX7_letter 33 = .ok (.getfield 7, 3) := by decide +kernel
theorem dX7_letter_36 : decode cX7_letter 36 = .ok (.aload_n 0, 1) := by decide +kernel
theorem dX7_letter_37 : decode cX7_letter 37 = .ok (.getfield 88, 3) := by decide +kernel
theorem dX7_letter_40 : decode cX7_letter 40 = .ok (.iload_n 1, 1) := by decide +kernel
theorem dX7_letter_41 : decode cX7_letter 41 = .ok (.castore, 1) := by decide +kernel
theorem dX7_letter_42 : decode cX7_letter 42 = .ok (.aload_n 0, 1) := by decide +kernel
theorem dX7_letter_43 : decode cX7_letter 43 = .ok (.dup, 1) := by decide +kernel
theorem dX7_letter_44 : decode cX7_letter 44 = .ok (.getfield 88, 3) := by decide +kernel
theorem dX7_letter_47 : decode cX7_letter 47 = .ok (.iconst 1, 1) := by decide +kernel
theorem dX7_letter_48 : decode cX7_letter 48 = .ok (.iadd, 1) := by decide +kernel
theorem dX7_letter_49 : decode cX7_letter 49 = .ok (.putfield 88, 3) := by decide +kernel
theorem dX7_letter_52 : decode cX7_letter 52 = .ok (.aload_n 0, 1) := by decide +kernel
theorem dX7_letter_53 : decode cX7_letter 53 = .ok (.getfield 88, 3) := by decide +kernel
theorem dX7_letter_56 : decode cX7_letter 56 = .ok (.ireturn, 1) := by decide +kernel
theorem dX7_place_0 : decode cX7_place 0 = .ok (.aload_n 0, 1) := by decide +kernel
theorem dX7_place_1 : decode cX7_place 1 = .ok (.iload_n 1, 1) := by decide +kernel
theorem dX7_place_2 : decode cX7_place 2 = .ok (.sipush (-180), 3) := by decide +kernel
theorem dX7_place_5 : decode cX7_place 5 = .ok (.sipush 179, 3) := by decide +kernel
theorem dX7_place_8 : decode cX7_place 8 = .ok (.invokestatic 81, 3) := by decide +kernel
theorem dX7_place_11 : decode cX7_place 11 = .ok (.ifCond .eq 27, 3) := by decide +kernel
theorem dX7_place_14 : decode cX7_place 14 = .ok (.iload_n 2, 1) := by decide +kernel
theorem dX7_place_15 : decode cX7_place 15 = .ok (.bipush (-60), 2) := by decide +kernel
theorem dX7_place_17 : decode cX7_place 17 = .ok (.bipush 60, 2) := by decide +kernel
theorem dX7_place_19 : decode cX7_place 19 = .ok (.invokestatic 81, 3) := by decide +kernel
theorem dX7_place_22 : decode cX7_place 22 = .ok (.ifCond .eq 16, 3) := by decide +kernel
theorem dX7_place_25 : decode cX7_place 25 = .ok (.iload_n 3, 1) := by decide +kernel
theorem dX7_place_26 : decode cX7_place 26 = .ok (.iconst 1, 1) := by decide +kernel
theorem dX7_place_27 : decode cX7_place 27 = .ok (.iconst 5, 1) := by decide +kernel
theorem dX7_place_28 : decode cX7_place 28 = .ok (.invokestatic 81, 3) := by decide +kernel
theorem dX7_place_31 : decode cX7_place 31 = .ok (.ifCond .eq 7, 3) := by decide +kernel
theorem dX7_place_34 : decode cX7_place 34 = .ok (.iconst 1, 1) := by decide +kernel
theorem dX7_place_35 : decode cX7_place 35 = .ok (.goto 4, 3) := by decide +kernel
theorem dX7_place_38 : decode cX7_place 38 = .ok (.iconst 0, 1) := by decide +kernel
theorem dX7_place_39 : decode cX7_place 39 = .ok (.aload_n 0, 1) := by decide +kernel
theorem dX7_place_40 : decode cX7_place 40 = .ok (.getfield 78, 3) := by decide +kernel
theorem dX7_place_43 : decode cX7_place 43 = .ok (.bipush 14, 2) := by decide +kernel
theorem dX7_place_45 : decode cX7_place 45 = .ok (.if_icmp .ge 7, 3) := by decide +kernel
theorem dX7_place_48 : decode cX7_place 48 = .ok (.iconst 1, 1) := by decide +kernel
theorem dX7_place_49 : decode cX7_place 49 = .ok (.goto 4, 3) := by decide +kernel
theorem dX7_place_52 : decode cX7_place 52 = .ok (.iconst 0, 1) := by decide +kernel
theorem dX7_place_53 : decode cX7_place 53 = .ok (.iconst 1, 1) := by decide +kernel
theorem dX7_place_54 : decode cX7_place 54 = .ok (.invokevirtual 91, 3) := by decide +kernel
theorem dX7_place_57 : decode cX7_place 57 = .ok (.ifCond .ne 5, 3) := by decide +kernel
theorem dX7_place_60 : decode cX7_place 60 = .ok (.iconst 0, 1) := by decide +kernel
theorem dX7_place_61 : decode cX7_place 61 = .ok (.ireturn, 1) := by decide +kernel
theorem dX7_place_62 : decode cX7_place 62 = .ok (.aload_n 0, 1) := by decide +kernel
theorem dX7_place_63 : decode cX7_place 63 = .ok (.getfield 13, 3) := by decide +kernel
theorem dX7_place_66 : decode cX7_place 66 = .ok (.aload_n 0, 1) := by decide +kernel
theorem dX7_place_67 : decode cX7_place 67 = .ok (.getfield 78, 3) := by decide +kernel
theorem dX7_place_70 : decode cX7_place 70 = .ok (.iload_n 1, 1) := by decide +kernel
theorem dX7_place_71 : decode cX7_place 71 = .ok (.iastore, 1) := by decide +kernel
theorem dX7_place_72 : decode cX7_place 72 = .ok (.aload_n 0, 1) := by decide +kernel
theorem dX7_place_73 : decode cX7_place 73 = .ok (.getfield 17, 3) := by decide +kernel
theorem dX7_place_76 : decode cX7_place 76 = .ok (.aload_n 0, 1) := by decide +kernel
theorem dX7_place_77 : decode cX7_place 77 = .ok (.getfield 78, 3) := by decide +kernel
theorem dX7_place_80 : decode cX7_place 80 = .ok (.iload_n 2, 1) := by decide +kernel
theorem dX7_place_81 : decode cX7_place 81 = .ok (.iastore, 1) := by decide +kernel
theorem dX7_place_82 : decode cX7_place 82 = .ok (.aload_n 0, 1) := by decide +kernel
theorem dX7_place_83 : decode cX7_place 83 = .ok (.getfield 20, 3) := by decide +kernel
theorem dX7_place_86 : decode cX7_place 86 = .ok (.aload_n 0, 1) := by decide +kernel
theorem dX7_place_87 : decode cX7_place 87 = .ok (.getfield 78, 3) := by decide +kernel
theorem dX7_place_90 : decode cX7_place 90 = .ok (.iload_n 3, 1) := by decide +kernel
theorem dX7_place_91 : decode cX7_place 91 = .ok (.iastore, 1) := by decide +kernel
theorem dX7_place_92 : decode cX7_place 92 = .ok (.aload_n 0, 1) := by decide +kernel
theorem dX7_place_93 : decode cX7_place 93 = .ok (.dup, 1) := by decide +kernel
theorem dX7_place_94 : decode cX7_place 94 = .ok (.getfield 78, 3) := by decide +kernel
theorem dX7_place_97 : decode cX7_place 97 = .ok (.iconst 1, 1) := by decide +kernel
theorem dX7_place_98 : decode cX7_place 98 = .ok (.iadd, 1) := by decide +kernel
theorem dX7_place_99 : decode cX7_place 99 = .ok (.putfield 78, 3) := by decide +kernel
theorem dX7_place_102 : decode cX7_place 102 = .ok (.aload_n 0, 1) := by decide +kernel
theorem dX7_place_103 : decode cX7_place 103 = .ok (.getfield 78, 3) := by decide +kernel
theorem dX7_place_106 : decode cX7_place 106 = .ok (.iconst 1, 1) := by decide +kernel
theorem dX7_place_107 : decode cX7_place 107 = .ok (.isub, 1) := by decide +kernel
theorem dX7_place_108 : decode cX7_place 108 = .ok (.ireturn, 1) := by decide +kernel
theorem dX7_nameOn_0 : decode cX7_nameOn 0 = .ok (.iconst (-1), 1) := by decide +kernel
theorem dX7_nameOn_1 : decode cX7_nameOn 1 = .ok (.istore_n 3, 1) := by decide +kernel
theorem dX7_nameOn_2 : decode cX7_nameOn 2 = .ok (.bipush 6, 2) := by decide +kernel
theorem dX7_nameOn_4 : decode cX7_nameOn 4 = .ok (.iload_n 1, 1) := by decide +kernel
theorem dX7_nameOn_5 : decode cX7_nameOn 5 = .ok (.imul, 1) := by decide +kernel
theorem dX7_nameOn_6 : decode cX7_nameOn 6 = .ok (.istore 4, 2) := by decide +kernel
theorem dX7_nameOn_8 : decode cX7_nameOn 8 = .ok (.iload 4, 2) := by decide +kernel
theorem dX7_nameOn_10 : decode cX7_nameOn 10 = .ok (.bipush 6, 2) := by decide +kernel
theorem dX7_nameOn_12 : decode cX7_nameOn 12 = .ok (.iload_n 1, 1) := by decide +kernel
theorem dX7_nameOn_13 : decode cX7_nameOn 13 = .ok (.imul, 1) := by decide +kernel
theorem dX7_nameOn_14 : decode cX7_nameOn 14 = .ok (.aload_n 0, 1) := by decide +kernel
theorem dX7_nameOn_15 : decode cX7_nameOn 15 = .ok (.getfield 23, 3) := by decide +kernel
theorem dX7_nameOn_18 : decode cX7_nameOn 18 = .ok (.iload_n 1, 1) := by decide +kernel
theorem dX7_nameOn_19 : decode cX7_nameOn 19 = .ok (.iaload, 1) := by decide +kernel
theorem dX7_nameOn_20 : decode cX7_nameOn 20 = .ok (.iadd, 1) := by decide +kernel
theorem dX7_nameOn_21 : decode cX7_nameOn 21 = .ok (.if_icmp .ge 27, 3) := by decide +kernel
theorem dX7_nameOn_24 : decode cX7_nameOn 24 = .ok (.aload_n 0, 1) := by decide +kernel
theorem dX7_nameOn_25 : decode cX7_nameOn 25 = .ok (.getfield 26, 3) := by decide +kernel
theorem dX7_nameOn_28 : decode cX7_nameOn 28 = .ok (.iload 4, 2) := by decide +kernel
theorem dX7_nameOn_30 : decode cX7_nameOn 30 = .ok (.iaload, 1) := by decide +kernel
theorem dX7_nameOn_31 : decode cX7_nameOn 31 = .ok (.iload_n 2, 1) := by decide +kernel
theorem dX7_nameOn_32 : decode cX7_nameOn 32 = .ok (.if_icmp .gt 8, 3) := by decide +kernel
theorem dX7_nameOn_35 : decode cX7_nameOn 35 = .ok (.iload 4, 2) := by decide +kernel
theorem dX7_nameOn_37 : decode cX7_nameOn 37 = .ok (.goto 4, 3) := by decide +kernel
theorem dX7_nameOn_40 : decode cX7_nameOn 40 = .ok (.iload_n 3, 1) := by decide +kernel
theorem dX7_nameOn_41 : decode cX7_nameOn 41 = .ok (.istore_n 3, 1) := by decide +kernel
theorem dX7_nameOn_42 : decode cX7_nameOn 42 = .ok (.iinc 4 1, 3) := by decide +kernel
theorem dX7_nameOn_45 : decode cX7_nameOn 45 = .ok (.goto (-37), 3) := by decide +kernel
theorem dX7_nameOn_48 : decode cX7_nameOn 48 = .ok (.iload_n 3, 1) := by decide +kernel
theorem dX7_nameOn_49 : decode cX7_nameOn 49 = .ok (.ireturn, 1) := by decide +kernel
theorem dX7_name_0 : decode cX7_name 0 = .ok (.aload_n 0, 1) := by decide +kernel
theorem dX7_name_1 : decode cX7_name 1 = .ok (.iload_n 1, 1) := by decide +kernel
theorem dX7_name_2 : decode cX7_name 2 = .ok (.invokevirtual 95, 3) := by decide +kernel
theorem dX7_name_5 : decode cX7_name 5 = .ok (.istore_n 2, 1) := by decide +kernel
theorem dX7_name_6 : decode cX7_name 6 = .ok (.aload_n 0, 1) := by decide +kernel
theorem dX7_name_7 : decode cX7_name 7 = .ok (.iload_n 2, 1) := by decide +kernel
theorem dX7_name_8 : decode cX7_name 8 = .ok (.aload_n 0, 1) := by decide +kernel
theorem dX7_name_9 : decode cX7_name 9 = .ok (.getfield 88, 3) := by decide +kernel
theorem dX7_name_12 : decode cX7_name 12 = .ok (.ifCond .le 26, 3) := by decide +kernel
theorem dX7_name_15 : decode cX7_name 15 = .ok (.aload_n 0, 1) := by decide +kernel
theorem dX7_name_16 : decode cX7_name 16 = .ok (.getfield 23, 3) := by decide +kernel
theorem dX7_name_19 : decode cX7_name 19 = .ok (.iload_n 2, 1) := by decide +kernel
theorem dX7_name_20 : decode cX7_name 20 = .ok (.ifCond .eq 7, 3) := by decide +kernel
theorem dX7_name_23 : decode cX7_name 23 = .ok (.iload_n 1, 1) := by decide +kernel
theorem dX7_name_24 : decode cX7_name 24 = .ok (.goto 4, 3) := by decide +kernel
theorem dX7_name_27 : decode cX7_name 27 = .ok (.iconst 0, 1) := by decide +kernel
theorem dX7_name_28 : decode cX7_name 28 = .ok (.iaload, 1) := by decide +kernel
theorem dX7_name_29 : decode cX7_name 29 = .ok (.bipush 6, 2) := by decide +kernel
theorem dX7_name_31 : decode cX7_name 31 = .ok (.if_icmp .ge 7, 3) := by decide +kernel
theorem dX7_name_34 : decode cX7_name 34 = .ok (.iconst 1, 1) := by decide +kernel
theorem dX7_name_35 : decode cX7_name 35 = .ok (.goto 4, 3) := by decide +kernel
theorem dX7_name_38 : decode cX7_name 38 = .ok (.iconst 0, 1) := by decide +kernel
theorem dX7_name_39 : decode cX7_name 39 = .ok (.iconst 1, 1) := by decide +kernel
theorem dX7_name_40 : decode cX7_name 40 = .ok (.invokevirtual 91, 3) := by decide +kernel
theorem dX7_name_43 : decode cX7_name 43 = .ok (.ifCond .ne 5, 3) := by decide +kernel
theorem dX7_name_46 : decode cX7_name 46 = .ok (.iconst 0, 1) := by decide +kernel
theorem dX7_name_47 : decode cX7_name 47 = .ok (.ireturn, 1) := by decide +kernel
theorem dX7_name_48 : decode cX7_name 48 = .ok (.iconst 0, 1) := by decide +kernel
theorem dX7_name_49 : decode cX7_name 49 = .ok (.istore_n 3, 1) := by decide +kernel
theorem dX7_name_50 : decode cX7_name 50 = .ok (.iload_n 3, 1) := by decide +kernel
theorem dX7_name_51 : decode cX7_name 51 = .ok (.aload_n 0, 1) := by decide +kernel
theorem dX7_name_52 : decode cX7_name 52 = .ok (.getfield 85, 3) := by decide +kernel
theorem dX7_name_55 : decode cX7_name 55 = .ok (.if_icmp .ge 51, 3) := by decide +kernel
theorem dX7_name_58 : decode cX7_name 58 = .ok (.aload_n 0, 1) := by decide +kernel
theorem dX7_name_59 : decode cX7_name 59 = .ok (.iload_n 3, 1) := by decide +kernel
theorem dX7_name_60 : decode cX7_name 60 = .ok (.invokevirtual 99, 3) := by decide +kernel
theorem dX7_name_63 : decode cX7_name 63 = .ok (.iconst 0, 1) := by decide +kernel
theorem dX7_name_64 : decode cX7_name 64 = .ok (.istore 4, 2) := by decide +kernel
theorem dX7_name_66 : decode cX7_name 66 = .ok (.iload 4, 2) := by decide +kernel
theorem dX7_name_68 : decode cX7_name 68 = .ok (.aload_n 0, 1) := by decide +kernel
theorem dX7_name_69 : decode cX7_name 69 = .ok (.getfield 78, 3) := by decide +kernel
theorem dX7_name_72 : decode cX7_name 72 = .ok (.if_icmp .ge 28, 3) := by decide +kernel
theorem dX7_name_75 : decode cX7_name 75 = .ok (.aload_n 0, 1) := by decide +kernel
theorem dX7_name_76 : decode cX7_name 76 = .ok (.getfield 56, 3) := by decide +kernel
theorem dX7_name_79 : decode cX7_name 79 = .ok (.bipush 14, 2) := by decide +kernel
theorem dX7_name_81 : decode cX7_name 81 = .ok (.iload_n 3, 1) := by decide +kernel
theorem dX7_name_82 : decode cX7_name 82 = .ok (.imul, 1) := by decide +kernel
theorem dX7_name_83 : decode cX7_name 83 = .ok (.iload 4, 2) := by decide +kernel
theorem dX7_name_85 : decode cX7_name 85 = .ok (.iadd, 1) := by decide +kernel
theorem dX7_name_86 : decode cX7_name 86 = .ok (.aload_n 0, 1) := by decide +kernel
theorem dX7_name_87 : decode cX7_name 87 = .ok (.getfield 50, 3) := by decide +kernel
theorem dX7_name_90 : decode cX7_name 90 = .ok (.iload 4, 2) := by decide +kernel
theorem dX7_name_92 : decode cX7_name 92 = .ok (.iaload, 1) := by decide +kernel
theorem dX7_name_93 : decode cX7_name 93 = .ok (.iastore, 1) := by decide +kernel
theorem dX7_name_94 : decode cX7_name 94 = .ok (.iinc 4 1, 3) := by decide +kernel
theorem dX7_name_97 : decode cX7_name 97 = .ok (.goto (-31), 3) := by decide +kernel
theorem dX7_name_100 : decode cX7_name 100 = .ok (.iinc 3 1, 3) := by decide +kernel
theorem dX7_name_103 : decode cX7_name 103 = .ok (.goto (-53), 3) := by decide +kernel
theorem dX7_name_106 : decode cX7_name 106 = .ok (.bipush 6, 2) := by decide +kernel
theorem dX7_name_108 : decode cX7_name 108 = .ok (.iload_n 1, 1) := by decide +kernel
theorem dX7_name_109 : decode cX7_name 109 = .ok (.imul, 1) := by decide +kernel
theorem dX7_name_110 : decode cX7_name 110 = .ok (.aload_n 0, 1) := by decide +kernel
theorem dX7_name_111 : decode cX7_name 111 = .ok (.getfield 23, 3) := by decide +kernel
theorem dX7_name_114 : decode cX7_name 114 = .ok (.iload_n 1, 1) := by decide +kernel
theorem dX7_name_115 : decode cX7_name 115 = .ok (.iaload, 1) := by decide +kernel
theorem dX7_name_116 : decode cX7_name 116 = .ok (.iadd, 1) := by decide +kernel
theorem dX7_name_117 : decode cX7_name 117 = .ok (.istore_n 3, 1) := by decide +kernel
theorem dX7_name_118 : decode cX7_name 118 = .ok (.aload_n 0, 1) := by decide +kernel
theorem dX7_name_119 : decode cX7_name 119 = .ok (.getfield 26, 3) := by decide +kernel
theorem dX7_name_122 : decode cX7_name 122 = .ok (.iload_n 3, 1) := by decide +kernel
theorem dX7_name_123 : decode cX7_name 123 = .ok (.aload_n 0, 1) := by decide +kernel
theorem dX7_name_124 : decode cX7_name 124 = .ok (.getfield 103, 3) := by decide +kernel
theorem dX7_name_127 : decode cX7_name 127 = .ok (.iastore, 1) := by decide +kernel
theorem dX7_name_128 : decode cX7_name 128 = .ok (.aload_n 0, 1) := by decide +kernel
theorem dX7_name_129 : decode cX7_name 129 = .ok (.getfield 29, 3) := by decide +kernel
theorem dX7_name_132 : decode cX7_name 132 = .ok (.iload_n 3, 1) := by decide +kernel
theorem dX7_name_133 : decode cX7_name 133 = .ok (.aload_n 0, 1) := by decide +kernel
theorem dX7_name_134 : decode cX7_name 134 = .ok (.getfield 88, 3) := by decide +kernel
theorem dX7_name_137 : decode cX7_name 137 = .ok (.iastore, 1) := by decide +kernel
theorem dX7_name_138 : decode cX7_name 138 = .ok (.iconst 0, 1) := by decide +kernel
theorem dX7_name_139 : decode cX7_name 139 = .ok (.istore 4, 2) := by decide +kernel
theorem dX7_name_141 : decode cX7_name 141 = .ok (.iload 4, 2) := by decide +kernel
theorem dX7_name_143 : decode cX7_name 143 = .ok (.aload_n 0, 1) := by decide +kernel
theorem dX7_name_144 : decode cX7_name 144 = .ok (.getfield 88, 3) := by decide +kernel
theorem dX7_name_147 : decode cX7_name 147 = .ok (.if_icmp .ge 28, 3) := by decide +kernel
theorem dX7_name_150 : decode cX7_name 150 = .ok (.aload_n 0, 1) := by decide +kernel
theorem dX7_name_151 : decode cX7_name 151 = .ok (.getfield 32, 3) := by decide +kernel
theorem dX7_name_154 : decode cX7_name 154 = .ok (.bipush 8, 2) := by decide +kernel
theorem dX7_name_156 : decode cX7_name 156 = .ok (.iload_n 3, 1) := by decide +kernel
theorem dX7_name_157 : decode cX7_name 157 = .ok (.imul, 1) := by decide +kernel
theorem dX7_name_158 : decode cX7_name 158 = .ok (.iload 4, 2) := by decide +kernel
theorem dX7_name_160 : decode cX7_name 160 = .ok (.iadd, 1) := by decide +kernel
theorem dX7_name_161 : decode cX7_name 161 = .ok (.aload_n 0, 1) := by decide +kernel
theorem dX7_name_162 : decode cX7_name 162 = .ok (.getfield 7, 3) := by decide +kernel
theorem dX7_name_165 : decode cX7_name 165 = .ok (.iload 4, 2) := by decide +kernel
theorem dX7_name_167 : decode cX7_name 167 = .ok (.caload, 1) := by decide +kernel
theorem dX7_name_168 : decode cX7_name 168 = .ok (.castore, 1) := by decide +kernel
theorem dX7_name_169 : decode cX7_name 169 = .ok (.iinc 4 1, 3) := by decide +kernel
theorem dX7_name_172 : decode cX7_name 172 = .ok (.goto (-31), 3) := by decide +kernel
theorem dX7_name_175 : decode cX7_name 175 = .ok (.aload_n 0, 1) := by decide +kernel
theorem dX7_name_176 : decode cX7_name 176 = .ok (.getfield 23, 3) := by decide +kernel
theorem dX7_name_179 : decode cX7_name 179 = .ok (.iload_n 1, 1) := by decide +kernel
theorem dX7_name_180 : decode cX7_name 180 = .ok (.dup2, 1) := by decide +kernel
theorem dX7_name_181 : decode cX7_name 181 = .ok (.iaload, 1) := by decide +kernel
theorem dX7_name_182 : decode cX7_name 182 = .ok (.iconst 1, 1) := by decide +kernel
theorem dX7_name_183 : decode cX7_name 183 = .ok (.iadd, 1) := by decide +kernel
theorem dX7_name_184 : decode cX7_name 184 = .ok (.iastore, 1) := by decide +kernel
theorem dX7_name_185 : decode cX7_name 185 = .ok (.aload_n 0, 1) := by decide +kernel
theorem dX7_name_186 : decode cX7_name 186 = .ok (.iconst 0, 1) := by decide +kernel
theorem dX7_name_187 : decode cX7_name 187 = .ok (.putfield 88, 3) := by decide +kernel
theorem dX7_name_190 : decode cX7_name 190 = .ok (.iconst 0, 1) := by decide +kernel
theorem dX7_name_191 : decode cX7_name 191 = .ok (.istore 4, 2) := by decide +kernel
theorem dX7_name_193 : decode cX7_name 193 = .ok (.iconst 0, 1) := by decide +kernel
theorem dX7_name_194 : decode cX7_name 194 = .ok (.istore 5, 2) := by decide +kernel
theorem dX7_name_196 : decode cX7_name 196 = .ok (.iload 5, 2) := by decide +kernel
theorem dX7_name_198 : decode cX7_name 198 = .ok (.aload_n 0, 1) := by decide +kernel
theorem dX7_name_199 : decode cX7_name 199 = .ok (.getfield 85, 3) := by decide +kernel
theorem dX7_name_202 : decode cX7_name 202 = .ok (.if_icmp .ge 72, 3) := by decide +kernel
theorem dX7_name_205 : decode cX7_name 205 = .ok (.aload_n 0, 1) := by decide +kernel
theorem dX7_name_206 : decode cX7_name 206 = .ok (.iload 5, 2) := by decide +kernel
theorem dX7_name_208 : decode cX7_name 208 = .ok (.invokevirtual 99, 3) := by decide +kernel
theorem dX7_name_211 : decode cX7_name 211 = .ok (.iconst 0, 1) := by decide +kernel
theorem dX7_name_212 : decode cX7_name 212 = .ok (.istore 6, 2) := by decide +kernel
theorem dX7_name_214 : decode cX7_name 214 = .ok (.iload 6, 2) := by decide +kernel
theorem dX7_name_216 : decode cX7_name 216 = .ok (.aload_n 0, 1) := by decide +kernel
theorem dX7_name_217 : decode cX7_name 217 = .ok (.getfield 78, 3) := by decide +kernel
theorem dX7_name_220 : decode cX7_name 220 = .ok (.if_icmp .ge 48, 3) := by decide +kernel
theorem dX7_name_223 : decode cX7_name 223 = .ok (.iload 4, 2) := by decide +kernel
theorem dX7_name_225 : decode cX7_name 225 = .ok (.iload 6, 2) := by decide +kernel
theorem dX7_name_227 : decode cX7_name 227 = .ok (.iload_n 1, 1) := by decide +kernel
theorem dX7_name_228 : decode cX7_name 228 = .ok (.if_icmp .eq 30, 3) := by decide +kernel
theorem dX7_name_231 : decode cX7_name 231 = .ok (.aload_n 0, 1) := by decide +kernel
theorem dX7_name_232 : decode cX7_name 232 = .ok (.getfield 50, 3) := by decide +kernel
theorem dX7_name_235 : decode cX7_name 235 = .ok (.iload 6, 2) := by decide +kernel
theorem dX7_name_237 : decode cX7_name 237 = .ok (.iaload, 1) := by decide +kernel
theorem dX7_name_238 : decode cX7_name 238 = .ok (.aload_n 0, 1) := by decide +kernel
theorem dX7_name_239 : decode cX7_name 239 = .ok (.getfield 56, 3) := by decide +kernel
theorem dX7_name_242 : decode cX7_name 242 = .ok (.bipush 14, 2) := by decide +kernel
theorem dX7_name_244 : decode cX7_name 244 = .ok (.iload 5, 2) := by decide +kernel
theorem dX7_name_246 : decode cX7_name 246 = .ok (.imul, 1) := by decide +kernel
theorem dX7_name_247 : decode cX7_name 247 = .ok (.iload 6, 2) := by decide +kernel
theorem dX7_name_249 : decode cX7_name 249 = .ok (.iadd, 1) := by decide +kernel
theorem dX7_name_250 : decode cX7_name 250 = .ok (.iaload, 1) := by decide +kernel
theorem dX7_name_251 : decode cX7_name 251 = .ok (.if_icmp .eq 7, 3) := by decide +kernel
theorem dX7_name_254 : decode cX7_name 254 = .ok (.iconst 1, 1) := by decide +kernel
theorem dX7_name_255 : decode cX7_name 255 = .ok (.goto 4, 3) := by decide +kernel
theorem dX7_name_258 : decode cX7_name 258 = .ok (.iconst 0, 1) := by decide +kernel
theorem dX7_name_259 : decode cX7_name 259 = .ok (.iadd, 1) := by decide +kernel
theorem dX7_name_260 : decode cX7_name 260 = .ok (.istore 4, 2) := by decide +kernel
theorem dX7_name_262 : decode cX7_name 262 = .ok (.iinc 6 1, 3) := by decide +kernel
theorem dX7_name_265 : decode cX7_name 265 = .ok (.goto (-51), 3) := by decide +kernel
theorem dX7_name_268 : decode cX7_name 268 = .ok (.iinc 5 1, 3) := by decide +kernel
theorem dX7_name_271 : decode cX7_name 271 = .ok (.goto (-75), 3) := by decide +kernel
theorem dX7_name_274 : decode cX7_name 274 = .ok (.iload 4, 2) := by decide +kernel
theorem dX7_name_276 : decode cX7_name 276 = .ok (.ireturn, 1) := by decide +kernel
theorem dX7_spelled_0 : decode cX7_spelled 0 = .ok (.aload_n 0, 1) := by decide +kernel
theorem dX7_spelled_1 : decode cX7_spelled 1 = .ok (.aload_n 0, 1) := by decide +kernel
theorem dX7_spelled_2 : decode cX7_spelled 2 = .ok (.iload_n 1, 1) := by decide +kernel
theorem dX7_spelled_3 : decode cX7_spelled 3 = .ok (.invokevirtual 95, 3) := by decide +kernel
theorem dX7_spelled_6 : decode cX7_spelled 6 = .ok (.ifCond .eq 11, 3) := by decide +kernel
theorem dX7_spelled_9 : decode cX7_spelled 9 = .ok (.iload_n 3, 1) := by decide +kernel
theorem dX7_spelled_10 : decode cX7_spelled 10 = .ok (.ifCond .lt 7, 3) := by decide +kernel
theorem dX7_spelled_13 : decode cX7_spelled 13 = .ok (.iconst 1, 1) := by decide +kernel
theorem dX7_spelled_14 : decode cX7_spelled 14 = .ok (.goto 4, 3) := by decide +kernel
theorem dX7_spelled_17 : decode cX7_spelled 17 = .ok (.iconst 0, 1) := by decide +kernel
theorem dX7_spelled_18 : decode cX7_spelled 18 = .ok (.iload_n 2, 1) := by decide +kernel
theorem dX7_spelled_19 : decode cX7_spelled 19 = .ok (.iconst 0, 1) := by decide +kernel
theorem dX7_spelled_20 : decode cX7_spelled 20 = .ok (.sipush 10000, 3) := by decide +kernel
theorem dX7_spelled_23 : decode cX7_spelled 23 = .ok (.invokestatic 81, 3) := by decide +kernel
theorem dX7_spelled_26 : decode cX7_spelled 26 = .ok (.iconst 1, 1) := by decide +kernel
theorem dX7_spelled_27 : decode cX7_spelled 27 = .ok (.invokevirtual 91, 3) := by decide +kernel
theorem dX7_spelled_30 : decode cX7_spelled 30 = .ok (.ifCond .ne 6, 3) := by decide +kernel
theorem dX7_spelled_33 : decode cX7_spelled 33 = .ok (.bipush 32, 2) := by decide +kernel
theorem dX7_spelled_35 : decode cX7_spelled 35 = .ok (.ireturn, 1) := by decide +kernel
theorem dX7_spelled_36 : decode cX7_spelled 36 = .ok (.aload_n 0, 1) := by decide +kernel
theorem dX7_spelled_37 : decode cX7_spelled 37 = .ok (.iload_n 1, 1) := by decide +kernel
theorem dX7_spelled_38 : decode cX7_spelled 38 = .ok (.iload_n 2, 1) := by decide +kernel
theorem dX7_spelled_39 : decode cX7_spelled 39 = .ok (.invokevirtual 106, 3) := by decide +kernel
theorem dX7_spelled_42 : decode cX7_spelled 42 = .ok (.istore 4, 2) := by decide +kernel
theorem dX7_spelled_44 : decode cX7_spelled 44 = .ok (.iload 4, 2) := by decide +kernel
theorem dX7_spelled_46 : decode cX7_spelled 46 = .ok (.iconst (-1), 1) := by decide +kernel
theorem dX7_spelled_47 : decode cX7_spelled 47 = .ok (.if_icmp .eq 14, 3) := by decide +kernel
theorem dX7_spelled_50 : decode cX7_spelled 50 = .ok (.iload_n 3, 1) := by decide +kernel
theorem dX7_spelled_51 : decode cX7_spelled 51 = .ok (.aload_n 0, 1) := by decide +kernel
theorem dX7_spelled_52 : decode cX7_spelled 52 = .ok (.getfield 29, 3) := by decide +kernel
theorem dX7_spelled_55 : decode cX7_spelled 55 = .ok (.iload 4, 2) := by decide +kernel
theorem dX7_spelled_57 : decode cX7_spelled 57 = .ok (.iaload, 1) := by decide +kernel
theorem dX7_spelled_58 : decode cX7_spelled 58 = .ok (.if_icmp .lt 8, 3) := by decide +kernel
theorem dX7_spelled_61 : decode cX7_spelled 61 = .ok (.bipush 32, 2) := by decide +kernel
theorem dX7_spelled_63 : decode cX7_spelled 63 = .ok (.goto 15, 3) := by decide +kernel
theorem dX7_spelled_66 : decode cX7_spelled 66 = .ok (.aload_n 0, 1) := by decide +kernel
theorem dX7_spelled_67 : decode cX7_spelled 67 = .ok (.getfield 32, 3) := by decide +kernel
theorem dX7_spelled_70 : decode cX7_spelled 70 = .ok (.bipush 8, 2) := by decide +kernel
theorem dX7_spelled_72 : decode cX7_spelled 72 = .ok (.iload 4, 2) := by decide +kernel
theorem dX7_spelled_74 : decode cX7_spelled 74 = .ok (.imul, 1) := by decide +kernel
theorem dX7_spelled_75 : decode cX7_spelled 75 = .ok (.iload_n 3, 1) := by decide +kernel
theorem dX7_spelled_76 : decode cX7_spelled 76 = .ok (.iadd, 1) := by decide +kernel
theorem dX7_spelled_77 : decode cX7_spelled 77 = .ok (.caload, 1) := by decide +kernel
theorem dX7_spelled_78 : decode cX7_spelled 78 = .ok (.ireturn, 1) := by decide +kernel
theorem dX7_pass_0 : decode cX7_pass 0 = .ok (.aload_n 0, 1) := by decide +kernel
theorem dX7_pass_1 : decode cX7_pass 1 = .ok (.iload_n 1, 1) := by decide +kernel
theorem dX7_pass_2 : decode cX7_pass 2 = .ok (.iconst 1, 1) := by decide +kernel
theorem dX7_pass_3 : decode cX7_pass 3 = .ok (.sipush 1000, 3) := by decide +kernel
theorem dX7_pass_6 : decode cX7_pass 6 = .ok (.invokestatic 81, 3) := by decide +kernel
theorem dX7_pass_9 : decode cX7_pass 9 = .ok (.aload_n 0, 1) := by decide +kernel
theorem dX7_pass_10 : decode cX7_pass 10 = .ok (.getfield 103, 3) := by decide +kernel
theorem dX7_pass_13 : decode cX7_pass 13 = .ok (.iload_n 1, 1) := by decide +kernel
theorem dX7_pass_14 : decode cX7_pass 14 = .ok (.iadd, 1) := by decide +kernel
theorem dX7_pass_15 : decode cX7_pass 15 = .ok (.sipush 10000, 3) := by decide +kernel
theorem dX7_pass_18 : decode cX7_pass 18 = .ok (.if_icmp .gt 7, 3) := by decide +kernel
theorem dX7_pass_21 : decode cX7_pass 21 = .ok (.iconst 1, 1) := by decide +kernel
theorem dX7_pass_22 : decode cX7_pass 22 = .ok (.goto 4, 3) := by decide +kernel
theorem dX7_pass_25 : decode cX7_pass 25 = .ok (.iconst 0, 1) := by decide +kernel
theorem dX7_pass_26 : decode cX7_pass 26 = .ok (.iconst 1, 1) := by decide +kernel
theorem dX7_pass_27 : decode cX7_pass 27 = .ok (.invokevirtual 91, 3) := by decide +kernel
theorem dX7_pass_30 : decode cX7_pass 30 = .ok (.ifCond .ne 5, 3) := by decide +kernel
theorem dX7_pass_33 : decode cX7_pass 33 = .ok (.iconst 0, 1) := by decide +kernel
theorem dX7_pass_34 : decode cX7_pass 34 = .ok (.ireturn, 1) := by decide +kernel
theorem dX7_pass_35 : decode cX7_pass 35 = .ok (.aload_n 0, 1) := by decide +kernel
theorem dX7_pass_36 : decode cX7_pass 36 = .ok (.dup, 1) := by decide +kernel
theorem dX7_pass_37 : decode cX7_pass 37 = .ok (.getfield 103, 3) := by decide +kernel
theorem dX7_pass_40 : decode cX7_pass 40 = .ok (.iload_n 1, 1) := by decide +kernel
theorem dX7_pass_41 : decode cX7_pass 41 = .ok (.iadd, 1) := by decide +kernel
theorem dX7_pass_42 : decode cX7_pass 42 = .ok (.putfield 103, 3) := by decide +kernel
theorem dX7_pass_45 : decode cX7_pass 45 = .ok (.aload_n 0, 1) := by decide +kernel
theorem dX7_pass_46 : decode cX7_pass 46 = .ok (.getfield 103, 3) := by decide +kernel
theorem dX7_pass_49 : decode cX7_pass 49 = .ok (.ireturn, 1) := by decide +kernel
theorem dX7_sheet_0 : decode cX7_sheet 0 = .ok (.aload_n 0, 1) := by decide +kernel
theorem dX7_sheet_1 : decode cX7_sheet 1 = .ok (.iload_n 1, 1) := by decide +kernel
theorem dX7_sheet_2 : decode cX7_sheet 2 = .ok (.sipush (-180), 3) := by decide +kernel
theorem dX7_sheet_5 : decode cX7_sheet 5 = .ok (.sipush 150, 3) := by decide +kernel
theorem dX7_sheet_8 : decode cX7_sheet 8 = .ok (.invokestatic 81, 3) := by decide +kernel
theorem dX7_sheet_11 : decode cX7_sheet 11 = .ok (.ifCond .eq 27, 3) := by decide +kernel
theorem dX7_sheet_14 : decode cX7_sheet 14 = .ok (.iload_n 2, 1) := by decide +kernel
theorem dX7_sheet_15 : decode cX7_sheet 15 = .ok (.bipush (-60), 2) := by decide +kernel
theorem dX7_sheet_17 : decode cX7_sheet 17 = .ok (.bipush 41, 2) := by decide +kernel
theorem dX7_sheet_19 : decode cX7_sheet 19 = .ok (.invokestatic 81, 3) := by decide +kernel
theorem dX7_sheet_22 : decode cX7_sheet 22 = .ok (.ifCond .eq 16, 3) := by decide +kernel
theorem dX7_sheet_25 : decode cX7_sheet 25 = .ok (.iload_n 3, 1) := by decide +kernel
theorem dX7_sheet_26 : decode cX7_sheet 26 = .ok (.iconst 0, 1) := by decide +kernel
theorem dX7_sheet_27 : decode cX7_sheet 27 = .ok (.iconst 1, 1) := by decide +kernel
theorem dX7_sheet_28 : decode cX7_sheet 28 = .ok (.invokestatic 81, 3) := by decide +kernel
theorem dX7_sheet_31 : decode cX7_sheet 31 = .ok (.ifCond .eq 7, 3) := by decide +kernel
theorem dX7_sheet_34 : decode cX7_sheet 34 = .ok (.iconst 1, 1) := by decide +kernel
theorem dX7_sheet_35 : decode cX7_sheet 35 = .ok (.goto 4, 3) := by decide +kernel
theorem dX7_sheet_38 : decode cX7_sheet 38 = .ok (.iconst 0, 1) := by decide +kernel
theorem dX7_sheet_39 : decode cX7_sheet 39 = .ok (.aload_n 0, 1) := by decide +kernel
theorem dX7_sheet_40 : decode cX7_sheet 40 = .ok (.getfield 85, 3) := by decide +kernel
theorem dX7_sheet_43 : decode cX7_sheet 43 = .ok (.iconst 4, 1) := by decide +kernel
theorem dX7_sheet_44 : decode cX7_sheet 44 = .ok (.if_icmp .ge 7, 3) := by decide +kernel
theorem dX7_sheet_47 : decode cX7_sheet 47 = .ok (.iconst 1, 1) := by decide +kernel
theorem dX7_sheet_48 : decode cX7_sheet 48 = .ok (.goto 4, 3) := by decide +kernel
theorem dX7_sheet_51 : decode cX7_sheet 51 = .ok (.iconst 0, 1) := by decide +kernel
theorem dX7_sheet_52 : decode cX7_sheet 52 = .ok (.iconst 1, 1) := by decide +kernel
theorem dX7_sheet_53 : decode cX7_sheet 53 = .ok (.invokevirtual 91, 3) := by decide +kernel
theorem dX7_sheet_56 : decode cX7_sheet 56 = .ok (.ifCond .ne 5, 3) := by decide +kernel
theorem dX7_sheet_59 : decode cX7_sheet 59 = .ok (.iconst 0, 1) := by decide +kernel
theorem dX7_sheet_60 : decode cX7_sheet 60 = .ok (.ireturn, 1) := by decide +kernel
theorem dX7_sheet_61 : decode cX7_sheet 61 = .ok (.aload_n 0, 1) := by decide +kernel
theorem dX7_sheet_62 : decode cX7_sheet 62 = .ok (.getfield 35, 3) := by decide +kernel
theorem dX7_sheet_65 : decode cX7_sheet 65 = .ok (.aload_n 0, 1) := by decide +kernel
theorem dX7_sheet_66 : decode cX7_sheet 66 = .ok (.getfield 85, 3) := by decide +kernel
theorem dX7_sheet_69 : decode cX7_sheet 69 = .ok (.iload_n 1, 1) := by decide +kernel
theorem dX7_sheet_70 : decode cX7_sheet 70 = .ok (.iastore, 1) := by decide +kernel
theorem dX7_sheet_71 : decode cX7_sheet 71 = .ok (.aload_n 0, 1) := by decide +kernel
theorem dX7_sheet_72 : decode cX7_sheet 72 = .ok (.getfield 38, 3) := by decide +kernel
theorem dX7_sheet_75 : decode cX7_sheet 75 = .ok (.aload_n 0, 1) := by decide +kernel
theorem dX7_sheet_76 : decode cX7_sheet 76 = .ok (.getfield 85, 3) := by decide +kernel
theorem dX7_sheet_79 : decode cX7_sheet 79 = .ok (.iload_n 2, 1) := by decide +kernel
theorem dX7_sheet_80 : decode cX7_sheet 80 = .ok (.iastore, 1) := by decide +kernel
theorem dX7_sheet_81 : decode cX7_sheet 81 = .ok (.aload_n 0, 1) := by decide +kernel
theorem dX7_sheet_82 : decode cX7_sheet 82 = .ok (.getfield 41, 3) := by decide +kernel
theorem dX7_sheet_85 : decode cX7_sheet 85 = .ok (.aload_n 0, 1) := by decide +kernel
theorem dX7_sheet_86 : decode cX7_sheet 86 = .ok (.getfield 85, 3) := by decide +kernel
theorem dX7_sheet_89 : decode cX7_sheet 89 = .ok (.iload_n 3, 1) := by decide +kernel
theorem dX7_sheet_90 : decode cX7_sheet 90 = .ok (.iastore, 1) := by decide +kernel
theorem dX7_sheet_91 : decode cX7_sheet 91 = .ok (.aload_n 0, 1) := by decide +kernel
theorem dX7_sheet_92 : decode cX7_sheet 92 = .ok (.dup, 1) := by decide +kernel
theorem dX7_sheet_93 : decode cX7_sheet 93 = .ok (.getfield 85, 3) := by decide +kernel
theorem dX7_sheet_96 : decode cX7_sheet 96 = .ok (.iconst 1, 1) := by decide +kernel
theorem dX7_sheet_97 : decode cX7_sheet 97 = .ok (.iadd, 1) := by decide +kernel
theorem dX7_sheet_98 : decode cX7_sheet 98 = .ok (.putfield 85, 3) := by decide +kernel
theorem dX7_sheet_101 : decode cX7_sheet 101 = .ok (.aload_n 0, 1) := by decide +kernel
theorem dX7_sheet_102 : decode cX7_sheet 102 = .ok (.getfield 85, 3) := by decide +kernel
theorem dX7_sheet_105 : decode cX7_sheet 105 = .ok (.iconst 1, 1) := by decide +kernel
theorem dX7_sheet_106 : decode cX7_sheet 106 = .ok (.isub, 1) := by decide +kernel
theorem dX7_sheet_107 : decode cX7_sheet 107 = .ok (.ireturn, 1) := by decide +kernel
theorem dX7_isOn_0 : decode cX7_isOn 0 = .ok (.aload_n 0, 1) := by decide +kernel
theorem dX7_isOn_1 : decode cX7_isOn 1 = .ok (.getfield 13, 3) := by decide +kernel
theorem dX7_isOn_4 : decode cX7_isOn 4 = .ok (.iload_n 2, 1) := by decide +kernel
theorem dX7_isOn_5 : decode cX7_isOn 5 = .ok (.iaload, 1) := by decide +kernel
theorem dX7_isOn_6 : decode cX7_isOn 6 = .ok (.aload_n 0, 1) := by decide +kernel
theorem dX7_isOn_7 : decode cX7_isOn 7 = .ok (.getfield 35, 3) := by decide +kernel
theorem dX7_isOn_10 : decode cX7_isOn 10 = .ok (.iload_n 1, 1) := by decide +kernel
theorem dX7_isOn_11 : decode cX7_isOn 11 = .ok (.iaload, 1) := by decide +kernel
theorem dX7_isOn_12 : decode cX7_isOn 12 = .ok (.isub, 1) := by decide +kernel
theorem dX7_isOn_13 : decode cX7_isOn 13 = .ok (.iconst 0, 1) := by decide +kernel
theorem dX7_isOn_14 : decode cX7_isOn 14 = .ok (.bipush 29, 2) := by decide +kernel
theorem dX7_isOn_16 : decode cX7_isOn 16 = .ok (.invokestatic 81, 3) := by decide +kernel
theorem dX7_isOn_19 : decode cX7_isOn 19 = .ok (.ifCond .eq 29, 3) := by decide +kernel
theorem dX7_isOn_22 : decode cX7_isOn 22 = .ok (.aload_n 0, 1) := by decide +kernel
theorem dX7_isOn_23 : decode cX7_isOn 23 = .ok (.getfield 17, 3) := by decide +kernel
theorem dX7_isOn_26 : decode cX7_isOn 26 = .ok (.iload_n 2, 1) := by decide +kernel
theorem dX7_isOn_27 : decode cX7_isOn 27 = .ok (.iaload, 1) := by decide +kernel
theorem dX7_isOn_28 : decode cX7_isOn 28 = .ok (.aload_n 0, 1) := by decide +kernel
theorem dX7_isOn_29 : decode cX7_isOn 29 = .ok (.getfield 38, 3) := by decide +kernel
theorem dX7_isOn_32 : decode cX7_isOn 32 = .ok (.iload_n 1, 1) := by decide +kernel
theorem dX7_isOn_33 : decode cX7_isOn 33 = .ok (.iaload, 1) := by decide +kernel
theorem dX7_isOn_34 : decode cX7_isOn 34 = .ok (.isub, 1) := by decide +kernel
theorem dX7_isOn_35 : decode cX7_isOn 35 = .ok (.iconst 0, 1) := by decide +kernel
theorem dX7_isOn_36 : decode cX7_isOn 36 = .ok (.bipush 19, 2) := by decide +kernel
theorem dX7_isOn_38 : decode cX7_isOn 38 = .ok (.invokestatic 81, 3) := by decide +kernel
theorem dX7_isOn_41 : decode cX7_isOn 41 = .ok (.ifCond .eq 7, 3) := by decide +kernel
theorem dX7_isOn_44 : decode cX7_isOn 44 = .ok (.iconst 1, 1) := by decide +kernel
theorem dX7_isOn_45 : decode cX7_isOn 45 = .ok (.goto 4, 3) := by decide +kernel
theorem dX7_isOn_48 : decode cX7_isOn 48 = .ok (.iconst 0, 1) := by decide +kernel
theorem dX7_isOn_49 : decode cX7_isOn 49 = .ok (.ireturn, 1) := by decide +kernel
theorem dX7_columnOf_0 : decode cX7_columnOf 0 = .ok (.aload_n 0, 1) := by decide +kernel
theorem dX7_columnOf_1 : decode cX7_columnOf 1 = .ok (.getfield 13, 3) := by decide +kernel
theorem dX7_columnOf_4 : decode cX7_columnOf 4 = .ok (.iload_n 2, 1) := by decide +kernel
theorem dX7_columnOf_5 : decode cX7_columnOf 5 = .ok (.iaload, 1) := by decide +kernel
theorem dX7_columnOf_6 : decode cX7_columnOf 6 = .ok (.aload_n 0, 1) := by decide +kernel
theorem dX7_columnOf_7 : decode cX7_columnOf 7 = .ok (.getfield 35, 3) := by decide +kernel
theorem dX7_columnOf_10 : decode cX7_columnOf 10 = .ok (.iload_n 1, 1) := by decide +kernel
theorem dX7_columnOf_11 : decode cX7_columnOf 11 = .ok (.iaload, 1) := by decide +kernel
theorem dX7_columnOf_12 : decode cX7_columnOf 12 = .ok (.isub, 1) := by decide +kernel
theorem dX7_columnOf_13 : decode cX7_columnOf 13 = .ok (.istore_n 3, 1) := by decide +kernel
theorem dX7_columnOf_14 : decode cX7_columnOf 14 = .ok (.aload_n 0, 1) := by decide +kernel
theorem dX7_columnOf_15 : decode cX7_columnOf 15 = .ok (.getfield 41, 3) := by decide +kernel
theorem dX7_columnOf_18 : decode cX7_columnOf 18 = .ok (.iload_n 1, 1) := by decide +kernel
theorem dX7_columnOf_19 : decode cX7_columnOf 19 = .ok (.iaload, 1) := by decide +kernel
theorem dX7_columnOf_20 : decode cX7_columnOf 20 = .ok (.ifCond .ne 11, 3) := by decide +kernel
theorem dX7_columnOf_23 : decode cX7_columnOf 23 = .ok (.bipush 40, 2) := by decide +kernel
theorem dX7_columnOf_25 : decode cX7_columnOf 25 = .ok (.iload_n 3, 1) := by decide +kernel
theorem dX7_columnOf_26 : decode cX7_columnOf 26 = .ok (.imul, 1) := by decide +kernel
theorem dX7_columnOf_27 : decode cX7_columnOf 27 = .ok (.bipush 30, 2) := by decide +kernel
theorem dX7_columnOf_29 : decode cX7_columnOf 29 = .ok (.idiv, 1) := by decide +kernel
theorem dX7_columnOf_30 : decode cX7_columnOf 30 = .ok (.ireturn, 1) := by decide +kernel
theorem dX7_columnOf_31 : decode cX7_columnOf 31 = .ok (.fconst 1, 1) := by decide +kernel
theorem dX7_columnOf_32 : decode cX7_columnOf 32 = .ok (.ldc 110, 2) := by decide +kernel
theorem dX7_columnOf_34 : decode cX7_columnOf 34 = .ok (.aload_n 0, 1) := by decide +kernel
theorem dX7_columnOf_35 : decode cX7_columnOf 35 = .ok (.getfield 17, 3) := by decide +kernel
theorem dX7_columnOf_38 : decode cX7_columnOf 38 = .ok (.iload_n 2, 1) := by decide +kernel
theorem dX7_columnOf_39 : decode cX7_columnOf 39 = .ok (.iaload, 1) := by decide +kernel
theorem dX7_columnOf_40 : decode cX7_columnOf 40 = .ok (.aload_n 0, 1) := by decide +kernel
theorem dX7_columnOf_41 : decode cX7_columnOf 41 = .ok (.getfield 38, 3) := by decide +kernel
theorem dX7_columnOf_44 : decode cX7_columnOf 44 = .ok (.iload_n 1, 1) := by decide +kernel
theorem dX7_columnOf_45 : decode cX7_columnOf 45 = .ok (.iaload, 1) := by decide +kernel
theorem dX7_columnOf_46 : decode cX7_columnOf 46 = .ok (.isub, 1) := by decide +kernel
theorem dX7_columnOf_47 : decode cX7_columnOf 47 = .ok (.i2f, 1) := by decide +kernel
theorem dX7_columnOf_48 : decode cX7_columnOf 48 = .ok (.fmul, 1) := by decide +kernel
theorem dX7_columnOf_49 : decode cX7_columnOf 49 = .ok (.fsub, 1) := by decide +kernel
theorem dX7_columnOf_50 : decode cX7_columnOf 50 = .ok (.fstore 4, 2) := by decide +kernel
theorem dX7_columnOf_52 : decode cX7_columnOf 52 = .ok (.iload_n 3, 1) := by decide +kernel
theorem dX7_columnOf_53 : decode cX7_columnOf 53 = .ok (.bipush 15, 2) := by decide +kernel
theorem dX7_columnOf_55 : decode cX7_columnOf 55 = .ok (.isub, 1) := by decide +kernel
theorem dX7_columnOf_56 : decode cX7_columnOf 56 = .ok (.i2f, 1) := by decide +kernel
theorem dX7_columnOf_57 : decode cX7_columnOf 57 = .ok (.ldc 111, 2) := by decide +kernel
theorem dX7_columnOf_59 : decode cX7_columnOf 59 = .ok (.fmul, 1) := by decide +kernel
theorem dX7_columnOf_60 : decode cX7_columnOf 60 = .ok (.ldc 112, 2) := by decide +kernel
theorem dX7_columnOf_62 : decode cX7_columnOf 62 = .ok (.fdiv, 1) := by decide +kernel
theorem dX7_columnOf_63 : decode cX7_columnOf 63 = .ok (.fload 4, 2) := by decide +kernel
theorem dX7_columnOf_65 : decode cX7_columnOf 65 = .ok (.fmul, 1) := by decide +kernel
theorem dX7_columnOf_66 : decode cX7_columnOf 66 = .ok (.fstore 5, 2) := by decide +kernel
theorem dX7_columnOf_68 : decode cX7_columnOf 68 = .ok (.ldc 113, 2) := by decide +kernel
theorem dX7_columnOf_70 : decode cX7_columnOf 70 = .ok (.fload 5, 2) := by decide +kernel
theorem dX7_columnOf_72 : decode cX7_columnOf 72 = .ok (.fadd, 1) := by decide +kernel
theorem dX7_columnOf_73 : decode cX7_columnOf 73 = .ok (.f2i, 1) := by decide +kernel
theorem dX7_columnOf_74 : decode cX7_columnOf 74 = .ok (.ireturn, 1) := by decide +kernel
theorem dX7_rowOf_0 : decode cX7_rowOf 0 = .ok (.bipush 24, 2) := by decide +kernel
theorem dX7_rowOf_2 : decode cX7_rowOf 2 = .ok (.aload_n 0, 1) := by decide +kernel
theorem dX7_rowOf_3 : decode cX7_rowOf 3 = .ok (.getfield 17, 3) := by decide +kernel
theorem dX7_rowOf_6 : decode cX7_rowOf 6 = .ok (.iload_n 2, 1) := by decide +kernel
theorem dX7_rowOf_7 : decode cX7_rowOf 7 = .ok (.iaload, 1) := by decide +kernel
theorem dX7_rowOf_8 : decode cX7_rowOf 8 = .ok (.aload_n 0, 1) := by decide +kernel
theorem dX7_rowOf_9 : decode cX7_rowOf 9 = .ok (.getfield 38, 3) := by decide +kernel
theorem dX7_rowOf_12 : decode cX7_rowOf 12 = .ok (.iload_n 1, 1) := by decide +kernel
theorem dX7_rowOf_13 : decode cX7_rowOf 13 = .ok (.iaload, 1) := by decide +kernel
theorem dX7_rowOf_14 : decode cX7_rowOf 14 = .ok (.isub, 1) := by decide +kernel
theorem dX7_rowOf_15 : decode cX7_rowOf 15 = .ok (.imul, 1) := by decide +kernel
theorem dX7_rowOf_16 : decode cX7_rowOf 16 = .ok (.bipush 20, 2) := by decide +kernel
theorem dX7_rowOf_18 : decode cX7_rowOf 18 = .ok (.idiv, 1) := by decide +kernel
theorem dX7_rowOf_19 : decode cX7_rowOf 19 = .ok (.ireturn, 1) := by decide +kernel
theorem dX7_dots_0 : decode cX7_dots 0 = .ok (.iconst 0, 1) := by decide +kernel
theorem dX7_dots_1 : decode cX7_dots 1 = .ok (.istore_n 3, 1) := by decide +kernel
theorem dX7_dots_2 : decode cX7_dots 2 = .ok (.iload_n 3, 1) := by decide +kernel
theorem dX7_dots_3 : decode cX7_dots 3 = .ok (.sipush 960, 3) := by decide +kernel
theorem dX7_dots_6 : decode cX7_dots 6 = .ok (.if_icmp .ge 17, 3) := by decide +kernel
theorem dX7_dots_9 : decode cX7_dots 9 = .ok (.aload_n 0, 1) := by decide +kernel
theorem dX7_dots_10 : decode cX7_dots 10 = .ok (.getfield 53, 3) := by decide +kernel
theorem dX7_dots_13 : decode cX7_dots 13 = .ok (.iload_n 3, 1) := by decide +kernel
theorem dX7_dots_14 : decode cX7_dots 14 = .ok (.bipush 46, 2) := by decide +kernel
theorem dX7_dots_16 : decode cX7_dots 16 = .ok (.castore, 1) := by decide +kernel
theorem dX7_dots_17 : decode cX7_dots 17 = .ok (.iinc 3 1, 3) := by decide +kernel
theorem dX7_dots_20 : decode cX7_dots 20 = .ok (.goto (-18), 3) := by decide +kernel
theorem dX7_dots_23 : decode cX7_dots 23 = .ok (.iconst 0, 1) := by decide +kernel
theorem dX7_dots_24 : decode cX7_dots 24 = .ok (.istore_n 3, 1) := by decide +kernel
theorem dX7_dots_25 : decode cX7_dots 25 = .ok (.iload_n 3, 1) := by decide +kernel
theorem dX7_dots_26 : decode cX7_dots 26 = .ok (.iload_n 2, 1) := by decide +kernel
theorem dX7_dots_27 : decode cX7_dots 27 = .ok (.if_icmp .ge 99, 3) := by decide +kernel
theorem dX7_dots_30 : decode cX7_dots 30 = .ok (.aload_n 0, 1) := by decide +kernel
theorem dX7_dots_31 : decode cX7_dots 31 = .ok (.getfield 44, 3) := by decide +kernel
theorem dX7_dots_34 : decode cX7_dots 34 = .ok (.iload_n 3, 1) := by decide +kernel
theorem dX7_dots_35 : decode cX7_dots 35 = .ok (.aload_n 0, 1) := by decide +kernel
theorem dX7_dots_36 : decode cX7_dots 36 = .ok (.iload_n 1, 1) := by decide +kernel
theorem dX7_dots_37 : decode cX7_dots 37 = .ok (.iload_n 3, 1) := by decide +kernel
theorem dX7_dots_38 : decode cX7_dots 38 = .ok (.invokevirtual 114, 3) := by decide +kernel
theorem dX7_dots_41 : decode cX7_dots 41 = .ok (.ifCond .eq 12, 3) := by decide +kernel
theorem dX7_dots_44 : decode cX7_dots 44 = .ok (.aload_n 0, 1) := by decide +kernel
theorem dX7_dots_45 : decode cX7_dots 45 = .ok (.iload_n 1, 1) := by decide +kernel
theorem dX7_dots_46 : decode cX7_dots 46 = .ok (.iload_n 3, 1) := by decide +kernel
theorem dX7_dots_47 : decode cX7_dots 47 = .ok (.invokevirtual 118, 3) := by decide +kernel
theorem dX7_dots_50 : decode cX7_dots 50 = .ok (.goto 4, 3) := by decide +kernel
theorem dX7_dots_53 : decode cX7_dots 53 = .ok (.iconst (-1), 1) := by decide +kernel
theorem dX7_dots_54 : decode cX7_dots 54 = .ok (.iastore, 1) := by decide +kernel
theorem dX7_dots_55 : decode cX7_dots 55 = .ok (.aload_n 0, 1) := by decide +kernel
theorem dX7_dots_56 : decode cX7_dots 56 = .ok (.getfield 47, 3) := by decide +kernel
theorem dX7_dots_59 : decode cX7_dots 59 = .ok (.iload_n 3, 1) := by decide +kernel
theorem dX7_dots_60 : decode cX7_dots 60 = .ok (.aload_n 0, 1) := by decide +kernel
theorem dX7_dots_61 : decode cX7_dots 61 = .ok (.iload_n 1, 1) := by decide +kernel
theorem dX7_dots_62 : decode cX7_dots 62 = .ok (.iload_n 3, 1) := by decide +kernel
theorem dX7_dots_63 : decode cX7_dots 63 = .ok (.invokevirtual 114, 3) := by decide +kernel
theorem dX7_dots_66 : decode cX7_dots 66 = .ok (.ifCond .eq 12, 3) := by decide +kernel
theorem dX7_dots_69 : decode cX7_dots 69 = .ok (.aload_n 0, 1) := by decide +kernel
theorem dX7_dots_70 : decode cX7_dots 70 = .ok (.iload_n 1, 1) := by decide +kernel
theorem dX7_dots_71 : decode cX7_dots 71 = .ok (.iload_n 3, 1) := by decide +kernel
theorem dX7_dots_72 : decode cX7_dots 72 = .ok (.invokevirtual 121, 3) := by decide +kernel
theorem dX7_dots_75 : decode cX7_dots 75 = .ok (.goto 4, 3) := by decide +kernel
theorem dX7_dots_78 : decode cX7_dots 78 = .ok (.iconst (-1), 1) := by decide +kernel
theorem dX7_dots_79 : decode cX7_dots 79 = .ok (.iastore, 1) := by decide +kernel
theorem dX7_dots_80 : decode cX7_dots 80 = .ok (.aload_n 0, 1) := by decide +kernel
theorem dX7_dots_81 : decode cX7_dots 81 = .ok (.getfield 50, 3) := by decide +kernel
theorem dX7_dots_84 : decode cX7_dots 84 = .ok (.iload_n 3, 1) := by decide +kernel
theorem dX7_dots_85 : decode cX7_dots 85 = .ok (.iconst (-1), 1) := by decide +kernel
theorem dX7_dots_86 : decode cX7_dots 86 = .ok (.iastore, 1) := by decide +kernel
theorem dX7_dots_87 : decode cX7_dots 87 = .ok (.aload_n 0, 1) := by decide +kernel
theorem dX7_dots_88 : decode cX7_dots 88 = .ok (.getfield 44, 3) := by decide +kernel
theorem dX7_dots_91 : decode cX7_dots 91 = .ok (.iload_n 3, 1) := by decide +kernel
theorem dX7_dots_92 : decode cX7_dots 92 = .ok (.iaload, 1) := by decide +kernel
theorem dX7_dots_93 : decode cX7_dots 93 = .ok (.iconst (-1), 1) := by decide +kernel
theorem dX7_dots_94 : decode cX7_dots 94 = .ok (.if_icmp .eq 26, 3) := by decide +kernel
theorem dX7_dots_97 : decode cX7_dots 97 = .ok (.aload_n 0, 1) := by decide +kernel
theorem dX7_dots_98 : decode cX7_dots 98 = .ok (.getfield 53, 3) := by decide +kernel
theorem dX7_dots_101 : decode cX7_dots 101 = .ok (.bipush 40, 2) := by decide +kernel
theorem dX7_dots_103 : decode cX7_dots 103 = .ok (.aload_n 0, 1) := by decide +kernel
theorem dX7_dots_104 : decode cX7_dots 104 = .ok (.getfield 47, 3) := by decide +kernel
theorem dX7_dots_107 : decode cX7_dots 107 = .ok (.iload_n 3, 1) := by decide +kernel
theorem dX7_dots_108 : decode cX7_dots 108 = .ok (.iaload, 1) := by decide +kernel
theorem dX7_dots_109 : decode cX7_dots 109 = .ok (.imul, 1) := by decide +kernel
theorem dX7_dots_110 : decode cX7_dots 110 = .ok (.aload_n 0, 1) := by decide +kernel
theorem dX7_dots_111 : decode cX7_dots 111 = .ok (.getfield 44, 3) := by decide +kernel
theorem dX7_dots_114 : decode cX7_dots 114 = .ok (.iload_n 3, 1) := by decide +kernel
theorem dX7_dots_115 : decode cX7_dots 115 = .ok (.iaload, 1) := by decide +kernel
theorem dX7_dots_116 : decode cX7_dots 116 = .ok (.iadd, 1) := by decide +kernel
theorem dX7_dots_117 : decode cX7_dots 117 = .ok (.bipush 42, 2) := by decide +kernel
theorem dX7_dots_119 : decode cX7_dots 119 = .ok (.castore, 1) := by decide +kernel
theorem dX7_dots_120 : decode cX7_dots 120 = .ok (.iinc 3 1, 3) := by decide +kernel
theorem dX7_dots_123 : decode cX7_dots 123 = .ok (.goto (-98), 3) := by decide +kernel
theorem dX7_dots_126 : decode cX7_dots 126 = .ok (.return_, 1) := by decide +kernel
theorem dX7_rowAt_0 : decode cX7_rowAt 0 = .ok (.iload_n 1, 1) := by decide +kernel
theorem dX7_rowAt_1 : decode cX7_rowAt 1 = .ok (.iconst 2, 1) := by decide +kernel
theorem dX7_rowAt_2 : decode cX7_rowAt 2 = .ok (.if_icmp .ne 9, 3) := by decide +kernel
theorem dX7_rowAt_5 : decode cX7_rowAt 5 = .ok (.iload_n 0, 1) := by decide +kernel
theorem dX7_rowAt_6 : decode cX7_rowAt 6 = .ok (.iconst 1, 1) := by decide +kernel
theorem dX7_rowAt_7 : decode cX7_rowAt 7 = .ok (.iadd, 1) := by decide +kernel
theorem dX7_rowAt_8 : decode cX7_rowAt 8 = .ok (.goto 15, 3) := by decide +kernel
theorem dX7_rowAt_11 : decode cX7_rowAt 11 = .ok (.iload_n 1, 1) := by decide +kernel
theorem dX7_rowAt_12 : decode cX7_rowAt 12 = .ok (.iconst 3, 1) := by decide +kernel
theorem dX7_rowAt_13 : decode cX7_rowAt 13 = .ok (.if_icmp .ne 9, 3) := by decide +kernel
theorem dX7_rowAt_16 : decode cX7_rowAt 16 = .ok (.iload_n 0, 1) := by decide +kernel
theorem dX7_rowAt_17 : decode cX7_rowAt 17 = .ok (.iconst 1, 1) := by decide +kernel
theorem dX7_rowAt_18 : decode cX7_rowAt 18 = .ok (.isub, 1) := by decide +kernel
theorem dX7_rowAt_19 : decode cX7_rowAt 19 = .ok (.goto 4, 3) := by decide +kernel
theorem dX7_rowAt_22 : decode cX7_rowAt 22 = .ok (.iload_n 0, 1) := by decide +kernel
theorem dX7_rowAt_23 : decode cX7_rowAt 23 = .ok (.ireturn, 1) := by decide +kernel
theorem dX7_columnAt_0 : decode cX7_columnAt 0 = .ok (.iload_n 1, 1) := by decide +kernel
theorem dX7_columnAt_1 : decode cX7_columnAt 1 = .ok (.ifCond .ne 9, 3) := by decide +kernel
theorem dX7_columnAt_4 : decode cX7_columnAt 4 = .ok (.iload_n 0, 1) := by decide +kernel
theorem dX7_columnAt_5 : decode cX7_columnAt 5 = .ok (.iconst 1, 1) := by decide +kernel
theorem dX7_columnAt_6 : decode cX7_columnAt 6 = .ok (.iadd, 1) := by decide +kernel
theorem dX7_columnAt_7 : decode cX7_columnAt 7 = .ok (.goto 19, 3) := by decide +kernel
theorem dX7_columnAt_10 : decode cX7_columnAt 10 = .ok (.iload_n 1, 1) := by decide +kernel
theorem dX7_columnAt_11 : decode cX7_columnAt 11 = .ok (.iconst 1, 1) := by decide +kernel
theorem dX7_columnAt_12 : decode cX7_columnAt 12 = .ok (.if_icmp .ne 9, 3) := by decide +kernel
theorem dX7_columnAt_15 : decode cX7_columnAt 15 = .ok (.iload_n 0, 1) := by decide +kernel
theorem dX7_columnAt_16 : decode cX7_columnAt 16 = .ok (.iload_n 2, 1) := by decide +kernel
theorem dX7_columnAt_17 : decode cX7_columnAt 17 = .ok (.isub, 1) := by decide +kernel
theorem dX7_columnAt_18 : decode cX7_columnAt 18 = .ok (.goto 8, 3) := by decide +kernel
theorem dX7_columnAt_21 : decode cX7_columnAt 21 = .ok (.iload_n 0, 1) := by decide +kernel
theorem dX7_columnAt_22 : decode cX7_columnAt 22 = .ok (.iload_n 2, 1) := by decide +kernel
theorem dX7_columnAt_23 : decode cX7_columnAt 23 = .ok (.iconst 2, 1) := by decide +kernel
theorem dX7_columnAt_24 : decode cX7_columnAt 24 = .ok (.idiv, 1) := by decide +kernel
theorem dX7_columnAt_25 : decode cX7_columnAt 25 = .ok (.isub, 1) := by decide +kernel
theorem dX7_columnAt_26 : decode cX7_columnAt 26 = .ok (.ireturn, 1) := by decide +kernel
theorem dX7_mayStand_0 : decode cX7_mayStand 0 = .ok (.aload_n 0, 1) := by decide +kernel
theorem dX7_mayStand_1 : decode cX7_mayStand 1 = .ok (.getfield 47, 3) := by decide +kernel
theorem dX7_mayStand_4 : decode cX7_mayStand 4 = .ok (.iload_n 1, 1) := by decide +kernel
theorem dX7_mayStand_5 : decode cX7_mayStand 5 = .ok (.iaload, 1) := by decide +kernel
theorem dX7_mayStand_6 : decode cX7_mayStand 6 = .ok (.iload_n 3, 1) := by decide +kernel
theorem dX7_mayStand_7 : decode cX7_mayStand 7 = .ok (.invokestatic 124, 3) := by decide +kernel
theorem dX7_mayStand_10 : decode cX7_mayStand 10 = .ok (.istore 4, 2) := by decide +kernel
theorem dX7_mayStand_12 : decode cX7_mayStand 12 = .ok (.aload_n 0, 1) := by decide +kernel
theorem dX7_mayStand_13 : decode cX7_mayStand 13 = .ok (.getfield 44, 3) := by decide +kernel
theorem dX7_mayStand_16 : decode cX7_mayStand 16 = .ok (.iload_n 1, 1) := by decide +kernel
theorem dX7_mayStand_17 : decode cX7_mayStand 17 = .ok (.iaload, 1) := by decide +kernel
theorem dX7_mayStand_18 : decode cX7_mayStand 18 = .ok (.iload_n 3, 1) := by decide +kernel
theorem dX7_mayStand_19 : decode cX7_mayStand 19 = .ok (.aload_n 0, 1) := by decide +kernel
theorem dX7_mayStand_20 : decode cX7_mayStand 20 = .ok (.getfield 29, 3) := by decide +kernel
theorem dX7_mayStand_23 : decode cX7_mayStand 23 = .ok (.iload_n 2, 1) := by decide +kernel
theorem dX7_mayStand_24 : decode cX7_mayStand 24 = .ok (.iaload, 1) := by decide +kernel
theorem dX7_mayStand_25 : decode cX7_mayStand 25 = .ok (.invokestatic 127, 3) := by decide +kernel
theorem dX7_mayStand_28 : decode cX7_mayStand 28 = .ok (.istore 5, 2) := by decide +kernel
theorem dX7_mayStand_30 : decode cX7_mayStand 30 = .ok (.iload 4, 2) := by decide +kernel
theorem dX7_mayStand_32 : decode cX7_mayStand 32 = .ok (.iconst 0, 1) := by decide +kernel
theorem dX7_mayStand_33 : decode cX7_mayStand 33 = .ok (.bipush 23, 2) := by decide +kernel
theorem dX7_mayStand_35 : decode cX7_mayStand 35 = .ok (.invokestatic 81, 3) := by decide +kernel
theorem dX7_mayStand_38 : decode cX7_mayStand 38 = .ok (.ifCond .eq 26, 3) := by decide +kernel
theorem dX7_mayStand_41 : decode cX7_mayStand 41 = .ok (.iload 5, 2) := by decide +kernel
theorem dX7_mayStand_43 : decode cX7_mayStand 43 = .ok (.ifCond .lt 21, 3) := by decide +kernel
theorem dX7_mayStand_46 : decode cX7_mayStand 46 = .ok (.iload 5, 2) := by decide +kernel
theorem dX7_mayStand_48 : decode cX7_mayStand 48 = .ok (.aload_n 0, 1) := by decide +kernel
theorem dX7_mayStand_49 : decode cX7_mayStand 49 = .ok (.getfield 29, 3) := by decide +kernel
theorem dX7_mayStand_52 : decode cX7_mayStand 52 = .ok (.iload_n 2, 1) := by decide +kernel
theorem dX7_mayStand_53 : decode cX7_mayStand 53 = .ok (.iaload, 1) := by decide +kernel
theorem dX7_mayStand_54 : decode cX7_mayStand 54 = .ok (.iadd, 1) := by decide +kernel
theorem dX7_mayStand_55 : decode cX7_mayStand 55 = .ok (.bipush 40, 2) := by decide +kernel
theorem dX7_mayStand_57 : decode cX7_mayStand 57 = .ok (.if_icmp .gt 7, 3) := by decide +kernel
theorem dX7_mayStand_60 : decode cX7_mayStand 60 = .ok (.iconst 1, 1) := by decide +kernel
theorem dX7_mayStand_61 : decode cX7_mayStand 61 = .ok (.goto 4, 3) := by decide +kernel
theorem dX7_mayStand_64 : decode cX7_mayStand 64 = .ok (.iconst 0, 1) := by decide +kernel
theorem dX7_mayStand_65 : decode cX7_mayStand 65 = .ok (.istore 6, 2) := by decide +kernel
theorem dX7_mayStand_67 : decode cX7_mayStand 67 = .ok (.iconst 0, 1) := by decide +kernel
theorem dX7_mayStand_68 : decode cX7_mayStand 68 = .ok (.istore 7, 2) := by decide +kernel
theorem dX7_mayStand_70 : decode cX7_mayStand 70 = .ok (.iload 7, 2) := by decide +kernel
theorem dX7_mayStand_72 : decode cX7_mayStand 72 = .ok (.aload_n 0, 1) := by decide +kernel
theorem dX7_mayStand_73 : decode cX7_mayStand 73 = .ok (.getfield 29, 3) := by decide +kernel
theorem dX7_mayStand_76 : decode cX7_mayStand 76 = .ok (.iload_n 2, 1) := by decide +kernel
theorem dX7_mayStand_77 : decode cX7_mayStand 77 = .ok (.iaload, 1) := by decide +kernel
theorem dX7_mayStand_78 : decode cX7_mayStand 78 = .ok (.if_icmp .ge 42, 3) := by decide +kernel
theorem dX7_mayStand_81 : decode cX7_mayStand 81 = .ok (.iload 6, 2) := by decide +kernel
theorem dX7_mayStand_83 : decode cX7_mayStand 83 = .ok (.ifCond .eq 37, 3) := by decide +kernel
theorem dX7_mayStand_86 : decode cX7_mayStand 86 = .ok (.aload_n 0, 1) := by decide +kernel
theorem dX7_mayStand_87 : decode cX7_mayStand 87 = .ok (.getfield 53, 3) := by decide +kernel
theorem dX7_mayStand_90 : decode cX7_mayStand 90 = .ok (.bipush 40, 2) := by decide +kernel
theorem dX7_mayStand_92 : decode cX7_mayStand 92 = .ok (.iload 4, 2) := by decide +kernel
theorem dX7_mayStand_94 : decode cX7_mayStand 94 = .ok (.imul, 1) := by decide +kernel
theorem dX7_mayStand_95 : decode cX7_mayStand 95 = .ok (.iload 5, 2) := by decide +kernel
theorem dX7_mayStand_97 : decode cX7_mayStand 97 = .ok (.iadd, 1) := by decide +kernel
theorem dX7_mayStand_98 : decode cX7_mayStand 98 = .ok (.iload 7, 2) := by decide +kernel
theorem dX7_mayStand_100 : decode cX7_mayStand 100 = .ok (.iadd, 1) := by decide +kernel
theorem dX7_mayStand_101 : decode cX7_mayStand 101 = .ok (.caload, 1) := by decide +kernel
theorem dX7_mayStand_102 : decode cX7_mayStand 102 = .ok (.bipush 46, 2) := by decide +kernel
theorem dX7_mayStand_104 : decode cX7_mayStand 104 = .ok (.if_icmp .ne 7, 3) := by decide +kernel
theorem dX7_mayStand_107 : decode cX7_mayStand 107 = .ok (.iconst 1, 1) := by decide +kernel
theorem dX7_mayStand_108 : decode cX7_mayStand 108 = .ok (.goto 4, 3) := by decide +kernel
theorem dX7_mayStand_111 : decode cX7_mayStand 111 = .ok (.iconst 0, 1) := by decide +kernel
theorem dX7_mayStand_112 : decode cX7_mayStand 112 = .ok (.istore 6, 2) := by decide +kernel
theorem dX7_mayStand_114 : decode cX7_mayStand 114 = .ok (.iinc 7 1, 3) := by decide +kernel
theorem dX7_mayStand_117 : decode cX7_mayStand 117 = .ok (.goto (-47), 3) := by decide +kernel
theorem dX7_mayStand_120 : decode cX7_mayStand 120 = .ok (.iload 6, 2) := by decide +kernel
theorem dX7_mayStand_122 : decode cX7_mayStand 122 = .ok (.ireturn, 1) := by decide +kernel
theorem dX7_puts_0 : decode cX7_puts 0 = .ok (.aload_n 0, 1) := by decide +kernel
theorem dX7_puts_1 : decode cX7_puts 1 = .ok (.getfield 47, 3) := by decide +kernel
theorem dX7_puts_4 : decode cX7_puts 4 = .ok (.iload_n 1, 1) := by decide +kernel
theorem dX7_puts_5 : decode cX7_puts 5 = .ok (.iaload, 1) := by decide +kernel
theorem dX7_puts_6 : decode cX7_puts 6 = .ok (.iload_n 3, 1) := by decide +kernel
theorem dX7_puts_7 : decode cX7_puts 7 = .ok (.invokestatic 124, 3) := by decide +kernel
theorem dX7_puts_10 : decode cX7_puts 10 = .ok (.istore 4, 2) := by decide +kernel
theorem dX7_puts_12 : decode cX7_puts 12 = .ok (.aload_n 0, 1) := by decide +kernel
theorem dX7_puts_13 : decode cX7_puts 13 = .ok (.getfield 44, 3) := by decide +kernel
theorem dX7_puts_16 : decode cX7_puts 16 = .ok (.iload_n 1, 1) := by decide +kernel
theorem dX7_puts_17 : decode cX7_puts 17 = .ok (.iaload, 1) := by decide +kernel
theorem dX7_puts_18 : decode cX7_puts 18 = .ok (.iload_n 3, 1) := by decide +kernel
theorem dX7_puts_19 : decode cX7_puts 19 = .ok (.aload_n 0, 1) := by decide +kernel
theorem dX7_puts_20 : decode cX7_puts 20 = .ok (.getfield 29, 3) := by decide +kernel
theorem dX7_puts_23 : decode cX7_puts 23 = .ok (.iload_n 2, 1) := by decide +kernel
theorem dX7_puts_24 : decode cX7_puts 24 = .ok (.iaload, 1) := by decide +kernel
theorem dX7_puts_25 : decode cX7_puts 25 = .ok (.invokestatic 127, 3) := by decide +kernel
theorem dX7_puts_28 : decode cX7_puts 28 = .ok (.istore 5, 2) := by decide +kernel
theorem dX7_puts_30 : decode cX7_puts 30 = .ok (.iconst 0, 1) := by decide +kernel
theorem dX7_puts_31 : decode cX7_puts 31 = .ok (.istore 6, 2) := by decide +kernel
theorem dX7_puts_33 : decode cX7_puts 33 = .ok (.iload 6, 2) := by decide +kernel
theorem dX7_puts_35 : decode cX7_puts 35 = .ok (.aload_n 0, 1) := by decide +kernel
theorem dX7_puts_36 : decode cX7_puts 36 = .ok (.getfield 29, 3) := by decide +kernel
theorem dX7_puts_39 : decode cX7_puts 39 = .ok (.iload_n 2, 1) := by decide +kernel
theorem dX7_puts_40 : decode cX7_puts 40 = .ok (.iaload, 1) := by decide +kernel
theorem dX7_puts_41 : decode cX7_puts 41 = .ok (.if_icmp .ge 37, 3) := by decide +kernel
theorem dX7_puts_44 : decode cX7_puts 44 = .ok (.aload_n 0, 1) := by decide +kernel
theorem dX7_puts_45 : decode cX7_puts 45 = .ok (.getfield 53, 3) := by decide +kernel
theorem dX7_puts_48 : decode cX7_puts 48 = .ok (.bipush 40, 2) := by decide +kernel
theorem dX7_puts_50 : decode cX7_puts 50 = .ok (.iload 4, 2) := by decide +kernel
theorem dX7_puts_52 : decode cX7_puts 52 = .ok (.imul, 1) := by decide +kernel
theorem dX7_puts_53 : decode cX7_puts 53 = .ok (.iload 5, 2) := by decide +kernel
theorem dX7_puts_55 : decode cX7_puts 55 = .ok (.iadd, 1) := by decide +kernel
theorem dX7_puts_56 : decode cX7_puts 56 = .ok (.iload 6, 2) := by decide +kernel
theorem dX7_puts_58 : decode cX7_puts 58 = .ok (.iadd, 1) := by decide +kernel
theorem dX7_puts_59 : decode cX7_puts 59 = .ok (.aload_n 0, 1) := by decide +kernel
theorem dX7_puts_60 : decode cX7_puts 60 = .ok (.getfield 32, 3) := by decide +kernel
theorem dX7_puts_63 : decode cX7_puts 63 = .ok (.bipush 8, 2) := by decide +kernel
theorem dX7_puts_65 : decode cX7_puts 65 = .ok (.iload_n 2, 1) := by decide +kernel
theorem dX7_puts_66 : decode cX7_puts 66 = .ok (.imul, 1) := by decide +kernel
theorem dX7_puts_67 : decode cX7_puts 67 = .ok (.iload 6, 2) := by decide +kernel
theorem dX7_puts_69 : decode cX7_puts 69 = .ok (.iadd, 1) := by decide +kernel
theorem dX7_puts_70 : decode cX7_puts 70 = .ok (.caload, 1) := by decide +kernel
theorem dX7_puts_71 : decode cX7_puts 71 = .ok (.castore, 1) := by decide +kernel
theorem dX7_puts_72 : decode cX7_puts 72 = .ok (.iinc 6 1, 3) := by decide +kernel
theorem dX7_puts_75 : decode cX7_puts 75 = .ok (.goto (-42), 3) := by decide +kernel
theorem dX7_puts_78 : decode cX7_puts 78 = .ok (.return_, 1) := by decide +kernel
theorem dX7_takes_0 : decode cX7_takes 0 = .ok (.aload_n 0, 1) := by decide +kernel
theorem dX7_takes_1 : decode cX7_takes 1 = .ok (.getfield 47, 3) := by decide +kernel
theorem dX7_takes_4 : decode cX7_takes 4 = .ok (.iload_n 1, 1) := by decide +kernel
theorem dX7_takes_5 : decode cX7_takes 5 = .ok (.iaload, 1) := by decide +kernel
theorem dX7_takes_6 : decode cX7_takes 6 = .ok (.iload_n 3, 1) := by decide +kernel
theorem dX7_takes_7 : decode cX7_takes 7 = .ok (.invokestatic 124, 3) := by decide +kernel
theorem dX7_takes_10 : decode cX7_takes 10 = .ok (.istore 4, 2) := by decide +kernel
theorem dX7_takes_12 : decode cX7_takes 12 = .ok (.aload_n 0, 1) := by decide +kernel
theorem dX7_takes_13 : decode cX7_takes 13 = .ok (.getfield 44, 3) := by decide +kernel
theorem dX7_takes_16 : decode cX7_takes 16 = .ok (.iload_n 1, 1) := by decide +kernel
theorem dX7_takes_17 : decode cX7_takes 17 = .ok (.iaload, 1) := by decide +kernel
theorem dX7_takes_18 : decode cX7_takes 18 = .ok (.iload_n 3, 1) := by decide +kernel
theorem dX7_takes_19 : decode cX7_takes 19 = .ok (.aload_n 0, 1) := by decide +kernel
theorem dX7_takes_20 : decode cX7_takes 20 = .ok (.getfield 29, 3) := by decide +kernel
theorem dX7_takes_23 : decode cX7_takes 23 = .ok (.iload_n 2, 1) := by decide +kernel
theorem dX7_takes_24 : decode cX7_takes 24 = .ok (.iaload, 1) := by decide +kernel
theorem dX7_takes_25 : decode cX7_takes 25 = .ok (.invokestatic 127, 3) := by decide +kernel
theorem dX7_takes_28 : decode cX7_takes 28 = .ok (.istore 5, 2) := by decide +kernel
theorem dX7_takes_30 : decode cX7_takes 30 = .ok (.iconst 0, 1) := by decide +kernel
theorem dX7_takes_31 : decode cX7_takes 31 = .ok (.istore 6, 2) := by decide +kernel
theorem dX7_takes_33 : decode cX7_takes 33 = .ok (.iload 6, 2) := by decide +kernel
theorem dX7_takes_35 : decode cX7_takes 35 = .ok (.aload_n 0, 1) := by decide +kernel
theorem dX7_takes_36 : decode cX7_takes 36 = .ok (.getfield 29, 3) := by decide +kernel
theorem dX7_takes_39 : decode cX7_takes 39 = .ok (.iload_n 2, 1) := by decide +kernel
theorem dX7_takes_40 : decode cX7_takes 40 = .ok (.iaload, 1) := by decide +kernel
theorem dX7_takes_41 : decode cX7_takes 41 = .ok (.if_icmp .ge 27, 3) := by decide +kernel
theorem dX7_takes_44 : decode cX7_takes 44 = .ok (.aload_n 0, 1) := by decide +kernel
theorem dX7_takes_45 : decode cX7_takes 45 = .ok (.getfield 53, 3) := by decide +kernel
theorem dX7_takes_48 : decode cX7_takes 48 = .ok (.bipush 40, 2) := by decide +kernel
theorem dX7_takes_50 : decode cX7_takes 50 = .ok (.iload 4, 2) := by decide +kernel
theorem dX7_takes_52 : decode cX7_takes 52 = .ok (.imul, 1) := by decide +kernel
theorem dX7_takes_53 : decode cX7_takes 53 = .ok (.iload 5, 2) := by decide +kernel
theorem dX7_takes_55 : decode cX7_takes 55 = .ok (.iadd, 1) := by decide +kernel
theorem dX7_takes_56 : decode cX7_takes 56 = .ok (.iload 6, 2) := by decide +kernel
theorem dX7_takes_58 : decode cX7_takes 58 = .ok (.iadd, 1) := by decide +kernel
theorem dX7_takes_59 : decode cX7_takes 59 = .ok (.bipush 46, 2) := by decide +kernel
theorem dX7_takes_61 : decode cX7_takes 61 = .ok (.castore, 1) := by decide +kernel
theorem dX7_takes_62 : decode cX7_takes 62 = .ok (.iinc 6 1, 3) := by decide +kernel
theorem dX7_takes_65 : decode cX7_takes 65 = .ok (.goto (-32), 3) := by decide +kernel
theorem dX7_takes_68 : decode cX7_takes 68 = .ok (.return_, 1) := by decide +kernel
theorem dX7_hasName_0 : decode cX7_hasName 0 = .ok (.aload_n 0, 1) := by decide +kernel
theorem dX7_hasName_1 : decode cX7_hasName 1 = .ok (.getfield 44, 3) := by decide +kernel
theorem dX7_hasName_4 : decode cX7_hasName 4 = .ok (.iload_n 1, 1) := by decide +kernel
theorem dX7_hasName_5 : decode cX7_hasName 5 = .ok (.iaload, 1) := by decide +kernel
theorem dX7_hasName_6 : decode cX7_hasName 6 = .ok (.iconst (-1), 1) := by decide +kernel
theorem dX7_hasName_7 : decode cX7_hasName 7 = .ok (.if_icmp .eq 20, 3) := by decide +kernel
theorem dX7_hasName_10 : decode cX7_hasName 10 = .ok (.aload_n 0, 1) := by decide +kernel
theorem dX7_hasName_11 : decode cX7_hasName 11 = .ok (.iload_n 1, 1) := by decide +kernel
theorem dX7_hasName_12 : decode cX7_hasName 12 = .ok (.aload_n 0, 1) := by decide +kernel
theorem dX7_hasName_13 : decode cX7_hasName 13 = .ok (.getfield 103, 3) := by decide +kernel
theorem dX7_hasName_16 : decode cX7_hasName 16 = .ok (.invokevirtual 106, 3) := by decide +kernel
theorem dX7_hasName_19 : decode cX7_hasName 19 = .ok (.iconst (-1), 1) := by decide +kernel
theorem dX7_hasName_20 : decode cX7_hasName 20 = .ok (.if_icmp .eq 7, 3) := by decide +kernel
theorem dX7_hasName_23 : decode cX7_hasName 23 = .ok (.iconst 1, 1) := by decide +kernel
theorem dX7_hasName_24 : decode cX7_hasName 24 = .ok (.goto 4, 3) := by decide +kernel
theorem dX7_hasName_27 : decode cX7_hasName 27 = .ok (.iconst 0, 1) := by decide +kernel
theorem dX7_hasName_28 : decode cX7_hasName 28 = .ok (.ireturn, 1) := by decide +kernel
theorem dX7_lays_0 : decode cX7_lays 0 = .ok (.aload_n 0, 1) := by decide +kernel
theorem dX7_lays_1 : decode cX7_lays 1 = .ok (.iload_n 1, 1) := by decide +kernel
theorem dX7_lays_2 : decode cX7_lays 2 = .ok (.aload_n 0, 1) := by decide +kernel
theorem dX7_lays_3 : decode cX7_lays 3 = .ok (.getfield 78, 3) := by decide +kernel
theorem dX7_lays_6 : decode cX7_lays 6 = .ok (.invokevirtual 131, 3) := by decide +kernel
theorem dX7_lays_9 : decode cX7_lays 9 = .ok (.iconst 5, 1) := by decide +kernel
theorem dX7_lays_10 : decode cX7_lays 10 = .ok (.istore_n 2, 1) := by decide +kernel
theorem dX7_lays_11 : decode cX7_lays 11 = .ok (.iload_n 2, 1) := by decide +kernel
theorem dX7_lays_12 : decode cX7_lays 12 = .ok (.ifCond .le 108, 3) := by decide +kernel
theorem dX7_lays_15 : decode cX7_lays 15 = .ok (.iconst 0, 1) := by decide +kernel
theorem dX7_lays_16 : decode cX7_lays 16 = .ok (.istore_n 3, 1) := by decide +kernel
theorem dX7_lays_17 : decode cX7_lays 17 = .ok (.iload_n 3, 1) := by decide +kernel
theorem dX7_lays_18 : decode cX7_lays 18 = .ok (.aload_n 0, 1) := by decide +kernel
theorem dX7_lays_19 : decode cX7_lays 19 = .ok (.getfield 78, 3) := by decide +kernel
theorem dX7_lays_22 : decode cX7_lays 22 = .ok (.if_icmp .ge 92, 3) := by decide +kernel
theorem dX7_lays_25 : decode cX7_lays 25 = .ok (.aload_n 0, 1) := by decide +kernel
theorem dX7_lays_26 : decode cX7_lays 26 = .ok (.getfield 20, 3) := by decide +kernel
theorem dX7_lays_29 : decode cX7_lays 29 = .ok (.iload_n 3, 1) := by decide +kernel
theorem dX7_lays_30 : decode cX7_lays 30 = .ok (.iaload, 1) := by decide +kernel
theorem dX7_lays_31 : decode cX7_lays 31 = .ok (.iload_n 2, 1) := by decide +kernel
theorem dX7_lays_32 : decode cX7_lays 32 = .ok (.if_icmp .ne 76, 3) := by decide +kernel
theorem dX7_lays_35 : decode cX7_lays 35 = .ok (.aload_n 0, 1) := by decide +kernel
theorem dX7_lays_36 : decode cX7_lays 36 = .ok (.iload_n 3, 1) := by decide +kernel
theorem dX7_lays_37 : decode cX7_lays 37 = .ok (.invokevirtual 135, 3) := by decide +kernel
theorem dX7_lays_40 : decode cX7_lays 40 = .ok (.ifCond .eq 68, 3) := by decide +kernel
theorem dX7_lays_43 : decode cX7_lays 43 = .ok (.aload_n 0, 1) := by decide +kernel
theorem dX7_lays_44 : decode cX7_lays 44 = .ok (.iload_n 3, 1) := by decide +kernel
theorem dX7_lays_45 : decode cX7_lays 45 = .ok (.aload_n 0, 1) := by decide +kernel
theorem dX7_lays_46 : decode cX7_lays 46 = .ok (.getfield 103, 3) := by decide +kernel
theorem dX7_lays_49 : decode cX7_lays 49 = .ok (.invokevirtual 106, 3) := by decide +kernel
theorem dX7_lays_52 : decode cX7_lays 52 = .ok (.istore 4, 2) := by decide +kernel
theorem dX7_lays_54 : decode cX7_lays 54 = .ok (.iconst 0, 1) := by decide +kernel
theorem dX7_lays_55 : decode cX7_lays 55 = .ok (.istore 5, 2) := by decide +kernel
theorem dX7_lays_57 : decode cX7_lays 57 = .ok (.iload 5, 2) := by decide +kernel
theorem dX7_lays_59 : decode cX7_lays 59 = .ok (.iconst 4, 1) := by decide +kernel
theorem dX7_lays_60 : decode cX7_lays 60 = .ok (.if_icmp .ge 48, 3) := by decide +kernel
theorem dX7_lays_63 : decode cX7_lays 63 = .ok (.aload_n 0, 1) := by decide +kernel
theorem dX7_lays_64 : decode cX7_lays 64 = .ok (.getfield 50, 3) := by decide +kernel
theorem dX7_lays_67 : decode cX7_lays 67 = .ok (.iload_n 3, 1) := by decide +kernel
theorem dX7_lays_68 : decode cX7_lays 68 = .ok (.iaload, 1) := by decide +kernel
theorem dX7_lays_69 : decode cX7_lays 69 = .ok (.iconst (-1), 1) := by decide +kernel
theorem dX7_lays_70 : decode cX7_lays 70 = .ok (.if_icmp .ne 38, 3) := by decide +kernel
theorem dX7_lays_73 : decode cX7_lays 73 = .ok (.aload_n 0, 1) := by decide +kernel
theorem dX7_lays_74 : decode cX7_lays 74 = .ok (.iload_n 3, 1) := by decide +kernel
theorem dX7_lays_75 : decode cX7_lays 75 = .ok (.iload 4, 2) := by decide +kernel
theorem dX7_lays_77 : decode cX7_lays 77 = .ok (.iload 5, 2) := by decide +kernel
theorem dX7_lays_79 : decode cX7_lays 79 = .ok (.invokevirtual 138, 3) := by decide +kernel
theorem dX7_lays_82 : decode cX7_lays 82 = .ok (.ifCond .eq 20, 3) := by decide +kernel
theorem dX7_lays_85 : decode cX7_lays 85 = .ok (.aload_n 0, 1) := by decide +kernel
theorem dX7_lays_86 : decode cX7_lays 86 = .ok (.iload_n 3, 1) := by decide +kernel
theorem dX7_lays_87 : decode cX7_lays 87 = .ok (.iload 4, 2) := by decide +kernel
theorem dX7_lays_89 : decode cX7_lays 89 = .ok (.iload 5, 2) := by decide +kernel
theorem dX7_lays_91 : decode cX7_lays 91 = .ok (.invokevirtual 141, 3) := by decide +kernel
theorem dX7_lays_94 : decode cX7_lays 94 = .ok (.aload_n 0, 1) := by decide +kernel
theorem dX7_lays_95 : decode cX7_lays 95 = .ok (.getfield 50, 3) := by decide +kernel
theorem dX7_lays_98 : decode cX7_lays 98 = .ok (.iload_n 3, 1) := by decide +kernel
theorem dX7_lays_99 : decode cX7_lays 99 = .ok (.iload 5, 2) := by decide +kernel
theorem dX7_lays_101 : decode cX7_lays 101 = .ok (.iastore, 1) := by decide +kernel
theorem dX7_lays_102 : decode cX7_lays 102 = .ok (.iinc 5 1, 3) := by decide +kernel
theorem dX7_lays_105 : decode cX7_lays 105 = .ok (.goto (-48), 3) := by decide +kernel
theorem dX7_lays_108 : decode cX7_lays 108 = .ok (.iinc 3 1, 3) := by decide +kernel
theorem dX7_lays_111 : decode cX7_lays 111 = .ok (.goto (-94), 3) := by decide +kernel
theorem dX7_lays_114 : decode cX7_lays 114 = .ok (.iinc 2 (-1), 3) := by decide +kernel
theorem dX7_lays_117 : decode cX7_lays 117 = .ok (.goto (-106), 3) := by decide +kernel
theorem dX7_lays_120 : decode cX7_lays 120 = .ok (.return_, 1) := by decide +kernel
theorem dX7_dot_0 : decode cX7_dot 0 = .ok (.aload_n 0, 1) := by decide +kernel
theorem dX7_dot_1 : decode cX7_dot 1 = .ok (.aload_n 0, 1) := by decide +kernel
theorem dX7_dot_2 : decode cX7_dot 2 = .ok (.iload_n 1, 1) := by decide +kernel
theorem dX7_dot_3 : decode cX7_dot 3 = .ok (.invokevirtual 145, 3) := by decide +kernel
theorem dX7_dot_6 : decode cX7_dot 6 = .ok (.ifCond .eq 15, 3) := by decide +kernel
theorem dX7_dot_9 : decode cX7_dot 9 = .ok (.aload_n 0, 1) := by decide +kernel
theorem dX7_dot_10 : decode cX7_dot 10 = .ok (.iload_n 2, 1) := by decide +kernel
theorem dX7_dot_11 : decode cX7_dot 11 = .ok (.invokevirtual 95, 3) := by decide +kernel
theorem dX7_dot_14 : decode cX7_dot 14 = .ok (.ifCond .eq 7, 3) := by decide +kernel
theorem dX7_dot_17 : decode cX7_dot 17 = .ok (.iconst 1, 1) := by decide +kernel
theorem dX7_dot_18 : decode cX7_dot 18 = .ok (.goto 4, 3) := by decide +kernel
theorem dX7_dot_21 : decode cX7_dot 21 = .ok (.iconst 0, 1) := by decide +kernel
theorem dX7_dot_22 : decode cX7_dot 22 = .ok (.iconst 1, 1) := by decide +kernel
theorem dX7_dot_23 : decode cX7_dot 23 = .ok (.iconst 1, 1) := by decide +kernel
theorem dX7_dot_24 : decode cX7_dot 24 = .ok (.invokevirtual 91, 3) := by decide +kernel
theorem dX7_dot_27 : decode cX7_dot 27 = .ok (.ifCond .ne 5, 3) := by decide +kernel
theorem dX7_dot_30 : decode cX7_dot 30 = .ok (.iconst 0, 1) := by decide +kernel
theorem dX7_dot_31 : decode cX7_dot 31 = .ok (.ireturn, 1) := by decide +kernel
theorem dX7_dot_32 : decode cX7_dot 32 = .ok (.aload_n 0, 1) := by decide +kernel
theorem dX7_dot_33 : decode cX7_dot 33 = .ok (.iload_n 1, 1) := by decide +kernel
theorem dX7_dot_34 : decode cX7_dot 34 = .ok (.iload_n 2, 1) := by decide +kernel
theorem dX7_dot_35 : decode cX7_dot 35 = .ok (.invokevirtual 114, 3) := by decide +kernel
theorem dX7_dot_38 : decode cX7_dot 38 = .ok (.ifCond .ne 7, 3) := by decide +kernel
theorem dX7_dot_41 : decode cX7_dot 41 = .ok (.iconst (-1), 1) := by decide +kernel
theorem dX7_dot_42 : decode cX7_dot 42 = .ok (.goto 22, 3) := by decide +kernel
theorem dX7_dot_45 : decode cX7_dot 45 = .ok (.iload_n 3, 1) := by decide +kernel
theorem dX7_dot_46 : decode cX7_dot 46 = .ok (.ifCond .eq 12, 3) := by decide +kernel
theorem dX7_dot_49 : decode cX7_dot 49 = .ok (.aload_n 0, 1) := by decide +kernel
theorem dX7_dot_50 : decode cX7_dot 50 = .ok (.iload_n 1, 1) := by decide +kernel
theorem dX7_dot_51 : decode cX7_dot 51 = .ok (.iload_n 2, 1) := by decide +kernel
theorem dX7_dot_52 : decode cX7_dot 52 = .ok (.invokevirtual 121, 3) := by decide +kernel
theorem dX7_dot_55 : decode cX7_dot 55 = .ok (.goto 9, 3) := by decide +kernel
theorem dX7_dot_58 : decode cX7_dot 58 = .ok (.aload_n 0, 1) := by decide +kernel
theorem dX7_dot_59 : decode cX7_dot 59 = .ok (.iload_n 1, 1) := by decide +kernel
theorem dX7_dot_60 : decode cX7_dot 60 = .ok (.iload_n 2, 1) := by decide +kernel
theorem dX7_dot_61 : decode cX7_dot 61 = .ok (.invokevirtual 118, 3) := by decide +kernel
theorem dX7_dot_64 : decode cX7_dot 64 = .ok (.ireturn, 1) := by decide +kernel
theorem dX7_side_0 : decode cX7_side 0 = .ok (.aload_n 0, 1) := by decide +kernel
theorem dX7_side_1 : decode cX7_side 1 = .ok (.aload_n 0, 1) := by decide +kernel
theorem dX7_side_2 : decode cX7_side 2 = .ok (.iload_n 1, 1) := by decide +kernel
theorem dX7_side_3 : decode cX7_side 3 = .ok (.invokevirtual 145, 3) := by decide +kernel
theorem dX7_side_6 : decode cX7_side 6 = .ok (.ifCond .eq 15, 3) := by decide +kernel
theorem dX7_side_9 : decode cX7_side 9 = .ok (.aload_n 0, 1) := by decide +kernel
theorem dX7_side_10 : decode cX7_side 10 = .ok (.iload_n 2, 1) := by decide +kernel
theorem dX7_side_11 : decode cX7_side 11 = .ok (.invokevirtual 95, 3) := by decide +kernel
theorem dX7_side_14 : decode cX7_side 14 = .ok (.ifCond .eq 7, 3) := by decide +kernel
theorem dX7_side_17 : decode cX7_side 17 = .ok (.iconst 1, 1) := by decide +kernel
theorem dX7_side_18 : decode cX7_side 18 = .ok (.goto 4, 3) := by decide +kernel
theorem dX7_side_21 : decode cX7_side 21 = .ok (.iconst 0, 1) := by decide +kernel
theorem dX7_side_22 : decode cX7_side 22 = .ok (.iconst 1, 1) := by decide +kernel
theorem dX7_side_23 : decode cX7_side 23 = .ok (.iconst 1, 1) := by decide +kernel
theorem dX7_side_24 : decode cX7_side 24 = .ok (.invokevirtual 91, 3) := by decide +kernel
theorem dX7_side_27 : decode cX7_side 27 = .ok (.ifCond .ne 5, 3) := by decide +kernel
theorem dX7_side_30 : decode cX7_side 30 = .ok (.iconst 0, 1) := by decide +kernel
theorem dX7_side_31 : decode cX7_side 31 = .ok (.ireturn, 1) := by decide +kernel
theorem dX7_side_32 : decode cX7_side 32 = .ok (.aload_n 0, 1) := by decide +kernel
theorem dX7_side_33 : decode cX7_side 33 = .ok (.iload_n 1, 1) := by decide +kernel
theorem dX7_side_34 : decode cX7_side 34 = .ok (.invokevirtual 99, 3) := by decide +kernel
theorem dX7_side_37 : decode cX7_side 37 = .ok (.aload_n 0, 1) := by decide +kernel
theorem dX7_side_38 : decode cX7_side 38 = .ok (.getfield 50, 3) := by decide +kernel
theorem dX7_side_41 : decode cX7_side 41 = .ok (.iload_n 2, 1) := by decide +kernel
theorem dX7_side_42 : decode cX7_side 42 = .ok (.iaload, 1) := by decide +kernel
theorem dX7_side_43 : decode cX7_side 43 = .ok (.ireturn, 1) := by decide +kernel
theorem dX7_isCell_0 : decode cX7_isCell 0 = .ok (.iload_n 0, 1) := by decide +kernel
theorem dX7_isCell_1 : decode cX7_isCell 1 = .ok (.iconst 0, 1) := by decide +kernel
theorem dX7_isCell_2 : decode cX7_isCell 2 = .ok (.bipush 23, 2) := by decide +kernel
theorem dX7_isCell_4 : decode cX7_isCell 4 = .ok (.invokestatic 81, 3) := by decide +kernel
theorem dX7_isCell_7 : decode cX7_isCell 7 = .ok (.ifCond .eq 17, 3) := by decide +kernel
theorem dX7_isCell_10 : decode cX7_isCell 10 = .ok (.iload_n 1, 1) := by decide +kernel
theorem dX7_isCell_11 : decode cX7_isCell 11 = .ok (.iconst 0, 1) := by decide +kernel
theorem dX7_isCell_12 : decode cX7_isCell 12 = .ok (.bipush 39, 2) := by decide +kernel
theorem dX7_isCell_14 : decode cX7_isCell 14 = .ok (.invokestatic 81, 3) := by decide +kernel
theorem dX7_isCell_17 : decode cX7_isCell 17 = .ok (.ifCond .eq 7, 3) := by decide +kernel
theorem dX7_isCell_20 : decode cX7_isCell 20 = .ok (.iconst 1, 1) := by decide +kernel
theorem dX7_isCell_21 : decode cX7_isCell 21 = .ok (.goto 4, 3) := by decide +kernel
theorem dX7_isCell_24 : decode cX7_isCell 24 = .ok (.iconst 0, 1) := by decide +kernel
theorem dX7_isCell_25 : decode cX7_isCell 25 = .ok (.ireturn, 1) := by decide +kernel
theorem dX7_drawn_0 : decode cX7_drawn 0 = .ok (.aload_n 0, 1) := by decide +kernel
theorem dX7_drawn_1 : decode cX7_drawn 1 = .ok (.aload_n 0, 1) := by decide +kernel
theorem dX7_drawn_2 : decode cX7_drawn 2 = .ok (.iload_n 1, 1) := by decide +kernel
theorem dX7_drawn_3 : decode cX7_drawn 3 = .ok (.invokevirtual 145, 3) := by decide +kernel
theorem dX7_drawn_6 : decode cX7_drawn 6 = .ok (.ifCond .eq 15, 3) := by decide +kernel
theorem dX7_drawn_9 : decode cX7_drawn 9 = .ok (.iload_n 2, 1) := by decide +kernel
theorem dX7_drawn_10 : decode cX7_drawn 10 = .ok (.iload_n 3, 1) := by decide +kernel
theorem dX7_drawn_11 : decode cX7_drawn 11 = .ok (.invokestatic 148, 3) := by decide +kernel
theorem dX7_drawn_14 : decode cX7_drawn 14 = .ok (.ifCond .eq 7, 3) := by decide +kernel
theorem dX7_drawn_17 : decode cX7_drawn 17 = .ok (.iconst 1, 1) := by decide +kernel
theorem dX7_drawn_18 : decode cX7_drawn 18 = .ok (.goto 4, 3) := by decide +kernel
theorem dX7_drawn_21 : decode cX7_drawn 21 = .ok (.iconst 0, 1) := by decide +kernel
theorem dX7_drawn_22 : decode cX7_drawn 22 = .ok (.iconst 1, 1) := by decide +kernel
theorem dX7_drawn_23 : decode cX7_drawn 23 = .ok (.iconst 1, 1) := by decide +kernel
theorem dX7_drawn_24 : decode cX7_drawn 24 = .ok (.invokevirtual 91, 3) := by decide +kernel
theorem dX7_drawn_27 : decode cX7_drawn 27 = .ok (.ifCond .ne 6, 3) := by decide +kernel
theorem dX7_drawn_30 : decode cX7_drawn 30 = .ok (.bipush 32, 2) := by decide +kernel
theorem dX7_drawn_32 : decode cX7_drawn 32 = .ok (.ireturn, 1) := by decide +kernel
theorem dX7_drawn_33 : decode cX7_drawn 33 = .ok (.aload_n 0, 1) := by decide +kernel
theorem dX7_drawn_34 : decode cX7_drawn 34 = .ok (.iload_n 1, 1) := by decide +kernel
theorem dX7_drawn_35 : decode cX7_drawn 35 = .ok (.invokevirtual 99, 3) := by decide +kernel
theorem dX7_drawn_38 : decode cX7_drawn 38 = .ok (.aload_n 0, 1) := by decide +kernel
theorem dX7_drawn_39 : decode cX7_drawn 39 = .ok (.getfield 53, 3) := by decide +kernel
theorem dX7_drawn_42 : decode cX7_drawn 42 = .ok (.bipush 40, 2) := by decide +kernel
theorem dX7_drawn_44 : decode cX7_drawn 44 = .ok (.iload_n 2, 1) := by decide +kernel
theorem dX7_drawn_45 : decode cX7_drawn 45 = .ok (.imul, 1) := by decide +kernel
theorem dX7_drawn_46 : decode cX7_drawn 46 = .ok (.iload_n 3, 1) := by decide +kernel
theorem dX7_drawn_47 : decode cX7_drawn 47 = .ok (.iadd, 1) := by decide +kernel
theorem dX7_drawn_48 : decode cX7_drawn 48 = .ok (.caload, 1) := by decide +kernel
theorem dX7_drawn_49 : decode cX7_drawn 49 = .ok (.ireturn, 1) := by decide +kernel
theorem dX7_worth_0 : decode cX7_worth 0 = .ok (.aload_n 0, 1) := by decide +kernel
theorem dX7_worth_1 : decode cX7_worth 1 = .ok (.aload_n 0, 1) := by decide +kernel
theorem dX7_worth_2 : decode cX7_worth 2 = .ok (.iload_n 1, 1) := by decide +kernel
theorem dX7_worth_3 : decode cX7_worth 3 = .ok (.invokevirtual 145, 3) := by decide +kernel
theorem dX7_worth_6 : decode cX7_worth 6 = .ok (.iconst 1, 1) := by decide +kernel
theorem dX7_worth_7 : decode cX7_worth 7 = .ok (.iconst 1, 1) := by decide +kernel
theorem dX7_worth_8 : decode cX7_worth 8 = .ok (.invokevirtual 91, 3) := by decide +kernel
theorem dX7_worth_11 : decode cX7_worth 11 = .ok (.ifCond .ne 5, 3) := by decide +kernel
theorem dX7_worth_14 : decode cX7_worth 14 = .ok (.iconst 0, 1) := by decide +kernel
theorem dX7_worth_15 : decode cX7_worth 15 = .ok (.ireturn, 1) := by decide +kernel
theorem dX7_worth_16 : decode cX7_worth 16 = .ok (.aload_n 0, 1) := by decide +kernel
theorem dX7_worth_17 : decode cX7_worth 17 = .ok (.iload_n 1, 1) := by decide +kernel
theorem dX7_worth_18 : decode cX7_worth 18 = .ok (.invokevirtual 99, 3) := by decide +kernel
theorem dX7_worth_21 : decode cX7_worth 21 = .ok (.iconst 0, 1) := by decide +kernel
theorem dX7_worth_22 : decode cX7_worth 22 = .ok (.istore_n 2, 1) := by decide +kernel
theorem dX7_worth_23 : decode cX7_worth 23 = .ok (.iconst 0, 1) := by decide +kernel
theorem dX7_worth_24 : decode cX7_worth 24 = .ok (.istore_n 3, 1) := by decide +kernel
theorem dX7_worth_25 : decode cX7_worth 25 = .ok (.iload_n 3, 1) := by decide +kernel
theorem dX7_worth_26 : decode cX7_worth 26 = .ok (.aload_n 0, 1) := by decide +kernel
theorem dX7_worth_27 : decode cX7_worth 27 = .ok (.getfield 78, 3) := by decide +kernel
theorem dX7_worth_30 : decode cX7_worth 30 = .ok (.if_icmp .ge 32, 3) := by decide +kernel
theorem dX7_worth_33 : decode cX7_worth 33 = .ok (.iload_n 2, 1) := by decide +kernel
theorem dX7_worth_34 : decode cX7_worth 34 = .ok (.aload_n 0, 1) := by decide +kernel
theorem dX7_worth_35 : decode cX7_worth 35 = .ok (.getfield 50, 3) := by decide +kernel
theorem dX7_worth_38 : decode cX7_worth 38 = .ok (.iload_n 3, 1) := by decide +kernel
theorem dX7_worth_39 : decode cX7_worth 39 = .ok (.iaload, 1) := by decide +kernel
theorem dX7_worth_40 : decode cX7_worth 40 = .ok (.iconst (-1), 1) := by decide +kernel
theorem dX7_worth_41 : decode cX7_worth 41 = .ok (.if_icmp .eq 12, 3) := by decide +kernel
theorem dX7_worth_44 : decode cX7_worth 44 = .ok (.aload_n 0, 1) := by decide +kernel
theorem dX7_worth_45 : decode cX7_worth 45 = .ok (.getfield 20, 3) := by decide +kernel
theorem dX7_worth_48 : decode cX7_worth 48 = .ok (.iload_n 3, 1) := by decide +kernel
theorem dX7_worth_49 : decode cX7_worth 49 = .ok (.iaload, 1) := by decide +kernel
theorem dX7_worth_50 : decode cX7_worth 50 = .ok (.goto 4, 3) := by decide +kernel
theorem dX7_worth_53 : decode cX7_worth 53 = .ok (.iconst 0, 1) := by decide +kernel
theorem dX7_worth_54 : decode cX7_worth 54 = .ok (.iadd, 1) := by decide +kernel
theorem dX7_worth_55 : decode cX7_worth 55 = .ok (.istore_n 2, 1) := by decide +kernel
theorem dX7_worth_56 : decode cX7_worth 56 = .ok (.iinc 3 1, 3) := by decide +kernel
theorem dX7_worth_59 : decode cX7_worth 59 = .ok (.goto (-34), 3) := by decide +kernel
theorem dX7_worth_62 : decode cX7_worth 62 = .ok (.iload_n 2, 1) := by decide +kernel
theorem dX7_worth_63 : decode cX7_worth 63 = .ok (.ireturn, 1) := by decide +kernel
theorem dX7_canTry_0 : decode cX7_canTry 0 = .ok (.aload_n 0, 1) := by decide +kernel
theorem dX7_canTry_1 : decode cX7_canTry 1 = .ok (.iload_n 1, 1) := by decide +kernel
theorem dX7_canTry_2 : decode cX7_canTry 2 = .ok (.aload_n 0, 1) := by decide +kernel
theorem dX7_canTry_3 : decode cX7_canTry 3 = .ok (.getfield 78, 3) := by decide +kernel
theorem dX7_canTry_6 : decode cX7_canTry 6 = .ok (.invokevirtual 131, 3) := by decide +kernel
theorem dX7_canTry_9 : decode cX7_canTry 9 = .ok (.aload_n 0, 1) := by decide +kernel
theorem dX7_canTry_10 : decode cX7_canTry 10 = .ok (.iconst 0, 1) := by decide +kernel
theorem dX7_canTry_11 : decode cX7_canTry 11 = .ok (.putfield 151, 3) := by decide +kernel
theorem dX7_canTry_14 : decode cX7_canTry 14 = .ok (.iconst 0, 1) := by decide +kernel
theorem dX7_canTry_15 : decode cX7_canTry 15 = .ok (.istore_n 2, 1) := by decide +kernel
theorem dX7_canTry_16 : decode cX7_canTry 16 = .ok (.iconst 0, 1) := by decide +kernel
theorem dX7_canTry_17 : decode cX7_canTry 17 = .ok (.istore_n 3, 1) := by decide +kernel
theorem dX7_canTry_18 : decode cX7_canTry 18 = .ok (.iload_n 3, 1) := by decide +kernel
theorem dX7_canTry_19 : decode cX7_canTry 19 = .ok (.aload_n 0, 1) := by decide +kernel
theorem dX7_canTry_20 : decode cX7_canTry 20 = .ok (.getfield 78, 3) := by decide +kernel
theorem dX7_canTry_23 : decode cX7_canTry 23 = .ok (.if_icmp .ge 42, 3) := by decide +kernel
theorem dX7_canTry_26 : decode cX7_canTry 26 = .ok (.aload_n 0, 1) := by decide +kernel
theorem dX7_canTry_27 : decode cX7_canTry 27 = .ok (.iload_n 3, 1) := by decide +kernel
theorem dX7_canTry_28 : decode cX7_canTry 28 = .ok (.invokevirtual 135, 3) := by decide +kernel
theorem dX7_canTry_31 : decode cX7_canTry 31 = .ok (.ifCond .eq 28, 3) := by decide +kernel
theorem dX7_canTry_34 : decode cX7_canTry 34 = .ok (.iload_n 2, 1) := by decide +kernel
theorem dX7_canTry_35 : decode cX7_canTry 35 = .ok (.iconst 4, 1) := by decide +kernel
theorem dX7_canTry_36 : decode cX7_canTry 36 = .ok (.if_icmp .ge 20, 3) := by decide +kernel
theorem dX7_canTry_39 : decode cX7_canTry 39 = .ok (.aload_n 0, 1) := by decide +kernel
theorem dX7_canTry_40 : decode cX7_canTry 40 = .ok (.getfield 59, 3) := by decide +kernel
theorem dX7_canTry_43 : decode cX7_canTry 43 = .ok (.iload_n 2, 1) := by decide +kernel
theorem dX7_canTry_44 : decode cX7_canTry 44 = .ok (.iload_n 3, 1) := by decide +kernel
theorem dX7_canTry_45 : decode cX7_canTry 45 = .ok (.iastore, 1) := by decide +kernel
theorem dX7_canTry_46 : decode cX7_canTry 46 = .ok (.aload_n 0, 1) := by decide +kernel
theorem dX7_canTry_47 : decode cX7_canTry 47 = .ok (.dup, 1) := by decide +kernel
theorem dX7_canTry_48 : decode cX7_canTry 48 = .ok (.getfield 151, 3) := by decide +kernel
theorem dX7_canTry_51 : decode cX7_canTry 51 = .ok (.iconst 1, 1) := by decide +kernel
theorem dX7_canTry_52 : decode cX7_canTry 52 = .ok (.iadd, 1) := by decide +kernel
theorem dX7_canTry_53 : decode cX7_canTry 53 = .ok (.putfield 151, 3) := by decide +kernel
theorem dX7_canTry_56 : decode cX7_canTry 56 = .ok (.iinc 2 1, 3) := by decide +kernel
theorem dX7_canTry_59 : decode cX7_canTry 59 = .ok (.iinc 3 1, 3) := by decide +kernel
theorem dX7_canTry_62 : decode cX7_canTry 62 = .ok (.goto (-44), 3) := by decide +kernel
theorem dX7_canTry_65 : decode cX7_canTry 65 = .ok (.iload_n 2, 1) := by decide +kernel
theorem dX7_canTry_66 : decode cX7_canTry 66 = .ok (.iconst 4, 1) := by decide +kernel
theorem dX7_canTry_67 : decode cX7_canTry 67 = .ok (.if_icmp .gt 7, 3) := by decide +kernel
theorem dX7_canTry_70 : decode cX7_canTry 70 = .ok (.iconst 1, 1) := by decide +kernel
theorem dX7_canTry_71 : decode cX7_canTry 71 = .ok (.goto 4, 3) := by decide +kernel
theorem dX7_canTry_74 : decode cX7_canTry 74 = .ok (.iconst 0, 1) := by decide +kernel
theorem dX7_canTry_75 : decode cX7_canTry 75 = .ok (.ireturn, 1) := by decide +kernel
theorem dX7_worthOf_0 : decode cX7_worthOf 0 = .ok (.iload_n 1, 1) := by decide +kernel
theorem dX7_worthOf_1 : decode cX7_worthOf 1 = .ok (.istore_n 2, 1) := by decide +kernel
theorem dX7_worthOf_2 : decode cX7_worthOf 2 = .ok (.iconst 0, 1) := by decide +kernel
theorem dX7_worthOf_3 : decode cX7_worthOf 3 = .ok (.istore_n 3, 1) := by decide +kernel
theorem dX7_worthOf_4 : decode cX7_worthOf 4 = .ok (.iconst 1, 1) := by decide +kernel
theorem dX7_worthOf_5 : decode cX7_worthOf 5 = .ok (.istore 4, 2) := by decide +kernel
theorem dX7_worthOf_7 : decode cX7_worthOf 7 = .ok (.iconst 0, 1) := by decide +kernel
theorem dX7_worthOf_8 : decode cX7_worthOf 8 = .ok (.istore 5, 2) := by decide +kernel
theorem dX7_worthOf_10 : decode cX7_worthOf 10 = .ok (.iload 5, 2) := by decide +kernel
theorem dX7_worthOf_12 : decode cX7_worthOf 12 = .ok (.aload_n 0, 1) := by decide +kernel
theorem dX7_worthOf_13 : decode cX7_worthOf 13 = .ok (.getfield 151, 3) := by decide +kernel
theorem dX7_worthOf_16 : decode cX7_worthOf 16 = .ok (.if_icmp .ge 125, 3) := by decide +kernel
theorem dX7_worthOf_19 : decode cX7_worthOf 19 = .ok (.iload_n 2, 1) := by decide +kernel
theorem dX7_worthOf_20 : decode cX7_worthOf 20 = .ok (.iconst 5, 1) := by decide +kernel
theorem dX7_worthOf_21 : decode cX7_worthOf 21 = .ok (.irem, 1) := by decide +kernel
theorem dX7_worthOf_22 : decode cX7_worthOf 22 = .ok (.istore 6, 2) := by decide +kernel
theorem dX7_worthOf_24 : decode cX7_worthOf 24 = .ok (.aload_n 0, 1) := by decide +kernel
theorem dX7_worthOf_25 : decode cX7_worthOf 25 = .ok (.aload_n 0, 1) := by decide +kernel
theorem dX7_worthOf_26 : decode cX7_worthOf 26 = .ok (.getfield 59, 3) := by decide +kernel
theorem dX7_worthOf_29 : decode cX7_worthOf 29 = .ok (.iload 5, 2) := by decide +kernel
theorem dX7_worthOf_31 : decode cX7_worthOf 31 = .ok (.iaload, 1) := by decide +kernel
theorem dX7_worthOf_32 : decode cX7_worthOf 32 = .ok (.aload_n 0, 1) := by decide +kernel
theorem dX7_worthOf_33 : decode cX7_worthOf 33 = .ok (.getfield 103, 3) := by decide +kernel
theorem dX7_worthOf_36 : decode cX7_worthOf 36 = .ok (.invokevirtual 106, 3) := by decide +kernel
theorem dX7_worthOf_39 : decode cX7_worthOf 39 = .ok (.istore 7, 2) := by decide +kernel
theorem dX7_worthOf_41 : decode cX7_worthOf 41 = .ok (.aload_n 0, 1) := by decide +kernel
theorem dX7_worthOf_42 : decode cX7_worthOf 42 = .ok (.getfield 50, 3) := by decide +kernel
theorem dX7_worthOf_45 : decode cX7_worthOf 45 = .ok (.aload_n 0, 1) := by decide +kernel
theorem dX7_worthOf_46 : decode cX7_worthOf 46 = .ok (.getfield 59, 3) := by decide +kernel
theorem dX7_worthOf_49 : decode cX7_worthOf 49 = .ok (.iload 5, 2) := by decide +kernel
theorem dX7_worthOf_51 : decode cX7_worthOf 51 = .ok (.iaload, 1) := by decide +kernel
theorem dX7_worthOf_52 : decode cX7_worthOf 52 = .ok (.iconst (-1), 1) := by decide +kernel
theorem dX7_worthOf_53 : decode cX7_worthOf 53 = .ok (.iastore, 1) := by decide +kernel
theorem dX7_worthOf_54 : decode cX7_worthOf 54 = .ok (.iload 6, 2) := by decide +kernel
theorem dX7_worthOf_56 : decode cX7_worthOf 56 = .ok (.iconst 4, 1) := by decide +kernel
theorem dX7_worthOf_57 : decode cX7_worthOf 57 = .ok (.if_icmp .ge 74, 3) := by decide +kernel
theorem dX7_worthOf_60 : decode cX7_worthOf 60 = .ok (.iload 4, 2) := by decide +kernel
theorem dX7_worthOf_62 : decode cX7_worthOf 62 = .ok (.ifCond .eq 69, 3) := by decide +kernel
theorem dX7_worthOf_65 : decode cX7_worthOf 65 = .ok (.aload_n 0, 1) := by decide +kernel
theorem dX7_worthOf_66 : decode cX7_worthOf 66 = .ok (.aload_n 0, 1) := by decide +kernel
theorem dX7_worthOf_67 : decode cX7_worthOf 67 = .ok (.getfield 59, 3) := by decide +kernel
theorem dX7_worthOf_70 : decode cX7_worthOf 70 = .ok (.iload 5, 2) := by decide +kernel
theorem dX7_worthOf_72 : decode cX7_worthOf 72 = .ok (.iaload, 1) := by decide +kernel
theorem dX7_worthOf_73 : decode cX7_worthOf 73 = .ok (.iload 7, 2) := by decide +kernel
theorem dX7_worthOf_75 : decode cX7_worthOf 75 = .ok (.iload 6, 2) := by decide +kernel
theorem dX7_worthOf_77 : decode cX7_worthOf 77 = .ok (.invokevirtual 138, 3) := by decide +kernel
theorem dX7_worthOf_80 : decode cX7_worthOf 80 = .ok (.istore 4, 2) := by decide +kernel
theorem dX7_worthOf_82 : decode cX7_worthOf 82 = .ok (.iload 4, 2) := by decide +kernel
theorem dX7_worthOf_84 : decode cX7_worthOf 84 = .ok (.ifCond .eq 47, 3) := by decide +kernel
theorem dX7_worthOf_87 : decode cX7_worthOf 87 = .ok (.aload_n 0, 1) := by decide +kernel
theorem dX7_worthOf_88 : decode cX7_worthOf 88 = .ok (.aload_n 0, 1) := by decide +kernel
theorem dX7_worthOf_89 : decode cX7_worthOf 89 = .ok (.getfield 59, 3) := by decide +kernel
theorem dX7_worthOf_92 : decode cX7_worthOf 92 = .ok (.iload 5, 2) := by decide +kernel
theorem dX7_worthOf_94 : decode cX7_worthOf 94 = .ok (.iaload, 1) := by decide +kernel
theorem dX7_worthOf_95 : decode cX7_worthOf 95 = .ok (.iload 7, 2) := by decide +kernel
theorem dX7_worthOf_97 : decode cX7_worthOf 97 = .ok (.iload 6, 2) := by decide +kernel
theorem dX7_worthOf_99 : decode cX7_worthOf 99 = .ok (.invokevirtual 141, 3) := by decide +kernel
theorem dX7_worthOf_102 : decode cX7_worthOf 102 = .ok (.aload_n 0, 1) := by decide +kernel
theorem dX7_worthOf_103 : decode cX7_worthOf 103 = .ok (.getfield 50, 3) := by decide +kernel
theorem dX7_worthOf_106 : decode cX7_worthOf 106 = .ok (.aload_n 0, 1) := by decide +kernel
theorem dX7_worthOf_107 : decode cX7_worthOf 107 = .ok (.getfield 59, 3) := by decide +kernel
theorem dX7_worthOf_110 : decode cX7_worthOf 110 = .ok (.iload 5, 2) := by decide +kernel
theorem dX7_worthOf_112 : decode cX7_worthOf 112 = .ok (.iaload, 1) := by decide +kernel
theorem dX7_worthOf_113 : decode cX7_worthOf 113 = .ok (.iload 6, 2) := by decide +kernel
theorem dX7_worthOf_115 : decode cX7_worthOf 115 = .ok (.iastore, 1) := by decide +kernel
theorem dX7_worthOf_116 : decode cX7_worthOf 116 = .ok (.iload_n 3, 1) := by decide +kernel
theorem dX7_worthOf_117 : decode cX7_worthOf 117 = .ok (.aload_n 0, 1) := by decide +kernel
theorem dX7_worthOf_118 : decode cX7_worthOf 118 = .ok (.getfield 20, 3) := by decide +kernel
theorem dX7_worthOf_121 : decode cX7_worthOf 121 = .ok (.aload_n 0, 1) := by decide +kernel
theorem dX7_worthOf_122 : decode cX7_worthOf 122 = .ok (.getfield 59, 3) := by decide +kernel
theorem dX7_worthOf_125 : decode cX7_worthOf 125 = .ok (.iload 5, 2) := by decide +kernel
theorem dX7_worthOf_127 : decode cX7_worthOf 127 = .ok (.iaload, 1) := by decide +kernel
theorem dX7_worthOf_128 : decode cX7_worthOf 128 = .ok (.iaload, 1) := by decide +kernel
theorem dX7_worthOf_129 : decode cX7_worthOf 129 = .ok (.iadd, 1) := by decide +kernel
theorem dX7_worthOf_130 : decode cX7_worthOf 130 = .ok (.istore_n 3, 1) := by decide +kernel
theorem dX7_worthOf_131 : decode cX7_worthOf 131 = .ok (.iload_n 2, 1) := by decide +kernel
theorem dX7_worthOf_132 : decode cX7_worthOf 132 = .ok (.iconst 5, 1) := by decide +kernel
theorem dX7_worthOf_133 : decode cX7_worthOf 133 = .ok (.idiv, 1) := by decide +kernel
theorem dX7_worthOf_134 : decode cX7_worthOf 134 = .ok (.istore_n 2, 1) := by decide +kernel
theorem dX7_worthOf_135 : decode cX7_worthOf 135 = .ok (.iinc 5 1, 3) := by decide +kernel
theorem dX7_worthOf_138 : decode cX7_worthOf 138 = .ok (.goto (-128), 3) := by decide +kernel
theorem dX7_worthOf_141 : decode cX7_worthOf 141 = .ok (.iconst 0, 1) := by decide +kernel
theorem dX7_worthOf_142 : decode cX7_worthOf 142 = .ok (.istore 5, 2) := by decide +kernel
theorem dX7_worthOf_144 : decode cX7_worthOf 144 = .ok (.iload 5, 2) := by decide +kernel
theorem dX7_worthOf_146 : decode cX7_worthOf 146 = .ok (.aload_n 0, 1) := by decide +kernel
theorem dX7_worthOf_147 : decode cX7_worthOf 147 = .ok (.getfield 151, 3) := by decide +kernel
theorem dX7_worthOf_150 : decode cX7_worthOf 150 = .ok (.if_icmp .ge 63, 3) := by decide +kernel
theorem dX7_worthOf_153 : decode cX7_worthOf 153 = .ok (.aload_n 0, 1) := by decide +kernel
theorem dX7_worthOf_154 : decode cX7_worthOf 154 = .ok (.getfield 50, 3) := by decide +kernel
theorem dX7_worthOf_157 : decode cX7_worthOf 157 = .ok (.aload_n 0, 1) := by decide +kernel
theorem dX7_worthOf_158 : decode cX7_worthOf 158 = .ok (.getfield 59, 3) := by decide +kernel
theorem dX7_worthOf_161 : decode cX7_worthOf 161 = .ok (.iload 5, 2) := by decide +kernel
theorem dX7_worthOf_163 : decode cX7_worthOf 163 = .ok (.iaload, 1) := by decide +kernel
theorem dX7_worthOf_164 : decode cX7_worthOf 164 = .ok (.iaload, 1) := by decide +kernel
theorem dX7_worthOf_165 : decode cX7_worthOf 165 = .ok (.iconst (-1), 1) := by decide +kernel
theorem dX7_worthOf_166 : decode cX7_worthOf 166 = .ok (.if_icmp .eq 41, 3) := by decide +kernel
theorem dX7_worthOf_169 : decode cX7_worthOf 169 = .ok (.aload_n 0, 1) := by decide +kernel
theorem dX7_worthOf_170 : decode cX7_worthOf 170 = .ok (.aload_n 0, 1) := by decide +kernel
theorem dX7_worthOf_171 : decode cX7_worthOf 171 = .ok (.getfield 59, 3) := by decide +kernel
theorem dX7_worthOf_174 : decode cX7_worthOf 174 = .ok (.iload 5, 2) := by decide +kernel
theorem dX7_worthOf_176 : decode cX7_worthOf 176 = .ok (.iaload, 1) := by decide +kernel
theorem dX7_worthOf_177 : decode cX7_worthOf 177 = .ok (.aload_n 0, 1) := by decide +kernel
theorem dX7_worthOf_178 : decode cX7_worthOf 178 = .ok (.aload_n 0, 1) := by decide +kernel
theorem dX7_worthOf_179 : decode cX7_worthOf 179 = .ok (.getfield 59, 3) := by decide +kernel
theorem dX7_worthOf_182 : decode cX7_worthOf 182 = .ok (.iload 5, 2) := by decide +kernel
theorem dX7_worthOf_184 : decode cX7_worthOf 184 = .ok (.iaload, 1) := by decide +kernel
theorem dX7_worthOf_185 : decode cX7_worthOf 185 = .ok (.aload_n 0, 1) := by decide +kernel
theorem dX7_worthOf_186 : decode cX7_worthOf 186 = .ok (.getfield 103, 3) := by decide +kernel
theorem dX7_worthOf_189 : decode cX7_worthOf 189 = .ok (.invokevirtual 106, 3) := by decide +kernel
theorem dX7_worthOf_192 : decode cX7_worthOf 192 = .ok (.aload_n 0, 1) := by decide +kernel
theorem dX7_worthOf_193 : decode cX7_worthOf 193 = .ok (.getfield 50, 3) := by decide +kernel
theorem dX7_worthOf_196 : decode cX7_worthOf 196 = .ok (.aload_n 0, 1) := by decide +kernel
theorem dX7_worthOf_197 : decode cX7_worthOf 197 = .ok (.getfield 59, 3) := by decide +kernel
theorem dX7_worthOf_200 : decode cX7_worthOf 200 = .ok (.iload 5, 2) := by decide +kernel
theorem dX7_worthOf_202 : decode cX7_worthOf 202 = .ok (.iaload, 1) := by decide +kernel
theorem dX7_worthOf_203 : decode cX7_worthOf 203 = .ok (.iaload, 1) := by decide +kernel
theorem dX7_worthOf_204 : decode cX7_worthOf 204 = .ok (.invokevirtual 154, 3) := by decide +kernel
theorem dX7_worthOf_207 : decode cX7_worthOf 207 = .ok (.iinc 5 1, 3) := by decide +kernel
theorem dX7_worthOf_210 : decode cX7_worthOf 210 = .ok (.goto (-66), 3) := by decide +kernel
theorem dX7_worthOf_213 : decode cX7_worthOf 213 = .ok (.iload 4, 2) := by decide +kernel
theorem dX7_worthOf_215 : decode cX7_worthOf 215 = .ok (.ifCond .eq 7, 3) := by decide +kernel
theorem dX7_worthOf_218 : decode cX7_worthOf 218 = .ok (.iload_n 3, 1) := by decide +kernel
theorem dX7_worthOf_219 : decode cX7_worthOf 219 = .ok (.goto 4, 3) := by decide +kernel
theorem dX7_worthOf_222 : decode cX7_worthOf 222 = .ok (.iconst (-1), 1) := by decide +kernel
theorem dX7_worthOf_223 : decode cX7_worthOf 223 = .ok (.ireturn, 1) := by decide +kernel
theorem dX7_best_0 : decode cX7_best 0 = .ok (.aload_n 0, 1) := by decide +kernel
theorem dX7_best_1 : decode cX7_best 1 = .ok (.aload_n 0, 1) := by decide +kernel
theorem dX7_best_2 : decode cX7_best 2 = .ok (.iload_n 1, 1) := by decide +kernel
theorem dX7_best_3 : decode cX7_best 3 = .ok (.invokevirtual 145, 3) := by decide +kernel
theorem dX7_best_6 : decode cX7_best 6 = .ok (.aload_n 0, 1) := by decide +kernel
theorem dX7_best_7 : decode cX7_best 7 = .ok (.iload_n 1, 1) := by decide +kernel
theorem dX7_best_8 : decode cX7_best 8 = .ok (.invokevirtual 145, 3) := by decide +kernel
theorem dX7_best_11 : decode cX7_best 11 = .ok (.ifCond .eq 15, 3) := by decide +kernel
theorem dX7_best_14 : decode cX7_best 14 = .ok (.aload_n 0, 1) := by decide +kernel
theorem dX7_best_15 : decode cX7_best 15 = .ok (.iload_n 1, 1) := by decide +kernel
theorem dX7_best_16 : decode cX7_best 16 = .ok (.invokevirtual 157, 3) := by decide +kernel
theorem dX7_best_19 : decode cX7_best 19 = .ok (.ifCond .eq 7, 3) := by decide +kernel
theorem dX7_best_22 : decode cX7_best 22 = .ok (.iconst 1, 1) := by decide +kernel
theorem dX7_best_23 : decode cX7_best 23 = .ok (.goto 4, 3) := by decide +kernel
theorem dX7_best_26 : decode cX7_best 26 = .ok (.iconst 0, 1) := by decide +kernel
theorem dX7_best_27 : decode cX7_best 27 = .ok (.iconst 1, 1) := by decide +kernel
theorem dX7_best_28 : decode cX7_best 28 = .ok (.invokevirtual 91, 3) := by decide +kernel
theorem dX7_best_31 : decode cX7_best 31 = .ok (.ifCond .ne 5, 3) := by decide +kernel
theorem dX7_best_34 : decode cX7_best 34 = .ok (.iconst 0, 1) := by decide +kernel
theorem dX7_best_35 : decode cX7_best 35 = .ok (.ireturn, 1) := by decide +kernel
theorem dX7_best_36 : decode cX7_best 36 = .ok (.iconst 1, 1) := by decide +kernel
theorem dX7_best_37 : decode cX7_best 37 = .ok (.istore_n 2, 1) := by decide +kernel
theorem dX7_best_38 : decode cX7_best 38 = .ok (.iconst 0, 1) := by decide +kernel
theorem dX7_best_39 : decode cX7_best 39 = .ok (.istore_n 3, 1) := by decide +kernel
theorem dX7_best_40 : decode cX7_best 40 = .ok (.iload_n 3, 1) := by decide +kernel
theorem dX7_best_41 : decode cX7_best 41 = .ok (.aload_n 0, 1) := by decide +kernel
theorem dX7_best_42 : decode cX7_best 42 = .ok (.getfield 151, 3) := by decide +kernel
theorem dX7_best_45 : decode cX7_best 45 = .ok (.if_icmp .ge 13, 3) := by decide +kernel
theorem dX7_best_48 : decode cX7_best 48 = .ok (.iload_n 2, 1) := by decide +kernel
theorem dX7_best_49 : decode cX7_best 49 = .ok (.iconst 5, 1) := by decide +kernel
theorem dX7_best_50 : decode cX7_best 50 = .ok (.imul, 1) := by decide +kernel
theorem dX7_best_51 : decode cX7_best 51 = .ok (.istore_n 2, 1) := by decide +kernel
theorem dX7_best_52 : decode cX7_best 52 = .ok (.iinc 3 1, 3) := by decide +kernel
theorem dX7_best_55 : decode cX7_best 55 = .ok (.goto (-15), 3) := by decide +kernel
theorem dX7_best_58 : decode cX7_best 58 = .ok (.iconst 0, 1) := by decide +kernel
theorem dX7_best_59 : decode cX7_best 59 = .ok (.istore_n 3, 1) := by decide +kernel
theorem dX7_best_60 : decode cX7_best 60 = .ok (.iconst 0, 1) := by decide +kernel
theorem dX7_best_61 : decode cX7_best 61 = .ok (.istore 4, 2) := by decide +kernel
theorem dX7_best_63 : decode cX7_best 63 = .ok (.iload 4, 2) := by decide +kernel
theorem dX7_best_65 : decode cX7_best 65 = .ok (.iload_n 2, 1) := by decide +kernel
theorem dX7_best_66 : decode cX7_best 66 = .ok (.if_icmp .ge 30, 3) := by decide +kernel
theorem dX7_best_69 : decode cX7_best 69 = .ok (.aload_n 0, 1) := by decide +kernel
theorem dX7_best_70 : decode cX7_best 70 = .ok (.iload 4, 2) := by decide +kernel
theorem dX7_best_72 : decode cX7_best 72 = .ok (.invokevirtual 160, 3) := by decide +kernel
theorem dX7_best_75 : decode cX7_best 75 = .ok (.istore 5, 2) := by decide +kernel
theorem dX7_best_77 : decode cX7_best 77 = .ok (.iload 5, 2) := by decide +kernel
theorem dX7_best_79 : decode cX7_best 79 = .ok (.iload_n 3, 1) := by decide +kernel
theorem dX7_best_80 : decode cX7_best 80 = .ok (.if_icmp .le 8, 3) := by decide +kernel
theorem dX7_best_83 : decode cX7_best 83 = .ok (.iload 5, 2) := by decide +kernel
theorem dX7_best_85 : decode cX7_best 85 = .ok (.goto 4, 3) := by decide +kernel
theorem dX7_best_88 : decode cX7_best 88 = .ok (.iload_n 3, 1) := by decide +kernel
theorem dX7_best_89 : decode cX7_best 89 = .ok (.istore_n 3, 1) := by decide +kernel
theorem dX7_best_90 : decode cX7_best 90 = .ok (.iinc 4 1, 3) := by decide +kernel
theorem dX7_best_93 : decode cX7_best 93 = .ok (.goto (-30), 3) := by decide +kernel
theorem dX7_best_96 : decode cX7_best 96 = .ok (.iload_n 3, 1) := by decide +kernel
theorem dX7_best_97 : decode cX7_best 97 = .ok (.ireturn, 1) := by decide +kernel
theorem dX7_print_0 : decode cX7_print 0 = .ok (.aload_n 0, 1) := by decide +kernel
theorem dX7_print_1 : decode cX7_print 1 = .ok (.aload_n 0, 1) := by decide +kernel
theorem dX7_print_2 : decode cX7_print 2 = .ok (.getfield 164, 3) := by decide +kernel
theorem dX7_print_5 : decode cX7_print 5 = .ok (.iconst 5, 1) := by decide +kernel
theorem dX7_print_6 : decode cX7_print 6 = .ok (.if_icmp .ge 7, 3) := by decide +kernel
theorem dX7_print_9 : decode cX7_print 9 = .ok (.iconst 1, 1) := by decide +kernel
theorem dX7_print_10 : decode cX7_print 10 = .ok (.goto 4, 3) := by decide +kernel
theorem dX7_print_13 : decode cX7_print 13 = .ok (.iconst 0, 1) := by decide +kernel
theorem dX7_print_14 : decode cX7_print 14 = .ok (.iconst 1, 1) := by decide +kernel
theorem dX7_print_15 : decode cX7_print 15 = .ok (.iconst 1, 1) := by decide +kernel
theorem dX7_print_16 : decode cX7_print 16 = .ok (.invokevirtual 91, 3) := by decide +kernel
theorem dX7_print_19 : decode cX7_print 19 = .ok (.ifCond .ne 5, 3) := by decide +kernel
theorem dX7_print_22 : decode cX7_print 22 = .ok (.iconst 0, 1) := by decide +kernel
theorem dX7_print_23 : decode cX7_print 23 = .ok (.ireturn, 1) := by decide +kernel
theorem dX7_print_24 : decode cX7_print 24 = .ok (.aload_n 0, 1) := by decide +kernel
theorem dX7_print_25 : decode cX7_print 25 = .ok (.getfield 62, 3) := by decide +kernel
theorem dX7_print_28 : decode cX7_print 28 = .ok (.aload_n 0, 1) := by decide +kernel
theorem dX7_print_29 : decode cX7_print 29 = .ok (.getfield 164, 3) := by decide +kernel
theorem dX7_print_32 : decode cX7_print 32 = .ok (.aload_n 0, 1) := by decide +kernel
theorem dX7_print_33 : decode cX7_print 33 = .ok (.getfield 78, 3) := by decide +kernel
theorem dX7_print_36 : decode cX7_print 36 = .ok (.iastore, 1) := by decide +kernel
theorem dX7_print_37 : decode cX7_print 37 = .ok (.aload_n 0, 1) := by decide +kernel
theorem dX7_print_38 : decode cX7_print 38 = .ok (.getfield 65, 3) := by decide +kernel
theorem dX7_print_41 : decode cX7_print 41 = .ok (.aload_n 0, 1) := by decide +kernel
theorem dX7_print_42 : decode cX7_print 42 = .ok (.getfield 164, 3) := by decide +kernel
theorem dX7_print_45 : decode cX7_print 45 = .ok (.aload_n 0, 1) := by decide +kernel
theorem dX7_print_46 : decode cX7_print 46 = .ok (.getfield 85, 3) := by decide +kernel
theorem dX7_print_49 : decode cX7_print 49 = .ok (.iastore, 1) := by decide +kernel
theorem dX7_print_50 : decode cX7_print 50 = .ok (.iconst 0, 1) := by decide +kernel
theorem dX7_print_51 : decode cX7_print 51 = .ok (.istore_n 1, 1) := by decide +kernel
theorem dX7_print_52 : decode cX7_print 52 = .ok (.iload_n 1, 1) := by decide +kernel
theorem dX7_print_53 : decode cX7_print 53 = .ok (.aload_n 0, 1) := by decide +kernel
theorem dX7_print_54 : decode cX7_print 54 = .ok (.getfield 78, 3) := by decide +kernel
theorem dX7_print_57 : decode cX7_print 57 = .ok (.if_icmp .ge 32, 3) := by decide +kernel
theorem dX7_print_60 : decode cX7_print 60 = .ok (.aload_n 0, 1) := by decide +kernel
theorem dX7_print_61 : decode cX7_print 61 = .ok (.getfield 68, 3) := by decide +kernel
theorem dX7_print_64 : decode cX7_print 64 = .ok (.bipush 14, 2) := by decide +kernel
theorem dX7_print_66 : decode cX7_print 66 = .ok (.aload_n 0, 1) := by decide +kernel
theorem dX7_print_67 : decode cX7_print 67 = .ok (.getfield 164, 3) := by decide +kernel
theorem dX7_print_70 : decode cX7_print 70 = .ok (.imul, 1) := by decide +kernel
theorem dX7_print_71 : decode cX7_print 71 = .ok (.iload_n 1, 1) := by decide +kernel
theorem dX7_print_72 : decode cX7_print 72 = .ok (.iadd, 1) := by decide +kernel
theorem dX7_print_73 : decode cX7_print 73 = .ok (.aload_n 0, 1) := by decide +kernel
theorem dX7_print_74 : decode cX7_print 74 = .ok (.iload_n 1, 1) := by decide +kernel
theorem dX7_print_75 : decode cX7_print 75 = .ok (.aload_n 0, 1) := by decide +kernel
theorem dX7_print_76 : decode cX7_print 76 = .ok (.getfield 103, 3) := by decide +kernel
theorem dX7_print_79 : decode cX7_print 79 = .ok (.invokevirtual 106, 3) := by decide +kernel
theorem dX7_print_82 : decode cX7_print 82 = .ok (.iastore, 1) := by decide +kernel
theorem dX7_print_83 : decode cX7_print 83 = .ok (.iinc 1 1, 3) := by decide +kernel
theorem dX7_print_86 : decode cX7_print 86 = .ok (.goto (-34), 3) := by decide +kernel
theorem dX7_print_89 : decode cX7_print 89 = .ok (.iconst 0, 1) := by decide +kernel
theorem dX7_print_90 : decode cX7_print 90 = .ok (.istore_n 1, 1) := by decide +kernel
theorem dX7_print_91 : decode cX7_print 91 = .ok (.iload_n 1, 1) := by decide +kernel
theorem dX7_print_92 : decode cX7_print 92 = .ok (.aload_n 0, 1) := by decide +kernel
theorem dX7_print_93 : decode cX7_print 93 = .ok (.getfield 85, 3) := by decide +kernel
theorem dX7_print_96 : decode cX7_print 96 = .ok (.if_icmp .ge 54, 3) := by decide +kernel
theorem dX7_print_99 : decode cX7_print 99 = .ok (.aload_n 0, 1) := by decide +kernel
theorem dX7_print_100 : decode cX7_print 100 = .ok (.iload_n 1, 1) := by decide +kernel
theorem dX7_print_101 : decode cX7_print 101 = .ok (.invokevirtual 99, 3) := by decide +kernel
theorem dX7_print_104 : decode cX7_print 104 = .ok (.iconst 0, 1) := by decide +kernel
theorem dX7_print_105 : decode cX7_print 105 = .ok (.istore_n 2, 1) := by decide +kernel
theorem dX7_print_106 : decode cX7_print 106 = .ok (.iload_n 2, 1) := by decide +kernel
theorem dX7_print_107 : decode cX7_print 107 = .ok (.aload_n 0, 1) := by decide +kernel
theorem dX7_print_108 : decode cX7_print 108 = .ok (.getfield 78, 3) := by decide +kernel
theorem dX7_print_111 : decode cX7_print 111 = .ok (.if_icmp .ge 33, 3) := by decide +kernel
theorem dX7_print_114 : decode cX7_print 114 = .ok (.aload_n 0, 1) := by decide +kernel
theorem dX7_print_115 : decode cX7_print 115 = .ok (.getfield 71, 3) := by decide +kernel
theorem dX7_print_118 : decode cX7_print 118 = .ok (.bipush 14, 2) := by decide +kernel
theorem dX7_print_120 : decode cX7_print 120 = .ok (.iconst 4, 1) := by decide +kernel
theorem dX7_print_121 : decode cX7_print 121 = .ok (.aload_n 0, 1) := by decide +kernel
theorem dX7_print_122 : decode cX7_print 122 = .ok (.getfield 164, 3) := by decide +kernel
theorem dX7_print_125 : decode cX7_print 125 = .ok (.imul, 1) := by decide +kernel
theorem dX7_print_126 : decode cX7_print 126 = .ok (.iload_n 1, 1) := by decide +kernel
theorem dX7_print_127 : decode cX7_print 127 = .ok (.iadd, 1) := by decide +kernel
theorem dX7_print_128 : decode cX7_print 128 = .ok (.imul, 1) := by decide +kernel
theorem dX7_print_129 : decode cX7_print 129 = .ok (.iload_n 2, 1) := by decide +kernel
theorem dX7_print_130 : decode cX7_print 130 = .ok (.iadd, 1) := by decide +kernel
theorem dX7_print_131 : decode cX7_print 131 = .ok (.aload_n 0, 1) := by decide +kernel
theorem dX7_print_132 : decode cX7_print 132 = .ok (.getfield 50, 3) := by decide +kernel
theorem dX7_print_135 : decode cX7_print 135 = .ok (.iload_n 2, 1) := by decide +kernel
theorem dX7_print_136 : decode cX7_print 136 = .ok (.iaload, 1) := by decide +kernel
theorem dX7_print_137 : decode cX7_print 137 = .ok (.iastore, 1) := by decide +kernel
theorem dX7_print_138 : decode cX7_print 138 = .ok (.iinc 2 1, 3) := by decide +kernel
theorem dX7_print_141 : decode cX7_print 141 = .ok (.goto (-35), 3) := by decide +kernel
theorem dX7_print_144 : decode cX7_print 144 = .ok (.iinc 1 1, 3) := by decide +kernel
theorem dX7_print_147 : decode cX7_print 147 = .ok (.goto (-56), 3) := by decide +kernel
theorem dX7_print_150 : decode cX7_print 150 = .ok (.aload_n 0, 1) := by decide +kernel
theorem dX7_print_151 : decode cX7_print 151 = .ok (.dup, 1) := by decide +kernel
theorem dX7_print_152 : decode cX7_print 152 = .ok (.getfield 164, 3) := by decide +kernel
theorem dX7_print_155 : decode cX7_print 155 = .ok (.iconst 1, 1) := by decide +kernel
theorem dX7_print_156 : decode cX7_print 156 = .ok (.iadd, 1) := by decide +kernel
theorem dX7_print_157 : decode cX7_print 157 = .ok (.putfield 164, 3) := by decide +kernel
theorem dX7_print_160 : decode cX7_print 160 = .ok (.aload_n 0, 1) := by decide +kernel
theorem dX7_print_161 : decode cX7_print 161 = .ok (.getfield 164, 3) := by decide +kernel
theorem dX7_print_164 : decode cX7_print 164 = .ok (.iconst 1, 1) := by decide +kernel
theorem dX7_print_165 : decode cX7_print 165 = .ok (.isub, 1) := by decide +kernel
theorem dX7_print_166 : decode cX7_print 166 = .ok (.ireturn, 1) := by decide +kernel
theorem dX7_printed_0 : decode cX7_printed 0 = .ok (.aload_n 0, 1) := by decide +kernel
theorem dX7_printed_1 : decode cX7_printed 1 = .ok (.iload_n 1, 1) := by decide +kernel
theorem dX7_printed_2 : decode cX7_printed 2 = .ok (.iconst 0, 1) := by decide +kernel
theorem dX7_printed_3 : decode cX7_printed 3 = .ok (.aload_n 0, 1) := by decide +kernel
theorem dX7_printed_4 : decode cX7_printed 4 = .ok (.getfield 164, 3) := by decide +kernel
theorem dX7_printed_7 : decode cX7_printed 7 = .ok (.iconst 1, 1) := by decide +kernel
theorem dX7_printed_8 : decode cX7_printed 8 = .ok (.isub, 1) := by decide +kernel
theorem dX7_printed_9 : decode cX7_printed 9 = .ok (.invokestatic 81, 3) := by decide +kernel
theorem dX7_printed_12 : decode cX7_printed 12 = .ok (.ifCond .eq 24, 3) := by decide +kernel
theorem dX7_printed_15 : decode cX7_printed 15 = .ok (.aload_n 0, 1) := by decide +kernel
theorem dX7_printed_16 : decode cX7_printed 16 = .ok (.iload_n 2, 1) := by decide +kernel
theorem dX7_printed_17 : decode cX7_printed 17 = .ok (.invokevirtual 145, 3) := by decide +kernel
theorem dX7_printed_20 : decode cX7_printed 20 = .ok (.ifCond .eq 16, 3) := by decide +kernel
theorem dX7_printed_23 : decode cX7_printed 23 = .ok (.iload_n 3, 1) := by decide +kernel
theorem dX7_printed_24 : decode cX7_printed 24 = .ok (.iload 4, 2) := by decide +kernel
theorem dX7_printed_26 : decode cX7_printed 26 = .ok (.invokestatic 148, 3) := by decide +kernel
theorem dX7_printed_29 : decode cX7_printed 29 = .ok (.ifCond .eq 7, 3) := by decide +kernel
theorem dX7_printed_32 : decode cX7_printed 32 = .ok (.iconst 1, 1) := by decide +kernel
theorem dX7_printed_33 : decode cX7_printed 33 = .ok (.goto 4, 3) := by decide +kernel
theorem dX7_printed_36 : decode cX7_printed 36 = .ok (.iconst 0, 1) := by decide +kernel
theorem dX7_printed_37 : decode cX7_printed 37 = .ok (.iconst 1, 1) := by decide +kernel
theorem dX7_printed_38 : decode cX7_printed 38 = .ok (.iconst 1, 1) := by decide +kernel
theorem dX7_printed_39 : decode cX7_printed 39 = .ok (.invokevirtual 91, 3) := by decide +kernel
theorem dX7_printed_42 : decode cX7_printed 42 = .ok (.ifCond .ne 6, 3) := by decide +kernel
theorem dX7_printed_45 : decode cX7_printed 45 = .ok (.bipush 32, 2) := by decide +kernel
theorem dX7_printed_47 : decode cX7_printed 47 = .ok (.ireturn, 1) := by decide +kernel
theorem dX7_printed_48 : decode cX7_printed 48 = .ok (.iload_n 2, 1) := by decide +kernel
theorem dX7_printed_49 : decode cX7_printed 49 = .ok (.aload_n 0, 1) := by decide +kernel
theorem dX7_printed_50 : decode cX7_printed 50 = .ok (.getfield 65, 3) := by decide +kernel
theorem dX7_printed_53 : decode cX7_printed 53 = .ok (.iload_n 1, 1) := by decide +kernel
theorem dX7_printed_54 : decode cX7_printed 54 = .ok (.iaload, 1) := by decide +kernel
theorem dX7_printed_55 : decode cX7_printed 55 = .ok (.if_icmp .lt 6, 3) := by decide +kernel
theorem dX7_printed_58 : decode cX7_printed 58 = .ok (.bipush 32, 2) := by decide +kernel
theorem dX7_printed_60 : decode cX7_printed 60 = .ok (.ireturn, 1) := by decide +kernel
theorem dX7_printed_61 : decode cX7_printed 61 = .ok (.aload_n 0, 1) := by decide +kernel
theorem dX7_printed_62 : decode cX7_printed 62 = .ok (.iload_n 2, 1) := by decide +kernel
theorem dX7_printed_63 : decode cX7_printed 63 = .ok (.aload_n 0, 1) := by decide +kernel
theorem dX7_printed_64 : decode cX7_printed 64 = .ok (.getfield 62, 3) := by decide +kernel
theorem dX7_printed_67 : decode cX7_printed 67 = .ok (.iload_n 1, 1) := by decide +kernel
theorem dX7_printed_68 : decode cX7_printed 68 = .ok (.iaload, 1) := by decide +kernel
theorem dX7_printed_69 : decode cX7_printed 69 = .ok (.invokevirtual 131, 3) := by decide +kernel
theorem dX7_printed_72 : decode cX7_printed 72 = .ok (.iconst 0, 1) := by decide +kernel
theorem dX7_printed_73 : decode cX7_printed 73 = .ok (.istore 5, 2) := by decide +kernel
theorem dX7_printed_75 : decode cX7_printed 75 = .ok (.iload 5, 2) := by decide +kernel
theorem dX7_printed_77 : decode cX7_printed 77 = .ok (.aload_n 0, 1) := by decide +kernel
theorem dX7_printed_78 : decode cX7_printed 78 = .ok (.getfield 62, 3) := by decide +kernel
theorem dX7_printed_81 : decode cX7_printed 81 = .ok (.iload_n 1, 1) := by decide +kernel
theorem dX7_printed_82 : decode cX7_printed 82 = .ok (.iaload, 1) := by decide +kernel
theorem dX7_printed_83 : decode cX7_printed 83 = .ok (.if_icmp .ge 53, 3) := by decide +kernel
theorem dX7_printed_86 : decode cX7_printed 86 = .ok (.aload_n 0, 1) := by decide +kernel
theorem dX7_printed_87 : decode cX7_printed 87 = .ok (.getfield 71, 3) := by decide +kernel
theorem dX7_printed_90 : decode cX7_printed 90 = .ok (.bipush 14, 2) := by decide +kernel
theorem dX7_printed_92 : decode cX7_printed 92 = .ok (.iconst 4, 1) := by decide +kernel
theorem dX7_printed_93 : decode cX7_printed 93 = .ok (.iload_n 1, 1) := by decide +kernel
theorem dX7_printed_94 : decode cX7_printed 94 = .ok (.imul, 1) := by decide +kernel
theorem dX7_printed_95 : decode cX7_printed 95 = .ok (.iload_n 2, 1) := by decide +kernel
theorem dX7_printed_96 : decode cX7_printed 96 = .ok (.iadd, 1) := by decide +kernel
theorem dX7_printed_97 : decode cX7_printed 97 = .ok (.imul, 1) := by decide +kernel
theorem dX7_printed_98 : decode cX7_printed 98 = .ok (.iload 5, 2) := by decide +kernel
theorem dX7_printed_100 : decode cX7_printed 100 = .ok (.iadd, 1) := by decide +kernel
theorem dX7_printed_101 : decode cX7_printed 101 = .ok (.iaload, 1) := by decide +kernel
theorem dX7_printed_102 : decode cX7_printed 102 = .ok (.istore 6, 2) := by decide +kernel
theorem dX7_printed_104 : decode cX7_printed 104 = .ok (.iload 6, 2) := by decide +kernel
theorem dX7_printed_106 : decode cX7_printed 106 = .ok (.iconst (-1), 1) := by decide +kernel
theorem dX7_printed_107 : decode cX7_printed 107 = .ok (.if_icmp .eq 23, 3) := by decide +kernel
theorem dX7_printed_110 : decode cX7_printed 110 = .ok (.aload_n 0, 1) := by decide +kernel
theorem dX7_printed_111 : decode cX7_printed 111 = .ok (.iload 5, 2) := by decide +kernel
theorem dX7_printed_113 : decode cX7_printed 113 = .ok (.aload_n 0, 1) := by decide +kernel
theorem dX7_printed_114 : decode cX7_printed 114 = .ok (.getfield 68, 3) := by decide +kernel
theorem dX7_printed_117 : decode cX7_printed 117 = .ok (.bipush 14, 2) := by decide +kernel
theorem dX7_printed_119 : decode cX7_printed 119 = .ok (.iload_n 1, 1) := by decide +kernel
theorem dX7_printed_120 : decode cX7_printed 120 = .ok (.imul, 1) := by decide +kernel
theorem dX7_printed_121 : decode cX7_printed 121 = .ok (.iload 5, 2) := by decide +kernel
theorem dX7_printed_123 : decode cX7_printed 123 = .ok (.iadd, 1) := by decide +kernel
theorem dX7_printed_124 : decode cX7_printed 124 = .ok (.iaload, 1) := by decide +kernel
theorem dX7_printed_125 : decode cX7_printed 125 = .ok (.iload 6, 2) := by decide +kernel
theorem dX7_printed_127 : decode cX7_printed 127 = .ok (.invokevirtual 141, 3) := by decide +kernel
theorem dX7_printed_130 : decode cX7_printed 130 = .ok (.iinc 5 1, 3) := by decide +kernel
theorem dX7_printed_133 : decode cX7_printed 133 = .ok (.goto (-58), 3) := by decide +kernel
theorem dX7_printed_136 : decode cX7_printed 136 = .ok (.aload_n 0, 1) := by decide +kernel
theorem dX7_printed_137 : decode cX7_printed 137 = .ok (.getfield 53, 3) := by decide +kernel
theorem dX7_printed_140 : decode cX7_printed 140 = .ok (.bipush 40, 2) := by decide +kernel
theorem dX7_printed_142 : decode cX7_printed 142 = .ok (.iload_n 3, 1) := by decide +kernel
theorem dX7_printed_143 : decode cX7_printed 143 = .ok (.imul, 1) := by decide +kernel
theorem dX7_printed_144 : decode cX7_printed 144 = .ok (.iload 4, 2) := by decide +kernel
theorem dX7_printed_146 : decode cX7_printed 146 = .ok (.iadd, 1) := by decide +kernel
theorem dX7_printed_147 : decode cX7_printed 147 = .ok (.caload, 1) := by decide +kernel
theorem dX7_printed_148 : decode cX7_printed 148 = .ok (.ireturn, 1) := by decide +kernel
theorem dL_letter_0 : decode cL_letter 0 = .ok (.aload_n 2, 1) := by decide +kernel
theorem dL_letter_1 : decode cL_letter 1 = .ok (.iconst 0, 1) := by decide +kernel
theorem dL_letter_2 : decode cL_letter 2 = .ok (.aload_n 0, 1) := by decide +kernel
theorem dL_letter_3 : decode cL_letter 3 = .ok (.iload_n 1, 1) := by decide +kernel
theorem dL_letter_4 : decode cL_letter 4 = .ok (.invokevirtual 7, 3) := by decide +kernel
theorem dL_letter_7 : decode cL_letter 7 = .ok (.i2l, 1) := by decide +kernel
theorem dL_letter_8 : decode cL_letter 8 = .ok (.lastore, 1) := by decide +kernel
theorem dL_letter_9 : decode cL_letter 9 = .ok (.goto 9, 3) := by decide +kernel
theorem dL_letter_12 : decode cL_letter 12 = .ok (.astore_n 3, 1) := by decide +kernel
theorem dL_letter_13 : decode cL_letter 13 = .ok (.iconst 1, 1) := by decide +kernel
theorem dL_letter_14 : decode cL_letter 14 = .ok (.ireturn, 1) := by decide +kernel
theorem dL_letter_15 : decode cL_letter 15 = .ok (.astore_n 3, 1) := by decide +kernel
theorem dL_letter_16 : decode cL_letter 16 = .ok (.iconst 2, 1) := by decide +kernel
theorem dL_letter_17 : decode cL_letter 17 = .ok (.ireturn, 1) := by decide +kernel
theorem dL_letter_18 : decode cL_letter 18 = .ok (.iconst 0, 1) := by decide +kernel
theorem dL_letter_19 : decode cL_letter 19 = .ok (.ireturn, 1) := by decide +kernel
theorem dL_place_0 : decode cL_place 0 = .ok (.aload 4, 2) := by decide +kernel
theorem dL_place_2 : decode cL_place 2 = .ok (.iconst 0, 1) := by decide +kernel
theorem dL_place_3 : decode cL_place 3 = .ok (.aload_n 0, 1) := by decide +kernel
theorem dL_place_4 : decode cL_place 4 = .ok (.iload_n 1, 1) := by decide +kernel
theorem dL_place_5 : decode cL_place 5 = .ok (.iload_n 2, 1) := by decide +kernel
theorem dL_place_6 : decode cL_place 6 = .ok (.iload_n 3, 1) := by decide +kernel
theorem dL_place_7 : decode cL_place 7 = .ok (.invokevirtual 17, 3) := by decide +kernel
theorem dL_place_10 : decode cL_place 10 = .ok (.i2l, 1) := by decide +kernel
theorem dL_place_11 : decode cL_place 11 = .ok (.lastore, 1) := by decide +kernel
theorem dL_place_12 : decode cL_place 12 = .ok (.goto 11, 3) := by decide +kernel
theorem dL_place_15 : decode cL_place 15 = .ok (.astore 5, 2) := by decide +kernel
theorem dL_place_17 : decode cL_place 17 = .ok (.iconst 1, 1) := by decide +kernel
theorem dL_place_18 : decode cL_place 18 = .ok (.ireturn, 1) := by decide +kernel
theorem dL_place_19 : decode cL_place 19 = .ok (.astore 5, 2) := by decide +kernel
theorem dL_place_21 : decode cL_place 21 = .ok (.iconst 2, 1) := by decide +kernel
theorem dL_place_22 : decode cL_place 22 = .ok (.ireturn, 1) := by decide +kernel
theorem dL_place_23 : decode cL_place 23 = .ok (.iconst 0, 1) := by decide +kernel
theorem dL_place_24 : decode cL_place 24 = .ok (.ireturn, 1) := by decide +kernel
theorem dL_name_0 : decode cL_name 0 = .ok (.aload_n 2, 1) := by decide +kernel
theorem dL_name_1 : decode cL_name 1 = .ok (.iconst 0, 1) := by decide +kernel
theorem dL_name_2 : decode cL_name 2 = .ok (.aload_n 0, 1) := by decide +kernel
theorem dL_name_3 : decode cL_name 3 = .ok (.iload_n 1, 1) := by decide +kernel
theorem dL_name_4 : decode cL_name 4 = .ok (.invokevirtual 21, 3) := by decide +kernel
theorem dL_name_7 : decode cL_name 7 = .ok (.i2l, 1) := by decide +kernel
theorem dL_name_8 : decode cL_name 8 = .ok (.lastore, 1) := by decide +kernel
theorem dL_name_9 : decode cL_name 9 = .ok (.goto 9, 3) := by decide +kernel
theorem dL_name_12 : decode cL_name 12 = .ok (.astore_n 3, 1) := by decide +kernel
theorem dL_name_13 : decode cL_name 13 = .ok (.iconst 1, 1) := by decide +kernel
theorem dL_name_14 : decode cL_name 14 = .ok (.ireturn, 1) := by decide +kernel
theorem dL_name_15 : decode cL_name 15 = .ok (.astore_n 3, 1) := by decide +kernel
theorem dL_name_16 : decode cL_name 16 = .ok (.iconst 2, 1) := by decide +kernel
theorem dL_name_17 : decode cL_name 17 = .ok (.ireturn, 1) := by decide +kernel
theorem dL_name_18 : decode cL_name 18 = .ok (.iconst 0, 1) := by decide +kernel
theorem dL_name_19 : decode cL_name 19 = .ok (.ireturn, 1) := by decide +kernel
theorem dL_spelled_0 : decode cL_spelled 0 = .ok (.aload 4, 2) := by decide +kernel
theorem dL_spelled_2 : decode cL_spelled 2 = .ok (.iconst 0, 1) := by decide +kernel
theorem dL_spelled_3 : decode cL_spelled 3 = .ok (.aload_n 0, 1) := by decide +kernel
theorem dL_spelled_4 : decode cL_spelled 4 = .ok (.iload_n 1, 1) := by decide +kernel
theorem dL_spelled_5 : decode cL_spelled 5 = .ok (.iload_n 2, 1) := by decide +kernel
theorem dL_spelled_6 : decode cL_spelled 6 = .ok (.iload_n 3, 1) := by decide +kernel
theorem dL_spelled_7 : decode cL_spelled 7 = .ok (.invokevirtual 27, 3) := by decide +kernel
theorem dL_spelled_10 : decode cL_spelled 10 = .ok (.i2l, 1) := by decide +kernel
theorem dL_spelled_11 : decode cL_spelled 11 = .ok (.lastore, 1) := by decide +kernel
theorem dL_spelled_12 : decode cL_spelled 12 = .ok (.goto 11, 3) := by decide +kernel
theorem dL_spelled_15 : decode cL_spelled 15 = .ok (.astore 5, 2) := by decide +kernel
theorem dL_spelled_17 : decode cL_spelled 17 = .ok (.iconst 1, 1) := by decide +kernel
theorem dL_spelled_18 : decode cL_spelled 18 = .ok (.ireturn, 1) := by decide +kernel
theorem dL_spelled_19 : decode cL_spelled 19 = .ok (.astore 5, 2) := by decide +kernel
theorem dL_spelled_21 : decode cL_spelled 21 = .ok (.iconst 2, 1) := by decide +kernel
theorem dL_spelled_22 : decode cL_spelled 22 = .ok (.ireturn, 1) := by decide +kernel
theorem dL_spelled_23 : decode cL_spelled 23 = .ok (.iconst 0, 1) := by decide +kernel
theorem dL_spelled_24 : decode cL_spelled 24 = .ok (.ireturn, 1) := by decide +kernel
theorem dL_pass_0 : decode cL_pass 0 = .ok (.aload_n 2, 1) := by decide +kernel
theorem dL_pass_1 : decode cL_pass 1 = .ok (.iconst 0, 1) := by decide +kernel
theorem dL_pass_2 : decode cL_pass 2 = .ok (.aload_n 0, 1) := by decide +kernel
theorem dL_pass_3 : decode cL_pass 3 = .ok (.iload_n 1, 1) := by decide +kernel
theorem dL_pass_4 : decode cL_pass 4 = .ok (.invokevirtual 31, 3) := by decide +kernel
theorem dL_pass_7 : decode cL_pass 7 = .ok (.i2l, 1) := by decide +kernel
theorem dL_pass_8 : decode cL_pass 8 = .ok (.lastore, 1) := by decide +kernel
theorem dL_pass_9 : decode cL_pass 9 = .ok (.goto 9, 3) := by decide +kernel
theorem dL_pass_12 : decode cL_pass 12 = .ok (.astore_n 3, 1) := by decide +kernel
theorem dL_pass_13 : decode cL_pass 13 = .ok (.iconst 1, 1) := by decide +kernel
theorem dL_pass_14 : decode cL_pass 14 = .ok (.ireturn, 1) := by decide +kernel
theorem dL_pass_15 : decode cL_pass 15 = .ok (.astore_n 3, 1) := by decide +kernel
theorem dL_pass_16 : decode cL_pass 16 = .ok (.iconst 2, 1) := by decide +kernel
theorem dL_pass_17 : decode cL_pass 17 = .ok (.ireturn, 1) := by decide +kernel
theorem dL_pass_18 : decode cL_pass 18 = .ok (.iconst 0, 1) := by decide +kernel
theorem dL_pass_19 : decode cL_pass 19 = .ok (.ireturn, 1) := by decide +kernel
theorem dL_sheet_0 : decode cL_sheet 0 = .ok (.aload 4, 2) := by decide +kernel
theorem dL_sheet_2 : decode cL_sheet 2 = .ok (.iconst 0, 1) := by decide +kernel
theorem dL_sheet_3 : decode cL_sheet 3 = .ok (.aload_n 0, 1) := by decide +kernel
theorem dL_sheet_4 : decode cL_sheet 4 = .ok (.iload_n 1, 1) := by decide +kernel
theorem dL_sheet_5 : decode cL_sheet 5 = .ok (.iload_n 2, 1) := by decide +kernel
theorem dL_sheet_6 : decode cL_sheet 6 = .ok (.iload_n 3, 1) := by decide +kernel
theorem dL_sheet_7 : decode cL_sheet 7 = .ok (.invokevirtual 34, 3) := by decide +kernel
theorem dL_sheet_10 : decode cL_sheet 10 = .ok (.i2l, 1) := by decide +kernel
theorem dL_sheet_11 : decode cL_sheet 11 = .ok (.lastore, 1) := by decide +kernel
theorem dL_sheet_12 : decode cL_sheet 12 = .ok (.goto 11, 3) := by decide +kernel
theorem dL_sheet_15 : decode cL_sheet 15 = .ok (.astore 5, 2) := by decide +kernel
theorem dL_sheet_17 : decode cL_sheet 17 = .ok (.iconst 1, 1) := by decide +kernel
theorem dL_sheet_18 : decode cL_sheet 18 = .ok (.ireturn, 1) := by decide +kernel
theorem dL_sheet_19 : decode cL_sheet 19 = .ok (.astore 5, 2) := by decide +kernel
theorem dL_sheet_21 : decode cL_sheet 21 = .ok (.iconst 2, 1) := by decide +kernel
theorem dL_sheet_22 : decode cL_sheet 22 = .ok (.ireturn, 1) := by decide +kernel
theorem dL_sheet_23 : decode cL_sheet 23 = .ok (.iconst 0, 1) := by decide +kernel
theorem dL_sheet_24 : decode cL_sheet 24 = .ok (.ireturn, 1) := by decide +kernel
theorem dL_dot_0 : decode cL_dot 0 = .ok (.aload 4, 2) := by decide +kernel
theorem dL_dot_2 : decode cL_dot 2 = .ok (.iconst 0, 1) := by decide +kernel
theorem dL_dot_3 : decode cL_dot 3 = .ok (.aload_n 0, 1) := by decide +kernel
theorem dL_dot_4 : decode cL_dot 4 = .ok (.iload_n 1, 1) := by decide +kernel
theorem dL_dot_5 : decode cL_dot 5 = .ok (.iload_n 2, 1) := by decide +kernel
theorem dL_dot_6 : decode cL_dot 6 = .ok (.iload_n 3, 1) := by decide +kernel
theorem dL_dot_7 : decode cL_dot 7 = .ok (.invokevirtual 37, 3) := by decide +kernel
theorem dL_dot_10 : decode cL_dot 10 = .ok (.i2l, 1) := by decide +kernel
theorem dL_dot_11 : decode cL_dot 11 = .ok (.lastore, 1) := by decide +kernel
theorem dL_dot_12 : decode cL_dot 12 = .ok (.goto 7, 3) := by decide +kernel
theorem dL_dot_15 : decode cL_dot 15 = .ok (.astore 5, 2) := by decide +kernel
theorem dL_dot_17 : decode cL_dot 17 = .ok (.iconst 1, 1) := by decide +kernel
theorem dL_dot_18 : decode cL_dot 18 = .ok (.ireturn, 1) := by decide +kernel
theorem dL_dot_19 : decode cL_dot 19 = .ok (.iconst 0, 1) := by decide +kernel
theorem dL_dot_20 : decode cL_dot 20 = .ok (.ireturn, 1) := by decide +kernel
theorem dL_side_0 : decode cL_side 0 = .ok (.aload_n 3, 1) := by decide +kernel
theorem dL_side_1 : decode cL_side 1 = .ok (.iconst 0, 1) := by decide +kernel
theorem dL_side_2 : decode cL_side 2 = .ok (.aload_n 0, 1) := by decide +kernel
theorem dL_side_3 : decode cL_side 3 = .ok (.iload_n 1, 1) := by decide +kernel
theorem dL_side_4 : decode cL_side 4 = .ok (.iload_n 2, 1) := by decide +kernel
theorem dL_side_5 : decode cL_side 5 = .ok (.invokevirtual 41, 3) := by decide +kernel
theorem dL_side_8 : decode cL_side 8 = .ok (.i2l, 1) := by decide +kernel
theorem dL_side_9 : decode cL_side 9 = .ok (.lastore, 1) := by decide +kernel
theorem dL_side_10 : decode cL_side 10 = .ok (.goto 7, 3) := by decide +kernel
theorem dL_side_13 : decode cL_side 13 = .ok (.astore 4, 2) := by decide +kernel
theorem dL_side_15 : decode cL_side 15 = .ok (.iconst 1, 1) := by decide +kernel
theorem dL_side_16 : decode cL_side 16 = .ok (.ireturn, 1) := by decide +kernel
theorem dL_side_17 : decode cL_side 17 = .ok (.iconst 0, 1) := by decide +kernel
theorem dL_side_18 : decode cL_side 18 = .ok (.ireturn, 1) := by decide +kernel
theorem dL_drawn_0 : decode cL_drawn 0 = .ok (.aload 4, 2) := by decide +kernel
theorem dL_drawn_2 : decode cL_drawn 2 = .ok (.iconst 0, 1) := by decide +kernel
theorem dL_drawn_3 : decode cL_drawn 3 = .ok (.aload_n 0, 1) := by decide +kernel
theorem dL_drawn_4 : decode cL_drawn 4 = .ok (.iload_n 1, 1) := by decide +kernel
theorem dL_drawn_5 : decode cL_drawn 5 = .ok (.iload_n 2, 1) := by decide +kernel
theorem dL_drawn_6 : decode cL_drawn 6 = .ok (.iload_n 3, 1) := by decide +kernel
theorem dL_drawn_7 : decode cL_drawn 7 = .ok (.invokevirtual 45, 3) := by decide +kernel
theorem dL_drawn_10 : decode cL_drawn 10 = .ok (.i2l, 1) := by decide +kernel
theorem dL_drawn_11 : decode cL_drawn 11 = .ok (.lastore, 1) := by decide +kernel
theorem dL_drawn_12 : decode cL_drawn 12 = .ok (.goto 7, 3) := by decide +kernel
theorem dL_drawn_15 : decode cL_drawn 15 = .ok (.astore 5, 2) := by decide +kernel
theorem dL_drawn_17 : decode cL_drawn 17 = .ok (.iconst 1, 1) := by decide +kernel
theorem dL_drawn_18 : decode cL_drawn 18 = .ok (.ireturn, 1) := by decide +kernel
theorem dL_drawn_19 : decode cL_drawn 19 = .ok (.iconst 0, 1) := by decide +kernel
theorem dL_drawn_20 : decode cL_drawn 20 = .ok (.ireturn, 1) := by decide +kernel
theorem dL_worth_0 : decode cL_worth 0 = .ok (.aload_n 2, 1) := by decide +kernel
theorem dL_worth_1 : decode cL_worth 1 = .ok (.iconst 0, 1) := by decide +kernel
theorem dL_worth_2 : decode cL_worth 2 = .ok (.aload_n 0, 1) := by decide +kernel
theorem dL_worth_3 : decode cL_worth 3 = .ok (.iload_n 1, 1) := by decide +kernel
theorem dL_worth_4 : decode cL_worth 4 = .ok (.invokevirtual 48, 3) := by decide +kernel
theorem dL_worth_7 : decode cL_worth 7 = .ok (.i2l, 1) := by decide +kernel
theorem dL_worth_8 : decode cL_worth 8 = .ok (.lastore, 1) := by decide +kernel
theorem dL_worth_9 : decode cL_worth 9 = .ok (.goto 6, 3) := by decide +kernel
theorem dL_worth_12 : decode cL_worth 12 = .ok (.astore_n 3, 1) := by decide +kernel
theorem dL_worth_13 : decode cL_worth 13 = .ok (.iconst 1, 1) := by decide +kernel
theorem dL_worth_14 : decode cL_worth 14 = .ok (.ireturn, 1) := by decide +kernel
theorem dL_worth_15 : decode cL_worth 15 = .ok (.iconst 0, 1) := by decide +kernel
theorem dL_worth_16 : decode cL_worth 16 = .ok (.ireturn, 1) := by decide +kernel
theorem dL_best_0 : decode cL_best 0 = .ok (.aload_n 2, 1) := by decide +kernel
theorem dL_best_1 : decode cL_best 1 = .ok (.iconst 0, 1) := by decide +kernel
theorem dL_best_2 : decode cL_best 2 = .ok (.aload_n 0, 1) := by decide +kernel
theorem dL_best_3 : decode cL_best 3 = .ok (.iload_n 1, 1) := by decide +kernel
theorem dL_best_4 : decode cL_best 4 = .ok (.invokevirtual 51, 3) := by decide +kernel
theorem dL_best_7 : decode cL_best 7 = .ok (.i2l, 1) := by decide +kernel
theorem dL_best_8 : decode cL_best 8 = .ok (.lastore, 1) := by decide +kernel
theorem dL_best_9 : decode cL_best 9 = .ok (.goto 9, 3) := by decide +kernel
theorem dL_best_12 : decode cL_best 12 = .ok (.astore_n 3, 1) := by decide +kernel
theorem dL_best_13 : decode cL_best 13 = .ok (.iconst 1, 1) := by decide +kernel
theorem dL_best_14 : decode cL_best 14 = .ok (.ireturn, 1) := by decide +kernel
theorem dL_best_15 : decode cL_best 15 = .ok (.astore_n 3, 1) := by decide +kernel
theorem dL_best_16 : decode cL_best 16 = .ok (.iconst 2, 1) := by decide +kernel
theorem dL_best_17 : decode cL_best 17 = .ok (.ireturn, 1) := by decide +kernel
theorem dL_best_18 : decode cL_best 18 = .ok (.iconst 0, 1) := by decide +kernel
theorem dL_best_19 : decode cL_best 19 = .ok (.ireturn, 1) := by decide +kernel
theorem dL_print_0 : decode cL_print 0 = .ok (.aload_n 1, 1) := by decide +kernel
theorem dL_print_1 : decode cL_print 1 = .ok (.iconst 0, 1) := by decide +kernel
theorem dL_print_2 : decode cL_print 2 = .ok (.aload_n 0, 1) := by decide +kernel
theorem dL_print_3 : decode cL_print 3 = .ok (.invokevirtual 54, 3) := by decide +kernel
theorem dL_print_6 : decode cL_print 6 = .ok (.i2l, 1) := by decide +kernel
theorem dL_print_7 : decode cL_print 7 = .ok (.lastore, 1) := by decide +kernel
theorem dL_print_8 : decode cL_print 8 = .ok (.goto 6, 3) := by decide +kernel
theorem dL_print_11 : decode cL_print 11 = .ok (.astore_n 2, 1) := by decide +kernel
theorem dL_print_12 : decode cL_print 12 = .ok (.iconst 1, 1) := by decide +kernel
theorem dL_print_13 : decode cL_print 13 = .ok (.ireturn, 1) := by decide +kernel
theorem dL_print_14 : decode cL_print 14 = .ok (.iconst 0, 1) := by decide +kernel
theorem dL_print_15 : decode cL_print 15 = .ok (.ireturn, 1) := by decide +kernel
theorem dL_printed_0 : decode cL_printed 0 = .ok (.aload 5, 2) := by decide +kernel
theorem dL_printed_2 : decode cL_printed 2 = .ok (.iconst 0, 1) := by decide +kernel
theorem dL_printed_3 : decode cL_printed 3 = .ok (.aload_n 0, 1) := by decide +kernel
theorem dL_printed_4 : decode cL_printed 4 = .ok (.iload_n 1, 1) := by decide +kernel
theorem dL_printed_5 : decode cL_printed 5 = .ok (.iload_n 2, 1) := by decide +kernel
theorem dL_printed_6 : decode cL_printed 6 = .ok (.iload_n 3, 1) := by decide +kernel
theorem dL_printed_7 : decode cL_printed 7 = .ok (.iload 4, 2) := by decide +kernel
theorem dL_printed_9 : decode cL_printed 9 = .ok (.invokevirtual 58, 3) := by decide +kernel
theorem dL_printed_12 : decode cL_printed 12 = .ok (.i2l, 1) := by decide +kernel
theorem dL_printed_13 : decode cL_printed 13 = .ok (.lastore, 1) := by decide +kernel
theorem dL_printed_14 : decode cL_printed 14 = .ok (.goto 7, 3) := by decide +kernel
theorem dL_printed_17 : decode cL_printed 17 = .ok (.astore 6, 2) := by decide +kernel
theorem dL_printed_19 : decode cL_printed 19 = .ok (.iconst 1, 1) := by decide +kernel
theorem dL_printed_20 : decode cL_printed 20 = .ok (.ireturn, 1) := by decide +kernel
theorem dL_printed_21 : decode cL_printed 21 = .ok (.iconst 0, 1) := by decide +kernel
theorem dL_printed_22 : decode cL_printed 22 = .ok (.ireturn, 1) := by decide +kernel
theorem dL_law_0 : decode cL_law 0 = .ok (.new 8, 3) := by decide +kernel
theorem dL_law_3 : decode cL_law 3 = .ok (.dup, 1) := by decide +kernel
theorem dL_law_4 : decode cL_law 4 = .ok (.invokespecial 62, 3) := by decide +kernel
theorem dL_law_7 : decode cL_law 7 = .ok (.astore_n 1, 1) := by decide +kernel
theorem dL_law_8 : decode cL_law 8 = .ok (.new 63, 3) := by decide +kernel
theorem dL_law_11 : decode cL_law 11 = .ok (.dup, 1) := by decide +kernel
theorem dL_law_12 : decode cL_law 12 = .ok (.invokespecial 65, 3) := by decide +kernel
theorem dL_law_15 : decode cL_law 15 = .ok (.astore_n 2, 1) := by decide +kernel
theorem dL_law_16 : decode cL_law 16 = .ok (.iconst 1, 1) := by decide +kernel
theorem dL_law_17 : decode cL_law 17 = .ok (.newarray .long, 2) := by decide +kernel
theorem dL_law_19 : decode cL_law 19 = .ok (.astore_n 3, 1) := by decide +kernel
theorem dL_law_20 : decode cL_law 20 = .ok (.iconst 0, 1) := by decide +kernel
theorem dL_law_21 : decode cL_law 21 = .ok (.istore 4, 2) := by decide +kernel
theorem dL_law_23 : decode cL_law 23 = .ok (.iload 4, 2) := by decide +kernel
theorem dL_law_25 : decode cL_law 25 = .ok (.aload_n 0, 1) := by decide +kernel
theorem dL_law_26 : decode cL_law 26 = .ok (.arraylength, 1) := by decide +kernel
theorem dL_law_27 : decode cL_law 27 = .ok (.iconst 5, 1) := by decide +kernel
theorem dL_law_28 : decode cL_law 28 = .ok (.isub, 1) := by decide +kernel
theorem dL_law_29 : decode cL_law 29 = .ok (.if_icmp .gt 983, 3) := by decide +kernel
theorem dL_law_32 : decode cL_law 32 = .ok (.aload_n 0, 1) := by decide +kernel
theorem dL_law_33 : decode cL_law 33 = .ok (.iload 4, 2) := by decide +kernel
theorem dL_law_35 : decode cL_law 35 = .ok (.iaload, 1) := by decide +kernel
theorem dL_law_36 : decode cL_law 36 = .ok (.bipush 15, 2) := by decide +kernel
theorem dL_law_38 : decode cL_law 38 = .ok (.iand, 1) := by decide +kernel
theorem dL_law_39 : decode cL_law 39 = .ok (.tableswitch 967 0 12 #[65, 123, 203, 259, 339, 395, 475, 571, 639, 719, 775, 831, 875], 65) := by decide +kernel
theorem dL_law_104 : decode cL_law 104 = .ok (.aload_n 1, 1) := by decide +kernel
theorem dL_law_105 : decode cL_law 105 = .ok (.aload_n 0, 1) := by decide +kernel
theorem dL_law_106 : decode cL_law 106 = .ok (.iload 4, 2) := by decide +kernel
theorem dL_law_108 : decode cL_law 108 = .ok (.iconst 1, 1) := by decide +kernel
theorem dL_law_109 : decode cL_law 109 = .ok (.iadd, 1) := by decide +kernel
theorem dL_law_110 : decode cL_law 110 = .ok (.iaload, 1) := by decide +kernel
theorem dL_law_111 : decode cL_law 111 = .ok (.i2c, 1) := by decide +kernel
theorem dL_law_112 : decode cL_law 112 = .ok (.aload_n 3, 1) := by decide +kernel
theorem dL_law_113 : decode cL_law 113 = .ok (.invokestatic 66, 3) := by decide +kernel
theorem dL_law_116 : decode cL_law 116 = .ok (.istore 5, 2) := by decide +kernel
theorem dL_law_118 : decode cL_law 118 = .ok (.aload_n 2, 1) := by decide +kernel
theorem dL_law_119 : decode cL_law 119 = .ok (.aload_n 0, 1) := by decide +kernel
theorem dL_law_120 : decode cL_law 120 = .ok (.iload 4, 2) := by decide +kernel
theorem dL_law_122 : decode cL_law 122 = .ok (.iconst 1, 1) := by decide +kernel
theorem dL_law_123 : decode cL_law 123 = .ok (.iadd, 1) := by decide +kernel
theorem dL_law_124 : decode cL_law 124 = .ok (.iaload, 1) := by decide +kernel
theorem dL_law_125 : decode cL_law 125 = .ok (.i2c, 1) := by decide +kernel
theorem dL_law_126 : decode cL_law 126 = .ok (.invokevirtual 71, 3) := by decide +kernel
theorem dL_law_129 : decode cL_law 129 = .ok (.istore 6, 2) := by decide +kernel
theorem dL_law_131 : decode cL_law 131 = .ok (.aload_n 2, 1) := by decide +kernel
theorem dL_law_132 : decode cL_law 132 = .ok (.invokevirtual 72, 3) := by decide +kernel
theorem dL_law_135 : decode cL_law 135 = .ok (.iload 5, 2) := by decide +kernel
theorem dL_law_137 : decode cL_law 137 = .ok (.if_icmp .eq 5, 3) := by decide +kernel
theorem dL_law_140 : decode cL_law 140 = .ok (.iconst 0, 1) := by decide +kernel
theorem dL_law_141 : decode cL_law 141 = .ok (.ireturn, 1) := by decide +kernel
theorem dL_law_142 : decode cL_law 142 = .ok (.iload 5, 2) := by decide +kernel
theorem dL_law_144 : decode cL_law 144 = .ok (.ifCond .ne 15, 3) := by decide +kernel
theorem dL_law_147 : decode cL_law 147 = .ok (.aload_n 3, 1) := by decide +kernel
theorem dL_law_148 : decode cL_law 148 = .ok (.iconst 0, 1) := by decide +kernel
theorem dL_law_149 : decode cL_law 149 = .ok (.laload, 1) := by decide +kernel
theorem dL_law_150 : decode cL_law 150 = .ok (.iload 6, 2) := by decide +kernel
theorem dL_law_152 : decode cL_law 152 = .ok (.i2l, 1) := by decide +kernel
theorem dL_law_153 : decode cL_law 153 = .ok (.lcmp, 1) := by decide +kernel
theorem dL_law_154 : decode cL_law 154 = .ok (.ifCond .eq 5, 3) := by decide +kernel
theorem dL_law_157 : decode cL_law 157 = .ok (.iconst 0, 1) := by decide +kernel
theorem dL_law_158 : decode cL_law 158 = .ok (.ireturn, 1) := by decide +kernel
theorem dL_law_159 : decode cL_law 159 = .ok (.goto 847, 3) := by decide +kernel
theorem dL_law_162 : decode cL_law 162 = .ok (.aload_n 1, 1) := by decide +kernel
theorem dL_law_163 : decode cL_law 163 = .ok (.aload_n 0, 1) := by decide +kernel
theorem dL_law_164 : decode cL_law 164 = .ok (.iload 4, 2) := by decide +kernel
theorem dL_law_166 : decode cL_law 166 = .ok (.iconst 1, 1) := by decide +kernel
theorem dL_law_167 : decode cL_law 167 = .ok (.iadd, 1) := by decide +kernel
theorem dL_law_168 : decode cL_law 168 = .ok (.iaload, 1) := by decide +kernel
theorem dL_law_169 : decode cL_law 169 = .ok (.aload_n 0, 1) := by decide +kernel
theorem dL_law_170 : decode cL_law 170 = .ok (.iload 4, 2) := by decide +kernel
theorem dL_law_172 : decode cL_law 172 = .ok (.iconst 2, 1) := by decide +kernel
theorem dL_law_173 : decode cL_law 173 = .ok (.iadd, 1) := by decide +kernel
theorem dL_law_174 : decode cL_law 174 = .ok (.iaload, 1) := by decide +kernel
theorem dL_law_175 : decode cL_law 175 = .ok (.aload_n 0, 1) := by decide +kernel
theorem dL_law_176 : decode cL_law 176 = .ok (.iload 4, 2) := by decide +kernel
theorem dL_law_178 : decode cL_law 178 = .ok (.iconst 3, 1) := by decide +kernel
theorem dL_law_179 : decode cL_law 179 = .ok (.iadd, 1) := by decide +kernel
theorem dL_law_180 : decode cL_law 180 = .ok (.iaload, 1) := by decide +kernel
theorem dL_law_181 : decode cL_law 181 = .ok (.aload_n 3, 1) := by decide +kernel
theorem dL_law_182 : decode cL_law 182 = .ok (.invokestatic 75, 3) := by decide +kernel
theorem dL_law_185 : decode cL_law 185 = .ok (.istore 5, 2) := by decide +kernel
theorem dL_law_187 : decode cL_law 187 = .ok (.aload_n 2, 1) := by decide +kernel
theorem dL_law_188 : decode cL_law 188 = .ok (.aload_n 0, 1) := by decide +kernel
theorem dL_law_189 : decode cL_law 189 = .ok (.iload 4, 2) := by decide +kernel
theorem dL_law_191 : decode cL_law 191 = .ok (.iconst 1, 1) := by decide +kernel
theorem dL_law_192 : decode cL_law 192 = .ok (.iadd, 1) := by decide +kernel
theorem dL_law_193 : decode cL_law 193 = .ok (.iaload, 1) := by decide +kernel
theorem dL_law_194 : decode cL_law 194 = .ok (.aload_n 0, 1) := by decide +kernel
theorem dL_law_195 : decode cL_law 195 = .ok (.iload 4, 2) := by decide +kernel
theorem dL_law_197 : decode cL_law 197 = .ok (.iconst 2, 1) := by decide +kernel
theorem dL_law_198 : decode cL_law 198 = .ok (.iadd, 1) := by decide +kernel
theorem dL_law_199 : decode cL_law 199 = .ok (.iaload, 1) := by decide +kernel
theorem dL_law_200 : decode cL_law 200 = .ok (.aload_n 0, 1) := by decide +kernel
theorem dL_law_201 : decode cL_law 201 = .ok (.iload 4, 2) := by decide +kernel
theorem dL_law_203 : decode cL_law 203 = .ok (.iconst 3, 1) := by decide +kernel
theorem dL_law_204 : decode cL_law 204 = .ok (.iadd, 1) := by decide +kernel
theorem dL_law_205 : decode cL_law 205 = .ok (.iaload, 1) := by decide +kernel
theorem dL_law_206 : decode cL_law 206 = .ok (.invokevirtual 78, 3) := by decide +kernel
theorem dL_law_209 : decode cL_law 209 = .ok (.istore 6, 2) := by decide +kernel
theorem dL_law_211 : decode cL_law 211 = .ok (.aload_n 2, 1) := by decide +kernel
theorem dL_law_212 : decode cL_law 212 = .ok (.invokevirtual 72, 3) := by decide +kernel
theorem dL_law_215 : decode cL_law 215 = .ok (.iload 5, 2) := by decide +kernel
theorem dL_law_217 : decode cL_law 217 = .ok (.if_icmp .eq 5, 3) := by decide +kernel
theorem dL_law_220 : decode cL_law 220 = .ok (.iconst 0, 1) := by decide +kernel
theorem dL_law_221 : decode cL_law 221 = .ok (.ireturn, 1) := by decide +kernel
theorem dL_law_222 : decode cL_law 222 = .ok (.iload 5, 2) := by decide +kernel
theorem dL_law_224 : decode cL_law 224 = .ok (.ifCond .ne 15, 3) := by decide +kernel
theorem dL_law_227 : decode cL_law 227 = .ok (.aload_n 3, 1) := by decide +kernel
theorem dL_law_228 : decode cL_law 228 = .ok (.iconst 0, 1) := by decide +kernel
theorem dL_law_229 : decode cL_law 229 = .ok (.laload, 1) := by decide +kernel
theorem dL_law_230 : decode cL_law 230 = .ok (.iload 6, 2) := by decide +kernel
theorem dL_law_232 : decode cL_law 232 = .ok (.i2l, 1) := by decide +kernel
theorem dL_law_233 : decode cL_law 233 = .ok (.lcmp, 1) := by decide +kernel
theorem dL_law_234 : decode cL_law 234 = .ok (.ifCond .eq 5, 3) := by decide +kernel
theorem dL_law_237 : decode cL_law 237 = .ok (.iconst 0, 1) := by decide +kernel
theorem dL_law_238 : decode cL_law 238 = .ok (.ireturn, 1) := by decide +kernel
theorem dL_law_239 : decode cL_law 239 = .ok (.goto 767, 3) := by decide +kernel
theorem dL_law_242 : decode cL_law 242 = .ok (.aload_n 1, 1) := by decide +kernel
theorem dL_law_243 : decode cL_law 243 = .ok (.aload_n 0, 1) := by decide +kernel
theorem dL_law_244 : decode cL_law 244 = .ok (.iload 4, 2) := by decide +kernel
theorem dL_law_246 : decode cL_law 246 = .ok (.iconst 1, 1) := by decide +kernel
theorem dL_law_247 : decode cL_law 247 = .ok (.iadd, 1) := by decide +kernel
theorem dL_law_248 : decode cL_law 248 = .ok (.iaload, 1) := by decide +kernel
theorem dL_law_249 : decode cL_law 249 = .ok (.aload_n 3, 1) := by decide +kernel
theorem dL_law_250 : decode cL_law 250 = .ok (.invokestatic 79, 3) := by decide +kernel
theorem dL_law_253 : decode cL_law 253 = .ok (.istore 5, 2) := by decide +kernel
theorem dL_law_255 : decode cL_law 255 = .ok (.aload_n 2, 1) := by decide +kernel
theorem dL_law_256 : decode cL_law 256 = .ok (.aload_n 0, 1) := by decide +kernel
theorem dL_law_257 : decode cL_law 257 = .ok (.iload 4, 2) := by decide +kernel
theorem dL_law_259 : decode cL_law 259 = .ok (.iconst 1, 1) := by decide +kernel
theorem dL_law_260 : decode cL_law 260 = .ok (.iadd, 1) := by decide +kernel
theorem dL_law_261 : decode cL_law 261 = .ok (.iaload, 1) := by decide +kernel
theorem dL_law_262 : decode cL_law 262 = .ok (.invokevirtual 82, 3) := by decide +kernel
theorem dL_law_265 : decode cL_law 265 = .ok (.istore 6, 2) := by decide +kernel
theorem dL_law_267 : decode cL_law 267 = .ok (.aload_n 2, 1) := by decide +kernel
theorem dL_law_268 : decode cL_law 268 = .ok (.invokevirtual 72, 3) := by decide +kernel
theorem dL_law_271 : decode cL_law 271 = .ok (.iload 5, 2) := by decide +kernel
theorem dL_law_273 : decode cL_law 273 = .ok (.if_icmp .eq 5, 3) := by decide +kernel
theorem dL_law_276 : decode cL_law 276 = .ok (.iconst 0, 1) := by decide +kernel
theorem dL_law_277 : decode cL_law 277 = .ok (.ireturn, 1) := by decide +kernel
theorem dL_law_278 : decode cL_law 278 = .ok (.iload 5, 2) := by decide +kernel
theorem dL_law_280 : decode cL_law 280 = .ok (.ifCond .ne 15, 3) := by decide +kernel
theorem dL_law_283 : decode cL_law 283 = .ok (.aload_n 3, 1) := by decide +kernel
theorem dL_law_284 : decode cL_law 284 = .ok (.iconst 0, 1) := by decide +kernel
theorem dL_law_285 : decode cL_law 285 = .ok (.laload, 1) := by decide +kernel
theorem dL_law_286 : decode cL_law 286 = .ok (.iload 6, 2) := by decide +kernel
theorem dL_law_288 : decode cL_law 288 = .ok (.i2l, 1) := by decide +kernel
theorem dL_law_289 : decode cL_law 289 = .ok (.lcmp, 1) := by decide +kernel
theorem dL_law_290 : decode cL_law 290 = .ok (.ifCond .eq 5, 3) := by decide +kernel
theorem dL_law_293 : decode cL_law 293 = .ok (.iconst 0, 1) := by decide +kernel
theorem dL_law_294 : decode cL_law 294 = .ok (.ireturn, 1) := by decide +kernel
theorem dL_law_295 : decode cL_law 295 = .ok (.goto 711, 3) := by decide +kernel
theorem dL_law_298 : decode cL_law 298 = .ok (.aload_n 1, 1) := by decide +kernel
theorem dL_law_299 : decode cL_law 299 = .ok (.aload_n 0, 1) := by decide +kernel
theorem dL_law_300 : decode cL_law 300 = .ok (.iload 4, 2) := by decide +kernel
theorem dL_law_302 : decode cL_law 302 = .ok (.iconst 1, 1) := by decide +kernel
theorem dL_law_303 : decode cL_law 303 = .ok (.iadd, 1) := by decide +kernel
theorem dL_law_304 : decode cL_law 304 = .ok (.iaload, 1) := by decide +kernel
theorem dL_law_305 : decode cL_law 305 = .ok (.aload_n 0, 1) := by decide +kernel
theorem dL_law_306 : decode cL_law 306 = .ok (.iload 4, 2) := by decide +kernel
theorem dL_law_308 : decode cL_law 308 = .ok (.iconst 2, 1) := by decide +kernel
theorem dL_law_309 : decode cL_law 309 = .ok (.iadd, 1) := by decide +kernel
theorem dL_law_310 : decode cL_law 310 = .ok (.iaload, 1) := by decide +kernel
theorem dL_law_311 : decode cL_law 311 = .ok (.aload_n 0, 1) := by decide +kernel
theorem dL_law_312 : decode cL_law 312 = .ok (.iload 4, 2) := by decide +kernel
theorem dL_law_314 : decode cL_law 314 = .ok (.iconst 3, 1) := by decide +kernel
theorem dL_law_315 : decode cL_law 315 = .ok (.iadd, 1) := by decide +kernel
theorem dL_law_316 : decode cL_law 316 = .ok (.iaload, 1) := by decide +kernel
theorem dL_law_317 : decode cL_law 317 = .ok (.aload_n 3, 1) := by decide +kernel
theorem dL_law_318 : decode cL_law 318 = .ok (.invokestatic 83, 3) := by decide +kernel
theorem dL_law_321 : decode cL_law 321 = .ok (.istore 5, 2) := by decide +kernel
theorem dL_law_323 : decode cL_law 323 = .ok (.aload_n 2, 1) := by decide +kernel
theorem dL_law_324 : decode cL_law 324 = .ok (.aload_n 0, 1) := by decide +kernel
theorem dL_law_325 : decode cL_law 325 = .ok (.iload 4, 2) := by decide +kernel
theorem dL_law_327 : decode cL_law 327 = .ok (.iconst 1, 1) := by decide +kernel
theorem dL_law_328 : decode cL_law 328 = .ok (.iadd, 1) := by decide +kernel
theorem dL_law_329 : decode cL_law 329 = .ok (.iaload, 1) := by decide +kernel
theorem dL_law_330 : decode cL_law 330 = .ok (.aload_n 0, 1) := by decide +kernel
theorem dL_law_331 : decode cL_law 331 = .ok (.iload 4, 2) := by decide +kernel
theorem dL_law_333 : decode cL_law 333 = .ok (.iconst 2, 1) := by decide +kernel
theorem dL_law_334 : decode cL_law 334 = .ok (.iadd, 1) := by decide +kernel
theorem dL_law_335 : decode cL_law 335 = .ok (.iaload, 1) := by decide +kernel
theorem dL_law_336 : decode cL_law 336 = .ok (.aload_n 0, 1) := by decide +kernel
theorem dL_law_337 : decode cL_law 337 = .ok (.iload 4, 2) := by decide +kernel
theorem dL_law_339 : decode cL_law 339 = .ok (.iconst 3, 1) := by decide +kernel
theorem dL_law_340 : decode cL_law 340 = .ok (.iadd, 1) := by decide +kernel
theorem dL_law_341 : decode cL_law 341 = .ok (.iaload, 1) := by decide +kernel
theorem dL_law_342 : decode cL_law 342 = .ok (.invokevirtual 85, 3) := by decide +kernel
theorem dL_law_345 : decode cL_law 345 = .ok (.istore 6, 2) := by decide +kernel
theorem dL_law_347 : decode cL_law 347 = .ok (.aload_n 2, 1) := by decide +kernel
theorem dL_law_348 : decode cL_law 348 = .ok (.invokevirtual 72, 3) := by decide +kernel
theorem dL_law_351 : decode cL_law 351 = .ok (.iload 5, 2) := by decide +kernel
theorem dL_law_353 : decode cL_law 353 = .ok (.if_icmp .eq 5, 3) := by decide +kernel
theorem dL_law_356 : decode cL_law 356 = .ok (.iconst 0, 1) := by decide +kernel
theorem dL_law_357 : decode cL_law 357 = .ok (.ireturn, 1) := by decide +kernel
theorem dL_law_358 : decode cL_law 358 = .ok (.iload 5, 2) := by decide +kernel
theorem dL_law_360 : decode cL_law 360 = .ok (.ifCond .ne 15, 3) := by decide +kernel
theorem dL_law_363 : decode cL_law 363 = .ok (.aload_n 3, 1) := by decide +kernel
theorem dL_law_364 : decode cL_law 364 = .ok (.iconst 0, 1) := by decide +kernel
theorem dL_law_365 : decode cL_law 365 = .ok (.laload, 1) := by decide +kernel
theorem dL_law_366 : decode cL_law 366 = .ok (.iload 6, 2) := by decide +kernel
theorem dL_law_368 : decode cL_law 368 = .ok (.i2l, 1) := by decide +kernel
theorem dL_law_369 : decode cL_law 369 = .ok (.lcmp, 1) := by decide +kernel
theorem dL_law_370 : decode cL_law 370 = .ok (.ifCond .eq 5, 3) := by decide +kernel
theorem dL_law_373 : decode cL_law 373 = .ok (.iconst 0, 1) := by decide +kernel
theorem dL_law_374 : decode cL_law 374 = .ok (.ireturn, 1) := by decide +kernel
theorem dL_law_375 : decode cL_law 375 = .ok (.goto 631, 3) := by decide +kernel
theorem dL_law_378 : decode cL_law 378 = .ok (.aload_n 1, 1) := by decide +kernel
theorem dL_law_379 : decode cL_law 379 = .ok (.aload_n 0, 1) := by decide +kernel
theorem dL_law_380 : decode cL_law 380 = .ok (.iload 4, 2) := by decide +kernel
theorem dL_law_382 : decode cL_law 382 = .ok (.iconst 1, 1) := by decide +kernel
theorem dL_law_383 : decode cL_law 383 = .ok (.iadd, 1) := by decide +kernel
theorem dL_law_384 : decode cL_law 384 = .ok (.iaload, 1) := by decide +kernel
theorem dL_law_385 : decode cL_law 385 = .ok (.aload_n 3, 1) := by decide +kernel
theorem dL_law_386 : decode cL_law 386 = .ok (.invokestatic 86, 3) := by decide +kernel
theorem dL_law_389 : decode cL_law 389 = .ok (.istore 5, 2) := by decide +kernel
theorem dL_law_391 : decode cL_law 391 = .ok (.aload_n 2, 1) := by decide +kernel
theorem dL_law_392 : decode cL_law 392 = .ok (.aload_n 0, 1) := by decide +kernel
theorem dL_law_393 : decode cL_law 393 = .ok (.iload 4, 2) := by decide +kernel
theorem dL_law_395 : decode cL_law 395 = .ok (.iconst 1, 1) := by decide +kernel
theorem dL_law_396 : decode cL_law 396 = .ok (.iadd, 1) := by decide +kernel
theorem dL_law_397 : decode cL_law 397 = .ok (.iaload, 1) := by decide +kernel
theorem dL_law_398 : decode cL_law 398 = .ok (.invokevirtual 88, 3) := by decide +kernel
theorem dL_law_401 : decode cL_law 401 = .ok (.istore 6, 2) := by decide +kernel
theorem dL_law_403 : decode cL_law 403 = .ok (.aload_n 2, 1) := by decide +kernel
theorem dL_law_404 : decode cL_law 404 = .ok (.invokevirtual 72, 3) := by decide +kernel
theorem dL_law_407 : decode cL_law 407 = .ok (.iload 5, 2) := by decide +kernel
theorem dL_law_409 : decode cL_law 409 = .ok (.if_icmp .eq 5, 3) := by decide +kernel
theorem dL_law_412 : decode cL_law 412 = .ok (.iconst 0, 1) := by decide +kernel
theorem dL_law_413 : decode cL_law 413 = .ok (.ireturn, 1) := by decide +kernel
theorem dL_law_414 : decode cL_law 414 = .ok (.iload 5, 2) := by decide +kernel
theorem dL_law_416 : decode cL_law 416 = .ok (.ifCond .ne 15, 3) := by decide +kernel
theorem dL_law_419 : decode cL_law 419 = .ok (.aload_n 3, 1) := by decide +kernel
theorem dL_law_420 : decode cL_law 420 = .ok (.iconst 0, 1) := by decide +kernel
theorem dL_law_421 : decode cL_law 421 = .ok (.laload, 1) := by decide +kernel
theorem dL_law_422 : decode cL_law 422 = .ok (.iload 6, 2) := by decide +kernel
theorem dL_law_424 : decode cL_law 424 = .ok (.i2l, 1) := by decide +kernel
theorem dL_law_425 : decode cL_law 425 = .ok (.lcmp, 1) := by decide +kernel
theorem dL_law_426 : decode cL_law 426 = .ok (.ifCond .eq 5, 3) := by decide +kernel
theorem dL_law_429 : decode cL_law 429 = .ok (.iconst 0, 1) := by decide +kernel
theorem dL_law_430 : decode cL_law 430 = .ok (.ireturn, 1) := by decide +kernel
theorem dL_law_431 : decode cL_law 431 = .ok (.goto 575, 3) := by decide +kernel
theorem dL_law_434 : decode cL_law 434 = .ok (.aload_n 1, 1) := by decide +kernel
theorem dL_law_435 : decode cL_law 435 = .ok (.aload_n 0, 1) := by decide +kernel
theorem dL_law_436 : decode cL_law 436 = .ok (.iload 4, 2) := by decide +kernel
theorem dL_law_438 : decode cL_law 438 = .ok (.iconst 1, 1) := by decide +kernel
theorem dL_law_439 : decode cL_law 439 = .ok (.iadd, 1) := by decide +kernel
theorem dL_law_440 : decode cL_law 440 = .ok (.iaload, 1) := by decide +kernel
theorem dL_law_441 : decode cL_law 441 = .ok (.aload_n 0, 1) := by decide +kernel
theorem dL_law_442 : decode cL_law 442 = .ok (.iload 4, 2) := by decide +kernel
theorem dL_law_444 : decode cL_law 444 = .ok (.iconst 2, 1) := by decide +kernel
theorem dL_law_445 : decode cL_law 445 = .ok (.iadd, 1) := by decide +kernel
theorem dL_law_446 : decode cL_law 446 = .ok (.iaload, 1) := by decide +kernel
theorem dL_law_447 : decode cL_law 447 = .ok (.aload_n 0, 1) := by decide +kernel
theorem dL_law_448 : decode cL_law 448 = .ok (.iload 4, 2) := by decide +kernel
theorem dL_law_450 : decode cL_law 450 = .ok (.iconst 3, 1) := by decide +kernel
theorem dL_law_451 : decode cL_law 451 = .ok (.iadd, 1) := by decide +kernel
theorem dL_law_452 : decode cL_law 452 = .ok (.iaload, 1) := by decide +kernel
theorem dL_law_453 : decode cL_law 453 = .ok (.aload_n 3, 1) := by decide +kernel
theorem dL_law_454 : decode cL_law 454 = .ok (.invokestatic 89, 3) := by decide +kernel
theorem dL_law_457 : decode cL_law 457 = .ok (.istore 5, 2) := by decide +kernel
theorem dL_law_459 : decode cL_law 459 = .ok (.aload_n 2, 1) := by decide +kernel
theorem dL_law_460 : decode cL_law 460 = .ok (.aload_n 0, 1) := by decide +kernel
theorem dL_law_461 : decode cL_law 461 = .ok (.iload 4, 2) := by decide +kernel
theorem dL_law_463 : decode cL_law 463 = .ok (.iconst 1, 1) := by decide +kernel
theorem dL_law_464 : decode cL_law 464 = .ok (.iadd, 1) := by decide +kernel
theorem dL_law_465 : decode cL_law 465 = .ok (.iaload, 1) := by decide +kernel
theorem dL_law_466 : decode cL_law 466 = .ok (.aload_n 0, 1) := by decide +kernel
theorem dL_law_467 : decode cL_law 467 = .ok (.iload 4, 2) := by decide +kernel
theorem dL_law_469 : decode cL_law 469 = .ok (.iconst 2, 1) := by decide +kernel
theorem dL_law_470 : decode cL_law 470 = .ok (.iadd, 1) := by decide +kernel
theorem dL_law_471 : decode cL_law 471 = .ok (.iaload, 1) := by decide +kernel
theorem dL_law_472 : decode cL_law 472 = .ok (.aload_n 0, 1) := by decide +kernel
theorem dL_law_473 : decode cL_law 473 = .ok (.iload 4, 2) := by decide +kernel
theorem dL_law_475 : decode cL_law 475 = .ok (.iconst 3, 1) := by decide +kernel
theorem dL_law_476 : decode cL_law 476 = .ok (.iadd, 1) := by decide +kernel
theorem dL_law_477 : decode cL_law 477 = .ok (.iaload, 1) := by decide +kernel
theorem dL_law_478 : decode cL_law 478 = .ok (.invokevirtual 91, 3) := by decide +kernel
theorem dL_law_481 : decode cL_law 481 = .ok (.istore 6, 2) := by decide +kernel
theorem dL_law_483 : decode cL_law 483 = .ok (.aload_n 2, 1) := by decide +kernel
theorem dL_law_484 : decode cL_law 484 = .ok (.invokevirtual 72, 3) := by decide +kernel
theorem dL_law_487 : decode cL_law 487 = .ok (.iload 5, 2) := by decide +kernel
theorem dL_law_489 : decode cL_law 489 = .ok (.if_icmp .eq 5, 3) := by decide +kernel
theorem dL_law_492 : decode cL_law 492 = .ok (.iconst 0, 1) := by decide +kernel
theorem dL_law_493 : decode cL_law 493 = .ok (.ireturn, 1) := by decide +kernel
theorem dL_law_494 : decode cL_law 494 = .ok (.iload 5, 2) := by decide +kernel
theorem dL_law_496 : decode cL_law 496 = .ok (.ifCond .ne 15, 3) := by decide +kernel
theorem dL_law_499 : decode cL_law 499 = .ok (.aload_n 3, 1) := by decide +kernel
theorem dL_law_500 : decode cL_law 500 = .ok (.iconst 0, 1) := by decide +kernel
theorem dL_law_501 : decode cL_law 501 = .ok (.laload, 1) := by decide +kernel
theorem dL_law_502 : decode cL_law 502 = .ok (.iload 6, 2) := by decide +kernel
theorem dL_law_504 : decode cL_law 504 = .ok (.i2l, 1) := by decide +kernel
theorem dL_law_505 : decode cL_law 505 = .ok (.lcmp, 1) := by decide +kernel
theorem dL_law_506 : decode cL_law 506 = .ok (.ifCond .eq 5, 3) := by decide +kernel
theorem dL_law_509 : decode cL_law 509 = .ok (.iconst 0, 1) := by decide +kernel
theorem dL_law_510 : decode cL_law 510 = .ok (.ireturn, 1) := by decide +kernel
theorem dL_law_511 : decode cL_law 511 = .ok (.goto 495, 3) := by decide +kernel
theorem dL_law_514 : decode cL_law 514 = .ok (.aload_n 1, 1) := by decide +kernel
theorem dL_law_515 : decode cL_law 515 = .ok (.aload_n 0, 1) := by decide +kernel
theorem dL_law_516 : decode cL_law 516 = .ok (.iload 4, 2) := by decide +kernel
theorem dL_law_518 : decode cL_law 518 = .ok (.iconst 1, 1) := by decide +kernel
theorem dL_law_519 : decode cL_law 519 = .ok (.iadd, 1) := by decide +kernel
theorem dL_law_520 : decode cL_law 520 = .ok (.iaload, 1) := by decide +kernel
theorem dL_law_521 : decode cL_law 521 = .ok (.aload_n 0, 1) := by decide +kernel
theorem dL_law_522 : decode cL_law 522 = .ok (.iload 4, 2) := by decide +kernel
theorem dL_law_524 : decode cL_law 524 = .ok (.iconst 2, 1) := by decide +kernel
theorem dL_law_525 : decode cL_law 525 = .ok (.iadd, 1) := by decide +kernel
theorem dL_law_526 : decode cL_law 526 = .ok (.iaload, 1) := by decide +kernel
theorem dL_law_527 : decode cL_law 527 = .ok (.aload_n 0, 1) := by decide +kernel
theorem dL_law_528 : decode cL_law 528 = .ok (.iload 4, 2) := by decide +kernel
theorem dL_law_530 : decode cL_law 530 = .ok (.iconst 3, 1) := by decide +kernel
theorem dL_law_531 : decode cL_law 531 = .ok (.iadd, 1) := by decide +kernel
theorem dL_law_532 : decode cL_law 532 = .ok (.iaload, 1) := by decide +kernel
theorem dL_law_533 : decode cL_law 533 = .ok (.ifCond .eq 7, 3) := by decide +kernel
theorem dL_law_536 : decode cL_law 536 = .ok (.iconst 1, 1) := by decide +kernel
theorem dL_law_537 : decode cL_law 537 = .ok (.goto 4, 3) := by decide +kernel
theorem dL_law_540 : decode cL_law 540 = .ok (.iconst 0, 1) := by decide +kernel
theorem dL_law_541 : decode cL_law 541 = .ok (.aload_n 3, 1) := by decide +kernel
theorem dL_law_542 : decode cL_law 542 = .ok (.invokestatic 92, 3) := by decide +kernel
theorem dL_law_545 : decode cL_law 545 = .ok (.istore 5, 2) := by decide +kernel
theorem dL_law_547 : decode cL_law 547 = .ok (.aload_n 2, 1) := by decide +kernel
theorem dL_law_548 : decode cL_law 548 = .ok (.aload_n 0, 1) := by decide +kernel
theorem dL_law_549 : decode cL_law 549 = .ok (.iload 4, 2) := by decide +kernel
theorem dL_law_551 : decode cL_law 551 = .ok (.iconst 1, 1) := by decide +kernel
theorem dL_law_552 : decode cL_law 552 = .ok (.iadd, 1) := by decide +kernel
theorem dL_law_553 : decode cL_law 553 = .ok (.iaload, 1) := by decide +kernel
theorem dL_law_554 : decode cL_law 554 = .ok (.aload_n 0, 1) := by decide +kernel
theorem dL_law_555 : decode cL_law 555 = .ok (.iload 4, 2) := by decide +kernel
theorem dL_law_557 : decode cL_law 557 = .ok (.iconst 2, 1) := by decide +kernel
theorem dL_law_558 : decode cL_law 558 = .ok (.iadd, 1) := by decide +kernel
theorem dL_law_559 : decode cL_law 559 = .ok (.iaload, 1) := by decide +kernel
theorem dL_law_560 : decode cL_law 560 = .ok (.aload_n 0, 1) := by decide +kernel
theorem dL_law_561 : decode cL_law 561 = .ok (.iload 4, 2) := by decide +kernel
theorem dL_law_563 : decode cL_law 563 = .ok (.iconst 3, 1) := by decide +kernel
theorem dL_law_564 : decode cL_law 564 = .ok (.iadd, 1) := by decide +kernel
theorem dL_law_565 : decode cL_law 565 = .ok (.iaload, 1) := by decide +kernel
theorem dL_law_566 : decode cL_law 566 = .ok (.ifCond .eq 7, 3) := by decide +kernel
theorem dL_law_569 : decode cL_law 569 = .ok (.iconst 1, 1) := by decide +kernel
theorem dL_law_570 : decode cL_law 570 = .ok (.goto 4, 3) := by decide +kernel
theorem dL_law_573 : decode cL_law 573 = .ok (.iconst 0, 1) := by decide +kernel
theorem dL_law_574 : decode cL_law 574 = .ok (.invokevirtual 95, 3) := by decide +kernel
theorem dL_law_577 : decode cL_law 577 = .ok (.istore 6, 2) := by decide +kernel
theorem dL_law_579 : decode cL_law 579 = .ok (.aload_n 2, 1) := by decide +kernel
theorem dL_law_580 : decode cL_law 580 = .ok (.invokevirtual 72, 3) := by decide +kernel
theorem dL_law_583 : decode cL_law 583 = .ok (.iload 5, 2) := by decide +kernel
theorem dL_law_585 : decode cL_law 585 = .ok (.if_icmp .eq 5, 3) := by decide +kernel
theorem dL_law_588 : decode cL_law 588 = .ok (.iconst 0, 1) := by decide +kernel
theorem dL_law_589 : decode cL_law 589 = .ok (.ireturn, 1) := by decide +kernel
theorem dL_law_590 : decode cL_law 590 = .ok (.iload 5, 2) := by decide +kernel
theorem dL_law_592 : decode cL_law 592 = .ok (.ifCond .ne 15, 3) := by decide +kernel
theorem dL_law_595 : decode cL_law 595 = .ok (.aload_n 3, 1) := by decide +kernel
theorem dL_law_596 : decode cL_law 596 = .ok (.iconst 0, 1) := by decide +kernel
theorem dL_law_597 : decode cL_law 597 = .ok (.laload, 1) := by decide +kernel
theorem dL_law_598 : decode cL_law 598 = .ok (.iload 6, 2) := by decide +kernel
theorem dL_law_600 : decode cL_law 600 = .ok (.i2l, 1) := by decide +kernel
theorem dL_law_601 : decode cL_law 601 = .ok (.lcmp, 1) := by decide +kernel
theorem dL_law_602 : decode cL_law 602 = .ok (.ifCond .eq 5, 3) := by decide +kernel
theorem dL_law_605 : decode cL_law 605 = .ok (.iconst 0, 1) := by decide +kernel
theorem dL_law_606 : decode cL_law 606 = .ok (.ireturn, 1) := by decide +kernel
theorem dL_law_607 : decode cL_law 607 = .ok (.goto 399, 3) := by decide +kernel
theorem dL_law_610 : decode cL_law 610 = .ok (.aload_n 1, 1) := by decide +kernel
theorem dL_law_611 : decode cL_law 611 = .ok (.aload_n 0, 1) := by decide +kernel
theorem dL_law_612 : decode cL_law 612 = .ok (.iload 4, 2) := by decide +kernel
theorem dL_law_614 : decode cL_law 614 = .ok (.iconst 1, 1) := by decide +kernel
theorem dL_law_615 : decode cL_law 615 = .ok (.iadd, 1) := by decide +kernel
theorem dL_law_616 : decode cL_law 616 = .ok (.iaload, 1) := by decide +kernel
theorem dL_law_617 : decode cL_law 617 = .ok (.aload_n 0, 1) := by decide +kernel
theorem dL_law_618 : decode cL_law 618 = .ok (.iload 4, 2) := by decide +kernel
theorem dL_law_620 : decode cL_law 620 = .ok (.iconst 2, 1) := by decide +kernel
theorem dL_law_621 : decode cL_law 621 = .ok (.iadd, 1) := by decide +kernel
theorem dL_law_622 : decode cL_law 622 = .ok (.iaload, 1) := by decide +kernel
theorem dL_law_623 : decode cL_law 623 = .ok (.aload_n 3, 1) := by decide +kernel
theorem dL_law_624 : decode cL_law 624 = .ok (.invokestatic 96, 3) := by decide +kernel
theorem dL_law_627 : decode cL_law 627 = .ok (.istore 5, 2) := by decide +kernel
theorem dL_law_629 : decode cL_law 629 = .ok (.aload_n 2, 1) := by decide +kernel
theorem dL_law_630 : decode cL_law 630 = .ok (.aload_n 0, 1) := by decide +kernel
theorem dL_law_631 : decode cL_law 631 = .ok (.iload 4, 2) := by decide +kernel
theorem dL_law_633 : decode cL_law 633 = .ok (.iconst 1, 1) := by decide +kernel
theorem dL_law_634 : decode cL_law 634 = .ok (.iadd, 1) := by decide +kernel
theorem dL_law_635 : decode cL_law 635 = .ok (.iaload, 1) := by decide +kernel
theorem dL_law_636 : decode cL_law 636 = .ok (.aload_n 0, 1) := by decide +kernel
theorem dL_law_637 : decode cL_law 637 = .ok (.iload 4, 2) := by decide +kernel
theorem dL_law_639 : decode cL_law 639 = .ok (.iconst 2, 1) := by decide +kernel
theorem dL_law_640 : decode cL_law 640 = .ok (.iadd, 1) := by decide +kernel
theorem dL_law_641 : decode cL_law 641 = .ok (.iaload, 1) := by decide +kernel
theorem dL_law_642 : decode cL_law 642 = .ok (.invokevirtual 99, 3) := by decide +kernel
theorem dL_law_645 : decode cL_law 645 = .ok (.istore 6, 2) := by decide +kernel
theorem dL_law_647 : decode cL_law 647 = .ok (.aload_n 2, 1) := by decide +kernel
theorem dL_law_648 : decode cL_law 648 = .ok (.invokevirtual 72, 3) := by decide +kernel
theorem dL_law_651 : decode cL_law 651 = .ok (.iload 5, 2) := by decide +kernel
theorem dL_law_653 : decode cL_law 653 = .ok (.if_icmp .eq 5, 3) := by decide +kernel
theorem dL_law_656 : decode cL_law 656 = .ok (.iconst 0, 1) := by decide +kernel
theorem dL_law_657 : decode cL_law 657 = .ok (.ireturn, 1) := by decide +kernel
theorem dL_law_658 : decode cL_law 658 = .ok (.iload 5, 2) := by decide +kernel
theorem dL_law_660 : decode cL_law 660 = .ok (.ifCond .ne 15, 3) := by decide +kernel
theorem dL_law_663 : decode cL_law 663 = .ok (.aload_n 3, 1) := by decide +kernel
theorem dL_law_664 : decode cL_law 664 = .ok (.iconst 0, 1) := by decide +kernel
theorem dL_law_665 : decode cL_law 665 = .ok (.laload, 1) := by decide +kernel
theorem dL_law_666 : decode cL_law 666 = .ok (.iload 6, 2) := by decide +kernel
theorem dL_law_668 : decode cL_law 668 = .ok (.i2l, 1) := by decide +kernel
theorem dL_law_669 : decode cL_law 669 = .ok (.lcmp, 1) := by decide +kernel
theorem dL_law_670 : decode cL_law 670 = .ok (.ifCond .eq 5, 3) := by decide +kernel
theorem dL_law_673 : decode cL_law 673 = .ok (.iconst 0, 1) := by decide +kernel
theorem dL_law_674 : decode cL_law 674 = .ok (.ireturn, 1) := by decide +kernel
theorem dL_law_675 : decode cL_law 675 = .ok (.goto 331, 3) := by decide +kernel
theorem dL_law_678 : decode cL_law 678 = .ok (.aload_n 1, 1) := by decide +kernel
theorem dL_law_679 : decode cL_law 679 = .ok (.aload_n 0, 1) := by decide +kernel
theorem dL_law_680 : decode cL_law 680 = .ok (.iload 4, 2) := by decide +kernel
theorem dL_law_682 : decode cL_law 682 = .ok (.iconst 1, 1) := by decide +kernel
theorem dL_law_683 : decode cL_law 683 = .ok (.iadd, 1) := by decide +kernel
theorem dL_law_684 : decode cL_law 684 = .ok (.iaload, 1) := by decide +kernel
theorem dL_law_685 : decode cL_law 685 = .ok (.aload_n 0, 1) := by decide +kernel
theorem dL_law_686 : decode cL_law 686 = .ok (.iload 4, 2) := by decide +kernel
theorem dL_law_688 : decode cL_law 688 = .ok (.iconst 2, 1) := by decide +kernel
theorem dL_law_689 : decode cL_law 689 = .ok (.iadd, 1) := by decide +kernel
theorem dL_law_690 : decode cL_law 690 = .ok (.iaload, 1) := by decide +kernel
theorem dL_law_691 : decode cL_law 691 = .ok (.aload_n 0, 1) := by decide +kernel
theorem dL_law_692 : decode cL_law 692 = .ok (.iload 4, 2) := by decide +kernel
theorem dL_law_694 : decode cL_law 694 = .ok (.iconst 3, 1) := by decide +kernel
theorem dL_law_695 : decode cL_law 695 = .ok (.iadd, 1) := by decide +kernel
theorem dL_law_696 : decode cL_law 696 = .ok (.iaload, 1) := by decide +kernel
theorem dL_law_697 : decode cL_law 697 = .ok (.aload_n 3, 1) := by decide +kernel
theorem dL_law_698 : decode cL_law 698 = .ok (.invokestatic 100, 3) := by decide +kernel
theorem dL_law_701 : decode cL_law 701 = .ok (.istore 5, 2) := by decide +kernel
theorem dL_law_703 : decode cL_law 703 = .ok (.aload_n 2, 1) := by decide +kernel
theorem dL_law_704 : decode cL_law 704 = .ok (.aload_n 0, 1) := by decide +kernel
theorem dL_law_705 : decode cL_law 705 = .ok (.iload 4, 2) := by decide +kernel
theorem dL_law_707 : decode cL_law 707 = .ok (.iconst 1, 1) := by decide +kernel
theorem dL_law_708 : decode cL_law 708 = .ok (.iadd, 1) := by decide +kernel
theorem dL_law_709 : decode cL_law 709 = .ok (.iaload, 1) := by decide +kernel
theorem dL_law_710 : decode cL_law 710 = .ok (.aload_n 0, 1) := by decide +kernel
theorem dL_law_711 : decode cL_law 711 = .ok (.iload 4, 2) := by decide +kernel
theorem dL_law_713 : decode cL_law 713 = .ok (.iconst 2, 1) := by decide +kernel
theorem dL_law_714 : decode cL_law 714 = .ok (.iadd, 1) := by decide +kernel
theorem dL_law_715 : decode cL_law 715 = .ok (.iaload, 1) := by decide +kernel
theorem dL_law_716 : decode cL_law 716 = .ok (.aload_n 0, 1) := by decide +kernel
theorem dL_law_717 : decode cL_law 717 = .ok (.iload 4, 2) := by decide +kernel
theorem dL_law_719 : decode cL_law 719 = .ok (.iconst 3, 1) := by decide +kernel
theorem dL_law_720 : decode cL_law 720 = .ok (.iadd, 1) := by decide +kernel
theorem dL_law_721 : decode cL_law 721 = .ok (.iaload, 1) := by decide +kernel
theorem dL_law_722 : decode cL_law 722 = .ok (.invokevirtual 102, 3) := by decide +kernel
theorem dL_law_725 : decode cL_law 725 = .ok (.istore 6, 2) := by decide +kernel
theorem dL_law_727 : decode cL_law 727 = .ok (.aload_n 2, 1) := by decide +kernel
theorem dL_law_728 : decode cL_law 728 = .ok (.invokevirtual 72, 3) := by decide +kernel
theorem dL_law_731 : decode cL_law 731 = .ok (.iload 5, 2) := by decide +kernel
theorem dL_law_733 : decode cL_law 733 = .ok (.if_icmp .eq 5, 3) := by decide +kernel
theorem dL_law_736 : decode cL_law 736 = .ok (.iconst 0, 1) := by decide +kernel
theorem dL_law_737 : decode cL_law 737 = .ok (.ireturn, 1) := by decide +kernel
theorem dL_law_738 : decode cL_law 738 = .ok (.iload 5, 2) := by decide +kernel
theorem dL_law_740 : decode cL_law 740 = .ok (.ifCond .ne 15, 3) := by decide +kernel
theorem dL_law_743 : decode cL_law 743 = .ok (.aload_n 3, 1) := by decide +kernel
theorem dL_law_744 : decode cL_law 744 = .ok (.iconst 0, 1) := by decide +kernel
theorem dL_law_745 : decode cL_law 745 = .ok (.laload, 1) := by decide +kernel
theorem dL_law_746 : decode cL_law 746 = .ok (.iload 6, 2) := by decide +kernel
theorem dL_law_748 : decode cL_law 748 = .ok (.i2l, 1) := by decide +kernel
theorem dL_law_749 : decode cL_law 749 = .ok (.lcmp, 1) := by decide +kernel
theorem dL_law_750 : decode cL_law 750 = .ok (.ifCond .eq 5, 3) := by decide +kernel
theorem dL_law_753 : decode cL_law 753 = .ok (.iconst 0, 1) := by decide +kernel
theorem dL_law_754 : decode cL_law 754 = .ok (.ireturn, 1) := by decide +kernel
theorem dL_law_755 : decode cL_law 755 = .ok (.goto 251, 3) := by decide +kernel
theorem dL_law_758 : decode cL_law 758 = .ok (.aload_n 1, 1) := by decide +kernel
theorem dL_law_759 : decode cL_law 759 = .ok (.aload_n 0, 1) := by decide +kernel
theorem dL_law_760 : decode cL_law 760 = .ok (.iload 4, 2) := by decide +kernel
theorem dL_law_762 : decode cL_law 762 = .ok (.iconst 1, 1) := by decide +kernel
theorem dL_law_763 : decode cL_law 763 = .ok (.iadd, 1) := by decide +kernel
theorem dL_law_764 : decode cL_law 764 = .ok (.iaload, 1) := by decide +kernel
theorem dL_law_765 : decode cL_law 765 = .ok (.aload_n 3, 1) := by decide +kernel
theorem dL_law_766 : decode cL_law 766 = .ok (.invokestatic 103, 3) := by decide +kernel
theorem dL_law_769 : decode cL_law 769 = .ok (.istore 5, 2) := by decide +kernel
theorem dL_law_771 : decode cL_law 771 = .ok (.aload_n 2, 1) := by decide +kernel
theorem dL_law_772 : decode cL_law 772 = .ok (.aload_n 0, 1) := by decide +kernel
theorem dL_law_773 : decode cL_law 773 = .ok (.iload 4, 2) := by decide +kernel
theorem dL_law_775 : decode cL_law 775 = .ok (.iconst 1, 1) := by decide +kernel
theorem dL_law_776 : decode cL_law 776 = .ok (.iadd, 1) := by decide +kernel
theorem dL_law_777 : decode cL_law 777 = .ok (.iaload, 1) := by decide +kernel
theorem dL_law_778 : decode cL_law 778 = .ok (.invokevirtual 105, 3) := by decide +kernel
theorem dL_law_781 : decode cL_law 781 = .ok (.istore 6, 2) := by decide +kernel
theorem dL_law_783 : decode cL_law 783 = .ok (.aload_n 2, 1) := by decide +kernel
theorem dL_law_784 : decode cL_law 784 = .ok (.invokevirtual 72, 3) := by decide +kernel
theorem dL_law_787 : decode cL_law 787 = .ok (.iload 5, 2) := by decide +kernel
theorem dL_law_789 : decode cL_law 789 = .ok (.if_icmp .eq 5, 3) := by decide +kernel
theorem dL_law_792 : decode cL_law 792 = .ok (.iconst 0, 1) := by decide +kernel
theorem dL_law_793 : decode cL_law 793 = .ok (.ireturn, 1) := by decide +kernel
theorem dL_law_794 : decode cL_law 794 = .ok (.iload 5, 2) := by decide +kernel
theorem dL_law_796 : decode cL_law 796 = .ok (.ifCond .ne 15, 3) := by decide +kernel
theorem dL_law_799 : decode cL_law 799 = .ok (.aload_n 3, 1) := by decide +kernel
theorem dL_law_800 : decode cL_law 800 = .ok (.iconst 0, 1) := by decide +kernel
theorem dL_law_801 : decode cL_law 801 = .ok (.laload, 1) := by decide +kernel
theorem dL_law_802 : decode cL_law 802 = .ok (.iload 6, 2) := by decide +kernel
theorem dL_law_804 : decode cL_law 804 = .ok (.i2l, 1) := by decide +kernel
theorem dL_law_805 : decode cL_law 805 = .ok (.lcmp, 1) := by decide +kernel
theorem dL_law_806 : decode cL_law 806 = .ok (.ifCond .eq 5, 3) := by decide +kernel
theorem dL_law_809 : decode cL_law 809 = .ok (.iconst 0, 1) := by decide +kernel
theorem dL_law_810 : decode cL_law 810 = .ok (.ireturn, 1) := by decide +kernel
theorem dL_law_811 : decode cL_law 811 = .ok (.goto 195, 3) := by decide +kernel
theorem dL_law_814 : decode cL_law 814 = .ok (.aload_n 1, 1) := by decide +kernel
theorem dL_law_815 : decode cL_law 815 = .ok (.aload_n 0, 1) := by decide +kernel
theorem dL_law_816 : decode cL_law 816 = .ok (.iload 4, 2) := by decide +kernel
theorem dL_law_818 : decode cL_law 818 = .ok (.iconst 1, 1) := by decide +kernel
theorem dL_law_819 : decode cL_law 819 = .ok (.iadd, 1) := by decide +kernel
theorem dL_law_820 : decode cL_law 820 = .ok (.iaload, 1) := by decide +kernel
theorem dL_law_821 : decode cL_law 821 = .ok (.aload_n 3, 1) := by decide +kernel
theorem dL_law_822 : decode cL_law 822 = .ok (.invokestatic 106, 3) := by decide +kernel
theorem dL_law_825 : decode cL_law 825 = .ok (.istore 5, 2) := by decide +kernel
theorem dL_law_827 : decode cL_law 827 = .ok (.aload_n 2, 1) := by decide +kernel
theorem dL_law_828 : decode cL_law 828 = .ok (.aload_n 0, 1) := by decide +kernel
theorem dL_law_829 : decode cL_law 829 = .ok (.iload 4, 2) := by decide +kernel
theorem dL_law_831 : decode cL_law 831 = .ok (.iconst 1, 1) := by decide +kernel
theorem dL_law_832 : decode cL_law 832 = .ok (.iadd, 1) := by decide +kernel
theorem dL_law_833 : decode cL_law 833 = .ok (.iaload, 1) := by decide +kernel
theorem dL_law_834 : decode cL_law 834 = .ok (.invokevirtual 108, 3) := by decide +kernel
theorem dL_law_837 : decode cL_law 837 = .ok (.istore 6, 2) := by decide +kernel
theorem dL_law_839 : decode cL_law 839 = .ok (.aload_n 2, 1) := by decide +kernel
theorem dL_law_840 : decode cL_law 840 = .ok (.invokevirtual 72, 3) := by decide +kernel
theorem dL_law_843 : decode cL_law 843 = .ok (.iload 5, 2) := by decide +kernel
theorem dL_law_845 : decode cL_law 845 = .ok (.if_icmp .eq 5, 3) := by decide +kernel
theorem dL_law_848 : decode cL_law 848 = .ok (.iconst 0, 1) := by decide +kernel
theorem dL_law_849 : decode cL_law 849 = .ok (.ireturn, 1) := by decide +kernel
theorem dL_law_850 : decode cL_law 850 = .ok (.iload 5, 2) := by decide +kernel
theorem dL_law_852 : decode cL_law 852 = .ok (.ifCond .ne 15, 3) := by decide +kernel
theorem dL_law_855 : decode cL_law 855 = .ok (.aload_n 3, 1) := by decide +kernel
theorem dL_law_856 : decode cL_law 856 = .ok (.iconst 0, 1) := by decide +kernel
theorem dL_law_857 : decode cL_law 857 = .ok (.laload, 1) := by decide +kernel
theorem dL_law_858 : decode cL_law 858 = .ok (.iload 6, 2) := by decide +kernel
theorem dL_law_860 : decode cL_law 860 = .ok (.i2l, 1) := by decide +kernel
theorem dL_law_861 : decode cL_law 861 = .ok (.lcmp, 1) := by decide +kernel
theorem dL_law_862 : decode cL_law 862 = .ok (.ifCond .eq 5, 3) := by decide +kernel
theorem dL_law_865 : decode cL_law 865 = .ok (.iconst 0, 1) := by decide +kernel
theorem dL_law_866 : decode cL_law 866 = .ok (.ireturn, 1) := by decide +kernel
theorem dL_law_867 : decode cL_law 867 = .ok (.goto 139, 3) := by decide +kernel
theorem dL_law_870 : decode cL_law 870 = .ok (.aload_n 1, 1) := by decide +kernel
theorem dL_law_871 : decode cL_law 871 = .ok (.aload_n 3, 1) := by decide +kernel
theorem dL_law_872 : decode cL_law 872 = .ok (.invokestatic 109, 3) := by decide +kernel
theorem dL_law_875 : decode cL_law 875 = .ok (.istore 5, 2) := by decide +kernel
theorem dL_law_877 : decode cL_law 877 = .ok (.aload_n 2, 1) := by decide +kernel
theorem dL_law_878 : decode cL_law 878 = .ok (.invokevirtual 112, 3) := by decide +kernel
theorem dL_law_881 : decode cL_law 881 = .ok (.istore 6, 2) := by decide +kernel
theorem dL_law_883 : decode cL_law 883 = .ok (.aload_n 2, 1) := by decide +kernel
theorem dL_law_884 : decode cL_law 884 = .ok (.invokevirtual 72, 3) := by decide +kernel
theorem dL_law_887 : decode cL_law 887 = .ok (.iload 5, 2) := by decide +kernel
theorem dL_law_889 : decode cL_law 889 = .ok (.if_icmp .eq 5, 3) := by decide +kernel
theorem dL_law_892 : decode cL_law 892 = .ok (.iconst 0, 1) := by decide +kernel
theorem dL_law_893 : decode cL_law 893 = .ok (.ireturn, 1) := by decide +kernel
theorem dL_law_894 : decode cL_law 894 = .ok (.iload 5, 2) := by decide +kernel
theorem dL_law_896 : decode cL_law 896 = .ok (.ifCond .ne 15, 3) := by decide +kernel
theorem dL_law_899 : decode cL_law 899 = .ok (.aload_n 3, 1) := by decide +kernel
theorem dL_law_900 : decode cL_law 900 = .ok (.iconst 0, 1) := by decide +kernel
theorem dL_law_901 : decode cL_law 901 = .ok (.laload, 1) := by decide +kernel
theorem dL_law_902 : decode cL_law 902 = .ok (.iload 6, 2) := by decide +kernel
theorem dL_law_904 : decode cL_law 904 = .ok (.i2l, 1) := by decide +kernel
theorem dL_law_905 : decode cL_law 905 = .ok (.lcmp, 1) := by decide +kernel
theorem dL_law_906 : decode cL_law 906 = .ok (.ifCond .eq 5, 3) := by decide +kernel
theorem dL_law_909 : decode cL_law 909 = .ok (.iconst 0, 1) := by decide +kernel
theorem dL_law_910 : decode cL_law 910 = .ok (.ireturn, 1) := by decide +kernel
theorem dL_law_911 : decode cL_law 911 = .ok (.goto 95, 3) := by decide +kernel
theorem dL_law_914 : decode cL_law 914 = .ok (.aload_n 1, 1) := by decide +kernel
theorem dL_law_915 : decode cL_law 915 = .ok (.aload_n 0, 1) := by decide +kernel
theorem dL_law_916 : decode cL_law 916 = .ok (.iload 4, 2) := by decide +kernel
theorem dL_law_918 : decode cL_law 918 = .ok (.iconst 1, 1) := by decide +kernel
theorem dL_law_919 : decode cL_law 919 = .ok (.iadd, 1) := by decide +kernel
theorem dL_law_920 : decode cL_law 920 = .ok (.iaload, 1) := by decide +kernel
theorem dL_law_921 : decode cL_law 921 = .ok (.aload_n 0, 1) := by decide +kernel
theorem dL_law_922 : decode cL_law 922 = .ok (.iload 4, 2) := by decide +kernel
theorem dL_law_924 : decode cL_law 924 = .ok (.iconst 2, 1) := by decide +kernel
theorem dL_law_925 : decode cL_law 925 = .ok (.iadd, 1) := by decide +kernel
theorem dL_law_926 : decode cL_law 926 = .ok (.iaload, 1) := by decide +kernel
theorem dL_law_927 : decode cL_law 927 = .ok (.aload_n 0, 1) := by decide +kernel
theorem dL_law_928 : decode cL_law 928 = .ok (.iload 4, 2) := by decide +kernel
theorem dL_law_930 : decode cL_law 930 = .ok (.iconst 3, 1) := by decide +kernel
theorem dL_law_931 : decode cL_law 931 = .ok (.iadd, 1) := by decide +kernel
theorem dL_law_932 : decode cL_law 932 = .ok (.iaload, 1) := by decide +kernel
theorem dL_law_933 : decode cL_law 933 = .ok (.aload_n 0, 1) := by decide +kernel
theorem dL_law_934 : decode cL_law 934 = .ok (.iload 4, 2) := by decide +kernel
theorem dL_law_936 : decode cL_law 936 = .ok (.iconst 4, 1) := by decide +kernel
theorem dL_law_937 : decode cL_law 937 = .ok (.iadd, 1) := by decide +kernel
theorem dL_law_938 : decode cL_law 938 = .ok (.iaload, 1) := by decide +kernel
theorem dL_law_939 : decode cL_law 939 = .ok (.aload_n 3, 1) := by decide +kernel
theorem dL_law_940 : decode cL_law 940 = .ok (.invokestatic 113, 3) := by decide +kernel
theorem dL_law_943 : decode cL_law 943 = .ok (.istore 5, 2) := by decide +kernel
theorem dL_law_945 : decode cL_law 945 = .ok (.aload_n 2, 1) := by decide +kernel
theorem dL_law_946 : decode cL_law 946 = .ok (.aload_n 0, 1) := by decide +kernel
theorem dL_law_947 : decode cL_law 947 = .ok (.iload 4, 2) := by decide +kernel
theorem dL_law_949 : decode cL_law 949 = .ok (.iconst 1, 1) := by decide +kernel
theorem dL_law_950 : decode cL_law 950 = .ok (.iadd, 1) := by decide +kernel
theorem dL_law_951 : decode cL_law 951 = .ok (.iaload, 1) := by decide +kernel
theorem dL_law_952 : decode cL_law 952 = .ok (.aload_n 0, 1) := by decide +kernel
theorem dL_law_953 : decode cL_law 953 = .ok (.iload 4, 2) := by decide +kernel
theorem dL_law_955 : decode cL_law 955 = .ok (.iconst 2, 1) := by decide +kernel
theorem dL_law_956 : decode cL_law 956 = .ok (.iadd, 1) := by decide +kernel
theorem dL_law_957 : decode cL_law 957 = .ok (.iaload, 1) := by decide +kernel
theorem dL_law_958 : decode cL_law 958 = .ok (.aload_n 0, 1) := by decide +kernel
theorem dL_law_959 : decode cL_law 959 = .ok (.iload 4, 2) := by decide +kernel
theorem dL_law_961 : decode cL_law 961 = .ok (.iconst 3, 1) := by decide +kernel
theorem dL_law_962 : decode cL_law 962 = .ok (.iadd, 1) := by decide +kernel
theorem dL_law_963 : decode cL_law 963 = .ok (.iaload, 1) := by decide +kernel
theorem dL_law_964 : decode cL_law 964 = .ok (.aload_n 0, 1) := by decide +kernel
theorem dL_law_965 : decode cL_law 965 = .ok (.iload 4, 2) := by decide +kernel
theorem dL_law_967 : decode cL_law 967 = .ok (.iconst 4, 1) := by decide +kernel
theorem dL_law_968 : decode cL_law 968 = .ok (.iadd, 1) := by decide +kernel
theorem dL_law_969 : decode cL_law 969 = .ok (.iaload, 1) := by decide +kernel
theorem dL_law_970 : decode cL_law 970 = .ok (.invokevirtual 116, 3) := by decide +kernel
theorem dL_law_973 : decode cL_law 973 = .ok (.istore 6, 2) := by decide +kernel
theorem dL_law_975 : decode cL_law 975 = .ok (.aload_n 2, 1) := by decide +kernel
theorem dL_law_976 : decode cL_law 976 = .ok (.invokevirtual 72, 3) := by decide +kernel
theorem dL_law_979 : decode cL_law 979 = .ok (.iload 5, 2) := by decide +kernel
theorem dL_law_981 : decode cL_law 981 = .ok (.if_icmp .eq 5, 3) := by decide +kernel
theorem dL_law_984 : decode cL_law 984 = .ok (.iconst 0, 1) := by decide +kernel
theorem dL_law_985 : decode cL_law 985 = .ok (.ireturn, 1) := by decide +kernel
theorem dL_law_986 : decode cL_law 986 = .ok (.iload 5, 2) := by decide +kernel
theorem dL_law_988 : decode cL_law 988 = .ok (.ifCond .ne 15, 3) := by decide +kernel
theorem dL_law_991 : decode cL_law 991 = .ok (.aload_n 3, 1) := by decide +kernel
theorem dL_law_992 : decode cL_law 992 = .ok (.iconst 0, 1) := by decide +kernel
theorem dL_law_993 : decode cL_law 993 = .ok (.laload, 1) := by decide +kernel
theorem dL_law_994 : decode cL_law 994 = .ok (.iload 6, 2) := by decide +kernel
theorem dL_law_996 : decode cL_law 996 = .ok (.i2l, 1) := by decide +kernel
theorem dL_law_997 : decode cL_law 997 = .ok (.lcmp, 1) := by decide +kernel
theorem dL_law_998 : decode cL_law 998 = .ok (.ifCond .eq 5, 3) := by decide +kernel
theorem dL_law_1001 : decode cL_law 1001 = .ok (.iconst 0, 1) := by decide +kernel
theorem dL_law_1002 : decode cL_law 1002 = .ok (.ireturn, 1) := by decide +kernel
theorem dL_law_1003 : decode cL_law 1003 = .ok (.goto 3, 3) := by decide +kernel
theorem dL_law_1006 : decode cL_law 1006 = .ok (.iinc 4 5, 3) := by decide +kernel
theorem dL_law_1009 : decode cL_law 1009 = .ok (.goto (-986), 3) := by decide +kernel
theorem dL_law_1012 : decode cL_law 1012 = .ok (.iconst 1, 1) := by decide +kernel
theorem dL_law_1013 : decode cL_law 1013 = .ok (.ireturn, 1) := by decide +kernel
