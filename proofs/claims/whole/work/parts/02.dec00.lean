theorem dX0_init_0 : decode cX0_init 0 = .ok (.aload_n 0, 1) := by decide +kernel
theorem dX0_init_1 : decode cX0_init 1 = .ok (.invokespecial 1, 3) := by decide +kernel
theorem dX0_init_4 : decode cX0_init 4 = .ok (.return_, 1) := by decide +kernel
theorem dX0_put_0 : decode cX0_put 0 = .ok (.aload_n 0, 1) := by decide +kernel
theorem dX0_put_1 : decode cX0_put 1 = .ok (.iload_n 1, 1) := by decide +kernel
theorem dX0_put_2 : decode cX0_put 2 = .ok (.putfield 7, 3) := by decide +kernel
theorem dX0_put_5 : decode cX0_put 5 = .ok (.aload_n 0, 1) := by decide +kernel
theorem dX0_put_6 : decode cX0_put 6 = .ok (.iload_n 2, 1) := by decide +kernel
theorem dX0_put_7 : decode cX0_put 7 = .ok (.putfield 13, 3) := by decide +kernel
theorem dX0_put_10 : decode cX0_put 10 = .ok (.aload_n 0, 1) := by decide +kernel
theorem dX0_put_11 : decode cX0_put 11 = .ok (.iload_n 3, 1) := by decide +kernel
theorem dX0_put_12 : decode cX0_put 12 = .ok (.putfield 16, 3) := by decide +kernel
theorem dX0_put_15 : decode cX0_put 15 = .ok (.aload_n 0, 1) := by decide +kernel
theorem dX0_put_16 : decode cX0_put 16 = .ok (.iload 4, 2) := by decide +kernel
theorem dX0_put_18 : decode cX0_put 18 = .ok (.putfield 19, 3) := by decide +kernel
theorem dX0_put_21 : decode cX0_put 21 = .ok (.return_, 1) := by decide +kernel
theorem dX0_has_0 : decode cX0_has 0 = .ok (.iload_n 1, 1) := by decide +kernel
theorem dX0_has_1 : decode cX0_has 1 = .ok (.aload_n 0, 1) := by decide +kernel
theorem dX0_has_2 : decode cX0_has 2 = .ok (.getfield 7, 3) := by decide +kernel
theorem dX0_has_5 : decode cX0_has 5 = .ok (.if_icmp .lt 41, 3) := by decide +kernel
theorem dX0_has_8 : decode cX0_has 8 = .ok (.iload_n 1, 1) := by decide +kernel
theorem dX0_has_9 : decode cX0_has 9 = .ok (.aload_n 0, 1) := by decide +kernel
theorem dX0_has_10 : decode cX0_has 10 = .ok (.getfield 7, 3) := by decide +kernel
theorem dX0_has_13 : decode cX0_has 13 = .ok (.aload_n 0, 1) := by decide +kernel
theorem dX0_has_14 : decode cX0_has 14 = .ok (.getfield 16, 3) := by decide +kernel
theorem dX0_has_17 : decode cX0_has 17 = .ok (.iadd, 1) := by decide +kernel
theorem dX0_has_18 : decode cX0_has 18 = .ok (.if_icmp .ge 28, 3) := by decide +kernel
theorem dX0_has_21 : decode cX0_has 21 = .ok (.iload_n 2, 1) := by decide +kernel
theorem dX0_has_22 : decode cX0_has 22 = .ok (.aload_n 0, 1) := by decide +kernel
theorem dX0_has_23 : decode cX0_has 23 = .ok (.getfield 13, 3) := by decide +kernel
theorem dX0_has_26 : decode cX0_has 26 = .ok (.if_icmp .lt 20, 3) := by decide +kernel
theorem dX0_has_29 : decode cX0_has 29 = .ok (.iload_n 2, 1) := by decide +kernel
theorem dX0_has_30 : decode cX0_has 30 = .ok (.aload_n 0, 1) := by decide +kernel
theorem dX0_has_31 : decode cX0_has 31 = .ok (.getfield 13, 3) := by decide +kernel
theorem dX0_has_34 : decode cX0_has 34 = .ok (.aload_n 0, 1) := by decide +kernel
theorem dX0_has_35 : decode cX0_has 35 = .ok (.getfield 19, 3) := by decide +kernel
theorem dX0_has_38 : decode cX0_has 38 = .ok (.iadd, 1) := by decide +kernel
theorem dX0_has_39 : decode cX0_has 39 = .ok (.if_icmp .ge 7, 3) := by decide +kernel
theorem dX0_has_42 : decode cX0_has 42 = .ok (.iconst 1, 1) := by decide +kernel
theorem dX0_has_43 : decode cX0_has 43 = .ok (.goto 4, 3) := by decide +kernel
theorem dX0_has_46 : decode cX0_has 46 = .ok (.iconst 0, 1) := by decide +kernel
theorem dX0_has_47 : decode cX0_has 47 = .ok (.ireturn, 1) := by decide +kernel
theorem dX0_covers_0 : decode cX0_covers 0 = .ok (.aload_n 1, 1) := by decide +kernel
theorem dX0_covers_1 : decode cX0_covers 1 = .ok (.getfield 7, 3) := by decide +kernel
theorem dX0_covers_4 : decode cX0_covers 4 = .ok (.aload_n 0, 1) := by decide +kernel
theorem dX0_covers_5 : decode cX0_covers 5 = .ok (.getfield 7, 3) := by decide +kernel
theorem dX0_covers_8 : decode cX0_covers 8 = .ok (.if_icmp .lt 60, 3) := by decide +kernel
theorem dX0_covers_11 : decode cX0_covers 11 = .ok (.aload_n 1, 1) := by decide +kernel
theorem dX0_covers_12 : decode cX0_covers 12 = .ok (.getfield 7, 3) := by decide +kernel
theorem dX0_covers_15 : decode cX0_covers 15 = .ok (.aload_n 1, 1) := by decide +kernel
theorem dX0_covers_16 : decode cX0_covers 16 = .ok (.getfield 16, 3) := by decide +kernel
theorem dX0_covers_19 : decode cX0_covers 19 = .ok (.iadd, 1) := by decide +kernel
theorem dX0_covers_20 : decode cX0_covers 20 = .ok (.aload_n 0, 1) := by decide +kernel
theorem dX0_covers_21 : decode cX0_covers 21 = .ok (.getfield 7, 3) := by decide +kernel
theorem dX0_covers_24 : decode cX0_covers 24 = .ok (.aload_n 0, 1) := by decide +kernel
theorem dX0_covers_25 : decode cX0_covers 25 = .ok (.getfield 16, 3) := by decide +kernel
theorem dX0_covers_28 : decode cX0_covers 28 = .ok (.iadd, 1) := by decide +kernel
theorem dX0_covers_29 : decode cX0_covers 29 = .ok (.if_icmp .gt 39, 3) := by decide +kernel
theorem dX0_covers_32 : decode cX0_covers 32 = .ok (.aload_n 1, 1) := by decide +kernel
theorem dX0_covers_33 : decode cX0_covers 33 = .ok (.getfield 13, 3) := by decide +kernel
theorem dX0_covers_36 : decode cX0_covers 36 = .ok (.aload_n 0, 1) := by decide +kernel
theorem dX0_covers_37 : decode cX0_covers 37 = .ok (.getfield 13, 3) := by decide +kernel
theorem dX0_covers_40 : decode cX0_covers 40 = .ok (.if_icmp .lt 28, 3) := by decide +kernel
theorem dX0_covers_43 : decode cX0_covers 43 = .ok (.aload_n 1, 1) := by decide +kernel
theorem dX0_covers_44 : decode cX0_covers 44 = .ok (.getfield 13, 3) := by decide +kernel
theorem dX0_covers_47 : decode cX0_covers 47 = .ok (.aload_n 1, 1) := by decide +kernel
theorem dX0_covers_48 : decode cX0_covers 48 = .ok (.getfield 19, 3) := by decide +kernel
theorem dX0_covers_51 : decode cX0_covers 51 = .ok (.iadd, 1) := by decide +kernel
theorem dX0_covers_52 : decode cX0_covers 52 = .ok (.aload_n 0, 1) := by decide +kernel
theorem dX0_covers_53 : decode cX0_covers 53 = .ok (.getfield 13, 3) := by decide +kernel
theorem dX0_covers_56 : decode cX0_covers 56 = .ok (.aload_n 0, 1) := by decide +kernel
theorem dX0_covers_57 : decode cX0_covers 57 = .ok (.getfield 19, 3) := by decide +kernel
theorem dX0_covers_60 : decode cX0_covers 60 = .ok (.iadd, 1) := by decide +kernel
theorem dX0_covers_61 : decode cX0_covers 61 = .ok (.if_icmp .gt 7, 3) := by decide +kernel
theorem dX0_covers_64 : decode cX0_covers 64 = .ok (.iconst 1, 1) := by decide +kernel
theorem dX0_covers_65 : decode cX0_covers 65 = .ok (.goto 4, 3) := by decide +kernel
theorem dX0_covers_68 : decode cX0_covers 68 = .ok (.iconst 0, 1) := by decide +kernel
theorem dX0_covers_69 : decode cX0_covers 69 = .ok (.ireturn, 1) := by decide +kernel
theorem dX0_meets_0 : decode cX0_meets 0 = .ok (.aload_n 1, 1) := by decide +kernel
theorem dX0_meets_1 : decode cX0_meets 1 = .ok (.getfield 7, 3) := by decide +kernel
theorem dX0_meets_4 : decode cX0_meets 4 = .ok (.aload_n 0, 1) := by decide +kernel
theorem dX0_meets_5 : decode cX0_meets 5 = .ok (.getfield 7, 3) := by decide +kernel
theorem dX0_meets_8 : decode cX0_meets 8 = .ok (.aload_n 0, 1) := by decide +kernel
theorem dX0_meets_9 : decode cX0_meets 9 = .ok (.getfield 16, 3) := by decide +kernel
theorem dX0_meets_12 : decode cX0_meets 12 = .ok (.iadd, 1) := by decide +kernel
theorem dX0_meets_13 : decode cX0_meets 13 = .ok (.if_icmp .ge 55, 3) := by decide +kernel
theorem dX0_meets_16 : decode cX0_meets 16 = .ok (.aload_n 0, 1) := by decide +kernel
theorem dX0_meets_17 : decode cX0_meets 17 = .ok (.getfield 7, 3) := by decide +kernel
theorem dX0_meets_20 : decode cX0_meets 20 = .ok (.aload_n 1, 1) := by decide +kernel
theorem dX0_meets_21 : decode cX0_meets 21 = .ok (.getfield 7, 3) := by decide +kernel
theorem dX0_meets_24 : decode cX0_meets 24 = .ok (.aload_n 1, 1) := by decide +kernel
theorem dX0_meets_25 : decode cX0_meets 25 = .ok (.getfield 16, 3) := by decide +kernel
theorem dX0_meets_28 : decode cX0_meets 28 = .ok (.iadd, 1) := by decide +kernel
theorem dX0_meets_29 : decode cX0_meets 29 = .ok (.if_icmp .ge 39, 3) := by decide +kernel
theorem dX0_meets_32 : decode cX0_meets 32 = .ok (.aload_n 1, 1) := by decide +kernel
theorem dX0_meets_33 : decode cX0_meets 33 = .ok (.getfield 13, 3) := by decide +kernel
theorem dX0_meets_36 : decode cX0_meets 36 = .ok (.aload_n 0, 1) := by decide +kernel
theorem dX0_meets_37 : decode cX0_meets 37 = .ok (.getfield 13, 3) := by decide +kernel
theorem dX0_meets_40 : decode cX0_meets 40 = .ok (.aload_n 0, 1) := by decide +kernel
theorem dX0_meets_41 : decode cX0_meets 41 = .ok (.getfield 19, 3) := by decide +kernel
theorem dX0_meets_44 : decode cX0_meets 44 = .ok (.iadd, 1) := by decide +kernel
theorem dX0_meets_45 : decode cX0_meets 45 = .ok (.if_icmp .ge 23, 3) := by decide +kernel
theorem dX0_meets_48 : decode cX0_meets 48 = .ok (.aload_n 0, 1) := by decide +kernel
theorem dX0_meets_49 : decode cX0_meets 49 = .ok (.getfield 13, 3) := by decide +kernel
theorem dX0_meets_52 : decode cX0_meets 52 = .ok (.aload_n 1, 1) := by decide +kernel
theorem dX0_meets_53 : decode cX0_meets 53 = .ok (.getfield 13, 3) := by decide +kernel
theorem dX0_meets_56 : decode cX0_meets 56 = .ok (.aload_n 1, 1) := by decide +kernel
theorem dX0_meets_57 : decode cX0_meets 57 = .ok (.getfield 19, 3) := by decide +kernel
theorem dX0_meets_60 : decode cX0_meets 60 = .ok (.iadd, 1) := by decide +kernel
theorem dX0_meets_61 : decode cX0_meets 61 = .ok (.if_icmp .ge 7, 3) := by decide +kernel
theorem dX0_meets_64 : decode cX0_meets 64 = .ok (.iconst 1, 1) := by decide +kernel
theorem dX0_meets_65 : decode cX0_meets 65 = .ok (.goto 4, 3) := by decide +kernel
theorem dX0_meets_68 : decode cX0_meets 68 = .ok (.iconst 0, 1) := by decide +kernel
theorem dX0_meets_69 : decode cX0_meets 69 = .ok (.ireturn, 1) := by decide +kernel
theorem dX0_rowBits_0 : decode cX0_rowBits 0 = .ok (.iconst 1, 1) := by decide +kernel
theorem dX0_rowBits_1 : decode cX0_rowBits 1 = .ok (.aload_n 0, 1) := by decide +kernel
theorem dX0_rowBits_2 : decode cX0_rowBits 2 = .ok (.getfield 16, 3) := by decide +kernel
theorem dX0_rowBits_5 : decode cX0_rowBits 5 = .ok (.ishl, 1) := by decide +kernel
theorem dX0_rowBits_6 : decode cX0_rowBits 6 = .ok (.iconst 1, 1) := by decide +kernel
theorem dX0_rowBits_7 : decode cX0_rowBits 7 = .ok (.isub, 1) := by decide +kernel
theorem dX0_rowBits_8 : decode cX0_rowBits 8 = .ok (.aload_n 0, 1) := by decide +kernel
theorem dX0_rowBits_9 : decode cX0_rowBits 9 = .ok (.getfield 7, 3) := by decide +kernel
theorem dX0_rowBits_12 : decode cX0_rowBits 12 = .ok (.ishl, 1) := by decide +kernel
theorem dX0_rowBits_13 : decode cX0_rowBits 13 = .ok (.ireturn, 1) := by decide +kernel
theorem dX1_init_0 : decode cX1_init 0 = .ok (.aload_n 0, 1) := by decide +kernel
theorem dX1_init_1 : decode cX1_init 1 = .ok (.invokespecial 3, 3) := by decide +kernel
theorem dX1_init_4 : decode cX1_init 4 = .ok (.aload_n 0, 1) := by decide +kernel
theorem dX1_init_5 : decode cX1_init 5 = .ok (.bipush 6, 2) := by decide +kernel
theorem dX1_init_7 : decode cX1_init 7 = .ok (.anewarray 9, 3) := by decide +kernel
theorem dX1_init_10 : decode cX1_init 10 = .ok (.putfield 11, 3) := by decide +kernel
theorem dX1_init_13 : decode cX1_init 13 = .ok (.iconst 0, 1) := by decide +kernel
theorem dX1_init_14 : decode cX1_init 14 = .ok (.istore_n 1, 1) := by decide +kernel
theorem dX1_init_15 : decode cX1_init 15 = .ok (.iload_n 1, 1) := by decide +kernel
theorem dX1_init_16 : decode cX1_init 16 = .ok (.bipush 6, 2) := by decide +kernel
theorem dX1_init_18 : decode cX1_init 18 = .ok (.if_icmp .ge 22, 3) := by decide +kernel
theorem dX1_init_21 : decode cX1_init 21 = .ok (.aload_n 0, 1) := by decide +kernel
theorem dX1_init_22 : decode cX1_init 22 = .ok (.getfield 11, 3) := by decide +kernel
theorem dX1_init_25 : decode cX1_init 25 = .ok (.iload_n 1, 1) := by decide +kernel
theorem dX1_init_26 : decode cX1_init 26 = .ok (.new 9, 3) := by decide +kernel
theorem dX1_init_29 : decode cX1_init 29 = .ok (.dup, 1) := by decide +kernel
theorem dX1_init_30 : decode cX1_init 30 = .ok (.invokespecial 17, 3) := by decide +kernel
theorem dX1_init_33 : decode cX1_init 33 = .ok (.aastore, 1) := by decide +kernel
theorem dX1_init_34 : decode cX1_init 34 = .ok (.iinc 1 1, 3) := by decide +kernel
theorem dX1_init_37 : decode cX1_init 37 = .ok (.goto (-22), 3) := by decide +kernel
theorem dX1_init_40 : decode cX1_init 40 = .ok (.return_, 1) := by decide +kernel
theorem dX1_forget_0 : decode cX1_forget 0 = .ok (.aload_n 0, 1) := by decide +kernel
theorem dX1_forget_1 : decode cX1_forget 1 = .ok (.iconst 0, 1) := by decide +kernel
theorem dX1_forget_2 : decode cX1_forget 2 = .ok (.putfield 18, 3) := by decide +kernel
theorem dX1_forget_5 : decode cX1_forget 5 = .ok (.return_, 1) := by decide +kernel
theorem dX1_keep_0 : decode cX1_keep 0 = .ok (.aload_n 0, 1) := by decide +kernel
theorem dX1_keep_1 : decode cX1_keep 1 = .ok (.getfield 11, 3) := by decide +kernel
theorem dX1_keep_4 : decode cX1_keep 4 = .ok (.aload_n 0, 1) := by decide +kernel
theorem dX1_keep_5 : decode cX1_keep 5 = .ok (.getfield 22, 3) := by decide +kernel
theorem dX1_keep_8 : decode cX1_keep 8 = .ok (.aaload, 1) := by decide +kernel
theorem dX1_keep_9 : decode cX1_keep 9 = .ok (.aload_n 1, 1) := by decide +kernel
theorem dX1_keep_10 : decode cX1_keep 10 = .ok (.invokevirtual 25, 3) := by decide +kernel
theorem dX1_keep_13 : decode cX1_keep 13 = .ok (.aload_n 0, 1) := by decide +kernel
theorem dX1_keep_14 : decode cX1_keep 14 = .ok (.aload_n 0, 1) := by decide +kernel
theorem dX1_keep_15 : decode cX1_keep 15 = .ok (.getfield 22, 3) := by decide +kernel
theorem dX1_keep_18 : decode cX1_keep 18 = .ok (.iconst 1, 1) := by decide +kernel
theorem dX1_keep_19 : decode cX1_keep 19 = .ok (.iadd, 1) := by decide +kernel
theorem dX1_keep_20 : decode cX1_keep 20 = .ok (.bipush 6, 2) := by decide +kernel
theorem dX1_keep_22 : decode cX1_keep 22 = .ok (.if_icmp .ge 12, 3) := by decide +kernel
theorem dX1_keep_25 : decode cX1_keep 25 = .ok (.aload_n 0, 1) := by decide +kernel
theorem dX1_keep_26 : decode cX1_keep 26 = .ok (.getfield 22, 3) := by decide +kernel
theorem dX1_keep_29 : decode cX1_keep 29 = .ok (.iconst 1, 1) := by decide +kernel
theorem dX1_keep_30 : decode cX1_keep 30 = .ok (.iadd, 1) := by decide +kernel
theorem dX1_keep_31 : decode cX1_keep 31 = .ok (.goto 4, 3) := by decide +kernel
theorem dX1_keep_34 : decode cX1_keep 34 = .ok (.iconst 0, 1) := by decide +kernel
theorem dX1_keep_35 : decode cX1_keep 35 = .ok (.putfield 22, 3) := by decide +kernel
theorem dX1_keep_38 : decode cX1_keep 38 = .ok (.aload_n 0, 1) := by decide +kernel
theorem dX1_keep_39 : decode cX1_keep 39 = .ok (.aload_n 0, 1) := by decide +kernel
theorem dX1_keep_40 : decode cX1_keep 40 = .ok (.getfield 18, 3) := by decide +kernel
theorem dX1_keep_43 : decode cX1_keep 43 = .ok (.iconst 1, 1) := by decide +kernel
theorem dX1_keep_44 : decode cX1_keep 44 = .ok (.iadd, 1) := by decide +kernel
theorem dX1_keep_45 : decode cX1_keep 45 = .ok (.bipush 6, 2) := by decide +kernel
theorem dX1_keep_47 : decode cX1_keep 47 = .ok (.invokestatic 29, 3) := by decide +kernel
theorem dX1_keep_50 : decode cX1_keep 50 = .ok (.putfield 18, 3) := by decide +kernel
theorem dX1_keep_53 : decode cX1_keep 53 = .ok (.return_, 1) := by decide +kernel
theorem dX1_giveBack_0 : decode cX1_giveBack 0 = .ok (.aload_n 0, 1) := by decide +kernel
theorem dX1_giveBack_1 : decode cX1_giveBack 1 = .ok (.getfield 18, 3) := by decide +kernel
theorem dX1_giveBack_4 : decode cX1_giveBack 4 = .ok (.ifCond .ne 5, 3) := by decide +kernel
theorem dX1_giveBack_7 : decode cX1_giveBack 7 = .ok (.iconst 0, 1) := by decide +kernel
theorem dX1_giveBack_8 : decode cX1_giveBack 8 = .ok (.ireturn, 1) := by decide +kernel
theorem dX1_giveBack_9 : decode cX1_giveBack 9 = .ok (.aload_n 0, 1) := by decide +kernel
theorem dX1_giveBack_10 : decode cX1_giveBack 10 = .ok (.aload_n 0, 1) := by decide +kernel
theorem dX1_giveBack_11 : decode cX1_giveBack 11 = .ok (.getfield 22, 3) := by decide +kernel
theorem dX1_giveBack_14 : decode cX1_giveBack 14 = .ok (.ifCond .le 12, 3) := by decide +kernel
theorem dX1_giveBack_17 : decode cX1_giveBack 17 = .ok (.aload_n 0, 1) := by decide +kernel
theorem dX1_giveBack_18 : decode cX1_giveBack 18 = .ok (.getfield 22, 3) := by decide +kernel
theorem dX1_giveBack_21 : decode cX1_giveBack 21 = .ok (.iconst 1, 1) := by decide +kernel
theorem dX1_giveBack_22 : decode cX1_giveBack 22 = .ok (.isub, 1) := by decide +kernel
theorem dX1_giveBack_23 : decode cX1_giveBack 23 = .ok (.goto 4, 3) := by decide +kernel
theorem dX1_giveBack_26 : decode cX1_giveBack 26 = .ok (.iconst 5, 1) := by decide +kernel
theorem dX1_giveBack_27 : decode cX1_giveBack 27 = .ok (.putfield 22, 3) := by decide +kernel
theorem dX1_giveBack_30 : decode cX1_giveBack 30 = .ok (.aload_n 0, 1) := by decide +kernel
theorem dX1_giveBack_31 : decode cX1_giveBack 31 = .ok (.dup, 1) := by decide +kernel
theorem dX1_giveBack_32 : decode cX1_giveBack 32 = .ok (.getfield 18, 3) := by decide +kernel
theorem dX1_giveBack_35 : decode cX1_giveBack 35 = .ok (.iconst 1, 1) := by decide +kernel
theorem dX1_giveBack_36 : decode cX1_giveBack 36 = .ok (.isub, 1) := by decide +kernel
theorem dX1_giveBack_37 : decode cX1_giveBack 37 = .ok (.putfield 18, 3) := by decide +kernel
theorem dX1_giveBack_40 : decode cX1_giveBack 40 = .ok (.aload_n 1, 1) := by decide +kernel
theorem dX1_giveBack_41 : decode cX1_giveBack 41 = .ok (.aload_n 0, 1) := by decide +kernel
theorem dX1_giveBack_42 : decode cX1_giveBack 42 = .ok (.getfield 11, 3) := by decide +kernel
theorem dX1_giveBack_45 : decode cX1_giveBack 45 = .ok (.aload_n 0, 1) := by decide +kernel
theorem dX1_giveBack_46 : decode cX1_giveBack 46 = .ok (.getfield 22, 3) := by decide +kernel
theorem dX1_giveBack_49 : decode cX1_giveBack 49 = .ok (.aaload, 1) := by decide +kernel
theorem dX1_giveBack_50 : decode cX1_giveBack 50 = .ok (.invokevirtual 25, 3) := by decide +kernel
theorem dX1_giveBack_53 : decode cX1_giveBack 53 = .ok (.iconst 1, 1) := by decide +kernel
theorem dX1_giveBack_54 : decode cX1_giveBack 54 = .ok (.ireturn, 1) := by decide +kernel
theorem dX2_init_0 : decode cX2_init 0 = .ok (.aload_n 0, 1) := by decide +kernel
theorem dX2_init_1 : decode cX2_init 1 = .ok (.invokespecial 3, 3) := by decide +kernel
theorem dX2_init_4 : decode cX2_init 4 = .ok (.aload_n 0, 1) := by decide +kernel
theorem dX2_init_5 : decode cX2_init 5 = .ok (.new 9, 3) := by decide +kernel
theorem dX2_init_8 : decode cX2_init 8 = .ok (.dup, 1) := by decide +kernel
theorem dX2_init_9 : decode cX2_init 9 = .ok (.invokespecial 11, 3) := by decide +kernel
theorem dX2_init_12 : decode cX2_init 12 = .ok (.putfield 12, 3) := by decide +kernel
theorem dX2_init_15 : decode cX2_init 15 = .ok (.aload_n 0, 1) := by decide +kernel
theorem dX2_init_16 : decode cX2_init 16 = .ok (.bipush 6, 2) := by decide +kernel
theorem dX2_init_18 : decode cX2_init 18 = .ok (.anewarray 18, 3) := by decide +kernel
theorem dX2_init_21 : decode cX2_init 21 = .ok (.putfield 20, 3) := by decide +kernel
theorem dX2_init_24 : decode cX2_init 24 = .ok (.aload_n 0, 1) := by decide +kernel
theorem dX2_init_25 : decode cX2_init 25 = .ok (.iconst 5, 1) := by decide +kernel
theorem dX2_init_26 : decode cX2_init 26 = .ok (.anewarray 9, 3) := by decide +kernel
theorem dX2_init_29 : decode cX2_init 29 = .ok (.putfield 24, 3) := by decide +kernel
theorem dX2_init_32 : decode cX2_init 32 = .ok (.aload_n 0, 1) := by decide +kernel
theorem dX2_init_33 : decode cX2_init 33 = .ok (.iconst 2, 1) := by decide +kernel
theorem dX2_init_34 : decode cX2_init 34 = .ok (.newarray .int, 2) := by decide +kernel
theorem dX2_init_36 : decode cX2_init 36 = .ok (.putfield 28, 3) := by decide +kernel
theorem dX2_init_39 : decode cX2_init 39 = .ok (.iconst 0, 1) := by decide +kernel
theorem dX2_init_40 : decode cX2_init 40 = .ok (.istore_n 1, 1) := by decide +kernel
theorem dX2_init_41 : decode cX2_init 41 = .ok (.iload_n 1, 1) := by decide +kernel
theorem dX2_init_42 : decode cX2_init 42 = .ok (.bipush 6, 2) := by decide +kernel
theorem dX2_init_44 : decode cX2_init 44 = .ok (.if_icmp .ge 22, 3) := by decide +kernel
theorem dX2_init_47 : decode cX2_init 47 = .ok (.aload_n 0, 1) := by decide +kernel
theorem dX2_init_48 : decode cX2_init 48 = .ok (.getfield 20, 3) := by decide +kernel
theorem dX2_init_51 : decode cX2_init 51 = .ok (.iload_n 1, 1) := by decide +kernel
theorem dX2_init_52 : decode cX2_init 52 = .ok (.new 18, 3) := by decide +kernel
theorem dX2_init_55 : decode cX2_init 55 = .ok (.dup, 1) := by decide +kernel
theorem dX2_init_56 : decode cX2_init 56 = .ok (.invokespecial 32, 3) := by decide +kernel
theorem dX2_init_59 : decode cX2_init 59 = .ok (.aastore, 1) := by decide +kernel
theorem dX2_init_60 : decode cX2_init 60 = .ok (.iinc 1 1, 3) := by decide +kernel
theorem dX2_init_63 : decode cX2_init 63 = .ok (.goto (-22), 3) := by decide +kernel
theorem dX2_init_66 : decode cX2_init 66 = .ok (.iconst 0, 1) := by decide +kernel
theorem dX2_init_67 : decode cX2_init 67 = .ok (.istore_n 1, 1) := by decide +kernel
theorem dX2_init_68 : decode cX2_init 68 = .ok (.iload_n 1, 1) := by decide +kernel
theorem dX2_init_69 : decode cX2_init 69 = .ok (.iconst 5, 1) := by decide +kernel
theorem dX2_init_70 : decode cX2_init 70 = .ok (.if_icmp .ge 22, 3) := by decide +kernel
theorem dX2_init_73 : decode cX2_init 73 = .ok (.aload_n 0, 1) := by decide +kernel
theorem dX2_init_74 : decode cX2_init 74 = .ok (.getfield 24, 3) := by decide +kernel
theorem dX2_init_77 : decode cX2_init 77 = .ok (.iload_n 1, 1) := by decide +kernel
theorem dX2_init_78 : decode cX2_init 78 = .ok (.new 9, 3) := by decide +kernel
theorem dX2_init_81 : decode cX2_init 81 = .ok (.dup, 1) := by decide +kernel
theorem dX2_init_82 : decode cX2_init 82 = .ok (.invokespecial 11, 3) := by decide +kernel
theorem dX2_init_85 : decode cX2_init 85 = .ok (.aastore, 1) := by decide +kernel
theorem dX2_init_86 : decode cX2_init 86 = .ok (.iinc 1 1, 3) := by decide +kernel
theorem dX2_init_89 : decode cX2_init 89 = .ok (.goto (-21), 3) := by decide +kernel
theorem dX2_init_92 : decode cX2_init 92 = .ok (.return_, 1) := by decide +kernel
theorem dX2_clear_0 : decode cX2_clear 0 = .ok (.aload_n 0, 1) := by decide +kernel
theorem dX2_clear_1 : decode cX2_clear 1 = .ok (.getfield 12, 3) := by decide +kernel
theorem dX2_clear_4 : decode cX2_clear 4 = .ok (.iconst 0, 1) := by decide +kernel
theorem dX2_clear_5 : decode cX2_clear 5 = .ok (.iconst 0, 1) := by decide +kernel
theorem dX2_clear_6 : decode cX2_clear 6 = .ok (.iconst 0, 1) := by decide +kernel
theorem dX2_clear_7 : decode cX2_clear 7 = .ok (.iconst 0, 1) := by decide +kernel
theorem dX2_clear_8 : decode cX2_clear 8 = .ok (.invokevirtual 33, 3) := by decide +kernel
theorem dX2_clear_11 : decode cX2_clear 11 = .ok (.aload_n 0, 1) := by decide +kernel
theorem dX2_clear_12 : decode cX2_clear 12 = .ok (.iconst 0, 1) := by decide +kernel
theorem dX2_clear_13 : decode cX2_clear 13 = .ok (.putfield 37, 3) := by decide +kernel
theorem dX2_clear_16 : decode cX2_clear 16 = .ok (.aload_n 0, 1) := by decide +kernel
theorem dX2_clear_17 : decode cX2_clear 17 = .ok (.iconst 0, 1) := by decide +kernel
theorem dX2_clear_18 : decode cX2_clear 18 = .ok (.putfield 41, 3) := by decide +kernel
theorem dX2_clear_21 : decode cX2_clear 21 = .ok (.aload_n 0, 1) := by decide +kernel
theorem dX2_clear_22 : decode cX2_clear 22 = .ok (.iconst 0, 1) := by decide +kernel
theorem dX2_clear_23 : decode cX2_clear 23 = .ok (.putfield 44, 3) := by decide +kernel
theorem dX2_clear_26 : decode cX2_clear 26 = .ok (.return_, 1) := by decide +kernel
theorem dX2_hasSheet_0 : decode cX2_hasSheet 0 = .ok (.aload_n 0, 1) := by decide +kernel
theorem dX2_hasSheet_1 : decode cX2_hasSheet 1 = .ok (.getfield 12, 3) := by decide +kernel
theorem dX2_hasSheet_4 : decode cX2_hasSheet 4 = .ok (.getfield 47, 3) := by decide +kernel
theorem dX2_hasSheet_7 : decode cX2_hasSheet 7 = .ok (.ifCond .le 7, 3) := by decide +kernel
theorem dX2_hasSheet_10 : decode cX2_hasSheet 10 = .ok (.iconst 1, 1) := by decide +kernel
theorem dX2_hasSheet_11 : decode cX2_hasSheet 11 = .ok (.goto 4, 3) := by decide +kernel
theorem dX2_hasSheet_14 : decode cX2_hasSheet 14 = .ok (.iconst 0, 1) := by decide +kernel
theorem dX2_hasSheet_15 : decode cX2_hasSheet 15 = .ok (.ireturn, 1) := by decide +kernel
theorem dX2_takeSheet_0 : decode cX2_takeSheet 0 = .ok (.aload_n 0, 1) := by decide +kernel
theorem dX2_takeSheet_1 : decode cX2_takeSheet 1 = .ok (.invokevirtual 50, 3) := by decide +kernel
theorem dX2_takeSheet_4 : decode cX2_takeSheet 4 = .ok (.ifCond .ne 23, 3) := by decide +kernel
theorem dX2_takeSheet_7 : decode cX2_takeSheet 7 = .ok (.iload_n 1, 1) := by decide +kernel
theorem dX2_takeSheet_8 : decode cX2_takeSheet 8 = .ok (.iconst 3, 1) := by decide +kernel
theorem dX2_takeSheet_9 : decode cX2_takeSheet 9 = .ok (.bipush 12, 2) := by decide +kernel
theorem dX2_takeSheet_11 : decode cX2_takeSheet 11 = .ok (.invokestatic 54, 3) := by decide +kernel
theorem dX2_takeSheet_14 : decode cX2_takeSheet 14 = .ok (.ifCond .eq 13, 3) := by decide +kernel
theorem dX2_takeSheet_17 : decode cX2_takeSheet 17 = .ok (.iload_n 2, 1) := by decide +kernel
theorem dX2_takeSheet_18 : decode cX2_takeSheet 18 = .ok (.iconst 3, 1) := by decide +kernel
theorem dX2_takeSheet_19 : decode cX2_takeSheet 19 = .ok (.bipush 12, 2) := by decide +kernel
theorem dX2_takeSheet_21 : decode cX2_takeSheet 21 = .ok (.invokestatic 54, 3) := by decide +kernel
theorem dX2_takeSheet_24 : decode cX2_takeSheet 24 = .ok (.ifCond .ne 5, 3) := by decide +kernel
theorem dX2_takeSheet_27 : decode cX2_takeSheet 27 = .ok (.iconst 0, 1) := by decide +kernel
theorem dX2_takeSheet_28 : decode cX2_takeSheet 28 = .ok (.ireturn, 1) := by decide +kernel
theorem dX2_takeSheet_29 : decode cX2_takeSheet 29 = .ok (.aload_n 0, 1) := by decide +kernel
theorem dX2_takeSheet_30 : decode cX2_takeSheet 30 = .ok (.getfield 12, 3) := by decide +kernel
theorem dX2_takeSheet_33 : decode cX2_takeSheet 33 = .ok (.iconst 0, 1) := by decide +kernel
theorem dX2_takeSheet_34 : decode cX2_takeSheet 34 = .ok (.iconst 0, 1) := by decide +kernel
theorem dX2_takeSheet_35 : decode cX2_takeSheet 35 = .ok (.iload_n 1, 1) := by decide +kernel
theorem dX2_takeSheet_36 : decode cX2_takeSheet 36 = .ok (.iload_n 2, 1) := by decide +kernel
theorem dX2_takeSheet_37 : decode cX2_takeSheet 37 = .ok (.invokevirtual 33, 3) := by decide +kernel
theorem dX2_takeSheet_40 : decode cX2_takeSheet 40 = .ok (.iconst 1, 1) := by decide +kernel
theorem dX2_takeSheet_41 : decode cX2_takeSheet 41 = .ok (.ireturn, 1) := by decide +kernel
theorem dX2_takeTool_0 : decode cX2_takeTool 0 = .ok (.aload_n 0, 1) := by decide +kernel
theorem dX2_takeTool_1 : decode cX2_takeTool 1 = .ok (.invokevirtual 50, 3) := by decide +kernel
theorem dX2_takeTool_4 : decode cX2_takeTool 4 = .ok (.ifCond .eq 50, 3) := by decide +kernel
theorem dX2_takeTool_7 : decode cX2_takeTool 7 = .ok (.aload_n 0, 1) := by decide +kernel
theorem dX2_takeTool_8 : decode cX2_takeTool 8 = .ok (.getfield 37, 3) := by decide +kernel
theorem dX2_takeTool_11 : decode cX2_takeTool 11 = .ok (.bipush 6, 2) := by decide +kernel
theorem dX2_takeTool_13 : decode cX2_takeTool 13 = .ok (.if_icmp .ge 41, 3) := by decide +kernel
theorem dX2_takeTool_16 : decode cX2_takeTool 16 = .ok (.iload_n 3, 1) := by decide +kernel
theorem dX2_takeTool_17 : decode cX2_takeTool 17 = .ok (.invokestatic 58, 3) := by decide +kernel
theorem dX2_takeTool_20 : decode cX2_takeTool 20 = .ok (.ifCond .eq 34, 3) := by decide +kernel
theorem dX2_takeTool_23 : decode cX2_takeTool 23 = .ok (.iload_n 1, 1) := by decide +kernel
theorem dX2_takeTool_24 : decode cX2_takeTool 24 = .ok (.iconst 1, 1) := by decide +kernel
theorem dX2_takeTool_25 : decode cX2_takeTool 25 = .ok (.bipush 6, 2) := by decide +kernel
theorem dX2_takeTool_27 : decode cX2_takeTool 27 = .ok (.invokestatic 54, 3) := by decide +kernel
theorem dX2_takeTool_30 : decode cX2_takeTool 30 = .ok (.ifCond .eq 24, 3) := by decide +kernel
theorem dX2_takeTool_33 : decode cX2_takeTool 33 = .ok (.iload_n 2, 1) := by decide +kernel
theorem dX2_takeTool_34 : decode cX2_takeTool 34 = .ok (.iconst 1, 1) := by decide +kernel
theorem dX2_takeTool_35 : decode cX2_takeTool 35 = .ok (.bipush 6, 2) := by decide +kernel
theorem dX2_takeTool_37 : decode cX2_takeTool 37 = .ok (.invokestatic 54, 3) := by decide +kernel
theorem dX2_takeTool_40 : decode cX2_takeTool 40 = .ok (.ifCond .eq 14, 3) := by decide +kernel
theorem dX2_takeTool_43 : decode cX2_takeTool 43 = .ok (.iload 4, 2) := by decide +kernel
theorem dX2_takeTool_45 : decode cX2_takeTool 45 = .ok (.iconst 1, 1) := by decide +kernel
theorem dX2_takeTool_46 : decode cX2_takeTool 46 = .ok (.bipush 99, 2) := by decide +kernel
theorem dX2_takeTool_48 : decode cX2_takeTool 48 = .ok (.invokestatic 54, 3) := by decide +kernel
theorem dX2_takeTool_51 : decode cX2_takeTool 51 = .ok (.ifCond .ne 5, 3) := by decide +kernel
theorem dX2_takeTool_54 : decode cX2_takeTool 54 = .ok (.iconst 0, 1) := by decide +kernel
theorem dX2_takeTool_55 : decode cX2_takeTool 55 = .ok (.ireturn, 1) := by decide +kernel
theorem dX2_takeTool_56 : decode cX2_takeTool 56 = .ok (.aload_n 0, 1) := by decide +kernel
theorem dX2_takeTool_57 : decode cX2_takeTool 57 = .ok (.getfield 20, 3) := by decide +kernel
theorem dX2_takeTool_60 : decode cX2_takeTool 60 = .ok (.aload_n 0, 1) := by decide +kernel
theorem dX2_takeTool_61 : decode cX2_takeTool 61 = .ok (.getfield 37, 3) := by decide +kernel
theorem dX2_takeTool_64 : decode cX2_takeTool 64 = .ok (.aaload, 1) := by decide +kernel
theorem dX2_takeTool_65 : decode cX2_takeTool 65 = .ok (.astore 5, 2) := by decide +kernel
theorem dX2_takeTool_67 : decode cX2_takeTool 67 = .ok (.aload 5, 2) := by decide +kernel
theorem dX2_takeTool_69 : decode cX2_takeTool 69 = .ok (.iload_n 1, 1) := by decide +kernel
theorem dX2_takeTool_70 : decode cX2_takeTool 70 = .ok (.putfield 62, 3) := by decide +kernel
theorem dX2_takeTool_73 : decode cX2_takeTool 73 = .ok (.aload 5, 2) := by decide +kernel
theorem dX2_takeTool_75 : decode cX2_takeTool 75 = .ok (.iload_n 2, 1) := by decide +kernel
theorem dX2_takeTool_76 : decode cX2_takeTool 76 = .ok (.putfield 63, 3) := by decide +kernel
theorem dX2_takeTool_79 : decode cX2_takeTool 79 = .ok (.aload 5, 2) := by decide +kernel
theorem dX2_takeTool_81 : decode cX2_takeTool 81 = .ok (.iload_n 3, 1) := by decide +kernel
theorem dX2_takeTool_82 : decode cX2_takeTool 82 = .ok (.iconst 1, 1) := by decide +kernel
theorem dX2_takeTool_83 : decode cX2_takeTool 83 = .ok (.if_icmp .ne 7, 3) := by decide +kernel
theorem dX2_takeTool_86 : decode cX2_takeTool 86 = .ok (.iconst 1, 1) := by decide +kernel
theorem dX2_takeTool_87 : decode cX2_takeTool 87 = .ok (.goto 4, 3) := by decide +kernel
theorem dX2_takeTool_90 : decode cX2_takeTool 90 = .ok (.iconst 0, 1) := by decide +kernel
theorem dX2_takeTool_91 : decode cX2_takeTool 91 = .ok (.putfield 66, 3) := by decide +kernel
theorem dX2_takeTool_94 : decode cX2_takeTool 94 = .ok (.aload 5, 2) := by decide +kernel
theorem dX2_takeTool_96 : decode cX2_takeTool 96 = .ok (.iload 4, 2) := by decide +kernel
theorem dX2_takeTool_98 : decode cX2_takeTool 98 = .ok (.putfield 70, 3) := by decide +kernel
theorem dX2_takeTool_101 : decode cX2_takeTool 101 = .ok (.aload_n 0, 1) := by decide +kernel
theorem dX2_takeTool_102 : decode cX2_takeTool 102 = .ok (.dup, 1) := by decide +kernel
theorem dX2_takeTool_103 : decode cX2_takeTool 103 = .ok (.getfield 37, 3) := by decide +kernel
theorem dX2_takeTool_106 : decode cX2_takeTool 106 = .ok (.iconst 1, 1) := by decide +kernel
theorem dX2_takeTool_107 : decode cX2_takeTool 107 = .ok (.iadd, 1) := by decide +kernel
theorem dX2_takeTool_108 : decode cX2_takeTool 108 = .ok (.putfield 37, 3) := by decide +kernel
theorem dX2_takeTool_111 : decode cX2_takeTool 111 = .ok (.iconst 1, 1) := by decide +kernel
theorem dX2_takeTool_112 : decode cX2_takeTool 112 = .ok (.ireturn, 1) := by decide +kernel
theorem dX2_takeHole_0 : decode cX2_takeHole 0 = .ok (.aload_n 0, 1) := by decide +kernel
theorem dX2_takeHole_1 : decode cX2_takeHole 1 = .ok (.invokevirtual 50, 3) := by decide +kernel
theorem dX2_takeHole_4 : decode cX2_takeHole 4 = .ok (.ifCond .eq 22, 3) := by decide +kernel
theorem dX2_takeHole_7 : decode cX2_takeHole 7 = .ok (.aload_n 0, 1) := by decide +kernel
theorem dX2_takeHole_8 : decode cX2_takeHole 8 = .ok (.getfield 41, 3) := by decide +kernel
theorem dX2_takeHole_11 : decode cX2_takeHole 11 = .ok (.iconst 5, 1) := by decide +kernel
theorem dX2_takeHole_12 : decode cX2_takeHole 12 = .ok (.if_icmp .ge 14, 3) := by decide +kernel
theorem dX2_takeHole_15 : decode cX2_takeHole 15 = .ok (.iload_n 3, 1) := by decide +kernel
theorem dX2_takeHole_16 : decode cX2_takeHole 16 = .ok (.iconst 1, 1) := by decide +kernel
theorem dX2_takeHole_17 : decode cX2_takeHole 17 = .ok (.if_icmp .lt 9, 3) := by decide +kernel
theorem dX2_takeHole_20 : decode cX2_takeHole 20 = .ok (.iload 4, 2) := by decide +kernel
theorem dX2_takeHole_22 : decode cX2_takeHole 22 = .ok (.iconst 1, 1) := by decide +kernel
theorem dX2_takeHole_23 : decode cX2_takeHole 23 = .ok (.if_icmp .ge 5, 3) := by decide +kernel
theorem dX2_takeHole_26 : decode cX2_takeHole 26 = .ok (.iconst 0, 1) := by decide +kernel
theorem dX2_takeHole_27 : decode cX2_takeHole 27 = .ok (.ireturn, 1) := by decide +kernel
theorem dX2_takeHole_28 : decode cX2_takeHole 28 = .ok (.aload_n 0, 1) := by decide +kernel
theorem dX2_takeHole_29 : decode cX2_takeHole 29 = .ok (.getfield 24, 3) := by decide +kernel
theorem dX2_takeHole_32 : decode cX2_takeHole 32 = .ok (.aload_n 0, 1) := by decide +kernel
theorem dX2_takeHole_33 : decode cX2_takeHole 33 = .ok (.getfield 41, 3) := by decide +kernel
theorem dX2_takeHole_36 : decode cX2_takeHole 36 = .ok (.aaload, 1) := by decide +kernel
theorem dX2_takeHole_37 : decode cX2_takeHole 37 = .ok (.astore 5, 2) := by decide +kernel
theorem dX2_takeHole_39 : decode cX2_takeHole 39 = .ok (.aload 5, 2) := by decide +kernel
theorem dX2_takeHole_41 : decode cX2_takeHole 41 = .ok (.iload_n 1, 1) := by decide +kernel
theorem dX2_takeHole_42 : decode cX2_takeHole 42 = .ok (.iload_n 2, 1) := by decide +kernel
theorem dX2_takeHole_43 : decode cX2_takeHole 43 = .ok (.iload_n 3, 1) := by decide +kernel
theorem dX2_takeHole_44 : decode cX2_takeHole 44 = .ok (.iload 4, 2) := by decide +kernel
theorem dX2_takeHole_46 : decode cX2_takeHole 46 = .ok (.invokevirtual 33, 3) := by decide +kernel
theorem dX2_takeHole_49 : decode cX2_takeHole 49 = .ok (.aload_n 0, 1) := by decide +kernel
theorem dX2_takeHole_50 : decode cX2_takeHole 50 = .ok (.getfield 12, 3) := by decide +kernel
theorem dX2_takeHole_53 : decode cX2_takeHole 53 = .ok (.aload 5, 2) := by decide +kernel
theorem dX2_takeHole_55 : decode cX2_takeHole 55 = .ok (.invokevirtual 73, 3) := by decide +kernel
theorem dX2_takeHole_58 : decode cX2_takeHole 58 = .ok (.ifCond .ne 5, 3) := by decide +kernel
theorem dX2_takeHole_61 : decode cX2_takeHole 61 = .ok (.iconst 0, 1) := by decide +kernel
theorem dX2_takeHole_62 : decode cX2_takeHole 62 = .ok (.ireturn, 1) := by decide +kernel
theorem dX2_takeHole_63 : decode cX2_takeHole 63 = .ok (.iconst 0, 1) := by decide +kernel
theorem dX2_takeHole_64 : decode cX2_takeHole 64 = .ok (.istore 6, 2) := by decide +kernel
theorem dX2_takeHole_66 : decode cX2_takeHole 66 = .ok (.iload 6, 2) := by decide +kernel
theorem dX2_takeHole_68 : decode cX2_takeHole 68 = .ok (.aload_n 0, 1) := by decide +kernel
theorem dX2_takeHole_69 : decode cX2_takeHole 69 = .ok (.getfield 41, 3) := by decide +kernel
theorem dX2_takeHole_72 : decode cX2_takeHole 72 = .ok (.if_icmp .ge 26, 3) := by decide +kernel
theorem dX2_takeHole_75 : decode cX2_takeHole 75 = .ok (.aload_n 0, 1) := by decide +kernel
theorem dX2_takeHole_76 : decode cX2_takeHole 76 = .ok (.getfield 24, 3) := by decide +kernel
theorem dX2_takeHole_79 : decode cX2_takeHole 79 = .ok (.iload 6, 2) := by decide +kernel
theorem dX2_takeHole_81 : decode cX2_takeHole 81 = .ok (.aaload, 1) := by decide +kernel
theorem dX2_takeHole_82 : decode cX2_takeHole 82 = .ok (.aload 5, 2) := by decide +kernel
theorem dX2_takeHole_84 : decode cX2_takeHole 84 = .ok (.invokevirtual 77, 3) := by decide +kernel
theorem dX2_takeHole_87 : decode cX2_takeHole 87 = .ok (.ifCond .eq 5, 3) := by decide +kernel
theorem dX2_takeHole_90 : decode cX2_takeHole 90 = .ok (.iconst 0, 1) := by decide +kernel
theorem dX2_takeHole_91 : decode cX2_takeHole 91 = .ok (.ireturn, 1) := by decide +kernel
theorem dX2_takeHole_92 : decode cX2_takeHole 92 = .ok (.iinc 6 1, 3) := by decide +kernel
theorem dX2_takeHole_95 : decode cX2_takeHole 95 = .ok (.goto (-29), 3) := by decide +kernel
theorem dX2_takeHole_98 : decode cX2_takeHole 98 = .ok (.aload_n 0, 1) := by decide +kernel
theorem dX2_takeHole_99 : decode cX2_takeHole 99 = .ok (.dup, 1) := by decide +kernel
theorem dX2_takeHole_100 : decode cX2_takeHole 100 = .ok (.getfield 41, 3) := by decide +kernel
theorem dX2_takeHole_103 : decode cX2_takeHole 103 = .ok (.iconst 1, 1) := by decide +kernel
theorem dX2_takeHole_104 : decode cX2_takeHole 104 = .ok (.iadd, 1) := by decide +kernel
theorem dX2_takeHole_105 : decode cX2_takeHole 105 = .ok (.putfield 41, 3) := by decide +kernel
theorem dX2_takeHole_108 : decode cX2_takeHole 108 = .ok (.iconst 1, 1) := by decide +kernel
theorem dX2_takeHole_109 : decode cX2_takeHole 109 = .ok (.ireturn, 1) := by decide +kernel
theorem dX2_takeClamp_0 : decode cX2_takeClamp 0 = .ok (.aload_n 0, 1) := by decide +kernel
theorem dX2_takeClamp_1 : decode cX2_takeClamp 1 = .ok (.invokevirtual 50, 3) := by decide +kernel
theorem dX2_takeClamp_4 : decode cX2_takeClamp 4 = .ok (.ifCond .eq 19, 3) := by decide +kernel
theorem dX2_takeClamp_7 : decode cX2_takeClamp 7 = .ok (.aload_n 0, 1) := by decide +kernel
theorem dX2_takeClamp_8 : decode cX2_takeClamp 8 = .ok (.getfield 44, 3) := by decide +kernel
theorem dX2_takeClamp_11 : decode cX2_takeClamp 11 = .ok (.iconst 2, 1) := by decide +kernel
theorem dX2_takeClamp_12 : decode cX2_takeClamp 12 = .ok (.if_icmp .ge 11, 3) := by decide +kernel
theorem dX2_takeClamp_15 : decode cX2_takeClamp 15 = .ok (.aload_n 0, 1) := by decide +kernel
theorem dX2_takeClamp_16 : decode cX2_takeClamp 16 = .ok (.iload_n 1, 1) := by decide +kernel
theorem dX2_takeClamp_17 : decode cX2_takeClamp 17 = .ok (.invokevirtual 80, 3) := by decide +kernel
theorem dX2_takeClamp_20 : decode cX2_takeClamp 20 = .ok (.ifCond .ne 5, 3) := by decide +kernel
theorem dX2_takeClamp_23 : decode cX2_takeClamp 23 = .ok (.iconst 0, 1) := by decide +kernel
theorem dX2_takeClamp_24 : decode cX2_takeClamp 24 = .ok (.ireturn, 1) := by decide +kernel
theorem dX2_takeClamp_25 : decode cX2_takeClamp 25 = .ok (.iconst 0, 1) := by decide +kernel
theorem dX2_takeClamp_26 : decode cX2_takeClamp 26 = .ok (.istore_n 2, 1) := by decide +kernel
theorem dX2_takeClamp_27 : decode cX2_takeClamp 27 = .ok (.iload_n 2, 1) := by decide +kernel
theorem dX2_takeClamp_28 : decode cX2_takeClamp 28 = .ok (.aload_n 0, 1) := by decide +kernel
theorem dX2_takeClamp_29 : decode cX2_takeClamp 29 = .ok (.getfield 44, 3) := by decide +kernel
theorem dX2_takeClamp_32 : decode cX2_takeClamp 32 = .ok (.if_icmp .ge 24, 3) := by decide +kernel
theorem dX2_takeClamp_35 : decode cX2_takeClamp 35 = .ok (.aload_n 0, 1) := by decide +kernel
theorem dX2_takeClamp_36 : decode cX2_takeClamp 36 = .ok (.getfield 28, 3) := by decide +kernel
theorem dX2_takeClamp_39 : decode cX2_takeClamp 39 = .ok (.iload_n 2, 1) := by decide +kernel
theorem dX2_takeClamp_40 : decode cX2_takeClamp 40 = .ok (.iaload, 1) := by decide +kernel
theorem dX2_takeClamp_41 : decode cX2_takeClamp 41 = .ok (.iload_n 1, 1) := by decide +kernel
theorem dX2_takeClamp_42 : decode cX2_takeClamp 42 = .ok (.invokestatic 83, 3) := by decide +kernel
theorem dX2_takeClamp_45 : decode cX2_takeClamp 45 = .ok (.ifCond .eq 5, 3) := by decide +kernel
theorem dX2_takeClamp_48 : decode cX2_takeClamp 48 = .ok (.iconst 0, 1) := by decide +kernel
theorem dX2_takeClamp_49 : decode cX2_takeClamp 49 = .ok (.ireturn, 1) := by decide +kernel
theorem dX2_takeClamp_50 : decode cX2_takeClamp 50 = .ok (.iinc 2 1, 3) := by decide +kernel
theorem dX2_takeClamp_53 : decode cX2_takeClamp 53 = .ok (.goto (-26), 3) := by decide +kernel
theorem dX2_takeClamp_56 : decode cX2_takeClamp 56 = .ok (.aload_n 0, 1) := by decide +kernel
theorem dX2_takeClamp_57 : decode cX2_takeClamp 57 = .ok (.getfield 28, 3) := by decide +kernel
theorem dX2_takeClamp_60 : decode cX2_takeClamp 60 = .ok (.aload_n 0, 1) := by decide +kernel
theorem dX2_takeClamp_61 : decode cX2_takeClamp 61 = .ok (.getfield 44, 3) := by decide +kernel
theorem dX2_takeClamp_64 : decode cX2_takeClamp 64 = .ok (.iload_n 1, 1) := by decide +kernel
theorem dX2_takeClamp_65 : decode cX2_takeClamp 65 = .ok (.iastore, 1) := by decide +kernel
theorem dX2_takeClamp_66 : decode cX2_takeClamp 66 = .ok (.aload_n 0, 1) := by decide +kernel
theorem dX2_takeClamp_67 : decode cX2_takeClamp 67 = .ok (.dup, 1) := by decide +kernel
theorem dX2_takeClamp_68 : decode cX2_takeClamp 68 = .ok (.getfield 44, 3) := by decide +kernel
theorem dX2_takeClamp_71 : decode cX2_takeClamp 71 = .ok (.iconst 1, 1) := by decide +kernel
theorem dX2_takeClamp_72 : decode cX2_takeClamp 72 = .ok (.iadd, 1) := by decide +kernel
theorem dX2_takeClamp_73 : decode cX2_takeClamp 73 = .ok (.putfield 44, 3) := by decide +kernel
theorem dX2_takeClamp_76 : decode cX2_takeClamp 76 = .ok (.iconst 1, 1) := by decide +kernel
theorem dX2_takeClamp_77 : decode cX2_takeClamp 77 = .ok (.ireturn, 1) := by decide +kernel
theorem dX2_isColumn_0 : decode cX2_isColumn 0 = .ok (.iload_n 1, 1) := by decide +kernel
theorem dX2_isColumn_1 : decode cX2_isColumn 1 = .ok (.iconst 0, 1) := by decide +kernel
theorem dX2_isColumn_2 : decode cX2_isColumn 2 = .ok (.aload_n 0, 1) := by decide +kernel
theorem dX2_isColumn_3 : decode cX2_isColumn 3 = .ok (.getfield 12, 3) := by decide +kernel
theorem dX2_isColumn_6 : decode cX2_isColumn 6 = .ok (.getfield 47, 3) := by decide +kernel
theorem dX2_isColumn_9 : decode cX2_isColumn 9 = .ok (.iconst 2, 1) := by decide +kernel
theorem dX2_isColumn_10 : decode cX2_isColumn 10 = .ok (.isub, 1) := by decide +kernel
theorem dX2_isColumn_11 : decode cX2_isColumn 11 = .ok (.invokestatic 54, 3) := by decide +kernel
theorem dX2_isColumn_14 : decode cX2_isColumn 14 = .ok (.ireturn, 1) := by decide +kernel
theorem dX2_areTooNear_0 : decode cX2_areTooNear 0 = .ok (.iload_n 0, 1) := by decide +kernel
theorem dX2_areTooNear_1 : decode cX2_areTooNear 1 = .ok (.iload_n 1, 1) := by decide +kernel
theorem dX2_areTooNear_2 : decode cX2_areTooNear 2 = .ok (.isub, 1) := by decide +kernel
theorem dX2_areTooNear_3 : decode cX2_areTooNear 3 = .ok (.iconst (-1), 1) := by decide +kernel
theorem dX2_areTooNear_4 : decode cX2_areTooNear 4 = .ok (.iconst 1, 1) := by decide +kernel
theorem dX2_areTooNear_5 : decode cX2_areTooNear 5 = .ok (.invokestatic 54, 3) := by decide +kernel
theorem dX2_areTooNear_8 : decode cX2_areTooNear 8 = .ok (.ireturn, 1) := by decide +kernel
theorem dX2_holeAt_0 : decode cX2_holeAt 0 = .ok (.iconst 0, 1) := by decide +kernel
theorem dX2_holeAt_1 : decode cX2_holeAt 1 = .ok (.istore_n 3, 1) := by decide +kernel
theorem dX2_holeAt_2 : decode cX2_holeAt 2 = .ok (.iload_n 3, 1) := by decide +kernel
theorem dX2_holeAt_3 : decode cX2_holeAt 3 = .ok (.aload_n 0, 1) := by decide +kernel
theorem dX2_holeAt_4 : decode cX2_holeAt 4 = .ok (.getfield 41, 3) := by decide +kernel
theorem dX2_holeAt_7 : decode cX2_holeAt 7 = .ok (.if_icmp .ge 25, 3) := by decide +kernel
theorem dX2_holeAt_10 : decode cX2_holeAt 10 = .ok (.aload_n 0, 1) := by decide +kernel
theorem dX2_holeAt_11 : decode cX2_holeAt 11 = .ok (.getfield 24, 3) := by decide +kernel
theorem dX2_holeAt_14 : decode cX2_holeAt 14 = .ok (.iload_n 3, 1) := by decide +kernel
theorem dX2_holeAt_15 : decode cX2_holeAt 15 = .ok (.aaload, 1) := by decide +kernel
theorem dX2_holeAt_16 : decode cX2_holeAt 16 = .ok (.iload_n 1, 1) := by decide +kernel
theorem dX2_holeAt_17 : decode cX2_holeAt 17 = .ok (.iload_n 2, 1) := by decide +kernel
theorem dX2_holeAt_18 : decode cX2_holeAt 18 = .ok (.invokevirtual 87, 3) := by decide +kernel
theorem dX2_holeAt_21 : decode cX2_holeAt 21 = .ok (.ifCond .eq 5, 3) := by decide +kernel
theorem dX2_holeAt_24 : decode cX2_holeAt 24 = .ok (.iload_n 3, 1) := by decide +kernel
theorem dX2_holeAt_25 : decode cX2_holeAt 25 = .ok (.ireturn, 1) := by decide +kernel
theorem dX2_holeAt_26 : decode cX2_holeAt 26 = .ok (.iinc 3 1, 3) := by decide +kernel
theorem dX2_holeAt_29 : decode cX2_holeAt 29 = .ok (.goto (-27), 3) := by decide +kernel
theorem dX2_holeAt_32 : decode cX2_holeAt 32 = .ok (.bipush (-4), 2) := by decide +kernel
theorem dX2_holeAt_34 : decode cX2_holeAt 34 = .ok (.ireturn, 1) := by decide +kernel
theorem dX2_isOfOneHole_0 : decode cX2_isOfOneHole 0 = .ok (.iconst 0, 1) := by decide +kernel
theorem dX2_isOfOneHole_1 : decode cX2_isOfOneHole 1 = .ok (.istore_n 2, 1) := by decide +kernel
theorem dX2_isOfOneHole_2 : decode cX2_isOfOneHole 2 = .ok (.iload_n 2, 1) := by decide +kernel
theorem dX2_isOfOneHole_3 : decode cX2_isOfOneHole 3 = .ok (.aload_n 0, 1) := by decide +kernel
theorem dX2_isOfOneHole_4 : decode cX2_isOfOneHole 4 = .ok (.getfield 41, 3) := by decide +kernel
theorem dX2_isOfOneHole_7 : decode cX2_isOfOneHole 7 = .ok (.if_icmp .ge 24, 3) := by decide +kernel
theorem dX2_isOfOneHole_10 : decode cX2_isOfOneHole 10 = .ok (.aload_n 0, 1) := by decide +kernel
theorem dX2_isOfOneHole_11 : decode cX2_isOfOneHole 11 = .ok (.getfield 24, 3) := by decide +kernel
theorem dX2_isOfOneHole_14 : decode cX2_isOfOneHole 14 = .ok (.iload_n 2, 1) := by decide +kernel
theorem dX2_isOfOneHole_15 : decode cX2_isOfOneHole 15 = .ok (.aaload, 1) := by decide +kernel
theorem dX2_isOfOneHole_16 : decode cX2_isOfOneHole 16 = .ok (.aload_n 1, 1) := by decide +kernel
theorem dX2_isOfOneHole_17 : decode cX2_isOfOneHole 17 = .ok (.invokevirtual 73, 3) := by decide +kernel
theorem dX2_isOfOneHole_20 : decode cX2_isOfOneHole 20 = .ok (.ifCond .eq 5, 3) := by decide +kernel
theorem dX2_isOfOneHole_23 : decode cX2_isOfOneHole 23 = .ok (.iconst 1, 1) := by decide +kernel
theorem dX2_isOfOneHole_24 : decode cX2_isOfOneHole 24 = .ok (.ireturn, 1) := by decide +kernel
theorem dX2_isOfOneHole_25 : decode cX2_isOfOneHole 25 = .ok (.iinc 2 1, 3) := by decide +kernel
theorem dX2_isOfOneHole_28 : decode cX2_isOfOneHole 28 = .ok (.goto (-26), 3) := by decide +kernel
theorem dX2_isOfOneHole_31 : decode cX2_isOfOneHole 31 = .ok (.iconst 0, 1) := by decide +kernel
theorem dX2_isOfOneHole_32 : decode cX2_isOfOneHole 32 = .ok (.ireturn, 1) := by decide +kernel
theorem dX2_turnsBetween_0 : decode cX2_turnsBetween 0 = .ok (.iload_n 1, 1) := by decide +kernel
theorem dX2_turnsBetween_1 : decode cX2_turnsBetween 1 = .ok (.iload_n 2, 1) := by decide +kernel
theorem dX2_turnsBetween_2 : decode cX2_turnsBetween 2 = .ok (.isub, 1) := by decide +kernel
theorem dX2_turnsBetween_3 : decode cX2_turnsBetween 3 = .ok (.invokestatic 90, 3) := by decide +kernel
theorem dX2_turnsBetween_6 : decode cX2_turnsBetween 6 = .ok (.istore_n 3, 1) := by decide +kernel
theorem dX2_turnsBetween_7 : decode cX2_turnsBetween 7 = .ok (.iload_n 3, 1) := by decide +kernel
theorem dX2_turnsBetween_8 : decode cX2_turnsBetween 8 = .ok (.aload_n 0, 1) := by decide +kernel
theorem dX2_turnsBetween_9 : decode cX2_turnsBetween 9 = .ok (.getfield 37, 3) := by decide +kernel
theorem dX2_turnsBetween_12 : decode cX2_turnsBetween 12 = .ok (.iload_n 3, 1) := by decide +kernel
theorem dX2_turnsBetween_13 : decode cX2_turnsBetween 13 = .ok (.isub, 1) := by decide +kernel
theorem dX2_turnsBetween_14 : decode cX2_turnsBetween 14 = .ok (.invokestatic 96, 3) := by decide +kernel
theorem dX2_turnsBetween_17 : decode cX2_turnsBetween 17 = .ok (.ireturn, 1) := by decide +kernel
theorem dX2_turnsThrough_0 : decode cX2_turnsThrough 0 = .ok (.aload_n 0, 1) := by decide +kernel
theorem dX2_turnsThrough_1 : decode cX2_turnsThrough 1 = .ok (.getfield 37, 3) := by decide +kernel
theorem dX2_turnsThrough_4 : decode cX2_turnsThrough 4 = .ok (.istore_n 3, 1) := by decide +kernel
theorem dX2_turnsThrough_5 : decode cX2_turnsThrough 5 = .ok (.iconst 0, 1) := by decide +kernel
theorem dX2_turnsThrough_6 : decode cX2_turnsThrough 6 = .ok (.istore 4, 2) := by decide +kernel
theorem dX2_turnsThrough_8 : decode cX2_turnsThrough 8 = .ok (.iload 4, 2) := by decide +kernel
theorem dX2_turnsThrough_10 : decode cX2_turnsThrough 10 = .ok (.aload_n 0, 1) := by decide +kernel
theorem dX2_turnsThrough_11 : decode cX2_turnsThrough 11 = .ok (.getfield 37, 3) := by decide +kernel
theorem dX2_turnsThrough_14 : decode cX2_turnsThrough 14 = .ok (.if_icmp .ge 37, 3) := by decide +kernel
theorem dX2_turnsThrough_17 : decode cX2_turnsThrough 17 = .ok (.aload_n 0, 1) := by decide +kernel
theorem dX2_turnsThrough_18 : decode cX2_turnsThrough 18 = .ok (.iload_n 1, 1) := by decide +kernel
theorem dX2_turnsThrough_19 : decode cX2_turnsThrough 19 = .ok (.iload_n 2, 1) := by decide +kernel
theorem dX2_turnsThrough_20 : decode cX2_turnsThrough 20 = .ok (.iload 4, 2) := by decide +kernel
theorem dX2_turnsThrough_22 : decode cX2_turnsThrough 22 = .ok (.invokevirtual 100, 3) := by decide +kernel
theorem dX2_turnsThrough_25 : decode cX2_turnsThrough 25 = .ok (.istore 5, 2) := by decide +kernel
theorem dX2_turnsThrough_27 : decode cX2_turnsThrough 27 = .ok (.iload_n 3, 1) := by decide +kernel
theorem dX2_turnsThrough_28 : decode cX2_turnsThrough 28 = .ok (.iload 4, 2) := by decide +kernel
theorem dX2_turnsThrough_30 : decode cX2_turnsThrough 30 = .ok (.iload 5, 2) := by decide +kernel
theorem dX2_turnsThrough_32 : decode cX2_turnsThrough 32 = .ok (.iadd, 1) := by decide +kernel
theorem dX2_turnsThrough_33 : decode cX2_turnsThrough 33 = .ok (.iload 4, 2) := by decide +kernel
theorem dX2_turnsThrough_35 : decode cX2_turnsThrough 35 = .ok (.iload 5, 2) := by decide +kernel
theorem dX2_turnsThrough_37 : decode cX2_turnsThrough 37 = .ok (.invokestatic 96, 3) := by decide +kernel
theorem dX2_turnsThrough_40 : decode cX2_turnsThrough 40 = .ok (.iadd, 1) := by decide +kernel
theorem dX2_turnsThrough_41 : decode cX2_turnsThrough 41 = .ok (.invokestatic 96, 3) := by decide +kernel
theorem dX2_turnsThrough_44 : decode cX2_turnsThrough 44 = .ok (.istore_n 3, 1) := by decide +kernel
theorem dX2_turnsThrough_45 : decode cX2_turnsThrough 45 = .ok (.iinc 4 1, 3) := by decide +kernel
theorem dX2_turnsThrough_48 : decode cX2_turnsThrough 48 = .ok (.goto (-40), 3) := by decide +kernel
theorem dX2_turnsThrough_51 : decode cX2_turnsThrough 51 = .ok (.iload_n 3, 1) := by decide +kernel
theorem dX2_turnsThrough_52 : decode cX2_turnsThrough 52 = .ok (.ireturn, 1) := by decide +kernel
theorem dX2_downBeyond_0 : decode cX2_downBeyond 0 = .ok (.iload_n 3, 1) := by decide +kernel
theorem dX2_downBeyond_1 : decode cX2_downBeyond 1 = .ok (.iconst 1, 1) := by decide +kernel
theorem dX2_downBeyond_2 : decode cX2_downBeyond 2 = .ok (.iadd, 1) := by decide +kernel
theorem dX2_downBeyond_3 : decode cX2_downBeyond 3 = .ok (.istore 4, 2) := by decide +kernel
theorem dX2_downBeyond_5 : decode cX2_downBeyond 5 = .ok (.iload 4, 2) := by decide +kernel
theorem dX2_downBeyond_7 : decode cX2_downBeyond 7 = .ok (.aload_n 0, 1) := by decide +kernel
theorem dX2_downBeyond_8 : decode cX2_downBeyond 8 = .ok (.getfield 37, 3) := by decide +kernel
theorem dX2_downBeyond_11 : decode cX2_downBeyond 11 = .ok (.if_icmp .ge 55, 3) := by decide +kernel
theorem dX2_downBeyond_14 : decode cX2_downBeyond 14 = .ok (.iload_n 1, 1) := by decide +kernel
theorem dX2_downBeyond_15 : decode cX2_downBeyond 15 = .ok (.iload 4, 2) := by decide +kernel
theorem dX2_downBeyond_17 : decode cX2_downBeyond 17 = .ok (.iadd, 1) := by decide +kernel
theorem dX2_downBeyond_18 : decode cX2_downBeyond 18 = .ok (.aload_n 0, 1) := by decide +kernel
theorem dX2_downBeyond_19 : decode cX2_downBeyond 19 = .ok (.getfield 37, 3) := by decide +kernel
theorem dX2_downBeyond_22 : decode cX2_downBeyond 22 = .ok (.if_icmp .ge 10, 3) := by decide +kernel
theorem dX2_downBeyond_25 : decode cX2_downBeyond 25 = .ok (.iload_n 1, 1) := by decide +kernel
theorem dX2_downBeyond_26 : decode cX2_downBeyond 26 = .ok (.iload 4, 2) := by decide +kernel
theorem dX2_downBeyond_28 : decode cX2_downBeyond 28 = .ok (.iadd, 1) := by decide +kernel
theorem dX2_downBeyond_29 : decode cX2_downBeyond 29 = .ok (.goto 12, 3) := by decide +kernel
theorem dX2_downBeyond_32 : decode cX2_downBeyond 32 = .ok (.iload_n 1, 1) := by decide +kernel
theorem dX2_downBeyond_33 : decode cX2_downBeyond 33 = .ok (.iload 4, 2) := by decide +kernel
theorem dX2_downBeyond_35 : decode cX2_downBeyond 35 = .ok (.iadd, 1) := by decide +kernel
theorem dX2_downBeyond_36 : decode cX2_downBeyond 36 = .ok (.aload_n 0, 1) := by decide +kernel
theorem dX2_downBeyond_37 : decode cX2_downBeyond 37 = .ok (.getfield 37, 3) := by decide +kernel
theorem dX2_downBeyond_40 : decode cX2_downBeyond 40 = .ok (.isub, 1) := by decide +kernel
theorem dX2_downBeyond_41 : decode cX2_downBeyond 41 = .ok (.istore 5, 2) := by decide +kernel
theorem dX2_downBeyond_43 : decode cX2_downBeyond 43 = .ok (.iload_n 2, 1) := by decide +kernel
theorem dX2_downBeyond_44 : decode cX2_downBeyond 44 = .ok (.iconst 1, 1) := by decide +kernel
theorem dX2_downBeyond_45 : decode cX2_downBeyond 45 = .ok (.iload 5, 2) := by decide +kernel
theorem dX2_downBeyond_47 : decode cX2_downBeyond 47 = .ok (.ishl, 1) := by decide +kernel
theorem dX2_downBeyond_48 : decode cX2_downBeyond 48 = .ok (.iand, 1) := by decide +kernel
theorem dX2_downBeyond_49 : decode cX2_downBeyond 49 = .ok (.ifCond .eq 11, 3) := by decide +kernel
theorem dX2_downBeyond_52 : decode cX2_downBeyond 52 = .ok (.aload_n 0, 1) := by decide +kernel
theorem dX2_downBeyond_53 : decode cX2_downBeyond 53 = .ok (.getfield 37, 3) := by decide +kernel
theorem dX2_downBeyond_56 : decode cX2_downBeyond 56 = .ok (.iload 4, 2) := by decide +kernel
theorem dX2_downBeyond_58 : decode cX2_downBeyond 58 = .ok (.isub, 1) := by decide +kernel
theorem dX2_downBeyond_59 : decode cX2_downBeyond 59 = .ok (.ireturn, 1) := by decide +kernel
