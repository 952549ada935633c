theorem dX5_init_13 : decode cX5_init 13 = .ok (.bipush 6, 2) := by decide +kernel
theorem dX5_init_15 : decode cX5_init 15 = .ok (.newarray .int, 2) := by decide +kernel
theorem dX5_init_17 : decode cX5_init 17 = .ok (.putfield 15, 3) := by decide +kernel
theorem dX5_init_20 : decode cX5_init 20 = .ok (.aload_n 0, 1) := by decide +kernel
theorem dX5_init_21 : decode cX5_init 21 = .ok (.iconst 2, 1) := by decide +kernel
theorem dX5_init_22 : decode cX5_init 22 = .ok (.newarray .int, 2) := by decide +kernel
theorem dX5_init_24 : decode cX5_init 24 = .ok (.putfield 18, 3) := by decide +kernel
theorem dX5_init_27 : decode cX5_init 27 = .ok (.return_, 1) := by decide +kernel
theorem dX5_begin_0 : decode cX5_begin 0 = .ok (.aload_n 0, 1) := by decide +kernel
theorem dX5_begin_1 : decode cX5_begin 1 = .ok (.getfield 9, 3) := by decide +kernel
theorem dX5_begin_4 : decode cX5_begin 4 = .ok (.iconst 0, 1) := by decide +kernel
theorem dX5_begin_5 : decode cX5_begin 5 = .ok (.invokestatic 21, 3) := by decide +kernel
theorem dX5_begin_8 : decode cX5_begin 8 = .ok (.aload_n 0, 1) := by decide +kernel
theorem dX5_begin_9 : decode cX5_begin 9 = .ok (.getfield 15, 3) := by decide +kernel
theorem dX5_begin_12 : decode cX5_begin 12 = .ok (.iconst 0, 1) := by decide +kernel
theorem dX5_begin_13 : decode cX5_begin 13 = .ok (.invokestatic 21, 3) := by decide +kernel
theorem dX5_begin_16 : decode cX5_begin 16 = .ok (.aload_n 1, 1) := by decide +kernel
theorem dX5_begin_17 : decode cX5_begin 17 = .ok (.getfield 27, 3) := by decide +kernel
theorem dX5_begin_20 : decode cX5_begin 20 = .ok (.iconst 0, 1) := by decide +kernel
theorem dX5_begin_21 : decode cX5_begin 21 = .ok (.aload_n 0, 1) := by decide +kernel
theorem dX5_begin_22 : decode cX5_begin 22 = .ok (.getfield 18, 3) := by decide +kernel
theorem dX5_begin_25 : decode cX5_begin 25 = .ok (.iconst 0, 1) := by decide +kernel
theorem dX5_begin_26 : decode cX5_begin 26 = .ok (.iconst 2, 1) := by decide +kernel
theorem dX5_begin_27 : decode cX5_begin 27 = .ok (.invokestatic 30, 3) := by decide +kernel
theorem dX5_begin_30 : decode cX5_begin 30 = .ok (.aload_n 0, 1) := by decide +kernel
theorem dX5_begin_31 : decode cX5_begin 31 = .ok (.iconst 0, 1) := by decide +kernel
theorem dX5_begin_32 : decode cX5_begin 32 = .ok (.putfield 36, 3) := by decide +kernel
theorem dX5_begin_35 : decode cX5_begin 35 = .ok (.aload_n 0, 1) := by decide +kernel
theorem dX5_begin_36 : decode cX5_begin 36 = .ok (.iconst 0, 1) := by decide +kernel
theorem dX5_begin_37 : decode cX5_begin 37 = .ok (.putfield 40, 3) := by decide +kernel
theorem dX5_begin_40 : decode cX5_begin 40 = .ok (.aload_n 0, 1) := by decide +kernel
theorem dX5_begin_41 : decode cX5_begin 41 = .ok (.iconst 0, 1) := by decide +kernel
theorem dX5_begin_42 : decode cX5_begin 42 = .ok (.putfield 43, 3) := by decide +kernel
theorem dX5_begin_45 : decode cX5_begin 45 = .ok (.aload_n 0, 1) := by decide +kernel
theorem dX5_begin_46 : decode cX5_begin 46 = .ok (.iconst 0, 1) := by decide +kernel
theorem dX5_begin_47 : decode cX5_begin 47 = .ok (.putfield 46, 3) := by decide +kernel
theorem dX5_begin_50 : decode cX5_begin 50 = .ok (.return_, 1) := by decide +kernel
theorem dX5_copyFrom_0 : decode cX5_copyFrom 0 = .ok (.aload_n 1, 1) := by decide +kernel
theorem dX5_copyFrom_1 : decode cX5_copyFrom 1 = .ok (.getfield 9, 3) := by decide +kernel
theorem dX5_copyFrom_4 : decode cX5_copyFrom 4 = .ok (.iconst 0, 1) := by decide +kernel
theorem dX5_copyFrom_5 : decode cX5_copyFrom 5 = .ok (.aload_n 0, 1) := by decide +kernel
theorem dX5_copyFrom_6 : decode cX5_copyFrom 6 = .ok (.getfield 9, 3) := by decide +kernel
theorem dX5_copyFrom_9 : decode cX5_copyFrom 9 = .ok (.iconst 0, 1) := by decide +kernel
theorem dX5_copyFrom_10 : decode cX5_copyFrom 10 = .ok (.bipush 12, 2) := by decide +kernel
theorem dX5_copyFrom_12 : decode cX5_copyFrom 12 = .ok (.invokestatic 30, 3) := by decide +kernel
theorem dX5_copyFrom_15 : decode cX5_copyFrom 15 = .ok (.aload_n 1, 1) := by decide +kernel
theorem dX5_copyFrom_16 : decode cX5_copyFrom 16 = .ok (.getfield 15, 3) := by decide +kernel
theorem dX5_copyFrom_19 : decode cX5_copyFrom 19 = .ok (.iconst 0, 1) := by decide +kernel
theorem dX5_copyFrom_20 : decode cX5_copyFrom 20 = .ok (.aload_n 0, 1) := by decide +kernel
theorem dX5_copyFrom_21 : decode cX5_copyFrom 21 = .ok (.getfield 15, 3) := by decide +kernel
theorem dX5_copyFrom_24 : decode cX5_copyFrom 24 = .ok (.iconst 0, 1) := by decide +kernel
theorem dX5_copyFrom_25 : decode cX5_copyFrom 25 = .ok (.bipush 6, 2) := by decide +kernel
theorem dX5_copyFrom_27 : decode cX5_copyFrom 27 = .ok (.invokestatic 30, 3) := by decide +kernel
theorem dX5_copyFrom_30 : decode cX5_copyFrom 30 = .ok (.aload_n 1, 1) := by decide +kernel
theorem dX5_copyFrom_31 : decode cX5_copyFrom 31 = .ok (.getfield 18, 3) := by decide +kernel
theorem dX5_copyFrom_34 : decode cX5_copyFrom 34 = .ok (.iconst 0, 1) := by decide +kernel
theorem dX5_copyFrom_35 : decode cX5_copyFrom 35 = .ok (.aload_n 0, 1) := by decide +kernel
theorem dX5_copyFrom_36 : decode cX5_copyFrom 36 = .ok (.getfield 18, 3) := by decide +kernel
theorem dX5_copyFrom_39 : decode cX5_copyFrom 39 = .ok (.iconst 0, 1) := by decide +kernel
theorem dX5_copyFrom_40 : decode cX5_copyFrom 40 = .ok (.iconst 2, 1) := by decide +kernel
theorem dX5_copyFrom_41 : decode cX5_copyFrom 41 = .ok (.invokestatic 30, 3) := by decide +kernel
theorem dX5_copyFrom_44 : decode cX5_copyFrom 44 = .ok (.aload_n 0, 1) := by decide +kernel
theorem dX5_copyFrom_45 : decode cX5_copyFrom 45 = .ok (.aload_n 1, 1) := by decide +kernel
theorem dX5_copyFrom_46 : decode cX5_copyFrom 46 = .ok (.getfield 36, 3) := by decide +kernel
theorem dX5_copyFrom_49 : decode cX5_copyFrom 49 = .ok (.putfield 36, 3) := by decide +kernel
theorem dX5_copyFrom_52 : decode cX5_copyFrom 52 = .ok (.aload_n 0, 1) := by decide +kernel
theorem dX5_copyFrom_53 : decode cX5_copyFrom 53 = .ok (.aload_n 1, 1) := by decide +kernel
theorem dX5_copyFrom_54 : decode cX5_copyFrom 54 = .ok (.getfield 40, 3) := by decide +kernel
theorem dX5_copyFrom_57 : decode cX5_copyFrom 57 = .ok (.putfield 40, 3) := by decide +kernel
theorem dX5_copyFrom_60 : decode cX5_copyFrom 60 = .ok (.aload_n 0, 1) := by decide +kernel
theorem dX5_copyFrom_61 : decode cX5_copyFrom 61 = .ok (.aload_n 1, 1) := by decide +kernel
theorem dX5_copyFrom_62 : decode cX5_copyFrom 62 = .ok (.getfield 43, 3) := by decide +kernel
theorem dX5_copyFrom_65 : decode cX5_copyFrom 65 = .ok (.putfield 43, 3) := by decide +kernel
theorem dX5_copyFrom_68 : decode cX5_copyFrom 68 = .ok (.aload_n 0, 1) := by decide +kernel
theorem dX5_copyFrom_69 : decode cX5_copyFrom 69 = .ok (.aload_n 1, 1) := by decide +kernel
theorem dX5_copyFrom_70 : decode cX5_copyFrom 70 = .ok (.getfield 46, 3) := by decide +kernel
theorem dX5_copyFrom_73 : decode cX5_copyFrom 73 = .ok (.putfield 46, 3) := by decide +kernel
theorem dX5_copyFrom_76 : decode cX5_copyFrom 76 = .ok (.return_, 1) := by decide +kernel
theorem dX5_refusal_0 : decode cX5_refusal 0 = .ok (.iload_n 3, 1) := by decide +kernel
theorem dX5_refusal_1 : decode cX5_refusal 1 = .ok (.ifCond .eq 17, 3) := by decide +kernel
theorem dX5_refusal_4 : decode cX5_refusal 4 = .ok (.aload_n 1, 1) := by decide +kernel
theorem dX5_refusal_5 : decode cX5_refusal 5 = .ok (.getfield 49, 3) := by decide +kernel
theorem dX5_refusal_8 : decode cX5_refusal 8 = .ok (.iload_n 2, 1) := by decide +kernel
theorem dX5_refusal_9 : decode cX5_refusal 9 = .ok (.aaload, 1) := by decide +kernel
theorem dX5_refusal_10 : decode cX5_refusal 10 = .ok (.getfield 53, 3) := by decide +kernel
theorem dX5_refusal_13 : decode cX5_refusal 13 = .ok (.ifCond .ne 5, 3) := by decide +kernel
theorem dX5_refusal_16 : decode cX5_refusal 16 = .ok (.iconst 1, 1) := by decide +kernel
theorem dX5_refusal_17 : decode cX5_refusal 17 = .ok (.ireturn, 1) := by decide +kernel
theorem dX5_refusal_18 : decode cX5_refusal 18 = .ok (.aload_n 1, 1) := by decide +kernel
theorem dX5_refusal_19 : decode cX5_refusal 19 = .ok (.getfield 59, 3) := by decide +kernel
theorem dX5_refusal_22 : decode cX5_refusal 22 = .ok (.aload 4, 2) := by decide +kernel
theorem dX5_refusal_24 : decode cX5_refusal 24 = .ok (.invokevirtual 63, 3) := by decide +kernel
theorem dX5_refusal_27 : decode cX5_refusal 27 = .ok (.ifCond .ne 5, 3) := by decide +kernel
theorem dX5_refusal_30 : decode cX5_refusal 30 = .ok (.iconst 2, 1) := by decide +kernel
theorem dX5_refusal_31 : decode cX5_refusal 31 = .ok (.ireturn, 1) := by decide +kernel
theorem dX5_refusal_32 : decode cX5_refusal 32 = .ok (.aload_n 1, 1) := by decide +kernel
theorem dX5_refusal_33 : decode cX5_refusal 33 = .ok (.aload 4, 2) := by decide +kernel
theorem dX5_refusal_35 : decode cX5_refusal 35 = .ok (.invokevirtual 69, 3) := by decide +kernel
theorem dX5_refusal_38 : decode cX5_refusal 38 = .ok (.ifCond .ne 5, 3) := by decide +kernel
theorem dX5_refusal_41 : decode cX5_refusal 41 = .ok (.iconst 3, 1) := by decide +kernel
theorem dX5_refusal_42 : decode cX5_refusal 42 = .ok (.ireturn, 1) := by decide +kernel
theorem dX5_refusal_43 : decode cX5_refusal 43 = .ok (.aload_n 0, 1) := by decide +kernel
theorem dX5_refusal_44 : decode cX5_refusal 44 = .ok (.aload_n 1, 1) := by decide +kernel
theorem dX5_refusal_45 : decode cX5_refusal 45 = .ok (.aload 4, 2) := by decide +kernel
theorem dX5_refusal_47 : decode cX5_refusal 47 = .ok (.invokevirtual 72, 3) := by decide +kernel
theorem dX5_refusal_50 : decode cX5_refusal 50 = .ok (.ifCond .eq 5, 3) := by decide +kernel
theorem dX5_refusal_53 : decode cX5_refusal 53 = .ok (.iconst 4, 1) := by decide +kernel
theorem dX5_refusal_54 : decode cX5_refusal 54 = .ok (.ireturn, 1) := by decide +kernel
theorem dX5_refusal_55 : decode cX5_refusal 55 = .ok (.aload_n 0, 1) := by decide +kernel
theorem dX5_refusal_56 : decode cX5_refusal 56 = .ok (.aload 4, 2) := by decide +kernel
theorem dX5_refusal_58 : decode cX5_refusal 58 = .ok (.invokevirtual 76, 3) := by decide +kernel
theorem dX5_refusal_61 : decode cX5_refusal 61 = .ok (.ifCond .eq 5, 3) := by decide +kernel
theorem dX5_refusal_64 : decode cX5_refusal 64 = .ok (.iconst 5, 1) := by decide +kernel
theorem dX5_refusal_65 : decode cX5_refusal 65 = .ok (.ireturn, 1) := by decide +kernel
theorem dX5_refusal_66 : decode cX5_refusal 66 = .ok (.aload_n 0, 1) := by decide +kernel
theorem dX5_refusal_67 : decode cX5_refusal 67 = .ok (.aload_n 1, 1) := by decide +kernel
theorem dX5_refusal_68 : decode cX5_refusal 68 = .ok (.iload_n 2, 1) := by decide +kernel
theorem dX5_refusal_69 : decode cX5_refusal 69 = .ok (.invokevirtual 79, 3) := by decide +kernel
theorem dX5_refusal_72 : decode cX5_refusal 72 = .ok (.ifCond .eq 8, 3) := by decide +kernel
theorem dX5_refusal_75 : decode cX5_refusal 75 = .ok (.bipush 6, 2) := by decide +kernel
theorem dX5_refusal_77 : decode cX5_refusal 77 = .ok (.goto 4, 3) := by decide +kernel
theorem dX5_refusal_80 : decode cX5_refusal 80 = .ok (.iconst 0, 1) := by decide +kernel
theorem dX5_refusal_81 : decode cX5_refusal 81 = .ok (.ireturn, 1) := by decide +kernel
theorem dX5_punch_0 : decode cX5_punch 0 = .ok (.aload_n 0, 1) := by decide +kernel
theorem dX5_punch_1 : decode cX5_punch 1 = .ok (.aload_n 3, 1) := by decide +kernel
theorem dX5_punch_2 : decode cX5_punch 2 = .ok (.invokevirtual 83, 3) := by decide +kernel
theorem dX5_punch_5 : decode cX5_punch 5 = .ok (.istore 4, 2) := by decide +kernel
theorem dX5_punch_7 : decode cX5_punch 7 = .ok (.aload_n 3, 1) := by decide +kernel
theorem dX5_punch_8 : decode cX5_punch 8 = .ok (.getfield 87, 3) := by decide +kernel
theorem dX5_punch_11 : decode cX5_punch 11 = .ok (.istore 5, 2) := by decide +kernel
theorem dX5_punch_13 : decode cX5_punch 13 = .ok (.iload 5, 2) := by decide +kernel
theorem dX5_punch_15 : decode cX5_punch 15 = .ok (.aload_n 3, 1) := by decide +kernel
theorem dX5_punch_16 : decode cX5_punch 16 = .ok (.getfield 87, 3) := by decide +kernel
theorem dX5_punch_19 : decode cX5_punch 19 = .ok (.aload_n 3, 1) := by decide +kernel
theorem dX5_punch_20 : decode cX5_punch 20 = .ok (.getfield 90, 3) := by decide +kernel
theorem dX5_punch_23 : decode cX5_punch 23 = .ok (.iadd, 1) := by decide +kernel
theorem dX5_punch_24 : decode cX5_punch 24 = .ok (.if_icmp .ge 30, 3) := by decide +kernel
theorem dX5_punch_27 : decode cX5_punch 27 = .ok (.iload 5, 2) := by decide +kernel
theorem dX5_punch_29 : decode cX5_punch 29 = .ok (.bipush 12, 2) := by decide +kernel
theorem dX5_punch_31 : decode cX5_punch 31 = .ok (.if_icmp .ge 23, 3) := by decide +kernel
theorem dX5_punch_34 : decode cX5_punch 34 = .ok (.aload_n 0, 1) := by decide +kernel
theorem dX5_punch_35 : decode cX5_punch 35 = .ok (.getfield 9, 3) := by decide +kernel
theorem dX5_punch_38 : decode cX5_punch 38 = .ok (.iload 5, 2) := by decide +kernel
theorem dX5_punch_40 : decode cX5_punch 40 = .ok (.dup2, 1) := by decide +kernel
theorem dX5_punch_41 : decode cX5_punch 41 = .ok (.iaload, 1) := by decide +kernel
theorem dX5_punch_42 : decode cX5_punch 42 = .ok (.aload_n 3, 1) := by decide +kernel
theorem dX5_punch_43 : decode cX5_punch 43 = .ok (.invokevirtual 93, 3) := by decide +kernel
theorem dX5_punch_46 : decode cX5_punch 46 = .ok (.ior, 1) := by decide +kernel
theorem dX5_punch_47 : decode cX5_punch 47 = .ok (.iastore, 1) := by decide +kernel
theorem dX5_punch_48 : decode cX5_punch 48 = .ok (.iinc 5 1, 3) := by decide +kernel
theorem dX5_punch_51 : decode cX5_punch 51 = .ok (.goto (-38), 3) := by decide +kernel
theorem dX5_punch_54 : decode cX5_punch 54 = .ok (.aload_n 0, 1) := by decide +kernel
theorem dX5_punch_55 : decode cX5_punch 55 = .ok (.getfield 15, 3) := by decide +kernel
theorem dX5_punch_58 : decode cX5_punch 58 = .ok (.iload_n 2, 1) := by decide +kernel
theorem dX5_punch_59 : decode cX5_punch 59 = .ok (.dup2, 1) := by decide +kernel
theorem dX5_punch_60 : decode cX5_punch 60 = .ok (.iaload, 1) := by decide +kernel
theorem dX5_punch_61 : decode cX5_punch 61 = .ok (.iconst 1, 1) := by decide +kernel
theorem dX5_punch_62 : decode cX5_punch 62 = .ok (.iadd, 1) := by decide +kernel
theorem dX5_punch_63 : decode cX5_punch 63 = .ok (.iastore, 1) := by decide +kernel
theorem dX5_punch_64 : decode cX5_punch 64 = .ok (.aload_n 0, 1) := by decide +kernel
theorem dX5_punch_65 : decode cX5_punch 65 = .ok (.dup, 1) := by decide +kernel
theorem dX5_punch_66 : decode cX5_punch 66 = .ok (.getfield 40, 3) := by decide +kernel
theorem dX5_punch_69 : decode cX5_punch 69 = .ok (.iconst 1, 1) := by decide +kernel
theorem dX5_punch_70 : decode cX5_punch 70 = .ok (.iadd, 1) := by decide +kernel
theorem dX5_punch_71 : decode cX5_punch 71 = .ok (.putfield 40, 3) := by decide +kernel
theorem dX5_punch_74 : decode cX5_punch 74 = .ok (.aload_n 0, 1) := by decide +kernel
theorem dX5_punch_75 : decode cX5_punch 75 = .ok (.dup, 1) := by decide +kernel
theorem dX5_punch_76 : decode cX5_punch 76 = .ok (.getfield 43, 3) := by decide +kernel
theorem dX5_punch_79 : decode cX5_punch 79 = .ok (.aload_n 1, 1) := by decide +kernel
theorem dX5_punch_80 : decode cX5_punch 80 = .ok (.aload_n 0, 1) := by decide +kernel
theorem dX5_punch_81 : decode cX5_punch 81 = .ok (.getfield 36, 3) := by decide +kernel
theorem dX5_punch_84 : decode cX5_punch 84 = .ok (.iload_n 2, 1) := by decide +kernel
theorem dX5_punch_85 : decode cX5_punch 85 = .ok (.invokevirtual 97, 3) := by decide +kernel
theorem dX5_punch_88 : decode cX5_punch 88 = .ok (.iadd, 1) := by decide +kernel
theorem dX5_punch_89 : decode cX5_punch 89 = .ok (.putfield 43, 3) := by decide +kernel
theorem dX5_punch_92 : decode cX5_punch 92 = .ok (.aload_n 0, 1) := by decide +kernel
theorem dX5_punch_93 : decode cX5_punch 93 = .ok (.iload_n 2, 1) := by decide +kernel
theorem dX5_punch_94 : decode cX5_punch 94 = .ok (.putfield 36, 3) := by decide +kernel
theorem dX5_punch_97 : decode cX5_punch 97 = .ok (.iload 4, 2) := by decide +kernel
theorem dX5_punch_99 : decode cX5_punch 99 = .ok (.ireturn, 1) := by decide +kernel
theorem dX5_isDull_0 : decode cX5_isDull 0 = .ok (.aload_n 0, 1) := by decide +kernel
theorem dX5_isDull_1 : decode cX5_isDull 1 = .ok (.getfield 15, 3) := by decide +kernel
theorem dX5_isDull_4 : decode cX5_isDull 4 = .ok (.iload_n 2, 1) := by decide +kernel
theorem dX5_isDull_5 : decode cX5_isDull 5 = .ok (.iaload, 1) := by decide +kernel
theorem dX5_isDull_6 : decode cX5_isDull 6 = .ok (.aload_n 1, 1) := by decide +kernel
theorem dX5_isDull_7 : decode cX5_isDull 7 = .ok (.getfield 49, 3) := by decide +kernel
theorem dX5_isDull_10 : decode cX5_isDull 10 = .ok (.iload_n 2, 1) := by decide +kernel
theorem dX5_isDull_11 : decode cX5_isDull 11 = .ok (.aaload, 1) := by decide +kernel
theorem dX5_isDull_12 : decode cX5_isDull 12 = .ok (.getfield 101, 3) := by decide +kernel
theorem dX5_isDull_15 : decode cX5_isDull 15 = .ok (.if_icmp .lt 7, 3) := by decide +kernel
theorem dX5_isDull_18 : decode cX5_isDull 18 = .ok (.iconst 1, 1) := by decide +kernel
theorem dX5_isDull_19 : decode cX5_isDull 19 = .ok (.goto 4, 3) := by decide +kernel
theorem dX5_isDull_22 : decode cX5_isDull 22 = .ok (.iconst 0, 1) := by decide +kernel
theorem dX5_isDull_23 : decode cX5_isDull 23 = .ok (.ireturn, 1) := by decide +kernel
theorem dX5_uncutIn_0 : decode cX5_uncutIn 0 = .ok (.iconst 0, 1) := by decide +kernel
theorem dX5_uncutIn_1 : decode cX5_uncutIn 1 = .ok (.istore_n 2, 1) := by decide +kernel
theorem dX5_uncutIn_2 : decode cX5_uncutIn 2 = .ok (.aload_n 1, 1) := by decide +kernel
theorem dX5_uncutIn_3 : decode cX5_uncutIn 3 = .ok (.getfield 87, 3) := by decide +kernel
theorem dX5_uncutIn_6 : decode cX5_uncutIn 6 = .ok (.istore_n 3, 1) := by decide +kernel
theorem dX5_uncutIn_7 : decode cX5_uncutIn 7 = .ok (.iload_n 3, 1) := by decide +kernel
theorem dX5_uncutIn_8 : decode cX5_uncutIn 8 = .ok (.aload_n 1, 1) := by decide +kernel
theorem dX5_uncutIn_9 : decode cX5_uncutIn 9 = .ok (.getfield 87, 3) := by decide +kernel
theorem dX5_uncutIn_12 : decode cX5_uncutIn 12 = .ok (.aload_n 1, 1) := by decide +kernel
theorem dX5_uncutIn_13 : decode cX5_uncutIn 13 = .ok (.getfield 90, 3) := by decide +kernel
theorem dX5_uncutIn_16 : decode cX5_uncutIn 16 = .ok (.iadd, 1) := by decide +kernel
theorem dX5_uncutIn_17 : decode cX5_uncutIn 17 = .ok (.if_icmp .ge 34, 3) := by decide +kernel
theorem dX5_uncutIn_20 : decode cX5_uncutIn 20 = .ok (.iload_n 3, 1) := by decide +kernel
theorem dX5_uncutIn_21 : decode cX5_uncutIn 21 = .ok (.bipush 12, 2) := by decide +kernel
theorem dX5_uncutIn_23 : decode cX5_uncutIn 23 = .ok (.if_icmp .ge 28, 3) := by decide +kernel
theorem dX5_uncutIn_26 : decode cX5_uncutIn 26 = .ok (.iload_n 2, 1) := by decide +kernel
theorem dX5_uncutIn_27 : decode cX5_uncutIn 27 = .ok (.aload_n 1, 1) := by decide +kernel
theorem dX5_uncutIn_28 : decode cX5_uncutIn 28 = .ok (.invokevirtual 93, 3) := by decide +kernel
theorem dX5_uncutIn_31 : decode cX5_uncutIn 31 = .ok (.aload_n 0, 1) := by decide +kernel
theorem dX5_uncutIn_32 : decode cX5_uncutIn 32 = .ok (.getfield 9, 3) := by decide +kernel
theorem dX5_uncutIn_35 : decode cX5_uncutIn 35 = .ok (.iload_n 3, 1) := by decide +kernel
theorem dX5_uncutIn_36 : decode cX5_uncutIn 36 = .ok (.iaload, 1) := by decide +kernel
theorem dX5_uncutIn_37 : decode cX5_uncutIn 37 = .ok (.iconst (-1), 1) := by decide +kernel
theorem dX5_uncutIn_38 : decode cX5_uncutIn 38 = .ok (.ixor, 1) := by decide +kernel
theorem dX5_uncutIn_39 : decode cX5_uncutIn 39 = .ok (.iand, 1) := by decide +kernel
theorem dX5_uncutIn_40 : decode cX5_uncutIn 40 = .ok (.invokestatic 104, 3) := by decide +kernel
theorem dX5_uncutIn_43 : decode cX5_uncutIn 43 = .ok (.iadd, 1) := by decide +kernel
theorem dX5_uncutIn_44 : decode cX5_uncutIn 44 = .ok (.istore_n 2, 1) := by decide +kernel
theorem dX5_uncutIn_45 : decode cX5_uncutIn 45 = .ok (.iinc 3 1, 3) := by decide +kernel
theorem dX5_uncutIn_48 : decode cX5_uncutIn 48 = .ok (.goto (-41), 3) := by decide +kernel
theorem dX5_uncutIn_51 : decode cX5_uncutIn 51 = .ok (.iload_n 2, 1) := by decide +kernel
theorem dX5_uncutIn_52 : decode cX5_uncutIn 52 = .ok (.ireturn, 1) := by decide +kernel
theorem dX5_isCut_0 : decode cX5_isCut 0 = .ok (.aload_n 0, 1) := by decide +kernel
theorem dX5_isCut_1 : decode cX5_isCut 1 = .ok (.aload_n 1, 1) := by decide +kernel
theorem dX5_isCut_2 : decode cX5_isCut 2 = .ok (.invokevirtual 83, 3) := by decide +kernel
theorem dX5_isCut_5 : decode cX5_isCut 5 = .ok (.ifCond .ne 7, 3) := by decide +kernel
theorem dX5_isCut_8 : decode cX5_isCut 8 = .ok (.iconst 1, 1) := by decide +kernel
theorem dX5_isCut_9 : decode cX5_isCut 9 = .ok (.goto 4, 3) := by decide +kernel
theorem dX5_isCut_12 : decode cX5_isCut 12 = .ok (.iconst 0, 1) := by decide +kernel
theorem dX5_isCut_13 : decode cX5_isCut 13 = .ok (.ireturn, 1) := by decide +kernel
theorem dX5_isCellCut_0 : decode cX5_isCellCut 0 = .ok (.aload_n 0, 1) := by decide +kernel
theorem dX5_isCellCut_1 : decode cX5_isCellCut 1 = .ok (.getfield 9, 3) := by decide +kernel
theorem dX5_isCellCut_4 : decode cX5_isCellCut 4 = .ok (.iload_n 2, 1) := by decide +kernel
theorem dX5_isCellCut_5 : decode cX5_isCellCut 5 = .ok (.iaload, 1) := by decide +kernel
theorem dX5_isCellCut_6 : decode cX5_isCellCut 6 = .ok (.iconst 1, 1) := by decide +kernel
theorem dX5_isCellCut_7 : decode cX5_isCellCut 7 = .ok (.iload_n 1, 1) := by decide +kernel
theorem dX5_isCellCut_8 : decode cX5_isCellCut 8 = .ok (.ishl, 1) := by decide +kernel
theorem dX5_isCellCut_9 : decode cX5_isCellCut 9 = .ok (.iand, 1) := by decide +kernel
theorem dX5_isCellCut_10 : decode cX5_isCellCut 10 = .ok (.ifCond .eq 7, 3) := by decide +kernel
theorem dX5_isCellCut_13 : decode cX5_isCellCut 13 = .ok (.iconst 1, 1) := by decide +kernel
theorem dX5_isCellCut_14 : decode cX5_isCellCut 14 = .ok (.goto 4, 3) := by decide +kernel
theorem dX5_isCellCut_17 : decode cX5_isCellCut 17 = .ok (.iconst 0, 1) := by decide +kernel
theorem dX5_isCellCut_18 : decode cX5_isCellCut 18 = .ok (.ireturn, 1) := by decide +kernel
theorem dX5_cutCells_0 : decode cX5_cutCells 0 = .ok (.iconst 0, 1) := by decide +kernel
theorem dX5_cutCells_1 : decode cX5_cutCells 1 = .ok (.istore_n 1, 1) := by decide +kernel
theorem dX5_cutCells_2 : decode cX5_cutCells 2 = .ok (.iconst 0, 1) := by decide +kernel
theorem dX5_cutCells_3 : decode cX5_cutCells 3 = .ok (.istore_n 2, 1) := by decide +kernel
theorem dX5_cutCells_4 : decode cX5_cutCells 4 = .ok (.iload_n 2, 1) := by decide +kernel
theorem dX5_cutCells_5 : decode cX5_cutCells 5 = .ok (.bipush 12, 2) := by decide +kernel
theorem dX5_cutCells_7 : decode cX5_cutCells 7 = .ok (.if_icmp .ge 21, 3) := by decide +kernel
theorem dX5_cutCells_10 : decode cX5_cutCells 10 = .ok (.iload_n 1, 1) := by decide +kernel
theorem dX5_cutCells_11 : decode cX5_cutCells 11 = .ok (.aload_n 0, 1) := by decide +kernel
theorem dX5_cutCells_12 : decode cX5_cutCells 12 = .ok (.getfield 9, 3) := by decide +kernel
theorem dX5_cutCells_15 : decode cX5_cutCells 15 = .ok (.iload_n 2, 1) := by decide +kernel
theorem dX5_cutCells_16 : decode cX5_cutCells 16 = .ok (.iaload, 1) := by decide +kernel
theorem dX5_cutCells_17 : decode cX5_cutCells 17 = .ok (.invokestatic 104, 3) := by decide +kernel
theorem dX5_cutCells_20 : decode cX5_cutCells 20 = .ok (.iadd, 1) := by decide +kernel
theorem dX5_cutCells_21 : decode cX5_cutCells 21 = .ok (.istore_n 1, 1) := by decide +kernel
theorem dX5_cutCells_22 : decode cX5_cutCells 22 = .ok (.iinc 2 1, 3) := by decide +kernel
theorem dX5_cutCells_25 : decode cX5_cutCells 25 = .ok (.goto (-21), 3) := by decide +kernel
theorem dX5_cutCells_28 : decode cX5_cutCells 28 = .ok (.iload_n 1, 1) := by decide +kernel
theorem dX5_cutCells_29 : decode cX5_cutCells 29 = .ok (.ireturn, 1) := by decide +kernel
theorem dX5_holesDone_0 : decode cX5_holesDone 0 = .ok (.iconst 0, 1) := by decide +kernel
theorem dX5_holesDone_1 : decode cX5_holesDone 1 = .ok (.istore_n 2, 1) := by decide +kernel
theorem dX5_holesDone_2 : decode cX5_holesDone 2 = .ok (.iconst 0, 1) := by decide +kernel
theorem dX5_holesDone_3 : decode cX5_holesDone 3 = .ok (.istore_n 3, 1) := by decide +kernel
theorem dX5_holesDone_4 : decode cX5_holesDone 4 = .ok (.iload_n 3, 1) := by decide +kernel
theorem dX5_holesDone_5 : decode cX5_holesDone 5 = .ok (.aload_n 1, 1) := by decide +kernel
theorem dX5_holesDone_6 : decode cX5_holesDone 6 = .ok (.getfield 110, 3) := by decide +kernel
theorem dX5_holesDone_9 : decode cX5_holesDone 9 = .ok (.if_icmp .ge 25, 3) := by decide +kernel
theorem dX5_holesDone_12 : decode cX5_holesDone 12 = .ok (.aload_n 0, 1) := by decide +kernel
theorem dX5_holesDone_13 : decode cX5_holesDone 13 = .ok (.aload_n 1, 1) := by decide +kernel
theorem dX5_holesDone_14 : decode cX5_holesDone 14 = .ok (.getfield 113, 3) := by decide +kernel
theorem dX5_holesDone_17 : decode cX5_holesDone 17 = .ok (.iload_n 3, 1) := by decide +kernel
theorem dX5_holesDone_18 : decode cX5_holesDone 18 = .ok (.aaload, 1) := by decide +kernel
theorem dX5_holesDone_19 : decode cX5_holesDone 19 = .ok (.invokevirtual 76, 3) := by decide +kernel
theorem dX5_holesDone_22 : decode cX5_holesDone 22 = .ok (.ifCond .eq 6, 3) := by decide +kernel
theorem dX5_holesDone_25 : decode cX5_holesDone 25 = .ok (.iinc 2 1, 3) := by decide +kernel
theorem dX5_holesDone_28 : decode cX5_holesDone 28 = .ok (.iinc 3 1, 3) := by decide +kernel
theorem dX5_holesDone_31 : decode cX5_holesDone 31 = .ok (.goto (-27), 3) := by decide +kernel
theorem dX5_holesDone_34 : decode cX5_holesDone 34 = .ok (.iload_n 2, 1) := by decide +kernel
theorem dX5_holesDone_35 : decode cX5_holesDone 35 = .ok (.ireturn, 1) := by decide +kernel
theorem dX5_clampAt_0 : decode cX5_clampAt 0 = .ok (.iload_n 3, 1) := by decide +kernel
theorem dX5_clampAt_1 : decode cX5_clampAt 1 = .ok (.aload_n 1, 1) := by decide +kernel
theorem dX5_clampAt_2 : decode cX5_clampAt 2 = .ok (.getfield 59, 3) := by decide +kernel
theorem dX5_clampAt_5 : decode cX5_clampAt 5 = .ok (.getfield 90, 3) := by decide +kernel
theorem dX5_clampAt_8 : decode cX5_clampAt 8 = .ok (.iconst 1, 1) := by decide +kernel
theorem dX5_clampAt_9 : decode cX5_clampAt 9 = .ok (.isub, 1) := by decide +kernel
theorem dX5_clampAt_10 : decode cX5_clampAt 10 = .ok (.if_icmp .eq 6, 3) := by decide +kernel
theorem dX5_clampAt_13 : decode cX5_clampAt 13 = .ok (.bipush (-4), 2) := by decide +kernel
theorem dX5_clampAt_15 : decode cX5_clampAt 15 = .ok (.ireturn, 1) := by decide +kernel
theorem dX5_clampAt_16 : decode cX5_clampAt 16 = .ok (.iconst 0, 1) := by decide +kernel
theorem dX5_clampAt_17 : decode cX5_clampAt 17 = .ok (.istore 4, 2) := by decide +kernel
theorem dX5_clampAt_19 : decode cX5_clampAt 19 = .ok (.iload 4, 2) := by decide +kernel
theorem dX5_clampAt_21 : decode cX5_clampAt 21 = .ok (.aload_n 1, 1) := by decide +kernel
theorem dX5_clampAt_22 : decode cX5_clampAt 22 = .ok (.getfield 117, 3) := by decide +kernel
theorem dX5_clampAt_25 : decode cX5_clampAt 25 = .ok (.if_icmp .ge 29, 3) := by decide +kernel
theorem dX5_clampAt_28 : decode cX5_clampAt 28 = .ok (.iload_n 2, 1) := by decide +kernel
theorem dX5_clampAt_29 : decode cX5_clampAt 29 = .ok (.aload_n 0, 1) := by decide +kernel
theorem dX5_clampAt_30 : decode cX5_clampAt 30 = .ok (.getfield 18, 3) := by decide +kernel
theorem dX5_clampAt_33 : decode cX5_clampAt 33 = .ok (.iload 4, 2) := by decide +kernel
theorem dX5_clampAt_35 : decode cX5_clampAt 35 = .ok (.iaload, 1) := by decide +kernel
theorem dX5_clampAt_36 : decode cX5_clampAt 36 = .ok (.isub, 1) := by decide +kernel
theorem dX5_clampAt_37 : decode cX5_clampAt 37 = .ok (.iconst 0, 1) := by decide +kernel
theorem dX5_clampAt_38 : decode cX5_clampAt 38 = .ok (.iconst 1, 1) := by decide +kernel
theorem dX5_clampAt_39 : decode cX5_clampAt 39 = .ok (.invokestatic 120, 3) := by decide +kernel
theorem dX5_clampAt_42 : decode cX5_clampAt 42 = .ok (.ifCond .eq 6, 3) := by decide +kernel
theorem dX5_clampAt_45 : decode cX5_clampAt 45 = .ok (.iload 4, 2) := by decide +kernel
theorem dX5_clampAt_47 : decode cX5_clampAt 47 = .ok (.ireturn, 1) := by decide +kernel
theorem dX5_clampAt_48 : decode cX5_clampAt 48 = .ok (.iinc 4 1, 3) := by decide +kernel
theorem dX5_clampAt_51 : decode cX5_clampAt 51 = .ok (.goto (-32), 3) := by decide +kernel
theorem dX5_clampAt_54 : decode cX5_clampAt 54 = .ok (.bipush (-4), 2) := by decide +kernel
theorem dX5_clampAt_56 : decode cX5_clampAt 56 = .ok (.ireturn, 1) := by decide +kernel
theorem dX5_isTakenByOther_0 : decode cX5_isTakenByOther 0 = .ok (.iconst 0, 1) := by decide +kernel
theorem dX5_isTakenByOther_1 : decode cX5_isTakenByOther 1 = .ok (.istore 4, 2) := by decide +kernel
theorem dX5_isTakenByOther_3 : decode cX5_isTakenByOther 3 = .ok (.iload 4, 2) := by decide +kernel
theorem dX5_isTakenByOther_5 : decode cX5_isTakenByOther 5 = .ok (.aload_n 1, 1) := by decide +kernel
theorem dX5_isTakenByOther_6 : decode cX5_isTakenByOther 6 = .ok (.getfield 117, 3) := by decide +kernel
theorem dX5_isTakenByOther_9 : decode cX5_isTakenByOther 9 = .ok (.if_icmp .ge 31, 3) := by decide +kernel
theorem dX5_isTakenByOther_12 : decode cX5_isTakenByOther 12 = .ok (.iload 4, 2) := by decide +kernel
theorem dX5_isTakenByOther_14 : decode cX5_isTakenByOther 14 = .ok (.iload_n 2, 1) := by decide +kernel
theorem dX5_isTakenByOther_15 : decode cX5_isTakenByOther 15 = .ok (.if_icmp .eq 19, 3) := by decide +kernel
theorem dX5_isTakenByOther_18 : decode cX5_isTakenByOther 18 = .ok (.aload_n 0, 1) := by decide +kernel
theorem dX5_isTakenByOther_19 : decode cX5_isTakenByOther 19 = .ok (.getfield 18, 3) := by decide +kernel
theorem dX5_isTakenByOther_22 : decode cX5_isTakenByOther 22 = .ok (.iload 4, 2) := by decide +kernel
theorem dX5_isTakenByOther_24 : decode cX5_isTakenByOther 24 = .ok (.iaload, 1) := by decide +kernel
theorem dX5_isTakenByOther_25 : decode cX5_isTakenByOther 25 = .ok (.iload_n 3, 1) := by decide +kernel
theorem dX5_isTakenByOther_26 : decode cX5_isTakenByOther 26 = .ok (.invokestatic 124, 3) := by decide +kernel
theorem dX5_isTakenByOther_29 : decode cX5_isTakenByOther 29 = .ok (.ifCond .eq 5, 3) := by decide +kernel
theorem dX5_isTakenByOther_32 : decode cX5_isTakenByOther 32 = .ok (.iconst 1, 1) := by decide +kernel
theorem dX5_isTakenByOther_33 : decode cX5_isTakenByOther 33 = .ok (.ireturn, 1) := by decide +kernel
theorem dX5_isTakenByOther_34 : decode cX5_isTakenByOther 34 = .ok (.iinc 4 1, 3) := by decide +kernel
theorem dX5_isTakenByOther_37 : decode cX5_isTakenByOther 37 = .ok (.goto (-34), 3) := by decide +kernel
theorem dX5_isTakenByOther_40 : decode cX5_isTakenByOther 40 = .ok (.iconst 0, 1) := by decide +kernel
theorem dX5_isTakenByOther_41 : decode cX5_isTakenByOther 41 = .ok (.ireturn, 1) := by decide +kernel
theorem dX5_isClamped_0 : decode cX5_isClamped 0 = .ok (.aload_n 1, 1) := by decide +kernel
theorem dX5_isClamped_1 : decode cX5_isClamped 1 = .ok (.getfield 59, 3) := by decide +kernel
theorem dX5_isClamped_4 : decode cX5_isClamped 4 = .ok (.getfield 90, 3) := by decide +kernel
theorem dX5_isClamped_7 : decode cX5_isClamped 7 = .ok (.iconst 1, 1) := by decide +kernel
theorem dX5_isClamped_8 : decode cX5_isClamped 8 = .ok (.isub, 1) := by decide +kernel
theorem dX5_isClamped_9 : decode cX5_isClamped 9 = .ok (.istore_n 3, 1) := by decide +kernel
theorem dX5_isClamped_10 : decode cX5_isClamped 10 = .ok (.iconst 0, 1) := by decide +kernel
theorem dX5_isClamped_11 : decode cX5_isClamped 11 = .ok (.istore 4, 2) := by decide +kernel
theorem dX5_isClamped_13 : decode cX5_isClamped 13 = .ok (.iload 4, 2) := by decide +kernel
theorem dX5_isClamped_15 : decode cX5_isClamped 15 = .ok (.aload_n 1, 1) := by decide +kernel
theorem dX5_isClamped_16 : decode cX5_isClamped 16 = .ok (.getfield 117, 3) := by decide +kernel
theorem dX5_isClamped_19 : decode cX5_isClamped 19 = .ok (.if_icmp .ge 43, 3) := by decide +kernel
theorem dX5_isClamped_22 : decode cX5_isClamped 22 = .ok (.aload_n 2, 1) := by decide +kernel
theorem dX5_isClamped_23 : decode cX5_isClamped 23 = .ok (.aload_n 0, 1) := by decide +kernel
theorem dX5_isClamped_24 : decode cX5_isClamped 24 = .ok (.getfield 18, 3) := by decide +kernel
theorem dX5_isClamped_27 : decode cX5_isClamped 27 = .ok (.iload 4, 2) := by decide +kernel
theorem dX5_isClamped_29 : decode cX5_isClamped 29 = .ok (.iaload, 1) := by decide +kernel
theorem dX5_isClamped_30 : decode cX5_isClamped 30 = .ok (.iload_n 3, 1) := by decide +kernel
theorem dX5_isClamped_31 : decode cX5_isClamped 31 = .ok (.invokevirtual 128, 3) := by decide +kernel
theorem dX5_isClamped_34 : decode cX5_isClamped 34 = .ok (.ifCond .ne 20, 3) := by decide +kernel
theorem dX5_isClamped_37 : decode cX5_isClamped 37 = .ok (.aload_n 2, 1) := by decide +kernel
theorem dX5_isClamped_38 : decode cX5_isClamped 38 = .ok (.aload_n 0, 1) := by decide +kernel
theorem dX5_isClamped_39 : decode cX5_isClamped 39 = .ok (.getfield 18, 3) := by decide +kernel
theorem dX5_isClamped_42 : decode cX5_isClamped 42 = .ok (.iload 4, 2) := by decide +kernel
theorem dX5_isClamped_44 : decode cX5_isClamped 44 = .ok (.iaload, 1) := by decide +kernel
theorem dX5_isClamped_45 : decode cX5_isClamped 45 = .ok (.iconst 1, 1) := by decide +kernel
theorem dX5_isClamped_46 : decode cX5_isClamped 46 = .ok (.iadd, 1) := by decide +kernel
theorem dX5_isClamped_47 : decode cX5_isClamped 47 = .ok (.iload_n 3, 1) := by decide +kernel
theorem dX5_isClamped_48 : decode cX5_isClamped 48 = .ok (.invokevirtual 128, 3) := by decide +kernel
theorem dX5_isClamped_51 : decode cX5_isClamped 51 = .ok (.ifCond .eq 5, 3) := by decide +kernel
theorem dX5_isClamped_54 : decode cX5_isClamped 54 = .ok (.iconst 1, 1) := by decide +kernel
theorem dX5_isClamped_55 : decode cX5_isClamped 55 = .ok (.ireturn, 1) := by decide +kernel
theorem dX5_isClamped_56 : decode cX5_isClamped 56 = .ok (.iinc 4 1, 3) := by decide +kernel
theorem dX5_isClamped_59 : decode cX5_isClamped 59 = .ok (.goto (-46), 3) := by decide +kernel
theorem dX5_isClamped_62 : decode cX5_isClamped 62 = .ok (.iconst 0, 1) := by decide +kernel
theorem dX5_isClamped_63 : decode cX5_isClamped 63 = .ok (.ireturn, 1) := by decide +kernel
theorem dX6_init_0 : decode cX6_init 0 = .ok (.aload_n 0, 1) := by decide +kernel
theorem dX6_init_1 : decode cX6_init 1 = .ok (.invokespecial 3, 3) := by decide +kernel
theorem dX6_init_4 : decode cX6_init 4 = .ok (.aload_n 0, 1) := by decide +kernel
theorem dX6_init_5 : decode cX6_init 5 = .ok (.sipush 200, 3) := by decide +kernel
theorem dX6_init_8 : decode cX6_init 8 = .ok (.newarray .char, 2) := by decide +kernel
theorem dX6_init_10 : decode cX6_init 10 = .ok (.putfield 9, 3) := by decide +kernel
theorem dX6_init_13 : decode cX6_init 13 = .ok (.return_, 1) := by decide +kernel
theorem dX6_append_0 : decode cX6_append 0 = .ok (.aload_n 0, 1) := by decide +kernel
theorem dX6_append_1 : decode cX6_append 1 = .ok (.getfield 15, 3) := by decide +kernel
theorem dX6_append_4 : decode cX6_append 4 = .ok (.sipush 200, 3) := by decide +kernel
theorem dX6_append_7 : decode cX6_append 7 = .ok (.if_icmp .lt 5, 3) := by decide +kernel
theorem dX6_append_10 : decode cX6_append 10 = .ok (.iconst 0, 1) := by decide +kernel
theorem dX6_append_11 : decode cX6_append 11 = .ok (.ireturn, 1) := by decide +kernel
theorem dX6_append_12 : decode cX6_append 12 = .ok (.aload_n 0, 1) := by decide +kernel
theorem dX6_append_13 : decode cX6_append 13 = .ok (.getfield 9, 3) := by decide +kernel
theorem dX6_append_16 : decode cX6_append 16 = .ok (.aload_n 0, 1) := by decide +kernel
theorem dX6_append_17 : decode cX6_append 17 = .ok (.getfield 15, 3) := by decide +kernel
theorem dX6_append_20 : decode cX6_append 20 = .ok (.iload_n 1, 1) := by decide +kernel
theorem dX6_append_21 : decode cX6_append 21 = .ok (.castore, 1) := by decide +kernel
theorem dX6_append_22 : decode cX6_append 22 = .ok (.aload_n 0, 1) := by decide +kernel
theorem dX6_append_23 : decode cX6_append 23 = .ok (.dup, 1) := by decide +kernel
theorem dX6_append_24 : decode cX6_append 24 = .ok (.getfield 15, 3) := by decide +kernel
theorem dX6_append_27 : decode cX6_append 27 = .ok (.iconst 1, 1) := by decide +kernel
theorem dX6_append_28 : decode cX6_append 28 = .ok (.iadd, 1) := by decide +kernel
theorem dX6_append_29 : decode cX6_append 29 = .ok (.putfield 15, 3) := by decide +kernel
theorem dX6_append_32 : decode cX6_append 32 = .ok (.iconst 1, 1) := by decide +kernel
theorem dX6_append_33 : decode cX6_append 33 = .ok (.ireturn, 1) := by decide +kernel
theorem dX6_clear_0 : decode cX6_clear 0 = .ok (.aload_n 0, 1) := by decide +kernel
theorem dX6_clear_1 : decode cX6_clear 1 = .ok (.iconst 0, 1) := by decide +kernel
theorem dX6_clear_2 : decode cX6_clear 2 = .ok (.putfield 15, 3) := by decide +kernel
theorem dX6_clear_5 : decode cX6_clear 5 = .ok (.return_, 1) := by decide +kernel
theorem dX6_letterAt_0 : decode cX6_letterAt 0 = .ok (.iload_n 1, 1) := by decide +kernel
theorem dX6_letterAt_1 : decode cX6_letterAt 1 = .ok (.ifCond .lt 20, 3) := by decide +kernel
theorem dX6_letterAt_4 : decode cX6_letterAt 4 = .ok (.iload_n 1, 1) := by decide +kernel
theorem dX6_letterAt_5 : decode cX6_letterAt 5 = .ok (.aload_n 0, 1) := by decide +kernel
theorem dX6_letterAt_6 : decode cX6_letterAt 6 = .ok (.getfield 15, 3) := by decide +kernel
theorem dX6_letterAt_9 : decode cX6_letterAt 9 = .ok (.if_icmp .ge 12, 3) := by decide +kernel
theorem dX6_letterAt_12 : decode cX6_letterAt 12 = .ok (.aload_n 0, 1) := by decide +kernel
theorem dX6_letterAt_13 : decode cX6_letterAt 13 = .ok (.getfield 9, 3) := by decide +kernel
theorem dX6_letterAt_16 : decode cX6_letterAt 16 = .ok (.iload_n 1, 1) := by decide +kernel
theorem dX6_letterAt_17 : decode cX6_letterAt 17 = .ok (.caload, 1) := by decide +kernel
theorem dX6_letterAt_18 : decode cX6_letterAt 18 = .ok (.goto 4, 3) := by decide +kernel
theorem dX6_letterAt_21 : decode cX6_letterAt 21 = .ok (.iconst 0, 1) := by decide +kernel
theorem dX6_letterAt_22 : decode cX6_letterAt 22 = .ok (.ireturn, 1) := by decide +kernel
theorem dX7_init_0 : decode cX7_init 0 = .ok (.aload_n 0, 1) := by decide +kernel
theorem dX7_init_1 : decode cX7_init 1 = .ok (.invokespecial 1, 3) := by decide +kernel
theorem dX7_init_4 : decode cX7_init 4 = .ok (.return_, 1) := by decide +kernel
theorem dX7_wideWhen_0 : decode cX7_wideWhen 0 = .ok (.iload_n 1, 1) := by decide +kernel
theorem dX7_wideWhen_1 : decode cX7_wideWhen 1 = .ok (.ifCond .eq 10, 3) := by decide +kernel
theorem dX7_wideWhen_4 : decode cX7_wideWhen 4 = .ok (.aload_n 0, 1) := by decide +kernel
theorem dX7_wideWhen_5 : decode cX7_wideWhen 5 = .ok (.getfield 7, 3) := by decide +kernel
theorem dX7_wideWhen_8 : decode cX7_wideWhen 8 = .ok (.goto 7, 3) := by decide +kernel
theorem dX7_wideWhen_11 : decode cX7_wideWhen 11 = .ok (.aload_n 0, 1) := by decide +kernel
theorem dX7_wideWhen_12 : decode cX7_wideWhen 12 = .ok (.getfield 13, 3) := by decide +kernel
theorem dX7_wideWhen_15 : decode cX7_wideWhen 15 = .ok (.ireturn, 1) := by decide +kernel
theorem dX7_highWhen_0 : decode cX7_highWhen 0 = .ok (.iload_n 1, 1) := by decide +kernel
theorem dX7_highWhen_1 : decode cX7_highWhen 1 = .ok (.ifCond .eq 10, 3) := by decide +kernel
theorem dX7_highWhen_4 : decode cX7_highWhen 4 = .ok (.aload_n 0, 1) := by decide +kernel
theorem dX7_highWhen_5 : decode cX7_highWhen 5 = .ok (.getfield 13, 3) := by decide +kernel
theorem dX7_highWhen_8 : decode cX7_highWhen 8 = .ok (.goto 7, 3) := by decide +kernel
theorem dX7_highWhen_11 : decode cX7_highWhen 11 = .ok (.aload_n 0, 1) := by decide +kernel
theorem dX7_highWhen_12 : decode cX7_highWhen 12 = .ok (.getfield 7, 3) := by decide +kernel
theorem dX7_highWhen_15 : decode cX7_highWhen 15 = .ok (.ireturn, 1) := by decide +kernel
theorem dX7_stampAt_0 : decode cX7_stampAt 0 = .ok (.aload_n 1, 1) := by decide +kernel
theorem dX7_stampAt_1 : decode cX7_stampAt 1 = .ok (.iload_n 2, 1) := by decide +kernel
theorem dX7_stampAt_2 : decode cX7_stampAt 2 = .ok (.iload_n 3, 1) := by decide +kernel
theorem dX7_stampAt_3 : decode cX7_stampAt 3 = .ok (.aload_n 0, 1) := by decide +kernel
theorem dX7_stampAt_4 : decode cX7_stampAt 4 = .ok (.iload 4, 2) := by decide +kernel
theorem dX7_stampAt_6 : decode cX7_stampAt 6 = .ok (.invokevirtual 16, 3) := by decide +kernel
theorem dX7_stampAt_9 : decode cX7_stampAt 9 = .ok (.aload_n 0, 1) := by decide +kernel
theorem dX7_stampAt_10 : decode cX7_stampAt 10 = .ok (.iload 4, 2) := by decide +kernel
theorem dX7_stampAt_12 : decode cX7_stampAt 12 = .ok (.invokevirtual 20, 3) := by decide +kernel
theorem dX7_stampAt_15 : decode cX7_stampAt 15 = .ok (.invokevirtual 23, 3) := by decide +kernel
theorem dX7_stampAt_18 : decode cX7_stampAt 18 = .ok (.return_, 1) := by decide +kernel
theorem dX7_hitsFor_0 : decode cX7_hitsFor 0 = .ok (.aload_n 0, 1) := by decide +kernel
theorem dX7_hitsFor_1 : decode cX7_hitsFor 1 = .ok (.iload_n 2, 1) := by decide +kernel
theorem dX7_hitsFor_2 : decode cX7_hitsFor 2 = .ok (.invokevirtual 16, 3) := by decide +kernel
theorem dX7_hitsFor_5 : decode cX7_hitsFor 5 = .ok (.istore_n 3, 1) := by decide +kernel
theorem dX7_hitsFor_6 : decode cX7_hitsFor 6 = .ok (.aload_n 0, 1) := by decide +kernel
theorem dX7_hitsFor_7 : decode cX7_hitsFor 7 = .ok (.iload_n 2, 1) := by decide +kernel
theorem dX7_hitsFor_8 : decode cX7_hitsFor 8 = .ok (.invokevirtual 20, 3) := by decide +kernel
theorem dX7_hitsFor_11 : decode cX7_hitsFor 11 = .ok (.istore 4, 2) := by decide +kernel
theorem dX7_hitsFor_13 : decode cX7_hitsFor 13 = .ok (.iload_n 2, 1) := by decide +kernel
theorem dX7_hitsFor_14 : decode cX7_hitsFor 14 = .ok (.ifCond .eq 10, 3) := by decide +kernel
theorem dX7_hitsFor_17 : decode cX7_hitsFor 17 = .ok (.aload_n 0, 1) := by decide +kernel
theorem dX7_hitsFor_18 : decode cX7_hitsFor 18 = .ok (.getfield 29, 3) := by decide +kernel
theorem dX7_hitsFor_21 : decode cX7_hitsFor 21 = .ok (.ifCond .eq 20, 3) := by decide +kernel
theorem dX7_hitsFor_24 : decode cX7_hitsFor 24 = .ok (.iload_n 3, 1) := by decide +kernel
theorem dX7_hitsFor_25 : decode cX7_hitsFor 25 = .ok (.aload_n 1, 1) := by decide +kernel
theorem dX7_hitsFor_26 : decode cX7_hitsFor 26 = .ok (.getfield 33, 3) := by decide +kernel
theorem dX7_hitsFor_29 : decode cX7_hitsFor 29 = .ok (.if_icmp .gt 12, 3) := by decide +kernel
theorem dX7_hitsFor_32 : decode cX7_hitsFor 32 = .ok (.iload 4, 2) := by decide +kernel
theorem dX7_hitsFor_34 : decode cX7_hitsFor 34 = .ok (.aload_n 1, 1) := by decide +kernel
theorem dX7_hitsFor_35 : decode cX7_hitsFor 35 = .ok (.getfield 34, 3) := by decide +kernel
theorem dX7_hitsFor_38 : decode cX7_hitsFor 38 = .ok (.if_icmp .le 5, 3) := by decide +kernel
theorem dX7_hitsFor_41 : decode cX7_hitsFor 41 = .ok (.iconst 0, 1) := by decide +kernel
theorem dX7_hitsFor_42 : decode cX7_hitsFor 42 = .ok (.ireturn, 1) := by decide +kernel
theorem dX7_hitsFor_43 : decode cX7_hitsFor 43 = .ok (.aload_n 1, 1) := by decide +kernel
theorem dX7_hitsFor_44 : decode cX7_hitsFor 44 = .ok (.getfield 33, 3) := by decide +kernel
theorem dX7_hitsFor_47 : decode cX7_hitsFor 47 = .ok (.iload_n 3, 1) := by decide +kernel
theorem dX7_hitsFor_48 : decode cX7_hitsFor 48 = .ok (.invokestatic 35, 3) := by decide +kernel
theorem dX7_hitsFor_51 : decode cX7_hitsFor 51 = .ok (.aload_n 1, 1) := by decide +kernel
theorem dX7_hitsFor_52 : decode cX7_hitsFor 52 = .ok (.getfield 34, 3) := by decide +kernel
theorem dX7_hitsFor_55 : decode cX7_hitsFor 55 = .ok (.iload 4, 2) := by decide +kernel
theorem dX7_hitsFor_57 : decode cX7_hitsFor 57 = .ok (.invokestatic 35, 3) := by decide +kernel
theorem dX7_hitsFor_60 : decode cX7_hitsFor 60 = .ok (.imul, 1) := by decide +kernel
theorem dX7_hitsFor_61 : decode cX7_hitsFor 61 = .ok (.ireturn, 1) := by decide +kernel
theorem dX8_init_0 : decode cX8_init 0 = .ok (.aload_n 0, 1) := by decide +kernel
theorem dX8_init_1 : decode cX8_init 1 = .ok (.invokespecial 1, 3) := by decide +kernel
theorem dX8_init_4 : decode cX8_init 4 = .ok (.aload_n 0, 1) := by decide +kernel
theorem dX8_init_5 : decode cX8_init 5 = .ok (.new 7, 3) := by decide +kernel
theorem dX8_init_8 : decode cX8_init 8 = .ok (.dup, 1) := by decide +kernel
theorem dX8_init_9 : decode cX8_init 9 = .ok (.invokespecial 9, 3) := by decide +kernel
theorem dX8_init_12 : decode cX8_init 12 = .ok (.putfield 10, 3) := by decide +kernel
theorem dX8_init_15 : decode cX8_init 15 = .ok (.aload_n 0, 1) := by decide +kernel
theorem dX8_init_16 : decode cX8_init 16 = .ok (.new 16, 3) := by decide +kernel
theorem dX8_init_19 : decode cX8_init 19 = .ok (.dup, 1) := by decide +kernel
theorem dX8_init_20 : decode cX8_init 20 = .ok (.invokespecial 18, 3) := by decide +kernel
theorem dX8_init_23 : decode cX8_init 23 = .ok (.putfield 19, 3) := by decide +kernel
theorem dX8_init_26 : decode cX8_init 26 = .ok (.aload_n 0, 1) := by decide +kernel
theorem dX8_init_27 : decode cX8_init 27 = .ok (.new 23, 3) := by decide +kernel
theorem dX8_init_30 : decode cX8_init 30 = .ok (.dup, 1) := by decide +kernel
theorem dX8_init_31 : decode cX8_init 31 = .ok (.invokespecial 25, 3) := by decide +kernel
theorem dX8_init_34 : decode cX8_init 34 = .ok (.putfield 26, 3) := by decide +kernel
theorem dX8_init_37 : decode cX8_init 37 = .ok (.aload_n 0, 1) := by decide +kernel
theorem dX8_init_38 : decode cX8_init 38 = .ok (.new 23, 3) := by decide +kernel
theorem dX8_init_41 : decode cX8_init 41 = .ok (.dup, 1) := by decide +kernel
theorem dX8_init_42 : decode cX8_init 42 = .ok (.invokespecial 25, 3) := by decide +kernel
theorem dX8_init_45 : decode cX8_init 45 = .ok (.putfield 30, 3) := by decide +kernel
theorem dX8_init_48 : decode cX8_init 48 = .ok (.aload_n 0, 1) := by decide +kernel
theorem dX8_init_49 : decode cX8_init 49 = .ok (.new 33, 3) := by decide +kernel
theorem dX8_init_52 : decode cX8_init 52 = .ok (.dup, 1) := by decide +kernel
theorem dX8_init_53 : decode cX8_init 53 = .ok (.invokespecial 35, 3) := by decide +kernel
theorem dX8_init_56 : decode cX8_init 56 = .ok (.putfield 36, 3) := by decide +kernel
theorem dX8_init_59 : decode cX8_init 59 = .ok (.aload_n 0, 1) := by decide +kernel
theorem dX8_init_60 : decode cX8_init 60 = .ok (.new 40, 3) := by decide +kernel
theorem dX8_init_63 : decode cX8_init 63 = .ok (.dup, 1) := by decide +kernel
theorem dX8_init_64 : decode cX8_init 64 = .ok (.invokespecial 42, 3) := by decide +kernel
theorem dX8_init_67 : decode cX8_init 67 = .ok (.putfield 43, 3) := by decide +kernel
theorem dX8_init_70 : decode cX8_init 70 = .ok (.aload_n 0, 1) := by decide +kernel
theorem dX8_init_71 : decode cX8_init 71 = .ok (.new 47, 3) := by decide +kernel
theorem dX8_init_74 : decode cX8_init 74 = .ok (.dup, 1) := by decide +kernel
theorem dX8_init_75 : decode cX8_init 75 = .ok (.invokespecial 49, 3) := by decide +kernel
theorem dX8_init_78 : decode cX8_init 78 = .ok (.putfield 50, 3) := by decide +kernel
theorem dX8_init_81 : decode cX8_init 81 = .ok (.aload_n 0, 1) := by decide +kernel
theorem dX8_init_82 : decode cX8_init 82 = .ok (.new 54, 3) := by decide +kernel
theorem dX8_init_85 : decode cX8_init 85 = .ok (.dup, 1) := by decide +kernel
theorem dX8_init_86 : decode cX8_init 86 = .ok (.invokespecial 56, 3) := by decide +kernel
theorem dX8_init_89 : decode cX8_init 89 = .ok (.putfield 57, 3) := by decide +kernel
theorem dX8_init_92 : decode cX8_init 92 = .ok (.aload_n 0, 1) := by decide +kernel
theorem dX8_init_93 : decode cX8_init 93 = .ok (.new 54, 3) := by decide +kernel
theorem dX8_init_96 : decode cX8_init 96 = .ok (.dup, 1) := by decide +kernel
theorem dX8_init_97 : decode cX8_init 97 = .ok (.invokespecial 56, 3) := by decide +kernel
theorem dX8_init_100 : decode cX8_init 100 = .ok (.putfield 61, 3) := by decide +kernel
theorem dX8_init_103 : decode cX8_init 103 = .ok (.iconst 0, 1) := by decide +kernel
theorem dX8_init_104 : decode cX8_init 104 = .ok (.istore_n 1, 1) := by decide +kernel
theorem dX8_init_105 : decode cX8_init 105 = .ok (.iload_n 1, 1) := by decide +kernel
theorem dX8_init_106 : decode cX8_init 106 = .ok (.ldc 64, 2) := by decide +kernel
theorem dX8_init_108 : decode cX8_init 108 = .ok (.invokevirtual 66, 3) := by decide +kernel
theorem dX8_init_111 : decode cX8_init 111 = .ok (.if_icmp .ge 23, 3) := by decide +kernel
theorem dX8_init_114 : decode cX8_init 114 = .ok (.aload_n 0, 1) := by decide +kernel
theorem dX8_init_115 : decode cX8_init 115 = .ok (.getfield 10, 3) := by decide +kernel
theorem dX8_init_118 : decode cX8_init 118 = .ok (.ldc 64, 2) := by decide +kernel
theorem dX8_init_120 : decode cX8_init 120 = .ok (.iload_n 1, 1) := by decide +kernel
theorem dX8_init_121 : decode cX8_init 121 = .ok (.invokevirtual 72, 3) := by decide +kernel
theorem dX8_init_124 : decode cX8_init 124 = .ok (.invokevirtual 76, 3) := by decide +kernel
theorem dX8_init_127 : decode cX8_init 127 = .ok (.pop, 1) := by decide +kernel
theorem dX8_init_128 : decode cX8_init 128 = .ok (.iinc 1 1, 3) := by decide +kernel
theorem dX8_init_131 : decode cX8_init 131 = .ok (.goto (-26), 3) := by decide +kernel
theorem dX8_init_134 : decode cX8_init 134 = .ok (.aload_n 0, 1) := by decide +kernel
theorem dX8_init_135 : decode cX8_init 135 = .ok (.invokevirtual 80, 3) := by decide +kernel
theorem dX8_init_138 : decode cX8_init 138 = .ok (.pop, 1) := by decide +kernel
theorem dX8_init_139 : decode cX8_init 139 = .ok (.aload_n 0, 1) := by decide +kernel
theorem dX8_init_140 : decode cX8_init 140 = .ok (.getfield 10, 3) := by decide +kernel
theorem dX8_init_143 : decode cX8_init 143 = .ok (.invokevirtual 84, 3) := by decide +kernel
theorem dX8_init_146 : decode cX8_init 146 = .ok (.return_, 1) := by decide +kernel
theorem dX8_write_0 : decode cX8_write 0 = .ok (.iload_n 1, 1) := by decide +kernel
theorem dX8_write_1 : decode cX8_write 1 = .ok (.bipush 32, 2) := by decide +kernel
theorem dX8_write_3 : decode cX8_write 3 = .ok (.if_icmp .lt 9, 3) := by decide +kernel
theorem dX8_write_6 : decode cX8_write 6 = .ok (.iload_n 1, 1) := by decide +kernel
theorem dX8_write_7 : decode cX8_write 7 = .ok (.bipush 126, 2) := by decide +kernel
theorem dX8_write_9 : decode cX8_write 9 = .ok (.if_icmp .le 5, 3) := by decide +kernel
theorem dX8_write_12 : decode cX8_write 12 = .ok (.iconst (-1), 1) := by decide +kernel
theorem dX8_write_13 : decode cX8_write 13 = .ok (.ireturn, 1) := by decide +kernel
theorem dX8_write_14 : decode cX8_write 14 = .ok (.aload_n 0, 1) := by decide +kernel
theorem dX8_write_15 : decode cX8_write 15 = .ok (.getfield 10, 3) := by decide +kernel
theorem dX8_write_18 : decode cX8_write 18 = .ok (.iload_n 1, 1) := by decide +kernel
theorem dX8_write_19 : decode cX8_write 19 = .ok (.i2c, 1) := by decide +kernel
theorem dX8_write_20 : decode cX8_write 20 = .ok (.invokevirtual 76, 3) := by decide +kernel
theorem dX8_write_23 : decode cX8_write 23 = .ok (.ifCond .eq 13, 3) := by decide +kernel
theorem dX8_write_26 : decode cX8_write 26 = .ok (.aload_n 0, 1) := by decide +kernel
theorem dX8_write_27 : decode cX8_write 27 = .ok (.getfield 10, 3) := by decide +kernel
theorem dX8_write_30 : decode cX8_write 30 = .ok (.getfield 87, 3) := by decide +kernel
theorem dX8_write_33 : decode cX8_write 33 = .ok (.goto 5, 3) := by decide +kernel
theorem dX8_write_36 : decode cX8_write 36 = .ok (.bipush (-3), 2) := by decide +kernel
theorem dX8_write_38 : decode cX8_write 38 = .ok (.ireturn, 1) := by decide +kernel
theorem dX8_wipe_0 : decode cX8_wipe 0 = .ok (.aload_n 0, 1) := by decide +kernel
theorem dX8_wipe_1 : decode cX8_wipe 1 = .ok (.getfield 10, 3) := by decide +kernel
theorem dX8_wipe_4 : decode cX8_wipe 4 = .ok (.getfield 87, 3) := by decide +kernel
theorem dX8_wipe_7 : decode cX8_wipe 7 = .ok (.istore_n 1, 1) := by decide +kernel
theorem dX8_wipe_8 : decode cX8_wipe 8 = .ok (.aload_n 0, 1) := by decide +kernel
theorem dX8_wipe_9 : decode cX8_wipe 9 = .ok (.getfield 10, 3) := by decide +kernel
theorem dX8_wipe_12 : decode cX8_wipe 12 = .ok (.invokevirtual 84, 3) := by decide +kernel
theorem dX8_wipe_15 : decode cX8_wipe 15 = .ok (.iload_n 1, 1) := by decide +kernel
theorem dX8_wipe_16 : decode cX8_wipe 16 = .ok (.ireturn, 1) := by decide +kernel
theorem dX8_fault_0 : decode cX8_fault 0 = .ok (.aload_n 0, 1) := by decide +kernel
theorem dX8_fault_1 : decode cX8_fault 1 = .ok (.getfield 19, 3) := by decide +kernel
theorem dX8_fault_4 : decode cX8_fault 4 = .ok (.aload_n 0, 1) := by decide +kernel
theorem dX8_fault_5 : decode cX8_fault 5 = .ok (.getfield 10, 3) := by decide +kernel
theorem dX8_fault_8 : decode cX8_fault 8 = .ok (.aload_n 0, 1) := by decide +kernel
theorem dX8_fault_9 : decode cX8_fault 9 = .ok (.getfield 61, 3) := by decide +kernel
theorem dX8_fault_12 : decode cX8_fault 12 = .ok (.invokevirtual 90, 3) := by decide +kernel
theorem dX8_fault_15 : decode cX8_fault 15 = .ok (.ireturn, 1) := by decide +kernel
theorem dX8_lay_0 : decode cX8_lay 0 = .ok (.aload_n 0, 1) := by decide +kernel
theorem dX8_lay_1 : decode cX8_lay 1 = .ok (.invokevirtual 80, 3) := by decide +kernel
theorem dX8_lay_4 : decode cX8_lay 4 = .ok (.ifCond .eq 13, 3) := by decide +kernel
theorem dX8_lay_7 : decode cX8_lay 7 = .ok (.aload_n 0, 1) := by decide +kernel
theorem dX8_lay_8 : decode cX8_lay 8 = .ok (.getfield 57, 3) := by decide +kernel
theorem dX8_lay_11 : decode cX8_lay 11 = .ok (.getfield 94, 3) := by decide +kernel
theorem dX8_lay_14 : decode cX8_lay 14 = .ok (.goto 5, 3) := by decide +kernel
theorem dX8_lay_17 : decode cX8_lay 17 = .ok (.bipush (-2), 2) := by decide +kernel
theorem dX8_lay_19 : decode cX8_lay 19 = .ok (.ireturn, 1) := by decide +kernel
theorem dX8_hit_0 : decode cX8_hit 0 = .ok (.aload_n 0, 1) := by decide +kernel
theorem dX8_hit_1 : decode cX8_hit 1 = .ok (.iload_n 1, 1) := by decide +kernel
theorem dX8_hit_2 : decode cX8_hit 2 = .ok (.iload_n 2, 1) := by decide +kernel
