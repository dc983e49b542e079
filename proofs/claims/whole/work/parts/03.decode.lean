theorem dX0_init_0 : decode cX0_init 0 = .ok (.aload_n 0, 1) := by decide +kernel
theorem dX0_init_1 : decode cX0_init 1 = .ok (.invokespecial 3, 3) := by decide +kernel
theorem dX0_init_4 : decode cX0_init 4 = .ok (.aload_n 0, 1) := by decide +kernel
theorem dX0_init_5 : decode cX0_init 5 = .ok (.bipush 6, 2) := by decide +kernel
theorem dX0_init_7 : decode cX0_init 7 = .ok (.newarray .int, 2) := by decide +kernel
theorem dX0_init_9 : decode cX0_init 9 = .ok (.putfield 9, 3) := by decide +kernel
theorem dX0_init_12 : decode cX0_init 12 = .ok (.aload_n 0, 1) := by decide +kernel
theorem dX0_init_13 : decode cX0_init 13 = .ok (.bipush 6, 2) := by decide +kernel
theorem dX0_init_15 : decode cX0_init 15 = .ok (.newarray .int, 2) := by decide +kernel
theorem dX0_init_17 : decode cX0_init 17 = .ok (.putfield 15, 3) := by decide +kernel
theorem dX0_init_20 : decode cX0_init 20 = .ok (.return_, 1) := by decide +kernel
theorem dX0_open_0 : decode cX0_open 0 = .ok (.aload_n 1, 1) := by decide +kernel
theorem dX0_open_1 : decode cX0_open 1 = .ok (.aload_n 0, 1) := by decide +kernel
theorem dX0_open_2 : decode cX0_open 2 = .ok (.getfield 9, 3) := by decide +kernel
theorem dX0_open_5 : decode cX0_open 5 = .ok (.invokestatic 18, 3) := by decide +kernel
theorem dX0_open_8 : decode cX0_open 8 = .ok (.return_, 1) := by decide +kernel
theorem dX0_whoIsLeft_0 : decode cX0_whoIsLeft 0 = .ok (.iconst 1, 1) := by decide +kernel
theorem dX0_whoIsLeft_1 : decode cX0_whoIsLeft 1 = .ok (.iload_n 1, 1) := by decide +kernel
theorem dX0_whoIsLeft_2 : decode cX0_whoIsLeft 2 = .ok (.ishl, 1) := by decide +kernel
theorem dX0_whoIsLeft_3 : decode cX0_whoIsLeft 3 = .ok (.iconst 1, 1) := by decide +kernel
theorem dX0_whoIsLeft_4 : decode cX0_whoIsLeft 4 = .ok (.isub, 1) := by decide +kernel
theorem dX0_whoIsLeft_5 : decode cX0_whoIsLeft 5 = .ok (.istore_n 3, 1) := by decide +kernel
theorem dX0_whoIsLeft_6 : decode cX0_whoIsLeft 6 = .ok (.iconst 0, 1) := by decide +kernel
theorem dX0_whoIsLeft_7 : decode cX0_whoIsLeft 7 = .ok (.istore 4, 2) := by decide +kernel
theorem dX0_whoIsLeft_9 : decode cX0_whoIsLeft 9 = .ok (.iconst 0, 1) := by decide +kernel
theorem dX0_whoIsLeft_10 : decode cX0_whoIsLeft 10 = .ok (.istore 5, 2) := by decide +kernel
theorem dX0_whoIsLeft_12 : decode cX0_whoIsLeft 12 = .ok (.iload 5, 2) := by decide +kernel
theorem dX0_whoIsLeft_14 : decode cX0_whoIsLeft 14 = .ok (.iload_n 2, 1) := by decide +kernel
theorem dX0_whoIsLeft_15 : decode cX0_whoIsLeft 15 = .ok (.if_icmp .ge 29, 3) := by decide +kernel
theorem dX0_whoIsLeft_18 : decode cX0_whoIsLeft 18 = .ok (.iload 4, 2) := by decide +kernel
theorem dX0_whoIsLeft_20 : decode cX0_whoIsLeft 20 = .ok (.iconst 1, 1) := by decide +kernel
theorem dX0_whoIsLeft_21 : decode cX0_whoIsLeft 21 = .ok (.aload_n 0, 1) := by decide +kernel
theorem dX0_whoIsLeft_22 : decode cX0_whoIsLeft 22 = .ok (.getfield 9, 3) := by decide +kernel
theorem dX0_whoIsLeft_25 : decode cX0_whoIsLeft 25 = .ok (.iload_n 3, 1) := by decide +kernel
theorem dX0_whoIsLeft_26 : decode cX0_whoIsLeft 26 = .ok (.iload 4, 2) := by decide +kernel
theorem dX0_whoIsLeft_28 : decode cX0_whoIsLeft 28 = .ok (.iconst (-1), 1) := by decide +kernel
theorem dX0_whoIsLeft_29 : decode cX0_whoIsLeft 29 = .ok (.ixor, 1) := by decide +kernel
theorem dX0_whoIsLeft_30 : decode cX0_whoIsLeft 30 = .ok (.iand, 1) := by decide +kernel
theorem dX0_whoIsLeft_31 : decode cX0_whoIsLeft 31 = .ok (.invokestatic 22, 3) := by decide +kernel
theorem dX0_whoIsLeft_34 : decode cX0_whoIsLeft 34 = .ok (.ishl, 1) := by decide +kernel
theorem dX0_whoIsLeft_35 : decode cX0_whoIsLeft 35 = .ok (.ior, 1) := by decide +kernel
theorem dX0_whoIsLeft_36 : decode cX0_whoIsLeft 36 = .ok (.istore 4, 2) := by decide +kernel
theorem dX0_whoIsLeft_38 : decode cX0_whoIsLeft 38 = .ok (.iinc 5 1, 3) := by decide +kernel
theorem dX0_whoIsLeft_41 : decode cX0_whoIsLeft 41 = .ok (.goto (-29), 3) := by decide +kernel
theorem dX0_whoIsLeft_44 : decode cX0_whoIsLeft 44 = .ok (.iload 4, 2) := by decide +kernel
theorem dX0_whoIsLeft_46 : decode cX0_whoIsLeft 46 = .ok (.ireturn, 1) := by decide +kernel
theorem dX0_winner_0 : decode cX0_winner 0 = .ok (.aload_n 0, 1) := by decide +kernel
theorem dX0_winner_1 : decode cX0_winner 1 = .ok (.aload_n 1, 1) := by decide +kernel
theorem dX0_winner_2 : decode cX0_winner 2 = .ok (.getfield 26, 3) := by decide +kernel
theorem dX0_winner_5 : decode cX0_winner 5 = .ok (.iload_n 3, 1) := by decide +kernel
theorem dX0_winner_6 : decode cX0_winner 6 = .ok (.invokevirtual 32, 3) := by decide +kernel
theorem dX0_winner_9 : decode cX0_winner 9 = .ok (.istore 4, 2) := by decide +kernel
theorem dX0_winner_11 : decode cX0_winner 11 = .ok (.iconst 0, 1) := by decide +kernel
theorem dX0_winner_12 : decode cX0_winner 12 = .ok (.istore 5, 2) := by decide +kernel
theorem dX0_winner_14 : decode cX0_winner 14 = .ok (.iload 5, 2) := by decide +kernel
theorem dX0_winner_16 : decode cX0_winner 16 = .ok (.aload_n 0, 1) := by decide +kernel
theorem dX0_winner_17 : decode cX0_winner 17 = .ok (.getfield 15, 3) := by decide +kernel
theorem dX0_winner_20 : decode cX0_winner 20 = .ok (.arraylength, 1) := by decide +kernel
theorem dX0_winner_21 : decode cX0_winner 21 = .ok (.if_icmp .ge 17, 3) := by decide +kernel
theorem dX0_winner_24 : decode cX0_winner 24 = .ok (.aload_n 0, 1) := by decide +kernel
theorem dX0_winner_25 : decode cX0_winner 25 = .ok (.getfield 15, 3) := by decide +kernel
theorem dX0_winner_28 : decode cX0_winner 28 = .ok (.iload 5, 2) := by decide +kernel
theorem dX0_winner_30 : decode cX0_winner 30 = .ok (.iconst 0, 1) := by decide +kernel
theorem dX0_winner_31 : decode cX0_winner 31 = .ok (.iastore, 1) := by decide +kernel
theorem dX0_winner_32 : decode cX0_winner 32 = .ok (.iinc 5 1, 3) := by decide +kernel
theorem dX0_winner_35 : decode cX0_winner 35 = .ok (.goto (-21), 3) := by decide +kernel
theorem dX0_winner_38 : decode cX0_winner 38 = .ok (.iconst 0, 1) := by decide +kernel
theorem dX0_winner_39 : decode cX0_winner 39 = .ok (.istore 5, 2) := by decide +kernel
theorem dX0_winner_41 : decode cX0_winner 41 = .ok (.iload 5, 2) := by decide +kernel
theorem dX0_winner_43 : decode cX0_winner 43 = .ok (.aload_n 1, 1) := by decide +kernel
theorem dX0_winner_44 : decode cX0_winner 44 = .ok (.getfield 36, 3) := by decide +kernel
theorem dX0_winner_47 : decode cX0_winner 47 = .ok (.if_icmp .ge 42, 3) := by decide +kernel
theorem dX0_winner_50 : decode cX0_winner 50 = .ok (.iload_n 2, 1) := by decide +kernel
theorem dX0_winner_51 : decode cX0_winner 51 = .ok (.iload 5, 2) := by decide +kernel
theorem dX0_winner_53 : decode cX0_winner 53 = .ok (.invokestatic 39, 3) := by decide +kernel
theorem dX0_winner_56 : decode cX0_winner 56 = .ok (.ifCond .ne 27, 3) := by decide +kernel
theorem dX0_winner_59 : decode cX0_winner 59 = .ok (.aload_n 0, 1) := by decide +kernel
theorem dX0_winner_60 : decode cX0_winner 60 = .ok (.getfield 15, 3) := by decide +kernel
theorem dX0_winner_63 : decode cX0_winner 63 = .ok (.aload_n 1, 1) := by decide +kernel
theorem dX0_winner_64 : decode cX0_winner 64 = .ok (.iload 5, 2) := by decide +kernel
theorem dX0_winner_66 : decode cX0_winner 66 = .ok (.iload 4, 2) := by decide +kernel
theorem dX0_winner_68 : decode cX0_winner 68 = .ok (.invokevirtual 42, 3) := by decide +kernel
theorem dX0_winner_71 : decode cX0_winner 71 = .ok (.aload_n 1, 1) := by decide +kernel
theorem dX0_winner_72 : decode cX0_winner 72 = .ok (.getfield 45, 3) := by decide +kernel
theorem dX0_winner_75 : decode cX0_winner 75 = .ok (.iload 5, 2) := by decide +kernel
theorem dX0_winner_77 : decode cX0_winner 77 = .ok (.invokestatic 48, 3) := by decide +kernel
theorem dX0_winner_80 : decode cX0_winner 80 = .ok (.invokestatic 51, 3) := by decide +kernel
theorem dX0_winner_83 : decode cX0_winner 83 = .ok (.iinc 5 1, 3) := by decide +kernel
theorem dX0_winner_86 : decode cX0_winner 86 = .ok (.goto (-45), 3) := by decide +kernel
theorem dX0_winner_89 : decode cX0_winner 89 = .ok (.aload_n 0, 1) := by decide +kernel
theorem dX0_winner_90 : decode cX0_winner 90 = .ok (.getfield 15, 3) := by decide +kernel
theorem dX0_winner_93 : decode cX0_winner 93 = .ok (.iload 4, 2) := by decide +kernel
theorem dX0_winner_95 : decode cX0_winner 95 = .ok (.invokestatic 22, 3) := by decide +kernel
theorem dX0_winner_98 : decode cX0_winner 98 = .ok (.ireturn, 1) := by decide +kernel
theorem dX0_mostOf_0 : decode cX0_mostOf 0 = .ok (.iconst (-1), 1) := by decide +kernel
theorem dX0_mostOf_1 : decode cX0_mostOf 1 = .ok (.istore_n 2, 1) := by decide +kernel
theorem dX0_mostOf_2 : decode cX0_mostOf 2 = .ok (.iconst 0, 1) := by decide +kernel
theorem dX0_mostOf_3 : decode cX0_mostOf 3 = .ok (.istore_n 3, 1) := by decide +kernel
theorem dX0_mostOf_4 : decode cX0_mostOf 4 = .ok (.iload_n 3, 1) := by decide +kernel
theorem dX0_mostOf_5 : decode cX0_mostOf 5 = .ok (.aload_n 0, 1) := by decide +kernel
theorem dX0_mostOf_6 : decode cX0_mostOf 6 = .ok (.arraylength, 1) := by decide +kernel
theorem dX0_mostOf_7 : decode cX0_mostOf 7 = .ok (.if_icmp .ge 35, 3) := by decide +kernel
theorem dX0_mostOf_10 : decode cX0_mostOf 10 = .ok (.iload_n 1, 1) := by decide +kernel
theorem dX0_mostOf_11 : decode cX0_mostOf 11 = .ok (.iload_n 3, 1) := by decide +kernel
theorem dX0_mostOf_12 : decode cX0_mostOf 12 = .ok (.invokestatic 39, 3) := by decide +kernel
theorem dX0_mostOf_15 : decode cX0_mostOf 15 = .ok (.iconst 1, 1) := by decide +kernel
theorem dX0_mostOf_16 : decode cX0_mostOf 16 = .ok (.if_icmp .ne 20, 3) := by decide +kernel
theorem dX0_mostOf_19 : decode cX0_mostOf 19 = .ok (.iload_n 2, 1) := by decide +kernel
theorem dX0_mostOf_20 : decode cX0_mostOf 20 = .ok (.ifCond .lt 14, 3) := by decide +kernel
theorem dX0_mostOf_23 : decode cX0_mostOf 23 = .ok (.aload_n 0, 1) := by decide +kernel
theorem dX0_mostOf_24 : decode cX0_mostOf 24 = .ok (.iload_n 3, 1) := by decide +kernel
theorem dX0_mostOf_25 : decode cX0_mostOf 25 = .ok (.iaload, 1) := by decide +kernel
theorem dX0_mostOf_26 : decode cX0_mostOf 26 = .ok (.aload_n 0, 1) := by decide +kernel
theorem dX0_mostOf_27 : decode cX0_mostOf 27 = .ok (.iload_n 2, 1) := by decide +kernel
theorem dX0_mostOf_28 : decode cX0_mostOf 28 = .ok (.invokestatic 48, 3) := by decide +kernel
theorem dX0_mostOf_31 : decode cX0_mostOf 31 = .ok (.if_icmp .le 5, 3) := by decide +kernel
theorem dX0_mostOf_34 : decode cX0_mostOf 34 = .ok (.iload_n 3, 1) := by decide +kernel
theorem dX0_mostOf_35 : decode cX0_mostOf 35 = .ok (.istore_n 2, 1) := by decide +kernel
theorem dX0_mostOf_36 : decode cX0_mostOf 36 = .ok (.iinc 3 1, 3) := by decide +kernel
theorem dX0_mostOf_39 : decode cX0_mostOf 39 = .ok (.goto (-35), 3) := by decide +kernel
theorem dX0_mostOf_42 : decode cX0_mostOf 42 = .ok (.iload_n 2, 1) := by decide +kernel
theorem dX0_mostOf_43 : decode cX0_mostOf 43 = .ok (.iconst 0, 1) := by decide +kernel
theorem dX0_mostOf_44 : decode cX0_mostOf 44 = .ok (.invokestatic 55, 3) := by decide +kernel
theorem dX0_mostOf_47 : decode cX0_mostOf 47 = .ok (.ireturn, 1) := by decide +kernel
theorem dX1_init_0 : decode cX1_init 0 = .ok (.aload_n 0, 1) := by decide +kernel
theorem dX1_init_1 : decode cX1_init 1 = .ok (.invokespecial 3, 3) := by decide +kernel
theorem dX1_init_4 : decode cX1_init 4 = .ok (.aload_n 0, 1) := by decide +kernel
theorem dX1_init_5 : decode cX1_init 5 = .ok (.iconst 0, 1) := by decide +kernel
theorem dX1_init_6 : decode cX1_init 6 = .ok (.putfield 9, 3) := by decide +kernel
theorem dX1_init_9 : decode cX1_init 9 = .ok (.aload_n 0, 1) := by decide +kernel
theorem dX1_init_10 : decode cX1_init 10 = .ok (.iconst 0, 1) := by decide +kernel
theorem dX1_init_11 : decode cX1_init 11 = .ok (.putfield 15, 3) := by decide +kernel
theorem dX1_init_14 : decode cX1_init 14 = .ok (.aload_n 0, 1) := by decide +kernel
theorem dX1_init_15 : decode cX1_init 15 = .ok (.iconst 4, 1) := by decide +kernel
theorem dX1_init_16 : decode cX1_init 16 = .ok (.newarray .int, 2) := by decide +kernel
theorem dX1_init_18 : decode cX1_init 18 = .ok (.putfield 18, 3) := by decide +kernel
theorem dX1_init_21 : decode cX1_init 21 = .ok (.aload_n 0, 1) := by decide +kernel
theorem dX1_init_22 : decode cX1_init 22 = .ok (.iconst 4, 1) := by decide +kernel
theorem dX1_init_23 : decode cX1_init 23 = .ok (.newarray .int, 2) := by decide +kernel
theorem dX1_init_25 : decode cX1_init 25 = .ok (.putfield 22, 3) := by decide +kernel
theorem dX1_init_28 : decode cX1_init 28 = .ok (.aload_n 0, 1) := by decide +kernel
theorem dX1_init_29 : decode cX1_init 29 = .ok (.bipush 36, 2) := by decide +kernel
theorem dX1_init_31 : decode cX1_init 31 = .ok (.newarray .int, 2) := by decide +kernel
theorem dX1_init_33 : decode cX1_init 33 = .ok (.putfield 25, 3) := by decide +kernel
theorem dX1_init_36 : decode cX1_init 36 = .ok (.return_, 1) := by decide +kernel
theorem dX1_append_0 : decode cX1_append 0 = .ok (.aload_n 0, 1) := by decide +kernel
theorem dX1_append_1 : decode cX1_append 1 = .ok (.getfield 18, 3) := by decide +kernel
theorem dX1_append_4 : decode cX1_append 4 = .ok (.aload_n 0, 1) := by decide +kernel
theorem dX1_append_5 : decode cX1_append 5 = .ok (.getfield 9, 3) := by decide +kernel
theorem dX1_append_8 : decode cX1_append 8 = .ok (.iload_n 1, 1) := by decide +kernel
theorem dX1_append_9 : decode cX1_append 9 = .ok (.invokestatic 28, 3) := by decide +kernel
theorem dX1_append_12 : decode cX1_append 12 = .ok (.aload_n 0, 1) := by decide +kernel
theorem dX1_append_13 : decode cX1_append 13 = .ok (.getfield 22, 3) := by decide +kernel
theorem dX1_append_16 : decode cX1_append 16 = .ok (.aload_n 0, 1) := by decide +kernel
theorem dX1_append_17 : decode cX1_append 17 = .ok (.getfield 9, 3) := by decide +kernel
theorem dX1_append_20 : decode cX1_append 20 = .ok (.iload_n 2, 1) := by decide +kernel
theorem dX1_append_21 : decode cX1_append 21 = .ok (.invokestatic 28, 3) := by decide +kernel
theorem dX1_append_24 : decode cX1_append 24 = .ok (.aload_n 0, 1) := by decide +kernel
theorem dX1_append_25 : decode cX1_append 25 = .ok (.dup, 1) := by decide +kernel
theorem dX1_append_26 : decode cX1_append 26 = .ok (.getfield 9, 3) := by decide +kernel
theorem dX1_append_29 : decode cX1_append 29 = .ok (.iconst 1, 1) := by decide +kernel
theorem dX1_append_30 : decode cX1_append 30 = .ok (.iadd, 1) := by decide +kernel
theorem dX1_append_31 : decode cX1_append 31 = .ok (.putfield 9, 3) := by decide +kernel
theorem dX1_append_34 : decode cX1_append 34 = .ok (.return_, 1) := by decide +kernel
theorem dX1_fit_0 : decode cX1_fit 0 = .ok (.aload_n 0, 1) := by decide +kernel
theorem dX1_fit_1 : decode cX1_fit 1 = .ok (.iconst 0, 1) := by decide +kernel
theorem dX1_fit_2 : decode cX1_fit 2 = .ok (.putfield 15, 3) := by decide +kernel
theorem dX1_fit_5 : decode cX1_fit 5 = .ok (.iconst 0, 1) := by decide +kernel
theorem dX1_fit_6 : decode cX1_fit 6 = .ok (.istore_n 2, 1) := by decide +kernel
theorem dX1_fit_7 : decode cX1_fit 7 = .ok (.iload_n 2, 1) := by decide +kernel
theorem dX1_fit_8 : decode cX1_fit 8 = .ok (.iload_n 1, 1) := by decide +kernel
theorem dX1_fit_9 : decode cX1_fit 9 = .ok (.if_icmp .ge 66, 3) := by decide +kernel
theorem dX1_fit_12 : decode cX1_fit 12 = .ok (.iconst 0, 1) := by decide +kernel
theorem dX1_fit_13 : decode cX1_fit 13 = .ok (.istore_n 3, 1) := by decide +kernel
theorem dX1_fit_14 : decode cX1_fit 14 = .ok (.iload_n 3, 1) := by decide +kernel
theorem dX1_fit_15 : decode cX1_fit 15 = .ok (.iload_n 1, 1) := by decide +kernel
theorem dX1_fit_16 : decode cX1_fit 16 = .ok (.if_icmp .ge 53, 3) := by decide +kernel
theorem dX1_fit_19 : decode cX1_fit 19 = .ok (.iload_n 2, 1) := by decide +kernel
theorem dX1_fit_20 : decode cX1_fit 20 = .ok (.iload_n 3, 1) := by decide +kernel
theorem dX1_fit_21 : decode cX1_fit 21 = .ok (.if_icmp .eq 42, 3) := by decide +kernel
theorem dX1_fit_24 : decode cX1_fit 24 = .ok (.aload_n 0, 1) := by decide +kernel
theorem dX1_fit_25 : decode cX1_fit 25 = .ok (.iload_n 2, 1) := by decide +kernel
theorem dX1_fit_26 : decode cX1_fit 26 = .ok (.iload_n 3, 1) := by decide +kernel
theorem dX1_fit_27 : decode cX1_fit 27 = .ok (.invokevirtual 32, 3) := by decide +kernel
theorem dX1_fit_30 : decode cX1_fit 30 = .ok (.ifCond .ne 6, 3) := by decide +kernel
theorem dX1_fit_33 : decode cX1_fit 33 = .ok (.goto 30, 3) := by decide +kernel
theorem dX1_fit_36 : decode cX1_fit 36 = .ok (.aload_n 0, 1) := by decide +kernel
theorem dX1_fit_37 : decode cX1_fit 37 = .ok (.getfield 25, 3) := by decide +kernel
theorem dX1_fit_40 : decode cX1_fit 40 = .ok (.aload_n 0, 1) := by decide +kernel
theorem dX1_fit_41 : decode cX1_fit 41 = .ok (.getfield 15, 3) := by decide +kernel
theorem dX1_fit_44 : decode cX1_fit 44 = .ok (.bipush 10, 2) := by decide +kernel
theorem dX1_fit_46 : decode cX1_fit 46 = .ok (.iload_n 2, 1) := by decide +kernel
theorem dX1_fit_47 : decode cX1_fit 47 = .ok (.imul, 1) := by decide +kernel
theorem dX1_fit_48 : decode cX1_fit 48 = .ok (.iload_n 3, 1) := by decide +kernel
theorem dX1_fit_49 : decode cX1_fit 49 = .ok (.iadd, 1) := by decide +kernel
theorem dX1_fit_50 : decode cX1_fit 50 = .ok (.invokestatic 28, 3) := by decide +kernel
theorem dX1_fit_53 : decode cX1_fit 53 = .ok (.aload_n 0, 1) := by decide +kernel
theorem dX1_fit_54 : decode cX1_fit 54 = .ok (.dup, 1) := by decide +kernel
theorem dX1_fit_55 : decode cX1_fit 55 = .ok (.getfield 15, 3) := by decide +kernel
theorem dX1_fit_58 : decode cX1_fit 58 = .ok (.iconst 1, 1) := by decide +kernel
theorem dX1_fit_59 : decode cX1_fit 59 = .ok (.iadd, 1) := by decide +kernel
theorem dX1_fit_60 : decode cX1_fit 60 = .ok (.putfield 15, 3) := by decide +kernel
theorem dX1_fit_63 : decode cX1_fit 63 = .ok (.iinc 3 1, 3) := by decide +kernel
theorem dX1_fit_66 : decode cX1_fit 66 = .ok (.goto (-52), 3) := by decide +kernel
theorem dX1_fit_69 : decode cX1_fit 69 = .ok (.iinc 2 1, 3) := by decide +kernel
theorem dX1_fit_72 : decode cX1_fit 72 = .ok (.goto (-65), 3) := by decide +kernel
theorem dX1_fit_75 : decode cX1_fit 75 = .ok (.return_, 1) := by decide +kernel
theorem dX1_firstFit_0 : decode cX1_firstFit 0 = .ok (.aload_n 0, 1) := by decide +kernel
theorem dX1_firstFit_1 : decode cX1_firstFit 1 = .ok (.getfield 15, 3) := by decide +kernel
theorem dX1_firstFit_4 : decode cX1_firstFit 4 = .ok (.ifCond .le 14, 3) := by decide +kernel
theorem dX1_firstFit_7 : decode cX1_firstFit 7 = .ok (.aload_n 0, 1) := by decide +kernel
theorem dX1_firstFit_8 : decode cX1_firstFit 8 = .ok (.getfield 25, 3) := by decide +kernel
theorem dX1_firstFit_11 : decode cX1_firstFit 11 = .ok (.iconst 0, 1) := by decide +kernel
theorem dX1_firstFit_12 : decode cX1_firstFit 12 = .ok (.invokestatic 36, 3) := by decide +kernel
theorem dX1_firstFit_15 : decode cX1_firstFit 15 = .ok (.goto 5, 3) := by decide +kernel
theorem dX1_firstFit_18 : decode cX1_firstFit 18 = .ok (.bipush (-9), 2) := by decide +kernel
theorem dX1_firstFit_20 : decode cX1_firstFit 20 = .ok (.ireturn, 1) := by decide +kernel
theorem dX1_question_0 : decode cX1_question 0 = .ok (.bipush (-9), 2) := by decide +kernel
theorem dX1_question_2 : decode cX1_question 2 = .ok (.istore_n 2, 1) := by decide +kernel
theorem dX1_question_3 : decode cX1_question 3 = .ok (.aload_n 0, 1) := by decide +kernel
theorem dX1_question_4 : decode cX1_question 4 = .ok (.getfield 15, 3) := by decide +kernel
theorem dX1_question_7 : decode cX1_question 7 = .ok (.istore_n 3, 1) := by decide +kernel
theorem dX1_question_8 : decode cX1_question 8 = .ok (.iconst 0, 1) := by decide +kernel
theorem dX1_question_9 : decode cX1_question 9 = .ok (.istore 4, 2) := by decide +kernel
theorem dX1_question_11 : decode cX1_question 11 = .ok (.iload 4, 2) := by decide +kernel
theorem dX1_question_13 : decode cX1_question 13 = .ok (.iload_n 1, 1) := by decide +kernel
theorem dX1_question_14 : decode cX1_question 14 = .ok (.if_icmp .ge 72, 3) := by decide +kernel
theorem dX1_question_17 : decode cX1_question 17 = .ok (.iload 4, 2) := by decide +kernel
theorem dX1_question_19 : decode cX1_question 19 = .ok (.iconst 1, 1) := by decide +kernel
theorem dX1_question_20 : decode cX1_question 20 = .ok (.iadd, 1) := by decide +kernel
theorem dX1_question_21 : decode cX1_question 21 = .ok (.istore 5, 2) := by decide +kernel
theorem dX1_question_23 : decode cX1_question 23 = .ok (.iload 5, 2) := by decide +kernel
theorem dX1_question_25 : decode cX1_question 25 = .ok (.iload_n 1, 1) := by decide +kernel
theorem dX1_question_26 : decode cX1_question 26 = .ok (.if_icmp .ge 54, 3) := by decide +kernel
theorem dX1_question_29 : decode cX1_question 29 = .ok (.aload_n 0, 1) := by decide +kernel
theorem dX1_question_30 : decode cX1_question 30 = .ok (.iload 4, 2) := by decide +kernel
theorem dX1_question_32 : decode cX1_question 32 = .ok (.iload 5, 2) := by decide +kernel
theorem dX1_question_34 : decode cX1_question 34 = .ok (.invokevirtual 40, 3) := by decide +kernel
theorem dX1_question_37 : decode cX1_question 37 = .ok (.istore 6, 2) := by decide +kernel
theorem dX1_question_39 : decode cX1_question 39 = .ok (.iload 6, 2) := by decide +kernel
theorem dX1_question_41 : decode cX1_question 41 = .ok (.aload_n 0, 1) := by decide +kernel
theorem dX1_question_42 : decode cX1_question 42 = .ok (.getfield 15, 3) := by decide +kernel
theorem dX1_question_45 : decode cX1_question 45 = .ok (.iload 6, 2) := by decide +kernel
theorem dX1_question_47 : decode cX1_question 47 = .ok (.isub, 1) := by decide +kernel
theorem dX1_question_48 : decode cX1_question 48 = .ok (.invokestatic 44, 3) := by decide +kernel
theorem dX1_question_51 : decode cX1_question 51 = .ok (.istore 7, 2) := by decide +kernel
theorem dX1_question_53 : decode cX1_question 53 = .ok (.iload 7, 2) := by decide +kernel
theorem dX1_question_55 : decode cX1_question 55 = .ok (.iload_n 3, 1) := by decide +kernel
theorem dX1_question_56 : decode cX1_question 56 = .ok (.if_icmp .lt 6, 3) := by decide +kernel
theorem dX1_question_59 : decode cX1_question 59 = .ok (.goto 15, 3) := by decide +kernel
theorem dX1_question_62 : decode cX1_question 62 = .ok (.iload 7, 2) := by decide +kernel
theorem dX1_question_64 : decode cX1_question 64 = .ok (.istore_n 3, 1) := by decide +kernel
theorem dX1_question_65 : decode cX1_question 65 = .ok (.bipush 10, 2) := by decide +kernel
theorem dX1_question_67 : decode cX1_question 67 = .ok (.iload 4, 2) := by decide +kernel
theorem dX1_question_69 : decode cX1_question 69 = .ok (.imul, 1) := by decide +kernel
theorem dX1_question_70 : decode cX1_question 70 = .ok (.iload 5, 2) := by decide +kernel
theorem dX1_question_72 : decode cX1_question 72 = .ok (.iadd, 1) := by decide +kernel
theorem dX1_question_73 : decode cX1_question 73 = .ok (.istore_n 2, 1) := by decide +kernel
theorem dX1_question_74 : decode cX1_question 74 = .ok (.iinc 5 1, 3) := by decide +kernel
theorem dX1_question_77 : decode cX1_question 77 = .ok (.goto (-54), 3) := by decide +kernel
theorem dX1_question_80 : decode cX1_question 80 = .ok (.iinc 4 1, 3) := by decide +kernel
theorem dX1_question_83 : decode cX1_question 83 = .ok (.goto (-72), 3) := by decide +kernel
theorem dX1_question_86 : decode cX1_question 86 = .ok (.iload_n 2, 1) := by decide +kernel
theorem dX1_question_87 : decode cX1_question 87 = .ok (.ireturn, 1) := by decide +kernel
theorem dX1_countFor_0 : decode cX1_countFor 0 = .ok (.iconst 0, 1) := by decide +kernel
theorem dX1_countFor_1 : decode cX1_countFor 1 = .ok (.istore_n 3, 1) := by decide +kernel
theorem dX1_countFor_2 : decode cX1_countFor 2 = .ok (.iconst 0, 1) := by decide +kernel
theorem dX1_countFor_3 : decode cX1_countFor 3 = .ok (.istore 4, 2) := by decide +kernel
theorem dX1_countFor_5 : decode cX1_countFor 5 = .ok (.iload 4, 2) := by decide +kernel
theorem dX1_countFor_7 : decode cX1_countFor 7 = .ok (.aload_n 0, 1) := by decide +kernel
theorem dX1_countFor_8 : decode cX1_countFor 8 = .ok (.getfield 15, 3) := by decide +kernel
theorem dX1_countFor_11 : decode cX1_countFor 11 = .ok (.if_icmp .ge 45, 3) := by decide +kernel
theorem dX1_countFor_14 : decode cX1_countFor 14 = .ok (.aload_n 0, 1) := by decide +kernel
theorem dX1_countFor_15 : decode cX1_countFor 15 = .ok (.getfield 25, 3) := by decide +kernel
theorem dX1_countFor_18 : decode cX1_countFor 18 = .ok (.iload 4, 2) := by decide +kernel
theorem dX1_countFor_20 : decode cX1_countFor 20 = .ok (.invokestatic 36, 3) := by decide +kernel
theorem dX1_countFor_23 : decode cX1_countFor 23 = .ok (.bipush 10, 2) := by decide +kernel
theorem dX1_countFor_25 : decode cX1_countFor 25 = .ok (.idiv, 1) := by decide +kernel
theorem dX1_countFor_26 : decode cX1_countFor 26 = .ok (.aload_n 0, 1) := by decide +kernel
theorem dX1_countFor_27 : decode cX1_countFor 27 = .ok (.getfield 25, 3) := by decide +kernel
theorem dX1_countFor_30 : decode cX1_countFor 30 = .ok (.iload 4, 2) := by decide +kernel
theorem dX1_countFor_32 : decode cX1_countFor 32 = .ok (.invokestatic 36, 3) := by decide +kernel
theorem dX1_countFor_35 : decode cX1_countFor 35 = .ok (.bipush 10, 2) := by decide +kernel
theorem dX1_countFor_37 : decode cX1_countFor 37 = .ok (.irem, 1) := by decide +kernel
theorem dX1_countFor_38 : decode cX1_countFor 38 = .ok (.iload_n 1, 1) := by decide +kernel
theorem dX1_countFor_39 : decode cX1_countFor 39 = .ok (.iload_n 2, 1) := by decide +kernel
theorem dX1_countFor_40 : decode cX1_countFor 40 = .ok (.invokestatic 49, 3) := by decide +kernel
theorem dX1_countFor_43 : decode cX1_countFor 43 = .ok (.iload_n 1, 1) := by decide +kernel
theorem dX1_countFor_44 : decode cX1_countFor 44 = .ok (.if_icmp .ne 6, 3) := by decide +kernel
theorem dX1_countFor_47 : decode cX1_countFor 47 = .ok (.iinc 3 1, 3) := by decide +kernel
theorem dX1_countFor_50 : decode cX1_countFor 50 = .ok (.iinc 4 1, 3) := by decide +kernel
theorem dX1_countFor_53 : decode cX1_countFor 53 = .ok (.goto (-48), 3) := by decide +kernel
theorem dX1_countFor_56 : decode cX1_countFor 56 = .ok (.iload_n 3, 1) := by decide +kernel
theorem dX1_countFor_57 : decode cX1_countFor 57 = .ok (.ireturn, 1) := by decide +kernel
theorem dX1_isSo_0 : decode cX1_isSo 0 = .ok (.iconst 0, 1) := by decide +kernel
theorem dX1_isSo_1 : decode cX1_isSo 1 = .ok (.istore_n 3, 1) := by decide +kernel
theorem dX1_isSo_2 : decode cX1_isSo 2 = .ok (.iload_n 3, 1) := by decide +kernel
theorem dX1_isSo_3 : decode cX1_isSo 3 = .ok (.aload_n 0, 1) := by decide +kernel
theorem dX1_isSo_4 : decode cX1_isSo 4 = .ok (.getfield 9, 3) := by decide +kernel
theorem dX1_isSo_7 : decode cX1_isSo 7 = .ok (.if_icmp .ge 43, 3) := by decide +kernel
theorem dX1_isSo_10 : decode cX1_isSo 10 = .ok (.iload_n 1, 1) := by decide +kernel
theorem dX1_isSo_11 : decode cX1_isSo 11 = .ok (.iload_n 2, 1) := by decide +kernel
theorem dX1_isSo_12 : decode cX1_isSo 12 = .ok (.aload_n 0, 1) := by decide +kernel
theorem dX1_isSo_13 : decode cX1_isSo 13 = .ok (.getfield 18, 3) := by decide +kernel
theorem dX1_isSo_16 : decode cX1_isSo 16 = .ok (.iload_n 3, 1) := by decide +kernel
theorem dX1_isSo_17 : decode cX1_isSo 17 = .ok (.invokestatic 36, 3) := by decide +kernel
theorem dX1_isSo_20 : decode cX1_isSo 20 = .ok (.aload_n 0, 1) := by decide +kernel
theorem dX1_isSo_21 : decode cX1_isSo 21 = .ok (.getfield 22, 3) := by decide +kernel
theorem dX1_isSo_24 : decode cX1_isSo 24 = .ok (.iload_n 3, 1) := by decide +kernel
theorem dX1_isSo_25 : decode cX1_isSo 25 = .ok (.invokestatic 36, 3) := by decide +kernel
theorem dX1_isSo_28 : decode cX1_isSo 28 = .ok (.invokestatic 49, 3) := by decide +kernel
theorem dX1_isSo_31 : decode cX1_isSo 31 = .ok (.aload_n 0, 1) := by decide +kernel
theorem dX1_isSo_32 : decode cX1_isSo 32 = .ok (.getfield 18, 3) := by decide +kernel
theorem dX1_isSo_35 : decode cX1_isSo 35 = .ok (.iload_n 3, 1) := by decide +kernel
theorem dX1_isSo_36 : decode cX1_isSo 36 = .ok (.invokestatic 36, 3) := by decide +kernel
theorem dX1_isSo_39 : decode cX1_isSo 39 = .ok (.if_icmp .eq 5, 3) := by decide +kernel
theorem dX1_isSo_42 : decode cX1_isSo 42 = .ok (.iconst 0, 1) := by decide +kernel
theorem dX1_isSo_43 : decode cX1_isSo 43 = .ok (.ireturn, 1) := by decide +kernel
theorem dX1_isSo_44 : decode cX1_isSo 44 = .ok (.iinc 3 1, 3) := by decide +kernel
theorem dX1_isSo_47 : decode cX1_isSo 47 = .ok (.goto (-45), 3) := by decide +kernel
theorem dX1_isSo_50 : decode cX1_isSo 50 = .ok (.iconst 1, 1) := by decide +kernel
theorem dX1_isSo_51 : decode cX1_isSo 51 = .ok (.ireturn, 1) := by decide +kernel
theorem dX1_choice_0 : decode cX1_choice 0 = .ok (.iload_n 0, 1) := by decide +kernel
theorem dX1_choice_1 : decode cX1_choice 1 = .ok (.iload_n 2, 1) := by decide +kernel
theorem dX1_choice_2 : decode cX1_choice 2 = .ok (.if_icmp .eq 8, 3) := by decide +kernel
theorem dX1_choice_5 : decode cX1_choice 5 = .ok (.iload_n 0, 1) := by decide +kernel
theorem dX1_choice_6 : decode cX1_choice 6 = .ok (.iload_n 3, 1) := by decide +kernel
theorem dX1_choice_7 : decode cX1_choice 7 = .ok (.if_icmp .ne 5, 3) := by decide +kernel
theorem dX1_choice_10 : decode cX1_choice 10 = .ok (.iload_n 0, 1) := by decide +kernel
theorem dX1_choice_11 : decode cX1_choice 11 = .ok (.ireturn, 1) := by decide +kernel
theorem dX1_choice_12 : decode cX1_choice 12 = .ok (.iload_n 1, 1) := by decide +kernel
theorem dX1_choice_13 : decode cX1_choice 13 = .ok (.iload_n 2, 1) := by decide +kernel
theorem dX1_choice_14 : decode cX1_choice 14 = .ok (.if_icmp .eq 8, 3) := by decide +kernel
theorem dX1_choice_17 : decode cX1_choice 17 = .ok (.iload_n 1, 1) := by decide +kernel
theorem dX1_choice_18 : decode cX1_choice 18 = .ok (.iload_n 3, 1) := by decide +kernel
theorem dX1_choice_19 : decode cX1_choice 19 = .ok (.if_icmp .ne 5, 3) := by decide +kernel
theorem dX1_choice_22 : decode cX1_choice 22 = .ok (.iload_n 1, 1) := by decide +kernel
theorem dX1_choice_23 : decode cX1_choice 23 = .ok (.ireturn, 1) := by decide +kernel
theorem dX1_choice_24 : decode cX1_choice 24 = .ok (.iload_n 2, 1) := by decide +kernel
theorem dX1_choice_25 : decode cX1_choice 25 = .ok (.iload_n 3, 1) := by decide +kernel
theorem dX1_choice_26 : decode cX1_choice 26 = .ok (.invokestatic 53, 3) := by decide +kernel
theorem dX1_choice_29 : decode cX1_choice 29 = .ok (.ireturn, 1) := by decide +kernel
theorem dX2_init_0 : decode cX2_init 0 = .ok (.aload_n 0, 1) := by decide +kernel
theorem dX2_init_1 : decode cX2_init 1 = .ok (.invokespecial 1, 3) := by decide +kernel
theorem dX2_init_4 : decode cX2_init 4 = .ok (.aload_n 0, 1) := by decide +kernel
theorem dX2_init_5 : decode cX2_init 5 = .ok (.iconst 0, 1) := by decide +kernel
theorem dX2_init_6 : decode cX2_init 6 = .ok (.putfield 7, 3) := by decide +kernel
theorem dX2_init_9 : decode cX2_init 9 = .ok (.aload_n 0, 1) := by decide +kernel
theorem dX2_init_10 : decode cX2_init 10 = .ok (.new 13, 3) := by decide +kernel
theorem dX2_init_13 : decode cX2_init 13 = .ok (.dup, 1) := by decide +kernel
theorem dX2_init_14 : decode cX2_init 14 = .ok (.invokespecial 15, 3) := by decide +kernel
theorem dX2_init_17 : decode cX2_init 17 = .ok (.putfield 16, 3) := by decide +kernel
theorem dX2_init_20 : decode cX2_init 20 = .ok (.aload_n 0, 1) := by decide +kernel
theorem dX2_init_21 : decode cX2_init 21 = .ok (.new 20, 3) := by decide +kernel
theorem dX2_init_24 : decode cX2_init 24 = .ok (.dup, 1) := by decide +kernel
theorem dX2_init_25 : decode cX2_init 25 = .ok (.invokespecial 22, 3) := by decide +kernel
theorem dX2_init_28 : decode cX2_init 28 = .ok (.putfield 23, 3) := by decide +kernel
theorem dX2_init_31 : decode cX2_init 31 = .ok (.return_, 1) := by decide +kernel
theorem dX3_init_0 : decode cX3_init 0 = .ok (.aload_n 0, 1) := by decide +kernel
theorem dX3_init_1 : decode cX3_init 1 = .ok (.invokespecial 3, 3) := by decide +kernel
theorem dX3_init_4 : decode cX3_init 4 = .ok (.aload_n 0, 1) := by decide +kernel
theorem dX3_init_5 : decode cX3_init 5 = .ok (.iconst 0, 1) := by decide +kernel
theorem dX3_init_6 : decode cX3_init 6 = .ok (.putfield 9, 3) := by decide +kernel
theorem dX3_init_9 : decode cX3_init 9 = .ok (.aload_n 0, 1) := by decide +kernel
theorem dX3_init_10 : decode cX3_init 10 = .ok (.iconst 3, 1) := by decide +kernel
theorem dX3_init_11 : decode cX3_init 11 = .ok (.putfield 15, 3) := by decide +kernel
theorem dX3_init_14 : decode cX3_init 14 = .ok (.aload_n 0, 1) := by decide +kernel
theorem dX3_init_15 : decode cX3_init 15 = .ok (.iconst 0, 1) := by decide +kernel
theorem dX3_init_16 : decode cX3_init 16 = .ok (.putfield 18, 3) := by decide +kernel
theorem dX3_init_19 : decode cX3_init 19 = .ok (.aload_n 0, 1) := by decide +kernel
theorem dX3_init_20 : decode cX3_init 20 = .ok (.iconst 0, 1) := by decide +kernel
theorem dX3_init_21 : decode cX3_init 21 = .ok (.putfield 21, 3) := by decide +kernel
theorem dX3_init_24 : decode cX3_init 24 = .ok (.aload_n 0, 1) := by decide +kernel
theorem dX3_init_25 : decode cX3_init 25 = .ok (.iconst 0, 1) := by decide +kernel
theorem dX3_init_26 : decode cX3_init 26 = .ok (.putfield 24, 3) := by decide +kernel
theorem dX3_init_29 : decode cX3_init 29 = .ok (.aload_n 0, 1) := by decide +kernel
theorem dX3_init_30 : decode cX3_init 30 = .ok (.bipush 6, 2) := by decide +kernel
theorem dX3_init_32 : decode cX3_init 32 = .ok (.newarray .int, 2) := by decide +kernel
theorem dX3_init_34 : decode cX3_init 34 = .ok (.putfield 27, 3) := by decide +kernel
theorem dX3_init_37 : decode cX3_init 37 = .ok (.aload_n 0, 1) := by decide +kernel
theorem dX3_init_38 : decode cX3_init 38 = .ok (.bipush 8, 2) := by decide +kernel
theorem dX3_init_40 : decode cX3_init 40 = .ok (.newarray .int, 2) := by decide +kernel
theorem dX3_init_42 : decode cX3_init 42 = .ok (.putfield 31, 3) := by decide +kernel
theorem dX3_init_45 : decode cX3_init 45 = .ok (.aload_n 0, 1) := by decide +kernel
theorem dX3_init_46 : decode cX3_init 46 = .ok (.bipush 8, 2) := by decide +kernel
theorem dX3_init_48 : decode cX3_init 48 = .ok (.newarray .int, 2) := by decide +kernel
theorem dX3_init_50 : decode cX3_init 50 = .ok (.putfield 34, 3) := by decide +kernel
theorem dX3_init_53 : decode cX3_init 53 = .ok (.return_, 1) := by decide +kernel
theorem dX3_begin_0 : decode cX3_begin 0 = .ok (.aload_n 0, 1) := by decide +kernel
theorem dX3_begin_1 : decode cX3_begin 1 = .ok (.iconst 0, 1) := by decide +kernel
theorem dX3_begin_2 : decode cX3_begin 2 = .ok (.putfield 9, 3) := by decide +kernel
theorem dX3_begin_5 : decode cX3_begin 5 = .ok (.aload_n 0, 1) := by decide +kernel
theorem dX3_begin_6 : decode cX3_begin 6 = .ok (.aload_n 1, 1) := by decide +kernel
theorem dX3_begin_7 : decode cX3_begin 7 = .ok (.getfield 37, 3) := by decide +kernel
theorem dX3_begin_10 : decode cX3_begin 10 = .ok (.putfield 15, 3) := by decide +kernel
theorem dX3_begin_13 : decode cX3_begin 13 = .ok (.aload_n 0, 1) := by decide +kernel
theorem dX3_begin_14 : decode cX3_begin 14 = .ok (.iconst 0, 1) := by decide +kernel
theorem dX3_begin_15 : decode cX3_begin 15 = .ok (.putfield 18, 3) := by decide +kernel
theorem dX3_begin_18 : decode cX3_begin 18 = .ok (.aload_n 0, 1) := by decide +kernel
theorem dX3_begin_19 : decode cX3_begin 19 = .ok (.iconst 0, 1) := by decide +kernel
theorem dX3_begin_20 : decode cX3_begin 20 = .ok (.putfield 21, 3) := by decide +kernel
theorem dX3_begin_23 : decode cX3_begin 23 = .ok (.aload_n 0, 1) := by decide +kernel
theorem dX3_begin_24 : decode cX3_begin 24 = .ok (.iconst 0, 1) := by decide +kernel
theorem dX3_begin_25 : decode cX3_begin 25 = .ok (.putfield 24, 3) := by decide +kernel
theorem dX3_begin_28 : decode cX3_begin 28 = .ok (.iconst 0, 1) := by decide +kernel
theorem dX3_begin_29 : decode cX3_begin 29 = .ok (.istore_n 2, 1) := by decide +kernel
theorem dX3_begin_30 : decode cX3_begin 30 = .ok (.iload_n 2, 1) := by decide +kernel
theorem dX3_begin_31 : decode cX3_begin 31 = .ok (.aload_n 0, 1) := by decide +kernel
theorem dX3_begin_32 : decode cX3_begin 32 = .ok (.getfield 27, 3) := by decide +kernel
theorem dX3_begin_35 : decode cX3_begin 35 = .ok (.arraylength, 1) := by decide +kernel
theorem dX3_begin_36 : decode cX3_begin 36 = .ok (.if_icmp .ge 16, 3) := by decide +kernel
theorem dX3_begin_39 : decode cX3_begin 39 = .ok (.aload_n 0, 1) := by decide +kernel
theorem dX3_begin_40 : decode cX3_begin 40 = .ok (.getfield 27, 3) := by decide +kernel
theorem dX3_begin_43 : decode cX3_begin 43 = .ok (.iload_n 2, 1) := by decide +kernel
theorem dX3_begin_44 : decode cX3_begin 44 = .ok (.iconst 0, 1) := by decide +kernel
theorem dX3_begin_45 : decode cX3_begin 45 = .ok (.iastore, 1) := by decide +kernel
theorem dX3_begin_46 : decode cX3_begin 46 = .ok (.iinc 2 1, 3) := by decide +kernel
theorem dX3_begin_49 : decode cX3_begin 49 = .ok (.goto (-19), 3) := by decide +kernel
theorem dX3_begin_52 : decode cX3_begin 52 = .ok (.aload_n 1, 1) := by decide +kernel
theorem dX3_begin_53 : decode cX3_begin 53 = .ok (.getfield 40, 3) := by decide +kernel
theorem dX3_begin_56 : decode cX3_begin 56 = .ok (.aload_n 0, 1) := by decide +kernel
theorem dX3_begin_57 : decode cX3_begin 57 = .ok (.getfield 31, 3) := by decide +kernel
theorem dX3_begin_60 : decode cX3_begin 60 = .ok (.invokestatic 41, 3) := by decide +kernel
theorem dX3_begin_63 : decode cX3_begin 63 = .ok (.aload_n 1, 1) := by decide +kernel
theorem dX3_begin_64 : decode cX3_begin 64 = .ok (.getfield 45, 3) := by decide +kernel
theorem dX3_begin_67 : decode cX3_begin 67 = .ok (.aload_n 0, 1) := by decide +kernel
theorem dX3_begin_68 : decode cX3_begin 68 = .ok (.getfield 34, 3) := by decide +kernel
theorem dX3_begin_71 : decode cX3_begin 71 = .ok (.invokestatic 41, 3) := by decide +kernel
theorem dX3_begin_74 : decode cX3_begin 74 = .ok (.return_, 1) := by decide +kernel
theorem dX3_copyFrom_0 : decode cX3_copyFrom 0 = .ok (.aload_n 0, 1) := by decide +kernel
theorem dX3_copyFrom_1 : decode cX3_copyFrom 1 = .ok (.aload_n 1, 1) := by decide +kernel
theorem dX3_copyFrom_2 : decode cX3_copyFrom 2 = .ok (.getfield 9, 3) := by decide +kernel
theorem dX3_copyFrom_5 : decode cX3_copyFrom 5 = .ok (.putfield 9, 3) := by decide +kernel
theorem dX3_copyFrom_8 : decode cX3_copyFrom 8 = .ok (.aload_n 0, 1) := by decide +kernel
theorem dX3_copyFrom_9 : decode cX3_copyFrom 9 = .ok (.aload_n 1, 1) := by decide +kernel
theorem dX3_copyFrom_10 : decode cX3_copyFrom 10 = .ok (.getfield 15, 3) := by decide +kernel
theorem dX3_copyFrom_13 : decode cX3_copyFrom 13 = .ok (.putfield 15, 3) := by decide +kernel
theorem dX3_copyFrom_16 : decode cX3_copyFrom 16 = .ok (.aload_n 0, 1) := by decide +kernel
theorem dX3_copyFrom_17 : decode cX3_copyFrom 17 = .ok (.aload_n 1, 1) := by decide +kernel
theorem dX3_copyFrom_18 : decode cX3_copyFrom 18 = .ok (.getfield 18, 3) := by decide +kernel
theorem dX3_copyFrom_21 : decode cX3_copyFrom 21 = .ok (.putfield 18, 3) := by decide +kernel
theorem dX3_copyFrom_24 : decode cX3_copyFrom 24 = .ok (.aload_n 0, 1) := by decide +kernel
theorem dX3_copyFrom_25 : decode cX3_copyFrom 25 = .ok (.aload_n 1, 1) := by decide +kernel
theorem dX3_copyFrom_26 : decode cX3_copyFrom 26 = .ok (.getfield 21, 3) := by decide +kernel
theorem dX3_copyFrom_29 : decode cX3_copyFrom 29 = .ok (.putfield 21, 3) := by decide +kernel
theorem dX3_copyFrom_32 : decode cX3_copyFrom 32 = .ok (.aload_n 0, 1) := by decide +kernel
theorem dX3_copyFrom_33 : decode cX3_copyFrom 33 = .ok (.aload_n 1, 1) := by decide +kernel
theorem dX3_copyFrom_34 : decode cX3_copyFrom 34 = .ok (.getfield 24, 3) := by decide +kernel
theorem dX3_copyFrom_37 : decode cX3_copyFrom 37 = .ok (.putfield 24, 3) := by decide +kernel
theorem dX3_copyFrom_40 : decode cX3_copyFrom 40 = .ok (.aload_n 1, 1) := by decide +kernel
theorem dX3_copyFrom_41 : decode cX3_copyFrom 41 = .ok (.getfield 27, 3) := by decide +kernel
theorem dX3_copyFrom_44 : decode cX3_copyFrom 44 = .ok (.aload_n 0, 1) := by decide +kernel
theorem dX3_copyFrom_45 : decode cX3_copyFrom 45 = .ok (.getfield 27, 3) := by decide +kernel
theorem dX3_copyFrom_48 : decode cX3_copyFrom 48 = .ok (.invokestatic 41, 3) := by decide +kernel
theorem dX3_copyFrom_51 : decode cX3_copyFrom 51 = .ok (.aload_n 1, 1) := by decide +kernel
theorem dX3_copyFrom_52 : decode cX3_copyFrom 52 = .ok (.getfield 31, 3) := by decide +kernel
theorem dX3_copyFrom_55 : decode cX3_copyFrom 55 = .ok (.aload_n 0, 1) := by decide +kernel
theorem dX3_copyFrom_56 : decode cX3_copyFrom 56 = .ok (.getfield 31, 3) := by decide +kernel
theorem dX3_copyFrom_59 : decode cX3_copyFrom 59 = .ok (.invokestatic 41, 3) := by decide +kernel
theorem dX3_copyFrom_62 : decode cX3_copyFrom 62 = .ok (.aload_n 1, 1) := by decide +kernel
theorem dX3_copyFrom_63 : decode cX3_copyFrom 63 = .ok (.getfield 34, 3) := by decide +kernel
theorem dX3_copyFrom_66 : decode cX3_copyFrom 66 = .ok (.aload_n 0, 1) := by decide +kernel
theorem dX3_copyFrom_67 : decode cX3_copyFrom 67 = .ok (.getfield 34, 3) := by decide +kernel
theorem dX3_copyFrom_70 : decode cX3_copyFrom 70 = .ok (.invokestatic 41, 3) := by decide +kernel
theorem dX3_copyFrom_73 : decode cX3_copyFrom 73 = .ok (.return_, 1) := by decide +kernel
theorem dX4_init_0 : decode cX4_init 0 = .ok (.aload_n 0, 1) := by decide +kernel
theorem dX4_init_1 : decode cX4_init 1 = .ok (.invokespecial 3, 3) := by decide +kernel
theorem dX4_init_4 : decode cX4_init 4 = .ok (.aload_n 0, 1) := by decide +kernel
theorem dX4_init_5 : decode cX4_init 5 = .ok (.iconst 0, 1) := by decide +kernel
theorem dX4_init_6 : decode cX4_init 6 = .ok (.putfield 9, 3) := by decide +kernel
theorem dX4_init_9 : decode cX4_init 9 = .ok (.aload_n 0, 1) := by decide +kernel
theorem dX4_init_10 : decode cX4_init 10 = .ok (.bipush 10, 2) := by decide +kernel
theorem dX4_init_12 : decode cX4_init 12 = .ok (.anewarray 15, 3) := by decide +kernel
theorem dX4_init_15 : decode cX4_init 15 = .ok (.putfield 17, 3) := by decide +kernel
theorem dX4_init_18 : decode cX4_init 18 = .ok (.iconst 0, 1) := by decide +kernel
theorem dX4_init_19 : decode cX4_init 19 = .ok (.istore_n 1, 1) := by decide +kernel
theorem dX4_init_20 : decode cX4_init 20 = .ok (.iload_n 1, 1) := by decide +kernel
theorem dX4_init_21 : decode cX4_init 21 = .ok (.aload_n 0, 1) := by decide +kernel
theorem dX4_init_22 : decode cX4_init 22 = .ok (.getfield 17, 3) := by decide +kernel
theorem dX4_init_25 : decode cX4_init 25 = .ok (.arraylength, 1) := by decide +kernel
theorem dX4_init_26 : decode cX4_init 26 = .ok (.if_icmp .ge 22, 3) := by decide +kernel
theorem dX4_init_29 : decode cX4_init 29 = .ok (.aload_n 0, 1) := by decide +kernel
theorem dX4_init_30 : decode cX4_init 30 = .ok (.getfield 17, 3) := by decide +kernel
theorem dX4_init_33 : decode cX4_init 33 = .ok (.iload_n 1, 1) := by decide +kernel
theorem dX4_init_34 : decode cX4_init 34 = .ok (.new 15, 3) := by decide +kernel
theorem dX4_init_37 : decode cX4_init 37 = .ok (.dup, 1) := by decide +kernel
theorem dX4_init_38 : decode cX4_init 38 = .ok (.invokespecial 21, 3) := by decide +kernel
theorem dX4_init_41 : decode cX4_init 41 = .ok (.aastore, 1) := by decide +kernel
theorem dX4_init_42 : decode cX4_init 42 = .ok (.iinc 1 1, 3) := by decide +kernel
theorem dX4_init_45 : decode cX4_init 45 = .ok (.goto (-25), 3) := by decide +kernel
theorem dX4_init_48 : decode cX4_init 48 = .ok (.return_, 1) := by decide +kernel
theorem dX4_push_0 : decode cX4_push 0 = .ok (.aload_n 0, 1) := by decide +kernel
theorem dX4_push_1 : decode cX4_push 1 = .ok (.getfield 9, 3) := by decide +kernel
theorem dX4_push_4 : decode cX4_push 4 = .ok (.aload_n 0, 1) := by decide +kernel
theorem dX4_push_5 : decode cX4_push 5 = .ok (.getfield 17, 3) := by decide +kernel
theorem dX4_push_8 : decode cX4_push 8 = .ok (.arraylength, 1) := by decide +kernel
theorem dX4_push_9 : decode cX4_push 9 = .ok (.if_icmp .lt 7, 3) := by decide +kernel
theorem dX4_push_12 : decode cX4_push 12 = .ok (.aload_n 0, 1) := by decide +kernel
theorem dX4_push_13 : decode cX4_push 13 = .ok (.invokevirtual 22, 3) := by decide +kernel
theorem dX4_push_16 : decode cX4_push 16 = .ok (.aload_n 0, 1) := by decide +kernel
theorem dX4_push_17 : decode cX4_push 17 = .ok (.aload_n 0, 1) := by decide +kernel
theorem dX4_push_18 : decode cX4_push 18 = .ok (.getfield 9, 3) := by decide +kernel
theorem dX4_push_21 : decode cX4_push 21 = .ok (.invokevirtual 25, 3) := by decide +kernel
theorem dX4_push_24 : decode cX4_push 24 = .ok (.astore_n 2, 1) := by decide +kernel
theorem dX4_push_25 : decode cX4_push 25 = .ok (.aload_n 2, 1) := by decide +kernel
theorem dX4_push_26 : decode cX4_push 26 = .ok (.ifnonnull 4, 3) := by decide +kernel
theorem dX4_push_29 : decode cX4_push 29 = .ok (.return_, 1) := by decide +kernel
theorem dX4_push_30 : decode cX4_push 30 = .ok (.aload_n 2, 1) := by decide +kernel
theorem dX4_push_31 : decode cX4_push 31 = .ok (.aload_n 1, 1) := by decide +kernel
theorem dX4_push_32 : decode cX4_push 32 = .ok (.invokevirtual 29, 3) := by decide +kernel
theorem dX4_push_35 : decode cX4_push 35 = .ok (.aload_n 0, 1) := by decide +kernel
theorem dX4_push_36 : decode cX4_push 36 = .ok (.dup, 1) := by decide +kernel
theorem dX4_push_37 : decode cX4_push 37 = .ok (.getfield 9, 3) := by decide +kernel
theorem dX4_push_40 : decode cX4_push 40 = .ok (.iconst 1, 1) := by decide +kernel
theorem dX4_push_41 : decode cX4_push 41 = .ok (.iadd, 1) := by decide +kernel
theorem dX4_push_42 : decode cX4_push 42 = .ok (.putfield 9, 3) := by decide +kernel
theorem dX4_push_45 : decode cX4_push 45 = .ok (.return_, 1) := by decide +kernel
theorem dX4_popInto_0 : decode cX4_popInto 0 = .ok (.aload_n 0, 1) := by decide +kernel
theorem dX4_popInto_1 : decode cX4_popInto 1 = .ok (.aload_n 0, 1) := by decide +kernel
theorem dX4_popInto_2 : decode cX4_popInto 2 = .ok (.getfield 9, 3) := by decide +kernel
theorem dX4_popInto_5 : decode cX4_popInto 5 = .ok (.iconst 1, 1) := by decide +kernel
theorem dX4_popInto_6 : decode cX4_popInto 6 = .ok (.isub, 1) := by decide +kernel
theorem dX4_popInto_7 : decode cX4_popInto 7 = .ok (.invokevirtual 25, 3) := by decide +kernel
theorem dX4_popInto_10 : decode cX4_popInto 10 = .ok (.astore_n 2, 1) := by decide +kernel
theorem dX4_popInto_11 : decode cX4_popInto 11 = .ok (.aload_n 2, 1) := by decide +kernel
theorem dX4_popInto_12 : decode cX4_popInto 12 = .ok (.ifnonnull 4, 3) := by decide +kernel
theorem dX4_popInto_15 : decode cX4_popInto 15 = .ok (.return_, 1) := by decide +kernel
theorem dX4_popInto_16 : decode cX4_popInto 16 = .ok (.aload_n 1, 1) := by decide +kernel
theorem dX4_popInto_17 : decode cX4_popInto 17 = .ok (.aload_n 2, 1) := by decide +kernel
theorem dX4_popInto_18 : decode cX4_popInto 18 = .ok (.invokevirtual 29, 3) := by decide +kernel
theorem dX4_popInto_21 : decode cX4_popInto 21 = .ok (.aload_n 0, 1) := by decide +kernel
theorem dX4_popInto_22 : decode cX4_popInto 22 = .ok (.dup, 1) := by decide +kernel
theorem dX4_popInto_23 : decode cX4_popInto 23 = .ok (.getfield 9, 3) := by decide +kernel
theorem dX4_popInto_26 : decode cX4_popInto 26 = .ok (.iconst 1, 1) := by decide +kernel
theorem dX4_popInto_27 : decode cX4_popInto 27 = .ok (.isub, 1) := by decide +kernel
theorem dX4_popInto_28 : decode cX4_popInto 28 = .ok (.putfield 9, 3) := by decide +kernel
theorem dX4_popInto_31 : decode cX4_popInto 31 = .ok (.return_, 1) := by decide +kernel
theorem dX4_copyFrom_0 : decode cX4_copyFrom 0 = .ok (.aload_n 0, 1) := by decide +kernel
theorem dX4_copyFrom_1 : decode cX4_copyFrom 1 = .ok (.aload_n 1, 1) := by decide +kernel
theorem dX4_copyFrom_2 : decode cX4_copyFrom 2 = .ok (.getfield 9, 3) := by decide +kernel
theorem dX4_copyFrom_5 : decode cX4_copyFrom 5 = .ok (.putfield 9, 3) := by decide +kernel
theorem dX4_copyFrom_8 : decode cX4_copyFrom 8 = .ok (.iconst 0, 1) := by decide +kernel
theorem dX4_copyFrom_9 : decode cX4_copyFrom 9 = .ok (.istore_n 2, 1) := by decide +kernel
theorem dX4_copyFrom_10 : decode cX4_copyFrom 10 = .ok (.iload_n 2, 1) := by decide +kernel
theorem dX4_copyFrom_11 : decode cX4_copyFrom 11 = .ok (.aload_n 0, 1) := by decide +kernel
theorem dX4_copyFrom_12 : decode cX4_copyFrom 12 = .ok (.getfield 9, 3) := by decide +kernel
theorem dX4_copyFrom_15 : decode cX4_copyFrom 15 = .ok (.if_icmp .ge 37, 3) := by decide +kernel
theorem dX4_copyFrom_18 : decode cX4_copyFrom 18 = .ok (.aload_n 1, 1) := by decide +kernel
theorem dX4_copyFrom_19 : decode cX4_copyFrom 19 = .ok (.iload_n 2, 1) := by decide +kernel
theorem dX4_copyFrom_20 : decode cX4_copyFrom 20 = .ok (.invokevirtual 25, 3) := by decide +kernel
theorem dX4_copyFrom_23 : decode cX4_copyFrom 23 = .ok (.astore_n 3, 1) := by decide +kernel
theorem dX4_copyFrom_24 : decode cX4_copyFrom 24 = .ok (.aload_n 0, 1) := by decide +kernel
theorem dX4_copyFrom_25 : decode cX4_copyFrom 25 = .ok (.iload_n 2, 1) := by decide +kernel
theorem dX4_copyFrom_26 : decode cX4_copyFrom 26 = .ok (.invokevirtual 25, 3) := by decide +kernel
theorem dX4_copyFrom_29 : decode cX4_copyFrom 29 = .ok (.astore 4, 2) := by decide +kernel
theorem dX4_copyFrom_31 : decode cX4_copyFrom 31 = .ok (.aload_n 3, 1) := by decide +kernel
theorem dX4_copyFrom_32 : decode cX4_copyFrom 32 = .ok (.ifnull 14, 3) := by decide +kernel
theorem dX4_copyFrom_35 : decode cX4_copyFrom 35 = .ok (.aload 4, 2) := by decide +kernel
theorem dX4_copyFrom_37 : decode cX4_copyFrom 37 = .ok (.ifnull 9, 3) := by decide +kernel
theorem dX4_copyFrom_40 : decode cX4_copyFrom 40 = .ok (.aload 4, 2) := by decide +kernel
theorem dX4_copyFrom_42 : decode cX4_copyFrom 42 = .ok (.aload_n 3, 1) := by decide +kernel
theorem dX4_copyFrom_43 : decode cX4_copyFrom 43 = .ok (.invokevirtual 29, 3) := by decide +kernel
theorem dX4_copyFrom_46 : decode cX4_copyFrom 46 = .ok (.iinc 2 1, 3) := by decide +kernel
theorem dX4_copyFrom_49 : decode cX4_copyFrom 49 = .ok (.goto (-39), 3) := by decide +kernel
theorem dX4_copyFrom_52 : decode cX4_copyFrom 52 = .ok (.return_, 1) := by decide +kernel
theorem dX4_loseOldest_0 : decode cX4_loseOldest 0 = .ok (.iconst 1, 1) := by decide +kernel
theorem dX4_loseOldest_1 : decode cX4_loseOldest 1 = .ok (.istore_n 1, 1) := by decide +kernel
theorem dX4_loseOldest_2 : decode cX4_loseOldest 2 = .ok (.iload_n 1, 1) := by decide +kernel
theorem dX4_loseOldest_3 : decode cX4_loseOldest 3 = .ok (.aload_n 0, 1) := by decide +kernel
theorem dX4_loseOldest_4 : decode cX4_loseOldest 4 = .ok (.getfield 17, 3) := by decide +kernel
theorem dX4_loseOldest_7 : decode cX4_loseOldest 7 = .ok (.arraylength, 1) := by decide +kernel
theorem dX4_loseOldest_8 : decode cX4_loseOldest 8 = .ok (.if_icmp .ge 39, 3) := by decide +kernel
theorem dX4_loseOldest_11 : decode cX4_loseOldest 11 = .ok (.aload_n 0, 1) := by decide +kernel
theorem dX4_loseOldest_12 : decode cX4_loseOldest 12 = .ok (.getfield 17, 3) := by decide +kernel
theorem dX4_loseOldest_15 : decode cX4_loseOldest 15 = .ok (.iload_n 1, 1) := by decide +kernel
theorem dX4_loseOldest_16 : decode cX4_loseOldest 16 = .ok (.iconst 1, 1) := by decide +kernel
theorem dX4_loseOldest_17 : decode cX4_loseOldest 17 = .ok (.isub, 1) := by decide +kernel
theorem dX4_loseOldest_18 : decode cX4_loseOldest 18 = .ok (.aaload, 1) := by decide +kernel
theorem dX4_loseOldest_19 : decode cX4_loseOldest 19 = .ok (.astore_n 2, 1) := by decide +kernel
theorem dX4_loseOldest_20 : decode cX4_loseOldest 20 = .ok (.aload_n 0, 1) := by decide +kernel
theorem dX4_loseOldest_21 : decode cX4_loseOldest 21 = .ok (.getfield 17, 3) := by decide +kernel
theorem dX4_loseOldest_24 : decode cX4_loseOldest 24 = .ok (.iload_n 1, 1) := by decide +kernel
theorem dX4_loseOldest_25 : decode cX4_loseOldest 25 = .ok (.iconst 1, 1) := by decide +kernel
theorem dX4_loseOldest_26 : decode cX4_loseOldest 26 = .ok (.isub, 1) := by decide +kernel
theorem dX4_loseOldest_27 : decode cX4_loseOldest 27 = .ok (.aload_n 0, 1) := by decide +kernel
theorem dX4_loseOldest_28 : decode cX4_loseOldest 28 = .ok (.getfield 17, 3) := by decide +kernel
theorem dX4_loseOldest_31 : decode cX4_loseOldest 31 = .ok (.iload_n 1, 1) := by decide +kernel
theorem dX4_loseOldest_32 : decode cX4_loseOldest 32 = .ok (.aaload, 1) := by decide +kernel
theorem dX4_loseOldest_33 : decode cX4_loseOldest 33 = .ok (.aastore, 1) := by decide +kernel
theorem dX4_loseOldest_34 : decode cX4_loseOldest 34 = .ok (.aload_n 0, 1) := by decide +kernel
theorem dX4_loseOldest_35 : decode cX4_loseOldest 35 = .ok (.getfield 17, 3) := by decide +kernel
theorem dX4_loseOldest_38 : decode cX4_loseOldest 38 = .ok (.iload_n 1, 1) := by decide +kernel
theorem dX4_loseOldest_39 : decode cX4_loseOldest 39 = .ok (.aload_n 2, 1) := by decide +kernel
theorem dX4_loseOldest_40 : decode cX4_loseOldest 40 = .ok (.aastore, 1) := by decide +kernel
theorem dX4_loseOldest_41 : decode cX4_loseOldest 41 = .ok (.iinc 1 1, 3) := by decide +kernel
theorem dX4_loseOldest_44 : decode cX4_loseOldest 44 = .ok (.goto (-42), 3) := by decide +kernel
theorem dX4_loseOldest_47 : decode cX4_loseOldest 47 = .ok (.aload_n 0, 1) := by decide +kernel
theorem dX4_loseOldest_48 : decode cX4_loseOldest 48 = .ok (.aload_n 0, 1) := by decide +kernel
theorem dX4_loseOldest_49 : decode cX4_loseOldest 49 = .ok (.getfield 17, 3) := by decide +kernel
theorem dX4_loseOldest_52 : decode cX4_loseOldest 52 = .ok (.arraylength, 1) := by decide +kernel
theorem dX4_loseOldest_53 : decode cX4_loseOldest 53 = .ok (.iconst 1, 1) := by decide +kernel
theorem dX4_loseOldest_54 : decode cX4_loseOldest 54 = .ok (.isub, 1) := by decide +kernel
theorem dX4_loseOldest_55 : decode cX4_loseOldest 55 = .ok (.putfield 9, 3) := by decide +kernel
theorem dX4_loseOldest_58 : decode cX4_loseOldest 58 = .ok (.return_, 1) := by decide +kernel
theorem dX4_rowAt_0 : decode cX4_rowAt 0 = .ok (.iload_n 1, 1) := by decide +kernel
theorem dX4_rowAt_1 : decode cX4_rowAt 1 = .ok (.aload_n 0, 1) := by decide +kernel
theorem dX4_rowAt_2 : decode cX4_rowAt 2 = .ok (.getfield 17, 3) := by decide +kernel
theorem dX4_rowAt_5 : decode cX4_rowAt 5 = .ok (.arraylength, 1) := by decide +kernel
theorem dX4_rowAt_6 : decode cX4_rowAt 6 = .ok (.invokestatic 33, 3) := by decide +kernel
theorem dX4_rowAt_9 : decode cX4_rowAt 9 = .ok (.ifCond .eq 12, 3) := by decide +kernel
theorem dX4_rowAt_12 : decode cX4_rowAt 12 = .ok (.aload_n 0, 1) := by decide +kernel
theorem dX4_rowAt_13 : decode cX4_rowAt 13 = .ok (.getfield 17, 3) := by decide +kernel
theorem dX4_rowAt_16 : decode cX4_rowAt 16 = .ok (.iload_n 1, 1) := by decide +kernel
theorem dX4_rowAt_17 : decode cX4_rowAt 17 = .ok (.aaload, 1) := by decide +kernel
theorem dX4_rowAt_18 : decode cX4_rowAt 18 = .ok (.goto 4, 3) := by decide +kernel
theorem dX4_rowAt_21 : decode cX4_rowAt 21 = .ok (.aconst_null, 1) := by decide +kernel
theorem dX4_rowAt_22 : decode cX4_rowAt 22 = .ok (.areturn, 1) := by decide +kernel
theorem dX5_init_0 : decode cX5_init 0 = .ok (.aload_n 0, 1) := by decide +kernel
theorem dX5_init_1 : decode cX5_init 1 = .ok (.invokespecial 3, 3) := by decide +kernel
theorem dX5_init_4 : decode cX5_init 4 = .ok (.aload_n 0, 1) := by decide +kernel
theorem dX5_init_5 : decode cX5_init 5 = .ok (.iconst 0, 1) := by decide +kernel
theorem dX5_init_6 : decode cX5_init 6 = .ok (.putfield 9, 3) := by decide +kernel
theorem dX5_init_9 : decode cX5_init 9 = .ok (.aload_n 0, 1) := by decide +kernel
theorem dX5_init_10 : decode cX5_init 10 = .ok (.bipush 120, 2) := by decide +kernel
theorem dX5_init_12 : decode cX5_init 12 = .ok (.newarray .char, 2) := by decide +kernel
theorem dX5_init_14 : decode cX5_init 14 = .ok (.putfield 15, 3) := by decide +kernel
theorem dX5_init_17 : decode cX5_init 17 = .ok (.aload_n 0, 1) := by decide +kernel
theorem dX5_init_18 : decode cX5_init 18 = .ok (.iconst 0, 1) := by decide +kernel
theorem dX5_init_19 : decode cX5_init 19 = .ok (.putfield 19, 3) := by decide +kernel
theorem dX5_init_22 : decode cX5_init 22 = .ok (.aload_n 0, 1) := by decide +kernel
theorem dX5_init_23 : decode cX5_init 23 = .ok (.iconst 0, 1) := by decide +kernel
theorem dX5_init_24 : decode cX5_init 24 = .ok (.putfield 22, 3) := by decide +kernel
theorem dX5_init_27 : decode cX5_init 27 = .ok (.aload_n 0, 1) := by decide +kernel
theorem dX5_init_28 : decode cX5_init 28 = .ok (.iconst 0, 1) := by decide +kernel
theorem dX5_init_29 : decode cX5_init 29 = .ok (.putfield 25, 3) := by decide +kernel
theorem dX5_init_32 : decode cX5_init 32 = .ok (.aload_n 0, 1) := by decide +kernel
theorem dX5_init_33 : decode cX5_init 33 = .ok (.iconst 0, 1) := by decide +kernel
theorem dX5_init_34 : decode cX5_init 34 = .ok (.putfield 28, 3) := by decide +kernel
theorem dX5_init_37 : decode cX5_init 37 = .ok (.return_, 1) := by decide +kernel
theorem dX5_append_0 : decode cX5_append 0 = .ok (.aload_n 0, 1) := by decide +kernel
theorem dX5_append_1 : decode cX5_append 1 = .ok (.getfield 9, 3) := by decide +kernel
theorem dX5_append_4 : decode cX5_append 4 = .ok (.aload_n 0, 1) := by decide +kernel
theorem dX5_append_5 : decode cX5_append 5 = .ok (.getfield 15, 3) := by decide +kernel
theorem dX5_append_8 : decode cX5_append 8 = .ok (.arraylength, 1) := by decide +kernel
theorem dX5_append_9 : decode cX5_append 9 = .ok (.invokestatic 31, 3) := by decide +kernel
theorem dX5_append_12 : decode cX5_append 12 = .ok (.ifCond .ne 4, 3) := by decide +kernel
theorem dX5_append_15 : decode cX5_append 15 = .ok (.return_, 1) := by decide +kernel
theorem dX5_append_16 : decode cX5_append 16 = .ok (.aload_n 0, 1) := by decide +kernel
theorem dX5_append_17 : decode cX5_append 17 = .ok (.getfield 15, 3) := by decide +kernel
theorem dX5_append_20 : decode cX5_append 20 = .ok (.aload_n 0, 1) := by decide +kernel
theorem dX5_append_21 : decode cX5_append 21 = .ok (.getfield 9, 3) := by decide +kernel
theorem dX5_append_24 : decode cX5_append 24 = .ok (.iload_n 1, 1) := by decide +kernel
theorem dX5_append_25 : decode cX5_append 25 = .ok (.i2c, 1) := by decide +kernel
theorem dX5_append_26 : decode cX5_append 26 = .ok (.castore, 1) := by decide +kernel
theorem dX5_append_27 : decode cX5_append 27 = .ok (.aload_n 0, 1) := by decide +kernel
theorem dX5_append_28 : decode cX5_append 28 = .ok (.dup, 1) := by decide +kernel
theorem dX5_append_29 : decode cX5_append 29 = .ok (.getfield 9, 3) := by decide +kernel
theorem dX5_append_32 : decode cX5_append 32 = .ok (.iconst 1, 1) := by decide +kernel
theorem dX5_append_33 : decode cX5_append 33 = .ok (.iadd, 1) := by decide +kernel
theorem dX5_append_34 : decode cX5_append 34 = .ok (.putfield 9, 3) := by decide +kernel
theorem dX5_append_37 : decode cX5_append 37 = .ok (.return_, 1) := by decide +kernel
theorem dX5_readInto_0 : decode cX5_readInto 0 = .ok (.aload_n 1, 1) := by decide +kernel
theorem dX5_readInto_1 : decode cX5_readInto 1 = .ok (.invokevirtual 35, 3) := by decide +kernel
theorem dX5_readInto_4 : decode cX5_readInto 4 = .ok (.aload_n 0, 1) := by decide +kernel
theorem dX5_readInto_5 : decode cX5_readInto 5 = .ok (.iconst 0, 1) := by decide +kernel
theorem dX5_readInto_6 : decode cX5_readInto 6 = .ok (.putfield 19, 3) := by decide +kernel
theorem dX5_readInto_9 : decode cX5_readInto 9 = .ok (.iconst 0, 1) := by decide +kernel
theorem dX5_readInto_10 : decode cX5_readInto 10 = .ok (.istore_n 2, 1) := by decide +kernel
theorem dX5_readInto_11 : decode cX5_readInto 11 = .ok (.iload_n 2, 1) := by decide +kernel
theorem dX5_readInto_12 : decode cX5_readInto 12 = .ok (.bipush 120, 2) := by decide +kernel
theorem dX5_readInto_14 : decode cX5_readInto 14 = .ok (.if_icmp .gt 34, 3) := by decide +kernel
theorem dX5_readInto_17 : decode cX5_readInto 17 = .ok (.aload_n 0, 1) := by decide +kernel
theorem dX5_readInto_18 : decode cX5_readInto 18 = .ok (.invokevirtual 40, 3) := by decide +kernel
theorem dX5_readInto_21 : decode cX5_readInto 21 = .ok (.aload_n 0, 1) := by decide +kernel
theorem dX5_readInto_22 : decode cX5_readInto 22 = .ok (.getfield 25, 3) := by decide +kernel
theorem dX5_readInto_25 : decode cX5_readInto 25 = .ok (.ifCond .ne 5, 3) := by decide +kernel
theorem dX5_readInto_28 : decode cX5_readInto 28 = .ok (.iload_n 2, 1) := by decide +kernel
theorem dX5_readInto_29 : decode cX5_readInto 29 = .ok (.ireturn, 1) := by decide +kernel
theorem dX5_readInto_30 : decode cX5_readInto 30 = .ok (.aload_n 0, 1) := by decide +kernel
theorem dX5_readInto_31 : decode cX5_readInto 31 = .ok (.aload_n 1, 1) := by decide +kernel
theorem dX5_readInto_32 : decode cX5_readInto 32 = .ok (.iload_n 2, 1) := by decide +kernel
theorem dX5_readInto_33 : decode cX5_readInto 33 = .ok (.invokevirtual 43, 3) := by decide +kernel
theorem dX5_readInto_36 : decode cX5_readInto 36 = .ok (.ifCond .ne 6, 3) := by decide +kernel
theorem dX5_readInto_39 : decode cX5_readInto 39 = .ok (.goto 9, 3) := by decide +kernel
theorem dX5_readInto_42 : decode cX5_readInto 42 = .ok (.iinc 2 1, 3) := by decide +kernel
theorem dX5_readInto_45 : decode cX5_readInto 45 = .ok (.goto (-34), 3) := by decide +kernel
theorem dX5_readInto_48 : decode cX5_readInto 48 = .ok (.bipush (-10), 2) := by decide +kernel
theorem dX5_readInto_50 : decode cX5_readInto 50 = .ok (.aload_n 0, 1) := by decide +kernel
theorem dX5_readInto_51 : decode cX5_readInto 51 = .ok (.getfield 22, 3) := by decide +kernel
theorem dX5_readInto_54 : decode cX5_readInto 54 = .ok (.isub, 1) := by decide +kernel
theorem dX5_readInto_55 : decode cX5_readInto 55 = .ok (.ireturn, 1) := by decide +kernel
theorem dX5_readItem_0 : decode cX5_readItem 0 = .ok (.aload_n 0, 1) := by decide +kernel
theorem dX5_readItem_1 : decode cX5_readItem 1 = .ok (.getfield 25, 3) := by decide +kernel
theorem dX5_readItem_4 : decode cX5_readItem 4 = .ok (.iconst 1, 1) := by decide +kernel
theorem dX5_readItem_5 : decode cX5_readItem 5 = .ok (.if_icmp .eq 5, 3) := by decide +kernel
theorem dX5_readItem_8 : decode cX5_readItem 8 = .ok (.iconst 0, 1) := by decide +kernel
theorem dX5_readItem_9 : decode cX5_readItem 9 = .ok (.ireturn, 1) := by decide +kernel
theorem dX5_readItem_10 : decode cX5_readItem 10 = .ok (.aload_n 0, 1) := by decide +kernel
theorem dX5_readItem_11 : decode cX5_readItem 11 = .ok (.getfield 28, 3) := by decide +kernel
theorem dX5_readItem_14 : decode cX5_readItem 14 = .ok (.lookupswitch 98 #[(99, 34), (114, 75), (116, 52)], 34) := by decide +kernel
theorem dX5_readItem_48 : decode cX5_readItem 48 = .ok (.iload_n 2, 1) := by decide +kernel
theorem dX5_readItem_49 : decode cX5_readItem 49 = .ok (.ifCond .ne 15, 3) := by decide +kernel
theorem dX5_readItem_52 : decode cX5_readItem 52 = .ok (.aload_n 0, 1) := by decide +kernel
theorem dX5_readItem_53 : decode cX5_readItem 53 = .ok (.aload_n 1, 1) := by decide +kernel
theorem dX5_readItem_54 : decode cX5_readItem 54 = .ok (.invokevirtual 47, 3) := by decide +kernel
theorem dX5_readItem_57 : decode cX5_readItem 57 = .ok (.ifCond .eq 7, 3) := by decide +kernel
theorem dX5_readItem_60 : decode cX5_readItem 60 = .ok (.iconst 1, 1) := by decide +kernel
theorem dX5_readItem_61 : decode cX5_readItem 61 = .ok (.goto 4, 3) := by decide +kernel
theorem dX5_readItem_64 : decode cX5_readItem 64 = .ok (.iconst 0, 1) := by decide +kernel
theorem dX5_readItem_65 : decode cX5_readItem 65 = .ok (.ireturn, 1) := by decide +kernel
theorem dX5_readItem_66 : decode cX5_readItem 66 = .ok (.aload_n 1, 1) := by decide +kernel
theorem dX5_readItem_67 : decode cX5_readItem 67 = .ok (.getfield 51, 3) := by decide +kernel
theorem dX5_readItem_70 : decode cX5_readItem 70 = .ok (.bipush 8, 2) := by decide +kernel
theorem dX5_readItem_72 : decode cX5_readItem 72 = .ok (.if_icmp .ge 15, 3) := by decide +kernel
theorem dX5_readItem_75 : decode cX5_readItem 75 = .ok (.aload_n 0, 1) := by decide +kernel
theorem dX5_readItem_76 : decode cX5_readItem 76 = .ok (.aload_n 1, 1) := by decide +kernel
theorem dX5_readItem_77 : decode cX5_readItem 77 = .ok (.invokevirtual 54, 3) := by decide +kernel
theorem dX5_readItem_80 : decode cX5_readItem 80 = .ok (.ifCond .eq 7, 3) := by decide +kernel
theorem dX5_readItem_83 : decode cX5_readItem 83 = .ok (.iconst 1, 1) := by decide +kernel
theorem dX5_readItem_84 : decode cX5_readItem 84 = .ok (.goto 4, 3) := by decide +kernel
theorem dX5_readItem_87 : decode cX5_readItem 87 = .ok (.iconst 0, 1) := by decide +kernel
theorem dX5_readItem_88 : decode cX5_readItem 88 = .ok (.ireturn, 1) := by decide +kernel
theorem dX5_readItem_89 : decode cX5_readItem 89 = .ok (.aload_n 1, 1) := by decide +kernel
theorem dX5_readItem_90 : decode cX5_readItem 90 = .ok (.getfield 57, 3) := by decide +kernel
theorem dX5_readItem_93 : decode cX5_readItem 93 = .ok (.bipush 6, 2) := by decide +kernel
theorem dX5_readItem_95 : decode cX5_readItem 95 = .ok (.if_icmp .ge 15, 3) := by decide +kernel
theorem dX5_readItem_98 : decode cX5_readItem 98 = .ok (.aload_n 0, 1) := by decide +kernel
theorem dX5_readItem_99 : decode cX5_readItem 99 = .ok (.aload_n 1, 1) := by decide +kernel
theorem dX5_readItem_100 : decode cX5_readItem 100 = .ok (.invokevirtual 60, 3) := by decide +kernel
theorem dX5_readItem_103 : decode cX5_readItem 103 = .ok (.ifCond .eq 7, 3) := by decide +kernel
theorem dX5_readItem_106 : decode cX5_readItem 106 = .ok (.iconst 1, 1) := by decide +kernel
theorem dX5_readItem_107 : decode cX5_readItem 107 = .ok (.goto 4, 3) := by decide +kernel
theorem dX5_readItem_110 : decode cX5_readItem 110 = .ok (.iconst 0, 1) := by decide +kernel
theorem dX5_readItem_111 : decode cX5_readItem 111 = .ok (.ireturn, 1) := by decide +kernel
theorem dX5_readItem_112 : decode cX5_readItem 112 = .ok (.iconst 0, 1) := by decide +kernel
theorem dX5_readItem_113 : decode cX5_readItem 113 = .ok (.ireturn, 1) := by decide +kernel
theorem dX5_readChoice_0 : decode cX5_readChoice 0 = .ok (.aload_n 0, 1) := by decide +kernel
theorem dX5_readChoice_1 : decode cX5_readChoice 1 = .ok (.iconst 2, 1) := by decide +kernel
theorem dX5_readChoice_2 : decode cX5_readChoice 2 = .ok (.bipush 6, 2) := by decide +kernel
theorem dX5_readChoice_4 : decode cX5_readChoice 4 = .ok (.invokevirtual 63, 3) := by decide +kernel
theorem dX5_readChoice_7 : decode cX5_readChoice 7 = .ok (.ifCond .ne 5, 3) := by decide +kernel
theorem dX5_readChoice_10 : decode cX5_readChoice 10 = .ok (.iconst 0, 1) := by decide +kernel
theorem dX5_readChoice_11 : decode cX5_readChoice 11 = .ok (.ireturn, 1) := by decide +kernel
theorem dX5_readChoice_12 : decode cX5_readChoice 12 = .ok (.aload_n 1, 1) := by decide +kernel
theorem dX5_readChoice_13 : decode cX5_readChoice 13 = .ok (.aload_n 0, 1) := by decide +kernel
theorem dX5_readChoice_14 : decode cX5_readChoice 14 = .ok (.getfield 28, 3) := by decide +kernel
theorem dX5_readChoice_17 : decode cX5_readChoice 17 = .ok (.putfield 66, 3) := by decide +kernel
theorem dX5_readChoice_20 : decode cX5_readChoice 20 = .ok (.aload_n 0, 1) := by decide +kernel
theorem dX5_readChoice_21 : decode cX5_readChoice 21 = .ok (.iconst 1, 1) := by decide +kernel
theorem dX5_readChoice_22 : decode cX5_readChoice 22 = .ok (.aload_n 1, 1) := by decide +kernel
theorem dX5_readChoice_23 : decode cX5_readChoice 23 = .ok (.getfield 66, 3) := by decide +kernel
theorem dX5_readChoice_26 : decode cX5_readChoice 26 = .ok (.invokevirtual 63, 3) := by decide +kernel
theorem dX5_readChoice_29 : decode cX5_readChoice 29 = .ok (.ifCond .ne 5, 3) := by decide +kernel
theorem dX5_readChoice_32 : decode cX5_readChoice 32 = .ok (.iconst 0, 1) := by decide +kernel
theorem dX5_readChoice_33 : decode cX5_readChoice 33 = .ok (.ireturn, 1) := by decide +kernel
theorem dX5_readChoice_34 : decode cX5_readChoice 34 = .ok (.aload_n 1, 1) := by decide +kernel
theorem dX5_readChoice_35 : decode cX5_readChoice 35 = .ok (.aload_n 0, 1) := by decide +kernel
theorem dX5_readChoice_36 : decode cX5_readChoice 36 = .ok (.getfield 28, 3) := by decide +kernel
theorem dX5_readChoice_39 : decode cX5_readChoice 39 = .ok (.putfield 69, 3) := by decide +kernel
theorem dX5_readChoice_42 : decode cX5_readChoice 42 = .ok (.aload_n 0, 1) := by decide +kernel
theorem dX5_readChoice_43 : decode cX5_readChoice 43 = .ok (.iconst 0, 1) := by decide +kernel
theorem dX5_readChoice_44 : decode cX5_readChoice 44 = .ok (.bipush 20, 2) := by decide +kernel
theorem dX5_readChoice_46 : decode cX5_readChoice 46 = .ok (.invokevirtual 63, 3) := by decide +kernel
theorem dX5_readChoice_49 : decode cX5_readChoice 49 = .ok (.ifCond .ne 5, 3) := by decide +kernel
theorem dX5_readChoice_52 : decode cX5_readChoice 52 = .ok (.iconst 0, 1) := by decide +kernel
theorem dX5_readChoice_53 : decode cX5_readChoice 53 = .ok (.ireturn, 1) := by decide +kernel
theorem dX5_readChoice_54 : decode cX5_readChoice 54 = .ok (.aload_n 1, 1) := by decide +kernel
theorem dX5_readChoice_55 : decode cX5_readChoice 55 = .ok (.aload_n 0, 1) := by decide +kernel
theorem dX5_readChoice_56 : decode cX5_readChoice 56 = .ok (.getfield 28, 3) := by decide +kernel
theorem dX5_readChoice_59 : decode cX5_readChoice 59 = .ok (.putfield 72, 3) := by decide +kernel
theorem dX5_readChoice_62 : decode cX5_readChoice 62 = .ok (.aload_n 0, 1) := by decide +kernel
theorem dX5_readChoice_63 : decode cX5_readChoice 63 = .ok (.invokevirtual 75, 3) := by decide +kernel
theorem dX5_readChoice_66 : decode cX5_readChoice 66 = .ok (.ireturn, 1) := by decide +kernel
theorem dX5_readTrain_0 : decode cX5_readTrain 0 = .ok (.aload_n 0, 1) := by decide +kernel
theorem dX5_readTrain_1 : decode cX5_readTrain 1 = .ok (.iconst 0, 1) := by decide +kernel
theorem dX5_readTrain_2 : decode cX5_readTrain 2 = .ok (.bipush 23, 2) := by decide +kernel
theorem dX5_readTrain_4 : decode cX5_readTrain 4 = .ok (.invokevirtual 63, 3) := by decide +kernel
theorem dX5_readTrain_7 : decode cX5_readTrain 7 = .ok (.ifCond .ne 5, 3) := by decide +kernel
theorem dX5_readTrain_10 : decode cX5_readTrain 10 = .ok (.iconst 0, 1) := by decide +kernel
theorem dX5_readTrain_11 : decode cX5_readTrain 11 = .ok (.ireturn, 1) := by decide +kernel
theorem dX5_readTrain_12 : decode cX5_readTrain 12 = .ok (.aload_n 0, 1) := by decide +kernel
theorem dX5_readTrain_13 : decode cX5_readTrain 13 = .ok (.getfield 28, 3) := by decide +kernel
theorem dX5_readTrain_16 : decode cX5_readTrain 16 = .ok (.istore_n 2, 1) := by decide +kernel
theorem dX5_readTrain_17 : decode cX5_readTrain 17 = .ok (.aload_n 0, 1) := by decide +kernel
theorem dX5_readTrain_18 : decode cX5_readTrain 18 = .ok (.iconst 1, 1) := by decide +kernel
theorem dX5_readTrain_19 : decode cX5_readTrain 19 = .ok (.bipush 30, 2) := by decide +kernel
theorem dX5_readTrain_21 : decode cX5_readTrain 21 = .ok (.invokevirtual 63, 3) := by decide +kernel
theorem dX5_readTrain_24 : decode cX5_readTrain 24 = .ok (.ifCond .ne 5, 3) := by decide +kernel
theorem dX5_readTrain_27 : decode cX5_readTrain 27 = .ok (.iconst 0, 1) := by decide +kernel
theorem dX5_readTrain_28 : decode cX5_readTrain 28 = .ok (.ireturn, 1) := by decide +kernel
theorem dX5_readTrain_29 : decode cX5_readTrain 29 = .ok (.aload_n 0, 1) := by decide +kernel
theorem dX5_readTrain_30 : decode cX5_readTrain 30 = .ok (.getfield 28, 3) := by decide +kernel
theorem dX5_readTrain_33 : decode cX5_readTrain 33 = .ok (.istore_n 3, 1) := by decide +kernel
theorem dX5_readTrain_34 : decode cX5_readTrain 34 = .ok (.aload_n 0, 1) := by decide +kernel
theorem dX5_readTrain_35 : decode cX5_readTrain 35 = .ok (.iconst 0, 1) := by decide +kernel
theorem dX5_readTrain_36 : decode cX5_readTrain 36 = .ok (.aload_n 1, 1) := by decide +kernel
theorem dX5_readTrain_37 : decode cX5_readTrain 37 = .ok (.getfield 66, 3) := by decide +kernel
theorem dX5_readTrain_40 : decode cX5_readTrain 40 = .ok (.iconst 1, 1) := by decide +kernel
theorem dX5_readTrain_41 : decode cX5_readTrain 41 = .ok (.isub, 1) := by decide +kernel
theorem dX5_readTrain_42 : decode cX5_readTrain 42 = .ok (.invokevirtual 63, 3) := by decide +kernel
theorem dX5_readTrain_45 : decode cX5_readTrain 45 = .ok (.ifCond .ne 5, 3) := by decide +kernel
theorem dX5_readTrain_48 : decode cX5_readTrain 48 = .ok (.iconst 0, 1) := by decide +kernel
theorem dX5_readTrain_49 : decode cX5_readTrain 49 = .ok (.ireturn, 1) := by decide +kernel
theorem dX5_readTrain_50 : decode cX5_readTrain 50 = .ok (.aload_n 1, 1) := by decide +kernel
theorem dX5_readTrain_51 : decode cX5_readTrain 51 = .ok (.iload_n 2, 1) := by decide +kernel
theorem dX5_readTrain_52 : decode cX5_readTrain 52 = .ok (.iload_n 3, 1) := by decide +kernel
theorem dX5_readTrain_53 : decode cX5_readTrain 53 = .ok (.aload_n 0, 1) := by decide +kernel
theorem dX5_readTrain_54 : decode cX5_readTrain 54 = .ok (.getfield 28, 3) := by decide +kernel
theorem dX5_readTrain_57 : decode cX5_readTrain 57 = .ok (.invokevirtual 79, 3) := by decide +kernel
theorem dX5_readTrain_60 : decode cX5_readTrain 60 = .ok (.aload_n 0, 1) := by decide +kernel
theorem dX5_readTrain_61 : decode cX5_readTrain 61 = .ok (.invokevirtual 75, 3) := by decide +kernel
theorem dX5_readTrain_64 : decode cX5_readTrain 64 = .ok (.ireturn, 1) := by decide +kernel
theorem dX5_readGroup_0 : decode cX5_readGroup 0 = .ok (.aload_n 0, 1) := by decide +kernel
theorem dX5_readGroup_1 : decode cX5_readGroup 1 = .ok (.iconst 1, 1) := by decide +kernel
theorem dX5_readGroup_2 : decode cX5_readGroup 2 = .ok (.bipush 30, 2) := by decide +kernel
theorem dX5_readGroup_4 : decode cX5_readGroup 4 = .ok (.invokevirtual 63, 3) := by decide +kernel
theorem dX5_readGroup_7 : decode cX5_readGroup 7 = .ok (.ifCond .ne 5, 3) := by decide +kernel
theorem dX5_readGroup_10 : decode cX5_readGroup 10 = .ok (.iconst 0, 1) := by decide +kernel
theorem dX5_readGroup_11 : decode cX5_readGroup 11 = .ok (.ireturn, 1) := by decide +kernel
theorem dX5_readGroup_12 : decode cX5_readGroup 12 = .ok (.aload_n 0, 1) := by decide +kernel
theorem dX5_readGroup_13 : decode cX5_readGroup 13 = .ok (.getfield 28, 3) := by decide +kernel
theorem dX5_readGroup_16 : decode cX5_readGroup 16 = .ok (.istore_n 2, 1) := by decide +kernel
theorem dX5_readGroup_17 : decode cX5_readGroup 17 = .ok (.aload_n 0, 1) := by decide +kernel
theorem dX5_readGroup_18 : decode cX5_readGroup 18 = .ok (.iconst 0, 1) := by decide +kernel
theorem dX5_readGroup_19 : decode cX5_readGroup 19 = .ok (.aload_n 1, 1) := by decide +kernel
theorem dX5_readGroup_20 : decode cX5_readGroup 20 = .ok (.getfield 66, 3) := by decide +kernel
theorem dX5_readGroup_23 : decode cX5_readGroup 23 = .ok (.iconst 1, 1) := by decide +kernel
theorem dX5_readGroup_24 : decode cX5_readGroup 24 = .ok (.isub, 1) := by decide +kernel
theorem dX5_readGroup_25 : decode cX5_readGroup 25 = .ok (.invokevirtual 63, 3) := by decide +kernel
theorem dX5_readGroup_28 : decode cX5_readGroup 28 = .ok (.ifCond .ne 5, 3) := by decide +kernel
theorem dX5_readGroup_31 : decode cX5_readGroup 31 = .ok (.iconst 0, 1) := by decide +kernel
theorem dX5_readGroup_32 : decode cX5_readGroup 32 = .ok (.ireturn, 1) := by decide +kernel
theorem dX5_readGroup_33 : decode cX5_readGroup 33 = .ok (.aload_n 0, 1) := by decide +kernel
theorem dX5_readGroup_34 : decode cX5_readGroup 34 = .ok (.getfield 28, 3) := by decide +kernel
theorem dX5_readGroup_37 : decode cX5_readGroup 37 = .ok (.istore_n 3, 1) := by decide +kernel
theorem dX5_readGroup_38 : decode cX5_readGroup 38 = .ok (.aload_n 0, 1) := by decide +kernel
theorem dX5_readGroup_39 : decode cX5_readGroup 39 = .ok (.iconst 0, 1) := by decide +kernel
theorem dX5_readGroup_40 : decode cX5_readGroup 40 = .ok (.aload_n 1, 1) := by decide +kernel
theorem dX5_readGroup_41 : decode cX5_readGroup 41 = .ok (.getfield 66, 3) := by decide +kernel
theorem dX5_readGroup_44 : decode cX5_readGroup 44 = .ok (.iconst 1, 1) := by decide +kernel
theorem dX5_readGroup_45 : decode cX5_readGroup 45 = .ok (.isub, 1) := by decide +kernel
theorem dX5_readGroup_46 : decode cX5_readGroup 46 = .ok (.invokevirtual 63, 3) := by decide +kernel
theorem dX5_readGroup_49 : decode cX5_readGroup 49 = .ok (.ifCond .eq 11, 3) := by decide +kernel
theorem dX5_readGroup_52 : decode cX5_readGroup 52 = .ok (.aload_n 0, 1) := by decide +kernel
theorem dX5_readGroup_53 : decode cX5_readGroup 53 = .ok (.getfield 28, 3) := by decide +kernel
theorem dX5_readGroup_56 : decode cX5_readGroup 56 = .ok (.iload_n 3, 1) := by decide +kernel
theorem dX5_readGroup_57 : decode cX5_readGroup 57 = .ok (.if_icmp .ne 5, 3) := by decide +kernel
theorem dX5_readGroup_60 : decode cX5_readGroup 60 = .ok (.iconst 0, 1) := by decide +kernel
theorem dX5_readGroup_61 : decode cX5_readGroup 61 = .ok (.ireturn, 1) := by decide +kernel
theorem dX5_readGroup_62 : decode cX5_readGroup 62 = .ok (.aload_n 1, 1) := by decide +kernel
theorem dX5_readGroup_63 : decode cX5_readGroup 63 = .ok (.iload_n 2, 1) := by decide +kernel
theorem dX5_readGroup_64 : decode cX5_readGroup 64 = .ok (.iload_n 3, 1) := by decide +kernel
theorem dX5_readGroup_65 : decode cX5_readGroup 65 = .ok (.aload_n 0, 1) := by decide +kernel
theorem dX5_readGroup_66 : decode cX5_readGroup 66 = .ok (.getfield 28, 3) := by decide +kernel
theorem dX5_readGroup_69 : decode cX5_readGroup 69 = .ok (.invokevirtual 83, 3) := by decide +kernel
theorem dX5_readGroup_72 : decode cX5_readGroup 72 = .ok (.aload_n 0, 1) := by decide +kernel
theorem dX5_readGroup_73 : decode cX5_readGroup 73 = .ok (.invokevirtual 75, 3) := by decide +kernel
theorem dX5_readGroup_76 : decode cX5_readGroup 76 = .ok (.ireturn, 1) := by decide +kernel
theorem dX5_readNumber_0 : decode cX5_readNumber 0 = .ok (.aload_n 0, 1) := by decide +kernel
theorem dX5_readNumber_1 : decode cX5_readNumber 1 = .ok (.invokevirtual 40, 3) := by decide +kernel
theorem dX5_readNumber_4 : decode cX5_readNumber 4 = .ok (.aload_n 0, 1) := by decide +kernel
theorem dX5_readNumber_5 : decode cX5_readNumber 5 = .ok (.getfield 25, 3) := by decide +kernel
theorem dX5_readNumber_8 : decode cX5_readNumber 8 = .ok (.iconst 2, 1) := by decide +kernel
theorem dX5_readNumber_9 : decode cX5_readNumber 9 = .ok (.if_icmp .ne 23, 3) := by decide +kernel
theorem dX5_readNumber_12 : decode cX5_readNumber 12 = .ok (.aload_n 0, 1) := by decide +kernel
theorem dX5_readNumber_13 : decode cX5_readNumber 13 = .ok (.getfield 28, 3) := by decide +kernel
theorem dX5_readNumber_16 : decode cX5_readNumber 16 = .ok (.iload_n 1, 1) := by decide +kernel
theorem dX5_readNumber_17 : decode cX5_readNumber 17 = .ok (.if_icmp .lt 15, 3) := by decide +kernel
theorem dX5_readNumber_20 : decode cX5_readNumber 20 = .ok (.aload_n 0, 1) := by decide +kernel
theorem dX5_readNumber_21 : decode cX5_readNumber 21 = .ok (.getfield 28, 3) := by decide +kernel
theorem dX5_readNumber_24 : decode cX5_readNumber 24 = .ok (.iload_n 2, 1) := by decide +kernel
theorem dX5_readNumber_25 : decode cX5_readNumber 25 = .ok (.if_icmp .gt 7, 3) := by decide +kernel
theorem dX5_readNumber_28 : decode cX5_readNumber 28 = .ok (.iconst 1, 1) := by decide +kernel
theorem dX5_readNumber_29 : decode cX5_readNumber 29 = .ok (.goto 4, 3) := by decide +kernel
theorem dX5_readNumber_32 : decode cX5_readNumber 32 = .ok (.iconst 0, 1) := by decide +kernel
theorem dX5_readNumber_33 : decode cX5_readNumber 33 = .ok (.ireturn, 1) := by decide +kernel
theorem dX5_readStop_0 : decode cX5_readStop 0 = .ok (.aload_n 0, 1) := by decide +kernel
theorem dX5_readStop_1 : decode cX5_readStop 1 = .ok (.invokevirtual 40, 3) := by decide +kernel
theorem dX5_readStop_4 : decode cX5_readStop 4 = .ok (.aload_n 0, 1) := by decide +kernel
theorem dX5_readStop_5 : decode cX5_readStop 5 = .ok (.getfield 25, 3) := by decide +kernel
theorem dX5_readStop_8 : decode cX5_readStop 8 = .ok (.iconst 3, 1) := by decide +kernel
theorem dX5_readStop_9 : decode cX5_readStop 9 = .ok (.if_icmp .ne 7, 3) := by decide +kernel
theorem dX5_readStop_12 : decode cX5_readStop 12 = .ok (.iconst 1, 1) := by decide +kernel
theorem dX5_readStop_13 : decode cX5_readStop 13 = .ok (.goto 4, 3) := by decide +kernel
theorem dX5_readStop_16 : decode cX5_readStop 16 = .ok (.iconst 0, 1) := by decide +kernel
theorem dX5_readStop_17 : decode cX5_readStop 17 = .ok (.ireturn, 1) := by decide +kernel
theorem dX5_step_0 : decode cX5_step 0 = .ok (.aload_n 0, 1) := by decide +kernel
theorem dX5_step_1 : decode cX5_step 1 = .ok (.getfield 19, 3) := by decide +kernel
theorem dX5_step_4 : decode cX5_step 4 = .ok (.aload_n 0, 1) := by decide +kernel
theorem dX5_step_5 : decode cX5_step 5 = .ok (.getfield 9, 3) := by decide +kernel
theorem dX5_step_8 : decode cX5_step 8 = .ok (.if_icmp .ge 29, 3) := by decide +kernel
theorem dX5_step_11 : decode cX5_step 11 = .ok (.aload_n 0, 1) := by decide +kernel
theorem dX5_step_12 : decode cX5_step 12 = .ok (.aload_n 0, 1) := by decide +kernel
theorem dX5_step_13 : decode cX5_step 13 = .ok (.getfield 19, 3) := by decide +kernel
theorem dX5_step_16 : decode cX5_step 16 = .ok (.invokevirtual 86, 3) := by decide +kernel
theorem dX5_step_19 : decode cX5_step 19 = .ok (.bipush 32, 2) := by decide +kernel
theorem dX5_step_21 : decode cX5_step 21 = .ok (.if_icmp .ne 16, 3) := by decide +kernel
theorem dX5_step_24 : decode cX5_step 24 = .ok (.aload_n 0, 1) := by decide +kernel
theorem dX5_step_25 : decode cX5_step 25 = .ok (.dup, 1) := by decide +kernel
theorem dX5_step_26 : decode cX5_step 26 = .ok (.getfield 19, 3) := by decide +kernel
theorem dX5_step_29 : decode cX5_step 29 = .ok (.iconst 1, 1) := by decide +kernel
theorem dX5_step_30 : decode cX5_step 30 = .ok (.iadd, 1) := by decide +kernel
theorem dX5_step_31 : decode cX5_step 31 = .ok (.putfield 19, 3) := by decide +kernel
theorem dX5_step_34 : decode cX5_step 34 = .ok (.goto (-34), 3) := by decide +kernel
theorem dX5_step_37 : decode cX5_step 37 = .ok (.aload_n 0, 1) := by decide +kernel
theorem dX5_step_38 : decode cX5_step 38 = .ok (.aload_n 0, 1) := by decide +kernel
theorem dX5_step_39 : decode cX5_step 39 = .ok (.getfield 19, 3) := by decide +kernel
theorem dX5_step_42 : decode cX5_step 42 = .ok (.putfield 22, 3) := by decide +kernel
theorem dX5_step_45 : decode cX5_step 45 = .ok (.aload_n 0, 1) := by decide +kernel
theorem dX5_step_46 : decode cX5_step 46 = .ok (.getfield 19, 3) := by decide +kernel
theorem dX5_step_49 : decode cX5_step 49 = .ok (.aload_n 0, 1) := by decide +kernel
theorem dX5_step_50 : decode cX5_step 50 = .ok (.getfield 9, 3) := by decide +kernel
theorem dX5_step_53 : decode cX5_step 53 = .ok (.if_icmp .lt 11, 3) := by decide +kernel
theorem dX5_step_56 : decode cX5_step 56 = .ok (.aload_n 0, 1) := by decide +kernel
theorem dX5_step_57 : decode cX5_step 57 = .ok (.iconst 0, 1) := by decide +kernel
theorem dX5_step_58 : decode cX5_step 58 = .ok (.putfield 25, 3) := by decide +kernel
theorem dX5_step_61 : decode cX5_step 61 = .ok (.goto 77, 3) := by decide +kernel
theorem dX5_step_64 : decode cX5_step 64 = .ok (.aload_n 0, 1) := by decide +kernel
theorem dX5_step_65 : decode cX5_step 65 = .ok (.aload_n 0, 1) := by decide +kernel
theorem dX5_step_66 : decode cX5_step 66 = .ok (.getfield 19, 3) := by decide +kernel
theorem dX5_step_69 : decode cX5_step 69 = .ok (.invokevirtual 86, 3) := by decide +kernel
theorem dX5_step_72 : decode cX5_step 72 = .ok (.invokestatic 90, 3) := by decide +kernel
theorem dX5_step_75 : decode cX5_step 75 = .ok (.ifCond .eq 10, 3) := by decide +kernel
theorem dX5_step_78 : decode cX5_step 78 = .ok (.aload_n 0, 1) := by decide +kernel
theorem dX5_step_79 : decode cX5_step 79 = .ok (.invokevirtual 94, 3) := by decide +kernel
theorem dX5_step_82 : decode cX5_step 82 = .ok (.goto 56, 3) := by decide +kernel
theorem dX5_step_85 : decode cX5_step 85 = .ok (.aload_n 0, 1) := by decide +kernel
theorem dX5_step_86 : decode cX5_step 86 = .ok (.aload_n 0, 1) := by decide +kernel
theorem dX5_step_87 : decode cX5_step 87 = .ok (.getfield 19, 3) := by decide +kernel
theorem dX5_step_90 : decode cX5_step 90 = .ok (.invokevirtual 86, 3) := by decide +kernel
theorem dX5_step_93 : decode cX5_step 93 = .ok (.invokestatic 97, 3) := by decide +kernel
theorem dX5_step_96 : decode cX5_step 96 = .ok (.ifCond .eq 10, 3) := by decide +kernel
theorem dX5_step_99 : decode cX5_step 99 = .ok (.aload_n 0, 1) := by decide +kernel
theorem dX5_step_100 : decode cX5_step 100 = .ok (.invokevirtual 100, 3) := by decide +kernel
theorem dX5_step_103 : decode cX5_step 103 = .ok (.goto 35, 3) := by decide +kernel
theorem dX5_step_106 : decode cX5_step 106 = .ok (.aload_n 0, 1) := by decide +kernel
theorem dX5_step_107 : decode cX5_step 107 = .ok (.aload_n 0, 1) := by decide +kernel
theorem dX5_step_108 : decode cX5_step 108 = .ok (.aload_n 0, 1) := by decide +kernel
theorem dX5_step_109 : decode cX5_step 109 = .ok (.getfield 19, 3) := by decide +kernel
theorem dX5_step_112 : decode cX5_step 112 = .ok (.invokevirtual 86, 3) := by decide +kernel
theorem dX5_step_115 : decode cX5_step 115 = .ok (.bipush 59, 2) := by decide +kernel
theorem dX5_step_117 : decode cX5_step 117 = .ok (.if_icmp .ne 7, 3) := by decide +kernel
theorem dX5_step_120 : decode cX5_step 120 = .ok (.iconst 3, 1) := by decide +kernel
theorem dX5_step_121 : decode cX5_step 121 = .ok (.goto 4, 3) := by decide +kernel
theorem dX5_step_124 : decode cX5_step 124 = .ok (.iconst 4, 1) := by decide +kernel
theorem dX5_step_125 : decode cX5_step 125 = .ok (.putfield 25, 3) := by decide +kernel
theorem dX5_step_128 : decode cX5_step 128 = .ok (.aload_n 0, 1) := by decide +kernel
theorem dX5_step_129 : decode cX5_step 129 = .ok (.dup, 1) := by decide +kernel
theorem dX5_step_130 : decode cX5_step 130 = .ok (.getfield 19, 3) := by decide +kernel
theorem dX5_step_133 : decode cX5_step 133 = .ok (.iconst 1, 1) := by decide +kernel
theorem dX5_step_134 : decode cX5_step 134 = .ok (.iadd, 1) := by decide +kernel
theorem dX5_step_135 : decode cX5_step 135 = .ok (.putfield 19, 3) := by decide +kernel
theorem dX5_step_138 : decode cX5_step 138 = .ok (.return_, 1) := by decide +kernel
theorem dX5_stepWord_0 : decode cX5_stepWord 0 = .ok (.aload_n 0, 1) := by decide +kernel
theorem dX5_stepWord_1 : decode cX5_stepWord 1 = .ok (.getfield 19, 3) := by decide +kernel
theorem dX5_stepWord_4 : decode cX5_stepWord 4 = .ok (.aload_n 0, 1) := by decide +kernel
theorem dX5_stepWord_5 : decode cX5_stepWord 5 = .ok (.getfield 9, 3) := by decide +kernel
theorem dX5_stepWord_8 : decode cX5_stepWord 8 = .ok (.if_icmp .ge 30, 3) := by decide +kernel
theorem dX5_stepWord_11 : decode cX5_stepWord 11 = .ok (.aload_n 0, 1) := by decide +kernel
theorem dX5_stepWord_12 : decode cX5_stepWord 12 = .ok (.aload_n 0, 1) := by decide +kernel
theorem dX5_stepWord_13 : decode cX5_stepWord 13 = .ok (.getfield 19, 3) := by decide +kernel
theorem dX5_stepWord_16 : decode cX5_stepWord 16 = .ok (.invokevirtual 86, 3) := by decide +kernel
theorem dX5_stepWord_19 : decode cX5_stepWord 19 = .ok (.invokestatic 90, 3) := by decide +kernel
theorem dX5_stepWord_22 : decode cX5_stepWord 22 = .ok (.ifCond .eq 16, 3) := by decide +kernel
theorem dX5_stepWord_25 : decode cX5_stepWord 25 = .ok (.aload_n 0, 1) := by decide +kernel
theorem dX5_stepWord_26 : decode cX5_stepWord 26 = .ok (.dup, 1) := by decide +kernel
theorem dX5_stepWord_27 : decode cX5_stepWord 27 = .ok (.getfield 19, 3) := by decide +kernel
theorem dX5_stepWord_30 : decode cX5_stepWord 30 = .ok (.iconst 1, 1) := by decide +kernel
theorem dX5_stepWord_31 : decode cX5_stepWord 31 = .ok (.iadd, 1) := by decide +kernel
theorem dX5_stepWord_32 : decode cX5_stepWord 32 = .ok (.putfield 19, 3) := by decide +kernel
theorem dX5_stepWord_35 : decode cX5_stepWord 35 = .ok (.goto (-35), 3) := by decide +kernel
theorem dX5_stepWord_38 : decode cX5_stepWord 38 = .ok (.aload_n 0, 1) := by decide +kernel
theorem dX5_stepWord_39 : decode cX5_stepWord 39 = .ok (.iconst 1, 1) := by decide +kernel
theorem dX5_stepWord_40 : decode cX5_stepWord 40 = .ok (.putfield 25, 3) := by decide +kernel
theorem dX5_stepWord_43 : decode cX5_stepWord 43 = .ok (.aload_n 0, 1) := by decide +kernel
theorem dX5_stepWord_44 : decode cX5_stepWord 44 = .ok (.aload_n 0, 1) := by decide +kernel
theorem dX5_stepWord_45 : decode cX5_stepWord 45 = .ok (.getfield 19, 3) := by decide +kernel
theorem dX5_stepWord_48 : decode cX5_stepWord 48 = .ok (.aload_n 0, 1) := by decide +kernel
theorem dX5_stepWord_49 : decode cX5_stepWord 49 = .ok (.getfield 22, 3) := by decide +kernel
theorem dX5_stepWord_52 : decode cX5_stepWord 52 = .ok (.isub, 1) := by decide +kernel
theorem dX5_stepWord_53 : decode cX5_stepWord 53 = .ok (.iconst 1, 1) := by decide +kernel
theorem dX5_stepWord_54 : decode cX5_stepWord 54 = .ok (.if_icmp .ne 14, 3) := by decide +kernel
theorem dX5_stepWord_57 : decode cX5_stepWord 57 = .ok (.aload_n 0, 1) := by decide +kernel
theorem dX5_stepWord_58 : decode cX5_stepWord 58 = .ok (.aload_n 0, 1) := by decide +kernel
theorem dX5_stepWord_59 : decode cX5_stepWord 59 = .ok (.getfield 22, 3) := by decide +kernel
theorem dX5_stepWord_62 : decode cX5_stepWord 62 = .ok (.invokevirtual 86, 3) := by decide +kernel
theorem dX5_stepWord_65 : decode cX5_stepWord 65 = .ok (.goto 4, 3) := by decide +kernel
theorem dX5_stepWord_68 : decode cX5_stepWord 68 = .ok (.iconst 0, 1) := by decide +kernel
theorem dX5_stepWord_69 : decode cX5_stepWord 69 = .ok (.putfield 28, 3) := by decide +kernel
theorem dX5_stepWord_72 : decode cX5_stepWord 72 = .ok (.return_, 1) := by decide +kernel
theorem dX5_stepNumber_0 : decode cX5_stepNumber 0 = .ok (.aload_n 0, 1) := by decide +kernel
theorem dX5_stepNumber_1 : decode cX5_stepNumber 1 = .ok (.iconst 0, 1) := by decide +kernel
theorem dX5_stepNumber_2 : decode cX5_stepNumber 2 = .ok (.putfield 28, 3) := by decide +kernel
theorem dX5_stepNumber_5 : decode cX5_stepNumber 5 = .ok (.aload_n 0, 1) := by decide +kernel
theorem dX5_stepNumber_6 : decode cX5_stepNumber 6 = .ok (.getfield 19, 3) := by decide +kernel
theorem dX5_stepNumber_9 : decode cX5_stepNumber 9 = .ok (.aload_n 0, 1) := by decide +kernel
theorem dX5_stepNumber_10 : decode cX5_stepNumber 10 = .ok (.getfield 9, 3) := by decide +kernel
theorem dX5_stepNumber_13 : decode cX5_stepNumber 13 = .ok (.if_icmp .ge 62, 3) := by decide +kernel
theorem dX5_stepNumber_16 : decode cX5_stepNumber 16 = .ok (.aload_n 0, 1) := by decide +kernel
theorem dX5_stepNumber_17 : decode cX5_stepNumber 17 = .ok (.aload_n 0, 1) := by decide +kernel
theorem dX5_stepNumber_18 : decode cX5_stepNumber 18 = .ok (.getfield 19, 3) := by decide +kernel
theorem dX5_stepNumber_21 : decode cX5_stepNumber 21 = .ok (.invokevirtual 86, 3) := by decide +kernel
theorem dX5_stepNumber_24 : decode cX5_stepNumber 24 = .ok (.invokestatic 97, 3) := by decide +kernel
theorem dX5_stepNumber_27 : decode cX5_stepNumber 27 = .ok (.ifCond .eq 48, 3) := by decide +kernel
theorem dX5_stepNumber_30 : decode cX5_stepNumber 30 = .ok (.aload_n 0, 1) := by decide +kernel
theorem dX5_stepNumber_31 : decode cX5_stepNumber 31 = .ok (.getfield 28, 3) := by decide +kernel
theorem dX5_stepNumber_34 : decode cX5_stepNumber 34 = .ok (.bipush 100, 2) := by decide +kernel
theorem dX5_stepNumber_36 : decode cX5_stepNumber 36 = .ok (.if_icmp .ge 26, 3) := by decide +kernel
theorem dX5_stepNumber_39 : decode cX5_stepNumber 39 = .ok (.aload_n 0, 1) := by decide +kernel
theorem dX5_stepNumber_40 : decode cX5_stepNumber 40 = .ok (.aload_n 0, 1) := by decide +kernel
theorem dX5_stepNumber_41 : decode cX5_stepNumber 41 = .ok (.getfield 28, 3) := by decide +kernel
theorem dX5_stepNumber_44 : decode cX5_stepNumber 44 = .ok (.bipush 10, 2) := by decide +kernel
theorem dX5_stepNumber_46 : decode cX5_stepNumber 46 = .ok (.imul, 1) := by decide +kernel
theorem dX5_stepNumber_47 : decode cX5_stepNumber 47 = .ok (.aload_n 0, 1) := by decide +kernel
theorem dX5_stepNumber_48 : decode cX5_stepNumber 48 = .ok (.aload_n 0, 1) := by decide +kernel
theorem dX5_stepNumber_49 : decode cX5_stepNumber 49 = .ok (.getfield 19, 3) := by decide +kernel
theorem dX5_stepNumber_52 : decode cX5_stepNumber 52 = .ok (.invokevirtual 86, 3) := by decide +kernel
theorem dX5_stepNumber_55 : decode cX5_stepNumber 55 = .ok (.iadd, 1) := by decide +kernel
theorem dX5_stepNumber_56 : decode cX5_stepNumber 56 = .ok (.bipush 48, 2) := by decide +kernel
theorem dX5_stepNumber_58 : decode cX5_stepNumber 58 = .ok (.isub, 1) := by decide +kernel
theorem dX5_stepNumber_59 : decode cX5_stepNumber 59 = .ok (.putfield 28, 3) := by decide +kernel
theorem dX5_stepNumber_62 : decode cX5_stepNumber 62 = .ok (.aload_n 0, 1) := by decide +kernel
theorem dX5_stepNumber_63 : decode cX5_stepNumber 63 = .ok (.dup, 1) := by decide +kernel
theorem dX5_stepNumber_64 : decode cX5_stepNumber 64 = .ok (.getfield 19, 3) := by decide +kernel
theorem dX5_stepNumber_67 : decode cX5_stepNumber 67 = .ok (.iconst 1, 1) := by decide +kernel
theorem dX5_stepNumber_68 : decode cX5_stepNumber 68 = .ok (.iadd, 1) := by decide +kernel
theorem dX5_stepNumber_69 : decode cX5_stepNumber 69 = .ok (.putfield 19, 3) := by decide +kernel
theorem dX5_stepNumber_72 : decode cX5_stepNumber 72 = .ok (.goto (-67), 3) := by decide +kernel
theorem dX5_stepNumber_75 : decode cX5_stepNumber 75 = .ok (.aload_n 0, 1) := by decide +kernel
theorem dX5_stepNumber_76 : decode cX5_stepNumber 76 = .ok (.aload_n 0, 1) := by decide +kernel
theorem dX5_stepNumber_77 : decode cX5_stepNumber 77 = .ok (.getfield 22, 3) := by decide +kernel
theorem dX5_stepNumber_80 : decode cX5_stepNumber 80 = .ok (.invokevirtual 86, 3) := by decide +kernel
theorem dX5_stepNumber_83 : decode cX5_stepNumber 83 = .ok (.bipush 48, 2) := by decide +kernel
theorem dX5_stepNumber_85 : decode cX5_stepNumber 85 = .ok (.if_icmp .ne 20, 3) := by decide +kernel
theorem dX5_stepNumber_88 : decode cX5_stepNumber 88 = .ok (.aload_n 0, 1) := by decide +kernel
theorem dX5_stepNumber_89 : decode cX5_stepNumber 89 = .ok (.getfield 19, 3) := by decide +kernel
theorem dX5_stepNumber_92 : decode cX5_stepNumber 92 = .ok (.aload_n 0, 1) := by decide +kernel
theorem dX5_stepNumber_93 : decode cX5_stepNumber 93 = .ok (.getfield 22, 3) := by decide +kernel
theorem dX5_stepNumber_96 : decode cX5_stepNumber 96 = .ok (.isub, 1) := by decide +kernel
theorem dX5_stepNumber_97 : decode cX5_stepNumber 97 = .ok (.iconst 1, 1) := by decide +kernel
theorem dX5_stepNumber_98 : decode cX5_stepNumber 98 = .ok (.if_icmp .le 7, 3) := by decide +kernel
theorem dX5_stepNumber_101 : decode cX5_stepNumber 101 = .ok (.iconst 1, 1) := by decide +kernel
theorem dX5_stepNumber_102 : decode cX5_stepNumber 102 = .ok (.goto 4, 3) := by decide +kernel
theorem dX5_stepNumber_105 : decode cX5_stepNumber 105 = .ok (.iconst 0, 1) := by decide +kernel
theorem dX5_stepNumber_106 : decode cX5_stepNumber 106 = .ok (.istore_n 1, 1) := by decide +kernel
theorem dX5_stepNumber_107 : decode cX5_stepNumber 107 = .ok (.aload_n 0, 1) := by decide +kernel
theorem dX5_stepNumber_108 : decode cX5_stepNumber 108 = .ok (.iload_n 1, 1) := by decide +kernel
theorem dX5_stepNumber_109 : decode cX5_stepNumber 109 = .ok (.ifCond .ne 12, 3) := by decide +kernel
theorem dX5_stepNumber_112 : decode cX5_stepNumber 112 = .ok (.aload_n 0, 1) := by decide +kernel
theorem dX5_stepNumber_113 : decode cX5_stepNumber 113 = .ok (.getfield 28, 3) := by decide +kernel
theorem dX5_stepNumber_116 : decode cX5_stepNumber 116 = .ok (.bipush 99, 2) := by decide +kernel
theorem dX5_stepNumber_118 : decode cX5_stepNumber 118 = .ok (.if_icmp .le 7, 3) := by decide +kernel
theorem dX5_stepNumber_121 : decode cX5_stepNumber 121 = .ok (.iconst 4, 1) := by decide +kernel
theorem dX5_stepNumber_122 : decode cX5_stepNumber 122 = .ok (.goto 4, 3) := by decide +kernel
theorem dX5_stepNumber_125 : decode cX5_stepNumber 125 = .ok (.iconst 2, 1) := by decide +kernel
theorem dX5_stepNumber_126 : decode cX5_stepNumber 126 = .ok (.putfield 25, 3) := by decide +kernel
theorem dX5_stepNumber_129 : decode cX5_stepNumber 129 = .ok (.return_, 1) := by decide +kernel
theorem dX5_byteAt_0 : decode cX5_byteAt 0 = .ok (.iload_n 1, 1) := by decide +kernel
theorem dX5_byteAt_1 : decode cX5_byteAt 1 = .ok (.ifCond .lt 29, 3) := by decide +kernel
theorem dX5_byteAt_4 : decode cX5_byteAt 4 = .ok (.iload_n 1, 1) := by decide +kernel
theorem dX5_byteAt_5 : decode cX5_byteAt 5 = .ok (.aload_n 0, 1) := by decide +kernel
theorem dX5_byteAt_6 : decode cX5_byteAt 6 = .ok (.getfield 9, 3) := by decide +kernel
theorem dX5_byteAt_9 : decode cX5_byteAt 9 = .ok (.if_icmp .ge 21, 3) := by decide +kernel
theorem dX5_byteAt_12 : decode cX5_byteAt 12 = .ok (.iload_n 1, 1) := by decide +kernel
theorem dX5_byteAt_13 : decode cX5_byteAt 13 = .ok (.aload_n 0, 1) := by decide +kernel
theorem dX5_byteAt_14 : decode cX5_byteAt 14 = .ok (.getfield 15, 3) := by decide +kernel
theorem dX5_byteAt_17 : decode cX5_byteAt 17 = .ok (.arraylength, 1) := by decide +kernel
theorem dX5_byteAt_18 : decode cX5_byteAt 18 = .ok (.if_icmp .ge 12, 3) := by decide +kernel
theorem dX5_byteAt_21 : decode cX5_byteAt 21 = .ok (.aload_n 0, 1) := by decide +kernel
theorem dX5_byteAt_22 : decode cX5_byteAt 22 = .ok (.getfield 15, 3) := by decide +kernel
theorem dX5_byteAt_25 : decode cX5_byteAt 25 = .ok (.iload_n 1, 1) := by decide +kernel
theorem dX5_byteAt_26 : decode cX5_byteAt 26 = .ok (.caload, 1) := by decide +kernel
theorem dX5_byteAt_27 : decode cX5_byteAt 27 = .ok (.goto 4, 3) := by decide +kernel
theorem dX5_byteAt_30 : decode cX5_byteAt 30 = .ok (.iconst 0, 1) := by decide +kernel
theorem dX5_byteAt_31 : decode cX5_byteAt 31 = .ok (.ireturn, 1) := by decide +kernel
theorem dX5_isLetter_0 : decode cX5_isLetter 0 = .ok (.iload_n 0, 1) := by decide +kernel
theorem dX5_isLetter_1 : decode cX5_isLetter 1 = .ok (.bipush 97, 2) := by decide +kernel
theorem dX5_isLetter_3 : decode cX5_isLetter 3 = .ok (.if_icmp .lt 13, 3) := by decide +kernel
theorem dX5_isLetter_6 : decode cX5_isLetter 6 = .ok (.iload_n 0, 1) := by decide +kernel
theorem dX5_isLetter_7 : decode cX5_isLetter 7 = .ok (.bipush 122, 2) := by decide +kernel
theorem dX5_isLetter_9 : decode cX5_isLetter 9 = .ok (.if_icmp .gt 7, 3) := by decide +kernel
theorem dX5_isLetter_12 : decode cX5_isLetter 12 = .ok (.iconst 1, 1) := by decide +kernel
theorem dX5_isLetter_13 : decode cX5_isLetter 13 = .ok (.goto 4, 3) := by decide +kernel
theorem dX5_isLetter_16 : decode cX5_isLetter 16 = .ok (.iconst 0, 1) := by decide +kernel
theorem dX5_isLetter_17 : decode cX5_isLetter 17 = .ok (.ireturn, 1) := by decide +kernel
theorem dX5_isDigit_0 : decode cX5_isDigit 0 = .ok (.iload_n 0, 1) := by decide +kernel
theorem dX5_isDigit_1 : decode cX5_isDigit 1 = .ok (.bipush 48, 2) := by decide +kernel
theorem dX5_isDigit_3 : decode cX5_isDigit 3 = .ok (.if_icmp .lt 13, 3) := by decide +kernel
theorem dX5_isDigit_6 : decode cX5_isDigit 6 = .ok (.iload_n 0, 1) := by decide +kernel
theorem dX5_isDigit_7 : decode cX5_isDigit 7 = .ok (.bipush 57, 2) := by decide +kernel
theorem dX5_isDigit_9 : decode cX5_isDigit 9 = .ok (.if_icmp .gt 7, 3) := by decide +kernel
theorem dX5_isDigit_12 : decode cX5_isDigit 12 = .ok (.iconst 1, 1) := by decide +kernel
theorem dX5_isDigit_13 : decode cX5_isDigit 13 = .ok (.goto 4, 3) := by decide +kernel
theorem dX5_isDigit_16 : decode cX5_isDigit 16 = .ok (.iconst 0, 1) := by decide +kernel
theorem dX5_isDigit_17 : decode cX5_isDigit 17 = .ok (.ireturn, 1) := by decide +kernel
theorem dX6_init_0 : decode cX6_init 0 = .ok (.aload_n 0, 1) := by decide +kernel
theorem dX6_init_1 : decode cX6_init 1 = .ok (.invokespecial 3, 3) := by decide +kernel
theorem dX6_init_4 : decode cX6_init 4 = .ok (.aload_n 0, 1) := by decide +kernel
theorem dX6_init_5 : decode cX6_init 5 = .ok (.iconst 3, 1) := by decide +kernel
theorem dX6_init_6 : decode cX6_init 6 = .ok (.putfield 9, 3) := by decide +kernel
theorem dX6_init_9 : decode cX6_init 9 = .ok (.aload_n 0, 1) := by decide +kernel
theorem dX6_init_10 : decode cX6_init 10 = .ok (.iconst 2, 1) := by decide +kernel
theorem dX6_init_11 : decode cX6_init 11 = .ok (.putfield 15, 3) := by decide +kernel
theorem dX6_init_14 : decode cX6_init 14 = .ok (.aload_n 0, 1) := by decide +kernel
theorem dX6_init_15 : decode cX6_init 15 = .ok (.iconst 3, 1) := by decide +kernel
theorem dX6_init_16 : decode cX6_init 16 = .ok (.putfield 18, 3) := by decide +kernel
theorem dX6_init_19 : decode cX6_init 19 = .ok (.aload_n 0, 1) := by decide +kernel
theorem dX6_init_20 : decode cX6_init 20 = .ok (.iconst 0, 1) := by decide +kernel
theorem dX6_init_21 : decode cX6_init 21 = .ok (.putfield 21, 3) := by decide +kernel
theorem dX6_init_24 : decode cX6_init 24 = .ok (.aload_n 0, 1) := by decide +kernel
theorem dX6_init_25 : decode cX6_init 25 = .ok (.iconst 0, 1) := by decide +kernel
theorem dX6_init_26 : decode cX6_init 26 = .ok (.putfield 24, 3) := by decide +kernel
theorem dX6_init_29 : decode cX6_init 29 = .ok (.aload_n 0, 1) := by decide +kernel
theorem dX6_init_30 : decode cX6_init 30 = .ok (.bipush 8, 2) := by decide +kernel
theorem dX6_init_32 : decode cX6_init 32 = .ok (.newarray .int, 2) := by decide +kernel
theorem dX6_init_34 : decode cX6_init 34 = .ok (.putfield 27, 3) := by decide +kernel
theorem dX6_init_37 : decode cX6_init 37 = .ok (.aload_n 0, 1) := by decide +kernel
theorem dX6_init_38 : decode cX6_init 38 = .ok (.bipush 8, 2) := by decide +kernel
theorem dX6_init_40 : decode cX6_init 40 = .ok (.newarray .int, 2) := by decide +kernel
theorem dX6_init_42 : decode cX6_init 42 = .ok (.putfield 31, 3) := by decide +kernel
theorem dX6_init_45 : decode cX6_init 45 = .ok (.aload_n 0, 1) := by decide +kernel
theorem dX6_init_46 : decode cX6_init 46 = .ok (.bipush 8, 2) := by decide +kernel
theorem dX6_init_48 : decode cX6_init 48 = .ok (.newarray .int, 2) := by decide +kernel
theorem dX6_init_50 : decode cX6_init 50 = .ok (.putfield 34, 3) := by decide +kernel
theorem dX6_init_53 : decode cX6_init 53 = .ok (.aload_n 0, 1) := by decide +kernel
theorem dX6_init_54 : decode cX6_init 54 = .ok (.bipush 6, 2) := by decide +kernel
theorem dX6_init_56 : decode cX6_init 56 = .ok (.newarray .int, 2) := by decide +kernel
theorem dX6_init_58 : decode cX6_init 58 = .ok (.putfield 37, 3) := by decide +kernel
theorem dX6_init_61 : decode cX6_init 61 = .ok (.aload_n 0, 1) := by decide +kernel
theorem dX6_init_62 : decode cX6_init 62 = .ok (.bipush 6, 2) := by decide +kernel
theorem dX6_init_64 : decode cX6_init 64 = .ok (.newarray .int, 2) := by decide +kernel
theorem dX6_init_66 : decode cX6_init 66 = .ok (.putfield 40, 3) := by decide +kernel
theorem dX6_init_69 : decode cX6_init 69 = .ok (.aload_n 0, 1) := by decide +kernel
theorem dX6_init_70 : decode cX6_init 70 = .ok (.bipush 6, 2) := by decide +kernel
theorem dX6_init_72 : decode cX6_init 72 = .ok (.newarray .int, 2) := by decide +kernel
theorem dX6_init_74 : decode cX6_init 74 = .ok (.putfield 43, 3) := by decide +kernel
theorem dX6_init_77 : decode cX6_init 77 = .ok (.return_, 1) := by decide +kernel
theorem dX6_reset_0 : decode cX6_reset 0 = .ok (.aload_n 0, 1) := by decide +kernel
theorem dX6_reset_1 : decode cX6_reset 1 = .ok (.iconst 3, 1) := by decide +kernel
theorem dX6_reset_2 : decode cX6_reset 2 = .ok (.putfield 9, 3) := by decide +kernel
theorem dX6_reset_5 : decode cX6_reset 5 = .ok (.aload_n 0, 1) := by decide +kernel
theorem dX6_reset_6 : decode cX6_reset 6 = .ok (.iconst 2, 1) := by decide +kernel
theorem dX6_reset_7 : decode cX6_reset 7 = .ok (.putfield 15, 3) := by decide +kernel
theorem dX6_reset_10 : decode cX6_reset 10 = .ok (.aload_n 0, 1) := by decide +kernel
theorem dX6_reset_11 : decode cX6_reset 11 = .ok (.iconst 3, 1) := by decide +kernel
theorem dX6_reset_12 : decode cX6_reset 12 = .ok (.putfield 18, 3) := by decide +kernel
theorem dX6_reset_15 : decode cX6_reset 15 = .ok (.aload_n 0, 1) := by decide +kernel
theorem dX6_reset_16 : decode cX6_reset 16 = .ok (.iconst 0, 1) := by decide +kernel
theorem dX6_reset_17 : decode cX6_reset 17 = .ok (.putfield 21, 3) := by decide +kernel
theorem dX6_reset_20 : decode cX6_reset 20 = .ok (.aload_n 0, 1) := by decide +kernel
theorem dX6_reset_21 : decode cX6_reset 21 = .ok (.iconst 0, 1) := by decide +kernel
theorem dX6_reset_22 : decode cX6_reset 22 = .ok (.putfield 24, 3) := by decide +kernel
theorem dX6_reset_25 : decode cX6_reset 25 = .ok (.return_, 1) := by decide +kernel
theorem dX6_addTrain_0 : decode cX6_addTrain 0 = .ok (.aload_n 0, 1) := by decide +kernel
theorem dX6_addTrain_1 : decode cX6_addTrain 1 = .ok (.getfield 27, 3) := by decide +kernel
theorem dX6_addTrain_4 : decode cX6_addTrain 4 = .ok (.aload_n 0, 1) := by decide +kernel
theorem dX6_addTrain_5 : decode cX6_addTrain 5 = .ok (.getfield 21, 3) := by decide +kernel
theorem dX6_addTrain_8 : decode cX6_addTrain 8 = .ok (.iload_n 1, 1) := by decide +kernel
theorem dX6_addTrain_9 : decode cX6_addTrain 9 = .ok (.invokestatic 46, 3) := by decide +kernel
theorem dX6_addTrain_12 : decode cX6_addTrain 12 = .ok (.aload_n 0, 1) := by decide +kernel
theorem dX6_addTrain_13 : decode cX6_addTrain 13 = .ok (.getfield 31, 3) := by decide +kernel
theorem dX6_addTrain_16 : decode cX6_addTrain 16 = .ok (.aload_n 0, 1) := by decide +kernel
theorem dX6_addTrain_17 : decode cX6_addTrain 17 = .ok (.getfield 21, 3) := by decide +kernel
theorem dX6_addTrain_20 : decode cX6_addTrain 20 = .ok (.iload_n 2, 1) := by decide +kernel
theorem dX6_addTrain_21 : decode cX6_addTrain 21 = .ok (.invokestatic 46, 3) := by decide +kernel
theorem dX6_addTrain_24 : decode cX6_addTrain 24 = .ok (.aload_n 0, 1) := by decide +kernel
theorem dX6_addTrain_25 : decode cX6_addTrain 25 = .ok (.getfield 34, 3) := by decide +kernel
theorem dX6_addTrain_28 : decode cX6_addTrain 28 = .ok (.aload_n 0, 1) := by decide +kernel
theorem dX6_addTrain_29 : decode cX6_addTrain 29 = .ok (.getfield 21, 3) := by decide +kernel
theorem dX6_addTrain_32 : decode cX6_addTrain 32 = .ok (.iload_n 3, 1) := by decide +kernel
theorem dX6_addTrain_33 : decode cX6_addTrain 33 = .ok (.invokestatic 46, 3) := by decide +kernel
theorem dX6_addTrain_36 : decode cX6_addTrain 36 = .ok (.aload_n 0, 1) := by decide +kernel
theorem dX6_addTrain_37 : decode cX6_addTrain 37 = .ok (.dup, 1) := by decide +kernel
theorem dX6_addTrain_38 : decode cX6_addTrain 38 = .ok (.getfield 21, 3) := by decide +kernel
theorem dX6_addTrain_41 : decode cX6_addTrain 41 = .ok (.iconst 1, 1) := by decide +kernel
theorem dX6_addTrain_42 : decode cX6_addTrain 42 = .ok (.iadd, 1) := by decide +kernel
theorem dX6_addTrain_43 : decode cX6_addTrain 43 = .ok (.putfield 21, 3) := by decide +kernel
theorem dX6_addTrain_46 : decode cX6_addTrain 46 = .ok (.return_, 1) := by decide +kernel
theorem dX6_addGroup_0 : decode cX6_addGroup 0 = .ok (.aload_n 0, 1) := by decide +kernel
theorem dX6_addGroup_1 : decode cX6_addGroup 1 = .ok (.getfield 37, 3) := by decide +kernel
theorem dX6_addGroup_4 : decode cX6_addGroup 4 = .ok (.aload_n 0, 1) := by decide +kernel
theorem dX6_addGroup_5 : decode cX6_addGroup 5 = .ok (.getfield 24, 3) := by decide +kernel
theorem dX6_addGroup_8 : decode cX6_addGroup 8 = .ok (.iload_n 1, 1) := by decide +kernel
theorem dX6_addGroup_9 : decode cX6_addGroup 9 = .ok (.invokestatic 46, 3) := by decide +kernel
theorem dX6_addGroup_12 : decode cX6_addGroup 12 = .ok (.aload_n 0, 1) := by decide +kernel
theorem dX6_addGroup_13 : decode cX6_addGroup 13 = .ok (.getfield 40, 3) := by decide +kernel
theorem dX6_addGroup_16 : decode cX6_addGroup 16 = .ok (.aload_n 0, 1) := by decide +kernel
theorem dX6_addGroup_17 : decode cX6_addGroup 17 = .ok (.getfield 24, 3) := by decide +kernel
theorem dX6_addGroup_20 : decode cX6_addGroup 20 = .ok (.iload_n 2, 1) := by decide +kernel
theorem dX6_addGroup_21 : decode cX6_addGroup 21 = .ok (.invokestatic 46, 3) := by decide +kernel
theorem dX6_addGroup_24 : decode cX6_addGroup 24 = .ok (.aload_n 0, 1) := by decide +kernel
theorem dX6_addGroup_25 : decode cX6_addGroup 25 = .ok (.getfield 43, 3) := by decide +kernel
theorem dX6_addGroup_28 : decode cX6_addGroup 28 = .ok (.aload_n 0, 1) := by decide +kernel
theorem dX6_addGroup_29 : decode cX6_addGroup 29 = .ok (.getfield 24, 3) := by decide +kernel
theorem dX6_addGroup_32 : decode cX6_addGroup 32 = .ok (.iload_n 3, 1) := by decide +kernel
theorem dX6_addGroup_33 : decode cX6_addGroup 33 = .ok (.invokestatic 46, 3) := by decide +kernel
theorem dX6_addGroup_36 : decode cX6_addGroup 36 = .ok (.aload_n 0, 1) := by decide +kernel
theorem dX6_addGroup_37 : decode cX6_addGroup 37 = .ok (.dup, 1) := by decide +kernel
theorem dX6_addGroup_38 : decode cX6_addGroup 38 = .ok (.getfield 24, 3) := by decide +kernel
theorem dX6_addGroup_41 : decode cX6_addGroup 41 = .ok (.iconst 1, 1) := by decide +kernel
theorem dX6_addGroup_42 : decode cX6_addGroup 42 = .ok (.iadd, 1) := by decide +kernel
theorem dX6_addGroup_43 : decode cX6_addGroup 43 = .ok (.putfield 24, 3) := by decide +kernel
theorem dX6_addGroup_46 : decode cX6_addGroup 46 = .ok (.return_, 1) := by decide +kernel
theorem dX6_groupsOf_0 : decode cX6_groupsOf 0 = .ok (.iconst 0, 1) := by decide +kernel
theorem dX6_groupsOf_1 : decode cX6_groupsOf 1 = .ok (.istore_n 2, 1) := by decide +kernel
theorem dX6_groupsOf_2 : decode cX6_groupsOf 2 = .ok (.iconst 0, 1) := by decide +kernel
theorem dX6_groupsOf_3 : decode cX6_groupsOf 3 = .ok (.istore_n 3, 1) := by decide +kernel
theorem dX6_groupsOf_4 : decode cX6_groupsOf 4 = .ok (.iload_n 3, 1) := by decide +kernel
theorem dX6_groupsOf_5 : decode cX6_groupsOf 5 = .ok (.aload_n 0, 1) := by decide +kernel
theorem dX6_groupsOf_6 : decode cX6_groupsOf 6 = .ok (.getfield 24, 3) := by decide +kernel
theorem dX6_groupsOf_9 : decode cX6_groupsOf 9 = .ok (.if_icmp .ge 24, 3) := by decide +kernel
theorem dX6_groupsOf_12 : decode cX6_groupsOf 12 = .ok (.aload_n 0, 1) := by decide +kernel
theorem dX6_groupsOf_13 : decode cX6_groupsOf 13 = .ok (.getfield 40, 3) := by decide +kernel
theorem dX6_groupsOf_16 : decode cX6_groupsOf 16 = .ok (.iload_n 3, 1) := by decide +kernel
theorem dX6_groupsOf_17 : decode cX6_groupsOf 17 = .ok (.invokestatic 50, 3) := by decide +kernel
theorem dX6_groupsOf_20 : decode cX6_groupsOf 20 = .ok (.iload_n 1, 1) := by decide +kernel
theorem dX6_groupsOf_21 : decode cX6_groupsOf 21 = .ok (.if_icmp .ne 6, 3) := by decide +kernel
theorem dX6_groupsOf_24 : decode cX6_groupsOf 24 = .ok (.iinc 2 1, 3) := by decide +kernel
theorem dX6_groupsOf_27 : decode cX6_groupsOf 27 = .ok (.iinc 3 1, 3) := by decide +kernel
theorem dX6_groupsOf_30 : decode cX6_groupsOf 30 = .ok (.goto (-26), 3) := by decide +kernel
theorem dX6_groupsOf_33 : decode cX6_groupsOf 33 = .ok (.iload_n 2, 1) := by decide +kernel
theorem dX6_groupsOf_34 : decode cX6_groupsOf 34 = .ok (.ireturn, 1) := by decide +kernel
theorem dX6_choiceOf_0 : decode cX6_choiceOf 0 = .ok (.iload_n 2, 1) := by decide +kernel
theorem dX6_choiceOf_1 : decode cX6_choiceOf 1 = .ok (.aload_n 0, 1) := by decide +kernel
theorem dX6_choiceOf_2 : decode cX6_choiceOf 2 = .ok (.getfield 40, 3) := by decide +kernel
theorem dX6_choiceOf_5 : decode cX6_choiceOf 5 = .ok (.iload_n 1, 1) := by decide +kernel
theorem dX6_choiceOf_6 : decode cX6_choiceOf 6 = .ok (.invokestatic 50, 3) := by decide +kernel
theorem dX6_choiceOf_9 : decode cX6_choiceOf 9 = .ok (.invokestatic 54, 3) := by decide +kernel
theorem dX6_choiceOf_12 : decode cX6_choiceOf 12 = .ok (.iconst 1, 1) := by decide +kernel
theorem dX6_choiceOf_13 : decode cX6_choiceOf 13 = .ok (.if_icmp .ne 12, 3) := by decide +kernel
theorem dX6_choiceOf_16 : decode cX6_choiceOf 16 = .ok (.aload_n 0, 1) := by decide +kernel
theorem dX6_choiceOf_17 : decode cX6_choiceOf 17 = .ok (.getfield 40, 3) := by decide +kernel
theorem dX6_choiceOf_20 : decode cX6_choiceOf 20 = .ok (.iload_n 1, 1) := by decide +kernel
theorem dX6_choiceOf_21 : decode cX6_choiceOf 21 = .ok (.invokestatic 50, 3) := by decide +kernel
theorem dX6_choiceOf_24 : decode cX6_choiceOf 24 = .ok (.ireturn, 1) := by decide +kernel
theorem dX6_choiceOf_25 : decode cX6_choiceOf 25 = .ok (.iload_n 2, 1) := by decide +kernel
theorem dX6_choiceOf_26 : decode cX6_choiceOf 26 = .ok (.aload_n 0, 1) := by decide +kernel
theorem dX6_choiceOf_27 : decode cX6_choiceOf 27 = .ok (.getfield 43, 3) := by decide +kernel
theorem dX6_choiceOf_30 : decode cX6_choiceOf 30 = .ok (.iload_n 1, 1) := by decide +kernel
theorem dX6_choiceOf_31 : decode cX6_choiceOf 31 = .ok (.invokestatic 50, 3) := by decide +kernel
theorem dX6_choiceOf_34 : decode cX6_choiceOf 34 = .ok (.invokestatic 54, 3) := by decide +kernel
theorem dX6_choiceOf_37 : decode cX6_choiceOf 37 = .ok (.iconst 1, 1) := by decide +kernel
theorem dX6_choiceOf_38 : decode cX6_choiceOf 38 = .ok (.if_icmp .ne 12, 3) := by decide +kernel
theorem dX6_choiceOf_41 : decode cX6_choiceOf 41 = .ok (.aload_n 0, 1) := by decide +kernel
theorem dX6_choiceOf_42 : decode cX6_choiceOf 42 = .ok (.getfield 43, 3) := by decide +kernel
theorem dX6_choiceOf_45 : decode cX6_choiceOf 45 = .ok (.iload_n 1, 1) := by decide +kernel
theorem dX6_choiceOf_46 : decode cX6_choiceOf 46 = .ok (.invokestatic 50, 3) := by decide +kernel
theorem dX6_choiceOf_49 : decode cX6_choiceOf 49 = .ok (.ireturn, 1) := by decide +kernel
theorem dX6_choiceOf_50 : decode cX6_choiceOf 50 = .ok (.iload_n 2, 1) := by decide +kernel
theorem dX6_choiceOf_51 : decode cX6_choiceOf 51 = .ok (.invokestatic 58, 3) := by decide +kernel
theorem dX6_choiceOf_54 : decode cX6_choiceOf 54 = .ok (.ireturn, 1) := by decide +kernel
theorem dX7_init_0 : decode cX7_init 0 = .ok (.aload_n 0, 1) := by decide +kernel
theorem dX7_init_1 : decode cX7_init 1 = .ok (.invokespecial 1, 3) := by decide +kernel
theorem dX7_init_4 : decode cX7_init 4 = .ok (.aload_n 0, 1) := by decide +kernel
theorem dX7_init_5 : decode cX7_init 5 = .ok (.new 7, 3) := by decide +kernel
theorem dX7_init_8 : decode cX7_init 8 = .ok (.dup, 1) := by decide +kernel
theorem dX7_init_9 : decode cX7_init 9 = .ok (.invokespecial 9, 3) := by decide +kernel
theorem dX7_init_12 : decode cX7_init 12 = .ok (.putfield 10, 3) := by decide +kernel
theorem dX7_init_15 : decode cX7_init 15 = .ok (.aload_n 0, 1) := by decide +kernel
theorem dX7_init_16 : decode cX7_init 16 = .ok (.new 7, 3) := by decide +kernel
theorem dX7_init_19 : decode cX7_init 19 = .ok (.dup, 1) := by decide +kernel
theorem dX7_init_20 : decode cX7_init 20 = .ok (.invokespecial 9, 3) := by decide +kernel
theorem dX7_init_23 : decode cX7_init 23 = .ok (.putfield 16, 3) := by decide +kernel
theorem dX7_init_26 : decode cX7_init 26 = .ok (.aload_n 0, 1) := by decide +kernel
theorem dX7_init_27 : decode cX7_init 27 = .ok (.new 19, 3) := by decide +kernel
theorem dX7_init_30 : decode cX7_init 30 = .ok (.dup, 1) := by decide +kernel
theorem dX7_init_31 : decode cX7_init 31 = .ok (.invokespecial 21, 3) := by decide +kernel
theorem dX7_init_34 : decode cX7_init 34 = .ok (.putfield 22, 3) := by decide +kernel
theorem dX7_init_37 : decode cX7_init 37 = .ok (.aload_n 0, 1) := by decide +kernel
theorem dX7_init_38 : decode cX7_init 38 = .ok (.new 26, 3) := by decide +kernel
theorem dX7_init_41 : decode cX7_init 41 = .ok (.dup, 1) := by decide +kernel
theorem dX7_init_42 : decode cX7_init 42 = .ok (.invokespecial 28, 3) := by decide +kernel
theorem dX7_init_45 : decode cX7_init 45 = .ok (.putfield 29, 3) := by decide +kernel
theorem dX7_init_48 : decode cX7_init 48 = .ok (.aload_n 0, 1) := by decide +kernel
theorem dX7_init_49 : decode cX7_init 49 = .ok (.new 33, 3) := by decide +kernel
theorem dX7_init_52 : decode cX7_init 52 = .ok (.dup, 1) := by decide +kernel
theorem dX7_init_53 : decode cX7_init 53 = .ok (.invokespecial 35, 3) := by decide +kernel
theorem dX7_init_56 : decode cX7_init 56 = .ok (.putfield 36, 3) := by decide +kernel
theorem dX7_init_59 : decode cX7_init 59 = .ok (.aload_n 0, 1) := by decide +kernel
theorem dX7_init_60 : decode cX7_init 60 = .ok (.new 40, 3) := by decide +kernel
theorem dX7_init_63 : decode cX7_init 63 = .ok (.dup, 1) := by decide +kernel
theorem dX7_init_64 : decode cX7_init 64 = .ok (.invokespecial 42, 3) := by decide +kernel
theorem dX7_init_67 : decode cX7_init 67 = .ok (.putfield 43, 3) := by decide +kernel
theorem dX7_init_70 : decode cX7_init 70 = .ok (.aload_n 0, 1) := by decide +kernel
theorem dX7_init_71 : decode cX7_init 71 = .ok (.new 47, 3) := by decide +kernel
theorem dX7_init_74 : decode cX7_init 74 = .ok (.dup, 1) := by decide +kernel
theorem dX7_init_75 : decode cX7_init 75 = .ok (.invokespecial 49, 3) := by decide +kernel
theorem dX7_init_78 : decode cX7_init 78 = .ok (.putfield 50, 3) := by decide +kernel
theorem dX7_init_81 : decode cX7_init 81 = .ok (.aload_n 0, 1) := by decide +kernel
theorem dX7_init_82 : decode cX7_init 82 = .ok (.new 54, 3) := by decide +kernel
theorem dX7_init_85 : decode cX7_init 85 = .ok (.dup, 1) := by decide +kernel
theorem dX7_init_86 : decode cX7_init 86 = .ok (.invokespecial 56, 3) := by decide +kernel
theorem dX7_init_89 : decode cX7_init 89 = .ok (.putfield 57, 3) := by decide +kernel
theorem dX7_init_92 : decode cX7_init 92 = .ok (.aload_n 0, 1) := by decide +kernel
theorem dX7_init_93 : decode cX7_init 93 = .ok (.new 54, 3) := by decide +kernel
theorem dX7_init_96 : decode cX7_init 96 = .ok (.dup, 1) := by decide +kernel
theorem dX7_init_97 : decode cX7_init 97 = .ok (.invokespecial 56, 3) := by decide +kernel
theorem dX7_init_100 : decode cX7_init 100 = .ok (.putfield 61, 3) := by decide +kernel
theorem dX7_init_103 : decode cX7_init 103 = .ok (.aload_n 0, 1) := by decide +kernel
theorem dX7_init_104 : decode cX7_init 104 = .ok (.lconst 0, 1) := by decide +kernel
theorem dX7_init_105 : decode cX7_init 105 = .ok (.putfield 64, 3) := by decide +kernel
theorem dX7_init_108 : decode cX7_init 108 = .ok (.return_, 1) := by decide +kernel
theorem dX7_type_0 : decode cX7_type 0 = .ok (.iload_n 1, 1) := by decide +kernel
theorem dX7_type_1 : decode cX7_type 1 = .ok (.sipush 256, 3) := by decide +kernel
theorem dX7_type_4 : decode cX7_type 4 = .ok (.invokestatic 68, 3) := by decide +kernel
theorem dX7_type_7 : decode cX7_type 7 = .ok (.ifCond .ne 5, 3) := by decide +kernel
theorem dX7_type_10 : decode cX7_type 10 = .ok (.iconst (-1), 1) := by decide +kernel
theorem dX7_type_11 : decode cX7_type 11 = .ok (.ireturn, 1) := by decide +kernel
theorem dX7_type_12 : decode cX7_type 12 = .ok (.aload_n 0, 1) := by decide +kernel
theorem dX7_type_13 : decode cX7_type 13 = .ok (.getfield 22, 3) := by decide +kernel
theorem dX7_type_16 : decode cX7_type 16 = .ok (.getfield 72, 3) := by decide +kernel
theorem dX7_type_19 : decode cX7_type 19 = .ok (.bipush 120, 2) := by decide +kernel
theorem dX7_type_21 : decode cX7_type 21 = .ok (.if_icmp .lt 6, 3) := by decide +kernel
theorem dX7_type_24 : decode cX7_type 24 = .ok (.bipush (-3), 2) := by decide +kernel
theorem dX7_type_26 : decode cX7_type 26 = .ok (.ireturn, 1) := by decide +kernel
theorem dX7_type_27 : decode cX7_type 27 = .ok (.aload_n 0, 1) := by decide +kernel
theorem dX7_type_28 : decode cX7_type 28 = .ok (.getfield 22, 3) := by decide +kernel
theorem dX7_type_31 : decode cX7_type 31 = .ok (.iload_n 1, 1) := by decide +kernel
theorem dX7_type_32 : decode cX7_type 32 = .ok (.invokevirtual 76, 3) := by decide +kernel
theorem dX7_type_35 : decode cX7_type 35 = .ok (.aload_n 0, 1) := by decide +kernel
theorem dX7_type_36 : decode cX7_type 36 = .ok (.getfield 22, 3) := by decide +kernel
theorem dX7_type_39 : decode cX7_type 39 = .ok (.getfield 72, 3) := by decide +kernel
theorem dX7_type_42 : decode cX7_type 42 = .ok (.ireturn, 1) := by decide +kernel
theorem dX7_clear_0 : decode cX7_clear 0 = .ok (.aload_n 0, 1) := by decide +kernel
theorem dX7_clear_1 : decode cX7_clear 1 = .ok (.getfield 22, 3) := by decide +kernel
theorem dX7_clear_4 : decode cX7_clear 4 = .ok (.getfield 72, 3) := by decide +kernel
theorem dX7_clear_7 : decode cX7_clear 7 = .ok (.istore_n 1, 1) := by decide +kernel
theorem dX7_clear_8 : decode cX7_clear 8 = .ok (.aload_n 0, 1) := by decide +kernel
theorem dX7_clear_9 : decode cX7_clear 9 = .ok (.getfield 22, 3) := by decide +kernel
theorem dX7_clear_12 : decode cX7_clear 12 = .ok (.iconst 0, 1) := by decide +kernel
theorem dX7_clear_13 : decode cX7_clear 13 = .ok (.putfield 72, 3) := by decide +kernel
theorem dX7_clear_16 : decode cX7_clear 16 = .ok (.iload_n 1, 1) := by decide +kernel
theorem dX7_clear_17 : decode cX7_clear 17 = .ok (.ireturn, 1) := by decide +kernel
theorem dX7_town_0 : decode cX7_town 0 = .ok (.aload_n 0, 1) := by decide +kernel
theorem dX7_town_1 : decode cX7_town 1 = .ok (.getfield 22, 3) := by decide +kernel
theorem dX7_town_4 : decode cX7_town 4 = .ok (.aload_n 0, 1) := by decide +kernel
theorem dX7_town_5 : decode cX7_town 5 = .ok (.getfield 16, 3) := by decide +kernel
theorem dX7_town_8 : decode cX7_town 8 = .ok (.invokevirtual 80, 3) := by decide +kernel
theorem dX7_town_11 : decode cX7_town 11 = .ok (.istore_n 1, 1) := by decide +kernel
theorem dX7_town_12 : decode cX7_town 12 = .ok (.iload_n 1, 1) := by decide +kernel
theorem dX7_town_13 : decode cX7_town 13 = .ok (.ifCond .ge 5, 3) := by decide +kernel
theorem dX7_town_16 : decode cX7_town 16 = .ok (.iload_n 1, 1) := by decide +kernel
theorem dX7_town_17 : decode cX7_town 17 = .ok (.ireturn, 1) := by decide +kernel
theorem dX7_town_18 : decode cX7_town 18 = .ok (.aload_n 0, 1) := by decide +kernel
theorem dX7_town_19 : decode cX7_town 19 = .ok (.getfield 16, 3) := by decide +kernel
theorem dX7_town_22 : decode cX7_town 22 = .ok (.astore_n 2, 1) := by decide +kernel
theorem dX7_town_23 : decode cX7_town 23 = .ok (.aload_n 0, 1) := by decide +kernel
theorem dX7_town_24 : decode cX7_town 24 = .ok (.aload_n 0, 1) := by decide +kernel
theorem dX7_town_25 : decode cX7_town 25 = .ok (.getfield 10, 3) := by decide +kernel
theorem dX7_town_28 : decode cX7_town 28 = .ok (.putfield 16, 3) := by decide +kernel
theorem dX7_town_31 : decode cX7_town 31 = .ok (.aload_n 0, 1) := by decide +kernel
theorem dX7_town_32 : decode cX7_town 32 = .ok (.aload_n 2, 1) := by decide +kernel
theorem dX7_town_33 : decode cX7_town 33 = .ok (.putfield 10, 3) := by decide +kernel
theorem dX7_town_36 : decode cX7_town 36 = .ok (.aload_n 0, 1) := by decide +kernel
theorem dX7_town_37 : decode cX7_town 37 = .ok (.getfield 22, 3) := by decide +kernel
theorem dX7_town_40 : decode cX7_town 40 = .ok (.iconst 0, 1) := by decide +kernel
theorem dX7_town_41 : decode cX7_town 41 = .ok (.putfield 72, 3) := by decide +kernel
theorem dX7_town_44 : decode cX7_town 44 = .ok (.aload_n 0, 1) := by decide +kernel
theorem dX7_town_45 : decode cX7_town 45 = .ok (.getfield 29, 3) := by decide +kernel
theorem dX7_town_48 : decode cX7_town 48 = .ok (.aload_n 0, 1) := by decide +kernel
theorem dX7_town_49 : decode cX7_town 49 = .ok (.getfield 10, 3) := by decide +kernel
theorem dX7_town_52 : decode cX7_town 52 = .ok (.invokevirtual 84, 3) := by decide +kernel
theorem dX7_town_55 : decode cX7_town 55 = .ok (.aload_n 0, 1) := by decide +kernel
theorem dX7_town_56 : decode cX7_town 56 = .ok (.getfield 36, 3) := by decide +kernel
theorem dX7_town_59 : decode cX7_town 59 = .ok (.iconst 0, 1) := by decide +kernel
theorem dX7_town_60 : decode cX7_town 60 = .ok (.putfield 88, 3) := by decide +kernel
theorem dX7_town_63 : decode cX7_town 63 = .ok (.aload_n 0, 1) := by decide +kernel
theorem dX7_town_64 : decode cX7_town 64 = .ok (.getfield 50, 3) := by decide +kernel
theorem dX7_town_67 : decode cX7_town 67 = .ok (.iconst 0, 1) := by decide +kernel
theorem dX7_town_68 : decode cX7_town 68 = .ok (.putfield 91, 3) := by decide +kernel
theorem dX7_town_71 : decode cX7_town 71 = .ok (.aload_n 0, 1) := by decide +kernel
theorem dX7_town_72 : decode cX7_town 72 = .ok (.getfield 57, 3) := by decide +kernel
theorem dX7_town_75 : decode cX7_town 75 = .ok (.iconst 0, 1) := by decide +kernel
theorem dX7_town_76 : decode cX7_town 76 = .ok (.putfield 94, 3) := by decide +kernel
theorem dX7_town_79 : decode cX7_town 79 = .ok (.aload_n 0, 1) := by decide +kernel
theorem dX7_town_80 : decode cX7_town 80 = .ok (.getfield 61, 3) := by decide +kernel
theorem dX7_town_83 : decode cX7_town 83 = .ok (.iconst 0, 1) := by decide +kernel
theorem dX7_town_84 : decode cX7_town 84 = .ok (.putfield 94, 3) := by decide +kernel
theorem dX7_town_87 : decode cX7_town 87 = .ok (.iload_n 1, 1) := by decide +kernel
theorem dX7_town_88 : decode cX7_town 88 = .ok (.ireturn, 1) := by decide +kernel
theorem dX7_train_0 : decode cX7_train 0 = .ok (.iload_n 1, 1) := by decide +kernel
theorem dX7_train_1 : decode cX7_train 1 = .ok (.aload_n 0, 1) := by decide +kernel
theorem dX7_train_2 : decode cX7_train 2 = .ok (.getfield 10, 3) := by decide +kernel
theorem dX7_train_5 : decode cX7_train 5 = .ok (.getfield 98, 3) := by decide +kernel
theorem dX7_train_8 : decode cX7_train 8 = .ok (.invokestatic 68, 3) := by decide +kernel
theorem dX7_train_11 : decode cX7_train 11 = .ok (.ifCond .ne 5, 3) := by decide +kernel
theorem dX7_train_14 : decode cX7_train 14 = .ok (.iconst (-1), 1) := by decide +kernel
theorem dX7_train_15 : decode cX7_train 15 = .ok (.ireturn, 1) := by decide +kernel
theorem dX7_train_16 : decode cX7_train 16 = .ok (.iload_n 2, 1) := by decide +kernel
theorem dX7_train_17 : decode cX7_train 17 = .ok (.tableswitch 79 0 3 #[31, 43, 55, 67], 31) := by decide +kernel
theorem dX7_train_48 : decode cX7_train 48 = .ok (.aload_n 0, 1) := by decide +kernel
theorem dX7_train_49 : decode cX7_train 49 = .ok (.getfield 29, 3) := by decide +kernel
theorem dX7_train_52 : decode cX7_train 52 = .ok (.getfield 101, 3) := by decide +kernel
theorem dX7_train_55 : decode cX7_train 55 = .ok (.iload_n 1, 1) := by decide +kernel
theorem dX7_train_56 : decode cX7_train 56 = .ok (.invokestatic 105, 3) := by decide +kernel
theorem dX7_train_59 : decode cX7_train 59 = .ok (.ireturn, 1) := by decide +kernel
theorem dX7_train_60 : decode cX7_train 60 = .ok (.aload_n 0, 1) := by decide +kernel
theorem dX7_train_61 : decode cX7_train 61 = .ok (.getfield 10, 3) := by decide +kernel
theorem dX7_train_64 : decode cX7_train 64 = .ok (.getfield 109, 3) := by decide +kernel
theorem dX7_train_67 : decode cX7_train 67 = .ok (.iload_n 1, 1) := by decide +kernel
theorem dX7_train_68 : decode cX7_train 68 = .ok (.invokestatic 105, 3) := by decide +kernel
theorem dX7_train_71 : decode cX7_train 71 = .ok (.ireturn, 1) := by decide +kernel
theorem dX7_train_72 : decode cX7_train 72 = .ok (.aload_n 0, 1) := by decide +kernel
theorem dX7_train_73 : decode cX7_train 73 = .ok (.getfield 29, 3) := by decide +kernel
theorem dX7_train_76 : decode cX7_train 76 = .ok (.getfield 112, 3) := by decide +kernel
theorem dX7_train_79 : decode cX7_train 79 = .ok (.iload_n 1, 1) := by decide +kernel
theorem dX7_train_80 : decode cX7_train 80 = .ok (.invokestatic 105, 3) := by decide +kernel
theorem dX7_train_83 : decode cX7_train 83 = .ok (.ireturn, 1) := by decide +kernel
theorem dX7_train_84 : decode cX7_train 84 = .ok (.aload_n 0, 1) := by decide +kernel
theorem dX7_train_85 : decode cX7_train 85 = .ok (.getfield 29, 3) := by decide +kernel
theorem dX7_train_88 : decode cX7_train 88 = .ok (.getfield 115, 3) := by decide +kernel
theorem dX7_train_91 : decode cX7_train 91 = .ok (.iload_n 1, 1) := by decide +kernel
theorem dX7_train_92 : decode cX7_train 92 = .ok (.invokestatic 118, 3) := by decide +kernel
theorem dX7_train_95 : decode cX7_train 95 = .ok (.ireturn, 1) := by decide +kernel
theorem dX7_train_96 : decode cX7_train 96 = .ok (.iconst (-1), 1) := by decide +kernel
theorem dX7_train_97 : decode cX7_train 97 = .ok (.ireturn, 1) := by decide +kernel
theorem dX7_group_0 : decode cX7_group 0 = .ok (.iload_n 1, 1) := by decide +kernel
theorem dX7_group_1 : decode cX7_group 1 = .ok (.aload_n 0, 1) := by decide +kernel
theorem dX7_group_2 : decode cX7_group 2 = .ok (.getfield 10, 3) := by decide +kernel
theorem dX7_group_5 : decode cX7_group 5 = .ok (.getfield 122, 3) := by decide +kernel
theorem dX7_group_8 : decode cX7_group 8 = .ok (.invokestatic 68, 3) := by decide +kernel
theorem dX7_group_11 : decode cX7_group 11 = .ok (.ifCond .ne 5, 3) := by decide +kernel
theorem dX7_group_14 : decode cX7_group 14 = .ok (.iconst (-1), 1) := by decide +kernel
theorem dX7_group_15 : decode cX7_group 15 = .ok (.ireturn, 1) := by decide +kernel
theorem dX7_group_16 : decode cX7_group 16 = .ok (.iload_n 2, 1) := by decide +kernel
theorem dX7_group_17 : decode cX7_group 17 = .ok (.tableswitch 79 0 3 #[31, 43, 55, 67], 31) := by decide +kernel
theorem dX7_group_48 : decode cX7_group 48 = .ok (.aload_n 0, 1) := by decide +kernel
theorem dX7_group_49 : decode cX7_group 49 = .ok (.getfield 10, 3) := by decide +kernel
theorem dX7_group_52 : decode cX7_group 52 = .ok (.getfield 125, 3) := by decide +kernel
theorem dX7_group_55 : decode cX7_group 55 = .ok (.iload_n 1, 1) := by decide +kernel
theorem dX7_group_56 : decode cX7_group 56 = .ok (.invokestatic 105, 3) := by decide +kernel
theorem dX7_group_59 : decode cX7_group 59 = .ok (.ireturn, 1) := by decide +kernel
theorem dX7_group_60 : decode cX7_group 60 = .ok (.aload_n 0, 1) := by decide +kernel
theorem dX7_group_61 : decode cX7_group 61 = .ok (.getfield 10, 3) := by decide +kernel
theorem dX7_group_64 : decode cX7_group 64 = .ok (.getfield 128, 3) := by decide +kernel
theorem dX7_group_67 : decode cX7_group 67 = .ok (.iload_n 1, 1) := by decide +kernel
theorem dX7_group_68 : decode cX7_group 68 = .ok (.invokestatic 105, 3) := by decide +kernel
theorem dX7_group_71 : decode cX7_group 71 = .ok (.ireturn, 1) := by decide +kernel
theorem dX7_group_72 : decode cX7_group 72 = .ok (.aload_n 0, 1) := by decide +kernel
theorem dX7_group_73 : decode cX7_group 73 = .ok (.getfield 10, 3) := by decide +kernel
theorem dX7_group_76 : decode cX7_group 76 = .ok (.getfield 131, 3) := by decide +kernel
theorem dX7_group_79 : decode cX7_group 79 = .ok (.iload_n 1, 1) := by decide +kernel
theorem dX7_group_80 : decode cX7_group 80 = .ok (.invokestatic 105, 3) := by decide +kernel
theorem dX7_group_83 : decode cX7_group 83 = .ok (.ireturn, 1) := by decide +kernel
theorem dX7_group_84 : decode cX7_group 84 = .ok (.aload_n 0, 1) := by decide +kernel
theorem dX7_group_85 : decode cX7_group 85 = .ok (.getfield 29, 3) := by decide +kernel
theorem dX7_group_88 : decode cX7_group 88 = .ok (.getfield 134, 3) := by decide +kernel
theorem dX7_group_91 : decode cX7_group 91 = .ok (.iload_n 1, 1) := by decide +kernel
theorem dX7_group_92 : decode cX7_group 92 = .ok (.invokestatic 118, 3) := by decide +kernel
theorem dX7_group_95 : decode cX7_group 95 = .ok (.ireturn, 1) := by decide +kernel
theorem dX7_group_96 : decode cX7_group 96 = .ok (.iconst (-1), 1) := by decide +kernel
theorem dX7_group_97 : decode cX7_group 97 = .ok (.ireturn, 1) := by decide +kernel
theorem dX7_votes_0 : decode cX7_votes 0 = .ok (.iload_n 1, 1) := by decide +kernel
theorem dX7_votes_1 : decode cX7_votes 1 = .ok (.aload_n 0, 1) := by decide +kernel
theorem dX7_votes_2 : decode cX7_votes 2 = .ok (.getfield 10, 3) := by decide +kernel
theorem dX7_votes_5 : decode cX7_votes 5 = .ok (.getfield 137, 3) := by decide +kernel
theorem dX7_votes_8 : decode cX7_votes 8 = .ok (.invokestatic 68, 3) := by decide +kernel
theorem dX7_votes_11 : decode cX7_votes 11 = .ok (.ifCond .eq 11, 3) := by decide +kernel
theorem dX7_votes_14 : decode cX7_votes 14 = .ok (.iload_n 2, 1) := by decide +kernel
theorem dX7_votes_15 : decode cX7_votes 15 = .ok (.iconst 2, 1) := by decide +kernel
theorem dX7_votes_16 : decode cX7_votes 16 = .ok (.invokestatic 68, 3) := by decide +kernel
theorem dX7_votes_19 : decode cX7_votes 19 = .ok (.ifCond .ne 5, 3) := by decide +kernel
theorem dX7_votes_22 : decode cX7_votes 22 = .ok (.iconst (-1), 1) := by decide +kernel
theorem dX7_votes_23 : decode cX7_votes 23 = .ok (.ireturn, 1) := by decide +kernel
theorem dX7_votes_24 : decode cX7_votes 24 = .ok (.aload_n 0, 1) := by decide +kernel
theorem dX7_votes_25 : decode cX7_votes 25 = .ok (.iload_n 2, 1) := by decide +kernel
theorem dX7_votes_26 : decode cX7_votes 26 = .ok (.iconst 1, 1) := by decide +kernel
theorem dX7_votes_27 : decode cX7_votes 27 = .ok (.if_icmp .ne 10, 3) := by decide +kernel
theorem dX7_votes_30 : decode cX7_votes 30 = .ok (.aload_n 0, 1) := by decide +kernel
theorem dX7_votes_31 : decode cX7_votes 31 = .ok (.invokevirtual 140, 3) := by decide +kernel
theorem dX7_votes_34 : decode cX7_votes 34 = .ok (.goto 4, 3) := by decide +kernel
theorem dX7_votes_37 : decode cX7_votes 37 = .ok (.iconst 0, 1) := by decide +kernel
theorem dX7_votes_38 : decode cX7_votes 38 = .ok (.invokevirtual 144, 3) := by decide +kernel
theorem dX7_votes_41 : decode cX7_votes 41 = .ok (.aload_n 0, 1) := by decide +kernel
theorem dX7_votes_42 : decode cX7_votes 42 = .ok (.getfield 43, 3) := by decide +kernel
theorem dX7_votes_45 : decode cX7_votes 45 = .ok (.getfield 147, 3) := by decide +kernel
theorem dX7_votes_48 : decode cX7_votes 48 = .ok (.iload_n 1, 1) := by decide +kernel
theorem dX7_votes_49 : decode cX7_votes 49 = .ok (.invokestatic 105, 3) := by decide +kernel
theorem dX7_votes_52 : decode cX7_votes 52 = .ok (.ireturn, 1) := by decide +kernel
theorem dX7_hour_0 : decode cX7_hour 0 = .ok (.aload_n 0, 1) := by decide +kernel
theorem dX7_hour_1 : decode cX7_hour 1 = .ok (.getfield 29, 3) := by decide +kernel
theorem dX7_hour_4 : decode cX7_hour 4 = .ok (.getfield 150, 3) := by decide +kernel
theorem dX7_hour_7 : decode cX7_hour 7 = .ok (.bipush 23, 2) := by decide +kernel
theorem dX7_hour_9 : decode cX7_hour 9 = .ok (.if_icmp .le 6, 3) := by decide +kernel
theorem dX7_hour_12 : decode cX7_hour 12 = .ok (.bipush (-2), 2) := by decide +kernel
theorem dX7_hour_14 : decode cX7_hour 14 = .ok (.ireturn, 1) := by decide +kernel
theorem dX7_hour_15 : decode cX7_hour 15 = .ok (.aload_n 0, 1) := by decide +kernel
theorem dX7_hour_16 : decode cX7_hour 16 = .ok (.getfield 36, 3) := by decide +kernel
theorem dX7_hour_19 : decode cX7_hour 19 = .ok (.aload_n 0, 1) := by decide +kernel
theorem dX7_hour_20 : decode cX7_hour 20 = .ok (.getfield 29, 3) := by decide +kernel
theorem dX7_hour_23 : decode cX7_hour 23 = .ok (.invokevirtual 153, 3) := by decide +kernel
theorem dX7_hour_26 : decode cX7_hour 26 = .ok (.aload_n 0, 1) := by decide +kernel
theorem dX7_hour_27 : decode cX7_hour 27 = .ok (.getfield 29, 3) := by decide +kernel
theorem dX7_hour_30 : decode cX7_hour 30 = .ok (.getfield 157, 3) := by decide +kernel
theorem dX7_hour_33 : decode cX7_hour 33 = .ok (.iconst 1, 1) := by decide +kernel
theorem dX7_hour_34 : decode cX7_hour 34 = .ok (.if_icmp .ne 7, 3) := by decide +kernel
theorem dX7_hour_37 : decode cX7_hour 37 = .ok (.iconst 0, 1) := by decide +kernel
theorem dX7_hour_38 : decode cX7_hour 38 = .ok (.goto 7, 3) := by decide +kernel
theorem dX7_hour_41 : decode cX7_hour 41 = .ok (.aload_n 0, 1) := by decide +kernel
theorem dX7_hour_42 : decode cX7_hour 42 = .ok (.invokevirtual 160, 3) := by decide +kernel
theorem dX7_hour_45 : decode cX7_hour 45 = .ok (.istore_n 1, 1) := by decide +kernel
theorem dX7_hour_46 : decode cX7_hour 46 = .ok (.aload_n 0, 1) := by decide +kernel
theorem dX7_hour_47 : decode cX7_hour 47 = .ok (.getfield 29, 3) := by decide +kernel
theorem dX7_hour_50 : decode cX7_hour 50 = .ok (.dup, 1) := by decide +kernel
theorem dX7_hour_51 : decode cX7_hour 51 = .ok (.getfield 150, 3) := by decide +kernel
theorem dX7_hour_54 : decode cX7_hour 54 = .ok (.iconst 1, 1) := by decide +kernel
theorem dX7_hour_55 : decode cX7_hour 55 = .ok (.iadd, 1) := by decide +kernel
theorem dX7_hour_56 : decode cX7_hour 56 = .ok (.putfield 150, 3) := by decide +kernel
theorem dX7_hour_59 : decode cX7_hour 59 = .ok (.iload_n 1, 1) := by decide +kernel
theorem dX7_hour_60 : decode cX7_hour 60 = .ok (.ireturn, 1) := by decide +kernel
theorem dX7_holds_0 : decode cX7_holds 0 = .ok (.iload_n 1, 1) := by decide +kernel
theorem dX7_holds_1 : decode cX7_holds 1 = .ok (.aload_n 0, 1) := by decide +kernel
theorem dX7_holds_2 : decode cX7_holds 2 = .ok (.getfield 10, 3) := by decide +kernel
theorem dX7_holds_5 : decode cX7_holds 5 = .ok (.getfield 98, 3) := by decide +kernel
theorem dX7_holds_8 : decode cX7_holds 8 = .ok (.invokestatic 68, 3) := by decide +kernel
theorem dX7_holds_11 : decode cX7_holds 11 = .ok (.ifCond .ne 5, 3) := by decide +kernel
theorem dX7_holds_14 : decode cX7_holds 14 = .ok (.iconst (-1), 1) := by decide +kernel
theorem dX7_holds_15 : decode cX7_holds 15 = .ok (.ireturn, 1) := by decide +kernel
theorem dX7_holds_16 : decode cX7_holds 16 = .ok (.aload_n 0, 1) := by decide +kernel
theorem dX7_holds_17 : decode cX7_holds 17 = .ok (.invokevirtual 140, 3) := by decide +kernel
theorem dX7_holds_20 : decode cX7_holds 20 = .ok (.iload_n 1, 1) := by decide +kernel
theorem dX7_holds_21 : decode cX7_holds 21 = .ok (.invokestatic 118, 3) := by decide +kernel
theorem dX7_holds_24 : decode cX7_holds 24 = .ok (.ifCond .eq 19, 3) := by decide +kernel
theorem dX7_holds_27 : decode cX7_holds 27 = .ok (.aload_n 0, 1) := by decide +kernel
theorem dX7_holds_28 : decode cX7_holds 28 = .ok (.getfield 29, 3) := by decide +kernel
theorem dX7_holds_31 : decode cX7_holds 31 = .ok (.getfield 101, 3) := by decide +kernel
theorem dX7_holds_34 : decode cX7_holds 34 = .ok (.iload_n 1, 1) := by decide +kernel
theorem dX7_holds_35 : decode cX7_holds 35 = .ok (.invokestatic 105, 3) := by decide +kernel
theorem dX7_holds_38 : decode cX7_holds 38 = .ok (.bipush 23, 2) := by decide +kernel
theorem dX7_holds_40 : decode cX7_holds 40 = .ok (.if_icmp .lt 6, 3) := by decide +kernel
theorem dX7_holds_43 : decode cX7_holds 43 = .ok (.bipush (-2), 2) := by decide +kernel
theorem dX7_holds_45 : decode cX7_holds 45 = .ok (.ireturn, 1) := by decide +kernel
theorem dX7_holds_46 : decode cX7_holds 46 = .ok (.aload_n 0, 1) := by decide +kernel
theorem dX7_holds_47 : decode cX7_holds 47 = .ok (.getfield 36, 3) := by decide +kernel
theorem dX7_holds_50 : decode cX7_holds 50 = .ok (.aload_n 0, 1) := by decide +kernel
theorem dX7_holds_51 : decode cX7_holds 51 = .ok (.getfield 29, 3) := by decide +kernel
theorem dX7_holds_54 : decode cX7_holds 54 = .ok (.invokevirtual 153, 3) := by decide +kernel
theorem dX7_holds_57 : decode cX7_holds 57 = .ok (.aload_n 0, 1) := by decide +kernel
theorem dX7_holds_58 : decode cX7_holds 58 = .ok (.getfield 29, 3) := by decide +kernel
theorem dX7_holds_61 : decode cX7_holds 61 = .ok (.getfield 101, 3) := by decide +kernel
theorem dX7_holds_64 : decode cX7_holds 64 = .ok (.iload_n 1, 1) := by decide +kernel
theorem dX7_holds_65 : decode cX7_holds 65 = .ok (.iconst 1, 1) := by decide +kernel
theorem dX7_holds_66 : decode cX7_holds 66 = .ok (.invokestatic 163, 3) := by decide +kernel
theorem dX7_holds_69 : decode cX7_holds 69 = .ok (.aload_n 0, 1) := by decide +kernel
theorem dX7_holds_70 : decode cX7_holds 70 = .ok (.getfield 29, 3) := by decide +kernel
theorem dX7_holds_73 : decode cX7_holds 73 = .ok (.getfield 101, 3) := by decide +kernel
theorem dX7_holds_76 : decode cX7_holds 76 = .ok (.iload_n 1, 1) := by decide +kernel
theorem dX7_holds_77 : decode cX7_holds 77 = .ok (.invokestatic 105, 3) := by decide +kernel
theorem dX7_holds_80 : decode cX7_holds 80 = .ok (.ireturn, 1) := by decide +kernel
theorem dX7_canvasses_0 : decode cX7_canvasses 0 = .ok (.iload_n 1, 1) := by decide +kernel
theorem dX7_canvasses_1 : decode cX7_canvasses 1 = .ok (.aload_n 0, 1) := by decide +kernel
theorem dX7_canvasses_2 : decode cX7_canvasses 2 = .ok (.getfield 10, 3) := by decide +kernel
theorem dX7_canvasses_5 : decode cX7_canvasses 5 = .ok (.getfield 98, 3) := by decide +kernel
theorem dX7_canvasses_8 : decode cX7_canvasses 8 = .ok (.invokestatic 68, 3) := by decide +kernel
theorem dX7_canvasses_11 : decode cX7_canvasses 11 = .ok (.ifCond .eq 17, 3) := by decide +kernel
theorem dX7_canvasses_14 : decode cX7_canvasses 14 = .ok (.iload_n 2, 1) := by decide +kernel
theorem dX7_canvasses_15 : decode cX7_canvasses 15 = .ok (.aload_n 0, 1) := by decide +kernel
theorem dX7_canvasses_16 : decode cX7_canvasses 16 = .ok (.getfield 10, 3) := by decide +kernel
theorem dX7_canvasses_19 : decode cX7_canvasses 19 = .ok (.getfield 137, 3) := by decide +kernel
theorem dX7_canvasses_22 : decode cX7_canvasses 22 = .ok (.invokestatic 68, 3) := by decide +kernel
theorem dX7_canvasses_25 : decode cX7_canvasses 25 = .ok (.ifCond .ne 5, 3) := by decide +kernel
theorem dX7_canvasses_28 : decode cX7_canvasses 28 = .ok (.iconst (-1), 1) := by decide +kernel
theorem dX7_canvasses_29 : decode cX7_canvasses 29 = .ok (.ireturn, 1) := by decide +kernel
theorem dX7_canvasses_30 : decode cX7_canvasses 30 = .ok (.aload_n 0, 1) := by decide +kernel
theorem dX7_canvasses_31 : decode cX7_canvasses 31 = .ok (.getfield 29, 3) := by decide +kernel
theorem dX7_canvasses_34 : decode cX7_canvasses 34 = .ok (.getfield 115, 3) := by decide +kernel
theorem dX7_canvasses_37 : decode cX7_canvasses 37 = .ok (.iload_n 1, 1) := by decide +kernel
theorem dX7_canvasses_38 : decode cX7_canvasses 38 = .ok (.invokestatic 118, 3) := by decide +kernel
theorem dX7_canvasses_41 : decode cX7_canvasses 41 = .ok (.iconst 1, 1) := by decide +kernel
theorem dX7_canvasses_42 : decode cX7_canvasses 42 = .ok (.if_icmp .eq 28, 3) := by decide +kernel
theorem dX7_canvasses_45 : decode cX7_canvasses 45 = .ok (.aload_n 0, 1) := by decide +kernel
theorem dX7_canvasses_46 : decode cX7_canvasses 46 = .ok (.getfield 29, 3) := by decide +kernel
theorem dX7_canvasses_49 : decode cX7_canvasses 49 = .ok (.getfield 112, 3) := by decide +kernel
theorem dX7_canvasses_52 : decode cX7_canvasses 52 = .ok (.iload_n 1, 1) := by decide +kernel
theorem dX7_canvasses_53 : decode cX7_canvasses 53 = .ok (.invokestatic 105, 3) := by decide +kernel
theorem dX7_canvasses_56 : decode cX7_canvasses 56 = .ok (.iload_n 2, 1) := by decide +kernel
theorem dX7_canvasses_57 : decode cX7_canvasses 57 = .ok (.if_icmp .eq 13, 3) := by decide +kernel
theorem dX7_canvasses_60 : decode cX7_canvasses 60 = .ok (.aload_n 0, 1) := by decide +kernel
theorem dX7_canvasses_61 : decode cX7_canvasses 61 = .ok (.getfield 29, 3) := by decide +kernel
theorem dX7_canvasses_64 : decode cX7_canvasses 64 = .ok (.getfield 167, 3) := by decide +kernel
theorem dX7_canvasses_67 : decode cX7_canvasses 67 = .ok (.ifCond .gt 6, 3) := by decide +kernel
theorem dX7_canvasses_70 : decode cX7_canvasses 70 = .ok (.bipush (-2), 2) := by decide +kernel
theorem dX7_canvasses_72 : decode cX7_canvasses 72 = .ok (.ireturn, 1) := by decide +kernel
theorem dX7_canvasses_73 : decode cX7_canvasses 73 = .ok (.aload_n 0, 1) := by decide +kernel
theorem dX7_canvasses_74 : decode cX7_canvasses 74 = .ok (.getfield 36, 3) := by decide +kernel
theorem dX7_canvasses_77 : decode cX7_canvasses 77 = .ok (.aload_n 0, 1) := by decide +kernel
theorem dX7_canvasses_78 : decode cX7_canvasses 78 = .ok (.getfield 29, 3) := by decide +kernel
theorem dX7_canvasses_81 : decode cX7_canvasses 81 = .ok (.invokevirtual 153, 3) := by decide +kernel
theorem dX7_canvasses_84 : decode cX7_canvasses 84 = .ok (.aload_n 0, 1) := by decide +kernel
theorem dX7_canvasses_85 : decode cX7_canvasses 85 = .ok (.getfield 29, 3) := by decide +kernel
theorem dX7_canvasses_88 : decode cX7_canvasses 88 = .ok (.getfield 112, 3) := by decide +kernel
theorem dX7_canvasses_91 : decode cX7_canvasses 91 = .ok (.iload_n 1, 1) := by decide +kernel
theorem dX7_canvasses_92 : decode cX7_canvasses 92 = .ok (.iload_n 2, 1) := by decide +kernel
theorem dX7_canvasses_93 : decode cX7_canvasses 93 = .ok (.invokestatic 170, 3) := by decide +kernel
theorem dX7_canvasses_96 : decode cX7_canvasses 96 = .ok (.aload_n 0, 1) := by decide +kernel
theorem dX7_canvasses_97 : decode cX7_canvasses 97 = .ok (.getfield 29, 3) := by decide +kernel
theorem dX7_canvasses_100 : decode cX7_canvasses 100 = .ok (.dup, 1) := by decide +kernel
theorem dX7_canvasses_101 : decode cX7_canvasses 101 = .ok (.getfield 167, 3) := by decide +kernel
theorem dX7_canvasses_104 : decode cX7_canvasses 104 = .ok (.iconst 1, 1) := by decide +kernel
theorem dX7_canvasses_105 : decode cX7_canvasses 105 = .ok (.isub, 1) := by decide +kernel
theorem dX7_canvasses_106 : decode cX7_canvasses 106 = .ok (.putfield 167, 3) := by decide +kernel
theorem dX7_canvasses_109 : decode cX7_canvasses 109 = .ok (.aload_n 0, 1) := by decide +kernel
theorem dX7_canvasses_110 : decode cX7_canvasses 110 = .ok (.getfield 29, 3) := by decide +kernel
theorem dX7_canvasses_113 : decode cX7_canvasses 113 = .ok (.getfield 167, 3) := by decide +kernel
theorem dX7_canvasses_116 : decode cX7_canvasses 116 = .ok (.ireturn, 1) := by decide +kernel
theorem dX7_fog_0 : decode cX7_fog 0 = .ok (.iload_n 1, 1) := by decide +kernel
theorem dX7_fog_1 : decode cX7_fog 1 = .ok (.iconst 2, 1) := by decide +kernel
theorem dX7_fog_2 : decode cX7_fog 2 = .ok (.invokestatic 68, 3) := by decide +kernel
theorem dX7_fog_5 : decode cX7_fog 5 = .ok (.ifCond .ne 5, 3) := by decide +kernel
theorem dX7_fog_8 : decode cX7_fog 8 = .ok (.iconst (-1), 1) := by decide +kernel
theorem dX7_fog_9 : decode cX7_fog 9 = .ok (.ireturn, 1) := by decide +kernel
theorem dX7_fog_10 : decode cX7_fog 10 = .ok (.aload_n 0, 1) := by decide +kernel
theorem dX7_fog_11 : decode cX7_fog 11 = .ok (.getfield 29, 3) := by decide +kernel
theorem dX7_fog_14 : decode cX7_fog 14 = .ok (.getfield 157, 3) := by decide +kernel
theorem dX7_fog_17 : decode cX7_fog 17 = .ok (.iload_n 1, 1) := by decide +kernel
theorem dX7_fog_18 : decode cX7_fog 18 = .ok (.if_icmp .ne 6, 3) := by decide +kernel
theorem dX7_fog_21 : decode cX7_fog 21 = .ok (.bipush (-2), 2) := by decide +kernel
theorem dX7_fog_23 : decode cX7_fog 23 = .ok (.ireturn, 1) := by decide +kernel
theorem dX7_fog_24 : decode cX7_fog 24 = .ok (.aload_n 0, 1) := by decide +kernel
theorem dX7_fog_25 : decode cX7_fog 25 = .ok (.getfield 36, 3) := by decide +kernel
theorem dX7_fog_28 : decode cX7_fog 28 = .ok (.aload_n 0, 1) := by decide +kernel
theorem dX7_fog_29 : decode cX7_fog 29 = .ok (.getfield 29, 3) := by decide +kernel
theorem dX7_fog_32 : decode cX7_fog 32 = .ok (.invokevirtual 153, 3) := by decide +kernel
theorem dX7_fog_35 : decode cX7_fog 35 = .ok (.aload_n 0, 1) := by decide +kernel
theorem dX7_fog_36 : decode cX7_fog 36 = .ok (.getfield 29, 3) := by decide +kernel
theorem dX7_fog_39 : decode cX7_fog 39 = .ok (.iload_n 1, 1) := by decide +kernel
theorem dX7_fog_40 : decode cX7_fog 40 = .ok (.putfield 157, 3) := by decide +kernel
theorem dX7_fog_43 : decode cX7_fog 43 = .ok (.aload_n 0, 1) := by decide +kernel
theorem dX7_fog_44 : decode cX7_fog 44 = .ok (.getfield 10, 3) := by decide +kernel
theorem dX7_fog_47 : decode cX7_fog 47 = .ok (.getfield 98, 3) := by decide +kernel
theorem dX7_fog_50 : decode cX7_fog 50 = .ok (.aload_n 0, 1) := by decide +kernel
theorem dX7_fog_51 : decode cX7_fog 51 = .ok (.getfield 29, 3) := by decide +kernel
theorem dX7_fog_54 : decode cX7_fog 54 = .ok (.getfield 115, 3) := by decide +kernel
theorem dX7_fog_57 : decode cX7_fog 57 = .ok (.invokestatic 173, 3) := by decide +kernel
theorem dX7_fog_60 : decode cX7_fog 60 = .ok (.isub, 1) := by decide +kernel
theorem dX7_fog_61 : decode cX7_fog 61 = .ok (.ireturn, 1) := by decide +kernel
theorem dX7_rugs_0 : decode cX7_rugs 0 = .ok (.iload_n 1, 1) := by decide +kernel
theorem dX7_rugs_1 : decode cX7_rugs 1 = .ok (.aload_n 0, 1) := by decide +kernel
theorem dX7_rugs_2 : decode cX7_rugs 2 = .ok (.getfield 10, 3) := by decide +kernel
theorem dX7_rugs_5 : decode cX7_rugs 5 = .ok (.getfield 122, 3) := by decide +kernel
theorem dX7_rugs_8 : decode cX7_rugs 8 = .ok (.invokestatic 68, 3) := by decide +kernel
theorem dX7_rugs_11 : decode cX7_rugs 11 = .ok (.ifCond .ne 5, 3) := by decide +kernel
theorem dX7_rugs_14 : decode cX7_rugs 14 = .ok (.iconst (-1), 1) := by decide +kernel
theorem dX7_rugs_15 : decode cX7_rugs 15 = .ok (.ireturn, 1) := by decide +kernel
theorem dX7_rugs_16 : decode cX7_rugs 16 = .ok (.aload_n 0, 1) := by decide +kernel
theorem dX7_rugs_17 : decode cX7_rugs 17 = .ok (.getfield 29, 3) := by decide +kernel
theorem dX7_rugs_20 : decode cX7_rugs 20 = .ok (.getfield 134, 3) := by decide +kernel
theorem dX7_rugs_23 : decode cX7_rugs 23 = .ok (.iload_n 1, 1) := by decide +kernel
theorem dX7_rugs_24 : decode cX7_rugs 24 = .ok (.invokestatic 118, 3) := by decide +kernel
theorem dX7_rugs_27 : decode cX7_rugs 27 = .ok (.iconst 1, 1) := by decide +kernel
theorem dX7_rugs_28 : decode cX7_rugs 28 = .ok (.if_icmp .ne 6, 3) := by decide +kernel
theorem dX7_rugs_31 : decode cX7_rugs 31 = .ok (.bipush (-2), 2) := by decide +kernel
theorem dX7_rugs_33 : decode cX7_rugs 33 = .ok (.ireturn, 1) := by decide +kernel
theorem dX7_rugs_34 : decode cX7_rugs 34 = .ok (.aload_n 0, 1) := by decide +kernel
theorem dX7_rugs_35 : decode cX7_rugs 35 = .ok (.getfield 36, 3) := by decide +kernel
theorem dX7_rugs_38 : decode cX7_rugs 38 = .ok (.aload_n 0, 1) := by decide +kernel
theorem dX7_rugs_39 : decode cX7_rugs 39 = .ok (.getfield 29, 3) := by decide +kernel
theorem dX7_rugs_42 : decode cX7_rugs 42 = .ok (.invokevirtual 153, 3) := by decide +kernel
theorem dX7_rugs_45 : decode cX7_rugs 45 = .ok (.aload_n 0, 1) := by decide +kernel
theorem dX7_rugs_46 : decode cX7_rugs 46 = .ok (.getfield 10, 3) := by decide +kernel
theorem dX7_rugs_49 : decode cX7_rugs 49 = .ok (.getfield 128, 3) := by decide +kernel
theorem dX7_rugs_52 : decode cX7_rugs 52 = .ok (.iload_n 1, 1) := by decide +kernel
theorem dX7_rugs_53 : decode cX7_rugs 53 = .ok (.invokestatic 105, 3) := by decide +kernel
theorem dX7_rugs_56 : decode cX7_rugs 56 = .ok (.istore_n 2, 1) := by decide +kernel
theorem dX7_rugs_57 : decode cX7_rugs 57 = .ok (.aload_n 0, 1) := by decide +kernel
theorem dX7_rugs_58 : decode cX7_rugs 58 = .ok (.getfield 29, 3) := by decide +kernel
theorem dX7_rugs_61 : decode cX7_rugs 61 = .ok (.getfield 179, 3) := by decide +kernel
theorem dX7_rugs_64 : decode cX7_rugs 64 = .ok (.iload_n 2, 1) := by decide +kernel
theorem dX7_rugs_65 : decode cX7_rugs 65 = .ok (.aload_n 0, 1) := by decide +kernel
theorem dX7_rugs_66 : decode cX7_rugs 66 = .ok (.getfield 10, 3) := by decide +kernel
theorem dX7_rugs_69 : decode cX7_rugs 69 = .ok (.getfield 125, 3) := by decide +kernel
theorem dX7_rugs_72 : decode cX7_rugs 72 = .ok (.iload_n 1, 1) := by decide +kernel
theorem dX7_rugs_73 : decode cX7_rugs 73 = .ok (.invokestatic 105, 3) := by decide +kernel
theorem dX7_rugs_76 : decode cX7_rugs 76 = .ok (.invokestatic 163, 3) := by decide +kernel
theorem dX7_rugs_79 : decode cX7_rugs 79 = .ok (.aload_n 0, 1) := by decide +kernel
theorem dX7_rugs_80 : decode cX7_rugs 80 = .ok (.getfield 29, 3) := by decide +kernel
theorem dX7_rugs_83 : decode cX7_rugs 83 = .ok (.dup, 1) := by decide +kernel
theorem dX7_rugs_84 : decode cX7_rugs 84 = .ok (.getfield 134, 3) := by decide +kernel
theorem dX7_rugs_87 : decode cX7_rugs 87 = .ok (.iconst 1, 1) := by decide +kernel
theorem dX7_rugs_88 : decode cX7_rugs 88 = .ok (.iload_n 1, 1) := by decide +kernel
theorem dX7_rugs_89 : decode cX7_rugs 89 = .ok (.ishl, 1) := by decide +kernel
theorem dX7_rugs_90 : decode cX7_rugs 90 = .ok (.ior, 1) := by decide +kernel
theorem dX7_rugs_91 : decode cX7_rugs 91 = .ok (.putfield 134, 3) := by decide +kernel
theorem dX7_rugs_94 : decode cX7_rugs 94 = .ok (.aload_n 0, 1) := by decide +kernel
theorem dX7_rugs_95 : decode cX7_rugs 95 = .ok (.getfield 29, 3) := by decide +kernel
theorem dX7_rugs_98 : decode cX7_rugs 98 = .ok (.getfield 179, 3) := by decide +kernel
theorem dX7_rugs_101 : decode cX7_rugs 101 = .ok (.iload_n 2, 1) := by decide +kernel
theorem dX7_rugs_102 : decode cX7_rugs 102 = .ok (.invokestatic 105, 3) := by decide +kernel
theorem dX7_rugs_105 : decode cX7_rugs 105 = .ok (.ireturn, 1) := by decide +kernel
theorem dX7_undo_0 : decode cX7_undo 0 = .ok (.aload_n 0, 1) := by decide +kernel
theorem dX7_undo_1 : decode cX7_undo 1 = .ok (.getfield 36, 3) := by decide +kernel
theorem dX7_undo_4 : decode cX7_undo 4 = .ok (.getfield 88, 3) := by decide +kernel
theorem dX7_undo_7 : decode cX7_undo 7 = .ok (.ifCond .gt 6, 3) := by decide +kernel
theorem dX7_undo_10 : decode cX7_undo 10 = .ok (.bipush (-2), 2) := by decide +kernel
theorem dX7_undo_12 : decode cX7_undo 12 = .ok (.ireturn, 1) := by decide +kernel
theorem dX7_undo_13 : decode cX7_undo 13 = .ok (.aload_n 0, 1) := by decide +kernel
theorem dX7_undo_14 : decode cX7_undo 14 = .ok (.getfield 36, 3) := by decide +kernel
theorem dX7_undo_17 : decode cX7_undo 17 = .ok (.aload_n 0, 1) := by decide +kernel
theorem dX7_undo_18 : decode cX7_undo 18 = .ok (.getfield 29, 3) := by decide +kernel
theorem dX7_undo_21 : decode cX7_undo 21 = .ok (.invokevirtual 182, 3) := by decide +kernel
theorem dX7_undo_24 : decode cX7_undo 24 = .ok (.aload_n 0, 1) := by decide +kernel
theorem dX7_undo_25 : decode cX7_undo 25 = .ok (.getfield 36, 3) := by decide +kernel
theorem dX7_undo_28 : decode cX7_undo 28 = .ok (.getfield 88, 3) := by decide +kernel
theorem dX7_undo_31 : decode cX7_undo 31 = .ok (.ireturn, 1) := by decide +kernel
theorem dX7_now_0 : decode cX7_now 0 = .ok (.iload_n 1, 1) := by decide +kernel
theorem dX7_now_1 : decode cX7_now 1 = .ok (.tableswitch 111 0 6 #[43, 51, 59, 67, 73, 82, 95], 43) := by decide +kernel
theorem dX7_now_44 : decode cX7_now 44 = .ok (.aload_n 0, 1) := by decide +kernel
theorem dX7_now_45 : decode cX7_now 45 = .ok (.getfield 29, 3) := by decide +kernel
theorem dX7_now_48 : decode cX7_now 48 = .ok (.getfield 150, 3) := by decide +kernel
theorem dX7_now_51 : decode cX7_now 51 = .ok (.ireturn, 1) := by decide +kernel
theorem dX7_now_52 : decode cX7_now 52 = .ok (.aload_n 0, 1) := by decide +kernel
theorem dX7_now_53 : decode cX7_now 53 = .ok (.getfield 29, 3) := by decide +kernel
theorem dX7_now_56 : decode cX7_now 56 = .ok (.getfield 167, 3) := by decide +kernel
theorem dX7_now_59 : decode cX7_now 59 = .ok (.ireturn, 1) := by decide +kernel
theorem dX7_now_60 : decode cX7_now 60 = .ok (.aload_n 0, 1) := by decide +kernel
theorem dX7_now_61 : decode cX7_now 61 = .ok (.getfield 29, 3) := by decide +kernel
theorem dX7_now_64 : decode cX7_now 64 = .ok (.getfield 157, 3) := by decide +kernel
theorem dX7_now_67 : decode cX7_now 67 = .ok (.ireturn, 1) := by decide +kernel
theorem dX7_now_68 : decode cX7_now 68 = .ok (.aload_n 0, 1) := by decide +kernel
theorem dX7_now_69 : decode cX7_now 69 = .ok (.iconst 0, 1) := by decide +kernel
theorem dX7_now_70 : decode cX7_now 70 = .ok (.invokevirtual 185, 3) := by decide +kernel
theorem dX7_now_73 : decode cX7_now 73 = .ok (.ireturn, 1) := by decide +kernel
theorem dX7_now_74 : decode cX7_now 74 = .ok (.aload_n 0, 1) := by decide +kernel
theorem dX7_now_75 : decode cX7_now 75 = .ok (.aload_n 0, 1) := by decide +kernel
theorem dX7_now_76 : decode cX7_now 76 = .ok (.invokevirtual 140, 3) := by decide +kernel
theorem dX7_now_79 : decode cX7_now 79 = .ok (.invokevirtual 185, 3) := by decide +kernel
theorem dX7_now_82 : decode cX7_now 82 = .ok (.ireturn, 1) := by decide +kernel
theorem dX7_now_83 : decode cX7_now 83 = .ok (.aload_n 0, 1) := by decide +kernel
theorem dX7_now_84 : decode cX7_now 84 = .ok (.iconst 0, 1) := by decide +kernel
theorem dX7_now_85 : decode cX7_now 85 = .ok (.aload_n 0, 1) := by decide +kernel
theorem dX7_now_86 : decode cX7_now 86 = .ok (.getfield 10, 3) := by decide +kernel
theorem dX7_now_89 : decode cX7_now 89 = .ok (.getfield 188, 3) := by decide +kernel
theorem dX7_now_92 : decode cX7_now 92 = .ok (.invokevirtual 191, 3) := by decide +kernel
theorem dX7_now_95 : decode cX7_now 95 = .ok (.ireturn, 1) := by decide +kernel
theorem dX7_now_96 : decode cX7_now 96 = .ok (.aload_n 0, 1) := by decide +kernel
theorem dX7_now_97 : decode cX7_now 97 = .ok (.aload_n 0, 1) := by decide +kernel
theorem dX7_now_98 : decode cX7_now 98 = .ok (.invokevirtual 140, 3) := by decide +kernel
theorem dX7_now_101 : decode cX7_now 101 = .ok (.aload_n 0, 1) := by decide +kernel
theorem dX7_now_102 : decode cX7_now 102 = .ok (.getfield 10, 3) := by decide +kernel
theorem dX7_now_105 : decode cX7_now 105 = .ok (.getfield 188, 3) := by decide +kernel
theorem dX7_now_108 : decode cX7_now 108 = .ok (.invokevirtual 191, 3) := by decide +kernel
theorem dX7_now_111 : decode cX7_now 111 = .ok (.ireturn, 1) := by decide +kernel
theorem dX7_now_112 : decode cX7_now 112 = .ok (.iconst (-1), 1) := by decide +kernel
theorem dX7_now_113 : decode cX7_now 113 = .ok (.ireturn, 1) := by decide +kernel
theorem dX7_plan_0 : decode cX7_plan 0 = .ok (.iload_n 1, 1) := by decide +kernel
theorem dX7_plan_1 : decode cX7_plan 1 = .ok (.aload_n 0, 1) := by decide +kernel
theorem dX7_plan_2 : decode cX7_plan 2 = .ok (.getfield 10, 3) := by decide +kernel
theorem dX7_plan_5 : decode cX7_plan 5 = .ok (.getfield 137, 3) := by decide +kernel
theorem dX7_plan_8 : decode cX7_plan 8 = .ok (.invokestatic 68, 3) := by decide +kernel
theorem dX7_plan_11 : decode cX7_plan 11 = .ok (.ifCond .eq 17, 3) := by decide +kernel
theorem dX7_plan_14 : decode cX7_plan 14 = .ok (.iload_n 2, 1) := by decide +kernel
theorem dX7_plan_15 : decode cX7_plan 15 = .ok (.aload_n 0, 1) := by decide +kernel
theorem dX7_plan_16 : decode cX7_plan 16 = .ok (.getfield 10, 3) := by decide +kernel
theorem dX7_plan_19 : decode cX7_plan 19 = .ok (.getfield 137, 3) := by decide +kernel
theorem dX7_plan_22 : decode cX7_plan 22 = .ok (.invokestatic 68, 3) := by decide +kernel
theorem dX7_plan_25 : decode cX7_plan 25 = .ok (.ifCond .ne 5, 3) := by decide +kernel
theorem dX7_plan_28 : decode cX7_plan 28 = .ok (.iconst (-1), 1) := by decide +kernel
theorem dX7_plan_29 : decode cX7_plan 29 = .ok (.ireturn, 1) := by decide +kernel
theorem dX7_plan_30 : decode cX7_plan 30 = .ok (.aload_n 0, 1) := by decide +kernel
theorem dX7_plan_31 : decode cX7_plan 31 = .ok (.invokevirtual 140, 3) := by decide +kernel
theorem dX7_plan_34 : decode cX7_plan 34 = .ok (.istore_n 3, 1) := by decide +kernel
theorem dX7_plan_35 : decode cX7_plan 35 = .ok (.iload_n 3, 1) := by decide +kernel
theorem dX7_plan_36 : decode cX7_plan 36 = .ok (.aload_n 0, 1) := by decide +kernel
theorem dX7_plan_37 : decode cX7_plan 37 = .ok (.iload_n 2, 1) := by decide +kernel
theorem dX7_plan_38 : decode cX7_plan 38 = .ok (.invokevirtual 194, 3) := by decide +kernel
theorem dX7_plan_41 : decode cX7_plan 41 = .ok (.iconst (-1), 1) := by decide +kernel
theorem dX7_plan_42 : decode cX7_plan 42 = .ok (.ixor, 1) := by decide +kernel
theorem dX7_plan_43 : decode cX7_plan 43 = .ok (.iand, 1) := by decide +kernel
theorem dX7_plan_44 : decode cX7_plan 44 = .ok (.istore 4, 2) := by decide +kernel
theorem dX7_plan_46 : decode cX7_plan 46 = .ok (.bipush (-9), 2) := by decide +kernel
theorem dX7_plan_48 : decode cX7_plan 48 = .ok (.istore 5, 2) := by decide +kernel
theorem dX7_plan_50 : decode cX7_plan 50 = .ok (.aload_n 0, 1) := by decide +kernel
theorem dX7_plan_51 : decode cX7_plan 51 = .ok (.getfield 29, 3) := by decide +kernel
theorem dX7_plan_54 : decode cX7_plan 54 = .ok (.getfield 167, 3) := by decide +kernel
theorem dX7_plan_57 : decode cX7_plan 57 = .ok (.iconst 1, 1) := by decide +kernel
theorem dX7_plan_58 : decode cX7_plan 58 = .ok (.iadd, 1) := by decide +kernel
theorem dX7_plan_59 : decode cX7_plan 59 = .ok (.istore 6, 2) := by decide +kernel
theorem dX7_plan_61 : decode cX7_plan 61 = .ok (.iconst 0, 1) := by decide +kernel
theorem dX7_plan_62 : decode cX7_plan 62 = .ok (.istore 7, 2) := by decide +kernel
theorem dX7_plan_64 : decode cX7_plan 64 = .ok (.iload 7, 2) := by decide +kernel
theorem dX7_plan_66 : decode cX7_plan 66 = .ok (.sipush 256, 3) := by decide +kernel
theorem dX7_plan_69 : decode cX7_plan 69 = .ok (.if_icmp .ge 80, 3) := by decide +kernel
theorem dX7_plan_72 : decode cX7_plan 72 = .ok (.iload 7, 2) := by decide +kernel
theorem dX7_plan_74 : decode cX7_plan 74 = .ok (.iload 4, 2) := by decide +kernel
theorem dX7_plan_76 : decode cX7_plan 76 = .ok (.iconst (-1), 1) := by decide +kernel
theorem dX7_plan_77 : decode cX7_plan 77 = .ok (.ixor, 1) := by decide +kernel
theorem dX7_plan_78 : decode cX7_plan 78 = .ok (.iand, 1) := by decide +kernel
theorem dX7_plan_79 : decode cX7_plan 79 = .ok (.ifCond .ne 64, 3) := by decide +kernel
theorem dX7_plan_82 : decode cX7_plan 82 = .ok (.iload 7, 2) := by decide +kernel
theorem dX7_plan_84 : decode cX7_plan 84 = .ok (.invokestatic 173, 3) := by decide +kernel
theorem dX7_plan_87 : decode cX7_plan 87 = .ok (.iload 6, 2) := by decide +kernel
theorem dX7_plan_89 : decode cX7_plan 89 = .ok (.if_icmp .lt 6, 3) := by decide +kernel
theorem dX7_plan_92 : decode cX7_plan 92 = .ok (.goto 51, 3) := by decide +kernel
theorem dX7_plan_95 : decode cX7_plan 95 = .ok (.aload_n 0, 1) := by decide +kernel
theorem dX7_plan_96 : decode cX7_plan 96 = .ok (.iload_n 3, 1) := by decide +kernel
theorem dX7_plan_97 : decode cX7_plan 97 = .ok (.iload 7, 2) := by decide +kernel
theorem dX7_plan_99 : decode cX7_plan 99 = .ok (.iload_n 2, 1) := by decide +kernel
theorem dX7_plan_100 : decode cX7_plan 100 = .ok (.invokevirtual 197, 3) := by decide +kernel
theorem dX7_plan_103 : decode cX7_plan 103 = .ok (.aload_n 0, 1) := by decide +kernel
theorem dX7_plan_104 : decode cX7_plan 104 = .ok (.getfield 43, 3) := by decide +kernel
theorem dX7_plan_107 : decode cX7_plan 107 = .ok (.aload_n 0, 1) := by decide +kernel
theorem dX7_plan_108 : decode cX7_plan 108 = .ok (.getfield 10, 3) := by decide +kernel
theorem dX7_plan_111 : decode cX7_plan 111 = .ok (.aload_n 0, 1) := by decide +kernel
theorem dX7_plan_112 : decode cX7_plan 112 = .ok (.getfield 29, 3) := by decide +kernel
theorem dX7_plan_115 : decode cX7_plan 115 = .ok (.getfield 134, 3) := by decide +kernel
theorem dX7_plan_118 : decode cX7_plan 118 = .ok (.aload_n 0, 1) := by decide +kernel
theorem dX7_plan_119 : decode cX7_plan 119 = .ok (.getfield 10, 3) := by decide +kernel
theorem dX7_plan_122 : decode cX7_plan 122 = .ok (.getfield 188, 3) := by decide +kernel
theorem dX7_plan_125 : decode cX7_plan 125 = .ok (.invokevirtual 201, 3) := by decide +kernel
theorem dX7_plan_128 : decode cX7_plan 128 = .ok (.iload_n 1, 1) := by decide +kernel
theorem dX7_plan_129 : decode cX7_plan 129 = .ok (.if_icmp .ne 14, 3) := by decide +kernel
theorem dX7_plan_132 : decode cX7_plan 132 = .ok (.iload 7, 2) := by decide +kernel
theorem dX7_plan_134 : decode cX7_plan 134 = .ok (.istore 5, 2) := by decide +kernel
theorem dX7_plan_136 : decode cX7_plan 136 = .ok (.iload 7, 2) := by decide +kernel
theorem dX7_plan_138 : decode cX7_plan 138 = .ok (.invokestatic 173, 3) := by decide +kernel
theorem dX7_plan_141 : decode cX7_plan 141 = .ok (.istore 6, 2) := by decide +kernel
theorem dX7_plan_143 : decode cX7_plan 143 = .ok (.iinc 7 1, 3) := by decide +kernel
theorem dX7_plan_146 : decode cX7_plan 146 = .ok (.goto (-82), 3) := by decide +kernel
theorem dX7_plan_149 : decode cX7_plan 149 = .ok (.iload 5, 2) := by decide +kernel
theorem dX7_plan_151 : decode cX7_plan 151 = .ok (.ireturn, 1) := by decide +kernel
theorem dX7_power_0 : decode cX7_power 0 = .ok (.iload_n 1, 1) := by decide +kernel
theorem dX7_power_1 : decode cX7_power 1 = .ok (.aload_n 0, 1) := by decide +kernel
theorem dX7_power_2 : decode cX7_power 2 = .ok (.getfield 10, 3) := by decide +kernel
theorem dX7_power_5 : decode cX7_power 5 = .ok (.getfield 98, 3) := by decide +kernel
theorem dX7_power_8 : decode cX7_power 8 = .ok (.invokestatic 68, 3) := by decide +kernel
theorem dX7_power_11 : decode cX7_power 11 = .ok (.ifCond .ne 5, 3) := by decide +kernel
theorem dX7_power_14 : decode cX7_power 14 = .ok (.iconst (-1), 1) := by decide +kernel
theorem dX7_power_15 : decode cX7_power 15 = .ok (.ireturn, 1) := by decide +kernel
theorem dX7_power_16 : decode cX7_power 16 = .ok (.aload_n 0, 1) := by decide +kernel
theorem dX7_power_17 : decode cX7_power 17 = .ok (.invokevirtual 140, 3) := by decide +kernel
theorem dX7_power_20 : decode cX7_power 20 = .ok (.istore_n 2, 1) := by decide +kernel
theorem dX7_power_21 : decode cX7_power 21 = .ok (.iload_n 2, 1) := by decide +kernel
theorem dX7_power_22 : decode cX7_power 22 = .ok (.iload_n 1, 1) := by decide +kernel
theorem dX7_power_23 : decode cX7_power 23 = .ok (.invokestatic 118, 3) := by decide +kernel
theorem dX7_power_26 : decode cX7_power 26 = .ok (.ifCond .ne 6, 3) := by decide +kernel
theorem dX7_power_29 : decode cX7_power 29 = .ok (.bipush (-2), 2) := by decide +kernel
theorem dX7_power_31 : decode cX7_power 31 = .ok (.ireturn, 1) := by decide +kernel
theorem dX7_power_32 : decode cX7_power 32 = .ok (.iload_n 2, 1) := by decide +kernel
theorem dX7_power_33 : decode cX7_power 33 = .ok (.iconst 1, 1) := by decide +kernel
theorem dX7_power_34 : decode cX7_power 34 = .ok (.iload_n 1, 1) := by decide +kernel
theorem dX7_power_35 : decode cX7_power 35 = .ok (.ishl, 1) := by decide +kernel
theorem dX7_power_36 : decode cX7_power 36 = .ok (.iconst (-1), 1) := by decide +kernel
theorem dX7_power_37 : decode cX7_power 37 = .ok (.ixor, 1) := by decide +kernel
theorem dX7_power_38 : decode cX7_power 38 = .ok (.iand, 1) := by decide +kernel
theorem dX7_power_39 : decode cX7_power 39 = .ok (.istore_n 3, 1) := by decide +kernel
theorem dX7_power_40 : decode cX7_power 40 = .ok (.iconst 0, 1) := by decide +kernel
theorem dX7_power_41 : decode cX7_power 41 = .ok (.istore 4, 2) := by decide +kernel
theorem dX7_power_43 : decode cX7_power 43 = .ok (.iconst 0, 1) := by decide +kernel
theorem dX7_power_44 : decode cX7_power 44 = .ok (.istore 5, 2) := by decide +kernel
theorem dX7_power_46 : decode cX7_power 46 = .ok (.iload 5, 2) := by decide +kernel
theorem dX7_power_48 : decode cX7_power 48 = .ok (.sipush 256, 3) := by decide +kernel
theorem dX7_power_51 : decode cX7_power 51 = .ok (.if_icmp .ge 57, 3) := by decide +kernel
theorem dX7_power_54 : decode cX7_power 54 = .ok (.iload 5, 2) := by decide +kernel
theorem dX7_power_56 : decode cX7_power 56 = .ok (.iload_n 3, 1) := by decide +kernel
theorem dX7_power_57 : decode cX7_power 57 = .ok (.iconst (-1), 1) := by decide +kernel
theorem dX7_power_58 : decode cX7_power 58 = .ok (.ixor, 1) := by decide +kernel
theorem dX7_power_59 : decode cX7_power 59 = .ok (.iand, 1) := by decide +kernel
theorem dX7_power_60 : decode cX7_power 60 = .ok (.ifCond .eq 6, 3) := by decide +kernel
theorem dX7_power_63 : decode cX7_power 63 = .ok (.goto 39, 3) := by decide +kernel
theorem dX7_power_66 : decode cX7_power 66 = .ok (.aload_n 0, 1) := by decide +kernel
theorem dX7_power_67 : decode cX7_power 67 = .ok (.iload 5, 2) := by decide +kernel
theorem dX7_power_69 : decode cX7_power 69 = .ok (.aload_n 0, 1) := by decide +kernel
theorem dX7_power_70 : decode cX7_power 70 = .ok (.getfield 10, 3) := by decide +kernel
theorem dX7_power_73 : decode cX7_power 73 = .ok (.getfield 188, 3) := by decide +kernel
theorem dX7_power_76 : decode cX7_power 76 = .ok (.invokevirtual 191, 3) := by decide +kernel
theorem dX7_power_79 : decode cX7_power 79 = .ok (.aload_n 0, 1) := by decide +kernel
theorem dX7_power_80 : decode cX7_power 80 = .ok (.iload 5, 2) := by decide +kernel
theorem dX7_power_82 : decode cX7_power 82 = .ok (.iconst 1, 1) := by decide +kernel
theorem dX7_power_83 : decode cX7_power 83 = .ok (.iload_n 1, 1) := by decide +kernel
theorem dX7_power_84 : decode cX7_power 84 = .ok (.ishl, 1) := by decide +kernel
theorem dX7_power_85 : decode cX7_power 85 = .ok (.ior, 1) := by decide +kernel
theorem dX7_power_86 : decode cX7_power 86 = .ok (.aload_n 0, 1) := by decide +kernel
theorem dX7_power_87 : decode cX7_power 87 = .ok (.getfield 10, 3) := by decide +kernel
theorem dX7_power_90 : decode cX7_power 90 = .ok (.getfield 188, 3) := by decide +kernel
theorem dX7_power_93 : decode cX7_power 93 = .ok (.invokevirtual 191, 3) := by decide +kernel
theorem dX7_power_96 : decode cX7_power 96 = .ok (.if_icmp .eq 6, 3) := by decide +kernel
theorem dX7_power_99 : decode cX7_power 99 = .ok (.iinc 4 1, 3) := by decide +kernel
theorem dX7_power_102 : decode cX7_power 102 = .ok (.iinc 5 1, 3) := by decide +kernel
theorem dX7_power_105 : decode cX7_power 105 = .ok (.goto (-59), 3) := by decide +kernel
theorem dX7_power_108 : decode cX7_power 108 = .ok (.iload 4, 2) := by decide +kernel
theorem dX7_power_110 : decode cX7_power 110 = .ok (.ireturn, 1) := by decide +kernel
theorem dX7_laws_0 : decode cX7_laws 0 = .ok (.iload_n 1, 1) := by decide +kernel
theorem dX7_laws_1 : decode cX7_laws 1 = .ok (.aload_n 0, 1) := by decide +kernel
theorem dX7_laws_2 : decode cX7_laws 2 = .ok (.getfield 10, 3) := by decide +kernel
theorem dX7_laws_5 : decode cX7_laws 5 = .ok (.getfield 137, 3) := by decide +kernel
theorem dX7_laws_8 : decode cX7_laws 8 = .ok (.invokestatic 68, 3) := by decide +kernel
theorem dX7_laws_11 : decode cX7_laws 11 = .ok (.ifCond .ne 5, 3) := by decide +kernel
theorem dX7_laws_14 : decode cX7_laws 14 = .ok (.iconst (-1), 1) := by decide +kernel
theorem dX7_laws_15 : decode cX7_laws 15 = .ok (.ireturn, 1) := by decide +kernel
theorem dX7_laws_16 : decode cX7_laws 16 = .ok (.aload_n 0, 1) := by decide +kernel
theorem dX7_laws_17 : decode cX7_laws 17 = .ok (.invokevirtual 140, 3) := by decide +kernel
theorem dX7_laws_20 : decode cX7_laws 20 = .ok (.istore_n 2, 1) := by decide +kernel
theorem dX7_laws_21 : decode cX7_laws 21 = .ok (.iconst 0, 1) := by decide +kernel
theorem dX7_laws_22 : decode cX7_laws 22 = .ok (.istore_n 3, 1) := by decide +kernel
theorem dX7_laws_23 : decode cX7_laws 23 = .ok (.iconst 1, 1) := by decide +kernel
theorem dX7_laws_24 : decode cX7_laws 24 = .ok (.istore 4, 2) := by decide +kernel
theorem dX7_laws_26 : decode cX7_laws 26 = .ok (.iload 4, 2) := by decide +kernel
theorem dX7_laws_28 : decode cX7_laws 28 = .ok (.aload_n 0, 1) := by decide +kernel
theorem dX7_laws_29 : decode cX7_laws 29 = .ok (.getfield 10, 3) := by decide +kernel
theorem dX7_laws_32 : decode cX7_laws 32 = .ok (.getfield 137, 3) := by decide +kernel
theorem dX7_laws_35 : decode cX7_laws 35 = .ok (.if_icmp .gt 34, 3) := by decide +kernel
theorem dX7_laws_38 : decode cX7_laws 38 = .ok (.iload 4, 2) := by decide +kernel
theorem dX7_laws_40 : decode cX7_laws 40 = .ok (.bipush 6, 2) := by decide +kernel
theorem dX7_laws_42 : decode cX7_laws 42 = .ok (.if_icmp .gt 27, 3) := by decide +kernel
theorem dX7_laws_45 : decode cX7_laws 45 = .ok (.aload_n 0, 1) := by decide +kernel
theorem dX7_laws_46 : decode cX7_laws 46 = .ok (.iload_n 2, 1) := by decide +kernel
theorem dX7_laws_47 : decode cX7_laws 47 = .ok (.iload 4, 2) := by decide +kernel
theorem dX7_laws_49 : decode cX7_laws 49 = .ok (.invokevirtual 191, 3) := by decide +kernel
theorem dX7_laws_52 : decode cX7_laws 52 = .ok (.iload_n 1, 1) := by decide +kernel
theorem dX7_laws_53 : decode cX7_laws 53 = .ok (.if_icmp .ne 10, 3) := by decide +kernel
theorem dX7_laws_56 : decode cX7_laws 56 = .ok (.iload_n 3, 1) := by decide +kernel
theorem dX7_laws_57 : decode cX7_laws 57 = .ok (.iconst 1, 1) := by decide +kernel
theorem dX7_laws_58 : decode cX7_laws 58 = .ok (.iload 4, 2) := by decide +kernel
theorem dX7_laws_60 : decode cX7_laws 60 = .ok (.ishl, 1) := by decide +kernel
theorem dX7_laws_61 : decode cX7_laws 61 = .ok (.ior, 1) := by decide +kernel
theorem dX7_laws_62 : decode cX7_laws 62 = .ok (.istore_n 3, 1) := by decide +kernel
theorem dX7_laws_63 : decode cX7_laws 63 = .ok (.iinc 4 1, 3) := by decide +kernel
theorem dX7_laws_66 : decode cX7_laws 66 = .ok (.goto (-40), 3) := by decide +kernel
theorem dX7_laws_69 : decode cX7_laws 69 = .ok (.iload_n 3, 1) := by decide +kernel
theorem dX7_laws_70 : decode cX7_laws 70 = .ok (.ireturn, 1) := by decide +kernel
theorem dX7_odds_0 : decode cX7_odds 0 = .ok (.iload_n 1, 1) := by decide +kernel
theorem dX7_odds_1 : decode cX7_odds 1 = .ok (.bipush 11, 2) := by decide +kernel
theorem dX7_odds_3 : decode cX7_odds 3 = .ok (.invokestatic 68, 3) := by decide +kernel
theorem dX7_odds_6 : decode cX7_odds 6 = .ok (.ifCond .eq 25, 3) := by decide +kernel
theorem dX7_odds_9 : decode cX7_odds 9 = .ok (.iload_n 2, 1) := by decide +kernel
theorem dX7_odds_10 : decode cX7_odds 10 = .ok (.aload_n 0, 1) := by decide +kernel
theorem dX7_odds_11 : decode cX7_odds 11 = .ok (.getfield 10, 3) := by decide +kernel
theorem dX7_odds_14 : decode cX7_odds 14 = .ok (.getfield 137, 3) := by decide +kernel
theorem dX7_odds_17 : decode cX7_odds 17 = .ok (.invokestatic 68, 3) := by decide +kernel
theorem dX7_odds_20 : decode cX7_odds 20 = .ok (.ifCond .eq 11, 3) := by decide +kernel
theorem dX7_odds_23 : decode cX7_odds 23 = .ok (.iload_n 3, 1) := by decide +kernel
theorem dX7_odds_24 : decode cX7_odds 24 = .ok (.iconst 2, 1) := by decide +kernel
theorem dX7_odds_25 : decode cX7_odds 25 = .ok (.invokestatic 68, 3) := by decide +kernel
theorem dX7_odds_28 : decode cX7_odds 28 = .ok (.ifCond .ne 5, 3) := by decide +kernel
theorem dX7_odds_31 : decode cX7_odds 31 = .ok (.iconst (-1), 1) := by decide +kernel
theorem dX7_odds_32 : decode cX7_odds 32 = .ok (.ireturn, 1) := by decide +kernel
theorem dX7_odds_33 : decode cX7_odds 33 = .ok (.aload_n 0, 1) := by decide +kernel
theorem dX7_odds_34 : decode cX7_odds 34 = .ok (.invokevirtual 140, 3) := by decide +kernel
theorem dX7_odds_37 : decode cX7_odds 37 = .ok (.istore 4, 2) := by decide +kernel
theorem dX7_odds_39 : decode cX7_odds 39 = .ok (.iconst 0, 1) := by decide +kernel
theorem dX7_odds_40 : decode cX7_odds 40 = .ok (.istore 5, 2) := by decide +kernel
theorem dX7_odds_42 : decode cX7_odds 42 = .ok (.iconst 0, 1) := by decide +kernel
theorem dX7_odds_43 : decode cX7_odds 43 = .ok (.istore 6, 2) := by decide +kernel
theorem dX7_odds_45 : decode cX7_odds 45 = .ok (.iload 6, 2) := by decide +kernel
theorem dX7_odds_47 : decode cX7_odds 47 = .ok (.sipush 256, 3) := by decide +kernel
theorem dX7_odds_50 : decode cX7_odds 50 = .ok (.if_icmp .ge 76, 3) := by decide +kernel
theorem dX7_odds_53 : decode cX7_odds 53 = .ok (.iload 6, 2) := by decide +kernel
theorem dX7_odds_55 : decode cX7_odds 55 = .ok (.iload 4, 2) := by decide +kernel
theorem dX7_odds_57 : decode cX7_odds 57 = .ok (.iconst (-1), 1) := by decide +kernel
theorem dX7_odds_58 : decode cX7_odds 58 = .ok (.ixor, 1) := by decide +kernel
theorem dX7_odds_59 : decode cX7_odds 59 = .ok (.iand, 1) := by decide +kernel
theorem dX7_odds_60 : decode cX7_odds 60 = .ok (.ifCond .eq 6, 3) := by decide +kernel
theorem dX7_odds_63 : decode cX7_odds 63 = .ok (.goto 57, 3) := by decide +kernel
theorem dX7_odds_66 : decode cX7_odds 66 = .ok (.bipush 10, 2) := by decide +kernel
theorem dX7_odds_68 : decode cX7_odds 68 = .ok (.iload_n 1, 1) := by decide +kernel
theorem dX7_odds_69 : decode cX7_odds 69 = .ok (.isub, 1) := by decide +kernel
theorem dX7_odds_70 : decode cX7_odds 70 = .ok (.iload 6, 2) := by decide +kernel
theorem dX7_odds_72 : decode cX7_odds 72 = .ok (.invokestatic 173, 3) := by decide +kernel
theorem dX7_odds_75 : decode cX7_odds 75 = .ok (.iload_n 1, 1) := by decide +kernel
theorem dX7_odds_76 : decode cX7_odds 76 = .ok (.iload 4, 2) := by decide +kernel
theorem dX7_odds_78 : decode cX7_odds 78 = .ok (.iload 6, 2) := by decide +kernel
theorem dX7_odds_80 : decode cX7_odds 80 = .ok (.iconst (-1), 1) := by decide +kernel
theorem dX7_odds_81 : decode cX7_odds 81 = .ok (.ixor, 1) := by decide +kernel
theorem dX7_odds_82 : decode cX7_odds 82 = .ok (.iand, 1) := by decide +kernel
theorem dX7_odds_83 : decode cX7_odds 83 = .ok (.invokestatic 173, 3) := by decide +kernel
theorem dX7_odds_86 : decode cX7_odds 86 = .ok (.invokestatic 205, 3) := by decide +kernel
theorem dX7_odds_89 : decode cX7_odds 89 = .ok (.istore 7, 2) := by decide +kernel
theorem dX7_odds_91 : decode cX7_odds 91 = .ok (.iload 7, 2) := by decide +kernel
theorem dX7_odds_93 : decode cX7_odds 93 = .ok (.ifCond .le 27, 3) := by decide +kernel
theorem dX7_odds_96 : decode cX7_odds 96 = .ok (.aload_n 0, 1) := by decide +kernel
theorem dX7_odds_97 : decode cX7_odds 97 = .ok (.iload 6, 2) := by decide +kernel
theorem dX7_odds_99 : decode cX7_odds 99 = .ok (.aload_n 0, 1) := by decide +kernel
theorem dX7_odds_100 : decode cX7_odds 100 = .ok (.getfield 10, 3) := by decide +kernel
theorem dX7_odds_103 : decode cX7_odds 103 = .ok (.getfield 188, 3) := by decide +kernel
theorem dX7_odds_106 : decode cX7_odds 106 = .ok (.invokevirtual 191, 3) := by decide +kernel
theorem dX7_odds_109 : decode cX7_odds 109 = .ok (.iload_n 2, 1) := by decide +kernel
theorem dX7_odds_110 : decode cX7_odds 110 = .ok (.if_icmp .ne 10, 3) := by decide +kernel
theorem dX7_odds_113 : decode cX7_odds 113 = .ok (.iload 5, 2) := by decide +kernel
theorem dX7_odds_115 : decode cX7_odds 115 = .ok (.iload 7, 2) := by decide +kernel
theorem dX7_odds_117 : decode cX7_odds 117 = .ok (.iadd, 1) := by decide +kernel
theorem dX7_odds_118 : decode cX7_odds 118 = .ok (.istore 5, 2) := by decide +kernel
theorem dX7_odds_120 : decode cX7_odds 120 = .ok (.iinc 6 1, 3) := by decide +kernel
theorem dX7_odds_123 : decode cX7_odds 123 = .ok (.goto (-78), 3) := by decide +kernel
theorem dX7_odds_126 : decode cX7_odds 126 = .ok (.bipush 10, 2) := by decide +kernel
theorem dX7_odds_128 : decode cX7_odds 128 = .ok (.iload 4, 2) := by decide +kernel
theorem dX7_odds_130 : decode cX7_odds 130 = .ok (.invokestatic 173, 3) := by decide +kernel
theorem dX7_odds_133 : decode cX7_odds 133 = .ok (.iconst 1, 1) := by decide +kernel
theorem dX7_odds_134 : decode cX7_odds 134 = .ok (.iconst 0, 1) := by decide +kernel
theorem dX7_odds_135 : decode cX7_odds 135 = .ok (.invokestatic 205, 3) := by decide +kernel
theorem dX7_odds_138 : decode cX7_odds 138 = .ok (.istore 6, 2) := by decide +kernel
theorem dX7_odds_140 : decode cX7_odds 140 = .ok (.iload 5, 2) := by decide +kernel
theorem dX7_odds_142 : decode cX7_odds 142 = .ok (.iload 6, 2) := by decide +kernel
theorem dX7_odds_144 : decode cX7_odds 144 = .ok (.invokestatic 209, 3) := by decide +kernel
theorem dX7_odds_147 : decode cX7_odds 147 = .ok (.istore 7, 2) := by decide +kernel
theorem dX7_odds_149 : decode cX7_odds 149 = .ok (.iload_n 3, 1) := by decide +kernel
theorem dX7_odds_150 : decode cX7_odds 150 = .ok (.ifCond .ne 8, 3) := by decide +kernel
theorem dX7_odds_153 : decode cX7_odds 153 = .ok (.iload 5, 2) := by decide +kernel
theorem dX7_odds_155 : decode cX7_odds 155 = .ok (.goto 5, 3) := by decide +kernel
theorem dX7_odds_158 : decode cX7_odds 158 = .ok (.iload 6, 2) := by decide +kernel
theorem dX7_odds_160 : decode cX7_odds 160 = .ok (.iload 7, 2) := by decide +kernel
theorem dX7_odds_162 : decode cX7_odds 162 = .ok (.idiv, 1) := by decide +kernel
theorem dX7_odds_163 : decode cX7_odds 163 = .ok (.ireturn, 1) := by decide +kernel
theorem dX7_hears_0 : decode cX7_hears 0 = .ok (.iload_n 1, 1) := by decide +kernel
theorem dX7_hears_1 : decode cX7_hears 1 = .ok (.aload_n 0, 1) := by decide +kernel
theorem dX7_hears_2 : decode cX7_hears 2 = .ok (.getfield 10, 3) := by decide +kernel
theorem dX7_hears_5 : decode cX7_hears 5 = .ok (.getfield 137, 3) := by decide +kernel
theorem dX7_hears_8 : decode cX7_hears 8 = .ok (.invokestatic 68, 3) := by decide +kernel
theorem dX7_hears_11 : decode cX7_hears 11 = .ok (.ifCond .eq 22, 3) := by decide +kernel
theorem dX7_hears_14 : decode cX7_hears 14 = .ok (.iload_n 2, 1) := by decide +kernel
theorem dX7_hears_15 : decode cX7_hears 15 = .ok (.aload_n 0, 1) := by decide +kernel
theorem dX7_hears_16 : decode cX7_hears 16 = .ok (.getfield 10, 3) := by decide +kernel
theorem dX7_hears_19 : decode cX7_hears 19 = .ok (.getfield 137, 3) := by decide +kernel
theorem dX7_hears_22 : decode cX7_hears 22 = .ok (.invokestatic 68, 3) := by decide +kernel
theorem dX7_hears_25 : decode cX7_hears 25 = .ok (.ifCond .eq 8, 3) := by decide +kernel
theorem dX7_hears_28 : decode cX7_hears 28 = .ok (.iload_n 1, 1) := by decide +kernel
theorem dX7_hears_29 : decode cX7_hears 29 = .ok (.iload_n 2, 1) := by decide +kernel
theorem dX7_hears_30 : decode cX7_hears 30 = .ok (.if_icmp .ne 5, 3) := by decide +kernel
theorem dX7_hears_33 : decode cX7_hears 33 = .ok (.iconst (-1), 1) := by decide +kernel
theorem dX7_hears_34 : decode cX7_hears 34 = .ok (.ireturn, 1) := by decide +kernel
theorem dX7_hears_35 : decode cX7_hears 35 = .ok (.aload_n 0, 1) := by decide +kernel
theorem dX7_hears_36 : decode cX7_hears 36 = .ok (.getfield 50, 3) := by decide +kernel
theorem dX7_hears_39 : decode cX7_hears 39 = .ok (.getfield 91, 3) := by decide +kernel
theorem dX7_hears_42 : decode cX7_hears 42 = .ok (.iconst 4, 1) := by decide +kernel
theorem dX7_hears_43 : decode cX7_hears 43 = .ok (.if_icmp .lt 6, 3) := by decide +kernel
theorem dX7_hears_46 : decode cX7_hears 46 = .ok (.bipush (-3), 2) := by decide +kernel
theorem dX7_hears_48 : decode cX7_hears 48 = .ok (.ireturn, 1) := by decide +kernel
theorem dX7_hears_49 : decode cX7_hears 49 = .ok (.aload_n 0, 1) := by decide +kernel
theorem dX7_hears_50 : decode cX7_hears 50 = .ok (.getfield 50, 3) := by decide +kernel
theorem dX7_hears_53 : decode cX7_hears 53 = .ok (.iload_n 1, 1) := by decide +kernel
theorem dX7_hears_54 : decode cX7_hears 54 = .ok (.iload_n 2, 1) := by decide +kernel
theorem dX7_hears_55 : decode cX7_hears 55 = .ok (.invokevirtual 212, 3) := by decide +kernel
theorem dX7_hears_58 : decode cX7_hears 58 = .ok (.aload_n 0, 1) := by decide +kernel
theorem dX7_hears_59 : decode cX7_hears 59 = .ok (.getfield 50, 3) := by decide +kernel
theorem dX7_hears_62 : decode cX7_hears 62 = .ok (.getfield 91, 3) := by decide +kernel
theorem dX7_hears_65 : decode cX7_hears 65 = .ok (.ireturn, 1) := by decide +kernel
theorem dX7_forget_0 : decode cX7_forget 0 = .ok (.aload_n 0, 1) := by decide +kernel
theorem dX7_forget_1 : decode cX7_forget 1 = .ok (.getfield 50, 3) := by decide +kernel
theorem dX7_forget_4 : decode cX7_forget 4 = .ok (.getfield 91, 3) := by decide +kernel
theorem dX7_forget_7 : decode cX7_forget 7 = .ok (.istore_n 1, 1) := by decide +kernel
theorem dX7_forget_8 : decode cX7_forget 8 = .ok (.aload_n 0, 1) := by decide +kernel
theorem dX7_forget_9 : decode cX7_forget 9 = .ok (.getfield 50, 3) := by decide +kernel
theorem dX7_forget_12 : decode cX7_forget 12 = .ok (.iconst 0, 1) := by decide +kernel
theorem dX7_forget_13 : decode cX7_forget 13 = .ok (.putfield 91, 3) := by decide +kernel
theorem dX7_forget_16 : decode cX7_forget 16 = .ok (.iload_n 1, 1) := by decide +kernel
theorem dX7_forget_17 : decode cX7_forget 17 = .ok (.ireturn, 1) := by decide +kernel
theorem dX7_likings_0 : decode cX7_likings 0 = .ok (.iload_n 1, 1) := by decide +kernel
theorem dX7_likings_1 : decode cX7_likings 1 = .ok (.iconst 2, 1) := by decide +kernel
theorem dX7_likings_2 : decode cX7_likings 2 = .ok (.invokestatic 68, 3) := by decide +kernel
theorem dX7_likings_5 : decode cX7_likings 5 = .ok (.ifCond .ne 5, 3) := by decide +kernel
theorem dX7_likings_8 : decode cX7_likings 8 = .ok (.iconst (-1), 1) := by decide +kernel
theorem dX7_likings_9 : decode cX7_likings 9 = .ok (.ireturn, 1) := by decide +kernel
theorem dX7_likings_10 : decode cX7_likings 10 = .ok (.aload_n 0, 1) := by decide +kernel
theorem dX7_likings_11 : decode cX7_likings 11 = .ok (.getfield 50, 3) := by decide +kernel
theorem dX7_likings_14 : decode cX7_likings 14 = .ok (.aload_n 0, 1) := by decide +kernel
theorem dX7_likings_15 : decode cX7_likings 15 = .ok (.getfield 10, 3) := by decide +kernel
theorem dX7_likings_18 : decode cX7_likings 18 = .ok (.getfield 137, 3) := by decide +kernel
theorem dX7_likings_21 : decode cX7_likings 21 = .ok (.invokevirtual 215, 3) := by decide +kernel
theorem dX7_likings_24 : decode cX7_likings 24 = .ok (.iload_n 1, 1) := by decide +kernel
theorem dX7_likings_25 : decode cX7_likings 25 = .ok (.ifCond .ne 13, 3) := by decide +kernel
theorem dX7_likings_28 : decode cX7_likings 28 = .ok (.aload_n 0, 1) := by decide +kernel
theorem dX7_likings_29 : decode cX7_likings 29 = .ok (.getfield 50, 3) := by decide +kernel
theorem dX7_likings_32 : decode cX7_likings 32 = .ok (.getfield 218, 3) := by decide +kernel
theorem dX7_likings_35 : decode cX7_likings 35 = .ok (.goto 10, 3) := by decide +kernel
theorem dX7_likings_38 : decode cX7_likings 38 = .ok (.aload_n 0, 1) := by decide +kernel
theorem dX7_likings_39 : decode cX7_likings 39 = .ok (.getfield 50, 3) := by decide +kernel
theorem dX7_likings_42 : decode cX7_likings 42 = .ok (.invokevirtual 221, 3) := by decide +kernel
theorem dX7_likings_45 : decode cX7_likings 45 = .ok (.ireturn, 1) := by decide +kernel
theorem dX7_ask_0 : decode cX7_ask 0 = .ok (.aload_n 0, 1) := by decide +kernel
theorem dX7_ask_1 : decode cX7_ask 1 = .ok (.getfield 50, 3) := by decide +kernel
theorem dX7_ask_4 : decode cX7_ask 4 = .ok (.aload_n 0, 1) := by decide +kernel
theorem dX7_ask_5 : decode cX7_ask 5 = .ok (.getfield 10, 3) := by decide +kernel
theorem dX7_ask_8 : decode cX7_ask 8 = .ok (.getfield 137, 3) := by decide +kernel
theorem dX7_ask_11 : decode cX7_ask 11 = .ok (.invokevirtual 215, 3) := by decide +kernel
theorem dX7_ask_14 : decode cX7_ask 14 = .ok (.aload_n 0, 1) := by decide +kernel
theorem dX7_ask_15 : decode cX7_ask 15 = .ok (.getfield 50, 3) := by decide +kernel
theorem dX7_ask_18 : decode cX7_ask 18 = .ok (.aload_n 0, 1) := by decide +kernel
theorem dX7_ask_19 : decode cX7_ask 19 = .ok (.getfield 10, 3) := by decide +kernel
theorem dX7_ask_22 : decode cX7_ask 22 = .ok (.getfield 137, 3) := by decide +kernel
theorem dX7_ask_25 : decode cX7_ask 25 = .ok (.invokevirtual 224, 3) := by decide +kernel
theorem dX7_ask_28 : decode cX7_ask 28 = .ok (.ireturn, 1) := by decide +kernel
theorem dX7_mark_0 : decode cX7_mark 0 = .ok (.iload_n 2, 1) := by decide +kernel
theorem dX7_mark_1 : decode cX7_mark 1 = .ok (.aload_n 0, 1) := by decide +kernel
theorem dX7_mark_2 : decode cX7_mark 2 = .ok (.getfield 10, 3) := by decide +kernel
theorem dX7_mark_5 : decode cX7_mark 5 = .ok (.getfield 137, 3) := by decide +kernel
theorem dX7_mark_8 : decode cX7_mark 8 = .ok (.invokestatic 68, 3) := by decide +kernel
theorem dX7_mark_11 : decode cX7_mark 11 = .ok (.ifCond .ne 6, 3) := by decide +kernel
theorem dX7_mark_14 : decode cX7_mark 14 = .ok (.ldc 227, 2) := by decide +kernel
theorem dX7_mark_16 : decode cX7_mark 16 = .ok (.ireturn, 1) := by decide +kernel
theorem dX7_mark_17 : decode cX7_mark 17 = .ok (.iload_n 1, 1) := by decide +kernel
theorem dX7_mark_18 : decode cX7_mark 18 = .ok (.tableswitch 74 0 5 #[38, 44, 50, 56, 62, 68], 38) := by decide +kernel
theorem dX7_mark_56 : decode cX7_mark 56 = .ok (.aload_n 0, 1) := by decide +kernel
theorem dX7_mark_57 : decode cX7_mark 57 = .ok (.iload_n 2, 1) := by decide +kernel
theorem dX7_mark_58 : decode cX7_mark 58 = .ok (.invokevirtual 228, 3) := by decide +kernel
theorem dX7_mark_61 : decode cX7_mark 61 = .ok (.ireturn, 1) := by decide +kernel
theorem dX7_mark_62 : decode cX7_mark 62 = .ok (.aload_n 0, 1) := by decide +kernel
theorem dX7_mark_63 : decode cX7_mark 63 = .ok (.iload_n 2, 1) := by decide +kernel
theorem dX7_mark_64 : decode cX7_mark 64 = .ok (.invokevirtual 231, 3) := by decide +kernel
theorem dX7_mark_67 : decode cX7_mark 67 = .ok (.ireturn, 1) := by decide +kernel
theorem dX7_mark_68 : decode cX7_mark 68 = .ok (.aload_n 0, 1) := by decide +kernel
theorem dX7_mark_69 : decode cX7_mark 69 = .ok (.iload_n 2, 1) := by decide +kernel
theorem dX7_mark_70 : decode cX7_mark 70 = .ok (.invokevirtual 234, 3) := by decide +kernel
theorem dX7_mark_73 : decode cX7_mark 73 = .ok (.ireturn, 1) := by decide +kernel
theorem dX7_mark_74 : decode cX7_mark 74 = .ok (.aload_n 0, 1) := by decide +kernel
theorem dX7_mark_75 : decode cX7_mark 75 = .ok (.iload_n 2, 1) := by decide +kernel
theorem dX7_mark_76 : decode cX7_mark 76 = .ok (.invokevirtual 237, 3) := by decide +kernel
theorem dX7_mark_79 : decode cX7_mark 79 = .ok (.ireturn, 1) := by decide +kernel
theorem dX7_mark_80 : decode cX7_mark 80 = .ok (.aload_n 0, 1) := by decide +kernel
theorem dX7_mark_81 : decode cX7_mark 81 = .ok (.iload_n 2, 1) := by decide +kernel
theorem dX7_mark_82 : decode cX7_mark 82 = .ok (.invokevirtual 240, 3) := by decide +kernel
theorem dX7_mark_85 : decode cX7_mark 85 = .ok (.ireturn, 1) := by decide +kernel
theorem dX7_mark_86 : decode cX7_mark 86 = .ok (.aload_n 0, 1) := by decide +kernel
theorem dX7_mark_87 : decode cX7_mark 87 = .ok (.iload_n 2, 1) := by decide +kernel
theorem dX7_mark_88 : decode cX7_mark 88 = .ok (.invokevirtual 243, 3) := by decide +kernel
theorem dX7_mark_91 : decode cX7_mark 91 = .ok (.ireturn, 1) := by decide +kernel
theorem dX7_mark_92 : decode cX7_mark 92 = .ok (.ldc 227, 2) := by decide +kernel
theorem dX7_mark_94 : decode cX7_mark 94 = .ok (.ireturn, 1) := by decide +kernel
theorem dX7_keep_0 : decode cX7_keep 0 = .ok (.aload_n 0, 1) := by decide +kernel
theorem dX7_keep_1 : decode cX7_keep 1 = .ok (.iload_n 1, 1) := by decide +kernel
theorem dX7_keep_2 : decode cX7_keep 2 = .ok (.invokevirtual 246, 3) := by decide +kernel
theorem dX7_keep_5 : decode cX7_keep 5 = .ok (.astore_n 2, 1) := by decide +kernel
theorem dX7_keep_6 : decode cX7_keep 6 = .ok (.aload_n 2, 1) := by decide +kernel
theorem dX7_keep_7 : decode cX7_keep 7 = .ok (.ifnonnull 5, 3) := by decide +kernel
theorem dX7_keep_10 : decode cX7_keep 10 = .ok (.iconst (-1), 1) := by decide +kernel
theorem dX7_keep_11 : decode cX7_keep 11 = .ok (.ireturn, 1) := by decide +kernel
theorem dX7_keep_12 : decode cX7_keep 12 = .ok (.aload_n 2, 1) := by decide +kernel
theorem dX7_keep_13 : decode cX7_keep 13 = .ok (.iconst 1, 1) := by decide +kernel
theorem dX7_keep_14 : decode cX7_keep 14 = .ok (.putfield 94, 3) := by decide +kernel
theorem dX7_keep_17 : decode cX7_keep 17 = .ok (.aload_n 2, 1) := by decide +kernel
theorem dX7_keep_18 : decode cX7_keep 18 = .ok (.getfield 250, 3) := by decide +kernel
theorem dX7_keep_21 : decode cX7_keep 21 = .ok (.aload_n 0, 1) := by decide +kernel
theorem dX7_keep_22 : decode cX7_keep 22 = .ok (.getfield 29, 3) := by decide +kernel
theorem dX7_keep_25 : decode cX7_keep 25 = .ok (.invokevirtual 253, 3) := by decide +kernel
theorem dX7_keep_28 : decode cX7_keep 28 = .ok (.aload_n 2, 1) := by decide +kernel
theorem dX7_keep_29 : decode cX7_keep 29 = .ok (.getfield 256, 3) := by decide +kernel
theorem dX7_keep_32 : decode cX7_keep 32 = .ok (.aload_n 0, 1) := by decide +kernel
theorem dX7_keep_33 : decode cX7_keep 33 = .ok (.getfield 36, 3) := by decide +kernel
theorem dX7_keep_36 : decode cX7_keep 36 = .ok (.invokevirtual 257, 3) := by decide +kernel
theorem dX7_keep_39 : decode cX7_keep 39 = .ok (.aload_n 0, 1) := by decide +kernel
theorem dX7_keep_40 : decode cX7_keep 40 = .ok (.getfield 29, 3) := by decide +kernel
theorem dX7_keep_43 : decode cX7_keep 43 = .ok (.getfield 150, 3) := by decide +kernel
theorem dX7_keep_46 : decode cX7_keep 46 = .ok (.ireturn, 1) := by decide +kernel
theorem dX7_back_0 : decode cX7_back 0 = .ok (.aload_n 0, 1) := by decide +kernel
theorem dX7_back_1 : decode cX7_back 1 = .ok (.iload_n 1, 1) := by decide +kernel
theorem dX7_back_2 : decode cX7_back 2 = .ok (.invokevirtual 246, 3) := by decide +kernel
theorem dX7_back_5 : decode cX7_back 5 = .ok (.astore_n 2, 1) := by decide +kernel
theorem dX7_back_6 : decode cX7_back 6 = .ok (.aload_n 2, 1) := by decide +kernel
theorem dX7_back_7 : decode cX7_back 7 = .ok (.ifnonnull 5, 3) := by decide +kernel
theorem dX7_back_10 : decode cX7_back 10 = .ok (.iconst (-1), 1) := by decide +kernel
theorem dX7_back_11 : decode cX7_back 11 = .ok (.ireturn, 1) := by decide +kernel
theorem dX7_back_12 : decode cX7_back 12 = .ok (.aload_n 2, 1) := by decide +kernel
theorem dX7_back_13 : decode cX7_back 13 = .ok (.getfield 94, 3) := by decide +kernel
theorem dX7_back_16 : decode cX7_back 16 = .ok (.ifCond .ne 6, 3) := by decide +kernel
theorem dX7_back_19 : decode cX7_back 19 = .ok (.bipush (-2), 2) := by decide +kernel
theorem dX7_back_21 : decode cX7_back 21 = .ok (.ireturn, 1) := by decide +kernel
theorem dX7_back_22 : decode cX7_back 22 = .ok (.aload_n 0, 1) := by decide +kernel
theorem dX7_back_23 : decode cX7_back 23 = .ok (.getfield 29, 3) := by decide +kernel
theorem dX7_back_26 : decode cX7_back 26 = .ok (.aload_n 2, 1) := by decide +kernel
theorem dX7_back_27 : decode cX7_back 27 = .ok (.getfield 250, 3) := by decide +kernel
theorem dX7_back_30 : decode cX7_back 30 = .ok (.invokevirtual 253, 3) := by decide +kernel
theorem dX7_back_33 : decode cX7_back 33 = .ok (.aload_n 0, 1) := by decide +kernel
theorem dX7_back_34 : decode cX7_back 34 = .ok (.getfield 36, 3) := by decide +kernel
theorem dX7_back_37 : decode cX7_back 37 = .ok (.aload_n 2, 1) := by decide +kernel
theorem dX7_back_38 : decode cX7_back 38 = .ok (.getfield 256, 3) := by decide +kernel
theorem dX7_back_41 : decode cX7_back 41 = .ok (.invokevirtual 257, 3) := by decide +kernel
theorem dX7_back_44 : decode cX7_back 44 = .ok (.aload_n 0, 1) := by decide +kernel
theorem dX7_back_45 : decode cX7_back 45 = .ok (.getfield 29, 3) := by decide +kernel
theorem dX7_back_48 : decode cX7_back 48 = .ok (.getfield 150, 3) := by decide +kernel
theorem dX7_back_51 : decode cX7_back 51 = .ok (.ireturn, 1) := by decide +kernel
theorem dX7_count_0 : decode cX7_count 0 = .ok (.iload_n 1, 1) := by decide +kernel
theorem dX7_count_1 : decode cX7_count 1 = .ok (.tableswitch 99 0 6 #[43, 51, 59, 67, 75, 83, 91], 43) := by decide +kernel
theorem dX7_count_44 : decode cX7_count 44 = .ok (.aload_n 0, 1) := by decide +kernel
theorem dX7_count_45 : decode cX7_count 45 = .ok (.getfield 10, 3) := by decide +kernel
theorem dX7_count_48 : decode cX7_count 48 = .ok (.getfield 137, 3) := by decide +kernel
theorem dX7_count_51 : decode cX7_count 51 = .ok (.ireturn, 1) := by decide +kernel
theorem dX7_count_52 : decode cX7_count 52 = .ok (.aload_n 0, 1) := by decide +kernel
theorem dX7_count_53 : decode cX7_count 53 = .ok (.getfield 10, 3) := by decide +kernel
theorem dX7_count_56 : decode cX7_count 56 = .ok (.getfield 188, 3) := by decide +kernel
theorem dX7_count_59 : decode cX7_count 59 = .ok (.ireturn, 1) := by decide +kernel
theorem dX7_count_60 : decode cX7_count 60 = .ok (.aload_n 0, 1) := by decide +kernel
theorem dX7_count_61 : decode cX7_count 61 = .ok (.getfield 10, 3) := by decide +kernel
theorem dX7_count_64 : decode cX7_count 64 = .ok (.getfield 98, 3) := by decide +kernel
theorem dX7_count_67 : decode cX7_count 67 = .ok (.ireturn, 1) := by decide +kernel
theorem dX7_count_68 : decode cX7_count 68 = .ok (.aload_n 0, 1) := by decide +kernel
theorem dX7_count_69 : decode cX7_count 69 = .ok (.getfield 10, 3) := by decide +kernel
theorem dX7_count_72 : decode cX7_count 72 = .ok (.getfield 122, 3) := by decide +kernel
theorem dX7_count_75 : decode cX7_count 75 = .ok (.ireturn, 1) := by decide +kernel
theorem dX7_count_76 : decode cX7_count 76 = .ok (.aload_n 0, 1) := by decide +kernel
theorem dX7_count_77 : decode cX7_count 77 = .ok (.getfield 50, 3) := by decide +kernel
theorem dX7_count_80 : decode cX7_count 80 = .ok (.getfield 91, 3) := by decide +kernel
theorem dX7_count_83 : decode cX7_count 83 = .ok (.ireturn, 1) := by decide +kernel
theorem dX7_count_84 : decode cX7_count 84 = .ok (.aload_n 0, 1) := by decide +kernel
theorem dX7_count_85 : decode cX7_count 85 = .ok (.getfield 36, 3) := by decide +kernel
theorem dX7_count_88 : decode cX7_count 88 = .ok (.getfield 88, 3) := by decide +kernel
theorem dX7_count_91 : decode cX7_count 91 = .ok (.ireturn, 1) := by decide +kernel
theorem dX7_count_92 : decode cX7_count 92 = .ok (.aload_n 0, 1) := by decide +kernel
theorem dX7_count_93 : decode cX7_count 93 = .ok (.getfield 22, 3) := by decide +kernel
theorem dX7_count_96 : decode cX7_count 96 = .ok (.getfield 72, 3) := by decide +kernel
theorem dX7_count_99 : decode cX7_count 99 = .ok (.ireturn, 1) := by decide +kernel
theorem dX7_count_100 : decode cX7_count 100 = .ok (.iconst (-1), 1) := by decide +kernel
theorem dX7_count_101 : decode cX7_count 101 = .ok (.ireturn, 1) := by decide +kernel
theorem dX7_trace_0 : decode cX7_trace 0 = .ok (.aload_n 0, 1) := by decide +kernel
theorem dX7_trace_1 : decode cX7_trace 1 = .ok (.getfield 64, 3) := by decide +kernel
theorem dX7_trace_4 : decode cX7_trace 4 = .ok (.lreturn, 1) := by decide +kernel
theorem dX7_openTrains_0 : decode cX7_openTrains 0 = .ok (.iconst 0, 1) := by decide +kernel
theorem dX7_openTrains_1 : decode cX7_openTrains 1 = .ok (.istore_n 1, 1) := by decide +kernel
theorem dX7_openTrains_2 : decode cX7_openTrains 2 = .ok (.iconst 0, 1) := by decide +kernel
theorem dX7_openTrains_3 : decode cX7_openTrains 3 = .ok (.istore_n 2, 1) := by decide +kernel
theorem dX7_openTrains_4 : decode cX7_openTrains 4 = .ok (.iload_n 2, 1) := by decide +kernel
theorem dX7_openTrains_5 : decode cX7_openTrains 5 = .ok (.aload_n 0, 1) := by decide +kernel
theorem dX7_openTrains_6 : decode cX7_openTrains 6 = .ok (.getfield 10, 3) := by decide +kernel
theorem dX7_openTrains_9 : decode cX7_openTrains 9 = .ok (.getfield 98, 3) := by decide +kernel
theorem dX7_openTrains_12 : decode cX7_openTrains 12 = .ok (.if_icmp .ge 50, 3) := by decide +kernel
theorem dX7_openTrains_15 : decode cX7_openTrains 15 = .ok (.aload_n 0, 1) := by decide +kernel
theorem dX7_openTrains_16 : decode cX7_openTrains 16 = .ok (.getfield 29, 3) := by decide +kernel
theorem dX7_openTrains_19 : decode cX7_openTrains 19 = .ok (.getfield 115, 3) := by decide +kernel
theorem dX7_openTrains_22 : decode cX7_openTrains 22 = .ok (.iload_n 2, 1) := by decide +kernel
theorem dX7_openTrains_23 : decode cX7_openTrains 23 = .ok (.invokestatic 118, 3) := by decide +kernel
theorem dX7_openTrains_26 : decode cX7_openTrains 26 = .ok (.ifCond .ne 30, 3) := by decide +kernel
theorem dX7_openTrains_29 : decode cX7_openTrains 29 = .ok (.aload_n 0, 1) := by decide +kernel
theorem dX7_openTrains_30 : decode cX7_openTrains 30 = .ok (.getfield 29, 3) := by decide +kernel
theorem dX7_openTrains_33 : decode cX7_openTrains 33 = .ok (.getfield 101, 3) := by decide +kernel
theorem dX7_openTrains_36 : decode cX7_openTrains 36 = .ok (.iload_n 2, 1) := by decide +kernel
theorem dX7_openTrains_37 : decode cX7_openTrains 37 = .ok (.invokestatic 105, 3) := by decide +kernel
theorem dX7_openTrains_40 : decode cX7_openTrains 40 = .ok (.aload_n 0, 1) := by decide +kernel
theorem dX7_openTrains_41 : decode cX7_openTrains 41 = .ok (.getfield 29, 3) := by decide +kernel
theorem dX7_openTrains_44 : decode cX7_openTrains 44 = .ok (.getfield 150, 3) := by decide +kernel
theorem dX7_openTrains_47 : decode cX7_openTrains 47 = .ok (.if_icmp .lt 9, 3) := by decide +kernel
theorem dX7_openTrains_50 : decode cX7_openTrains 50 = .ok (.iload_n 1, 1) := by decide +kernel
theorem dX7_openTrains_51 : decode cX7_openTrains 51 = .ok (.iconst 1, 1) := by decide +kernel
theorem dX7_openTrains_52 : decode cX7_openTrains 52 = .ok (.iload_n 2, 1) := by decide +kernel
theorem dX7_openTrains_53 : decode cX7_openTrains 53 = .ok (.ishl, 1) := by decide +kernel
theorem dX7_openTrains_54 : decode cX7_openTrains 54 = .ok (.ior, 1) := by decide +kernel
theorem dX7_openTrains_55 : decode cX7_openTrains 55 = .ok (.istore_n 1, 1) := by decide +kernel
theorem dX7_openTrains_56 : decode cX7_openTrains 56 = .ok (.iinc 2 1, 3) := by decide +kernel
theorem dX7_openTrains_59 : decode cX7_openTrains 59 = .ok (.goto (-55), 3) := by decide +kernel
theorem dX7_openTrains_62 : decode cX7_openTrains 62 = .ok (.iload_n 1, 1) := by decide +kernel
theorem dX7_openTrains_63 : decode cX7_openTrains 63 = .ok (.ireturn, 1) := by decide +kernel
theorem dX7_trainsFor_0 : decode cX7_trainsFor 0 = .ok (.iconst 0, 1) := by decide +kernel
theorem dX7_trainsFor_1 : decode cX7_trainsFor 1 = .ok (.istore_n 2, 1) := by decide +kernel
theorem dX7_trainsFor_2 : decode cX7_trainsFor 2 = .ok (.iconst 0, 1) := by decide +kernel
theorem dX7_trainsFor_3 : decode cX7_trainsFor 3 = .ok (.istore_n 3, 1) := by decide +kernel
theorem dX7_trainsFor_4 : decode cX7_trainsFor 4 = .ok (.iload_n 3, 1) := by decide +kernel
theorem dX7_trainsFor_5 : decode cX7_trainsFor 5 = .ok (.aload_n 0, 1) := by decide +kernel
theorem dX7_trainsFor_6 : decode cX7_trainsFor 6 = .ok (.getfield 10, 3) := by decide +kernel
theorem dX7_trainsFor_9 : decode cX7_trainsFor 9 = .ok (.getfield 98, 3) := by decide +kernel
theorem dX7_trainsFor_12 : decode cX7_trainsFor 12 = .ok (.if_icmp .ge 30, 3) := by decide +kernel
theorem dX7_trainsFor_15 : decode cX7_trainsFor 15 = .ok (.aload_n 0, 1) := by decide +kernel
theorem dX7_trainsFor_16 : decode cX7_trainsFor 16 = .ok (.getfield 29, 3) := by decide +kernel
theorem dX7_trainsFor_19 : decode cX7_trainsFor 19 = .ok (.getfield 112, 3) := by decide +kernel
theorem dX7_trainsFor_22 : decode cX7_trainsFor 22 = .ok (.iload_n 3, 1) := by decide +kernel
theorem dX7_trainsFor_23 : decode cX7_trainsFor 23 = .ok (.invokestatic 105, 3) := by decide +kernel
theorem dX7_trainsFor_26 : decode cX7_trainsFor 26 = .ok (.iload_n 1, 1) := by decide +kernel
theorem dX7_trainsFor_27 : decode cX7_trainsFor 27 = .ok (.if_icmp .ne 9, 3) := by decide +kernel
theorem dX7_trainsFor_30 : decode cX7_trainsFor 30 = .ok (.iload_n 2, 1) := by decide +kernel
theorem dX7_trainsFor_31 : decode cX7_trainsFor 31 = .ok (.iconst 1, 1) := by decide +kernel
theorem dX7_trainsFor_32 : decode cX7_trainsFor 32 = .ok (.iload_n 3, 1) := by decide +kernel
theorem dX7_trainsFor_33 : decode cX7_trainsFor 33 = .ok (.ishl, 1) := by decide +kernel
theorem dX7_trainsFor_34 : decode cX7_trainsFor 34 = .ok (.ior, 1) := by decide +kernel
theorem dX7_trainsFor_35 : decode cX7_trainsFor 35 = .ok (.istore_n 2, 1) := by decide +kernel
theorem dX7_trainsFor_36 : decode cX7_trainsFor 36 = .ok (.iinc 3 1, 3) := by decide +kernel
theorem dX7_trainsFor_39 : decode cX7_trainsFor 39 = .ok (.goto (-35), 3) := by decide +kernel
theorem dX7_trainsFor_42 : decode cX7_trainsFor 42 = .ok (.iload_n 2, 1) := by decide +kernel
theorem dX7_trainsFor_43 : decode cX7_trainsFor 43 = .ok (.ireturn, 1) := by decide +kernel
theorem dX7_stopTrains_0 : decode cX7_stopTrains 0 = .ok (.iconst 0, 1) := by decide +kernel
theorem dX7_stopTrains_1 : decode cX7_stopTrains 1 = .ok (.istore_n 1, 1) := by decide +kernel
theorem dX7_stopTrains_2 : decode cX7_stopTrains 2 = .ok (.iconst 0, 1) := by decide +kernel
theorem dX7_stopTrains_3 : decode cX7_stopTrains 3 = .ok (.istore_n 2, 1) := by decide +kernel
theorem dX7_stopTrains_4 : decode cX7_stopTrains 4 = .ok (.iload_n 2, 1) := by decide +kernel
theorem dX7_stopTrains_5 : decode cX7_stopTrains 5 = .ok (.aload_n 0, 1) := by decide +kernel
theorem dX7_stopTrains_6 : decode cX7_stopTrains 6 = .ok (.getfield 10, 3) := by decide +kernel
theorem dX7_stopTrains_9 : decode cX7_stopTrains 9 = .ok (.getfield 98, 3) := by decide +kernel
theorem dX7_stopTrains_12 : decode cX7_stopTrains 12 = .ok (.if_icmp .ge 98, 3) := by decide +kernel
theorem dX7_stopTrains_15 : decode cX7_stopTrains 15 = .ok (.aload_n 0, 1) := by decide +kernel
theorem dX7_stopTrains_16 : decode cX7_stopTrains 16 = .ok (.getfield 29, 3) := by decide +kernel
theorem dX7_stopTrains_19 : decode cX7_stopTrains 19 = .ok (.getfield 115, 3) := by decide +kernel
theorem dX7_stopTrains_22 : decode cX7_stopTrains 22 = .ok (.iload_n 2, 1) := by decide +kernel
theorem dX7_stopTrains_23 : decode cX7_stopTrains 23 = .ok (.invokestatic 118, 3) := by decide +kernel
theorem dX7_stopTrains_26 : decode cX7_stopTrains 26 = .ok (.iconst 1, 1) := by decide +kernel
theorem dX7_stopTrains_27 : decode cX7_stopTrains 27 = .ok (.if_icmp .eq 77, 3) := by decide +kernel
theorem dX7_stopTrains_30 : decode cX7_stopTrains 30 = .ok (.aload_n 0, 1) := by decide +kernel
theorem dX7_stopTrains_31 : decode cX7_stopTrains 31 = .ok (.getfield 29, 3) := by decide +kernel
theorem dX7_stopTrains_34 : decode cX7_stopTrains 34 = .ok (.getfield 101, 3) := by decide +kernel
theorem dX7_stopTrains_37 : decode cX7_stopTrains 37 = .ok (.iload_n 2, 1) := by decide +kernel
theorem dX7_stopTrains_38 : decode cX7_stopTrains 38 = .ok (.invokestatic 105, 3) := by decide +kernel
theorem dX7_stopTrains_41 : decode cX7_stopTrains 41 = .ok (.aload_n 0, 1) := by decide +kernel
theorem dX7_stopTrains_42 : decode cX7_stopTrains 42 = .ok (.getfield 29, 3) := by decide +kernel
theorem dX7_stopTrains_45 : decode cX7_stopTrains 45 = .ok (.getfield 150, 3) := by decide +kernel
theorem dX7_stopTrains_48 : decode cX7_stopTrains 48 = .ok (.if_icmp .eq 6, 3) := by decide +kernel
theorem dX7_stopTrains_51 : decode cX7_stopTrains 51 = .ok (.goto 53, 3) := by decide +kernel
theorem dX7_stopTrains_54 : decode cX7_stopTrains 54 = .ok (.aload_n 0, 1) := by decide +kernel
theorem dX7_stopTrains_55 : decode cX7_stopTrains 55 = .ok (.getfield 29, 3) := by decide +kernel
theorem dX7_stopTrains_58 : decode cX7_stopTrains 58 = .ok (.getfield 179, 3) := by decide +kernel
theorem dX7_stopTrains_61 : decode cX7_stopTrains 61 = .ok (.aload_n 0, 1) := by decide +kernel
theorem dX7_stopTrains_62 : decode cX7_stopTrains 62 = .ok (.getfield 29, 3) := by decide +kernel
theorem dX7_stopTrains_65 : decode cX7_stopTrains 65 = .ok (.getfield 112, 3) := by decide +kernel
theorem dX7_stopTrains_68 : decode cX7_stopTrains 68 = .ok (.iload_n 2, 1) := by decide +kernel
theorem dX7_stopTrains_69 : decode cX7_stopTrains 69 = .ok (.invokestatic 105, 3) := by decide +kernel
theorem dX7_stopTrains_72 : decode cX7_stopTrains 72 = .ok (.aload_n 0, 1) := by decide +kernel
theorem dX7_stopTrains_73 : decode cX7_stopTrains 73 = .ok (.getfield 10, 3) := by decide +kernel
theorem dX7_stopTrains_76 : decode cX7_stopTrains 76 = .ok (.getfield 109, 3) := by decide +kernel
theorem dX7_stopTrains_79 : decode cX7_stopTrains 79 = .ok (.iload_n 2, 1) := by decide +kernel
theorem dX7_stopTrains_80 : decode cX7_stopTrains 80 = .ok (.invokestatic 105, 3) := by decide +kernel
theorem dX7_stopTrains_83 : decode cX7_stopTrains 83 = .ok (.invokestatic 163, 3) := by decide +kernel
theorem dX7_stopTrains_86 : decode cX7_stopTrains 86 = .ok (.aload_n 0, 1) := by decide +kernel
theorem dX7_stopTrains_87 : decode cX7_stopTrains 87 = .ok (.getfield 29, 3) := by decide +kernel
theorem dX7_stopTrains_90 : decode cX7_stopTrains 90 = .ok (.dup, 1) := by decide +kernel
theorem dX7_stopTrains_91 : decode cX7_stopTrains 91 = .ok (.getfield 115, 3) := by decide +kernel
theorem dX7_stopTrains_94 : decode cX7_stopTrains 94 = .ok (.iconst 1, 1) := by decide +kernel
theorem dX7_stopTrains_95 : decode cX7_stopTrains 95 = .ok (.iload_n 2, 1) := by decide +kernel
theorem dX7_stopTrains_96 : decode cX7_stopTrains 96 = .ok (.ishl, 1) := by decide +kernel
theorem dX7_stopTrains_97 : decode cX7_stopTrains 97 = .ok (.ior, 1) := by decide +kernel
theorem dX7_stopTrains_98 : decode cX7_stopTrains 98 = .ok (.putfield 115, 3) := by decide +kernel
theorem dX7_stopTrains_101 : decode cX7_stopTrains 101 = .ok (.iinc 1 1, 3) := by decide +kernel
theorem dX7_stopTrains_104 : decode cX7_stopTrains 104 = .ok (.iinc 2 1, 3) := by decide +kernel
theorem dX7_stopTrains_107 : decode cX7_stopTrains 107 = .ok (.goto (-103), 3) := by decide +kernel
theorem dX7_stopTrains_110 : decode cX7_stopTrains 110 = .ok (.iload_n 1, 1) := by decide +kernel
theorem dX7_stopTrains_111 : decode cX7_stopTrains 111 = .ok (.ireturn, 1) := by decide +kernel
theorem dX7_castFor_0 : decode cX7_castFor 0 = .ok (.aload_n 0, 1) := by decide +kernel
theorem dX7_castFor_1 : decode cX7_castFor 1 = .ok (.iload_n 1, 1) := by decide +kernel
theorem dX7_castFor_2 : decode cX7_castFor 2 = .ok (.iconst 0, 1) := by decide +kernel
theorem dX7_castFor_3 : decode cX7_castFor 3 = .ok (.iconst 0, 1) := by decide +kernel
theorem dX7_castFor_4 : decode cX7_castFor 4 = .ok (.invokevirtual 197, 3) := by decide +kernel
theorem dX7_castFor_7 : decode cX7_castFor 7 = .ok (.return_, 1) := by decide +kernel
theorem dX7_castCanvassed_0 : decode cX7_castCanvassed 0 = .ok (.aload_n 0, 1) := by decide +kernel
theorem dX7_castCanvassed_1 : decode cX7_castCanvassed 1 = .ok (.getfield 43, 3) := by decide +kernel
theorem dX7_castCanvassed_4 : decode cX7_castCanvassed 4 = .ok (.aload_n 0, 1) := by decide +kernel
theorem dX7_castCanvassed_5 : decode cX7_castCanvassed 5 = .ok (.getfield 29, 3) := by decide +kernel
theorem dX7_castCanvassed_8 : decode cX7_castCanvassed 8 = .ok (.getfield 179, 3) := by decide +kernel
theorem dX7_castCanvassed_11 : decode cX7_castCanvassed 11 = .ok (.invokevirtual 260, 3) := by decide +kernel
theorem dX7_castCanvassed_14 : decode cX7_castCanvassed 14 = .ok (.iconst 0, 1) := by decide +kernel
theorem dX7_castCanvassed_15 : decode cX7_castCanvassed 15 = .ok (.istore 4, 2) := by decide +kernel
theorem dX7_castCanvassed_17 : decode cX7_castCanvassed 17 = .ok (.iload 4, 2) := by decide +kernel
theorem dX7_castCanvassed_19 : decode cX7_castCanvassed 19 = .ok (.aload_n 0, 1) := by decide +kernel
theorem dX7_castCanvassed_20 : decode cX7_castCanvassed 20 = .ok (.getfield 10, 3) := by decide +kernel
theorem dX7_castCanvassed_23 : decode cX7_castCanvassed 23 = .ok (.getfield 98, 3) := by decide +kernel
theorem dX7_castCanvassed_26 : decode cX7_castCanvassed 26 = .ok (.if_icmp .ge 73, 3) := by decide +kernel
theorem dX7_castCanvassed_29 : decode cX7_castCanvassed 29 = .ok (.iload_n 1, 1) := by decide +kernel
theorem dX7_castCanvassed_30 : decode cX7_castCanvassed 30 = .ok (.iload 4, 2) := by decide +kernel
theorem dX7_castCanvassed_32 : decode cX7_castCanvassed 32 = .ok (.invokestatic 118, 3) := by decide +kernel
theorem dX7_castCanvassed_35 : decode cX7_castCanvassed 35 = .ok (.ifCond .ne 6, 3) := by decide +kernel
theorem dX7_castCanvassed_38 : decode cX7_castCanvassed 38 = .ok (.goto 55, 3) := by decide +kernel
theorem dX7_castCanvassed_41 : decode cX7_castCanvassed 41 = .ok (.iload_n 2, 1) := by decide +kernel
theorem dX7_castCanvassed_42 : decode cX7_castCanvassed 42 = .ok (.iload 4, 2) := by decide +kernel
theorem dX7_castCanvassed_44 : decode cX7_castCanvassed 44 = .ok (.invokestatic 118, 3) := by decide +kernel
theorem dX7_castCanvassed_47 : decode cX7_castCanvassed 47 = .ok (.iconst 1, 1) := by decide +kernel
theorem dX7_castCanvassed_48 : decode cX7_castCanvassed 48 = .ok (.if_icmp .ne 7, 3) := by decide +kernel
theorem dX7_castCanvassed_51 : decode cX7_castCanvassed 51 = .ok (.iload_n 3, 1) := by decide +kernel
theorem dX7_castCanvassed_52 : decode cX7_castCanvassed 52 = .ok (.goto 15, 3) := by decide +kernel
theorem dX7_castCanvassed_55 : decode cX7_castCanvassed 55 = .ok (.aload_n 0, 1) := by decide +kernel
theorem dX7_castCanvassed_56 : decode cX7_castCanvassed 56 = .ok (.getfield 29, 3) := by decide +kernel
theorem dX7_castCanvassed_59 : decode cX7_castCanvassed 59 = .ok (.getfield 112, 3) := by decide +kernel
theorem dX7_castCanvassed_62 : decode cX7_castCanvassed 62 = .ok (.iload 4, 2) := by decide +kernel
theorem dX7_castCanvassed_64 : decode cX7_castCanvassed 64 = .ok (.invokestatic 105, 3) := by decide +kernel
theorem dX7_castCanvassed_67 : decode cX7_castCanvassed 67 = .ok (.istore 5, 2) := by decide +kernel
theorem dX7_castCanvassed_69 : decode cX7_castCanvassed 69 = .ok (.aload_n 0, 1) := by decide +kernel
theorem dX7_castCanvassed_70 : decode cX7_castCanvassed 70 = .ok (.getfield 43, 3) := by decide +kernel
theorem dX7_castCanvassed_73 : decode cX7_castCanvassed 73 = .ok (.getfield 147, 3) := by decide +kernel
theorem dX7_castCanvassed_76 : decode cX7_castCanvassed 76 = .ok (.iload 5, 2) := by decide +kernel
theorem dX7_castCanvassed_78 : decode cX7_castCanvassed 78 = .ok (.aload_n 0, 1) := by decide +kernel
theorem dX7_castCanvassed_79 : decode cX7_castCanvassed 79 = .ok (.getfield 10, 3) := by decide +kernel
theorem dX7_castCanvassed_82 : decode cX7_castCanvassed 82 = .ok (.getfield 109, 3) := by decide +kernel
theorem dX7_castCanvassed_85 : decode cX7_castCanvassed 85 = .ok (.iload 4, 2) := by decide +kernel
theorem dX7_castCanvassed_87 : decode cX7_castCanvassed 87 = .ok (.invokestatic 105, 3) := by decide +kernel
theorem dX7_castCanvassed_90 : decode cX7_castCanvassed 90 = .ok (.invokestatic 163, 3) := by decide +kernel
theorem dX7_castCanvassed_93 : decode cX7_castCanvassed 93 = .ok (.iinc 4 1, 3) := by decide +kernel
theorem dX7_castCanvassed_96 : decode cX7_castCanvassed 96 = .ok (.goto (-79), 3) := by decide +kernel
theorem dX7_castCanvassed_99 : decode cX7_castCanvassed 99 = .ok (.return_, 1) := by decide +kernel
theorem dX7_leftAfter_0 : decode cX7_leftAfter 0 = .ok (.aload_n 0, 1) := by decide +kernel
theorem dX7_leftAfter_1 : decode cX7_leftAfter 1 = .ok (.iload_n 1, 1) := by decide +kernel
theorem dX7_leftAfter_2 : decode cX7_leftAfter 2 = .ok (.invokevirtual 144, 3) := by decide +kernel
theorem dX7_leftAfter_5 : decode cX7_leftAfter 5 = .ok (.aload_n 0, 1) := by decide +kernel
theorem dX7_leftAfter_6 : decode cX7_leftAfter 6 = .ok (.getfield 43, 3) := by decide +kernel
theorem dX7_leftAfter_9 : decode cX7_leftAfter 9 = .ok (.aload_n 0, 1) := by decide +kernel
theorem dX7_leftAfter_10 : decode cX7_leftAfter 10 = .ok (.getfield 10, 3) := by decide +kernel
theorem dX7_leftAfter_13 : decode cX7_leftAfter 13 = .ok (.getfield 137, 3) := by decide +kernel
theorem dX7_leftAfter_16 : decode cX7_leftAfter 16 = .ok (.aload_n 0, 1) := by decide +kernel
theorem dX7_leftAfter_17 : decode cX7_leftAfter 17 = .ok (.getfield 10, 3) := by decide +kernel
theorem dX7_leftAfter_20 : decode cX7_leftAfter 20 = .ok (.getfield 188, 3) := by decide +kernel
theorem dX7_leftAfter_23 : decode cX7_leftAfter 23 = .ok (.invokevirtual 264, 3) := by decide +kernel
theorem dX7_leftAfter_26 : decode cX7_leftAfter 26 = .ok (.ireturn, 1) := by decide +kernel
theorem dX7_winnerAfter_0 : decode cX7_winnerAfter 0 = .ok (.aload_n 0, 1) := by decide +kernel
theorem dX7_winnerAfter_1 : decode cX7_winnerAfter 1 = .ok (.iload_n 1, 1) := by decide +kernel
theorem dX7_winnerAfter_2 : decode cX7_winnerAfter 2 = .ok (.invokevirtual 144, 3) := by decide +kernel
theorem dX7_winnerAfter_5 : decode cX7_winnerAfter 5 = .ok (.aload_n 0, 1) := by decide +kernel
theorem dX7_winnerAfter_6 : decode cX7_winnerAfter 6 = .ok (.getfield 43, 3) := by decide +kernel
theorem dX7_winnerAfter_9 : decode cX7_winnerAfter 9 = .ok (.aload_n 0, 1) := by decide +kernel
theorem dX7_winnerAfter_10 : decode cX7_winnerAfter 10 = .ok (.getfield 10, 3) := by decide +kernel
theorem dX7_winnerAfter_13 : decode cX7_winnerAfter 13 = .ok (.aload_n 0, 1) := by decide +kernel
theorem dX7_winnerAfter_14 : decode cX7_winnerAfter 14 = .ok (.getfield 29, 3) := by decide +kernel
theorem dX7_winnerAfter_17 : decode cX7_winnerAfter 17 = .ok (.getfield 134, 3) := by decide +kernel
theorem dX7_winnerAfter_20 : decode cX7_winnerAfter 20 = .ok (.iload_n 2, 1) := by decide +kernel
theorem dX7_winnerAfter_21 : decode cX7_winnerAfter 21 = .ok (.invokevirtual 201, 3) := by decide +kernel
theorem dX7_winnerAfter_24 : decode cX7_winnerAfter 24 = .ok (.ireturn, 1) := by decide +kernel
theorem dX7_markOfOne_0 : decode cX7_markOfOne 0 = .ok (.aload_n 0, 1) := by decide +kernel
theorem dX7_markOfOne_1 : decode cX7_markOfOne 1 = .ok (.dup, 1) := by decide +kernel
theorem dX7_markOfOne_2 : decode cX7_markOfOne 2 = .ok (.getfield 64, 3) := by decide +kernel
theorem dX7_markOfOne_5 : decode cX7_markOfOne 5 = .ok (.lconst 1, 1) := by decide +kernel
theorem dX7_markOfOne_6 : decode cX7_markOfOne 6 = .ok (.ladd, 1) := by decide +kernel
theorem dX7_markOfOne_7 : decode cX7_markOfOne 7 = .ok (.putfield 64, 3) := by decide +kernel
theorem dX7_markOfOne_10 : decode cX7_markOfOne 10 = .ok (.aload_n 0, 1) := by decide +kernel
theorem dX7_markOfOne_11 : decode cX7_markOfOne 11 = .ok (.getfield 29, 3) := by decide +kernel
theorem dX7_markOfOne_14 : decode cX7_markOfOne 14 = .ok (.getfield 179, 3) := by decide +kernel
theorem dX7_markOfOne_17 : decode cX7_markOfOne 17 = .ok (.iload_n 1, 1) := by decide +kernel
theorem dX7_markOfOne_18 : decode cX7_markOfOne 18 = .ok (.invokestatic 105, 3) := by decide +kernel
theorem dX7_markOfOne_21 : decode cX7_markOfOne 21 = .ok (.ireturn, 1) := by decide +kernel
theorem dX7_markOfLiberal_0 : decode cX7_markOfLiberal 0 = .ok (.aload_n 0, 1) := by decide +kernel
theorem dX7_markOfLiberal_1 : decode cX7_markOfLiberal 1 = .ok (.dup, 1) := by decide +kernel
theorem dX7_markOfLiberal_2 : decode cX7_markOfLiberal 2 = .ok (.getfield 64, 3) := by decide +kernel
theorem dX7_markOfLiberal_5 : decode cX7_markOfLiberal 5 = .ok (.ldc2_w 267, 3) := by decide +kernel
theorem dX7_markOfLiberal_8 : decode cX7_markOfLiberal 8 = .ok (.ladd, 1) := by decide +kernel
theorem dX7_markOfLiberal_9 : decode cX7_markOfLiberal 9 = .ok (.putfield 64, 3) := by decide +kernel
theorem dX7_markOfLiberal_12 : decode cX7_markOfLiberal 12 = .ok (.aload_n 0, 1) := by decide +kernel
theorem dX7_markOfLiberal_13 : decode cX7_markOfLiberal 13 = .ok (.iload_n 1, 1) := by decide +kernel
theorem dX7_markOfLiberal_14 : decode cX7_markOfLiberal 14 = .ok (.invokevirtual 228, 3) := by decide +kernel
theorem dX7_markOfLiberal_17 : decode cX7_markOfLiberal 17 = .ok (.aload_n 0, 1) := by decide +kernel
theorem dX7_markOfLiberal_18 : decode cX7_markOfLiberal 18 = .ok (.iload_n 1, 1) := by decide +kernel
theorem dX7_markOfLiberal_19 : decode cX7_markOfLiberal 19 = .ok (.invokevirtual 194, 3) := by decide +kernel
theorem dX7_markOfLiberal_22 : decode cX7_markOfLiberal 22 = .ok (.aload_n 0, 1) := by decide +kernel
theorem dX7_markOfLiberal_23 : decode cX7_markOfLiberal 23 = .ok (.getfield 29, 3) := by decide +kernel
theorem dX7_markOfLiberal_26 : decode cX7_markOfLiberal 26 = .ok (.getfield 115, 3) := by decide +kernel
theorem dX7_markOfLiberal_29 : decode cX7_markOfLiberal 29 = .ok (.iconst (-1), 1) := by decide +kernel
theorem dX7_markOfLiberal_30 : decode cX7_markOfLiberal 30 = .ok (.ixor, 1) := by decide +kernel
theorem dX7_markOfLiberal_31 : decode cX7_markOfLiberal 31 = .ok (.iand, 1) := by decide +kernel
theorem dX7_markOfLiberal_32 : decode cX7_markOfLiberal 32 = .ok (.invokestatic 173, 3) := by decide +kernel
theorem dX7_markOfLiberal_35 : decode cX7_markOfLiberal 35 = .ok (.iadd, 1) := by decide +kernel
theorem dX7_markOfLiberal_36 : decode cX7_markOfLiberal 36 = .ok (.ireturn, 1) := by decide +kernel
theorem dX7_markOfTory_0 : decode cX7_markOfTory 0 = .ok (.aload_n 0, 1) := by decide +kernel
theorem dX7_markOfTory_1 : decode cX7_markOfTory 1 = .ok (.dup, 1) := by decide +kernel
theorem dX7_markOfTory_2 : decode cX7_markOfTory 2 = .ok (.getfield 64, 3) := by decide +kernel
theorem dX7_markOfTory_5 : decode cX7_markOfTory 5 = .ok (.ldc2_w 269, 3) := by decide +kernel
theorem dX7_markOfTory_8 : decode cX7_markOfTory 8 = .ok (.ladd, 1) := by decide +kernel
theorem dX7_markOfTory_9 : decode cX7_markOfTory 9 = .ok (.putfield 64, 3) := by decide +kernel
theorem dX7_markOfTory_12 : decode cX7_markOfTory 12 = .ok (.aload_n 0, 1) := by decide +kernel
theorem dX7_markOfTory_13 : decode cX7_markOfTory 13 = .ok (.iload_n 1, 1) := by decide +kernel
theorem dX7_markOfTory_14 : decode cX7_markOfTory 14 = .ok (.invokevirtual 228, 3) := by decide +kernel
theorem dX7_markOfTory_17 : decode cX7_markOfTory 17 = .ok (.aload_n 0, 1) := by decide +kernel
theorem dX7_markOfTory_18 : decode cX7_markOfTory 18 = .ok (.getfield 10, 3) := by decide +kernel
theorem dX7_markOfTory_21 : decode cX7_markOfTory 21 = .ok (.iload_n 1, 1) := by decide +kernel
theorem dX7_markOfTory_22 : decode cX7_markOfTory 22 = .ok (.invokevirtual 271, 3) := by decide +kernel
theorem dX7_markOfTory_25 : decode cX7_markOfTory 25 = .ok (.isub, 1) := by decide +kernel
theorem dX7_markOfTory_26 : decode cX7_markOfTory 26 = .ok (.ireturn, 1) := by decide +kernel
theorem dX7_markOfGuard_0 : decode cX7_markOfGuard 0 = .ok (.aload_n 0, 1) := by decide +kernel
theorem dX7_markOfGuard_1 : decode cX7_markOfGuard 1 = .ok (.dup, 1) := by decide +kernel
theorem dX7_markOfGuard_2 : decode cX7_markOfGuard 2 = .ok (.getfield 64, 3) := by decide +kernel
theorem dX7_markOfGuard_5 : decode cX7_markOfGuard 5 = .ok (.ldc2_w 274, 3) := by decide +kernel
theorem dX7_markOfGuard_8 : decode cX7_markOfGuard 8 = .ok (.ladd, 1) := by decide +kernel
theorem dX7_markOfGuard_9 : decode cX7_markOfGuard 9 = .ok (.putfield 64, 3) := by decide +kernel
theorem dX7_markOfGuard_12 : decode cX7_markOfGuard 12 = .ok (.aload_n 0, 1) := by decide +kernel
theorem dX7_markOfGuard_13 : decode cX7_markOfGuard 13 = .ok (.iload_n 1, 1) := by decide +kernel
theorem dX7_markOfGuard_14 : decode cX7_markOfGuard 14 = .ok (.invokevirtual 231, 3) := by decide +kernel
theorem dX7_markOfGuard_17 : decode cX7_markOfGuard 17 = .ok (.iconst 2, 1) := by decide +kernel
theorem dX7_markOfGuard_18 : decode cX7_markOfGuard 18 = .ok (.imul, 1) := by decide +kernel
theorem dX7_markOfGuard_19 : decode cX7_markOfGuard 19 = .ok (.ireturn, 1) := by decide +kernel
theorem dX7_markOfPorter_0 : decode cX7_markOfPorter 0 = .ok (.aload_n 0, 1) := by decide +kernel
theorem dX7_markOfPorter_1 : decode cX7_markOfPorter 1 = .ok (.dup, 1) := by decide +kernel
theorem dX7_markOfPorter_2 : decode cX7_markOfPorter 2 = .ok (.getfield 64, 3) := by decide +kernel
theorem dX7_markOfPorter_5 : decode cX7_markOfPorter 5 = .ok (.ldc2_w 276, 3) := by decide +kernel
theorem dX7_markOfPorter_8 : decode cX7_markOfPorter 8 = .ok (.ladd, 1) := by decide +kernel
theorem dX7_markOfPorter_9 : decode cX7_markOfPorter 9 = .ok (.putfield 64, 3) := by decide +kernel
theorem dX7_markOfPorter_12 : decode cX7_markOfPorter 12 = .ok (.aload_n 0, 1) := by decide +kernel
theorem dX7_markOfPorter_13 : decode cX7_markOfPorter 13 = .ok (.iload_n 1, 1) := by decide +kernel
theorem dX7_markOfPorter_14 : decode cX7_markOfPorter 14 = .ok (.invokevirtual 234, 3) := by decide +kernel
theorem dX7_markOfPorter_17 : decode cX7_markOfPorter 17 = .ok (.iload_n 1, 1) := by decide +kernel
theorem dX7_markOfPorter_18 : decode cX7_markOfPorter 18 = .ok (.iadd, 1) := by decide +kernel
theorem dX7_markOfPorter_19 : decode cX7_markOfPorter 19 = .ok (.ireturn, 1) := by decide +kernel
theorem dX7_markOfMayor_0 : decode cX7_markOfMayor 0 = .ok (.aload_n 0, 1) := by decide +kernel
theorem dX7_markOfMayor_1 : decode cX7_markOfMayor 1 = .ok (.dup, 1) := by decide +kernel
theorem dX7_markOfMayor_2 : decode cX7_markOfMayor 2 = .ok (.getfield 64, 3) := by decide +kernel
theorem dX7_markOfMayor_5 : decode cX7_markOfMayor 5 = .ok (.ldc2_w 278, 3) := by decide +kernel
theorem dX7_markOfMayor_8 : decode cX7_markOfMayor 8 = .ok (.ladd, 1) := by decide +kernel
theorem dX7_markOfMayor_9 : decode cX7_markOfMayor 9 = .ok (.putfield 64, 3) := by decide +kernel
theorem dX7_markOfMayor_12 : decode cX7_markOfMayor 12 = .ok (.aload_n 0, 1) := by decide +kernel
theorem dX7_markOfMayor_13 : decode cX7_markOfMayor 13 = .ok (.iload_n 1, 1) := by decide +kernel
theorem dX7_markOfMayor_14 : decode cX7_markOfMayor 14 = .ok (.invokevirtual 228, 3) := by decide +kernel
theorem dX7_markOfMayor_17 : decode cX7_markOfMayor 17 = .ok (.aload_n 0, 1) := by decide +kernel
theorem dX7_markOfMayor_18 : decode cX7_markOfMayor 18 = .ok (.getfield 29, 3) := by decide +kernel
theorem dX7_markOfMayor_21 : decode cX7_markOfMayor 21 = .ok (.getfield 150, 3) := by decide +kernel
theorem dX7_markOfMayor_24 : decode cX7_markOfMayor 24 = .ok (.iadd, 1) := by decide +kernel
theorem dX7_markOfMayor_25 : decode cX7_markOfMayor 25 = .ok (.ireturn, 1) := by decide +kernel
theorem dX7_imageOf_0 : decode cX7_imageOf 0 = .ok (.iload_n 1, 1) := by decide +kernel
theorem dX7_imageOf_1 : decode cX7_imageOf 1 = .ok (.ifCond .ne 8, 3) := by decide +kernel
theorem dX7_imageOf_4 : decode cX7_imageOf 4 = .ok (.aload_n 0, 1) := by decide +kernel
theorem dX7_imageOf_5 : decode cX7_imageOf 5 = .ok (.getfield 57, 3) := by decide +kernel
theorem dX7_imageOf_8 : decode cX7_imageOf 8 = .ok (.areturn, 1) := by decide +kernel
theorem dX7_imageOf_9 : decode cX7_imageOf 9 = .ok (.iload_n 1, 1) := by decide +kernel
theorem dX7_imageOf_10 : decode cX7_imageOf 10 = .ok (.iconst 1, 1) := by decide +kernel
theorem dX7_imageOf_11 : decode cX7_imageOf 11 = .ok (.if_icmp .ne 10, 3) := by decide +kernel
theorem dX7_imageOf_14 : decode cX7_imageOf 14 = .ok (.aload_n 0, 1) := by decide +kernel
theorem dX7_imageOf_15 : decode cX7_imageOf 15 = .ok (.getfield 61, 3) := by decide +kernel
theorem dX7_imageOf_18 : decode cX7_imageOf 18 = .ok (.goto 4, 3) := by decide +kernel
theorem dX7_imageOf_21 : decode cX7_imageOf 21 = .ok (.aconst_null, 1) := by decide +kernel
theorem dX7_imageOf_22 : decode cX7_imageOf 22 = .ok (.areturn, 1) := by decide +kernel
theorem dX7_isIn_0 : decode cX7_isIn 0 = .ok (.iload_n 0, 1) := by decide +kernel
theorem dX7_isIn_1 : decode cX7_isIn 1 = .ok (.ifCond .lt 12, 3) := by decide +kernel
theorem dX7_isIn_4 : decode cX7_isIn 4 = .ok (.iload_n 0, 1) := by decide +kernel
theorem dX7_isIn_5 : decode cX7_isIn 5 = .ok (.iload_n 1, 1) := by decide +kernel
theorem dX7_isIn_6 : decode cX7_isIn 6 = .ok (.if_icmp .ge 7, 3) := by decide +kernel
theorem dX7_isIn_9 : decode cX7_isIn 9 = .ok (.iconst 1, 1) := by decide +kernel
theorem dX7_isIn_10 : decode cX7_isIn 10 = .ok (.goto 4, 3) := by decide +kernel
theorem dX7_isIn_13 : decode cX7_isIn 13 = .ok (.iconst 0, 1) := by decide +kernel
theorem dX7_isIn_14 : decode cX7_isIn 14 = .ok (.ireturn, 1) := by decide +kernel
theorem dX7_at_0 : decode cX7_at 0 = .ok (.iload_n 1, 1) := by decide +kernel
theorem dX7_at_1 : decode cX7_at 1 = .ok (.aload_n 0, 1) := by decide +kernel
theorem dX7_at_2 : decode cX7_at 2 = .ok (.arraylength, 1) := by decide +kernel
theorem dX7_at_3 : decode cX7_at 3 = .ok (.invokestatic 68, 3) := by decide +kernel
theorem dX7_at_6 : decode cX7_at 6 = .ok (.ifCond .eq 9, 3) := by decide +kernel
theorem dX7_at_9 : decode cX7_at 9 = .ok (.aload_n 0, 1) := by decide +kernel
theorem dX7_at_10 : decode cX7_at 10 = .ok (.iload_n 1, 1) := by decide +kernel
theorem dX7_at_11 : decode cX7_at 11 = .ok (.iaload, 1) := by decide +kernel
theorem dX7_at_12 : decode cX7_at 12 = .ok (.goto 4, 3) := by decide +kernel
theorem dX7_at_15 : decode cX7_at 15 = .ok (.iconst 0, 1) := by decide +kernel
theorem dX7_at_16 : decode cX7_at 16 = .ok (.ireturn, 1) := by decide +kernel
theorem dX7_set_0 : decode cX7_set 0 = .ok (.iload_n 1, 1) := by decide +kernel
theorem dX7_set_1 : decode cX7_set 1 = .ok (.aload_n 0, 1) := by decide +kernel
theorem dX7_set_2 : decode cX7_set 2 = .ok (.arraylength, 1) := by decide +kernel
theorem dX7_set_3 : decode cX7_set 3 = .ok (.invokestatic 68, 3) := by decide +kernel
theorem dX7_set_6 : decode cX7_set 6 = .ok (.ifCond .eq 7, 3) := by decide +kernel
theorem dX7_set_9 : decode cX7_set 9 = .ok (.aload_n 0, 1) := by decide +kernel
theorem dX7_set_10 : decode cX7_set 10 = .ok (.iload_n 1, 1) := by decide +kernel
theorem dX7_set_11 : decode cX7_set 11 = .ok (.iload_n 2, 1) := by decide +kernel
theorem dX7_set_12 : decode cX7_set 12 = .ok (.iastore, 1) := by decide +kernel
theorem dX7_set_13 : decode cX7_set 13 = .ok (.return_, 1) := by decide +kernel
theorem dX7_raise_0 : decode cX7_raise 0 = .ok (.iload_n 1, 1) := by decide +kernel
theorem dX7_raise_1 : decode cX7_raise 1 = .ok (.aload_n 0, 1) := by decide +kernel
theorem dX7_raise_2 : decode cX7_raise 2 = .ok (.arraylength, 1) := by decide +kernel
theorem dX7_raise_3 : decode cX7_raise 3 = .ok (.invokestatic 68, 3) := by decide +kernel
theorem dX7_raise_6 : decode cX7_raise 6 = .ok (.ifCond .eq 10, 3) := by decide +kernel
theorem dX7_raise_9 : decode cX7_raise 9 = .ok (.aload_n 0, 1) := by decide +kernel
theorem dX7_raise_10 : decode cX7_raise 10 = .ok (.iload_n 1, 1) := by decide +kernel
theorem dX7_raise_11 : decode cX7_raise 11 = .ok (.dup2, 1) := by decide +kernel
theorem dX7_raise_12 : decode cX7_raise 12 = .ok (.iaload, 1) := by decide +kernel
theorem dX7_raise_13 : decode cX7_raise 13 = .ok (.iload_n 2, 1) := by decide +kernel
theorem dX7_raise_14 : decode cX7_raise 14 = .ok (.iadd, 1) := by decide +kernel
theorem dX7_raise_15 : decode cX7_raise 15 = .ok (.iastore, 1) := by decide +kernel
theorem dX7_raise_16 : decode cX7_raise 16 = .ok (.return_, 1) := by decide +kernel
theorem dX7_bit_0 : decode cX7_bit 0 = .ok (.iload_n 1, 1) := by decide +kernel
theorem dX7_bit_1 : decode cX7_bit 1 = .ok (.bipush 32, 2) := by decide +kernel
theorem dX7_bit_3 : decode cX7_bit 3 = .ok (.invokestatic 68, 3) := by decide +kernel
theorem dX7_bit_6 : decode cX7_bit 6 = .ok (.ifCond .eq 11, 3) := by decide +kernel
theorem dX7_bit_9 : decode cX7_bit 9 = .ok (.iload_n 0, 1) := by decide +kernel
theorem dX7_bit_10 : decode cX7_bit 10 = .ok (.iload_n 1, 1) := by decide +kernel
theorem dX7_bit_11 : decode cX7_bit 11 = .ok (.ishr, 1) := by decide +kernel
theorem dX7_bit_12 : decode cX7_bit 12 = .ok (.iconst 1, 1) := by decide +kernel
theorem dX7_bit_13 : decode cX7_bit 13 = .ok (.iand, 1) := by decide +kernel
theorem dX7_bit_14 : decode cX7_bit 14 = .ok (.goto 4, 3) := by decide +kernel
theorem dX7_bit_17 : decode cX7_bit 17 = .ok (.iconst 0, 1) := by decide +kernel
theorem dX7_bit_18 : decode cX7_bit 18 = .ok (.ireturn, 1) := by decide +kernel
theorem dX7_copy_0 : decode cX7_copy 0 = .ok (.aload_n 0, 1) := by decide +kernel
theorem dX7_copy_1 : decode cX7_copy 1 = .ok (.iconst 0, 1) := by decide +kernel
theorem dX7_copy_2 : decode cX7_copy 2 = .ok (.aload_n 1, 1) := by decide +kernel
theorem dX7_copy_3 : decode cX7_copy 3 = .ok (.iconst 0, 1) := by decide +kernel
theorem dX7_copy_4 : decode cX7_copy 4 = .ok (.aload_n 0, 1) := by decide +kernel
theorem dX7_copy_5 : decode cX7_copy 5 = .ok (.arraylength, 1) := by decide +kernel
theorem dX7_copy_6 : decode cX7_copy 6 = .ok (.aload_n 1, 1) := by decide +kernel
theorem dX7_copy_7 : decode cX7_copy 7 = .ok (.arraylength, 1) := by decide +kernel
theorem dX7_copy_8 : decode cX7_copy 8 = .ok (.invokestatic 280, 3) := by decide +kernel
theorem dX7_copy_11 : decode cX7_copy 11 = .ok (.invokestatic 285, 3) := by decide +kernel
theorem dX7_copy_14 : decode cX7_copy 14 = .ok (.return_, 1) := by decide +kernel
theorem dX7_product_0 : decode cX7_product 0 = .ok (.iconst 1, 1) := by decide +kernel
theorem dX7_product_1 : decode cX7_product 1 = .ok (.istore 4, 2) := by decide +kernel
theorem dX7_product_3 : decode cX7_product 3 = .ok (.iconst 0, 1) := by decide +kernel
theorem dX7_product_4 : decode cX7_product 4 = .ok (.istore 5, 2) := by decide +kernel
theorem dX7_product_6 : decode cX7_product 6 = .ok (.iload 5, 2) := by decide +kernel
theorem dX7_product_8 : decode cX7_product 8 = .ok (.iload_n 1, 1) := by decide +kernel
theorem dX7_product_9 : decode cX7_product 9 = .ok (.if_icmp .ge 15, 3) := by decide +kernel
theorem dX7_product_12 : decode cX7_product 12 = .ok (.iload 4, 2) := by decide +kernel
theorem dX7_product_14 : decode cX7_product 14 = .ok (.iload_n 0, 1) := by decide +kernel
theorem dX7_product_15 : decode cX7_product 15 = .ok (.imul, 1) := by decide +kernel
theorem dX7_product_16 : decode cX7_product 16 = .ok (.istore 4, 2) := by decide +kernel
theorem dX7_product_18 : decode cX7_product 18 = .ok (.iinc 5 1, 3) := by decide +kernel
theorem dX7_product_21 : decode cX7_product 21 = .ok (.goto (-15), 3) := by decide +kernel
theorem dX7_product_24 : decode cX7_product 24 = .ok (.iconst 0, 1) := by decide +kernel
theorem dX7_product_25 : decode cX7_product 25 = .ok (.istore 5, 2) := by decide +kernel
theorem dX7_product_27 : decode cX7_product 27 = .ok (.iload 5, 2) := by decide +kernel
theorem dX7_product_29 : decode cX7_product 29 = .ok (.iload_n 3, 1) := by decide +kernel
theorem dX7_product_30 : decode cX7_product 30 = .ok (.if_icmp .ge 15, 3) := by decide +kernel
theorem dX7_product_33 : decode cX7_product 33 = .ok (.iload 4, 2) := by decide +kernel
theorem dX7_product_35 : decode cX7_product 35 = .ok (.iload_n 2, 1) := by decide +kernel
theorem dX7_product_36 : decode cX7_product 36 = .ok (.imul, 1) := by decide +kernel
theorem dX7_product_37 : decode cX7_product 37 = .ok (.istore 4, 2) := by decide +kernel
theorem dX7_product_39 : decode cX7_product 39 = .ok (.iinc 5 1, 3) := by decide +kernel
theorem dX7_product_42 : decode cX7_product 42 = .ok (.goto (-15), 3) := by decide +kernel
theorem dX7_product_45 : decode cX7_product 45 = .ok (.iload 4, 2) := by decide +kernel
theorem dX7_product_47 : decode cX7_product 47 = .ok (.ireturn, 1) := by decide +kernel
theorem dX7_commonDivisor_0 : decode cX7_commonDivisor 0 = .ok (.iconst 0, 1) := by decide +kernel
theorem dX7_commonDivisor_1 : decode cX7_commonDivisor 1 = .ok (.istore_n 2, 1) := by decide +kernel
theorem dX7_commonDivisor_2 : decode cX7_commonDivisor 2 = .ok (.iload_n 2, 1) := by decide +kernel
theorem dX7_commonDivisor_3 : decode cX7_commonDivisor 3 = .ok (.sipush 1000, 3) := by decide +kernel
theorem dX7_commonDivisor_6 : decode cX7_commonDivisor 6 = .ok (.if_icmp .ge 21, 3) := by decide +kernel
theorem dX7_commonDivisor_9 : decode cX7_commonDivisor 9 = .ok (.iload_n 1, 1) := by decide +kernel
theorem dX7_commonDivisor_10 : decode cX7_commonDivisor 10 = .ok (.ifCond .eq 17, 3) := by decide +kernel
theorem dX7_commonDivisor_13 : decode cX7_commonDivisor 13 = .ok (.iload_n 0, 1) := by decide +kernel
theorem dX7_commonDivisor_14 : decode cX7_commonDivisor 14 = .ok (.iload_n 1, 1) := by decide +kernel
theorem dX7_commonDivisor_15 : decode cX7_commonDivisor 15 = .ok (.irem, 1) := by decide +kernel
theorem dX7_commonDivisor_16 : decode cX7_commonDivisor 16 = .ok (.istore_n 3, 1) := by decide +kernel
theorem dX7_commonDivisor_17 : decode cX7_commonDivisor 17 = .ok (.iload_n 1, 1) := by decide +kernel
theorem dX7_commonDivisor_18 : decode cX7_commonDivisor 18 = .ok (.istore_n 0, 1) := by decide +kernel
theorem dX7_commonDivisor_19 : decode cX7_commonDivisor 19 = .ok (.iload_n 3, 1) := by decide +kernel
theorem dX7_commonDivisor_20 : decode cX7_commonDivisor 20 = .ok (.istore_n 1, 1) := by decide +kernel
theorem dX7_commonDivisor_21 : decode cX7_commonDivisor 21 = .ok (.iinc 2 1, 3) := by decide +kernel
theorem dX7_commonDivisor_24 : decode cX7_commonDivisor 24 = .ok (.goto (-22), 3) := by decide +kernel
theorem dX7_commonDivisor_27 : decode cX7_commonDivisor 27 = .ok (.iload_n 0, 1) := by decide +kernel
theorem dX7_commonDivisor_28 : decode cX7_commonDivisor 28 = .ok (.iconst 1, 1) := by decide +kernel
theorem dX7_commonDivisor_29 : decode cX7_commonDivisor 29 = .ok (.invokestatic 291, 3) := by decide +kernel
theorem dX7_commonDivisor_32 : decode cX7_commonDivisor 32 = .ok (.ireturn, 1) := by decide +kernel
theorem dX8_init_0 : decode cX8_init 0 = .ok (.aload_n 0, 1) := by decide +kernel
theorem dX8_init_1 : decode cX8_init 1 = .ok (.invokespecial 1, 3) := by decide +kernel
theorem dX8_init_4 : decode cX8_init 4 = .ok (.aload_n 0, 1) := by decide +kernel
theorem dX8_init_5 : decode cX8_init 5 = .ok (.iconst 3, 1) := by decide +kernel
theorem dX8_init_6 : decode cX8_init 6 = .ok (.putfield 7, 3) := by decide +kernel
theorem dX8_init_9 : decode cX8_init 9 = .ok (.aload_n 0, 1) := by decide +kernel
theorem dX8_init_10 : decode cX8_init 10 = .ok (.iconst 2, 1) := by decide +kernel
theorem dX8_init_11 : decode cX8_init 11 = .ok (.putfield 13, 3) := by decide +kernel
theorem dX8_init_14 : decode cX8_init 14 = .ok (.aload_n 0, 1) := by decide +kernel
theorem dX8_init_15 : decode cX8_init 15 = .ok (.bipush 8, 2) := by decide +kernel
theorem dX8_init_17 : decode cX8_init 17 = .ok (.newarray .int, 2) := by decide +kernel
theorem dX8_init_19 : decode cX8_init 19 = .ok (.putfield 16, 3) := by decide +kernel
theorem dX8_init_22 : decode cX8_init 22 = .ok (.aload_n 0, 1) := by decide +kernel
theorem dX8_init_23 : decode cX8_init 23 = .ok (.bipush 6, 2) := by decide +kernel
theorem dX8_init_25 : decode cX8_init 25 = .ok (.newarray .int, 2) := by decide +kernel
theorem dX8_init_27 : decode cX8_init 27 = .ok (.putfield 20, 3) := by decide +kernel
theorem dX8_init_30 : decode cX8_init 30 = .ok (.aload_n 0, 1) := by decide +kernel
theorem dX8_init_31 : decode cX8_init 31 = .ok (.bipush 6, 2) := by decide +kernel
theorem dX8_init_33 : decode cX8_init 33 = .ok (.newarray .int, 2) := by decide +kernel
theorem dX8_init_35 : decode cX8_init 35 = .ok (.putfield 23, 3) := by decide +kernel
theorem dX8_init_38 : decode cX8_init 38 = .ok (.aload_n 0, 1) := by decide +kernel
theorem dX8_init_39 : decode cX8_init 39 = .ok (.bipush 6, 2) := by decide +kernel
theorem dX8_init_41 : decode cX8_init 41 = .ok (.newarray .int, 2) := by decide +kernel
theorem dX8_init_43 : decode cX8_init 43 = .ok (.putfield 26, 3) := by decide +kernel
theorem dX8_init_46 : decode cX8_init 46 = .ok (.aload_n 0, 1) := by decide +kernel
theorem dX8_init_47 : decode cX8_init 47 = .ok (.sipush 298, 3) := by decide +kernel
theorem dX8_init_50 : decode cX8_init 50 = .ok (.newarray .int, 2) := by decide +kernel
theorem dX8_init_52 : decode cX8_init 52 = .ok (.putfield 29, 3) := by decide +kernel
theorem dX8_init_55 : decode cX8_init 55 = .ok (.aload_n 0, 1) := by decide +kernel
theorem dX8_init_56 : decode cX8_init 56 = .ok (.sipush 596, 3) := by decide +kernel
theorem dX8_init_59 : decode cX8_init 59 = .ok (.newarray .int, 2) := by decide +kernel
theorem dX8_init_61 : decode cX8_init 61 = .ok (.putfield 32, 3) := by decide +kernel
theorem dX8_init_64 : decode cX8_init 64 = .ok (.aload_n 0, 1) := by decide +kernel
theorem dX8_init_65 : decode cX8_init 65 = .ok (.iconst 2, 1) := by decide +kernel
theorem dX8_init_66 : decode cX8_init 66 = .ok (.newarray .boolean, 2) := by decide +kernel
theorem dX8_init_68 : decode cX8_init 68 = .ok (.putfield 35, 3) := by decide +kernel
theorem dX8_init_71 : decode cX8_init 71 = .ok (.aload_n 0, 1) := by decide +kernel
theorem dX8_init_72 : decode cX8_init 72 = .ok (.bipush 8, 2) := by decide +kernel
theorem dX8_init_74 : decode cX8_init 74 = .ok (.newarray .int, 2) := by decide +kernel
theorem dX8_init_76 : decode cX8_init 76 = .ok (.putfield 39, 3) := by decide +kernel
theorem dX8_init_79 : decode cX8_init 79 = .ok (.aload_n 0, 1) := by decide +kernel
theorem dX8_init_80 : decode cX8_init 80 = .ok (.bipush 120, 2) := by decide +kernel
theorem dX8_init_82 : decode cX8_init 82 = .ok (.newarray .int, 2) := by decide +kernel
theorem dX8_init_84 : decode cX8_init 84 = .ok (.putfield 42, 3) := by decide +kernel
theorem dX8_init_87 : decode cX8_init 87 = .ok (.aload_n 0, 1) := by decide +kernel
theorem dX8_init_88 : decode cX8_init 88 = .ok (.bipush 8, 2) := by decide +kernel
theorem dX8_init_90 : decode cX8_init 90 = .ok (.newarray .int, 2) := by decide +kernel
theorem dX8_init_92 : decode cX8_init 92 = .ok (.putfield 45, 3) := by decide +kernel
theorem dX8_init_95 : decode cX8_init 95 = .ok (.aload_n 0, 1) := by decide +kernel
theorem dX8_init_96 : decode cX8_init 96 = .ok (.bipush 8, 2) := by decide +kernel
theorem dX8_init_98 : decode cX8_init 98 = .ok (.newarray .int, 2) := by decide +kernel
theorem dX8_init_100 : decode cX8_init 100 = .ok (.putfield 48, 3) := by decide +kernel
theorem dX8_init_103 : decode cX8_init 103 = .ok (.aload_n 0, 1) := by decide +kernel
theorem dX8_init_104 : decode cX8_init 104 = .ok (.bipush 8, 2) := by decide +kernel
theorem dX8_init_106 : decode cX8_init 106 = .ok (.newarray .int, 2) := by decide +kernel
theorem dX8_init_108 : decode cX8_init 108 = .ok (.putfield 51, 3) := by decide +kernel
theorem dX8_init_111 : decode cX8_init 111 = .ok (.aload_n 0, 1) := by decide +kernel
theorem dX8_init_112 : decode cX8_init 112 = .ok (.bipush 6, 2) := by decide +kernel
theorem dX8_init_114 : decode cX8_init 114 = .ok (.newarray .int, 2) := by decide +kernel
theorem dX8_init_116 : decode cX8_init 116 = .ok (.putfield 54, 3) := by decide +kernel
theorem dX8_init_119 : decode cX8_init 119 = .ok (.aload_n 0, 1) := by decide +kernel
theorem dX8_init_120 : decode cX8_init 120 = .ok (.bipush 6, 2) := by decide +kernel
theorem dX8_init_122 : decode cX8_init 122 = .ok (.newarray .int, 2) := by decide +kernel
theorem dX8_init_124 : decode cX8_init 124 = .ok (.putfield 57, 3) := by decide +kernel
theorem dX8_init_127 : decode cX8_init 127 = .ok (.aload_n 0, 1) := by decide +kernel
theorem dX8_init_128 : decode cX8_init 128 = .ok (.bipush 6, 2) := by decide +kernel
theorem dX8_init_130 : decode cX8_init 130 = .ok (.newarray .int, 2) := by decide +kernel
theorem dX8_init_132 : decode cX8_init 132 = .ok (.putfield 60, 3) := by decide +kernel
theorem dX8_init_135 : decode cX8_init 135 = .ok (.aload_n 0, 1) := by decide +kernel
theorem dX8_init_136 : decode cX8_init 136 = .ok (.bipush 6, 2) := by decide +kernel
theorem dX8_init_138 : decode cX8_init 138 = .ok (.newarray .int, 2) := by decide +kernel
theorem dX8_init_140 : decode cX8_init 140 = .ok (.putfield 63, 3) := by decide +kernel
theorem dX8_init_143 : decode cX8_init 143 = .ok (.aload_n 0, 1) := by decide +kernel
theorem dX8_init_144 : decode cX8_init 144 = .ok (.bipush 6, 2) := by decide +kernel
theorem dX8_init_146 : decode cX8_init 146 = .ok (.newarray .int, 2) := by decide +kernel
theorem dX8_init_148 : decode cX8_init 148 = .ok (.putfield 66, 3) := by decide +kernel
theorem dX8_init_151 : decode cX8_init 151 = .ok (.aload_n 0, 1) := by decide +kernel
theorem dX8_init_152 : decode cX8_init 152 = .ok (.getfield 29, 3) := by decide +kernel
theorem dX8_init_155 : decode cX8_init 155 = .ok (.iconst 1, 1) := by decide +kernel
theorem dX8_init_156 : decode cX8_init 156 = .ok (.iconst 3, 1) := by decide +kernel
theorem dX8_init_157 : decode cX8_init 157 = .ok (.iastore, 1) := by decide +kernel
theorem dX8_init_158 : decode cX8_init 158 = .ok (.return_, 1) := by decide +kernel
theorem dX8_in_0 : decode cX8_in 0 = .ok (.iload_n 0, 1) := by decide +kernel
theorem dX8_in_1 : decode cX8_in 1 = .ok (.iload_n 1, 1) := by decide +kernel
theorem dX8_in_2 : decode cX8_in 2 = .ok (.if_icmp .lt 12, 3) := by decide +kernel
theorem dX8_in_5 : decode cX8_in 5 = .ok (.iload_n 0, 1) := by decide +kernel
theorem dX8_in_6 : decode cX8_in 6 = .ok (.iload_n 2, 1) := by decide +kernel
theorem dX8_in_7 : decode cX8_in 7 = .ok (.if_icmp .gt 7, 3) := by decide +kernel
theorem dX8_in_10 : decode cX8_in 10 = .ok (.iconst 1, 1) := by decide +kernel
theorem dX8_in_11 : decode cX8_in 11 = .ok (.goto 4, 3) := by decide +kernel
theorem dX8_in_14 : decode cX8_in 14 = .ok (.iconst 0, 1) := by decide +kernel
theorem dX8_in_15 : decode cX8_in 15 = .ok (.ireturn, 1) := by decide +kernel
theorem dX8_has_0 : decode cX8_has 0 = .ok (.iload_n 0, 1) := by decide +kernel
theorem dX8_has_1 : decode cX8_has 1 = .ok (.iload_n 1, 1) := by decide +kernel
theorem dX8_has_2 : decode cX8_has 2 = .ok (.ishr, 1) := by decide +kernel
theorem dX8_has_3 : decode cX8_has 3 = .ok (.iconst 1, 1) := by decide +kernel
theorem dX8_has_4 : decode cX8_has 4 = .ok (.iand, 1) := by decide +kernel
theorem dX8_has_5 : decode cX8_has 5 = .ok (.iconst 1, 1) := by decide +kernel
theorem dX8_has_6 : decode cX8_has 6 = .ok (.if_icmp .ne 7, 3) := by decide +kernel
theorem dX8_has_9 : decode cX8_has 9 = .ok (.iconst 1, 1) := by decide +kernel
theorem dX8_has_10 : decode cX8_has 10 = .ok (.goto 4, 3) := by decide +kernel
theorem dX8_has_13 : decode cX8_has 13 = .ok (.iconst 0, 1) := by decide +kernel
theorem dX8_has_14 : decode cX8_has 14 = .ok (.ireturn, 1) := by decide +kernel
theorem dX8_bits_0 : decode cX8_bits 0 = .ok (.iconst 0, 1) := by decide +kernel
theorem dX8_bits_1 : decode cX8_bits 1 = .ok (.istore_n 1, 1) := by decide +kernel
theorem dX8_bits_2 : decode cX8_bits 2 = .ok (.iconst 0, 1) := by decide +kernel
theorem dX8_bits_3 : decode cX8_bits 3 = .ok (.istore_n 2, 1) := by decide +kernel
theorem dX8_bits_4 : decode cX8_bits 4 = .ok (.iload_n 2, 1) := by decide +kernel
theorem dX8_bits_5 : decode cX8_bits 5 = .ok (.bipush 8, 2) := by decide +kernel
theorem dX8_bits_7 : decode cX8_bits 7 = .ok (.if_icmp .ge 17, 3) := by decide +kernel
theorem dX8_bits_10 : decode cX8_bits 10 = .ok (.iload_n 1, 1) := by decide +kernel
theorem dX8_bits_11 : decode cX8_bits 11 = .ok (.iload_n 0, 1) := by decide +kernel
theorem dX8_bits_12 : decode cX8_bits 12 = .ok (.iload_n 2, 1) := by decide +kernel
theorem dX8_bits_13 : decode cX8_bits 13 = .ok (.ishr, 1) := by decide +kernel
theorem dX8_bits_14 : decode cX8_bits 14 = .ok (.iconst 1, 1) := by decide +kernel
theorem dX8_bits_15 : decode cX8_bits 15 = .ok (.iand, 1) := by decide +kernel
theorem dX8_bits_16 : decode cX8_bits 16 = .ok (.iadd, 1) := by decide +kernel
theorem dX8_bits_17 : decode cX8_bits 17 = .ok (.istore_n 1, 1) := by decide +kernel
theorem dX8_bits_18 : decode cX8_bits 18 = .ok (.iinc 2 1, 3) := by decide +kernel
theorem dX8_bits_21 : decode cX8_bits 21 = .ok (.goto (-17), 3) := by decide +kernel
theorem dX8_bits_24 : decode cX8_bits 24 = .ok (.iload_n 1, 1) := by decide +kernel
theorem dX8_bits_25 : decode cX8_bits 25 = .ok (.ireturn, 1) := by decide +kernel
theorem dX8_isOne_0 : decode cX8_isOne 0 = .ok (.iload_n 1, 1) := by decide +kernel
theorem dX8_isOne_1 : decode cX8_isOne 1 = .ok (.iconst 0, 1) := by decide +kernel
theorem dX8_isOne_2 : decode cX8_isOne 2 = .ok (.aload_n 0, 1) := by decide +kernel
theorem dX8_isOne_3 : decode cX8_isOne 3 = .ok (.getfield 7, 3) := by decide +kernel
theorem dX8_isOne_6 : decode cX8_isOne 6 = .ok (.iconst 1, 1) := by decide +kernel
theorem dX8_isOne_7 : decode cX8_isOne 7 = .ok (.isub, 1) := by decide +kernel
theorem dX8_isOne_8 : decode cX8_isOne 8 = .ok (.invokestatic 69, 3) := by decide +kernel
theorem dX8_isOne_11 : decode cX8_isOne 11 = .ok (.ireturn, 1) := by decide +kernel
theorem dX8_isTrain_0 : decode cX8_isTrain 0 = .ok (.iload_n 1, 1) := by decide +kernel
theorem dX8_isTrain_1 : decode cX8_isTrain 1 = .ok (.iconst 0, 1) := by decide +kernel
theorem dX8_isTrain_2 : decode cX8_isTrain 2 = .ok (.aload_n 0, 1) := by decide +kernel
theorem dX8_isTrain_3 : decode cX8_isTrain 3 = .ok (.getfield 73, 3) := by decide +kernel
theorem dX8_isTrain_6 : decode cX8_isTrain 6 = .ok (.iconst 1, 1) := by decide +kernel
theorem dX8_isTrain_7 : decode cX8_isTrain 7 = .ok (.isub, 1) := by decide +kernel
theorem dX8_isTrain_8 : decode cX8_isTrain 8 = .ok (.invokestatic 69, 3) := by decide +kernel
theorem dX8_isTrain_11 : decode cX8_isTrain 11 = .ok (.ireturn, 1) := by decide +kernel
theorem dX8_isGroup_0 : decode cX8_isGroup 0 = .ok (.iload_n 1, 1) := by decide +kernel
theorem dX8_isGroup_1 : decode cX8_isGroup 1 = .ok (.iconst 0, 1) := by decide +kernel
theorem dX8_isGroup_2 : decode cX8_isGroup 2 = .ok (.aload_n 0, 1) := by decide +kernel
theorem dX8_isGroup_3 : decode cX8_isGroup 3 = .ok (.getfield 76, 3) := by decide +kernel
theorem dX8_isGroup_6 : decode cX8_isGroup 6 = .ok (.iconst 1, 1) := by decide +kernel
theorem dX8_isGroup_7 : decode cX8_isGroup 7 = .ok (.isub, 1) := by decide +kernel
theorem dX8_isGroup_8 : decode cX8_isGroup 8 = .ok (.invokestatic 69, 3) := by decide +kernel
theorem dX8_isGroup_11 : decode cX8_isGroup 11 = .ok (.ireturn, 1) := by decide +kernel
theorem dX8_type_0 : decode cX8_type 0 = .ok (.iload_n 1, 1) := by decide +kernel
theorem dX8_type_1 : decode cX8_type 1 = .ok (.iconst 0, 1) := by decide +kernel
theorem dX8_type_2 : decode cX8_type 2 = .ok (.sipush 255, 3) := by decide +kernel
theorem dX8_type_5 : decode cX8_type 5 = .ok (.invokestatic 69, 3) := by decide +kernel
theorem dX8_type_8 : decode cX8_type 8 = .ok (.ifCond .ne 5, 3) := by decide +kernel
theorem dX8_type_11 : decode cX8_type 11 = .ok (.iconst (-1), 1) := by decide +kernel
theorem dX8_type_12 : decode cX8_type 12 = .ok (.ireturn, 1) := by decide +kernel
theorem dX8_type_13 : decode cX8_type 13 = .ok (.aload_n 0, 1) := by decide +kernel
theorem dX8_type_14 : decode cX8_type 14 = .ok (.getfield 79, 3) := by decide +kernel
theorem dX8_type_17 : decode cX8_type 17 = .ok (.bipush 120, 2) := by decide +kernel
theorem dX8_type_19 : decode cX8_type 19 = .ok (.if_icmp .ne 6, 3) := by decide +kernel
theorem dX8_type_22 : decode cX8_type 22 = .ok (.bipush (-3), 2) := by decide +kernel
theorem dX8_type_24 : decode cX8_type 24 = .ok (.ireturn, 1) := by decide +kernel
theorem dX8_type_25 : decode cX8_type 25 = .ok (.aload_n 0, 1) := by decide +kernel
theorem dX8_type_26 : decode cX8_type 26 = .ok (.getfield 42, 3) := by decide +kernel
theorem dX8_type_29 : decode cX8_type 29 = .ok (.aload_n 0, 1) := by decide +kernel
theorem dX8_type_30 : decode cX8_type 30 = .ok (.getfield 79, 3) := by decide +kernel
theorem dX8_type_33 : decode cX8_type 33 = .ok (.iload_n 1, 1) := by decide +kernel
theorem dX8_type_34 : decode cX8_type 34 = .ok (.iastore, 1) := by decide +kernel
theorem dX8_type_35 : decode cX8_type 35 = .ok (.aload_n 0, 1) := by decide +kernel
theorem dX8_type_36 : decode cX8_type 36 = .ok (.dup, 1) := by decide +kernel
theorem dX8_type_37 : decode cX8_type 37 = .ok (.getfield 79, 3) := by decide +kernel
theorem dX8_type_40 : decode cX8_type 40 = .ok (.iconst 1, 1) := by decide +kernel
theorem dX8_type_41 : decode cX8_type 41 = .ok (.iadd, 1) := by decide +kernel
theorem dX8_type_42 : decode cX8_type 42 = .ok (.putfield 79, 3) := by decide +kernel
theorem dX8_type_45 : decode cX8_type 45 = .ok (.aload_n 0, 1) := by decide +kernel
theorem dX8_type_46 : decode cX8_type 46 = .ok (.getfield 79, 3) := by decide +kernel
theorem dX8_type_49 : decode cX8_type 49 = .ok (.ireturn, 1) := by decide +kernel
theorem dX8_clear_0 : decode cX8_clear 0 = .ok (.aload_n 0, 1) := by decide +kernel
theorem dX8_clear_1 : decode cX8_clear 1 = .ok (.getfield 79, 3) := by decide +kernel
theorem dX8_clear_4 : decode cX8_clear 4 = .ok (.istore_n 1, 1) := by decide +kernel
theorem dX8_clear_5 : decode cX8_clear 5 = .ok (.aload_n 0, 1) := by decide +kernel
theorem dX8_clear_6 : decode cX8_clear 6 = .ok (.iconst 0, 1) := by decide +kernel
theorem dX8_clear_7 : decode cX8_clear 7 = .ok (.putfield 79, 3) := by decide +kernel
theorem dX8_clear_10 : decode cX8_clear 10 = .ok (.iload_n 1, 1) := by decide +kernel
theorem dX8_clear_11 : decode cX8_clear 11 = .ok (.ireturn, 1) := by decide +kernel
theorem dX8_letterAt_0 : decode cX8_letterAt 0 = .ok (.iload_n 1, 1) := by decide +kernel
theorem dX8_letterAt_1 : decode cX8_letterAt 1 = .ok (.aload_n 0, 1) := by decide +kernel
theorem dX8_letterAt_2 : decode cX8_letterAt 2 = .ok (.getfield 79, 3) := by decide +kernel
theorem dX8_letterAt_5 : decode cX8_letterAt 5 = .ok (.if_icmp .ge 12, 3) := by decide +kernel
theorem dX8_letterAt_8 : decode cX8_letterAt 8 = .ok (.aload_n 0, 1) := by decide +kernel
theorem dX8_letterAt_9 : decode cX8_letterAt 9 = .ok (.getfield 42, 3) := by decide +kernel
theorem dX8_letterAt_12 : decode cX8_letterAt 12 = .ok (.iload_n 1, 1) := by decide +kernel
theorem dX8_letterAt_13 : decode cX8_letterAt 13 = .ok (.iaload, 1) := by decide +kernel
theorem dX8_letterAt_14 : decode cX8_letterAt 14 = .ok (.goto 4, 3) := by decide +kernel
theorem dX8_letterAt_17 : decode cX8_letterAt 17 = .ok (.iconst (-1), 1) := by decide +kernel
theorem dX8_letterAt_18 : decode cX8_letterAt 18 = .ok (.ireturn, 1) := by decide +kernel
theorem dX8_isFigure_0 : decode cX8_isFigure 0 = .ok (.iload_n 0, 1) := by decide +kernel
theorem dX8_isFigure_1 : decode cX8_isFigure 1 = .ok (.bipush 48, 2) := by decide +kernel
theorem dX8_isFigure_3 : decode cX8_isFigure 3 = .ok (.bipush 57, 2) := by decide +kernel
theorem dX8_isFigure_5 : decode cX8_isFigure 5 = .ok (.invokestatic 69, 3) := by decide +kernel
theorem dX8_isFigure_8 : decode cX8_isFigure 8 = .ok (.ireturn, 1) := by decide +kernel
theorem dX8_isLetter_0 : decode cX8_isLetter 0 = .ok (.iload_n 0, 1) := by decide +kernel
theorem dX8_isLetter_1 : decode cX8_isLetter 1 = .ok (.bipush 97, 2) := by decide +kernel
theorem dX8_isLetter_3 : decode cX8_isLetter 3 = .ok (.bipush 122, 2) := by decide +kernel
theorem dX8_isLetter_5 : decode cX8_isLetter 5 = .ok (.invokestatic 69, 3) := by decide +kernel
theorem dX8_isLetter_8 : decode cX8_isLetter 8 = .ok (.ireturn, 1) := by decide +kernel
theorem dX8_next_0 : decode cX8_next 0 = .ok (.aload_n 0, 1) := by decide +kernel
theorem dX8_next_1 : decode cX8_next 1 = .ok (.aload_n 0, 1) := by decide +kernel
theorem dX8_next_2 : decode cX8_next 2 = .ok (.getfield 82, 3) := by decide +kernel
theorem dX8_next_5 : decode cX8_next 5 = .ok (.invokevirtual 85, 3) := by decide +kernel
theorem dX8_next_8 : decode cX8_next 8 = .ok (.bipush 32, 2) := by decide +kernel
theorem dX8_next_10 : decode cX8_next 10 = .ok (.if_icmp .ne 16, 3) := by decide +kernel
theorem dX8_next_13 : decode cX8_next 13 = .ok (.aload_n 0, 1) := by decide +kernel
theorem dX8_next_14 : decode cX8_next 14 = .ok (.dup, 1) := by decide +kernel
theorem dX8_next_15 : decode cX8_next 15 = .ok (.getfield 82, 3) := by decide +kernel
theorem dX8_next_18 : decode cX8_next 18 = .ok (.iconst 1, 1) := by decide +kernel
theorem dX8_next_19 : decode cX8_next 19 = .ok (.iadd, 1) := by decide +kernel
theorem dX8_next_20 : decode cX8_next 20 = .ok (.putfield 82, 3) := by decide +kernel
theorem dX8_next_23 : decode cX8_next 23 = .ok (.goto (-23), 3) := by decide +kernel
theorem dX8_next_26 : decode cX8_next 26 = .ok (.aload_n 0, 1) := by decide +kernel
theorem dX8_next_27 : decode cX8_next 27 = .ok (.aload_n 0, 1) := by decide +kernel
theorem dX8_next_28 : decode cX8_next 28 = .ok (.getfield 82, 3) := by decide +kernel
theorem dX8_next_31 : decode cX8_next 31 = .ok (.putfield 89, 3) := by decide +kernel
theorem dX8_next_34 : decode cX8_next 34 = .ok (.aload_n 0, 1) := by decide +kernel
theorem dX8_next_35 : decode cX8_next 35 = .ok (.aload_n 0, 1) := by decide +kernel
theorem dX8_next_36 : decode cX8_next 36 = .ok (.getfield 82, 3) := by decide +kernel
theorem dX8_next_39 : decode cX8_next 39 = .ok (.invokevirtual 85, 3) := by decide +kernel
theorem dX8_next_42 : decode cX8_next 42 = .ok (.istore_n 1, 1) := by decide +kernel
theorem dX8_next_43 : decode cX8_next 43 = .ok (.aload_n 0, 1) := by decide +kernel
theorem dX8_next_44 : decode cX8_next 44 = .ok (.iconst 0, 1) := by decide +kernel
theorem dX8_next_45 : decode cX8_next 45 = .ok (.putfield 92, 3) := by decide +kernel
theorem dX8_next_48 : decode cX8_next 48 = .ok (.iload_n 1, 1) := by decide +kernel
theorem dX8_next_49 : decode cX8_next 49 = .ok (.ifCond .ge 11, 3) := by decide +kernel
theorem dX8_next_52 : decode cX8_next 52 = .ok (.aload_n 0, 1) := by decide +kernel
theorem dX8_next_53 : decode cX8_next 53 = .ok (.iconst 0, 1) := by decide +kernel
theorem dX8_next_54 : decode cX8_next 54 = .ok (.putfield 95, 3) := by decide +kernel
theorem dX8_next_57 : decode cX8_next 57 = .ok (.goto 205, 3) := by decide +kernel
theorem dX8_next_60 : decode cX8_next 60 = .ok (.iload_n 1, 1) := by decide +kernel
theorem dX8_next_61 : decode cX8_next 61 = .ok (.invokestatic 98, 3) := by decide +kernel
theorem dX8_next_64 : decode cX8_next 64 = .ok (.ifCond .eq 109, 3) := by decide +kernel
theorem dX8_next_67 : decode cX8_next 67 = .ok (.aload_n 0, 1) := by decide +kernel
theorem dX8_next_68 : decode cX8_next 68 = .ok (.aload_n 0, 1) := by decide +kernel
theorem dX8_next_69 : decode cX8_next 69 = .ok (.getfield 82, 3) := by decide +kernel
theorem dX8_next_72 : decode cX8_next 72 = .ok (.invokevirtual 85, 3) := by decide +kernel
theorem dX8_next_75 : decode cX8_next 75 = .ok (.invokestatic 98, 3) := by decide +kernel
theorem dX8_next_78 : decode cX8_next 78 = .ok (.ifCond .eq 55, 3) := by decide +kernel
theorem dX8_next_81 : decode cX8_next 81 = .ok (.aload_n 0, 1) := by decide +kernel
theorem dX8_next_82 : decode cX8_next 82 = .ok (.aload_n 0, 1) := by decide +kernel
theorem dX8_next_83 : decode cX8_next 83 = .ok (.getfield 92, 3) := by decide +kernel
theorem dX8_next_86 : decode cX8_next 86 = .ok (.bipush 99, 2) := by decide +kernel
theorem dX8_next_88 : decode cX8_next 88 = .ok (.if_icmp .le 10, 3) := by decide +kernel
theorem dX8_next_91 : decode cX8_next 91 = .ok (.aload_n 0, 1) := by decide +kernel
theorem dX8_next_92 : decode cX8_next 92 = .ok (.getfield 92, 3) := by decide +kernel
theorem dX8_next_95 : decode cX8_next 95 = .ok (.goto 22, 3) := by decide +kernel
theorem dX8_next_98 : decode cX8_next 98 = .ok (.bipush 10, 2) := by decide +kernel
theorem dX8_next_100 : decode cX8_next 100 = .ok (.aload_n 0, 1) := by decide +kernel
theorem dX8_next_101 : decode cX8_next 101 = .ok (.getfield 92, 3) := by decide +kernel
theorem dX8_next_104 : decode cX8_next 104 = .ok (.imul, 1) := by decide +kernel
theorem dX8_next_105 : decode cX8_next 105 = .ok (.aload_n 0, 1) := by decide +kernel
theorem dX8_next_106 : decode cX8_next 106 = .ok (.aload_n 0, 1) := by decide +kernel
theorem dX8_next_107 : decode cX8_next 107 = .ok (.getfield 82, 3) := by decide +kernel
theorem dX8_next_110 : decode cX8_next 110 = .ok (.invokevirtual 85, 3) := by decide +kernel
theorem dX8_next_113 : decode cX8_next 113 = .ok (.iadd, 1) := by decide +kernel
theorem dX8_next_114 : decode cX8_next 114 = .ok (.bipush 48, 2) := by decide +kernel
theorem dX8_next_116 : decode cX8_next 116 = .ok (.isub, 1) := by decide +kernel
theorem dX8_next_117 : decode cX8_next 117 = .ok (.putfield 92, 3) := by decide +kernel
theorem dX8_next_120 : decode cX8_next 120 = .ok (.aload_n 0, 1) := by decide +kernel
theorem dX8_next_121 : decode cX8_next 121 = .ok (.dup, 1) := by decide +kernel
theorem dX8_next_122 : decode cX8_next 122 = .ok (.getfield 82, 3) := by decide +kernel
theorem dX8_next_125 : decode cX8_next 125 = .ok (.iconst 1, 1) := by decide +kernel
theorem dX8_next_126 : decode cX8_next 126 = .ok (.iadd, 1) := by decide +kernel
theorem dX8_next_127 : decode cX8_next 127 = .ok (.putfield 82, 3) := by decide +kernel
theorem dX8_next_130 : decode cX8_next 130 = .ok (.goto (-63), 3) := by decide +kernel
theorem dX8_next_133 : decode cX8_next 133 = .ok (.aload_n 0, 1) := by decide +kernel
theorem dX8_next_134 : decode cX8_next 134 = .ok (.aload_n 0, 1) := by decide +kernel
theorem dX8_next_135 : decode cX8_next 135 = .ok (.getfield 92, 3) := by decide +kernel
theorem dX8_next_138 : decode cX8_next 138 = .ok (.bipush 99, 2) := by decide +kernel
theorem dX8_next_140 : decode cX8_next 140 = .ok (.if_icmp .gt 22, 3) := by decide +kernel
theorem dX8_next_143 : decode cX8_next 143 = .ok (.iload_n 1, 1) := by decide +kernel
theorem dX8_next_144 : decode cX8_next 144 = .ok (.bipush 48, 2) := by decide +kernel
theorem dX8_next_146 : decode cX8_next 146 = .ok (.if_icmp .ne 20, 3) := by decide +kernel
theorem dX8_next_149 : decode cX8_next 149 = .ok (.aload_n 0, 1) := by decide +kernel
theorem dX8_next_150 : decode cX8_next 150 = .ok (.getfield 82, 3) := by decide +kernel
theorem dX8_next_153 : decode cX8_next 153 = .ok (.aload_n 0, 1) := by decide +kernel
theorem dX8_next_154 : decode cX8_next 154 = .ok (.getfield 89, 3) := by decide +kernel
theorem dX8_next_157 : decode cX8_next 157 = .ok (.isub, 1) := by decide +kernel
theorem dX8_next_158 : decode cX8_next 158 = .ok (.iconst 1, 1) := by decide +kernel
theorem dX8_next_159 : decode cX8_next 159 = .ok (.if_icmp .le 7, 3) := by decide +kernel
theorem dX8_next_162 : decode cX8_next 162 = .ok (.iconst 4, 1) := by decide +kernel
theorem dX8_next_163 : decode cX8_next 163 = .ok (.goto 4, 3) := by decide +kernel
theorem dX8_next_166 : decode cX8_next 166 = .ok (.iconst 2, 1) := by decide +kernel
theorem dX8_next_167 : decode cX8_next 167 = .ok (.putfield 95, 3) := by decide +kernel
theorem dX8_next_170 : decode cX8_next 170 = .ok (.goto 92, 3) := by decide +kernel
theorem dX8_next_173 : decode cX8_next 173 = .ok (.iload_n 1, 1) := by decide +kernel
theorem dX8_next_174 : decode cX8_next 174 = .ok (.invokestatic 102, 3) := by decide +kernel
theorem dX8_next_177 : decode cX8_next 177 = .ok (.ifCond .eq 60, 3) := by decide +kernel
theorem dX8_next_180 : decode cX8_next 180 = .ok (.aload_n 0, 1) := by decide +kernel
theorem dX8_next_181 : decode cX8_next 181 = .ok (.aload_n 0, 1) := by decide +kernel
theorem dX8_next_182 : decode cX8_next 182 = .ok (.getfield 82, 3) := by decide +kernel
theorem dX8_next_185 : decode cX8_next 185 = .ok (.invokevirtual 85, 3) := by decide +kernel
theorem dX8_next_188 : decode cX8_next 188 = .ok (.invokestatic 102, 3) := by decide +kernel
theorem dX8_next_191 : decode cX8_next 191 = .ok (.ifCond .eq 16, 3) := by decide +kernel
theorem dX8_next_194 : decode cX8_next 194 = .ok (.aload_n 0, 1) := by decide +kernel
theorem dX8_next_195 : decode cX8_next 195 = .ok (.dup, 1) := by decide +kernel
theorem dX8_next_196 : decode cX8_next 196 = .ok (.getfield 82, 3) := by decide +kernel
theorem dX8_next_199 : decode cX8_next 199 = .ok (.iconst 1, 1) := by decide +kernel
theorem dX8_next_200 : decode cX8_next 200 = .ok (.iadd, 1) := by decide +kernel
theorem dX8_next_201 : decode cX8_next 201 = .ok (.putfield 82, 3) := by decide +kernel
theorem dX8_next_204 : decode cX8_next 204 = .ok (.goto (-24), 3) := by decide +kernel
theorem dX8_next_207 : decode cX8_next 207 = .ok (.aload_n 0, 1) := by decide +kernel
theorem dX8_next_208 : decode cX8_next 208 = .ok (.iconst 1, 1) := by decide +kernel
theorem dX8_next_209 : decode cX8_next 209 = .ok (.putfield 95, 3) := by decide +kernel
theorem dX8_next_212 : decode cX8_next 212 = .ok (.aload_n 0, 1) := by decide +kernel
theorem dX8_next_213 : decode cX8_next 213 = .ok (.aload_n 0, 1) := by decide +kernel
theorem dX8_next_214 : decode cX8_next 214 = .ok (.getfield 82, 3) := by decide +kernel
theorem dX8_next_217 : decode cX8_next 217 = .ok (.aload_n 0, 1) := by decide +kernel
theorem dX8_next_218 : decode cX8_next 218 = .ok (.getfield 89, 3) := by decide +kernel
theorem dX8_next_221 : decode cX8_next 221 = .ok (.isub, 1) := by decide +kernel
theorem dX8_next_222 : decode cX8_next 222 = .ok (.iconst 1, 1) := by decide +kernel
theorem dX8_next_223 : decode cX8_next 223 = .ok (.if_icmp .ne 7, 3) := by decide +kernel
theorem dX8_next_226 : decode cX8_next 226 = .ok (.iload_n 1, 1) := by decide +kernel
theorem dX8_next_227 : decode cX8_next 227 = .ok (.goto 4, 3) := by decide +kernel
theorem dX8_next_230 : decode cX8_next 230 = .ok (.iconst 0, 1) := by decide +kernel
theorem dX8_next_231 : decode cX8_next 231 = .ok (.putfield 92, 3) := by decide +kernel
theorem dX8_next_234 : decode cX8_next 234 = .ok (.goto 28, 3) := by decide +kernel
theorem dX8_next_237 : decode cX8_next 237 = .ok (.aload_n 0, 1) := by decide +kernel
theorem dX8_next_238 : decode cX8_next 238 = .ok (.iload_n 1, 1) := by decide +kernel
theorem dX8_next_239 : decode cX8_next 239 = .ok (.bipush 59, 2) := by decide +kernel
theorem dX8_next_241 : decode cX8_next 241 = .ok (.if_icmp .ne 7, 3) := by decide +kernel
theorem dX8_next_244 : decode cX8_next 244 = .ok (.iconst 3, 1) := by decide +kernel
theorem dX8_next_245 : decode cX8_next 245 = .ok (.goto 4, 3) := by decide +kernel
theorem dX8_next_248 : decode cX8_next 248 = .ok (.iconst 4, 1) := by decide +kernel
theorem dX8_next_249 : decode cX8_next 249 = .ok (.putfield 95, 3) := by decide +kernel
theorem dX8_next_252 : decode cX8_next 252 = .ok (.aload_n 0, 1) := by decide +kernel
theorem dX8_next_253 : decode cX8_next 253 = .ok (.dup, 1) := by decide +kernel
theorem dX8_next_254 : decode cX8_next 254 = .ok (.getfield 82, 3) := by decide +kernel
theorem dX8_next_257 : decode cX8_next 257 = .ok (.iconst 1, 1) := by decide +kernel
theorem dX8_next_258 : decode cX8_next 258 = .ok (.iadd, 1) := by decide +kernel
theorem dX8_next_259 : decode cX8_next 259 = .ok (.putfield 82, 3) := by decide +kernel
theorem dX8_next_262 : decode cX8_next 262 = .ok (.return_, 1) := by decide +kernel
theorem dX8_takesNumber_0 : decode cX8_takesNumber 0 = .ok (.aload_n 0, 1) := by decide +kernel
theorem dX8_takesNumber_1 : decode cX8_takesNumber 1 = .ok (.getfield 105, 3) := by decide +kernel
theorem dX8_takesNumber_4 : decode cX8_takesNumber 4 = .ok (.ifCond .ne 27, 3) := by decide +kernel
theorem dX8_takesNumber_7 : decode cX8_takesNumber 7 = .ok (.aload_n 0, 1) := by decide +kernel
theorem dX8_takesNumber_8 : decode cX8_takesNumber 8 = .ok (.getfield 95, 3) := by decide +kernel
theorem dX8_takesNumber_11 : decode cX8_takesNumber 11 = .ok (.iconst 2, 1) := by decide +kernel
theorem dX8_takesNumber_12 : decode cX8_takesNumber 12 = .ok (.if_icmp .ne 19, 3) := by decide +kernel
theorem dX8_takesNumber_15 : decode cX8_takesNumber 15 = .ok (.aload_n 0, 1) := by decide +kernel
theorem dX8_takesNumber_16 : decode cX8_takesNumber 16 = .ok (.getfield 92, 3) := by decide +kernel
theorem dX8_takesNumber_19 : decode cX8_takesNumber 19 = .ok (.iload_n 1, 1) := by decide +kernel
theorem dX8_takesNumber_20 : decode cX8_takesNumber 20 = .ok (.iload_n 2, 1) := by decide +kernel
theorem dX8_takesNumber_21 : decode cX8_takesNumber 21 = .ok (.invokestatic 69, 3) := by decide +kernel
theorem dX8_takesNumber_24 : decode cX8_takesNumber 24 = .ok (.ifCond .eq 7, 3) := by decide +kernel
theorem dX8_takesNumber_27 : decode cX8_takesNumber 27 = .ok (.iconst 1, 1) := by decide +kernel
theorem dX8_takesNumber_28 : decode cX8_takesNumber 28 = .ok (.goto 4, 3) := by decide +kernel
theorem dX8_takesNumber_31 : decode cX8_takesNumber 31 = .ok (.iconst 0, 1) := by decide +kernel
theorem dX8_takesNumber_32 : decode cX8_takesNumber 32 = .ok (.istore_n 3, 1) := by decide +kernel
theorem dX8_takesNumber_33 : decode cX8_takesNumber 33 = .ok (.aload_n 0, 1) := by decide +kernel
theorem dX8_takesNumber_34 : decode cX8_takesNumber 34 = .ok (.iload_n 3, 1) := by decide +kernel
theorem dX8_takesNumber_35 : decode cX8_takesNumber 35 = .ok (.ifCond .ne 7, 3) := by decide +kernel
theorem dX8_takesNumber_38 : decode cX8_takesNumber 38 = .ok (.iconst 1, 1) := by decide +kernel
theorem dX8_takesNumber_39 : decode cX8_takesNumber 39 = .ok (.goto 4, 3) := by decide +kernel
theorem dX8_takesNumber_42 : decode cX8_takesNumber 42 = .ok (.iconst 0, 1) := by decide +kernel
theorem dX8_takesNumber_43 : decode cX8_takesNumber 43 = .ok (.putfield 105, 3) := by decide +kernel
theorem dX8_takesNumber_46 : decode cX8_takesNumber 46 = .ok (.aload_n 0, 1) := by decide +kernel
theorem dX8_takesNumber_47 : decode cX8_takesNumber 47 = .ok (.getfield 92, 3) := by decide +kernel
theorem dX8_takesNumber_50 : decode cX8_takesNumber 50 = .ok (.istore 4, 2) := by decide +kernel
theorem dX8_takesNumber_52 : decode cX8_takesNumber 52 = .ok (.iload_n 3, 1) := by decide +kernel
theorem dX8_takesNumber_53 : decode cX8_takesNumber 53 = .ok (.ifCond .eq 7, 3) := by decide +kernel
theorem dX8_takesNumber_56 : decode cX8_takesNumber 56 = .ok (.aload_n 0, 1) := by decide +kernel
theorem dX8_takesNumber_57 : decode cX8_takesNumber 57 = .ok (.invokevirtual 109, 3) := by decide +kernel
theorem dX8_takesNumber_60 : decode cX8_takesNumber 60 = .ok (.iload_n 3, 1) := by decide +kernel
theorem dX8_takesNumber_61 : decode cX8_takesNumber 61 = .ok (.ifCond .eq 8, 3) := by decide +kernel
theorem dX8_takesNumber_64 : decode cX8_takesNumber 64 = .ok (.iload 4, 2) := by decide +kernel
theorem dX8_takesNumber_66 : decode cX8_takesNumber 66 = .ok (.goto 4, 3) := by decide +kernel
theorem dX8_takesNumber_69 : decode cX8_takesNumber 69 = .ok (.iconst 0, 1) := by decide +kernel
theorem dX8_takesNumber_70 : decode cX8_takesNumber 70 = .ok (.ireturn, 1) := by decide +kernel
theorem dX8_mayBegin_0 : decode cX8_mayBegin 0 = .ok (.iload_n 1, 1) := by decide +kernel
theorem dX8_mayBegin_1 : decode cX8_mayBegin 1 = .ok (.lookupswitch 78 #[(99, 35), (114, 63), (116, 48)], 35) := by decide +kernel
theorem dX8_mayBegin_36 : decode cX8_mayBegin 36 = .ok (.aload_n 0, 1) := by decide +kernel
theorem dX8_mayBegin_37 : decode cX8_mayBegin 37 = .ok (.getfield 112, 3) := by decide +kernel
theorem dX8_mayBegin_40 : decode cX8_mayBegin 40 = .ok (.ifCond .ne 7, 3) := by decide +kernel
theorem dX8_mayBegin_43 : decode cX8_mayBegin 43 = .ok (.iconst 1, 1) := by decide +kernel
theorem dX8_mayBegin_44 : decode cX8_mayBegin 44 = .ok (.goto 4, 3) := by decide +kernel
theorem dX8_mayBegin_47 : decode cX8_mayBegin 47 = .ok (.iconst 0, 1) := by decide +kernel
theorem dX8_mayBegin_48 : decode cX8_mayBegin 48 = .ok (.ireturn, 1) := by decide +kernel
theorem dX8_mayBegin_49 : decode cX8_mayBegin 49 = .ok (.aload_n 0, 1) := by decide +kernel
theorem dX8_mayBegin_50 : decode cX8_mayBegin 50 = .ok (.getfield 115, 3) := by decide +kernel
theorem dX8_mayBegin_53 : decode cX8_mayBegin 53 = .ok (.bipush 8, 2) := by decide +kernel
theorem dX8_mayBegin_55 : decode cX8_mayBegin 55 = .ok (.if_icmp .ge 7, 3) := by decide +kernel
theorem dX8_mayBegin_58 : decode cX8_mayBegin 58 = .ok (.iconst 1, 1) := by decide +kernel
theorem dX8_mayBegin_59 : decode cX8_mayBegin 59 = .ok (.goto 4, 3) := by decide +kernel
theorem dX8_mayBegin_62 : decode cX8_mayBegin 62 = .ok (.iconst 0, 1) := by decide +kernel
theorem dX8_mayBegin_63 : decode cX8_mayBegin 63 = .ok (.ireturn, 1) := by decide +kernel
theorem dX8_mayBegin_64 : decode cX8_mayBegin 64 = .ok (.aload_n 0, 1) := by decide +kernel
theorem dX8_mayBegin_65 : decode cX8_mayBegin 65 = .ok (.getfield 118, 3) := by decide +kernel
theorem dX8_mayBegin_68 : decode cX8_mayBegin 68 = .ok (.bipush 6, 2) := by decide +kernel
theorem dX8_mayBegin_70 : decode cX8_mayBegin 70 = .ok (.if_icmp .ge 7, 3) := by decide +kernel
theorem dX8_mayBegin_73 : decode cX8_mayBegin 73 = .ok (.iconst 1, 1) := by decide +kernel
theorem dX8_mayBegin_74 : decode cX8_mayBegin 74 = .ok (.goto 4, 3) := by decide +kernel
theorem dX8_mayBegin_77 : decode cX8_mayBegin 77 = .ok (.iconst 0, 1) := by decide +kernel
theorem dX8_mayBegin_78 : decode cX8_mayBegin 78 = .ok (.ireturn, 1) := by decide +kernel
theorem dX8_mayBegin_79 : decode cX8_mayBegin 79 = .ok (.iconst 0, 1) := by decide +kernel
theorem dX8_mayBegin_80 : decode cX8_mayBegin 80 = .ok (.ireturn, 1) := by decide +kernel
theorem dX8_readTown_0 : decode cX8_readTown 0 = .ok (.aload_n 0, 1) := by decide +kernel
theorem dX8_readTown_1 : decode cX8_readTown 1 = .ok (.aload_n 0, 1) := by decide +kernel
theorem dX8_readTown_2 : decode cX8_readTown 2 = .ok (.iconst 2, 1) := by decide +kernel
theorem dX8_readTown_3 : decode cX8_readTown 3 = .ok (.bipush 6, 2) := by decide +kernel
theorem dX8_readTown_5 : decode cX8_readTown 5 = .ok (.invokevirtual 121, 3) := by decide +kernel
theorem dX8_readTown_8 : decode cX8_readTown 8 = .ok (.putfield 125, 3) := by decide +kernel
theorem dX8_readTown_11 : decode cX8_readTown 11 = .ok (.aload_n 0, 1) := by decide +kernel
theorem dX8_readTown_12 : decode cX8_readTown 12 = .ok (.aload_n 0, 1) := by decide +kernel
theorem dX8_readTown_13 : decode cX8_readTown 13 = .ok (.iconst 1, 1) := by decide +kernel
theorem dX8_readTown_14 : decode cX8_readTown 14 = .ok (.aload_n 0, 1) := by decide +kernel
theorem dX8_readTown_15 : decode cX8_readTown 15 = .ok (.getfield 125, 3) := by decide +kernel
theorem dX8_readTown_18 : decode cX8_readTown 18 = .ok (.invokevirtual 121, 3) := by decide +kernel
theorem dX8_readTown_21 : decode cX8_readTown 21 = .ok (.putfield 128, 3) := by decide +kernel
theorem dX8_readTown_24 : decode cX8_readTown 24 = .ok (.aload_n 0, 1) := by decide +kernel
theorem dX8_readTown_25 : decode cX8_readTown 25 = .ok (.aload_n 0, 1) := by decide +kernel
theorem dX8_readTown_26 : decode cX8_readTown 26 = .ok (.iconst 0, 1) := by decide +kernel
theorem dX8_readTown_27 : decode cX8_readTown 27 = .ok (.bipush 20, 2) := by decide +kernel
theorem dX8_readTown_29 : decode cX8_readTown 29 = .ok (.invokevirtual 121, 3) := by decide +kernel
theorem dX8_readTown_32 : decode cX8_readTown 32 = .ok (.putfield 131, 3) := by decide +kernel
theorem dX8_readTown_35 : decode cX8_readTown 35 = .ok (.return_, 1) := by decide +kernel
theorem dX8_readTrain_0 : decode cX8_readTrain 0 = .ok (.aload_n 0, 1) := by decide +kernel
theorem dX8_readTrain_1 : decode cX8_readTrain 1 = .ok (.getfield 45, 3) := by decide +kernel
theorem dX8_readTrain_4 : decode cX8_readTrain 4 = .ok (.aload_n 0, 1) := by decide +kernel
theorem dX8_readTrain_5 : decode cX8_readTrain 5 = .ok (.getfield 115, 3) := by decide +kernel
theorem dX8_readTrain_8 : decode cX8_readTrain 8 = .ok (.aload_n 0, 1) := by decide +kernel
theorem dX8_readTrain_9 : decode cX8_readTrain 9 = .ok (.iconst 0, 1) := by decide +kernel
theorem dX8_readTrain_10 : decode cX8_readTrain 10 = .ok (.bipush 23, 2) := by decide +kernel
theorem dX8_readTrain_12 : decode cX8_readTrain 12 = .ok (.invokevirtual 121, 3) := by decide +kernel
theorem dX8_readTrain_15 : decode cX8_readTrain 15 = .ok (.iastore, 1) := by decide +kernel
theorem dX8_readTrain_16 : decode cX8_readTrain 16 = .ok (.aload_n 0, 1) := by decide +kernel
theorem dX8_readTrain_17 : decode cX8_readTrain 17 = .ok (.getfield 48, 3) := by decide +kernel
theorem dX8_readTrain_20 : decode cX8_readTrain 20 = .ok (.aload_n 0, 1) := by decide +kernel
theorem dX8_readTrain_21 : decode cX8_readTrain 21 = .ok (.getfield 115, 3) := by decide +kernel
theorem dX8_readTrain_24 : decode cX8_readTrain 24 = .ok (.aload_n 0, 1) := by decide +kernel
theorem dX8_readTrain_25 : decode cX8_readTrain 25 = .ok (.iconst 1, 1) := by decide +kernel
theorem dX8_readTrain_26 : decode cX8_readTrain 26 = .ok (.bipush 30, 2) := by decide +kernel
theorem dX8_readTrain_28 : decode cX8_readTrain 28 = .ok (.invokevirtual 121, 3) := by decide +kernel
theorem dX8_readTrain_31 : decode cX8_readTrain 31 = .ok (.iastore, 1) := by decide +kernel
theorem dX8_readTrain_32 : decode cX8_readTrain 32 = .ok (.aload_n 0, 1) := by decide +kernel
theorem dX8_readTrain_33 : decode cX8_readTrain 33 = .ok (.getfield 51, 3) := by decide +kernel
theorem dX8_readTrain_36 : decode cX8_readTrain 36 = .ok (.aload_n 0, 1) := by decide +kernel
theorem dX8_readTrain_37 : decode cX8_readTrain 37 = .ok (.getfield 115, 3) := by decide +kernel
theorem dX8_readTrain_40 : decode cX8_readTrain 40 = .ok (.aload_n 0, 1) := by decide +kernel
theorem dX8_readTrain_41 : decode cX8_readTrain 41 = .ok (.iconst 0, 1) := by decide +kernel
theorem dX8_readTrain_42 : decode cX8_readTrain 42 = .ok (.aload_n 0, 1) := by decide +kernel
theorem dX8_readTrain_43 : decode cX8_readTrain 43 = .ok (.getfield 125, 3) := by decide +kernel
theorem dX8_readTrain_46 : decode cX8_readTrain 46 = .ok (.iconst 1, 1) := by decide +kernel
theorem dX8_readTrain_47 : decode cX8_readTrain 47 = .ok (.isub, 1) := by decide +kernel
theorem dX8_readTrain_48 : decode cX8_readTrain 48 = .ok (.invokevirtual 121, 3) := by decide +kernel
theorem dX8_readTrain_51 : decode cX8_readTrain 51 = .ok (.iastore, 1) := by decide +kernel
theorem dX8_readTrain_52 : decode cX8_readTrain 52 = .ok (.aload_n 0, 1) := by decide +kernel
theorem dX8_readTrain_53 : decode cX8_readTrain 53 = .ok (.dup, 1) := by decide +kernel
theorem dX8_readTrain_54 : decode cX8_readTrain 54 = .ok (.getfield 115, 3) := by decide +kernel
theorem dX8_readTrain_57 : decode cX8_readTrain 57 = .ok (.iconst 1, 1) := by decide +kernel
theorem dX8_readTrain_58 : decode cX8_readTrain 58 = .ok (.iadd, 1) := by decide +kernel
theorem dX8_readTrain_59 : decode cX8_readTrain 59 = .ok (.putfield 115, 3) := by decide +kernel
theorem dX8_readTrain_62 : decode cX8_readTrain 62 = .ok (.return_, 1) := by decide +kernel
theorem dX8_readGroup_0 : decode cX8_readGroup 0 = .ok (.aload_n 0, 1) := by decide +kernel
theorem dX8_readGroup_1 : decode cX8_readGroup 1 = .ok (.getfield 54, 3) := by decide +kernel
theorem dX8_readGroup_4 : decode cX8_readGroup 4 = .ok (.aload_n 0, 1) := by decide +kernel
theorem dX8_readGroup_5 : decode cX8_readGroup 5 = .ok (.getfield 118, 3) := by decide +kernel
theorem dX8_readGroup_8 : decode cX8_readGroup 8 = .ok (.aload_n 0, 1) := by decide +kernel
theorem dX8_readGroup_9 : decode cX8_readGroup 9 = .ok (.iconst 1, 1) := by decide +kernel
theorem dX8_readGroup_10 : decode cX8_readGroup 10 = .ok (.bipush 30, 2) := by decide +kernel
theorem dX8_readGroup_12 : decode cX8_readGroup 12 = .ok (.invokevirtual 121, 3) := by decide +kernel
theorem dX8_readGroup_15 : decode cX8_readGroup 15 = .ok (.iastore, 1) := by decide +kernel
theorem dX8_readGroup_16 : decode cX8_readGroup 16 = .ok (.aload_n 0, 1) := by decide +kernel
theorem dX8_readGroup_17 : decode cX8_readGroup 17 = .ok (.getfield 57, 3) := by decide +kernel
theorem dX8_readGroup_20 : decode cX8_readGroup 20 = .ok (.aload_n 0, 1) := by decide +kernel
theorem dX8_readGroup_21 : decode cX8_readGroup 21 = .ok (.getfield 118, 3) := by decide +kernel
theorem dX8_readGroup_24 : decode cX8_readGroup 24 = .ok (.aload_n 0, 1) := by decide +kernel
theorem dX8_readGroup_25 : decode cX8_readGroup 25 = .ok (.iconst 0, 1) := by decide +kernel
theorem dX8_readGroup_26 : decode cX8_readGroup 26 = .ok (.aload_n 0, 1) := by decide +kernel
theorem dX8_readGroup_27 : decode cX8_readGroup 27 = .ok (.getfield 125, 3) := by decide +kernel
theorem dX8_readGroup_30 : decode cX8_readGroup 30 = .ok (.iconst 1, 1) := by decide +kernel
theorem dX8_readGroup_31 : decode cX8_readGroup 31 = .ok (.isub, 1) := by decide +kernel
theorem dX8_readGroup_32 : decode cX8_readGroup 32 = .ok (.invokevirtual 121, 3) := by decide +kernel
theorem dX8_readGroup_35 : decode cX8_readGroup 35 = .ok (.iastore, 1) := by decide +kernel
theorem dX8_readGroup_36 : decode cX8_readGroup 36 = .ok (.aload_n 0, 1) := by decide +kernel
theorem dX8_readGroup_37 : decode cX8_readGroup 37 = .ok (.aload_n 0, 1) := by decide +kernel
theorem dX8_readGroup_38 : decode cX8_readGroup 38 = .ok (.getfield 105, 3) := by decide +kernel
theorem dX8_readGroup_41 : decode cX8_readGroup 41 = .ok (.ifCond .ne 27, 3) := by decide +kernel
theorem dX8_readGroup_44 : decode cX8_readGroup 44 = .ok (.aload_n 0, 1) := by decide +kernel
theorem dX8_readGroup_45 : decode cX8_readGroup 45 = .ok (.getfield 95, 3) := by decide +kernel
theorem dX8_readGroup_48 : decode cX8_readGroup 48 = .ok (.iconst 2, 1) := by decide +kernel
theorem dX8_readGroup_49 : decode cX8_readGroup 49 = .ok (.if_icmp .ne 23, 3) := by decide +kernel
theorem dX8_readGroup_52 : decode cX8_readGroup 52 = .ok (.aload_n 0, 1) := by decide +kernel
theorem dX8_readGroup_53 : decode cX8_readGroup 53 = .ok (.getfield 92, 3) := by decide +kernel
theorem dX8_readGroup_56 : decode cX8_readGroup 56 = .ok (.aload_n 0, 1) := by decide +kernel
theorem dX8_readGroup_57 : decode cX8_readGroup 57 = .ok (.getfield 57, 3) := by decide +kernel
theorem dX8_readGroup_60 : decode cX8_readGroup 60 = .ok (.aload_n 0, 1) := by decide +kernel
theorem dX8_readGroup_61 : decode cX8_readGroup 61 = .ok (.getfield 118, 3) := by decide +kernel
theorem dX8_readGroup_64 : decode cX8_readGroup 64 = .ok (.iaload, 1) := by decide +kernel
theorem dX8_readGroup_65 : decode cX8_readGroup 65 = .ok (.if_icmp .ne 7, 3) := by decide +kernel
theorem dX8_readGroup_68 : decode cX8_readGroup 68 = .ok (.iconst 1, 1) := by decide +kernel
theorem dX8_readGroup_69 : decode cX8_readGroup 69 = .ok (.goto 4, 3) := by decide +kernel
theorem dX8_readGroup_72 : decode cX8_readGroup 72 = .ok (.iconst 0, 1) := by decide +kernel
theorem dX8_readGroup_73 : decode cX8_readGroup 73 = .ok (.putfield 105, 3) := by decide +kernel
theorem dX8_readGroup_76 : decode cX8_readGroup 76 = .ok (.aload_n 0, 1) := by decide +kernel
theorem dX8_readGroup_77 : decode cX8_readGroup 77 = .ok (.getfield 60, 3) := by decide +kernel
theorem dX8_readGroup_80 : decode cX8_readGroup 80 = .ok (.aload_n 0, 1) := by decide +kernel
theorem dX8_readGroup_81 : decode cX8_readGroup 81 = .ok (.getfield 118, 3) := by decide +kernel
theorem dX8_readGroup_84 : decode cX8_readGroup 84 = .ok (.aload_n 0, 1) := by decide +kernel
theorem dX8_readGroup_85 : decode cX8_readGroup 85 = .ok (.iconst 0, 1) := by decide +kernel
theorem dX8_readGroup_86 : decode cX8_readGroup 86 = .ok (.aload_n 0, 1) := by decide +kernel
theorem dX8_readGroup_87 : decode cX8_readGroup 87 = .ok (.getfield 125, 3) := by decide +kernel
theorem dX8_readGroup_90 : decode cX8_readGroup 90 = .ok (.iconst 1, 1) := by decide +kernel
theorem dX8_readGroup_91 : decode cX8_readGroup 91 = .ok (.isub, 1) := by decide +kernel
theorem dX8_readGroup_92 : decode cX8_readGroup 92 = .ok (.invokevirtual 121, 3) := by decide +kernel
theorem dX8_readGroup_95 : decode cX8_readGroup 95 = .ok (.iastore, 1) := by decide +kernel
theorem dX8_readGroup_96 : decode cX8_readGroup 96 = .ok (.aload_n 0, 1) := by decide +kernel
theorem dX8_readGroup_97 : decode cX8_readGroup 97 = .ok (.dup, 1) := by decide +kernel
theorem dX8_readGroup_98 : decode cX8_readGroup 98 = .ok (.getfield 118, 3) := by decide +kernel
theorem dX8_readGroup_101 : decode cX8_readGroup 101 = .ok (.iconst 1, 1) := by decide +kernel
theorem dX8_readGroup_102 : decode cX8_readGroup 102 = .ok (.iadd, 1) := by decide +kernel
theorem dX8_readGroup_103 : decode cX8_readGroup 103 = .ok (.putfield 118, 3) := by decide +kernel
theorem dX8_readGroup_106 : decode cX8_readGroup 106 = .ok (.return_, 1) := by decide +kernel
theorem dX8_readBody_0 : decode cX8_readBody 0 = .ok (.iload_n 1, 1) := by decide +kernel
theorem dX8_readBody_1 : decode cX8_readBody 1 = .ok (.lookupswitch 41 #[(99, 27), (116, 34)], 27) := by decide +kernel
theorem dX8_readBody_28 : decode cX8_readBody 28 = .ok (.aload_n 0, 1) := by decide +kernel
theorem dX8_readBody_29 : decode cX8_readBody 29 = .ok (.invokevirtual 134, 3) := by decide +kernel
theorem dX8_readBody_32 : decode cX8_readBody 32 = .ok (.goto 14, 3) := by decide +kernel
theorem dX8_readBody_35 : decode cX8_readBody 35 = .ok (.aload_n 0, 1) := by decide +kernel
theorem dX8_readBody_36 : decode cX8_readBody 36 = .ok (.invokevirtual 137, 3) := by decide +kernel
theorem dX8_readBody_39 : decode cX8_readBody 39 = .ok (.goto 7, 3) := by decide +kernel
theorem dX8_readBody_42 : decode cX8_readBody 42 = .ok (.aload_n 0, 1) := by decide +kernel
theorem dX8_readBody_43 : decode cX8_readBody 43 = .ok (.invokevirtual 140, 3) := by decide +kernel
theorem dX8_readBody_46 : decode cX8_readBody 46 = .ok (.return_, 1) := by decide +kernel
theorem dX8_readItem_0 : decode cX8_readItem 0 = .ok (.aload_n 0, 1) := by decide +kernel
theorem dX8_readItem_1 : decode cX8_readItem 1 = .ok (.getfield 92, 3) := by decide +kernel
theorem dX8_readItem_4 : decode cX8_readItem 4 = .ok (.istore_n 1, 1) := by decide +kernel
theorem dX8_readItem_5 : decode cX8_readItem 5 = .ok (.aload_n 0, 1) := by decide +kernel
theorem dX8_readItem_6 : decode cX8_readItem 6 = .ok (.getfield 95, 3) := by decide +kernel
theorem dX8_readItem_9 : decode cX8_readItem 9 = .ok (.iconst 1, 1) := by decide +kernel
theorem dX8_readItem_10 : decode cX8_readItem 10 = .ok (.if_icmp .ne 11, 3) := by decide +kernel
theorem dX8_readItem_13 : decode cX8_readItem 13 = .ok (.aload_n 0, 1) := by decide +kernel
theorem dX8_readItem_14 : decode cX8_readItem 14 = .ok (.iload_n 1, 1) := by decide +kernel
theorem dX8_readItem_15 : decode cX8_readItem 15 = .ok (.invokevirtual 143, 3) := by decide +kernel
theorem dX8_readItem_18 : decode cX8_readItem 18 = .ok (.ifCond .ne 9, 3) := by decide +kernel
theorem dX8_readItem_21 : decode cX8_readItem 21 = .ok (.aload_n 0, 1) := by decide +kernel
theorem dX8_readItem_22 : decode cX8_readItem 22 = .ok (.iconst 1, 1) := by decide +kernel
theorem dX8_readItem_23 : decode cX8_readItem 23 = .ok (.putfield 105, 3) := by decide +kernel
theorem dX8_readItem_26 : decode cX8_readItem 26 = .ok (.return_, 1) := by decide +kernel
theorem dX8_readItem_27 : decode cX8_readItem 27 = .ok (.aload_n 0, 1) := by decide +kernel
theorem dX8_readItem_28 : decode cX8_readItem 28 = .ok (.invokevirtual 109, 3) := by decide +kernel
theorem dX8_readItem_31 : decode cX8_readItem 31 = .ok (.aload_n 0, 1) := by decide +kernel
theorem dX8_readItem_32 : decode cX8_readItem 32 = .ok (.iload_n 1, 1) := by decide +kernel
theorem dX8_readItem_33 : decode cX8_readItem 33 = .ok (.invokevirtual 146, 3) := by decide +kernel
theorem dX8_readItem_36 : decode cX8_readItem 36 = .ok (.aload_n 0, 1) := by decide +kernel
theorem dX8_readItem_37 : decode cX8_readItem 37 = .ok (.aload_n 0, 1) := by decide +kernel
theorem dX8_readItem_38 : decode cX8_readItem 38 = .ok (.getfield 105, 3) := by decide +kernel
theorem dX8_readItem_41 : decode cX8_readItem 41 = .ok (.ifCond .ne 11, 3) := by decide +kernel
theorem dX8_readItem_44 : decode cX8_readItem 44 = .ok (.aload_n 0, 1) := by decide +kernel
theorem dX8_readItem_45 : decode cX8_readItem 45 = .ok (.getfield 95, 3) := by decide +kernel
theorem dX8_readItem_48 : decode cX8_readItem 48 = .ok (.iconst 3, 1) := by decide +kernel
theorem dX8_readItem_49 : decode cX8_readItem 49 = .ok (.if_icmp .eq 7, 3) := by decide +kernel
theorem dX8_readItem_52 : decode cX8_readItem 52 = .ok (.iconst 1, 1) := by decide +kernel
theorem dX8_readItem_53 : decode cX8_readItem 53 = .ok (.goto 4, 3) := by decide +kernel
theorem dX8_readItem_56 : decode cX8_readItem 56 = .ok (.iconst 0, 1) := by decide +kernel
theorem dX8_readItem_57 : decode cX8_readItem 57 = .ok (.putfield 105, 3) := by decide +kernel
theorem dX8_readItem_60 : decode cX8_readItem 60 = .ok (.aload_n 0, 1) := by decide +kernel
theorem dX8_readItem_61 : decode cX8_readItem 61 = .ok (.getfield 105, 3) := by decide +kernel
theorem dX8_readItem_64 : decode cX8_readItem 64 = .ok (.ifCond .ne 7, 3) := by decide +kernel
theorem dX8_readItem_67 : decode cX8_readItem 67 = .ok (.aload_n 0, 1) := by decide +kernel
theorem dX8_readItem_68 : decode cX8_readItem 68 = .ok (.invokevirtual 109, 3) := by decide +kernel
theorem dX8_readItem_71 : decode cX8_readItem 71 = .ok (.return_, 1) := by decide +kernel
theorem dX8_town_0 : decode cX8_town 0 = .ok (.aload_n 0, 1) := by decide +kernel
theorem dX8_town_1 : decode cX8_town 1 = .ok (.iconst 0, 1) := by decide +kernel
theorem dX8_town_2 : decode cX8_town 2 = .ok (.putfield 82, 3) := by decide +kernel
theorem dX8_town_5 : decode cX8_town 5 = .ok (.aload_n 0, 1) := by decide +kernel
theorem dX8_town_6 : decode cX8_town 6 = .ok (.iconst 0, 1) := by decide +kernel
theorem dX8_town_7 : decode cX8_town 7 = .ok (.putfield 105, 3) := by decide +kernel
theorem dX8_town_10 : decode cX8_town 10 = .ok (.aload_n 0, 1) := by decide +kernel
theorem dX8_town_11 : decode cX8_town 11 = .ok (.iconst 0, 1) := by decide +kernel
theorem dX8_town_12 : decode cX8_town 12 = .ok (.putfield 112, 3) := by decide +kernel
theorem dX8_town_15 : decode cX8_town 15 = .ok (.aload_n 0, 1) := by decide +kernel
theorem dX8_town_16 : decode cX8_town 16 = .ok (.iconst 3, 1) := by decide +kernel
theorem dX8_town_17 : decode cX8_town 17 = .ok (.putfield 125, 3) := by decide +kernel
theorem dX8_town_20 : decode cX8_town 20 = .ok (.aload_n 0, 1) := by decide +kernel
theorem dX8_town_21 : decode cX8_town 21 = .ok (.iconst 2, 1) := by decide +kernel
theorem dX8_town_22 : decode cX8_town 22 = .ok (.putfield 128, 3) := by decide +kernel
theorem dX8_town_25 : decode cX8_town 25 = .ok (.aload_n 0, 1) := by decide +kernel
theorem dX8_town_26 : decode cX8_town 26 = .ok (.iconst 3, 1) := by decide +kernel
theorem dX8_town_27 : decode cX8_town 27 = .ok (.putfield 131, 3) := by decide +kernel
theorem dX8_town_30 : decode cX8_town 30 = .ok (.aload_n 0, 1) := by decide +kernel
theorem dX8_town_31 : decode cX8_town 31 = .ok (.iconst 0, 1) := by decide +kernel
theorem dX8_town_32 : decode cX8_town 32 = .ok (.putfield 115, 3) := by decide +kernel
theorem dX8_town_35 : decode cX8_town 35 = .ok (.aload_n 0, 1) := by decide +kernel
theorem dX8_town_36 : decode cX8_town 36 = .ok (.iconst 0, 1) := by decide +kernel
theorem dX8_town_37 : decode cX8_town 37 = .ok (.putfield 118, 3) := by decide +kernel
theorem dX8_town_40 : decode cX8_town 40 = .ok (.aload_n 0, 1) := by decide +kernel
theorem dX8_town_41 : decode cX8_town 41 = .ok (.invokevirtual 109, 3) := by decide +kernel
theorem dX8_town_44 : decode cX8_town 44 = .ok (.aload_n 0, 1) := by decide +kernel
theorem dX8_town_45 : decode cX8_town 45 = .ok (.getfield 95, 3) := by decide +kernel
theorem dX8_town_48 : decode cX8_town 48 = .ok (.ifCond .eq 27, 3) := by decide +kernel
theorem dX8_town_51 : decode cX8_town 51 = .ok (.aload_n 0, 1) := by decide +kernel
theorem dX8_town_52 : decode cX8_town 52 = .ok (.getfield 105, 3) := by decide +kernel
theorem dX8_town_55 : decode cX8_town 55 = .ok (.ifCond .ne 20, 3) := by decide +kernel
theorem dX8_town_58 : decode cX8_town 58 = .ok (.aload_n 0, 1) := by decide +kernel
theorem dX8_town_59 : decode cX8_town 59 = .ok (.invokevirtual 150, 3) := by decide +kernel
theorem dX8_town_62 : decode cX8_town 62 = .ok (.aload_n 0, 1) := by decide +kernel
theorem dX8_town_63 : decode cX8_town 63 = .ok (.dup, 1) := by decide +kernel
theorem dX8_town_64 : decode cX8_town 64 = .ok (.getfield 112, 3) := by decide +kernel
theorem dX8_town_67 : decode cX8_town 67 = .ok (.iconst 1, 1) := by decide +kernel
theorem dX8_town_68 : decode cX8_town 68 = .ok (.iadd, 1) := by decide +kernel
theorem dX8_town_69 : decode cX8_town 69 = .ok (.putfield 112, 3) := by decide +kernel
theorem dX8_town_72 : decode cX8_town 72 = .ok (.goto (-28), 3) := by decide +kernel
theorem dX8_town_75 : decode cX8_town 75 = .ok (.aload_n 0, 1) := by decide +kernel
theorem dX8_town_76 : decode cX8_town 76 = .ok (.getfield 105, 3) := by decide +kernel
theorem dX8_town_79 : decode cX8_town 79 = .ok (.ifCond .eq 11, 3) := by decide +kernel
theorem dX8_town_82 : decode cX8_town 82 = .ok (.bipush (-10), 2) := by decide +kernel
theorem dX8_town_84 : decode cX8_town 84 = .ok (.aload_n 0, 1) := by decide +kernel
theorem dX8_town_85 : decode cX8_town 85 = .ok (.getfield 89, 3) := by decide +kernel
theorem dX8_town_88 : decode cX8_town 88 = .ok (.isub, 1) := by decide +kernel
theorem dX8_town_89 : decode cX8_town 89 = .ok (.ireturn, 1) := by decide +kernel
theorem dX8_town_90 : decode cX8_town 90 = .ok (.aload_n 0, 1) := by decide +kernel
theorem dX8_town_91 : decode cX8_town 91 = .ok (.invokevirtual 153, 3) := by decide +kernel
theorem dX8_town_94 : decode cX8_town 94 = .ok (.aload_n 0, 1) := by decide +kernel
theorem dX8_town_95 : decode cX8_town 95 = .ok (.getfield 112, 3) := by decide +kernel
theorem dX8_town_98 : decode cX8_town 98 = .ok (.ireturn, 1) := by decide +kernel
theorem dX8_settles_0 : decode cX8_settles 0 = .ok (.aload_n 0, 1) := by decide +kernel
theorem dX8_settles_1 : decode cX8_settles 1 = .ok (.aload_n 0, 1) := by decide +kernel
theorem dX8_settles_2 : decode cX8_settles 2 = .ok (.getfield 125, 3) := by decide +kernel
theorem dX8_settles_5 : decode cX8_settles 5 = .ok (.putfield 7, 3) := by decide +kernel
theorem dX8_settles_8 : decode cX8_settles 8 = .ok (.aload_n 0, 1) := by decide +kernel
theorem dX8_settles_9 : decode cX8_settles 9 = .ok (.aload_n 0, 1) := by decide +kernel
theorem dX8_settles_10 : decode cX8_settles 10 = .ok (.getfield 128, 3) := by decide +kernel
theorem dX8_settles_13 : decode cX8_settles 13 = .ok (.putfield 13, 3) := by decide +kernel
theorem dX8_settles_16 : decode cX8_settles 16 = .ok (.aload_n 0, 1) := by decide +kernel
theorem dX8_settles_17 : decode cX8_settles 17 = .ok (.aload_n 0, 1) := by decide +kernel
theorem dX8_settles_18 : decode cX8_settles 18 = .ok (.getfield 115, 3) := by decide +kernel
theorem dX8_settles_21 : decode cX8_settles 21 = .ok (.putfield 73, 3) := by decide +kernel
theorem dX8_settles_24 : decode cX8_settles 24 = .ok (.aload_n 0, 1) := by decide +kernel
theorem dX8_settles_25 : decode cX8_settles 25 = .ok (.aload_n 0, 1) := by decide +kernel
theorem dX8_settles_26 : decode cX8_settles 26 = .ok (.getfield 118, 3) := by decide +kernel
theorem dX8_settles_29 : decode cX8_settles 29 = .ok (.putfield 76, 3) := by decide +kernel
theorem dX8_settles_32 : decode cX8_settles 32 = .ok (.iconst 0, 1) := by decide +kernel
theorem dX8_settles_33 : decode cX8_settles 33 = .ok (.istore_n 1, 1) := by decide +kernel
theorem dX8_settles_34 : decode cX8_settles 34 = .ok (.iload_n 1, 1) := by decide +kernel
theorem dX8_settles_35 : decode cX8_settles 35 = .ok (.sipush 298, 3) := by decide +kernel
theorem dX8_settles_38 : decode cX8_settles 38 = .ok (.if_icmp .ge 16, 3) := by decide +kernel
theorem dX8_settles_41 : decode cX8_settles 41 = .ok (.aload_n 0, 1) := by decide +kernel
theorem dX8_settles_42 : decode cX8_settles 42 = .ok (.getfield 29, 3) := by decide +kernel
theorem dX8_settles_45 : decode cX8_settles 45 = .ok (.iload_n 1, 1) := by decide +kernel
theorem dX8_settles_46 : decode cX8_settles 46 = .ok (.iconst 0, 1) := by decide +kernel
theorem dX8_settles_47 : decode cX8_settles 47 = .ok (.iastore, 1) := by decide +kernel
theorem dX8_settles_48 : decode cX8_settles 48 = .ok (.iinc 1 1, 3) := by decide +kernel
theorem dX8_settles_51 : decode cX8_settles 51 = .ok (.goto (-17), 3) := by decide +kernel
theorem dX8_settles_54 : decode cX8_settles 54 = .ok (.aload_n 0, 1) := by decide +kernel
theorem dX8_settles_55 : decode cX8_settles 55 = .ok (.getfield 29, 3) := by decide +kernel
theorem dX8_settles_58 : decode cX8_settles 58 = .ok (.iconst 1, 1) := by decide +kernel
theorem dX8_settles_59 : decode cX8_settles 59 = .ok (.aload_n 0, 1) := by decide +kernel
theorem dX8_settles_60 : decode cX8_settles 60 = .ok (.getfield 131, 3) := by decide +kernel
theorem dX8_settles_63 : decode cX8_settles 63 = .ok (.iastore, 1) := by decide +kernel
theorem dX8_settles_64 : decode cX8_settles 64 = .ok (.iconst 0, 1) := by decide +kernel
theorem dX8_settles_65 : decode cX8_settles 65 = .ok (.istore_n 1, 1) := by decide +kernel
theorem dX8_settles_66 : decode cX8_settles 66 = .ok (.iload_n 1, 1) := by decide +kernel
theorem dX8_settles_67 : decode cX8_settles 67 = .ok (.aload_n 0, 1) := by decide +kernel
theorem dX8_settles_68 : decode cX8_settles 68 = .ok (.getfield 73, 3) := by decide +kernel
theorem dX8_settles_71 : decode cX8_settles 71 = .ok (.if_icmp .ge 51, 3) := by decide +kernel
theorem dX8_settles_74 : decode cX8_settles 74 = .ok (.aload_n 0, 1) := by decide +kernel
theorem dX8_settles_75 : decode cX8_settles 75 = .ok (.getfield 16, 3) := by decide +kernel
theorem dX8_settles_78 : decode cX8_settles 78 = .ok (.iload_n 1, 1) := by decide +kernel
theorem dX8_settles_79 : decode cX8_settles 79 = .ok (.aload_n 0, 1) := by decide +kernel
theorem dX8_settles_80 : decode cX8_settles 80 = .ok (.getfield 48, 3) := by decide +kernel
theorem dX8_settles_83 : decode cX8_settles 83 = .ok (.iload_n 1, 1) := by decide +kernel
theorem dX8_settles_84 : decode cX8_settles 84 = .ok (.iaload, 1) := by decide +kernel
theorem dX8_settles_85 : decode cX8_settles 85 = .ok (.iastore, 1) := by decide +kernel
theorem dX8_settles_86 : decode cX8_settles 86 = .ok (.aload_n 0, 1) := by decide +kernel
theorem dX8_settles_87 : decode cX8_settles 87 = .ok (.getfield 29, 3) := by decide +kernel
theorem dX8_settles_90 : decode cX8_settles 90 = .ok (.bipush 9, 2) := by decide +kernel
theorem dX8_settles_92 : decode cX8_settles 92 = .ok (.iload_n 1, 1) := by decide +kernel
theorem dX8_settles_93 : decode cX8_settles 93 = .ok (.iadd, 1) := by decide +kernel
theorem dX8_settles_94 : decode cX8_settles 94 = .ok (.aload_n 0, 1) := by decide +kernel
theorem dX8_settles_95 : decode cX8_settles 95 = .ok (.getfield 45, 3) := by decide +kernel
theorem dX8_settles_98 : decode cX8_settles 98 = .ok (.iload_n 1, 1) := by decide +kernel
theorem dX8_settles_99 : decode cX8_settles 99 = .ok (.iaload, 1) := by decide +kernel
theorem dX8_settles_100 : decode cX8_settles 100 = .ok (.iastore, 1) := by decide +kernel
theorem dX8_settles_101 : decode cX8_settles 101 = .ok (.aload_n 0, 1) := by decide +kernel
theorem dX8_settles_102 : decode cX8_settles 102 = .ok (.getfield 29, 3) := by decide +kernel
theorem dX8_settles_105 : decode cX8_settles 105 = .ok (.bipush 17, 2) := by decide +kernel
theorem dX8_settles_107 : decode cX8_settles 107 = .ok (.iload_n 1, 1) := by decide +kernel
theorem dX8_settles_108 : decode cX8_settles 108 = .ok (.iadd, 1) := by decide +kernel
theorem dX8_settles_109 : decode cX8_settles 109 = .ok (.aload_n 0, 1) := by decide +kernel
theorem dX8_settles_110 : decode cX8_settles 110 = .ok (.getfield 51, 3) := by decide +kernel
theorem dX8_settles_113 : decode cX8_settles 113 = .ok (.iload_n 1, 1) := by decide +kernel
theorem dX8_settles_114 : decode cX8_settles 114 = .ok (.iaload, 1) := by decide +kernel
theorem dX8_settles_115 : decode cX8_settles 115 = .ok (.iastore, 1) := by decide +kernel
theorem dX8_settles_116 : decode cX8_settles 116 = .ok (.iinc 1 1, 3) := by decide +kernel
theorem dX8_settles_119 : decode cX8_settles 119 = .ok (.goto (-53), 3) := by decide +kernel
theorem dX8_settles_122 : decode cX8_settles 122 = .ok (.iconst 0, 1) := by decide +kernel
theorem dX8_settles_123 : decode cX8_settles 123 = .ok (.istore_n 1, 1) := by decide +kernel
theorem dX8_settles_124 : decode cX8_settles 124 = .ok (.iload_n 1, 1) := by decide +kernel
theorem dX8_settles_125 : decode cX8_settles 125 = .ok (.aload_n 0, 1) := by decide +kernel
theorem dX8_settles_126 : decode cX8_settles 126 = .ok (.getfield 76, 3) := by decide +kernel
theorem dX8_settles_129 : decode cX8_settles 129 = .ok (.if_icmp .ge 45, 3) := by decide +kernel
theorem dX8_settles_132 : decode cX8_settles 132 = .ok (.aload_n 0, 1) := by decide +kernel
theorem dX8_settles_133 : decode cX8_settles 133 = .ok (.getfield 20, 3) := by decide +kernel
theorem dX8_settles_136 : decode cX8_settles 136 = .ok (.iload_n 1, 1) := by decide +kernel
theorem dX8_settles_137 : decode cX8_settles 137 = .ok (.aload_n 0, 1) := by decide +kernel
theorem dX8_settles_138 : decode cX8_settles 138 = .ok (.getfield 54, 3) := by decide +kernel
theorem dX8_settles_141 : decode cX8_settles 141 = .ok (.iload_n 1, 1) := by decide +kernel
theorem dX8_settles_142 : decode cX8_settles 142 = .ok (.iaload, 1) := by decide +kernel
theorem dX8_settles_143 : decode cX8_settles 143 = .ok (.iastore, 1) := by decide +kernel
theorem dX8_settles_144 : decode cX8_settles 144 = .ok (.aload_n 0, 1) := by decide +kernel
theorem dX8_settles_145 : decode cX8_settles 145 = .ok (.getfield 23, 3) := by decide +kernel
theorem dX8_settles_148 : decode cX8_settles 148 = .ok (.iload_n 1, 1) := by decide +kernel
theorem dX8_settles_149 : decode cX8_settles 149 = .ok (.aload_n 0, 1) := by decide +kernel
theorem dX8_settles_150 : decode cX8_settles 150 = .ok (.getfield 57, 3) := by decide +kernel
theorem dX8_settles_153 : decode cX8_settles 153 = .ok (.iload_n 1, 1) := by decide +kernel
theorem dX8_settles_154 : decode cX8_settles 154 = .ok (.iaload, 1) := by decide +kernel
theorem dX8_settles_155 : decode cX8_settles 155 = .ok (.iastore, 1) := by decide +kernel
theorem dX8_settles_156 : decode cX8_settles 156 = .ok (.aload_n 0, 1) := by decide +kernel
theorem dX8_settles_157 : decode cX8_settles 157 = .ok (.getfield 26, 3) := by decide +kernel
theorem dX8_settles_160 : decode cX8_settles 160 = .ok (.iload_n 1, 1) := by decide +kernel
theorem dX8_settles_161 : decode cX8_settles 161 = .ok (.aload_n 0, 1) := by decide +kernel
theorem dX8_settles_162 : decode cX8_settles 162 = .ok (.getfield 60, 3) := by decide +kernel
theorem dX8_settles_165 : decode cX8_settles 165 = .ok (.iload_n 1, 1) := by decide +kernel
theorem dX8_settles_166 : decode cX8_settles 166 = .ok (.iaload, 1) := by decide +kernel
theorem dX8_settles_167 : decode cX8_settles 167 = .ok (.iastore, 1) := by decide +kernel
theorem dX8_settles_168 : decode cX8_settles 168 = .ok (.iinc 1 1, 3) := by decide +kernel
theorem dX8_settles_171 : decode cX8_settles 171 = .ok (.goto (-47), 3) := by decide +kernel
theorem dX8_settles_174 : decode cX8_settles 174 = .ok (.aload_n 0, 1) := by decide +kernel
theorem dX8_settles_175 : decode cX8_settles 175 = .ok (.iconst 0, 1) := by decide +kernel
theorem dX8_settles_176 : decode cX8_settles 176 = .ok (.putfield 156, 3) := by decide +kernel
theorem dX8_settles_179 : decode cX8_settles 179 = .ok (.aload_n 0, 1) := by decide +kernel
theorem dX8_settles_180 : decode cX8_settles 180 = .ok (.getfield 35, 3) := by decide +kernel
theorem dX8_settles_183 : decode cX8_settles 183 = .ok (.iconst 0, 1) := by decide +kernel
theorem dX8_settles_184 : decode cX8_settles 184 = .ok (.iconst 0, 1) := by decide +kernel
theorem dX8_settles_185 : decode cX8_settles 185 = .ok (.bastore, 1) := by decide +kernel
theorem dX8_settles_186 : decode cX8_settles 186 = .ok (.aload_n 0, 1) := by decide +kernel
theorem dX8_settles_187 : decode cX8_settles 187 = .ok (.getfield 35, 3) := by decide +kernel
theorem dX8_settles_190 : decode cX8_settles 190 = .ok (.iconst 1, 1) := by decide +kernel
theorem dX8_settles_191 : decode cX8_settles 191 = .ok (.iconst 0, 1) := by decide +kernel
theorem dX8_settles_192 : decode cX8_settles 192 = .ok (.bastore, 1) := by decide +kernel
theorem dX8_settles_193 : decode cX8_settles 193 = .ok (.aload_n 0, 1) := by decide +kernel
theorem dX8_settles_194 : decode cX8_settles 194 = .ok (.iconst 0, 1) := by decide +kernel
theorem dX8_settles_195 : decode cX8_settles 195 = .ok (.putfield 79, 3) := by decide +kernel
theorem dX8_settles_198 : decode cX8_settles 198 = .ok (.return_, 1) := by decide +kernel
theorem dX8_isStopped_0 : decode cX8_isStopped 0 = .ok (.aload_n 0, 1) := by decide +kernel
theorem dX8_isStopped_1 : decode cX8_isStopped 1 = .ok (.getfield 29, 3) := by decide +kernel
theorem dX8_isStopped_4 : decode cX8_isStopped 4 = .ok (.bipush 25, 2) := by decide +kernel
theorem dX8_isStopped_6 : decode cX8_isStopped 6 = .ok (.iaload, 1) := by decide +kernel
theorem dX8_isStopped_7 : decode cX8_isStopped 7 = .ok (.iload_n 1, 1) := by decide +kernel
theorem dX8_isStopped_8 : decode cX8_isStopped 8 = .ok (.invokestatic 159, 3) := by decide +kernel
theorem dX8_isStopped_11 : decode cX8_isStopped 11 = .ok (.ireturn, 1) := by decide +kernel
theorem dX8_toCome_0 : decode cX8_toCome 0 = .ok (.iconst 0, 1) := by decide +kernel
theorem dX8_toCome_1 : decode cX8_toCome 1 = .ok (.istore_n 1, 1) := by decide +kernel
theorem dX8_toCome_2 : decode cX8_toCome 2 = .ok (.iconst 0, 1) := by decide +kernel
theorem dX8_toCome_3 : decode cX8_toCome 3 = .ok (.istore_n 2, 1) := by decide +kernel
theorem dX8_toCome_4 : decode cX8_toCome 4 = .ok (.iload_n 2, 1) := by decide +kernel
theorem dX8_toCome_5 : decode cX8_toCome 5 = .ok (.aload_n 0, 1) := by decide +kernel
theorem dX8_toCome_6 : decode cX8_toCome 6 = .ok (.getfield 73, 3) := by decide +kernel
theorem dX8_toCome_9 : decode cX8_toCome 9 = .ok (.if_icmp .ge 45, 3) := by decide +kernel
theorem dX8_toCome_12 : decode cX8_toCome 12 = .ok (.iload_n 1, 1) := by decide +kernel
theorem dX8_toCome_13 : decode cX8_toCome 13 = .ok (.aload_n 0, 1) := by decide +kernel
theorem dX8_toCome_14 : decode cX8_toCome 14 = .ok (.iload_n 2, 1) := by decide +kernel
theorem dX8_toCome_15 : decode cX8_toCome 15 = .ok (.invokevirtual 163, 3) := by decide +kernel
theorem dX8_toCome_18 : decode cX8_toCome 18 = .ok (.ifCond .ne 27, 3) := by decide +kernel
theorem dX8_toCome_21 : decode cX8_toCome 21 = .ok (.aload_n 0, 1) := by decide +kernel
theorem dX8_toCome_22 : decode cX8_toCome 22 = .ok (.getfield 29, 3) := by decide +kernel
theorem dX8_toCome_25 : decode cX8_toCome 25 = .ok (.bipush 9, 2) := by decide +kernel
theorem dX8_toCome_27 : decode cX8_toCome 27 = .ok (.iload_n 2, 1) := by decide +kernel
theorem dX8_toCome_28 : decode cX8_toCome 28 = .ok (.iadd, 1) := by decide +kernel
theorem dX8_toCome_29 : decode cX8_toCome 29 = .ok (.iaload, 1) := by decide +kernel
theorem dX8_toCome_30 : decode cX8_toCome 30 = .ok (.aload_n 0, 1) := by decide +kernel
theorem dX8_toCome_31 : decode cX8_toCome 31 = .ok (.getfield 29, 3) := by decide +kernel
theorem dX8_toCome_34 : decode cX8_toCome 34 = .ok (.iconst 0, 1) := by decide +kernel
theorem dX8_toCome_35 : decode cX8_toCome 35 = .ok (.iaload, 1) := by decide +kernel
theorem dX8_toCome_36 : decode cX8_toCome 36 = .ok (.if_icmp .lt 9, 3) := by decide +kernel
theorem dX8_toCome_39 : decode cX8_toCome 39 = .ok (.iconst 1, 1) := by decide +kernel
theorem dX8_toCome_40 : decode cX8_toCome 40 = .ok (.iload_n 2, 1) := by decide +kernel
theorem dX8_toCome_41 : decode cX8_toCome 41 = .ok (.ishl, 1) := by decide +kernel
theorem dX8_toCome_42 : decode cX8_toCome 42 = .ok (.goto 4, 3) := by decide +kernel
theorem dX8_toCome_45 : decode cX8_toCome 45 = .ok (.iconst 0, 1) := by decide +kernel
theorem dX8_toCome_46 : decode cX8_toCome 46 = .ok (.ior, 1) := by decide +kernel
theorem dX8_toCome_47 : decode cX8_toCome 47 = .ok (.istore_n 1, 1) := by decide +kernel
theorem dX8_toCome_48 : decode cX8_toCome 48 = .ok (.iinc 2 1, 3) := by decide +kernel
theorem dX8_toCome_51 : decode cX8_toCome 51 = .ok (.goto (-47), 3) := by decide +kernel
theorem dX8_toCome_54 : decode cX8_toCome 54 = .ok (.iload_n 1, 1) := by decide +kernel
theorem dX8_toCome_55 : decode cX8_toCome 55 = .ok (.ireturn, 1) := by decide +kernel
theorem dX8_tries_0 : decode cX8_tries 0 = .ok (.iconst 0, 1) := by decide +kernel
theorem dX8_tries_1 : decode cX8_tries 1 = .ok (.istore 4, 2) := by decide +kernel
theorem dX8_tries_3 : decode cX8_tries 3 = .ok (.iload 4, 2) := by decide +kernel
theorem dX8_tries_5 : decode cX8_tries 5 = .ok (.bipush 6, 2) := by decide +kernel
theorem dX8_tries_7 : decode cX8_tries 7 = .ok (.if_icmp .ge 25, 3) := by decide +kernel
theorem dX8_tries_10 : decode cX8_tries 10 = .ok (.aload_n 0, 1) := by decide +kernel
theorem dX8_tries_11 : decode cX8_tries 11 = .ok (.getfield 63, 3) := by decide +kernel
theorem dX8_tries_14 : decode cX8_tries 14 = .ok (.iload 4, 2) := by decide +kernel
theorem dX8_tries_16 : decode cX8_tries 16 = .ok (.aload_n 0, 1) := by decide +kernel
theorem dX8_tries_17 : decode cX8_tries 17 = .ok (.getfield 29, 3) := by decide +kernel
theorem dX8_tries_20 : decode cX8_tries 20 = .ok (.iconst 3, 1) := by decide +kernel
theorem dX8_tries_21 : decode cX8_tries 21 = .ok (.iload 4, 2) := by decide +kernel
theorem dX8_tries_23 : decode cX8_tries 23 = .ok (.iadd, 1) := by decide +kernel
theorem dX8_tries_24 : decode cX8_tries 24 = .ok (.iaload, 1) := by decide +kernel
theorem dX8_tries_25 : decode cX8_tries 25 = .ok (.iastore, 1) := by decide +kernel
theorem dX8_tries_26 : decode cX8_tries 26 = .ok (.iinc 4 1, 3) := by decide +kernel
theorem dX8_tries_29 : decode cX8_tries 29 = .ok (.goto (-26), 3) := by decide +kernel
theorem dX8_tries_32 : decode cX8_tries 32 = .ok (.iconst 0, 1) := by decide +kernel
theorem dX8_tries_33 : decode cX8_tries 33 = .ok (.istore 4, 2) := by decide +kernel
theorem dX8_tries_35 : decode cX8_tries 35 = .ok (.iload 4, 2) := by decide +kernel
theorem dX8_tries_37 : decode cX8_tries 37 = .ok (.aload_n 0, 1) := by decide +kernel
theorem dX8_tries_38 : decode cX8_tries 38 = .ok (.getfield 73, 3) := by decide +kernel
theorem dX8_tries_41 : decode cX8_tries 41 = .ok (.if_icmp .ge 64, 3) := by decide +kernel
theorem dX8_tries_44 : decode cX8_tries 44 = .ok (.iload_n 2, 1) := by decide +kernel
theorem dX8_tries_45 : decode cX8_tries 45 = .ok (.iload 4, 2) := by decide +kernel
theorem dX8_tries_47 : decode cX8_tries 47 = .ok (.invokestatic 159, 3) := by decide +kernel
theorem dX8_tries_50 : decode cX8_tries 50 = .ok (.ifCond .eq 7, 3) := by decide +kernel
theorem dX8_tries_53 : decode cX8_tries 53 = .ok (.iload_n 3, 1) := by decide +kernel
theorem dX8_tries_54 : decode cX8_tries 54 = .ok (.goto 13, 3) := by decide +kernel
theorem dX8_tries_57 : decode cX8_tries 57 = .ok (.aload_n 0, 1) := by decide +kernel
theorem dX8_tries_58 : decode cX8_tries 58 = .ok (.getfield 29, 3) := by decide +kernel
theorem dX8_tries_61 : decode cX8_tries 61 = .ok (.bipush 17, 2) := by decide +kernel
theorem dX8_tries_63 : decode cX8_tries 63 = .ok (.iload 4, 2) := by decide +kernel
theorem dX8_tries_65 : decode cX8_tries 65 = .ok (.iadd, 1) := by decide +kernel
theorem dX8_tries_66 : decode cX8_tries 66 = .ok (.iaload, 1) := by decide +kernel
theorem dX8_tries_67 : decode cX8_tries 67 = .ok (.istore 5, 2) := by decide +kernel
theorem dX8_tries_69 : decode cX8_tries 69 = .ok (.aload_n 0, 1) := by decide +kernel
theorem dX8_tries_70 : decode cX8_tries 70 = .ok (.getfield 63, 3) := by decide +kernel
theorem dX8_tries_73 : decode cX8_tries 73 = .ok (.iload 5, 2) := by decide +kernel
theorem dX8_tries_75 : decode cX8_tries 75 = .ok (.dup2, 1) := by decide +kernel
theorem dX8_tries_76 : decode cX8_tries 76 = .ok (.iaload, 1) := by decide +kernel
theorem dX8_tries_77 : decode cX8_tries 77 = .ok (.iload_n 1, 1) := by decide +kernel
theorem dX8_tries_78 : decode cX8_tries 78 = .ok (.iload 4, 2) := by decide +kernel
theorem dX8_tries_80 : decode cX8_tries 80 = .ok (.invokestatic 159, 3) := by decide +kernel
theorem dX8_tries_83 : decode cX8_tries 83 = .ok (.ifCond .eq 13, 3) := by decide +kernel
theorem dX8_tries_86 : decode cX8_tries 86 = .ok (.aload_n 0, 1) := by decide +kernel
theorem dX8_tries_87 : decode cX8_tries 87 = .ok (.getfield 16, 3) := by decide +kernel
theorem dX8_tries_90 : decode cX8_tries 90 = .ok (.iload 4, 2) := by decide +kernel
theorem dX8_tries_92 : decode cX8_tries 92 = .ok (.iaload, 1) := by decide +kernel
theorem dX8_tries_93 : decode cX8_tries 93 = .ok (.goto 4, 3) := by decide +kernel
theorem dX8_tries_96 : decode cX8_tries 96 = .ok (.iconst 0, 1) := by decide +kernel
theorem dX8_tries_97 : decode cX8_tries 97 = .ok (.iadd, 1) := by decide +kernel
theorem dX8_tries_98 : decode cX8_tries 98 = .ok (.iastore, 1) := by decide +kernel
theorem dX8_tries_99 : decode cX8_tries 99 = .ok (.iinc 4 1, 3) := by decide +kernel
theorem dX8_tries_102 : decode cX8_tries 102 = .ok (.goto (-67), 3) := by decide +kernel
theorem dX8_tries_105 : decode cX8_tries 105 = .ok (.return_, 1) := by decide +kernel
theorem dX8_whoIsLeft_0 : decode cX8_whoIsLeft 0 = .ok (.iconst 0, 1) := by decide +kernel
theorem dX8_whoIsLeft_1 : decode cX8_whoIsLeft 1 = .ok (.istore_n 2, 1) := by decide +kernel
theorem dX8_whoIsLeft_2 : decode cX8_whoIsLeft 2 = .ok (.iconst 0, 1) := by decide +kernel
theorem dX8_whoIsLeft_3 : decode cX8_whoIsLeft 3 = .ok (.istore_n 3, 1) := by decide +kernel
theorem dX8_whoIsLeft_4 : decode cX8_whoIsLeft 4 = .ok (.iload_n 3, 1) := by decide +kernel
theorem dX8_whoIsLeft_5 : decode cX8_whoIsLeft 5 = .ok (.iload_n 1, 1) := by decide +kernel
theorem dX8_whoIsLeft_6 : decode cX8_whoIsLeft 6 = .ok (.if_icmp .ge 90, 3) := by decide +kernel
theorem dX8_whoIsLeft_9 : decode cX8_whoIsLeft 9 = .ok (.bipush (-9), 2) := by decide +kernel
theorem dX8_whoIsLeft_11 : decode cX8_whoIsLeft 11 = .ok (.istore 4, 2) := by decide +kernel
theorem dX8_whoIsLeft_13 : decode cX8_whoIsLeft 13 = .ok (.iconst 0, 1) := by decide +kernel
theorem dX8_whoIsLeft_14 : decode cX8_whoIsLeft 14 = .ok (.istore 5, 2) := by decide +kernel
theorem dX8_whoIsLeft_16 : decode cX8_whoIsLeft 16 = .ok (.iload 5, 2) := by decide +kernel
theorem dX8_whoIsLeft_18 : decode cX8_whoIsLeft 18 = .ok (.aload_n 0, 1) := by decide +kernel
theorem dX8_whoIsLeft_19 : decode cX8_whoIsLeft 19 = .ok (.getfield 7, 3) := by decide +kernel
theorem dX8_whoIsLeft_22 : decode cX8_whoIsLeft 22 = .ok (.if_icmp .ge 61, 3) := by decide +kernel
theorem dX8_whoIsLeft_25 : decode cX8_whoIsLeft 25 = .ok (.iload_n 2, 1) := by decide +kernel
theorem dX8_whoIsLeft_26 : decode cX8_whoIsLeft 26 = .ok (.iload 5, 2) := by decide +kernel
theorem dX8_whoIsLeft_28 : decode cX8_whoIsLeft 28 = .ok (.invokestatic 159, 3) := by decide +kernel
theorem dX8_whoIsLeft_31 : decode cX8_whoIsLeft 31 = .ok (.ifCond .ne 29, 3) := by decide +kernel
theorem dX8_whoIsLeft_34 : decode cX8_whoIsLeft 34 = .ok (.iload 4, 2) := by decide +kernel
theorem dX8_whoIsLeft_36 : decode cX8_whoIsLeft 36 = .ok (.ifCond .lt 20, 3) := by decide +kernel
theorem dX8_whoIsLeft_39 : decode cX8_whoIsLeft 39 = .ok (.aload_n 0, 1) := by decide +kernel
theorem dX8_whoIsLeft_40 : decode cX8_whoIsLeft 40 = .ok (.getfield 63, 3) := by decide +kernel
theorem dX8_whoIsLeft_43 : decode cX8_whoIsLeft 43 = .ok (.iload 5, 2) := by decide +kernel
theorem dX8_whoIsLeft_45 : decode cX8_whoIsLeft 45 = .ok (.iaload, 1) := by decide +kernel
theorem dX8_whoIsLeft_46 : decode cX8_whoIsLeft 46 = .ok (.aload_n 0, 1) := by decide +kernel
theorem dX8_whoIsLeft_47 : decode cX8_whoIsLeft 47 = .ok (.getfield 63, 3) := by decide +kernel
theorem dX8_whoIsLeft_50 : decode cX8_whoIsLeft 50 = .ok (.iload 4, 2) := by decide +kernel
theorem dX8_whoIsLeft_52 : decode cX8_whoIsLeft 52 = .ok (.iaload, 1) := by decide +kernel
theorem dX8_whoIsLeft_53 : decode cX8_whoIsLeft 53 = .ok (.if_icmp .le 7, 3) := by decide +kernel
theorem dX8_whoIsLeft_56 : decode cX8_whoIsLeft 56 = .ok (.iconst 1, 1) := by decide +kernel
theorem dX8_whoIsLeft_57 : decode cX8_whoIsLeft 57 = .ok (.goto 4, 3) := by decide +kernel
theorem dX8_whoIsLeft_60 : decode cX8_whoIsLeft 60 = .ok (.iconst 0, 1) := by decide +kernel
theorem dX8_whoIsLeft_61 : decode cX8_whoIsLeft 61 = .ok (.istore 6, 2) := by decide +kernel
theorem dX8_whoIsLeft_63 : decode cX8_whoIsLeft 63 = .ok (.iload 6, 2) := by decide +kernel
theorem dX8_whoIsLeft_65 : decode cX8_whoIsLeft 65 = .ok (.ifCond .eq 8, 3) := by decide +kernel
theorem dX8_whoIsLeft_68 : decode cX8_whoIsLeft 68 = .ok (.iload 5, 2) := by decide +kernel
theorem dX8_whoIsLeft_70 : decode cX8_whoIsLeft 70 = .ok (.goto 5, 3) := by decide +kernel
theorem dX8_whoIsLeft_73 : decode cX8_whoIsLeft 73 = .ok (.iload 4, 2) := by decide +kernel
theorem dX8_whoIsLeft_75 : decode cX8_whoIsLeft 75 = .ok (.istore 4, 2) := by decide +kernel
theorem dX8_whoIsLeft_77 : decode cX8_whoIsLeft 77 = .ok (.iinc 5 1, 3) := by decide +kernel
theorem dX8_whoIsLeft_80 : decode cX8_whoIsLeft 80 = .ok (.goto (-64), 3) := by decide +kernel
theorem dX8_whoIsLeft_83 : decode cX8_whoIsLeft 83 = .ok (.iload_n 2, 1) := by decide +kernel
theorem dX8_whoIsLeft_84 : decode cX8_whoIsLeft 84 = .ok (.iconst 1, 1) := by decide +kernel
theorem dX8_whoIsLeft_85 : decode cX8_whoIsLeft 85 = .ok (.iload 4, 2) := by decide +kernel
theorem dX8_whoIsLeft_87 : decode cX8_whoIsLeft 87 = .ok (.ishl, 1) := by decide +kernel
theorem dX8_whoIsLeft_88 : decode cX8_whoIsLeft 88 = .ok (.ior, 1) := by decide +kernel
theorem dX8_whoIsLeft_89 : decode cX8_whoIsLeft 89 = .ok (.istore_n 2, 1) := by decide +kernel
theorem dX8_whoIsLeft_90 : decode cX8_whoIsLeft 90 = .ok (.iinc 3 1, 3) := by decide +kernel
theorem dX8_whoIsLeft_93 : decode cX8_whoIsLeft 93 = .ok (.goto (-89), 3) := by decide +kernel
theorem dX8_whoIsLeft_96 : decode cX8_whoIsLeft 96 = .ok (.iload_n 2, 1) := by decide +kernel
theorem dX8_whoIsLeft_97 : decode cX8_whoIsLeft 97 = .ok (.ireturn, 1) := by decide +kernel
theorem dX8_lowestOf_0 : decode cX8_lowestOf 0 = .ok (.iconst 0, 1) := by decide +kernel
theorem dX8_lowestOf_1 : decode cX8_lowestOf 1 = .ok (.istore_n 2, 1) := by decide +kernel
theorem dX8_lowestOf_2 : decode cX8_lowestOf 2 = .ok (.iload_n 1, 1) := by decide +kernel
theorem dX8_lowestOf_3 : decode cX8_lowestOf 3 = .ok (.iload_n 2, 1) := by decide +kernel
theorem dX8_lowestOf_4 : decode cX8_lowestOf 4 = .ok (.invokestatic 159, 3) := by decide +kernel
theorem dX8_lowestOf_7 : decode cX8_lowestOf 7 = .ok (.ifCond .ne 9, 3) := by decide +kernel
theorem dX8_lowestOf_10 : decode cX8_lowestOf 10 = .ok (.iinc 2 1, 3) := by decide +kernel
theorem dX8_lowestOf_13 : decode cX8_lowestOf 13 = .ok (.goto (-11), 3) := by decide +kernel
theorem dX8_lowestOf_16 : decode cX8_lowestOf 16 = .ok (.iload_n 2, 1) := by decide +kernel
theorem dX8_lowestOf_17 : decode cX8_lowestOf 17 = .ok (.ireturn, 1) := by decide +kernel
theorem dX8_winnerOf_0 : decode cX8_winnerOf 0 = .ok (.iconst 0, 1) := by decide +kernel
theorem dX8_winnerOf_1 : decode cX8_winnerOf 1 = .ok (.istore_n 2, 1) := by decide +kernel
theorem dX8_winnerOf_2 : decode cX8_winnerOf 2 = .ok (.iload_n 2, 1) := by decide +kernel
theorem dX8_winnerOf_3 : decode cX8_winnerOf 3 = .ok (.bipush 6, 2) := by decide +kernel
theorem dX8_winnerOf_5 : decode cX8_winnerOf 5 = .ok (.if_icmp .ge 16, 3) := by decide +kernel
theorem dX8_winnerOf_8 : decode cX8_winnerOf 8 = .ok (.aload_n 0, 1) := by decide +kernel
theorem dX8_winnerOf_9 : decode cX8_winnerOf 9 = .ok (.getfield 66, 3) := by decide +kernel
theorem dX8_winnerOf_12 : decode cX8_winnerOf 12 = .ok (.iload_n 2, 1) := by decide +kernel
theorem dX8_winnerOf_13 : decode cX8_winnerOf 13 = .ok (.iconst 0, 1) := by decide +kernel
theorem dX8_winnerOf_14 : decode cX8_winnerOf 14 = .ok (.iastore, 1) := by decide +kernel
theorem dX8_winnerOf_15 : decode cX8_winnerOf 15 = .ok (.iinc 2 1, 3) := by decide +kernel
theorem dX8_winnerOf_18 : decode cX8_winnerOf 18 = .ok (.goto (-16), 3) := by decide +kernel
theorem dX8_winnerOf_21 : decode cX8_winnerOf 21 = .ok (.iconst 0, 1) := by decide +kernel
theorem dX8_winnerOf_22 : decode cX8_winnerOf 22 = .ok (.istore_n 2, 1) := by decide +kernel
theorem dX8_winnerOf_23 : decode cX8_winnerOf 23 = .ok (.iload_n 2, 1) := by decide +kernel
theorem dX8_winnerOf_24 : decode cX8_winnerOf 24 = .ok (.aload_n 0, 1) := by decide +kernel
theorem dX8_winnerOf_25 : decode cX8_winnerOf 25 = .ok (.getfield 76, 3) := by decide +kernel
theorem dX8_winnerOf_28 : decode cX8_winnerOf 28 = .ok (.if_icmp .ge 92, 3) := by decide +kernel
theorem dX8_winnerOf_31 : decode cX8_winnerOf 31 = .ok (.iload_n 1, 1) := by decide +kernel
theorem dX8_winnerOf_32 : decode cX8_winnerOf 32 = .ok (.aload_n 0, 1) := by decide +kernel
theorem dX8_winnerOf_33 : decode cX8_winnerOf 33 = .ok (.getfield 23, 3) := by decide +kernel
theorem dX8_winnerOf_36 : decode cX8_winnerOf 36 = .ok (.iload_n 2, 1) := by decide +kernel
theorem dX8_winnerOf_37 : decode cX8_winnerOf 37 = .ok (.iaload, 1) := by decide +kernel
theorem dX8_winnerOf_38 : decode cX8_winnerOf 38 = .ok (.invokestatic 159, 3) := by decide +kernel
theorem dX8_winnerOf_41 : decode cX8_winnerOf 41 = .ok (.ifCond .eq 12, 3) := by decide +kernel
theorem dX8_winnerOf_44 : decode cX8_winnerOf 44 = .ok (.aload_n 0, 1) := by decide +kernel
theorem dX8_winnerOf_45 : decode cX8_winnerOf 45 = .ok (.getfield 23, 3) := by decide +kernel
theorem dX8_winnerOf_48 : decode cX8_winnerOf 48 = .ok (.iload_n 2, 1) := by decide +kernel
theorem dX8_winnerOf_49 : decode cX8_winnerOf 49 = .ok (.iaload, 1) := by decide +kernel
theorem dX8_winnerOf_50 : decode cX8_winnerOf 50 = .ok (.goto 30, 3) := by decide +kernel
theorem dX8_winnerOf_53 : decode cX8_winnerOf 53 = .ok (.iload_n 1, 1) := by decide +kernel
theorem dX8_winnerOf_54 : decode cX8_winnerOf 54 = .ok (.aload_n 0, 1) := by decide +kernel
theorem dX8_winnerOf_55 : decode cX8_winnerOf 55 = .ok (.getfield 26, 3) := by decide +kernel
theorem dX8_winnerOf_58 : decode cX8_winnerOf 58 = .ok (.iload_n 2, 1) := by decide +kernel
theorem dX8_winnerOf_59 : decode cX8_winnerOf 59 = .ok (.iaload, 1) := by decide +kernel
theorem dX8_winnerOf_60 : decode cX8_winnerOf 60 = .ok (.invokestatic 159, 3) := by decide +kernel
theorem dX8_winnerOf_63 : decode cX8_winnerOf 63 = .ok (.ifCond .eq 12, 3) := by decide +kernel
theorem dX8_winnerOf_66 : decode cX8_winnerOf 66 = .ok (.aload_n 0, 1) := by decide +kernel
theorem dX8_winnerOf_67 : decode cX8_winnerOf 67 = .ok (.getfield 26, 3) := by decide +kernel
theorem dX8_winnerOf_70 : decode cX8_winnerOf 70 = .ok (.iload_n 2, 1) := by decide +kernel
theorem dX8_winnerOf_71 : decode cX8_winnerOf 71 = .ok (.iaload, 1) := by decide +kernel
theorem dX8_winnerOf_72 : decode cX8_winnerOf 72 = .ok (.goto 8, 3) := by decide +kernel
theorem dX8_winnerOf_75 : decode cX8_winnerOf 75 = .ok (.aload_n 0, 1) := by decide +kernel
theorem dX8_winnerOf_76 : decode cX8_winnerOf 76 = .ok (.iload_n 1, 1) := by decide +kernel
theorem dX8_winnerOf_77 : decode cX8_winnerOf 77 = .ok (.invokevirtual 166, 3) := by decide +kernel
theorem dX8_winnerOf_80 : decode cX8_winnerOf 80 = .ok (.istore_n 3, 1) := by decide +kernel
theorem dX8_winnerOf_81 : decode cX8_winnerOf 81 = .ok (.aload_n 0, 1) := by decide +kernel
theorem dX8_winnerOf_82 : decode cX8_winnerOf 82 = .ok (.getfield 66, 3) := by decide +kernel
theorem dX8_winnerOf_85 : decode cX8_winnerOf 85 = .ok (.iload_n 3, 1) := by decide +kernel
theorem dX8_winnerOf_86 : decode cX8_winnerOf 86 = .ok (.dup2, 1) := by decide +kernel
theorem dX8_winnerOf_87 : decode cX8_winnerOf 87 = .ok (.iaload, 1) := by decide +kernel
theorem dX8_winnerOf_88 : decode cX8_winnerOf 88 = .ok (.aload_n 0, 1) := by decide +kernel
theorem dX8_winnerOf_89 : decode cX8_winnerOf 89 = .ok (.getfield 29, 3) := by decide +kernel
theorem dX8_winnerOf_92 : decode cX8_winnerOf 92 = .ok (.bipush 26, 2) := by decide +kernel
theorem dX8_winnerOf_94 : decode cX8_winnerOf 94 = .ok (.iaload, 1) := by decide +kernel
theorem dX8_winnerOf_95 : decode cX8_winnerOf 95 = .ok (.iload_n 2, 1) := by decide +kernel
theorem dX8_winnerOf_96 : decode cX8_winnerOf 96 = .ok (.invokestatic 159, 3) := by decide +kernel
theorem dX8_winnerOf_99 : decode cX8_winnerOf 99 = .ok (.ifCond .eq 7, 3) := by decide +kernel
theorem dX8_winnerOf_102 : decode cX8_winnerOf 102 = .ok (.iconst 0, 1) := by decide +kernel
theorem dX8_winnerOf_103 : decode cX8_winnerOf 103 = .ok (.goto 9, 3) := by decide +kernel
theorem dX8_winnerOf_106 : decode cX8_winnerOf 106 = .ok (.aload_n 0, 1) := by decide +kernel
theorem dX8_winnerOf_107 : decode cX8_winnerOf 107 = .ok (.getfield 20, 3) := by decide +kernel
theorem dX8_winnerOf_110 : decode cX8_winnerOf 110 = .ok (.iload_n 2, 1) := by decide +kernel
theorem dX8_winnerOf_111 : decode cX8_winnerOf 111 = .ok (.iaload, 1) := by decide +kernel
theorem dX8_winnerOf_112 : decode cX8_winnerOf 112 = .ok (.iadd, 1) := by decide +kernel
theorem dX8_winnerOf_113 : decode cX8_winnerOf 113 = .ok (.iastore, 1) := by decide +kernel
theorem dX8_winnerOf_114 : decode cX8_winnerOf 114 = .ok (.iinc 2 1, 3) := by decide +kernel
theorem dX8_winnerOf_117 : decode cX8_winnerOf 117 = .ok (.goto (-94), 3) := by decide +kernel
theorem dX8_winnerOf_120 : decode cX8_winnerOf 120 = .ok (.aload_n 0, 1) := by decide +kernel
theorem dX8_winnerOf_121 : decode cX8_winnerOf 121 = .ok (.iload_n 1, 1) := by decide +kernel
theorem dX8_winnerOf_122 : decode cX8_winnerOf 122 = .ok (.invokevirtual 166, 3) := by decide +kernel
theorem dX8_winnerOf_125 : decode cX8_winnerOf 125 = .ok (.istore_n 2, 1) := by decide +kernel
theorem dX8_winnerOf_126 : decode cX8_winnerOf 126 = .ok (.iconst 0, 1) := by decide +kernel
theorem dX8_winnerOf_127 : decode cX8_winnerOf 127 = .ok (.istore_n 3, 1) := by decide +kernel
theorem dX8_winnerOf_128 : decode cX8_winnerOf 128 = .ok (.iload_n 3, 1) := by decide +kernel
theorem dX8_winnerOf_129 : decode cX8_winnerOf 129 = .ok (.aload_n 0, 1) := by decide +kernel
theorem dX8_winnerOf_130 : decode cX8_winnerOf 130 = .ok (.getfield 7, 3) := by decide +kernel
theorem dX8_winnerOf_133 : decode cX8_winnerOf 133 = .ok (.if_icmp .ge 38, 3) := by decide +kernel
theorem dX8_winnerOf_136 : decode cX8_winnerOf 136 = .ok (.iload_n 1, 1) := by decide +kernel
theorem dX8_winnerOf_137 : decode cX8_winnerOf 137 = .ok (.iload_n 3, 1) := by decide +kernel
theorem dX8_winnerOf_138 : decode cX8_winnerOf 138 = .ok (.invokestatic 159, 3) := by decide +kernel
theorem dX8_winnerOf_141 : decode cX8_winnerOf 141 = .ok (.ifCond .eq 22, 3) := by decide +kernel
theorem dX8_winnerOf_144 : decode cX8_winnerOf 144 = .ok (.aload_n 0, 1) := by decide +kernel
theorem dX8_winnerOf_145 : decode cX8_winnerOf 145 = .ok (.getfield 66, 3) := by decide +kernel
theorem dX8_winnerOf_148 : decode cX8_winnerOf 148 = .ok (.iload_n 3, 1) := by decide +kernel
theorem dX8_winnerOf_149 : decode cX8_winnerOf 149 = .ok (.iaload, 1) := by decide +kernel
theorem dX8_winnerOf_150 : decode cX8_winnerOf 150 = .ok (.aload_n 0, 1) := by decide +kernel
theorem dX8_winnerOf_151 : decode cX8_winnerOf 151 = .ok (.getfield 66, 3) := by decide +kernel
theorem dX8_winnerOf_154 : decode cX8_winnerOf 154 = .ok (.iload_n 2, 1) := by decide +kernel
theorem dX8_winnerOf_155 : decode cX8_winnerOf 155 = .ok (.iaload, 1) := by decide +kernel
theorem dX8_winnerOf_156 : decode cX8_winnerOf 156 = .ok (.if_icmp .le 7, 3) := by decide +kernel
theorem dX8_winnerOf_159 : decode cX8_winnerOf 159 = .ok (.iload_n 3, 1) := by decide +kernel
theorem dX8_winnerOf_160 : decode cX8_winnerOf 160 = .ok (.goto 4, 3) := by decide +kernel
theorem dX8_winnerOf_163 : decode cX8_winnerOf 163 = .ok (.iload_n 2, 1) := by decide +kernel
theorem dX8_winnerOf_164 : decode cX8_winnerOf 164 = .ok (.istore_n 2, 1) := by decide +kernel
theorem dX8_winnerOf_165 : decode cX8_winnerOf 165 = .ok (.iinc 3 1, 3) := by decide +kernel
theorem dX8_winnerOf_168 : decode cX8_winnerOf 168 = .ok (.goto (-40), 3) := by decide +kernel
theorem dX8_winnerOf_171 : decode cX8_winnerOf 171 = .ok (.iload_n 2, 1) := by decide +kernel
theorem dX8_winnerOf_172 : decode cX8_winnerOf 172 = .ok (.ireturn, 1) := by decide +kernel
theorem dX8_winnerBy_0 : decode cX8_winnerBy 0 = .ok (.aload_n 0, 1) := by decide +kernel
theorem dX8_winnerBy_1 : decode cX8_winnerBy 1 = .ok (.iload_n 1, 1) := by decide +kernel
theorem dX8_winnerBy_2 : decode cX8_winnerBy 2 = .ok (.iconst 0, 1) := by decide +kernel
theorem dX8_winnerBy_3 : decode cX8_winnerBy 3 = .ok (.iconst 0, 1) := by decide +kernel
theorem dX8_winnerBy_4 : decode cX8_winnerBy 4 = .ok (.invokevirtual 169, 3) := by decide +kernel
theorem dX8_winnerBy_7 : decode cX8_winnerBy 7 = .ok (.aload_n 0, 1) := by decide +kernel
theorem dX8_winnerBy_8 : decode cX8_winnerBy 8 = .ok (.aload_n 0, 1) := by decide +kernel
theorem dX8_winnerBy_9 : decode cX8_winnerBy 9 = .ok (.aload_n 0, 1) := by decide +kernel
theorem dX8_winnerBy_10 : decode cX8_winnerBy 10 = .ok (.getfield 13, 3) := by decide +kernel
theorem dX8_winnerBy_13 : decode cX8_winnerBy 13 = .ok (.invokevirtual 173, 3) := by decide +kernel
theorem dX8_winnerBy_16 : decode cX8_winnerBy 16 = .ok (.invokevirtual 176, 3) := by decide +kernel
theorem dX8_winnerBy_19 : decode cX8_winnerBy 19 = .ok (.ireturn, 1) := by decide +kernel
theorem dX8_train_0 : decode cX8_train 0 = .ok (.aload_n 0, 1) := by decide +kernel
theorem dX8_train_1 : decode cX8_train 1 = .ok (.iload_n 1, 1) := by decide +kernel
theorem dX8_train_2 : decode cX8_train 2 = .ok (.invokevirtual 179, 3) := by decide +kernel
theorem dX8_train_5 : decode cX8_train 5 = .ok (.ifCond .ne 5, 3) := by decide +kernel
theorem dX8_train_8 : decode cX8_train 8 = .ok (.iconst (-1), 1) := by decide +kernel
theorem dX8_train_9 : decode cX8_train 9 = .ok (.ireturn, 1) := by decide +kernel
theorem dX8_train_10 : decode cX8_train 10 = .ok (.iload_n 2, 1) := by decide +kernel
theorem dX8_train_11 : decode cX8_train 11 = .ok (.tableswitch 70 0 3 #[29, 39, 46, 56], 29) := by decide +kernel
theorem dX8_train_40 : decode cX8_train 40 = .ok (.aload_n 0, 1) := by decide +kernel
theorem dX8_train_41 : decode cX8_train 41 = .ok (.getfield 29, 3) := by decide +kernel
theorem dX8_train_44 : decode cX8_train 44 = .ok (.bipush 9, 2) := by decide +kernel
theorem dX8_train_46 : decode cX8_train 46 = .ok (.iload_n 1, 1) := by decide +kernel
theorem dX8_train_47 : decode cX8_train 47 = .ok (.iadd, 1) := by decide +kernel
theorem dX8_train_48 : decode cX8_train 48 = .ok (.iaload, 1) := by decide +kernel
theorem dX8_train_49 : decode cX8_train 49 = .ok (.ireturn, 1) := by decide +kernel
theorem dX8_train_50 : decode cX8_train 50 = .ok (.aload_n 0, 1) := by decide +kernel
theorem dX8_train_51 : decode cX8_train 51 = .ok (.getfield 16, 3) := by decide +kernel
theorem dX8_train_54 : decode cX8_train 54 = .ok (.iload_n 1, 1) := by decide +kernel
theorem dX8_train_55 : decode cX8_train 55 = .ok (.iaload, 1) := by decide +kernel
theorem dX8_train_56 : decode cX8_train 56 = .ok (.ireturn, 1) := by decide +kernel
theorem dX8_train_57 : decode cX8_train 57 = .ok (.aload_n 0, 1) := by decide +kernel
theorem dX8_train_58 : decode cX8_train 58 = .ok (.getfield 29, 3) := by decide +kernel
theorem dX8_train_61 : decode cX8_train 61 = .ok (.bipush 17, 2) := by decide +kernel
theorem dX8_train_63 : decode cX8_train 63 = .ok (.iload_n 1, 1) := by decide +kernel
theorem dX8_train_64 : decode cX8_train 64 = .ok (.iadd, 1) := by decide +kernel
theorem dX8_train_65 : decode cX8_train 65 = .ok (.iaload, 1) := by decide +kernel
theorem dX8_train_66 : decode cX8_train 66 = .ok (.ireturn, 1) := by decide +kernel
theorem dX8_train_67 : decode cX8_train 67 = .ok (.aload_n 0, 1) := by decide +kernel
theorem dX8_train_68 : decode cX8_train 68 = .ok (.iload_n 1, 1) := by decide +kernel
theorem dX8_train_69 : decode cX8_train 69 = .ok (.invokevirtual 163, 3) := by decide +kernel
theorem dX8_train_72 : decode cX8_train 72 = .ok (.ifCond .eq 7, 3) := by decide +kernel
theorem dX8_train_75 : decode cX8_train 75 = .ok (.iconst 1, 1) := by decide +kernel
theorem dX8_train_76 : decode cX8_train 76 = .ok (.goto 4, 3) := by decide +kernel
theorem dX8_train_79 : decode cX8_train 79 = .ok (.iconst 0, 1) := by decide +kernel
theorem dX8_train_80 : decode cX8_train 80 = .ok (.ireturn, 1) := by decide +kernel
theorem dX8_train_81 : decode cX8_train 81 = .ok (.iconst (-1), 1) := by decide +kernel
theorem dX8_train_82 : decode cX8_train 82 = .ok (.ireturn, 1) := by decide +kernel
theorem dX8_group_0 : decode cX8_group 0 = .ok (.aload_n 0, 1) := by decide +kernel
theorem dX8_group_1 : decode cX8_group 1 = .ok (.iload_n 1, 1) := by decide +kernel
theorem dX8_group_2 : decode cX8_group 2 = .ok (.invokevirtual 182, 3) := by decide +kernel
theorem dX8_group_5 : decode cX8_group 5 = .ok (.ifCond .ne 5, 3) := by decide +kernel
theorem dX8_group_8 : decode cX8_group 8 = .ok (.iconst (-1), 1) := by decide +kernel
theorem dX8_group_9 : decode cX8_group 9 = .ok (.ireturn, 1) := by decide +kernel
theorem dX8_group_10 : decode cX8_group 10 = .ok (.iload_n 2, 1) := by decide +kernel
theorem dX8_group_11 : decode cX8_group 11 = .ok (.tableswitch 70 0 3 #[29, 36, 43, 50], 29) := by decide +kernel
theorem dX8_group_40 : decode cX8_group 40 = .ok (.aload_n 0, 1) := by decide +kernel
theorem dX8_group_41 : decode cX8_group 41 = .ok (.getfield 20, 3) := by decide +kernel
theorem dX8_group_44 : decode cX8_group 44 = .ok (.iload_n 1, 1) := by decide +kernel
theorem dX8_group_45 : decode cX8_group 45 = .ok (.iaload, 1) := by decide +kernel
theorem dX8_group_46 : decode cX8_group 46 = .ok (.ireturn, 1) := by decide +kernel
theorem dX8_group_47 : decode cX8_group 47 = .ok (.aload_n 0, 1) := by decide +kernel
theorem dX8_group_48 : decode cX8_group 48 = .ok (.getfield 23, 3) := by decide +kernel
theorem dX8_group_51 : decode cX8_group 51 = .ok (.iload_n 1, 1) := by decide +kernel
theorem dX8_group_52 : decode cX8_group 52 = .ok (.iaload, 1) := by decide +kernel
theorem dX8_group_53 : decode cX8_group 53 = .ok (.ireturn, 1) := by decide +kernel
theorem dX8_group_54 : decode cX8_group 54 = .ok (.aload_n 0, 1) := by decide +kernel
theorem dX8_group_55 : decode cX8_group 55 = .ok (.getfield 26, 3) := by decide +kernel
theorem dX8_group_58 : decode cX8_group 58 = .ok (.iload_n 1, 1) := by decide +kernel
theorem dX8_group_59 : decode cX8_group 59 = .ok (.iaload, 1) := by decide +kernel
theorem dX8_group_60 : decode cX8_group 60 = .ok (.ireturn, 1) := by decide +kernel
theorem dX8_group_61 : decode cX8_group 61 = .ok (.aload_n 0, 1) := by decide +kernel
theorem dX8_group_62 : decode cX8_group 62 = .ok (.getfield 29, 3) := by decide +kernel
theorem dX8_group_65 : decode cX8_group 65 = .ok (.bipush 26, 2) := by decide +kernel
theorem dX8_group_67 : decode cX8_group 67 = .ok (.iaload, 1) := by decide +kernel
theorem dX8_group_68 : decode cX8_group 68 = .ok (.iload_n 1, 1) := by decide +kernel
theorem dX8_group_69 : decode cX8_group 69 = .ok (.invokestatic 159, 3) := by decide +kernel
theorem dX8_group_72 : decode cX8_group 72 = .ok (.ifCond .eq 7, 3) := by decide +kernel
theorem dX8_group_75 : decode cX8_group 75 = .ok (.iconst 1, 1) := by decide +kernel
theorem dX8_group_76 : decode cX8_group 76 = .ok (.goto 4, 3) := by decide +kernel
theorem dX8_group_79 : decode cX8_group 79 = .ok (.iconst 0, 1) := by decide +kernel
theorem dX8_group_80 : decode cX8_group 80 = .ok (.ireturn, 1) := by decide +kernel
theorem dX8_group_81 : decode cX8_group 81 = .ok (.iconst (-1), 1) := by decide +kernel
theorem dX8_group_82 : decode cX8_group 82 = .ok (.ireturn, 1) := by decide +kernel
theorem dX8_votes_0 : decode cX8_votes 0 = .ok (.aload_n 0, 1) := by decide +kernel
theorem dX8_votes_1 : decode cX8_votes 1 = .ok (.iload_n 1, 1) := by decide +kernel
theorem dX8_votes_2 : decode cX8_votes 2 = .ok (.invokevirtual 185, 3) := by decide +kernel
theorem dX8_votes_5 : decode cX8_votes 5 = .ok (.ifCond .eq 12, 3) := by decide +kernel
theorem dX8_votes_8 : decode cX8_votes 8 = .ok (.iload_n 2, 1) := by decide +kernel
theorem dX8_votes_9 : decode cX8_votes 9 = .ok (.iconst 0, 1) := by decide +kernel
theorem dX8_votes_10 : decode cX8_votes 10 = .ok (.iconst 1, 1) := by decide +kernel
theorem dX8_votes_11 : decode cX8_votes 11 = .ok (.invokestatic 69, 3) := by decide +kernel
theorem dX8_votes_14 : decode cX8_votes 14 = .ok (.ifCond .ne 5, 3) := by decide +kernel
theorem dX8_votes_17 : decode cX8_votes 17 = .ok (.iconst (-1), 1) := by decide +kernel
theorem dX8_votes_18 : decode cX8_votes 18 = .ok (.ireturn, 1) := by decide +kernel
theorem dX8_votes_19 : decode cX8_votes 19 = .ok (.aload_n 0, 1) := by decide +kernel
theorem dX8_votes_20 : decode cX8_votes 20 = .ok (.iload_n 2, 1) := by decide +kernel
theorem dX8_votes_21 : decode cX8_votes 21 = .ok (.ifCond .ne 7, 3) := by decide +kernel
theorem dX8_votes_24 : decode cX8_votes 24 = .ok (.iconst 0, 1) := by decide +kernel
theorem dX8_votes_25 : decode cX8_votes 25 = .ok (.goto 7, 3) := by decide +kernel
theorem dX8_votes_28 : decode cX8_votes 28 = .ok (.aload_n 0, 1) := by decide +kernel
theorem dX8_votes_29 : decode cX8_votes 29 = .ok (.invokevirtual 188, 3) := by decide +kernel
theorem dX8_votes_32 : decode cX8_votes 32 = .ok (.iconst 0, 1) := by decide +kernel
theorem dX8_votes_33 : decode cX8_votes 33 = .ok (.iconst 0, 1) := by decide +kernel
theorem dX8_votes_34 : decode cX8_votes 34 = .ok (.invokevirtual 169, 3) := by decide +kernel
theorem dX8_votes_37 : decode cX8_votes 37 = .ok (.aload_n 0, 1) := by decide +kernel
theorem dX8_votes_38 : decode cX8_votes 38 = .ok (.getfield 63, 3) := by decide +kernel
theorem dX8_votes_41 : decode cX8_votes 41 = .ok (.iload_n 1, 1) := by decide +kernel
theorem dX8_votes_42 : decode cX8_votes 42 = .ok (.iaload, 1) := by decide +kernel
theorem dX8_votes_43 : decode cX8_votes 43 = .ok (.ireturn, 1) := by decide +kernel
theorem dX8_remembers_0 : decode cX8_remembers 0 = .ok (.aload_n 0, 1) := by decide +kernel
theorem dX8_remembers_1 : decode cX8_remembers 1 = .ok (.getfield 29, 3) := by decide +kernel
theorem dX8_remembers_4 : decode cX8_remembers 4 = .ok (.bipush 27, 2) := by decide +kernel
theorem dX8_remembers_6 : decode cX8_remembers 6 = .ok (.iaload, 1) := by decide +kernel
theorem dX8_remembers_7 : decode cX8_remembers 7 = .ok (.bipush 10, 2) := by decide +kernel
theorem dX8_remembers_9 : decode cX8_remembers 9 = .ok (.if_icmp .ne 45, 3) := by decide +kernel
theorem dX8_remembers_12 : decode cX8_remembers 12 = .ok (.bipush 28, 2) := by decide +kernel
theorem dX8_remembers_14 : decode cX8_remembers 14 = .ok (.istore_n 1, 1) := by decide +kernel
theorem dX8_remembers_15 : decode cX8_remembers 15 = .ok (.iload_n 1, 1) := by decide +kernel
theorem dX8_remembers_16 : decode cX8_remembers 16 = .ok (.sipush 271, 3) := by decide +kernel
theorem dX8_remembers_19 : decode cX8_remembers 19 = .ok (.if_icmp .ge 24, 3) := by decide +kernel
theorem dX8_remembers_22 : decode cX8_remembers 22 = .ok (.aload_n 0, 1) := by decide +kernel
theorem dX8_remembers_23 : decode cX8_remembers 23 = .ok (.getfield 29, 3) := by decide +kernel
theorem dX8_remembers_26 : decode cX8_remembers 26 = .ok (.iload_n 1, 1) := by decide +kernel
theorem dX8_remembers_27 : decode cX8_remembers 27 = .ok (.aload_n 0, 1) := by decide +kernel
theorem dX8_remembers_28 : decode cX8_remembers 28 = .ok (.getfield 29, 3) := by decide +kernel
theorem dX8_remembers_31 : decode cX8_remembers 31 = .ok (.iload_n 1, 1) := by decide +kernel
theorem dX8_remembers_32 : decode cX8_remembers 32 = .ok (.bipush 27, 2) := by decide +kernel
theorem dX8_remembers_34 : decode cX8_remembers 34 = .ok (.iadd, 1) := by decide +kernel
theorem dX8_remembers_35 : decode cX8_remembers 35 = .ok (.iaload, 1) := by decide +kernel
theorem dX8_remembers_36 : decode cX8_remembers 36 = .ok (.iastore, 1) := by decide +kernel
theorem dX8_remembers_37 : decode cX8_remembers 37 = .ok (.iinc 1 1, 3) := by decide +kernel
theorem dX8_remembers_40 : decode cX8_remembers 40 = .ok (.goto (-25), 3) := by decide +kernel
theorem dX8_remembers_43 : decode cX8_remembers 43 = .ok (.aload_n 0, 1) := by decide +kernel
theorem dX8_remembers_44 : decode cX8_remembers 44 = .ok (.getfield 29, 3) := by decide +kernel
theorem dX8_remembers_47 : decode cX8_remembers 47 = .ok (.bipush 27, 2) := by decide +kernel
theorem dX8_remembers_49 : decode cX8_remembers 49 = .ok (.dup2, 1) := by decide +kernel
theorem dX8_remembers_50 : decode cX8_remembers 50 = .ok (.iaload, 1) := by decide +kernel
theorem dX8_remembers_51 : decode cX8_remembers 51 = .ok (.iconst 1, 1) := by decide +kernel
theorem dX8_remembers_52 : decode cX8_remembers 52 = .ok (.isub, 1) := by decide +kernel
theorem dX8_remembers_53 : decode cX8_remembers 53 = .ok (.iastore, 1) := by decide +kernel
theorem dX8_remembers_54 : decode cX8_remembers 54 = .ok (.bipush 28, 2) := by decide +kernel
theorem dX8_remembers_56 : decode cX8_remembers 56 = .ok (.bipush 27, 2) := by decide +kernel
theorem dX8_remembers_58 : decode cX8_remembers 58 = .ok (.aload_n 0, 1) := by decide +kernel
theorem dX8_remembers_59 : decode cX8_remembers 59 = .ok (.getfield 29, 3) := by decide +kernel
theorem dX8_remembers_62 : decode cX8_remembers 62 = .ok (.bipush 27, 2) := by decide +kernel
theorem dX8_remembers_64 : decode cX8_remembers 64 = .ok (.iaload, 1) := by decide +kernel
theorem dX8_remembers_65 : decode cX8_remembers 65 = .ok (.imul, 1) := by decide +kernel
theorem dX8_remembers_66 : decode cX8_remembers 66 = .ok (.iadd, 1) := by decide +kernel
theorem dX8_remembers_67 : decode cX8_remembers 67 = .ok (.istore_n 1, 1) := by decide +kernel
theorem dX8_remembers_68 : decode cX8_remembers 68 = .ok (.iconst 0, 1) := by decide +kernel
theorem dX8_remembers_69 : decode cX8_remembers 69 = .ok (.istore_n 2, 1) := by decide +kernel
theorem dX8_remembers_70 : decode cX8_remembers 70 = .ok (.iload_n 2, 1) := by decide +kernel
theorem dX8_remembers_71 : decode cX8_remembers 71 = .ok (.bipush 27, 2) := by decide +kernel
theorem dX8_remembers_73 : decode cX8_remembers 73 = .ok (.if_icmp .ge 23, 3) := by decide +kernel
theorem dX8_remembers_76 : decode cX8_remembers 76 = .ok (.aload_n 0, 1) := by decide +kernel
theorem dX8_remembers_77 : decode cX8_remembers 77 = .ok (.getfield 29, 3) := by decide +kernel
theorem dX8_remembers_80 : decode cX8_remembers 80 = .ok (.iload_n 1, 1) := by decide +kernel
theorem dX8_remembers_81 : decode cX8_remembers 81 = .ok (.iload_n 2, 1) := by decide +kernel
theorem dX8_remembers_82 : decode cX8_remembers 82 = .ok (.iadd, 1) := by decide +kernel
theorem dX8_remembers_83 : decode cX8_remembers 83 = .ok (.aload_n 0, 1) := by decide +kernel
theorem dX8_remembers_84 : decode cX8_remembers 84 = .ok (.getfield 29, 3) := by decide +kernel
theorem dX8_remembers_87 : decode cX8_remembers 87 = .ok (.iload_n 2, 1) := by decide +kernel
theorem dX8_remembers_88 : decode cX8_remembers 88 = .ok (.iaload, 1) := by decide +kernel
theorem dX8_remembers_89 : decode cX8_remembers 89 = .ok (.iastore, 1) := by decide +kernel
theorem dX8_remembers_90 : decode cX8_remembers 90 = .ok (.iinc 2 1, 3) := by decide +kernel
theorem dX8_remembers_93 : decode cX8_remembers 93 = .ok (.goto (-23), 3) := by decide +kernel
theorem dX8_remembers_96 : decode cX8_remembers 96 = .ok (.aload_n 0, 1) := by decide +kernel
theorem dX8_remembers_97 : decode cX8_remembers 97 = .ok (.getfield 29, 3) := by decide +kernel
theorem dX8_remembers_100 : decode cX8_remembers 100 = .ok (.bipush 27, 2) := by decide +kernel
theorem dX8_remembers_102 : decode cX8_remembers 102 = .ok (.dup2, 1) := by decide +kernel
theorem dX8_remembers_103 : decode cX8_remembers 103 = .ok (.iaload, 1) := by decide +kernel
theorem dX8_remembers_104 : decode cX8_remembers 104 = .ok (.iconst 1, 1) := by decide +kernel
theorem dX8_remembers_105 : decode cX8_remembers 105 = .ok (.iadd, 1) := by decide +kernel
theorem dX8_remembers_106 : decode cX8_remembers 106 = .ok (.iastore, 1) := by decide +kernel
theorem dX8_remembers_107 : decode cX8_remembers 107 = .ok (.return_, 1) := by decide +kernel
theorem dX8_hour_0 : decode cX8_hour 0 = .ok (.aload_n 0, 1) := by decide +kernel
theorem dX8_hour_1 : decode cX8_hour 1 = .ok (.getfield 29, 3) := by decide +kernel
theorem dX8_hour_4 : decode cX8_hour 4 = .ok (.iconst 0, 1) := by decide +kernel
theorem dX8_hour_5 : decode cX8_hour 5 = .ok (.iaload, 1) := by decide +kernel
theorem dX8_hour_6 : decode cX8_hour 6 = .ok (.bipush 24, 2) := by decide +kernel
theorem dX8_hour_8 : decode cX8_hour 8 = .ok (.if_icmp .ne 6, 3) := by decide +kernel
theorem dX8_hour_11 : decode cX8_hour 11 = .ok (.bipush (-2), 2) := by decide +kernel
theorem dX8_hour_13 : decode cX8_hour 13 = .ok (.ireturn, 1) := by decide +kernel
theorem dX8_hour_14 : decode cX8_hour 14 = .ok (.aload_n 0, 1) := by decide +kernel
theorem dX8_hour_15 : decode cX8_hour 15 = .ok (.invokevirtual 192, 3) := by decide +kernel
theorem dX8_hour_18 : decode cX8_hour 18 = .ok (.iconst 0, 1) := by decide +kernel
theorem dX8_hour_19 : decode cX8_hour 19 = .ok (.istore_n 1, 1) := by decide +kernel
theorem dX8_hour_20 : decode cX8_hour 20 = .ok (.iconst 0, 1) := by decide +kernel
theorem dX8_hour_21 : decode cX8_hour 21 = .ok (.istore_n 2, 1) := by decide +kernel
theorem dX8_hour_22 : decode cX8_hour 22 = .ok (.iload_n 2, 1) := by decide +kernel
theorem dX8_hour_23 : decode cX8_hour 23 = .ok (.aload_n 0, 1) := by decide +kernel
theorem dX8_hour_24 : decode cX8_hour 24 = .ok (.getfield 73, 3) := by decide +kernel
theorem dX8_hour_27 : decode cX8_hour 27 = .ok (.if_icmp .ge 85, 3) := by decide +kernel
theorem dX8_hour_30 : decode cX8_hour 30 = .ok (.aload_n 0, 1) := by decide +kernel
theorem dX8_hour_31 : decode cX8_hour 31 = .ok (.getfield 29, 3) := by decide +kernel
theorem dX8_hour_34 : decode cX8_hour 34 = .ok (.iconst 2, 1) := by decide +kernel
theorem dX8_hour_35 : decode cX8_hour 35 = .ok (.iaload, 1) := by decide +kernel
theorem dX8_hour_36 : decode cX8_hour 36 = .ok (.ifCond .ne 70, 3) := by decide +kernel
theorem dX8_hour_39 : decode cX8_hour 39 = .ok (.aload_n 0, 1) := by decide +kernel
theorem dX8_hour_40 : decode cX8_hour 40 = .ok (.iload_n 2, 1) := by decide +kernel
theorem dX8_hour_41 : decode cX8_hour 41 = .ok (.invokevirtual 163, 3) := by decide +kernel
theorem dX8_hour_44 : decode cX8_hour 44 = .ok (.ifCond .ne 62, 3) := by decide +kernel
theorem dX8_hour_47 : decode cX8_hour 47 = .ok (.aload_n 0, 1) := by decide +kernel
theorem dX8_hour_48 : decode cX8_hour 48 = .ok (.getfield 29, 3) := by decide +kernel
theorem dX8_hour_51 : decode cX8_hour 51 = .ok (.bipush 9, 2) := by decide +kernel
theorem dX8_hour_53 : decode cX8_hour 53 = .ok (.iload_n 2, 1) := by decide +kernel
theorem dX8_hour_54 : decode cX8_hour 54 = .ok (.iadd, 1) := by decide +kernel
theorem dX8_hour_55 : decode cX8_hour 55 = .ok (.iaload, 1) := by decide +kernel
theorem dX8_hour_56 : decode cX8_hour 56 = .ok (.aload_n 0, 1) := by decide +kernel
theorem dX8_hour_57 : decode cX8_hour 57 = .ok (.getfield 29, 3) := by decide +kernel
theorem dX8_hour_60 : decode cX8_hour 60 = .ok (.iconst 0, 1) := by decide +kernel
theorem dX8_hour_61 : decode cX8_hour 61 = .ok (.iaload, 1) := by decide +kernel
theorem dX8_hour_62 : decode cX8_hour 62 = .ok (.if_icmp .ne 44, 3) := by decide +kernel
theorem dX8_hour_65 : decode cX8_hour 65 = .ok (.aload_n 0, 1) := by decide +kernel
theorem dX8_hour_66 : decode cX8_hour 66 = .ok (.getfield 29, 3) := by decide +kernel
theorem dX8_hour_69 : decode cX8_hour 69 = .ok (.bipush 25, 2) := by decide +kernel
theorem dX8_hour_71 : decode cX8_hour 71 = .ok (.dup2, 1) := by decide +kernel
theorem dX8_hour_72 : decode cX8_hour 72 = .ok (.iaload, 1) := by decide +kernel
theorem dX8_hour_73 : decode cX8_hour 73 = .ok (.iconst 1, 1) := by decide +kernel
theorem dX8_hour_74 : decode cX8_hour 74 = .ok (.iload_n 2, 1) := by decide +kernel
theorem dX8_hour_75 : decode cX8_hour 75 = .ok (.ishl, 1) := by decide +kernel
theorem dX8_hour_76 : decode cX8_hour 76 = .ok (.ior, 1) := by decide +kernel
theorem dX8_hour_77 : decode cX8_hour 77 = .ok (.iastore, 1) := by decide +kernel
theorem dX8_hour_78 : decode cX8_hour 78 = .ok (.aload_n 0, 1) := by decide +kernel
theorem dX8_hour_79 : decode cX8_hour 79 = .ok (.getfield 29, 3) := by decide +kernel
theorem dX8_hour_82 : decode cX8_hour 82 = .ok (.iconst 3, 1) := by decide +kernel
theorem dX8_hour_83 : decode cX8_hour 83 = .ok (.aload_n 0, 1) := by decide +kernel
theorem dX8_hour_84 : decode cX8_hour 84 = .ok (.getfield 29, 3) := by decide +kernel
theorem dX8_hour_87 : decode cX8_hour 87 = .ok (.bipush 17, 2) := by decide +kernel
theorem dX8_hour_89 : decode cX8_hour 89 = .ok (.iload_n 2, 1) := by decide +kernel
theorem dX8_hour_90 : decode cX8_hour 90 = .ok (.iadd, 1) := by decide +kernel
theorem dX8_hour_91 : decode cX8_hour 91 = .ok (.iaload, 1) := by decide +kernel
theorem dX8_hour_92 : decode cX8_hour 92 = .ok (.iadd, 1) := by decide +kernel
theorem dX8_hour_93 : decode cX8_hour 93 = .ok (.dup2, 1) := by decide +kernel
theorem dX8_hour_94 : decode cX8_hour 94 = .ok (.iaload, 1) := by decide +kernel
theorem dX8_hour_95 : decode cX8_hour 95 = .ok (.aload_n 0, 1) := by decide +kernel
theorem dX8_hour_96 : decode cX8_hour 96 = .ok (.getfield 16, 3) := by decide +kernel
theorem dX8_hour_99 : decode cX8_hour 99 = .ok (.iload_n 2, 1) := by decide +kernel
theorem dX8_hour_100 : decode cX8_hour 100 = .ok (.iaload, 1) := by decide +kernel
theorem dX8_hour_101 : decode cX8_hour 101 = .ok (.iadd, 1) := by decide +kernel
theorem dX8_hour_102 : decode cX8_hour 102 = .ok (.iastore, 1) := by decide +kernel
theorem dX8_hour_103 : decode cX8_hour 103 = .ok (.iinc 1 1, 3) := by decide +kernel
theorem dX8_hour_106 : decode cX8_hour 106 = .ok (.iinc 2 1, 3) := by decide +kernel
theorem dX8_hour_109 : decode cX8_hour 109 = .ok (.goto (-87), 3) := by decide +kernel
theorem dX8_hour_112 : decode cX8_hour 112 = .ok (.aload_n 0, 1) := by decide +kernel
theorem dX8_hour_113 : decode cX8_hour 113 = .ok (.getfield 29, 3) := by decide +kernel
theorem dX8_hour_116 : decode cX8_hour 116 = .ok (.iconst 0, 1) := by decide +kernel
theorem dX8_hour_117 : decode cX8_hour 117 = .ok (.dup2, 1) := by decide +kernel
theorem dX8_hour_118 : decode cX8_hour 118 = .ok (.iaload, 1) := by decide +kernel
theorem dX8_hour_119 : decode cX8_hour 119 = .ok (.iconst 1, 1) := by decide +kernel
theorem dX8_hour_120 : decode cX8_hour 120 = .ok (.iadd, 1) := by decide +kernel
theorem dX8_hour_121 : decode cX8_hour 121 = .ok (.iastore, 1) := by decide +kernel
theorem dX8_hour_122 : decode cX8_hour 122 = .ok (.iload_n 1, 1) := by decide +kernel
theorem dX8_hour_123 : decode cX8_hour 123 = .ok (.ireturn, 1) := by decide +kernel
theorem dX8_holds_0 : decode cX8_holds 0 = .ok (.aload_n 0, 1) := by decide +kernel
theorem dX8_holds_1 : decode cX8_holds 1 = .ok (.iload_n 1, 1) := by decide +kernel
theorem dX8_holds_2 : decode cX8_holds 2 = .ok (.invokevirtual 179, 3) := by decide +kernel
theorem dX8_holds_5 : decode cX8_holds 5 = .ok (.ifCond .ne 5, 3) := by decide +kernel
theorem dX8_holds_8 : decode cX8_holds 8 = .ok (.iconst (-1), 1) := by decide +kernel
theorem dX8_holds_9 : decode cX8_holds 9 = .ok (.ireturn, 1) := by decide +kernel
theorem dX8_holds_10 : decode cX8_holds 10 = .ok (.aload_n 0, 1) := by decide +kernel
theorem dX8_holds_11 : decode cX8_holds 11 = .ok (.iload_n 1, 1) := by decide +kernel
theorem dX8_holds_12 : decode cX8_holds 12 = .ok (.invokevirtual 163, 3) := by decide +kernel
theorem dX8_holds_15 : decode cX8_holds 15 = .ok (.ifCond .ne 35, 3) := by decide +kernel
theorem dX8_holds_18 : decode cX8_holds 18 = .ok (.aload_n 0, 1) := by decide +kernel
theorem dX8_holds_19 : decode cX8_holds 19 = .ok (.getfield 29, 3) := by decide +kernel
theorem dX8_holds_22 : decode cX8_holds 22 = .ok (.bipush 9, 2) := by decide +kernel
theorem dX8_holds_24 : decode cX8_holds 24 = .ok (.iload_n 1, 1) := by decide +kernel
theorem dX8_holds_25 : decode cX8_holds 25 = .ok (.iadd, 1) := by decide +kernel
theorem dX8_holds_26 : decode cX8_holds 26 = .ok (.iaload, 1) := by decide +kernel
theorem dX8_holds_27 : decode cX8_holds 27 = .ok (.bipush 23, 2) := by decide +kernel
theorem dX8_holds_29 : decode cX8_holds 29 = .ok (.if_icmp .eq 21, 3) := by decide +kernel
theorem dX8_holds_32 : decode cX8_holds 32 = .ok (.aload_n 0, 1) := by decide +kernel
theorem dX8_holds_33 : decode cX8_holds 33 = .ok (.getfield 29, 3) := by decide +kernel
theorem dX8_holds_36 : decode cX8_holds 36 = .ok (.bipush 9, 2) := by decide +kernel
theorem dX8_holds_38 : decode cX8_holds 38 = .ok (.iload_n 1, 1) := by decide +kernel
theorem dX8_holds_39 : decode cX8_holds 39 = .ok (.iadd, 1) := by decide +kernel
theorem dX8_holds_40 : decode cX8_holds 40 = .ok (.iaload, 1) := by decide +kernel
theorem dX8_holds_41 : decode cX8_holds 41 = .ok (.aload_n 0, 1) := by decide +kernel
theorem dX8_holds_42 : decode cX8_holds 42 = .ok (.getfield 29, 3) := by decide +kernel
theorem dX8_holds_45 : decode cX8_holds 45 = .ok (.iconst 0, 1) := by decide +kernel
theorem dX8_holds_46 : decode cX8_holds 46 = .ok (.iaload, 1) := by decide +kernel
theorem dX8_holds_47 : decode cX8_holds 47 = .ok (.if_icmp .ge 6, 3) := by decide +kernel
theorem dX8_holds_50 : decode cX8_holds 50 = .ok (.bipush (-2), 2) := by decide +kernel
theorem dX8_holds_52 : decode cX8_holds 52 = .ok (.ireturn, 1) := by decide +kernel
theorem dX8_holds_53 : decode cX8_holds 53 = .ok (.aload_n 0, 1) := by decide +kernel
theorem dX8_holds_54 : decode cX8_holds 54 = .ok (.invokevirtual 192, 3) := by decide +kernel
theorem dX8_holds_57 : decode cX8_holds 57 = .ok (.aload_n 0, 1) := by decide +kernel
theorem dX8_holds_58 : decode cX8_holds 58 = .ok (.getfield 29, 3) := by decide +kernel
theorem dX8_holds_61 : decode cX8_holds 61 = .ok (.bipush 9, 2) := by decide +kernel
theorem dX8_holds_63 : decode cX8_holds 63 = .ok (.iload_n 1, 1) := by decide +kernel
theorem dX8_holds_64 : decode cX8_holds 64 = .ok (.iadd, 1) := by decide +kernel
theorem dX8_holds_65 : decode cX8_holds 65 = .ok (.dup2, 1) := by decide +kernel
theorem dX8_holds_66 : decode cX8_holds 66 = .ok (.iaload, 1) := by decide +kernel
theorem dX8_holds_67 : decode cX8_holds 67 = .ok (.iconst 1, 1) := by decide +kernel
theorem dX8_holds_68 : decode cX8_holds 68 = .ok (.iadd, 1) := by decide +kernel
theorem dX8_holds_69 : decode cX8_holds 69 = .ok (.iastore, 1) := by decide +kernel
theorem dX8_holds_70 : decode cX8_holds 70 = .ok (.aload_n 0, 1) := by decide +kernel
theorem dX8_holds_71 : decode cX8_holds 71 = .ok (.getfield 29, 3) := by decide +kernel
theorem dX8_holds_74 : decode cX8_holds 74 = .ok (.bipush 9, 2) := by decide +kernel
theorem dX8_holds_76 : decode cX8_holds 76 = .ok (.iload_n 1, 1) := by decide +kernel
theorem dX8_holds_77 : decode cX8_holds 77 = .ok (.iadd, 1) := by decide +kernel
theorem dX8_holds_78 : decode cX8_holds 78 = .ok (.iaload, 1) := by decide +kernel
theorem dX8_holds_79 : decode cX8_holds 79 = .ok (.ireturn, 1) := by decide +kernel
theorem dX8_canvasses_0 : decode cX8_canvasses 0 = .ok (.aload_n 0, 1) := by decide +kernel
theorem dX8_canvasses_1 : decode cX8_canvasses 1 = .ok (.iload_n 1, 1) := by decide +kernel
theorem dX8_canvasses_2 : decode cX8_canvasses 2 = .ok (.invokevirtual 179, 3) := by decide +kernel
theorem dX8_canvasses_5 : decode cX8_canvasses 5 = .ok (.ifCond .eq 11, 3) := by decide +kernel
theorem dX8_canvasses_8 : decode cX8_canvasses 8 = .ok (.aload_n 0, 1) := by decide +kernel
theorem dX8_canvasses_9 : decode cX8_canvasses 9 = .ok (.iload_n 2, 1) := by decide +kernel
theorem dX8_canvasses_10 : decode cX8_canvasses 10 = .ok (.invokevirtual 185, 3) := by decide +kernel
theorem dX8_canvasses_13 : decode cX8_canvasses 13 = .ok (.ifCond .ne 5, 3) := by decide +kernel
theorem dX8_canvasses_16 : decode cX8_canvasses 16 = .ok (.iconst (-1), 1) := by decide +kernel
theorem dX8_canvasses_17 : decode cX8_canvasses 17 = .ok (.ireturn, 1) := by decide +kernel
theorem dX8_canvasses_18 : decode cX8_canvasses 18 = .ok (.aload_n 0, 1) := by decide +kernel
theorem dX8_canvasses_19 : decode cX8_canvasses 19 = .ok (.iload_n 1, 1) := by decide +kernel
theorem dX8_canvasses_20 : decode cX8_canvasses 20 = .ok (.invokevirtual 163, 3) := by decide +kernel
theorem dX8_canvasses_23 : decode cX8_canvasses 23 = .ok (.ifCond .ne 25, 3) := by decide +kernel
theorem dX8_canvasses_26 : decode cX8_canvasses 26 = .ok (.aload_n 0, 1) := by decide +kernel
theorem dX8_canvasses_27 : decode cX8_canvasses 27 = .ok (.getfield 29, 3) := by decide +kernel
theorem dX8_canvasses_30 : decode cX8_canvasses 30 = .ok (.bipush 17, 2) := by decide +kernel
theorem dX8_canvasses_32 : decode cX8_canvasses 32 = .ok (.iload_n 1, 1) := by decide +kernel
theorem dX8_canvasses_33 : decode cX8_canvasses 33 = .ok (.iadd, 1) := by decide +kernel
theorem dX8_canvasses_34 : decode cX8_canvasses 34 = .ok (.iaload, 1) := by decide +kernel
theorem dX8_canvasses_35 : decode cX8_canvasses 35 = .ok (.iload_n 2, 1) := by decide +kernel
theorem dX8_canvasses_36 : decode cX8_canvasses 36 = .ok (.if_icmp .eq 12, 3) := by decide +kernel
theorem dX8_canvasses_39 : decode cX8_canvasses 39 = .ok (.aload_n 0, 1) := by decide +kernel
theorem dX8_canvasses_40 : decode cX8_canvasses 40 = .ok (.getfield 29, 3) := by decide +kernel
theorem dX8_canvasses_43 : decode cX8_canvasses 43 = .ok (.iconst 1, 1) := by decide +kernel
theorem dX8_canvasses_44 : decode cX8_canvasses 44 = .ok (.iaload, 1) := by decide +kernel
theorem dX8_canvasses_45 : decode cX8_canvasses 45 = .ok (.ifCond .ne 6, 3) := by decide +kernel
theorem dX8_canvasses_48 : decode cX8_canvasses 48 = .ok (.bipush (-2), 2) := by decide +kernel
theorem dX8_canvasses_50 : decode cX8_canvasses 50 = .ok (.ireturn, 1) := by decide +kernel
theorem dX8_canvasses_51 : decode cX8_canvasses 51 = .ok (.aload_n 0, 1) := by decide +kernel
theorem dX8_canvasses_52 : decode cX8_canvasses 52 = .ok (.invokevirtual 192, 3) := by decide +kernel
theorem dX8_canvasses_55 : decode cX8_canvasses 55 = .ok (.aload_n 0, 1) := by decide +kernel
theorem dX8_canvasses_56 : decode cX8_canvasses 56 = .ok (.getfield 29, 3) := by decide +kernel
theorem dX8_canvasses_59 : decode cX8_canvasses 59 = .ok (.bipush 17, 2) := by decide +kernel
theorem dX8_canvasses_61 : decode cX8_canvasses 61 = .ok (.iload_n 1, 1) := by decide +kernel
theorem dX8_canvasses_62 : decode cX8_canvasses 62 = .ok (.iadd, 1) := by decide +kernel
theorem dX8_canvasses_63 : decode cX8_canvasses 63 = .ok (.iload_n 2, 1) := by decide +kernel
theorem dX8_canvasses_64 : decode cX8_canvasses 64 = .ok (.iastore, 1) := by decide +kernel
theorem dX8_canvasses_65 : decode cX8_canvasses 65 = .ok (.aload_n 0, 1) := by decide +kernel
theorem dX8_canvasses_66 : decode cX8_canvasses 66 = .ok (.getfield 29, 3) := by decide +kernel
theorem dX8_canvasses_69 : decode cX8_canvasses 69 = .ok (.iconst 1, 1) := by decide +kernel
theorem dX8_canvasses_70 : decode cX8_canvasses 70 = .ok (.dup2, 1) := by decide +kernel
theorem dX8_canvasses_71 : decode cX8_canvasses 71 = .ok (.iaload, 1) := by decide +kernel
theorem dX8_canvasses_72 : decode cX8_canvasses 72 = .ok (.iconst 1, 1) := by decide +kernel
theorem dX8_canvasses_73 : decode cX8_canvasses 73 = .ok (.isub, 1) := by decide +kernel
theorem dX8_canvasses_74 : decode cX8_canvasses 74 = .ok (.iastore, 1) := by decide +kernel
theorem dX8_canvasses_75 : decode cX8_canvasses 75 = .ok (.aload_n 0, 1) := by decide +kernel
theorem dX8_canvasses_76 : decode cX8_canvasses 76 = .ok (.getfield 29, 3) := by decide +kernel
theorem dX8_canvasses_79 : decode cX8_canvasses 79 = .ok (.iconst 1, 1) := by decide +kernel
theorem dX8_canvasses_80 : decode cX8_canvasses 80 = .ok (.iaload, 1) := by decide +kernel
theorem dX8_canvasses_81 : decode cX8_canvasses 81 = .ok (.ireturn, 1) := by decide +kernel
theorem dX8_fog_0 : decode cX8_fog 0 = .ok (.iload_n 1, 1) := by decide +kernel
theorem dX8_fog_1 : decode cX8_fog 1 = .ok (.iconst 0, 1) := by decide +kernel
theorem dX8_fog_2 : decode cX8_fog 2 = .ok (.iconst 1, 1) := by decide +kernel
theorem dX8_fog_3 : decode cX8_fog 3 = .ok (.invokestatic 69, 3) := by decide +kernel
theorem dX8_fog_6 : decode cX8_fog 6 = .ok (.ifCond .ne 5, 3) := by decide +kernel
theorem dX8_fog_9 : decode cX8_fog 9 = .ok (.iconst (-1), 1) := by decide +kernel
theorem dX8_fog_10 : decode cX8_fog 10 = .ok (.ireturn, 1) := by decide +kernel
theorem dX8_fog_11 : decode cX8_fog 11 = .ok (.aload_n 0, 1) := by decide +kernel
theorem dX8_fog_12 : decode cX8_fog 12 = .ok (.getfield 29, 3) := by decide +kernel
theorem dX8_fog_15 : decode cX8_fog 15 = .ok (.iconst 2, 1) := by decide +kernel
theorem dX8_fog_16 : decode cX8_fog 16 = .ok (.iaload, 1) := by decide +kernel
theorem dX8_fog_17 : decode cX8_fog 17 = .ok (.iload_n 1, 1) := by decide +kernel
theorem dX8_fog_18 : decode cX8_fog 18 = .ok (.if_icmp .ne 6, 3) := by decide +kernel
theorem dX8_fog_21 : decode cX8_fog 21 = .ok (.bipush (-2), 2) := by decide +kernel
theorem dX8_fog_23 : decode cX8_fog 23 = .ok (.ireturn, 1) := by decide +kernel
theorem dX8_fog_24 : decode cX8_fog 24 = .ok (.aload_n 0, 1) := by decide +kernel
theorem dX8_fog_25 : decode cX8_fog 25 = .ok (.invokevirtual 192, 3) := by decide +kernel
theorem dX8_fog_28 : decode cX8_fog 28 = .ok (.aload_n 0, 1) := by decide +kernel
theorem dX8_fog_29 : decode cX8_fog 29 = .ok (.getfield 29, 3) := by decide +kernel
theorem dX8_fog_32 : decode cX8_fog 32 = .ok (.iconst 2, 1) := by decide +kernel
theorem dX8_fog_33 : decode cX8_fog 33 = .ok (.iload_n 1, 1) := by decide +kernel
theorem dX8_fog_34 : decode cX8_fog 34 = .ok (.iastore, 1) := by decide +kernel
theorem dX8_fog_35 : decode cX8_fog 35 = .ok (.aload_n 0, 1) := by decide +kernel
theorem dX8_fog_36 : decode cX8_fog 36 = .ok (.getfield 73, 3) := by decide +kernel
theorem dX8_fog_39 : decode cX8_fog 39 = .ok (.aload_n 0, 1) := by decide +kernel
theorem dX8_fog_40 : decode cX8_fog 40 = .ok (.getfield 29, 3) := by decide +kernel
theorem dX8_fog_43 : decode cX8_fog 43 = .ok (.bipush 25, 2) := by decide +kernel
theorem dX8_fog_45 : decode cX8_fog 45 = .ok (.iaload, 1) := by decide +kernel
theorem dX8_fog_46 : decode cX8_fog 46 = .ok (.invokestatic 195, 3) := by decide +kernel
theorem dX8_fog_49 : decode cX8_fog 49 = .ok (.isub, 1) := by decide +kernel
theorem dX8_fog_50 : decode cX8_fog 50 = .ok (.ireturn, 1) := by decide +kernel
theorem dX8_rugs_0 : decode cX8_rugs 0 = .ok (.aload_n 0, 1) := by decide +kernel
theorem dX8_rugs_1 : decode cX8_rugs 1 = .ok (.iload_n 1, 1) := by decide +kernel
theorem dX8_rugs_2 : decode cX8_rugs 2 = .ok (.invokevirtual 182, 3) := by decide +kernel
theorem dX8_rugs_5 : decode cX8_rugs 5 = .ok (.ifCond .ne 5, 3) := by decide +kernel
theorem dX8_rugs_8 : decode cX8_rugs 8 = .ok (.iconst (-1), 1) := by decide +kernel
theorem dX8_rugs_9 : decode cX8_rugs 9 = .ok (.ireturn, 1) := by decide +kernel
theorem dX8_rugs_10 : decode cX8_rugs 10 = .ok (.aload_n 0, 1) := by decide +kernel
theorem dX8_rugs_11 : decode cX8_rugs 11 = .ok (.getfield 29, 3) := by decide +kernel
theorem dX8_rugs_14 : decode cX8_rugs 14 = .ok (.bipush 26, 2) := by decide +kernel
theorem dX8_rugs_16 : decode cX8_rugs 16 = .ok (.iaload, 1) := by decide +kernel
theorem dX8_rugs_17 : decode cX8_rugs 17 = .ok (.iload_n 1, 1) := by decide +kernel
theorem dX8_rugs_18 : decode cX8_rugs 18 = .ok (.invokestatic 159, 3) := by decide +kernel
theorem dX8_rugs_21 : decode cX8_rugs 21 = .ok (.ifCond .eq 6, 3) := by decide +kernel
theorem dX8_rugs_24 : decode cX8_rugs 24 = .ok (.bipush (-2), 2) := by decide +kernel
theorem dX8_rugs_26 : decode cX8_rugs 26 = .ok (.ireturn, 1) := by decide +kernel
theorem dX8_rugs_27 : decode cX8_rugs 27 = .ok (.aload_n 0, 1) := by decide +kernel
theorem dX8_rugs_28 : decode cX8_rugs 28 = .ok (.invokevirtual 192, 3) := by decide +kernel
theorem dX8_rugs_31 : decode cX8_rugs 31 = .ok (.aload_n 0, 1) := by decide +kernel
theorem dX8_rugs_32 : decode cX8_rugs 32 = .ok (.getfield 29, 3) := by decide +kernel
theorem dX8_rugs_35 : decode cX8_rugs 35 = .ok (.bipush 26, 2) := by decide +kernel
theorem dX8_rugs_37 : decode cX8_rugs 37 = .ok (.dup2, 1) := by decide +kernel
theorem dX8_rugs_38 : decode cX8_rugs 38 = .ok (.iaload, 1) := by decide +kernel
theorem dX8_rugs_39 : decode cX8_rugs 39 = .ok (.iconst 1, 1) := by decide +kernel
theorem dX8_rugs_40 : decode cX8_rugs 40 = .ok (.iload_n 1, 1) := by decide +kernel
theorem dX8_rugs_41 : decode cX8_rugs 41 = .ok (.ishl, 1) := by decide +kernel
theorem dX8_rugs_42 : decode cX8_rugs 42 = .ok (.ior, 1) := by decide +kernel
theorem dX8_rugs_43 : decode cX8_rugs 43 = .ok (.iastore, 1) := by decide +kernel
theorem dX8_rugs_44 : decode cX8_rugs 44 = .ok (.aload_n 0, 1) := by decide +kernel
theorem dX8_rugs_45 : decode cX8_rugs 45 = .ok (.getfield 29, 3) := by decide +kernel
theorem dX8_rugs_48 : decode cX8_rugs 48 = .ok (.iconst 3, 1) := by decide +kernel
theorem dX8_rugs_49 : decode cX8_rugs 49 = .ok (.aload_n 0, 1) := by decide +kernel
theorem dX8_rugs_50 : decode cX8_rugs 50 = .ok (.getfield 23, 3) := by decide +kernel
theorem dX8_rugs_53 : decode cX8_rugs 53 = .ok (.iload_n 1, 1) := by decide +kernel
theorem dX8_rugs_54 : decode cX8_rugs 54 = .ok (.iaload, 1) := by decide +kernel
theorem dX8_rugs_55 : decode cX8_rugs 55 = .ok (.iadd, 1) := by decide +kernel
theorem dX8_rugs_56 : decode cX8_rugs 56 = .ok (.dup2, 1) := by decide +kernel
theorem dX8_rugs_57 : decode cX8_rugs 57 = .ok (.iaload, 1) := by decide +kernel
theorem dX8_rugs_58 : decode cX8_rugs 58 = .ok (.aload_n 0, 1) := by decide +kernel
theorem dX8_rugs_59 : decode cX8_rugs 59 = .ok (.getfield 20, 3) := by decide +kernel
theorem dX8_rugs_62 : decode cX8_rugs 62 = .ok (.iload_n 1, 1) := by decide +kernel
theorem dX8_rugs_63 : decode cX8_rugs 63 = .ok (.iaload, 1) := by decide +kernel
theorem dX8_rugs_64 : decode cX8_rugs 64 = .ok (.iadd, 1) := by decide +kernel
theorem dX8_rugs_65 : decode cX8_rugs 65 = .ok (.iastore, 1) := by decide +kernel
theorem dX8_rugs_66 : decode cX8_rugs 66 = .ok (.aload_n 0, 1) := by decide +kernel
theorem dX8_rugs_67 : decode cX8_rugs 67 = .ok (.getfield 29, 3) := by decide +kernel
theorem dX8_rugs_70 : decode cX8_rugs 70 = .ok (.iconst 3, 1) := by decide +kernel
theorem dX8_rugs_71 : decode cX8_rugs 71 = .ok (.aload_n 0, 1) := by decide +kernel
theorem dX8_rugs_72 : decode cX8_rugs 72 = .ok (.getfield 23, 3) := by decide +kernel
theorem dX8_rugs_75 : decode cX8_rugs 75 = .ok (.iload_n 1, 1) := by decide +kernel
theorem dX8_rugs_76 : decode cX8_rugs 76 = .ok (.iaload, 1) := by decide +kernel
theorem dX8_rugs_77 : decode cX8_rugs 77 = .ok (.iadd, 1) := by decide +kernel
theorem dX8_rugs_78 : decode cX8_rugs 78 = .ok (.iaload, 1) := by decide +kernel
theorem dX8_rugs_79 : decode cX8_rugs 79 = .ok (.ireturn, 1) := by decide +kernel
theorem dX8_undo_0 : decode cX8_undo 0 = .ok (.aload_n 0, 1) := by decide +kernel
theorem dX8_undo_1 : decode cX8_undo 1 = .ok (.getfield 29, 3) := by decide +kernel
theorem dX8_undo_4 : decode cX8_undo 4 = .ok (.bipush 27, 2) := by decide +kernel
theorem dX8_undo_6 : decode cX8_undo 6 = .ok (.iaload, 1) := by decide +kernel
theorem dX8_undo_7 : decode cX8_undo 7 = .ok (.ifCond .ne 6, 3) := by decide +kernel
theorem dX8_undo_10 : decode cX8_undo 10 = .ok (.bipush (-2), 2) := by decide +kernel
theorem dX8_undo_12 : decode cX8_undo 12 = .ok (.ireturn, 1) := by decide +kernel
theorem dX8_undo_13 : decode cX8_undo 13 = .ok (.aload_n 0, 1) := by decide +kernel
theorem dX8_undo_14 : decode cX8_undo 14 = .ok (.getfield 29, 3) := by decide +kernel
theorem dX8_undo_17 : decode cX8_undo 17 = .ok (.bipush 27, 2) := by decide +kernel
theorem dX8_undo_19 : decode cX8_undo 19 = .ok (.dup2, 1) := by decide +kernel
theorem dX8_undo_20 : decode cX8_undo 20 = .ok (.iaload, 1) := by decide +kernel
theorem dX8_undo_21 : decode cX8_undo 21 = .ok (.iconst 1, 1) := by decide +kernel
theorem dX8_undo_22 : decode cX8_undo 22 = .ok (.isub, 1) := by decide +kernel
theorem dX8_undo_23 : decode cX8_undo 23 = .ok (.iastore, 1) := by decide +kernel
theorem dX8_undo_24 : decode cX8_undo 24 = .ok (.bipush 28, 2) := by decide +kernel
theorem dX8_undo_26 : decode cX8_undo 26 = .ok (.bipush 27, 2) := by decide +kernel
theorem dX8_undo_28 : decode cX8_undo 28 = .ok (.aload_n 0, 1) := by decide +kernel
theorem dX8_undo_29 : decode cX8_undo 29 = .ok (.getfield 29, 3) := by decide +kernel
theorem dX8_undo_32 : decode cX8_undo 32 = .ok (.bipush 27, 2) := by decide +kernel
theorem dX8_undo_34 : decode cX8_undo 34 = .ok (.iaload, 1) := by decide +kernel
theorem dX8_undo_35 : decode cX8_undo 35 = .ok (.imul, 1) := by decide +kernel
theorem dX8_undo_36 : decode cX8_undo 36 = .ok (.iadd, 1) := by decide +kernel
theorem dX8_undo_37 : decode cX8_undo 37 = .ok (.istore_n 1, 1) := by decide +kernel
theorem dX8_undo_38 : decode cX8_undo 38 = .ok (.iconst 0, 1) := by decide +kernel
theorem dX8_undo_39 : decode cX8_undo 39 = .ok (.istore_n 2, 1) := by decide +kernel
theorem dX8_undo_40 : decode cX8_undo 40 = .ok (.iload_n 2, 1) := by decide +kernel
theorem dX8_undo_41 : decode cX8_undo 41 = .ok (.bipush 27, 2) := by decide +kernel
theorem dX8_undo_43 : decode cX8_undo 43 = .ok (.if_icmp .ge 23, 3) := by decide +kernel
theorem dX8_undo_46 : decode cX8_undo 46 = .ok (.aload_n 0, 1) := by decide +kernel
theorem dX8_undo_47 : decode cX8_undo 47 = .ok (.getfield 29, 3) := by decide +kernel
theorem dX8_undo_50 : decode cX8_undo 50 = .ok (.iload_n 2, 1) := by decide +kernel
theorem dX8_undo_51 : decode cX8_undo 51 = .ok (.aload_n 0, 1) := by decide +kernel
theorem dX8_undo_52 : decode cX8_undo 52 = .ok (.getfield 29, 3) := by decide +kernel
theorem dX8_undo_55 : decode cX8_undo 55 = .ok (.iload_n 1, 1) := by decide +kernel
theorem dX8_undo_56 : decode cX8_undo 56 = .ok (.iload_n 2, 1) := by decide +kernel
theorem dX8_undo_57 : decode cX8_undo 57 = .ok (.iadd, 1) := by decide +kernel
theorem dX8_undo_58 : decode cX8_undo 58 = .ok (.iaload, 1) := by decide +kernel
theorem dX8_undo_59 : decode cX8_undo 59 = .ok (.iastore, 1) := by decide +kernel
theorem dX8_undo_60 : decode cX8_undo 60 = .ok (.iinc 2 1, 3) := by decide +kernel
theorem dX8_undo_63 : decode cX8_undo 63 = .ok (.goto (-23), 3) := by decide +kernel
theorem dX8_undo_66 : decode cX8_undo 66 = .ok (.aload_n 0, 1) := by decide +kernel
theorem dX8_undo_67 : decode cX8_undo 67 = .ok (.getfield 29, 3) := by decide +kernel
theorem dX8_undo_70 : decode cX8_undo 70 = .ok (.bipush 27, 2) := by decide +kernel
theorem dX8_undo_72 : decode cX8_undo 72 = .ok (.iaload, 1) := by decide +kernel
theorem dX8_undo_73 : decode cX8_undo 73 = .ok (.ireturn, 1) := by decide +kernel
theorem dX8_leftBy_0 : decode cX8_leftBy 0 = .ok (.aload_n 0, 1) := by decide +kernel
theorem dX8_leftBy_1 : decode cX8_leftBy 1 = .ok (.iload_n 1, 1) := by decide +kernel
theorem dX8_leftBy_2 : decode cX8_leftBy 2 = .ok (.iconst 0, 1) := by decide +kernel
theorem dX8_leftBy_3 : decode cX8_leftBy 3 = .ok (.iconst 0, 1) := by decide +kernel
theorem dX8_leftBy_4 : decode cX8_leftBy 4 = .ok (.invokevirtual 169, 3) := by decide +kernel
theorem dX8_leftBy_7 : decode cX8_leftBy 7 = .ok (.aload_n 0, 1) := by decide +kernel
theorem dX8_leftBy_8 : decode cX8_leftBy 8 = .ok (.aload_n 0, 1) := by decide +kernel
theorem dX8_leftBy_9 : decode cX8_leftBy 9 = .ok (.getfield 13, 3) := by decide +kernel
theorem dX8_leftBy_12 : decode cX8_leftBy 12 = .ok (.invokevirtual 173, 3) := by decide +kernel
theorem dX8_leftBy_15 : decode cX8_leftBy 15 = .ok (.ireturn, 1) := by decide +kernel
theorem dX8_now_0 : decode cX8_now 0 = .ok (.iload_n 1, 1) := by decide +kernel
theorem dX8_now_1 : decode cX8_now 1 = .ok (.tableswitch 94 0 6 #[43, 50, 57, 64, 70, 79, 85], 43) := by decide +kernel
theorem dX8_now_44 : decode cX8_now 44 = .ok (.aload_n 0, 1) := by decide +kernel
theorem dX8_now_45 : decode cX8_now 45 = .ok (.getfield 29, 3) := by decide +kernel
theorem dX8_now_48 : decode cX8_now 48 = .ok (.iconst 0, 1) := by decide +kernel
theorem dX8_now_49 : decode cX8_now 49 = .ok (.iaload, 1) := by decide +kernel
theorem dX8_now_50 : decode cX8_now 50 = .ok (.ireturn, 1) := by decide +kernel
theorem dX8_now_51 : decode cX8_now 51 = .ok (.aload_n 0, 1) := by decide +kernel
theorem dX8_now_52 : decode cX8_now 52 = .ok (.getfield 29, 3) := by decide +kernel
theorem dX8_now_55 : decode cX8_now 55 = .ok (.iconst 1, 1) := by decide +kernel
theorem dX8_now_56 : decode cX8_now 56 = .ok (.iaload, 1) := by decide +kernel
theorem dX8_now_57 : decode cX8_now 57 = .ok (.ireturn, 1) := by decide +kernel
theorem dX8_now_58 : decode cX8_now 58 = .ok (.aload_n 0, 1) := by decide +kernel
theorem dX8_now_59 : decode cX8_now 59 = .ok (.getfield 29, 3) := by decide +kernel
theorem dX8_now_62 : decode cX8_now 62 = .ok (.iconst 2, 1) := by decide +kernel
theorem dX8_now_63 : decode cX8_now 63 = .ok (.iaload, 1) := by decide +kernel
theorem dX8_now_64 : decode cX8_now 64 = .ok (.ireturn, 1) := by decide +kernel
theorem dX8_now_65 : decode cX8_now 65 = .ok (.aload_n 0, 1) := by decide +kernel
theorem dX8_now_66 : decode cX8_now 66 = .ok (.iconst 0, 1) := by decide +kernel
theorem dX8_now_67 : decode cX8_now 67 = .ok (.invokevirtual 198, 3) := by decide +kernel
theorem dX8_now_70 : decode cX8_now 70 = .ok (.ireturn, 1) := by decide +kernel
theorem dX8_now_71 : decode cX8_now 71 = .ok (.aload_n 0, 1) := by decide +kernel
theorem dX8_now_72 : decode cX8_now 72 = .ok (.aload_n 0, 1) := by decide +kernel
theorem dX8_now_73 : decode cX8_now 73 = .ok (.invokevirtual 188, 3) := by decide +kernel
theorem dX8_now_76 : decode cX8_now 76 = .ok (.invokevirtual 198, 3) := by decide +kernel
theorem dX8_now_79 : decode cX8_now 79 = .ok (.ireturn, 1) := by decide +kernel
theorem dX8_now_80 : decode cX8_now 80 = .ok (.aload_n 0, 1) := by decide +kernel
theorem dX8_now_81 : decode cX8_now 81 = .ok (.iconst 0, 1) := by decide +kernel
theorem dX8_now_82 : decode cX8_now 82 = .ok (.invokevirtual 201, 3) := by decide +kernel
theorem dX8_now_85 : decode cX8_now 85 = .ok (.ireturn, 1) := by decide +kernel
theorem dX8_now_86 : decode cX8_now 86 = .ok (.aload_n 0, 1) := by decide +kernel
theorem dX8_now_87 : decode cX8_now 87 = .ok (.aload_n 0, 1) := by decide +kernel
theorem dX8_now_88 : decode cX8_now 88 = .ok (.invokevirtual 188, 3) := by decide +kernel
theorem dX8_now_91 : decode cX8_now 91 = .ok (.invokevirtual 201, 3) := by decide +kernel
theorem dX8_now_94 : decode cX8_now 94 = .ok (.ireturn, 1) := by decide +kernel
theorem dX8_now_95 : decode cX8_now 95 = .ok (.iconst (-1), 1) := by decide +kernel
theorem dX8_now_96 : decode cX8_now 96 = .ok (.ireturn, 1) := by decide +kernel
theorem dX8_isLess_0 : decode cX8_isLess 0 = .ok (.iload_n 1, 1) := by decide +kernel
theorem dX8_isLess_1 : decode cX8_isLess 1 = .ok (.ifCond .lt 30, 3) := by decide +kernel
theorem dX8_isLess_4 : decode cX8_isLess 4 = .ok (.iload_n 0, 1) := by decide +kernel
theorem dX8_isLess_5 : decode cX8_isLess 5 = .ok (.invokestatic 195, 3) := by decide +kernel
theorem dX8_isLess_8 : decode cX8_isLess 8 = .ok (.iload_n 1, 1) := by decide +kernel
theorem dX8_isLess_9 : decode cX8_isLess 9 = .ok (.invokestatic 195, 3) := by decide +kernel
theorem dX8_isLess_12 : decode cX8_isLess 12 = .ok (.if_icmp .lt 19, 3) := by decide +kernel
theorem dX8_isLess_15 : decode cX8_isLess 15 = .ok (.iload_n 0, 1) := by decide +kernel
theorem dX8_isLess_16 : decode cX8_isLess 16 = .ok (.invokestatic 195, 3) := by decide +kernel
theorem dX8_isLess_19 : decode cX8_isLess 19 = .ok (.iload_n 1, 1) := by decide +kernel
theorem dX8_isLess_20 : decode cX8_isLess 20 = .ok (.invokestatic 195, 3) := by decide +kernel
theorem dX8_isLess_23 : decode cX8_isLess 23 = .ok (.if_icmp .ne 12, 3) := by decide +kernel
theorem dX8_isLess_26 : decode cX8_isLess 26 = .ok (.iload_n 0, 1) := by decide +kernel
theorem dX8_isLess_27 : decode cX8_isLess 27 = .ok (.iload_n 1, 1) := by decide +kernel
theorem dX8_isLess_28 : decode cX8_isLess 28 = .ok (.if_icmp .ge 7, 3) := by decide +kernel
theorem dX8_isLess_31 : decode cX8_isLess 31 = .ok (.iconst 1, 1) := by decide +kernel
theorem dX8_isLess_32 : decode cX8_isLess 32 = .ok (.goto 4, 3) := by decide +kernel
theorem dX8_isLess_35 : decode cX8_isLess 35 = .ok (.iconst 0, 1) := by decide +kernel
theorem dX8_isLess_36 : decode cX8_isLess 36 = .ok (.ireturn, 1) := by decide +kernel
theorem dX8_plan_0 : decode cX8_plan 0 = .ok (.aload_n 0, 1) := by decide +kernel
theorem dX8_plan_1 : decode cX8_plan 1 = .ok (.iload_n 1, 1) := by decide +kernel
theorem dX8_plan_2 : decode cX8_plan 2 = .ok (.invokevirtual 185, 3) := by decide +kernel
theorem dX8_plan_5 : decode cX8_plan 5 = .ok (.ifCond .eq 11, 3) := by decide +kernel
theorem dX8_plan_8 : decode cX8_plan 8 = .ok (.aload_n 0, 1) := by decide +kernel
theorem dX8_plan_9 : decode cX8_plan 9 = .ok (.iload_n 2, 1) := by decide +kernel
theorem dX8_plan_10 : decode cX8_plan 10 = .ok (.invokevirtual 185, 3) := by decide +kernel
theorem dX8_plan_13 : decode cX8_plan 13 = .ok (.ifCond .ne 5, 3) := by decide +kernel
theorem dX8_plan_16 : decode cX8_plan 16 = .ok (.iconst (-1), 1) := by decide +kernel
theorem dX8_plan_17 : decode cX8_plan 17 = .ok (.ireturn, 1) := by decide +kernel
theorem dX8_plan_18 : decode cX8_plan 18 = .ok (.aload_n 0, 1) := by decide +kernel
theorem dX8_plan_19 : decode cX8_plan 19 = .ok (.invokevirtual 188, 3) := by decide +kernel
theorem dX8_plan_22 : decode cX8_plan 22 = .ok (.istore_n 3, 1) := by decide +kernel
theorem dX8_plan_23 : decode cX8_plan 23 = .ok (.bipush (-9), 2) := by decide +kernel
theorem dX8_plan_25 : decode cX8_plan 25 = .ok (.istore 4, 2) := by decide +kernel
theorem dX8_plan_27 : decode cX8_plan 27 = .ok (.iconst 0, 1) := by decide +kernel
theorem dX8_plan_28 : decode cX8_plan 28 = .ok (.istore 5, 2) := by decide +kernel
theorem dX8_plan_30 : decode cX8_plan 30 = .ok (.iload 5, 2) := by decide +kernel
theorem dX8_plan_32 : decode cX8_plan 32 = .ok (.iconst 1, 1) := by decide +kernel
theorem dX8_plan_33 : decode cX8_plan 33 = .ok (.aload_n 0, 1) := by decide +kernel
theorem dX8_plan_34 : decode cX8_plan 34 = .ok (.getfield 73, 3) := by decide +kernel
theorem dX8_plan_37 : decode cX8_plan 37 = .ok (.ishl, 1) := by decide +kernel
theorem dX8_plan_38 : decode cX8_plan 38 = .ok (.if_icmp .ge 75, 3) := by decide +kernel
theorem dX8_plan_41 : decode cX8_plan 41 = .ok (.iload 5, 2) := by decide +kernel
theorem dX8_plan_43 : decode cX8_plan 43 = .ok (.iload_n 3, 1) := by decide +kernel
theorem dX8_plan_44 : decode cX8_plan 44 = .ok (.iconst (-1), 1) := by decide +kernel
theorem dX8_plan_45 : decode cX8_plan 45 = .ok (.ixor, 1) := by decide +kernel
theorem dX8_plan_46 : decode cX8_plan 46 = .ok (.iand, 1) := by decide +kernel
theorem dX8_plan_47 : decode cX8_plan 47 = .ok (.ifCond .ne 60, 3) := by decide +kernel
theorem dX8_plan_50 : decode cX8_plan 50 = .ok (.iload 5, 2) := by decide +kernel
theorem dX8_plan_52 : decode cX8_plan 52 = .ok (.invokestatic 195, 3) := by decide +kernel
theorem dX8_plan_55 : decode cX8_plan 55 = .ok (.aload_n 0, 1) := by decide +kernel
theorem dX8_plan_56 : decode cX8_plan 56 = .ok (.getfield 29, 3) := by decide +kernel
theorem dX8_plan_59 : decode cX8_plan 59 = .ok (.iconst 1, 1) := by decide +kernel
theorem dX8_plan_60 : decode cX8_plan 60 = .ok (.iaload, 1) := by decide +kernel
theorem dX8_plan_61 : decode cX8_plan 61 = .ok (.if_icmp .gt 46, 3) := by decide +kernel
theorem dX8_plan_64 : decode cX8_plan 64 = .ok (.iload 5, 2) := by decide +kernel
theorem dX8_plan_66 : decode cX8_plan 66 = .ok (.iload 4, 2) := by decide +kernel
theorem dX8_plan_68 : decode cX8_plan 68 = .ok (.invokestatic 204, 3) := by decide +kernel
theorem dX8_plan_71 : decode cX8_plan 71 = .ok (.ifCond .eq 36, 3) := by decide +kernel
theorem dX8_plan_74 : decode cX8_plan 74 = .ok (.aload_n 0, 1) := by decide +kernel
theorem dX8_plan_75 : decode cX8_plan 75 = .ok (.iload_n 3, 1) := by decide +kernel
theorem dX8_plan_76 : decode cX8_plan 76 = .ok (.iload 5, 2) := by decide +kernel
theorem dX8_plan_78 : decode cX8_plan 78 = .ok (.iload_n 2, 1) := by decide +kernel
theorem dX8_plan_79 : decode cX8_plan 79 = .ok (.invokevirtual 169, 3) := by decide +kernel
theorem dX8_plan_82 : decode cX8_plan 82 = .ok (.aload_n 0, 1) := by decide +kernel
theorem dX8_plan_83 : decode cX8_plan 83 = .ok (.aload_n 0, 1) := by decide +kernel
theorem dX8_plan_84 : decode cX8_plan 84 = .ok (.aload_n 0, 1) := by decide +kernel
theorem dX8_plan_85 : decode cX8_plan 85 = .ok (.getfield 13, 3) := by decide +kernel
theorem dX8_plan_88 : decode cX8_plan 88 = .ok (.invokevirtual 173, 3) := by decide +kernel
theorem dX8_plan_91 : decode cX8_plan 91 = .ok (.invokevirtual 176, 3) := by decide +kernel
theorem dX8_plan_94 : decode cX8_plan 94 = .ok (.iload_n 1, 1) := by decide +kernel
theorem dX8_plan_95 : decode cX8_plan 95 = .ok (.if_icmp .ne 8, 3) := by decide +kernel
theorem dX8_plan_98 : decode cX8_plan 98 = .ok (.iload 5, 2) := by decide +kernel
theorem dX8_plan_100 : decode cX8_plan 100 = .ok (.goto 5, 3) := by decide +kernel
theorem dX8_plan_103 : decode cX8_plan 103 = .ok (.iload 4, 2) := by decide +kernel
theorem dX8_plan_105 : decode cX8_plan 105 = .ok (.istore 4, 2) := by decide +kernel
theorem dX8_plan_107 : decode cX8_plan 107 = .ok (.iinc 5 1, 3) := by decide +kernel
theorem dX8_plan_110 : decode cX8_plan 110 = .ok (.goto (-80), 3) := by decide +kernel
theorem dX8_plan_113 : decode cX8_plan 113 = .ok (.iload 4, 2) := by decide +kernel
theorem dX8_plan_115 : decode cX8_plan 115 = .ok (.ireturn, 1) := by decide +kernel
theorem dX8_power_0 : decode cX8_power 0 = .ok (.aload_n 0, 1) := by decide +kernel
theorem dX8_power_1 : decode cX8_power 1 = .ok (.iload_n 1, 1) := by decide +kernel
theorem dX8_power_2 : decode cX8_power 2 = .ok (.invokevirtual 179, 3) := by decide +kernel
theorem dX8_power_5 : decode cX8_power 5 = .ok (.ifCond .ne 5, 3) := by decide +kernel
theorem dX8_power_8 : decode cX8_power 8 = .ok (.iconst (-1), 1) := by decide +kernel
theorem dX8_power_9 : decode cX8_power 9 = .ok (.ireturn, 1) := by decide +kernel
theorem dX8_power_10 : decode cX8_power 10 = .ok (.aload_n 0, 1) := by decide +kernel
theorem dX8_power_11 : decode cX8_power 11 = .ok (.invokevirtual 188, 3) := by decide +kernel
theorem dX8_power_14 : decode cX8_power 14 = .ok (.istore_n 2, 1) := by decide +kernel
theorem dX8_power_15 : decode cX8_power 15 = .ok (.iload_n 2, 1) := by decide +kernel
theorem dX8_power_16 : decode cX8_power 16 = .ok (.iload_n 1, 1) := by decide +kernel
theorem dX8_power_17 : decode cX8_power 17 = .ok (.invokestatic 159, 3) := by decide +kernel
theorem dX8_power_20 : decode cX8_power 20 = .ok (.ifCond .ne 6, 3) := by decide +kernel
theorem dX8_power_23 : decode cX8_power 23 = .ok (.bipush (-2), 2) := by decide +kernel
theorem dX8_power_25 : decode cX8_power 25 = .ok (.ireturn, 1) := by decide +kernel
theorem dX8_power_26 : decode cX8_power 26 = .ok (.iconst 0, 1) := by decide +kernel
theorem dX8_power_27 : decode cX8_power 27 = .ok (.istore_n 3, 1) := by decide +kernel
theorem dX8_power_28 : decode cX8_power 28 = .ok (.iconst 0, 1) := by decide +kernel
theorem dX8_power_29 : decode cX8_power 29 = .ok (.istore 4, 2) := by decide +kernel
theorem dX8_power_31 : decode cX8_power 31 = .ok (.iload 4, 2) := by decide +kernel
theorem dX8_power_33 : decode cX8_power 33 = .ok (.iconst 1, 1) := by decide +kernel
theorem dX8_power_34 : decode cX8_power 34 = .ok (.aload_n 0, 1) := by decide +kernel
theorem dX8_power_35 : decode cX8_power 35 = .ok (.getfield 73, 3) := by decide +kernel
theorem dX8_power_38 : decode cX8_power 38 = .ok (.ishl, 1) := by decide +kernel
theorem dX8_power_39 : decode cX8_power 39 = .ok (.if_icmp .ge 66, 3) := by decide +kernel
theorem dX8_power_42 : decode cX8_power 42 = .ok (.iload 4, 2) := by decide +kernel
theorem dX8_power_44 : decode cX8_power 44 = .ok (.iload_n 2, 1) := by decide +kernel
theorem dX8_power_45 : decode cX8_power 45 = .ok (.iconst (-1), 1) := by decide +kernel
theorem dX8_power_46 : decode cX8_power 46 = .ok (.ixor, 1) := by decide +kernel
theorem dX8_power_47 : decode cX8_power 47 = .ok (.iand, 1) := by decide +kernel
theorem dX8_power_48 : decode cX8_power 48 = .ok (.ifCond .ne 35, 3) := by decide +kernel
theorem dX8_power_51 : decode cX8_power 51 = .ok (.iload 4, 2) := by decide +kernel
theorem dX8_power_53 : decode cX8_power 53 = .ok (.iload_n 1, 1) := by decide +kernel
theorem dX8_power_54 : decode cX8_power 54 = .ok (.invokestatic 159, 3) := by decide +kernel
theorem dX8_power_57 : decode cX8_power 57 = .ok (.ifCond .ne 26, 3) := by decide +kernel
theorem dX8_power_60 : decode cX8_power 60 = .ok (.aload_n 0, 1) := by decide +kernel
theorem dX8_power_61 : decode cX8_power 61 = .ok (.iload 4, 2) := by decide +kernel
theorem dX8_power_63 : decode cX8_power 63 = .ok (.invokevirtual 201, 3) := by decide +kernel
theorem dX8_power_66 : decode cX8_power 66 = .ok (.aload_n 0, 1) := by decide +kernel
theorem dX8_power_67 : decode cX8_power 67 = .ok (.iload 4, 2) := by decide +kernel
theorem dX8_power_69 : decode cX8_power 69 = .ok (.iconst 1, 1) := by decide +kernel
theorem dX8_power_70 : decode cX8_power 70 = .ok (.iload_n 1, 1) := by decide +kernel
theorem dX8_power_71 : decode cX8_power 71 = .ok (.ishl, 1) := by decide +kernel
theorem dX8_power_72 : decode cX8_power 72 = .ok (.ior, 1) := by decide +kernel
theorem dX8_power_73 : decode cX8_power 73 = .ok (.invokevirtual 201, 3) := by decide +kernel
theorem dX8_power_76 : decode cX8_power 76 = .ok (.if_icmp .eq 7, 3) := by decide +kernel
theorem dX8_power_79 : decode cX8_power 79 = .ok (.iconst 1, 1) := by decide +kernel
theorem dX8_power_80 : decode cX8_power 80 = .ok (.goto 4, 3) := by decide +kernel
theorem dX8_power_83 : decode cX8_power 83 = .ok (.iconst 0, 1) := by decide +kernel
theorem dX8_power_84 : decode cX8_power 84 = .ok (.istore 5, 2) := by decide +kernel
theorem dX8_power_86 : decode cX8_power 86 = .ok (.iload_n 3, 1) := by decide +kernel
theorem dX8_power_87 : decode cX8_power 87 = .ok (.iload 5, 2) := by decide +kernel
theorem dX8_power_89 : decode cX8_power 89 = .ok (.ifCond .eq 7, 3) := by decide +kernel
theorem dX8_power_92 : decode cX8_power 92 = .ok (.iconst 1, 1) := by decide +kernel
theorem dX8_power_93 : decode cX8_power 93 = .ok (.goto 4, 3) := by decide +kernel
theorem dX8_power_96 : decode cX8_power 96 = .ok (.iconst 0, 1) := by decide +kernel
theorem dX8_power_97 : decode cX8_power 97 = .ok (.iadd, 1) := by decide +kernel
theorem dX8_power_98 : decode cX8_power 98 = .ok (.istore_n 3, 1) := by decide +kernel
theorem dX8_power_99 : decode cX8_power 99 = .ok (.iinc 4 1, 3) := by decide +kernel
theorem dX8_power_102 : decode cX8_power 102 = .ok (.goto (-71), 3) := by decide +kernel
theorem dX8_power_105 : decode cX8_power 105 = .ok (.iload_n 3, 1) := by decide +kernel
theorem dX8_power_106 : decode cX8_power 106 = .ok (.ireturn, 1) := by decide +kernel
theorem dX8_laws_0 : decode cX8_laws 0 = .ok (.aload_n 0, 1) := by decide +kernel
theorem dX8_laws_1 : decode cX8_laws 1 = .ok (.iload_n 1, 1) := by decide +kernel
theorem dX8_laws_2 : decode cX8_laws 2 = .ok (.invokevirtual 185, 3) := by decide +kernel
theorem dX8_laws_5 : decode cX8_laws 5 = .ok (.ifCond .ne 5, 3) := by decide +kernel
theorem dX8_laws_8 : decode cX8_laws 8 = .ok (.iconst (-1), 1) := by decide +kernel
theorem dX8_laws_9 : decode cX8_laws 9 = .ok (.ireturn, 1) := by decide +kernel
theorem dX8_laws_10 : decode cX8_laws 10 = .ok (.iconst 0, 1) := by decide +kernel
theorem dX8_laws_11 : decode cX8_laws 11 = .ok (.istore_n 2, 1) := by decide +kernel
theorem dX8_laws_12 : decode cX8_laws 12 = .ok (.aload_n 0, 1) := by decide +kernel
theorem dX8_laws_13 : decode cX8_laws 13 = .ok (.aload_n 0, 1) := by decide +kernel
theorem dX8_laws_14 : decode cX8_laws 14 = .ok (.invokevirtual 188, 3) := by decide +kernel
theorem dX8_laws_17 : decode cX8_laws 17 = .ok (.iconst 0, 1) := by decide +kernel
theorem dX8_laws_18 : decode cX8_laws 18 = .ok (.iconst 0, 1) := by decide +kernel
theorem dX8_laws_19 : decode cX8_laws 19 = .ok (.invokevirtual 169, 3) := by decide +kernel
theorem dX8_laws_22 : decode cX8_laws 22 = .ok (.iconst 1, 1) := by decide +kernel
theorem dX8_laws_23 : decode cX8_laws 23 = .ok (.istore_n 3, 1) := by decide +kernel
theorem dX8_laws_24 : decode cX8_laws 24 = .ok (.iload_n 3, 1) := by decide +kernel
theorem dX8_laws_25 : decode cX8_laws 25 = .ok (.aload_n 0, 1) := by decide +kernel
theorem dX8_laws_26 : decode cX8_laws 26 = .ok (.getfield 7, 3) := by decide +kernel
theorem dX8_laws_29 : decode cX8_laws 29 = .ok (.if_icmp .gt 32, 3) := by decide +kernel
theorem dX8_laws_32 : decode cX8_laws 32 = .ok (.iload_n 2, 1) := by decide +kernel
theorem dX8_laws_33 : decode cX8_laws 33 = .ok (.aload_n 0, 1) := by decide +kernel
theorem dX8_laws_34 : decode cX8_laws 34 = .ok (.aload_n 0, 1) := by decide +kernel
theorem dX8_laws_35 : decode cX8_laws 35 = .ok (.iload_n 3, 1) := by decide +kernel
theorem dX8_laws_36 : decode cX8_laws 36 = .ok (.invokevirtual 173, 3) := by decide +kernel
theorem dX8_laws_39 : decode cX8_laws 39 = .ok (.invokevirtual 176, 3) := by decide +kernel
theorem dX8_laws_42 : decode cX8_laws 42 = .ok (.iload_n 1, 1) := by decide +kernel
theorem dX8_laws_43 : decode cX8_laws 43 = .ok (.if_icmp .ne 9, 3) := by decide +kernel
theorem dX8_laws_46 : decode cX8_laws 46 = .ok (.iconst 1, 1) := by decide +kernel
theorem dX8_laws_47 : decode cX8_laws 47 = .ok (.iload_n 3, 1) := by decide +kernel
theorem dX8_laws_48 : decode cX8_laws 48 = .ok (.ishl, 1) := by decide +kernel
theorem dX8_laws_49 : decode cX8_laws 49 = .ok (.goto 4, 3) := by decide +kernel
theorem dX8_laws_52 : decode cX8_laws 52 = .ok (.iconst 0, 1) := by decide +kernel
theorem dX8_laws_53 : decode cX8_laws 53 = .ok (.ior, 1) := by decide +kernel
theorem dX8_laws_54 : decode cX8_laws 54 = .ok (.istore_n 2, 1) := by decide +kernel
theorem dX8_laws_55 : decode cX8_laws 55 = .ok (.iinc 3 1, 3) := by decide +kernel
theorem dX8_laws_58 : decode cX8_laws 58 = .ok (.goto (-34), 3) := by decide +kernel
theorem dX8_laws_61 : decode cX8_laws 61 = .ok (.iload_n 2, 1) := by decide +kernel
theorem dX8_laws_62 : decode cX8_laws 62 = .ok (.ireturn, 1) := by decide +kernel
theorem dX8_lowest_0 : decode cX8_lowest 0 = .ok (.iload_n 0, 1) := by decide +kernel
theorem dX8_lowest_1 : decode cX8_lowest 1 = .ok (.istore_n 3, 1) := by decide +kernel
theorem dX8_lowest_2 : decode cX8_lowest 2 = .ok (.iload_n 1, 1) := by decide +kernel
theorem dX8_lowest_3 : decode cX8_lowest 3 = .ok (.istore 4, 2) := by decide +kernel
theorem dX8_lowest_5 : decode cX8_lowest 5 = .ok (.iload 4, 2) := by decide +kernel
theorem dX8_lowest_7 : decode cX8_lowest 7 = .ok (.ifCond .le 19, 3) := by decide +kernel
theorem dX8_lowest_10 : decode cX8_lowest 10 = .ok (.iload_n 3, 1) := by decide +kernel
theorem dX8_lowest_11 : decode cX8_lowest 11 = .ok (.iload 4, 2) := by decide +kernel
theorem dX8_lowest_13 : decode cX8_lowest 13 = .ok (.irem, 1) := by decide +kernel
theorem dX8_lowest_14 : decode cX8_lowest 14 = .ok (.istore 5, 2) := by decide +kernel
theorem dX8_lowest_16 : decode cX8_lowest 16 = .ok (.iload 4, 2) := by decide +kernel
theorem dX8_lowest_18 : decode cX8_lowest 18 = .ok (.istore_n 3, 1) := by decide +kernel
theorem dX8_lowest_19 : decode cX8_lowest 19 = .ok (.iload 5, 2) := by decide +kernel
theorem dX8_lowest_21 : decode cX8_lowest 21 = .ok (.istore 4, 2) := by decide +kernel
theorem dX8_lowest_23 : decode cX8_lowest 23 = .ok (.goto (-18), 3) := by decide +kernel
theorem dX8_lowest_26 : decode cX8_lowest 26 = .ok (.iload_n 2, 1) := by decide +kernel
theorem dX8_lowest_27 : decode cX8_lowest 27 = .ok (.ifCond .ne 7, 3) := by decide +kernel
theorem dX8_lowest_30 : decode cX8_lowest 30 = .ok (.iload_n 0, 1) := by decide +kernel
theorem dX8_lowest_31 : decode cX8_lowest 31 = .ok (.goto 4, 3) := by decide +kernel
theorem dX8_lowest_34 : decode cX8_lowest 34 = .ok (.iload_n 1, 1) := by decide +kernel
theorem dX8_lowest_35 : decode cX8_lowest 35 = .ok (.iload_n 3, 1) := by decide +kernel
theorem dX8_lowest_36 : decode cX8_lowest 36 = .ok (.idiv, 1) := by decide +kernel
theorem dX8_lowest_37 : decode cX8_lowest 37 = .ok (.ireturn, 1) := by decide +kernel
theorem dX8_odds_0 : decode cX8_odds 0 = .ok (.iload_n 1, 1) := by decide +kernel
theorem dX8_odds_1 : decode cX8_odds 1 = .ok (.iconst 0, 1) := by decide +kernel
theorem dX8_odds_2 : decode cX8_odds 2 = .ok (.bipush 10, 2) := by decide +kernel
theorem dX8_odds_4 : decode cX8_odds 4 = .ok (.invokestatic 69, 3) := by decide +kernel
theorem dX8_odds_7 : decode cX8_odds 7 = .ok (.ifCond .eq 20, 3) := by decide +kernel
theorem dX8_odds_10 : decode cX8_odds 10 = .ok (.aload_n 0, 1) := by decide +kernel
theorem dX8_odds_11 : decode cX8_odds 11 = .ok (.iload_n 2, 1) := by decide +kernel
theorem dX8_odds_12 : decode cX8_odds 12 = .ok (.invokevirtual 185, 3) := by decide +kernel
theorem dX8_odds_15 : decode cX8_odds 15 = .ok (.ifCond .eq 12, 3) := by decide +kernel
theorem dX8_odds_18 : decode cX8_odds 18 = .ok (.iload_n 3, 1) := by decide +kernel
theorem dX8_odds_19 : decode cX8_odds 19 = .ok (.iconst 0, 1) := by decide +kernel
theorem dX8_odds_20 : decode cX8_odds 20 = .ok (.iconst 1, 1) := by decide +kernel
theorem dX8_odds_21 : decode cX8_odds 21 = .ok (.invokestatic 69, 3) := by decide +kernel
theorem dX8_odds_24 : decode cX8_odds 24 = .ok (.ifCond .ne 5, 3) := by decide +kernel
theorem dX8_odds_27 : decode cX8_odds 27 = .ok (.iconst (-1), 1) := by decide +kernel
theorem dX8_odds_28 : decode cX8_odds 28 = .ok (.ireturn, 1) := by decide +kernel
theorem dX8_odds_29 : decode cX8_odds 29 = .ok (.aload_n 0, 1) := by decide +kernel
theorem dX8_odds_30 : decode cX8_odds 30 = .ok (.invokevirtual 188, 3) := by decide +kernel
theorem dX8_odds_33 : decode cX8_odds 33 = .ok (.istore 4, 2) := by decide +kernel
theorem dX8_odds_35 : decode cX8_odds 35 = .ok (.iconst 0, 1) := by decide +kernel
theorem dX8_odds_36 : decode cX8_odds 36 = .ok (.istore 5, 2) := by decide +kernel
theorem dX8_odds_38 : decode cX8_odds 38 = .ok (.iconst 1, 1) := by decide +kernel
theorem dX8_odds_39 : decode cX8_odds 39 = .ok (.istore 6, 2) := by decide +kernel
theorem dX8_odds_41 : decode cX8_odds 41 = .ok (.iconst 0, 1) := by decide +kernel
theorem dX8_odds_42 : decode cX8_odds 42 = .ok (.istore 7, 2) := by decide +kernel
theorem dX8_odds_44 : decode cX8_odds 44 = .ok (.iload 7, 2) := by decide +kernel
theorem dX8_odds_46 : decode cX8_odds 46 = .ok (.aload_n 0, 1) := by decide +kernel
theorem dX8_odds_47 : decode cX8_odds 47 = .ok (.getfield 73, 3) := by decide +kernel
theorem dX8_odds_50 : decode cX8_odds 50 = .ok (.if_icmp .ge 30, 3) := by decide +kernel
theorem dX8_odds_53 : decode cX8_odds 53 = .ok (.iload 6, 2) := by decide +kernel
theorem dX8_odds_55 : decode cX8_odds 55 = .ok (.iload 4, 2) := by decide +kernel
theorem dX8_odds_57 : decode cX8_odds 57 = .ok (.iload 7, 2) := by decide +kernel
theorem dX8_odds_59 : decode cX8_odds 59 = .ok (.invokestatic 159, 3) := by decide +kernel
theorem dX8_odds_62 : decode cX8_odds 62 = .ok (.ifCond .eq 8, 3) := by decide +kernel
theorem dX8_odds_65 : decode cX8_odds 65 = .ok (.bipush 10, 2) := by decide +kernel
theorem dX8_odds_67 : decode cX8_odds 67 = .ok (.goto 4, 3) := by decide +kernel
theorem dX8_odds_70 : decode cX8_odds 70 = .ok (.iconst 1, 1) := by decide +kernel
theorem dX8_odds_71 : decode cX8_odds 71 = .ok (.imul, 1) := by decide +kernel
theorem dX8_odds_72 : decode cX8_odds 72 = .ok (.istore 6, 2) := by decide +kernel
theorem dX8_odds_74 : decode cX8_odds 74 = .ok (.iinc 7 1, 3) := by decide +kernel
theorem dX8_odds_77 : decode cX8_odds 77 = .ok (.goto (-33), 3) := by decide +kernel
theorem dX8_odds_80 : decode cX8_odds 80 = .ok (.iconst 0, 1) := by decide +kernel
theorem dX8_odds_81 : decode cX8_odds 81 = .ok (.istore 7, 2) := by decide +kernel
theorem dX8_odds_83 : decode cX8_odds 83 = .ok (.iload 7, 2) := by decide +kernel
theorem dX8_odds_85 : decode cX8_odds 85 = .ok (.iconst 1, 1) := by decide +kernel
theorem dX8_odds_86 : decode cX8_odds 86 = .ok (.aload_n 0, 1) := by decide +kernel
theorem dX8_odds_87 : decode cX8_odds 87 = .ok (.getfield 73, 3) := by decide +kernel
theorem dX8_odds_90 : decode cX8_odds 90 = .ok (.ishl, 1) := by decide +kernel
theorem dX8_odds_91 : decode cX8_odds 91 = .ok (.if_icmp .ge 94, 3) := by decide +kernel
theorem dX8_odds_94 : decode cX8_odds 94 = .ok (.iload 7, 2) := by decide +kernel
theorem dX8_odds_96 : decode cX8_odds 96 = .ok (.iload 4, 2) := by decide +kernel
theorem dX8_odds_98 : decode cX8_odds 98 = .ok (.iconst (-1), 1) := by decide +kernel
theorem dX8_odds_99 : decode cX8_odds 99 = .ok (.ixor, 1) := by decide +kernel
theorem dX8_odds_100 : decode cX8_odds 100 = .ok (.iand, 1) := by decide +kernel
theorem dX8_odds_101 : decode cX8_odds 101 = .ok (.ifCond .ne 78, 3) := by decide +kernel
theorem dX8_odds_104 : decode cX8_odds 104 = .ok (.aload_n 0, 1) := by decide +kernel
theorem dX8_odds_105 : decode cX8_odds 105 = .ok (.iload 7, 2) := by decide +kernel
theorem dX8_odds_107 : decode cX8_odds 107 = .ok (.invokevirtual 201, 3) := by decide +kernel
theorem dX8_odds_110 : decode cX8_odds 110 = .ok (.iload_n 2, 1) := by decide +kernel
theorem dX8_odds_111 : decode cX8_odds 111 = .ok (.if_icmp .ne 68, 3) := by decide +kernel
theorem dX8_odds_114 : decode cX8_odds 114 = .ok (.iconst 1, 1) := by decide +kernel
theorem dX8_odds_115 : decode cX8_odds 115 = .ok (.istore 8, 2) := by decide +kernel
theorem dX8_odds_117 : decode cX8_odds 117 = .ok (.iconst 0, 1) := by decide +kernel
theorem dX8_odds_118 : decode cX8_odds 118 = .ok (.istore 9, 2) := by decide +kernel
theorem dX8_odds_120 : decode cX8_odds 120 = .ok (.iload 9, 2) := by decide +kernel
theorem dX8_odds_122 : decode cX8_odds 122 = .ok (.aload_n 0, 1) := by decide +kernel
theorem dX8_odds_123 : decode cX8_odds 123 = .ok (.getfield 73, 3) := by decide +kernel
theorem dX8_odds_126 : decode cX8_odds 126 = .ok (.if_icmp .ge 46, 3) := by decide +kernel
theorem dX8_odds_129 : decode cX8_odds 129 = .ok (.iload 8, 2) := by decide +kernel
theorem dX8_odds_131 : decode cX8_odds 131 = .ok (.iload 4, 2) := by decide +kernel
theorem dX8_odds_133 : decode cX8_odds 133 = .ok (.iload 9, 2) := by decide +kernel
theorem dX8_odds_135 : decode cX8_odds 135 = .ok (.invokestatic 159, 3) := by decide +kernel
theorem dX8_odds_138 : decode cX8_odds 138 = .ok (.ifCond .ne 7, 3) := by decide +kernel
theorem dX8_odds_141 : decode cX8_odds 141 = .ok (.iconst 1, 1) := by decide +kernel
theorem dX8_odds_142 : decode cX8_odds 142 = .ok (.goto 21, 3) := by decide +kernel
theorem dX8_odds_145 : decode cX8_odds 145 = .ok (.iload 7, 2) := by decide +kernel
theorem dX8_odds_147 : decode cX8_odds 147 = .ok (.iload 9, 2) := by decide +kernel
theorem dX8_odds_149 : decode cX8_odds 149 = .ok (.invokestatic 159, 3) := by decide +kernel
theorem dX8_odds_152 : decode cX8_odds 152 = .ok (.ifCond .eq 10, 3) := by decide +kernel
theorem dX8_odds_155 : decode cX8_odds 155 = .ok (.bipush 10, 2) := by decide +kernel
theorem dX8_odds_157 : decode cX8_odds 157 = .ok (.iload_n 1, 1) := by decide +kernel
theorem dX8_odds_158 : decode cX8_odds 158 = .ok (.isub, 1) := by decide +kernel
theorem dX8_odds_159 : decode cX8_odds 159 = .ok (.goto 4, 3) := by decide +kernel
theorem dX8_odds_162 : decode cX8_odds 162 = .ok (.iload_n 1, 1) := by decide +kernel
theorem dX8_odds_163 : decode cX8_odds 163 = .ok (.imul, 1) := by decide +kernel
theorem dX8_odds_164 : decode cX8_odds 164 = .ok (.istore 8, 2) := by decide +kernel
theorem dX8_odds_166 : decode cX8_odds 166 = .ok (.iinc 9 1, 3) := by decide +kernel
theorem dX8_odds_169 : decode cX8_odds 169 = .ok (.goto (-49), 3) := by decide +kernel
theorem dX8_odds_172 : decode cX8_odds 172 = .ok (.iload 5, 2) := by decide +kernel
theorem dX8_odds_174 : decode cX8_odds 174 = .ok (.iload 8, 2) := by decide +kernel
theorem dX8_odds_176 : decode cX8_odds 176 = .ok (.iadd, 1) := by decide +kernel
theorem dX8_odds_177 : decode cX8_odds 177 = .ok (.istore 5, 2) := by decide +kernel
theorem dX8_odds_179 : decode cX8_odds 179 = .ok (.iinc 7 1, 3) := by decide +kernel
theorem dX8_odds_182 : decode cX8_odds 182 = .ok (.goto (-99), 3) := by decide +kernel
theorem dX8_odds_185 : decode cX8_odds 185 = .ok (.iload 5, 2) := by decide +kernel
theorem dX8_odds_187 : decode cX8_odds 187 = .ok (.iload 6, 2) := by decide +kernel
theorem dX8_odds_189 : decode cX8_odds 189 = .ok (.iload_n 3, 1) := by decide +kernel
theorem dX8_odds_190 : decode cX8_odds 190 = .ok (.invokestatic 207, 3) := by decide +kernel
theorem dX8_odds_193 : decode cX8_odds 193 = .ok (.ireturn, 1) := by decide +kernel
theorem dX8_hears_0 : decode cX8_hears 0 = .ok (.aload_n 0, 1) := by decide +kernel
theorem dX8_hears_1 : decode cX8_hears 1 = .ok (.iload_n 1, 1) := by decide +kernel
theorem dX8_hears_2 : decode cX8_hears 2 = .ok (.invokevirtual 185, 3) := by decide +kernel
theorem dX8_hears_5 : decode cX8_hears 5 = .ok (.ifCond .eq 16, 3) := by decide +kernel
theorem dX8_hears_8 : decode cX8_hears 8 = .ok (.aload_n 0, 1) := by decide +kernel
theorem dX8_hears_9 : decode cX8_hears 9 = .ok (.iload_n 2, 1) := by decide +kernel
theorem dX8_hears_10 : decode cX8_hears 10 = .ok (.invokevirtual 185, 3) := by decide +kernel
theorem dX8_hears_13 : decode cX8_hears 13 = .ok (.ifCond .eq 8, 3) := by decide +kernel
theorem dX8_hears_16 : decode cX8_hears 16 = .ok (.iload_n 1, 1) := by decide +kernel
theorem dX8_hears_17 : decode cX8_hears 17 = .ok (.iload_n 2, 1) := by decide +kernel
theorem dX8_hears_18 : decode cX8_hears 18 = .ok (.if_icmp .ne 5, 3) := by decide +kernel
theorem dX8_hears_21 : decode cX8_hears 21 = .ok (.iconst (-1), 1) := by decide +kernel
theorem dX8_hears_22 : decode cX8_hears 22 = .ok (.ireturn, 1) := by decide +kernel
theorem dX8_hears_23 : decode cX8_hears 23 = .ok (.aload_n 0, 1) := by decide +kernel
theorem dX8_hears_24 : decode cX8_hears 24 = .ok (.getfield 156, 3) := by decide +kernel
theorem dX8_hears_27 : decode cX8_hears 27 = .ok (.iconst 4, 1) := by decide +kernel
theorem dX8_hears_28 : decode cX8_hears 28 = .ok (.if_icmp .ne 6, 3) := by decide +kernel
theorem dX8_hears_31 : decode cX8_hears 31 = .ok (.bipush (-3), 2) := by decide +kernel
theorem dX8_hears_33 : decode cX8_hears 33 = .ok (.ireturn, 1) := by decide +kernel
theorem dX8_hears_34 : decode cX8_hears 34 = .ok (.aload_n 0, 1) := by decide +kernel
theorem dX8_hears_35 : decode cX8_hears 35 = .ok (.getfield 39, 3) := by decide +kernel
theorem dX8_hears_38 : decode cX8_hears 38 = .ok (.iconst 2, 1) := by decide +kernel
theorem dX8_hears_39 : decode cX8_hears 39 = .ok (.aload_n 0, 1) := by decide +kernel
theorem dX8_hears_40 : decode cX8_hears 40 = .ok (.getfield 156, 3) := by decide +kernel
theorem dX8_hears_43 : decode cX8_hears 43 = .ok (.imul, 1) := by decide +kernel
theorem dX8_hears_44 : decode cX8_hears 44 = .ok (.iload_n 1, 1) := by decide +kernel
theorem dX8_hears_45 : decode cX8_hears 45 = .ok (.iastore, 1) := by decide +kernel
theorem dX8_hears_46 : decode cX8_hears 46 = .ok (.aload_n 0, 1) := by decide +kernel
theorem dX8_hears_47 : decode cX8_hears 47 = .ok (.getfield 39, 3) := by decide +kernel
theorem dX8_hears_50 : decode cX8_hears 50 = .ok (.iconst 2, 1) := by decide +kernel
theorem dX8_hears_51 : decode cX8_hears 51 = .ok (.aload_n 0, 1) := by decide +kernel
theorem dX8_hears_52 : decode cX8_hears 52 = .ok (.getfield 156, 3) := by decide +kernel
theorem dX8_hears_55 : decode cX8_hears 55 = .ok (.imul, 1) := by decide +kernel
theorem dX8_hears_56 : decode cX8_hears 56 = .ok (.iconst 1, 1) := by decide +kernel
theorem dX8_hears_57 : decode cX8_hears 57 = .ok (.iadd, 1) := by decide +kernel
theorem dX8_hears_58 : decode cX8_hears 58 = .ok (.iload_n 2, 1) := by decide +kernel
theorem dX8_hears_59 : decode cX8_hears 59 = .ok (.iastore, 1) := by decide +kernel
theorem dX8_hears_60 : decode cX8_hears 60 = .ok (.aload_n 0, 1) := by decide +kernel
theorem dX8_hears_61 : decode cX8_hears 61 = .ok (.dup, 1) := by decide +kernel
theorem dX8_hears_62 : decode cX8_hears 62 = .ok (.getfield 156, 3) := by decide +kernel
theorem dX8_hears_65 : decode cX8_hears 65 = .ok (.iconst 1, 1) := by decide +kernel
theorem dX8_hears_66 : decode cX8_hears 66 = .ok (.iadd, 1) := by decide +kernel
theorem dX8_hears_67 : decode cX8_hears 67 = .ok (.putfield 156, 3) := by decide +kernel
theorem dX8_hears_70 : decode cX8_hears 70 = .ok (.aload_n 0, 1) := by decide +kernel
theorem dX8_hears_71 : decode cX8_hears 71 = .ok (.getfield 156, 3) := by decide +kernel
theorem dX8_hears_74 : decode cX8_hears 74 = .ok (.ireturn, 1) := by decide +kernel
theorem dX8_forget_0 : decode cX8_forget 0 = .ok (.aload_n 0, 1) := by decide +kernel
theorem dX8_forget_1 : decode cX8_forget 1 = .ok (.getfield 156, 3) := by decide +kernel
theorem dX8_forget_4 : decode cX8_forget 4 = .ok (.istore_n 1, 1) := by decide +kernel
theorem dX8_forget_5 : decode cX8_forget 5 = .ok (.aload_n 0, 1) := by decide +kernel
theorem dX8_forget_6 : decode cX8_forget 6 = .ok (.iconst 0, 1) := by decide +kernel
theorem dX8_forget_7 : decode cX8_forget 7 = .ok (.putfield 156, 3) := by decide +kernel
theorem dX8_forget_10 : decode cX8_forget 10 = .ok (.iload_n 1, 1) := by decide +kernel
theorem dX8_forget_11 : decode cX8_forget 11 = .ok (.ireturn, 1) := by decide +kernel
theorem dX8_chosen_0 : decode cX8_chosen 0 = .ok (.iload_n 0, 1) := by decide +kernel
theorem dX8_chosen_1 : decode cX8_chosen 1 = .ok (.bipush 10, 2) := by decide +kernel
theorem dX8_chosen_3 : decode cX8_chosen 3 = .ok (.idiv, 1) := by decide +kernel
theorem dX8_chosen_4 : decode cX8_chosen 4 = .ok (.istore_n 3, 1) := by decide +kernel
theorem dX8_chosen_5 : decode cX8_chosen 5 = .ok (.iload_n 0, 1) := by decide +kernel
theorem dX8_chosen_6 : decode cX8_chosen 6 = .ok (.bipush 10, 2) := by decide +kernel
theorem dX8_chosen_8 : decode cX8_chosen 8 = .ok (.irem, 1) := by decide +kernel
theorem dX8_chosen_9 : decode cX8_chosen 9 = .ok (.istore 4, 2) := by decide +kernel
theorem dX8_chosen_11 : decode cX8_chosen 11 = .ok (.iload_n 3, 1) := by decide +kernel
theorem dX8_chosen_12 : decode cX8_chosen 12 = .ok (.iload_n 1, 1) := by decide +kernel
theorem dX8_chosen_13 : decode cX8_chosen 13 = .ok (.if_icmp .eq 8, 3) := by decide +kernel
theorem dX8_chosen_16 : decode cX8_chosen 16 = .ok (.iload_n 3, 1) := by decide +kernel
theorem dX8_chosen_17 : decode cX8_chosen 17 = .ok (.iload_n 2, 1) := by decide +kernel
theorem dX8_chosen_18 : decode cX8_chosen 18 = .ok (.if_icmp .ne 7, 3) := by decide +kernel
theorem dX8_chosen_21 : decode cX8_chosen 21 = .ok (.iload_n 3, 1) := by decide +kernel
theorem dX8_chosen_22 : decode cX8_chosen 22 = .ok (.goto 30, 3) := by decide +kernel
theorem dX8_chosen_25 : decode cX8_chosen 25 = .ok (.iload 4, 2) := by decide +kernel
theorem dX8_chosen_27 : decode cX8_chosen 27 = .ok (.iload_n 1, 1) := by decide +kernel
theorem dX8_chosen_28 : decode cX8_chosen 28 = .ok (.if_icmp .eq 9, 3) := by decide +kernel
theorem dX8_chosen_31 : decode cX8_chosen 31 = .ok (.iload 4, 2) := by decide +kernel
theorem dX8_chosen_33 : decode cX8_chosen 33 = .ok (.iload_n 2, 1) := by decide +kernel
theorem dX8_chosen_34 : decode cX8_chosen 34 = .ok (.if_icmp .ne 8, 3) := by decide +kernel
theorem dX8_chosen_37 : decode cX8_chosen 37 = .ok (.iload 4, 2) := by decide +kernel
theorem dX8_chosen_39 : decode cX8_chosen 39 = .ok (.goto 13, 3) := by decide +kernel
theorem dX8_chosen_42 : decode cX8_chosen 42 = .ok (.iload_n 1, 1) := by decide +kernel
theorem dX8_chosen_43 : decode cX8_chosen 43 = .ok (.iload_n 2, 1) := by decide +kernel
theorem dX8_chosen_44 : decode cX8_chosen 44 = .ok (.if_icmp .ge 7, 3) := by decide +kernel
theorem dX8_chosen_47 : decode cX8_chosen 47 = .ok (.iload_n 1, 1) := by decide +kernel
theorem dX8_chosen_48 : decode cX8_chosen 48 = .ok (.goto 4, 3) := by decide +kernel
theorem dX8_chosen_51 : decode cX8_chosen 51 = .ok (.iload_n 2, 1) := by decide +kernel
theorem dX8_chosen_52 : decode cX8_chosen 52 = .ok (.ireturn, 1) := by decide +kernel
theorem dX8_isSo_0 : decode cX8_isSo 0 = .ok (.aload_n 0, 1) := by decide +kernel
theorem dX8_isSo_1 : decode cX8_isSo 1 = .ok (.iload_n 1, 1) := by decide +kernel
theorem dX8_isSo_2 : decode cX8_isSo 2 = .ok (.bipush 10, 2) := by decide +kernel
theorem dX8_isSo_4 : decode cX8_isSo 4 = .ok (.idiv, 1) := by decide +kernel
theorem dX8_isSo_5 : decode cX8_isSo 5 = .ok (.invokevirtual 185, 3) := by decide +kernel
theorem dX8_isSo_8 : decode cX8_isSo 8 = .ok (.ifCond .eq 29, 3) := by decide +kernel
theorem dX8_isSo_11 : decode cX8_isSo 11 = .ok (.aload_n 0, 1) := by decide +kernel
theorem dX8_isSo_12 : decode cX8_isSo 12 = .ok (.iload_n 1, 1) := by decide +kernel
theorem dX8_isSo_13 : decode cX8_isSo 13 = .ok (.bipush 10, 2) := by decide +kernel
theorem dX8_isSo_15 : decode cX8_isSo 15 = .ok (.irem, 1) := by decide +kernel
theorem dX8_isSo_16 : decode cX8_isSo 16 = .ok (.invokevirtual 185, 3) := by decide +kernel
theorem dX8_isSo_19 : decode cX8_isSo 19 = .ok (.ifCond .eq 18, 3) := by decide +kernel
theorem dX8_isSo_22 : decode cX8_isSo 22 = .ok (.iload_n 1, 1) := by decide +kernel
theorem dX8_isSo_23 : decode cX8_isSo 23 = .ok (.bipush 10, 2) := by decide +kernel
theorem dX8_isSo_25 : decode cX8_isSo 25 = .ok (.idiv, 1) := by decide +kernel
theorem dX8_isSo_26 : decode cX8_isSo 26 = .ok (.iload_n 1, 1) := by decide +kernel
theorem dX8_isSo_27 : decode cX8_isSo 27 = .ok (.bipush 10, 2) := by decide +kernel
theorem dX8_isSo_29 : decode cX8_isSo 29 = .ok (.irem, 1) := by decide +kernel
theorem dX8_isSo_30 : decode cX8_isSo 30 = .ok (.if_icmp .eq 7, 3) := by decide +kernel
theorem dX8_isSo_33 : decode cX8_isSo 33 = .ok (.iconst 1, 1) := by decide +kernel
theorem dX8_isSo_34 : decode cX8_isSo 34 = .ok (.goto 4, 3) := by decide +kernel
theorem dX8_isSo_37 : decode cX8_isSo 37 = .ok (.iconst 0, 1) := by decide +kernel
theorem dX8_isSo_38 : decode cX8_isSo 38 = .ok (.istore_n 2, 1) := by decide +kernel
theorem dX8_isSo_39 : decode cX8_isSo 39 = .ok (.iconst 0, 1) := by decide +kernel
theorem dX8_isSo_40 : decode cX8_isSo 40 = .ok (.istore_n 3, 1) := by decide +kernel
theorem dX8_isSo_41 : decode cX8_isSo 41 = .ok (.iload_n 3, 1) := by decide +kernel
theorem dX8_isSo_42 : decode cX8_isSo 42 = .ok (.aload_n 0, 1) := by decide +kernel
theorem dX8_isSo_43 : decode cX8_isSo 43 = .ok (.getfield 156, 3) := by decide +kernel
theorem dX8_isSo_46 : decode cX8_isSo 46 = .ok (.if_icmp .ge 52, 3) := by decide +kernel
theorem dX8_isSo_49 : decode cX8_isSo 49 = .ok (.iload_n 2, 1) := by decide +kernel
theorem dX8_isSo_50 : decode cX8_isSo 50 = .ok (.ifCond .eq 40, 3) := by decide +kernel
theorem dX8_isSo_53 : decode cX8_isSo 53 = .ok (.iload_n 1, 1) := by decide +kernel
theorem dX8_isSo_54 : decode cX8_isSo 54 = .ok (.aload_n 0, 1) := by decide +kernel
theorem dX8_isSo_55 : decode cX8_isSo 55 = .ok (.getfield 39, 3) := by decide +kernel
theorem dX8_isSo_58 : decode cX8_isSo 58 = .ok (.iconst 2, 1) := by decide +kernel
theorem dX8_isSo_59 : decode cX8_isSo 59 = .ok (.iload_n 3, 1) := by decide +kernel
theorem dX8_isSo_60 : decode cX8_isSo 60 = .ok (.imul, 1) := by decide +kernel
theorem dX8_isSo_61 : decode cX8_isSo 61 = .ok (.iaload, 1) := by decide +kernel
theorem dX8_isSo_62 : decode cX8_isSo 62 = .ok (.aload_n 0, 1) := by decide +kernel
theorem dX8_isSo_63 : decode cX8_isSo 63 = .ok (.getfield 39, 3) := by decide +kernel
theorem dX8_isSo_66 : decode cX8_isSo 66 = .ok (.iconst 2, 1) := by decide +kernel
theorem dX8_isSo_67 : decode cX8_isSo 67 = .ok (.iload_n 3, 1) := by decide +kernel
theorem dX8_isSo_68 : decode cX8_isSo 68 = .ok (.imul, 1) := by decide +kernel
theorem dX8_isSo_69 : decode cX8_isSo 69 = .ok (.iconst 1, 1) := by decide +kernel
theorem dX8_isSo_70 : decode cX8_isSo 70 = .ok (.iadd, 1) := by decide +kernel
theorem dX8_isSo_71 : decode cX8_isSo 71 = .ok (.iaload, 1) := by decide +kernel
theorem dX8_isSo_72 : decode cX8_isSo 72 = .ok (.invokestatic 211, 3) := by decide +kernel
theorem dX8_isSo_75 : decode cX8_isSo 75 = .ok (.aload_n 0, 1) := by decide +kernel
theorem dX8_isSo_76 : decode cX8_isSo 76 = .ok (.getfield 39, 3) := by decide +kernel
theorem dX8_isSo_79 : decode cX8_isSo 79 = .ok (.iconst 2, 1) := by decide +kernel
theorem dX8_isSo_80 : decode cX8_isSo 80 = .ok (.iload_n 3, 1) := by decide +kernel
theorem dX8_isSo_81 : decode cX8_isSo 81 = .ok (.imul, 1) := by decide +kernel
theorem dX8_isSo_82 : decode cX8_isSo 82 = .ok (.iaload, 1) := by decide +kernel
theorem dX8_isSo_83 : decode cX8_isSo 83 = .ok (.if_icmp .ne 7, 3) := by decide +kernel
theorem dX8_isSo_86 : decode cX8_isSo 86 = .ok (.iconst 1, 1) := by decide +kernel
theorem dX8_isSo_87 : decode cX8_isSo 87 = .ok (.goto 4, 3) := by decide +kernel
theorem dX8_isSo_90 : decode cX8_isSo 90 = .ok (.iconst 0, 1) := by decide +kernel
theorem dX8_isSo_91 : decode cX8_isSo 91 = .ok (.istore_n 2, 1) := by decide +kernel
theorem dX8_isSo_92 : decode cX8_isSo 92 = .ok (.iinc 3 1, 3) := by decide +kernel
theorem dX8_isSo_95 : decode cX8_isSo 95 = .ok (.goto (-54), 3) := by decide +kernel
theorem dX8_isSo_98 : decode cX8_isSo 98 = .ok (.iload_n 2, 1) := by decide +kernel
theorem dX8_isSo_99 : decode cX8_isSo 99 = .ok (.ireturn, 1) := by decide +kernel
theorem dX8_likings_0 : decode cX8_likings 0 = .ok (.iload_n 1, 1) := by decide +kernel
theorem dX8_likings_1 : decode cX8_likings 1 = .ok (.iconst 0, 1) := by decide +kernel
theorem dX8_likings_2 : decode cX8_likings 2 = .ok (.iconst 1, 1) := by decide +kernel
theorem dX8_likings_3 : decode cX8_likings 3 = .ok (.invokestatic 69, 3) := by decide +kernel
theorem dX8_likings_6 : decode cX8_likings 6 = .ok (.ifCond .ne 5, 3) := by decide +kernel
theorem dX8_likings_9 : decode cX8_likings 9 = .ok (.iconst (-1), 1) := by decide +kernel
theorem dX8_likings_10 : decode cX8_likings 10 = .ok (.ireturn, 1) := by decide +kernel
theorem dX8_likings_11 : decode cX8_likings 11 = .ok (.iconst 0, 1) := by decide +kernel
theorem dX8_likings_12 : decode cX8_likings 12 = .ok (.istore_n 2, 1) := by decide +kernel
theorem dX8_likings_13 : decode cX8_likings 13 = .ok (.bipush (-9), 2) := by decide +kernel
theorem dX8_likings_15 : decode cX8_likings 15 = .ok (.istore_n 3, 1) := by decide +kernel
theorem dX8_likings_16 : decode cX8_likings 16 = .ok (.iconst 0, 1) := by decide +kernel
theorem dX8_likings_17 : decode cX8_likings 17 = .ok (.istore 4, 2) := by decide +kernel
theorem dX8_likings_19 : decode cX8_likings 19 = .ok (.iload 4, 2) := by decide +kernel
theorem dX8_likings_21 : decode cX8_likings 21 = .ok (.bipush 60, 2) := by decide +kernel
theorem dX8_likings_23 : decode cX8_likings 23 = .ok (.if_icmp .ge 32, 3) := by decide +kernel
theorem dX8_likings_26 : decode cX8_likings 26 = .ok (.aload_n 0, 1) := by decide +kernel
theorem dX8_likings_27 : decode cX8_likings 27 = .ok (.iload 4, 2) := by decide +kernel
theorem dX8_likings_29 : decode cX8_likings 29 = .ok (.invokevirtual 214, 3) := by decide +kernel
theorem dX8_likings_32 : decode cX8_likings 32 = .ok (.ifCond .eq 17, 3) := by decide +kernel
theorem dX8_likings_35 : decode cX8_likings 35 = .ok (.iload_n 2, 1) := by decide +kernel
theorem dX8_likings_36 : decode cX8_likings 36 = .ok (.ifCond .ne 8, 3) := by decide +kernel
theorem dX8_likings_39 : decode cX8_likings 39 = .ok (.iload 4, 2) := by decide +kernel
theorem dX8_likings_41 : decode cX8_likings 41 = .ok (.goto 4, 3) := by decide +kernel
theorem dX8_likings_44 : decode cX8_likings 44 = .ok (.iload_n 3, 1) := by decide +kernel
theorem dX8_likings_45 : decode cX8_likings 45 = .ok (.istore_n 3, 1) := by decide +kernel
theorem dX8_likings_46 : decode cX8_likings 46 = .ok (.iinc 2 1, 3) := by decide +kernel
theorem dX8_likings_49 : decode cX8_likings 49 = .ok (.iinc 4 1, 3) := by decide +kernel
theorem dX8_likings_52 : decode cX8_likings 52 = .ok (.goto (-33), 3) := by decide +kernel
theorem dX8_likings_55 : decode cX8_likings 55 = .ok (.iload_n 1, 1) := by decide +kernel
theorem dX8_likings_56 : decode cX8_likings 56 = .ok (.ifCond .ne 7, 3) := by decide +kernel
theorem dX8_likings_59 : decode cX8_likings 59 = .ok (.iload_n 2, 1) := by decide +kernel
theorem dX8_likings_60 : decode cX8_likings 60 = .ok (.goto 4, 3) := by decide +kernel
theorem dX8_likings_63 : decode cX8_likings 63 = .ok (.iload_n 3, 1) := by decide +kernel
theorem dX8_likings_64 : decode cX8_likings 64 = .ok (.ireturn, 1) := by decide +kernel
theorem dX8_ask_0 : decode cX8_ask 0 = .ok (.aload_n 0, 1) := by decide +kernel
theorem dX8_ask_1 : decode cX8_ask 1 = .ok (.iconst 0, 1) := by decide +kernel
theorem dX8_ask_2 : decode cX8_ask 2 = .ok (.invokevirtual 217, 3) := by decide +kernel
theorem dX8_ask_5 : decode cX8_ask 5 = .ok (.istore_n 1, 1) := by decide +kernel
theorem dX8_ask_6 : decode cX8_ask 6 = .ok (.bipush (-9), 2) := by decide +kernel
theorem dX8_ask_8 : decode cX8_ask 8 = .ok (.istore_n 2, 1) := by decide +kernel
theorem dX8_ask_9 : decode cX8_ask 9 = .ok (.iload_n 1, 1) := by decide +kernel
theorem dX8_ask_10 : decode cX8_ask 10 = .ok (.istore_n 3, 1) := by decide +kernel
theorem dX8_ask_11 : decode cX8_ask 11 = .ok (.iconst 0, 1) := by decide +kernel
theorem dX8_ask_12 : decode cX8_ask 12 = .ok (.istore 4, 2) := by decide +kernel
theorem dX8_ask_14 : decode cX8_ask 14 = .ok (.iload 4, 2) := by decide +kernel
theorem dX8_ask_16 : decode cX8_ask 16 = .ok (.aload_n 0, 1) := by decide +kernel
theorem dX8_ask_17 : decode cX8_ask 17 = .ok (.getfield 7, 3) := by decide +kernel
theorem dX8_ask_20 : decode cX8_ask 20 = .ok (.if_icmp .ge 134, 3) := by decide +kernel
theorem dX8_ask_23 : decode cX8_ask 23 = .ok (.iload 4, 2) := by decide +kernel
theorem dX8_ask_25 : decode cX8_ask 25 = .ok (.iconst 1, 1) := by decide +kernel
theorem dX8_ask_26 : decode cX8_ask 26 = .ok (.iadd, 1) := by decide +kernel
theorem dX8_ask_27 : decode cX8_ask 27 = .ok (.istore 5, 2) := by decide +kernel
theorem dX8_ask_29 : decode cX8_ask 29 = .ok (.iload 5, 2) := by decide +kernel
theorem dX8_ask_31 : decode cX8_ask 31 = .ok (.aload_n 0, 1) := by decide +kernel
theorem dX8_ask_32 : decode cX8_ask 32 = .ok (.getfield 7, 3) := by decide +kernel
theorem dX8_ask_35 : decode cX8_ask 35 = .ok (.if_icmp .ge 113, 3) := by decide +kernel
theorem dX8_ask_38 : decode cX8_ask 38 = .ok (.iconst 0, 1) := by decide +kernel
theorem dX8_ask_39 : decode cX8_ask 39 = .ok (.istore 6, 2) := by decide +kernel
theorem dX8_ask_41 : decode cX8_ask 41 = .ok (.iconst 0, 1) := by decide +kernel
theorem dX8_ask_42 : decode cX8_ask 42 = .ok (.istore 7, 2) := by decide +kernel
theorem dX8_ask_44 : decode cX8_ask 44 = .ok (.iload 7, 2) := by decide +kernel
theorem dX8_ask_46 : decode cX8_ask 46 = .ok (.bipush 60, 2) := by decide +kernel
theorem dX8_ask_48 : decode cX8_ask 48 = .ok (.if_icmp .ge 42, 3) := by decide +kernel
theorem dX8_ask_51 : decode cX8_ask 51 = .ok (.iload 6, 2) := by decide +kernel
theorem dX8_ask_53 : decode cX8_ask 53 = .ok (.aload_n 0, 1) := by decide +kernel
theorem dX8_ask_54 : decode cX8_ask 54 = .ok (.iload 7, 2) := by decide +kernel
theorem dX8_ask_56 : decode cX8_ask 56 = .ok (.invokevirtual 214, 3) := by decide +kernel
theorem dX8_ask_59 : decode cX8_ask 59 = .ok (.ifCond .eq 21, 3) := by decide +kernel
theorem dX8_ask_62 : decode cX8_ask 62 = .ok (.iload 7, 2) := by decide +kernel
theorem dX8_ask_64 : decode cX8_ask 64 = .ok (.iload 4, 2) := by decide +kernel
theorem dX8_ask_66 : decode cX8_ask 66 = .ok (.iload 5, 2) := by decide +kernel
theorem dX8_ask_68 : decode cX8_ask 68 = .ok (.invokestatic 211, 3) := by decide +kernel
theorem dX8_ask_71 : decode cX8_ask 71 = .ok (.iload 4, 2) := by decide +kernel
theorem dX8_ask_73 : decode cX8_ask 73 = .ok (.if_icmp .ne 7, 3) := by decide +kernel
theorem dX8_ask_76 : decode cX8_ask 76 = .ok (.iconst 1, 1) := by decide +kernel
theorem dX8_ask_77 : decode cX8_ask 77 = .ok (.goto 4, 3) := by decide +kernel
theorem dX8_ask_80 : decode cX8_ask 80 = .ok (.iconst 0, 1) := by decide +kernel
theorem dX8_ask_81 : decode cX8_ask 81 = .ok (.iadd, 1) := by decide +kernel
theorem dX8_ask_82 : decode cX8_ask 82 = .ok (.istore 6, 2) := by decide +kernel
theorem dX8_ask_84 : decode cX8_ask 84 = .ok (.iinc 7 1, 3) := by decide +kernel
theorem dX8_ask_87 : decode cX8_ask 87 = .ok (.goto (-43), 3) := by decide +kernel
theorem dX8_ask_90 : decode cX8_ask 90 = .ok (.iload 6, 2) := by decide +kernel
theorem dX8_ask_92 : decode cX8_ask 92 = .ok (.iload_n 1, 1) := by decide +kernel
theorem dX8_ask_93 : decode cX8_ask 93 = .ok (.iload 6, 2) := by decide +kernel
theorem dX8_ask_95 : decode cX8_ask 95 = .ok (.isub, 1) := by decide +kernel
theorem dX8_ask_96 : decode cX8_ask 96 = .ok (.if_icmp .le 8, 3) := by decide +kernel
theorem dX8_ask_99 : decode cX8_ask 99 = .ok (.iload 6, 2) := by decide +kernel
theorem dX8_ask_101 : decode cX8_ask 101 = .ok (.goto 7, 3) := by decide +kernel
theorem dX8_ask_104 : decode cX8_ask 104 = .ok (.iload_n 1, 1) := by decide +kernel
theorem dX8_ask_105 : decode cX8_ask 105 = .ok (.iload 6, 2) := by decide +kernel
theorem dX8_ask_107 : decode cX8_ask 107 = .ok (.isub, 1) := by decide +kernel
theorem dX8_ask_108 : decode cX8_ask 108 = .ok (.istore 7, 2) := by decide +kernel
theorem dX8_ask_110 : decode cX8_ask 110 = .ok (.iload 7, 2) := by decide +kernel
theorem dX8_ask_112 : decode cX8_ask 112 = .ok (.iload_n 3, 1) := by decide +kernel
theorem dX8_ask_113 : decode cX8_ask 113 = .ok (.if_icmp .ge 14, 3) := by decide +kernel
theorem dX8_ask_116 : decode cX8_ask 116 = .ok (.bipush 10, 2) := by decide +kernel
theorem dX8_ask_118 : decode cX8_ask 118 = .ok (.iload 4, 2) := by decide +kernel
theorem dX8_ask_120 : decode cX8_ask 120 = .ok (.imul, 1) := by decide +kernel
theorem dX8_ask_121 : decode cX8_ask 121 = .ok (.iload 5, 2) := by decide +kernel
theorem dX8_ask_123 : decode cX8_ask 123 = .ok (.iadd, 1) := by decide +kernel
theorem dX8_ask_124 : decode cX8_ask 124 = .ok (.goto 4, 3) := by decide +kernel
theorem dX8_ask_127 : decode cX8_ask 127 = .ok (.iload_n 2, 1) := by decide +kernel
theorem dX8_ask_128 : decode cX8_ask 128 = .ok (.istore_n 2, 1) := by decide +kernel
theorem dX8_ask_129 : decode cX8_ask 129 = .ok (.iload 7, 2) := by decide +kernel
theorem dX8_ask_131 : decode cX8_ask 131 = .ok (.iload_n 3, 1) := by decide +kernel
theorem dX8_ask_132 : decode cX8_ask 132 = .ok (.if_icmp .ge 8, 3) := by decide +kernel
theorem dX8_ask_135 : decode cX8_ask 135 = .ok (.iload 7, 2) := by decide +kernel
theorem dX8_ask_137 : decode cX8_ask 137 = .ok (.goto 4, 3) := by decide +kernel
theorem dX8_ask_140 : decode cX8_ask 140 = .ok (.iload_n 3, 1) := by decide +kernel
theorem dX8_ask_141 : decode cX8_ask 141 = .ok (.istore_n 3, 1) := by decide +kernel
theorem dX8_ask_142 : decode cX8_ask 142 = .ok (.iinc 5 1, 3) := by decide +kernel
theorem dX8_ask_145 : decode cX8_ask 145 = .ok (.goto (-116), 3) := by decide +kernel
theorem dX8_ask_148 : decode cX8_ask 148 = .ok (.iinc 4 1, 3) := by decide +kernel
theorem dX8_ask_151 : decode cX8_ask 151 = .ok (.goto (-137), 3) := by decide +kernel
theorem dX8_ask_154 : decode cX8_ask 154 = .ok (.iload_n 2, 1) := by decide +kernel
theorem dX8_ask_155 : decode cX8_ask 155 = .ok (.ireturn, 1) := by decide +kernel
theorem dX8_likedBy_0 : decode cX8_likedBy 0 = .ok (.iconst 0, 1) := by decide +kernel
theorem dX8_likedBy_1 : decode cX8_likedBy 1 = .ok (.istore_n 2, 1) := by decide +kernel
theorem dX8_likedBy_2 : decode cX8_likedBy 2 = .ok (.iconst 0, 1) := by decide +kernel
theorem dX8_likedBy_3 : decode cX8_likedBy 3 = .ok (.istore_n 3, 1) := by decide +kernel
theorem dX8_likedBy_4 : decode cX8_likedBy 4 = .ok (.iload_n 3, 1) := by decide +kernel
theorem dX8_likedBy_5 : decode cX8_likedBy 5 = .ok (.aload_n 0, 1) := by decide +kernel
theorem dX8_likedBy_6 : decode cX8_likedBy 6 = .ok (.getfield 73, 3) := by decide +kernel
theorem dX8_likedBy_9 : decode cX8_likedBy 9 = .ok (.if_icmp .ge 38, 3) := by decide +kernel
theorem dX8_likedBy_12 : decode cX8_likedBy 12 = .ok (.iload_n 2, 1) := by decide +kernel
theorem dX8_likedBy_13 : decode cX8_likedBy 13 = .ok (.aload_n 0, 1) := by decide +kernel
theorem dX8_likedBy_14 : decode cX8_likedBy 14 = .ok (.iload_n 3, 1) := by decide +kernel
theorem dX8_likedBy_15 : decode cX8_likedBy 15 = .ok (.invokevirtual 163, 3) := by decide +kernel
theorem dX8_likedBy_18 : decode cX8_likedBy 18 = .ok (.ifCond .ne 20, 3) := by decide +kernel
theorem dX8_likedBy_21 : decode cX8_likedBy 21 = .ok (.aload_n 0, 1) := by decide +kernel
theorem dX8_likedBy_22 : decode cX8_likedBy 22 = .ok (.getfield 29, 3) := by decide +kernel
theorem dX8_likedBy_25 : decode cX8_likedBy 25 = .ok (.bipush 17, 2) := by decide +kernel
theorem dX8_likedBy_27 : decode cX8_likedBy 27 = .ok (.iload_n 3, 1) := by decide +kernel
theorem dX8_likedBy_28 : decode cX8_likedBy 28 = .ok (.iadd, 1) := by decide +kernel
theorem dX8_likedBy_29 : decode cX8_likedBy 29 = .ok (.iaload, 1) := by decide +kernel
theorem dX8_likedBy_30 : decode cX8_likedBy 30 = .ok (.iload_n 1, 1) := by decide +kernel
theorem dX8_likedBy_31 : decode cX8_likedBy 31 = .ok (.if_icmp .ne 7, 3) := by decide +kernel
theorem dX8_likedBy_34 : decode cX8_likedBy 34 = .ok (.iconst 1, 1) := by decide +kernel
theorem dX8_likedBy_35 : decode cX8_likedBy 35 = .ok (.goto 4, 3) := by decide +kernel
theorem dX8_likedBy_38 : decode cX8_likedBy 38 = .ok (.iconst 0, 1) := by decide +kernel
theorem dX8_likedBy_39 : decode cX8_likedBy 39 = .ok (.iadd, 1) := by decide +kernel
theorem dX8_likedBy_40 : decode cX8_likedBy 40 = .ok (.istore_n 2, 1) := by decide +kernel
theorem dX8_likedBy_41 : decode cX8_likedBy 41 = .ok (.iinc 3 1, 3) := by decide +kernel
theorem dX8_likedBy_44 : decode cX8_likedBy 44 = .ok (.goto (-40), 3) := by decide +kernel
theorem dX8_likedBy_47 : decode cX8_likedBy 47 = .ok (.iload_n 2, 1) := by decide +kernel
theorem dX8_likedBy_48 : decode cX8_likedBy 48 = .ok (.ireturn, 1) := by decide +kernel
theorem dX8_firstOf_0 : decode cX8_firstOf 0 = .ok (.iconst 0, 1) := by decide +kernel
theorem dX8_firstOf_1 : decode cX8_firstOf 1 = .ok (.istore_n 2, 1) := by decide +kernel
theorem dX8_firstOf_2 : decode cX8_firstOf 2 = .ok (.iconst 0, 1) := by decide +kernel
theorem dX8_firstOf_3 : decode cX8_firstOf 3 = .ok (.istore_n 3, 1) := by decide +kernel
theorem dX8_firstOf_4 : decode cX8_firstOf 4 = .ok (.iload_n 3, 1) := by decide +kernel
theorem dX8_firstOf_5 : decode cX8_firstOf 5 = .ok (.aload_n 0, 1) := by decide +kernel
theorem dX8_firstOf_6 : decode cX8_firstOf 6 = .ok (.getfield 76, 3) := by decide +kernel
theorem dX8_firstOf_9 : decode cX8_firstOf 9 = .ok (.if_icmp .ge 27, 3) := by decide +kernel
theorem dX8_firstOf_12 : decode cX8_firstOf 12 = .ok (.iload_n 2, 1) := by decide +kernel
theorem dX8_firstOf_13 : decode cX8_firstOf 13 = .ok (.aload_n 0, 1) := by decide +kernel
theorem dX8_firstOf_14 : decode cX8_firstOf 14 = .ok (.getfield 23, 3) := by decide +kernel
theorem dX8_firstOf_17 : decode cX8_firstOf 17 = .ok (.iload_n 3, 1) := by decide +kernel
theorem dX8_firstOf_18 : decode cX8_firstOf 18 = .ok (.iaload, 1) := by decide +kernel
theorem dX8_firstOf_19 : decode cX8_firstOf 19 = .ok (.iload_n 1, 1) := by decide +kernel
theorem dX8_firstOf_20 : decode cX8_firstOf 20 = .ok (.if_icmp .ne 7, 3) := by decide +kernel
theorem dX8_firstOf_23 : decode cX8_firstOf 23 = .ok (.iconst 1, 1) := by decide +kernel
theorem dX8_firstOf_24 : decode cX8_firstOf 24 = .ok (.goto 4, 3) := by decide +kernel
theorem dX8_firstOf_27 : decode cX8_firstOf 27 = .ok (.iconst 0, 1) := by decide +kernel
theorem dX8_firstOf_28 : decode cX8_firstOf 28 = .ok (.iadd, 1) := by decide +kernel
theorem dX8_firstOf_29 : decode cX8_firstOf 29 = .ok (.istore_n 2, 1) := by decide +kernel
theorem dX8_firstOf_30 : decode cX8_firstOf 30 = .ok (.iinc 3 1, 3) := by decide +kernel
theorem dX8_firstOf_33 : decode cX8_firstOf 33 = .ok (.goto (-29), 3) := by decide +kernel
theorem dX8_firstOf_36 : decode cX8_firstOf 36 = .ok (.iload_n 2, 1) := by decide +kernel
theorem dX8_firstOf_37 : decode cX8_firstOf 37 = .ok (.ireturn, 1) := by decide +kernel
theorem dX8_mark_0 : decode cX8_mark 0 = .ok (.iload_n 1, 1) := by decide +kernel
theorem dX8_mark_1 : decode cX8_mark 1 = .ok (.iconst 0, 1) := by decide +kernel
theorem dX8_mark_2 : decode cX8_mark 2 = .ok (.iconst 5, 1) := by decide +kernel
theorem dX8_mark_3 : decode cX8_mark 3 = .ok (.invokestatic 69, 3) := by decide +kernel
theorem dX8_mark_6 : decode cX8_mark 6 = .ok (.ifCond .eq 11, 3) := by decide +kernel
theorem dX8_mark_9 : decode cX8_mark 9 = .ok (.aload_n 0, 1) := by decide +kernel
theorem dX8_mark_10 : decode cX8_mark 10 = .ok (.iload_n 2, 1) := by decide +kernel
theorem dX8_mark_11 : decode cX8_mark 11 = .ok (.invokevirtual 185, 3) := by decide +kernel
theorem dX8_mark_14 : decode cX8_mark 14 = .ok (.ifCond .ne 6, 3) := by decide +kernel
theorem dX8_mark_17 : decode cX8_mark 17 = .ok (.ldc 220, 2) := by decide +kernel
theorem dX8_mark_19 : decode cX8_mark 19 = .ok (.ireturn, 1) := by decide +kernel
theorem dX8_mark_20 : decode cX8_mark 20 = .ok (.aload_n 0, 1) := by decide +kernel
theorem dX8_mark_21 : decode cX8_mark 21 = .ok (.getfield 29, 3) := by decide +kernel
theorem dX8_mark_24 : decode cX8_mark 24 = .ok (.iconst 3, 1) := by decide +kernel
theorem dX8_mark_25 : decode cX8_mark 25 = .ok (.iload_n 2, 1) := by decide +kernel
theorem dX8_mark_26 : decode cX8_mark 26 = .ok (.iadd, 1) := by decide +kernel
theorem dX8_mark_27 : decode cX8_mark 27 = .ok (.iaload, 1) := by decide +kernel
theorem dX8_mark_28 : decode cX8_mark 28 = .ok (.istore_n 3, 1) := by decide +kernel
theorem dX8_mark_29 : decode cX8_mark 29 = .ok (.iload_n 3, 1) := by decide +kernel
theorem dX8_mark_30 : decode cX8_mark 30 = .ok (.aload_n 0, 1) := by decide +kernel
theorem dX8_mark_31 : decode cX8_mark 31 = .ok (.iload_n 2, 1) := by decide +kernel
theorem dX8_mark_32 : decode cX8_mark 32 = .ok (.invokevirtual 221, 3) := by decide +kernel
theorem dX8_mark_35 : decode cX8_mark 35 = .ok (.iadd, 1) := by decide +kernel
theorem dX8_mark_36 : decode cX8_mark 36 = .ok (.istore 4, 2) := by decide +kernel
theorem dX8_mark_38 : decode cX8_mark 38 = .ok (.iload_n 3, 1) := by decide +kernel
theorem dX8_mark_39 : decode cX8_mark 39 = .ok (.aload_n 0, 1) := by decide +kernel
theorem dX8_mark_40 : decode cX8_mark 40 = .ok (.iload_n 2, 1) := by decide +kernel
theorem dX8_mark_41 : decode cX8_mark 41 = .ok (.invokevirtual 224, 3) := by decide +kernel
theorem dX8_mark_44 : decode cX8_mark 44 = .ok (.isub, 1) := by decide +kernel
theorem dX8_mark_45 : decode cX8_mark 45 = .ok (.istore 5, 2) := by decide +kernel
theorem dX8_mark_47 : decode cX8_mark 47 = .ok (.iload_n 1, 1) := by decide +kernel
theorem dX8_mark_48 : decode cX8_mark 48 = .ok (.tableswitch 121 1 5 #[36, 51, 66, 83, 100], 36) := by decide +kernel
theorem dX8_mark_84 : decode cX8_mark 84 = .ok (.aload_n 0, 1) := by decide +kernel
theorem dX8_mark_85 : decode cX8_mark 85 = .ok (.dup, 1) := by decide +kernel
theorem dX8_mark_86 : decode cX8_mark 86 = .ok (.getfield 227, 3) := by decide +kernel
theorem dX8_mark_89 : decode cX8_mark 89 = .ok (.ldc2_w 231, 3) := by decide +kernel
theorem dX8_mark_92 : decode cX8_mark 92 = .ok (.ladd, 1) := by decide +kernel
theorem dX8_mark_93 : decode cX8_mark 93 = .ok (.putfield 227, 3) := by decide +kernel
theorem dX8_mark_96 : decode cX8_mark 96 = .ok (.iload 4, 2) := by decide +kernel
theorem dX8_mark_98 : decode cX8_mark 98 = .ok (.ireturn, 1) := by decide +kernel
theorem dX8_mark_99 : decode cX8_mark 99 = .ok (.aload_n 0, 1) := by decide +kernel
theorem dX8_mark_100 : decode cX8_mark 100 = .ok (.dup, 1) := by decide +kernel
theorem dX8_mark_101 : decode cX8_mark 101 = .ok (.getfield 227, 3) := by decide +kernel
theorem dX8_mark_104 : decode cX8_mark 104 = .ok (.ldc2_w 233, 3) := by decide +kernel
theorem dX8_mark_107 : decode cX8_mark 107 = .ok (.ladd, 1) := by decide +kernel
theorem dX8_mark_108 : decode cX8_mark 108 = .ok (.putfield 227, 3) := by decide +kernel
theorem dX8_mark_111 : decode cX8_mark 111 = .ok (.iload 5, 2) := by decide +kernel
theorem dX8_mark_113 : decode cX8_mark 113 = .ok (.ireturn, 1) := by decide +kernel
theorem dX8_mark_114 : decode cX8_mark 114 = .ok (.aload_n 0, 1) := by decide +kernel
theorem dX8_mark_115 : decode cX8_mark 115 = .ok (.dup, 1) := by decide +kernel
theorem dX8_mark_116 : decode cX8_mark 116 = .ok (.getfield 227, 3) := by decide +kernel
theorem dX8_mark_119 : decode cX8_mark 119 = .ok (.ldc2_w 235, 3) := by decide +kernel
theorem dX8_mark_122 : decode cX8_mark 122 = .ok (.ladd, 1) := by decide +kernel
theorem dX8_mark_123 : decode cX8_mark 123 = .ok (.putfield 227, 3) := by decide +kernel
theorem dX8_mark_126 : decode cX8_mark 126 = .ok (.iconst 2, 1) := by decide +kernel
theorem dX8_mark_127 : decode cX8_mark 127 = .ok (.iload 4, 2) := by decide +kernel
theorem dX8_mark_129 : decode cX8_mark 129 = .ok (.imul, 1) := by decide +kernel
theorem dX8_mark_130 : decode cX8_mark 130 = .ok (.ireturn, 1) := by decide +kernel
theorem dX8_mark_131 : decode cX8_mark 131 = .ok (.aload_n 0, 1) := by decide +kernel
theorem dX8_mark_132 : decode cX8_mark 132 = .ok (.dup, 1) := by decide +kernel
theorem dX8_mark_133 : decode cX8_mark 133 = .ok (.getfield 227, 3) := by decide +kernel
theorem dX8_mark_136 : decode cX8_mark 136 = .ok (.ldc2_w 237, 3) := by decide +kernel
theorem dX8_mark_139 : decode cX8_mark 139 = .ok (.ladd, 1) := by decide +kernel
theorem dX8_mark_140 : decode cX8_mark 140 = .ok (.putfield 227, 3) := by decide +kernel
theorem dX8_mark_143 : decode cX8_mark 143 = .ok (.iload 5, 2) := by decide +kernel
theorem dX8_mark_145 : decode cX8_mark 145 = .ok (.iload_n 2, 1) := by decide +kernel
theorem dX8_mark_146 : decode cX8_mark 146 = .ok (.iadd, 1) := by decide +kernel
theorem dX8_mark_147 : decode cX8_mark 147 = .ok (.ireturn, 1) := by decide +kernel
theorem dX8_mark_148 : decode cX8_mark 148 = .ok (.aload_n 0, 1) := by decide +kernel
theorem dX8_mark_149 : decode cX8_mark 149 = .ok (.dup, 1) := by decide +kernel
theorem dX8_mark_150 : decode cX8_mark 150 = .ok (.getfield 227, 3) := by decide +kernel
theorem dX8_mark_153 : decode cX8_mark 153 = .ok (.ldc2_w 239, 3) := by decide +kernel
theorem dX8_mark_156 : decode cX8_mark 156 = .ok (.ladd, 1) := by decide +kernel
theorem dX8_mark_157 : decode cX8_mark 157 = .ok (.putfield 227, 3) := by decide +kernel
theorem dX8_mark_160 : decode cX8_mark 160 = .ok (.iload_n 3, 1) := by decide +kernel
theorem dX8_mark_161 : decode cX8_mark 161 = .ok (.aload_n 0, 1) := by decide +kernel
theorem dX8_mark_162 : decode cX8_mark 162 = .ok (.getfield 29, 3) := by decide +kernel
theorem dX8_mark_165 : decode cX8_mark 165 = .ok (.iconst 0, 1) := by decide +kernel
theorem dX8_mark_166 : decode cX8_mark 166 = .ok (.iaload, 1) := by decide +kernel
theorem dX8_mark_167 : decode cX8_mark 167 = .ok (.iadd, 1) := by decide +kernel
theorem dX8_mark_168 : decode cX8_mark 168 = .ok (.ireturn, 1) := by decide +kernel
theorem dX8_mark_169 : decode cX8_mark 169 = .ok (.aload_n 0, 1) := by decide +kernel
theorem dX8_mark_170 : decode cX8_mark 170 = .ok (.dup, 1) := by decide +kernel
theorem dX8_mark_171 : decode cX8_mark 171 = .ok (.getfield 227, 3) := by decide +kernel
theorem dX8_mark_174 : decode cX8_mark 174 = .ok (.lconst 1, 1) := by decide +kernel
theorem dX8_mark_175 : decode cX8_mark 175 = .ok (.ladd, 1) := by decide +kernel
theorem dX8_mark_176 : decode cX8_mark 176 = .ok (.putfield 227, 3) := by decide +kernel
theorem dX8_mark_179 : decode cX8_mark 179 = .ok (.iload_n 3, 1) := by decide +kernel
theorem dX8_mark_180 : decode cX8_mark 180 = .ok (.ireturn, 1) := by decide +kernel
theorem dX8_keep_0 : decode cX8_keep 0 = .ok (.iload_n 1, 1) := by decide +kernel
theorem dX8_keep_1 : decode cX8_keep 1 = .ok (.iconst 0, 1) := by decide +kernel
theorem dX8_keep_2 : decode cX8_keep 2 = .ok (.iconst 1, 1) := by decide +kernel
theorem dX8_keep_3 : decode cX8_keep 3 = .ok (.invokestatic 69, 3) := by decide +kernel
theorem dX8_keep_6 : decode cX8_keep 6 = .ok (.ifCond .ne 5, 3) := by decide +kernel
theorem dX8_keep_9 : decode cX8_keep 9 = .ok (.iconst (-1), 1) := by decide +kernel
theorem dX8_keep_10 : decode cX8_keep 10 = .ok (.ireturn, 1) := by decide +kernel
theorem dX8_keep_11 : decode cX8_keep 11 = .ok (.iconst 0, 1) := by decide +kernel
theorem dX8_keep_12 : decode cX8_keep 12 = .ok (.istore_n 2, 1) := by decide +kernel
theorem dX8_keep_13 : decode cX8_keep 13 = .ok (.iload_n 2, 1) := by decide +kernel
theorem dX8_keep_14 : decode cX8_keep 14 = .ok (.sipush 298, 3) := by decide +kernel
theorem dX8_keep_17 : decode cX8_keep 17 = .ok (.if_icmp .ge 27, 3) := by decide +kernel
theorem dX8_keep_20 : decode cX8_keep 20 = .ok (.aload_n 0, 1) := by decide +kernel
theorem dX8_keep_21 : decode cX8_keep 21 = .ok (.getfield 32, 3) := by decide +kernel
theorem dX8_keep_24 : decode cX8_keep 24 = .ok (.sipush 298, 3) := by decide +kernel
theorem dX8_keep_27 : decode cX8_keep 27 = .ok (.iload_n 1, 1) := by decide +kernel
theorem dX8_keep_28 : decode cX8_keep 28 = .ok (.imul, 1) := by decide +kernel
theorem dX8_keep_29 : decode cX8_keep 29 = .ok (.iload_n 2, 1) := by decide +kernel
theorem dX8_keep_30 : decode cX8_keep 30 = .ok (.iadd, 1) := by decide +kernel
theorem dX8_keep_31 : decode cX8_keep 31 = .ok (.aload_n 0, 1) := by decide +kernel
theorem dX8_keep_32 : decode cX8_keep 32 = .ok (.getfield 29, 3) := by decide +kernel
theorem dX8_keep_35 : decode cX8_keep 35 = .ok (.iload_n 2, 1) := by decide +kernel
theorem dX8_keep_36 : decode cX8_keep 36 = .ok (.iaload, 1) := by decide +kernel
theorem dX8_keep_37 : decode cX8_keep 37 = .ok (.iastore, 1) := by decide +kernel
theorem dX8_keep_38 : decode cX8_keep 38 = .ok (.iinc 2 1, 3) := by decide +kernel
theorem dX8_keep_41 : decode cX8_keep 41 = .ok (.goto (-28), 3) := by decide +kernel
theorem dX8_keep_44 : decode cX8_keep 44 = .ok (.aload_n 0, 1) := by decide +kernel
theorem dX8_keep_45 : decode cX8_keep 45 = .ok (.getfield 35, 3) := by decide +kernel
theorem dX8_keep_48 : decode cX8_keep 48 = .ok (.iload_n 1, 1) := by decide +kernel
theorem dX8_keep_49 : decode cX8_keep 49 = .ok (.iconst 1, 1) := by decide +kernel
theorem dX8_keep_50 : decode cX8_keep 50 = .ok (.bastore, 1) := by decide +kernel
theorem dX8_keep_51 : decode cX8_keep 51 = .ok (.aload_n 0, 1) := by decide +kernel
theorem dX8_keep_52 : decode cX8_keep 52 = .ok (.getfield 29, 3) := by decide +kernel
theorem dX8_keep_55 : decode cX8_keep 55 = .ok (.iconst 0, 1) := by decide +kernel
theorem dX8_keep_56 : decode cX8_keep 56 = .ok (.iaload, 1) := by decide +kernel
theorem dX8_keep_57 : decode cX8_keep 57 = .ok (.ireturn, 1) := by decide +kernel
theorem dX8_back_0 : decode cX8_back 0 = .ok (.iload_n 1, 1) := by decide +kernel
theorem dX8_back_1 : decode cX8_back 1 = .ok (.iconst 0, 1) := by decide +kernel
theorem dX8_back_2 : decode cX8_back 2 = .ok (.iconst 1, 1) := by decide +kernel
theorem dX8_back_3 : decode cX8_back 3 = .ok (.invokestatic 69, 3) := by decide +kernel
theorem dX8_back_6 : decode cX8_back 6 = .ok (.ifCond .ne 5, 3) := by decide +kernel
theorem dX8_back_9 : decode cX8_back 9 = .ok (.iconst (-1), 1) := by decide +kernel
theorem dX8_back_10 : decode cX8_back 10 = .ok (.ireturn, 1) := by decide +kernel
theorem dX8_back_11 : decode cX8_back 11 = .ok (.aload_n 0, 1) := by decide +kernel
theorem dX8_back_12 : decode cX8_back 12 = .ok (.getfield 35, 3) := by decide +kernel
theorem dX8_back_15 : decode cX8_back 15 = .ok (.iload_n 1, 1) := by decide +kernel
theorem dX8_back_16 : decode cX8_back 16 = .ok (.baload, 1) := by decide +kernel
theorem dX8_back_17 : decode cX8_back 17 = .ok (.ifCond .ne 6, 3) := by decide +kernel
theorem dX8_back_20 : decode cX8_back 20 = .ok (.bipush (-2), 2) := by decide +kernel
theorem dX8_back_22 : decode cX8_back 22 = .ok (.ireturn, 1) := by decide +kernel
theorem dX8_back_23 : decode cX8_back 23 = .ok (.iconst 0, 1) := by decide +kernel
theorem dX8_back_24 : decode cX8_back 24 = .ok (.istore_n 2, 1) := by decide +kernel
theorem dX8_back_25 : decode cX8_back 25 = .ok (.iload_n 2, 1) := by decide +kernel
theorem dX8_back_26 : decode cX8_back 26 = .ok (.sipush 298, 3) := by decide +kernel
theorem dX8_back_29 : decode cX8_back 29 = .ok (.if_icmp .ge 27, 3) := by decide +kernel
theorem dX8_back_32 : decode cX8_back 32 = .ok (.aload_n 0, 1) := by decide +kernel
theorem dX8_back_33 : decode cX8_back 33 = .ok (.getfield 29, 3) := by decide +kernel
theorem dX8_back_36 : decode cX8_back 36 = .ok (.iload_n 2, 1) := by decide +kernel
theorem dX8_back_37 : decode cX8_back 37 = .ok (.aload_n 0, 1) := by decide +kernel
theorem dX8_back_38 : decode cX8_back 38 = .ok (.getfield 32, 3) := by decide +kernel
theorem dX8_back_41 : decode cX8_back 41 = .ok (.sipush 298, 3) := by decide +kernel
theorem dX8_back_44 : decode cX8_back 44 = .ok (.iload_n 1, 1) := by decide +kernel
theorem dX8_back_45 : decode cX8_back 45 = .ok (.imul, 1) := by decide +kernel
theorem dX8_back_46 : decode cX8_back 46 = .ok (.iload_n 2, 1) := by decide +kernel
theorem dX8_back_47 : decode cX8_back 47 = .ok (.iadd, 1) := by decide +kernel
theorem dX8_back_48 : decode cX8_back 48 = .ok (.iaload, 1) := by decide +kernel
theorem dX8_back_49 : decode cX8_back 49 = .ok (.iastore, 1) := by decide +kernel
theorem dX8_back_50 : decode cX8_back 50 = .ok (.iinc 2 1, 3) := by decide +kernel
theorem dX8_back_53 : decode cX8_back 53 = .ok (.goto (-28), 3) := by decide +kernel
theorem dX8_back_56 : decode cX8_back 56 = .ok (.aload_n 0, 1) := by decide +kernel
theorem dX8_back_57 : decode cX8_back 57 = .ok (.getfield 29, 3) := by decide +kernel
theorem dX8_back_60 : decode cX8_back 60 = .ok (.iconst 0, 1) := by decide +kernel
theorem dX8_back_61 : decode cX8_back 61 = .ok (.iaload, 1) := by decide +kernel
theorem dX8_back_62 : decode cX8_back 62 = .ok (.ireturn, 1) := by decide +kernel
theorem dX8_count_0 : decode cX8_count 0 = .ok (.iload_n 1, 1) := by decide +kernel
theorem dX8_count_1 : decode cX8_count 1 = .ok (.tableswitch 81 0 6 #[43, 48, 53, 58, 63, 68, 76], 43) := by decide +kernel
theorem dX8_count_44 : decode cX8_count 44 = .ok (.aload_n 0, 1) := by decide +kernel
theorem dX8_count_45 : decode cX8_count 45 = .ok (.getfield 7, 3) := by decide +kernel
theorem dX8_count_48 : decode cX8_count 48 = .ok (.ireturn, 1) := by decide +kernel
theorem dX8_count_49 : decode cX8_count 49 = .ok (.aload_n 0, 1) := by decide +kernel
theorem dX8_count_50 : decode cX8_count 50 = .ok (.getfield 13, 3) := by decide +kernel
theorem dX8_count_53 : decode cX8_count 53 = .ok (.ireturn, 1) := by decide +kernel
theorem dX8_count_54 : decode cX8_count 54 = .ok (.aload_n 0, 1) := by decide +kernel
theorem dX8_count_55 : decode cX8_count 55 = .ok (.getfield 73, 3) := by decide +kernel
theorem dX8_count_58 : decode cX8_count 58 = .ok (.ireturn, 1) := by decide +kernel
theorem dX8_count_59 : decode cX8_count 59 = .ok (.aload_n 0, 1) := by decide +kernel
theorem dX8_count_60 : decode cX8_count 60 = .ok (.getfield 76, 3) := by decide +kernel
theorem dX8_count_63 : decode cX8_count 63 = .ok (.ireturn, 1) := by decide +kernel
theorem dX8_count_64 : decode cX8_count 64 = .ok (.aload_n 0, 1) := by decide +kernel
theorem dX8_count_65 : decode cX8_count 65 = .ok (.getfield 156, 3) := by decide +kernel
theorem dX8_count_68 : decode cX8_count 68 = .ok (.ireturn, 1) := by decide +kernel
theorem dX8_count_69 : decode cX8_count 69 = .ok (.aload_n 0, 1) := by decide +kernel
theorem dX8_count_70 : decode cX8_count 70 = .ok (.getfield 29, 3) := by decide +kernel
theorem dX8_count_73 : decode cX8_count 73 = .ok (.bipush 27, 2) := by decide +kernel
theorem dX8_count_75 : decode cX8_count 75 = .ok (.iaload, 1) := by decide +kernel
theorem dX8_count_76 : decode cX8_count 76 = .ok (.ireturn, 1) := by decide +kernel
theorem dX8_count_77 : decode cX8_count 77 = .ok (.aload_n 0, 1) := by decide +kernel
theorem dX8_count_78 : decode cX8_count 78 = .ok (.getfield 79, 3) := by decide +kernel
theorem dX8_count_81 : decode cX8_count 81 = .ok (.ireturn, 1) := by decide +kernel
theorem dX8_count_82 : decode cX8_count 82 = .ok (.iconst (-1), 1) := by decide +kernel
theorem dX8_count_83 : decode cX8_count 83 = .ok (.ireturn, 1) := by decide +kernel
theorem dX8_trace_0 : decode cX8_trace 0 = .ok (.aload_n 0, 1) := by decide +kernel
theorem dX8_trace_1 : decode cX8_trace 1 = .ok (.getfield 227, 3) := by decide +kernel
theorem dX8_trace_4 : decode cX8_trace 4 = .ok (.lreturn, 1) := by decide +kernel
theorem dJ6_numberOfTrailingZeros_0f7a4_0 : decode cJ6_numberOfTrailingZeros_0f7a4 0 = .ok (.iload_n 0, 1) := by decide +kernel
theorem dJ6_numberOfTrailingZeros_0f7a4_1 : decode cJ6_numberOfTrailingZeros_0f7a4 1 = .ok (.iconst (-1), 1) := by decide +kernel
theorem dJ6_numberOfTrailingZeros_0f7a4_2 : decode cJ6_numberOfTrailingZeros_0f7a4 2 = .ok (.ixor, 1) := by decide +kernel
theorem dJ6_numberOfTrailingZeros_0f7a4_3 : decode cJ6_numberOfTrailingZeros_0f7a4 3 = .ok (.iload_n 0, 1) := by decide +kernel
theorem dJ6_numberOfTrailingZeros_0f7a4_4 : decode cJ6_numberOfTrailingZeros_0f7a4 4 = .ok (.iconst 1, 1) := by decide +kernel
theorem dJ6_numberOfTrailingZeros_0f7a4_5 : decode cJ6_numberOfTrailingZeros_0f7a4 5 = .ok (.isub, 1) := by decide +kernel
theorem dJ6_numberOfTrailingZeros_0f7a4_6 : decode cJ6_numberOfTrailingZeros_0f7a4 6 = .ok (.iand, 1) := by decide +kernel
theorem dJ6_numberOfTrailingZeros_0f7a4_7 : decode cJ6_numberOfTrailingZeros_0f7a4 7 = .ok (.istore_n 0, 1) := by decide +kernel
theorem dJ6_numberOfTrailingZeros_0f7a4_8 : decode cJ6_numberOfTrailingZeros_0f7a4 8 = .ok (.iload_n 0, 1) := by decide +kernel
theorem dJ6_numberOfTrailingZeros_0f7a4_9 : decode cJ6_numberOfTrailingZeros_0f7a4 9 = .ok (.ifCond .gt 8, 3) := by decide +kernel
theorem dJ6_numberOfTrailingZeros_0f7a4_12 : decode cJ6_numberOfTrailingZeros_0f7a4 12 = .ok (.iload_n 0, 1) := by decide +kernel
theorem dJ6_numberOfTrailingZeros_0f7a4_13 : decode cJ6_numberOfTrailingZeros_0f7a4 13 = .ok (.bipush 32, 2) := by decide +kernel
theorem dJ6_numberOfTrailingZeros_0f7a4_15 : decode cJ6_numberOfTrailingZeros_0f7a4 15 = .ok (.iand, 1) := by decide +kernel
theorem dJ6_numberOfTrailingZeros_0f7a4_16 : decode cJ6_numberOfTrailingZeros_0f7a4 16 = .ok (.ireturn, 1) := by decide +kernel
theorem dJ6_numberOfTrailingZeros_0f7a4_17 : decode cJ6_numberOfTrailingZeros_0f7a4 17 = .ok (.iconst 1, 1) := by decide +kernel
theorem dJ6_numberOfTrailingZeros_0f7a4_18 : decode cJ6_numberOfTrailingZeros_0f7a4 18 = .ok (.istore_n 1, 1) := by decide +kernel
theorem dJ6_numberOfTrailingZeros_0f7a4_19 : decode cJ6_numberOfTrailingZeros_0f7a4 19 = .ok (.iload_n 0, 1) := by decide +kernel
theorem dJ6_numberOfTrailingZeros_0f7a4_20 : decode cJ6_numberOfTrailingZeros_0f7a4 20 = .ok (.ldc_w 264, 3) := by decide +kernel
theorem dJ6_numberOfTrailingZeros_0f7a4_23 : decode cJ6_numberOfTrailingZeros_0f7a4 23 = .ok (.if_icmp .le 11, 3) := by decide +kernel
theorem dJ6_numberOfTrailingZeros_0f7a4_26 : decode cJ6_numberOfTrailingZeros_0f7a4 26 = .ok (.iinc 1 16, 3) := by decide +kernel
theorem dJ6_numberOfTrailingZeros_0f7a4_29 : decode cJ6_numberOfTrailingZeros_0f7a4 29 = .ok (.iload_n 0, 1) := by decide +kernel
theorem dJ6_numberOfTrailingZeros_0f7a4_30 : decode cJ6_numberOfTrailingZeros_0f7a4 30 = .ok (.bipush 16, 2) := by decide +kernel
theorem dJ6_numberOfTrailingZeros_0f7a4_32 : decode cJ6_numberOfTrailingZeros_0f7a4 32 = .ok (.iushr, 1) := by decide +kernel
theorem dJ6_numberOfTrailingZeros_0f7a4_33 : decode cJ6_numberOfTrailingZeros_0f7a4 33 = .ok (.istore_n 0, 1) := by decide +kernel
theorem dJ6_numberOfTrailingZeros_0f7a4_34 : decode cJ6_numberOfTrailingZeros_0f7a4 34 = .ok (.iload_n 0, 1) := by decide +kernel
theorem dJ6_numberOfTrailingZeros_0f7a4_35 : decode cJ6_numberOfTrailingZeros_0f7a4 35 = .ok (.sipush 256, 3) := by decide +kernel
theorem dJ6_numberOfTrailingZeros_0f7a4_38 : decode cJ6_numberOfTrailingZeros_0f7a4 38 = .ok (.if_icmp .le 11, 3) := by decide +kernel
theorem dJ6_numberOfTrailingZeros_0f7a4_41 : decode cJ6_numberOfTrailingZeros_0f7a4 41 = .ok (.iinc 1 8, 3) := by decide +kernel
theorem dJ6_numberOfTrailingZeros_0f7a4_44 : decode cJ6_numberOfTrailingZeros_0f7a4 44 = .ok (.iload_n 0, 1) := by decide +kernel
theorem dJ6_numberOfTrailingZeros_0f7a4_45 : decode cJ6_numberOfTrailingZeros_0f7a4 45 = .ok (.bipush 8, 2) := by decide +kernel
theorem dJ6_numberOfTrailingZeros_0f7a4_47 : decode cJ6_numberOfTrailingZeros_0f7a4 47 = .ok (.iushr, 1) := by decide +kernel
theorem dJ6_numberOfTrailingZeros_0f7a4_48 : decode cJ6_numberOfTrailingZeros_0f7a4 48 = .ok (.istore_n 0, 1) := by decide +kernel
theorem dJ6_numberOfTrailingZeros_0f7a4_49 : decode cJ6_numberOfTrailingZeros_0f7a4 49 = .ok (.iload_n 0, 1) := by decide +kernel
theorem dJ6_numberOfTrailingZeros_0f7a4_50 : decode cJ6_numberOfTrailingZeros_0f7a4 50 = .ok (.bipush 16, 2) := by decide +kernel
theorem dJ6_numberOfTrailingZeros_0f7a4_52 : decode cJ6_numberOfTrailingZeros_0f7a4 52 = .ok (.if_icmp .le 10, 3) := by decide +kernel
theorem dJ6_numberOfTrailingZeros_0f7a4_55 : decode cJ6_numberOfTrailingZeros_0f7a4 55 = .ok (.iinc 1 4, 3) := by decide +kernel
theorem dJ6_numberOfTrailingZeros_0f7a4_58 : decode cJ6_numberOfTrailingZeros_0f7a4 58 = .ok (.iload_n 0, 1) := by decide +kernel
theorem dJ6_numberOfTrailingZeros_0f7a4_59 : decode cJ6_numberOfTrailingZeros_0f7a4 59 = .ok (.iconst 4, 1) := by decide +kernel
theorem dJ6_numberOfTrailingZeros_0f7a4_60 : decode cJ6_numberOfTrailingZeros_0f7a4 60 = .ok (.iushr, 1) := by decide +kernel
theorem dJ6_numberOfTrailingZeros_0f7a4_61 : decode cJ6_numberOfTrailingZeros_0f7a4 61 = .ok (.istore_n 0, 1) := by decide +kernel
theorem dJ6_numberOfTrailingZeros_0f7a4_62 : decode cJ6_numberOfTrailingZeros_0f7a4 62 = .ok (.iload_n 0, 1) := by decide +kernel
theorem dJ6_numberOfTrailingZeros_0f7a4_63 : decode cJ6_numberOfTrailingZeros_0f7a4 63 = .ok (.iconst 4, 1) := by decide +kernel
theorem dJ6_numberOfTrailingZeros_0f7a4_64 : decode cJ6_numberOfTrailingZeros_0f7a4 64 = .ok (.if_icmp .le 10, 3) := by decide +kernel
theorem dJ6_numberOfTrailingZeros_0f7a4_67 : decode cJ6_numberOfTrailingZeros_0f7a4 67 = .ok (.iinc 1 2, 3) := by decide +kernel
theorem dJ6_numberOfTrailingZeros_0f7a4_70 : decode cJ6_numberOfTrailingZeros_0f7a4 70 = .ok (.iload_n 0, 1) := by decide +kernel
theorem dJ6_numberOfTrailingZeros_0f7a4_71 : decode cJ6_numberOfTrailingZeros_0f7a4 71 = .ok (.iconst 2, 1) := by decide +kernel
theorem dJ6_numberOfTrailingZeros_0f7a4_72 : decode cJ6_numberOfTrailingZeros_0f7a4 72 = .ok (.iushr, 1) := by decide +kernel
theorem dJ6_numberOfTrailingZeros_0f7a4_73 : decode cJ6_numberOfTrailingZeros_0f7a4 73 = .ok (.istore_n 0, 1) := by decide +kernel
theorem dJ6_numberOfTrailingZeros_0f7a4_74 : decode cJ6_numberOfTrailingZeros_0f7a4 74 = .ok (.iload_n 1, 1) := by decide +kernel
theorem dJ6_numberOfTrailingZeros_0f7a4_75 : decode cJ6_numberOfTrailingZeros_0f7a4 75 = .ok (.iload_n 0, 1) := by decide +kernel
theorem dJ6_numberOfTrailingZeros_0f7a4_76 : decode cJ6_numberOfTrailingZeros_0f7a4 76 = .ok (.iconst 1, 1) := by decide +kernel
theorem dJ6_numberOfTrailingZeros_0f7a4_77 : decode cJ6_numberOfTrailingZeros_0f7a4 77 = .ok (.iushr, 1) := by decide +kernel
theorem dJ6_numberOfTrailingZeros_0f7a4_78 : decode cJ6_numberOfTrailingZeros_0f7a4 78 = .ok (.iadd, 1) := by decide +kernel
theorem dJ6_numberOfTrailingZeros_0f7a4_79 : decode cJ6_numberOfTrailingZeros_0f7a4 79 = .ok (.ireturn, 1) := by decide +kernel
theorem dJ6_bitCount_0f7a4_0 : decode cJ6_bitCount_0f7a4 0 = .ok (.iload_n 0, 1) := by decide +kernel
theorem dJ6_bitCount_0f7a4_1 : decode cJ6_bitCount_0f7a4 1 = .ok (.iload_n 0, 1) := by decide +kernel
theorem dJ6_bitCount_0f7a4_2 : decode cJ6_bitCount_0f7a4 2 = .ok (.iconst 1, 1) := by decide +kernel
theorem dJ6_bitCount_0f7a4_3 : decode cJ6_bitCount_0f7a4 3 = .ok (.iushr, 1) := by decide +kernel
theorem dJ6_bitCount_0f7a4_4 : decode cJ6_bitCount_0f7a4 4 = .ok (.ldc_w 265, 3) := by decide +kernel
theorem dJ6_bitCount_0f7a4_7 : decode cJ6_bitCount_0f7a4 7 = .ok (.iand, 1) := by decide +kernel
theorem dJ6_bitCount_0f7a4_8 : decode cJ6_bitCount_0f7a4 8 = .ok (.isub, 1) := by decide +kernel
theorem dJ6_bitCount_0f7a4_9 : decode cJ6_bitCount_0f7a4 9 = .ok (.istore_n 0, 1) := by decide +kernel
theorem dJ6_bitCount_0f7a4_10 : decode cJ6_bitCount_0f7a4 10 = .ok (.iload_n 0, 1) := by decide +kernel
theorem dJ6_bitCount_0f7a4_11 : decode cJ6_bitCount_0f7a4 11 = .ok (.ldc_w 266, 3) := by decide +kernel
theorem dJ6_bitCount_0f7a4_14 : decode cJ6_bitCount_0f7a4 14 = .ok (.iand, 1) := by decide +kernel
theorem dJ6_bitCount_0f7a4_15 : decode cJ6_bitCount_0f7a4 15 = .ok (.iload_n 0, 1) := by decide +kernel
theorem dJ6_bitCount_0f7a4_16 : decode cJ6_bitCount_0f7a4 16 = .ok (.iconst 2, 1) := by decide +kernel
theorem dJ6_bitCount_0f7a4_17 : decode cJ6_bitCount_0f7a4 17 = .ok (.iushr, 1) := by decide +kernel
theorem dJ6_bitCount_0f7a4_18 : decode cJ6_bitCount_0f7a4 18 = .ok (.ldc_w 266, 3) := by decide +kernel
theorem dJ6_bitCount_0f7a4_21 : decode cJ6_bitCount_0f7a4 21 = .ok (.iand, 1) := by decide +kernel
theorem dJ6_bitCount_0f7a4_22 : decode cJ6_bitCount_0f7a4 22 = .ok (.iadd, 1) := by decide +kernel
theorem dJ6_bitCount_0f7a4_23 : decode cJ6_bitCount_0f7a4 23 = .ok (.istore_n 0, 1) := by decide +kernel
theorem dJ6_bitCount_0f7a4_24 : decode cJ6_bitCount_0f7a4 24 = .ok (.iload_n 0, 1) := by decide +kernel
theorem dJ6_bitCount_0f7a4_25 : decode cJ6_bitCount_0f7a4 25 = .ok (.iload_n 0, 1) := by decide +kernel
theorem dJ6_bitCount_0f7a4_26 : decode cJ6_bitCount_0f7a4 26 = .ok (.iconst 4, 1) := by decide +kernel
theorem dJ6_bitCount_0f7a4_27 : decode cJ6_bitCount_0f7a4 27 = .ok (.iushr, 1) := by decide +kernel
theorem dJ6_bitCount_0f7a4_28 : decode cJ6_bitCount_0f7a4 28 = .ok (.iadd, 1) := by decide +kernel
theorem dJ6_bitCount_0f7a4_29 : decode cJ6_bitCount_0f7a4 29 = .ok (.ldc_w 267, 3) := by decide +kernel
theorem dJ6_bitCount_0f7a4_32 : decode cJ6_bitCount_0f7a4 32 = .ok (.iand, 1) := by decide +kernel
theorem dJ6_bitCount_0f7a4_33 : decode cJ6_bitCount_0f7a4 33 = .ok (.istore_n 0, 1) := by decide +kernel
theorem dJ6_bitCount_0f7a4_34 : decode cJ6_bitCount_0f7a4 34 = .ok (.iload_n 0, 1) := by decide +kernel
theorem dJ6_bitCount_0f7a4_35 : decode cJ6_bitCount_0f7a4 35 = .ok (.iload_n 0, 1) := by decide +kernel
theorem dJ6_bitCount_0f7a4_36 : decode cJ6_bitCount_0f7a4 36 = .ok (.bipush 8, 2) := by decide +kernel
theorem dJ6_bitCount_0f7a4_38 : decode cJ6_bitCount_0f7a4 38 = .ok (.iushr, 1) := by decide +kernel
theorem dJ6_bitCount_0f7a4_39 : decode cJ6_bitCount_0f7a4 39 = .ok (.iadd, 1) := by decide +kernel
theorem dJ6_bitCount_0f7a4_40 : decode cJ6_bitCount_0f7a4 40 = .ok (.istore_n 0, 1) := by decide +kernel
theorem dJ6_bitCount_0f7a4_41 : decode cJ6_bitCount_0f7a4 41 = .ok (.iload_n 0, 1) := by decide +kernel
theorem dJ6_bitCount_0f7a4_42 : decode cJ6_bitCount_0f7a4 42 = .ok (.iload_n 0, 1) := by decide +kernel
theorem dJ6_bitCount_0f7a4_43 : decode cJ6_bitCount_0f7a4 43 = .ok (.bipush 16, 2) := by decide +kernel
theorem dJ6_bitCount_0f7a4_45 : decode cJ6_bitCount_0f7a4 45 = .ok (.iushr, 1) := by decide +kernel
theorem dJ6_bitCount_0f7a4_46 : decode cJ6_bitCount_0f7a4 46 = .ok (.iadd, 1) := by decide +kernel
theorem dJ6_bitCount_0f7a4_47 : decode cJ6_bitCount_0f7a4 47 = .ok (.istore_n 0, 1) := by decide +kernel
theorem dJ6_bitCount_0f7a4_48 : decode cJ6_bitCount_0f7a4 48 = .ok (.iload_n 0, 1) := by decide +kernel
theorem dJ6_bitCount_0f7a4_49 : decode cJ6_bitCount_0f7a4 49 = .ok (.bipush 63, 2) := by decide +kernel
theorem dJ6_bitCount_0f7a4_51 : decode cJ6_bitCount_0f7a4 51 = .ok (.iand, 1) := by decide +kernel
theorem dJ6_bitCount_0f7a4_52 : decode cJ6_bitCount_0f7a4 52 = .ok (.ireturn, 1) := by decide +kernel
theorem dJ9_max_7cf53_0 : decode cJ9_max_7cf53 0 = .ok (.iload_n 0, 1) := by decide +kernel
theorem dJ9_max_7cf53_1 : decode cJ9_max_7cf53 1 = .ok (.iload_n 1, 1) := by decide +kernel
theorem dJ9_max_7cf53_2 : decode cJ9_max_7cf53 2 = .ok (.if_icmp .lt 7, 3) := by decide +kernel
theorem dJ9_max_7cf53_5 : decode cJ9_max_7cf53 5 = .ok (.iload_n 0, 1) := by decide +kernel
theorem dJ9_max_7cf53_6 : decode cJ9_max_7cf53 6 = .ok (.goto 4, 3) := by decide +kernel
theorem dJ9_max_7cf53_9 : decode cJ9_max_7cf53 9 = .ok (.iload_n 1, 1) := by decide +kernel
theorem dJ9_max_7cf53_10 : decode cJ9_max_7cf53 10 = .ok (.ireturn, 1) := by decide +kernel
theorem dJ9_min_7cf53_0 : decode cJ9_min_7cf53 0 = .ok (.iload_n 0, 1) := by decide +kernel
theorem dJ9_min_7cf53_1 : decode cJ9_min_7cf53 1 = .ok (.iload_n 1, 1) := by decide +kernel
theorem dJ9_min_7cf53_2 : decode cJ9_min_7cf53 2 = .ok (.if_icmp .gt 7, 3) := by decide +kernel
theorem dJ9_min_7cf53_5 : decode cJ9_min_7cf53 5 = .ok (.iload_n 0, 1) := by decide +kernel
theorem dJ9_min_7cf53_6 : decode cJ9_min_7cf53 6 = .ok (.goto 4, 3) := by decide +kernel
theorem dJ9_min_7cf53_9 : decode cJ9_min_7cf53 9 = .ok (.iload_n 1, 1) := by decide +kernel
theorem dJ9_min_7cf53_10 : decode cJ9_min_7cf53 10 = .ok (.ireturn, 1) := by decide +kernel
theorem dL_law_0 : decode cL_law 0 = .ok (.new 7, 3) := by decide +kernel
theorem dL_law_3 : decode cL_law 3 = .ok (.dup, 1) := by decide +kernel
theorem dL_law_4 : decode cL_law 4 = .ok (.invokespecial 9, 3) := by decide +kernel
theorem dL_law_7 : decode cL_law 7 = .ok (.astore_n 1, 1) := by decide +kernel
theorem dL_law_8 : decode cL_law 8 = .ok (.new 10, 3) := by decide +kernel
theorem dL_law_11 : decode cL_law 11 = .ok (.dup, 1) := by decide +kernel
theorem dL_law_12 : decode cL_law 12 = .ok (.invokespecial 12, 3) := by decide +kernel
theorem dL_law_15 : decode cL_law 15 = .ok (.astore_n 2, 1) := by decide +kernel
theorem dL_law_16 : decode cL_law 16 = .ok (.iconst 0, 1) := by decide +kernel
theorem dL_law_17 : decode cL_law 17 = .ok (.istore_n 3, 1) := by decide +kernel
theorem dL_law_18 : decode cL_law 18 = .ok (.iload_n 3, 1) := by decide +kernel
theorem dL_law_19 : decode cL_law 19 = .ok (.aload_n 0, 1) := by decide +kernel
theorem dL_law_20 : decode cL_law 20 = .ok (.arraylength, 1) := by decide +kernel
theorem dL_law_21 : decode cL_law 21 = .ok (.iconst 4, 1) := by decide +kernel
theorem dL_law_22 : decode cL_law 22 = .ok (.isub, 1) := by decide +kernel
theorem dL_law_23 : decode cL_law 23 = .ok (.if_icmp .gt 754, 3) := by decide +kernel
theorem dL_law_26 : decode cL_law 26 = .ok (.aload_n 0, 1) := by decide +kernel
theorem dL_law_27 : decode cL_law 27 = .ok (.iload_n 3, 1) := by decide +kernel
theorem dL_law_28 : decode cL_law 28 = .ok (.iaload, 1) := by decide +kernel
theorem dL_law_29 : decode cL_law 29 = .ok (.bipush 31, 2) := by decide +kernel
theorem dL_law_31 : decode cL_law 31 = .ok (.iand, 1) := by decide +kernel
theorem dL_law_32 : decode cL_law 32 = .ok (.tableswitch 739 0 25 #[120, 143, 156, 169, 202, 235, 268, 281, 304, 337, 360, 383, 396, 419, 452, 475, 498, 541, 574, 587, 610, 623, 656, 679, 702, 725], 120) := by decide +kernel
theorem dL_law_152 : decode cL_law 152 = .ok (.aload_n 1, 1) := by decide +kernel
theorem dL_law_153 : decode cL_law 153 = .ok (.aload_n 0, 1) := by decide +kernel
theorem dL_law_154 : decode cL_law 154 = .ok (.iload_n 3, 1) := by decide +kernel
theorem dL_law_155 : decode cL_law 155 = .ok (.iconst 1, 1) := by decide +kernel
theorem dL_law_156 : decode cL_law 156 = .ok (.iadd, 1) := by decide +kernel
theorem dL_law_157 : decode cL_law 157 = .ok (.iaload, 1) := by decide +kernel
theorem dL_law_158 : decode cL_law 158 = .ok (.invokevirtual 13, 3) := by decide +kernel
theorem dL_law_161 : decode cL_law 161 = .ok (.aload_n 2, 1) := by decide +kernel
theorem dL_law_162 : decode cL_law 162 = .ok (.aload_n 0, 1) := by decide +kernel
theorem dL_law_163 : decode cL_law 163 = .ok (.iload_n 3, 1) := by decide +kernel
theorem dL_law_164 : decode cL_law 164 = .ok (.iconst 1, 1) := by decide +kernel
theorem dL_law_165 : decode cL_law 165 = .ok (.iadd, 1) := by decide +kernel
theorem dL_law_166 : decode cL_law 166 = .ok (.iaload, 1) := by decide +kernel
theorem dL_law_167 : decode cL_law 167 = .ok (.invokevirtual 17, 3) := by decide +kernel
theorem dL_law_170 : decode cL_law 170 = .ok (.if_icmp .eq 601, 3) := by decide +kernel
theorem dL_law_173 : decode cL_law 173 = .ok (.iconst 0, 1) := by decide +kernel
theorem dL_law_174 : decode cL_law 174 = .ok (.ireturn, 1) := by decide +kernel
theorem dL_law_175 : decode cL_law 175 = .ok (.aload_n 1, 1) := by decide +kernel
theorem dL_law_176 : decode cL_law 176 = .ok (.invokevirtual 18, 3) := by decide +kernel
theorem dL_law_179 : decode cL_law 179 = .ok (.aload_n 2, 1) := by decide +kernel
theorem dL_law_180 : decode cL_law 180 = .ok (.invokevirtual 22, 3) := by decide +kernel
theorem dL_law_183 : decode cL_law 183 = .ok (.if_icmp .eq 588, 3) := by decide +kernel
theorem dL_law_186 : decode cL_law 186 = .ok (.iconst 0, 1) := by decide +kernel
theorem dL_law_187 : decode cL_law 187 = .ok (.ireturn, 1) := by decide +kernel
theorem dL_law_188 : decode cL_law 188 = .ok (.aload_n 1, 1) := by decide +kernel
theorem dL_law_189 : decode cL_law 189 = .ok (.invokevirtual 23, 3) := by decide +kernel
theorem dL_law_192 : decode cL_law 192 = .ok (.aload_n 2, 1) := by decide +kernel
theorem dL_law_193 : decode cL_law 193 = .ok (.invokevirtual 26, 3) := by decide +kernel
theorem dL_law_196 : decode cL_law 196 = .ok (.if_icmp .eq 575, 3) := by decide +kernel
theorem dL_law_199 : decode cL_law 199 = .ok (.iconst 0, 1) := by decide +kernel
theorem dL_law_200 : decode cL_law 200 = .ok (.ireturn, 1) := by decide +kernel
theorem dL_law_201 : decode cL_law 201 = .ok (.aload_n 1, 1) := by decide +kernel
theorem dL_law_202 : decode cL_law 202 = .ok (.aload_n 0, 1) := by decide +kernel
theorem dL_law_203 : decode cL_law 203 = .ok (.iload_n 3, 1) := by decide +kernel
theorem dL_law_204 : decode cL_law 204 = .ok (.iconst 1, 1) := by decide +kernel
theorem dL_law_205 : decode cL_law 205 = .ok (.iadd, 1) := by decide +kernel
theorem dL_law_206 : decode cL_law 206 = .ok (.iaload, 1) := by decide +kernel
theorem dL_law_207 : decode cL_law 207 = .ok (.aload_n 0, 1) := by decide +kernel
theorem dL_law_208 : decode cL_law 208 = .ok (.iload_n 3, 1) := by decide +kernel
theorem dL_law_209 : decode cL_law 209 = .ok (.iconst 2, 1) := by decide +kernel
theorem dL_law_210 : decode cL_law 210 = .ok (.iadd, 1) := by decide +kernel
theorem dL_law_211 : decode cL_law 211 = .ok (.iaload, 1) := by decide +kernel
theorem dL_law_212 : decode cL_law 212 = .ok (.invokevirtual 27, 3) := by decide +kernel
theorem dL_law_215 : decode cL_law 215 = .ok (.aload_n 2, 1) := by decide +kernel
theorem dL_law_216 : decode cL_law 216 = .ok (.aload_n 0, 1) := by decide +kernel
theorem dL_law_217 : decode cL_law 217 = .ok (.iload_n 3, 1) := by decide +kernel
theorem dL_law_218 : decode cL_law 218 = .ok (.iconst 1, 1) := by decide +kernel
theorem dL_law_219 : decode cL_law 219 = .ok (.iadd, 1) := by decide +kernel
theorem dL_law_220 : decode cL_law 220 = .ok (.iaload, 1) := by decide +kernel
theorem dL_law_221 : decode cL_law 221 = .ok (.aload_n 0, 1) := by decide +kernel
theorem dL_law_222 : decode cL_law 222 = .ok (.iload_n 3, 1) := by decide +kernel
theorem dL_law_223 : decode cL_law 223 = .ok (.iconst 2, 1) := by decide +kernel
theorem dL_law_224 : decode cL_law 224 = .ok (.iadd, 1) := by decide +kernel
theorem dL_law_225 : decode cL_law 225 = .ok (.iaload, 1) := by decide +kernel
theorem dL_law_226 : decode cL_law 226 = .ok (.invokevirtual 31, 3) := by decide +kernel
theorem dL_law_229 : decode cL_law 229 = .ok (.if_icmp .eq 542, 3) := by decide +kernel
theorem dL_law_232 : decode cL_law 232 = .ok (.iconst 0, 1) := by decide +kernel
theorem dL_law_233 : decode cL_law 233 = .ok (.ireturn, 1) := by decide +kernel
theorem dL_law_234 : decode cL_law 234 = .ok (.aload_n 1, 1) := by decide +kernel
theorem dL_law_235 : decode cL_law 235 = .ok (.aload_n 0, 1) := by decide +kernel
theorem dL_law_236 : decode cL_law 236 = .ok (.iload_n 3, 1) := by decide +kernel
theorem dL_law_237 : decode cL_law 237 = .ok (.iconst 1, 1) := by decide +kernel
theorem dL_law_238 : decode cL_law 238 = .ok (.iadd, 1) := by decide +kernel
theorem dL_law_239 : decode cL_law 239 = .ok (.iaload, 1) := by decide +kernel
theorem dL_law_240 : decode cL_law 240 = .ok (.aload_n 0, 1) := by decide +kernel
theorem dL_law_241 : decode cL_law 241 = .ok (.iload_n 3, 1) := by decide +kernel
theorem dL_law_242 : decode cL_law 242 = .ok (.iconst 2, 1) := by decide +kernel
theorem dL_law_243 : decode cL_law 243 = .ok (.iadd, 1) := by decide +kernel
theorem dL_law_244 : decode cL_law 244 = .ok (.iaload, 1) := by decide +kernel
theorem dL_law_245 : decode cL_law 245 = .ok (.invokevirtual 32, 3) := by decide +kernel
theorem dL_law_248 : decode cL_law 248 = .ok (.aload_n 2, 1) := by decide +kernel
theorem dL_law_249 : decode cL_law 249 = .ok (.aload_n 0, 1) := by decide +kernel
theorem dL_law_250 : decode cL_law 250 = .ok (.iload_n 3, 1) := by decide +kernel
theorem dL_law_251 : decode cL_law 251 = .ok (.iconst 1, 1) := by decide +kernel
theorem dL_law_252 : decode cL_law 252 = .ok (.iadd, 1) := by decide +kernel
theorem dL_law_253 : decode cL_law 253 = .ok (.iaload, 1) := by decide +kernel
theorem dL_law_254 : decode cL_law 254 = .ok (.aload_n 0, 1) := by decide +kernel
theorem dL_law_255 : decode cL_law 255 = .ok (.iload_n 3, 1) := by decide +kernel
theorem dL_law_256 : decode cL_law 256 = .ok (.iconst 2, 1) := by decide +kernel
theorem dL_law_257 : decode cL_law 257 = .ok (.iadd, 1) := by decide +kernel
theorem dL_law_258 : decode cL_law 258 = .ok (.iaload, 1) := by decide +kernel
theorem dL_law_259 : decode cL_law 259 = .ok (.invokevirtual 35, 3) := by decide +kernel
theorem dL_law_262 : decode cL_law 262 = .ok (.if_icmp .eq 509, 3) := by decide +kernel
theorem dL_law_265 : decode cL_law 265 = .ok (.iconst 0, 1) := by decide +kernel
theorem dL_law_266 : decode cL_law 266 = .ok (.ireturn, 1) := by decide +kernel
theorem dL_law_267 : decode cL_law 267 = .ok (.aload_n 1, 1) := by decide +kernel
theorem dL_law_268 : decode cL_law 268 = .ok (.aload_n 0, 1) := by decide +kernel
theorem dL_law_269 : decode cL_law 269 = .ok (.iload_n 3, 1) := by decide +kernel
theorem dL_law_270 : decode cL_law 270 = .ok (.iconst 1, 1) := by decide +kernel
theorem dL_law_271 : decode cL_law 271 = .ok (.iadd, 1) := by decide +kernel
theorem dL_law_272 : decode cL_law 272 = .ok (.iaload, 1) := by decide +kernel
theorem dL_law_273 : decode cL_law 273 = .ok (.aload_n 0, 1) := by decide +kernel
theorem dL_law_274 : decode cL_law 274 = .ok (.iload_n 3, 1) := by decide +kernel
theorem dL_law_275 : decode cL_law 275 = .ok (.iconst 2, 1) := by decide +kernel
theorem dL_law_276 : decode cL_law 276 = .ok (.iadd, 1) := by decide +kernel
theorem dL_law_277 : decode cL_law 277 = .ok (.iaload, 1) := by decide +kernel
theorem dL_law_278 : decode cL_law 278 = .ok (.invokevirtual 36, 3) := by decide +kernel
theorem dL_law_281 : decode cL_law 281 = .ok (.aload_n 2, 1) := by decide +kernel
theorem dL_law_282 : decode cL_law 282 = .ok (.aload_n 0, 1) := by decide +kernel
theorem dL_law_283 : decode cL_law 283 = .ok (.iload_n 3, 1) := by decide +kernel
theorem dL_law_284 : decode cL_law 284 = .ok (.iconst 1, 1) := by decide +kernel
theorem dL_law_285 : decode cL_law 285 = .ok (.iadd, 1) := by decide +kernel
theorem dL_law_286 : decode cL_law 286 = .ok (.iaload, 1) := by decide +kernel
theorem dL_law_287 : decode cL_law 287 = .ok (.aload_n 0, 1) := by decide +kernel
theorem dL_law_288 : decode cL_law 288 = .ok (.iload_n 3, 1) := by decide +kernel
theorem dL_law_289 : decode cL_law 289 = .ok (.iconst 2, 1) := by decide +kernel
theorem dL_law_290 : decode cL_law 290 = .ok (.iadd, 1) := by decide +kernel
theorem dL_law_291 : decode cL_law 291 = .ok (.iaload, 1) := by decide +kernel
theorem dL_law_292 : decode cL_law 292 = .ok (.invokevirtual 39, 3) := by decide +kernel
theorem dL_law_295 : decode cL_law 295 = .ok (.if_icmp .eq 476, 3) := by decide +kernel
theorem dL_law_298 : decode cL_law 298 = .ok (.iconst 0, 1) := by decide +kernel
theorem dL_law_299 : decode cL_law 299 = .ok (.ireturn, 1) := by decide +kernel
theorem dL_law_300 : decode cL_law 300 = .ok (.aload_n 1, 1) := by decide +kernel
theorem dL_law_301 : decode cL_law 301 = .ok (.invokevirtual 40, 3) := by decide +kernel
theorem dL_law_304 : decode cL_law 304 = .ok (.aload_n 2, 1) := by decide +kernel
theorem dL_law_305 : decode cL_law 305 = .ok (.invokevirtual 43, 3) := by decide +kernel
theorem dL_law_308 : decode cL_law 308 = .ok (.if_icmp .eq 463, 3) := by decide +kernel
theorem dL_law_311 : decode cL_law 311 = .ok (.iconst 0, 1) := by decide +kernel
theorem dL_law_312 : decode cL_law 312 = .ok (.ireturn, 1) := by decide +kernel
theorem dL_law_313 : decode cL_law 313 = .ok (.aload_n 1, 1) := by decide +kernel
theorem dL_law_314 : decode cL_law 314 = .ok (.aload_n 0, 1) := by decide +kernel
theorem dL_law_315 : decode cL_law 315 = .ok (.iload_n 3, 1) := by decide +kernel
theorem dL_law_316 : decode cL_law 316 = .ok (.iconst 1, 1) := by decide +kernel
theorem dL_law_317 : decode cL_law 317 = .ok (.iadd, 1) := by decide +kernel
theorem dL_law_318 : decode cL_law 318 = .ok (.iaload, 1) := by decide +kernel
theorem dL_law_319 : decode cL_law 319 = .ok (.invokevirtual 44, 3) := by decide +kernel
theorem dL_law_322 : decode cL_law 322 = .ok (.aload_n 2, 1) := by decide +kernel
theorem dL_law_323 : decode cL_law 323 = .ok (.aload_n 0, 1) := by decide +kernel
theorem dL_law_324 : decode cL_law 324 = .ok (.iload_n 3, 1) := by decide +kernel
theorem dL_law_325 : decode cL_law 325 = .ok (.iconst 1, 1) := by decide +kernel
theorem dL_law_326 : decode cL_law 326 = .ok (.iadd, 1) := by decide +kernel
theorem dL_law_327 : decode cL_law 327 = .ok (.iaload, 1) := by decide +kernel
theorem dL_law_328 : decode cL_law 328 = .ok (.invokevirtual 47, 3) := by decide +kernel
theorem dL_law_331 : decode cL_law 331 = .ok (.if_icmp .eq 440, 3) := by decide +kernel
theorem dL_law_334 : decode cL_law 334 = .ok (.iconst 0, 1) := by decide +kernel
theorem dL_law_335 : decode cL_law 335 = .ok (.ireturn, 1) := by decide +kernel
theorem dL_law_336 : decode cL_law 336 = .ok (.aload_n 1, 1) := by decide +kernel
theorem dL_law_337 : decode cL_law 337 = .ok (.aload_n 0, 1) := by decide +kernel
theorem dL_law_338 : decode cL_law 338 = .ok (.iload_n 3, 1) := by decide +kernel
theorem dL_law_339 : decode cL_law 339 = .ok (.iconst 1, 1) := by decide +kernel
theorem dL_law_340 : decode cL_law 340 = .ok (.iadd, 1) := by decide +kernel
theorem dL_law_341 : decode cL_law 341 = .ok (.iaload, 1) := by decide +kernel
theorem dL_law_342 : decode cL_law 342 = .ok (.aload_n 0, 1) := by decide +kernel
theorem dL_law_343 : decode cL_law 343 = .ok (.iload_n 3, 1) := by decide +kernel
theorem dL_law_344 : decode cL_law 344 = .ok (.iconst 2, 1) := by decide +kernel
theorem dL_law_345 : decode cL_law 345 = .ok (.iadd, 1) := by decide +kernel
theorem dL_law_346 : decode cL_law 346 = .ok (.iaload, 1) := by decide +kernel
theorem dL_law_347 : decode cL_law 347 = .ok (.invokevirtual 48, 3) := by decide +kernel
theorem dL_law_350 : decode cL_law 350 = .ok (.aload_n 2, 1) := by decide +kernel
theorem dL_law_351 : decode cL_law 351 = .ok (.aload_n 0, 1) := by decide +kernel
theorem dL_law_352 : decode cL_law 352 = .ok (.iload_n 3, 1) := by decide +kernel
theorem dL_law_353 : decode cL_law 353 = .ok (.iconst 1, 1) := by decide +kernel
theorem dL_law_354 : decode cL_law 354 = .ok (.iadd, 1) := by decide +kernel
theorem dL_law_355 : decode cL_law 355 = .ok (.iaload, 1) := by decide +kernel
theorem dL_law_356 : decode cL_law 356 = .ok (.aload_n 0, 1) := by decide +kernel
theorem dL_law_357 : decode cL_law 357 = .ok (.iload_n 3, 1) := by decide +kernel
theorem dL_law_358 : decode cL_law 358 = .ok (.iconst 2, 1) := by decide +kernel
theorem dL_law_359 : decode cL_law 359 = .ok (.iadd, 1) := by decide +kernel
theorem dL_law_360 : decode cL_law 360 = .ok (.iaload, 1) := by decide +kernel
theorem dL_law_361 : decode cL_law 361 = .ok (.invokevirtual 51, 3) := by decide +kernel
theorem dL_law_364 : decode cL_law 364 = .ok (.if_icmp .eq 407, 3) := by decide +kernel
theorem dL_law_367 : decode cL_law 367 = .ok (.iconst 0, 1) := by decide +kernel
theorem dL_law_368 : decode cL_law 368 = .ok (.ireturn, 1) := by decide +kernel
theorem dL_law_369 : decode cL_law 369 = .ok (.aload_n 1, 1) := by decide +kernel
theorem dL_law_370 : decode cL_law 370 = .ok (.aload_n 0, 1) := by decide +kernel
theorem dL_law_371 : decode cL_law 371 = .ok (.iload_n 3, 1) := by decide +kernel
theorem dL_law_372 : decode cL_law 372 = .ok (.iconst 1, 1) := by decide +kernel
theorem dL_law_373 : decode cL_law 373 = .ok (.iadd, 1) := by decide +kernel
theorem dL_law_374 : decode cL_law 374 = .ok (.iaload, 1) := by decide +kernel
theorem dL_law_375 : decode cL_law 375 = .ok (.invokevirtual 52, 3) := by decide +kernel
theorem dL_law_378 : decode cL_law 378 = .ok (.aload_n 2, 1) := by decide +kernel
theorem dL_law_379 : decode cL_law 379 = .ok (.aload_n 0, 1) := by decide +kernel
theorem dL_law_380 : decode cL_law 380 = .ok (.iload_n 3, 1) := by decide +kernel
theorem dL_law_381 : decode cL_law 381 = .ok (.iconst 1, 1) := by decide +kernel
theorem dL_law_382 : decode cL_law 382 = .ok (.iadd, 1) := by decide +kernel
theorem dL_law_383 : decode cL_law 383 = .ok (.iaload, 1) := by decide +kernel
theorem dL_law_384 : decode cL_law 384 = .ok (.invokevirtual 55, 3) := by decide +kernel
theorem dL_law_387 : decode cL_law 387 = .ok (.if_icmp .eq 384, 3) := by decide +kernel
theorem dL_law_390 : decode cL_law 390 = .ok (.iconst 0, 1) := by decide +kernel
theorem dL_law_391 : decode cL_law 391 = .ok (.ireturn, 1) := by decide +kernel
theorem dL_law_392 : decode cL_law 392 = .ok (.aload_n 1, 1) := by decide +kernel
theorem dL_law_393 : decode cL_law 393 = .ok (.aload_n 0, 1) := by decide +kernel
theorem dL_law_394 : decode cL_law 394 = .ok (.iload_n 3, 1) := by decide +kernel
theorem dL_law_395 : decode cL_law 395 = .ok (.iconst 1, 1) := by decide +kernel
theorem dL_law_396 : decode cL_law 396 = .ok (.iadd, 1) := by decide +kernel
theorem dL_law_397 : decode cL_law 397 = .ok (.iaload, 1) := by decide +kernel
theorem dL_law_398 : decode cL_law 398 = .ok (.invokevirtual 56, 3) := by decide +kernel
theorem dL_law_401 : decode cL_law 401 = .ok (.aload_n 2, 1) := by decide +kernel
theorem dL_law_402 : decode cL_law 402 = .ok (.aload_n 0, 1) := by decide +kernel
theorem dL_law_403 : decode cL_law 403 = .ok (.iload_n 3, 1) := by decide +kernel
theorem dL_law_404 : decode cL_law 404 = .ok (.iconst 1, 1) := by decide +kernel
theorem dL_law_405 : decode cL_law 405 = .ok (.iadd, 1) := by decide +kernel
theorem dL_law_406 : decode cL_law 406 = .ok (.iaload, 1) := by decide +kernel
theorem dL_law_407 : decode cL_law 407 = .ok (.invokevirtual 59, 3) := by decide +kernel
theorem dL_law_410 : decode cL_law 410 = .ok (.if_icmp .eq 361, 3) := by decide +kernel
theorem dL_law_413 : decode cL_law 413 = .ok (.iconst 0, 1) := by decide +kernel
theorem dL_law_414 : decode cL_law 414 = .ok (.ireturn, 1) := by decide +kernel
theorem dL_law_415 : decode cL_law 415 = .ok (.aload_n 1, 1) := by decide +kernel
theorem dL_law_416 : decode cL_law 416 = .ok (.invokevirtual 60, 3) := by decide +kernel
theorem dL_law_419 : decode cL_law 419 = .ok (.aload_n 2, 1) := by decide +kernel
theorem dL_law_420 : decode cL_law 420 = .ok (.invokevirtual 63, 3) := by decide +kernel
theorem dL_law_423 : decode cL_law 423 = .ok (.if_icmp .eq 348, 3) := by decide +kernel
theorem dL_law_426 : decode cL_law 426 = .ok (.iconst 0, 1) := by decide +kernel
theorem dL_law_427 : decode cL_law 427 = .ok (.ireturn, 1) := by decide +kernel
theorem dL_law_428 : decode cL_law 428 = .ok (.aload_n 1, 1) := by decide +kernel
theorem dL_law_429 : decode cL_law 429 = .ok (.aload_n 0, 1) := by decide +kernel
theorem dL_law_430 : decode cL_law 430 = .ok (.iload_n 3, 1) := by decide +kernel
theorem dL_law_431 : decode cL_law 431 = .ok (.iconst 1, 1) := by decide +kernel
theorem dL_law_432 : decode cL_law 432 = .ok (.iadd, 1) := by decide +kernel
theorem dL_law_433 : decode cL_law 433 = .ok (.iaload, 1) := by decide +kernel
theorem dL_law_434 : decode cL_law 434 = .ok (.invokevirtual 64, 3) := by decide +kernel
theorem dL_law_437 : decode cL_law 437 = .ok (.aload_n 2, 1) := by decide +kernel
theorem dL_law_438 : decode cL_law 438 = .ok (.aload_n 0, 1) := by decide +kernel
theorem dL_law_439 : decode cL_law 439 = .ok (.iload_n 3, 1) := by decide +kernel
theorem dL_law_440 : decode cL_law 440 = .ok (.iconst 1, 1) := by decide +kernel
theorem dL_law_441 : decode cL_law 441 = .ok (.iadd, 1) := by decide +kernel
theorem dL_law_442 : decode cL_law 442 = .ok (.iaload, 1) := by decide +kernel
theorem dL_law_443 : decode cL_law 443 = .ok (.invokevirtual 67, 3) := by decide +kernel
theorem dL_law_446 : decode cL_law 446 = .ok (.if_icmp .eq 325, 3) := by decide +kernel
theorem dL_law_449 : decode cL_law 449 = .ok (.iconst 0, 1) := by decide +kernel
theorem dL_law_450 : decode cL_law 450 = .ok (.ireturn, 1) := by decide +kernel
theorem dL_law_451 : decode cL_law 451 = .ok (.aload_n 1, 1) := by decide +kernel
theorem dL_law_452 : decode cL_law 452 = .ok (.aload_n 0, 1) := by decide +kernel
theorem dL_law_453 : decode cL_law 453 = .ok (.iload_n 3, 1) := by decide +kernel
theorem dL_law_454 : decode cL_law 454 = .ok (.iconst 1, 1) := by decide +kernel
theorem dL_law_455 : decode cL_law 455 = .ok (.iadd, 1) := by decide +kernel
theorem dL_law_456 : decode cL_law 456 = .ok (.iaload, 1) := by decide +kernel
theorem dL_law_457 : decode cL_law 457 = .ok (.aload_n 0, 1) := by decide +kernel
theorem dL_law_458 : decode cL_law 458 = .ok (.iload_n 3, 1) := by decide +kernel
theorem dL_law_459 : decode cL_law 459 = .ok (.iconst 2, 1) := by decide +kernel
theorem dL_law_460 : decode cL_law 460 = .ok (.iadd, 1) := by decide +kernel
theorem dL_law_461 : decode cL_law 461 = .ok (.iaload, 1) := by decide +kernel
theorem dL_law_462 : decode cL_law 462 = .ok (.invokevirtual 68, 3) := by decide +kernel
theorem dL_law_465 : decode cL_law 465 = .ok (.aload_n 2, 1) := by decide +kernel
theorem dL_law_466 : decode cL_law 466 = .ok (.aload_n 0, 1) := by decide +kernel
theorem dL_law_467 : decode cL_law 467 = .ok (.iload_n 3, 1) := by decide +kernel
theorem dL_law_468 : decode cL_law 468 = .ok (.iconst 1, 1) := by decide +kernel
theorem dL_law_469 : decode cL_law 469 = .ok (.iadd, 1) := by decide +kernel
theorem dL_law_470 : decode cL_law 470 = .ok (.iaload, 1) := by decide +kernel
theorem dL_law_471 : decode cL_law 471 = .ok (.aload_n 0, 1) := by decide +kernel
theorem dL_law_472 : decode cL_law 472 = .ok (.iload_n 3, 1) := by decide +kernel
theorem dL_law_473 : decode cL_law 473 = .ok (.iconst 2, 1) := by decide +kernel
theorem dL_law_474 : decode cL_law 474 = .ok (.iadd, 1) := by decide +kernel
theorem dL_law_475 : decode cL_law 475 = .ok (.iaload, 1) := by decide +kernel
theorem dL_law_476 : decode cL_law 476 = .ok (.invokevirtual 71, 3) := by decide +kernel
theorem dL_law_479 : decode cL_law 479 = .ok (.if_icmp .eq 292, 3) := by decide +kernel
theorem dL_law_482 : decode cL_law 482 = .ok (.iconst 0, 1) := by decide +kernel
theorem dL_law_483 : decode cL_law 483 = .ok (.ireturn, 1) := by decide +kernel
theorem dL_law_484 : decode cL_law 484 = .ok (.aload_n 1, 1) := by decide +kernel
theorem dL_law_485 : decode cL_law 485 = .ok (.aload_n 0, 1) := by decide +kernel
theorem dL_law_486 : decode cL_law 486 = .ok (.iload_n 3, 1) := by decide +kernel
theorem dL_law_487 : decode cL_law 487 = .ok (.iconst 1, 1) := by decide +kernel
theorem dL_law_488 : decode cL_law 488 = .ok (.iadd, 1) := by decide +kernel
theorem dL_law_489 : decode cL_law 489 = .ok (.iaload, 1) := by decide +kernel
theorem dL_law_490 : decode cL_law 490 = .ok (.invokevirtual 72, 3) := by decide +kernel
theorem dL_law_493 : decode cL_law 493 = .ok (.aload_n 2, 1) := by decide +kernel
theorem dL_law_494 : decode cL_law 494 = .ok (.aload_n 0, 1) := by decide +kernel
theorem dL_law_495 : decode cL_law 495 = .ok (.iload_n 3, 1) := by decide +kernel
theorem dL_law_496 : decode cL_law 496 = .ok (.iconst 1, 1) := by decide +kernel
theorem dL_law_497 : decode cL_law 497 = .ok (.iadd, 1) := by decide +kernel
theorem dL_law_498 : decode cL_law 498 = .ok (.iaload, 1) := by decide +kernel
theorem dL_law_499 : decode cL_law 499 = .ok (.invokevirtual 75, 3) := by decide +kernel
theorem dL_law_502 : decode cL_law 502 = .ok (.if_icmp .eq 269, 3) := by decide +kernel
theorem dL_law_505 : decode cL_law 505 = .ok (.iconst 0, 1) := by decide +kernel
theorem dL_law_506 : decode cL_law 506 = .ok (.ireturn, 1) := by decide +kernel
theorem dL_law_507 : decode cL_law 507 = .ok (.aload_n 1, 1) := by decide +kernel
theorem dL_law_508 : decode cL_law 508 = .ok (.aload_n 0, 1) := by decide +kernel
theorem dL_law_509 : decode cL_law 509 = .ok (.iload_n 3, 1) := by decide +kernel
theorem dL_law_510 : decode cL_law 510 = .ok (.iconst 1, 1) := by decide +kernel
theorem dL_law_511 : decode cL_law 511 = .ok (.iadd, 1) := by decide +kernel
theorem dL_law_512 : decode cL_law 512 = .ok (.iaload, 1) := by decide +kernel
theorem dL_law_513 : decode cL_law 513 = .ok (.invokevirtual 76, 3) := by decide +kernel
theorem dL_law_516 : decode cL_law 516 = .ok (.aload_n 2, 1) := by decide +kernel
theorem dL_law_517 : decode cL_law 517 = .ok (.aload_n 0, 1) := by decide +kernel
theorem dL_law_518 : decode cL_law 518 = .ok (.iload_n 3, 1) := by decide +kernel
theorem dL_law_519 : decode cL_law 519 = .ok (.iconst 1, 1) := by decide +kernel
theorem dL_law_520 : decode cL_law 520 = .ok (.iadd, 1) := by decide +kernel
theorem dL_law_521 : decode cL_law 521 = .ok (.iaload, 1) := by decide +kernel
theorem dL_law_522 : decode cL_law 522 = .ok (.invokevirtual 79, 3) := by decide +kernel
theorem dL_law_525 : decode cL_law 525 = .ok (.if_icmp .eq 246, 3) := by decide +kernel
theorem dL_law_528 : decode cL_law 528 = .ok (.iconst 0, 1) := by decide +kernel
theorem dL_law_529 : decode cL_law 529 = .ok (.ireturn, 1) := by decide +kernel
theorem dL_law_530 : decode cL_law 530 = .ok (.aload_n 1, 1) := by decide +kernel
theorem dL_law_531 : decode cL_law 531 = .ok (.aload_n 0, 1) := by decide +kernel
theorem dL_law_532 : decode cL_law 532 = .ok (.iload_n 3, 1) := by decide +kernel
theorem dL_law_533 : decode cL_law 533 = .ok (.iconst 1, 1) := by decide +kernel
theorem dL_law_534 : decode cL_law 534 = .ok (.iadd, 1) := by decide +kernel
theorem dL_law_535 : decode cL_law 535 = .ok (.iaload, 1) := by decide +kernel
theorem dL_law_536 : decode cL_law 536 = .ok (.aload_n 0, 1) := by decide +kernel
theorem dL_law_537 : decode cL_law 537 = .ok (.iload_n 3, 1) := by decide +kernel
theorem dL_law_538 : decode cL_law 538 = .ok (.iconst 2, 1) := by decide +kernel
theorem dL_law_539 : decode cL_law 539 = .ok (.iadd, 1) := by decide +kernel
theorem dL_law_540 : decode cL_law 540 = .ok (.iaload, 1) := by decide +kernel
theorem dL_law_541 : decode cL_law 541 = .ok (.aload_n 0, 1) := by decide +kernel
theorem dL_law_542 : decode cL_law 542 = .ok (.iload_n 3, 1) := by decide +kernel
theorem dL_law_543 : decode cL_law 543 = .ok (.iconst 3, 1) := by decide +kernel
theorem dL_law_544 : decode cL_law 544 = .ok (.iadd, 1) := by decide +kernel
theorem dL_law_545 : decode cL_law 545 = .ok (.iaload, 1) := by decide +kernel
theorem dL_law_546 : decode cL_law 546 = .ok (.invokevirtual 80, 3) := by decide +kernel
theorem dL_law_549 : decode cL_law 549 = .ok (.aload_n 2, 1) := by decide +kernel
theorem dL_law_550 : decode cL_law 550 = .ok (.aload_n 0, 1) := by decide +kernel
theorem dL_law_551 : decode cL_law 551 = .ok (.iload_n 3, 1) := by decide +kernel
theorem dL_law_552 : decode cL_law 552 = .ok (.iconst 1, 1) := by decide +kernel
theorem dL_law_553 : decode cL_law 553 = .ok (.iadd, 1) := by decide +kernel
theorem dL_law_554 : decode cL_law 554 = .ok (.iaload, 1) := by decide +kernel
theorem dL_law_555 : decode cL_law 555 = .ok (.aload_n 0, 1) := by decide +kernel
theorem dL_law_556 : decode cL_law 556 = .ok (.iload_n 3, 1) := by decide +kernel
theorem dL_law_557 : decode cL_law 557 = .ok (.iconst 2, 1) := by decide +kernel
theorem dL_law_558 : decode cL_law 558 = .ok (.iadd, 1) := by decide +kernel
theorem dL_law_559 : decode cL_law 559 = .ok (.iaload, 1) := by decide +kernel
theorem dL_law_560 : decode cL_law 560 = .ok (.aload_n 0, 1) := by decide +kernel
theorem dL_law_561 : decode cL_law 561 = .ok (.iload_n 3, 1) := by decide +kernel
theorem dL_law_562 : decode cL_law 562 = .ok (.iconst 3, 1) := by decide +kernel
theorem dL_law_563 : decode cL_law 563 = .ok (.iadd, 1) := by decide +kernel
theorem dL_law_564 : decode cL_law 564 = .ok (.iaload, 1) := by decide +kernel
theorem dL_law_565 : decode cL_law 565 = .ok (.invokevirtual 84, 3) := by decide +kernel
theorem dL_law_568 : decode cL_law 568 = .ok (.if_icmp .eq 203, 3) := by decide +kernel
theorem dL_law_571 : decode cL_law 571 = .ok (.iconst 0, 1) := by decide +kernel
theorem dL_law_572 : decode cL_law 572 = .ok (.ireturn, 1) := by decide +kernel
theorem dL_law_573 : decode cL_law 573 = .ok (.aload_n 1, 1) := by decide +kernel
theorem dL_law_574 : decode cL_law 574 = .ok (.aload_n 0, 1) := by decide +kernel
theorem dL_law_575 : decode cL_law 575 = .ok (.iload_n 3, 1) := by decide +kernel
theorem dL_law_576 : decode cL_law 576 = .ok (.iconst 1, 1) := by decide +kernel
theorem dL_law_577 : decode cL_law 577 = .ok (.iadd, 1) := by decide +kernel
theorem dL_law_578 : decode cL_law 578 = .ok (.iaload, 1) := by decide +kernel
theorem dL_law_579 : decode cL_law 579 = .ok (.aload_n 0, 1) := by decide +kernel
theorem dL_law_580 : decode cL_law 580 = .ok (.iload_n 3, 1) := by decide +kernel
theorem dL_law_581 : decode cL_law 581 = .ok (.iconst 2, 1) := by decide +kernel
theorem dL_law_582 : decode cL_law 582 = .ok (.iadd, 1) := by decide +kernel
theorem dL_law_583 : decode cL_law 583 = .ok (.iaload, 1) := by decide +kernel
theorem dL_law_584 : decode cL_law 584 = .ok (.invokevirtual 85, 3) := by decide +kernel
theorem dL_law_587 : decode cL_law 587 = .ok (.aload_n 2, 1) := by decide +kernel
theorem dL_law_588 : decode cL_law 588 = .ok (.aload_n 0, 1) := by decide +kernel
theorem dL_law_589 : decode cL_law 589 = .ok (.iload_n 3, 1) := by decide +kernel
theorem dL_law_590 : decode cL_law 590 = .ok (.iconst 1, 1) := by decide +kernel
theorem dL_law_591 : decode cL_law 591 = .ok (.iadd, 1) := by decide +kernel
theorem dL_law_592 : decode cL_law 592 = .ok (.iaload, 1) := by decide +kernel
theorem dL_law_593 : decode cL_law 593 = .ok (.aload_n 0, 1) := by decide +kernel
theorem dL_law_594 : decode cL_law 594 = .ok (.iload_n 3, 1) := by decide +kernel
theorem dL_law_595 : decode cL_law 595 = .ok (.iconst 2, 1) := by decide +kernel
theorem dL_law_596 : decode cL_law 596 = .ok (.iadd, 1) := by decide +kernel
theorem dL_law_597 : decode cL_law 597 = .ok (.iaload, 1) := by decide +kernel
theorem dL_law_598 : decode cL_law 598 = .ok (.invokevirtual 88, 3) := by decide +kernel
theorem dL_law_601 : decode cL_law 601 = .ok (.if_icmp .eq 170, 3) := by decide +kernel
theorem dL_law_604 : decode cL_law 604 = .ok (.iconst 0, 1) := by decide +kernel
theorem dL_law_605 : decode cL_law 605 = .ok (.ireturn, 1) := by decide +kernel
theorem dL_law_606 : decode cL_law 606 = .ok (.aload_n 1, 1) := by decide +kernel
theorem dL_law_607 : decode cL_law 607 = .ok (.invokevirtual 89, 3) := by decide +kernel
theorem dL_law_610 : decode cL_law 610 = .ok (.aload_n 2, 1) := by decide +kernel
theorem dL_law_611 : decode cL_law 611 = .ok (.invokevirtual 92, 3) := by decide +kernel
theorem dL_law_614 : decode cL_law 614 = .ok (.if_icmp .eq 157, 3) := by decide +kernel
theorem dL_law_617 : decode cL_law 617 = .ok (.iconst 0, 1) := by decide +kernel
theorem dL_law_618 : decode cL_law 618 = .ok (.ireturn, 1) := by decide +kernel
theorem dL_law_619 : decode cL_law 619 = .ok (.aload_n 1, 1) := by decide +kernel
theorem dL_law_620 : decode cL_law 620 = .ok (.aload_n 0, 1) := by decide +kernel
theorem dL_law_621 : decode cL_law 621 = .ok (.iload_n 3, 1) := by decide +kernel
theorem dL_law_622 : decode cL_law 622 = .ok (.iconst 1, 1) := by decide +kernel
theorem dL_law_623 : decode cL_law 623 = .ok (.iadd, 1) := by decide +kernel
theorem dL_law_624 : decode cL_law 624 = .ok (.iaload, 1) := by decide +kernel
theorem dL_law_625 : decode cL_law 625 = .ok (.invokevirtual 93, 3) := by decide +kernel
theorem dL_law_628 : decode cL_law 628 = .ok (.aload_n 2, 1) := by decide +kernel
theorem dL_law_629 : decode cL_law 629 = .ok (.aload_n 0, 1) := by decide +kernel
theorem dL_law_630 : decode cL_law 630 = .ok (.iload_n 3, 1) := by decide +kernel
theorem dL_law_631 : decode cL_law 631 = .ok (.iconst 1, 1) := by decide +kernel
theorem dL_law_632 : decode cL_law 632 = .ok (.iadd, 1) := by decide +kernel
theorem dL_law_633 : decode cL_law 633 = .ok (.iaload, 1) := by decide +kernel
theorem dL_law_634 : decode cL_law 634 = .ok (.invokevirtual 96, 3) := by decide +kernel
theorem dL_law_637 : decode cL_law 637 = .ok (.if_icmp .eq 134, 3) := by decide +kernel
theorem dL_law_640 : decode cL_law 640 = .ok (.iconst 0, 1) := by decide +kernel
theorem dL_law_641 : decode cL_law 641 = .ok (.ireturn, 1) := by decide +kernel
theorem dL_law_642 : decode cL_law 642 = .ok (.aload_n 1, 1) := by decide +kernel
theorem dL_law_643 : decode cL_law 643 = .ok (.invokevirtual 97, 3) := by decide +kernel
theorem dL_law_646 : decode cL_law 646 = .ok (.aload_n 2, 1) := by decide +kernel
theorem dL_law_647 : decode cL_law 647 = .ok (.invokevirtual 100, 3) := by decide +kernel
theorem dL_law_650 : decode cL_law 650 = .ok (.if_icmp .eq 121, 3) := by decide +kernel
theorem dL_law_653 : decode cL_law 653 = .ok (.iconst 0, 1) := by decide +kernel
theorem dL_law_654 : decode cL_law 654 = .ok (.ireturn, 1) := by decide +kernel
theorem dL_law_655 : decode cL_law 655 = .ok (.aload_n 1, 1) := by decide +kernel
theorem dL_law_656 : decode cL_law 656 = .ok (.aload_n 0, 1) := by decide +kernel
theorem dL_law_657 : decode cL_law 657 = .ok (.iload_n 3, 1) := by decide +kernel
theorem dL_law_658 : decode cL_law 658 = .ok (.iconst 1, 1) := by decide +kernel
theorem dL_law_659 : decode cL_law 659 = .ok (.iadd, 1) := by decide +kernel
theorem dL_law_660 : decode cL_law 660 = .ok (.iaload, 1) := by decide +kernel
theorem dL_law_661 : decode cL_law 661 = .ok (.aload_n 0, 1) := by decide +kernel
theorem dL_law_662 : decode cL_law 662 = .ok (.iload_n 3, 1) := by decide +kernel
theorem dL_law_663 : decode cL_law 663 = .ok (.iconst 2, 1) := by decide +kernel
theorem dL_law_664 : decode cL_law 664 = .ok (.iadd, 1) := by decide +kernel
theorem dL_law_665 : decode cL_law 665 = .ok (.iaload, 1) := by decide +kernel
theorem dL_law_666 : decode cL_law 666 = .ok (.invokevirtual 101, 3) := by decide +kernel
theorem dL_law_669 : decode cL_law 669 = .ok (.aload_n 2, 1) := by decide +kernel
theorem dL_law_670 : decode cL_law 670 = .ok (.aload_n 0, 1) := by decide +kernel
theorem dL_law_671 : decode cL_law 671 = .ok (.iload_n 3, 1) := by decide +kernel
theorem dL_law_672 : decode cL_law 672 = .ok (.iconst 1, 1) := by decide +kernel
theorem dL_law_673 : decode cL_law 673 = .ok (.iadd, 1) := by decide +kernel
theorem dL_law_674 : decode cL_law 674 = .ok (.iaload, 1) := by decide +kernel
theorem dL_law_675 : decode cL_law 675 = .ok (.aload_n 0, 1) := by decide +kernel
theorem dL_law_676 : decode cL_law 676 = .ok (.iload_n 3, 1) := by decide +kernel
theorem dL_law_677 : decode cL_law 677 = .ok (.iconst 2, 1) := by decide +kernel
theorem dL_law_678 : decode cL_law 678 = .ok (.iadd, 1) := by decide +kernel
theorem dL_law_679 : decode cL_law 679 = .ok (.iaload, 1) := by decide +kernel
theorem dL_law_680 : decode cL_law 680 = .ok (.invokevirtual 104, 3) := by decide +kernel
theorem dL_law_683 : decode cL_law 683 = .ok (.if_icmp .eq 88, 3) := by decide +kernel
theorem dL_law_686 : decode cL_law 686 = .ok (.iconst 0, 1) := by decide +kernel
theorem dL_law_687 : decode cL_law 687 = .ok (.ireturn, 1) := by decide +kernel
theorem dL_law_688 : decode cL_law 688 = .ok (.aload_n 1, 1) := by decide +kernel
theorem dL_law_689 : decode cL_law 689 = .ok (.aload_n 0, 1) := by decide +kernel
theorem dL_law_690 : decode cL_law 690 = .ok (.iload_n 3, 1) := by decide +kernel
theorem dL_law_691 : decode cL_law 691 = .ok (.iconst 1, 1) := by decide +kernel
theorem dL_law_692 : decode cL_law 692 = .ok (.iadd, 1) := by decide +kernel
theorem dL_law_693 : decode cL_law 693 = .ok (.iaload, 1) := by decide +kernel
theorem dL_law_694 : decode cL_law 694 = .ok (.invokevirtual 105, 3) := by decide +kernel
theorem dL_law_697 : decode cL_law 697 = .ok (.aload_n 2, 1) := by decide +kernel
theorem dL_law_698 : decode cL_law 698 = .ok (.aload_n 0, 1) := by decide +kernel
theorem dL_law_699 : decode cL_law 699 = .ok (.iload_n 3, 1) := by decide +kernel
theorem dL_law_700 : decode cL_law 700 = .ok (.iconst 1, 1) := by decide +kernel
theorem dL_law_701 : decode cL_law 701 = .ok (.iadd, 1) := by decide +kernel
theorem dL_law_702 : decode cL_law 702 = .ok (.iaload, 1) := by decide +kernel
theorem dL_law_703 : decode cL_law 703 = .ok (.invokevirtual 108, 3) := by decide +kernel
theorem dL_law_706 : decode cL_law 706 = .ok (.if_icmp .eq 65, 3) := by decide +kernel
theorem dL_law_709 : decode cL_law 709 = .ok (.iconst 0, 1) := by decide +kernel
theorem dL_law_710 : decode cL_law 710 = .ok (.ireturn, 1) := by decide +kernel
theorem dL_law_711 : decode cL_law 711 = .ok (.aload_n 1, 1) := by decide +kernel
theorem dL_law_712 : decode cL_law 712 = .ok (.aload_n 0, 1) := by decide +kernel
theorem dL_law_713 : decode cL_law 713 = .ok (.iload_n 3, 1) := by decide +kernel
theorem dL_law_714 : decode cL_law 714 = .ok (.iconst 1, 1) := by decide +kernel
theorem dL_law_715 : decode cL_law 715 = .ok (.iadd, 1) := by decide +kernel
theorem dL_law_716 : decode cL_law 716 = .ok (.iaload, 1) := by decide +kernel
theorem dL_law_717 : decode cL_law 717 = .ok (.invokevirtual 109, 3) := by decide +kernel
theorem dL_law_720 : decode cL_law 720 = .ok (.aload_n 2, 1) := by decide +kernel
theorem dL_law_721 : decode cL_law 721 = .ok (.aload_n 0, 1) := by decide +kernel
theorem dL_law_722 : decode cL_law 722 = .ok (.iload_n 3, 1) := by decide +kernel
theorem dL_law_723 : decode cL_law 723 = .ok (.iconst 1, 1) := by decide +kernel
theorem dL_law_724 : decode cL_law 724 = .ok (.iadd, 1) := by decide +kernel
theorem dL_law_725 : decode cL_law 725 = .ok (.iaload, 1) := by decide +kernel
theorem dL_law_726 : decode cL_law 726 = .ok (.invokevirtual 112, 3) := by decide +kernel
theorem dL_law_729 : decode cL_law 729 = .ok (.if_icmp .eq 42, 3) := by decide +kernel
theorem dL_law_732 : decode cL_law 732 = .ok (.iconst 0, 1) := by decide +kernel
theorem dL_law_733 : decode cL_law 733 = .ok (.ireturn, 1) := by decide +kernel
theorem dL_law_734 : decode cL_law 734 = .ok (.aload_n 1, 1) := by decide +kernel
theorem dL_law_735 : decode cL_law 735 = .ok (.aload_n 0, 1) := by decide +kernel
theorem dL_law_736 : decode cL_law 736 = .ok (.iload_n 3, 1) := by decide +kernel
theorem dL_law_737 : decode cL_law 737 = .ok (.iconst 1, 1) := by decide +kernel
theorem dL_law_738 : decode cL_law 738 = .ok (.iadd, 1) := by decide +kernel
theorem dL_law_739 : decode cL_law 739 = .ok (.iaload, 1) := by decide +kernel
theorem dL_law_740 : decode cL_law 740 = .ok (.invokevirtual 113, 3) := by decide +kernel
theorem dL_law_743 : decode cL_law 743 = .ok (.aload_n 2, 1) := by decide +kernel
theorem dL_law_744 : decode cL_law 744 = .ok (.aload_n 0, 1) := by decide +kernel
theorem dL_law_745 : decode cL_law 745 = .ok (.iload_n 3, 1) := by decide +kernel
theorem dL_law_746 : decode cL_law 746 = .ok (.iconst 1, 1) := by decide +kernel
theorem dL_law_747 : decode cL_law 747 = .ok (.iadd, 1) := by decide +kernel
theorem dL_law_748 : decode cL_law 748 = .ok (.iaload, 1) := by decide +kernel
theorem dL_law_749 : decode cL_law 749 = .ok (.invokevirtual 116, 3) := by decide +kernel
theorem dL_law_752 : decode cL_law 752 = .ok (.if_icmp .eq 19, 3) := by decide +kernel
theorem dL_law_755 : decode cL_law 755 = .ok (.iconst 0, 1) := by decide +kernel
theorem dL_law_756 : decode cL_law 756 = .ok (.ireturn, 1) := by decide +kernel
theorem dL_law_757 : decode cL_law 757 = .ok (.aload_n 1, 1) := by decide +kernel
theorem dL_law_758 : decode cL_law 758 = .ok (.invokevirtual 117, 3) := by decide +kernel
theorem dL_law_761 : decode cL_law 761 = .ok (.aload_n 2, 1) := by decide +kernel
theorem dL_law_762 : decode cL_law 762 = .ok (.invokevirtual 121, 3) := by decide +kernel
theorem dL_law_765 : decode cL_law 765 = .ok (.lcmp, 1) := by decide +kernel
theorem dL_law_766 : decode cL_law 766 = .ok (.ifCond .eq 5, 3) := by decide +kernel
theorem dL_law_769 : decode cL_law 769 = .ok (.iconst 0, 1) := by decide +kernel
theorem dL_law_770 : decode cL_law 770 = .ok (.ireturn, 1) := by decide +kernel
theorem dL_law_771 : decode cL_law 771 = .ok (.iinc 3 4, 3) := by decide +kernel
theorem dL_law_774 : decode cL_law 774 = .ok (.goto (-756), 3) := by decide +kernel
theorem dL_law_777 : decode cL_law 777 = .ok (.iconst 1, 1) := by decide +kernel
theorem dL_law_778 : decode cL_law 778 = .ok (.ireturn, 1) := by decide +kernel
