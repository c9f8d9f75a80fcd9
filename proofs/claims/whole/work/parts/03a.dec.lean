theorem dX0_init_0 : decode cX0_init 0 = .ok (.aload_n 0, 1) := by decide +kernel
theorem dX0_init_1 : decode cX0_init 1 = .ok (.iload_n 1, 1) := by decide +kernel
theorem dX0_init_2 : decode cX0_init 2 = .ok (.invokespecial 3, 3) := by decide +kernel
theorem dX0_init_5 : decode cX0_init 5 = .ok (.return_, 1) := by decide +kernel
theorem dX0_kind_0 : decode cX0_kind 0 = .ok (.iconst 2, 1) := by decide +kernel
theorem dX0_kind_1 : decode cX0_kind 1 = .ok (.ireturn, 1) := by decide +kernel
theorem dX0_slow_0 : decode cX0_slow 0 = .ok (.aload_n 0, 1) := by decide +kernel
theorem dX0_slow_1 : decode cX0_slow 1 = .ok (.invokespecial 9, 3) := by decide +kernel
theorem dX0_slow_4 : decode cX0_slow 4 = .ok (.aload_n 0, 1) := by decide +kernel
theorem dX0_slow_5 : decode cX0_slow 5 = .ok (.getfield 13, 3) := by decide +kernel
theorem dX0_slow_8 : decode cX0_slow 8 = .ok (.iadd, 1) := by decide +kernel
theorem dX0_slow_9 : decode cX0_slow 9 = .ok (.ireturn, 1) := by decide +kernel
theorem dX0_loss_0 : decode cX0_loss 0 = .ok (.aload_n 0, 1) := by decide +kernel
theorem dX0_loss_1 : decode cX0_loss 1 = .ok (.invokespecial 19, 3) := by decide +kernel
theorem dX0_loss_4 : decode cX0_loss 4 = .ok (.iconst 3, 1) := by decide +kernel
theorem dX0_loss_5 : decode cX0_loss 5 = .ok (.iadd, 1) := by decide +kernel
theorem dX0_loss_6 : decode cX0_loss 6 = .ok (.ireturn, 1) := by decide +kernel
theorem dX0_toil_0 : decode cX0_toil 0 = .ok (.aload_n 0, 1) := by decide +kernel
theorem dX0_toil_1 : decode cX0_toil 1 = .ok (.invokespecial 22, 3) := by decide +kernel
theorem dX0_toil_4 : decode cX0_toil 4 = .ok (.iconst 2, 1) := by decide +kernel
theorem dX0_toil_5 : decode cX0_toil 5 = .ok (.isub, 1) := by decide +kernel
theorem dX0_toil_6 : decode cX0_toil 6 = .ok (.ireturn, 1) := by decide +kernel
theorem dX0_worth_0 : decode cX0_worth 0 = .ok (.aload_n 0, 1) := by decide +kernel
theorem dX0_worth_1 : decode cX0_worth 1 = .ok (.invokespecial 25, 3) := by decide +kernel
theorem dX0_worth_4 : decode cX0_worth 4 = .ok (.iconst 1, 1) := by decide +kernel
theorem dX0_worth_5 : decode cX0_worth 5 = .ok (.isub, 1) := by decide +kernel
theorem dX0_worth_6 : decode cX0_worth 6 = .ok (.ireturn, 1) := by decide +kernel
theorem dX1_init_0 : decode cX1_init 0 = .ok (.aload_n 0, 1) := by decide +kernel
theorem dX1_init_1 : decode cX1_init 1 = .ok (.iload_n 1, 1) := by decide +kernel
theorem dX1_init_2 : decode cX1_init 2 = .ok (.invokespecial 3, 3) := by decide +kernel
theorem dX1_init_5 : decode cX1_init 5 = .ok (.return_, 1) := by decide +kernel
theorem dX1_kind_0 : decode cX1_kind 0 = .ok (.bipush 7, 2) := by decide +kernel
theorem dX1_kind_2 : decode cX1_kind 2 = .ok (.ireturn, 1) := by decide +kernel
theorem dX1_loss_0 : decode cX1_loss 0 = .ok (.aload_n 0, 1) := by decide +kernel
theorem dX1_loss_1 : decode cX1_loss 1 = .ok (.invokespecial 9, 3) := by decide +kernel
theorem dX1_loss_4 : decode cX1_loss 4 = .ok (.iconst 1, 1) := by decide +kernel
theorem dX1_loss_5 : decode cX1_loss 5 = .ok (.isub, 1) := by decide +kernel
theorem dX1_loss_6 : decode cX1_loss 6 = .ok (.ireturn, 1) := by decide +kernel
theorem dX1_toil_0 : decode cX1_toil 0 = .ok (.iconst 0, 1) := by decide +kernel
theorem dX1_toil_1 : decode cX1_toil 1 = .ok (.ireturn, 1) := by decide +kernel
theorem dX1_worth_0 : decode cX1_worth 0 = .ok (.aload_n 0, 1) := by decide +kernel
theorem dX1_worth_1 : decode cX1_worth 1 = .ok (.invokespecial 13, 3) := by decide +kernel
theorem dX1_worth_4 : decode cX1_worth 4 = .ok (.aload_n 0, 1) := by decide +kernel
theorem dX1_worth_5 : decode cX1_worth 5 = .ok (.getfield 16, 3) := by decide +kernel
theorem dX1_worth_8 : decode cX1_worth 8 = .ok (.isub, 1) := by decide +kernel
theorem dX1_worth_9 : decode cX1_worth 9 = .ok (.ireturn, 1) := by decide +kernel
theorem dX1_fail_0 : decode cX1_fail 0 = .ok (.return_, 1) := by decide +kernel
theorem dX2_init_0 : decode cX2_init 0 = .ok (.aload_n 0, 1) := by decide +kernel
theorem dX2_init_1 : decode cX2_init 1 = .ok (.iload_n 1, 1) := by decide +kernel
theorem dX2_init_2 : decode cX2_init 2 = .ok (.invokespecial 3, 3) := by decide +kernel
theorem dX2_init_5 : decode cX2_init 5 = .ok (.return_, 1) := by decide +kernel
theorem dX2_kind_0 : decode cX2_kind 0 = .ok (.bipush 6, 2) := by decide +kernel
theorem dX2_kind_2 : decode cX2_kind 2 = .ok (.ireturn, 1) := by decide +kernel
theorem dX2_slow_0 : decode cX2_slow 0 = .ok (.aload_n 0, 1) := by decide +kernel
theorem dX2_slow_1 : decode cX2_slow 1 = .ok (.invokespecial 9, 3) := by decide +kernel
theorem dX2_slow_4 : decode cX2_slow 4 = .ok (.iconst 2, 1) := by decide +kernel
theorem dX2_slow_5 : decode cX2_slow 5 = .ok (.imul, 1) := by decide +kernel
theorem dX2_slow_6 : decode cX2_slow 6 = .ok (.ireturn, 1) := by decide +kernel
theorem dX2_loss_0 : decode cX2_loss 0 = .ok (.aload_n 0, 1) := by decide +kernel
theorem dX2_loss_1 : decode cX2_loss 1 = .ok (.invokespecial 13, 3) := by decide +kernel
theorem dX2_loss_4 : decode cX2_loss 4 = .ok (.aload_n 0, 1) := by decide +kernel
theorem dX2_loss_5 : decode cX2_loss 5 = .ok (.getfield 16, 3) := by decide +kernel
theorem dX2_loss_8 : decode cX2_loss 8 = .ok (.iadd, 1) := by decide +kernel
theorem dX2_loss_9 : decode cX2_loss 9 = .ok (.ireturn, 1) := by decide +kernel
theorem dX2_toil_0 : decode cX2_toil 0 = .ok (.aload_n 0, 1) := by decide +kernel
theorem dX2_toil_1 : decode cX2_toil 1 = .ok (.invokespecial 22, 3) := by decide +kernel
theorem dX2_toil_4 : decode cX2_toil 4 = .ok (.iconst 4, 1) := by decide +kernel
theorem dX2_toil_5 : decode cX2_toil 5 = .ok (.iadd, 1) := by decide +kernel
theorem dX2_toil_6 : decode cX2_toil 6 = .ok (.ireturn, 1) := by decide +kernel
theorem dX2_worth_0 : decode cX2_worth 0 = .ok (.aload_n 0, 1) := by decide +kernel
theorem dX2_worth_1 : decode cX2_worth 1 = .ok (.invokespecial 25, 3) := by decide +kernel
theorem dX2_worth_4 : decode cX2_worth 4 = .ok (.iconst 5, 1) := by decide +kernel
theorem dX2_worth_5 : decode cX2_worth 5 = .ok (.iadd, 1) := by decide +kernel
theorem dX2_worth_6 : decode cX2_worth 6 = .ok (.ireturn, 1) := by decide +kernel
theorem dX3_init_0 : decode cX3_init 0 = .ok (.aload_n 0, 1) := by decide +kernel
theorem dX3_init_1 : decode cX3_init 1 = .ok (.iload_n 1, 1) := by decide +kernel
theorem dX3_init_2 : decode cX3_init 2 = .ok (.invokespecial 3, 3) := by decide +kernel
theorem dX3_init_5 : decode cX3_init 5 = .ok (.return_, 1) := by decide +kernel
theorem dX3_kind_0 : decode cX3_kind 0 = .ok (.iconst 1, 1) := by decide +kernel
theorem dX3_kind_1 : decode cX3_kind 1 = .ok (.ireturn, 1) := by decide +kernel
theorem dX3_slow_0 : decode cX3_slow 0 = .ok (.aload_n 0, 1) := by decide +kernel
theorem dX3_slow_1 : decode cX3_slow 1 = .ok (.invokespecial 9, 3) := by decide +kernel
theorem dX3_slow_4 : decode cX3_slow 4 = .ok (.iconst 2, 1) := by decide +kernel
theorem dX3_slow_5 : decode cX3_slow 5 = .ok (.isub, 1) := by decide +kernel
theorem dX3_slow_6 : decode cX3_slow 6 = .ok (.ireturn, 1) := by decide +kernel
theorem dX3_loss_0 : decode cX3_loss 0 = .ok (.aload_n 0, 1) := by decide +kernel
theorem dX3_loss_1 : decode cX3_loss 1 = .ok (.invokespecial 13, 3) := by decide +kernel
theorem dX3_loss_4 : decode cX3_loss 4 = .ok (.iconst 1, 1) := by decide +kernel
theorem dX3_loss_5 : decode cX3_loss 5 = .ok (.isub, 1) := by decide +kernel
theorem dX3_loss_6 : decode cX3_loss 6 = .ok (.ireturn, 1) := by decide +kernel
theorem dX3_toil_0 : decode cX3_toil 0 = .ok (.aload_n 0, 1) := by decide +kernel
theorem dX3_toil_1 : decode cX3_toil 1 = .ok (.invokespecial 16, 3) := by decide +kernel
theorem dX3_toil_4 : decode cX3_toil 4 = .ok (.iconst 2, 1) := by decide +kernel
theorem dX3_toil_5 : decode cX3_toil 5 = .ok (.imul, 1) := by decide +kernel
theorem dX3_toil_6 : decode cX3_toil 6 = .ok (.ireturn, 1) := by decide +kernel
theorem dX3_worth_0 : decode cX3_worth 0 = .ok (.aload_n 0, 1) := by decide +kernel
theorem dX3_worth_1 : decode cX3_worth 1 = .ok (.invokespecial 19, 3) := by decide +kernel
theorem dX3_worth_4 : decode cX3_worth 4 = .ok (.aload_n 0, 1) := by decide +kernel
theorem dX3_worth_5 : decode cX3_worth 5 = .ok (.getfield 22, 3) := by decide +kernel
theorem dX3_worth_8 : decode cX3_worth 8 = .ok (.iadd, 1) := by decide +kernel
theorem dX3_worth_9 : decode cX3_worth 9 = .ok (.ireturn, 1) := by decide +kernel
theorem dX4_init_0 : decode cX4_init 0 = .ok (.aload_n 0, 1) := by decide +kernel
theorem dX4_init_1 : decode cX4_init 1 = .ok (.iload_n 1, 1) := by decide +kernel
theorem dX4_init_2 : decode cX4_init 2 = .ok (.invokespecial 3, 3) := by decide +kernel
theorem dX4_init_5 : decode cX4_init 5 = .ok (.return_, 1) := by decide +kernel
theorem dX4_kind_0 : decode cX4_kind 0 = .ok (.iconst 5, 1) := by decide +kernel
theorem dX4_kind_1 : decode cX4_kind 1 = .ok (.ireturn, 1) := by decide +kernel
theorem dX4_slow_0 : decode cX4_slow 0 = .ok (.aload_n 0, 1) := by decide +kernel
theorem dX4_slow_1 : decode cX4_slow 1 = .ok (.invokespecial 9, 3) := by decide +kernel
theorem dX4_slow_4 : decode cX4_slow 4 = .ok (.iconst 3, 1) := by decide +kernel
theorem dX4_slow_5 : decode cX4_slow 5 = .ok (.isub, 1) := by decide +kernel
theorem dX4_slow_6 : decode cX4_slow 6 = .ok (.ireturn, 1) := by decide +kernel
theorem dX4_toil_0 : decode cX4_toil 0 = .ok (.aload_n 0, 1) := by decide +kernel
theorem dX4_toil_1 : decode cX4_toil 1 = .ok (.invokespecial 13, 3) := by decide +kernel
theorem dX4_toil_4 : decode cX4_toil 4 = .ok (.iconst 4, 1) := by decide +kernel
theorem dX4_toil_5 : decode cX4_toil 5 = .ok (.isub, 1) := by decide +kernel
theorem dX4_toil_6 : decode cX4_toil 6 = .ok (.ireturn, 1) := by decide +kernel
theorem dX5_init_0 : decode cX5_init 0 = .ok (.aload_n 0, 1) := by decide +kernel
theorem dX5_init_1 : decode cX5_init 1 = .ok (.invokespecial 3, 3) := by decide +kernel
theorem dX5_init_4 : decode cX5_init 4 = .ok (.aload_n 0, 1) := by decide +kernel
theorem dX5_init_5 : decode cX5_init 5 = .ok (.bipush 20, 2) := by decide +kernel
theorem dX5_init_7 : decode cX5_init 7 = .ok (.anewarray 9, 3) := by decide +kernel
theorem dX5_init_10 : decode cX5_init 10 = .ok (.putfield 11, 3) := by decide +kernel
theorem dX5_init_13 : decode cX5_init 13 = .ok (.aload_n 0, 1) := by decide +kernel
theorem dX5_init_14 : decode cX5_init 14 = .ok (.iconst 2, 1) := by decide +kernel
theorem dX5_init_15 : decode cX5_init 15 = .ok (.newarray .int, 2) := by decide +kernel
theorem dX5_init_17 : decode cX5_init 17 = .ok (.putfield 17, 3) := by decide +kernel
theorem dX5_init_20 : decode cX5_init 20 = .ok (.aload_n 0, 1) := by decide +kernel
theorem dX5_init_21 : decode cX5_init 21 = .ok (.iconst 2, 1) := by decide +kernel
theorem dX5_init_22 : decode cX5_init 22 = .ok (.newarray .int, 2) := by decide +kernel
theorem dX5_init_24 : decode cX5_init 24 = .ok (.putfield 21, 3) := by decide +kernel
theorem dX5_init_27 : decode cX5_init 27 = .ok (.aload_n 0, 1) := by decide +kernel
theorem dX5_init_28 : decode cX5_init 28 = .ok (.new 24, 3) := by decide +kernel
theorem dX5_init_31 : decode cX5_init 31 = .ok (.dup, 1) := by decide +kernel
theorem dX5_init_32 : decode cX5_init 32 = .ok (.iconst 0, 1) := by decide +kernel
theorem dX5_init_33 : decode cX5_init 33 = .ok (.invokespecial 26, 3) := by decide +kernel
theorem dX5_init_36 : decode cX5_init 36 = .ok (.putfield 29, 3) := by decide +kernel
theorem dX5_init_39 : decode cX5_init 39 = .ok (.new 9, 3) := by decide +kernel
theorem dX5_init_42 : decode cX5_init 42 = .ok (.dup, 1) := by decide +kernel
theorem dX5_init_43 : decode cX5_init 43 = .ok (.iconst 0, 1) := by decide +kernel
theorem dX5_init_44 : decode cX5_init 44 = .ok (.invokespecial 33, 3) := by decide +kernel
theorem dX5_init_47 : decode cX5_init 47 = .ok (.astore_n 1, 1) := by decide +kernel
theorem dX5_init_48 : decode cX5_init 48 = .ok (.iconst 0, 1) := by decide +kernel
theorem dX5_init_49 : decode cX5_init 49 = .ok (.istore_n 2, 1) := by decide +kernel
theorem dX5_init_50 : decode cX5_init 50 = .ok (.iload_n 2, 1) := by decide +kernel
theorem dX5_init_51 : decode cX5_init 51 = .ok (.bipush 20, 2) := by decide +kernel
theorem dX5_init_53 : decode cX5_init 53 = .ok (.if_icmp .ge 16, 3) := by decide +kernel
theorem dX5_init_56 : decode cX5_init 56 = .ok (.aload_n 0, 1) := by decide +kernel
theorem dX5_init_57 : decode cX5_init 57 = .ok (.getfield 11, 3) := by decide +kernel
theorem dX5_init_60 : decode cX5_init 60 = .ok (.iload_n 2, 1) := by decide +kernel
theorem dX5_init_61 : decode cX5_init 61 = .ok (.aload_n 1, 1) := by decide +kernel
theorem dX5_init_62 : decode cX5_init 62 = .ok (.aastore, 1) := by decide +kernel
theorem dX5_init_63 : decode cX5_init 63 = .ok (.iinc 2 1, 3) := by decide +kernel
theorem dX5_init_66 : decode cX5_init 66 = .ok (.goto (-16), 3) := by decide +kernel
theorem dX5_init_69 : decode cX5_init 69 = .ok (.aload_n 0, 1) := by decide +kernel
theorem dX5_init_70 : decode cX5_init 70 = .ok (.getfield 17, 3) := by decide +kernel
theorem dX5_init_73 : decode cX5_init 73 = .ok (.iconst 1, 1) := by decide +kernel
theorem dX5_init_74 : decode cX5_init 74 = .ok (.bipush 19, 2) := by decide +kernel
theorem dX5_init_76 : decode cX5_init 76 = .ok (.iastore, 1) := by decide +kernel
theorem dX5_init_77 : decode cX5_init 77 = .ok (.return_, 1) := by decide +kernel
theorem dX5_become_0 : decode cX5_become 0 = .ok (.iconst 0, 1) := by decide +kernel
theorem dX5_become_1 : decode cX5_become 1 = .ok (.istore_n 2, 1) := by decide +kernel
theorem dX5_become_2 : decode cX5_become 2 = .ok (.iload_n 2, 1) := by decide +kernel
theorem dX5_become_3 : decode cX5_become 3 = .ok (.bipush 20, 2) := by decide +kernel
theorem dX5_become_5 : decode cX5_become 5 = .ok (.if_icmp .ge 21, 3) := by decide +kernel
theorem dX5_become_8 : decode cX5_become 8 = .ok (.aload_n 0, 1) := by decide +kernel
theorem dX5_become_9 : decode cX5_become 9 = .ok (.getfield 11, 3) := by decide +kernel
theorem dX5_become_12 : decode cX5_become 12 = .ok (.iload_n 2, 1) := by decide +kernel
theorem dX5_become_13 : decode cX5_become 13 = .ok (.aload_n 1, 1) := by decide +kernel
theorem dX5_become_14 : decode cX5_become 14 = .ok (.getfield 11, 3) := by decide +kernel
theorem dX5_become_17 : decode cX5_become 17 = .ok (.iload_n 2, 1) := by decide +kernel
theorem dX5_become_18 : decode cX5_become 18 = .ok (.aaload, 1) := by decide +kernel
theorem dX5_become_19 : decode cX5_become 19 = .ok (.aastore, 1) := by decide +kernel
theorem dX5_become_20 : decode cX5_become 20 = .ok (.iinc 2 1, 3) := by decide +kernel
theorem dX5_become_23 : decode cX5_become 23 = .ok (.goto (-21), 3) := by decide +kernel
theorem dX5_become_26 : decode cX5_become 26 = .ok (.iconst 0, 1) := by decide +kernel
theorem dX5_become_27 : decode cX5_become 27 = .ok (.istore_n 2, 1) := by decide +kernel
theorem dX5_become_28 : decode cX5_become 28 = .ok (.iload_n 2, 1) := by decide +kernel
theorem dX5_become_29 : decode cX5_become 29 = .ok (.iconst 2, 1) := by decide +kernel
theorem dX5_become_30 : decode cX5_become 30 = .ok (.if_icmp .ge 33, 3) := by decide +kernel
theorem dX5_become_33 : decode cX5_become 33 = .ok (.aload_n 0, 1) := by decide +kernel
theorem dX5_become_34 : decode cX5_become 34 = .ok (.getfield 17, 3) := by decide +kernel
theorem dX5_become_37 : decode cX5_become 37 = .ok (.iload_n 2, 1) := by decide +kernel
theorem dX5_become_38 : decode cX5_become 38 = .ok (.aload_n 1, 1) := by decide +kernel
theorem dX5_become_39 : decode cX5_become 39 = .ok (.getfield 17, 3) := by decide +kernel
theorem dX5_become_42 : decode cX5_become 42 = .ok (.iload_n 2, 1) := by decide +kernel
theorem dX5_become_43 : decode cX5_become 43 = .ok (.iaload, 1) := by decide +kernel
theorem dX5_become_44 : decode cX5_become 44 = .ok (.iastore, 1) := by decide +kernel
theorem dX5_become_45 : decode cX5_become 45 = .ok (.aload_n 0, 1) := by decide +kernel
theorem dX5_become_46 : decode cX5_become 46 = .ok (.getfield 21, 3) := by decide +kernel
theorem dX5_become_49 : decode cX5_become 49 = .ok (.iload_n 2, 1) := by decide +kernel
theorem dX5_become_50 : decode cX5_become 50 = .ok (.aload_n 1, 1) := by decide +kernel
theorem dX5_become_51 : decode cX5_become 51 = .ok (.getfield 21, 3) := by decide +kernel
theorem dX5_become_54 : decode cX5_become 54 = .ok (.iload_n 2, 1) := by decide +kernel
theorem dX5_become_55 : decode cX5_become 55 = .ok (.iaload, 1) := by decide +kernel
theorem dX5_become_56 : decode cX5_become 56 = .ok (.iastore, 1) := by decide +kernel
theorem dX5_become_57 : decode cX5_become 57 = .ok (.iinc 2 1, 3) := by decide +kernel
theorem dX5_become_60 : decode cX5_become 60 = .ok (.goto (-32), 3) := by decide +kernel
theorem dX5_become_63 : decode cX5_become 63 = .ok (.return_, 1) := by decide +kernel
theorem dX5_advance_0 : decode cX5_advance 0 = .ok (.aload_n 0, 1) := by decide +kernel
theorem dX5_advance_1 : decode cX5_advance 1 = .ok (.getfield 17, 3) := by decide +kernel
theorem dX5_advance_4 : decode cX5_advance 4 = .ok (.iload_n 1, 1) := by decide +kernel
theorem dX5_advance_5 : decode cX5_advance 5 = .ok (.iaload, 1) := by decide +kernel
theorem dX5_advance_6 : decode cX5_advance 6 = .ok (.iload_n 2, 1) := by decide +kernel
theorem dX5_advance_7 : decode cX5_advance 7 = .ok (.invokestatic 34, 3) := by decide +kernel
theorem dX5_advance_10 : decode cX5_advance 10 = .ok (.istore_n 3, 1) := by decide +kernel
theorem dX5_advance_11 : decode cX5_advance 11 = .ok (.iload_n 3, 1) := by decide +kernel
theorem dX5_advance_12 : decode cX5_advance 12 = .ok (.iconst (-1), 1) := by decide +kernel
theorem dX5_advance_13 : decode cX5_advance 13 = .ok (.if_icmp .ne 5, 3) := by decide +kernel
theorem dX5_advance_16 : decode cX5_advance 16 = .ok (.iconst (-1), 1) := by decide +kernel
theorem dX5_advance_17 : decode cX5_advance 17 = .ok (.ireturn, 1) := by decide +kernel
theorem dX5_advance_18 : decode cX5_advance 18 = .ok (.aload_n 0, 1) := by decide +kernel
theorem dX5_advance_19 : decode cX5_advance 19 = .ok (.getfield 11, 3) := by decide +kernel
theorem dX5_advance_22 : decode cX5_advance 22 = .ok (.iload_n 3, 1) := by decide +kernel
theorem dX5_advance_23 : decode cX5_advance 23 = .ok (.aaload, 1) := by decide +kernel
theorem dX5_advance_24 : decode cX5_advance 24 = .ok (.invokevirtual 38, 3) := by decide +kernel
theorem dX5_advance_27 : decode cX5_advance 27 = .ok (.istore 4, 2) := by decide +kernel
theorem dX5_advance_29 : decode cX5_advance 29 = .ok (.aload_n 0, 1) := by decide +kernel
theorem dX5_advance_30 : decode cX5_advance 30 = .ok (.getfield 17, 3) := by decide +kernel
theorem dX5_advance_33 : decode cX5_advance 33 = .ok (.iload_n 1, 1) := by decide +kernel
theorem dX5_advance_34 : decode cX5_advance 34 = .ok (.iload_n 3, 1) := by decide +kernel
theorem dX5_advance_35 : decode cX5_advance 35 = .ok (.iastore, 1) := by decide +kernel
theorem dX5_advance_36 : decode cX5_advance 36 = .ok (.aload_n 0, 1) := by decide +kernel
theorem dX5_advance_37 : decode cX5_advance 37 = .ok (.getfield 21, 3) := by decide +kernel
theorem dX5_advance_40 : decode cX5_advance 40 = .ok (.iload_n 1, 1) := by decide +kernel
theorem dX5_advance_41 : decode cX5_advance 41 = .ok (.dup2, 1) := by decide +kernel
theorem dX5_advance_42 : decode cX5_advance 42 = .ok (.iaload, 1) := by decide +kernel
theorem dX5_advance_43 : decode cX5_advance 43 = .ok (.iload 4, 2) := by decide +kernel
theorem dX5_advance_45 : decode cX5_advance 45 = .ok (.iadd, 1) := by decide +kernel
theorem dX5_advance_46 : decode cX5_advance 46 = .ok (.iastore, 1) := by decide +kernel
theorem dX5_advance_47 : decode cX5_advance 47 = .ok (.aload_n 0, 1) := by decide +kernel
theorem dX5_advance_48 : decode cX5_advance 48 = .ok (.getfield 11, 3) := by decide +kernel
theorem dX5_advance_51 : decode cX5_advance 51 = .ok (.iload_n 3, 1) := by decide +kernel
theorem dX5_advance_52 : decode cX5_advance 52 = .ok (.aload_n 0, 1) := by decide +kernel
theorem dX5_advance_53 : decode cX5_advance 53 = .ok (.getfield 29, 3) := by decide +kernel
theorem dX5_advance_56 : decode cX5_advance 56 = .ok (.aastore, 1) := by decide +kernel
theorem dX5_advance_57 : decode cX5_advance 57 = .ok (.iload 4, 2) := by decide +kernel
theorem dX5_advance_59 : decode cX5_advance 59 = .ok (.ireturn, 1) := by decide +kernel
theorem dX5_gangsMet_0 : decode cX5_gangsMet 0 = .ok (.aload_n 0, 1) := by decide +kernel
theorem dX5_gangsMet_1 : decode cX5_gangsMet 1 = .ok (.getfield 17, 3) := by decide +kernel
theorem dX5_gangsMet_4 : decode cX5_gangsMet 4 = .ok (.iconst 0, 1) := by decide +kernel
theorem dX5_gangsMet_5 : decode cX5_gangsMet 5 = .ok (.iaload, 1) := by decide +kernel
theorem dX5_gangsMet_6 : decode cX5_gangsMet 6 = .ok (.aload_n 0, 1) := by decide +kernel
theorem dX5_gangsMet_7 : decode cX5_gangsMet 7 = .ok (.getfield 17, 3) := by decide +kernel
theorem dX5_gangsMet_10 : decode cX5_gangsMet 10 = .ok (.iconst 1, 1) := by decide +kernel
theorem dX5_gangsMet_11 : decode cX5_gangsMet 11 = .ok (.iaload, 1) := by decide +kernel
theorem dX5_gangsMet_12 : decode cX5_gangsMet 12 = .ok (.if_icmp .ne 5, 3) := by decide +kernel
theorem dX5_gangsMet_15 : decode cX5_gangsMet 15 = .ok (.iconst 1, 1) := by decide +kernel
theorem dX5_gangsMet_16 : decode cX5_gangsMet 16 = .ok (.ireturn, 1) := by decide +kernel
theorem dX5_gangsMet_17 : decode cX5_gangsMet 17 = .ok (.iconst 0, 1) := by decide +kernel
theorem dX5_gangsMet_18 : decode cX5_gangsMet 18 = .ok (.istore_n 1, 1) := by decide +kernel
theorem dX5_gangsMet_19 : decode cX5_gangsMet 19 = .ok (.iload_n 1, 1) := by decide +kernel
theorem dX5_gangsMet_20 : decode cX5_gangsMet 20 = .ok (.iconst 4, 1) := by decide +kernel
theorem dX5_gangsMet_21 : decode cX5_gangsMet 21 = .ok (.if_icmp .ge 30, 3) := by decide +kernel
theorem dX5_gangsMet_24 : decode cX5_gangsMet 24 = .ok (.aload_n 0, 1) := by decide +kernel
theorem dX5_gangsMet_25 : decode cX5_gangsMet 25 = .ok (.getfield 17, 3) := by decide +kernel
theorem dX5_gangsMet_28 : decode cX5_gangsMet 28 = .ok (.iconst 0, 1) := by decide +kernel
theorem dX5_gangsMet_29 : decode cX5_gangsMet 29 = .ok (.iaload, 1) := by decide +kernel
theorem dX5_gangsMet_30 : decode cX5_gangsMet 30 = .ok (.iload_n 1, 1) := by decide +kernel
theorem dX5_gangsMet_31 : decode cX5_gangsMet 31 = .ok (.invokestatic 34, 3) := by decide +kernel
theorem dX5_gangsMet_34 : decode cX5_gangsMet 34 = .ok (.aload_n 0, 1) := by decide +kernel
theorem dX5_gangsMet_35 : decode cX5_gangsMet 35 = .ok (.getfield 17, 3) := by decide +kernel
theorem dX5_gangsMet_38 : decode cX5_gangsMet 38 = .ok (.iconst 1, 1) := by decide +kernel
theorem dX5_gangsMet_39 : decode cX5_gangsMet 39 = .ok (.iaload, 1) := by decide +kernel
theorem dX5_gangsMet_40 : decode cX5_gangsMet 40 = .ok (.if_icmp .ne 5, 3) := by decide +kernel
theorem dX5_gangsMet_43 : decode cX5_gangsMet 43 = .ok (.iconst 1, 1) := by decide +kernel
theorem dX5_gangsMet_44 : decode cX5_gangsMet 44 = .ok (.ireturn, 1) := by decide +kernel
theorem dX5_gangsMet_45 : decode cX5_gangsMet 45 = .ok (.iinc 1 1, 3) := by decide +kernel
theorem dX5_gangsMet_48 : decode cX5_gangsMet 48 = .ok (.goto (-29), 3) := by decide +kernel
theorem dX5_gangsMet_51 : decode cX5_gangsMet 51 = .ok (.iconst 0, 1) := by decide +kernel
theorem dX5_gangsMet_52 : decode cX5_gangsMet 52 = .ok (.ireturn, 1) := by decide +kernel
theorem dX5_allHours_0 : decode cX5_allHours 0 = .ok (.aload_n 0, 1) := by decide +kernel
theorem dX5_allHours_1 : decode cX5_allHours 1 = .ok (.getfield 21, 3) := by decide +kernel
theorem dX5_allHours_4 : decode cX5_allHours 4 = .ok (.iconst 0, 1) := by decide +kernel
theorem dX5_allHours_5 : decode cX5_allHours 5 = .ok (.iaload, 1) := by decide +kernel
theorem dX5_allHours_6 : decode cX5_allHours 6 = .ok (.aload_n 0, 1) := by decide +kernel
theorem dX5_allHours_7 : decode cX5_allHours 7 = .ok (.getfield 21, 3) := by decide +kernel
theorem dX5_allHours_10 : decode cX5_allHours 10 = .ok (.iconst 1, 1) := by decide +kernel
theorem dX5_allHours_11 : decode cX5_allHours 11 = .ok (.iaload, 1) := by decide +kernel
theorem dX5_allHours_12 : decode cX5_allHours 12 = .ok (.iadd, 1) := by decide +kernel
theorem dX5_allHours_13 : decode cX5_allHours 13 = .ok (.ireturn, 1) := by decide +kernel
theorem dX6_init_0 : decode cX6_init 0 = .ok (.aload_n 0, 1) := by decide +kernel
theorem dX6_init_1 : decode cX6_init 1 = .ok (.invokespecial 3, 3) := by decide +kernel
theorem dX6_init_4 : decode cX6_init 4 = .ok (.aload_n 0, 1) := by decide +kernel
theorem dX6_init_5 : decode cX6_init 5 = .ok (.iload_n 1, 1) := by decide +kernel
theorem dX6_init_6 : decode cX6_init 6 = .ok (.putfield 9, 3) := by decide +kernel
theorem dX6_init_9 : decode cX6_init 9 = .ok (.return_, 1) := by decide +kernel
theorem dX6_kind_0 : decode cX6_kind 0 = .ok (.iconst 0, 1) := by decide +kernel
theorem dX6_kind_1 : decode cX6_kind 1 = .ok (.ireturn, 1) := by decide +kernel
theorem dX6_slow_0 : decode cX6_slow 0 = .ok (.iconst 4, 1) := by decide +kernel
theorem dX6_slow_1 : decode cX6_slow 1 = .ok (.ireturn, 1) := by decide +kernel
theorem dX6_loss_0 : decode cX6_loss 0 = .ok (.iconst 2, 1) := by decide +kernel
theorem dX6_loss_1 : decode cX6_loss 1 = .ok (.ireturn, 1) := by decide +kernel
theorem dX6_toil_0 : decode cX6_toil 0 = .ok (.iconst 5, 1) := by decide +kernel
theorem dX6_toil_1 : decode cX6_toil 1 = .ok (.ireturn, 1) := by decide +kernel
theorem dX6_worth_0 : decode cX6_worth 0 = .ok (.iconst 3, 1) := by decide +kernel
theorem dX6_worth_1 : decode cX6_worth 1 = .ok (.ireturn, 1) := by decide +kernel
theorem dX6_fail_0 : decode cX6_fail 0 = .ok (.aload_n 0, 1) := by decide +kernel
theorem dX6_fail_1 : decode cX6_fail 1 = .ok (.getfield 9, 3) := by decide +kernel
theorem dX6_fail_4 : decode cX6_fail 4 = .ok (.ifCond .eq 13, 3) := by decide +kernel
theorem dX6_fail_7 : decode cX6_fail 7 = .ok (.new 15, 3) := by decide +kernel
theorem dX6_fail_10 : decode cX6_fail 10 = .ok (.dup, 1) := by decide +kernel
theorem dX6_fail_11 : decode cX6_fail 11 = .ok (.ldc 17, 2) := by decide +kernel
theorem dX6_fail_13 : decode cX6_fail 13 = .ok (.invokespecial 19, 3) := by decide +kernel
theorem dX6_fail_16 : decode cX6_fail 16 = .ok (.athrow, 1) := by decide +kernel
theorem dX6_fail_17 : decode cX6_fail 17 = .ok (.return_, 1) := by decide +kernel
theorem dX7_init_0 : decode cX7_init 0 = .ok (.aload_n 0, 1) := by decide +kernel
theorem dX7_init_1 : decode cX7_init 1 = .ok (.invokespecial 3, 3) := by decide +kernel
theorem dX7_init_4 : decode cX7_init 4 = .ok (.aload_n 0, 1) := by decide +kernel
theorem dX7_init_5 : decode cX7_init 5 = .ok (.aconst_null, 1) := by decide +kernel
theorem dX7_init_6 : decode cX7_init 6 = .ok (.putfield 9, 3) := by decide +kernel
theorem dX7_init_9 : decode cX7_init 9 = .ok (.aload_n 0, 1) := by decide +kernel
theorem dX7_init_10 : decode cX7_init 10 = .ok (.iconst (-1), 1) := by decide +kernel
theorem dX7_init_11 : decode cX7_init 11 = .ok (.putfield 15, 3) := by decide +kernel
theorem dX7_init_14 : decode cX7_init 14 = .ok (.aload_n 0, 1) := by decide +kernel
theorem dX7_init_15 : decode cX7_init 15 = .ok (.iconst 0, 1) := by decide +kernel
theorem dX7_init_16 : decode cX7_init 16 = .ok (.putfield 19, 3) := by decide +kernel
theorem dX7_init_19 : decode cX7_init 19 = .ok (.aload_n 0, 1) := by decide +kernel
theorem dX7_init_20 : decode cX7_init 20 = .ok (.bipush 100, 2) := by decide +kernel
theorem dX7_init_22 : decode cX7_init 22 = .ok (.newarray .int, 2) := by decide +kernel
theorem dX7_init_24 : decode cX7_init 24 = .ok (.putfield 22, 3) := by decide +kernel
theorem dX7_init_27 : decode cX7_init 27 = .ok (.return_, 1) := by decide +kernel
theorem dX7_isEmpty_0 : decode cX7_isEmpty 0 = .ok (.aload_n 0, 1) := by decide +kernel
theorem dX7_isEmpty_1 : decode cX7_isEmpty 1 = .ok (.getfield 9, 3) := by decide +kernel
theorem dX7_isEmpty_4 : decode cX7_isEmpty 4 = .ok (.ifnonnull 15, 3) := by decide +kernel
theorem dX7_isEmpty_7 : decode cX7_isEmpty 7 = .ok (.aload_n 0, 1) := by decide +kernel
theorem dX7_isEmpty_8 : decode cX7_isEmpty 8 = .ok (.getfield 15, 3) := by decide +kernel
theorem dX7_isEmpty_11 : decode cX7_isEmpty 11 = .ok (.iconst (-1), 1) := by decide +kernel
theorem dX7_isEmpty_12 : decode cX7_isEmpty 12 = .ok (.if_icmp .ne 7, 3) := by decide +kernel
theorem dX7_isEmpty_15 : decode cX7_isEmpty 15 = .ok (.iconst 1, 1) := by decide +kernel
theorem dX7_isEmpty_16 : decode cX7_isEmpty 16 = .ok (.goto 4, 3) := by decide +kernel
theorem dX7_isEmpty_19 : decode cX7_isEmpty 19 = .ok (.iconst 0, 1) := by decide +kernel
theorem dX7_isEmpty_20 : decode cX7_isEmpty 20 = .ok (.ireturn, 1) := by decide +kernel
theorem dX7_clear_0 : decode cX7_clear 0 = .ok (.aload_n 0, 1) := by decide +kernel
theorem dX7_clear_1 : decode cX7_clear 1 = .ok (.aconst_null, 1) := by decide +kernel
theorem dX7_clear_2 : decode cX7_clear 2 = .ok (.putfield 9, 3) := by decide +kernel
theorem dX7_clear_5 : decode cX7_clear 5 = .ok (.aload_n 0, 1) := by decide +kernel
theorem dX7_clear_6 : decode cX7_clear 6 = .ok (.iconst (-1), 1) := by decide +kernel
theorem dX7_clear_7 : decode cX7_clear 7 = .ok (.putfield 15, 3) := by decide +kernel
theorem dX7_clear_10 : decode cX7_clear 10 = .ok (.aload_n 0, 1) := by decide +kernel
theorem dX7_clear_11 : decode cX7_clear 11 = .ok (.iconst 0, 1) := by decide +kernel
theorem dX7_clear_12 : decode cX7_clear 12 = .ok (.putfield 19, 3) := by decide +kernel
theorem dX7_clear_15 : decode cX7_clear 15 = .ok (.return_, 1) := by decide +kernel
theorem dX7_holdRock_0 : decode cX7_holdRock 0 = .ok (.aload_n 0, 1) := by decide +kernel
theorem dX7_holdRock_1 : decode cX7_holdRock 1 = .ok (.invokevirtual 26, 3) := by decide +kernel
theorem dX7_holdRock_4 : decode cX7_holdRock 4 = .ok (.aload_n 0, 1) := by decide +kernel
theorem dX7_holdRock_5 : decode cX7_holdRock 5 = .ok (.aload_n 1, 1) := by decide +kernel
theorem dX7_holdRock_6 : decode cX7_holdRock 6 = .ok (.putfield 9, 3) := by decide +kernel
theorem dX7_holdRock_9 : decode cX7_holdRock 9 = .ok (.return_, 1) := by decide +kernel
theorem dX7_holdRow_0 : decode cX7_holdRow 0 = .ok (.aload_n 0, 1) := by decide +kernel
theorem dX7_holdRow_1 : decode cX7_holdRow 1 = .ok (.invokevirtual 26, 3) := by decide +kernel
theorem dX7_holdRow_4 : decode cX7_holdRow 4 = .ok (.aload_n 0, 1) := by decide +kernel
theorem dX7_holdRow_5 : decode cX7_holdRow 5 = .ok (.iload_n 1, 1) := by decide +kernel
theorem dX7_holdRow_6 : decode cX7_holdRow 6 = .ok (.putfield 15, 3) := by decide +kernel
theorem dX7_holdRow_9 : decode cX7_holdRow 9 = .ok (.aload_n 0, 1) := by decide +kernel
theorem dX7_holdRow_10 : decode cX7_holdRow 10 = .ok (.iload_n 2, 1) := by decide +kernel
theorem dX7_holdRow_11 : decode cX7_holdRow 11 = .ok (.putfield 19, 3) := by decide +kernel
theorem dX7_holdRow_14 : decode cX7_holdRow 14 = .ok (.iconst 0, 1) := by decide +kernel
theorem dX7_holdRow_15 : decode cX7_holdRow 15 = .ok (.istore_n 3, 1) := by decide +kernel
theorem dX7_holdRow_16 : decode cX7_holdRow 16 = .ok (.iload_n 3, 1) := by decide +kernel
theorem dX7_holdRow_17 : decode cX7_holdRow 17 = .ok (.iload_n 2, 1) := by decide +kernel
theorem dX7_holdRow_18 : decode cX7_holdRow 18 = .ok (.if_icmp .ge 22, 3) := by decide +kernel
theorem dX7_holdRow_21 : decode cX7_holdRow 21 = .ok (.iload_n 3, 1) := by decide +kernel
theorem dX7_holdRow_22 : decode cX7_holdRow 22 = .ok (.bipush 100, 2) := by decide +kernel
theorem dX7_holdRow_24 : decode cX7_holdRow 24 = .ok (.if_icmp .ge 16, 3) := by decide +kernel
theorem dX7_holdRow_27 : decode cX7_holdRow 27 = .ok (.aload_n 0, 1) := by decide +kernel
theorem dX7_holdRow_28 : decode cX7_holdRow 28 = .ok (.getfield 22, 3) := by decide +kernel
theorem dX7_holdRow_31 : decode cX7_holdRow 31 = .ok (.iload_n 3, 1) := by decide +kernel
theorem dX7_holdRow_32 : decode cX7_holdRow 32 = .ok (.iconst 0, 1) := by decide +kernel
theorem dX7_holdRow_33 : decode cX7_holdRow 33 = .ok (.iastore, 1) := by decide +kernel
theorem dX7_holdRow_34 : decode cX7_holdRow 34 = .ok (.iinc 3 1, 3) := by decide +kernel
theorem dX7_holdRow_37 : decode cX7_holdRow 37 = .ok (.goto (-21), 3) := by decide +kernel
theorem dX7_holdRow_40 : decode cX7_holdRow 40 = .ok (.return_, 1) := by decide +kernel
theorem dX7_spans_0 : decode cX7_spans 0 = .ok (.iload_n 1, 1) := by decide +kernel
theorem dX7_spans_1 : decode cX7_spans 1 = .ok (.ifCond .lt 21, 3) := by decide +kernel
theorem dX7_spans_4 : decode cX7_spans 4 = .ok (.iload_n 2, 1) := by decide +kernel
theorem dX7_spans_5 : decode cX7_spans 5 = .ok (.ifCond .lt 17, 3) := by decide +kernel
theorem dX7_spans_8 : decode cX7_spans 8 = .ok (.iload_n 1, 1) := by decide +kernel
theorem dX7_spans_9 : decode cX7_spans 9 = .ok (.aload_n 0, 1) := by decide +kernel
theorem dX7_spans_10 : decode cX7_spans 10 = .ok (.getfield 19, 3) := by decide +kernel
theorem dX7_spans_13 : decode cX7_spans 13 = .ok (.iload_n 2, 1) := by decide +kernel
theorem dX7_spans_14 : decode cX7_spans 14 = .ok (.isub, 1) := by decide +kernel
theorem dX7_spans_15 : decode cX7_spans 15 = .ok (.if_icmp .gt 7, 3) := by decide +kernel
theorem dX7_spans_18 : decode cX7_spans 18 = .ok (.iconst 1, 1) := by decide +kernel
theorem dX7_spans_19 : decode cX7_spans 19 = .ok (.goto 4, 3) := by decide +kernel
theorem dX7_spans_22 : decode cX7_spans 22 = .ok (.iconst 0, 1) := by decide +kernel
theorem dX7_spans_23 : decode cX7_spans 23 = .ok (.ireturn, 1) := by decide +kernel
theorem dX7_set_0 : decode cX7_set 0 = .ok (.aload_n 0, 1) := by decide +kernel
theorem dX7_set_1 : decode cX7_set 1 = .ok (.getfield 15, 3) := by decide +kernel
theorem dX7_set_4 : decode cX7_set 4 = .ok (.ifCond .ne 14, 3) := by decide +kernel
theorem dX7_set_7 : decode cX7_set 7 = .ok (.aload_n 0, 1) := by decide +kernel
theorem dX7_set_8 : decode cX7_set 8 = .ok (.getfield 22, 3) := by decide +kernel
theorem dX7_set_11 : decode cX7_set 11 = .ok (.iload_n 1, 1) := by decide +kernel
theorem dX7_set_12 : decode cX7_set 12 = .ok (.iload_n 2, 1) := by decide +kernel
theorem dX7_set_13 : decode cX7_set 13 = .ok (.i2b, 1) := by decide +kernel
theorem dX7_set_14 : decode cX7_set 14 = .ok (.iastore, 1) := by decide +kernel
theorem dX7_set_15 : decode cX7_set 15 = .ok (.goto 29, 3) := by decide +kernel
theorem dX7_set_18 : decode cX7_set 18 = .ok (.aload_n 0, 1) := by decide +kernel
theorem dX7_set_19 : decode cX7_set 19 = .ok (.getfield 15, 3) := by decide +kernel
theorem dX7_set_22 : decode cX7_set 22 = .ok (.iconst 1, 1) := by decide +kernel
theorem dX7_set_23 : decode cX7_set 23 = .ok (.if_icmp .ne 14, 3) := by decide +kernel
theorem dX7_set_26 : decode cX7_set 26 = .ok (.aload_n 0, 1) := by decide +kernel
theorem dX7_set_27 : decode cX7_set 27 = .ok (.getfield 22, 3) := by decide +kernel
theorem dX7_set_30 : decode cX7_set 30 = .ok (.iload_n 1, 1) := by decide +kernel
theorem dX7_set_31 : decode cX7_set 31 = .ok (.iload_n 2, 1) := by decide +kernel
theorem dX7_set_32 : decode cX7_set 32 = .ok (.i2s, 1) := by decide +kernel
theorem dX7_set_33 : decode cX7_set 33 = .ok (.iastore, 1) := by decide +kernel
theorem dX7_set_34 : decode cX7_set 34 = .ok (.goto 10, 3) := by decide +kernel
theorem dX7_set_37 : decode cX7_set 37 = .ok (.aload_n 0, 1) := by decide +kernel
theorem dX7_set_38 : decode cX7_set 38 = .ok (.getfield 22, 3) := by decide +kernel
theorem dX7_set_41 : decode cX7_set 41 = .ok (.iload_n 1, 1) := by decide +kernel
theorem dX7_set_42 : decode cX7_set 42 = .ok (.iload_n 2, 1) := by decide +kernel
theorem dX7_set_43 : decode cX7_set 43 = .ok (.iastore, 1) := by decide +kernel
theorem dX7_set_44 : decode cX7_set 44 = .ok (.return_, 1) := by decide +kernel
theorem dX7_at_0 : decode cX7_at 0 = .ok (.iload_n 1, 1) := by decide +kernel
theorem dX7_at_1 : decode cX7_at 1 = .ok (.aload_n 0, 1) := by decide +kernel
theorem dX7_at_2 : decode cX7_at 2 = .ok (.getfield 19, 3) := by decide +kernel
theorem dX7_at_5 : decode cX7_at 5 = .ok (.invokestatic 29, 3) := by decide +kernel
theorem dX7_at_8 : decode cX7_at 8 = .ok (.ifCond .eq 12, 3) := by decide +kernel
theorem dX7_at_11 : decode cX7_at 11 = .ok (.aload_n 0, 1) := by decide +kernel
theorem dX7_at_12 : decode cX7_at 12 = .ok (.getfield 22, 3) := by decide +kernel
theorem dX7_at_15 : decode cX7_at 15 = .ok (.iload_n 1, 1) := by decide +kernel
theorem dX7_at_16 : decode cX7_at 16 = .ok (.iaload, 1) := by decide +kernel
theorem dX7_at_17 : decode cX7_at 17 = .ok (.goto 4, 3) := by decide +kernel
theorem dX7_at_20 : decode cX7_at 20 = .ok (.iconst (-1), 1) := by decide +kernel
theorem dX7_at_21 : decode cX7_at 21 = .ok (.ireturn, 1) := by decide +kernel
theorem dX7_digit_0 : decode cX7_digit 0 = .ok (.aload_n 0, 1) := by decide +kernel
theorem dX7_digit_1 : decode cX7_digit 1 = .ok (.iload_n 1, 1) := by decide +kernel
theorem dX7_digit_2 : decode cX7_digit 2 = .ok (.invokevirtual 33, 3) := by decide +kernel
theorem dX7_digit_5 : decode cX7_digit 5 = .ok (.bipush 48, 2) := by decide +kernel
theorem dX7_digit_7 : decode cX7_digit 7 = .ok (.isub, 1) := by decide +kernel
theorem dX7_digit_8 : decode cX7_digit 8 = .ok (.ireturn, 1) := by decide +kernel
theorem dX8_init_0 : decode cX8_init 0 = .ok (.aload_n 0, 1) := by decide +kernel
theorem dX8_init_1 : decode cX8_init 1 = .ok (.iload_n 1, 1) := by decide +kernel
theorem dX8_init_2 : decode cX8_init 2 = .ok (.invokespecial 3, 3) := by decide +kernel
theorem dX8_init_5 : decode cX8_init 5 = .ok (.return_, 1) := by decide +kernel
theorem dX8_kind_0 : decode cX8_kind 0 = .ok (.iconst 4, 1) := by decide +kernel
theorem dX8_kind_1 : decode cX8_kind 1 = .ok (.ireturn, 1) := by decide +kernel
theorem dX8_slow_0 : decode cX8_slow 0 = .ok (.aload_n 0, 1) := by decide +kernel
theorem dX8_slow_1 : decode cX8_slow 1 = .ok (.invokespecial 9, 3) := by decide +kernel
theorem dX8_slow_4 : decode cX8_slow 4 = .ok (.iconst 1, 1) := by decide +kernel
theorem dX8_slow_5 : decode cX8_slow 5 = .ok (.iadd, 1) := by decide +kernel
theorem dX8_slow_6 : decode cX8_slow 6 = .ok (.ireturn, 1) := by decide +kernel
theorem dX8_loss_0 : decode cX8_loss 0 = .ok (.iconst 0, 1) := by decide +kernel
theorem dX8_loss_1 : decode cX8_loss 1 = .ok (.ireturn, 1) := by decide +kernel
theorem dX8_toil_0 : decode cX8_toil 0 = .ok (.aload_n 0, 1) := by decide +kernel
theorem dX8_toil_1 : decode cX8_toil 1 = .ok (.invokespecial 13, 3) := by decide +kernel
theorem dX8_toil_4 : decode cX8_toil 4 = .ok (.aload_n 0, 1) := by decide +kernel
theorem dX8_toil_5 : decode cX8_toil 5 = .ok (.getfield 16, 3) := by decide +kernel
theorem dX8_toil_8 : decode cX8_toil 8 = .ok (.iadd, 1) := by decide +kernel
theorem dX8_toil_9 : decode cX8_toil 9 = .ok (.ireturn, 1) := by decide +kernel
theorem dX8_worth_0 : decode cX8_worth 0 = .ok (.aload_n 0, 1) := by decide +kernel
theorem dX8_worth_1 : decode cX8_worth 1 = .ok (.invokespecial 22, 3) := by decide +kernel
theorem dX8_worth_4 : decode cX8_worth 4 = .ok (.aload_n 0, 1) := by decide +kernel
theorem dX8_worth_5 : decode cX8_worth 5 = .ok (.getfield 16, 3) := by decide +kernel
theorem dX8_worth_8 : decode cX8_worth 8 = .ok (.iconst 1, 1) := by decide +kernel
theorem dX8_worth_9 : decode cX8_worth 9 = .ok (.iadd, 1) := by decide +kernel
theorem dX8_worth_10 : decode cX8_worth 10 = .ok (.imul, 1) := by decide +kernel
theorem dX8_worth_11 : decode cX8_worth 11 = .ok (.ireturn, 1) := by decide +kernel
theorem dX8_fail_0 : decode cX8_fail 0 = .ok (.aload_n 0, 1) := by decide +kernel
theorem dX8_fail_1 : decode cX8_fail 1 = .ok (.getfield 16, 3) := by decide +kernel
theorem dX8_fail_4 : decode cX8_fail 4 = .ok (.ifCond .eq 13, 3) := by decide +kernel
theorem dX8_fail_7 : decode cX8_fail 7 = .ok (.new 25, 3) := by decide +kernel
theorem dX8_fail_10 : decode cX8_fail 10 = .ok (.dup, 1) := by decide +kernel
theorem dX8_fail_11 : decode cX8_fail 11 = .ok (.ldc 27, 2) := by decide +kernel
theorem dX8_fail_13 : decode cX8_fail 13 = .ok (.invokespecial 29, 3) := by decide +kernel
theorem dX8_fail_16 : decode cX8_fail 16 = .ok (.athrow, 1) := by decide +kernel
theorem dX8_fail_17 : decode cX8_fail 17 = .ok (.return_, 1) := by decide +kernel
theorem dX9_init_0 : decode cX9_init 0 = .ok (.aload_n 0, 1) := by decide +kernel
theorem dX9_init_1 : decode cX9_init 1 = .ok (.iload_n 1, 1) := by decide +kernel
theorem dX9_init_2 : decode cX9_init 2 = .ok (.invokespecial 3, 3) := by decide +kernel
theorem dX9_init_5 : decode cX9_init 5 = .ok (.return_, 1) := by decide +kernel
theorem dX9_kind_0 : decode cX9_kind 0 = .ok (.iconst 3, 1) := by decide +kernel
theorem dX9_kind_1 : decode cX9_kind 1 = .ok (.ireturn, 1) := by decide +kernel
theorem dX9_slow_0 : decode cX9_slow 0 = .ok (.aload_n 0, 1) := by decide +kernel
theorem dX9_slow_1 : decode cX9_slow 1 = .ok (.invokespecial 9, 3) := by decide +kernel
theorem dX9_slow_4 : decode cX9_slow 4 = .ok (.iconst 2, 1) := by decide +kernel
theorem dX9_slow_5 : decode cX9_slow 5 = .ok (.idiv, 1) := by decide +kernel
theorem dX9_slow_6 : decode cX9_slow 6 = .ok (.ireturn, 1) := by decide +kernel
theorem dX9_loss_0 : decode cX9_loss 0 = .ok (.iconst 0, 1) := by decide +kernel
theorem dX9_loss_1 : decode cX9_loss 1 = .ok (.aload_n 0, 1) := by decide +kernel
theorem dX9_loss_2 : decode cX9_loss 2 = .ok (.invokespecial 13, 3) := by decide +kernel
theorem dX9_loss_5 : decode cX9_loss 5 = .ok (.aload_n 0, 1) := by decide +kernel
theorem dX9_loss_6 : decode cX9_loss 6 = .ok (.getfield 16, 3) := by decide +kernel
theorem dX9_loss_9 : decode cX9_loss 9 = .ok (.isub, 1) := by decide +kernel
theorem dX9_loss_10 : decode cX9_loss 10 = .ok (.invokestatic 22, 3) := by decide +kernel
theorem dX9_loss_13 : decode cX9_loss 13 = .ok (.ireturn, 1) := by decide +kernel
theorem dX9_toil_0 : decode cX9_toil 0 = .ok (.aload_n 0, 1) := by decide +kernel
theorem dX9_toil_1 : decode cX9_toil 1 = .ok (.invokespecial 28, 3) := by decide +kernel
theorem dX9_toil_4 : decode cX9_toil 4 = .ok (.aload_n 0, 1) := by decide +kernel
theorem dX9_toil_5 : decode cX9_toil 5 = .ok (.getfield 16, 3) := by decide +kernel
theorem dX9_toil_8 : decode cX9_toil 8 = .ok (.iconst 1, 1) := by decide +kernel
theorem dX9_toil_9 : decode cX9_toil 9 = .ok (.iadd, 1) := by decide +kernel
theorem dX9_toil_10 : decode cX9_toil 10 = .ok (.imul, 1) := by decide +kernel
theorem dX9_toil_11 : decode cX9_toil 11 = .ok (.ireturn, 1) := by decide +kernel
theorem dX9_worth_0 : decode cX9_worth 0 = .ok (.aload_n 0, 1) := by decide +kernel
theorem dX9_worth_1 : decode cX9_worth 1 = .ok (.invokespecial 31, 3) := by decide +kernel
theorem dX9_worth_4 : decode cX9_worth 4 = .ok (.iconst 2, 1) := by decide +kernel
theorem dX9_worth_5 : decode cX9_worth 5 = .ok (.imul, 1) := by decide +kernel
theorem dX9_worth_6 : decode cX9_worth 6 = .ok (.ireturn, 1) := by decide +kernel
theorem dX9_fail_0 : decode cX9_fail 0 = .ok (.aload_n 0, 1) := by decide +kernel
theorem dX9_fail_1 : decode cX9_fail 1 = .ok (.getfield 16, 3) := by decide +kernel
theorem dX9_fail_4 : decode cX9_fail 4 = .ok (.ifCond .eq 13, 3) := by decide +kernel
theorem dX9_fail_7 : decode cX9_fail 7 = .ok (.new 34, 3) := by decide +kernel
theorem dX9_fail_10 : decode cX9_fail 10 = .ok (.dup, 1) := by decide +kernel
theorem dX9_fail_11 : decode cX9_fail 11 = .ok (.ldc 36, 2) := by decide +kernel
theorem dX9_fail_13 : decode cX9_fail 13 = .ok (.invokespecial 38, 3) := by decide +kernel
theorem dX9_fail_16 : decode cX9_fail 16 = .ok (.athrow, 1) := by decide +kernel
theorem dX9_fail_17 : decode cX9_fail 17 = .ok (.return_, 1) := by decide +kernel
theorem dX10_init_0 : decode cX10_init 0 = .ok (.aload_n 0, 1) := by decide +kernel
theorem dX10_init_1 : decode cX10_init 1 = .ok (.invokespecial 3, 3) := by decide +kernel
theorem dX10_init_4 : decode cX10_init 4 = .ok (.aload_n 0, 1) := by decide +kernel
theorem dX10_init_5 : decode cX10_init 5 = .ok (.bipush 20, 2) := by decide +kernel
theorem dX10_init_7 : decode cX10_init 7 = .ok (.newarray .int, 2) := by decide +kernel
theorem dX10_init_9 : decode cX10_init 9 = .ok (.putfield 9, 3) := by decide +kernel
theorem dX10_init_12 : decode cX10_init 12 = .ok (.aload_n 0, 1) := by decide +kernel
theorem dX10_init_13 : decode cX10_init 13 = .ok (.bipush 20, 2) := by decide +kernel
theorem dX10_init_15 : decode cX10_init 15 = .ok (.newarray .int, 2) := by decide +kernel
theorem dX10_init_17 : decode cX10_init 17 = .ok (.putfield 15, 3) := by decide +kernel
theorem dX10_init_20 : decode cX10_init 20 = .ok (.aload_n 0, 1) := by decide +kernel
theorem dX10_init_21 : decode cX10_init 21 = .ok (.bipush 20, 2) := by decide +kernel
theorem dX10_init_23 : decode cX10_init 23 = .ok (.newarray .int, 2) := by decide +kernel
theorem dX10_init_25 : decode cX10_init 25 = .ok (.putfield 18, 3) := by decide +kernel
theorem dX10_init_28 : decode cX10_init 28 = .ok (.aload_n 0, 1) := by decide +kernel
theorem dX10_init_29 : decode cX10_init 29 = .ok (.bipush 20, 2) := by decide +kernel
theorem dX10_init_31 : decode cX10_init 31 = .ok (.newarray .int, 2) := by decide +kernel
theorem dX10_init_33 : decode cX10_init 33 = .ok (.putfield 21, 3) := by decide +kernel
theorem dX10_init_36 : decode cX10_init 36 = .ok (.aload_n 0, 1) := by decide +kernel
theorem dX10_init_37 : decode cX10_init 37 = .ok (.bipush 20, 2) := by decide +kernel
theorem dX10_init_39 : decode cX10_init 39 = .ok (.newarray .int, 2) := by decide +kernel
theorem dX10_init_41 : decode cX10_init 41 = .ok (.putfield 24, 3) := by decide +kernel
theorem dX10_init_44 : decode cX10_init 44 = .ok (.aload_n 0, 1) := by decide +kernel
theorem dX10_init_45 : decode cX10_init 45 = .ok (.bipush 20, 2) := by decide +kernel
theorem dX10_init_47 : decode cX10_init 47 = .ok (.newarray .boolean, 2) := by decide +kernel
theorem dX10_init_49 : decode cX10_init 49 = .ok (.putfield 27, 3) := by decide +kernel
theorem dX10_init_52 : decode cX10_init 52 = .ok (.return_, 1) := by decide +kernel
theorem dX10_byKnocks_0 : decode cX10_byKnocks 0 = .ok (.iconst 0, 1) := by decide +kernel
theorem dX10_byKnocks_1 : decode cX10_byKnocks 1 = .ok (.istore_n 2, 1) := by decide +kernel
theorem dX10_byKnocks_2 : decode cX10_byKnocks 2 = .ok (.iload_n 2, 1) := by decide +kernel
theorem dX10_byKnocks_3 : decode cX10_byKnocks 3 = .ok (.bipush 20, 2) := by decide +kernel
theorem dX10_byKnocks_5 : decode cX10_byKnocks 5 = .ok (.if_icmp .ge 39, 3) := by decide +kernel
theorem dX10_byKnocks_8 : decode cX10_byKnocks 8 = .ok (.aload_n 0, 1) := by decide +kernel
theorem dX10_byKnocks_9 : decode cX10_byKnocks 9 = .ok (.getfield 9, 3) := by decide +kernel
theorem dX10_byKnocks_12 : decode cX10_byKnocks 12 = .ok (.iload_n 2, 1) := by decide +kernel
theorem dX10_byKnocks_13 : decode cX10_byKnocks 13 = .ok (.aload_n 1, 1) := by decide +kernel
theorem dX10_byKnocks_14 : decode cX10_byKnocks 14 = .ok (.getfield 31, 3) := by decide +kernel
theorem dX10_byKnocks_17 : decode cX10_byKnocks 17 = .ok (.iload_n 2, 1) := by decide +kernel
theorem dX10_byKnocks_18 : decode cX10_byKnocks 18 = .ok (.aaload, 1) := by decide +kernel
theorem dX10_byKnocks_19 : decode cX10_byKnocks 19 = .ok (.invokevirtual 37, 3) := by decide +kernel
theorem dX10_byKnocks_22 : decode cX10_byKnocks 22 = .ok (.iastore, 1) := by decide +kernel
theorem dX10_byKnocks_23 : decode cX10_byKnocks 23 = .ok (.aload_n 0, 1) := by decide +kernel
theorem dX10_byKnocks_24 : decode cX10_byKnocks 24 = .ok (.getfield 24, 3) := by decide +kernel
theorem dX10_byKnocks_27 : decode cX10_byKnocks 27 = .ok (.iload_n 2, 1) := by decide +kernel
theorem dX10_byKnocks_28 : decode cX10_byKnocks 28 = .ok (.aload_n 1, 1) := by decide +kernel
theorem dX10_byKnocks_29 : decode cX10_byKnocks 29 = .ok (.getfield 31, 3) := by decide +kernel
theorem dX10_byKnocks_32 : decode cX10_byKnocks 32 = .ok (.iload_n 2, 1) := by decide +kernel
theorem dX10_byKnocks_33 : decode cX10_byKnocks 33 = .ok (.aaload, 1) := by decide +kernel
theorem dX10_byKnocks_34 : decode cX10_byKnocks 34 = .ok (.invokevirtual 43, 3) := by decide +kernel
theorem dX10_byKnocks_37 : decode cX10_byKnocks 37 = .ok (.iastore, 1) := by decide +kernel
theorem dX10_byKnocks_38 : decode cX10_byKnocks 38 = .ok (.iinc 2 1, 3) := by decide +kernel
theorem dX10_byKnocks_41 : decode cX10_byKnocks 41 = .ok (.goto (-39), 3) := by decide +kernel
theorem dX10_byKnocks_44 : decode cX10_byKnocks 44 = .ok (.return_, 1) := by decide +kernel
theorem dX10_byToil_0 : decode cX10_byToil 0 = .ok (.iconst 0, 1) := by decide +kernel
theorem dX10_byToil_1 : decode cX10_byToil 1 = .ok (.istore_n 2, 1) := by decide +kernel
theorem dX10_byToil_2 : decode cX10_byToil 2 = .ok (.iload_n 2, 1) := by decide +kernel
theorem dX10_byToil_3 : decode cX10_byToil 3 = .ok (.bipush 20, 2) := by decide +kernel
theorem dX10_byToil_5 : decode cX10_byToil 5 = .ok (.if_icmp .ge 31, 3) := by decide +kernel
theorem dX10_byToil_8 : decode cX10_byToil 8 = .ok (.aload_n 0, 1) := by decide +kernel
theorem dX10_byToil_9 : decode cX10_byToil 9 = .ok (.getfield 9, 3) := by decide +kernel
theorem dX10_byToil_12 : decode cX10_byToil 12 = .ok (.iload_n 2, 1) := by decide +kernel
theorem dX10_byToil_13 : decode cX10_byToil 13 = .ok (.aload_n 1, 1) := by decide +kernel
theorem dX10_byToil_14 : decode cX10_byToil 14 = .ok (.getfield 31, 3) := by decide +kernel
theorem dX10_byToil_17 : decode cX10_byToil 17 = .ok (.iload_n 2, 1) := by decide +kernel
theorem dX10_byToil_18 : decode cX10_byToil 18 = .ok (.aaload, 1) := by decide +kernel
theorem dX10_byToil_19 : decode cX10_byToil 19 = .ok (.invokevirtual 45, 3) := by decide +kernel
theorem dX10_byToil_22 : decode cX10_byToil 22 = .ok (.iastore, 1) := by decide +kernel
theorem dX10_byToil_23 : decode cX10_byToil 23 = .ok (.aload_n 0, 1) := by decide +kernel
theorem dX10_byToil_24 : decode cX10_byToil 24 = .ok (.getfield 24, 3) := by decide +kernel
theorem dX10_byToil_27 : decode cX10_byToil 27 = .ok (.iload_n 2, 1) := by decide +kernel
theorem dX10_byToil_28 : decode cX10_byToil 28 = .ok (.iconst 0, 1) := by decide +kernel
theorem dX10_byToil_29 : decode cX10_byToil 29 = .ok (.iastore, 1) := by decide +kernel
theorem dX10_byToil_30 : decode cX10_byToil 30 = .ok (.iinc 2 1, 3) := by decide +kernel
theorem dX10_byToil_33 : decode cX10_byToil 33 = .ok (.goto (-31), 3) := by decide +kernel
theorem dX10_byToil_36 : decode cX10_byToil 36 = .ok (.return_, 1) := by decide +kernel
theorem dX10_spread_0 : decode cX10_spread 0 = .ok (.iconst 0, 1) := by decide +kernel
theorem dX10_spread_1 : decode cX10_spread 1 = .ok (.istore_n 2, 1) := by decide +kernel
theorem dX10_spread_2 : decode cX10_spread 2 = .ok (.iload_n 2, 1) := by decide +kernel
theorem dX10_spread_3 : decode cX10_spread 3 = .ok (.bipush 20, 2) := by decide +kernel
theorem dX10_spread_5 : decode cX10_spread 5 = .ok (.if_icmp .ge 24, 3) := by decide +kernel
theorem dX10_spread_8 : decode cX10_spread 8 = .ok (.aload_n 0, 1) := by decide +kernel
theorem dX10_spread_9 : decode cX10_spread 9 = .ok (.getfield 15, 3) := by decide +kernel
theorem dX10_spread_12 : decode cX10_spread 12 = .ok (.iload_n 2, 1) := by decide +kernel
theorem dX10_spread_13 : decode cX10_spread 13 = .ok (.ldc 48, 2) := by decide +kernel
theorem dX10_spread_15 : decode cX10_spread 15 = .ok (.iastore, 1) := by decide +kernel
theorem dX10_spread_16 : decode cX10_spread 16 = .ok (.aload_n 0, 1) := by decide +kernel
theorem dX10_spread_17 : decode cX10_spread 17 = .ok (.getfield 27, 3) := by decide +kernel
theorem dX10_spread_20 : decode cX10_spread 20 = .ok (.iload_n 2, 1) := by decide +kernel
theorem dX10_spread_21 : decode cX10_spread 21 = .ok (.iconst 0, 1) := by decide +kernel
theorem dX10_spread_22 : decode cX10_spread 22 = .ok (.bastore, 1) := by decide +kernel
theorem dX10_spread_23 : decode cX10_spread 23 = .ok (.iinc 2 1, 3) := by decide +kernel
theorem dX10_spread_26 : decode cX10_spread 26 = .ok (.goto (-24), 3) := by decide +kernel
theorem dX10_spread_29 : decode cX10_spread 29 = .ok (.aload_n 0, 1) := by decide +kernel
theorem dX10_spread_30 : decode cX10_spread 30 = .ok (.getfield 15, 3) := by decide +kernel
theorem dX10_spread_33 : decode cX10_spread 33 = .ok (.iload_n 1, 1) := by decide +kernel
theorem dX10_spread_34 : decode cX10_spread 34 = .ok (.iconst 0, 1) := by decide +kernel
theorem dX10_spread_35 : decode cX10_spread 35 = .ok (.iastore, 1) := by decide +kernel
theorem dX10_spread_36 : decode cX10_spread 36 = .ok (.aload_n 0, 1) := by decide +kernel
theorem dX10_spread_37 : decode cX10_spread 37 = .ok (.getfield 18, 3) := by decide +kernel
theorem dX10_spread_40 : decode cX10_spread 40 = .ok (.iload_n 1, 1) := by decide +kernel
theorem dX10_spread_41 : decode cX10_spread 41 = .ok (.iconst 0, 1) := by decide +kernel
theorem dX10_spread_42 : decode cX10_spread 42 = .ok (.iastore, 1) := by decide +kernel
theorem dX10_spread_43 : decode cX10_spread 43 = .ok (.aload_n 0, 1) := by decide +kernel
theorem dX10_spread_44 : decode cX10_spread 44 = .ok (.getfield 21, 3) := by decide +kernel
theorem dX10_spread_47 : decode cX10_spread 47 = .ok (.iload_n 1, 1) := by decide +kernel
theorem dX10_spread_48 : decode cX10_spread 48 = .ok (.iconst 1, 1) := by decide +kernel
theorem dX10_spread_49 : decode cX10_spread 49 = .ok (.iastore, 1) := by decide +kernel
theorem dX10_spread_50 : decode cX10_spread 50 = .ok (.iconst 0, 1) := by decide +kernel
theorem dX10_spread_51 : decode cX10_spread 51 = .ok (.istore_n 2, 1) := by decide +kernel
theorem dX10_spread_52 : decode cX10_spread 52 = .ok (.iload_n 2, 1) := by decide +kernel
theorem dX10_spread_53 : decode cX10_spread 53 = .ok (.bipush 20, 2) := by decide +kernel
theorem dX10_spread_55 : decode cX10_spread 55 = .ok (.if_icmp .ge 47, 3) := by decide +kernel
theorem dX10_spread_58 : decode cX10_spread 58 = .ok (.aload_n 0, 1) := by decide +kernel
theorem dX10_spread_59 : decode cX10_spread 59 = .ok (.invokevirtual 49, 3) := by decide +kernel
theorem dX10_spread_62 : decode cX10_spread 62 = .ok (.istore_n 3, 1) := by decide +kernel
theorem dX10_spread_63 : decode cX10_spread 63 = .ok (.aload_n 0, 1) := by decide +kernel
theorem dX10_spread_64 : decode cX10_spread 64 = .ok (.getfield 27, 3) := by decide +kernel
theorem dX10_spread_67 : decode cX10_spread 67 = .ok (.iload_n 3, 1) := by decide +kernel
theorem dX10_spread_68 : decode cX10_spread 68 = .ok (.iconst 1, 1) := by decide +kernel
theorem dX10_spread_69 : decode cX10_spread 69 = .ok (.bastore, 1) := by decide +kernel
theorem dX10_spread_70 : decode cX10_spread 70 = .ok (.iconst 0, 1) := by decide +kernel
theorem dX10_spread_71 : decode cX10_spread 71 = .ok (.istore 4, 2) := by decide +kernel
theorem dX10_spread_73 : decode cX10_spread 73 = .ok (.iload 4, 2) := by decide +kernel
theorem dX10_spread_75 : decode cX10_spread 75 = .ok (.iconst 4, 1) := by decide +kernel
theorem dX10_spread_76 : decode cX10_spread 76 = .ok (.if_icmp .ge 20, 3) := by decide +kernel
theorem dX10_spread_79 : decode cX10_spread 79 = .ok (.aload_n 0, 1) := by decide +kernel
theorem dX10_spread_80 : decode cX10_spread 80 = .ok (.iload_n 3, 1) := by decide +kernel
theorem dX10_spread_81 : decode cX10_spread 81 = .ok (.iload 4, 2) := by decide +kernel
theorem dX10_spread_83 : decode cX10_spread 83 = .ok (.invokestatic 52, 3) := by decide +kernel
theorem dX10_spread_86 : decode cX10_spread 86 = .ok (.iload_n 3, 1) := by decide +kernel
theorem dX10_spread_87 : decode cX10_spread 87 = .ok (.invokevirtual 56, 3) := by decide +kernel
theorem dX10_spread_90 : decode cX10_spread 90 = .ok (.iinc 4 1, 3) := by decide +kernel
theorem dX10_spread_93 : decode cX10_spread 93 = .ok (.goto (-20), 3) := by decide +kernel
theorem dX10_spread_96 : decode cX10_spread 96 = .ok (.iinc 2 1, 3) := by decide +kernel
theorem dX10_spread_99 : decode cX10_spread 99 = .ok (.goto (-47), 3) := by decide +kernel
theorem dX10_spread_102 : decode cX10_spread 102 = .ok (.return_, 1) := by decide +kernel
theorem dX10_nearest_0 : decode cX10_nearest 0 = .ok (.iconst 0, 1) := by decide +kernel
theorem dX10_nearest_1 : decode cX10_nearest 1 = .ok (.istore_n 1, 1) := by decide +kernel
theorem dX10_nearest_2 : decode cX10_nearest 2 = .ok (.ldc 60, 2) := by decide +kernel
theorem dX10_nearest_4 : decode cX10_nearest 4 = .ok (.istore_n 2, 1) := by decide +kernel
theorem dX10_nearest_5 : decode cX10_nearest 5 = .ok (.iconst 0, 1) := by decide +kernel
theorem dX10_nearest_6 : decode cX10_nearest 6 = .ok (.istore_n 3, 1) := by decide +kernel
theorem dX10_nearest_7 : decode cX10_nearest 7 = .ok (.iload_n 3, 1) := by decide +kernel
theorem dX10_nearest_8 : decode cX10_nearest 8 = .ok (.bipush 20, 2) := by decide +kernel
theorem dX10_nearest_10 : decode cX10_nearest 10 = .ok (.if_icmp .ge 37, 3) := by decide +kernel
theorem dX10_nearest_13 : decode cX10_nearest 13 = .ok (.aload_n 0, 1) := by decide +kernel
theorem dX10_nearest_14 : decode cX10_nearest 14 = .ok (.getfield 27, 3) := by decide +kernel
theorem dX10_nearest_17 : decode cX10_nearest 17 = .ok (.iload_n 3, 1) := by decide +kernel
theorem dX10_nearest_18 : decode cX10_nearest 18 = .ok (.baload, 1) := by decide +kernel
theorem dX10_nearest_19 : decode cX10_nearest 19 = .ok (.ifCond .ne 22, 3) := by decide +kernel
theorem dX10_nearest_22 : decode cX10_nearest 22 = .ok (.aload_n 0, 1) := by decide +kernel
theorem dX10_nearest_23 : decode cX10_nearest 23 = .ok (.getfield 15, 3) := by decide +kernel
theorem dX10_nearest_26 : decode cX10_nearest 26 = .ok (.iload_n 3, 1) := by decide +kernel
theorem dX10_nearest_27 : decode cX10_nearest 27 = .ok (.iaload, 1) := by decide +kernel
theorem dX10_nearest_28 : decode cX10_nearest 28 = .ok (.iload_n 2, 1) := by decide +kernel
theorem dX10_nearest_29 : decode cX10_nearest 29 = .ok (.if_icmp .ge 12, 3) := by decide +kernel
theorem dX10_nearest_32 : decode cX10_nearest 32 = .ok (.iload_n 3, 1) := by decide +kernel
theorem dX10_nearest_33 : decode cX10_nearest 33 = .ok (.istore_n 1, 1) := by decide +kernel
theorem dX10_nearest_34 : decode cX10_nearest 34 = .ok (.aload_n 0, 1) := by decide +kernel
theorem dX10_nearest_35 : decode cX10_nearest 35 = .ok (.getfield 15, 3) := by decide +kernel
theorem dX10_nearest_38 : decode cX10_nearest 38 = .ok (.iload_n 3, 1) := by decide +kernel
theorem dX10_nearest_39 : decode cX10_nearest 39 = .ok (.iaload, 1) := by decide +kernel
theorem dX10_nearest_40 : decode cX10_nearest 40 = .ok (.istore_n 2, 1) := by decide +kernel
theorem dX10_nearest_41 : decode cX10_nearest 41 = .ok (.iinc 3 1, 3) := by decide +kernel
theorem dX10_nearest_44 : decode cX10_nearest 44 = .ok (.goto (-37), 3) := by decide +kernel
theorem dX10_nearest_47 : decode cX10_nearest 47 = .ok (.iload_n 1, 1) := by decide +kernel
theorem dX10_nearest_48 : decode cX10_nearest 48 = .ok (.ireturn, 1) := by decide +kernel
theorem dX10_enter_0 : decode cX10_enter 0 = .ok (.iload_n 1, 1) := by decide +kernel
theorem dX10_enter_1 : decode cX10_enter 1 = .ok (.iconst (-1), 1) := by decide +kernel
theorem dX10_enter_2 : decode cX10_enter 2 = .ok (.if_icmp .eq 12, 3) := by decide +kernel
theorem dX10_enter_5 : decode cX10_enter 5 = .ok (.aload_n 0, 1) := by decide +kernel
theorem dX10_enter_6 : decode cX10_enter 6 = .ok (.getfield 27, 3) := by decide +kernel
theorem dX10_enter_9 : decode cX10_enter 9 = .ok (.iload_n 1, 1) := by decide +kernel
theorem dX10_enter_10 : decode cX10_enter 10 = .ok (.baload, 1) := by decide +kernel
theorem dX10_enter_11 : decode cX10_enter 11 = .ok (.ifCond .eq 4, 3) := by decide +kernel
theorem dX10_enter_14 : decode cX10_enter 14 = .ok (.return_, 1) := by decide +kernel
theorem dX10_enter_15 : decode cX10_enter 15 = .ok (.aload_n 0, 1) := by decide +kernel
theorem dX10_enter_16 : decode cX10_enter 16 = .ok (.getfield 15, 3) := by decide +kernel
theorem dX10_enter_19 : decode cX10_enter 19 = .ok (.iload_n 2, 1) := by decide +kernel
theorem dX10_enter_20 : decode cX10_enter 20 = .ok (.iaload, 1) := by decide +kernel
theorem dX10_enter_21 : decode cX10_enter 21 = .ok (.aload_n 0, 1) := by decide +kernel
theorem dX10_enter_22 : decode cX10_enter 22 = .ok (.getfield 9, 3) := by decide +kernel
theorem dX10_enter_25 : decode cX10_enter 25 = .ok (.iload_n 1, 1) := by decide +kernel
theorem dX10_enter_26 : decode cX10_enter 26 = .ok (.iaload, 1) := by decide +kernel
theorem dX10_enter_27 : decode cX10_enter 27 = .ok (.iadd, 1) := by decide +kernel
theorem dX10_enter_28 : decode cX10_enter 28 = .ok (.istore_n 3, 1) := by decide +kernel
theorem dX10_enter_29 : decode cX10_enter 29 = .ok (.aload_n 0, 1) := by decide +kernel
theorem dX10_enter_30 : decode cX10_enter 30 = .ok (.getfield 18, 3) := by decide +kernel
theorem dX10_enter_33 : decode cX10_enter 33 = .ok (.iload_n 2, 1) := by decide +kernel
theorem dX10_enter_34 : decode cX10_enter 34 = .ok (.iaload, 1) := by decide +kernel
theorem dX10_enter_35 : decode cX10_enter 35 = .ok (.aload_n 0, 1) := by decide +kernel
theorem dX10_enter_36 : decode cX10_enter 36 = .ok (.getfield 24, 3) := by decide +kernel
theorem dX10_enter_39 : decode cX10_enter 39 = .ok (.iload_n 1, 1) := by decide +kernel
theorem dX10_enter_40 : decode cX10_enter 40 = .ok (.iaload, 1) := by decide +kernel
theorem dX10_enter_41 : decode cX10_enter 41 = .ok (.iadd, 1) := by decide +kernel
theorem dX10_enter_42 : decode cX10_enter 42 = .ok (.istore 4, 2) := by decide +kernel
theorem dX10_enter_44 : decode cX10_enter 44 = .ok (.iload_n 3, 1) := by decide +kernel
theorem dX10_enter_45 : decode cX10_enter 45 = .ok (.aload_n 0, 1) := by decide +kernel
theorem dX10_enter_46 : decode cX10_enter 46 = .ok (.getfield 15, 3) := by decide +kernel
theorem dX10_enter_49 : decode cX10_enter 49 = .ok (.iload_n 1, 1) := by decide +kernel
theorem dX10_enter_50 : decode cX10_enter 50 = .ok (.iaload, 1) := by decide +kernel
theorem dX10_enter_51 : decode cX10_enter 51 = .ok (.if_icmp .ge 33, 3) := by decide +kernel
theorem dX10_enter_54 : decode cX10_enter 54 = .ok (.aload_n 0, 1) := by decide +kernel
theorem dX10_enter_55 : decode cX10_enter 55 = .ok (.getfield 15, 3) := by decide +kernel
theorem dX10_enter_58 : decode cX10_enter 58 = .ok (.iload_n 1, 1) := by decide +kernel
theorem dX10_enter_59 : decode cX10_enter 59 = .ok (.iload_n 3, 1) := by decide +kernel
theorem dX10_enter_60 : decode cX10_enter 60 = .ok (.iastore, 1) := by decide +kernel
theorem dX10_enter_61 : decode cX10_enter 61 = .ok (.aload_n 0, 1) := by decide +kernel
theorem dX10_enter_62 : decode cX10_enter 62 = .ok (.getfield 18, 3) := by decide +kernel
theorem dX10_enter_65 : decode cX10_enter 65 = .ok (.iload_n 1, 1) := by decide +kernel
theorem dX10_enter_66 : decode cX10_enter 66 = .ok (.iload 4, 2) := by decide +kernel
theorem dX10_enter_68 : decode cX10_enter 68 = .ok (.iastore, 1) := by decide +kernel
theorem dX10_enter_69 : decode cX10_enter 69 = .ok (.aload_n 0, 1) := by decide +kernel
theorem dX10_enter_70 : decode cX10_enter 70 = .ok (.getfield 21, 3) := by decide +kernel
theorem dX10_enter_73 : decode cX10_enter 73 = .ok (.iload_n 1, 1) := by decide +kernel
theorem dX10_enter_74 : decode cX10_enter 74 = .ok (.aload_n 0, 1) := by decide +kernel
theorem dX10_enter_75 : decode cX10_enter 75 = .ok (.getfield 21, 3) := by decide +kernel
theorem dX10_enter_78 : decode cX10_enter 78 = .ok (.iload_n 2, 1) := by decide +kernel
theorem dX10_enter_79 : decode cX10_enter 79 = .ok (.iaload, 1) := by decide +kernel
theorem dX10_enter_80 : decode cX10_enter 80 = .ok (.iastore, 1) := by decide +kernel
theorem dX10_enter_81 : decode cX10_enter 81 = .ok (.goto 45, 3) := by decide +kernel
theorem dX10_enter_84 : decode cX10_enter 84 = .ok (.iload_n 3, 1) := by decide +kernel
theorem dX10_enter_85 : decode cX10_enter 85 = .ok (.aload_n 0, 1) := by decide +kernel
theorem dX10_enter_86 : decode cX10_enter 86 = .ok (.getfield 15, 3) := by decide +kernel
theorem dX10_enter_89 : decode cX10_enter 89 = .ok (.iload_n 1, 1) := by decide +kernel
theorem dX10_enter_90 : decode cX10_enter 90 = .ok (.iaload, 1) := by decide +kernel
theorem dX10_enter_91 : decode cX10_enter 91 = .ok (.if_icmp .ne 35, 3) := by decide +kernel
theorem dX10_enter_94 : decode cX10_enter 94 = .ok (.aload_n 0, 1) := by decide +kernel
theorem dX10_enter_95 : decode cX10_enter 95 = .ok (.getfield 18, 3) := by decide +kernel
theorem dX10_enter_98 : decode cX10_enter 98 = .ok (.iload_n 1, 1) := by decide +kernel
theorem dX10_enter_99 : decode cX10_enter 99 = .ok (.aload_n 0, 1) := by decide +kernel
theorem dX10_enter_100 : decode cX10_enter 100 = .ok (.getfield 18, 3) := by decide +kernel
theorem dX10_enter_103 : decode cX10_enter 103 = .ok (.iload_n 1, 1) := by decide +kernel
theorem dX10_enter_104 : decode cX10_enter 104 = .ok (.iaload, 1) := by decide +kernel
theorem dX10_enter_105 : decode cX10_enter 105 = .ok (.iload 4, 2) := by decide +kernel
theorem dX10_enter_107 : decode cX10_enter 107 = .ok (.invokestatic 61, 3) := by decide +kernel
theorem dX10_enter_110 : decode cX10_enter 110 = .ok (.iastore, 1) := by decide +kernel
theorem dX10_enter_111 : decode cX10_enter 111 = .ok (.aload_n 0, 1) := by decide +kernel
theorem dX10_enter_112 : decode cX10_enter 112 = .ok (.getfield 21, 3) := by decide +kernel
theorem dX10_enter_115 : decode cX10_enter 115 = .ok (.iload_n 1, 1) := by decide +kernel
theorem dX10_enter_116 : decode cX10_enter 116 = .ok (.dup2, 1) := by decide +kernel
theorem dX10_enter_117 : decode cX10_enter 117 = .ok (.iaload, 1) := by decide +kernel
theorem dX10_enter_118 : decode cX10_enter 118 = .ok (.aload_n 0, 1) := by decide +kernel
theorem dX10_enter_119 : decode cX10_enter 119 = .ok (.getfield 21, 3) := by decide +kernel
theorem dX10_enter_122 : decode cX10_enter 122 = .ok (.iload_n 2, 1) := by decide +kernel
theorem dX10_enter_123 : decode cX10_enter 123 = .ok (.iaload, 1) := by decide +kernel
theorem dX10_enter_124 : decode cX10_enter 124 = .ok (.iadd, 1) := by decide +kernel
theorem dX10_enter_125 : decode cX10_enter 125 = .ok (.iastore, 1) := by decide +kernel
theorem dX10_enter_126 : decode cX10_enter 126 = .ok (.return_, 1) := by decide +kernel
theorem dX11_init_0 : decode cX11_init 0 = .ok (.aload_n 0, 1) := by decide +kernel
theorem dX11_init_1 : decode cX11_init 1 = .ok (.invokespecial 3, 3) := by decide +kernel
theorem dX11_init_4 : decode cX11_init 4 = .ok (.aload_n 0, 1) := by decide +kernel
theorem dX11_init_5 : decode cX11_init 5 = .ok (.new 9, 3) := by decide +kernel
theorem dX11_init_8 : decode cX11_init 8 = .ok (.dup, 1) := by decide +kernel
theorem dX11_init_9 : decode cX11_init 9 = .ok (.invokespecial 11, 3) := by decide +kernel
theorem dX11_init_12 : decode cX11_init 12 = .ok (.putfield 12, 3) := by decide +kernel
theorem dX11_init_15 : decode cX11_init 15 = .ok (.aload_n 0, 1) := by decide +kernel
theorem dX11_init_16 : decode cX11_init 16 = .ok (.new 9, 3) := by decide +kernel
theorem dX11_init_19 : decode cX11_init 19 = .ok (.dup, 1) := by decide +kernel
theorem dX11_init_20 : decode cX11_init 20 = .ok (.invokespecial 11, 3) := by decide +kernel
theorem dX11_init_23 : decode cX11_init 23 = .ok (.putfield 16, 3) := by decide +kernel
theorem dX11_init_26 : decode cX11_init 26 = .ok (.aload_n 0, 1) := by decide +kernel
theorem dX11_init_27 : decode cX11_init 27 = .ok (.new 9, 3) := by decide +kernel
theorem dX11_init_30 : decode cX11_init 30 = .ok (.dup, 1) := by decide +kernel
theorem dX11_init_31 : decode cX11_init 31 = .ok (.invokespecial 11, 3) := by decide +kernel
theorem dX11_init_34 : decode cX11_init 34 = .ok (.putfield 19, 3) := by decide +kernel
theorem dX11_init_37 : decode cX11_init 37 = .ok (.aload_n 0, 1) := by decide +kernel
theorem dX11_init_38 : decode cX11_init 38 = .ok (.iconst 0, 1) := by decide +kernel
theorem dX11_init_39 : decode cX11_init 39 = .ok (.putfield 22, 3) := by decide +kernel
theorem dX11_init_42 : decode cX11_init 42 = .ok (.aload_n 0, 1) := by decide +kernel
theorem dX11_init_43 : decode cX11_init 43 = .ok (.bipush 8, 2) := by decide +kernel
theorem dX11_init_45 : decode cX11_init 45 = .ok (.anewarray 26, 3) := by decide +kernel
theorem dX11_init_48 : decode cX11_init 48 = .ok (.putfield 28, 3) := by decide +kernel
theorem dX11_init_51 : decode cX11_init 51 = .ok (.aload_n 0, 1) := by decide +kernel
theorem dX11_init_52 : decode cX11_init 52 = .ok (.new 32, 3) := by decide +kernel
theorem dX11_init_55 : decode cX11_init 55 = .ok (.dup, 1) := by decide +kernel
theorem dX11_init_56 : decode cX11_init 56 = .ok (.invokespecial 34, 3) := by decide +kernel
theorem dX11_init_59 : decode cX11_init 59 = .ok (.putfield 35, 3) := by decide +kernel
theorem dX11_init_62 : decode cX11_init 62 = .ok (.aload_n 0, 1) := by decide +kernel
theorem dX11_init_63 : decode cX11_init 63 = .ok (.new 32, 3) := by decide +kernel
theorem dX11_init_66 : decode cX11_init 66 = .ok (.dup, 1) := by decide +kernel
theorem dX11_init_67 : decode cX11_init 67 = .ok (.invokespecial 34, 3) := by decide +kernel
theorem dX11_init_70 : decode cX11_init 70 = .ok (.putfield 39, 3) := by decide +kernel
theorem dX11_init_73 : decode cX11_init 73 = .ok (.aload_n 0, 1) := by decide +kernel
theorem dX11_init_74 : decode cX11_init 74 = .ok (.sipush 400, 3) := by decide +kernel
theorem dX11_init_77 : decode cX11_init 77 = .ok (.newarray .int, 2) := by decide +kernel
theorem dX11_init_79 : decode cX11_init 79 = .ok (.putfield 42, 3) := by decide +kernel
theorem dX11_init_82 : decode cX11_init 82 = .ok (.aload_n 0, 1) := by decide +kernel
theorem dX11_init_83 : decode cX11_init 83 = .ok (.bipush 8, 2) := by decide +kernel
theorem dX11_init_85 : decode cX11_init 85 = .ok (.newarray .int, 2) := by decide +kernel
theorem dX11_init_87 : decode cX11_init 87 = .ok (.putfield 46, 3) := by decide +kernel
theorem dX11_init_90 : decode cX11_init 90 = .ok (.iconst 0, 1) := by decide +kernel
theorem dX11_init_91 : decode cX11_init 91 = .ok (.istore_n 1, 1) := by decide +kernel
theorem dX11_init_92 : decode cX11_init 92 = .ok (.iload_n 1, 1) := by decide +kernel
theorem dX11_init_93 : decode cX11_init 93 = .ok (.bipush 8, 2) := by decide +kernel
theorem dX11_init_95 : decode cX11_init 95 = .ok (.if_icmp .ge 22, 3) := by decide +kernel
theorem dX11_init_98 : decode cX11_init 98 = .ok (.aload_n 0, 1) := by decide +kernel
theorem dX11_init_99 : decode cX11_init 99 = .ok (.getfield 28, 3) := by decide +kernel
theorem dX11_init_102 : decode cX11_init 102 = .ok (.iload_n 1, 1) := by decide +kernel
theorem dX11_init_103 : decode cX11_init 103 = .ok (.new 26, 3) := by decide +kernel
theorem dX11_init_106 : decode cX11_init 106 = .ok (.dup, 1) := by decide +kernel
theorem dX11_init_107 : decode cX11_init 107 = .ok (.invokespecial 49, 3) := by decide +kernel
theorem dX11_init_110 : decode cX11_init 110 = .ok (.aastore, 1) := by decide +kernel
theorem dX11_init_111 : decode cX11_init 111 = .ok (.iinc 1 1, 3) := by decide +kernel
theorem dX11_init_114 : decode cX11_init 114 = .ok (.goto (-22), 3) := by decide +kernel
theorem dX11_init_117 : decode cX11_init 117 = .ok (.return_, 1) := by decide +kernel
theorem dX11_mountain_0 : decode cX11_mountain 0 = .ok (.aload_n 0, 1) := by decide +kernel
theorem dX11_mountain_1 : decode cX11_mountain 1 = .ok (.iload_n 1, 1) := by decide +kernel
theorem dX11_mountain_2 : decode cX11_mountain 2 = .ok (.iconst 0, 1) := by decide +kernel
theorem dX11_mountain_3 : decode cX11_mountain 3 = .ok (.invokevirtual 50, 3) := by decide +kernel
theorem dX11_mountain_6 : decode cX11_mountain 6 = .ok (.astore_n 2, 1) := by decide +kernel
theorem dX11_mountain_7 : decode cX11_mountain 7 = .ok (.aload_n 2, 1) := by decide +kernel
theorem dX11_mountain_8 : decode cX11_mountain 8 = .ok (.ifnonnull 9, 3) := by decide +kernel
theorem dX11_mountain_11 : decode cX11_mountain 11 = .ok (.aload_n 0, 1) := by decide +kernel
theorem dX11_mountain_12 : decode cX11_mountain 12 = .ok (.iload_n 1, 1) := by decide +kernel
theorem dX11_mountain_13 : decode cX11_mountain 13 = .ok (.invokevirtual 54, 3) := by decide +kernel
theorem dX11_mountain_16 : decode cX11_mountain 16 = .ok (.ireturn, 1) := by decide +kernel
theorem dX11_mountain_17 : decode cX11_mountain 17 = .ok (.aload_n 2, 1) := by decide +kernel
theorem dX11_mountain_18 : decode cX11_mountain 18 = .ok (.invokestatic 58, 3) := by decide +kernel
theorem dX11_mountain_21 : decode cX11_mountain 21 = .ok (.istore_n 3, 1) := by decide +kernel
theorem dX11_mountain_22 : decode cX11_mountain 22 = .ok (.iload_n 3, 1) := by decide +kernel
theorem dX11_mountain_23 : decode cX11_mountain 23 = .ok (.iconst (-1), 1) := by decide +kernel
theorem dX11_mountain_24 : decode cX11_mountain 24 = .ok (.if_icmp .eq 9, 3) := by decide +kernel
theorem dX11_mountain_27 : decode cX11_mountain 27 = .ok (.sipush (-1000), 3) := by decide +kernel
theorem dX11_mountain_30 : decode cX11_mountain 30 = .ok (.iload_n 3, 1) := by decide +kernel
theorem dX11_mountain_31 : decode cX11_mountain 31 = .ok (.isub, 1) := by decide +kernel
theorem dX11_mountain_32 : decode cX11_mountain 32 = .ok (.ireturn, 1) := by decide +kernel
theorem dX11_mountain_33 : decode cX11_mountain 33 = .ok (.aload_n 0, 1) := by decide +kernel
theorem dX11_mountain_34 : decode cX11_mountain 34 = .ok (.getfield 16, 3) := by decide +kernel
theorem dX11_mountain_37 : decode cX11_mountain 37 = .ok (.aload_n 0, 1) := by decide +kernel
theorem dX11_mountain_38 : decode cX11_mountain 38 = .ok (.getfield 12, 3) := by decide +kernel
theorem dX11_mountain_41 : decode cX11_mountain 41 = .ok (.invokevirtual 62, 3) := by decide +kernel
theorem dX11_mountain_44 : decode cX11_mountain 44 = .ok (.aload_n 0, 1) := by decide +kernel
theorem dX11_mountain_45 : decode cX11_mountain 45 = .ok (.aload_n 2, 1) := by decide +kernel
theorem dX11_mountain_46 : decode cX11_mountain 46 = .ok (.invokevirtual 66, 3) := by decide +kernel
theorem dX11_mountain_49 : decode cX11_mountain 49 = .ok (.istore 4, 2) := by decide +kernel
theorem dX11_mountain_51 : decode cX11_mountain 51 = .ok (.iload 4, 2) := by decide +kernel
theorem dX11_mountain_53 : decode cX11_mountain 53 = .ok (.ifCond .le 14, 3) := by decide +kernel
theorem dX11_mountain_56 : decode cX11_mountain 56 = .ok (.aload_n 0, 1) := by decide +kernel
theorem dX11_mountain_57 : decode cX11_mountain 57 = .ok (.getfield 12, 3) := by decide +kernel
theorem dX11_mountain_60 : decode cX11_mountain 60 = .ok (.aload_n 0, 1) := by decide +kernel
theorem dX11_mountain_61 : decode cX11_mountain 61 = .ok (.getfield 16, 3) := by decide +kernel
theorem dX11_mountain_64 : decode cX11_mountain 64 = .ok (.invokevirtual 62, 3) := by decide +kernel
theorem dX11_mountain_67 : decode cX11_mountain 67 = .ok (.iload 4, 2) := by decide +kernel
theorem dX11_mountain_69 : decode cX11_mountain 69 = .ok (.ireturn, 1) := by decide +kernel
theorem dX11_cell_0 : decode cX11_cell 0 = .ok (.iload_n 1, 1) := by decide +kernel
theorem dX11_cell_1 : decode cX11_cell 1 = .ok (.bipush 20, 2) := by decide +kernel
theorem dX11_cell_3 : decode cX11_cell 3 = .ok (.invokestatic 69, 3) := by decide +kernel
theorem dX11_cell_6 : decode cX11_cell 6 = .ok (.ifCond .ne 5, 3) := by decide +kernel
theorem dX11_cell_9 : decode cX11_cell 9 = .ok (.iconst (-1), 1) := by decide +kernel
theorem dX11_cell_10 : decode cX11_cell 10 = .ok (.ireturn, 1) := by decide +kernel
theorem dX11_cell_11 : decode cX11_cell 11 = .ok (.aload_n 0, 1) := by decide +kernel
theorem dX11_cell_12 : decode cX11_cell 12 = .ok (.getfield 12, 3) := by decide +kernel
theorem dX11_cell_15 : decode cX11_cell 15 = .ok (.getfield 73, 3) := by decide +kernel
theorem dX11_cell_18 : decode cX11_cell 18 = .ok (.iload_n 1, 1) := by decide +kernel
theorem dX11_cell_19 : decode cX11_cell 19 = .ok (.aaload, 1) := by decide +kernel
theorem dX11_cell_20 : decode cX11_cell 20 = .ok (.astore_n 3, 1) := by decide +kernel
theorem dX11_cell_21 : decode cX11_cell 21 = .ok (.iload_n 2, 1) := by decide +kernel
theorem dX11_cell_22 : decode cX11_cell 22 = .ok (.tableswitch 59 0 4 #[34, 39, 44, 49, 54], 34) := by decide +kernel
theorem dX11_cell_56 : decode cX11_cell 56 = .ok (.aload_n 3, 1) := by decide +kernel
theorem dX11_cell_57 : decode cX11_cell 57 = .ok (.invokevirtual 77, 3) := by decide +kernel
theorem dX11_cell_60 : decode cX11_cell 60 = .ok (.ireturn, 1) := by decide +kernel
theorem dX11_cell_61 : decode cX11_cell 61 = .ok (.aload_n 3, 1) := by decide +kernel
theorem dX11_cell_62 : decode cX11_cell 62 = .ok (.getfield 83, 3) := by decide +kernel
theorem dX11_cell_65 : decode cX11_cell 65 = .ok (.ireturn, 1) := by decide +kernel
theorem dX11_cell_66 : decode cX11_cell 66 = .ok (.aload_n 3, 1) := by decide +kernel
theorem dX11_cell_67 : decode cX11_cell 67 = .ok (.invokevirtual 87, 3) := by decide +kernel
theorem dX11_cell_70 : decode cX11_cell 70 = .ok (.ireturn, 1) := by decide +kernel
theorem dX11_cell_71 : decode cX11_cell 71 = .ok (.aload_n 3, 1) := by decide +kernel
theorem dX11_cell_72 : decode cX11_cell 72 = .ok (.invokevirtual 90, 3) := by decide +kernel
theorem dX11_cell_75 : decode cX11_cell 75 = .ok (.ireturn, 1) := by decide +kernel
theorem dX11_cell_76 : decode cX11_cell 76 = .ok (.aload_n 3, 1) := by decide +kernel
theorem dX11_cell_77 : decode cX11_cell 77 = .ok (.invokevirtual 93, 3) := by decide +kernel
theorem dX11_cell_80 : decode cX11_cell 80 = .ok (.ireturn, 1) := by decide +kernel
theorem dX11_cell_81 : decode cX11_cell 81 = .ok (.iconst (-1), 1) := by decide +kernel
theorem dX11_cell_82 : decode cX11_cell 82 = .ok (.ireturn, 1) := by decide +kernel
theorem dX11_lay_0 : decode cX11_lay 0 = .ok (.iload_n 2, 1) := by decide +kernel
theorem dX11_lay_1 : decode cX11_lay 1 = .ok (.bipush 20, 2) := by decide +kernel
theorem dX11_lay_3 : decode cX11_lay 3 = .ok (.invokestatic 69, 3) := by decide +kernel
theorem dX11_lay_6 : decode cX11_lay 6 = .ok (.ifCond .ne 5, 3) := by decide +kernel
theorem dX11_lay_9 : decode cX11_lay 9 = .ok (.iconst (-1), 1) := by decide +kernel
theorem dX11_lay_10 : decode cX11_lay 10 = .ok (.ireturn, 1) := by decide +kernel
theorem dX11_lay_11 : decode cX11_lay 11 = .ok (.aload_n 0, 1) := by decide +kernel
theorem dX11_lay_12 : decode cX11_lay 12 = .ok (.iload_n 1, 1) := by decide +kernel
theorem dX11_lay_13 : decode cX11_lay 13 = .ok (.invokevirtual 96, 3) := by decide +kernel
theorem dX11_lay_16 : decode cX11_lay 16 = .ok (.astore_n 3, 1) := by decide +kernel
theorem dX11_lay_17 : decode cX11_lay 17 = .ok (.aload_n 3, 1) := by decide +kernel
theorem dX11_lay_18 : decode cX11_lay 18 = .ok (.ifnonnull 9, 3) := by decide +kernel
theorem dX11_lay_21 : decode cX11_lay 21 = .ok (.aload_n 0, 1) := by decide +kernel
theorem dX11_lay_22 : decode cX11_lay 22 = .ok (.iload_n 1, 1) := by decide +kernel
theorem dX11_lay_23 : decode cX11_lay 23 = .ok (.invokevirtual 54, 3) := by decide +kernel
theorem dX11_lay_26 : decode cX11_lay 26 = .ok (.ireturn, 1) := by decide +kernel
theorem dX11_lay_27 : decode cX11_lay 27 = .ok (.aload_n 0, 1) := by decide +kernel
theorem dX11_lay_28 : decode cX11_lay 28 = .ok (.getfield 12, 3) := by decide +kernel
theorem dX11_lay_31 : decode cX11_lay 31 = .ok (.getfield 73, 3) := by decide +kernel
theorem dX11_lay_34 : decode cX11_lay 34 = .ok (.iload_n 2, 1) := by decide +kernel
theorem dX11_lay_35 : decode cX11_lay 35 = .ok (.aaload, 1) := by decide +kernel
theorem dX11_lay_36 : decode cX11_lay 36 = .ok (.invokevirtual 77, 3) := by decide +kernel
theorem dX11_lay_39 : decode cX11_lay 39 = .ok (.istore 4, 2) := by decide +kernel
theorem dX11_lay_41 : decode cX11_lay 41 = .ok (.aload_n 0, 1) := by decide +kernel
theorem dX11_lay_42 : decode cX11_lay 42 = .ok (.getfield 12, 3) := by decide +kernel
theorem dX11_lay_45 : decode cX11_lay 45 = .ok (.getfield 73, 3) := by decide +kernel
theorem dX11_lay_48 : decode cX11_lay 48 = .ok (.iload_n 2, 1) := by decide +kernel
theorem dX11_lay_49 : decode cX11_lay 49 = .ok (.aload_n 3, 1) := by decide +kernel
theorem dX11_lay_50 : decode cX11_lay 50 = .ok (.aastore, 1) := by decide +kernel
theorem dX11_lay_51 : decode cX11_lay 51 = .ok (.iload 4, 2) := by decide +kernel
theorem dX11_lay_53 : decode cX11_lay 53 = .ok (.ireturn, 1) := by decide +kernel
theorem dX11_gang_0 : decode cX11_gang 0 = .ok (.iload_n 1, 1) := by decide +kernel
theorem dX11_gang_1 : decode cX11_gang 1 = .ok (.iconst 2, 1) := by decide +kernel
theorem dX11_gang_2 : decode cX11_gang 2 = .ok (.invokestatic 69, 3) := by decide +kernel
theorem dX11_gang_5 : decode cX11_gang 5 = .ok (.ifCond .eq 11, 3) := by decide +kernel
theorem dX11_gang_8 : decode cX11_gang 8 = .ok (.iload_n 2, 1) := by decide +kernel
theorem dX11_gang_9 : decode cX11_gang 9 = .ok (.iconst 2, 1) := by decide +kernel
theorem dX11_gang_10 : decode cX11_gang 10 = .ok (.invokestatic 69, 3) := by decide +kernel
theorem dX11_gang_13 : decode cX11_gang 13 = .ok (.ifCond .ne 5, 3) := by decide +kernel
theorem dX11_gang_16 : decode cX11_gang 16 = .ok (.iconst (-1), 1) := by decide +kernel
theorem dX11_gang_17 : decode cX11_gang 17 = .ok (.ireturn, 1) := by decide +kernel
theorem dX11_gang_18 : decode cX11_gang 18 = .ok (.iload_n 2, 1) := by decide +kernel
theorem dX11_gang_19 : decode cX11_gang 19 = .ok (.ifCond .ne 15, 3) := by decide +kernel
theorem dX11_gang_22 : decode cX11_gang 22 = .ok (.aload_n 0, 1) := by decide +kernel
theorem dX11_gang_23 : decode cX11_gang 23 = .ok (.getfield 12, 3) := by decide +kernel
theorem dX11_gang_26 : decode cX11_gang 26 = .ok (.getfield 100, 3) := by decide +kernel
theorem dX11_gang_29 : decode cX11_gang 29 = .ok (.iload_n 1, 1) := by decide +kernel
theorem dX11_gang_30 : decode cX11_gang 30 = .ok (.iaload, 1) := by decide +kernel
theorem dX11_gang_31 : decode cX11_gang 31 = .ok (.goto 12, 3) := by decide +kernel
theorem dX11_gang_34 : decode cX11_gang 34 = .ok (.aload_n 0, 1) := by decide +kernel
theorem dX11_gang_35 : decode cX11_gang 35 = .ok (.getfield 12, 3) := by decide +kernel
theorem dX11_gang_38 : decode cX11_gang 38 = .ok (.getfield 103, 3) := by decide +kernel
theorem dX11_gang_41 : decode cX11_gang 41 = .ok (.iload_n 1, 1) := by decide +kernel
theorem dX11_gang_42 : decode cX11_gang 42 = .ok (.iaload, 1) := by decide +kernel
theorem dX11_gang_43 : decode cX11_gang 43 = .ok (.ireturn, 1) := by decide +kernel
theorem dX11_dig_0 : decode cX11_dig 0 = .ok (.iload_n 1, 1) := by decide +kernel
theorem dX11_dig_1 : decode cX11_dig 1 = .ok (.iconst 2, 1) := by decide +kernel
theorem dX11_dig_2 : decode cX11_dig 2 = .ok (.invokestatic 69, 3) := by decide +kernel
theorem dX11_dig_5 : decode cX11_dig 5 = .ok (.ifCond .eq 11, 3) := by decide +kernel
theorem dX11_dig_8 : decode cX11_dig 8 = .ok (.iload_n 2, 1) := by decide +kernel
theorem dX11_dig_9 : decode cX11_dig 9 = .ok (.iconst 4, 1) := by decide +kernel
theorem dX11_dig_10 : decode cX11_dig 10 = .ok (.invokestatic 69, 3) := by decide +kernel
theorem dX11_dig_13 : decode cX11_dig 13 = .ok (.ifCond .ne 5, 3) := by decide +kernel
theorem dX11_dig_16 : decode cX11_dig 16 = .ok (.iconst (-1), 1) := by decide +kernel
theorem dX11_dig_17 : decode cX11_dig 17 = .ok (.ireturn, 1) := by decide +kernel
theorem dX11_dig_18 : decode cX11_dig 18 = .ok (.aload_n 0, 1) := by decide +kernel
theorem dX11_dig_19 : decode cX11_dig 19 = .ok (.getfield 12, 3) := by decide +kernel
theorem dX11_dig_22 : decode cX11_dig 22 = .ok (.iload_n 1, 1) := by decide +kernel
theorem dX11_dig_23 : decode cX11_dig 23 = .ok (.iload_n 2, 1) := by decide +kernel
theorem dX11_dig_24 : decode cX11_dig 24 = .ok (.invokevirtual 106, 3) := by decide +kernel
theorem dX11_dig_27 : decode cX11_dig 27 = .ok (.istore_n 3, 1) := by decide +kernel
theorem dX11_dig_28 : decode cX11_dig 28 = .ok (.iload_n 3, 1) := by decide +kernel
theorem dX11_dig_29 : decode cX11_dig 29 = .ok (.iconst (-1), 1) := by decide +kernel
theorem dX11_dig_30 : decode cX11_dig 30 = .ok (.if_icmp .ne 8, 3) := by decide +kernel
theorem dX11_dig_33 : decode cX11_dig 33 = .ok (.bipush (-3), 2) := by decide +kernel
theorem dX11_dig_35 : decode cX11_dig 35 = .ok (.goto 4, 3) := by decide +kernel
theorem dX11_dig_38 : decode cX11_dig 38 = .ok (.iload_n 3, 1) := by decide +kernel
theorem dX11_dig_39 : decode cX11_dig 39 = .ok (.ireturn, 1) := by decide +kernel
theorem dX11_met_0 : decode cX11_met 0 = .ok (.aload_n 0, 1) := by decide +kernel
theorem dX11_met_1 : decode cX11_met 1 = .ok (.getfield 12, 3) := by decide +kernel
theorem dX11_met_4 : decode cX11_met 4 = .ok (.invokevirtual 110, 3) := by decide +kernel
theorem dX11_met_7 : decode cX11_met 7 = .ok (.ifCond .eq 7, 3) := by decide +kernel
theorem dX11_met_10 : decode cX11_met 10 = .ok (.iconst 1, 1) := by decide +kernel
theorem dX11_met_11 : decode cX11_met 11 = .ok (.goto 4, 3) := by decide +kernel
theorem dX11_met_14 : decode cX11_met 14 = .ok (.iconst 0, 1) := by decide +kernel
theorem dX11_met_15 : decode cX11_met 15 = .ok (.ireturn, 1) := by decide +kernel
theorem dX11_time_0 : decode cX11_time 0 = .ok (.iload_n 1, 1) := by decide +kernel
theorem dX11_time_1 : decode cX11_time 1 = .ok (.bipush 20, 2) := by decide +kernel
theorem dX11_time_3 : decode cX11_time 3 = .ok (.invokestatic 69, 3) := by decide +kernel
theorem dX11_time_6 : decode cX11_time 6 = .ok (.ifCond .eq 12, 3) := by decide +kernel
theorem dX11_time_9 : decode cX11_time 9 = .ok (.iload_n 2, 1) := by decide +kernel
theorem dX11_time_10 : decode cX11_time 10 = .ok (.bipush 20, 2) := by decide +kernel
theorem dX11_time_12 : decode cX11_time 12 = .ok (.invokestatic 69, 3) := by decide +kernel
theorem dX11_time_15 : decode cX11_time 15 = .ok (.ifCond .ne 5, 3) := by decide +kernel
theorem dX11_time_18 : decode cX11_time 18 = .ok (.iconst (-1), 1) := by decide +kernel
theorem dX11_time_19 : decode cX11_time 19 = .ok (.ireturn, 1) := by decide +kernel
theorem dX11_time_20 : decode cX11_time 20 = .ok (.aload_n 0, 1) := by decide +kernel
theorem dX11_time_21 : decode cX11_time 21 = .ok (.iload_n 1, 1) := by decide +kernel
theorem dX11_time_22 : decode cX11_time 22 = .ok (.invokevirtual 114, 3) := by decide +kernel
theorem dX11_time_25 : decode cX11_time 25 = .ok (.aload_n 0, 1) := by decide +kernel
theorem dX11_time_26 : decode cX11_time 26 = .ok (.getfield 35, 3) := by decide +kernel
theorem dX11_time_29 : decode cX11_time 29 = .ok (.getfield 118, 3) := by decide +kernel
theorem dX11_time_32 : decode cX11_time 32 = .ok (.iload_n 2, 1) := by decide +kernel
theorem dX11_time_33 : decode cX11_time 33 = .ok (.iaload, 1) := by decide +kernel
theorem dX11_time_34 : decode cX11_time 34 = .ok (.ireturn, 1) := by decide +kernel
theorem dX11_loud_0 : decode cX11_loud 0 = .ok (.iload_n 1, 1) := by decide +kernel
theorem dX11_loud_1 : decode cX11_loud 1 = .ok (.bipush 20, 2) := by decide +kernel
theorem dX11_loud_3 : decode cX11_loud 3 = .ok (.invokestatic 69, 3) := by decide +kernel
theorem dX11_loud_6 : decode cX11_loud 6 = .ok (.ifCond .eq 21, 3) := by decide +kernel
theorem dX11_loud_9 : decode cX11_loud 9 = .ok (.iload_n 2, 1) := by decide +kernel
theorem dX11_loud_10 : decode cX11_loud 10 = .ok (.bipush 20, 2) := by decide +kernel
theorem dX11_loud_12 : decode cX11_loud 12 = .ok (.invokestatic 69, 3) := by decide +kernel
theorem dX11_loud_15 : decode cX11_loud 15 = .ok (.ifCond .eq 12, 3) := by decide +kernel
theorem dX11_loud_18 : decode cX11_loud 18 = .ok (.iload_n 3, 1) := by decide +kernel
theorem dX11_loud_19 : decode cX11_loud 19 = .ok (.bipush 100, 2) := by decide +kernel
theorem dX11_loud_21 : decode cX11_loud 21 = .ok (.invokestatic 69, 3) := by decide +kernel
theorem dX11_loud_24 : decode cX11_loud 24 = .ok (.ifCond .ne 5, 3) := by decide +kernel
theorem dX11_loud_27 : decode cX11_loud 27 = .ok (.iconst (-1), 1) := by decide +kernel
theorem dX11_loud_28 : decode cX11_loud 28 = .ok (.ireturn, 1) := by decide +kernel
theorem dX11_loud_29 : decode cX11_loud 29 = .ok (.aload_n 0, 1) := by decide +kernel
theorem dX11_loud_30 : decode cX11_loud 30 = .ok (.iload_n 1, 1) := by decide +kernel
theorem dX11_loud_31 : decode cX11_loud 31 = .ok (.invokevirtual 114, 3) := by decide +kernel
theorem dX11_loud_34 : decode cX11_loud 34 = .ok (.iconst 0, 1) := by decide +kernel
theorem dX11_loud_35 : decode cX11_loud 35 = .ok (.iload_n 3, 1) := by decide +kernel
theorem dX11_loud_36 : decode cX11_loud 36 = .ok (.aload_n 0, 1) := by decide +kernel
theorem dX11_loud_37 : decode cX11_loud 37 = .ok (.getfield 35, 3) := by decide +kernel
theorem dX11_loud_40 : decode cX11_loud 40 = .ok (.getfield 121, 3) := by decide +kernel
theorem dX11_loud_43 : decode cX11_loud 43 = .ok (.iload_n 2, 1) := by decide +kernel
theorem dX11_loud_44 : decode cX11_loud 44 = .ok (.iaload, 1) := by decide +kernel
theorem dX11_loud_45 : decode cX11_loud 45 = .ok (.isub, 1) := by decide +kernel
theorem dX11_loud_46 : decode cX11_loud 46 = .ok (.invokestatic 124, 3) := by decide +kernel
theorem dX11_loud_49 : decode cX11_loud 49 = .ok (.ireturn, 1) := by decide +kernel
theorem dX11_paths_0 : decode cX11_paths 0 = .ok (.iload_n 1, 1) := by decide +kernel
theorem dX11_paths_1 : decode cX11_paths 1 = .ok (.bipush 20, 2) := by decide +kernel
theorem dX11_paths_3 : decode cX11_paths 3 = .ok (.invokestatic 69, 3) := by decide +kernel
theorem dX11_paths_6 : decode cX11_paths 6 = .ok (.ifCond .eq 12, 3) := by decide +kernel
theorem dX11_paths_9 : decode cX11_paths 9 = .ok (.iload_n 2, 1) := by decide +kernel
theorem dX11_paths_10 : decode cX11_paths 10 = .ok (.bipush 20, 2) := by decide +kernel
theorem dX11_paths_12 : decode cX11_paths 12 = .ok (.invokestatic 69, 3) := by decide +kernel
theorem dX11_paths_15 : decode cX11_paths 15 = .ok (.ifCond .ne 5, 3) := by decide +kernel
theorem dX11_paths_18 : decode cX11_paths 18 = .ok (.iconst (-1), 1) := by decide +kernel
theorem dX11_paths_19 : decode cX11_paths 19 = .ok (.ireturn, 1) := by decide +kernel
theorem dX11_paths_20 : decode cX11_paths 20 = .ok (.aload_n 0, 1) := by decide +kernel
theorem dX11_paths_21 : decode cX11_paths 21 = .ok (.iload_n 1, 1) := by decide +kernel
theorem dX11_paths_22 : decode cX11_paths 22 = .ok (.invokevirtual 114, 3) := by decide +kernel
theorem dX11_paths_25 : decode cX11_paths 25 = .ok (.aload_n 0, 1) := by decide +kernel
theorem dX11_paths_26 : decode cX11_paths 26 = .ok (.getfield 35, 3) := by decide +kernel
theorem dX11_paths_29 : decode cX11_paths 29 = .ok (.getfield 129, 3) := by decide +kernel
theorem dX11_paths_32 : decode cX11_paths 32 = .ok (.iload_n 2, 1) := by decide +kernel
theorem dX11_paths_33 : decode cX11_paths 33 = .ok (.iaload, 1) := by decide +kernel
theorem dX11_paths_34 : decode cX11_paths 34 = .ok (.ireturn, 1) := by decide +kernel
theorem dX11_reaches_0 : decode cX11_reaches 0 = .ok (.iload_n 1, 1) := by decide +kernel
theorem dX11_reaches_1 : decode cX11_reaches 1 = .ok (.bipush 20, 2) := by decide +kernel
theorem dX11_reaches_3 : decode cX11_reaches 3 = .ok (.invokestatic 69, 3) := by decide +kernel
theorem dX11_reaches_6 : decode cX11_reaches 6 = .ok (.ifCond .eq 14, 3) := by decide +kernel
theorem dX11_reaches_9 : decode cX11_reaches 9 = .ok (.iload_n 2, 1) := by decide +kernel
theorem dX11_reaches_10 : decode cX11_reaches 10 = .ok (.iconst 1, 1) := by decide +kernel
theorem dX11_reaches_11 : decode cX11_reaches 11 = .ok (.if_icmp .lt 9, 3) := by decide +kernel
theorem dX11_reaches_14 : decode cX11_reaches 14 = .ok (.iload_n 2, 1) := by decide +kernel
theorem dX11_reaches_15 : decode cX11_reaches 15 = .ok (.bipush 99, 2) := by decide +kernel
theorem dX11_reaches_17 : decode cX11_reaches 17 = .ok (.if_icmp .le 5, 3) := by decide +kernel
theorem dX11_reaches_20 : decode cX11_reaches 20 = .ok (.iconst (-1), 1) := by decide +kernel
theorem dX11_reaches_21 : decode cX11_reaches 21 = .ok (.ireturn, 1) := by decide +kernel
theorem dX11_reaches_22 : decode cX11_reaches 22 = .ok (.aload_n 0, 1) := by decide +kernel
theorem dX11_reaches_23 : decode cX11_reaches 23 = .ok (.iload_n 1, 1) := by decide +kernel
theorem dX11_reaches_24 : decode cX11_reaches 24 = .ok (.invokevirtual 114, 3) := by decide +kernel
theorem dX11_reaches_27 : decode cX11_reaches 27 = .ok (.iconst 0, 1) := by decide +kernel
theorem dX11_reaches_28 : decode cX11_reaches 28 = .ok (.istore_n 3, 1) := by decide +kernel
theorem dX11_reaches_29 : decode cX11_reaches 29 = .ok (.iconst 0, 1) := by decide +kernel
theorem dX11_reaches_30 : decode cX11_reaches 30 = .ok (.istore 4, 2) := by decide +kernel
theorem dX11_reaches_32 : decode cX11_reaches 32 = .ok (.iload 4, 2) := by decide +kernel
theorem dX11_reaches_34 : decode cX11_reaches 34 = .ok (.bipush 20, 2) := by decide +kernel
theorem dX11_reaches_36 : decode cX11_reaches 36 = .ok (.if_icmp .ge 30, 3) := by decide +kernel
theorem dX11_reaches_39 : decode cX11_reaches 39 = .ok (.iload_n 2, 1) := by decide +kernel
theorem dX11_reaches_40 : decode cX11_reaches 40 = .ok (.aload_n 0, 1) := by decide +kernel
theorem dX11_reaches_41 : decode cX11_reaches 41 = .ok (.getfield 35, 3) := by decide +kernel
theorem dX11_reaches_44 : decode cX11_reaches 44 = .ok (.getfield 121, 3) := by decide +kernel
theorem dX11_reaches_47 : decode cX11_reaches 47 = .ok (.iload 4, 2) := by decide +kernel
theorem dX11_reaches_49 : decode cX11_reaches 49 = .ok (.iaload, 1) := by decide +kernel
theorem dX11_reaches_50 : decode cX11_reaches 50 = .ok (.if_icmp .le 10, 3) := by decide +kernel
theorem dX11_reaches_53 : decode cX11_reaches 53 = .ok (.iload_n 3, 1) := by decide +kernel
theorem dX11_reaches_54 : decode cX11_reaches 54 = .ok (.iconst 1, 1) := by decide +kernel
theorem dX11_reaches_55 : decode cX11_reaches 55 = .ok (.iload 4, 2) := by decide +kernel
theorem dX11_reaches_57 : decode cX11_reaches 57 = .ok (.ishl, 1) := by decide +kernel
theorem dX11_reaches_58 : decode cX11_reaches 58 = .ok (.ior, 1) := by decide +kernel
theorem dX11_reaches_59 : decode cX11_reaches 59 = .ok (.istore_n 3, 1) := by decide +kernel
theorem dX11_reaches_60 : decode cX11_reaches 60 = .ok (.iinc 4 1, 3) := by decide +kernel
theorem dX11_reaches_63 : decode cX11_reaches 63 = .ok (.goto (-31), 3) := by decide +kernel
theorem dX11_reaches_66 : decode cX11_reaches 66 = .ok (.iload_n 3, 1) := by decide +kernel
theorem dX11_reaches_67 : decode cX11_reaches 67 = .ok (.ireturn, 1) := by decide +kernel
theorem dX11_from_0 : decode cX11_from 0 = .ok (.iload_n 2, 1) := by decide +kernel
theorem dX11_from_1 : decode cX11_from 1 = .ok (.iconst 2, 1) := by decide +kernel
theorem dX11_from_2 : decode cX11_from 2 = .ok (.invokestatic 69, 3) := by decide +kernel
theorem dX11_from_5 : decode cX11_from 5 = .ok (.ifCond .ne 5, 3) := by decide +kernel
theorem dX11_from_8 : decode cX11_from 8 = .ok (.iconst (-1), 1) := by decide +kernel
theorem dX11_from_9 : decode cX11_from 9 = .ok (.ireturn, 1) := by decide +kernel
theorem dX11_from_10 : decode cX11_from 10 = .ok (.aload_n 0, 1) := by decide +kernel
theorem dX11_from_11 : decode cX11_from 11 = .ok (.iload_n 1, 1) := by decide +kernel
theorem dX11_from_12 : decode cX11_from 12 = .ok (.iconst 2, 1) := by decide +kernel
theorem dX11_from_13 : decode cX11_from 13 = .ok (.invokevirtual 50, 3) := by decide +kernel
theorem dX11_from_16 : decode cX11_from 16 = .ok (.astore_n 3, 1) := by decide +kernel
theorem dX11_from_17 : decode cX11_from 17 = .ok (.aload_n 3, 1) := by decide +kernel
theorem dX11_from_18 : decode cX11_from 18 = .ok (.ifnonnull 9, 3) := by decide +kernel
theorem dX11_from_21 : decode cX11_from 21 = .ok (.aload_n 0, 1) := by decide +kernel
theorem dX11_from_22 : decode cX11_from 22 = .ok (.iload_n 1, 1) := by decide +kernel
theorem dX11_from_23 : decode cX11_from 23 = .ok (.invokevirtual 54, 3) := by decide +kernel
theorem dX11_from_26 : decode cX11_from 26 = .ok (.ireturn, 1) := by decide +kernel
theorem dX11_from_27 : decode cX11_from 27 = .ok (.aload_n 3, 1) := by decide +kernel
theorem dX11_from_28 : decode cX11_from 28 = .ok (.getfield 132, 3) := by decide +kernel
theorem dX11_from_31 : decode cX11_from 31 = .ok (.iconst 2, 1) := by decide +kernel
theorem dX11_from_32 : decode cX11_from 32 = .ok (.irem, 1) := by decide +kernel
theorem dX11_from_33 : decode cX11_from 33 = .ok (.ifCond .ne 11, 3) := by decide +kernel
theorem dX11_from_36 : decode cX11_from 36 = .ok (.aload_n 3, 1) := by decide +kernel
theorem dX11_from_37 : decode cX11_from 37 = .ok (.iconst 2, 1) := by decide +kernel
theorem dX11_from_38 : decode cX11_from 38 = .ok (.invokestatic 135, 3) := by decide +kernel
theorem dX11_from_41 : decode cX11_from 41 = .ok (.ifCond .ne 6, 3) := by decide +kernel
theorem dX11_from_44 : decode cX11_from 44 = .ok (.bipush (-13), 2) := by decide +kernel
theorem dX11_from_46 : decode cX11_from 46 = .ok (.ireturn, 1) := by decide +kernel
theorem dX11_from_47 : decode cX11_from 47 = .ok (.aload_n 0, 1) := by decide +kernel
theorem dX11_from_48 : decode cX11_from 48 = .ok (.getfield 35, 3) := by decide +kernel
theorem dX11_from_51 : decode cX11_from 51 = .ok (.aload_n 0, 1) := by decide +kernel
theorem dX11_from_52 : decode cX11_from 52 = .ok (.getfield 12, 3) := by decide +kernel
theorem dX11_from_55 : decode cX11_from 55 = .ok (.invokevirtual 139, 3) := by decide +kernel
theorem dX11_from_58 : decode cX11_from 58 = .ok (.iconst 0, 1) := by decide +kernel
theorem dX11_from_59 : decode cX11_from 59 = .ok (.istore 4, 2) := by decide +kernel
theorem dX11_from_61 : decode cX11_from 61 = .ok (.bipush (-4), 2) := by decide +kernel
theorem dX11_from_63 : decode cX11_from 63 = .ok (.istore 5, 2) := by decide +kernel
theorem dX11_from_65 : decode cX11_from 65 = .ok (.bipush 19, 2) := by decide +kernel
theorem dX11_from_67 : decode cX11_from 67 = .ok (.istore 6, 2) := by decide +kernel
theorem dX11_from_69 : decode cX11_from 69 = .ok (.iload 6, 2) := by decide +kernel
theorem dX11_from_71 : decode cX11_from 71 = .ok (.ifCond .lt 33, 3) := by decide +kernel
theorem dX11_from_74 : decode cX11_from 74 = .ok (.aload_n 0, 1) := by decide +kernel
theorem dX11_from_75 : decode cX11_from 75 = .ok (.getfield 35, 3) := by decide +kernel
theorem dX11_from_78 : decode cX11_from 78 = .ok (.iload 6, 2) := by decide +kernel
theorem dX11_from_80 : decode cX11_from 80 = .ok (.invokevirtual 142, 3) := by decide +kernel
theorem dX11_from_83 : decode cX11_from 83 = .ok (.aload_n 0, 1) := by decide +kernel
theorem dX11_from_84 : decode cX11_from 84 = .ok (.aload_n 3, 1) := by decide +kernel
theorem dX11_from_85 : decode cX11_from 85 = .ok (.invokevirtual 145, 3) := by decide +kernel
theorem dX11_from_88 : decode cX11_from 88 = .ok (.ifCond .eq 10, 3) := by decide +kernel
theorem dX11_from_91 : decode cX11_from 91 = .ok (.iinc 4 1, 3) := by decide +kernel
theorem dX11_from_94 : decode cX11_from 94 = .ok (.iload 6, 2) := by decide +kernel
theorem dX11_from_96 : decode cX11_from 96 = .ok (.istore 5, 2) := by decide +kernel
theorem dX11_from_98 : decode cX11_from 98 = .ok (.iinc 6 (-1), 3) := by decide +kernel
theorem dX11_from_101 : decode cX11_from 101 = .ok (.goto (-32), 3) := by decide +kernel
theorem dX11_from_104 : decode cX11_from 104 = .ok (.iload_n 2, 1) := by decide +kernel
theorem dX11_from_105 : decode cX11_from 105 = .ok (.ifCond .ne 8, 3) := by decide +kernel
theorem dX11_from_108 : decode cX11_from 108 = .ok (.iload 4, 2) := by decide +kernel
theorem dX11_from_110 : decode cX11_from 110 = .ok (.goto 5, 3) := by decide +kernel
theorem dX11_from_113 : decode cX11_from 113 = .ok (.iload 5, 2) := by decide +kernel
theorem dX11_from_115 : decode cX11_from 115 = .ok (.ireturn, 1) := by decide +kernel
theorem dX11_listen_0 : decode cX11_listen 0 = .ok (.iload_n 2, 1) := by decide +kernel
theorem dX11_listen_1 : decode cX11_listen 1 = .ok (.iconst 2, 1) := by decide +kernel
theorem dX11_listen_2 : decode cX11_listen 2 = .ok (.invokestatic 69, 3) := by decide +kernel
theorem dX11_listen_5 : decode cX11_listen 5 = .ok (.ifCond .ne 5, 3) := by decide +kernel
theorem dX11_listen_8 : decode cX11_listen 8 = .ok (.iconst (-1), 1) := by decide +kernel
theorem dX11_listen_9 : decode cX11_listen 9 = .ok (.ireturn, 1) := by decide +kernel
theorem dX11_listen_10 : decode cX11_listen 10 = .ok (.aload_n 0, 1) := by decide +kernel
theorem dX11_listen_11 : decode cX11_listen 11 = .ok (.iload_n 1, 1) := by decide +kernel
theorem dX11_listen_12 : decode cX11_listen 12 = .ok (.iconst 0, 1) := by decide +kernel
theorem dX11_listen_13 : decode cX11_listen 13 = .ok (.invokevirtual 50, 3) := by decide +kernel
theorem dX11_listen_16 : decode cX11_listen 16 = .ok (.astore_n 3, 1) := by decide +kernel
theorem dX11_listen_17 : decode cX11_listen 17 = .ok (.aload_n 3, 1) := by decide +kernel
theorem dX11_listen_18 : decode cX11_listen 18 = .ok (.ifnonnull 9, 3) := by decide +kernel
theorem dX11_listen_21 : decode cX11_listen 21 = .ok (.aload_n 0, 1) := by decide +kernel
theorem dX11_listen_22 : decode cX11_listen 22 = .ok (.iload_n 1, 1) := by decide +kernel
theorem dX11_listen_23 : decode cX11_listen 23 = .ok (.invokevirtual 54, 3) := by decide +kernel
theorem dX11_listen_26 : decode cX11_listen 26 = .ok (.ireturn, 1) := by decide +kernel
theorem dX11_listen_27 : decode cX11_listen 27 = .ok (.aload_n 3, 1) := by decide +kernel
theorem dX11_listen_28 : decode cX11_listen 28 = .ok (.getfield 132, 3) := by decide +kernel
theorem dX11_listen_31 : decode cX11_listen 31 = .ok (.bipush 20, 2) := by decide +kernel
theorem dX11_listen_33 : decode cX11_listen 33 = .ok (.if_icmp .gt 11, 3) := by decide +kernel
theorem dX11_listen_36 : decode cX11_listen 36 = .ok (.aload_n 3, 1) := by decide +kernel
theorem dX11_listen_37 : decode cX11_listen 37 = .ok (.iconst 1, 1) := by decide +kernel
theorem dX11_listen_38 : decode cX11_listen 38 = .ok (.invokestatic 135, 3) := by decide +kernel
theorem dX11_listen_41 : decode cX11_listen 41 = .ok (.ifCond .ne 6, 3) := by decide +kernel
theorem dX11_listen_44 : decode cX11_listen 44 = .ok (.bipush (-13), 2) := by decide +kernel
theorem dX11_listen_46 : decode cX11_listen 46 = .ok (.ireturn, 1) := by decide +kernel
theorem dX11_listen_47 : decode cX11_listen 47 = .ok (.aload_n 3, 1) := by decide +kernel
theorem dX11_listen_48 : decode cX11_listen 48 = .ok (.getfield 132, 3) := by decide +kernel
theorem dX11_listen_51 : decode cX11_listen 51 = .ok (.ifCond .ne 6, 3) := by decide +kernel
theorem dX11_listen_54 : decode cX11_listen 54 = .ok (.bipush (-4), 2) := by decide +kernel
theorem dX11_listen_56 : decode cX11_listen 56 = .ok (.ireturn, 1) := by decide +kernel
theorem dX11_listen_57 : decode cX11_listen 57 = .ok (.aload_n 0, 1) := by decide +kernel
theorem dX11_listen_58 : decode cX11_listen 58 = .ok (.invokevirtual 149, 3) := by decide +kernel
theorem dX11_listen_61 : decode cX11_listen 61 = .ok (.iconst 0, 1) := by decide +kernel
theorem dX11_listen_62 : decode cX11_listen 62 = .ok (.istore 4, 2) := by decide +kernel
theorem dX11_listen_64 : decode cX11_listen 64 = .ok (.ldc 152, 2) := by decide +kernel
theorem dX11_listen_66 : decode cX11_listen 66 = .ok (.istore 5, 2) := by decide +kernel
theorem dX11_listen_68 : decode cX11_listen 68 = .ok (.iconst 0, 1) := by decide +kernel
theorem dX11_listen_69 : decode cX11_listen 69 = .ok (.istore 6, 2) := by decide +kernel
theorem dX11_listen_71 : decode cX11_listen 71 = .ok (.iload 6, 2) := by decide +kernel
theorem dX11_listen_73 : decode cX11_listen 73 = .ok (.bipush 20, 2) := by decide +kernel
theorem dX11_listen_75 : decode cX11_listen 75 = .ok (.if_icmp .ge 33, 3) := by decide +kernel
theorem dX11_listen_78 : decode cX11_listen 78 = .ok (.aload_n 0, 1) := by decide +kernel
theorem dX11_listen_79 : decode cX11_listen 79 = .ok (.aload_n 3, 1) := by decide +kernel
theorem dX11_listen_80 : decode cX11_listen 80 = .ok (.iload 6, 2) := by decide +kernel
theorem dX11_listen_82 : decode cX11_listen 82 = .ok (.invokevirtual 153, 3) := by decide +kernel
theorem dX11_listen_85 : decode cX11_listen 85 = .ok (.istore 7, 2) := by decide +kernel
theorem dX11_listen_87 : decode cX11_listen 87 = .ok (.iload 7, 2) := by decide +kernel
theorem dX11_listen_89 : decode cX11_listen 89 = .ok (.iload 5, 2) := by decide +kernel
theorem dX11_listen_91 : decode cX11_listen 91 = .ok (.if_icmp .ge 11, 3) := by decide +kernel
theorem dX11_listen_94 : decode cX11_listen 94 = .ok (.iload 7, 2) := by decide +kernel
theorem dX11_listen_96 : decode cX11_listen 96 = .ok (.istore 5, 2) := by decide +kernel
theorem dX11_listen_98 : decode cX11_listen 98 = .ok (.iload 6, 2) := by decide +kernel
theorem dX11_listen_100 : decode cX11_listen 100 = .ok (.istore 4, 2) := by decide +kernel
theorem dX11_listen_102 : decode cX11_listen 102 = .ok (.iinc 6 1, 3) := by decide +kernel
theorem dX11_listen_105 : decode cX11_listen 105 = .ok (.goto (-34), 3) := by decide +kernel
theorem dX11_listen_108 : decode cX11_listen 108 = .ok (.iload_n 2, 1) := by decide +kernel
theorem dX11_listen_109 : decode cX11_listen 109 = .ok (.ifCond .ne 8, 3) := by decide +kernel
theorem dX11_listen_112 : decode cX11_listen 112 = .ok (.iload 4, 2) := by decide +kernel
theorem dX11_listen_114 : decode cX11_listen 114 = .ok (.goto 5, 3) := by decide +kernel
theorem dX11_listen_117 : decode cX11_listen 117 = .ok (.iload 5, 2) := by decide +kernel
theorem dX11_listen_119 : decode cX11_listen 119 = .ok (.ireturn, 1) := by decide +kernel
theorem dX11_rocks_0 : decode cX11_rocks 0 = .ok (.iload_n 1, 1) := by decide +kernel
theorem dX11_rocks_1 : decode cX11_rocks 1 = .ok (.bipush 20, 2) := by decide +kernel
theorem dX11_rocks_3 : decode cX11_rocks 3 = .ok (.invokestatic 69, 3) := by decide +kernel
theorem dX11_rocks_6 : decode cX11_rocks 6 = .ok (.ifCond .eq 12, 3) := by decide +kernel
theorem dX11_rocks_9 : decode cX11_rocks 9 = .ok (.iload_n 2, 1) := by decide +kernel
theorem dX11_rocks_10 : decode cX11_rocks 10 = .ok (.bipush 10, 2) := by decide +kernel
theorem dX11_rocks_12 : decode cX11_rocks 12 = .ok (.invokestatic 69, 3) := by decide +kernel
theorem dX11_rocks_15 : decode cX11_rocks 15 = .ok (.ifCond .ne 5, 3) := by decide +kernel
theorem dX11_rocks_18 : decode cX11_rocks 18 = .ok (.iconst (-1), 1) := by decide +kernel
theorem dX11_rocks_19 : decode cX11_rocks 19 = .ok (.ireturn, 1) := by decide +kernel
theorem dX11_rocks_20 : decode cX11_rocks 20 = .ok (.iload_n 3, 1) := by decide +kernel
theorem dX11_rocks_21 : decode cX11_rocks 21 = .ok (.bipush 20, 2) := by decide +kernel
theorem dX11_rocks_23 : decode cX11_rocks 23 = .ok (.invokestatic 69, 3) := by decide +kernel
theorem dX11_rocks_26 : decode cX11_rocks 26 = .ok (.ifCond .eq 13, 3) := by decide +kernel
theorem dX11_rocks_29 : decode cX11_rocks 29 = .ok (.iload 4, 2) := by decide +kernel
theorem dX11_rocks_31 : decode cX11_rocks 31 = .ok (.bipush 20, 2) := by decide +kernel
theorem dX11_rocks_33 : decode cX11_rocks 33 = .ok (.invokestatic 69, 3) := by decide +kernel
theorem dX11_rocks_36 : decode cX11_rocks 36 = .ok (.ifCond .ne 5, 3) := by decide +kernel
theorem dX11_rocks_39 : decode cX11_rocks 39 = .ok (.iconst (-1), 1) := by decide +kernel
theorem dX11_rocks_40 : decode cX11_rocks 40 = .ok (.ireturn, 1) := by decide +kernel
theorem dX11_rocks_41 : decode cX11_rocks 41 = .ok (.aload_n 0, 1) := by decide +kernel
theorem dX11_rocks_42 : decode cX11_rocks 42 = .ok (.getfield 16, 3) := by decide +kernel
theorem dX11_rocks_45 : decode cX11_rocks 45 = .ok (.aload_n 0, 1) := by decide +kernel
theorem dX11_rocks_46 : decode cX11_rocks 46 = .ok (.getfield 12, 3) := by decide +kernel
theorem dX11_rocks_49 : decode cX11_rocks 49 = .ok (.invokevirtual 62, 3) := by decide +kernel
theorem dX11_rocks_52 : decode cX11_rocks 52 = .ok (.iconst 0, 1) := by decide +kernel
theorem dX11_rocks_53 : decode cX11_rocks 53 = .ok (.istore 6, 2) := by decide +kernel
theorem dX11_rocks_55 : decode cX11_rocks 55 = .ok (.iconst 0, 1) := by decide +kernel
theorem dX11_rocks_56 : decode cX11_rocks 56 = .ok (.istore 7, 2) := by decide +kernel
theorem dX11_rocks_58 : decode cX11_rocks 58 = .ok (.iload 7, 2) := by decide +kernel
theorem dX11_rocks_60 : decode cX11_rocks 60 = .ok (.bipush 8, 2) := by decide +kernel
theorem dX11_rocks_62 : decode cX11_rocks 62 = .ok (.if_icmp .ge 67, 3) := by decide +kernel
theorem dX11_rocks_65 : decode cX11_rocks 65 = .ok (.aload_n 0, 1) := by decide +kernel
theorem dX11_rocks_66 : decode cX11_rocks 66 = .ok (.getfield 16, 3) := by decide +kernel
theorem dX11_rocks_69 : decode cX11_rocks 69 = .ok (.getfield 73, 3) := by decide +kernel
theorem dX11_rocks_72 : decode cX11_rocks 72 = .ok (.iload_n 1, 1) := by decide +kernel
theorem dX11_rocks_73 : decode cX11_rocks 73 = .ok (.iload 7, 2) := by decide +kernel
theorem dX11_rocks_75 : decode cX11_rocks 75 = .ok (.iload_n 2, 1) := by decide +kernel
theorem dX11_rocks_76 : decode cX11_rocks 76 = .ok (.invokestatic 157, 3) := by decide +kernel
theorem dX11_rocks_79 : decode cX11_rocks 79 = .ok (.aastore, 1) := by decide +kernel
theorem dX11_rocks_80 : decode cX11_rocks 80 = .ok (.aload_n 0, 1) := by decide +kernel
theorem dX11_rocks_81 : decode cX11_rocks 81 = .ok (.getfield 35, 3) := by decide +kernel
theorem dX11_rocks_84 : decode cX11_rocks 84 = .ok (.aload_n 0, 1) := by decide +kernel
theorem dX11_rocks_85 : decode cX11_rocks 85 = .ok (.getfield 16, 3) := by decide +kernel
theorem dX11_rocks_88 : decode cX11_rocks 88 = .ok (.invokevirtual 139, 3) := by decide +kernel
theorem dX11_rocks_91 : decode cX11_rocks 91 = .ok (.aload_n 0, 1) := by decide +kernel
theorem dX11_rocks_92 : decode cX11_rocks 92 = .ok (.getfield 35, 3) := by decide +kernel
theorem dX11_rocks_95 : decode cX11_rocks 95 = .ok (.iload_n 3, 1) := by decide +kernel
theorem dX11_rocks_96 : decode cX11_rocks 96 = .ok (.invokevirtual 142, 3) := by decide +kernel
theorem dX11_rocks_99 : decode cX11_rocks 99 = .ok (.aload_n 0, 1) := by decide +kernel
theorem dX11_rocks_100 : decode cX11_rocks 100 = .ok (.getfield 35, 3) := by decide +kernel
theorem dX11_rocks_103 : decode cX11_rocks 103 = .ok (.getfield 118, 3) := by decide +kernel
theorem dX11_rocks_106 : decode cX11_rocks 106 = .ok (.iload 4, 2) := by decide +kernel
theorem dX11_rocks_108 : decode cX11_rocks 108 = .ok (.iaload, 1) := by decide +kernel
theorem dX11_rocks_109 : decode cX11_rocks 109 = .ok (.iload 5, 2) := by decide +kernel
theorem dX11_rocks_111 : decode cX11_rocks 111 = .ok (.if_icmp .ne 12, 3) := by decide +kernel
theorem dX11_rocks_114 : decode cX11_rocks 114 = .ok (.iload 6, 2) := by decide +kernel
theorem dX11_rocks_116 : decode cX11_rocks 116 = .ok (.iconst 1, 1) := by decide +kernel
theorem dX11_rocks_117 : decode cX11_rocks 117 = .ok (.iload 7, 2) := by decide +kernel
theorem dX11_rocks_119 : decode cX11_rocks 119 = .ok (.ishl, 1) := by decide +kernel
theorem dX11_rocks_120 : decode cX11_rocks 120 = .ok (.ior, 1) := by decide +kernel
theorem dX11_rocks_121 : decode cX11_rocks 121 = .ok (.istore 6, 2) := by decide +kernel
theorem dX11_rocks_123 : decode cX11_rocks 123 = .ok (.iinc 7 1, 3) := by decide +kernel
theorem dX11_rocks_126 : decode cX11_rocks 126 = .ok (.goto (-68), 3) := by decide +kernel
theorem dX11_rocks_129 : decode cX11_rocks 129 = .ok (.iload 6, 2) := by decide +kernel
theorem dX11_rocks_131 : decode cX11_rocks 131 = .ok (.ireturn, 1) := by decide +kernel
theorem dX11_toils_0 : decode cX11_toils 0 = .ok (.aload_n 0, 1) := by decide +kernel
theorem dX11_toils_1 : decode cX11_toils 1 = .ok (.getfield 12, 3) := by decide +kernel
theorem dX11_toils_4 : decode cX11_toils 4 = .ok (.getfield 100, 3) := by decide +kernel
theorem dX11_toils_7 : decode cX11_toils 7 = .ok (.iconst 0, 1) := by decide +kernel
theorem dX11_toils_8 : decode cX11_toils 8 = .ok (.iaload, 1) := by decide +kernel
theorem dX11_toils_9 : decode cX11_toils 9 = .ok (.istore_n 1, 1) := by decide +kernel
theorem dX11_toils_10 : decode cX11_toils 10 = .ok (.aload_n 0, 1) := by decide +kernel
theorem dX11_toils_11 : decode cX11_toils 11 = .ok (.getfield 12, 3) := by decide +kernel
theorem dX11_toils_14 : decode cX11_toils 14 = .ok (.getfield 100, 3) := by decide +kernel
theorem dX11_toils_17 : decode cX11_toils 17 = .ok (.iconst 1, 1) := by decide +kernel
theorem dX11_toils_18 : decode cX11_toils 18 = .ok (.iaload, 1) := by decide +kernel
theorem dX11_toils_19 : decode cX11_toils 19 = .ok (.istore_n 2, 1) := by decide +kernel
theorem dX11_toils_20 : decode cX11_toils 20 = .ok (.iload_n 1, 1) := by decide +kernel
theorem dX11_toils_21 : decode cX11_toils 21 = .ok (.iload_n 2, 1) := by decide +kernel
theorem dX11_toils_22 : decode cX11_toils 22 = .ok (.if_icmp .ne 5, 3) := by decide +kernel
theorem dX11_toils_25 : decode cX11_toils 25 = .ok (.iconst 0, 1) := by decide +kernel
theorem dX11_toils_26 : decode cX11_toils 26 = .ok (.ireturn, 1) := by decide +kernel
theorem dX11_toils_27 : decode cX11_toils 27 = .ok (.aload_n 0, 1) := by decide +kernel
theorem dX11_toils_28 : decode cX11_toils 28 = .ok (.getfield 35, 3) := by decide +kernel
theorem dX11_toils_31 : decode cX11_toils 31 = .ok (.aload_n 0, 1) := by decide +kernel
theorem dX11_toils_32 : decode cX11_toils 32 = .ok (.getfield 12, 3) := by decide +kernel
theorem dX11_toils_35 : decode cX11_toils 35 = .ok (.invokevirtual 161, 3) := by decide +kernel
theorem dX11_toils_38 : decode cX11_toils 38 = .ok (.aload_n 0, 1) := by decide +kernel
theorem dX11_toils_39 : decode cX11_toils 39 = .ok (.getfield 35, 3) := by decide +kernel
theorem dX11_toils_42 : decode cX11_toils 42 = .ok (.iload_n 1, 1) := by decide +kernel
theorem dX11_toils_43 : decode cX11_toils 43 = .ok (.invokevirtual 142, 3) := by decide +kernel
theorem dX11_toils_46 : decode cX11_toils 46 = .ok (.aload_n 0, 1) := by decide +kernel
theorem dX11_toils_47 : decode cX11_toils 47 = .ok (.getfield 35, 3) := by decide +kernel
theorem dX11_toils_50 : decode cX11_toils 50 = .ok (.getfield 118, 3) := by decide +kernel
theorem dX11_toils_53 : decode cX11_toils 53 = .ok (.iload_n 2, 1) := by decide +kernel
theorem dX11_toils_54 : decode cX11_toils 54 = .ok (.iaload, 1) := by decide +kernel
theorem dX11_toils_55 : decode cX11_toils 55 = .ok (.aload_n 0, 1) := by decide +kernel
theorem dX11_toils_56 : decode cX11_toils 56 = .ok (.getfield 35, 3) := by decide +kernel
theorem dX11_toils_59 : decode cX11_toils 59 = .ok (.getfield 164, 3) := by decide +kernel
theorem dX11_toils_62 : decode cX11_toils 62 = .ok (.iload_n 2, 1) := by decide +kernel
theorem dX11_toils_63 : decode cX11_toils 63 = .ok (.iaload, 1) := by decide +kernel
theorem dX11_toils_64 : decode cX11_toils 64 = .ok (.isub, 1) := by decide +kernel
theorem dX11_toils_65 : decode cX11_toils 65 = .ok (.ireturn, 1) := by decide +kernel
theorem dX11_soon_0 : decode cX11_soon 0 = .ok (.aload_n 0, 1) := by decide +kernel
theorem dX11_soon_1 : decode cX11_soon 1 = .ok (.aload_n 0, 1) := by decide +kernel
theorem dX11_soon_2 : decode cX11_soon 2 = .ok (.getfield 12, 3) := by decide +kernel
theorem dX11_soon_5 : decode cX11_soon 5 = .ok (.invokevirtual 167, 3) := by decide +kernel
theorem dX11_soon_8 : decode cX11_soon 8 = .ok (.ireturn, 1) := by decide +kernel
theorem dX11_side_0 : decode cX11_side 0 = .ok (.iload_n 1, 1) := by decide +kernel
theorem dX11_side_1 : decode cX11_side 1 = .ok (.iconst 2, 1) := by decide +kernel
theorem dX11_side_2 : decode cX11_side 2 = .ok (.invokestatic 69, 3) := by decide +kernel
theorem dX11_side_5 : decode cX11_side 5 = .ok (.ifCond .eq 11, 3) := by decide +kernel
theorem dX11_side_8 : decode cX11_side 8 = .ok (.iload_n 2, 1) := by decide +kernel
theorem dX11_side_9 : decode cX11_side 9 = .ok (.iconst 2, 1) := by decide +kernel
theorem dX11_side_10 : decode cX11_side 10 = .ok (.invokestatic 69, 3) := by decide +kernel
theorem dX11_side_13 : decode cX11_side 13 = .ok (.ifCond .ne 5, 3) := by decide +kernel
theorem dX11_side_16 : decode cX11_side 16 = .ok (.iconst (-1), 1) := by decide +kernel
theorem dX11_side_17 : decode cX11_side 17 = .ok (.ireturn, 1) := by decide +kernel
theorem dX11_side_18 : decode cX11_side 18 = .ok (.iconst 0, 1) := by decide +kernel
theorem dX11_side_19 : decode cX11_side 19 = .ok (.istore_n 3, 1) := by decide +kernel
theorem dX11_side_20 : decode cX11_side 20 = .ok (.ldc 152, 2) := by decide +kernel
theorem dX11_side_22 : decode cX11_side 22 = .ok (.istore 4, 2) := by decide +kernel
theorem dX11_side_24 : decode cX11_side 24 = .ok (.iconst 0, 1) := by decide +kernel
theorem dX11_side_25 : decode cX11_side 25 = .ok (.istore 5, 2) := by decide +kernel
theorem dX11_side_27 : decode cX11_side 27 = .ok (.iload 5, 2) := by decide +kernel
theorem dX11_side_29 : decode cX11_side 29 = .ok (.iconst 4, 1) := by decide +kernel
theorem dX11_side_30 : decode cX11_side 30 = .ok (.if_icmp .ge 58, 3) := by decide +kernel
theorem dX11_side_33 : decode cX11_side 33 = .ok (.aload_n 0, 1) := by decide +kernel
theorem dX11_side_34 : decode cX11_side 34 = .ok (.getfield 16, 3) := by decide +kernel
theorem dX11_side_37 : decode cX11_side 37 = .ok (.aload_n 0, 1) := by decide +kernel
theorem dX11_side_38 : decode cX11_side 38 = .ok (.getfield 12, 3) := by decide +kernel
theorem dX11_side_41 : decode cX11_side 41 = .ok (.invokevirtual 62, 3) := by decide +kernel
theorem dX11_side_44 : decode cX11_side 44 = .ok (.aload_n 0, 1) := by decide +kernel
theorem dX11_side_45 : decode cX11_side 45 = .ok (.getfield 16, 3) := by decide +kernel
theorem dX11_side_48 : decode cX11_side 48 = .ok (.iload_n 1, 1) := by decide +kernel
theorem dX11_side_49 : decode cX11_side 49 = .ok (.iload 5, 2) := by decide +kernel
theorem dX11_side_51 : decode cX11_side 51 = .ok (.invokevirtual 106, 3) := by decide +kernel
theorem dX11_side_54 : decode cX11_side 54 = .ok (.iconst (-1), 1) := by decide +kernel
theorem dX11_side_55 : decode cX11_side 55 = .ok (.if_icmp .eq 27, 3) := by decide +kernel
theorem dX11_side_58 : decode cX11_side 58 = .ok (.aload_n 0, 1) := by decide +kernel
theorem dX11_side_59 : decode cX11_side 59 = .ok (.aload_n 0, 1) := by decide +kernel
theorem dX11_side_60 : decode cX11_side 60 = .ok (.getfield 16, 3) := by decide +kernel
theorem dX11_side_63 : decode cX11_side 63 = .ok (.invokevirtual 167, 3) := by decide +kernel
theorem dX11_side_66 : decode cX11_side 66 = .ok (.istore 6, 2) := by decide +kernel
theorem dX11_side_68 : decode cX11_side 68 = .ok (.iload 6, 2) := by decide +kernel
theorem dX11_side_70 : decode cX11_side 70 = .ok (.iload 4, 2) := by decide +kernel
theorem dX11_side_72 : decode cX11_side 72 = .ok (.if_icmp .ge 10, 3) := by decide +kernel
theorem dX11_side_75 : decode cX11_side 75 = .ok (.iload 6, 2) := by decide +kernel
theorem dX11_side_77 : decode cX11_side 77 = .ok (.istore 4, 2) := by decide +kernel
theorem dX11_side_79 : decode cX11_side 79 = .ok (.iload 5, 2) := by decide +kernel
theorem dX11_side_81 : decode cX11_side 81 = .ok (.istore_n 3, 1) := by decide +kernel
theorem dX11_side_82 : decode cX11_side 82 = .ok (.iinc 5 1, 3) := by decide +kernel
theorem dX11_side_85 : decode cX11_side 85 = .ok (.goto (-58), 3) := by decide +kernel
theorem dX11_side_88 : decode cX11_side 88 = .ok (.iload_n 2, 1) := by decide +kernel
theorem dX11_side_89 : decode cX11_side 89 = .ok (.ifCond .ne 7, 3) := by decide +kernel
theorem dX11_side_92 : decode cX11_side 92 = .ok (.iload_n 3, 1) := by decide +kernel
theorem dX11_side_93 : decode cX11_side 93 = .ok (.goto 5, 3) := by decide +kernel
theorem dX11_side_96 : decode cX11_side 96 = .ok (.iload 4, 2) := by decide +kernel
theorem dX11_side_98 : decode cX11_side 98 = .ok (.ireturn, 1) := by decide +kernel
theorem dX11_taken_0 : decode cX11_taken 0 = .ok (.iload_n 1, 1) := by decide +kernel
theorem dX11_taken_1 : decode cX11_taken 1 = .ok (.sipush 256, 3) := by decide +kernel
theorem dX11_taken_4 : decode cX11_taken 4 = .ok (.invokestatic 69, 3) := by decide +kernel
theorem dX11_taken_7 : decode cX11_taken 7 = .ok (.ifCond .eq 13, 3) := by decide +kernel
theorem dX11_taken_10 : decode cX11_taken 10 = .ok (.iload_n 2, 1) := by decide +kernel
theorem dX11_taken_11 : decode cX11_taken 11 = .ok (.sipush 256, 3) := by decide +kernel
theorem dX11_taken_14 : decode cX11_taken 14 = .ok (.invokestatic 69, 3) := by decide +kernel
theorem dX11_taken_17 : decode cX11_taken 17 = .ok (.ifCond .ne 5, 3) := by decide +kernel
theorem dX11_taken_20 : decode cX11_taken 20 = .ok (.iconst (-1), 1) := by decide +kernel
theorem dX11_taken_21 : decode cX11_taken 21 = .ok (.ireturn, 1) := by decide +kernel
theorem dX11_taken_22 : decode cX11_taken 22 = .ok (.iload_n 3, 1) := by decide +kernel
theorem dX11_taken_23 : decode cX11_taken 23 = .ok (.bipush 9, 2) := by decide +kernel
theorem dX11_taken_25 : decode cX11_taken 25 = .ok (.invokestatic 69, 3) := by decide +kernel
theorem dX11_taken_28 : decode cX11_taken 28 = .ok (.ifCond .ne 5, 3) := by decide +kernel
theorem dX11_taken_31 : decode cX11_taken 31 = .ok (.iconst (-1), 1) := by decide +kernel
theorem dX11_taken_32 : decode cX11_taken 32 = .ok (.ireturn, 1) := by decide +kernel
theorem dX11_taken_33 : decode cX11_taken 33 = .ok (.iload_n 1, 1) := by decide +kernel
theorem dX11_taken_34 : decode cX11_taken 34 = .ok (.iload_n 2, 1) := by decide +kernel
theorem dX11_taken_35 : decode cX11_taken 35 = .ok (.iload_n 3, 1) := by decide +kernel
theorem dX11_taken_36 : decode cX11_taken 36 = .ok (.invokestatic 171, 3) := by decide +kernel
theorem dX11_taken_39 : decode cX11_taken 39 = .ok (.ifCond .eq 7, 3) := by decide +kernel
theorem dX11_taken_42 : decode cX11_taken 42 = .ok (.iconst 1, 1) := by decide +kernel
theorem dX11_taken_43 : decode cX11_taken 43 = .ok (.goto 4, 3) := by decide +kernel
theorem dX11_taken_46 : decode cX11_taken 46 = .ok (.iconst 0, 1) := by decide +kernel
theorem dX11_taken_47 : decode cX11_taken 47 = .ok (.ireturn, 1) := by decide +kernel
theorem dX11_safe_0 : decode cX11_safe 0 = .ok (.iload_n 2, 1) := by decide +kernel
theorem dX11_safe_1 : decode cX11_safe 1 = .ok (.bipush 9, 2) := by decide +kernel
theorem dX11_safe_3 : decode cX11_safe 3 = .ok (.invokestatic 69, 3) := by decide +kernel
theorem dX11_safe_6 : decode cX11_safe 6 = .ok (.ifCond .eq 11, 3) := by decide +kernel
theorem dX11_safe_9 : decode cX11_safe 9 = .ok (.iload_n 3, 1) := by decide +kernel
theorem dX11_safe_10 : decode cX11_safe 10 = .ok (.iconst 2, 1) := by decide +kernel
theorem dX11_safe_11 : decode cX11_safe 11 = .ok (.invokestatic 69, 3) := by decide +kernel
theorem dX11_safe_14 : decode cX11_safe 14 = .ok (.ifCond .ne 5, 3) := by decide +kernel
theorem dX11_safe_17 : decode cX11_safe 17 = .ok (.iconst (-1), 1) := by decide +kernel
theorem dX11_safe_18 : decode cX11_safe 18 = .ok (.ireturn, 1) := by decide +kernel
theorem dX11_safe_19 : decode cX11_safe 19 = .ok (.aload_n 0, 1) := by decide +kernel
theorem dX11_safe_20 : decode cX11_safe 20 = .ok (.iload_n 1, 1) := by decide +kernel
theorem dX11_safe_21 : decode cX11_safe 21 = .ok (.iconst 0, 1) := by decide +kernel
theorem dX11_safe_22 : decode cX11_safe 22 = .ok (.invokevirtual 50, 3) := by decide +kernel
theorem dX11_safe_25 : decode cX11_safe 25 = .ok (.astore 4, 2) := by decide +kernel
theorem dX11_safe_27 : decode cX11_safe 27 = .ok (.aload 4, 2) := by decide +kernel
theorem dX11_safe_29 : decode cX11_safe 29 = .ok (.ifnonnull 9, 3) := by decide +kernel
theorem dX11_safe_32 : decode cX11_safe 32 = .ok (.aload_n 0, 1) := by decide +kernel
theorem dX11_safe_33 : decode cX11_safe 33 = .ok (.iload_n 1, 1) := by decide +kernel
theorem dX11_safe_34 : decode cX11_safe 34 = .ok (.invokevirtual 54, 3) := by decide +kernel
theorem dX11_safe_37 : decode cX11_safe 37 = .ok (.ireturn, 1) := by decide +kernel
theorem dX11_safe_38 : decode cX11_safe 38 = .ok (.aload 4, 2) := by decide +kernel
theorem dX11_safe_40 : decode cX11_safe 40 = .ok (.getfield 132, 3) := by decide +kernel
theorem dX11_safe_43 : decode cX11_safe 43 = .ok (.bipush 8, 2) := by decide +kernel
theorem dX11_safe_45 : decode cX11_safe 45 = .ok (.if_icmp .le 6, 3) := by decide +kernel
theorem dX11_safe_48 : decode cX11_safe 48 = .ok (.bipush (-13), 2) := by decide +kernel
theorem dX11_safe_50 : decode cX11_safe 50 = .ok (.ireturn, 1) := by decide +kernel
theorem dX11_safe_51 : decode cX11_safe 51 = .ok (.aload_n 0, 1) := by decide +kernel
theorem dX11_safe_52 : decode cX11_safe 52 = .ok (.aload 4, 2) := by decide +kernel
theorem dX11_safe_54 : decode cX11_safe 54 = .ok (.iload_n 2, 1) := by decide +kernel
theorem dX11_safe_55 : decode cX11_safe 55 = .ok (.invokevirtual 175, 3) := by decide +kernel
theorem dX11_safe_58 : decode cX11_safe 58 = .ok (.iconst 0, 1) := by decide +kernel
theorem dX11_safe_59 : decode cX11_safe 59 = .ok (.istore 5, 2) := by decide +kernel
theorem dX11_safe_61 : decode cX11_safe 61 = .ok (.iconst 0, 1) := by decide +kernel
theorem dX11_safe_62 : decode cX11_safe 62 = .ok (.istore 6, 2) := by decide +kernel
theorem dX11_safe_64 : decode cX11_safe 64 = .ok (.iconst 1, 1) := by decide +kernel
theorem dX11_safe_65 : decode cX11_safe 65 = .ok (.istore 7, 2) := by decide +kernel
theorem dX11_safe_67 : decode cX11_safe 67 = .ok (.iload 7, 2) := by decide +kernel
theorem dX11_safe_69 : decode cX11_safe 69 = .ok (.iconst 1, 1) := by decide +kernel
theorem dX11_safe_70 : decode cX11_safe 70 = .ok (.aload 4, 2) := by decide +kernel
theorem dX11_safe_72 : decode cX11_safe 72 = .ok (.getfield 132, 3) := by decide +kernel
theorem dX11_safe_75 : decode cX11_safe 75 = .ok (.ishl, 1) := by decide +kernel
theorem dX11_safe_76 : decode cX11_safe 76 = .ok (.if_icmp .ge 40, 3) := by decide +kernel
theorem dX11_safe_79 : decode cX11_safe 79 = .ok (.iload 7, 2) := by decide +kernel
theorem dX11_safe_81 : decode cX11_safe 81 = .ok (.invokestatic 179, 3) := by decide +kernel
theorem dX11_safe_84 : decode cX11_safe 84 = .ok (.istore 8, 2) := by decide +kernel
theorem dX11_safe_86 : decode cX11_safe 86 = .ok (.iload 8, 2) := by decide +kernel
theorem dX11_safe_88 : decode cX11_safe 88 = .ok (.iload 6, 2) := by decide +kernel
theorem dX11_safe_90 : decode cX11_safe 90 = .ok (.if_icmp .le 20, 3) := by decide +kernel
theorem dX11_safe_93 : decode cX11_safe 93 = .ok (.aload_n 0, 1) := by decide +kernel
theorem dX11_safe_94 : decode cX11_safe 94 = .ok (.iload 7, 2) := by decide +kernel
theorem dX11_safe_96 : decode cX11_safe 96 = .ok (.invokevirtual 184, 3) := by decide +kernel
theorem dX11_safe_99 : decode cX11_safe 99 = .ok (.ifCond .eq 11, 3) := by decide +kernel
theorem dX11_safe_102 : decode cX11_safe 102 = .ok (.iload 8, 2) := by decide +kernel
theorem dX11_safe_104 : decode cX11_safe 104 = .ok (.istore 6, 2) := by decide +kernel
theorem dX11_safe_106 : decode cX11_safe 106 = .ok (.iload 7, 2) := by decide +kernel
theorem dX11_safe_108 : decode cX11_safe 108 = .ok (.istore 5, 2) := by decide +kernel
theorem dX11_safe_110 : decode cX11_safe 110 = .ok (.iinc 7 1, 3) := by decide +kernel
theorem dX11_safe_113 : decode cX11_safe 113 = .ok (.goto (-46), 3) := by decide +kernel
theorem dX11_safe_116 : decode cX11_safe 116 = .ok (.iload_n 3, 1) := by decide +kernel
theorem dX11_safe_117 : decode cX11_safe 117 = .ok (.ifCond .ne 8, 3) := by decide +kernel
theorem dX11_safe_120 : decode cX11_safe 120 = .ok (.iload 5, 2) := by decide +kernel
theorem dX11_safe_122 : decode cX11_safe 122 = .ok (.goto 5, 3) := by decide +kernel
theorem dX11_safe_125 : decode cX11_safe 125 = .ok (.iload 6, 2) := by decide +kernel
theorem dX11_safe_127 : decode cX11_safe 127 = .ok (.ireturn, 1) := by decide +kernel
theorem dX11_seeded_0 : decode cX11_seeded 0 = .ok (.iload_n 1, 1) := by decide +kernel
theorem dX11_seeded_1 : decode cX11_seeded 1 = .ok (.iconst 1, 1) := by decide +kernel
theorem dX11_seeded_2 : decode cX11_seeded 2 = .ok (.if_icmp .lt 17, 3) := by decide +kernel
theorem dX11_seeded_5 : decode cX11_seeded 5 = .ok (.iload_n 1, 1) := by decide +kernel
theorem dX11_seeded_6 : decode cX11_seeded 6 = .ok (.bipush 40, 2) := by decide +kernel
theorem dX11_seeded_8 : decode cX11_seeded 8 = .ok (.if_icmp .gt 11, 3) := by decide +kernel
theorem dX11_seeded_11 : decode cX11_seeded 11 = .ok (.iload_n 3, 1) := by decide +kernel
theorem dX11_seeded_12 : decode cX11_seeded 12 = .ok (.iconst 2, 1) := by decide +kernel
theorem dX11_seeded_13 : decode cX11_seeded 13 = .ok (.invokestatic 69, 3) := by decide +kernel
theorem dX11_seeded_16 : decode cX11_seeded 16 = .ok (.ifCond .ne 5, 3) := by decide +kernel
theorem dX11_seeded_19 : decode cX11_seeded 19 = .ok (.iconst (-1), 1) := by decide +kernel
theorem dX11_seeded_20 : decode cX11_seeded 20 = .ok (.ireturn, 1) := by decide +kernel
theorem dX11_seeded_21 : decode cX11_seeded 21 = .ok (.aload_n 0, 1) := by decide +kernel
theorem dX11_seeded_22 : decode cX11_seeded 22 = .ok (.getfield 16, 3) := by decide +kernel
theorem dX11_seeded_25 : decode cX11_seeded 25 = .ok (.aload_n 0, 1) := by decide +kernel
theorem dX11_seeded_26 : decode cX11_seeded 26 = .ok (.getfield 12, 3) := by decide +kernel
theorem dX11_seeded_29 : decode cX11_seeded 29 = .ok (.invokevirtual 62, 3) := by decide +kernel
theorem dX11_seeded_32 : decode cX11_seeded 32 = .ok (.aload_n 0, 1) := by decide +kernel
theorem dX11_seeded_33 : decode cX11_seeded 33 = .ok (.getfield 16, 3) := by decide +kernel
theorem dX11_seeded_36 : decode cX11_seeded 36 = .ok (.invokevirtual 110, 3) := by decide +kernel
theorem dX11_seeded_39 : decode cX11_seeded 39 = .ok (.ifCond .eq 7, 3) := by decide +kernel
theorem dX11_seeded_42 : decode cX11_seeded 42 = .ok (.iconst 0, 1) := by decide +kernel
theorem dX11_seeded_43 : decode cX11_seeded 43 = .ok (.goto 5, 3) := by decide +kernel
theorem dX11_seeded_46 : decode cX11_seeded 46 = .ok (.bipush (-4), 2) := by decide +kernel
theorem dX11_seeded_48 : decode cX11_seeded 48 = .ok (.istore 4, 2) := by decide +kernel
theorem dX11_seeded_50 : decode cX11_seeded 50 = .ok (.iload_n 2, 1) := by decide +kernel
theorem dX11_seeded_51 : decode cX11_seeded 51 = .ok (.istore 5, 2) := by decide +kernel
theorem dX11_seeded_53 : decode cX11_seeded 53 = .ok (.iconst 1, 1) := by decide +kernel
theorem dX11_seeded_54 : decode cX11_seeded 54 = .ok (.istore 6, 2) := by decide +kernel
theorem dX11_seeded_56 : decode cX11_seeded 56 = .ok (.iload 6, 2) := by decide +kernel
theorem dX11_seeded_58 : decode cX11_seeded 58 = .ok (.iload_n 1, 1) := by decide +kernel
theorem dX11_seeded_59 : decode cX11_seeded 59 = .ok (.if_icmp .gt 68, 3) := by decide +kernel
theorem dX11_seeded_62 : decode cX11_seeded 62 = .ok (.iload 5, 2) := by decide +kernel
theorem dX11_seeded_64 : decode cX11_seeded 64 = .ok (.invokestatic 188, 3) := by decide +kernel
theorem dX11_seeded_67 : decode cX11_seeded 67 = .ok (.istore 5, 2) := by decide +kernel
theorem dX11_seeded_69 : decode cX11_seeded 69 = .ok (.iload 5, 2) := by decide +kernel
theorem dX11_seeded_71 : decode cX11_seeded 71 = .ok (.iconst 2, 1) := by decide +kernel
theorem dX11_seeded_72 : decode cX11_seeded 72 = .ok (.invokestatic 191, 3) := by decide +kernel
theorem dX11_seeded_75 : decode cX11_seeded 75 = .ok (.istore 7, 2) := by decide +kernel
theorem dX11_seeded_77 : decode cX11_seeded 77 = .ok (.iload 5, 2) := by decide +kernel
theorem dX11_seeded_79 : decode cX11_seeded 79 = .ok (.invokestatic 188, 3) := by decide +kernel
theorem dX11_seeded_82 : decode cX11_seeded 82 = .ok (.istore 5, 2) := by decide +kernel
theorem dX11_seeded_84 : decode cX11_seeded 84 = .ok (.aload_n 0, 1) := by decide +kernel
theorem dX11_seeded_85 : decode cX11_seeded 85 = .ok (.getfield 16, 3) := by decide +kernel
theorem dX11_seeded_88 : decode cX11_seeded 88 = .ok (.iload 7, 2) := by decide +kernel
theorem dX11_seeded_90 : decode cX11_seeded 90 = .ok (.iload 5, 2) := by decide +kernel
theorem dX11_seeded_92 : decode cX11_seeded 92 = .ok (.iconst 4, 1) := by decide +kernel
theorem dX11_seeded_93 : decode cX11_seeded 93 = .ok (.invokestatic 191, 3) := by decide +kernel
theorem dX11_seeded_96 : decode cX11_seeded 96 = .ok (.invokevirtual 106, 3) := by decide +kernel
theorem dX11_seeded_99 : decode cX11_seeded 99 = .ok (.pop, 1) := by decide +kernel
theorem dX11_seeded_100 : decode cX11_seeded 100 = .ok (.iload 4, 2) := by decide +kernel
theorem dX11_seeded_102 : decode cX11_seeded 102 = .ok (.bipush (-4), 2) := by decide +kernel
theorem dX11_seeded_104 : decode cX11_seeded 104 = .ok (.if_icmp .ne 17, 3) := by decide +kernel
theorem dX11_seeded_107 : decode cX11_seeded 107 = .ok (.aload_n 0, 1) := by decide +kernel
theorem dX11_seeded_108 : decode cX11_seeded 108 = .ok (.getfield 16, 3) := by decide +kernel
theorem dX11_seeded_111 : decode cX11_seeded 111 = .ok (.invokevirtual 110, 3) := by decide +kernel
theorem dX11_seeded_114 : decode cX11_seeded 114 = .ok (.ifCond .eq 7, 3) := by decide +kernel
theorem dX11_seeded_117 : decode cX11_seeded 117 = .ok (.iload 6, 2) := by decide +kernel
theorem dX11_seeded_119 : decode cX11_seeded 119 = .ok (.istore 4, 2) := by decide +kernel
theorem dX11_seeded_121 : decode cX11_seeded 121 = .ok (.iinc 6 1, 3) := by decide +kernel
theorem dX11_seeded_124 : decode cX11_seeded 124 = .ok (.goto (-68), 3) := by decide +kernel
theorem dX11_seeded_127 : decode cX11_seeded 127 = .ok (.iload_n 3, 1) := by decide +kernel
theorem dX11_seeded_128 : decode cX11_seeded 128 = .ok (.ifCond .ne 13, 3) := by decide +kernel
theorem dX11_seeded_131 : decode cX11_seeded 131 = .ok (.aload_n 0, 1) := by decide +kernel
theorem dX11_seeded_132 : decode cX11_seeded 132 = .ok (.getfield 16, 3) := by decide +kernel
theorem dX11_seeded_135 : decode cX11_seeded 135 = .ok (.invokevirtual 194, 3) := by decide +kernel
theorem dX11_seeded_138 : decode cX11_seeded 138 = .ok (.goto 5, 3) := by decide +kernel
theorem dX11_seeded_141 : decode cX11_seeded 141 = .ok (.iload 4, 2) := by decide +kernel
theorem dX11_seeded_143 : decode cX11_seeded 143 = .ok (.ireturn, 1) := by decide +kernel
theorem dX11_judge_0 : decode cX11_judge 0 = .ok (.aload_n 0, 1) := by decide +kernel
theorem dX11_judge_1 : decode cX11_judge 1 = .ok (.iload_n 1, 1) := by decide +kernel
theorem dX11_judge_2 : decode cX11_judge 2 = .ok (.invokevirtual 197, 3) := by decide +kernel
theorem dX11_judge_5 : decode cX11_judge 5 = .ok (.astore_n 2, 1) := by decide +kernel
theorem dX11_judge_6 : decode cX11_judge 6 = .ok (.aload_n 2, 1) := by decide +kernel
theorem dX11_judge_7 : decode cX11_judge 7 = .ok (.ifnonnull 9, 3) := by decide +kernel
theorem dX11_judge_10 : decode cX11_judge 10 = .ok (.aload_n 0, 1) := by decide +kernel
theorem dX11_judge_11 : decode cX11_judge 11 = .ok (.iload_n 1, 1) := by decide +kernel
theorem dX11_judge_12 : decode cX11_judge 12 = .ok (.invokevirtual 54, 3) := by decide +kernel
theorem dX11_judge_15 : decode cX11_judge 15 = .ok (.ireturn, 1) := by decide +kernel
theorem dX11_judge_16 : decode cX11_judge 16 = .ok (.aload_n 0, 1) := by decide +kernel
theorem dX11_judge_17 : decode cX11_judge 17 = .ok (.getfield 16, 3) := by decide +kernel
theorem dX11_judge_20 : decode cX11_judge 20 = .ok (.aload_n 0, 1) := by decide +kernel
theorem dX11_judge_21 : decode cX11_judge 21 = .ok (.getfield 12, 3) := by decide +kernel
theorem dX11_judge_24 : decode cX11_judge 24 = .ok (.invokevirtual 62, 3) := by decide +kernel
theorem dX11_judge_27 : decode cX11_judge 27 = .ok (.iconst 0, 1) := by decide +kernel
theorem dX11_judge_28 : decode cX11_judge 28 = .ok (.istore_n 3, 1) := by decide +kernel
theorem dX11_judge_29 : decode cX11_judge 29 = .ok (.iload_n 3, 1) := by decide +kernel
theorem dX11_judge_30 : decode cX11_judge 30 = .ok (.iconst 2, 1) := by decide +kernel
theorem dX11_judge_31 : decode cX11_judge 31 = .ok (.iadd, 1) := by decide +kernel
theorem dX11_judge_32 : decode cX11_judge 32 = .ok (.aload_n 2, 1) := by decide +kernel
theorem dX11_judge_33 : decode cX11_judge 33 = .ok (.getfield 132, 3) := by decide +kernel
theorem dX11_judge_36 : decode cX11_judge 36 = .ok (.if_icmp .ge 75, 3) := by decide +kernel
theorem dX11_judge_39 : decode cX11_judge 39 = .ok (.aload_n 2, 1) := by decide +kernel
theorem dX11_judge_40 : decode cX11_judge 40 = .ok (.iload_n 3, 1) := by decide +kernel
theorem dX11_judge_41 : decode cX11_judge 41 = .ok (.invokevirtual 200, 3) := by decide +kernel
theorem dX11_judge_44 : decode cX11_judge 44 = .ok (.istore 4, 2) := by decide +kernel
theorem dX11_judge_46 : decode cX11_judge 46 = .ok (.iload 4, 2) := by decide +kernel
theorem dX11_judge_48 : decode cX11_judge 48 = .ok (.iconst 2, 1) := by decide +kernel
theorem dX11_judge_49 : decode cX11_judge 49 = .ok (.invokestatic 69, 3) := by decide +kernel
theorem dX11_judge_52 : decode cX11_judge 52 = .ok (.ifCond .ne 5, 3) := by decide +kernel
theorem dX11_judge_55 : decode cX11_judge 55 = .ok (.iload_n 3, 1) := by decide +kernel
theorem dX11_judge_56 : decode cX11_judge 56 = .ok (.ireturn, 1) := by decide +kernel
theorem dX11_judge_57 : decode cX11_judge 57 = .ok (.aload_n 0, 1) := by decide +kernel
theorem dX11_judge_58 : decode cX11_judge 58 = .ok (.getfield 16, 3) := by decide +kernel
theorem dX11_judge_61 : decode cX11_judge 61 = .ok (.iload 4, 2) := by decide +kernel
theorem dX11_judge_63 : decode cX11_judge 63 = .ok (.aload_n 2, 1) := by decide +kernel
theorem dX11_judge_64 : decode cX11_judge 64 = .ok (.iload_n 3, 1) := by decide +kernel
theorem dX11_judge_65 : decode cX11_judge 65 = .ok (.iconst 1, 1) := by decide +kernel
theorem dX11_judge_66 : decode cX11_judge 66 = .ok (.iadd, 1) := by decide +kernel
theorem dX11_judge_67 : decode cX11_judge 67 = .ok (.invokevirtual 200, 3) := by decide +kernel
theorem dX11_judge_70 : decode cX11_judge 70 = .ok (.invokevirtual 106, 3) := by decide +kernel
theorem dX11_judge_73 : decode cX11_judge 73 = .ok (.iconst (-1), 1) := by decide +kernel
theorem dX11_judge_74 : decode cX11_judge 74 = .ok (.if_icmp .ne 7, 3) := by decide +kernel
theorem dX11_judge_77 : decode cX11_judge 77 = .ok (.iload_n 3, 1) := by decide +kernel
theorem dX11_judge_78 : decode cX11_judge 78 = .ok (.iconst 1, 1) := by decide +kernel
theorem dX11_judge_79 : decode cX11_judge 79 = .ok (.iadd, 1) := by decide +kernel
theorem dX11_judge_80 : decode cX11_judge 80 = .ok (.ireturn, 1) := by decide +kernel
theorem dX11_judge_81 : decode cX11_judge 81 = .ok (.aload_n 0, 1) := by decide +kernel
theorem dX11_judge_82 : decode cX11_judge 82 = .ok (.getfield 16, 3) := by decide +kernel
theorem dX11_judge_85 : decode cX11_judge 85 = .ok (.getfield 103, 3) := by decide +kernel
theorem dX11_judge_88 : decode cX11_judge 88 = .ok (.iload 4, 2) := by decide +kernel
theorem dX11_judge_90 : decode cX11_judge 90 = .ok (.iaload, 1) := by decide +kernel
theorem dX11_judge_91 : decode cX11_judge 91 = .ok (.aload_n 2, 1) := by decide +kernel
theorem dX11_judge_92 : decode cX11_judge 92 = .ok (.iload_n 3, 1) := by decide +kernel
theorem dX11_judge_93 : decode cX11_judge 93 = .ok (.iconst 2, 1) := by decide +kernel
theorem dX11_judge_94 : decode cX11_judge 94 = .ok (.iadd, 1) := by decide +kernel
theorem dX11_judge_95 : decode cX11_judge 95 = .ok (.invokevirtual 200, 3) := by decide +kernel
theorem dX11_judge_98 : decode cX11_judge 98 = .ok (.if_icmp .eq 7, 3) := by decide +kernel
theorem dX11_judge_101 : decode cX11_judge 101 = .ok (.iload_n 3, 1) := by decide +kernel
theorem dX11_judge_102 : decode cX11_judge 102 = .ok (.iconst 2, 1) := by decide +kernel
theorem dX11_judge_103 : decode cX11_judge 103 = .ok (.iadd, 1) := by decide +kernel
theorem dX11_judge_104 : decode cX11_judge 104 = .ok (.ireturn, 1) := by decide +kernel
theorem dX11_judge_105 : decode cX11_judge 105 = .ok (.iinc 3 3, 3) := by decide +kernel
theorem dX11_judge_108 : decode cX11_judge 108 = .ok (.goto (-79), 3) := by decide +kernel
theorem dX11_judge_111 : decode cX11_judge 111 = .ok (.iload_n 3, 1) := by decide +kernel
theorem dX11_judge_112 : decode cX11_judge 112 = .ok (.aload_n 2, 1) := by decide +kernel
theorem dX11_judge_113 : decode cX11_judge 113 = .ok (.getfield 132, 3) := by decide +kernel
theorem dX11_judge_116 : decode cX11_judge 116 = .ok (.if_icmp .ge 7, 3) := by decide +kernel
theorem dX11_judge_119 : decode cX11_judge 119 = .ok (.iload_n 3, 1) := by decide +kernel
theorem dX11_judge_120 : decode cX11_judge 120 = .ok (.goto 5, 3) := by decide +kernel
theorem dX11_judge_123 : decode cX11_judge 123 = .ok (.bipush (-4), 2) := by decide +kernel
theorem dX11_judge_125 : decode cX11_judge 125 = .ok (.ireturn, 1) := by decide +kernel
theorem dX11_image_0 : decode cX11_image 0 = .ok (.aload_n 0, 1) := by decide +kernel
theorem dX11_image_1 : decode cX11_image 1 = .ok (.getfield 19, 3) := by decide +kernel
theorem dX11_image_4 : decode cX11_image 4 = .ok (.aload_n 0, 1) := by decide +kernel
theorem dX11_image_5 : decode cX11_image 5 = .ok (.getfield 12, 3) := by decide +kernel
theorem dX11_image_8 : decode cX11_image 8 = .ok (.invokevirtual 62, 3) := by decide +kernel
theorem dX11_image_11 : decode cX11_image 11 = .ok (.aload_n 0, 1) := by decide +kernel
theorem dX11_image_12 : decode cX11_image 12 = .ok (.iconst 1, 1) := by decide +kernel
theorem dX11_image_13 : decode cX11_image 13 = .ok (.putfield 22, 3) := by decide +kernel
theorem dX11_image_16 : decode cX11_image 16 = .ok (.aload_n 0, 1) := by decide +kernel
theorem dX11_image_17 : decode cX11_image 17 = .ok (.getfield 19, 3) := by decide +kernel
