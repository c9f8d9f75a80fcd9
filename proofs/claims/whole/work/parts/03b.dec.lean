theorem dX11_image_20 : decode cX11_image 20 = .ok (.invokevirtual 194, 3) := by decide +kernel
theorem dX11_image_23 : decode cX11_image 23 = .ok (.ireturn, 1) := by decide +kernel
theorem dX11_restore_0 : decode cX11_restore 0 = .ok (.aload_n 0, 1) := by decide +kernel
theorem dX11_restore_1 : decode cX11_restore 1 = .ok (.getfield 22, 3) := by decide +kernel
theorem dX11_restore_4 : decode cX11_restore 4 = .ok (.ifCond .ne 6, 3) := by decide +kernel
theorem dX11_restore_7 : decode cX11_restore 7 = .ok (.bipush (-3), 2) := by decide +kernel
theorem dX11_restore_9 : decode cX11_restore 9 = .ok (.ireturn, 1) := by decide +kernel
theorem dX11_restore_10 : decode cX11_restore 10 = .ok (.aload_n 0, 1) := by decide +kernel
theorem dX11_restore_11 : decode cX11_restore 11 = .ok (.getfield 12, 3) := by decide +kernel
theorem dX11_restore_14 : decode cX11_restore 14 = .ok (.aload_n 0, 1) := by decide +kernel
theorem dX11_restore_15 : decode cX11_restore 15 = .ok (.getfield 19, 3) := by decide +kernel
theorem dX11_restore_18 : decode cX11_restore 18 = .ok (.invokevirtual 62, 3) := by decide +kernel
theorem dX11_restore_21 : decode cX11_restore 21 = .ok (.aload_n 0, 1) := by decide +kernel
theorem dX11_restore_22 : decode cX11_restore 22 = .ok (.getfield 12, 3) := by decide +kernel
theorem dX11_restore_25 : decode cX11_restore 25 = .ok (.invokevirtual 194, 3) := by decide +kernel
theorem dX11_restore_28 : decode cX11_restore 28 = .ok (.ireturn, 1) := by decide +kernel
theorem dX11_count_0 : decode cX11_count 0 = .ok (.iload_n 1, 1) := by decide +kernel
theorem dX11_count_1 : decode cX11_count 1 = .ok (.bipush 10, 2) := by decide +kernel
theorem dX11_count_3 : decode cX11_count 3 = .ok (.invokestatic 69, 3) := by decide +kernel
theorem dX11_count_6 : decode cX11_count 6 = .ok (.ifCond .ne 5, 3) := by decide +kernel
theorem dX11_count_9 : decode cX11_count 9 = .ok (.iconst (-1), 1) := by decide +kernel
theorem dX11_count_10 : decode cX11_count 10 = .ok (.ireturn, 1) := by decide +kernel
theorem dX11_count_11 : decode cX11_count 11 = .ok (.iconst 0, 1) := by decide +kernel
theorem dX11_count_12 : decode cX11_count 12 = .ok (.istore_n 2, 1) := by decide +kernel
theorem dX11_count_13 : decode cX11_count 13 = .ok (.iconst 0, 1) := by decide +kernel
theorem dX11_count_14 : decode cX11_count 14 = .ok (.istore_n 3, 1) := by decide +kernel
theorem dX11_count_15 : decode cX11_count 15 = .ok (.iload_n 3, 1) := by decide +kernel
theorem dX11_count_16 : decode cX11_count 16 = .ok (.bipush 20, 2) := by decide +kernel
theorem dX11_count_18 : decode cX11_count 18 = .ok (.if_icmp .ge 66, 3) := by decide +kernel
theorem dX11_count_21 : decode cX11_count 21 = .ok (.aload_n 0, 1) := by decide +kernel
theorem dX11_count_22 : decode cX11_count 22 = .ok (.getfield 12, 3) := by decide +kernel
theorem dX11_count_25 : decode cX11_count 25 = .ok (.getfield 73, 3) := by decide +kernel
theorem dX11_count_28 : decode cX11_count 28 = .ok (.iload_n 3, 1) := by decide +kernel
theorem dX11_count_29 : decode cX11_count 29 = .ok (.aaload, 1) := by decide +kernel
theorem dX11_count_30 : decode cX11_count 30 = .ok (.astore 4, 2) := by decide +kernel
theorem dX11_count_32 : decode cX11_count 32 = .ok (.iload_n 1, 1) := by decide +kernel
theorem dX11_count_33 : decode cX11_count 33 = .ok (.bipush 8, 2) := by decide +kernel
theorem dX11_count_35 : decode cX11_count 35 = .ok (.if_icmp .ne 14, 3) := by decide +kernel
theorem dX11_count_38 : decode cX11_count 38 = .ok (.iload_n 2, 1) := by decide +kernel
theorem dX11_count_39 : decode cX11_count 39 = .ok (.aload 4, 2) := by decide +kernel
theorem dX11_count_41 : decode cX11_count 41 = .ok (.invokevirtual 87, 3) := by decide +kernel
theorem dX11_count_44 : decode cX11_count 44 = .ok (.iadd, 1) := by decide +kernel
theorem dX11_count_45 : decode cX11_count 45 = .ok (.istore_n 2, 1) := by decide +kernel
theorem dX11_count_46 : decode cX11_count 46 = .ok (.goto 32, 3) := by decide +kernel
theorem dX11_count_49 : decode cX11_count 49 = .ok (.iload_n 1, 1) := by decide +kernel
theorem dX11_count_50 : decode cX11_count 50 = .ok (.bipush 9, 2) := by decide +kernel
theorem dX11_count_52 : decode cX11_count 52 = .ok (.if_icmp .ne 14, 3) := by decide +kernel
theorem dX11_count_55 : decode cX11_count 55 = .ok (.iload_n 2, 1) := by decide +kernel
theorem dX11_count_56 : decode cX11_count 56 = .ok (.aload 4, 2) := by decide +kernel
theorem dX11_count_58 : decode cX11_count 58 = .ok (.invokevirtual 93, 3) := by decide +kernel
theorem dX11_count_61 : decode cX11_count 61 = .ok (.iadd, 1) := by decide +kernel
theorem dX11_count_62 : decode cX11_count 62 = .ok (.istore_n 2, 1) := by decide +kernel
theorem dX11_count_63 : decode cX11_count 63 = .ok (.goto 15, 3) := by decide +kernel
theorem dX11_count_66 : decode cX11_count 66 = .ok (.iload_n 1, 1) := by decide +kernel
theorem dX11_count_67 : decode cX11_count 67 = .ok (.aload 4, 2) := by decide +kernel
theorem dX11_count_69 : decode cX11_count 69 = .ok (.invokevirtual 77, 3) := by decide +kernel
theorem dX11_count_72 : decode cX11_count 72 = .ok (.if_icmp .ne 6, 3) := by decide +kernel
theorem dX11_count_75 : decode cX11_count 75 = .ok (.iinc 2 1, 3) := by decide +kernel
theorem dX11_count_78 : decode cX11_count 78 = .ok (.iinc 3 1, 3) := by decide +kernel
theorem dX11_count_81 : decode cX11_count 81 = .ok (.goto (-66), 3) := by decide +kernel
theorem dX11_count_84 : decode cX11_count 84 = .ok (.iload_n 2, 1) := by decide +kernel
theorem dX11_count_85 : decode cX11_count 85 = .ok (.ireturn, 1) := by decide +kernel
theorem dX11_keep_0 : decode cX11_keep 0 = .ok (.iload_n 1, 1) := by decide +kernel
theorem dX11_keep_1 : decode cX11_keep 1 = .ok (.bipush 8, 2) := by decide +kernel
theorem dX11_keep_3 : decode cX11_keep 3 = .ok (.invokestatic 69, 3) := by decide +kernel
theorem dX11_keep_6 : decode cX11_keep 6 = .ok (.ifCond .eq 11, 3) := by decide +kernel
theorem dX11_keep_9 : decode cX11_keep 9 = .ok (.iload_n 2, 1) := by decide +kernel
theorem dX11_keep_10 : decode cX11_keep 10 = .ok (.iconst 2, 1) := by decide +kernel
theorem dX11_keep_11 : decode cX11_keep 11 = .ok (.invokestatic 69, 3) := by decide +kernel
theorem dX11_keep_14 : decode cX11_keep 14 = .ok (.ifCond .ne 5, 3) := by decide +kernel
theorem dX11_keep_17 : decode cX11_keep 17 = .ok (.iconst (-1), 1) := by decide +kernel
theorem dX11_keep_18 : decode cX11_keep 18 = .ok (.ireturn, 1) := by decide +kernel
theorem dX11_keep_19 : decode cX11_keep 19 = .ok (.iload_n 2, 1) := by decide +kernel
theorem dX11_keep_20 : decode cX11_keep 20 = .ok (.ifCond .ne 14, 3) := by decide +kernel
theorem dX11_keep_23 : decode cX11_keep 23 = .ok (.aload_n 0, 1) := by decide +kernel
theorem dX11_keep_24 : decode cX11_keep 24 = .ok (.getfield 28, 3) := by decide +kernel
theorem dX11_keep_27 : decode cX11_keep 27 = .ok (.iload_n 1, 1) := by decide +kernel
theorem dX11_keep_28 : decode cX11_keep 28 = .ok (.aaload, 1) := by decide +kernel
theorem dX11_keep_29 : decode cX11_keep 29 = .ok (.invokevirtual 203, 3) := by decide +kernel
theorem dX11_keep_32 : decode cX11_keep 32 = .ok (.iconst 0, 1) := by decide +kernel
theorem dX11_keep_33 : decode cX11_keep 33 = .ok (.ireturn, 1) := by decide +kernel
theorem dX11_keep_34 : decode cX11_keep 34 = .ok (.iload_n 3, 1) := by decide +kernel
theorem dX11_keep_35 : decode cX11_keep 35 = .ok (.bipush 8, 2) := by decide +kernel
theorem dX11_keep_37 : decode cX11_keep 37 = .ok (.invokestatic 69, 3) := by decide +kernel
theorem dX11_keep_40 : decode cX11_keep 40 = .ok (.ifCond .eq 13, 3) := by decide +kernel
theorem dX11_keep_43 : decode cX11_keep 43 = .ok (.iload 4, 2) := by decide +kernel
theorem dX11_keep_45 : decode cX11_keep 45 = .ok (.bipush 10, 2) := by decide +kernel
theorem dX11_keep_47 : decode cX11_keep 47 = .ok (.invokestatic 69, 3) := by decide +kernel
theorem dX11_keep_50 : decode cX11_keep 50 = .ok (.ifCond .ne 5, 3) := by decide +kernel
theorem dX11_keep_53 : decode cX11_keep 53 = .ok (.iconst (-1), 1) := by decide +kernel
theorem dX11_keep_54 : decode cX11_keep 54 = .ok (.ireturn, 1) := by decide +kernel
theorem dX11_keep_55 : decode cX11_keep 55 = .ok (.aload_n 0, 1) := by decide +kernel
theorem dX11_keep_56 : decode cX11_keep 56 = .ok (.getfield 28, 3) := by decide +kernel
theorem dX11_keep_59 : decode cX11_keep 59 = .ok (.iload_n 1, 1) := by decide +kernel
theorem dX11_keep_60 : decode cX11_keep 60 = .ok (.aaload, 1) := by decide +kernel
theorem dX11_keep_61 : decode cX11_keep 61 = .ok (.iload_n 3, 1) := by decide +kernel
theorem dX11_keep_62 : decode cX11_keep 62 = .ok (.iload 4, 2) := by decide +kernel
theorem dX11_keep_64 : decode cX11_keep 64 = .ok (.invokestatic 157, 3) := by decide +kernel
theorem dX11_keep_67 : decode cX11_keep 67 = .ok (.invokevirtual 206, 3) := by decide +kernel
theorem dX11_keep_70 : decode cX11_keep 70 = .ok (.iconst 0, 1) := by decide +kernel
theorem dX11_keep_71 : decode cX11_keep 71 = .ok (.ireturn, 1) := by decide +kernel
theorem dX11_row_0 : decode cX11_row 0 = .ok (.iload_n 1, 1) := by decide +kernel
theorem dX11_row_1 : decode cX11_row 1 = .ok (.bipush 8, 2) := by decide +kernel
theorem dX11_row_3 : decode cX11_row 3 = .ok (.invokestatic 69, 3) := by decide +kernel
theorem dX11_row_6 : decode cX11_row 6 = .ok (.ifCond .eq 17, 3) := by decide +kernel
theorem dX11_row_9 : decode cX11_row 9 = .ok (.iload_n 2, 1) := by decide +kernel
theorem dX11_row_10 : decode cX11_row 10 = .ok (.iconst 3, 1) := by decide +kernel
theorem dX11_row_11 : decode cX11_row 11 = .ok (.invokestatic 69, 3) := by decide +kernel
theorem dX11_row_14 : decode cX11_row 14 = .ok (.ifCond .eq 9, 3) := by decide +kernel
theorem dX11_row_17 : decode cX11_row 17 = .ok (.iload_n 3, 1) := by decide +kernel
theorem dX11_row_18 : decode cX11_row 18 = .ok (.bipush 100, 2) := by decide +kernel
theorem dX11_row_20 : decode cX11_row 20 = .ok (.if_icmp .le 5, 3) := by decide +kernel
theorem dX11_row_23 : decode cX11_row 23 = .ok (.iconst (-1), 1) := by decide +kernel
theorem dX11_row_24 : decode cX11_row 24 = .ok (.ireturn, 1) := by decide +kernel
theorem dX11_row_25 : decode cX11_row 25 = .ok (.iload_n 3, 1) := by decide +kernel
theorem dX11_row_26 : decode cX11_row 26 = .ok (.ifCond .ge 6, 3) := by decide +kernel
theorem dX11_row_29 : decode cX11_row 29 = .ok (.bipush (-14), 2) := by decide +kernel
theorem dX11_row_31 : decode cX11_row 31 = .ok (.ireturn, 1) := by decide +kernel
theorem dX11_row_32 : decode cX11_row 32 = .ok (.aload_n 0, 1) := by decide +kernel
theorem dX11_row_33 : decode cX11_row 33 = .ok (.getfield 28, 3) := by decide +kernel
theorem dX11_row_36 : decode cX11_row 36 = .ok (.iload_n 1, 1) := by decide +kernel
theorem dX11_row_37 : decode cX11_row 37 = .ok (.aaload, 1) := by decide +kernel
theorem dX11_row_38 : decode cX11_row 38 = .ok (.iload_n 2, 1) := by decide +kernel
theorem dX11_row_39 : decode cX11_row 39 = .ok (.iload_n 3, 1) := by decide +kernel
theorem dX11_row_40 : decode cX11_row 40 = .ok (.invokevirtual 210, 3) := by decide +kernel
theorem dX11_row_43 : decode cX11_row 43 = .ok (.iconst 0, 1) := by decide +kernel
theorem dX11_row_44 : decode cX11_row 44 = .ok (.ireturn, 1) := by decide +kernel
theorem dX11_put_0 : decode cX11_put 0 = .ok (.aload_n 0, 1) := by decide +kernel
theorem dX11_put_1 : decode cX11_put 1 = .ok (.iload_n 1, 1) := by decide +kernel
theorem dX11_put_2 : decode cX11_put 2 = .ok (.invokevirtual 197, 3) := by decide +kernel
theorem dX11_put_5 : decode cX11_put 5 = .ok (.astore 4, 2) := by decide +kernel
theorem dX11_put_7 : decode cX11_put 7 = .ok (.aload 4, 2) := by decide +kernel
theorem dX11_put_9 : decode cX11_put 9 = .ok (.ifnonnull 9, 3) := by decide +kernel
theorem dX11_put_12 : decode cX11_put 12 = .ok (.aload_n 0, 1) := by decide +kernel
theorem dX11_put_13 : decode cX11_put 13 = .ok (.iload_n 1, 1) := by decide +kernel
theorem dX11_put_14 : decode cX11_put 14 = .ok (.invokevirtual 54, 3) := by decide +kernel
theorem dX11_put_17 : decode cX11_put 17 = .ok (.ireturn, 1) := by decide +kernel
theorem dX11_put_18 : decode cX11_put 18 = .ok (.iload_n 2, 1) := by decide +kernel
theorem dX11_put_19 : decode cX11_put 19 = .ok (.aload 4, 2) := by decide +kernel
theorem dX11_put_21 : decode cX11_put 21 = .ok (.getfield 132, 3) := by decide +kernel
theorem dX11_put_24 : decode cX11_put 24 = .ok (.invokestatic 69, 3) := by decide +kernel
theorem dX11_put_27 : decode cX11_put 27 = .ok (.ifCond .ne 6, 3) := by decide +kernel
theorem dX11_put_30 : decode cX11_put 30 = .ok (.bipush (-13), 2) := by decide +kernel
theorem dX11_put_32 : decode cX11_put 32 = .ok (.ireturn, 1) := by decide +kernel
theorem dX11_put_33 : decode cX11_put 33 = .ok (.aload 4, 2) := by decide +kernel
theorem dX11_put_35 : decode cX11_put 35 = .ok (.iload_n 2, 1) := by decide +kernel
theorem dX11_put_36 : decode cX11_put 36 = .ok (.iload_n 3, 1) := by decide +kernel
theorem dX11_put_37 : decode cX11_put 37 = .ok (.invokevirtual 214, 3) := by decide +kernel
theorem dX11_put_40 : decode cX11_put 40 = .ok (.iconst 0, 1) := by decide +kernel
theorem dX11_put_41 : decode cX11_put 41 = .ok (.ireturn, 1) := by decide +kernel
theorem dX11_element_0 : decode cX11_element 0 = .ok (.iload_n 1, 1) := by decide +kernel
theorem dX11_element_1 : decode cX11_element 1 = .ok (.bipush 8, 2) := by decide +kernel
theorem dX11_element_3 : decode cX11_element 3 = .ok (.invokestatic 69, 3) := by decide +kernel
theorem dX11_element_6 : decode cX11_element 6 = .ok (.ifCond .ne 13, 3) := by decide +kernel
theorem dX11_element_9 : decode cX11_element 9 = .ok (.new 217, 3) := by decide +kernel
theorem dX11_element_12 : decode cX11_element 12 = .ok (.dup, 1) := by decide +kernel
theorem dX11_element_13 : decode cX11_element 13 = .ok (.ldc 219, 2) := by decide +kernel
theorem dX11_element_15 : decode cX11_element 15 = .ok (.invokespecial 221, 3) := by decide +kernel
theorem dX11_element_18 : decode cX11_element 18 = .ok (.athrow, 1) := by decide +kernel
theorem dX11_element_19 : decode cX11_element 19 = .ok (.aload_n 0, 1) := by decide +kernel
theorem dX11_element_20 : decode cX11_element 20 = .ok (.iload_n 1, 1) := by decide +kernel
theorem dX11_element_21 : decode cX11_element 21 = .ok (.invokevirtual 197, 3) := by decide +kernel
theorem dX11_element_24 : decode cX11_element 24 = .ok (.astore_n 3, 1) := by decide +kernel
theorem dX11_element_25 : decode cX11_element 25 = .ok (.aload_n 3, 1) := by decide +kernel
theorem dX11_element_26 : decode cX11_element 26 = .ok (.ifnonnull 13, 3) := by decide +kernel
theorem dX11_element_29 : decode cX11_element 29 = .ok (.new 224, 3) := by decide +kernel
theorem dX11_element_32 : decode cX11_element 32 = .ok (.dup, 1) := by decide +kernel
theorem dX11_element_33 : decode cX11_element 33 = .ok (.ldc 226, 2) := by decide +kernel
theorem dX11_element_35 : decode cX11_element 35 = .ok (.invokespecial 228, 3) := by decide +kernel
theorem dX11_element_38 : decode cX11_element 38 = .ok (.athrow, 1) := by decide +kernel
theorem dX11_element_39 : decode cX11_element 39 = .ok (.iload_n 2, 1) := by decide +kernel
theorem dX11_element_40 : decode cX11_element 40 = .ok (.aload_n 3, 1) := by decide +kernel
theorem dX11_element_41 : decode cX11_element 41 = .ok (.getfield 132, 3) := by decide +kernel
theorem dX11_element_44 : decode cX11_element 44 = .ok (.invokestatic 69, 3) := by decide +kernel
theorem dX11_element_47 : decode cX11_element 47 = .ok (.ifCond .ne 13, 3) := by decide +kernel
theorem dX11_element_50 : decode cX11_element 50 = .ok (.new 224, 3) := by decide +kernel
theorem dX11_element_53 : decode cX11_element 53 = .ok (.dup, 1) := by decide +kernel
theorem dX11_element_54 : decode cX11_element 54 = .ok (.ldc 229, 2) := by decide +kernel
theorem dX11_element_56 : decode cX11_element 56 = .ok (.invokespecial 228, 3) := by decide +kernel
theorem dX11_element_59 : decode cX11_element 59 = .ok (.athrow, 1) := by decide +kernel
theorem dX11_element_60 : decode cX11_element 60 = .ok (.aload_n 3, 1) := by decide +kernel
theorem dX11_element_61 : decode cX11_element 61 = .ok (.iload_n 2, 1) := by decide +kernel
theorem dX11_element_62 : decode cX11_element 62 = .ok (.invokevirtual 200, 3) := by decide +kernel
theorem dX11_element_65 : decode cX11_element 65 = .ok (.i2l, 1) := by decide +kernel
theorem dX11_element_66 : decode cX11_element 66 = .ok (.lreturn, 1) := by decide +kernel
theorem dX11_copy_0 : decode cX11_copy 0 = .ok (.iload_n 1, 1) := by decide +kernel
theorem dX11_copy_1 : decode cX11_copy 1 = .ok (.bipush 8, 2) := by decide +kernel
theorem dX11_copy_3 : decode cX11_copy 3 = .ok (.invokestatic 69, 3) := by decide +kernel
theorem dX11_copy_6 : decode cX11_copy 6 = .ok (.ifCond .eq 12, 3) := by decide +kernel
theorem dX11_copy_9 : decode cX11_copy 9 = .ok (.iload_n 3, 1) := by decide +kernel
theorem dX11_copy_10 : decode cX11_copy 10 = .ok (.bipush 8, 2) := by decide +kernel
theorem dX11_copy_12 : decode cX11_copy 12 = .ok (.invokestatic 69, 3) := by decide +kernel
theorem dX11_copy_15 : decode cX11_copy 15 = .ok (.ifCond .ne 5, 3) := by decide +kernel
theorem dX11_copy_18 : decode cX11_copy 18 = .ok (.iconst (-1), 1) := by decide +kernel
theorem dX11_copy_19 : decode cX11_copy 19 = .ok (.ireturn, 1) := by decide +kernel
theorem dX11_copy_20 : decode cX11_copy 20 = .ok (.aload_n 0, 1) := by decide +kernel
theorem dX11_copy_21 : decode cX11_copy 21 = .ok (.getfield 28, 3) := by decide +kernel
theorem dX11_copy_24 : decode cX11_copy 24 = .ok (.iload_n 1, 1) := by decide +kernel
theorem dX11_copy_25 : decode cX11_copy 25 = .ok (.aaload, 1) := by decide +kernel
theorem dX11_copy_26 : decode cX11_copy 26 = .ok (.invokevirtual 231, 3) := by decide +kernel
theorem dX11_copy_29 : decode cX11_copy 29 = .ok (.ifCond .ne 15, 3) := by decide +kernel
theorem dX11_copy_32 : decode cX11_copy 32 = .ok (.aload_n 0, 1) := by decide +kernel
theorem dX11_copy_33 : decode cX11_copy 33 = .ok (.getfield 28, 3) := by decide +kernel
theorem dX11_copy_36 : decode cX11_copy 36 = .ok (.iload_n 3, 1) := by decide +kernel
theorem dX11_copy_37 : decode cX11_copy 37 = .ok (.aaload, 1) := by decide +kernel
theorem dX11_copy_38 : decode cX11_copy 38 = .ok (.invokevirtual 231, 3) := by decide +kernel
theorem dX11_copy_41 : decode cX11_copy 41 = .ok (.ifCond .eq 6, 3) := by decide +kernel
theorem dX11_copy_44 : decode cX11_copy 44 = .ok (.bipush (-11), 2) := by decide +kernel
theorem dX11_copy_46 : decode cX11_copy 46 = .ok (.ireturn, 1) := by decide +kernel
theorem dX11_copy_47 : decode cX11_copy 47 = .ok (.aload_n 0, 1) := by decide +kernel
theorem dX11_copy_48 : decode cX11_copy 48 = .ok (.iload_n 1, 1) := by decide +kernel
theorem dX11_copy_49 : decode cX11_copy 49 = .ok (.invokevirtual 197, 3) := by decide +kernel
theorem dX11_copy_52 : decode cX11_copy 52 = .ok (.astore 6, 2) := by decide +kernel
theorem dX11_copy_54 : decode cX11_copy 54 = .ok (.aload_n 0, 1) := by decide +kernel
theorem dX11_copy_55 : decode cX11_copy 55 = .ok (.iload_n 3, 1) := by decide +kernel
theorem dX11_copy_56 : decode cX11_copy 56 = .ok (.invokevirtual 197, 3) := by decide +kernel
theorem dX11_copy_59 : decode cX11_copy 59 = .ok (.astore 7, 2) := by decide +kernel
theorem dX11_copy_61 : decode cX11_copy 61 = .ok (.aload 6, 2) := by decide +kernel
theorem dX11_copy_63 : decode cX11_copy 63 = .ok (.ifnull 21, 3) := by decide +kernel
theorem dX11_copy_66 : decode cX11_copy 66 = .ok (.aload 7, 2) := by decide +kernel
theorem dX11_copy_68 : decode cX11_copy 68 = .ok (.ifnull 16, 3) := by decide +kernel
theorem dX11_copy_71 : decode cX11_copy 71 = .ok (.aload 6, 2) := by decide +kernel
theorem dX11_copy_73 : decode cX11_copy 73 = .ok (.getfield 234, 3) := by decide +kernel
theorem dX11_copy_76 : decode cX11_copy 76 = .ok (.aload 7, 2) := by decide +kernel
theorem dX11_copy_78 : decode cX11_copy 78 = .ok (.getfield 234, 3) := by decide +kernel
theorem dX11_copy_81 : decode cX11_copy 81 = .ok (.if_icmp .eq 6, 3) := by decide +kernel
theorem dX11_copy_84 : decode cX11_copy 84 = .ok (.bipush (-12), 2) := by decide +kernel
theorem dX11_copy_86 : decode cX11_copy 86 = .ok (.ireturn, 1) := by decide +kernel
theorem dX11_copy_87 : decode cX11_copy 87 = .ok (.aload 6, 2) := by decide +kernel
theorem dX11_copy_89 : decode cX11_copy 89 = .ok (.iload_n 2, 1) := by decide +kernel
theorem dX11_copy_90 : decode cX11_copy 90 = .ok (.iload 5, 2) := by decide +kernel
theorem dX11_copy_92 : decode cX11_copy 92 = .ok (.invokevirtual 237, 3) := by decide +kernel
theorem dX11_copy_95 : decode cX11_copy 95 = .ok (.ifCond .eq 15, 3) := by decide +kernel
theorem dX11_copy_98 : decode cX11_copy 98 = .ok (.aload 7, 2) := by decide +kernel
theorem dX11_copy_100 : decode cX11_copy 100 = .ok (.iload 4, 2) := by decide +kernel
theorem dX11_copy_102 : decode cX11_copy 102 = .ok (.iload 5, 2) := by decide +kernel
theorem dX11_copy_104 : decode cX11_copy 104 = .ok (.invokevirtual 237, 3) := by decide +kernel
theorem dX11_copy_107 : decode cX11_copy 107 = .ok (.ifCond .ne 6, 3) := by decide +kernel
theorem dX11_copy_110 : decode cX11_copy 110 = .ok (.bipush (-13), 2) := by decide +kernel
theorem dX11_copy_112 : decode cX11_copy 112 = .ok (.ireturn, 1) := by decide +kernel
theorem dX11_copy_113 : decode cX11_copy 113 = .ok (.aload 6, 2) := by decide +kernel
theorem dX11_copy_115 : decode cX11_copy 115 = .ok (.getfield 240, 3) := by decide +kernel
theorem dX11_copy_118 : decode cX11_copy 118 = .ok (.iload_n 2, 1) := by decide +kernel
theorem dX11_copy_119 : decode cX11_copy 119 = .ok (.aload 7, 2) := by decide +kernel
theorem dX11_copy_121 : decode cX11_copy 121 = .ok (.getfield 240, 3) := by decide +kernel
theorem dX11_copy_124 : decode cX11_copy 124 = .ok (.iload 4, 2) := by decide +kernel
theorem dX11_copy_126 : decode cX11_copy 126 = .ok (.iload 5, 2) := by decide +kernel
theorem dX11_copy_128 : decode cX11_copy 128 = .ok (.invokestatic 243, 3) := by decide +kernel
theorem dX11_copy_131 : decode cX11_copy 131 = .ok (.iload 5, 2) := by decide +kernel
theorem dX11_copy_133 : decode cX11_copy 133 = .ok (.ireturn, 1) := by decide +kernel
theorem dX11_pay_0 : decode cX11_pay 0 = .ok (.aload_n 0, 1) := by decide +kernel
theorem dX11_pay_1 : decode cX11_pay 1 = .ok (.iload_n 1, 1) := by decide +kernel
theorem dX11_pay_2 : decode cX11_pay 2 = .ok (.invokevirtual 96, 3) := by decide +kernel
theorem dX11_pay_5 : decode cX11_pay 5 = .ok (.astore_n 2, 1) := by decide +kernel
theorem dX11_pay_6 : decode cX11_pay 6 = .ok (.aload_n 2, 1) := by decide +kernel
theorem dX11_pay_7 : decode cX11_pay 7 = .ok (.ifnonnull 9, 3) := by decide +kernel
theorem dX11_pay_10 : decode cX11_pay 10 = .ok (.aload_n 0, 1) := by decide +kernel
theorem dX11_pay_11 : decode cX11_pay 11 = .ok (.iload_n 1, 1) := by decide +kernel
theorem dX11_pay_12 : decode cX11_pay 12 = .ok (.invokevirtual 54, 3) := by decide +kernel
theorem dX11_pay_15 : decode cX11_pay 15 = .ok (.ireturn, 1) := by decide +kernel
theorem dX11_pay_16 : decode cX11_pay 16 = .ok (.aload_n 2, 1) := by decide +kernel
theorem dX11_pay_17 : decode cX11_pay 17 = .ok (.invokevirtual 249, 3) := by decide +kernel
theorem dX11_pay_20 : decode cX11_pay 20 = .ok (.ireturn, 1) := by decide +kernel
theorem dX11_toss_0 : decode cX11_toss 0 = .ok (.aload_n 0, 1) := by decide +kernel
theorem dX11_toss_1 : decode cX11_toss 1 = .ok (.iload_n 1, 1) := by decide +kernel
theorem dX11_toss_2 : decode cX11_toss 2 = .ok (.invokevirtual 96, 3) := by decide +kernel
theorem dX11_toss_5 : decode cX11_toss 5 = .ok (.astore_n 2, 1) := by decide +kernel
theorem dX11_toss_6 : decode cX11_toss 6 = .ok (.aload_n 2, 1) := by decide +kernel
theorem dX11_toss_7 : decode cX11_toss 7 = .ok (.ifnonnull 9, 3) := by decide +kernel
theorem dX11_toss_10 : decode cX11_toss 10 = .ok (.aload_n 0, 1) := by decide +kernel
theorem dX11_toss_11 : decode cX11_toss 11 = .ok (.iload_n 1, 1) := by decide +kernel
theorem dX11_toss_12 : decode cX11_toss 12 = .ok (.invokevirtual 54, 3) := by decide +kernel
theorem dX11_toss_15 : decode cX11_toss 15 = .ok (.ireturn, 1) := by decide +kernel
theorem dX11_toss_16 : decode cX11_toss 16 = .ok (.aload_n 2, 1) := by decide +kernel
theorem dX11_toss_17 : decode cX11_toss 17 = .ok (.invokevirtual 252, 3) := by decide +kernel
theorem dX11_toss_20 : decode cX11_toss 20 = .ok (.goto 28, 3) := by decide +kernel
theorem dX11_toss_23 : decode cX11_toss 23 = .ok (.astore_n 3, 1) := by decide +kernel
theorem dX11_toss_24 : decode cX11_toss 24 = .ok (.aload_n 2, 1) := by decide +kernel
theorem dX11_toss_25 : decode cX11_toss 25 = .ok (.getfield 83, 3) := by decide +kernel
theorem dX11_toss_28 : decode cX11_toss 28 = .ok (.ireturn, 1) := by decide +kernel
theorem dX11_toss_29 : decode cX11_toss 29 = .ok (.astore_n 3, 1) := by decide +kernel
theorem dX11_toss_30 : decode cX11_toss 30 = .ok (.aload_n 2, 1) := by decide +kernel
theorem dX11_toss_31 : decode cX11_toss 31 = .ok (.getfield 83, 3) := by decide +kernel
theorem dX11_toss_34 : decode cX11_toss 34 = .ok (.bipush 100, 2) := by decide +kernel
theorem dX11_toss_36 : decode cX11_toss 36 = .ok (.iadd, 1) := by decide +kernel
theorem dX11_toss_37 : decode cX11_toss 37 = .ok (.ireturn, 1) := by decide +kernel
theorem dX11_toss_38 : decode cX11_toss 38 = .ok (.astore_n 3, 1) := by decide +kernel
theorem dX11_toss_39 : decode cX11_toss 39 = .ok (.sipush 200, 3) := by decide +kernel
theorem dX11_toss_42 : decode cX11_toss 42 = .ok (.aload_n 2, 1) := by decide +kernel
theorem dX11_toss_43 : decode cX11_toss 43 = .ok (.invokevirtual 249, 3) := by decide +kernel
theorem dX11_toss_46 : decode cX11_toss 46 = .ok (.iadd, 1) := by decide +kernel
theorem dX11_toss_47 : decode cX11_toss 47 = .ok (.ireturn, 1) := by decide +kernel
theorem dX11_toss_48 : decode cX11_toss 48 = .ok (.bipush (-15), 2) := by decide +kernel
theorem dX11_toss_50 : decode cX11_toss 50 = .ok (.ireturn, 1) := by decide +kernel
theorem dX11_isBelow_0 : decode cX11_isBelow 0 = .ok (.iload_n 0, 1) := by decide +kernel
theorem dX11_isBelow_1 : decode cX11_isBelow 1 = .ok (.ifCond .lt 12, 3) := by decide +kernel
theorem dX11_isBelow_4 : decode cX11_isBelow 4 = .ok (.iload_n 0, 1) := by decide +kernel
theorem dX11_isBelow_5 : decode cX11_isBelow 5 = .ok (.iload_n 1, 1) := by decide +kernel
theorem dX11_isBelow_6 : decode cX11_isBelow 6 = .ok (.if_icmp .ge 7, 3) := by decide +kernel
theorem dX11_isBelow_9 : decode cX11_isBelow 9 = .ok (.iconst 1, 1) := by decide +kernel
theorem dX11_isBelow_10 : decode cX11_isBelow 10 = .ok (.goto 4, 3) := by decide +kernel
theorem dX11_isBelow_13 : decode cX11_isBelow 13 = .ok (.iconst 0, 1) := by decide +kernel
theorem dX11_isBelow_14 : decode cX11_isBelow 14 = .ok (.ireturn, 1) := by decide +kernel
theorem dX11_neighbour_0 : decode cX11_neighbour 0 = .ok (.iload_n 0, 1) := by decide +kernel
theorem dX11_neighbour_1 : decode cX11_neighbour 1 = .ok (.iconst 5, 1) := by decide +kernel
theorem dX11_neighbour_2 : decode cX11_neighbour 2 = .ok (.irem, 1) := by decide +kernel
theorem dX11_neighbour_3 : decode cX11_neighbour 3 = .ok (.istore_n 2, 1) := by decide +kernel
theorem dX11_neighbour_4 : decode cX11_neighbour 4 = .ok (.iload_n 0, 1) := by decide +kernel
theorem dX11_neighbour_5 : decode cX11_neighbour 5 = .ok (.iconst 5, 1) := by decide +kernel
theorem dX11_neighbour_6 : decode cX11_neighbour 6 = .ok (.idiv, 1) := by decide +kernel
theorem dX11_neighbour_7 : decode cX11_neighbour 7 = .ok (.istore_n 3, 1) := by decide +kernel
theorem dX11_neighbour_8 : decode cX11_neighbour 8 = .ok (.iload_n 1, 1) := by decide +kernel
theorem dX11_neighbour_9 : decode cX11_neighbour 9 = .ok (.tableswitch 81 0 3 #[31, 43, 56, 69], 31) := by decide +kernel
theorem dX11_neighbour_40 : decode cX11_neighbour 40 = .ok (.iload_n 3, 1) := by decide +kernel
theorem dX11_neighbour_41 : decode cX11_neighbour 41 = .ok (.ifCond .le 9, 3) := by decide +kernel
theorem dX11_neighbour_44 : decode cX11_neighbour 44 = .ok (.iload_n 0, 1) := by decide +kernel
theorem dX11_neighbour_45 : decode cX11_neighbour 45 = .ok (.iconst 5, 1) := by decide +kernel
theorem dX11_neighbour_46 : decode cX11_neighbour 46 = .ok (.isub, 1) := by decide +kernel
theorem dX11_neighbour_47 : decode cX11_neighbour 47 = .ok (.goto 4, 3) := by decide +kernel
theorem dX11_neighbour_50 : decode cX11_neighbour 50 = .ok (.iconst (-1), 1) := by decide +kernel
theorem dX11_neighbour_51 : decode cX11_neighbour 51 = .ok (.ireturn, 1) := by decide +kernel
theorem dX11_neighbour_52 : decode cX11_neighbour 52 = .ok (.iload_n 2, 1) := by decide +kernel
theorem dX11_neighbour_53 : decode cX11_neighbour 53 = .ok (.iconst 4, 1) := by decide +kernel
theorem dX11_neighbour_54 : decode cX11_neighbour 54 = .ok (.if_icmp .ge 9, 3) := by decide +kernel
theorem dX11_neighbour_57 : decode cX11_neighbour 57 = .ok (.iload_n 0, 1) := by decide +kernel
theorem dX11_neighbour_58 : decode cX11_neighbour 58 = .ok (.iconst 1, 1) := by decide +kernel
theorem dX11_neighbour_59 : decode cX11_neighbour 59 = .ok (.iadd, 1) := by decide +kernel
theorem dX11_neighbour_60 : decode cX11_neighbour 60 = .ok (.goto 4, 3) := by decide +kernel
theorem dX11_neighbour_63 : decode cX11_neighbour 63 = .ok (.iconst (-1), 1) := by decide +kernel
theorem dX11_neighbour_64 : decode cX11_neighbour 64 = .ok (.ireturn, 1) := by decide +kernel
theorem dX11_neighbour_65 : decode cX11_neighbour 65 = .ok (.iload_n 3, 1) := by decide +kernel
theorem dX11_neighbour_66 : decode cX11_neighbour 66 = .ok (.iconst 3, 1) := by decide +kernel
theorem dX11_neighbour_67 : decode cX11_neighbour 67 = .ok (.if_icmp .ge 9, 3) := by decide +kernel
theorem dX11_neighbour_70 : decode cX11_neighbour 70 = .ok (.iload_n 0, 1) := by decide +kernel
theorem dX11_neighbour_71 : decode cX11_neighbour 71 = .ok (.iconst 5, 1) := by decide +kernel
theorem dX11_neighbour_72 : decode cX11_neighbour 72 = .ok (.iadd, 1) := by decide +kernel
theorem dX11_neighbour_73 : decode cX11_neighbour 73 = .ok (.goto 4, 3) := by decide +kernel
theorem dX11_neighbour_76 : decode cX11_neighbour 76 = .ok (.iconst (-1), 1) := by decide +kernel
theorem dX11_neighbour_77 : decode cX11_neighbour 77 = .ok (.ireturn, 1) := by decide +kernel
theorem dX11_neighbour_78 : decode cX11_neighbour 78 = .ok (.iload_n 2, 1) := by decide +kernel
theorem dX11_neighbour_79 : decode cX11_neighbour 79 = .ok (.ifCond .le 9, 3) := by decide +kernel
theorem dX11_neighbour_82 : decode cX11_neighbour 82 = .ok (.iload_n 0, 1) := by decide +kernel
theorem dX11_neighbour_83 : decode cX11_neighbour 83 = .ok (.iconst 1, 1) := by decide +kernel
theorem dX11_neighbour_84 : decode cX11_neighbour 84 = .ok (.isub, 1) := by decide +kernel
theorem dX11_neighbour_85 : decode cX11_neighbour 85 = .ok (.goto 4, 3) := by decide +kernel
theorem dX11_neighbour_88 : decode cX11_neighbour 88 = .ok (.iconst (-1), 1) := by decide +kernel
theorem dX11_neighbour_89 : decode cX11_neighbour 89 = .ok (.ireturn, 1) := by decide +kernel
theorem dX11_neighbour_90 : decode cX11_neighbour 90 = .ok (.iconst (-1), 1) := by decide +kernel
theorem dX11_neighbour_91 : decode cX11_neighbour 91 = .ok (.ireturn, 1) := by decide +kernel
theorem dX11_rockOf_0 : decode cX11_rockOf 0 = .ok (.iload_n 0, 1) := by decide +kernel
theorem dX11_rockOf_1 : decode cX11_rockOf 1 = .ok (.tableswitch 106 1 7 #[43, 52, 61, 70, 79, 88, 97], 43) := by decide +kernel
theorem dX11_rockOf_44 : decode cX11_rockOf 44 = .ok (.new 257, 3) := by decide +kernel
theorem dX11_rockOf_47 : decode cX11_rockOf 47 = .ok (.dup, 1) := by decide +kernel
theorem dX11_rockOf_48 : decode cX11_rockOf 48 = .ok (.iload_n 1, 1) := by decide +kernel
theorem dX11_rockOf_49 : decode cX11_rockOf 49 = .ok (.invokespecial 259, 3) := by decide +kernel
theorem dX11_rockOf_52 : decode cX11_rockOf 52 = .ok (.areturn, 1) := by decide +kernel
theorem dX11_rockOf_53 : decode cX11_rockOf 53 = .ok (.new 261, 3) := by decide +kernel
theorem dX11_rockOf_56 : decode cX11_rockOf 56 = .ok (.dup, 1) := by decide +kernel
theorem dX11_rockOf_57 : decode cX11_rockOf 57 = .ok (.iload_n 1, 1) := by decide +kernel
theorem dX11_rockOf_58 : decode cX11_rockOf 58 = .ok (.invokespecial 263, 3) := by decide +kernel
theorem dX11_rockOf_61 : decode cX11_rockOf 61 = .ok (.areturn, 1) := by decide +kernel
theorem dX11_rockOf_62 : decode cX11_rockOf 62 = .ok (.new 264, 3) := by decide +kernel
theorem dX11_rockOf_65 : decode cX11_rockOf 65 = .ok (.dup, 1) := by decide +kernel
theorem dX11_rockOf_66 : decode cX11_rockOf 66 = .ok (.iload_n 1, 1) := by decide +kernel
theorem dX11_rockOf_67 : decode cX11_rockOf 67 = .ok (.invokespecial 266, 3) := by decide +kernel
theorem dX11_rockOf_70 : decode cX11_rockOf 70 = .ok (.areturn, 1) := by decide +kernel
theorem dX11_rockOf_71 : decode cX11_rockOf 71 = .ok (.new 267, 3) := by decide +kernel
theorem dX11_rockOf_74 : decode cX11_rockOf 74 = .ok (.dup, 1) := by decide +kernel
theorem dX11_rockOf_75 : decode cX11_rockOf 75 = .ok (.iload_n 1, 1) := by decide +kernel
theorem dX11_rockOf_76 : decode cX11_rockOf 76 = .ok (.invokespecial 269, 3) := by decide +kernel
theorem dX11_rockOf_79 : decode cX11_rockOf 79 = .ok (.areturn, 1) := by decide +kernel
theorem dX11_rockOf_80 : decode cX11_rockOf 80 = .ok (.new 270, 3) := by decide +kernel
theorem dX11_rockOf_83 : decode cX11_rockOf 83 = .ok (.dup, 1) := by decide +kernel
theorem dX11_rockOf_84 : decode cX11_rockOf 84 = .ok (.iload_n 1, 1) := by decide +kernel
theorem dX11_rockOf_85 : decode cX11_rockOf 85 = .ok (.invokespecial 272, 3) := by decide +kernel
theorem dX11_rockOf_88 : decode cX11_rockOf 88 = .ok (.areturn, 1) := by decide +kernel
theorem dX11_rockOf_89 : decode cX11_rockOf 89 = .ok (.new 273, 3) := by decide +kernel
theorem dX11_rockOf_92 : decode cX11_rockOf 92 = .ok (.dup, 1) := by decide +kernel
theorem dX11_rockOf_93 : decode cX11_rockOf 93 = .ok (.iload_n 1, 1) := by decide +kernel
theorem dX11_rockOf_94 : decode cX11_rockOf 94 = .ok (.invokespecial 275, 3) := by decide +kernel
theorem dX11_rockOf_97 : decode cX11_rockOf 97 = .ok (.areturn, 1) := by decide +kernel
theorem dX11_rockOf_98 : decode cX11_rockOf 98 = .ok (.new 276, 3) := by decide +kernel
theorem dX11_rockOf_101 : decode cX11_rockOf 101 = .ok (.dup, 1) := by decide +kernel
theorem dX11_rockOf_102 : decode cX11_rockOf 102 = .ok (.iload_n 1, 1) := by decide +kernel
theorem dX11_rockOf_103 : decode cX11_rockOf 103 = .ok (.invokespecial 278, 3) := by decide +kernel
theorem dX11_rockOf_106 : decode cX11_rockOf 106 = .ok (.areturn, 1) := by decide +kernel
theorem dX11_rockOf_107 : decode cX11_rockOf 107 = .ok (.new 78, 3) := by decide +kernel
theorem dX11_rockOf_110 : decode cX11_rockOf 110 = .ok (.dup, 1) := by decide +kernel
theorem dX11_rockOf_111 : decode cX11_rockOf 111 = .ok (.iload_n 1, 1) := by decide +kernel
theorem dX11_rockOf_112 : decode cX11_rockOf 112 = .ok (.invokespecial 279, 3) := by decide +kernel
theorem dX11_rockOf_115 : decode cX11_rockOf 115 = .ok (.areturn, 1) := by decide +kernel
theorem dX11_rockOn_0 : decode cX11_rockOn 0 = .ok (.iload_n 1, 1) := by decide +kernel
theorem dX11_rockOn_1 : decode cX11_rockOn 1 = .ok (.bipush 8, 2) := by decide +kernel
theorem dX11_rockOn_3 : decode cX11_rockOn 3 = .ok (.invokestatic 69, 3) := by decide +kernel
theorem dX11_rockOn_6 : decode cX11_rockOn 6 = .ok (.ifCond .eq 15, 3) := by decide +kernel
theorem dX11_rockOn_9 : decode cX11_rockOn 9 = .ok (.aload_n 0, 1) := by decide +kernel
theorem dX11_rockOn_10 : decode cX11_rockOn 10 = .ok (.getfield 28, 3) := by decide +kernel
theorem dX11_rockOn_13 : decode cX11_rockOn 13 = .ok (.iload_n 1, 1) := by decide +kernel
theorem dX11_rockOn_14 : decode cX11_rockOn 14 = .ok (.aaload, 1) := by decide +kernel
theorem dX11_rockOn_15 : decode cX11_rockOn 15 = .ok (.getfield 280, 3) := by decide +kernel
theorem dX11_rockOn_18 : decode cX11_rockOn 18 = .ok (.goto 4, 3) := by decide +kernel
theorem dX11_rockOn_21 : decode cX11_rockOn 21 = .ok (.aconst_null, 1) := by decide +kernel
theorem dX11_rockOn_22 : decode cX11_rockOn 22 = .ok (.areturn, 1) := by decide +kernel
theorem dX11_rowOn_0 : decode cX11_rowOn 0 = .ok (.iload_n 1, 1) := by decide +kernel
theorem dX11_rowOn_1 : decode cX11_rowOn 1 = .ok (.bipush 8, 2) := by decide +kernel
theorem dX11_rowOn_3 : decode cX11_rowOn 3 = .ok (.invokestatic 69, 3) := by decide +kernel
theorem dX11_rowOn_6 : decode cX11_rowOn 6 = .ok (.ifCond .eq 25, 3) := by decide +kernel
theorem dX11_rowOn_9 : decode cX11_rowOn 9 = .ok (.aload_n 0, 1) := by decide +kernel
theorem dX11_rowOn_10 : decode cX11_rowOn 10 = .ok (.getfield 28, 3) := by decide +kernel
theorem dX11_rowOn_13 : decode cX11_rowOn 13 = .ok (.iload_n 1, 1) := by decide +kernel
theorem dX11_rowOn_14 : decode cX11_rowOn 14 = .ok (.aaload, 1) := by decide +kernel
theorem dX11_rowOn_15 : decode cX11_rowOn 15 = .ok (.getfield 234, 3) := by decide +kernel
theorem dX11_rowOn_18 : decode cX11_rowOn 18 = .ok (.iconst (-1), 1) := by decide +kernel
theorem dX11_rowOn_19 : decode cX11_rowOn 19 = .ok (.if_icmp .eq 12, 3) := by decide +kernel
theorem dX11_rowOn_22 : decode cX11_rowOn 22 = .ok (.aload_n 0, 1) := by decide +kernel
theorem dX11_rowOn_23 : decode cX11_rowOn 23 = .ok (.getfield 28, 3) := by decide +kernel
theorem dX11_rowOn_26 : decode cX11_rowOn 26 = .ok (.iload_n 1, 1) := by decide +kernel
theorem dX11_rowOn_27 : decode cX11_rowOn 27 = .ok (.aaload, 1) := by decide +kernel
theorem dX11_rowOn_28 : decode cX11_rowOn 28 = .ok (.goto 4, 3) := by decide +kernel
theorem dX11_rowOn_31 : decode cX11_rowOn 31 = .ok (.aconst_null, 1) := by decide +kernel
theorem dX11_rowOn_32 : decode cX11_rowOn 32 = .ok (.areturn, 1) := by decide +kernel
theorem dX11_rowOn__0 : decode cX11_rowOn_ 0 = .ok (.aload_n 0, 1) := by decide +kernel
theorem dX11_rowOn__1 : decode cX11_rowOn_ 1 = .ok (.iload_n 1, 1) := by decide +kernel
theorem dX11_rowOn__2 : decode cX11_rowOn_ 2 = .ok (.invokevirtual 197, 3) := by decide +kernel
theorem dX11_rowOn__5 : decode cX11_rowOn_ 5 = .ok (.astore_n 3, 1) := by decide +kernel
theorem dX11_rowOn__6 : decode cX11_rowOn_ 6 = .ok (.aload_n 3, 1) := by decide +kernel
theorem dX11_rowOn__7 : decode cX11_rowOn_ 7 = .ok (.ifnull 15, 3) := by decide +kernel
theorem dX11_rowOn__10 : decode cX11_rowOn_ 10 = .ok (.aload_n 3, 1) := by decide +kernel
theorem dX11_rowOn__11 : decode cX11_rowOn_ 11 = .ok (.getfield 234, 3) := by decide +kernel
theorem dX11_rowOn__14 : decode cX11_rowOn_ 14 = .ok (.iload_n 2, 1) := by decide +kernel
theorem dX11_rowOn__15 : decode cX11_rowOn_ 15 = .ok (.if_icmp .ne 7, 3) := by decide +kernel
theorem dX11_rowOn__18 : decode cX11_rowOn_ 18 = .ok (.aload_n 3, 1) := by decide +kernel
theorem dX11_rowOn__19 : decode cX11_rowOn_ 19 = .ok (.goto 4, 3) := by decide +kernel
theorem dX11_rowOn__22 : decode cX11_rowOn_ 22 = .ok (.aconst_null, 1) := by decide +kernel
theorem dX11_rowOn__23 : decode cX11_rowOn_ 23 = .ok (.areturn, 1) := by decide +kernel
theorem dX11_whyNot_0 : decode cX11_whyNot 0 = .ok (.iload_n 1, 1) := by decide +kernel
theorem dX11_whyNot_1 : decode cX11_whyNot 1 = .ok (.bipush 8, 2) := by decide +kernel
theorem dX11_whyNot_3 : decode cX11_whyNot 3 = .ok (.invokestatic 69, 3) := by decide +kernel
theorem dX11_whyNot_6 : decode cX11_whyNot 6 = .ok (.ifCond .ne 5, 3) := by decide +kernel
theorem dX11_whyNot_9 : decode cX11_whyNot 9 = .ok (.iconst (-1), 1) := by decide +kernel
theorem dX11_whyNot_10 : decode cX11_whyNot 10 = .ok (.ireturn, 1) := by decide +kernel
theorem dX11_whyNot_11 : decode cX11_whyNot 11 = .ok (.aload_n 0, 1) := by decide +kernel
theorem dX11_whyNot_12 : decode cX11_whyNot 12 = .ok (.getfield 28, 3) := by decide +kernel
theorem dX11_whyNot_15 : decode cX11_whyNot 15 = .ok (.iload_n 1, 1) := by decide +kernel
theorem dX11_whyNot_16 : decode cX11_whyNot 16 = .ok (.aaload, 1) := by decide +kernel
theorem dX11_whyNot_17 : decode cX11_whyNot 17 = .ok (.invokevirtual 231, 3) := by decide +kernel
theorem dX11_whyNot_20 : decode cX11_whyNot 20 = .ok (.ifCond .eq 8, 3) := by decide +kernel
theorem dX11_whyNot_23 : decode cX11_whyNot 23 = .ok (.bipush (-11), 2) := by decide +kernel
theorem dX11_whyNot_25 : decode cX11_whyNot 25 = .ok (.goto 5, 3) := by decide +kernel
theorem dX11_whyNot_28 : decode cX11_whyNot 28 = .ok (.bipush (-12), 2) := by decide +kernel
theorem dX11_whyNot_30 : decode cX11_whyNot 30 = .ok (.ireturn, 1) := by decide +kernel
theorem dX11_digitsBehind_0 : decode cX11_digitsBehind 0 = .ok (.iload_n 0, 1) := by decide +kernel
theorem dX11_digitsBehind_1 : decode cX11_digitsBehind 1 = .ok (.lookupswitch 41 #[(100, 39), (103, 37), (107, 35)], 35) := by decide +kernel
theorem dX11_digitsBehind_36 : decode cX11_digitsBehind 36 = .ok (.iconst 4, 1) := by decide +kernel
theorem dX11_digitsBehind_37 : decode cX11_digitsBehind 37 = .ok (.ireturn, 1) := by decide +kernel
theorem dX11_digitsBehind_38 : decode cX11_digitsBehind 38 = .ok (.iconst 3, 1) := by decide +kernel
theorem dX11_digitsBehind_39 : decode cX11_digitsBehind 39 = .ok (.ireturn, 1) := by decide +kernel
theorem dX11_digitsBehind_40 : decode cX11_digitsBehind 40 = .ok (.iconst 2, 1) := by decide +kernel
theorem dX11_digitsBehind_41 : decode cX11_digitsBehind 41 = .ok (.ireturn, 1) := by decide +kernel
theorem dX11_digitsBehind_42 : decode cX11_digitsBehind 42 = .ok (.iconst (-1), 1) := by decide +kernel
theorem dX11_digitsBehind_43 : decode cX11_digitsBehind 43 = .ok (.ireturn, 1) := by decide +kernel
theorem dX11_strayByte_0 : decode cX11_strayByte 0 = .ok (.iconst (-1), 1) := by decide +kernel
theorem dX11_strayByte_1 : decode cX11_strayByte 1 = .ok (.istore_n 1, 1) := by decide +kernel
theorem dX11_strayByte_2 : decode cX11_strayByte 2 = .ok (.iconst 0, 1) := by decide +kernel
theorem dX11_strayByte_3 : decode cX11_strayByte 3 = .ok (.istore_n 2, 1) := by decide +kernel
theorem dX11_strayByte_4 : decode cX11_strayByte 4 = .ok (.iload_n 2, 1) := by decide +kernel
theorem dX11_strayByte_5 : decode cX11_strayByte 5 = .ok (.aload_n 0, 1) := by decide +kernel
theorem dX11_strayByte_6 : decode cX11_strayByte 6 = .ok (.getfield 132, 3) := by decide +kernel
theorem dX11_strayByte_9 : decode cX11_strayByte 9 = .ok (.if_icmp .ge 69, 3) := by decide +kernel
theorem dX11_strayByte_12 : decode cX11_strayByte 12 = .ok (.iload_n 1, 1) := by decide +kernel
theorem dX11_strayByte_13 : decode cX11_strayByte 13 = .ok (.iconst (-1), 1) := by decide +kernel
theorem dX11_strayByte_14 : decode cX11_strayByte 14 = .ok (.if_icmp .ne 19, 3) := by decide +kernel
theorem dX11_strayByte_17 : decode cX11_strayByte 17 = .ok (.aload_n 0, 1) := by decide +kernel
theorem dX11_strayByte_18 : decode cX11_strayByte 18 = .ok (.iload_n 2, 1) := by decide +kernel
theorem dX11_strayByte_19 : decode cX11_strayByte 19 = .ok (.invokevirtual 200, 3) := by decide +kernel
theorem dX11_strayByte_22 : decode cX11_strayByte 22 = .ok (.invokestatic 284, 3) := by decide +kernel
theorem dX11_strayByte_25 : decode cX11_strayByte 25 = .ok (.istore_n 1, 1) := by decide +kernel
theorem dX11_strayByte_26 : decode cX11_strayByte 26 = .ok (.iload_n 1, 1) := by decide +kernel
theorem dX11_strayByte_27 : decode cX11_strayByte 27 = .ok (.iconst (-1), 1) := by decide +kernel
theorem dX11_strayByte_28 : decode cX11_strayByte 28 = .ok (.if_icmp .ne 44, 3) := by decide +kernel
theorem dX11_strayByte_31 : decode cX11_strayByte 31 = .ok (.iload_n 2, 1) := by decide +kernel
theorem dX11_strayByte_32 : decode cX11_strayByte 32 = .ok (.ireturn, 1) := by decide +kernel
theorem dX11_strayByte_33 : decode cX11_strayByte 33 = .ok (.iload_n 1, 1) := by decide +kernel
theorem dX11_strayByte_34 : decode cX11_strayByte 34 = .ok (.ifCond .le 24, 3) := by decide +kernel
theorem dX11_strayByte_37 : decode cX11_strayByte 37 = .ok (.aload_n 0, 1) := by decide +kernel
theorem dX11_strayByte_38 : decode cX11_strayByte 38 = .ok (.iload_n 2, 1) := by decide +kernel
theorem dX11_strayByte_39 : decode cX11_strayByte 39 = .ok (.invokevirtual 287, 3) := by decide +kernel
theorem dX11_strayByte_42 : decode cX11_strayByte 42 = .ok (.bipush 10, 2) := by decide +kernel
theorem dX11_strayByte_44 : decode cX11_strayByte 44 = .ok (.invokestatic 69, 3) := by decide +kernel
theorem dX11_strayByte_47 : decode cX11_strayByte 47 = .ok (.ifCond .ne 5, 3) := by decide +kernel
theorem dX11_strayByte_50 : decode cX11_strayByte 50 = .ok (.iload_n 2, 1) := by decide +kernel
theorem dX11_strayByte_51 : decode cX11_strayByte 51 = .ok (.ireturn, 1) := by decide +kernel
theorem dX11_strayByte_52 : decode cX11_strayByte 52 = .ok (.iinc 1 (-1), 3) := by decide +kernel
theorem dX11_strayByte_55 : decode cX11_strayByte 55 = .ok (.goto 17, 3) := by decide +kernel
theorem dX11_strayByte_58 : decode cX11_strayByte 58 = .ok (.aload_n 0, 1) := by decide +kernel
theorem dX11_strayByte_59 : decode cX11_strayByte 59 = .ok (.iload_n 2, 1) := by decide +kernel
theorem dX11_strayByte_60 : decode cX11_strayByte 60 = .ok (.invokevirtual 200, 3) := by decide +kernel
theorem dX11_strayByte_63 : decode cX11_strayByte 63 = .ok (.bipush 59, 2) := by decide +kernel
theorem dX11_strayByte_65 : decode cX11_strayByte 65 = .ok (.if_icmp .eq 5, 3) := by decide +kernel
theorem dX11_strayByte_68 : decode cX11_strayByte 68 = .ok (.iload_n 2, 1) := by decide +kernel
theorem dX11_strayByte_69 : decode cX11_strayByte 69 = .ok (.ireturn, 1) := by decide +kernel
theorem dX11_strayByte_70 : decode cX11_strayByte 70 = .ok (.iconst (-1), 1) := by decide +kernel
theorem dX11_strayByte_71 : decode cX11_strayByte 71 = .ok (.istore_n 1, 1) := by decide +kernel
theorem dX11_strayByte_72 : decode cX11_strayByte 72 = .ok (.iinc 2 1, 3) := by decide +kernel
theorem dX11_strayByte_75 : decode cX11_strayByte 75 = .ok (.goto (-71), 3) := by decide +kernel
theorem dX11_strayByte_78 : decode cX11_strayByte 78 = .ok (.aload_n 0, 1) := by decide +kernel
theorem dX11_strayByte_79 : decode cX11_strayByte 79 = .ok (.getfield 132, 3) := by decide +kernel
theorem dX11_strayByte_82 : decode cX11_strayByte 82 = .ok (.ifCond .le 12, 3) := by decide +kernel
theorem dX11_strayByte_85 : decode cX11_strayByte 85 = .ok (.iload_n 1, 1) := by decide +kernel
theorem dX11_strayByte_86 : decode cX11_strayByte 86 = .ok (.iconst (-1), 1) := by decide +kernel
theorem dX11_strayByte_87 : decode cX11_strayByte 87 = .ok (.if_icmp .ne 7, 3) := by decide +kernel
theorem dX11_strayByte_90 : decode cX11_strayByte 90 = .ok (.iconst 1, 1) := by decide +kernel
theorem dX11_strayByte_91 : decode cX11_strayByte 91 = .ok (.goto 4, 3) := by decide +kernel
theorem dX11_strayByte_94 : decode cX11_strayByte 94 = .ok (.iconst 0, 1) := by decide +kernel
theorem dX11_strayByte_95 : decode cX11_strayByte 95 = .ok (.istore_n 2, 1) := by decide +kernel
theorem dX11_strayByte_96 : decode cX11_strayByte 96 = .ok (.iload_n 2, 1) := by decide +kernel
theorem dX11_strayByte_97 : decode cX11_strayByte 97 = .ok (.ifCond .eq 7, 3) := by decide +kernel
theorem dX11_strayByte_100 : decode cX11_strayByte 100 = .ok (.iconst (-1), 1) := by decide +kernel
theorem dX11_strayByte_101 : decode cX11_strayByte 101 = .ok (.goto 7, 3) := by decide +kernel
theorem dX11_strayByte_104 : decode cX11_strayByte 104 = .ok (.aload_n 0, 1) := by decide +kernel
theorem dX11_strayByte_105 : decode cX11_strayByte 105 = .ok (.getfield 132, 3) := by decide +kernel
theorem dX11_strayByte_108 : decode cX11_strayByte 108 = .ok (.ireturn, 1) := by decide +kernel
theorem dX11_obeyAll_0 : decode cX11_obeyAll 0 = .ok (.iconst 0, 1) := by decide +kernel
theorem dX11_obeyAll_1 : decode cX11_obeyAll 1 = .ok (.istore_n 2, 1) := by decide +kernel
theorem dX11_obeyAll_2 : decode cX11_obeyAll 2 = .ok (.iconst 0, 1) := by decide +kernel
theorem dX11_obeyAll_3 : decode cX11_obeyAll 3 = .ok (.istore_n 3, 1) := by decide +kernel
theorem dX11_obeyAll_4 : decode cX11_obeyAll 4 = .ok (.iload_n 3, 1) := by decide +kernel
theorem dX11_obeyAll_5 : decode cX11_obeyAll 5 = .ok (.aload_n 1, 1) := by decide +kernel
theorem dX11_obeyAll_6 : decode cX11_obeyAll 6 = .ok (.getfield 132, 3) := by decide +kernel
theorem dX11_obeyAll_9 : decode cX11_obeyAll 9 = .ok (.if_icmp .ge 39, 3) := by decide +kernel
theorem dX11_obeyAll_12 : decode cX11_obeyAll 12 = .ok (.aload_n 1, 1) := by decide +kernel
theorem dX11_obeyAll_13 : decode cX11_obeyAll 13 = .ok (.iload_n 3, 1) := by decide +kernel
theorem dX11_obeyAll_14 : decode cX11_obeyAll 14 = .ok (.invokevirtual 200, 3) := by decide +kernel
theorem dX11_obeyAll_17 : decode cX11_obeyAll 17 = .ok (.invokestatic 284, 3) := by decide +kernel
theorem dX11_obeyAll_20 : decode cX11_obeyAll 20 = .ok (.iconst (-1), 1) := by decide +kernel
theorem dX11_obeyAll_21 : decode cX11_obeyAll 21 = .ok (.if_icmp .eq 21, 3) := by decide +kernel
theorem dX11_obeyAll_24 : decode cX11_obeyAll 24 = .ok (.aload_n 0, 1) := by decide +kernel
theorem dX11_obeyAll_25 : decode cX11_obeyAll 25 = .ok (.aload_n 1, 1) := by decide +kernel
theorem dX11_obeyAll_26 : decode cX11_obeyAll 26 = .ok (.iload_n 3, 1) := by decide +kernel
theorem dX11_obeyAll_27 : decode cX11_obeyAll 27 = .ok (.invokevirtual 290, 3) := by decide +kernel
theorem dX11_obeyAll_30 : decode cX11_obeyAll 30 = .ok (.ifCond .ne 9, 3) := by decide +kernel
theorem dX11_obeyAll_33 : decode cX11_obeyAll 33 = .ok (.sipush (-2000), 3) := by decide +kernel
theorem dX11_obeyAll_36 : decode cX11_obeyAll 36 = .ok (.iload_n 3, 1) := by decide +kernel
theorem dX11_obeyAll_37 : decode cX11_obeyAll 37 = .ok (.isub, 1) := by decide +kernel
theorem dX11_obeyAll_38 : decode cX11_obeyAll 38 = .ok (.ireturn, 1) := by decide +kernel
theorem dX11_obeyAll_39 : decode cX11_obeyAll 39 = .ok (.iinc 2 1, 3) := by decide +kernel
theorem dX11_obeyAll_42 : decode cX11_obeyAll 42 = .ok (.iinc 3 1, 3) := by decide +kernel
theorem dX11_obeyAll_45 : decode cX11_obeyAll 45 = .ok (.goto (-41), 3) := by decide +kernel
theorem dX11_obeyAll_48 : decode cX11_obeyAll 48 = .ok (.iload_n 2, 1) := by decide +kernel
theorem dX11_obeyAll_49 : decode cX11_obeyAll 49 = .ok (.ireturn, 1) := by decide +kernel
theorem dX11_obey_0 : decode cX11_obey 0 = .ok (.aload_n 1, 1) := by decide +kernel
theorem dX11_obey_1 : decode cX11_obey 1 = .ok (.iload_n 2, 1) := by decide +kernel
theorem dX11_obey_2 : decode cX11_obey 2 = .ok (.iconst 1, 1) := by decide +kernel
theorem dX11_obey_3 : decode cX11_obey 3 = .ok (.iadd, 1) := by decide +kernel
theorem dX11_obey_4 : decode cX11_obey 4 = .ok (.invokevirtual 287, 3) := by decide +kernel
theorem dX11_obey_7 : decode cX11_obey 7 = .ok (.istore_n 3, 1) := by decide +kernel
theorem dX11_obey_8 : decode cX11_obey 8 = .ok (.aload_n 1, 1) := by decide +kernel
theorem dX11_obey_9 : decode cX11_obey 9 = .ok (.iload_n 2, 1) := by decide +kernel
theorem dX11_obey_10 : decode cX11_obey 10 = .ok (.iconst 2, 1) := by decide +kernel
theorem dX11_obey_11 : decode cX11_obey 11 = .ok (.iadd, 1) := by decide +kernel
theorem dX11_obey_12 : decode cX11_obey 12 = .ok (.invokevirtual 287, 3) := by decide +kernel
theorem dX11_obey_15 : decode cX11_obey 15 = .ok (.istore 4, 2) := by decide +kernel
theorem dX11_obey_17 : decode cX11_obey 17 = .ok (.aload_n 1, 1) := by decide +kernel
theorem dX11_obey_18 : decode cX11_obey 18 = .ok (.iload_n 2, 1) := by decide +kernel
theorem dX11_obey_19 : decode cX11_obey 19 = .ok (.iconst 3, 1) := by decide +kernel
theorem dX11_obey_20 : decode cX11_obey 20 = .ok (.iadd, 1) := by decide +kernel
theorem dX11_obey_21 : decode cX11_obey 21 = .ok (.invokevirtual 287, 3) := by decide +kernel
theorem dX11_obey_24 : decode cX11_obey 24 = .ok (.istore 5, 2) := by decide +kernel
theorem dX11_obey_26 : decode cX11_obey 26 = .ok (.aload_n 1, 1) := by decide +kernel
theorem dX11_obey_27 : decode cX11_obey 27 = .ok (.iload_n 2, 1) := by decide +kernel
theorem dX11_obey_28 : decode cX11_obey 28 = .ok (.invokevirtual 200, 3) := by decide +kernel
theorem dX11_obey_31 : decode cX11_obey 31 = .ok (.lookupswitch 96 #[(100, 68), (103, 54), (107, 33)], 33) := by decide +kernel
theorem dX11_obey_64 : decode cX11_obey 64 = .ok (.aload_n 0, 1) := by decide +kernel
theorem dX11_obey_65 : decode cX11_obey 65 = .ok (.bipush 10, 2) := by decide +kernel
theorem dX11_obey_67 : decode cX11_obey 67 = .ok (.iload_n 3, 1) := by decide +kernel
theorem dX11_obey_68 : decode cX11_obey 68 = .ok (.imul, 1) := by decide +kernel
theorem dX11_obey_69 : decode cX11_obey 69 = .ok (.iload 4, 2) := by decide +kernel
theorem dX11_obey_71 : decode cX11_obey 71 = .ok (.iadd, 1) := by decide +kernel
theorem dX11_obey_72 : decode cX11_obey 72 = .ok (.iload 5, 2) := by decide +kernel
theorem dX11_obey_74 : decode cX11_obey 74 = .ok (.aload_n 1, 1) := by decide +kernel
theorem dX11_obey_75 : decode cX11_obey 75 = .ok (.iload_n 2, 1) := by decide +kernel
theorem dX11_obey_76 : decode cX11_obey 76 = .ok (.iconst 4, 1) := by decide +kernel
theorem dX11_obey_77 : decode cX11_obey 77 = .ok (.iadd, 1) := by decide +kernel
theorem dX11_obey_78 : decode cX11_obey 78 = .ok (.invokevirtual 287, 3) := by decide +kernel
theorem dX11_obey_81 : decode cX11_obey 81 = .ok (.invokevirtual 293, 3) := by decide +kernel
theorem dX11_obey_84 : decode cX11_obey 84 = .ok (.ireturn, 1) := by decide +kernel
theorem dX11_obey_85 : decode cX11_obey 85 = .ok (.aload_n 0, 1) := by decide +kernel
theorem dX11_obey_86 : decode cX11_obey 86 = .ok (.iload_n 3, 1) := by decide +kernel
theorem dX11_obey_87 : decode cX11_obey 87 = .ok (.bipush 10, 2) := by decide +kernel
theorem dX11_obey_89 : decode cX11_obey 89 = .ok (.iload 4, 2) := by decide +kernel
theorem dX11_obey_91 : decode cX11_obey 91 = .ok (.imul, 1) := by decide +kernel
theorem dX11_obey_92 : decode cX11_obey 92 = .ok (.iload 5, 2) := by decide +kernel
theorem dX11_obey_94 : decode cX11_obey 94 = .ok (.iadd, 1) := by decide +kernel
theorem dX11_obey_95 : decode cX11_obey 95 = .ok (.invokevirtual 296, 3) := by decide +kernel
theorem dX11_obey_98 : decode cX11_obey 98 = .ok (.ireturn, 1) := by decide +kernel
theorem dX11_obey_99 : decode cX11_obey 99 = .ok (.iload_n 3, 1) := by decide +kernel
theorem dX11_obey_100 : decode cX11_obey 100 = .ok (.iconst 2, 1) := by decide +kernel
theorem dX11_obey_101 : decode cX11_obey 101 = .ok (.invokestatic 69, 3) := by decide +kernel
theorem dX11_obey_104 : decode cX11_obey 104 = .ok (.ifCond .eq 21, 3) := by decide +kernel
theorem dX11_obey_107 : decode cX11_obey 107 = .ok (.aload_n 0, 1) := by decide +kernel
theorem dX11_obey_108 : decode cX11_obey 108 = .ok (.getfield 16, 3) := by decide +kernel
theorem dX11_obey_111 : decode cX11_obey 111 = .ok (.iload_n 3, 1) := by decide +kernel
theorem dX11_obey_112 : decode cX11_obey 112 = .ok (.iload 4, 2) := by decide +kernel
theorem dX11_obey_114 : decode cX11_obey 114 = .ok (.invokevirtual 106, 3) := by decide +kernel
theorem dX11_obey_117 : decode cX11_obey 117 = .ok (.iconst (-1), 1) := by decide +kernel
theorem dX11_obey_118 : decode cX11_obey 118 = .ok (.if_icmp .eq 7, 3) := by decide +kernel
theorem dX11_obey_121 : decode cX11_obey 121 = .ok (.iconst 1, 1) := by decide +kernel
theorem dX11_obey_122 : decode cX11_obey 122 = .ok (.goto 4, 3) := by decide +kernel
theorem dX11_obey_125 : decode cX11_obey 125 = .ok (.iconst 0, 1) := by decide +kernel
theorem dX11_obey_126 : decode cX11_obey 126 = .ok (.ireturn, 1) := by decide +kernel
theorem dX11_obey_127 : decode cX11_obey 127 = .ok (.iconst 0, 1) := by decide +kernel
theorem dX11_obey_128 : decode cX11_obey 128 = .ok (.ireturn, 1) := by decide +kernel
theorem dX11_obeyKind_0 : decode cX11_obeyKind 0 = .ok (.iload_n 1, 1) := by decide +kernel
theorem dX11_obeyKind_1 : decode cX11_obeyKind 1 = .ok (.bipush 20, 2) := by decide +kernel
theorem dX11_obeyKind_3 : decode cX11_obeyKind 3 = .ok (.invokestatic 69, 3) := by decide +kernel
theorem dX11_obeyKind_6 : decode cX11_obeyKind 6 = .ok (.ifCond .eq 12, 3) := by decide +kernel
theorem dX11_obeyKind_9 : decode cX11_obeyKind 9 = .ok (.iload_n 2, 1) := by decide +kernel
theorem dX11_obeyKind_10 : decode cX11_obeyKind 10 = .ok (.bipush 8, 2) := by decide +kernel
theorem dX11_obeyKind_12 : decode cX11_obeyKind 12 = .ok (.invokestatic 69, 3) := by decide +kernel
theorem dX11_obeyKind_15 : decode cX11_obeyKind 15 = .ok (.ifCond .ne 5, 3) := by decide +kernel
theorem dX11_obeyKind_18 : decode cX11_obeyKind 18 = .ok (.iconst 0, 1) := by decide +kernel
theorem dX11_obeyKind_19 : decode cX11_obeyKind 19 = .ok (.ireturn, 1) := by decide +kernel
theorem dX11_obeyKind_20 : decode cX11_obeyKind 20 = .ok (.aload_n 0, 1) := by decide +kernel
theorem dX11_obeyKind_21 : decode cX11_obeyKind 21 = .ok (.getfield 16, 3) := by decide +kernel
theorem dX11_obeyKind_24 : decode cX11_obeyKind 24 = .ok (.getfield 73, 3) := by decide +kernel
theorem dX11_obeyKind_27 : decode cX11_obeyKind 27 = .ok (.iload_n 1, 1) := by decide +kernel
theorem dX11_obeyKind_28 : decode cX11_obeyKind 28 = .ok (.iload_n 2, 1) := by decide +kernel
theorem dX11_obeyKind_29 : decode cX11_obeyKind 29 = .ok (.iload_n 3, 1) := by decide +kernel
theorem dX11_obeyKind_30 : decode cX11_obeyKind 30 = .ok (.invokestatic 157, 3) := by decide +kernel
theorem dX11_obeyKind_33 : decode cX11_obeyKind 33 = .ok (.aastore, 1) := by decide +kernel
theorem dX11_obeyKind_34 : decode cX11_obeyKind 34 = .ok (.iconst 1, 1) := by decide +kernel
theorem dX11_obeyKind_35 : decode cX11_obeyKind 35 = .ok (.ireturn, 1) := by decide +kernel
theorem dX11_obeyGang_0 : decode cX11_obeyGang 0 = .ok (.iload_n 1, 1) := by decide +kernel
theorem dX11_obeyGang_1 : decode cX11_obeyGang 1 = .ok (.iconst 2, 1) := by decide +kernel
theorem dX11_obeyGang_2 : decode cX11_obeyGang 2 = .ok (.invokestatic 69, 3) := by decide +kernel
theorem dX11_obeyGang_5 : decode cX11_obeyGang 5 = .ok (.ifCond .eq 12, 3) := by decide +kernel
theorem dX11_obeyGang_8 : decode cX11_obeyGang 8 = .ok (.iload_n 2, 1) := by decide +kernel
theorem dX11_obeyGang_9 : decode cX11_obeyGang 9 = .ok (.bipush 20, 2) := by decide +kernel
theorem dX11_obeyGang_11 : decode cX11_obeyGang 11 = .ok (.invokestatic 69, 3) := by decide +kernel
theorem dX11_obeyGang_14 : decode cX11_obeyGang 14 = .ok (.ifCond .ne 5, 3) := by decide +kernel
theorem dX11_obeyGang_17 : decode cX11_obeyGang 17 = .ok (.iconst 0, 1) := by decide +kernel
theorem dX11_obeyGang_18 : decode cX11_obeyGang 18 = .ok (.ireturn, 1) := by decide +kernel
theorem dX11_obeyGang_19 : decode cX11_obeyGang 19 = .ok (.aload_n 0, 1) := by decide +kernel
theorem dX11_obeyGang_20 : decode cX11_obeyGang 20 = .ok (.getfield 16, 3) := by decide +kernel
theorem dX11_obeyGang_23 : decode cX11_obeyGang 23 = .ok (.getfield 100, 3) := by decide +kernel
theorem dX11_obeyGang_26 : decode cX11_obeyGang 26 = .ok (.iload_n 1, 1) := by decide +kernel
theorem dX11_obeyGang_27 : decode cX11_obeyGang 27 = .ok (.iload_n 2, 1) := by decide +kernel
theorem dX11_obeyGang_28 : decode cX11_obeyGang 28 = .ok (.iastore, 1) := by decide +kernel
theorem dX11_obeyGang_29 : decode cX11_obeyGang 29 = .ok (.iconst 1, 1) := by decide +kernel
theorem dX11_obeyGang_30 : decode cX11_obeyGang 30 = .ok (.ireturn, 1) := by decide +kernel
theorem dX11_knockFrom_0 : decode cX11_knockFrom 0 = .ok (.aload_n 0, 1) := by decide +kernel
theorem dX11_knockFrom_1 : decode cX11_knockFrom 1 = .ok (.getfield 35, 3) := by decide +kernel
theorem dX11_knockFrom_4 : decode cX11_knockFrom 4 = .ok (.aload_n 0, 1) := by decide +kernel
theorem dX11_knockFrom_5 : decode cX11_knockFrom 5 = .ok (.getfield 12, 3) := by decide +kernel
theorem dX11_knockFrom_8 : decode cX11_knockFrom 8 = .ok (.invokevirtual 139, 3) := by decide +kernel
theorem dX11_knockFrom_11 : decode cX11_knockFrom 11 = .ok (.aload_n 0, 1) := by decide +kernel
theorem dX11_knockFrom_12 : decode cX11_knockFrom 12 = .ok (.getfield 35, 3) := by decide +kernel
theorem dX11_knockFrom_15 : decode cX11_knockFrom 15 = .ok (.iload_n 1, 1) := by decide +kernel
theorem dX11_knockFrom_16 : decode cX11_knockFrom 16 = .ok (.invokevirtual 142, 3) := by decide +kernel
theorem dX11_knockFrom_19 : decode cX11_knockFrom 19 = .ok (.return_, 1) := by decide +kernel
theorem dX11_tellsCells_0 : decode cX11_tellsCells 0 = .ok (.iconst 0, 1) := by decide +kernel
theorem dX11_tellsCells_1 : decode cX11_tellsCells 1 = .ok (.istore_n 2, 1) := by decide +kernel
theorem dX11_tellsCells_2 : decode cX11_tellsCells 2 = .ok (.iload_n 2, 1) := by decide +kernel
theorem dX11_tellsCells_3 : decode cX11_tellsCells 3 = .ok (.aload_n 0, 1) := by decide +kernel
theorem dX11_tellsCells_4 : decode cX11_tellsCells 4 = .ok (.getfield 132, 3) := by decide +kernel
theorem dX11_tellsCells_7 : decode cX11_tellsCells 7 = .ok (.if_icmp .ge 25, 3) := by decide +kernel
theorem dX11_tellsCells_10 : decode cX11_tellsCells 10 = .ok (.aload_n 0, 1) := by decide +kernel
theorem dX11_tellsCells_11 : decode cX11_tellsCells 11 = .ok (.iload_n 2, 1) := by decide +kernel
theorem dX11_tellsCells_12 : decode cX11_tellsCells 12 = .ok (.invokevirtual 200, 3) := by decide +kernel
theorem dX11_tellsCells_15 : decode cX11_tellsCells 15 = .ok (.bipush 20, 2) := by decide +kernel
theorem dX11_tellsCells_17 : decode cX11_tellsCells 17 = .ok (.invokestatic 69, 3) := by decide +kernel
theorem dX11_tellsCells_20 : decode cX11_tellsCells 20 = .ok (.ifCond .ne 5, 3) := by decide +kernel
theorem dX11_tellsCells_23 : decode cX11_tellsCells 23 = .ok (.iconst 0, 1) := by decide +kernel
theorem dX11_tellsCells_24 : decode cX11_tellsCells 24 = .ok (.ireturn, 1) := by decide +kernel
theorem dX11_tellsCells_25 : decode cX11_tellsCells 25 = .ok (.iload_n 2, 1) := by decide +kernel
theorem dX11_tellsCells_26 : decode cX11_tellsCells 26 = .ok (.iload_n 1, 1) := by decide +kernel
theorem dX11_tellsCells_27 : decode cX11_tellsCells 27 = .ok (.iadd, 1) := by decide +kernel
theorem dX11_tellsCells_28 : decode cX11_tellsCells 28 = .ok (.istore_n 2, 1) := by decide +kernel
theorem dX11_tellsCells_29 : decode cX11_tellsCells 29 = .ok (.goto (-27), 3) := by decide +kernel
theorem dX11_tellsCells_32 : decode cX11_tellsCells 32 = .ok (.iconst 1, 1) := by decide +kernel
theorem dX11_tellsCells_33 : decode cX11_tellsCells 33 = .ok (.ireturn, 1) := by decide +kernel
theorem dX11_mayHaveKnocked_0 : decode cX11_mayHaveKnocked 0 = .ok (.iconst 2, 1) := by decide +kernel
theorem dX11_mayHaveKnocked_1 : decode cX11_mayHaveKnocked 1 = .ok (.istore_n 2, 1) := by decide +kernel
theorem dX11_mayHaveKnocked_2 : decode cX11_mayHaveKnocked 2 = .ok (.iload_n 2, 1) := by decide +kernel
theorem dX11_mayHaveKnocked_3 : decode cX11_mayHaveKnocked 3 = .ok (.iconst 1, 1) := by decide +kernel
theorem dX11_mayHaveKnocked_4 : decode cX11_mayHaveKnocked 4 = .ok (.iadd, 1) := by decide +kernel
theorem dX11_mayHaveKnocked_5 : decode cX11_mayHaveKnocked 5 = .ok (.aload_n 1, 1) := by decide +kernel
theorem dX11_mayHaveKnocked_6 : decode cX11_mayHaveKnocked 6 = .ok (.getfield 132, 3) := by decide +kernel
theorem dX11_mayHaveKnocked_9 : decode cX11_mayHaveKnocked 9 = .ok (.if_icmp .ge 27, 3) := by decide +kernel
theorem dX11_mayHaveKnocked_12 : decode cX11_mayHaveKnocked 12 = .ok (.aload_n 0, 1) := by decide +kernel
theorem dX11_mayHaveKnocked_13 : decode cX11_mayHaveKnocked 13 = .ok (.aload_n 1, 1) := by decide +kernel
theorem dX11_mayHaveKnocked_14 : decode cX11_mayHaveKnocked 14 = .ok (.iload_n 2, 1) := by decide +kernel
theorem dX11_mayHaveKnocked_15 : decode cX11_mayHaveKnocked 15 = .ok (.invokevirtual 299, 3) := by decide +kernel
theorem dX11_mayHaveKnocked_18 : decode cX11_mayHaveKnocked 18 = .ok (.aload_n 0, 1) := by decide +kernel
theorem dX11_mayHaveKnocked_19 : decode cX11_mayHaveKnocked 19 = .ok (.aload_n 1, 1) := by decide +kernel
theorem dX11_mayHaveKnocked_20 : decode cX11_mayHaveKnocked 20 = .ok (.iconst 0, 1) := by decide +kernel
theorem dX11_mayHaveKnocked_21 : decode cX11_mayHaveKnocked 21 = .ok (.invokevirtual 299, 3) := by decide +kernel
theorem dX11_mayHaveKnocked_24 : decode cX11_mayHaveKnocked 24 = .ok (.lcmp, 1) := by decide +kernel
theorem dX11_mayHaveKnocked_25 : decode cX11_mayHaveKnocked 25 = .ok (.ifCond .eq 5, 3) := by decide +kernel
theorem dX11_mayHaveKnocked_28 : decode cX11_mayHaveKnocked 28 = .ok (.iconst 0, 1) := by decide +kernel
theorem dX11_mayHaveKnocked_29 : decode cX11_mayHaveKnocked 29 = .ok (.ireturn, 1) := by decide +kernel
theorem dX11_mayHaveKnocked_30 : decode cX11_mayHaveKnocked 30 = .ok (.iinc 2 2, 3) := by decide +kernel
theorem dX11_mayHaveKnocked_33 : decode cX11_mayHaveKnocked 33 = .ok (.goto (-31), 3) := by decide +kernel
theorem dX11_mayHaveKnocked_36 : decode cX11_mayHaveKnocked 36 = .ok (.iconst 1, 1) := by decide +kernel
theorem dX11_mayHaveKnocked_37 : decode cX11_mayHaveKnocked 37 = .ok (.ireturn, 1) := by decide +kernel
theorem dX11_hourOfKnock_0 : decode cX11_hourOfKnock 0 = .ok (.aload_n 1, 1) := by decide +kernel
theorem dX11_hourOfKnock_1 : decode cX11_hourOfKnock 1 = .ok (.iload_n 2, 1) := by decide +kernel
theorem dX11_hourOfKnock_2 : decode cX11_hourOfKnock 2 = .ok (.iconst 1, 1) := by decide +kernel
theorem dX11_hourOfKnock_3 : decode cX11_hourOfKnock 3 = .ok (.iadd, 1) := by decide +kernel
theorem dX11_hourOfKnock_4 : decode cX11_hourOfKnock 4 = .ok (.invokevirtual 200, 3) := by decide +kernel
theorem dX11_hourOfKnock_7 : decode cX11_hourOfKnock 7 = .ok (.i2l, 1) := by decide +kernel
theorem dX11_hourOfKnock_8 : decode cX11_hourOfKnock 8 = .ok (.aload_n 0, 1) := by decide +kernel
theorem dX11_hourOfKnock_9 : decode cX11_hourOfKnock 9 = .ok (.getfield 35, 3) := by decide +kernel
theorem dX11_hourOfKnock_12 : decode cX11_hourOfKnock 12 = .ok (.getfield 118, 3) := by decide +kernel
theorem dX11_hourOfKnock_15 : decode cX11_hourOfKnock 15 = .ok (.aload_n 1, 1) := by decide +kernel
theorem dX11_hourOfKnock_16 : decode cX11_hourOfKnock 16 = .ok (.iload_n 2, 1) := by decide +kernel
theorem dX11_hourOfKnock_17 : decode cX11_hourOfKnock 17 = .ok (.invokevirtual 200, 3) := by decide +kernel
theorem dX11_hourOfKnock_20 : decode cX11_hourOfKnock 20 = .ok (.iaload, 1) := by decide +kernel
theorem dX11_hourOfKnock_21 : decode cX11_hourOfKnock 21 = .ok (.i2l, 1) := by decide +kernel
theorem dX11_hourOfKnock_22 : decode cX11_hourOfKnock 22 = .ok (.lsub, 1) := by decide +kernel
theorem dX11_hourOfKnock_23 : decode cX11_hourOfKnock 23 = .ok (.lreturn, 1) := by decide +kernel
theorem dX11_takeTimes_0 : decode cX11_takeTimes 0 = .ok (.aload_n 0, 1) := by decide +kernel
theorem dX11_takeTimes_1 : decode cX11_takeTimes 1 = .ok (.getfield 35, 3) := by decide +kernel
theorem dX11_takeTimes_4 : decode cX11_takeTimes 4 = .ok (.aload_n 0, 1) := by decide +kernel
theorem dX11_takeTimes_5 : decode cX11_takeTimes 5 = .ok (.getfield 12, 3) := by decide +kernel
theorem dX11_takeTimes_8 : decode cX11_takeTimes 8 = .ok (.invokevirtual 139, 3) := by decide +kernel
theorem dX11_takeTimes_11 : decode cX11_takeTimes 11 = .ok (.iconst 0, 1) := by decide +kernel
theorem dX11_takeTimes_12 : decode cX11_takeTimes 12 = .ok (.istore_n 1, 1) := by decide +kernel
theorem dX11_takeTimes_13 : decode cX11_takeTimes 13 = .ok (.iload_n 1, 1) := by decide +kernel
theorem dX11_takeTimes_14 : decode cX11_takeTimes 14 = .ok (.bipush 20, 2) := by decide +kernel
theorem dX11_takeTimes_16 : decode cX11_takeTimes 16 = .ok (.if_icmp .ge 38, 3) := by decide +kernel
theorem dX11_takeTimes_19 : decode cX11_takeTimes 19 = .ok (.aload_n 0, 1) := by decide +kernel
theorem dX11_takeTimes_20 : decode cX11_takeTimes 20 = .ok (.getfield 35, 3) := by decide +kernel
theorem dX11_takeTimes_23 : decode cX11_takeTimes 23 = .ok (.iload_n 1, 1) := by decide +kernel
theorem dX11_takeTimes_24 : decode cX11_takeTimes 24 = .ok (.invokevirtual 142, 3) := by decide +kernel
theorem dX11_takeTimes_27 : decode cX11_takeTimes 27 = .ok (.aload_n 0, 1) := by decide +kernel
theorem dX11_takeTimes_28 : decode cX11_takeTimes 28 = .ok (.getfield 35, 3) := by decide +kernel
theorem dX11_takeTimes_31 : decode cX11_takeTimes 31 = .ok (.getfield 118, 3) := by decide +kernel
theorem dX11_takeTimes_34 : decode cX11_takeTimes 34 = .ok (.iconst 0, 1) := by decide +kernel
theorem dX11_takeTimes_35 : decode cX11_takeTimes 35 = .ok (.aload_n 0, 1) := by decide +kernel
theorem dX11_takeTimes_36 : decode cX11_takeTimes 36 = .ok (.getfield 42, 3) := by decide +kernel
theorem dX11_takeTimes_39 : decode cX11_takeTimes 39 = .ok (.iload_n 1, 1) := by decide +kernel
theorem dX11_takeTimes_40 : decode cX11_takeTimes 40 = .ok (.bipush 20, 2) := by decide +kernel
theorem dX11_takeTimes_42 : decode cX11_takeTimes 42 = .ok (.imul, 1) := by decide +kernel
theorem dX11_takeTimes_43 : decode cX11_takeTimes 43 = .ok (.bipush 20, 2) := by decide +kernel
theorem dX11_takeTimes_45 : decode cX11_takeTimes 45 = .ok (.invokestatic 243, 3) := by decide +kernel
theorem dX11_takeTimes_48 : decode cX11_takeTimes 48 = .ok (.iinc 1 1, 3) := by decide +kernel
theorem dX11_takeTimes_51 : decode cX11_takeTimes 51 = .ok (.goto (-38), 3) := by decide +kernel
theorem dX11_takeTimes_54 : decode cX11_takeTimes 54 = .ok (.return_, 1) := by decide +kernel
theorem dX11_mostAlike_0 : decode cX11_mostAlike 0 = .ok (.iconst 0, 1) := by decide +kernel
theorem dX11_mostAlike_1 : decode cX11_mostAlike 1 = .ok (.istore_n 3, 1) := by decide +kernel
theorem dX11_mostAlike_2 : decode cX11_mostAlike 2 = .ok (.iconst 0, 1) := by decide +kernel
theorem dX11_mostAlike_3 : decode cX11_mostAlike 3 = .ok (.istore 4, 2) := by decide +kernel
theorem dX11_mostAlike_5 : decode cX11_mostAlike 5 = .ok (.iload 4, 2) := by decide +kernel
theorem dX11_mostAlike_7 : decode cX11_mostAlike 7 = .ok (.aload_n 1, 1) := by decide +kernel
theorem dX11_mostAlike_8 : decode cX11_mostAlike 8 = .ok (.getfield 132, 3) := by decide +kernel
theorem dX11_mostAlike_11 : decode cX11_mostAlike 11 = .ok (.if_icmp .ge 80, 3) := by decide +kernel
theorem dX11_mostAlike_14 : decode cX11_mostAlike 14 = .ok (.aload_n 0, 1) := by decide +kernel
theorem dX11_mostAlike_15 : decode cX11_mostAlike 15 = .ok (.getfield 42, 3) := by decide +kernel
theorem dX11_mostAlike_18 : decode cX11_mostAlike 18 = .ok (.aload_n 1, 1) := by decide +kernel
theorem dX11_mostAlike_19 : decode cX11_mostAlike 19 = .ok (.iload 4, 2) := by decide +kernel
theorem dX11_mostAlike_21 : decode cX11_mostAlike 21 = .ok (.invokevirtual 200, 3) := by decide +kernel
theorem dX11_mostAlike_24 : decode cX11_mostAlike 24 = .ok (.bipush 20, 2) := by decide +kernel
theorem dX11_mostAlike_26 : decode cX11_mostAlike 26 = .ok (.imul, 1) := by decide +kernel
theorem dX11_mostAlike_27 : decode cX11_mostAlike 27 = .ok (.iload_n 2, 1) := by decide +kernel
theorem dX11_mostAlike_28 : decode cX11_mostAlike 28 = .ok (.iadd, 1) := by decide +kernel
theorem dX11_mostAlike_29 : decode cX11_mostAlike 29 = .ok (.iaload, 1) := by decide +kernel
theorem dX11_mostAlike_30 : decode cX11_mostAlike 30 = .ok (.istore 5, 2) := by decide +kernel
theorem dX11_mostAlike_32 : decode cX11_mostAlike 32 = .ok (.iconst 0, 1) := by decide +kernel
theorem dX11_mostAlike_33 : decode cX11_mostAlike 33 = .ok (.istore 6, 2) := by decide +kernel
theorem dX11_mostAlike_35 : decode cX11_mostAlike 35 = .ok (.iload 4, 2) := by decide +kernel
theorem dX11_mostAlike_37 : decode cX11_mostAlike 37 = .ok (.istore 7, 2) := by decide +kernel
theorem dX11_mostAlike_39 : decode cX11_mostAlike 39 = .ok (.iload 7, 2) := by decide +kernel
theorem dX11_mostAlike_41 : decode cX11_mostAlike 41 = .ok (.aload_n 1, 1) := by decide +kernel
theorem dX11_mostAlike_42 : decode cX11_mostAlike 42 = .ok (.getfield 132, 3) := by decide +kernel
theorem dX11_mostAlike_45 : decode cX11_mostAlike 45 = .ok (.if_icmp .ge 33, 3) := by decide +kernel
theorem dX11_mostAlike_48 : decode cX11_mostAlike 48 = .ok (.aload_n 0, 1) := by decide +kernel
theorem dX11_mostAlike_49 : decode cX11_mostAlike 49 = .ok (.getfield 42, 3) := by decide +kernel
theorem dX11_mostAlike_52 : decode cX11_mostAlike 52 = .ok (.aload_n 1, 1) := by decide +kernel
theorem dX11_mostAlike_53 : decode cX11_mostAlike 53 = .ok (.iload 7, 2) := by decide +kernel
theorem dX11_mostAlike_55 : decode cX11_mostAlike 55 = .ok (.invokevirtual 200, 3) := by decide +kernel
theorem dX11_mostAlike_58 : decode cX11_mostAlike 58 = .ok (.bipush 20, 2) := by decide +kernel
theorem dX11_mostAlike_60 : decode cX11_mostAlike 60 = .ok (.imul, 1) := by decide +kernel
theorem dX11_mostAlike_61 : decode cX11_mostAlike 61 = .ok (.iload_n 2, 1) := by decide +kernel
theorem dX11_mostAlike_62 : decode cX11_mostAlike 62 = .ok (.iadd, 1) := by decide +kernel
theorem dX11_mostAlike_63 : decode cX11_mostAlike 63 = .ok (.iaload, 1) := by decide +kernel
theorem dX11_mostAlike_64 : decode cX11_mostAlike 64 = .ok (.iload 5, 2) := by decide +kernel
theorem dX11_mostAlike_66 : decode cX11_mostAlike 66 = .ok (.if_icmp .ne 6, 3) := by decide +kernel
theorem dX11_mostAlike_69 : decode cX11_mostAlike 69 = .ok (.iinc 6 1, 3) := by decide +kernel
theorem dX11_mostAlike_72 : decode cX11_mostAlike 72 = .ok (.iinc 7 1, 3) := by decide +kernel
theorem dX11_mostAlike_75 : decode cX11_mostAlike 75 = .ok (.goto (-36), 3) := by decide +kernel
theorem dX11_mostAlike_78 : decode cX11_mostAlike 78 = .ok (.iload_n 3, 1) := by decide +kernel
theorem dX11_mostAlike_79 : decode cX11_mostAlike 79 = .ok (.iload 6, 2) := by decide +kernel
theorem dX11_mostAlike_81 : decode cX11_mostAlike 81 = .ok (.invokestatic 124, 3) := by decide +kernel
theorem dX11_mostAlike_84 : decode cX11_mostAlike 84 = .ok (.istore_n 3, 1) := by decide +kernel
theorem dX11_mostAlike_85 : decode cX11_mostAlike 85 = .ok (.iinc 4 1, 3) := by decide +kernel
theorem dX11_mostAlike_88 : decode cX11_mostAlike 88 = .ok (.goto (-83), 3) := by decide +kernel
theorem dX11_mostAlike_91 : decode cX11_mostAlike 91 = .ok (.iload_n 3, 1) := by decide +kernel
theorem dX11_mostAlike_92 : decode cX11_mostAlike 92 = .ok (.ireturn, 1) := by decide +kernel
theorem dX11_soonIn_0 : decode cX11_soonIn 0 = .ok (.aload_n 1, 1) := by decide +kernel
theorem dX11_soonIn_1 : decode cX11_soonIn 1 = .ok (.invokevirtual 110, 3) := by decide +kernel
theorem dX11_soonIn_4 : decode cX11_soonIn 4 = .ok (.ifCond .eq 5, 3) := by decide +kernel
theorem dX11_soonIn_7 : decode cX11_soonIn 7 = .ok (.iconst 0, 1) := by decide +kernel
theorem dX11_soonIn_8 : decode cX11_soonIn 8 = .ok (.ireturn, 1) := by decide +kernel
theorem dX11_soonIn_9 : decode cX11_soonIn 9 = .ok (.aload_n 0, 1) := by decide +kernel
theorem dX11_soonIn_10 : decode cX11_soonIn 10 = .ok (.getfield 35, 3) := by decide +kernel
theorem dX11_soonIn_13 : decode cX11_soonIn 13 = .ok (.aload_n 1, 1) := by decide +kernel
theorem dX11_soonIn_14 : decode cX11_soonIn 14 = .ok (.invokevirtual 161, 3) := by decide +kernel
theorem dX11_soonIn_17 : decode cX11_soonIn 17 = .ok (.aload_n 0, 1) := by decide +kernel
theorem dX11_soonIn_18 : decode cX11_soonIn 18 = .ok (.getfield 35, 3) := by decide +kernel
theorem dX11_soonIn_21 : decode cX11_soonIn 21 = .ok (.aload_n 1, 1) := by decide +kernel
theorem dX11_soonIn_22 : decode cX11_soonIn 22 = .ok (.getfield 100, 3) := by decide +kernel
theorem dX11_soonIn_25 : decode cX11_soonIn 25 = .ok (.iconst 0, 1) := by decide +kernel
theorem dX11_soonIn_26 : decode cX11_soonIn 26 = .ok (.iaload, 1) := by decide +kernel
theorem dX11_soonIn_27 : decode cX11_soonIn 27 = .ok (.invokevirtual 142, 3) := by decide +kernel
theorem dX11_soonIn_30 : decode cX11_soonIn 30 = .ok (.aload_n 0, 1) := by decide +kernel
theorem dX11_soonIn_31 : decode cX11_soonIn 31 = .ok (.getfield 39, 3) := by decide +kernel
theorem dX11_soonIn_34 : decode cX11_soonIn 34 = .ok (.aload_n 1, 1) := by decide +kernel
theorem dX11_soonIn_35 : decode cX11_soonIn 35 = .ok (.invokevirtual 161, 3) := by decide +kernel
theorem dX11_soonIn_38 : decode cX11_soonIn 38 = .ok (.aload_n 0, 1) := by decide +kernel
theorem dX11_soonIn_39 : decode cX11_soonIn 39 = .ok (.getfield 39, 3) := by decide +kernel
theorem dX11_soonIn_42 : decode cX11_soonIn 42 = .ok (.aload_n 1, 1) := by decide +kernel
theorem dX11_soonIn_43 : decode cX11_soonIn 43 = .ok (.getfield 100, 3) := by decide +kernel
theorem dX11_soonIn_46 : decode cX11_soonIn 46 = .ok (.iconst 1, 1) := by decide +kernel
theorem dX11_soonIn_47 : decode cX11_soonIn 47 = .ok (.iaload, 1) := by decide +kernel
theorem dX11_soonIn_48 : decode cX11_soonIn 48 = .ok (.invokevirtual 142, 3) := by decide +kernel
theorem dX11_soonIn_51 : decode cX11_soonIn 51 = .ok (.ldc 152, 2) := by decide +kernel
theorem dX11_soonIn_53 : decode cX11_soonIn 53 = .ok (.istore_n 2, 1) := by decide +kernel
theorem dX11_soonIn_54 : decode cX11_soonIn 54 = .ok (.iconst 0, 1) := by decide +kernel
theorem dX11_soonIn_55 : decode cX11_soonIn 55 = .ok (.istore_n 3, 1) := by decide +kernel
theorem dX11_soonIn_56 : decode cX11_soonIn 56 = .ok (.iload_n 3, 1) := by decide +kernel
theorem dX11_soonIn_57 : decode cX11_soonIn 57 = .ok (.bipush 20, 2) := by decide +kernel
theorem dX11_soonIn_59 : decode cX11_soonIn 59 = .ok (.if_icmp .ge 65, 3) := by decide +kernel
theorem dX11_soonIn_62 : decode cX11_soonIn 62 = .ok (.iconst 0, 1) := by decide +kernel
theorem dX11_soonIn_63 : decode cX11_soonIn 63 = .ok (.istore 4, 2) := by decide +kernel
theorem dX11_soonIn_65 : decode cX11_soonIn 65 = .ok (.iload 4, 2) := by decide +kernel
theorem dX11_soonIn_67 : decode cX11_soonIn 67 = .ok (.iconst 4, 1) := by decide +kernel
theorem dX11_soonIn_68 : decode cX11_soonIn 68 = .ok (.if_icmp .ge 50, 3) := by decide +kernel
theorem dX11_soonIn_71 : decode cX11_soonIn 71 = .ok (.iload_n 3, 1) := by decide +kernel
theorem dX11_soonIn_72 : decode cX11_soonIn 72 = .ok (.iload 4, 2) := by decide +kernel
theorem dX11_soonIn_74 : decode cX11_soonIn 74 = .ok (.invokestatic 303, 3) := by decide +kernel
theorem dX11_soonIn_77 : decode cX11_soonIn 77 = .ok (.istore 5, 2) := by decide +kernel
theorem dX11_soonIn_79 : decode cX11_soonIn 79 = .ok (.iload 5, 2) := by decide +kernel
theorem dX11_soonIn_81 : decode cX11_soonIn 81 = .ok (.iconst (-1), 1) := by decide +kernel
theorem dX11_soonIn_82 : decode cX11_soonIn 82 = .ok (.if_icmp .eq 30, 3) := by decide +kernel
theorem dX11_soonIn_85 : decode cX11_soonIn 85 = .ok (.iload_n 2, 1) := by decide +kernel
theorem dX11_soonIn_86 : decode cX11_soonIn 86 = .ok (.aload_n 0, 1) := by decide +kernel
theorem dX11_soonIn_87 : decode cX11_soonIn 87 = .ok (.getfield 35, 3) := by decide +kernel
theorem dX11_soonIn_90 : decode cX11_soonIn 90 = .ok (.getfield 118, 3) := by decide +kernel
theorem dX11_soonIn_93 : decode cX11_soonIn 93 = .ok (.iload_n 3, 1) := by decide +kernel
theorem dX11_soonIn_94 : decode cX11_soonIn 94 = .ok (.iaload, 1) := by decide +kernel
theorem dX11_soonIn_95 : decode cX11_soonIn 95 = .ok (.aload_n 0, 1) := by decide +kernel
theorem dX11_soonIn_96 : decode cX11_soonIn 96 = .ok (.getfield 39, 3) := by decide +kernel
theorem dX11_soonIn_99 : decode cX11_soonIn 99 = .ok (.getfield 118, 3) := by decide +kernel
theorem dX11_soonIn_102 : decode cX11_soonIn 102 = .ok (.iload 5, 2) := by decide +kernel
theorem dX11_soonIn_104 : decode cX11_soonIn 104 = .ok (.iaload, 1) := by decide +kernel
theorem dX11_soonIn_105 : decode cX11_soonIn 105 = .ok (.invokestatic 124, 3) := by decide +kernel
theorem dX11_soonIn_108 : decode cX11_soonIn 108 = .ok (.invokestatic 306, 3) := by decide +kernel
theorem dX11_soonIn_111 : decode cX11_soonIn 111 = .ok (.istore_n 2, 1) := by decide +kernel
theorem dX11_soonIn_112 : decode cX11_soonIn 112 = .ok (.iinc 4 1, 3) := by decide +kernel
theorem dX11_soonIn_115 : decode cX11_soonIn 115 = .ok (.goto (-50), 3) := by decide +kernel
theorem dX11_soonIn_118 : decode cX11_soonIn 118 = .ok (.iinc 3 1, 3) := by decide +kernel
theorem dX11_soonIn_121 : decode cX11_soonIn 121 = .ok (.goto (-65), 3) := by decide +kernel
theorem dX11_soonIn_124 : decode cX11_soonIn 124 = .ok (.iload_n 2, 1) := by decide +kernel
theorem dX11_soonIn_125 : decode cX11_soonIn 125 = .ok (.ireturn, 1) := by decide +kernel
theorem dX11_areAlike_0 : decode cX11_areAlike 0 = .ok (.iload_n 0, 1) := by decide +kernel
theorem dX11_areAlike_1 : decode cX11_areAlike 1 = .ok (.iload_n 1, 1) := by decide +kernel
theorem dX11_areAlike_2 : decode cX11_areAlike 2 = .ok (.iconst (-1), 1) := by decide +kernel
theorem dX11_areAlike_3 : decode cX11_areAlike 3 = .ok (.ixor, 1) := by decide +kernel
theorem dX11_areAlike_4 : decode cX11_areAlike 4 = .ok (.iand, 1) := by decide +kernel
theorem dX11_areAlike_5 : decode cX11_areAlike 5 = .ok (.invokestatic 179, 3) := by decide +kernel
theorem dX11_areAlike_8 : decode cX11_areAlike 8 = .ok (.iload_n 2, 1) := by decide +kernel
theorem dX11_areAlike_9 : decode cX11_areAlike 9 = .ok (.if_icmp .gt 19, 3) := by decide +kernel
theorem dX11_areAlike_12 : decode cX11_areAlike 12 = .ok (.iload_n 1, 1) := by decide +kernel
theorem dX11_areAlike_13 : decode cX11_areAlike 13 = .ok (.iload_n 0, 1) := by decide +kernel
theorem dX11_areAlike_14 : decode cX11_areAlike 14 = .ok (.iconst (-1), 1) := by decide +kernel
theorem dX11_areAlike_15 : decode cX11_areAlike 15 = .ok (.ixor, 1) := by decide +kernel
theorem dX11_areAlike_16 : decode cX11_areAlike 16 = .ok (.iand, 1) := by decide +kernel
theorem dX11_areAlike_17 : decode cX11_areAlike 17 = .ok (.invokestatic 179, 3) := by decide +kernel
theorem dX11_areAlike_20 : decode cX11_areAlike 20 = .ok (.iload_n 2, 1) := by decide +kernel
theorem dX11_areAlike_21 : decode cX11_areAlike 21 = .ok (.if_icmp .gt 7, 3) := by decide +kernel
theorem dX11_areAlike_24 : decode cX11_areAlike 24 = .ok (.iconst 1, 1) := by decide +kernel
theorem dX11_areAlike_25 : decode cX11_areAlike 25 = .ok (.goto 4, 3) := by decide +kernel
theorem dX11_areAlike_28 : decode cX11_areAlike 28 = .ok (.iconst 0, 1) := by decide +kernel
theorem dX11_areAlike_29 : decode cX11_areAlike 29 = .ok (.ireturn, 1) := by decide +kernel
theorem dX11_findClashes_0 : decode cX11_findClashes 0 = .ok (.iconst 0, 1) := by decide +kernel
theorem dX11_findClashes_1 : decode cX11_findClashes 1 = .ok (.istore_n 3, 1) := by decide +kernel
theorem dX11_findClashes_2 : decode cX11_findClashes 2 = .ok (.iload_n 3, 1) := by decide +kernel
theorem dX11_findClashes_3 : decode cX11_findClashes 3 = .ok (.bipush 8, 2) := by decide +kernel
theorem dX11_findClashes_5 : decode cX11_findClashes 5 = .ok (.if_icmp .ge 75, 3) := by decide +kernel
theorem dX11_findClashes_8 : decode cX11_findClashes 8 = .ok (.aload_n 0, 1) := by decide +kernel
theorem dX11_findClashes_9 : decode cX11_findClashes 9 = .ok (.getfield 46, 3) := by decide +kernel
theorem dX11_findClashes_12 : decode cX11_findClashes 12 = .ok (.iload_n 3, 1) := by decide +kernel
theorem dX11_findClashes_13 : decode cX11_findClashes 13 = .ok (.iconst 0, 1) := by decide +kernel
theorem dX11_findClashes_14 : decode cX11_findClashes 14 = .ok (.iastore, 1) := by decide +kernel
theorem dX11_findClashes_15 : decode cX11_findClashes 15 = .ok (.iload_n 3, 1) := by decide +kernel
theorem dX11_findClashes_16 : decode cX11_findClashes 16 = .ok (.iconst 1, 1) := by decide +kernel
theorem dX11_findClashes_17 : decode cX11_findClashes 17 = .ok (.iadd, 1) := by decide +kernel
theorem dX11_findClashes_18 : decode cX11_findClashes 18 = .ok (.istore 4, 2) := by decide +kernel
theorem dX11_findClashes_20 : decode cX11_findClashes 20 = .ok (.iload 4, 2) := by decide +kernel
theorem dX11_findClashes_22 : decode cX11_findClashes 22 = .ok (.aload_n 1, 1) := by decide +kernel
theorem dX11_findClashes_23 : decode cX11_findClashes 23 = .ok (.getfield 132, 3) := by decide +kernel
theorem dX11_findClashes_26 : decode cX11_findClashes 26 = .ok (.if_icmp .ge 48, 3) := by decide +kernel
theorem dX11_findClashes_29 : decode cX11_findClashes 29 = .ok (.aload_n 1, 1) := by decide +kernel
theorem dX11_findClashes_30 : decode cX11_findClashes 30 = .ok (.iload_n 3, 1) := by decide +kernel
theorem dX11_findClashes_31 : decode cX11_findClashes 31 = .ok (.invokevirtual 200, 3) := by decide +kernel
theorem dX11_findClashes_34 : decode cX11_findClashes 34 = .ok (.sipush 255, 3) := by decide +kernel
theorem dX11_findClashes_37 : decode cX11_findClashes 37 = .ok (.iand, 1) := by decide +kernel
theorem dX11_findClashes_38 : decode cX11_findClashes 38 = .ok (.aload_n 1, 1) := by decide +kernel
theorem dX11_findClashes_39 : decode cX11_findClashes 39 = .ok (.iload 4, 2) := by decide +kernel
theorem dX11_findClashes_41 : decode cX11_findClashes 41 = .ok (.invokevirtual 200, 3) := by decide +kernel
theorem dX11_findClashes_44 : decode cX11_findClashes 44 = .ok (.sipush 255, 3) := by decide +kernel
theorem dX11_findClashes_47 : decode cX11_findClashes 47 = .ok (.iand, 1) := by decide +kernel
theorem dX11_findClashes_48 : decode cX11_findClashes 48 = .ok (.iload_n 2, 1) := by decide +kernel
theorem dX11_findClashes_49 : decode cX11_findClashes 49 = .ok (.invokestatic 171, 3) := by decide +kernel
theorem dX11_findClashes_52 : decode cX11_findClashes 52 = .ok (.ifCond .eq 16, 3) := by decide +kernel
theorem dX11_findClashes_55 : decode cX11_findClashes 55 = .ok (.aload_n 0, 1) := by decide +kernel
theorem dX11_findClashes_56 : decode cX11_findClashes 56 = .ok (.getfield 46, 3) := by decide +kernel
theorem dX11_findClashes_59 : decode cX11_findClashes 59 = .ok (.iload_n 3, 1) := by decide +kernel
theorem dX11_findClashes_60 : decode cX11_findClashes 60 = .ok (.dup2, 1) := by decide +kernel
theorem dX11_findClashes_61 : decode cX11_findClashes 61 = .ok (.iaload, 1) := by decide +kernel
theorem dX11_findClashes_62 : decode cX11_findClashes 62 = .ok (.iconst 1, 1) := by decide +kernel
theorem dX11_findClashes_63 : decode cX11_findClashes 63 = .ok (.iload 4, 2) := by decide +kernel
theorem dX11_findClashes_65 : decode cX11_findClashes 65 = .ok (.ishl, 1) := by decide +kernel
theorem dX11_findClashes_66 : decode cX11_findClashes 66 = .ok (.ior, 1) := by decide +kernel
theorem dX11_findClashes_67 : decode cX11_findClashes 67 = .ok (.iastore, 1) := by decide +kernel
theorem dX11_findClashes_68 : decode cX11_findClashes 68 = .ok (.iinc 4 1, 3) := by decide +kernel
theorem dX11_findClashes_71 : decode cX11_findClashes 71 = .ok (.goto (-51), 3) := by decide +kernel
theorem dX11_findClashes_74 : decode cX11_findClashes 74 = .ok (.iinc 3 1, 3) := by decide +kernel
theorem dX11_findClashes_77 : decode cX11_findClashes 77 = .ok (.goto (-75), 3) := by decide +kernel
theorem dX11_findClashes_80 : decode cX11_findClashes 80 = .ok (.return_, 1) := by decide +kernel
theorem dX11_isWithoutClash_0 : decode cX11_isWithoutClash 0 = .ok (.iconst 0, 1) := by decide +kernel
theorem dX11_isWithoutClash_1 : decode cX11_isWithoutClash 1 = .ok (.istore_n 2, 1) := by decide +kernel
theorem dX11_isWithoutClash_2 : decode cX11_isWithoutClash 2 = .ok (.iload_n 2, 1) := by decide +kernel
theorem dX11_isWithoutClash_3 : decode cX11_isWithoutClash 3 = .ok (.bipush 8, 2) := by decide +kernel
theorem dX11_isWithoutClash_5 : decode cX11_isWithoutClash 5 = .ok (.if_icmp .ge 31, 3) := by decide +kernel
theorem dX11_isWithoutClash_8 : decode cX11_isWithoutClash 8 = .ok (.iload_n 1, 1) := by decide +kernel
theorem dX11_isWithoutClash_9 : decode cX11_isWithoutClash 9 = .ok (.iload_n 2, 1) := by decide +kernel
theorem dX11_isWithoutClash_10 : decode cX11_isWithoutClash 10 = .ok (.ishr, 1) := by decide +kernel
theorem dX11_isWithoutClash_11 : decode cX11_isWithoutClash 11 = .ok (.iconst 1, 1) := by decide +kernel
theorem dX11_isWithoutClash_12 : decode cX11_isWithoutClash 12 = .ok (.iand, 1) := by decide +kernel
theorem dX11_isWithoutClash_13 : decode cX11_isWithoutClash 13 = .ok (.iconst 1, 1) := by decide +kernel
theorem dX11_isWithoutClash_14 : decode cX11_isWithoutClash 14 = .ok (.if_icmp .ne 16, 3) := by decide +kernel
theorem dX11_isWithoutClash_17 : decode cX11_isWithoutClash 17 = .ok (.iload_n 1, 1) := by decide +kernel
theorem dX11_isWithoutClash_18 : decode cX11_isWithoutClash 18 = .ok (.aload_n 0, 1) := by decide +kernel
theorem dX11_isWithoutClash_19 : decode cX11_isWithoutClash 19 = .ok (.getfield 46, 3) := by decide +kernel
theorem dX11_isWithoutClash_22 : decode cX11_isWithoutClash 22 = .ok (.iload_n 2, 1) := by decide +kernel
theorem dX11_isWithoutClash_23 : decode cX11_isWithoutClash 23 = .ok (.iaload, 1) := by decide +kernel
theorem dX11_isWithoutClash_24 : decode cX11_isWithoutClash 24 = .ok (.iand, 1) := by decide +kernel
theorem dX11_isWithoutClash_25 : decode cX11_isWithoutClash 25 = .ok (.ifCond .eq 5, 3) := by decide +kernel
theorem dX11_isWithoutClash_28 : decode cX11_isWithoutClash 28 = .ok (.iconst 0, 1) := by decide +kernel
theorem dX11_isWithoutClash_29 : decode cX11_isWithoutClash 29 = .ok (.ireturn, 1) := by decide +kernel
theorem dX11_isWithoutClash_30 : decode cX11_isWithoutClash 30 = .ok (.iinc 2 1, 3) := by decide +kernel
theorem dX11_isWithoutClash_33 : decode cX11_isWithoutClash 33 = .ok (.goto (-31), 3) := by decide +kernel
theorem dX11_isWithoutClash_36 : decode cX11_isWithoutClash 36 = .ok (.iconst 1, 1) := by decide +kernel
theorem dX11_isWithoutClash_37 : decode cX11_isWithoutClash 37 = .ok (.ireturn, 1) := by decide +kernel
theorem dX11_nextSeed_0 : decode cX11_nextSeed 0 = .ok (.iload_n 0, 1) := by decide +kernel
theorem dX11_nextSeed_1 : decode cX11_nextSeed 1 = .ok (.ldc_w 309, 3) := by decide +kernel
theorem dX11_nextSeed_4 : decode cX11_nextSeed 4 = .ok (.imul, 1) := by decide +kernel
theorem dX11_nextSeed_5 : decode cX11_nextSeed 5 = .ok (.sipush 12345, 3) := by decide +kernel
theorem dX11_nextSeed_8 : decode cX11_nextSeed 8 = .ok (.iadd, 1) := by decide +kernel
theorem dX11_nextSeed_9 : decode cX11_nextSeed 9 = .ok (.ireturn, 1) := by decide +kernel
theorem dX11_draw_0 : decode cX11_draw 0 = .ok (.iload_n 0, 1) := by decide +kernel
theorem dX11_draw_1 : decode cX11_draw 1 = .ok (.ldc_w 310, 3) := by decide +kernel
theorem dX11_draw_4 : decode cX11_draw 4 = .ok (.iand, 1) := by decide +kernel
theorem dX11_draw_5 : decode cX11_draw 5 = .ok (.ldc_w 311, 3) := by decide +kernel
theorem dX11_draw_8 : decode cX11_draw 8 = .ok (.idiv, 1) := by decide +kernel
theorem dX11_draw_9 : decode cX11_draw 9 = .ok (.istore_n 2, 1) := by decide +kernel
theorem dX11_draw_10 : decode cX11_draw 10 = .ok (.iload_n 1, 1) := by decide +kernel
theorem dX11_draw_11 : decode cX11_draw 11 = .ok (.ifCond .le 9, 3) := by decide +kernel
theorem dX11_draw_14 : decode cX11_draw 14 = .ok (.iload_n 2, 1) := by decide +kernel
theorem dX11_draw_15 : decode cX11_draw 15 = .ok (.iload_n 1, 1) := by decide +kernel
theorem dX11_draw_16 : decode cX11_draw 16 = .ok (.irem, 1) := by decide +kernel
theorem dX11_draw_17 : decode cX11_draw 17 = .ok (.goto 4, 3) := by decide +kernel
theorem dX11_draw_20 : decode cX11_draw 20 = .ok (.iconst 0, 1) := by decide +kernel
theorem dX11_draw_21 : decode cX11_draw 21 = .ok (.ireturn, 1) := by decide +kernel
theorem dX12_init_0 : decode cX12_init 0 = .ok (.aload_n 0, 1) := by decide +kernel
theorem dX12_init_1 : decode cX12_init 1 = .ok (.invokespecial 1, 3) := by decide +kernel
theorem dX12_init_4 : decode cX12_init 4 = .ok (.aload_n 0, 1) := by decide +kernel
theorem dX12_init_5 : decode cX12_init 5 = .ok (.bipush 44, 2) := by decide +kernel
theorem dX12_init_7 : decode cX12_init 7 = .ok (.newarray .int, 2) := by decide +kernel
theorem dX12_init_9 : decode cX12_init 9 = .ok (.putfield 9, 3) := by decide +kernel
theorem dX12_init_12 : decode cX12_init 12 = .ok (.aload_n 0, 1) := by decide +kernel
theorem dX12_init_13 : decode cX12_init 13 = .ok (.bipush 44, 2) := by decide +kernel
theorem dX12_init_15 : decode cX12_init 15 = .ok (.newarray .int, 2) := by decide +kernel
theorem dX12_init_17 : decode cX12_init 17 = .ok (.putfield 13, 3) := by decide +kernel
theorem dX12_init_20 : decode cX12_init 20 = .ok (.aload_n 0, 1) := by decide +kernel
theorem dX12_init_21 : decode cX12_init 21 = .ok (.bipush 44, 2) := by decide +kernel
theorem dX12_init_23 : decode cX12_init 23 = .ok (.newarray .int, 2) := by decide +kernel
theorem dX12_init_25 : decode cX12_init 25 = .ok (.putfield 16, 3) := by decide +kernel
theorem dX12_init_28 : decode cX12_init 28 = .ok (.aload_n 0, 1) := by decide +kernel
theorem dX12_init_29 : decode cX12_init 29 = .ok (.bipush 44, 2) := by decide +kernel
theorem dX12_init_31 : decode cX12_init 31 = .ok (.newarray .int, 2) := by decide +kernel
theorem dX12_init_33 : decode cX12_init 33 = .ok (.putfield 19, 3) := by decide +kernel
theorem dX12_init_36 : decode cX12_init 36 = .ok (.aload_n 0, 1) := by decide +kernel
theorem dX12_init_37 : decode cX12_init 37 = .ok (.bipush 8, 2) := by decide +kernel
theorem dX12_init_39 : decode cX12_init 39 = .ok (.newarray .int, 2) := by decide +kernel
theorem dX12_init_41 : decode cX12_init 41 = .ok (.putfield 22, 3) := by decide +kernel
theorem dX12_init_44 : decode cX12_init 44 = .ok (.aload_n 0, 1) := by decide +kernel
theorem dX12_init_45 : decode cX12_init 45 = .ok (.bipush 8, 2) := by decide +kernel
theorem dX12_init_47 : decode cX12_init 47 = .ok (.newarray .int, 2) := by decide +kernel
theorem dX12_init_49 : decode cX12_init 49 = .ok (.putfield 25, 3) := by decide +kernel
theorem dX12_init_52 : decode cX12_init 52 = .ok (.aload_n 0, 1) := by decide +kernel
theorem dX12_init_53 : decode cX12_init 53 = .ok (.bipush 8, 2) := by decide +kernel
theorem dX12_init_55 : decode cX12_init 55 = .ok (.newarray .int, 2) := by decide +kernel
theorem dX12_init_57 : decode cX12_init 57 = .ok (.putfield 28, 3) := by decide +kernel
theorem dX12_init_60 : decode cX12_init 60 = .ok (.aload_n 0, 1) := by decide +kernel
theorem dX12_init_61 : decode cX12_init 61 = .ok (.sipush 800, 3) := by decide +kernel
theorem dX12_init_64 : decode cX12_init 64 = .ok (.newarray .int, 2) := by decide +kernel
theorem dX12_init_66 : decode cX12_init 66 = .ok (.putfield 31, 3) := by decide +kernel
theorem dX12_init_69 : decode cX12_init 69 = .ok (.aload_n 0, 1) := by decide +kernel
theorem dX12_init_70 : decode cX12_init 70 = .ok (.bipush 8, 2) := by decide +kernel
theorem dX12_init_72 : decode cX12_init 72 = .ok (.newarray .int, 2) := by decide +kernel
theorem dX12_init_74 : decode cX12_init 74 = .ok (.putfield 34, 3) := by decide +kernel
theorem dX12_init_77 : decode cX12_init 77 = .ok (.aload_n 0, 1) := by decide +kernel
theorem dX12_init_78 : decode cX12_init 78 = .ok (.bipush 8, 2) := by decide +kernel
theorem dX12_init_80 : decode cX12_init 80 = .ok (.newarray .int, 2) := by decide +kernel
theorem dX12_init_82 : decode cX12_init 82 = .ok (.putfield 37, 3) := by decide +kernel
theorem dX12_init_85 : decode cX12_init 85 = .ok (.aload_n 0, 1) := by decide +kernel
theorem dX12_init_86 : decode cX12_init 86 = .ok (.bipush 20, 2) := by decide +kernel
theorem dX12_init_88 : decode cX12_init 88 = .ok (.newarray .int, 2) := by decide +kernel
theorem dX12_init_90 : decode cX12_init 90 = .ok (.putfield 40, 3) := by decide +kernel
theorem dX12_init_93 : decode cX12_init 93 = .ok (.aload_n 0, 1) := by decide +kernel
theorem dX12_init_94 : decode cX12_init 94 = .ok (.bipush 20, 2) := by decide +kernel
theorem dX12_init_96 : decode cX12_init 96 = .ok (.newarray .int, 2) := by decide +kernel
theorem dX12_init_98 : decode cX12_init 98 = .ok (.putfield 43, 3) := by decide +kernel
theorem dX12_init_101 : decode cX12_init 101 = .ok (.aload_n 0, 1) := by decide +kernel
theorem dX12_init_102 : decode cX12_init 102 = .ok (.bipush 20, 2) := by decide +kernel
theorem dX12_init_104 : decode cX12_init 104 = .ok (.newarray .int, 2) := by decide +kernel
theorem dX12_init_106 : decode cX12_init 106 = .ok (.putfield 46, 3) := by decide +kernel
theorem dX12_init_109 : decode cX12_init 109 = .ok (.aload_n 0, 1) := by decide +kernel
theorem dX12_init_110 : decode cX12_init 110 = .ok (.iconst 4, 1) := by decide +kernel
theorem dX12_init_111 : decode cX12_init 111 = .ok (.newarray .int, 2) := by decide +kernel
theorem dX12_init_113 : decode cX12_init 113 = .ok (.putfield 49, 3) := by decide +kernel
theorem dX12_init_116 : decode cX12_init 116 = .ok (.aload_n 0, 1) := by decide +kernel
theorem dX12_init_117 : decode cX12_init 117 = .ok (.sipush 400, 3) := by decide +kernel
theorem dX12_init_120 : decode cX12_init 120 = .ok (.newarray .int, 2) := by decide +kernel
theorem dX12_init_122 : decode cX12_init 122 = .ok (.putfield 52, 3) := by decide +kernel
theorem dX12_init_125 : decode cX12_init 125 = .ok (.aload_n 0, 1) := by decide +kernel
theorem dX12_init_126 : decode cX12_init 126 = .ok (.bipush 20, 2) := by decide +kernel
theorem dX12_init_128 : decode cX12_init 128 = .ok (.newarray .int, 2) := by decide +kernel
theorem dX12_init_130 : decode cX12_init 130 = .ok (.putfield 55, 3) := by decide +kernel
theorem dX12_init_133 : decode cX12_init 133 = .ok (.aload_n 0, 1) := by decide +kernel
theorem dX12_init_134 : decode cX12_init 134 = .ok (.bipush 20, 2) := by decide +kernel
theorem dX12_init_136 : decode cX12_init 136 = .ok (.newarray .int, 2) := by decide +kernel
theorem dX12_init_138 : decode cX12_init 138 = .ok (.putfield 58, 3) := by decide +kernel
theorem dX12_init_141 : decode cX12_init 141 = .ok (.aload_n 0, 1) := by decide +kernel
theorem dX12_init_142 : decode cX12_init 142 = .ok (.getfield 9, 3) := by decide +kernel
theorem dX12_init_145 : decode cX12_init 145 = .ok (.bipush 42, 2) := by decide +kernel
theorem dX12_init_147 : decode cX12_init 147 = .ok (.bipush 19, 2) := by decide +kernel
theorem dX12_init_149 : decode cX12_init 149 = .ok (.iastore, 1) := by decide +kernel
theorem dX12_init_150 : decode cX12_init 150 = .ok (.return_, 1) := by decide +kernel
theorem dX12_thrown_0 : decode cX12_thrown 0 = .ok (.aload_n 0, 1) := by decide +kernel
theorem dX12_thrown_1 : decode cX12_thrown 1 = .ok (.getfield 61, 3) := by decide +kernel
theorem dX12_thrown_4 : decode cX12_thrown 4 = .ok (.ireturn, 1) := by decide +kernel
theorem dX12_isIn_0 : decode cX12_isIn 0 = .ok (.lload_n 0, 1) := by decide +kernel
theorem dX12_isIn_1 : decode cX12_isIn 1 = .ok (.lload_n 2, 1) := by decide +kernel
theorem dX12_isIn_2 : decode cX12_isIn 2 = .ok (.lcmp, 1) := by decide +kernel
theorem dX12_isIn_3 : decode cX12_isIn 3 = .ok (.ifCond .lt 14, 3) := by decide +kernel
theorem dX12_isIn_6 : decode cX12_isIn 6 = .ok (.lload_n 0, 1) := by decide +kernel
theorem dX12_isIn_7 : decode cX12_isIn 7 = .ok (.lload 4, 2) := by decide +kernel
theorem dX12_isIn_9 : decode cX12_isIn 9 = .ok (.lcmp, 1) := by decide +kernel
theorem dX12_isIn_10 : decode cX12_isIn 10 = .ok (.ifCond .gt 7, 3) := by decide +kernel
theorem dX12_isIn_13 : decode cX12_isIn 13 = .ok (.iconst 1, 1) := by decide +kernel
theorem dX12_isIn_14 : decode cX12_isIn 14 = .ok (.goto 4, 3) := by decide +kernel
theorem dX12_isIn_17 : decode cX12_isIn 17 = .ok (.iconst 0, 1) := by decide +kernel
theorem dX12_isIn_18 : decode cX12_isIn 18 = .ok (.ireturn, 1) := by decide +kernel
theorem dX12_isShelf_0 : decode cX12_isShelf 0 = .ok (.iload_n 0, 1) := by decide +kernel
theorem dX12_isShelf_1 : decode cX12_isShelf 1 = .ok (.i2l, 1) := by decide +kernel
theorem dX12_isShelf_2 : decode cX12_isShelf 2 = .ok (.lconst 0, 1) := by decide +kernel
theorem dX12_isShelf_3 : decode cX12_isShelf 3 = .ok (.ldc2_w 65, 3) := by decide +kernel
theorem dX12_isShelf_6 : decode cX12_isShelf 6 = .ok (.invokestatic 67, 3) := by decide +kernel
theorem dX12_isShelf_9 : decode cX12_isShelf 9 = .ok (.ireturn, 1) := by decide +kernel
theorem dX12_isCell_0 : decode cX12_isCell 0 = .ok (.iload_n 0, 1) := by decide +kernel
theorem dX12_isCell_1 : decode cX12_isCell 1 = .ok (.i2l, 1) := by decide +kernel
theorem dX12_isCell_2 : decode cX12_isCell 2 = .ok (.lconst 0, 1) := by decide +kernel
theorem dX12_isCell_3 : decode cX12_isCell 3 = .ok (.ldc2_w 71, 3) := by decide +kernel
theorem dX12_isCell_6 : decode cX12_isCell 6 = .ok (.invokestatic 67, 3) := by decide +kernel
theorem dX12_isCell_9 : decode cX12_isCell 9 = .ok (.ireturn, 1) := by decide +kernel
theorem dX12_isGang_0 : decode cX12_isGang 0 = .ok (.iload_n 0, 1) := by decide +kernel
theorem dX12_isGang_1 : decode cX12_isGang 1 = .ok (.i2l, 1) := by decide +kernel
theorem dX12_isGang_2 : decode cX12_isGang 2 = .ok (.lconst 0, 1) := by decide +kernel
theorem dX12_isGang_3 : decode cX12_isGang 3 = .ok (.lconst 1, 1) := by decide +kernel
theorem dX12_isGang_4 : decode cX12_isGang 4 = .ok (.invokestatic 67, 3) := by decide +kernel
theorem dX12_isGang_7 : decode cX12_isGang 7 = .ok (.ireturn, 1) := by decide +kernel
theorem dX12_lays_0 : decode cX12_lays 0 = .ok (.iconst 0, 1) := by decide +kernel
theorem dX12_lays_1 : decode cX12_lays 1 = .ok (.istore_n 2, 1) := by decide +kernel
theorem dX12_lays_2 : decode cX12_lays 2 = .ok (.iload_n 2, 1) := by decide +kernel
theorem dX12_lays_3 : decode cX12_lays 3 = .ok (.bipush 44, 2) := by decide +kernel
theorem dX12_lays_5 : decode cX12_lays 5 = .ok (.if_icmp .ge 15, 3) := by decide +kernel
theorem dX12_lays_8 : decode cX12_lays 8 = .ok (.aload_n 1, 1) := by decide +kernel
theorem dX12_lays_9 : decode cX12_lays 9 = .ok (.iload_n 2, 1) := by decide +kernel
theorem dX12_lays_10 : decode cX12_lays 10 = .ok (.aload_n 0, 1) := by decide +kernel
theorem dX12_lays_11 : decode cX12_lays 11 = .ok (.iload_n 2, 1) := by decide +kernel
theorem dX12_lays_12 : decode cX12_lays 12 = .ok (.iaload, 1) := by decide +kernel
theorem dX12_lays_13 : decode cX12_lays 13 = .ok (.iastore, 1) := by decide +kernel
theorem dX12_lays_14 : decode cX12_lays 14 = .ok (.iinc 2 1, 3) := by decide +kernel
theorem dX12_lays_17 : decode cX12_lays 17 = .ok (.goto (-15), 3) := by decide +kernel
theorem dX12_lays_20 : decode cX12_lays 20 = .ok (.return_, 1) := by decide +kernel
theorem dX12_begins_0 : decode cX12_begins 0 = .ok (.aload_n 0, 1) := by decide +kernel
theorem dX12_begins_1 : decode cX12_begins 1 = .ok (.getfield 9, 3) := by decide +kernel
theorem dX12_begins_4 : decode cX12_begins 4 = .ok (.aload_n 0, 1) := by decide +kernel
theorem dX12_begins_5 : decode cX12_begins 5 = .ok (.getfield 19, 3) := by decide +kernel
theorem dX12_begins_8 : decode cX12_begins 8 = .ok (.invokestatic 73, 3) := by decide +kernel
theorem dX12_begins_11 : decode cX12_begins 11 = .ok (.return_, 1) := by decide +kernel
theorem dX12_ends_0 : decode cX12_ends 0 = .ok (.aload_n 0, 1) := by decide +kernel
theorem dX12_ends_1 : decode cX12_ends 1 = .ok (.getfield 19, 3) := by decide +kernel
theorem dX12_ends_4 : decode cX12_ends 4 = .ok (.aload_n 0, 1) := by decide +kernel
theorem dX12_ends_5 : decode cX12_ends 5 = .ok (.getfield 9, 3) := by decide +kernel
theorem dX12_ends_8 : decode cX12_ends 8 = .ok (.invokestatic 73, 3) := by decide +kernel
theorem dX12_ends_11 : decode cX12_ends 11 = .ok (.return_, 1) := by decide +kernel
theorem dX12_kind_0 : decode cX12_kind 0 = .ok (.aload_n 0, 1) := by decide +kernel
theorem dX12_kind_1 : decode cX12_kind 1 = .ok (.getfield 9, 3) := by decide +kernel
theorem dX12_kind_4 : decode cX12_kind 4 = .ok (.iconst 2, 1) := by decide +kernel
theorem dX12_kind_5 : decode cX12_kind 5 = .ok (.iload_n 1, 1) := by decide +kernel
theorem dX12_kind_6 : decode cX12_kind 6 = .ok (.imul, 1) := by decide +kernel
theorem dX12_kind_7 : decode cX12_kind 7 = .ok (.iaload, 1) := by decide +kernel
theorem dX12_kind_8 : decode cX12_kind 8 = .ok (.ireturn, 1) := by decide +kernel
theorem dX12_figure_0 : decode cX12_figure 0 = .ok (.aload_n 0, 1) := by decide +kernel
theorem dX12_figure_1 : decode cX12_figure 1 = .ok (.getfield 9, 3) := by decide +kernel
theorem dX12_figure_4 : decode cX12_figure 4 = .ok (.iconst 2, 1) := by decide +kernel
theorem dX12_figure_5 : decode cX12_figure 5 = .ok (.iload_n 1, 1) := by decide +kernel
theorem dX12_figure_6 : decode cX12_figure 6 = .ok (.imul, 1) := by decide +kernel
theorem dX12_figure_7 : decode cX12_figure 7 = .ok (.iconst 1, 1) := by decide +kernel
theorem dX12_figure_8 : decode cX12_figure 8 = .ok (.iadd, 1) := by decide +kernel
theorem dX12_figure_9 : decode cX12_figure 9 = .ok (.iaload, 1) := by decide +kernel
theorem dX12_figure_10 : decode cX12_figure 10 = .ok (.ireturn, 1) := by decide +kernel
theorem dX12_setCell_0 : decode cX12_setCell 0 = .ok (.aload_n 0, 1) := by decide +kernel
theorem dX12_setCell_1 : decode cX12_setCell 1 = .ok (.getfield 9, 3) := by decide +kernel
theorem dX12_setCell_4 : decode cX12_setCell 4 = .ok (.iconst 2, 1) := by decide +kernel
theorem dX12_setCell_5 : decode cX12_setCell 5 = .ok (.iload_n 1, 1) := by decide +kernel
theorem dX12_setCell_6 : decode cX12_setCell 6 = .ok (.imul, 1) := by decide +kernel
theorem dX12_setCell_7 : decode cX12_setCell 7 = .ok (.iload_n 2, 1) := by decide +kernel
theorem dX12_setCell_8 : decode cX12_setCell 8 = .ok (.iastore, 1) := by decide +kernel
theorem dX12_setCell_9 : decode cX12_setCell 9 = .ok (.aload_n 0, 1) := by decide +kernel
theorem dX12_setCell_10 : decode cX12_setCell 10 = .ok (.getfield 9, 3) := by decide +kernel
theorem dX12_setCell_13 : decode cX12_setCell 13 = .ok (.iconst 2, 1) := by decide +kernel
theorem dX12_setCell_14 : decode cX12_setCell 14 = .ok (.iload_n 1, 1) := by decide +kernel
theorem dX12_setCell_15 : decode cX12_setCell 15 = .ok (.imul, 1) := by decide +kernel
theorem dX12_setCell_16 : decode cX12_setCell 16 = .ok (.iconst 1, 1) := by decide +kernel
theorem dX12_setCell_17 : decode cX12_setCell 17 = .ok (.iadd, 1) := by decide +kernel
theorem dX12_setCell_18 : decode cX12_setCell 18 = .ok (.iload_n 3, 1) := by decide +kernel
theorem dX12_setCell_19 : decode cX12_setCell 19 = .ok (.iastore, 1) := by decide +kernel
theorem dX12_setCell_20 : decode cX12_setCell 20 = .ok (.return_, 1) := by decide +kernel
theorem dX12_gangCell_0 : decode cX12_gangCell 0 = .ok (.aload_n 0, 1) := by decide +kernel
theorem dX12_gangCell_1 : decode cX12_gangCell 1 = .ok (.getfield 9, 3) := by decide +kernel
theorem dX12_gangCell_4 : decode cX12_gangCell 4 = .ok (.bipush 40, 2) := by decide +kernel
theorem dX12_gangCell_6 : decode cX12_gangCell 6 = .ok (.iconst 2, 1) := by decide +kernel
theorem dX12_gangCell_7 : decode cX12_gangCell 7 = .ok (.iload_n 1, 1) := by decide +kernel
theorem dX12_gangCell_8 : decode cX12_gangCell 8 = .ok (.imul, 1) := by decide +kernel
theorem dX12_gangCell_9 : decode cX12_gangCell 9 = .ok (.iadd, 1) := by decide +kernel
theorem dX12_gangCell_10 : decode cX12_gangCell 10 = .ok (.iaload, 1) := by decide +kernel
theorem dX12_gangCell_11 : decode cX12_gangCell 11 = .ok (.ireturn, 1) := by decide +kernel
theorem dX12_slowBy_0 : decode cX12_slowBy 0 = .ok (.iload_n 0, 1) := by decide +kernel
theorem dX12_slowBy_1 : decode cX12_slowBy 1 = .ok (.tableswitch 66 1 7 #[43, 45, 49, 55, 57, 59, 57], 43) := by decide +kernel
theorem dX12_slowBy_44 : decode cX12_slowBy 44 = .ok (.iconst 2, 1) := by decide +kernel
theorem dX12_slowBy_45 : decode cX12_slowBy 45 = .ok (.ireturn, 1) := by decide +kernel
theorem dX12_slowBy_46 : decode cX12_slowBy 46 = .ok (.iconst 4, 1) := by decide +kernel
theorem dX12_slowBy_47 : decode cX12_slowBy 47 = .ok (.iload_n 1, 1) := by decide +kernel
theorem dX12_slowBy_48 : decode cX12_slowBy 48 = .ok (.iadd, 1) := by decide +kernel
theorem dX12_slowBy_49 : decode cX12_slowBy 49 = .ok (.ireturn, 1) := by decide +kernel
theorem dX12_slowBy_50 : decode cX12_slowBy 50 = .ok (.iconst 4, 1) := by decide +kernel
theorem dX12_slowBy_51 : decode cX12_slowBy 51 = .ok (.iload_n 1, 1) := by decide +kernel
theorem dX12_slowBy_52 : decode cX12_slowBy 52 = .ok (.iadd, 1) := by decide +kernel
theorem dX12_slowBy_53 : decode cX12_slowBy 53 = .ok (.iconst 2, 1) := by decide +kernel
theorem dX12_slowBy_54 : decode cX12_slowBy 54 = .ok (.idiv, 1) := by decide +kernel
theorem dX12_slowBy_55 : decode cX12_slowBy 55 = .ok (.ireturn, 1) := by decide +kernel
theorem dX12_slowBy_56 : decode cX12_slowBy 56 = .ok (.iconst 3, 1) := by decide +kernel
theorem dX12_slowBy_57 : decode cX12_slowBy 57 = .ok (.ireturn, 1) := by decide +kernel
theorem dX12_slowBy_58 : decode cX12_slowBy 58 = .ok (.iconst 1, 1) := by decide +kernel
theorem dX12_slowBy_59 : decode cX12_slowBy 59 = .ok (.ireturn, 1) := by decide +kernel
theorem dX12_slowBy_60 : decode cX12_slowBy 60 = .ok (.bipush 8, 2) := by decide +kernel
theorem dX12_slowBy_62 : decode cX12_slowBy 62 = .ok (.iconst 2, 1) := by decide +kernel
theorem dX12_slowBy_63 : decode cX12_slowBy 63 = .ok (.iload_n 1, 1) := by decide +kernel
theorem dX12_slowBy_64 : decode cX12_slowBy 64 = .ok (.imul, 1) := by decide +kernel
theorem dX12_slowBy_65 : decode cX12_slowBy 65 = .ok (.iadd, 1) := by decide +kernel
theorem dX12_slowBy_66 : decode cX12_slowBy 66 = .ok (.ireturn, 1) := by decide +kernel
theorem dX12_slowBy_67 : decode cX12_slowBy 67 = .ok (.iconst 4, 1) := by decide +kernel
theorem dX12_slowBy_68 : decode cX12_slowBy 68 = .ok (.ireturn, 1) := by decide +kernel
theorem dX12_lossBy_0 : decode cX12_lossBy 0 = .ok (.iload_n 0, 1) := by decide +kernel
theorem dX12_lossBy_1 : decode cX12_lossBy 1 = .ok (.tableswitch 66 1 7 #[43, 45, 47, 60, 66, 62, 43], 43) := by decide +kernel
theorem dX12_lossBy_44 : decode cX12_lossBy 44 = .ok (.iconst 1, 1) := by decide +kernel
theorem dX12_lossBy_45 : decode cX12_lossBy 45 = .ok (.ireturn, 1) := by decide +kernel
theorem dX12_lossBy_46 : decode cX12_lossBy 46 = .ok (.iconst 5, 1) := by decide +kernel
theorem dX12_lossBy_47 : decode cX12_lossBy 47 = .ok (.ireturn, 1) := by decide +kernel
theorem dX12_lossBy_48 : decode cX12_lossBy 48 = .ok (.iload_n 1, 1) := by decide +kernel
theorem dX12_lossBy_49 : decode cX12_lossBy 49 = .ok (.iconst 5, 1) := by decide +kernel
theorem dX12_lossBy_50 : decode cX12_lossBy 50 = .ok (.if_icmp .le 7, 3) := by decide +kernel
theorem dX12_lossBy_53 : decode cX12_lossBy 53 = .ok (.iconst 0, 1) := by decide +kernel
theorem dX12_lossBy_54 : decode cX12_lossBy 54 = .ok (.goto 6, 3) := by decide +kernel
theorem dX12_lossBy_57 : decode cX12_lossBy 57 = .ok (.iconst 5, 1) := by decide +kernel
theorem dX12_lossBy_58 : decode cX12_lossBy 58 = .ok (.iload_n 1, 1) := by decide +kernel
theorem dX12_lossBy_59 : decode cX12_lossBy 59 = .ok (.isub, 1) := by decide +kernel
theorem dX12_lossBy_60 : decode cX12_lossBy 60 = .ok (.ireturn, 1) := by decide +kernel
theorem dX12_lossBy_61 : decode cX12_lossBy 61 = .ok (.iconst 0, 1) := by decide +kernel
theorem dX12_lossBy_62 : decode cX12_lossBy 62 = .ok (.ireturn, 1) := by decide +kernel
theorem dX12_lossBy_63 : decode cX12_lossBy 63 = .ok (.iconst 5, 1) := by decide +kernel
theorem dX12_lossBy_64 : decode cX12_lossBy 64 = .ok (.iload_n 1, 1) := by decide +kernel
theorem dX12_lossBy_65 : decode cX12_lossBy 65 = .ok (.iadd, 1) := by decide +kernel
theorem dX12_lossBy_66 : decode cX12_lossBy 66 = .ok (.ireturn, 1) := by decide +kernel
theorem dX12_lossBy_67 : decode cX12_lossBy 67 = .ok (.iconst 2, 1) := by decide +kernel
theorem dX12_lossBy_68 : decode cX12_lossBy 68 = .ok (.ireturn, 1) := by decide +kernel
theorem dX12_toilBy_0 : decode cX12_toilBy 0 = .ok (.iload_n 0, 1) := by decide +kernel
theorem dX12_toilBy_1 : decode cX12_toilBy 1 = .ok (.tableswitch 66 1 7 #[43, 46, 48, 54, 59, 61, 64], 43) := by decide +kernel
theorem dX12_toilBy_44 : decode cX12_toilBy 44 = .ok (.bipush 10, 2) := by decide +kernel
theorem dX12_toilBy_46 : decode cX12_toilBy 46 = .ok (.ireturn, 1) := by decide +kernel
theorem dX12_toilBy_47 : decode cX12_toilBy 47 = .ok (.iconst 3, 1) := by decide +kernel
theorem dX12_toilBy_48 : decode cX12_toilBy 48 = .ok (.ireturn, 1) := by decide +kernel
theorem dX12_toilBy_49 : decode cX12_toilBy 49 = .ok (.iconst 3, 1) := by decide +kernel
theorem dX12_toilBy_50 : decode cX12_toilBy 50 = .ok (.iload_n 1, 1) := by decide +kernel
theorem dX12_toilBy_51 : decode cX12_toilBy 51 = .ok (.iconst 1, 1) := by decide +kernel
theorem dX12_toilBy_52 : decode cX12_toilBy 52 = .ok (.iadd, 1) := by decide +kernel
theorem dX12_toilBy_53 : decode cX12_toilBy 53 = .ok (.imul, 1) := by decide +kernel
theorem dX12_toilBy_54 : decode cX12_toilBy 54 = .ok (.ireturn, 1) := by decide +kernel
theorem dX12_toilBy_55 : decode cX12_toilBy 55 = .ok (.bipush 10, 2) := by decide +kernel
theorem dX12_toilBy_57 : decode cX12_toilBy 57 = .ok (.iload_n 1, 1) := by decide +kernel
theorem dX12_toilBy_58 : decode cX12_toilBy 58 = .ok (.iadd, 1) := by decide +kernel
theorem dX12_toilBy_59 : decode cX12_toilBy 59 = .ok (.ireturn, 1) := by decide +kernel
theorem dX12_toilBy_60 : decode cX12_toilBy 60 = .ok (.iconst 1, 1) := by decide +kernel
theorem dX12_toilBy_61 : decode cX12_toilBy 61 = .ok (.ireturn, 1) := by decide +kernel
theorem dX12_toilBy_62 : decode cX12_toilBy 62 = .ok (.bipush 7, 2) := by decide +kernel
theorem dX12_toilBy_64 : decode cX12_toilBy 64 = .ok (.ireturn, 1) := by decide +kernel
theorem dX12_toilBy_65 : decode cX12_toilBy 65 = .ok (.iconst 0, 1) := by decide +kernel
theorem dX12_toilBy_66 : decode cX12_toilBy 66 = .ok (.ireturn, 1) := by decide +kernel
theorem dX12_toilBy_67 : decode cX12_toilBy 67 = .ok (.iconst 5, 1) := by decide +kernel
theorem dX12_toilBy_68 : decode cX12_toilBy 68 = .ok (.ireturn, 1) := by decide +kernel
theorem dX12_slow_0 : decode cX12_slow 0 = .ok (.aload_n 0, 1) := by decide +kernel
theorem dX12_slow_1 : decode cX12_slow 1 = .ok (.iload_n 1, 1) := by decide +kernel
theorem dX12_slow_2 : decode cX12_slow 2 = .ok (.invokevirtual 77, 3) := by decide +kernel
theorem dX12_slow_5 : decode cX12_slow 5 = .ok (.aload_n 0, 1) := by decide +kernel
theorem dX12_slow_6 : decode cX12_slow 6 = .ok (.iload_n 1, 1) := by decide +kernel
theorem dX12_slow_7 : decode cX12_slow 7 = .ok (.invokevirtual 81, 3) := by decide +kernel
theorem dX12_slow_10 : decode cX12_slow 10 = .ok (.invokestatic 84, 3) := by decide +kernel
theorem dX12_slow_13 : decode cX12_slow 13 = .ok (.ireturn, 1) := by decide +kernel
theorem dX12_loss_0 : decode cX12_loss 0 = .ok (.aload_n 0, 1) := by decide +kernel
theorem dX12_loss_1 : decode cX12_loss 1 = .ok (.iload_n 1, 1) := by decide +kernel
theorem dX12_loss_2 : decode cX12_loss 2 = .ok (.invokevirtual 77, 3) := by decide +kernel
theorem dX12_loss_5 : decode cX12_loss 5 = .ok (.aload_n 0, 1) := by decide +kernel
theorem dX12_loss_6 : decode cX12_loss 6 = .ok (.iload_n 1, 1) := by decide +kernel
theorem dX12_loss_7 : decode cX12_loss 7 = .ok (.invokevirtual 81, 3) := by decide +kernel
theorem dX12_loss_10 : decode cX12_loss 10 = .ok (.invokestatic 88, 3) := by decide +kernel
theorem dX12_loss_13 : decode cX12_loss 13 = .ok (.ireturn, 1) := by decide +kernel
theorem dX12_toil_0 : decode cX12_toil 0 = .ok (.aload_n 0, 1) := by decide +kernel
theorem dX12_toil_1 : decode cX12_toil 1 = .ok (.iload_n 1, 1) := by decide +kernel
theorem dX12_toil_2 : decode cX12_toil 2 = .ok (.invokevirtual 77, 3) := by decide +kernel
theorem dX12_toil_5 : decode cX12_toil 5 = .ok (.aload_n 0, 1) := by decide +kernel
theorem dX12_toil_6 : decode cX12_toil 6 = .ok (.iload_n 1, 1) := by decide +kernel
theorem dX12_toil_7 : decode cX12_toil 7 = .ok (.invokevirtual 81, 3) := by decide +kernel
theorem dX12_toil_10 : decode cX12_toil 10 = .ok (.invokestatic 91, 3) := by decide +kernel
theorem dX12_toil_13 : decode cX12_toil 13 = .ok (.ireturn, 1) := by decide +kernel
theorem dX12_beside_0 : decode cX12_beside 0 = .ok (.iload_n 1, 1) := by decide +kernel
theorem dX12_beside_1 : decode cX12_beside 1 = .ok (.tableswitch 72 0 2 #[27, 41, 57], 27) := by decide +kernel
theorem dX12_beside_28 : decode cX12_beside 28 = .ok (.iload_n 0, 1) := by decide +kernel
theorem dX12_beside_29 : decode cX12_beside 29 = .ok (.iconst 5, 1) := by decide +kernel
theorem dX12_beside_30 : decode cX12_beside 30 = .ok (.if_icmp .lt 9, 3) := by decide +kernel
theorem dX12_beside_33 : decode cX12_beside 33 = .ok (.iload_n 0, 1) := by decide +kernel
theorem dX12_beside_34 : decode cX12_beside 34 = .ok (.iconst 5, 1) := by decide +kernel
theorem dX12_beside_35 : decode cX12_beside 35 = .ok (.isub, 1) := by decide +kernel
theorem dX12_beside_36 : decode cX12_beside 36 = .ok (.goto 5, 3) := by decide +kernel
theorem dX12_beside_39 : decode cX12_beside 39 = .ok (.bipush (-4), 2) := by decide +kernel
theorem dX12_beside_41 : decode cX12_beside 41 = .ok (.ireturn, 1) := by decide +kernel
theorem dX12_beside_42 : decode cX12_beside 42 = .ok (.iload_n 0, 1) := by decide +kernel
theorem dX12_beside_43 : decode cX12_beside 43 = .ok (.iconst 5, 1) := by decide +kernel
theorem dX12_beside_44 : decode cX12_beside 44 = .ok (.irem, 1) := by decide +kernel
theorem dX12_beside_45 : decode cX12_beside 45 = .ok (.iconst 4, 1) := by decide +kernel
theorem dX12_beside_46 : decode cX12_beside 46 = .ok (.if_icmp .ge 9, 3) := by decide +kernel
theorem dX12_beside_49 : decode cX12_beside 49 = .ok (.iload_n 0, 1) := by decide +kernel
theorem dX12_beside_50 : decode cX12_beside 50 = .ok (.iconst 1, 1) := by decide +kernel
theorem dX12_beside_51 : decode cX12_beside 51 = .ok (.iadd, 1) := by decide +kernel
theorem dX12_beside_52 : decode cX12_beside 52 = .ok (.goto 5, 3) := by decide +kernel
theorem dX12_beside_55 : decode cX12_beside 55 = .ok (.bipush (-4), 2) := by decide +kernel
theorem dX12_beside_57 : decode cX12_beside 57 = .ok (.ireturn, 1) := by decide +kernel
theorem dX12_beside_58 : decode cX12_beside 58 = .ok (.iload_n 0, 1) := by decide +kernel
theorem dX12_beside_59 : decode cX12_beside 59 = .ok (.bipush 15, 2) := by decide +kernel
theorem dX12_beside_61 : decode cX12_beside 61 = .ok (.if_icmp .ge 9, 3) := by decide +kernel
theorem dX12_beside_64 : decode cX12_beside 64 = .ok (.iload_n 0, 1) := by decide +kernel
theorem dX12_beside_65 : decode cX12_beside 65 = .ok (.iconst 5, 1) := by decide +kernel
theorem dX12_beside_66 : decode cX12_beside 66 = .ok (.iadd, 1) := by decide +kernel
theorem dX12_beside_67 : decode cX12_beside 67 = .ok (.goto 5, 3) := by decide +kernel
theorem dX12_beside_70 : decode cX12_beside 70 = .ok (.bipush (-4), 2) := by decide +kernel
theorem dX12_beside_72 : decode cX12_beside 72 = .ok (.ireturn, 1) := by decide +kernel
theorem dX12_beside_73 : decode cX12_beside 73 = .ok (.iload_n 0, 1) := by decide +kernel
theorem dX12_beside_74 : decode cX12_beside 74 = .ok (.iconst 5, 1) := by decide +kernel
theorem dX12_beside_75 : decode cX12_beside 75 = .ok (.irem, 1) := by decide +kernel
theorem dX12_beside_76 : decode cX12_beside 76 = .ok (.ifCond .le 9, 3) := by decide +kernel
theorem dX12_beside_79 : decode cX12_beside 79 = .ok (.iload_n 0, 1) := by decide +kernel
theorem dX12_beside_80 : decode cX12_beside 80 = .ok (.iconst 1, 1) := by decide +kernel
theorem dX12_beside_81 : decode cX12_beside 81 = .ok (.isub, 1) := by decide +kernel
theorem dX12_beside_82 : decode cX12_beside 82 = .ok (.goto 5, 3) := by decide +kernel
theorem dX12_beside_85 : decode cX12_beside 85 = .ok (.bipush (-4), 2) := by decide +kernel
theorem dX12_beside_87 : decode cX12_beside 87 = .ok (.ireturn, 1) := by decide +kernel
theorem dX12_digs_0 : decode cX12_digs 0 = .ok (.aload_n 0, 1) := by decide +kernel
theorem dX12_digs_1 : decode cX12_digs 1 = .ok (.iload_n 1, 1) := by decide +kernel
theorem dX12_digs_2 : decode cX12_digs 2 = .ok (.invokevirtual 94, 3) := by decide +kernel
theorem dX12_digs_5 : decode cX12_digs 5 = .ok (.iload_n 2, 1) := by decide +kernel
theorem dX12_digs_6 : decode cX12_digs 6 = .ok (.invokestatic 97, 3) := by decide +kernel
theorem dX12_digs_9 : decode cX12_digs 9 = .ok (.istore_n 3, 1) := by decide +kernel
theorem dX12_digs_10 : decode cX12_digs 10 = .ok (.iload_n 3, 1) := by decide +kernel
theorem dX12_digs_11 : decode cX12_digs 11 = .ok (.ifCond .ge 5, 3) := by decide +kernel
theorem dX12_digs_14 : decode cX12_digs 14 = .ok (.iconst 0, 1) := by decide +kernel
theorem dX12_digs_15 : decode cX12_digs 15 = .ok (.ireturn, 1) := by decide +kernel
theorem dX12_digs_16 : decode cX12_digs 16 = .ok (.aload_n 0, 1) := by decide +kernel
theorem dX12_digs_17 : decode cX12_digs 17 = .ok (.getfield 9, 3) := by decide +kernel
theorem dX12_digs_20 : decode cX12_digs 20 = .ok (.bipush 40, 2) := by decide +kernel
theorem dX12_digs_22 : decode cX12_digs 22 = .ok (.iconst 2, 1) := by decide +kernel
theorem dX12_digs_23 : decode cX12_digs 23 = .ok (.iload_n 1, 1) := by decide +kernel
theorem dX12_digs_24 : decode cX12_digs 24 = .ok (.imul, 1) := by decide +kernel
theorem dX12_digs_25 : decode cX12_digs 25 = .ok (.iadd, 1) := by decide +kernel
theorem dX12_digs_26 : decode cX12_digs 26 = .ok (.iload_n 3, 1) := by decide +kernel
theorem dX12_digs_27 : decode cX12_digs 27 = .ok (.iastore, 1) := by decide +kernel
theorem dX12_digs_28 : decode cX12_digs 28 = .ok (.aload_n 0, 1) := by decide +kernel
theorem dX12_digs_29 : decode cX12_digs 29 = .ok (.getfield 9, 3) := by decide +kernel
theorem dX12_digs_32 : decode cX12_digs 32 = .ok (.bipush 40, 2) := by decide +kernel
theorem dX12_digs_34 : decode cX12_digs 34 = .ok (.iconst 2, 1) := by decide +kernel
theorem dX12_digs_35 : decode cX12_digs 35 = .ok (.iload_n 1, 1) := by decide +kernel
theorem dX12_digs_36 : decode cX12_digs 36 = .ok (.imul, 1) := by decide +kernel
theorem dX12_digs_37 : decode cX12_digs 37 = .ok (.iadd, 1) := by decide +kernel
theorem dX12_digs_38 : decode cX12_digs 38 = .ok (.iconst 1, 1) := by decide +kernel
theorem dX12_digs_39 : decode cX12_digs 39 = .ok (.iadd, 1) := by decide +kernel
theorem dX12_digs_40 : decode cX12_digs 40 = .ok (.dup2, 1) := by decide +kernel
theorem dX12_digs_41 : decode cX12_digs 41 = .ok (.iaload, 1) := by decide +kernel
theorem dX12_digs_42 : decode cX12_digs 42 = .ok (.aload_n 0, 1) := by decide +kernel
theorem dX12_digs_43 : decode cX12_digs 43 = .ok (.iload_n 3, 1) := by decide +kernel
theorem dX12_digs_44 : decode cX12_digs 44 = .ok (.invokevirtual 100, 3) := by decide +kernel
theorem dX12_digs_47 : decode cX12_digs 47 = .ok (.iadd, 1) := by decide +kernel
theorem dX12_digs_48 : decode cX12_digs 48 = .ok (.iastore, 1) := by decide +kernel
theorem dX12_digs_49 : decode cX12_digs 49 = .ok (.aload_n 0, 1) := by decide +kernel
theorem dX12_digs_50 : decode cX12_digs 50 = .ok (.iload_n 3, 1) := by decide +kernel
theorem dX12_digs_51 : decode cX12_digs 51 = .ok (.bipush 7, 2) := by decide +kernel
theorem dX12_digs_53 : decode cX12_digs 53 = .ok (.iconst 0, 1) := by decide +kernel
theorem dX12_digs_54 : decode cX12_digs 54 = .ok (.invokevirtual 103, 3) := by decide +kernel
theorem dX12_digs_57 : decode cX12_digs 57 = .ok (.iconst 1, 1) := by decide +kernel
theorem dX12_digs_58 : decode cX12_digs 58 = .ok (.ireturn, 1) := by decide +kernel
theorem dX12_haveMet_0 : decode cX12_haveMet 0 = .ok (.aload_n 0, 1) := by decide +kernel
theorem dX12_haveMet_1 : decode cX12_haveMet 1 = .ok (.iconst 0, 1) := by decide +kernel
theorem dX12_haveMet_2 : decode cX12_haveMet 2 = .ok (.invokevirtual 94, 3) := by decide +kernel
theorem dX12_haveMet_5 : decode cX12_haveMet 5 = .ok (.istore_n 1, 1) := by decide +kernel
theorem dX12_haveMet_6 : decode cX12_haveMet 6 = .ok (.aload_n 0, 1) := by decide +kernel
theorem dX12_haveMet_7 : decode cX12_haveMet 7 = .ok (.iconst 1, 1) := by decide +kernel
theorem dX12_haveMet_8 : decode cX12_haveMet 8 = .ok (.invokevirtual 94, 3) := by decide +kernel
theorem dX12_haveMet_11 : decode cX12_haveMet 11 = .ok (.istore_n 2, 1) := by decide +kernel
theorem dX12_haveMet_12 : decode cX12_haveMet 12 = .ok (.iload_n 1, 1) := by decide +kernel
theorem dX12_haveMet_13 : decode cX12_haveMet 13 = .ok (.iload_n 2, 1) := by decide +kernel
theorem dX12_haveMet_14 : decode cX12_haveMet 14 = .ok (.if_icmp .ne 7, 3) := by decide +kernel
theorem dX12_haveMet_17 : decode cX12_haveMet 17 = .ok (.iconst 1, 1) := by decide +kernel
theorem dX12_haveMet_18 : decode cX12_haveMet 18 = .ok (.goto 4, 3) := by decide +kernel
theorem dX12_haveMet_21 : decode cX12_haveMet 21 = .ok (.iconst 0, 1) := by decide +kernel
theorem dX12_haveMet_22 : decode cX12_haveMet 22 = .ok (.istore_n 3, 1) := by decide +kernel
theorem dX12_haveMet_23 : decode cX12_haveMet 23 = .ok (.iconst 0, 1) := by decide +kernel
theorem dX12_haveMet_24 : decode cX12_haveMet 24 = .ok (.istore 4, 2) := by decide +kernel
theorem dX12_haveMet_26 : decode cX12_haveMet 26 = .ok (.iload 4, 2) := by decide +kernel
theorem dX12_haveMet_28 : decode cX12_haveMet 28 = .ok (.iconst 4, 1) := by decide +kernel
theorem dX12_haveMet_29 : decode cX12_haveMet 29 = .ok (.if_icmp .ge 29, 3) := by decide +kernel
theorem dX12_haveMet_32 : decode cX12_haveMet 32 = .ok (.iload_n 3, 1) := by decide +kernel
theorem dX12_haveMet_33 : decode cX12_haveMet 33 = .ok (.ifCond .ne 13, 3) := by decide +kernel
theorem dX12_haveMet_36 : decode cX12_haveMet 36 = .ok (.iload_n 1, 1) := by decide +kernel
theorem dX12_haveMet_37 : decode cX12_haveMet 37 = .ok (.iload 4, 2) := by decide +kernel
theorem dX12_haveMet_39 : decode cX12_haveMet 39 = .ok (.invokestatic 97, 3) := by decide +kernel
theorem dX12_haveMet_42 : decode cX12_haveMet 42 = .ok (.iload_n 2, 1) := by decide +kernel
theorem dX12_haveMet_43 : decode cX12_haveMet 43 = .ok (.if_icmp .ne 7, 3) := by decide +kernel
theorem dX12_haveMet_46 : decode cX12_haveMet 46 = .ok (.iconst 1, 1) := by decide +kernel
theorem dX12_haveMet_47 : decode cX12_haveMet 47 = .ok (.goto 4, 3) := by decide +kernel
theorem dX12_haveMet_50 : decode cX12_haveMet 50 = .ok (.iconst 0, 1) := by decide +kernel
theorem dX12_haveMet_51 : decode cX12_haveMet 51 = .ok (.istore_n 3, 1) := by decide +kernel
theorem dX12_haveMet_52 : decode cX12_haveMet 52 = .ok (.iinc 4 1, 3) := by decide +kernel
theorem dX12_haveMet_55 : decode cX12_haveMet 55 = .ok (.goto (-29), 3) := by decide +kernel
theorem dX12_haveMet_58 : decode cX12_haveMet 58 = .ok (.iload_n 3, 1) := by decide +kernel
theorem dX12_haveMet_59 : decode cX12_haveMet 59 = .ok (.ireturn, 1) := by decide +kernel
theorem dX12_isBetter_0 : decode cX12_isBetter 0 = .ok (.aload_n 0, 1) := by decide +kernel
theorem dX12_isBetter_1 : decode cX12_isBetter 1 = .ok (.getfield 40, 3) := by decide +kernel
theorem dX12_isBetter_4 : decode cX12_isBetter 4 = .ok (.iload_n 1, 1) := by decide +kernel
theorem dX12_isBetter_5 : decode cX12_isBetter 5 = .ok (.iaload, 1) := by decide +kernel
theorem dX12_isBetter_6 : decode cX12_isBetter 6 = .ok (.aload_n 0, 1) := by decide +kernel
theorem dX12_isBetter_7 : decode cX12_isBetter 7 = .ok (.iload_n 2, 1) := by decide +kernel
theorem dX12_isBetter_8 : decode cX12_isBetter 8 = .ok (.invokevirtual 107, 3) := by decide +kernel
theorem dX12_isBetter_11 : decode cX12_isBetter 11 = .ok (.iadd, 1) := by decide +kernel
theorem dX12_isBetter_12 : decode cX12_isBetter 12 = .ok (.istore_n 3, 1) := by decide +kernel
theorem dX12_isBetter_13 : decode cX12_isBetter 13 = .ok (.aload_n 0, 1) := by decide +kernel
theorem dX12_isBetter_14 : decode cX12_isBetter 14 = .ok (.getfield 43, 3) := by decide +kernel
theorem dX12_isBetter_17 : decode cX12_isBetter 17 = .ok (.iload_n 1, 1) := by decide +kernel
theorem dX12_isBetter_18 : decode cX12_isBetter 18 = .ok (.iaload, 1) := by decide +kernel
theorem dX12_isBetter_19 : decode cX12_isBetter 19 = .ok (.aload_n 0, 1) := by decide +kernel
theorem dX12_isBetter_20 : decode cX12_isBetter 20 = .ok (.iload_n 2, 1) := by decide +kernel
theorem dX12_isBetter_21 : decode cX12_isBetter 21 = .ok (.invokevirtual 110, 3) := by decide +kernel
theorem dX12_isBetter_24 : decode cX12_isBetter 24 = .ok (.iadd, 1) := by decide +kernel
theorem dX12_isBetter_25 : decode cX12_isBetter 25 = .ok (.istore 4, 2) := by decide +kernel
theorem dX12_isBetter_27 : decode cX12_isBetter 27 = .ok (.iload_n 3, 1) := by decide +kernel
theorem dX12_isBetter_28 : decode cX12_isBetter 28 = .ok (.aload_n 0, 1) := by decide +kernel
theorem dX12_isBetter_29 : decode cX12_isBetter 29 = .ok (.getfield 40, 3) := by decide +kernel
theorem dX12_isBetter_32 : decode cX12_isBetter 32 = .ok (.iload_n 2, 1) := by decide +kernel
theorem dX12_isBetter_33 : decode cX12_isBetter 33 = .ok (.iaload, 1) := by decide +kernel
theorem dX12_isBetter_34 : decode cX12_isBetter 34 = .ok (.if_icmp .gt 24, 3) := by decide +kernel
theorem dX12_isBetter_37 : decode cX12_isBetter 37 = .ok (.iload_n 3, 1) := by decide +kernel
theorem dX12_isBetter_38 : decode cX12_isBetter 38 = .ok (.aload_n 0, 1) := by decide +kernel
theorem dX12_isBetter_39 : decode cX12_isBetter 39 = .ok (.getfield 40, 3) := by decide +kernel
theorem dX12_isBetter_42 : decode cX12_isBetter 42 = .ok (.iload_n 2, 1) := by decide +kernel
theorem dX12_isBetter_43 : decode cX12_isBetter 43 = .ok (.iaload, 1) := by decide +kernel
theorem dX12_isBetter_44 : decode cX12_isBetter 44 = .ok (.if_icmp .ne 16, 3) := by decide +kernel
theorem dX12_isBetter_47 : decode cX12_isBetter 47 = .ok (.iload 4, 2) := by decide +kernel
theorem dX12_isBetter_49 : decode cX12_isBetter 49 = .ok (.aload_n 0, 1) := by decide +kernel
theorem dX12_isBetter_50 : decode cX12_isBetter 50 = .ok (.getfield 43, 3) := by decide +kernel
theorem dX12_isBetter_53 : decode cX12_isBetter 53 = .ok (.iload_n 2, 1) := by decide +kernel
theorem dX12_isBetter_54 : decode cX12_isBetter 54 = .ok (.iaload, 1) := by decide +kernel
theorem dX12_isBetter_55 : decode cX12_isBetter 55 = .ok (.if_icmp .lt 5, 3) := by decide +kernel
theorem dX12_isBetter_58 : decode cX12_isBetter 58 = .ok (.iconst 0, 1) := by decide +kernel
theorem dX12_isBetter_59 : decode cX12_isBetter 59 = .ok (.ireturn, 1) := by decide +kernel
theorem dX12_isBetter_60 : decode cX12_isBetter 60 = .ok (.aload_n 0, 1) := by decide +kernel
theorem dX12_isBetter_61 : decode cX12_isBetter 61 = .ok (.getfield 40, 3) := by decide +kernel
theorem dX12_isBetter_64 : decode cX12_isBetter 64 = .ok (.iload_n 2, 1) := by decide +kernel
theorem dX12_isBetter_65 : decode cX12_isBetter 65 = .ok (.iload_n 3, 1) := by decide +kernel
theorem dX12_isBetter_66 : decode cX12_isBetter 66 = .ok (.iastore, 1) := by decide +kernel
theorem dX12_isBetter_67 : decode cX12_isBetter 67 = .ok (.aload_n 0, 1) := by decide +kernel
theorem dX12_isBetter_68 : decode cX12_isBetter 68 = .ok (.getfield 43, 3) := by decide +kernel
theorem dX12_isBetter_71 : decode cX12_isBetter 71 = .ok (.iload_n 2, 1) := by decide +kernel
theorem dX12_isBetter_72 : decode cX12_isBetter 72 = .ok (.iload 4, 2) := by decide +kernel
theorem dX12_isBetter_74 : decode cX12_isBetter 74 = .ok (.iastore, 1) := by decide +kernel
theorem dX12_isBetter_75 : decode cX12_isBetter 75 = .ok (.iconst 1, 1) := by decide +kernel
theorem dX12_isBetter_76 : decode cX12_isBetter 76 = .ok (.ireturn, 1) := by decide +kernel
theorem dX12_finds_0 : decode cX12_finds 0 = .ok (.iconst 0, 1) := by decide +kernel
theorem dX12_finds_1 : decode cX12_finds 1 = .ok (.istore_n 2, 1) := by decide +kernel
theorem dX12_finds_2 : decode cX12_finds 2 = .ok (.iload_n 2, 1) := by decide +kernel
theorem dX12_finds_3 : decode cX12_finds 3 = .ok (.bipush 20, 2) := by decide +kernel
theorem dX12_finds_5 : decode cX12_finds 5 = .ok (.if_icmp .ge 43, 3) := by decide +kernel
theorem dX12_finds_8 : decode cX12_finds 8 = .ok (.aload_n 0, 1) := by decide +kernel
theorem dX12_finds_9 : decode cX12_finds 9 = .ok (.getfield 40, 3) := by decide +kernel
theorem dX12_finds_12 : decode cX12_finds 12 = .ok (.iload_n 2, 1) := by decide +kernel
theorem dX12_finds_13 : decode cX12_finds 13 = .ok (.iload_n 2, 1) := by decide +kernel
theorem dX12_finds_14 : decode cX12_finds 14 = .ok (.iload_n 1, 1) := by decide +kernel
theorem dX12_finds_15 : decode cX12_finds 15 = .ok (.if_icmp .ne 7, 3) := by decide +kernel
theorem dX12_finds_18 : decode cX12_finds 18 = .ok (.iconst 0, 1) := by decide +kernel
theorem dX12_finds_19 : decode cX12_finds 19 = .ok (.goto 5, 3) := by decide +kernel
theorem dX12_finds_22 : decode cX12_finds 22 = .ok (.ldc 113, 2) := by decide +kernel
theorem dX12_finds_24 : decode cX12_finds 24 = .ok (.iastore, 1) := by decide +kernel
theorem dX12_finds_25 : decode cX12_finds 25 = .ok (.aload_n 0, 1) := by decide +kernel
theorem dX12_finds_26 : decode cX12_finds 26 = .ok (.getfield 43, 3) := by decide +kernel
theorem dX12_finds_29 : decode cX12_finds 29 = .ok (.iload_n 2, 1) := by decide +kernel
theorem dX12_finds_30 : decode cX12_finds 30 = .ok (.iload_n 2, 1) := by decide +kernel
theorem dX12_finds_31 : decode cX12_finds 31 = .ok (.iload_n 1, 1) := by decide +kernel
theorem dX12_finds_32 : decode cX12_finds 32 = .ok (.if_icmp .ne 7, 3) := by decide +kernel
theorem dX12_finds_35 : decode cX12_finds 35 = .ok (.iconst 0, 1) := by decide +kernel
theorem dX12_finds_36 : decode cX12_finds 36 = .ok (.goto 5, 3) := by decide +kernel
theorem dX12_finds_39 : decode cX12_finds 39 = .ok (.ldc 113, 2) := by decide +kernel
theorem dX12_finds_41 : decode cX12_finds 41 = .ok (.iastore, 1) := by decide +kernel
theorem dX12_finds_42 : decode cX12_finds 42 = .ok (.iinc 2 1, 3) := by decide +kernel
theorem dX12_finds_45 : decode cX12_finds 45 = .ok (.goto (-43), 3) := by decide +kernel
theorem dX12_finds_48 : decode cX12_finds 48 = .ok (.iconst 1, 1) := by decide +kernel
theorem dX12_finds_49 : decode cX12_finds 49 = .ok (.istore_n 2, 1) := by decide +kernel
theorem dX12_finds_50 : decode cX12_finds 50 = .ok (.iload_n 2, 1) := by decide +kernel
theorem dX12_finds_51 : decode cX12_finds 51 = .ok (.ifCond .eq 73, 3) := by decide +kernel
theorem dX12_finds_54 : decode cX12_finds 54 = .ok (.iconst 0, 1) := by decide +kernel
theorem dX12_finds_55 : decode cX12_finds 55 = .ok (.istore_n 2, 1) := by decide +kernel
theorem dX12_finds_56 : decode cX12_finds 56 = .ok (.iconst 0, 1) := by decide +kernel
theorem dX12_finds_57 : decode cX12_finds 57 = .ok (.istore_n 3, 1) := by decide +kernel
theorem dX12_finds_58 : decode cX12_finds 58 = .ok (.iload_n 3, 1) := by decide +kernel
theorem dX12_finds_59 : decode cX12_finds 59 = .ok (.bipush 20, 2) := by decide +kernel
theorem dX12_finds_61 : decode cX12_finds 61 = .ok (.if_icmp .ge 60, 3) := by decide +kernel
theorem dX12_finds_64 : decode cX12_finds 64 = .ok (.iconst 0, 1) := by decide +kernel
theorem dX12_finds_65 : decode cX12_finds 65 = .ok (.istore 4, 2) := by decide +kernel
theorem dX12_finds_67 : decode cX12_finds 67 = .ok (.iload 4, 2) := by decide +kernel
theorem dX12_finds_69 : decode cX12_finds 69 = .ok (.iconst 4, 1) := by decide +kernel
theorem dX12_finds_70 : decode cX12_finds 70 = .ok (.if_icmp .ge 45, 3) := by decide +kernel
theorem dX12_finds_73 : decode cX12_finds 73 = .ok (.iload_n 3, 1) := by decide +kernel
theorem dX12_finds_74 : decode cX12_finds 74 = .ok (.iload 4, 2) := by decide +kernel
theorem dX12_finds_76 : decode cX12_finds 76 = .ok (.invokestatic 97, 3) := by decide +kernel
theorem dX12_finds_79 : decode cX12_finds 79 = .ok (.istore 5, 2) := by decide +kernel
theorem dX12_finds_81 : decode cX12_finds 81 = .ok (.iload 5, 2) := by decide +kernel
theorem dX12_finds_83 : decode cX12_finds 83 = .ok (.ifCond .lt 26, 3) := by decide +kernel
theorem dX12_finds_86 : decode cX12_finds 86 = .ok (.aload_n 0, 1) := by decide +kernel
theorem dX12_finds_87 : decode cX12_finds 87 = .ok (.getfield 40, 3) := by decide +kernel
theorem dX12_finds_90 : decode cX12_finds 90 = .ok (.iload_n 3, 1) := by decide +kernel
theorem dX12_finds_91 : decode cX12_finds 91 = .ok (.iaload, 1) := by decide +kernel
theorem dX12_finds_92 : decode cX12_finds 92 = .ok (.ldc 113, 2) := by decide +kernel
theorem dX12_finds_94 : decode cX12_finds 94 = .ok (.if_icmp .ge 15, 3) := by decide +kernel
theorem dX12_finds_97 : decode cX12_finds 97 = .ok (.aload_n 0, 1) := by decide +kernel
theorem dX12_finds_98 : decode cX12_finds 98 = .ok (.iload_n 3, 1) := by decide +kernel
theorem dX12_finds_99 : decode cX12_finds 99 = .ok (.iload 5, 2) := by decide +kernel
theorem dX12_finds_101 : decode cX12_finds 101 = .ok (.invokevirtual 114, 3) := by decide +kernel
theorem dX12_finds_104 : decode cX12_finds 104 = .ok (.ifCond .eq 5, 3) := by decide +kernel
theorem dX12_finds_107 : decode cX12_finds 107 = .ok (.iconst 1, 1) := by decide +kernel
theorem dX12_finds_108 : decode cX12_finds 108 = .ok (.istore_n 2, 1) := by decide +kernel
theorem dX12_finds_109 : decode cX12_finds 109 = .ok (.iinc 4 1, 3) := by decide +kernel
theorem dX12_finds_112 : decode cX12_finds 112 = .ok (.goto (-45), 3) := by decide +kernel
theorem dX12_finds_115 : decode cX12_finds 115 = .ok (.iinc 3 1, 3) := by decide +kernel
theorem dX12_finds_118 : decode cX12_finds 118 = .ok (.goto (-60), 3) := by decide +kernel
theorem dX12_finds_121 : decode cX12_finds 121 = .ok (.goto (-71), 3) := by decide +kernel
theorem dX12_finds_124 : decode cX12_finds 124 = .ok (.return_, 1) := by decide +kernel
theorem dX12_countsWays_0 : decode cX12_countsWays 0 = .ok (.aload_n 0, 1) := by decide +kernel
theorem dX12_countsWays_1 : decode cX12_countsWays 1 = .ok (.iload_n 1, 1) := by decide +kernel
theorem dX12_countsWays_2 : decode cX12_countsWays 2 = .ok (.invokevirtual 118, 3) := by decide +kernel
theorem dX12_countsWays_5 : decode cX12_countsWays 5 = .ok (.iconst 0, 1) := by decide +kernel
theorem dX12_countsWays_6 : decode cX12_countsWays 6 = .ok (.istore_n 2, 1) := by decide +kernel
theorem dX12_countsWays_7 : decode cX12_countsWays 7 = .ok (.iload_n 2, 1) := by decide +kernel
theorem dX12_countsWays_8 : decode cX12_countsWays 8 = .ok (.bipush 20, 2) := by decide +kernel
theorem dX12_countsWays_10 : decode cX12_countsWays 10 = .ok (.if_icmp .ge 25, 3) := by decide +kernel
theorem dX12_countsWays_13 : decode cX12_countsWays 13 = .ok (.aload_n 0, 1) := by decide +kernel
theorem dX12_countsWays_14 : decode cX12_countsWays 14 = .ok (.getfield 46, 3) := by decide +kernel
theorem dX12_countsWays_17 : decode cX12_countsWays 17 = .ok (.iload_n 2, 1) := by decide +kernel
theorem dX12_countsWays_18 : decode cX12_countsWays 18 = .ok (.iload_n 2, 1) := by decide +kernel
theorem dX12_countsWays_19 : decode cX12_countsWays 19 = .ok (.iload_n 1, 1) := by decide +kernel
theorem dX12_countsWays_20 : decode cX12_countsWays 20 = .ok (.if_icmp .ne 7, 3) := by decide +kernel
theorem dX12_countsWays_23 : decode cX12_countsWays 23 = .ok (.iconst 1, 1) := by decide +kernel
theorem dX12_countsWays_24 : decode cX12_countsWays 24 = .ok (.goto 4, 3) := by decide +kernel
theorem dX12_countsWays_27 : decode cX12_countsWays 27 = .ok (.iconst 0, 1) := by decide +kernel
theorem dX12_countsWays_28 : decode cX12_countsWays 28 = .ok (.iastore, 1) := by decide +kernel
theorem dX12_countsWays_29 : decode cX12_countsWays 29 = .ok (.iinc 2 1, 3) := by decide +kernel
theorem dX12_countsWays_32 : decode cX12_countsWays 32 = .ok (.goto (-25), 3) := by decide +kernel
theorem dX12_countsWays_35 : decode cX12_countsWays 35 = .ok (.iconst 0, 1) := by decide +kernel
theorem dX12_countsWays_36 : decode cX12_countsWays 36 = .ok (.istore_n 2, 1) := by decide +kernel
theorem dX12_countsWays_37 : decode cX12_countsWays 37 = .ok (.iconst 0, 1) := by decide +kernel
theorem dX12_countsWays_38 : decode cX12_countsWays 38 = .ok (.istore_n 3, 1) := by decide +kernel
theorem dX12_countsWays_39 : decode cX12_countsWays 39 = .ok (.iload_n 3, 1) := by decide +kernel
theorem dX12_countsWays_40 : decode cX12_countsWays 40 = .ok (.bipush 20, 2) := by decide +kernel
theorem dX12_countsWays_42 : decode cX12_countsWays 42 = .ok (.if_icmp .ge 30, 3) := by decide +kernel
theorem dX12_countsWays_45 : decode cX12_countsWays 45 = .ok (.aload_n 0, 1) := by decide +kernel
theorem dX12_countsWays_46 : decode cX12_countsWays 46 = .ok (.getfield 40, 3) := by decide +kernel
theorem dX12_countsWays_49 : decode cX12_countsWays 49 = .ok (.iload_n 3, 1) := by decide +kernel
theorem dX12_countsWays_50 : decode cX12_countsWays 50 = .ok (.iaload, 1) := by decide +kernel
theorem dX12_countsWays_51 : decode cX12_countsWays 51 = .ok (.iload_n 2, 1) := by decide +kernel
theorem dX12_countsWays_52 : decode cX12_countsWays 52 = .ok (.if_icmp .le 12, 3) := by decide +kernel
theorem dX12_countsWays_55 : decode cX12_countsWays 55 = .ok (.aload_n 0, 1) := by decide +kernel
theorem dX12_countsWays_56 : decode cX12_countsWays 56 = .ok (.getfield 40, 3) := by decide +kernel
theorem dX12_countsWays_59 : decode cX12_countsWays 59 = .ok (.iload_n 3, 1) := by decide +kernel
theorem dX12_countsWays_60 : decode cX12_countsWays 60 = .ok (.iaload, 1) := by decide +kernel
theorem dX12_countsWays_61 : decode cX12_countsWays 61 = .ok (.goto 4, 3) := by decide +kernel
theorem dX12_countsWays_64 : decode cX12_countsWays 64 = .ok (.iload_n 2, 1) := by decide +kernel
theorem dX12_countsWays_65 : decode cX12_countsWays 65 = .ok (.istore_n 2, 1) := by decide +kernel
theorem dX12_countsWays_66 : decode cX12_countsWays 66 = .ok (.iinc 3 1, 3) := by decide +kernel
theorem dX12_countsWays_69 : decode cX12_countsWays 69 = .ok (.goto (-30), 3) := by decide +kernel
theorem dX12_countsWays_72 : decode cX12_countsWays 72 = .ok (.iconst 1, 1) := by decide +kernel
theorem dX12_countsWays_73 : decode cX12_countsWays 73 = .ok (.istore_n 3, 1) := by decide +kernel
theorem dX12_countsWays_74 : decode cX12_countsWays 74 = .ok (.iload_n 3, 1) := by decide +kernel
theorem dX12_countsWays_75 : decode cX12_countsWays 75 = .ok (.iload_n 2, 1) := by decide +kernel
theorem dX12_countsWays_76 : decode cX12_countsWays 76 = .ok (.if_icmp .gt 103, 3) := by decide +kernel
theorem dX12_countsWays_79 : decode cX12_countsWays 79 = .ok (.iconst 0, 1) := by decide +kernel
theorem dX12_countsWays_80 : decode cX12_countsWays 80 = .ok (.istore 4, 2) := by decide +kernel
theorem dX12_countsWays_82 : decode cX12_countsWays 82 = .ok (.iload 4, 2) := by decide +kernel
theorem dX12_countsWays_84 : decode cX12_countsWays 84 = .ok (.bipush 20, 2) := by decide +kernel
theorem dX12_countsWays_86 : decode cX12_countsWays 86 = .ok (.if_icmp .ge 87, 3) := by decide +kernel
theorem dX12_countsWays_89 : decode cX12_countsWays 89 = .ok (.aload_n 0, 1) := by decide +kernel
theorem dX12_countsWays_90 : decode cX12_countsWays 90 = .ok (.getfield 40, 3) := by decide +kernel
theorem dX12_countsWays_93 : decode cX12_countsWays 93 = .ok (.iload 4, 2) := by decide +kernel
theorem dX12_countsWays_95 : decode cX12_countsWays 95 = .ok (.iaload, 1) := by decide +kernel
theorem dX12_countsWays_96 : decode cX12_countsWays 96 = .ok (.iload_n 3, 1) := by decide +kernel
theorem dX12_countsWays_97 : decode cX12_countsWays 97 = .ok (.if_icmp .eq 6, 3) := by decide +kernel
theorem dX12_countsWays_100 : decode cX12_countsWays 100 = .ok (.goto 67, 3) := by decide +kernel
theorem dX12_countsWays_103 : decode cX12_countsWays 103 = .ok (.iconst 0, 1) := by decide +kernel
theorem dX12_countsWays_104 : decode cX12_countsWays 104 = .ok (.istore 5, 2) := by decide +kernel
theorem dX12_countsWays_106 : decode cX12_countsWays 106 = .ok (.iload 5, 2) := by decide +kernel
theorem dX12_countsWays_108 : decode cX12_countsWays 108 = .ok (.iconst 4, 1) := by decide +kernel
theorem dX12_countsWays_109 : decode cX12_countsWays 109 = .ok (.if_icmp .ge 58, 3) := by decide +kernel
theorem dX12_countsWays_112 : decode cX12_countsWays 112 = .ok (.iload 4, 2) := by decide +kernel
theorem dX12_countsWays_114 : decode cX12_countsWays 114 = .ok (.iload 5, 2) := by decide +kernel
theorem dX12_countsWays_116 : decode cX12_countsWays 116 = .ok (.invokestatic 97, 3) := by decide +kernel
theorem dX12_countsWays_119 : decode cX12_countsWays 119 = .ok (.istore 6, 2) := by decide +kernel
theorem dX12_countsWays_121 : decode cX12_countsWays 121 = .ok (.iload 6, 2) := by decide +kernel
theorem dX12_countsWays_123 : decode cX12_countsWays 123 = .ok (.ifCond .lt 38, 3) := by decide +kernel
theorem dX12_countsWays_126 : decode cX12_countsWays 126 = .ok (.aload_n 0, 1) := by decide +kernel
theorem dX12_countsWays_127 : decode cX12_countsWays 127 = .ok (.getfield 40, 3) := by decide +kernel
theorem dX12_countsWays_130 : decode cX12_countsWays 130 = .ok (.iload 6, 2) := by decide +kernel
theorem dX12_countsWays_132 : decode cX12_countsWays 132 = .ok (.iaload, 1) := by decide +kernel
theorem dX12_countsWays_133 : decode cX12_countsWays 133 = .ok (.aload_n 0, 1) := by decide +kernel
theorem dX12_countsWays_134 : decode cX12_countsWays 134 = .ok (.iload 4, 2) := by decide +kernel
theorem dX12_countsWays_136 : decode cX12_countsWays 136 = .ok (.invokevirtual 107, 3) := by decide +kernel
theorem dX12_countsWays_139 : decode cX12_countsWays 139 = .ok (.iadd, 1) := by decide +kernel
theorem dX12_countsWays_140 : decode cX12_countsWays 140 = .ok (.iload_n 3, 1) := by decide +kernel
theorem dX12_countsWays_141 : decode cX12_countsWays 141 = .ok (.if_icmp .ne 20, 3) := by decide +kernel
theorem dX12_countsWays_144 : decode cX12_countsWays 144 = .ok (.aload_n 0, 1) := by decide +kernel
theorem dX12_countsWays_145 : decode cX12_countsWays 145 = .ok (.getfield 46, 3) := by decide +kernel
theorem dX12_countsWays_148 : decode cX12_countsWays 148 = .ok (.iload 4, 2) := by decide +kernel
theorem dX12_countsWays_150 : decode cX12_countsWays 150 = .ok (.dup2, 1) := by decide +kernel
theorem dX12_countsWays_151 : decode cX12_countsWays 151 = .ok (.iaload, 1) := by decide +kernel
theorem dX12_countsWays_152 : decode cX12_countsWays 152 = .ok (.aload_n 0, 1) := by decide +kernel
theorem dX12_countsWays_153 : decode cX12_countsWays 153 = .ok (.getfield 46, 3) := by decide +kernel
theorem dX12_countsWays_156 : decode cX12_countsWays 156 = .ok (.iload 6, 2) := by decide +kernel
theorem dX12_countsWays_158 : decode cX12_countsWays 158 = .ok (.iaload, 1) := by decide +kernel
theorem dX12_countsWays_159 : decode cX12_countsWays 159 = .ok (.iadd, 1) := by decide +kernel
theorem dX12_countsWays_160 : decode cX12_countsWays 160 = .ok (.iastore, 1) := by decide +kernel
theorem dX12_countsWays_161 : decode cX12_countsWays 161 = .ok (.iinc 5 1, 3) := by decide +kernel
theorem dX12_countsWays_164 : decode cX12_countsWays 164 = .ok (.goto (-58), 3) := by decide +kernel
theorem dX12_countsWays_167 : decode cX12_countsWays 167 = .ok (.iinc 4 1, 3) := by decide +kernel
theorem dX12_countsWays_170 : decode cX12_countsWays 170 = .ok (.goto (-88), 3) := by decide +kernel
theorem dX12_countsWays_173 : decode cX12_countsWays 173 = .ok (.iinc 3 1, 3) := by decide +kernel
theorem dX12_countsWays_176 : decode cX12_countsWays 176 = .ok (.goto (-102), 3) := by decide +kernel
theorem dX12_countsWays_179 : decode cX12_countsWays 179 = .ok (.return_, 1) := by decide +kernel
theorem dX12_timeOf_0 : decode cX12_timeOf 0 = .ok (.aload_n 0, 1) := by decide +kernel
theorem dX12_timeOf_1 : decode cX12_timeOf 1 = .ok (.iload_n 1, 1) := by decide +kernel
theorem dX12_timeOf_2 : decode cX12_timeOf 2 = .ok (.invokevirtual 118, 3) := by decide +kernel
theorem dX12_timeOf_5 : decode cX12_timeOf 5 = .ok (.aload_n 0, 1) := by decide +kernel
theorem dX12_timeOf_6 : decode cX12_timeOf 6 = .ok (.getfield 40, 3) := by decide +kernel
theorem dX12_timeOf_9 : decode cX12_timeOf 9 = .ok (.iload_n 2, 1) := by decide +kernel
theorem dX12_timeOf_10 : decode cX12_timeOf 10 = .ok (.iaload, 1) := by decide +kernel
theorem dX12_timeOf_11 : decode cX12_timeOf 11 = .ok (.ireturn, 1) := by decide +kernel
theorem dX12_here_0 : decode cX12_here 0 = .ok (.aload_n 0, 1) := by decide +kernel
theorem dX12_here_1 : decode cX12_here 1 = .ok (.getfield 122, 3) := by decide +kernel
theorem dX12_here_4 : decode cX12_here 4 = .ok (.aload_n 0, 1) := by decide +kernel
theorem dX12_here_5 : decode cX12_here 5 = .ok (.getfield 125, 3) := by decide +kernel
theorem dX12_here_8 : decode cX12_here 8 = .ok (.if_icmp .ge 20, 3) := by decide +kernel
theorem dX12_here_11 : decode cX12_here 11 = .ok (.aload_n 0, 1) := by decide +kernel
theorem dX12_here_12 : decode cX12_here 12 = .ok (.getfield 31, 3) := by decide +kernel
theorem dX12_here_15 : decode cX12_here 15 = .ok (.aload_n 0, 1) := by decide +kernel
