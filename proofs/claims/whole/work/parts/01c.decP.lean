theorem dP_init_0 : decode bP_init 0 = .ok (.aload_n 0, 1) := by decide +kernel
theorem dP_init_1 : decode bP_init 1 = .ok (.invokespecial 1, 3) := by decide +kernel
theorem dP_init_4 : decode bP_init 4 = .ok (.aload_n 0, 1) := by decide +kernel
theorem dP_init_5 : decode bP_init 5 = .ok (.iconst 4, 1) := by decide +kernel
theorem dP_init_6 : decode bP_init 6 = .ok (.anewarray 9, 3) := by decide +kernel
theorem dP_init_9 : decode bP_init 9 = .ok (.putfield 11, 3) := by decide +kernel
theorem dP_init_12 : decode bP_init 12 = .ok (.iconst 0, 1) := by decide +kernel
theorem dP_init_13 : decode bP_init 13 = .ok (.istore_n 1, 1) := by decide +kernel
theorem dP_init_14 : decode bP_init 14 = .ok (.iload_n 1, 1) := by decide +kernel
theorem dP_init_15 : decode bP_init 15 = .ok (.iconst 4, 1) := by decide +kernel
theorem dP_init_16 : decode bP_init 16 = .ok (.if_icmp .ge 22, 3) := by decide +kernel
theorem dP_init_19 : decode bP_init 19 = .ok (.aload_n 0, 1) := by decide +kernel
theorem dP_init_20 : decode bP_init 20 = .ok (.getfield 11, 3) := by decide +kernel
theorem dP_init_23 : decode bP_init 23 = .ok (.iload_n 1, 1) := by decide +kernel
theorem dP_init_24 : decode bP_init 24 = .ok (.new 9, 3) := by decide +kernel
theorem dP_init_27 : decode bP_init 27 = .ok (.dup, 1) := by decide +kernel
theorem dP_init_28 : decode bP_init 28 = .ok (.invokespecial 15, 3) := by decide +kernel
theorem dP_init_31 : decode bP_init 31 = .ok (.aastore, 1) := by decide +kernel
theorem dP_init_32 : decode bP_init 32 = .ok (.iinc 1 1, 3) := by decide +kernel
theorem dP_init_35 : decode bP_init 35 = .ok (.goto (-21), 3) := by decide +kernel
theorem dP_init_38 : decode bP_init 38 = .ok (.aload_n 0, 1) := by decide +kernel
theorem dP_init_39 : decode bP_init 39 = .ok (.new 9, 3) := by decide +kernel
theorem dP_init_42 : decode bP_init 42 = .ok (.dup, 1) := by decide +kernel
theorem dP_init_43 : decode bP_init 43 = .ok (.invokespecial 15, 3) := by decide +kernel
theorem dP_init_46 : decode bP_init 46 = .ok (.putfield 16, 3) := by decide +kernel
theorem dP_init_49 : decode bP_init 49 = .ok (.aload_n 0, 1) := by decide +kernel
theorem dP_init_50 : decode bP_init 50 = .ok (.new 20, 3) := by decide +kernel
theorem dP_init_53 : decode bP_init 53 = .ok (.dup, 1) := by decide +kernel
theorem dP_init_54 : decode bP_init 54 = .ok (.invokespecial 22, 3) := by decide +kernel
theorem dP_init_57 : decode bP_init 57 = .ok (.putfield 23, 3) := by decide +kernel
theorem dP_init_60 : decode bP_init 60 = .ok (.aload_n 0, 1) := by decide +kernel
theorem dP_init_61 : decode bP_init 61 = .ok (.new 27, 3) := by decide +kernel
theorem dP_init_64 : decode bP_init 64 = .ok (.dup, 1) := by decide +kernel
theorem dP_init_65 : decode bP_init 65 = .ok (.invokespecial 29, 3) := by decide +kernel
theorem dP_init_68 : decode bP_init 68 = .ok (.putfield 30, 3) := by decide +kernel
theorem dP_init_71 : decode bP_init 71 = .ok (.return_, 1) := by decide +kernel
theorem dP_write_0 : decode bP_write 0 = .ok (.aload_n 0, 1) := by decide +kernel
theorem dP_write_1 : decode bP_write 1 = .ok (.iload_n 1, 1) := by decide +kernel
theorem dP_write_2 : decode bP_write 2 = .ok (.invokevirtual 34, 3) := by decide +kernel
theorem dP_write_5 : decode bP_write 5 = .ok (.astore 5, 2) := by decide +kernel
theorem dP_write_7 : decode bP_write 7 = .ok (.iload 4, 2) := by decide +kernel
theorem dP_write_9 : decode bP_write 9 = .ok (.iconst 1, 1) := by decide +kernel
theorem dP_write_10 : decode bP_write 10 = .ok (.if_icmp .lt 14, 3) := by decide +kernel
theorem dP_write_13 : decode bP_write 13 = .ok (.iload 4, 2) := by decide +kernel
theorem dP_write_15 : decode bP_write 15 = .ok (.bipush 8, 2) := by decide +kernel
theorem dP_write_17 : decode bP_write 17 = .ok (.if_icmp .gt 7, 3) := by decide +kernel
theorem dP_write_20 : decode bP_write 20 = .ok (.iconst 1, 1) := by decide +kernel
theorem dP_write_21 : decode bP_write 21 = .ok (.goto 4, 3) := by decide +kernel
theorem dP_write_24 : decode bP_write 24 = .ok (.iconst 0, 1) := by decide +kernel
theorem dP_write_25 : decode bP_write 25 = .ok (.invokestatic 38, 3) := by decide +kernel
theorem dP_write_28 : decode bP_write 28 = .ok (.aload 5, 2) := by decide +kernel
theorem dP_write_30 : decode bP_write 30 = .ok (.getfield 42, 3) := by decide +kernel
theorem dP_write_33 : decode bP_write 33 = .ok (.iload 4, 2) := by decide +kernel
theorem dP_write_35 : decode bP_write 35 = .ok (.iadd, 1) := by decide +kernel
theorem dP_write_36 : decode bP_write 36 = .ok (.i2l, 1) := by decide +kernel
theorem dP_write_37 : decode bP_write 37 = .ok (.invokestatic 46, 3) := by decide +kernel
theorem dP_write_40 : decode bP_write 40 = .ok (.iconst 0, 1) := by decide +kernel
theorem dP_write_41 : decode bP_write 41 = .ok (.istore 6, 2) := by decide +kernel
theorem dP_write_43 : decode bP_write 43 = .ok (.iload 6, 2) := by decide +kernel
theorem dP_write_45 : decode bP_write 45 = .ok (.iload 4, 2) := by decide +kernel
theorem dP_write_47 : decode bP_write 47 = .ok (.if_icmp .ge 20, 3) := by decide +kernel
theorem dP_write_50 : decode bP_write 50 = .ok (.aload 5, 2) := by decide +kernel
theorem dP_write_52 : decode bP_write 52 = .ok (.lload_n 2, 1) := by decide +kernel
theorem dP_write_53 : decode bP_write 53 = .ok (.iload 6, 2) := by decide +kernel
theorem dP_write_55 : decode bP_write 55 = .ok (.invokestatic 50, 3) := by decide +kernel
theorem dP_write_58 : decode bP_write 58 = .ok (.invokevirtual 54, 3) := by decide +kernel
theorem dP_write_61 : decode bP_write 61 = .ok (.iinc 6 1, 3) := by decide +kernel
theorem dP_write_64 : decode bP_write 64 = .ok (.goto (-21), 3) := by decide +kernel
theorem dP_write_67 : decode bP_write 67 = .ok (.aload 5, 2) := by decide +kernel
theorem dP_write_69 : decode bP_write 69 = .ok (.getfield 42, 3) := by decide +kernel
theorem dP_write_72 : decode bP_write 72 = .ok (.ireturn, 1) := by decide +kernel
theorem dP_length_0 : decode bP_length 0 = .ok (.aload_n 0, 1) := by decide +kernel
theorem dP_length_1 : decode bP_length 1 = .ok (.iload_n 1, 1) := by decide +kernel
theorem dP_length_2 : decode bP_length 2 = .ok (.invokevirtual 34, 3) := by decide +kernel
theorem dP_length_5 : decode bP_length 5 = .ok (.getfield 42, 3) := by decide +kernel
theorem dP_length_8 : decode bP_length 8 = .ok (.ireturn, 1) := by decide +kernel
theorem dP_byteAt_0 : decode bP_byteAt 0 = .ok (.aload_n 0, 1) := by decide +kernel
theorem dP_byteAt_1 : decode bP_byteAt 1 = .ok (.iload_n 1, 1) := by decide +kernel
theorem dP_byteAt_2 : decode bP_byteAt 2 = .ok (.invokevirtual 34, 3) := by decide +kernel
theorem dP_byteAt_5 : decode bP_byteAt 5 = .ok (.astore_n 3, 1) := by decide +kernel
theorem dP_byteAt_6 : decode bP_byteAt 6 = .ok (.iload_n 2, 1) := by decide +kernel
theorem dP_byteAt_7 : decode bP_byteAt 7 = .ok (.ifCond .lt 15, 3) := by decide +kernel
theorem dP_byteAt_10 : decode bP_byteAt 10 = .ok (.iload_n 2, 1) := by decide +kernel
theorem dP_byteAt_11 : decode bP_byteAt 11 = .ok (.aload_n 3, 1) := by decide +kernel
theorem dP_byteAt_12 : decode bP_byteAt 12 = .ok (.getfield 42, 3) := by decide +kernel
theorem dP_byteAt_15 : decode bP_byteAt 15 = .ok (.if_icmp .ge 7, 3) := by decide +kernel
theorem dP_byteAt_18 : decode bP_byteAt 18 = .ok (.iconst 1, 1) := by decide +kernel
theorem dP_byteAt_19 : decode bP_byteAt 19 = .ok (.goto 4, 3) := by decide +kernel
theorem dP_byteAt_22 : decode bP_byteAt 22 = .ok (.iconst 0, 1) := by decide +kernel
theorem dP_byteAt_23 : decode bP_byteAt 23 = .ok (.invokestatic 58, 3) := by decide +kernel
theorem dP_byteAt_26 : decode bP_byteAt 26 = .ok (.aload_n 3, 1) := by decide +kernel
theorem dP_byteAt_27 : decode bP_byteAt 27 = .ok (.getfield 61, 3) := by decide +kernel
theorem dP_byteAt_30 : decode bP_byteAt 30 = .ok (.iload_n 2, 1) := by decide +kernel
theorem dP_byteAt_31 : decode bP_byteAt 31 = .ok (.iaload, 1) := by decide +kernel
theorem dP_byteAt_32 : decode bP_byteAt 32 = .ok (.ireturn, 1) := by decide +kernel
theorem dP_copy_0 : decode bP_copy 0 = .ok (.aload_n 0, 1) := by decide +kernel
theorem dP_copy_1 : decode bP_copy 1 = .ok (.iload_n 1, 1) := by decide +kernel
theorem dP_copy_2 : decode bP_copy 2 = .ok (.invokevirtual 34, 3) := by decide +kernel
theorem dP_copy_5 : decode bP_copy 5 = .ok (.astore 5, 2) := by decide +kernel
theorem dP_copy_7 : decode bP_copy 7 = .ok (.iload 4, 2) := by decide +kernel
theorem dP_copy_9 : decode bP_copy 9 = .ok (.invokestatic 65, 3) := by decide +kernel
theorem dP_copy_12 : decode bP_copy 12 = .ok (.aload 5, 2) := by decide +kernel
theorem dP_copy_14 : decode bP_copy 14 = .ok (.iload_n 2, 1) := by decide +kernel
theorem dP_copy_15 : decode bP_copy 15 = .ok (.iload_n 3, 1) := by decide +kernel
theorem dP_copy_16 : decode bP_copy 16 = .ok (.i2l, 1) := by decide +kernel
theorem dP_copy_17 : decode bP_copy 17 = .ok (.invokevirtual 68, 3) := by decide +kernel
theorem dP_copy_20 : decode bP_copy 20 = .ok (.invokestatic 58, 3) := by decide +kernel
theorem dP_copy_23 : decode bP_copy 23 = .ok (.aload_n 0, 1) := by decide +kernel
theorem dP_copy_24 : decode bP_copy 24 = .ok (.getfield 16, 3) := by decide +kernel
theorem dP_copy_27 : decode bP_copy 27 = .ok (.invokevirtual 72, 3) := by decide +kernel
theorem dP_copy_30 : decode bP_copy 30 = .ok (.aload_n 0, 1) := by decide +kernel
theorem dP_copy_31 : decode bP_copy 31 = .ok (.getfield 16, 3) := by decide +kernel
theorem dP_copy_34 : decode bP_copy 34 = .ok (.aload 5, 2) := by decide +kernel
theorem dP_copy_36 : decode bP_copy 36 = .ok (.iload_n 2, 1) := by decide +kernel
theorem dP_copy_37 : decode bP_copy 37 = .ok (.iload_n 3, 1) := by decide +kernel
theorem dP_copy_38 : decode bP_copy 38 = .ok (.invokevirtual 75, 3) := by decide +kernel
theorem dP_copy_41 : decode bP_copy 41 = .ok (.aload_n 0, 1) := by decide +kernel
theorem dP_copy_42 : decode bP_copy 42 = .ok (.iload 4, 2) := by decide +kernel
theorem dP_copy_44 : decode bP_copy 44 = .ok (.invokevirtual 79, 3) := by decide +kernel
theorem dP_copy_47 : decode bP_copy 47 = .ok (.ireturn, 1) := by decide +kernel
theorem dP_join_0 : decode bP_join 0 = .ok (.aload_n 0, 1) := by decide +kernel
theorem dP_join_1 : decode bP_join 1 = .ok (.iload_n 1, 1) := by decide +kernel
theorem dP_join_2 : decode bP_join 2 = .ok (.invokevirtual 34, 3) := by decide +kernel
theorem dP_join_5 : decode bP_join 5 = .ok (.astore 4, 2) := by decide +kernel
theorem dP_join_7 : decode bP_join 7 = .ok (.aload_n 0, 1) := by decide +kernel
theorem dP_join_8 : decode bP_join 8 = .ok (.iload_n 2, 1) := by decide +kernel
theorem dP_join_9 : decode bP_join 9 = .ok (.invokevirtual 34, 3) := by decide +kernel
theorem dP_join_12 : decode bP_join 12 = .ok (.astore 5, 2) := by decide +kernel
theorem dP_join_14 : decode bP_join 14 = .ok (.iload_n 3, 1) := by decide +kernel
theorem dP_join_15 : decode bP_join 15 = .ok (.invokestatic 65, 3) := by decide +kernel
theorem dP_join_18 : decode bP_join 18 = .ok (.aload 4, 2) := by decide +kernel
theorem dP_join_20 : decode bP_join 20 = .ok (.getfield 42, 3) := by decide +kernel
theorem dP_join_23 : decode bP_join 23 = .ok (.aload 5, 2) := by decide +kernel
theorem dP_join_25 : decode bP_join 25 = .ok (.getfield 42, 3) := by decide +kernel
theorem dP_join_28 : decode bP_join 28 = .ok (.iadd, 1) := by decide +kernel
theorem dP_join_29 : decode bP_join 29 = .ok (.i2l, 1) := by decide +kernel
theorem dP_join_30 : decode bP_join 30 = .ok (.invokestatic 46, 3) := by decide +kernel
theorem dP_join_33 : decode bP_join 33 = .ok (.aload_n 0, 1) := by decide +kernel
theorem dP_join_34 : decode bP_join 34 = .ok (.getfield 16, 3) := by decide +kernel
theorem dP_join_37 : decode bP_join 37 = .ok (.invokevirtual 72, 3) := by decide +kernel
theorem dP_join_40 : decode bP_join 40 = .ok (.aload_n 0, 1) := by decide +kernel
theorem dP_join_41 : decode bP_join 41 = .ok (.getfield 16, 3) := by decide +kernel
theorem dP_join_44 : decode bP_join 44 = .ok (.aload 4, 2) := by decide +kernel
theorem dP_join_46 : decode bP_join 46 = .ok (.iconst 0, 1) := by decide +kernel
theorem dP_join_47 : decode bP_join 47 = .ok (.aload 4, 2) := by decide +kernel
theorem dP_join_49 : decode bP_join 49 = .ok (.getfield 42, 3) := by decide +kernel
theorem dP_join_52 : decode bP_join 52 = .ok (.invokevirtual 75, 3) := by decide +kernel
theorem dP_join_55 : decode bP_join 55 = .ok (.aload_n 0, 1) := by decide +kernel
theorem dP_join_56 : decode bP_join 56 = .ok (.getfield 16, 3) := by decide +kernel
theorem dP_join_59 : decode bP_join 59 = .ok (.aload 5, 2) := by decide +kernel
theorem dP_join_61 : decode bP_join 61 = .ok (.iconst 0, 1) := by decide +kernel
theorem dP_join_62 : decode bP_join 62 = .ok (.aload 5, 2) := by decide +kernel
theorem dP_join_64 : decode bP_join 64 = .ok (.getfield 42, 3) := by decide +kernel
theorem dP_join_67 : decode bP_join 67 = .ok (.invokevirtual 75, 3) := by decide +kernel
theorem dP_join_70 : decode bP_join 70 = .ok (.aload_n 0, 1) := by decide +kernel
theorem dP_join_71 : decode bP_join 71 = .ok (.iload_n 3, 1) := by decide +kernel
theorem dP_join_72 : decode bP_join 72 = .ok (.invokevirtual 79, 3) := by decide +kernel
theorem dP_join_75 : decode bP_join 75 = .ok (.ireturn, 1) := by decide +kernel
theorem dP_insert_0 : decode bP_insert 0 = .ok (.aload_n 0, 1) := by decide +kernel
theorem dP_insert_1 : decode bP_insert 1 = .ok (.iload_n 1, 1) := by decide +kernel
theorem dP_insert_2 : decode bP_insert 2 = .ok (.invokevirtual 34, 3) := by decide +kernel
theorem dP_insert_5 : decode bP_insert 5 = .ok (.astore 6, 2) := by decide +kernel
theorem dP_insert_7 : decode bP_insert 7 = .ok (.aload_n 0, 1) := by decide +kernel
theorem dP_insert_8 : decode bP_insert 8 = .ok (.iload_n 3, 1) := by decide +kernel
theorem dP_insert_9 : decode bP_insert 9 = .ok (.invokevirtual 34, 3) := by decide +kernel
theorem dP_insert_12 : decode bP_insert 12 = .ok (.astore 7, 2) := by decide +kernel
theorem dP_insert_14 : decode bP_insert 14 = .ok (.aload 7, 2) := by decide +kernel
theorem dP_insert_16 : decode bP_insert 16 = .ok (.iload 4, 2) := by decide +kernel
theorem dP_insert_18 : decode bP_insert 18 = .ok (.iload 5, 2) := by decide +kernel
theorem dP_insert_20 : decode bP_insert 20 = .ok (.i2l, 1) := by decide +kernel
theorem dP_insert_21 : decode bP_insert 21 = .ok (.invokevirtual 68, 3) := by decide +kernel
theorem dP_insert_24 : decode bP_insert 24 = .ok (.ifCond .eq 16, 3) := by decide +kernel
theorem dP_insert_27 : decode bP_insert 27 = .ok (.aload 6, 2) := by decide +kernel
theorem dP_insert_29 : decode bP_insert 29 = .ok (.iload_n 2, 1) := by decide +kernel
theorem dP_insert_30 : decode bP_insert 30 = .ok (.invokevirtual 83, 3) := by decide +kernel
theorem dP_insert_33 : decode bP_insert 33 = .ok (.ifCond .eq 7, 3) := by decide +kernel
theorem dP_insert_36 : decode bP_insert 36 = .ok (.iconst 1, 1) := by decide +kernel
theorem dP_insert_37 : decode bP_insert 37 = .ok (.goto 4, 3) := by decide +kernel
theorem dP_insert_40 : decode bP_insert 40 = .ok (.iconst 0, 1) := by decide +kernel
theorem dP_insert_41 : decode bP_insert 41 = .ok (.invokestatic 58, 3) := by decide +kernel
theorem dP_insert_44 : decode bP_insert 44 = .ok (.aload 6, 2) := by decide +kernel
theorem dP_insert_46 : decode bP_insert 46 = .ok (.getfield 42, 3) := by decide +kernel
theorem dP_insert_49 : decode bP_insert 49 = .ok (.iload 5, 2) := by decide +kernel
theorem dP_insert_51 : decode bP_insert 51 = .ok (.iload 4, 2) := by decide +kernel
theorem dP_insert_53 : decode bP_insert 53 = .ok (.isub, 1) := by decide +kernel
theorem dP_insert_54 : decode bP_insert 54 = .ok (.iadd, 1) := by decide +kernel
theorem dP_insert_55 : decode bP_insert 55 = .ok (.i2l, 1) := by decide +kernel
theorem dP_insert_56 : decode bP_insert 56 = .ok (.invokestatic 46, 3) := by decide +kernel
theorem dP_insert_59 : decode bP_insert 59 = .ok (.aload_n 0, 1) := by decide +kernel
theorem dP_insert_60 : decode bP_insert 60 = .ok (.getfield 16, 3) := by decide +kernel
theorem dP_insert_63 : decode bP_insert 63 = .ok (.invokevirtual 72, 3) := by decide +kernel
theorem dP_insert_66 : decode bP_insert 66 = .ok (.aload_n 0, 1) := by decide +kernel
theorem dP_insert_67 : decode bP_insert 67 = .ok (.getfield 16, 3) := by decide +kernel
theorem dP_insert_70 : decode bP_insert 70 = .ok (.aload 6, 2) := by decide +kernel
theorem dP_insert_72 : decode bP_insert 72 = .ok (.iconst 0, 1) := by decide +kernel
theorem dP_insert_73 : decode bP_insert 73 = .ok (.iload_n 2, 1) := by decide +kernel
theorem dP_insert_74 : decode bP_insert 74 = .ok (.invokevirtual 75, 3) := by decide +kernel
theorem dP_insert_77 : decode bP_insert 77 = .ok (.aload_n 0, 1) := by decide +kernel
theorem dP_insert_78 : decode bP_insert 78 = .ok (.getfield 16, 3) := by decide +kernel
theorem dP_insert_81 : decode bP_insert 81 = .ok (.aload 7, 2) := by decide +kernel
theorem dP_insert_83 : decode bP_insert 83 = .ok (.iload 4, 2) := by decide +kernel
theorem dP_insert_85 : decode bP_insert 85 = .ok (.iload 5, 2) := by decide +kernel
theorem dP_insert_87 : decode bP_insert 87 = .ok (.invokevirtual 75, 3) := by decide +kernel
theorem dP_insert_90 : decode bP_insert 90 = .ok (.aload_n 0, 1) := by decide +kernel
theorem dP_insert_91 : decode bP_insert 91 = .ok (.getfield 16, 3) := by decide +kernel
theorem dP_insert_94 : decode bP_insert 94 = .ok (.aload 6, 2) := by decide +kernel
theorem dP_insert_96 : decode bP_insert 96 = .ok (.iload_n 2, 1) := by decide +kernel
theorem dP_insert_97 : decode bP_insert 97 = .ok (.aload 6, 2) := by decide +kernel
theorem dP_insert_99 : decode bP_insert 99 = .ok (.getfield 42, 3) := by decide +kernel
theorem dP_insert_102 : decode bP_insert 102 = .ok (.invokevirtual 75, 3) := by decide +kernel
theorem dP_insert_105 : decode bP_insert 105 = .ok (.aload_n 0, 1) := by decide +kernel
theorem dP_insert_106 : decode bP_insert 106 = .ok (.iload_n 1, 1) := by decide +kernel
theorem dP_insert_107 : decode bP_insert 107 = .ok (.invokevirtual 79, 3) := by decide +kernel
theorem dP_insert_110 : decode bP_insert 110 = .ok (.ireturn, 1) := by decide +kernel
theorem dP_delete_0 : decode bP_delete 0 = .ok (.aload_n 0, 1) := by decide +kernel
theorem dP_delete_1 : decode bP_delete 1 = .ok (.iload_n 1, 1) := by decide +kernel
theorem dP_delete_2 : decode bP_delete 2 = .ok (.invokevirtual 34, 3) := by decide +kernel
theorem dP_delete_5 : decode bP_delete 5 = .ok (.astore 4, 2) := by decide +kernel
theorem dP_delete_7 : decode bP_delete 7 = .ok (.aload 4, 2) := by decide +kernel
theorem dP_delete_9 : decode bP_delete 9 = .ok (.iload_n 2, 1) := by decide +kernel
theorem dP_delete_10 : decode bP_delete 10 = .ok (.iload_n 3, 1) := by decide +kernel
theorem dP_delete_11 : decode bP_delete 11 = .ok (.i2l, 1) := by decide +kernel
theorem dP_delete_12 : decode bP_delete 12 = .ok (.invokevirtual 68, 3) := by decide +kernel
theorem dP_delete_15 : decode bP_delete 15 = .ok (.invokestatic 58, 3) := by decide +kernel
theorem dP_delete_18 : decode bP_delete 18 = .ok (.aload_n 0, 1) := by decide +kernel
theorem dP_delete_19 : decode bP_delete 19 = .ok (.getfield 16, 3) := by decide +kernel
theorem dP_delete_22 : decode bP_delete 22 = .ok (.invokevirtual 72, 3) := by decide +kernel
theorem dP_delete_25 : decode bP_delete 25 = .ok (.aload_n 0, 1) := by decide +kernel
theorem dP_delete_26 : decode bP_delete 26 = .ok (.getfield 16, 3) := by decide +kernel
theorem dP_delete_29 : decode bP_delete 29 = .ok (.aload 4, 2) := by decide +kernel
theorem dP_delete_31 : decode bP_delete 31 = .ok (.iconst 0, 1) := by decide +kernel
theorem dP_delete_32 : decode bP_delete 32 = .ok (.iload_n 2, 1) := by decide +kernel
theorem dP_delete_33 : decode bP_delete 33 = .ok (.invokevirtual 75, 3) := by decide +kernel
theorem dP_delete_36 : decode bP_delete 36 = .ok (.aload_n 0, 1) := by decide +kernel
theorem dP_delete_37 : decode bP_delete 37 = .ok (.getfield 16, 3) := by decide +kernel
theorem dP_delete_40 : decode bP_delete 40 = .ok (.aload 4, 2) := by decide +kernel
theorem dP_delete_42 : decode bP_delete 42 = .ok (.iload_n 3, 1) := by decide +kernel
theorem dP_delete_43 : decode bP_delete 43 = .ok (.aload 4, 2) := by decide +kernel
theorem dP_delete_45 : decode bP_delete 45 = .ok (.getfield 42, 3) := by decide +kernel
theorem dP_delete_48 : decode bP_delete 48 = .ok (.invokevirtual 75, 3) := by decide +kernel
theorem dP_delete_51 : decode bP_delete 51 = .ok (.aload_n 0, 1) := by decide +kernel
theorem dP_delete_52 : decode bP_delete 52 = .ok (.iload_n 1, 1) := by decide +kernel
theorem dP_delete_53 : decode bP_delete 53 = .ok (.invokevirtual 79, 3) := by decide +kernel
theorem dP_delete_56 : decode bP_delete 56 = .ok (.ireturn, 1) := by decide +kernel
theorem dP_move_0 : decode bP_move 0 = .ok (.aload_n 0, 1) := by decide +kernel
theorem dP_move_1 : decode bP_move 1 = .ok (.iload_n 1, 1) := by decide +kernel
theorem dP_move_2 : decode bP_move 2 = .ok (.invokevirtual 34, 3) := by decide +kernel
theorem dP_move_5 : decode bP_move 5 = .ok (.astore 5, 2) := by decide +kernel
theorem dP_move_7 : decode bP_move 7 = .ok (.aload 5, 2) := by decide +kernel
theorem dP_move_9 : decode bP_move 9 = .ok (.iload_n 2, 1) := by decide +kernel
theorem dP_move_10 : decode bP_move 10 = .ok (.iload_n 3, 1) := by decide +kernel
theorem dP_move_11 : decode bP_move 11 = .ok (.i2l, 1) := by decide +kernel
theorem dP_move_12 : decode bP_move 12 = .ok (.invokevirtual 68, 3) := by decide +kernel
theorem dP_move_15 : decode bP_move 15 = .ok (.invokestatic 58, 3) := by decide +kernel
theorem dP_move_18 : decode bP_move 18 = .ok (.iload_n 3, 1) := by decide +kernel
theorem dP_move_19 : decode bP_move 19 = .ok (.iload_n 2, 1) := by decide +kernel
theorem dP_move_20 : decode bP_move 20 = .ok (.isub, 1) := by decide +kernel
theorem dP_move_21 : decode bP_move 21 = .ok (.istore 6, 2) := by decide +kernel
theorem dP_move_23 : decode bP_move 23 = .ok (.iload 4, 2) := by decide +kernel
theorem dP_move_25 : decode bP_move 25 = .ok (.ifCond .lt 20, 3) := by decide +kernel
theorem dP_move_28 : decode bP_move 28 = .ok (.iload 4, 2) := by decide +kernel
theorem dP_move_30 : decode bP_move 30 = .ok (.aload 5, 2) := by decide +kernel
theorem dP_move_32 : decode bP_move 32 = .ok (.getfield 42, 3) := by decide +kernel
theorem dP_move_35 : decode bP_move 35 = .ok (.iload 6, 2) := by decide +kernel
theorem dP_move_37 : decode bP_move 37 = .ok (.isub, 1) := by decide +kernel
theorem dP_move_38 : decode bP_move 38 = .ok (.if_icmp .gt 7, 3) := by decide +kernel
theorem dP_move_41 : decode bP_move 41 = .ok (.iconst 1, 1) := by decide +kernel
theorem dP_move_42 : decode bP_move 42 = .ok (.goto 4, 3) := by decide +kernel
theorem dP_move_45 : decode bP_move 45 = .ok (.iconst 0, 1) := by decide +kernel
theorem dP_move_46 : decode bP_move 46 = .ok (.invokestatic 58, 3) := by decide +kernel
theorem dP_move_49 : decode bP_move 49 = .ok (.aload_n 0, 1) := by decide +kernel
theorem dP_move_50 : decode bP_move 50 = .ok (.getfield 16, 3) := by decide +kernel
theorem dP_move_53 : decode bP_move 53 = .ok (.invokevirtual 72, 3) := by decide +kernel
theorem dP_move_56 : decode bP_move 56 = .ok (.iload 4, 2) := by decide +kernel
theorem dP_move_58 : decode bP_move 58 = .ok (.iload_n 2, 1) := by decide +kernel
theorem dP_move_59 : decode bP_move 59 = .ok (.if_icmp .gt 56, 3) := by decide +kernel
theorem dP_move_62 : decode bP_move 62 = .ok (.aload_n 0, 1) := by decide +kernel
theorem dP_move_63 : decode bP_move 63 = .ok (.getfield 16, 3) := by decide +kernel
theorem dP_move_66 : decode bP_move 66 = .ok (.aload 5, 2) := by decide +kernel
theorem dP_move_68 : decode bP_move 68 = .ok (.iconst 0, 1) := by decide +kernel
theorem dP_move_69 : decode bP_move 69 = .ok (.iload 4, 2) := by decide +kernel
theorem dP_move_71 : decode bP_move 71 = .ok (.invokevirtual 75, 3) := by decide +kernel
theorem dP_move_74 : decode bP_move 74 = .ok (.aload_n 0, 1) := by decide +kernel
theorem dP_move_75 : decode bP_move 75 = .ok (.getfield 16, 3) := by decide +kernel
theorem dP_move_78 : decode bP_move 78 = .ok (.aload 5, 2) := by decide +kernel
theorem dP_move_80 : decode bP_move 80 = .ok (.iload_n 2, 1) := by decide +kernel
theorem dP_move_81 : decode bP_move 81 = .ok (.iload_n 3, 1) := by decide +kernel
theorem dP_move_82 : decode bP_move 82 = .ok (.invokevirtual 75, 3) := by decide +kernel
theorem dP_move_85 : decode bP_move 85 = .ok (.aload_n 0, 1) := by decide +kernel
theorem dP_move_86 : decode bP_move 86 = .ok (.getfield 16, 3) := by decide +kernel
theorem dP_move_89 : decode bP_move 89 = .ok (.aload 5, 2) := by decide +kernel
theorem dP_move_91 : decode bP_move 91 = .ok (.iload 4, 2) := by decide +kernel
theorem dP_move_93 : decode bP_move 93 = .ok (.iload_n 2, 1) := by decide +kernel
theorem dP_move_94 : decode bP_move 94 = .ok (.invokevirtual 75, 3) := by decide +kernel
theorem dP_move_97 : decode bP_move 97 = .ok (.aload_n 0, 1) := by decide +kernel
theorem dP_move_98 : decode bP_move 98 = .ok (.getfield 16, 3) := by decide +kernel
theorem dP_move_101 : decode bP_move 101 = .ok (.aload 5, 2) := by decide +kernel
theorem dP_move_103 : decode bP_move 103 = .ok (.iload_n 3, 1) := by decide +kernel
theorem dP_move_104 : decode bP_move 104 = .ok (.aload 5, 2) := by decide +kernel
theorem dP_move_106 : decode bP_move 106 = .ok (.getfield 42, 3) := by decide +kernel
theorem dP_move_109 : decode bP_move 109 = .ok (.invokevirtual 75, 3) := by decide +kernel
theorem dP_move_112 : decode bP_move 112 = .ok (.goto 59, 3) := by decide +kernel
theorem dP_move_115 : decode bP_move 115 = .ok (.aload_n 0, 1) := by decide +kernel
theorem dP_move_116 : decode bP_move 116 = .ok (.getfield 16, 3) := by decide +kernel
theorem dP_move_119 : decode bP_move 119 = .ok (.aload 5, 2) := by decide +kernel
theorem dP_move_121 : decode bP_move 121 = .ok (.iconst 0, 1) := by decide +kernel
theorem dP_move_122 : decode bP_move 122 = .ok (.iload_n 2, 1) := by decide +kernel
theorem dP_move_123 : decode bP_move 123 = .ok (.invokevirtual 75, 3) := by decide +kernel
theorem dP_move_126 : decode bP_move 126 = .ok (.aload_n 0, 1) := by decide +kernel
theorem dP_move_127 : decode bP_move 127 = .ok (.getfield 16, 3) := by decide +kernel
theorem dP_move_130 : decode bP_move 130 = .ok (.aload 5, 2) := by decide +kernel
theorem dP_move_132 : decode bP_move 132 = .ok (.iload_n 3, 1) := by decide +kernel
theorem dP_move_133 : decode bP_move 133 = .ok (.iload 4, 2) := by decide +kernel
theorem dP_move_135 : decode bP_move 135 = .ok (.iload 6, 2) := by decide +kernel
theorem dP_move_137 : decode bP_move 137 = .ok (.iadd, 1) := by decide +kernel
theorem dP_move_138 : decode bP_move 138 = .ok (.invokevirtual 75, 3) := by decide +kernel
theorem dP_move_141 : decode bP_move 141 = .ok (.aload_n 0, 1) := by decide +kernel
theorem dP_move_142 : decode bP_move 142 = .ok (.getfield 16, 3) := by decide +kernel
theorem dP_move_145 : decode bP_move 145 = .ok (.aload 5, 2) := by decide +kernel
theorem dP_move_147 : decode bP_move 147 = .ok (.iload_n 2, 1) := by decide +kernel
theorem dP_move_148 : decode bP_move 148 = .ok (.iload_n 3, 1) := by decide +kernel
theorem dP_move_149 : decode bP_move 149 = .ok (.invokevirtual 75, 3) := by decide +kernel
theorem dP_move_152 : decode bP_move 152 = .ok (.aload_n 0, 1) := by decide +kernel
theorem dP_move_153 : decode bP_move 153 = .ok (.getfield 16, 3) := by decide +kernel
theorem dP_move_156 : decode bP_move 156 = .ok (.aload 5, 2) := by decide +kernel
theorem dP_move_158 : decode bP_move 158 = .ok (.iload 4, 2) := by decide +kernel
theorem dP_move_160 : decode bP_move 160 = .ok (.iload 6, 2) := by decide +kernel
theorem dP_move_162 : decode bP_move 162 = .ok (.iadd, 1) := by decide +kernel
theorem dP_move_163 : decode bP_move 163 = .ok (.aload 5, 2) := by decide +kernel
theorem dP_move_165 : decode bP_move 165 = .ok (.getfield 42, 3) := by decide +kernel
theorem dP_move_168 : decode bP_move 168 = .ok (.invokevirtual 75, 3) := by decide +kernel
theorem dP_move_171 : decode bP_move 171 = .ok (.aload_n 0, 1) := by decide +kernel
theorem dP_move_172 : decode bP_move 172 = .ok (.iload_n 1, 1) := by decide +kernel
theorem dP_move_173 : decode bP_move 173 = .ok (.invokevirtual 79, 3) := by decide +kernel
theorem dP_move_176 : decode bP_move 176 = .ok (.ireturn, 1) := by decide +kernel
theorem dP_repeat_0 : decode bP_repeat 0 = .ok (.aload_n 0, 1) := by decide +kernel
theorem dP_repeat_1 : decode bP_repeat 1 = .ok (.iload_n 1, 1) := by decide +kernel
theorem dP_repeat_2 : decode bP_repeat 2 = .ok (.invokevirtual 34, 3) := by decide +kernel
theorem dP_repeat_5 : decode bP_repeat 5 = .ok (.astore 5, 2) := by decide +kernel
theorem dP_repeat_7 : decode bP_repeat 7 = .ok (.iload 4, 2) := by decide +kernel
theorem dP_repeat_9 : decode bP_repeat 9 = .ok (.ifCond .lt 7, 3) := by decide +kernel
theorem dP_repeat_12 : decode bP_repeat 12 = .ok (.iconst 1, 1) := by decide +kernel
theorem dP_repeat_13 : decode bP_repeat 13 = .ok (.goto 4, 3) := by decide +kernel
theorem dP_repeat_16 : decode bP_repeat 16 = .ok (.iconst 0, 1) := by decide +kernel
theorem dP_repeat_17 : decode bP_repeat 17 = .ok (.invokestatic 38, 3) := by decide +kernel
theorem dP_repeat_20 : decode bP_repeat 20 = .ok (.aload 5, 2) := by decide +kernel
theorem dP_repeat_22 : decode bP_repeat 22 = .ok (.iload_n 2, 1) := by decide +kernel
theorem dP_repeat_23 : decode bP_repeat 23 = .ok (.iload_n 3, 1) := by decide +kernel
theorem dP_repeat_24 : decode bP_repeat 24 = .ok (.i2l, 1) := by decide +kernel
theorem dP_repeat_25 : decode bP_repeat 25 = .ok (.invokevirtual 68, 3) := by decide +kernel
theorem dP_repeat_28 : decode bP_repeat 28 = .ok (.invokestatic 58, 3) := by decide +kernel
theorem dP_repeat_31 : decode bP_repeat 31 = .ok (.iload 4, 2) := by decide +kernel
theorem dP_repeat_33 : decode bP_repeat 33 = .ok (.i2l, 1) := by decide +kernel
theorem dP_repeat_34 : decode bP_repeat 34 = .ok (.iload_n 3, 1) := by decide +kernel
theorem dP_repeat_35 : decode bP_repeat 35 = .ok (.iload_n 2, 1) := by decide +kernel
theorem dP_repeat_36 : decode bP_repeat 36 = .ok (.isub, 1) := by decide +kernel
theorem dP_repeat_37 : decode bP_repeat 37 = .ok (.i2l, 1) := by decide +kernel
theorem dP_repeat_38 : decode bP_repeat 38 = .ok (.lmul, 1) := by decide +kernel
theorem dP_repeat_39 : decode bP_repeat 39 = .ok (.lstore 6, 2) := by decide +kernel
theorem dP_repeat_41 : decode bP_repeat 41 = .ok (.aload 5, 2) := by decide +kernel
theorem dP_repeat_43 : decode bP_repeat 43 = .ok (.getfield 42, 3) := by decide +kernel
theorem dP_repeat_46 : decode bP_repeat 46 = .ok (.iload_n 3, 1) := by decide +kernel
theorem dP_repeat_47 : decode bP_repeat 47 = .ok (.iload_n 2, 1) := by decide +kernel
theorem dP_repeat_48 : decode bP_repeat 48 = .ok (.isub, 1) := by decide +kernel
theorem dP_repeat_49 : decode bP_repeat 49 = .ok (.isub, 1) := by decide +kernel
theorem dP_repeat_50 : decode bP_repeat 50 = .ok (.i2l, 1) := by decide +kernel
theorem dP_repeat_51 : decode bP_repeat 51 = .ok (.lload 6, 2) := by decide +kernel
theorem dP_repeat_53 : decode bP_repeat 53 = .ok (.ladd, 1) := by decide +kernel
theorem dP_repeat_54 : decode bP_repeat 54 = .ok (.invokestatic 46, 3) := by decide +kernel
theorem dP_repeat_57 : decode bP_repeat 57 = .ok (.iload_n 2, 1) := by decide +kernel
theorem dP_repeat_58 : decode bP_repeat 58 = .ok (.iload_n 3, 1) := by decide +kernel
theorem dP_repeat_59 : decode bP_repeat 59 = .ok (.if_icmp .ne 7, 3) := by decide +kernel
theorem dP_repeat_62 : decode bP_repeat 62 = .ok (.iconst 0, 1) := by decide +kernel
theorem dP_repeat_63 : decode bP_repeat 63 = .ok (.goto 5, 3) := by decide +kernel
theorem dP_repeat_66 : decode bP_repeat 66 = .ok (.iload 4, 2) := by decide +kernel
theorem dP_repeat_68 : decode bP_repeat 68 = .ok (.istore 8, 2) := by decide +kernel
theorem dP_repeat_70 : decode bP_repeat 70 = .ok (.aload_n 0, 1) := by decide +kernel
theorem dP_repeat_71 : decode bP_repeat 71 = .ok (.getfield 16, 3) := by decide +kernel
theorem dP_repeat_74 : decode bP_repeat 74 = .ok (.invokevirtual 72, 3) := by decide +kernel
theorem dP_repeat_77 : decode bP_repeat 77 = .ok (.aload_n 0, 1) := by decide +kernel
theorem dP_repeat_78 : decode bP_repeat 78 = .ok (.getfield 16, 3) := by decide +kernel
theorem dP_repeat_81 : decode bP_repeat 81 = .ok (.aload 5, 2) := by decide +kernel
theorem dP_repeat_83 : decode bP_repeat 83 = .ok (.iconst 0, 1) := by decide +kernel
theorem dP_repeat_84 : decode bP_repeat 84 = .ok (.iload_n 2, 1) := by decide +kernel
theorem dP_repeat_85 : decode bP_repeat 85 = .ok (.invokevirtual 75, 3) := by decide +kernel
theorem dP_repeat_88 : decode bP_repeat 88 = .ok (.iconst 0, 1) := by decide +kernel
theorem dP_repeat_89 : decode bP_repeat 89 = .ok (.istore 9, 2) := by decide +kernel
theorem dP_repeat_91 : decode bP_repeat 91 = .ok (.iload 9, 2) := by decide +kernel
theorem dP_repeat_93 : decode bP_repeat 93 = .ok (.iload 8, 2) := by decide +kernel
theorem dP_repeat_95 : decode bP_repeat 95 = .ok (.if_icmp .ge 20, 3) := by decide +kernel
theorem dP_repeat_98 : decode bP_repeat 98 = .ok (.aload_n 0, 1) := by decide +kernel
theorem dP_repeat_99 : decode bP_repeat 99 = .ok (.getfield 16, 3) := by decide +kernel
theorem dP_repeat_102 : decode bP_repeat 102 = .ok (.aload 5, 2) := by decide +kernel
theorem dP_repeat_104 : decode bP_repeat 104 = .ok (.iload_n 2, 1) := by decide +kernel
theorem dP_repeat_105 : decode bP_repeat 105 = .ok (.iload_n 3, 1) := by decide +kernel
theorem dP_repeat_106 : decode bP_repeat 106 = .ok (.invokevirtual 75, 3) := by decide +kernel
theorem dP_repeat_109 : decode bP_repeat 109 = .ok (.iinc 9 1, 3) := by decide +kernel
theorem dP_repeat_112 : decode bP_repeat 112 = .ok (.goto (-21), 3) := by decide +kernel
theorem dP_repeat_115 : decode bP_repeat 115 = .ok (.aload_n 0, 1) := by decide +kernel
theorem dP_repeat_116 : decode bP_repeat 116 = .ok (.getfield 16, 3) := by decide +kernel
theorem dP_repeat_119 : decode bP_repeat 119 = .ok (.aload 5, 2) := by decide +kernel
theorem dP_repeat_121 : decode bP_repeat 121 = .ok (.iload_n 3, 1) := by decide +kernel
theorem dP_repeat_122 : decode bP_repeat 122 = .ok (.aload 5, 2) := by decide +kernel
theorem dP_repeat_124 : decode bP_repeat 124 = .ok (.getfield 42, 3) := by decide +kernel
theorem dP_repeat_127 : decode bP_repeat 127 = .ok (.invokevirtual 75, 3) := by decide +kernel
theorem dP_repeat_130 : decode bP_repeat 130 = .ok (.aload_n 0, 1) := by decide +kernel
theorem dP_repeat_131 : decode bP_repeat 131 = .ok (.iload_n 1, 1) := by decide +kernel
theorem dP_repeat_132 : decode bP_repeat 132 = .ok (.invokevirtual 79, 3) := by decide +kernel
theorem dP_repeat_135 : decode bP_repeat 135 = .ok (.ireturn, 1) := by decide +kernel
theorem dP_same_0 : decode bP_same 0 = .ok (.aload_n 0, 1) := by decide +kernel
theorem dP_same_1 : decode bP_same 1 = .ok (.iload_n 1, 1) := by decide +kernel
theorem dP_same_2 : decode bP_same 2 = .ok (.invokevirtual 34, 3) := by decide +kernel
theorem dP_same_5 : decode bP_same 5 = .ok (.astore 6, 2) := by decide +kernel
theorem dP_same_7 : decode bP_same 7 = .ok (.aload_n 0, 1) := by decide +kernel
theorem dP_same_8 : decode bP_same 8 = .ok (.iload_n 3, 1) := by decide +kernel
theorem dP_same_9 : decode bP_same 9 = .ok (.invokevirtual 34, 3) := by decide +kernel
theorem dP_same_12 : decode bP_same 12 = .ok (.astore 7, 2) := by decide +kernel
theorem dP_same_14 : decode bP_same 14 = .ok (.iload 5, 2) := by decide +kernel
theorem dP_same_16 : decode bP_same 16 = .ok (.ifCond .lt 7, 3) := by decide +kernel
theorem dP_same_19 : decode bP_same 19 = .ok (.iconst 1, 1) := by decide +kernel
theorem dP_same_20 : decode bP_same 20 = .ok (.goto 4, 3) := by decide +kernel
theorem dP_same_23 : decode bP_same 23 = .ok (.iconst 0, 1) := by decide +kernel
theorem dP_same_24 : decode bP_same 24 = .ok (.invokestatic 38, 3) := by decide +kernel
theorem dP_same_27 : decode bP_same 27 = .ok (.aload 6, 2) := by decide +kernel
theorem dP_same_29 : decode bP_same 29 = .ok (.iload_n 2, 1) := by decide +kernel
theorem dP_same_30 : decode bP_same 30 = .ok (.iload_n 2, 1) := by decide +kernel
theorem dP_same_31 : decode bP_same 31 = .ok (.i2l, 1) := by decide +kernel
theorem dP_same_32 : decode bP_same 32 = .ok (.iload 5, 2) := by decide +kernel
theorem dP_same_34 : decode bP_same 34 = .ok (.i2l, 1) := by decide +kernel
theorem dP_same_35 : decode bP_same 35 = .ok (.ladd, 1) := by decide +kernel
theorem dP_same_36 : decode bP_same 36 = .ok (.invokevirtual 68, 3) := by decide +kernel
theorem dP_same_39 : decode bP_same 39 = .ok (.ifCond .eq 24, 3) := by decide +kernel
theorem dP_same_42 : decode bP_same 42 = .ok (.aload 7, 2) := by decide +kernel
theorem dP_same_44 : decode bP_same 44 = .ok (.iload 4, 2) := by decide +kernel
theorem dP_same_46 : decode bP_same 46 = .ok (.iload 4, 2) := by decide +kernel
theorem dP_same_48 : decode bP_same 48 = .ok (.i2l, 1) := by decide +kernel
theorem dP_same_49 : decode bP_same 49 = .ok (.iload 5, 2) := by decide +kernel
theorem dP_same_51 : decode bP_same 51 = .ok (.i2l, 1) := by decide +kernel
theorem dP_same_52 : decode bP_same 52 = .ok (.ladd, 1) := by decide +kernel
theorem dP_same_53 : decode bP_same 53 = .ok (.invokevirtual 68, 3) := by decide +kernel
theorem dP_same_56 : decode bP_same 56 = .ok (.ifCond .eq 7, 3) := by decide +kernel
theorem dP_same_59 : decode bP_same 59 = .ok (.iconst 1, 1) := by decide +kernel
theorem dP_same_60 : decode bP_same 60 = .ok (.goto 4, 3) := by decide +kernel
theorem dP_same_63 : decode bP_same 63 = .ok (.iconst 0, 1) := by decide +kernel
theorem dP_same_64 : decode bP_same 64 = .ok (.invokestatic 58, 3) := by decide +kernel
theorem dP_same_67 : decode bP_same 67 = .ok (.aload 6, 2) := by decide +kernel
theorem dP_same_69 : decode bP_same 69 = .ok (.iload_n 2, 1) := by decide +kernel
theorem dP_same_70 : decode bP_same 70 = .ok (.aload 7, 2) := by decide +kernel
theorem dP_same_72 : decode bP_same 72 = .ok (.iload 4, 2) := by decide +kernel
theorem dP_same_74 : decode bP_same 74 = .ok (.invokestatic 87, 3) := by decide +kernel
theorem dP_same_77 : decode bP_same 77 = .ok (.iload 5, 2) := by decide +kernel
theorem dP_same_79 : decode bP_same 79 = .ok (.if_icmp .lt 7, 3) := by decide +kernel
theorem dP_same_82 : decode bP_same 82 = .ok (.iconst 1, 1) := by decide +kernel
theorem dP_same_83 : decode bP_same 83 = .ok (.goto 4, 3) := by decide +kernel
theorem dP_same_86 : decode bP_same 86 = .ok (.iconst 0, 1) := by decide +kernel
theorem dP_same_87 : decode bP_same 87 = .ok (.ireturn, 1) := by decide +kernel
theorem dP_prefix_0 : decode bP_prefix 0 = .ok (.aload_n 0, 1) := by decide +kernel
theorem dP_prefix_1 : decode bP_prefix 1 = .ok (.iload_n 1, 1) := by decide +kernel
theorem dP_prefix_2 : decode bP_prefix 2 = .ok (.invokevirtual 34, 3) := by decide +kernel
theorem dP_prefix_5 : decode bP_prefix 5 = .ok (.astore 5, 2) := by decide +kernel
theorem dP_prefix_7 : decode bP_prefix 7 = .ok (.aload_n 0, 1) := by decide +kernel
theorem dP_prefix_8 : decode bP_prefix 8 = .ok (.iload_n 3, 1) := by decide +kernel
theorem dP_prefix_9 : decode bP_prefix 9 = .ok (.invokevirtual 34, 3) := by decide +kernel
theorem dP_prefix_12 : decode bP_prefix 12 = .ok (.astore 6, 2) := by decide +kernel
theorem dP_prefix_14 : decode bP_prefix 14 = .ok (.aload 5, 2) := by decide +kernel
theorem dP_prefix_16 : decode bP_prefix 16 = .ok (.iload_n 2, 1) := by decide +kernel
theorem dP_prefix_17 : decode bP_prefix 17 = .ok (.invokevirtual 83, 3) := by decide +kernel
theorem dP_prefix_20 : decode bP_prefix 20 = .ok (.ifCond .eq 17, 3) := by decide +kernel
theorem dP_prefix_23 : decode bP_prefix 23 = .ok (.aload 6, 2) := by decide +kernel
theorem dP_prefix_25 : decode bP_prefix 25 = .ok (.iload 4, 2) := by decide +kernel
theorem dP_prefix_27 : decode bP_prefix 27 = .ok (.invokevirtual 83, 3) := by decide +kernel
theorem dP_prefix_30 : decode bP_prefix 30 = .ok (.ifCond .eq 7, 3) := by decide +kernel
theorem dP_prefix_33 : decode bP_prefix 33 = .ok (.iconst 1, 1) := by decide +kernel
theorem dP_prefix_34 : decode bP_prefix 34 = .ok (.goto 4, 3) := by decide +kernel
theorem dP_prefix_37 : decode bP_prefix 37 = .ok (.iconst 0, 1) := by decide +kernel
theorem dP_prefix_38 : decode bP_prefix 38 = .ok (.invokestatic 58, 3) := by decide +kernel
theorem dP_prefix_41 : decode bP_prefix 41 = .ok (.aload 5, 2) := by decide +kernel
theorem dP_prefix_43 : decode bP_prefix 43 = .ok (.iload_n 2, 1) := by decide +kernel
theorem dP_prefix_44 : decode bP_prefix 44 = .ok (.aload 6, 2) := by decide +kernel
theorem dP_prefix_46 : decode bP_prefix 46 = .ok (.iload 4, 2) := by decide +kernel
theorem dP_prefix_48 : decode bP_prefix 48 = .ok (.invokestatic 87, 3) := by decide +kernel
theorem dP_prefix_51 : decode bP_prefix 51 = .ok (.ireturn, 1) := by decide +kernel
theorem dP_order_0 : decode bP_order 0 = .ok (.aload_n 0, 1) := by decide +kernel
theorem dP_order_1 : decode bP_order 1 = .ok (.iload_n 1, 1) := by decide +kernel
theorem dP_order_2 : decode bP_order 2 = .ok (.invokevirtual 34, 3) := by decide +kernel
theorem dP_order_5 : decode bP_order 5 = .ok (.astore 5, 2) := by decide +kernel
theorem dP_order_7 : decode bP_order 7 = .ok (.aload_n 0, 1) := by decide +kernel
theorem dP_order_8 : decode bP_order 8 = .ok (.iload_n 3, 1) := by decide +kernel
theorem dP_order_9 : decode bP_order 9 = .ok (.invokevirtual 34, 3) := by decide +kernel
theorem dP_order_12 : decode bP_order 12 = .ok (.astore 6, 2) := by decide +kernel
theorem dP_order_14 : decode bP_order 14 = .ok (.aload 5, 2) := by decide +kernel
theorem dP_order_16 : decode bP_order 16 = .ok (.iload_n 2, 1) := by decide +kernel
theorem dP_order_17 : decode bP_order 17 = .ok (.invokevirtual 83, 3) := by decide +kernel
theorem dP_order_20 : decode bP_order 20 = .ok (.ifCond .eq 17, 3) := by decide +kernel
theorem dP_order_23 : decode bP_order 23 = .ok (.aload 6, 2) := by decide +kernel
theorem dP_order_25 : decode bP_order 25 = .ok (.iload 4, 2) := by decide +kernel
theorem dP_order_27 : decode bP_order 27 = .ok (.invokevirtual 83, 3) := by decide +kernel
theorem dP_order_30 : decode bP_order 30 = .ok (.ifCond .eq 7, 3) := by decide +kernel
theorem dP_order_33 : decode bP_order 33 = .ok (.iconst 1, 1) := by decide +kernel
theorem dP_order_34 : decode bP_order 34 = .ok (.goto 4, 3) := by decide +kernel
theorem dP_order_37 : decode bP_order 37 = .ok (.iconst 0, 1) := by decide +kernel
theorem dP_order_38 : decode bP_order 38 = .ok (.invokestatic 58, 3) := by decide +kernel
theorem dP_order_41 : decode bP_order 41 = .ok (.aload 5, 2) := by decide +kernel
theorem dP_order_43 : decode bP_order 43 = .ok (.iload_n 2, 1) := by decide +kernel
theorem dP_order_44 : decode bP_order 44 = .ok (.aload 6, 2) := by decide +kernel
theorem dP_order_46 : decode bP_order 46 = .ok (.iload 4, 2) := by decide +kernel
theorem dP_order_48 : decode bP_order 48 = .ok (.invokestatic 87, 3) := by decide +kernel
theorem dP_order_51 : decode bP_order 51 = .ok (.istore 7, 2) := by decide +kernel
theorem dP_order_53 : decode bP_order 53 = .ok (.iload_n 2, 1) := by decide +kernel
theorem dP_order_54 : decode bP_order 54 = .ok (.iload 7, 2) := by decide +kernel
theorem dP_order_56 : decode bP_order 56 = .ok (.iadd, 1) := by decide +kernel
theorem dP_order_57 : decode bP_order 57 = .ok (.aload 5, 2) := by decide +kernel
theorem dP_order_59 : decode bP_order 59 = .ok (.getfield 42, 3) := by decide +kernel
theorem dP_order_62 : decode bP_order 62 = .ok (.if_icmp .ne 7, 3) := by decide +kernel
theorem dP_order_65 : decode bP_order 65 = .ok (.iconst 1, 1) := by decide +kernel
theorem dP_order_66 : decode bP_order 66 = .ok (.goto 4, 3) := by decide +kernel
theorem dP_order_69 : decode bP_order 69 = .ok (.iconst 0, 1) := by decide +kernel
theorem dP_order_70 : decode bP_order 70 = .ok (.istore 8, 2) := by decide +kernel
theorem dP_order_72 : decode bP_order 72 = .ok (.iload 4, 2) := by decide +kernel
theorem dP_order_74 : decode bP_order 74 = .ok (.iload 7, 2) := by decide +kernel
theorem dP_order_76 : decode bP_order 76 = .ok (.iadd, 1) := by decide +kernel
theorem dP_order_77 : decode bP_order 77 = .ok (.aload 6, 2) := by decide +kernel
theorem dP_order_79 : decode bP_order 79 = .ok (.getfield 42, 3) := by decide +kernel
theorem dP_order_82 : decode bP_order 82 = .ok (.if_icmp .ne 7, 3) := by decide +kernel
theorem dP_order_85 : decode bP_order 85 = .ok (.iconst 1, 1) := by decide +kernel
theorem dP_order_86 : decode bP_order 86 = .ok (.goto 4, 3) := by decide +kernel
theorem dP_order_89 : decode bP_order 89 = .ok (.iconst 0, 1) := by decide +kernel
theorem dP_order_90 : decode bP_order 90 = .ok (.istore 9, 2) := by decide +kernel
theorem dP_order_92 : decode bP_order 92 = .ok (.iload 8, 2) := by decide +kernel
theorem dP_order_94 : decode bP_order 94 = .ok (.ifCond .eq 10, 3) := by decide +kernel
theorem dP_order_97 : decode bP_order 97 = .ok (.iload 9, 2) := by decide +kernel
theorem dP_order_99 : decode bP_order 99 = .ok (.ifCond .eq 5, 3) := by decide +kernel
theorem dP_order_102 : decode bP_order 102 = .ok (.iconst 0, 1) := by decide +kernel
theorem dP_order_103 : decode bP_order 103 = .ok (.ireturn, 1) := by decide +kernel
theorem dP_order_104 : decode bP_order 104 = .ok (.iload 8, 2) := by decide +kernel
theorem dP_order_106 : decode bP_order 106 = .ok (.ifCond .eq 5, 3) := by decide +kernel
theorem dP_order_109 : decode bP_order 109 = .ok (.iconst (-1), 1) := by decide +kernel
theorem dP_order_110 : decode bP_order 110 = .ok (.ireturn, 1) := by decide +kernel
theorem dP_order_111 : decode bP_order 111 = .ok (.iload 9, 2) := by decide +kernel
theorem dP_order_113 : decode bP_order 113 = .ok (.ifCond .eq 5, 3) := by decide +kernel
theorem dP_order_116 : decode bP_order 116 = .ok (.iconst 1, 1) := by decide +kernel
theorem dP_order_117 : decode bP_order 117 = .ok (.ireturn, 1) := by decide +kernel
theorem dP_order_118 : decode bP_order 118 = .ok (.aload 5, 2) := by decide +kernel
theorem dP_order_120 : decode bP_order 120 = .ok (.getfield 61, 3) := by decide +kernel
theorem dP_order_123 : decode bP_order 123 = .ok (.iload_n 2, 1) := by decide +kernel
theorem dP_order_124 : decode bP_order 124 = .ok (.iload 7, 2) := by decide +kernel
theorem dP_order_126 : decode bP_order 126 = .ok (.iadd, 1) := by decide +kernel
theorem dP_order_127 : decode bP_order 127 = .ok (.iaload, 1) := by decide +kernel
theorem dP_order_128 : decode bP_order 128 = .ok (.aload 6, 2) := by decide +kernel
theorem dP_order_130 : decode bP_order 130 = .ok (.getfield 61, 3) := by decide +kernel
theorem dP_order_133 : decode bP_order 133 = .ok (.iload 4, 2) := by decide +kernel
theorem dP_order_135 : decode bP_order 135 = .ok (.iload 7, 2) := by decide +kernel
theorem dP_order_137 : decode bP_order 137 = .ok (.iadd, 1) := by decide +kernel
theorem dP_order_138 : decode bP_order 138 = .ok (.iaload, 1) := by decide +kernel
theorem dP_order_139 : decode bP_order 139 = .ok (.if_icmp .ge 7, 3) := by decide +kernel
theorem dP_order_142 : decode bP_order 142 = .ok (.iconst (-1), 1) := by decide +kernel
theorem dP_order_143 : decode bP_order 143 = .ok (.goto 4, 3) := by decide +kernel
theorem dP_order_146 : decode bP_order 146 = .ok (.iconst 1, 1) := by decide +kernel
theorem dP_order_147 : decode bP_order 147 = .ok (.ireturn, 1) := by decide +kernel
theorem dP_name_0 : decode bP_name 0 = .ok (.aload_n 0, 1) := by decide +kernel
theorem dP_name_1 : decode bP_name 1 = .ok (.iload_n 1, 1) := by decide +kernel
theorem dP_name_2 : decode bP_name 2 = .ok (.invokevirtual 34, 3) := by decide +kernel
theorem dP_name_5 : decode bP_name 5 = .ok (.astore 4, 2) := by decide +kernel
theorem dP_name_7 : decode bP_name 7 = .ok (.aload 4, 2) := by decide +kernel
theorem dP_name_9 : decode bP_name 9 = .ok (.iload_n 2, 1) := by decide +kernel
theorem dP_name_10 : decode bP_name 10 = .ok (.iload_n 3, 1) := by decide +kernel
theorem dP_name_11 : decode bP_name 11 = .ok (.i2l, 1) := by decide +kernel
theorem dP_name_12 : decode bP_name 12 = .ok (.invokevirtual 68, 3) := by decide +kernel
theorem dP_name_15 : decode bP_name 15 = .ok (.invokestatic 58, 3) := by decide +kernel
theorem dP_name_18 : decode bP_name 18 = .ok (.lconst 0, 1) := by decide +kernel
theorem dP_name_19 : decode bP_name 19 = .ok (.lstore 5, 2) := by decide +kernel
theorem dP_name_21 : decode bP_name 21 = .ok (.iload_n 2, 1) := by decide +kernel
theorem dP_name_22 : decode bP_name 22 = .ok (.istore 7, 2) := by decide +kernel
theorem dP_name_24 : decode bP_name 24 = .ok (.iload 7, 2) := by decide +kernel
theorem dP_name_26 : decode bP_name 26 = .ok (.iload_n 3, 1) := by decide +kernel
theorem dP_name_27 : decode bP_name 27 = .ok (.if_icmp .ge 24, 3) := by decide +kernel
theorem dP_name_30 : decode bP_name 30 = .ok (.lload 5, 2) := by decide +kernel
theorem dP_name_32 : decode bP_name 32 = .ok (.aload 4, 2) := by decide +kernel
theorem dP_name_34 : decode bP_name 34 = .ok (.getfield 61, 3) := by decide +kernel
theorem dP_name_37 : decode bP_name 37 = .ok (.iload 7, 2) := by decide +kernel
theorem dP_name_39 : decode bP_name 39 = .ok (.iaload, 1) := by decide +kernel
theorem dP_name_40 : decode bP_name 40 = .ok (.invokestatic 91, 3) := by decide +kernel
theorem dP_name_43 : decode bP_name 43 = .ok (.lstore 5, 2) := by decide +kernel
theorem dP_name_45 : decode bP_name 45 = .ok (.iinc 7 1, 3) := by decide +kernel
theorem dP_name_48 : decode bP_name 48 = .ok (.goto (-24), 3) := by decide +kernel
theorem dP_name_51 : decode bP_name 51 = .ok (.lload 5, 2) := by decide +kernel
theorem dP_name_53 : decode bP_name 53 = .ok (.lreturn, 1) := by decide +kernel
theorem dP_pattern_0 : decode bP_pattern 0 = .ok (.iload 5, 2) := by decide +kernel
theorem dP_pattern_2 : decode bP_pattern 2 = .ok (.iconst 1, 1) := by decide +kernel
theorem dP_pattern_3 : decode bP_pattern 3 = .ok (.if_icmp .lt 14, 3) := by decide +kernel
theorem dP_pattern_6 : decode bP_pattern 6 = .ok (.iload 5, 2) := by decide +kernel
theorem dP_pattern_8 : decode bP_pattern 8 = .ok (.bipush 16, 2) := by decide +kernel
theorem dP_pattern_10 : decode bP_pattern 10 = .ok (.if_icmp .gt 7, 3) := by decide +kernel
theorem dP_pattern_13 : decode bP_pattern 13 = .ok (.iconst 1, 1) := by decide +kernel
theorem dP_pattern_14 : decode bP_pattern 14 = .ok (.goto 4, 3) := by decide +kernel
theorem dP_pattern_17 : decode bP_pattern 17 = .ok (.iconst 0, 1) := by decide +kernel
theorem dP_pattern_18 : decode bP_pattern 18 = .ok (.invokestatic 38, 3) := by decide +kernel
theorem dP_pattern_21 : decode bP_pattern 21 = .ok (.aload_n 0, 1) := by decide +kernel
theorem dP_pattern_22 : decode bP_pattern 22 = .ok (.getfield 23, 3) := by decide +kernel
theorem dP_pattern_25 : decode bP_pattern 25 = .ok (.lload_n 1, 1) := by decide +kernel
theorem dP_pattern_26 : decode bP_pattern 26 = .ok (.lload_n 3, 1) := by decide +kernel
theorem dP_pattern_27 : decode bP_pattern 27 = .ok (.iload 5, 2) := by decide +kernel
theorem dP_pattern_29 : decode bP_pattern 29 = .ok (.invokevirtual 95, 3) := by decide +kernel
theorem dP_pattern_32 : decode bP_pattern 32 = .ok (.return_, 1) := by decide +kernel
theorem dP_count_0 : decode bP_count 0 = .ok (.aload_n 0, 1) := by decide +kernel
theorem dP_count_1 : decode bP_count 1 = .ok (.iload_n 1, 1) := by decide +kernel
theorem dP_count_2 : decode bP_count 2 = .ok (.invokevirtual 34, 3) := by decide +kernel
theorem dP_count_5 : decode bP_count 5 = .ok (.astore 4, 2) := by decide +kernel
theorem dP_count_7 : decode bP_count 7 = .ok (.aload 4, 2) := by decide +kernel
theorem dP_count_9 : decode bP_count 9 = .ok (.iload_n 2, 1) := by decide +kernel
theorem dP_count_10 : decode bP_count 10 = .ok (.iload_n 3, 1) := by decide +kernel
theorem dP_count_11 : decode bP_count 11 = .ok (.i2l, 1) := by decide +kernel
theorem dP_count_12 : decode bP_count 12 = .ok (.invokevirtual 68, 3) := by decide +kernel
theorem dP_count_15 : decode bP_count 15 = .ok (.invokestatic 58, 3) := by decide +kernel
theorem dP_count_18 : decode bP_count 18 = .ok (.aload_n 0, 1) := by decide +kernel
theorem dP_count_19 : decode bP_count 19 = .ok (.invokevirtual 99, 3) := by decide +kernel
theorem dP_count_22 : decode bP_count 22 = .ok (.iconst 0, 1) := by decide +kernel
theorem dP_count_23 : decode bP_count 23 = .ok (.istore 5, 2) := by decide +kernel
theorem dP_count_25 : decode bP_count 25 = .ok (.iload_n 2, 1) := by decide +kernel
theorem dP_count_26 : decode bP_count 26 = .ok (.istore 6, 2) := by decide +kernel
theorem dP_count_28 : decode bP_count 28 = .ok (.iload 6, 2) := by decide +kernel
theorem dP_count_30 : decode bP_count 30 = .ok (.iload_n 3, 1) := by decide +kernel
theorem dP_count_31 : decode bP_count 31 = .ok (.if_icmp .ge 27, 3) := by decide +kernel
theorem dP_count_34 : decode bP_count 34 = .ok (.aload_n 0, 1) := by decide +kernel
theorem dP_count_35 : decode bP_count 35 = .ok (.getfield 23, 3) := by decide +kernel
theorem dP_count_38 : decode bP_count 38 = .ok (.aload 4, 2) := by decide +kernel
theorem dP_count_40 : decode bP_count 40 = .ok (.iload 6, 2) := by decide +kernel
theorem dP_count_42 : decode bP_count 42 = .ok (.iload_n 3, 1) := by decide +kernel
theorem dP_count_43 : decode bP_count 43 = .ok (.invokevirtual 102, 3) := by decide +kernel
theorem dP_count_46 : decode bP_count 46 = .ok (.ifCond .eq 6, 3) := by decide +kernel
theorem dP_count_49 : decode bP_count 49 = .ok (.iinc 5 1, 3) := by decide +kernel
theorem dP_count_52 : decode bP_count 52 = .ok (.iinc 6 1, 3) := by decide +kernel
theorem dP_count_55 : decode bP_count 55 = .ok (.goto (-27), 3) := by decide +kernel
theorem dP_count_58 : decode bP_count 58 = .ok (.iload 5, 2) := by decide +kernel
theorem dP_count_60 : decode bP_count 60 = .ok (.ireturn, 1) := by decide +kernel
theorem dP_find_0 : decode bP_find 0 = .ok (.aload_n 0, 1) := by decide +kernel
theorem dP_find_1 : decode bP_find 1 = .ok (.iload_n 1, 1) := by decide +kernel
theorem dP_find_2 : decode bP_find 2 = .ok (.invokevirtual 34, 3) := by decide +kernel
theorem dP_find_5 : decode bP_find 5 = .ok (.astore 4, 2) := by decide +kernel
theorem dP_find_7 : decode bP_find 7 = .ok (.iload_n 3, 1) := by decide +kernel
theorem dP_find_8 : decode bP_find 8 = .ok (.ifCond .lt 7, 3) := by decide +kernel
theorem dP_find_11 : decode bP_find 11 = .ok (.iconst 1, 1) := by decide +kernel
theorem dP_find_12 : decode bP_find 12 = .ok (.goto 4, 3) := by decide +kernel
theorem dP_find_15 : decode bP_find 15 = .ok (.iconst 0, 1) := by decide +kernel
theorem dP_find_16 : decode bP_find 16 = .ok (.invokestatic 38, 3) := by decide +kernel
theorem dP_find_19 : decode bP_find 19 = .ok (.aload 4, 2) := by decide +kernel
theorem dP_find_21 : decode bP_find 21 = .ok (.iload_n 2, 1) := by decide +kernel
theorem dP_find_22 : decode bP_find 22 = .ok (.invokevirtual 83, 3) := by decide +kernel
theorem dP_find_25 : decode bP_find 25 = .ok (.invokestatic 58, 3) := by decide +kernel
theorem dP_find_28 : decode bP_find 28 = .ok (.aload_n 0, 1) := by decide +kernel
theorem dP_find_29 : decode bP_find 29 = .ok (.invokevirtual 99, 3) := by decide +kernel
theorem dP_find_32 : decode bP_find 32 = .ok (.iconst 0, 1) := by decide +kernel
theorem dP_find_33 : decode bP_find 33 = .ok (.istore 5, 2) := by decide +kernel
theorem dP_find_35 : decode bP_find 35 = .ok (.iload_n 2, 1) := by decide +kernel
theorem dP_find_36 : decode bP_find 36 = .ok (.istore 6, 2) := by decide +kernel
theorem dP_find_38 : decode bP_find 38 = .ok (.iload 6, 2) := by decide +kernel
theorem dP_find_40 : decode bP_find 40 = .ok (.aload 4, 2) := by decide +kernel
theorem dP_find_42 : decode bP_find 42 = .ok (.getfield 42, 3) := by decide +kernel
theorem dP_find_45 : decode bP_find 45 = .ok (.if_icmp .ge 40, 3) := by decide +kernel
theorem dP_find_48 : decode bP_find 48 = .ok (.aload_n 0, 1) := by decide +kernel
theorem dP_find_49 : decode bP_find 49 = .ok (.getfield 23, 3) := by decide +kernel
theorem dP_find_52 : decode bP_find 52 = .ok (.aload 4, 2) := by decide +kernel
theorem dP_find_54 : decode bP_find 54 = .ok (.iload 6, 2) := by decide +kernel
theorem dP_find_56 : decode bP_find 56 = .ok (.aload 4, 2) := by decide +kernel
theorem dP_find_58 : decode bP_find 58 = .ok (.getfield 42, 3) := by decide +kernel
theorem dP_find_61 : decode bP_find 61 = .ok (.invokevirtual 102, 3) := by decide +kernel
theorem dP_find_64 : decode bP_find 64 = .ok (.ifCond .eq 15, 3) := by decide +kernel
theorem dP_find_67 : decode bP_find 67 = .ok (.iload 5, 2) := by decide +kernel
theorem dP_find_69 : decode bP_find 69 = .ok (.iload_n 3, 1) := by decide +kernel
theorem dP_find_70 : decode bP_find 70 = .ok (.if_icmp .ne 6, 3) := by decide +kernel
theorem dP_find_73 : decode bP_find 73 = .ok (.iload 6, 2) := by decide +kernel
theorem dP_find_75 : decode bP_find 75 = .ok (.ireturn, 1) := by decide +kernel
theorem dP_find_76 : decode bP_find 76 = .ok (.iinc 5 1, 3) := by decide +kernel
theorem dP_find_79 : decode bP_find 79 = .ok (.iinc 6 1, 3) := by decide +kernel
theorem dP_find_82 : decode bP_find 82 = .ok (.goto (-44), 3) := by decide +kernel
theorem dP_find_85 : decode bP_find 85 = .ok (.iconst (-1), 1) := by decide +kernel
theorem dP_find_86 : decode bP_find 86 = .ok (.ireturn, 1) := by decide +kernel
theorem dP_lead_0 : decode bP_lead 0 = .ok (.iload_n 1, 1) := by decide +kernel
theorem dP_lead_1 : decode bP_lead 1 = .ok (.invokestatic 106, 3) := by decide +kernel
theorem dP_lead_4 : decode bP_lead 4 = .ok (.iload 4, 2) := by decide +kernel
theorem dP_lead_6 : decode bP_lead 6 = .ok (.invokestatic 106, 3) := by decide +kernel
theorem dP_lead_9 : decode bP_lead 9 = .ok (.iconst 0, 1) := by decide +kernel
theorem dP_lead_10 : decode bP_lead 10 = .ok (.iload_n 2, 1) := by decide +kernel
theorem dP_lead_11 : decode bP_lead 11 = .ok (.if_icmp .gt 19, 3) := by decide +kernel
theorem dP_lead_14 : decode bP_lead 14 = .ok (.iload_n 2, 1) := by decide +kernel
theorem dP_lead_15 : decode bP_lead 15 = .ok (.iload_n 3, 1) := by decide +kernel
theorem dP_lead_16 : decode bP_lead 16 = .ok (.if_icmp .gt 14, 3) := by decide +kernel
theorem dP_lead_19 : decode bP_lead 19 = .ok (.iload_n 3, 1) := by decide +kernel
theorem dP_lead_20 : decode bP_lead 20 = .ok (.sipush 256, 3) := by decide +kernel
theorem dP_lead_23 : decode bP_lead 23 = .ok (.if_icmp .ge 7, 3) := by decide +kernel
theorem dP_lead_26 : decode bP_lead 26 = .ok (.iconst 1, 1) := by decide +kernel
theorem dP_lead_27 : decode bP_lead 27 = .ok (.goto 4, 3) := by decide +kernel
theorem dP_lead_30 : decode bP_lead 30 = .ok (.iconst 0, 1) := by decide +kernel
theorem dP_lead_31 : decode bP_lead 31 = .ok (.invokestatic 38, 3) := by decide +kernel
theorem dP_lead_34 : decode bP_lead 34 = .ok (.iload_n 2, 1) := by decide +kernel
theorem dP_lead_35 : decode bP_lead 35 = .ok (.istore 5, 2) := by decide +kernel
theorem dP_lead_37 : decode bP_lead 37 = .ok (.iload 5, 2) := by decide +kernel
theorem dP_lead_39 : decode bP_lead 39 = .ok (.iload_n 3, 1) := by decide +kernel
theorem dP_lead_40 : decode bP_lead 40 = .ok (.if_icmp .gt 21, 3) := by decide +kernel
theorem dP_lead_43 : decode bP_lead 43 = .ok (.aload_n 0, 1) := by decide +kernel
theorem dP_lead_44 : decode bP_lead 44 = .ok (.getfield 30, 3) := by decide +kernel
theorem dP_lead_47 : decode bP_lead 47 = .ok (.iload_n 1, 1) := by decide +kernel
theorem dP_lead_48 : decode bP_lead 48 = .ok (.iload 5, 2) := by decide +kernel
theorem dP_lead_50 : decode bP_lead 50 = .ok (.iload 4, 2) := by decide +kernel
theorem dP_lead_52 : decode bP_lead 52 = .ok (.invokevirtual 109, 3) := by decide +kernel
theorem dP_lead_55 : decode bP_lead 55 = .ok (.iinc 5 1, 3) := by decide +kernel
theorem dP_lead_58 : decode bP_lead 58 = .ok (.goto (-21), 3) := by decide +kernel
theorem dP_lead_61 : decode bP_lead 61 = .ok (.return_, 1) := by decide +kernel
theorem dP_accept_0 : decode bP_accept 0 = .ok (.iload_n 1, 1) := by decide +kernel
theorem dP_accept_1 : decode bP_accept 1 = .ok (.invokestatic 106, 3) := by decide +kernel
theorem dP_accept_4 : decode bP_accept 4 = .ok (.aload_n 0, 1) := by decide +kernel
theorem dP_accept_5 : decode bP_accept 5 = .ok (.getfield 30, 3) := by decide +kernel
theorem dP_accept_8 : decode bP_accept 8 = .ok (.getfield 113, 3) := by decide +kernel
theorem dP_accept_11 : decode bP_accept 11 = .ok (.iload_n 1, 1) := by decide +kernel
theorem dP_accept_12 : decode bP_accept 12 = .ok (.iload_n 2, 1) := by decide +kernel
theorem dP_accept_13 : decode bP_accept 13 = .ok (.bastore, 1) := by decide +kernel
theorem dP_accept_14 : decode bP_accept 14 = .ok (.return_, 1) := by decide +kernel
theorem dP_run_0 : decode bP_run 0 = .ok (.aload_n 0, 1) := by decide +kernel
theorem dP_run_1 : decode bP_run 1 = .ok (.iload_n 1, 1) := by decide +kernel
theorem dP_run_2 : decode bP_run 2 = .ok (.invokevirtual 34, 3) := by decide +kernel
theorem dP_run_5 : decode bP_run 5 = .ok (.astore 5, 2) := by decide +kernel
theorem dP_run_7 : decode bP_run 7 = .ok (.iload 4, 2) := by decide +kernel
theorem dP_run_9 : decode bP_run 9 = .ok (.invokestatic 106, 3) := by decide +kernel
theorem dP_run_12 : decode bP_run 12 = .ok (.aload 5, 2) := by decide +kernel
theorem dP_run_14 : decode bP_run 14 = .ok (.iload_n 2, 1) := by decide +kernel
theorem dP_run_15 : decode bP_run 15 = .ok (.iload_n 3, 1) := by decide +kernel
theorem dP_run_16 : decode bP_run 16 = .ok (.i2l, 1) := by decide +kernel
theorem dP_run_17 : decode bP_run 17 = .ok (.invokevirtual 68, 3) := by decide +kernel
theorem dP_run_20 : decode bP_run 20 = .ok (.invokestatic 58, 3) := by decide +kernel
theorem dP_run_23 : decode bP_run 23 = .ok (.iload 4, 2) := by decide +kernel
theorem dP_run_25 : decode bP_run 25 = .ok (.istore 6, 2) := by decide +kernel
theorem dP_run_27 : decode bP_run 27 = .ok (.iload_n 2, 1) := by decide +kernel
theorem dP_run_28 : decode bP_run 28 = .ok (.istore 7, 2) := by decide +kernel
theorem dP_run_30 : decode bP_run 30 = .ok (.iload 7, 2) := by decide +kernel
theorem dP_run_32 : decode bP_run 32 = .ok (.iload_n 3, 1) := by decide +kernel
theorem dP_run_33 : decode bP_run 33 = .ok (.if_icmp .ge 28, 3) := by decide +kernel
theorem dP_run_36 : decode bP_run 36 = .ok (.aload_n 0, 1) := by decide +kernel
theorem dP_run_37 : decode bP_run 37 = .ok (.getfield 30, 3) := by decide +kernel
theorem dP_run_40 : decode bP_run 40 = .ok (.iload 6, 2) := by decide +kernel
theorem dP_run_42 : decode bP_run 42 = .ok (.aload 5, 2) := by decide +kernel
theorem dP_run_44 : decode bP_run 44 = .ok (.getfield 61, 3) := by decide +kernel
theorem dP_run_47 : decode bP_run 47 = .ok (.iload 7, 2) := by decide +kernel
theorem dP_run_49 : decode bP_run 49 = .ok (.iaload, 1) := by decide +kernel
theorem dP_run_50 : decode bP_run 50 = .ok (.invokevirtual 117, 3) := by decide +kernel
theorem dP_run_53 : decode bP_run 53 = .ok (.istore 6, 2) := by decide +kernel
theorem dP_run_55 : decode bP_run 55 = .ok (.iinc 7 1, 3) := by decide +kernel
theorem dP_run_58 : decode bP_run 58 = .ok (.goto (-28), 3) := by decide +kernel
theorem dP_run_61 : decode bP_run 61 = .ok (.iload 6, 2) := by decide +kernel
theorem dP_run_63 : decode bP_run 63 = .ok (.ireturn, 1) := by decide +kernel
theorem dP_accepted_0 : decode bP_accepted 0 = .ok (.aload_n 0, 1) := by decide +kernel
theorem dP_accepted_1 : decode bP_accepted 1 = .ok (.iload_n 1, 1) := by decide +kernel
theorem dP_accepted_2 : decode bP_accepted 2 = .ok (.invokevirtual 34, 3) := by decide +kernel
theorem dP_accepted_5 : decode bP_accepted 5 = .ok (.astore 5, 2) := by decide +kernel
theorem dP_accepted_7 : decode bP_accepted 7 = .ok (.iload 4, 2) := by decide +kernel
theorem dP_accepted_9 : decode bP_accepted 9 = .ok (.invokestatic 106, 3) := by decide +kernel
theorem dP_accepted_12 : decode bP_accepted 12 = .ok (.aload 5, 2) := by decide +kernel
theorem dP_accepted_14 : decode bP_accepted 14 = .ok (.iload_n 2, 1) := by decide +kernel
theorem dP_accepted_15 : decode bP_accepted 15 = .ok (.iload_n 3, 1) := by decide +kernel
theorem dP_accepted_16 : decode bP_accepted 16 = .ok (.i2l, 1) := by decide +kernel
theorem dP_accepted_17 : decode bP_accepted 17 = .ok (.invokevirtual 68, 3) := by decide +kernel
theorem dP_accepted_20 : decode bP_accepted 20 = .ok (.invokestatic 58, 3) := by decide +kernel
theorem dP_accepted_23 : decode bP_accepted 23 = .ok (.iload 4, 2) := by decide +kernel
theorem dP_accepted_25 : decode bP_accepted 25 = .ok (.istore 6, 2) := by decide +kernel
theorem dP_accepted_27 : decode bP_accepted 27 = .ok (.aload_n 0, 1) := by decide +kernel
theorem dP_accepted_28 : decode bP_accepted 28 = .ok (.getfield 30, 3) := by decide +kernel
theorem dP_accepted_31 : decode bP_accepted 31 = .ok (.getfield 113, 3) := by decide +kernel
theorem dP_accepted_34 : decode bP_accepted 34 = .ok (.iload 6, 2) := by decide +kernel
theorem dP_accepted_36 : decode bP_accepted 36 = .ok (.baload, 1) := by decide +kernel
theorem dP_accepted_37 : decode bP_accepted 37 = .ok (.ifCond .eq 7, 3) := by decide +kernel
theorem dP_accepted_40 : decode bP_accepted 40 = .ok (.iconst 1, 1) := by decide +kernel
theorem dP_accepted_41 : decode bP_accepted 41 = .ok (.goto 4, 3) := by decide +kernel
theorem dP_accepted_44 : decode bP_accepted 44 = .ok (.iconst 0, 1) := by decide +kernel
theorem dP_accepted_45 : decode bP_accepted 45 = .ok (.istore 7, 2) := by decide +kernel
theorem dP_accepted_47 : decode bP_accepted 47 = .ok (.iload_n 2, 1) := by decide +kernel
theorem dP_accepted_48 : decode bP_accepted 48 = .ok (.istore 8, 2) := by decide +kernel
theorem dP_accepted_50 : decode bP_accepted 50 = .ok (.iload 8, 2) := by decide +kernel
theorem dP_accepted_52 : decode bP_accepted 52 = .ok (.iload_n 3, 1) := by decide +kernel
theorem dP_accepted_53 : decode bP_accepted 53 = .ok (.if_icmp .ge 44, 3) := by decide +kernel
theorem dP_accepted_56 : decode bP_accepted 56 = .ok (.aload_n 0, 1) := by decide +kernel
theorem dP_accepted_57 : decode bP_accepted 57 = .ok (.getfield 30, 3) := by decide +kernel
theorem dP_accepted_60 : decode bP_accepted 60 = .ok (.iload 6, 2) := by decide +kernel
theorem dP_accepted_62 : decode bP_accepted 62 = .ok (.aload 5, 2) := by decide +kernel
theorem dP_accepted_64 : decode bP_accepted 64 = .ok (.getfield 61, 3) := by decide +kernel
theorem dP_accepted_67 : decode bP_accepted 67 = .ok (.iload 8, 2) := by decide +kernel
theorem dP_accepted_69 : decode bP_accepted 69 = .ok (.iaload, 1) := by decide +kernel
theorem dP_accepted_70 : decode bP_accepted 70 = .ok (.invokevirtual 117, 3) := by decide +kernel
theorem dP_accepted_73 : decode bP_accepted 73 = .ok (.istore 6, 2) := by decide +kernel
theorem dP_accepted_75 : decode bP_accepted 75 = .ok (.aload_n 0, 1) := by decide +kernel
theorem dP_accepted_76 : decode bP_accepted 76 = .ok (.getfield 30, 3) := by decide +kernel
theorem dP_accepted_79 : decode bP_accepted 79 = .ok (.getfield 113, 3) := by decide +kernel
theorem dP_accepted_82 : decode bP_accepted 82 = .ok (.iload 6, 2) := by decide +kernel
theorem dP_accepted_84 : decode bP_accepted 84 = .ok (.baload, 1) := by decide +kernel
theorem dP_accepted_85 : decode bP_accepted 85 = .ok (.ifCond .eq 6, 3) := by decide +kernel
theorem dP_accepted_88 : decode bP_accepted 88 = .ok (.iinc 7 1, 3) := by decide +kernel
theorem dP_accepted_91 : decode bP_accepted 91 = .ok (.iinc 8 1, 3) := by decide +kernel
theorem dP_accepted_94 : decode bP_accepted 94 = .ok (.goto (-44), 3) := by decide +kernel
theorem dP_accepted_97 : decode bP_accepted 97 = .ok (.iload 7, 2) := by decide +kernel
theorem dP_accepted_99 : decode bP_accepted 99 = .ok (.ireturn, 1) := by decide +kernel
theorem dP_textOf_0 : decode bP_textOf 0 = .ok (.iload_n 1, 1) := by decide +kernel
theorem dP_textOf_1 : decode bP_textOf 1 = .ok (.invokestatic 65, 3) := by decide +kernel
theorem dP_textOf_4 : decode bP_textOf 4 = .ok (.aload_n 0, 1) := by decide +kernel
theorem dP_textOf_5 : decode bP_textOf 5 = .ok (.getfield 11, 3) := by decide +kernel
theorem dP_textOf_8 : decode bP_textOf 8 = .ok (.iload_n 1, 1) := by decide +kernel
theorem dP_textOf_9 : decode bP_textOf 9 = .ok (.aaload, 1) := by decide +kernel
theorem dP_textOf_10 : decode bP_textOf 10 = .ok (.areturn, 1) := by decide +kernel
theorem dP_draftBecomesTextOf_0 : decode bP_draftBecomesTextOf 0 = .ok (.aload_n 0, 1) := by decide +kernel
theorem dP_draftBecomesTextOf_1 : decode bP_draftBecomesTextOf 1 = .ok (.getfield 11, 3) := by decide +kernel
theorem dP_draftBecomesTextOf_4 : decode bP_draftBecomesTextOf 4 = .ok (.iload_n 1, 1) := by decide +kernel
theorem dP_draftBecomesTextOf_5 : decode bP_draftBecomesTextOf 5 = .ok (.aaload, 1) := by decide +kernel
theorem dP_draftBecomesTextOf_6 : decode bP_draftBecomesTextOf 6 = .ok (.astore_n 2, 1) := by decide +kernel
theorem dP_draftBecomesTextOf_7 : decode bP_draftBecomesTextOf 7 = .ok (.aload_n 0, 1) := by decide +kernel
theorem dP_draftBecomesTextOf_8 : decode bP_draftBecomesTextOf 8 = .ok (.getfield 11, 3) := by decide +kernel
theorem dP_draftBecomesTextOf_11 : decode bP_draftBecomesTextOf 11 = .ok (.iload_n 1, 1) := by decide +kernel
theorem dP_draftBecomesTextOf_12 : decode bP_draftBecomesTextOf 12 = .ok (.aload_n 0, 1) := by decide +kernel
theorem dP_draftBecomesTextOf_13 : decode bP_draftBecomesTextOf 13 = .ok (.getfield 16, 3) := by decide +kernel
theorem dP_draftBecomesTextOf_16 : decode bP_draftBecomesTextOf 16 = .ok (.aastore, 1) := by decide +kernel
theorem dP_draftBecomesTextOf_17 : decode bP_draftBecomesTextOf 17 = .ok (.aload_n 0, 1) := by decide +kernel
theorem dP_draftBecomesTextOf_18 : decode bP_draftBecomesTextOf 18 = .ok (.aload_n 2, 1) := by decide +kernel
theorem dP_draftBecomesTextOf_19 : decode bP_draftBecomesTextOf 19 = .ok (.putfield 16, 3) := by decide +kernel
theorem dP_draftBecomesTextOf_22 : decode bP_draftBecomesTextOf 22 = .ok (.aload_n 0, 1) := by decide +kernel
theorem dP_draftBecomesTextOf_23 : decode bP_draftBecomesTextOf 23 = .ok (.getfield 11, 3) := by decide +kernel
theorem dP_draftBecomesTextOf_26 : decode bP_draftBecomesTextOf 26 = .ok (.iload_n 1, 1) := by decide +kernel
theorem dP_draftBecomesTextOf_27 : decode bP_draftBecomesTextOf 27 = .ok (.aaload, 1) := by decide +kernel
theorem dP_draftBecomesTextOf_28 : decode bP_draftBecomesTextOf 28 = .ok (.getfield 42, 3) := by decide +kernel
theorem dP_draftBecomesTextOf_31 : decode bP_draftBecomesTextOf 31 = .ok (.ireturn, 1) := by decide +kernel
theorem dP_requireDocument_0 : decode bP_requireDocument 0 = .ok (.iload_n 0, 1) := by decide +kernel
theorem dP_requireDocument_1 : decode bP_requireDocument 1 = .ok (.ifCond .lt 8, 3) := by decide +kernel
theorem dP_requireDocument_4 : decode bP_requireDocument 4 = .ok (.iload_n 0, 1) := by decide +kernel
theorem dP_requireDocument_5 : decode bP_requireDocument 5 = .ok (.iconst 4, 1) := by decide +kernel
theorem dP_requireDocument_6 : decode bP_requireDocument 6 = .ok (.if_icmp .lt 13, 3) := by decide +kernel
theorem dP_requireDocument_9 : decode bP_requireDocument 9 = .ok (.new 121, 3) := by decide +kernel
theorem dP_requireDocument_12 : decode bP_requireDocument 12 = .ok (.dup, 1) := by decide +kernel
theorem dP_requireDocument_13 : decode bP_requireDocument 13 = .ok (.ldc 123, 2) := by decide +kernel
theorem dP_requireDocument_15 : decode bP_requireDocument 15 = .ok (.invokespecial 125, 3) := by decide +kernel
theorem dP_requireDocument_18 : decode bP_requireDocument 18 = .ok (.athrow, 1) := by decide +kernel
theorem dP_requireDocument_19 : decode bP_requireDocument 19 = .ok (.return_, 1) := by decide +kernel
theorem dP_requireState_0 : decode bP_requireState 0 = .ok (.iload_n 0, 1) := by decide +kernel
theorem dP_requireState_1 : decode bP_requireState 1 = .ok (.ifCond .lt 9, 3) := by decide +kernel
theorem dP_requireState_4 : decode bP_requireState 4 = .ok (.iload_n 0, 1) := by decide +kernel
theorem dP_requireState_5 : decode bP_requireState 5 = .ok (.bipush 8, 2) := by decide +kernel
theorem dP_requireState_7 : decode bP_requireState 7 = .ok (.if_icmp .lt 13, 3) := by decide +kernel
theorem dP_requireState_10 : decode bP_requireState 10 = .ok (.new 121, 3) := by decide +kernel
theorem dP_requireState_13 : decode bP_requireState 13 = .ok (.dup, 1) := by decide +kernel
theorem dP_requireState_14 : decode bP_requireState 14 = .ok (.ldc 128, 2) := by decide +kernel
theorem dP_requireState_16 : decode bP_requireState 16 = .ok (.invokespecial 125, 3) := by decide +kernel
theorem dP_requireState_19 : decode bP_requireState 19 = .ok (.athrow, 1) := by decide +kernel
theorem dP_requireState_20 : decode bP_requireState 20 = .ok (.return_, 1) := by decide +kernel
theorem dP_requireArgument_0 : decode bP_requireArgument 0 = .ok (.iload_n 0, 1) := by decide +kernel
theorem dP_requireArgument_1 : decode bP_requireArgument 1 = .ok (.ifCond .ne 13, 3) := by decide +kernel
theorem dP_requireArgument_4 : decode bP_requireArgument 4 = .ok (.new 121, 3) := by decide +kernel
theorem dP_requireArgument_7 : decode bP_requireArgument 7 = .ok (.dup, 1) := by decide +kernel
theorem dP_requireArgument_8 : decode bP_requireArgument 8 = .ok (.ldc 130, 2) := by decide +kernel
theorem dP_requireArgument_10 : decode bP_requireArgument 10 = .ok (.invokespecial 125, 3) := by decide +kernel
theorem dP_requireArgument_13 : decode bP_requireArgument 13 = .ok (.athrow, 1) := by decide +kernel
theorem dP_requireArgument_14 : decode bP_requireArgument 14 = .ok (.return_, 1) := by decide +kernel
theorem dP_requireInside_0 : decode bP_requireInside 0 = .ok (.iload_n 0, 1) := by decide +kernel
theorem dP_requireInside_1 : decode bP_requireInside 1 = .ok (.ifCond .ne 13, 3) := by decide +kernel
theorem dP_requireInside_4 : decode bP_requireInside 4 = .ok (.new 132, 3) := by decide +kernel
theorem dP_requireInside_7 : decode bP_requireInside 7 = .ok (.dup, 1) := by decide +kernel
theorem dP_requireInside_8 : decode bP_requireInside 8 = .ok (.ldc 134, 2) := by decide +kernel
theorem dP_requireInside_10 : decode bP_requireInside 10 = .ok (.invokespecial 136, 3) := by decide +kernel
theorem dP_requireInside_13 : decode bP_requireInside 13 = .ok (.athrow, 1) := by decide +kernel
theorem dP_requireInside_14 : decode bP_requireInside 14 = .ok (.return_, 1) := by decide +kernel
theorem dP_requireRoom_0 : decode bP_requireRoom 0 = .ok (.lload_n 0, 1) := by decide +kernel
theorem dP_requireRoom_1 : decode bP_requireRoom 1 = .ok (.ldc2_w 137, 3) := by decide +kernel
theorem dP_requireRoom_4 : decode bP_requireRoom 4 = .ok (.lcmp, 1) := by decide +kernel
theorem dP_requireRoom_5 : decode bP_requireRoom 5 = .ok (.ifCond .le 13, 3) := by decide +kernel
theorem dP_requireRoom_8 : decode bP_requireRoom 8 = .ok (.new 139, 3) := by decide +kernel
theorem dP_requireRoom_11 : decode bP_requireRoom 11 = .ok (.dup, 1) := by decide +kernel
theorem dP_requireRoom_12 : decode bP_requireRoom 12 = .ok (.ldc 141, 2) := by decide +kernel
theorem dP_requireRoom_14 : decode bP_requireRoom 14 = .ok (.invokespecial 143, 3) := by decide +kernel
theorem dP_requireRoom_17 : decode bP_requireRoom 17 = .ok (.athrow, 1) := by decide +kernel
theorem dP_requireRoom_18 : decode bP_requireRoom 18 = .ok (.return_, 1) := by decide +kernel
theorem dP_requirePattern_0 : decode bP_requirePattern 0 = .ok (.aload_n 0, 1) := by decide +kernel
theorem dP_requirePattern_1 : decode bP_requirePattern 1 = .ok (.getfield 23, 3) := by decide +kernel
theorem dP_requirePattern_4 : decode bP_requirePattern 4 = .ok (.getfield 144, 3) := by decide +kernel
theorem dP_requirePattern_7 : decode bP_requirePattern 7 = .ok (.ifCond .ne 13, 3) := by decide +kernel
theorem dP_requirePattern_10 : decode bP_requirePattern 10 = .ok (.new 145, 3) := by decide +kernel
theorem dP_requirePattern_13 : decode bP_requirePattern 13 = .ok (.dup, 1) := by decide +kernel
theorem dP_requirePattern_14 : decode bP_requirePattern 14 = .ok (.ldc 147, 2) := by decide +kernel
theorem dP_requirePattern_16 : decode bP_requirePattern 16 = .ok (.invokespecial 149, 3) := by decide +kernel
theorem dP_requirePattern_19 : decode bP_requirePattern 19 = .ok (.athrow, 1) := by decide +kernel
theorem dP_requirePattern_20 : decode bP_requirePattern 20 = .ok (.return_, 1) := by decide +kernel
theorem dP_byteOf_0 : decode bP_byteOf 0 = .ok (.lload_n 0, 1) := by decide +kernel
theorem dP_byteOf_1 : decode bP_byteOf 1 = .ok (.bipush 8, 2) := by decide +kernel
theorem dP_byteOf_3 : decode bP_byteOf 3 = .ok (.iload_n 2, 1) := by decide +kernel
theorem dP_byteOf_4 : decode bP_byteOf 4 = .ok (.imul, 1) := by decide +kernel
theorem dP_byteOf_5 : decode bP_byteOf 5 = .ok (.lushr, 1) := by decide +kernel
theorem dP_byteOf_6 : decode bP_byteOf 6 = .ok (.l2i, 1) := by decide +kernel
theorem dP_byteOf_7 : decode bP_byteOf 7 = .ok (.sipush 255, 3) := by decide +kernel
theorem dP_byteOf_10 : decode bP_byteOf 10 = .ok (.iand, 1) := by decide +kernel
theorem dP_byteOf_11 : decode bP_byteOf 11 = .ok (.ireturn, 1) := by decide +kernel
theorem dP_commonBeginning_0 : decode bP_commonBeginning 0 = .ok (.aload_n 0, 1) := by decide +kernel
theorem dP_commonBeginning_1 : decode bP_commonBeginning 1 = .ok (.getfield 42, 3) := by decide +kernel
theorem dP_commonBeginning_4 : decode bP_commonBeginning 4 = .ok (.iload_n 1, 1) := by decide +kernel
theorem dP_commonBeginning_5 : decode bP_commonBeginning 5 = .ok (.isub, 1) := by decide +kernel
theorem dP_commonBeginning_6 : decode bP_commonBeginning 6 = .ok (.aload_n 2, 1) := by decide +kernel
theorem dP_commonBeginning_7 : decode bP_commonBeginning 7 = .ok (.getfield 42, 3) := by decide +kernel
theorem dP_commonBeginning_10 : decode bP_commonBeginning 10 = .ok (.iload_n 3, 1) := by decide +kernel
theorem dP_commonBeginning_11 : decode bP_commonBeginning 11 = .ok (.isub, 1) := by decide +kernel
theorem dP_commonBeginning_12 : decode bP_commonBeginning 12 = .ok (.invokestatic 150, 3) := by decide +kernel
theorem dP_commonBeginning_15 : decode bP_commonBeginning 15 = .ok (.istore 4, 2) := by decide +kernel
theorem dP_commonBeginning_17 : decode bP_commonBeginning 17 = .ok (.iconst 0, 1) := by decide +kernel
theorem dP_commonBeginning_18 : decode bP_commonBeginning 18 = .ok (.istore 5, 2) := by decide +kernel
theorem dP_commonBeginning_20 : decode bP_commonBeginning 20 = .ok (.iload 5, 2) := by decide +kernel
theorem dP_commonBeginning_22 : decode bP_commonBeginning 22 = .ok (.iload 4, 2) := by decide +kernel
theorem dP_commonBeginning_24 : decode bP_commonBeginning 24 = .ok (.if_icmp .ge 30, 3) := by decide +kernel
theorem dP_commonBeginning_27 : decode bP_commonBeginning 27 = .ok (.aload_n 0, 1) := by decide +kernel
theorem dP_commonBeginning_28 : decode bP_commonBeginning 28 = .ok (.getfield 61, 3) := by decide +kernel
theorem dP_commonBeginning_31 : decode bP_commonBeginning 31 = .ok (.iload_n 1, 1) := by decide +kernel
theorem dP_commonBeginning_32 : decode bP_commonBeginning 32 = .ok (.iload 5, 2) := by decide +kernel
theorem dP_commonBeginning_34 : decode bP_commonBeginning 34 = .ok (.iadd, 1) := by decide +kernel
theorem dP_commonBeginning_35 : decode bP_commonBeginning 35 = .ok (.iaload, 1) := by decide +kernel
theorem dP_commonBeginning_36 : decode bP_commonBeginning 36 = .ok (.aload_n 2, 1) := by decide +kernel
theorem dP_commonBeginning_37 : decode bP_commonBeginning 37 = .ok (.getfield 61, 3) := by decide +kernel
theorem dP_commonBeginning_40 : decode bP_commonBeginning 40 = .ok (.iload_n 3, 1) := by decide +kernel
theorem dP_commonBeginning_41 : decode bP_commonBeginning 41 = .ok (.iload 5, 2) := by decide +kernel
theorem dP_commonBeginning_43 : decode bP_commonBeginning 43 = .ok (.iadd, 1) := by decide +kernel
theorem dP_commonBeginning_44 : decode bP_commonBeginning 44 = .ok (.iaload, 1) := by decide +kernel
theorem dP_commonBeginning_45 : decode bP_commonBeginning 45 = .ok (.if_icmp .ne 9, 3) := by decide +kernel
theorem dP_commonBeginning_48 : decode bP_commonBeginning 48 = .ok (.iinc 5 1, 3) := by decide +kernel
theorem dP_commonBeginning_51 : decode bP_commonBeginning 51 = .ok (.goto (-31), 3) := by decide +kernel
theorem dP_commonBeginning_54 : decode bP_commonBeginning 54 = .ok (.iload 5, 2) := by decide +kernel
theorem dP_commonBeginning_56 : decode bP_commonBeginning 56 = .ok (.ireturn, 1) := by decide +kernel
theorem dP_nameWithOneMore_0 : decode bP_nameWithOneMore 0 = .ok (.ldc2_w 155, 3) := by decide +kernel
theorem dP_nameWithOneMore_3 : decode bP_nameWithOneMore 3 = .ok (.lload_n 0, 1) := by decide +kernel
theorem dP_nameWithOneMore_4 : decode bP_nameWithOneMore 4 = .ok (.bipush 31, 2) := by decide +kernel
theorem dP_nameWithOneMore_6 : decode bP_nameWithOneMore 6 = .ok (.lushr, 1) := by decide +kernel
theorem dP_nameWithOneMore_7 : decode bP_nameWithOneMore 7 = .ok (.lmul, 1) := by decide +kernel
theorem dP_nameWithOneMore_8 : decode bP_nameWithOneMore 8 = .ok (.lstore_n 3, 1) := by decide +kernel
theorem dP_nameWithOneMore_9 : decode bP_nameWithOneMore 9 = .ok (.ldc2_w 155, 3) := by decide +kernel
theorem dP_nameWithOneMore_12 : decode bP_nameWithOneMore 12 = .ok (.lload_n 0, 1) := by decide +kernel
theorem dP_nameWithOneMore_13 : decode bP_nameWithOneMore 13 = .ok (.ldc2_w 157, 3) := by decide +kernel
theorem dP_nameWithOneMore_16 : decode bP_nameWithOneMore 16 = .ok (.land, 1) := by decide +kernel
theorem dP_nameWithOneMore_17 : decode bP_nameWithOneMore 17 = .ok (.lmul, 1) := by decide +kernel
theorem dP_nameWithOneMore_18 : decode bP_nameWithOneMore 18 = .ok (.lstore 5, 2) := by decide +kernel
theorem dP_nameWithOneMore_20 : decode bP_nameWithOneMore 20 = .ok (.lload_n 3, 1) := by decide +kernel
theorem dP_nameWithOneMore_21 : decode bP_nameWithOneMore 21 = .ok (.bipush 30, 2) := by decide +kernel
theorem dP_nameWithOneMore_23 : decode bP_nameWithOneMore 23 = .ok (.lushr, 1) := by decide +kernel
theorem dP_nameWithOneMore_24 : decode bP_nameWithOneMore 24 = .ok (.lload_n 3, 1) := by decide +kernel
theorem dP_nameWithOneMore_25 : decode bP_nameWithOneMore 25 = .ok (.ldc2_w 159, 3) := by decide +kernel
theorem dP_nameWithOneMore_28 : decode bP_nameWithOneMore 28 = .ok (.land, 1) := by decide +kernel
theorem dP_nameWithOneMore_29 : decode bP_nameWithOneMore 29 = .ok (.bipush 31, 2) := by decide +kernel
theorem dP_nameWithOneMore_31 : decode bP_nameWithOneMore 31 = .ok (.lshl, 1) := by decide +kernel
theorem dP_nameWithOneMore_32 : decode bP_nameWithOneMore 32 = .ok (.ladd, 1) := by decide +kernel
theorem dP_nameWithOneMore_33 : decode bP_nameWithOneMore 33 = .ok (.lstore 7, 2) := by decide +kernel
theorem dP_nameWithOneMore_35 : decode bP_nameWithOneMore 35 = .ok (.lload 7, 2) := by decide +kernel
theorem dP_nameWithOneMore_37 : decode bP_nameWithOneMore 37 = .ok (.lload 5, 2) := by decide +kernel
theorem dP_nameWithOneMore_39 : decode bP_nameWithOneMore 39 = .ok (.ladd, 1) := by decide +kernel
theorem dP_nameWithOneMore_40 : decode bP_nameWithOneMore 40 = .ok (.iload_n 2, 1) := by decide +kernel
theorem dP_nameWithOneMore_41 : decode bP_nameWithOneMore 41 = .ok (.i2l, 1) := by decide +kernel
theorem dP_nameWithOneMore_42 : decode bP_nameWithOneMore 42 = .ok (.ladd, 1) := by decide +kernel
theorem dP_nameWithOneMore_43 : decode bP_nameWithOneMore 43 = .ok (.lconst 1, 1) := by decide +kernel
theorem dP_nameWithOneMore_44 : decode bP_nameWithOneMore 44 = .ok (.ladd, 1) := by decide +kernel
theorem dP_nameWithOneMore_45 : decode bP_nameWithOneMore 45 = .ok (.ldc2_w 161, 3) := by decide +kernel
theorem dP_nameWithOneMore_48 : decode bP_nameWithOneMore 48 = .ok (.lrem, 1) := by decide +kernel
theorem dP_nameWithOneMore_49 : decode bP_nameWithOneMore 49 = .ok (.lreturn, 1) := by decide +kernel
