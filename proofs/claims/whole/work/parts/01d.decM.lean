theorem dM_init_0 : decode bM_init 0 = .ok (.aload_n 0, 1) := by decide +kernel
theorem dM_init_1 : decode bM_init 1 = .ok (.invokespecial 1, 3) := by decide +kernel
theorem dM_init_4 : decode bM_init 4 = .ok (.aload_n 0, 1) := by decide +kernel
theorem dM_init_5 : decode bM_init 5 = .ok (.sipush 4000, 3) := by decide +kernel
theorem dM_init_8 : decode bM_init 8 = .ok (.newarray .int, 2) := by decide +kernel
theorem dM_init_10 : decode bM_init 10 = .ok (.putfield 7, 3) := by decide +kernel
theorem dM_init_13 : decode bM_init 13 = .ok (.aload_n 0, 1) := by decide +kernel
theorem dM_init_14 : decode bM_init 14 = .ok (.iconst 4, 1) := by decide +kernel
theorem dM_init_15 : decode bM_init 15 = .ok (.newarray .int, 2) := by decide +kernel
theorem dM_init_17 : decode bM_init 17 = .ok (.putfield 13, 3) := by decide +kernel
theorem dM_init_20 : decode bM_init 20 = .ok (.aload_n 0, 1) := by decide +kernel
theorem dM_init_21 : decode bM_init 21 = .ok (.sipush 1000, 3) := by decide +kernel
theorem dM_init_24 : decode bM_init 24 = .ok (.newarray .int, 2) := by decide +kernel
theorem dM_init_26 : decode bM_init 26 = .ok (.putfield 16, 3) := by decide +kernel
theorem dM_init_29 : decode bM_init 29 = .ok (.aload_n 0, 1) := by decide +kernel
theorem dM_init_30 : decode bM_init 30 = .ok (.bipush 16, 2) := by decide +kernel
theorem dM_init_32 : decode bM_init 32 = .ok (.newarray .int, 2) := by decide +kernel
theorem dM_init_34 : decode bM_init 34 = .ok (.putfield 19, 3) := by decide +kernel
theorem dM_init_37 : decode bM_init 37 = .ok (.aload_n 0, 1) := by decide +kernel
theorem dM_init_38 : decode bM_init 38 = .ok (.sipush 2048, 3) := by decide +kernel
theorem dM_init_41 : decode bM_init 41 = .ok (.newarray .int, 2) := by decide +kernel
theorem dM_init_43 : decode bM_init 43 = .ok (.putfield 22, 3) := by decide +kernel
theorem dM_init_46 : decode bM_init 46 = .ok (.aload_n 0, 1) := by decide +kernel
theorem dM_init_47 : decode bM_init 47 = .ok (.bipush 8, 2) := by decide +kernel
theorem dM_init_49 : decode bM_init 49 = .ok (.newarray .boolean, 2) := by decide +kernel
theorem dM_init_51 : decode bM_init 51 = .ok (.putfield 25, 3) := by decide +kernel
theorem dM_init_54 : decode bM_init 54 = .ok (.return_, 1) := by decide +kernel
theorem dM_thrown_0 : decode bM_thrown 0 = .ok (.aload_n 0, 1) := by decide +kernel
theorem dM_thrown_1 : decode bM_thrown 1 = .ok (.getfield 29, 3) := by decide +kernel
theorem dM_thrown_4 : decode bM_thrown 4 = .ok (.ireturn, 1) := by decide +kernel
theorem dM_isDocument_0 : decode bM_isDocument 0 = .ok (.iload_n 0, 1) := by decide +kernel
theorem dM_isDocument_1 : decode bM_isDocument 1 = .ok (.ifCond .lt 12, 3) := by decide +kernel
theorem dM_isDocument_4 : decode bM_isDocument 4 = .ok (.iload_n 0, 1) := by decide +kernel
theorem dM_isDocument_5 : decode bM_isDocument 5 = .ok (.iconst 3, 1) := by decide +kernel
theorem dM_isDocument_6 : decode bM_isDocument 6 = .ok (.if_icmp .gt 7, 3) := by decide +kernel
theorem dM_isDocument_9 : decode bM_isDocument 9 = .ok (.iconst 1, 1) := by decide +kernel
theorem dM_isDocument_10 : decode bM_isDocument 10 = .ok (.goto 4, 3) := by decide +kernel
theorem dM_isDocument_13 : decode bM_isDocument 13 = .ok (.iconst 0, 1) := by decide +kernel
theorem dM_isDocument_14 : decode bM_isDocument 14 = .ok (.ireturn, 1) := by decide +kernel
theorem dM_isRange_0 : decode bM_isRange 0 = .ok (.iload_n 2, 1) := by decide +kernel
theorem dM_isRange_1 : decode bM_isRange 1 = .ok (.ifCond .lt 22, 3) := by decide +kernel
theorem dM_isRange_4 : decode bM_isRange 4 = .ok (.iload_n 2, 1) := by decide +kernel
theorem dM_isRange_5 : decode bM_isRange 5 = .ok (.iload_n 3, 1) := by decide +kernel
theorem dM_isRange_6 : decode bM_isRange 6 = .ok (.if_icmp .gt 17, 3) := by decide +kernel
theorem dM_isRange_9 : decode bM_isRange 9 = .ok (.iload_n 3, 1) := by decide +kernel
theorem dM_isRange_10 : decode bM_isRange 10 = .ok (.aload_n 0, 1) := by decide +kernel
theorem dM_isRange_11 : decode bM_isRange 11 = .ok (.getfield 13, 3) := by decide +kernel
theorem dM_isRange_14 : decode bM_isRange 14 = .ok (.iload_n 1, 1) := by decide +kernel
theorem dM_isRange_15 : decode bM_isRange 15 = .ok (.iaload, 1) := by decide +kernel
theorem dM_isRange_16 : decode bM_isRange 16 = .ok (.if_icmp .gt 7, 3) := by decide +kernel
theorem dM_isRange_19 : decode bM_isRange 19 = .ok (.iconst 1, 1) := by decide +kernel
theorem dM_isRange_20 : decode bM_isRange 20 = .ok (.goto 4, 3) := by decide +kernel
theorem dM_isRange_23 : decode bM_isRange 23 = .ok (.iconst 0, 1) := by decide +kernel
theorem dM_isRange_24 : decode bM_isRange 24 = .ok (.ireturn, 1) := by decide +kernel
theorem dM_add_0 : decode bM_add 0 = .ok (.iload_n 2, 1) := by decide +kernel
theorem dM_add_1 : decode bM_add 1 = .ok (.istore 4, 2) := by decide +kernel
theorem dM_add_3 : decode bM_add 3 = .ok (.iload 4, 2) := by decide +kernel
theorem dM_add_5 : decode bM_add 5 = .ok (.iload_n 3, 1) := by decide +kernel
theorem dM_add_6 : decode bM_add 6 = .ok (.if_icmp .ge 41, 3) := by decide +kernel
theorem dM_add_9 : decode bM_add 9 = .ok (.aload_n 0, 1) := by decide +kernel
theorem dM_add_10 : decode bM_add 10 = .ok (.getfield 16, 3) := by decide +kernel
theorem dM_add_13 : decode bM_add 13 = .ok (.aload_n 0, 1) := by decide +kernel
theorem dM_add_14 : decode bM_add 14 = .ok (.getfield 33, 3) := by decide +kernel
theorem dM_add_17 : decode bM_add 17 = .ok (.aload_n 0, 1) := by decide +kernel
theorem dM_add_18 : decode bM_add 18 = .ok (.getfield 7, 3) := by decide +kernel
theorem dM_add_21 : decode bM_add 21 = .ok (.sipush 1000, 3) := by decide +kernel
theorem dM_add_24 : decode bM_add 24 = .ok (.iload_n 1, 1) := by decide +kernel
theorem dM_add_25 : decode bM_add 25 = .ok (.imul, 1) := by decide +kernel
theorem dM_add_26 : decode bM_add 26 = .ok (.iload 4, 2) := by decide +kernel
theorem dM_add_28 : decode bM_add 28 = .ok (.iadd, 1) := by decide +kernel
theorem dM_add_29 : decode bM_add 29 = .ok (.iaload, 1) := by decide +kernel
theorem dM_add_30 : decode bM_add 30 = .ok (.iastore, 1) := by decide +kernel
theorem dM_add_31 : decode bM_add 31 = .ok (.aload_n 0, 1) := by decide +kernel
theorem dM_add_32 : decode bM_add 32 = .ok (.dup, 1) := by decide +kernel
theorem dM_add_33 : decode bM_add 33 = .ok (.getfield 33, 3) := by decide +kernel
theorem dM_add_36 : decode bM_add 36 = .ok (.iconst 1, 1) := by decide +kernel
theorem dM_add_37 : decode bM_add 37 = .ok (.iadd, 1) := by decide +kernel
theorem dM_add_38 : decode bM_add 38 = .ok (.putfield 33, 3) := by decide +kernel
theorem dM_add_41 : decode bM_add 41 = .ok (.iinc 4 1, 3) := by decide +kernel
theorem dM_add_44 : decode bM_add 44 = .ok (.goto (-41), 3) := by decide +kernel
theorem dM_add_47 : decode bM_add 47 = .ok (.return_, 1) := by decide +kernel
theorem dM_become_0 : decode bM_become 0 = .ok (.iconst 0, 1) := by decide +kernel
theorem dM_become_1 : decode bM_become 1 = .ok (.istore_n 2, 1) := by decide +kernel
theorem dM_become_2 : decode bM_become 2 = .ok (.iload_n 2, 1) := by decide +kernel
theorem dM_become_3 : decode bM_become 3 = .ok (.aload_n 0, 1) := by decide +kernel
theorem dM_become_4 : decode bM_become 4 = .ok (.getfield 33, 3) := by decide +kernel
theorem dM_become_7 : decode bM_become 7 = .ok (.if_icmp .ge 27, 3) := by decide +kernel
theorem dM_become_10 : decode bM_become 10 = .ok (.aload_n 0, 1) := by decide +kernel
theorem dM_become_11 : decode bM_become 11 = .ok (.getfield 7, 3) := by decide +kernel
theorem dM_become_14 : decode bM_become 14 = .ok (.sipush 1000, 3) := by decide +kernel
theorem dM_become_17 : decode bM_become 17 = .ok (.iload_n 1, 1) := by decide +kernel
theorem dM_become_18 : decode bM_become 18 = .ok (.imul, 1) := by decide +kernel
theorem dM_become_19 : decode bM_become 19 = .ok (.iload_n 2, 1) := by decide +kernel
theorem dM_become_20 : decode bM_become 20 = .ok (.iadd, 1) := by decide +kernel
theorem dM_become_21 : decode bM_become 21 = .ok (.aload_n 0, 1) := by decide +kernel
theorem dM_become_22 : decode bM_become 22 = .ok (.getfield 16, 3) := by decide +kernel
theorem dM_become_25 : decode bM_become 25 = .ok (.iload_n 2, 1) := by decide +kernel
theorem dM_become_26 : decode bM_become 26 = .ok (.iaload, 1) := by decide +kernel
theorem dM_become_27 : decode bM_become 27 = .ok (.iastore, 1) := by decide +kernel
theorem dM_become_28 : decode bM_become 28 = .ok (.iinc 2 1, 3) := by decide +kernel
theorem dM_become_31 : decode bM_become 31 = .ok (.goto (-29), 3) := by decide +kernel
theorem dM_become_34 : decode bM_become 34 = .ok (.aload_n 0, 1) := by decide +kernel
theorem dM_become_35 : decode bM_become 35 = .ok (.getfield 13, 3) := by decide +kernel
theorem dM_become_38 : decode bM_become 38 = .ok (.iload_n 1, 1) := by decide +kernel
theorem dM_become_39 : decode bM_become 39 = .ok (.aload_n 0, 1) := by decide +kernel
theorem dM_become_40 : decode bM_become 40 = .ok (.getfield 33, 3) := by decide +kernel
theorem dM_become_43 : decode bM_become 43 = .ok (.iastore, 1) := by decide +kernel
theorem dM_become_44 : decode bM_become 44 = .ok (.aload_n 0, 1) := by decide +kernel
theorem dM_become_45 : decode bM_become 45 = .ok (.getfield 33, 3) := by decide +kernel
theorem dM_become_48 : decode bM_become 48 = .ok (.ireturn, 1) := by decide +kernel
theorem dM_write_0 : decode bM_write 0 = .ok (.aload_n 0, 1) := by decide +kernel
theorem dM_write_1 : decode bM_write 1 = .ok (.iload_n 1, 1) := by decide +kernel
theorem dM_write_2 : decode bM_write 2 = .ok (.invokestatic 36, 3) := by decide +kernel
theorem dM_write_5 : decode bM_write 5 = .ok (.ifCond .eq 16, 3) := by decide +kernel
theorem dM_write_8 : decode bM_write 8 = .ok (.iload 4, 2) := by decide +kernel
theorem dM_write_10 : decode bM_write 10 = .ok (.iconst 1, 1) := by decide +kernel
theorem dM_write_11 : decode bM_write 11 = .ok (.if_icmp .lt 10, 3) := by decide +kernel
theorem dM_write_14 : decode bM_write 14 = .ok (.iload 4, 2) := by decide +kernel
theorem dM_write_16 : decode bM_write 16 = .ok (.bipush 8, 2) := by decide +kernel
theorem dM_write_18 : decode bM_write 18 = .ok (.if_icmp .le 7, 3) := by decide +kernel
theorem dM_write_21 : decode bM_write 21 = .ok (.iconst 1, 1) := by decide +kernel
theorem dM_write_22 : decode bM_write 22 = .ok (.goto 23, 3) := by decide +kernel
theorem dM_write_25 : decode bM_write 25 = .ok (.aload_n 0, 1) := by decide +kernel
theorem dM_write_26 : decode bM_write 26 = .ok (.getfield 13, 3) := by decide +kernel
theorem dM_write_29 : decode bM_write 29 = .ok (.iload_n 1, 1) := by decide +kernel
theorem dM_write_30 : decode bM_write 30 = .ok (.iaload, 1) := by decide +kernel
theorem dM_write_31 : decode bM_write 31 = .ok (.iload 4, 2) := by decide +kernel
theorem dM_write_33 : decode bM_write 33 = .ok (.iadd, 1) := by decide +kernel
theorem dM_write_34 : decode bM_write 34 = .ok (.sipush 1000, 3) := by decide +kernel
theorem dM_write_37 : decode bM_write 37 = .ok (.if_icmp .le 7, 3) := by decide +kernel
theorem dM_write_40 : decode bM_write 40 = .ok (.iconst 2, 1) := by decide +kernel
theorem dM_write_41 : decode bM_write 41 = .ok (.goto 4, 3) := by decide +kernel
theorem dM_write_44 : decode bM_write 44 = .ok (.iconst 0, 1) := by decide +kernel
theorem dM_write_45 : decode bM_write 45 = .ok (.putfield 29, 3) := by decide +kernel
theorem dM_write_48 : decode bM_write 48 = .ok (.aload_n 0, 1) := by decide +kernel
theorem dM_write_49 : decode bM_write 49 = .ok (.getfield 29, 3) := by decide +kernel
theorem dM_write_52 : decode bM_write 52 = .ok (.ifCond .le 5, 3) := by decide +kernel
theorem dM_write_55 : decode bM_write 55 = .ok (.iconst 0, 1) := by decide +kernel
theorem dM_write_56 : decode bM_write 56 = .ok (.ireturn, 1) := by decide +kernel
theorem dM_write_57 : decode bM_write 57 = .ok (.iconst 0, 1) := by decide +kernel
theorem dM_write_58 : decode bM_write 58 = .ok (.istore 5, 2) := by decide +kernel
theorem dM_write_60 : decode bM_write 60 = .ok (.iload 5, 2) := by decide +kernel
theorem dM_write_62 : decode bM_write 62 = .ok (.iload 4, 2) := by decide +kernel
theorem dM_write_64 : decode bM_write 64 = .ok (.if_icmp .ge 48, 3) := by decide +kernel
theorem dM_write_67 : decode bM_write 67 = .ok (.aload_n 0, 1) := by decide +kernel
theorem dM_write_68 : decode bM_write 68 = .ok (.getfield 7, 3) := by decide +kernel
theorem dM_write_71 : decode bM_write 71 = .ok (.sipush 1000, 3) := by decide +kernel
theorem dM_write_74 : decode bM_write 74 = .ok (.iload_n 1, 1) := by decide +kernel
theorem dM_write_75 : decode bM_write 75 = .ok (.imul, 1) := by decide +kernel
theorem dM_write_76 : decode bM_write 76 = .ok (.aload_n 0, 1) := by decide +kernel
theorem dM_write_77 : decode bM_write 77 = .ok (.getfield 13, 3) := by decide +kernel
theorem dM_write_80 : decode bM_write 80 = .ok (.iload_n 1, 1) := by decide +kernel
theorem dM_write_81 : decode bM_write 81 = .ok (.iaload, 1) := by decide +kernel
theorem dM_write_82 : decode bM_write 82 = .ok (.iadd, 1) := by decide +kernel
theorem dM_write_83 : decode bM_write 83 = .ok (.lload_n 2, 1) := by decide +kernel
theorem dM_write_84 : decode bM_write 84 = .ok (.bipush 8, 2) := by decide +kernel
theorem dM_write_86 : decode bM_write 86 = .ok (.iload 5, 2) := by decide +kernel
theorem dM_write_88 : decode bM_write 88 = .ok (.imul, 1) := by decide +kernel
theorem dM_write_89 : decode bM_write 89 = .ok (.lshr, 1) := by decide +kernel
theorem dM_write_90 : decode bM_write 90 = .ok (.ldc2_w 40, 3) := by decide +kernel
theorem dM_write_93 : decode bM_write 93 = .ok (.land, 1) := by decide +kernel
theorem dM_write_94 : decode bM_write 94 = .ok (.l2i, 1) := by decide +kernel
theorem dM_write_95 : decode bM_write 95 = .ok (.iastore, 1) := by decide +kernel
theorem dM_write_96 : decode bM_write 96 = .ok (.aload_n 0, 1) := by decide +kernel
theorem dM_write_97 : decode bM_write 97 = .ok (.getfield 13, 3) := by decide +kernel
theorem dM_write_100 : decode bM_write 100 = .ok (.iload_n 1, 1) := by decide +kernel
theorem dM_write_101 : decode bM_write 101 = .ok (.dup2, 1) := by decide +kernel
theorem dM_write_102 : decode bM_write 102 = .ok (.iaload, 1) := by decide +kernel
theorem dM_write_103 : decode bM_write 103 = .ok (.iconst 1, 1) := by decide +kernel
theorem dM_write_104 : decode bM_write 104 = .ok (.iadd, 1) := by decide +kernel
theorem dM_write_105 : decode bM_write 105 = .ok (.iastore, 1) := by decide +kernel
theorem dM_write_106 : decode bM_write 106 = .ok (.iinc 5 1, 3) := by decide +kernel
theorem dM_write_109 : decode bM_write 109 = .ok (.goto (-49), 3) := by decide +kernel
theorem dM_write_112 : decode bM_write 112 = .ok (.aload_n 0, 1) := by decide +kernel
theorem dM_write_113 : decode bM_write 113 = .ok (.getfield 13, 3) := by decide +kernel
theorem dM_write_116 : decode bM_write 116 = .ok (.iload_n 1, 1) := by decide +kernel
theorem dM_write_117 : decode bM_write 117 = .ok (.iaload, 1) := by decide +kernel
theorem dM_write_118 : decode bM_write 118 = .ok (.ireturn, 1) := by decide +kernel
theorem dM_length_0 : decode bM_length 0 = .ok (.aload_n 0, 1) := by decide +kernel
theorem dM_length_1 : decode bM_length 1 = .ok (.iload_n 1, 1) := by decide +kernel
theorem dM_length_2 : decode bM_length 2 = .ok (.invokestatic 36, 3) := by decide +kernel
theorem dM_length_5 : decode bM_length 5 = .ok (.ifCond .eq 7, 3) := by decide +kernel
theorem dM_length_8 : decode bM_length 8 = .ok (.iconst 0, 1) := by decide +kernel
theorem dM_length_9 : decode bM_length 9 = .ok (.goto 4, 3) := by decide +kernel
theorem dM_length_12 : decode bM_length 12 = .ok (.iconst 1, 1) := by decide +kernel
theorem dM_length_13 : decode bM_length 13 = .ok (.putfield 29, 3) := by decide +kernel
theorem dM_length_16 : decode bM_length 16 = .ok (.aload_n 0, 1) := by decide +kernel
theorem dM_length_17 : decode bM_length 17 = .ok (.getfield 29, 3) := by decide +kernel
theorem dM_length_20 : decode bM_length 20 = .ok (.ifCond .le 7, 3) := by decide +kernel
theorem dM_length_23 : decode bM_length 23 = .ok (.iconst 0, 1) := by decide +kernel
theorem dM_length_24 : decode bM_length 24 = .ok (.goto 9, 3) := by decide +kernel
theorem dM_length_27 : decode bM_length 27 = .ok (.aload_n 0, 1) := by decide +kernel
theorem dM_length_28 : decode bM_length 28 = .ok (.getfield 13, 3) := by decide +kernel
theorem dM_length_31 : decode bM_length 31 = .ok (.iload_n 1, 1) := by decide +kernel
theorem dM_length_32 : decode bM_length 32 = .ok (.iaload, 1) := by decide +kernel
theorem dM_length_33 : decode bM_length 33 = .ok (.ireturn, 1) := by decide +kernel
theorem dM_byteAt_0 : decode bM_byteAt 0 = .ok (.aload_n 0, 1) := by decide +kernel
theorem dM_byteAt_1 : decode bM_byteAt 1 = .ok (.iload_n 1, 1) := by decide +kernel
theorem dM_byteAt_2 : decode bM_byteAt 2 = .ok (.invokestatic 36, 3) := by decide +kernel
theorem dM_byteAt_5 : decode bM_byteAt 5 = .ok (.ifCond .ne 7, 3) := by decide +kernel
theorem dM_byteAt_8 : decode bM_byteAt 8 = .ok (.iconst 1, 1) := by decide +kernel
theorem dM_byteAt_9 : decode bM_byteAt 9 = .ok (.goto 22, 3) := by decide +kernel
theorem dM_byteAt_12 : decode bM_byteAt 12 = .ok (.iload_n 2, 1) := by decide +kernel
theorem dM_byteAt_13 : decode bM_byteAt 13 = .ok (.ifCond .lt 13, 3) := by decide +kernel
theorem dM_byteAt_16 : decode bM_byteAt 16 = .ok (.iload_n 2, 1) := by decide +kernel
theorem dM_byteAt_17 : decode bM_byteAt 17 = .ok (.aload_n 0, 1) := by decide +kernel
theorem dM_byteAt_18 : decode bM_byteAt 18 = .ok (.getfield 13, 3) := by decide +kernel
theorem dM_byteAt_21 : decode bM_byteAt 21 = .ok (.iload_n 1, 1) := by decide +kernel
theorem dM_byteAt_22 : decode bM_byteAt 22 = .ok (.iaload, 1) := by decide +kernel
theorem dM_byteAt_23 : decode bM_byteAt 23 = .ok (.if_icmp .lt 7, 3) := by decide +kernel
theorem dM_byteAt_26 : decode bM_byteAt 26 = .ok (.iconst 2, 1) := by decide +kernel
theorem dM_byteAt_27 : decode bM_byteAt 27 = .ok (.goto 4, 3) := by decide +kernel
theorem dM_byteAt_30 : decode bM_byteAt 30 = .ok (.iconst 0, 1) := by decide +kernel
theorem dM_byteAt_31 : decode bM_byteAt 31 = .ok (.putfield 29, 3) := by decide +kernel
theorem dM_byteAt_34 : decode bM_byteAt 34 = .ok (.aload_n 0, 1) := by decide +kernel
theorem dM_byteAt_35 : decode bM_byteAt 35 = .ok (.getfield 29, 3) := by decide +kernel
theorem dM_byteAt_38 : decode bM_byteAt 38 = .ok (.ifCond .le 7, 3) := by decide +kernel
theorem dM_byteAt_41 : decode bM_byteAt 41 = .ok (.iconst 0, 1) := by decide +kernel
theorem dM_byteAt_42 : decode bM_byteAt 42 = .ok (.goto 15, 3) := by decide +kernel
theorem dM_byteAt_45 : decode bM_byteAt 45 = .ok (.aload_n 0, 1) := by decide +kernel
theorem dM_byteAt_46 : decode bM_byteAt 46 = .ok (.getfield 7, 3) := by decide +kernel
theorem dM_byteAt_49 : decode bM_byteAt 49 = .ok (.sipush 1000, 3) := by decide +kernel
theorem dM_byteAt_52 : decode bM_byteAt 52 = .ok (.iload_n 1, 1) := by decide +kernel
theorem dM_byteAt_53 : decode bM_byteAt 53 = .ok (.imul, 1) := by decide +kernel
theorem dM_byteAt_54 : decode bM_byteAt 54 = .ok (.iload_n 2, 1) := by decide +kernel
theorem dM_byteAt_55 : decode bM_byteAt 55 = .ok (.iadd, 1) := by decide +kernel
theorem dM_byteAt_56 : decode bM_byteAt 56 = .ok (.iaload, 1) := by decide +kernel
theorem dM_byteAt_57 : decode bM_byteAt 57 = .ok (.ireturn, 1) := by decide +kernel
theorem dM_copy_0 : decode bM_copy 0 = .ok (.aload_n 0, 1) := by decide +kernel
theorem dM_copy_1 : decode bM_copy 1 = .ok (.iload_n 1, 1) := by decide +kernel
theorem dM_copy_2 : decode bM_copy 2 = .ok (.invokestatic 36, 3) := by decide +kernel
theorem dM_copy_5 : decode bM_copy 5 = .ok (.ifCond .eq 11, 3) := by decide +kernel
theorem dM_copy_8 : decode bM_copy 8 = .ok (.iload 4, 2) := by decide +kernel
theorem dM_copy_10 : decode bM_copy 10 = .ok (.invokestatic 36, 3) := by decide +kernel
theorem dM_copy_13 : decode bM_copy 13 = .ok (.ifCond .ne 7, 3) := by decide +kernel
theorem dM_copy_16 : decode bM_copy 16 = .ok (.iconst 1, 1) := by decide +kernel
theorem dM_copy_17 : decode bM_copy 17 = .ok (.goto 18, 3) := by decide +kernel
theorem dM_copy_20 : decode bM_copy 20 = .ok (.aload_n 0, 1) := by decide +kernel
theorem dM_copy_21 : decode bM_copy 21 = .ok (.iload_n 1, 1) := by decide +kernel
theorem dM_copy_22 : decode bM_copy 22 = .ok (.iload_n 2, 1) := by decide +kernel
theorem dM_copy_23 : decode bM_copy 23 = .ok (.iload_n 3, 1) := by decide +kernel
theorem dM_copy_24 : decode bM_copy 24 = .ok (.invokevirtual 42, 3) := by decide +kernel
theorem dM_copy_27 : decode bM_copy 27 = .ok (.ifCond .ne 7, 3) := by decide +kernel
theorem dM_copy_30 : decode bM_copy 30 = .ok (.iconst 2, 1) := by decide +kernel
theorem dM_copy_31 : decode bM_copy 31 = .ok (.goto 4, 3) := by decide +kernel
theorem dM_copy_34 : decode bM_copy 34 = .ok (.iconst 0, 1) := by decide +kernel
theorem dM_copy_35 : decode bM_copy 35 = .ok (.putfield 29, 3) := by decide +kernel
theorem dM_copy_38 : decode bM_copy 38 = .ok (.aload_n 0, 1) := by decide +kernel
theorem dM_copy_39 : decode bM_copy 39 = .ok (.getfield 29, 3) := by decide +kernel
theorem dM_copy_42 : decode bM_copy 42 = .ok (.ifCond .le 5, 3) := by decide +kernel
theorem dM_copy_45 : decode bM_copy 45 = .ok (.iconst 0, 1) := by decide +kernel
theorem dM_copy_46 : decode bM_copy 46 = .ok (.ireturn, 1) := by decide +kernel
theorem dM_copy_47 : decode bM_copy 47 = .ok (.aload_n 0, 1) := by decide +kernel
theorem dM_copy_48 : decode bM_copy 48 = .ok (.iconst 0, 1) := by decide +kernel
theorem dM_copy_49 : decode bM_copy 49 = .ok (.putfield 33, 3) := by decide +kernel
theorem dM_copy_52 : decode bM_copy 52 = .ok (.aload_n 0, 1) := by decide +kernel
theorem dM_copy_53 : decode bM_copy 53 = .ok (.iload_n 1, 1) := by decide +kernel
theorem dM_copy_54 : decode bM_copy 54 = .ok (.iload_n 2, 1) := by decide +kernel
theorem dM_copy_55 : decode bM_copy 55 = .ok (.iload_n 3, 1) := by decide +kernel
theorem dM_copy_56 : decode bM_copy 56 = .ok (.invokevirtual 46, 3) := by decide +kernel
theorem dM_copy_59 : decode bM_copy 59 = .ok (.aload_n 0, 1) := by decide +kernel
theorem dM_copy_60 : decode bM_copy 60 = .ok (.iload 4, 2) := by decide +kernel
theorem dM_copy_62 : decode bM_copy 62 = .ok (.invokevirtual 50, 3) := by decide +kernel
theorem dM_copy_65 : decode bM_copy 65 = .ok (.ireturn, 1) := by decide +kernel
theorem dM_join_0 : decode bM_join 0 = .ok (.aload_n 0, 1) := by decide +kernel
theorem dM_join_1 : decode bM_join 1 = .ok (.iload_n 1, 1) := by decide +kernel
theorem dM_join_2 : decode bM_join 2 = .ok (.invokestatic 36, 3) := by decide +kernel
theorem dM_join_5 : decode bM_join 5 = .ok (.ifCond .eq 17, 3) := by decide +kernel
theorem dM_join_8 : decode bM_join 8 = .ok (.iload_n 2, 1) := by decide +kernel
theorem dM_join_9 : decode bM_join 9 = .ok (.invokestatic 36, 3) := by decide +kernel
theorem dM_join_12 : decode bM_join 12 = .ok (.ifCond .eq 10, 3) := by decide +kernel
theorem dM_join_15 : decode bM_join 15 = .ok (.iload_n 3, 1) := by decide +kernel
theorem dM_join_16 : decode bM_join 16 = .ok (.invokestatic 36, 3) := by decide +kernel
theorem dM_join_19 : decode bM_join 19 = .ok (.ifCond .ne 7, 3) := by decide +kernel
theorem dM_join_22 : decode bM_join 22 = .ok (.iconst 1, 1) := by decide +kernel
theorem dM_join_23 : decode bM_join 23 = .ok (.goto 27, 3) := by decide +kernel
theorem dM_join_26 : decode bM_join 26 = .ok (.aload_n 0, 1) := by decide +kernel
theorem dM_join_27 : decode bM_join 27 = .ok (.getfield 13, 3) := by decide +kernel
theorem dM_join_30 : decode bM_join 30 = .ok (.iload_n 1, 1) := by decide +kernel
theorem dM_join_31 : decode bM_join 31 = .ok (.iaload, 1) := by decide +kernel
theorem dM_join_32 : decode bM_join 32 = .ok (.aload_n 0, 1) := by decide +kernel
theorem dM_join_33 : decode bM_join 33 = .ok (.getfield 13, 3) := by decide +kernel
theorem dM_join_36 : decode bM_join 36 = .ok (.iload_n 2, 1) := by decide +kernel
theorem dM_join_37 : decode bM_join 37 = .ok (.iaload, 1) := by decide +kernel
theorem dM_join_38 : decode bM_join 38 = .ok (.iadd, 1) := by decide +kernel
theorem dM_join_39 : decode bM_join 39 = .ok (.sipush 1000, 3) := by decide +kernel
theorem dM_join_42 : decode bM_join 42 = .ok (.if_icmp .le 7, 3) := by decide +kernel
theorem dM_join_45 : decode bM_join 45 = .ok (.iconst 2, 1) := by decide +kernel
theorem dM_join_46 : decode bM_join 46 = .ok (.goto 4, 3) := by decide +kernel
theorem dM_join_49 : decode bM_join 49 = .ok (.iconst 0, 1) := by decide +kernel
theorem dM_join_50 : decode bM_join 50 = .ok (.putfield 29, 3) := by decide +kernel
theorem dM_join_53 : decode bM_join 53 = .ok (.aload_n 0, 1) := by decide +kernel
theorem dM_join_54 : decode bM_join 54 = .ok (.getfield 29, 3) := by decide +kernel
theorem dM_join_57 : decode bM_join 57 = .ok (.ifCond .le 5, 3) := by decide +kernel
theorem dM_join_60 : decode bM_join 60 = .ok (.iconst 0, 1) := by decide +kernel
theorem dM_join_61 : decode bM_join 61 = .ok (.ireturn, 1) := by decide +kernel
theorem dM_join_62 : decode bM_join 62 = .ok (.aload_n 0, 1) := by decide +kernel
theorem dM_join_63 : decode bM_join 63 = .ok (.iconst 0, 1) := by decide +kernel
theorem dM_join_64 : decode bM_join 64 = .ok (.putfield 33, 3) := by decide +kernel
theorem dM_join_67 : decode bM_join 67 = .ok (.aload_n 0, 1) := by decide +kernel
theorem dM_join_68 : decode bM_join 68 = .ok (.iload_n 1, 1) := by decide +kernel
theorem dM_join_69 : decode bM_join 69 = .ok (.iconst 0, 1) := by decide +kernel
theorem dM_join_70 : decode bM_join 70 = .ok (.aload_n 0, 1) := by decide +kernel
theorem dM_join_71 : decode bM_join 71 = .ok (.getfield 13, 3) := by decide +kernel
theorem dM_join_74 : decode bM_join 74 = .ok (.iload_n 1, 1) := by decide +kernel
theorem dM_join_75 : decode bM_join 75 = .ok (.iaload, 1) := by decide +kernel
theorem dM_join_76 : decode bM_join 76 = .ok (.invokevirtual 46, 3) := by decide +kernel
theorem dM_join_79 : decode bM_join 79 = .ok (.aload_n 0, 1) := by decide +kernel
theorem dM_join_80 : decode bM_join 80 = .ok (.iload_n 2, 1) := by decide +kernel
theorem dM_join_81 : decode bM_join 81 = .ok (.iconst 0, 1) := by decide +kernel
theorem dM_join_82 : decode bM_join 82 = .ok (.aload_n 0, 1) := by decide +kernel
theorem dM_join_83 : decode bM_join 83 = .ok (.getfield 13, 3) := by decide +kernel
theorem dM_join_86 : decode bM_join 86 = .ok (.iload_n 2, 1) := by decide +kernel
theorem dM_join_87 : decode bM_join 87 = .ok (.iaload, 1) := by decide +kernel
theorem dM_join_88 : decode bM_join 88 = .ok (.invokevirtual 46, 3) := by decide +kernel
theorem dM_join_91 : decode bM_join 91 = .ok (.aload_n 0, 1) := by decide +kernel
theorem dM_join_92 : decode bM_join 92 = .ok (.iload_n 3, 1) := by decide +kernel
theorem dM_join_93 : decode bM_join 93 = .ok (.invokevirtual 50, 3) := by decide +kernel
theorem dM_join_96 : decode bM_join 96 = .ok (.ireturn, 1) := by decide +kernel
theorem dM_insert_0 : decode bM_insert 0 = .ok (.aload_n 0, 1) := by decide +kernel
theorem dM_insert_1 : decode bM_insert 1 = .ok (.iload_n 1, 1) := by decide +kernel
theorem dM_insert_2 : decode bM_insert 2 = .ok (.invokestatic 36, 3) := by decide +kernel
theorem dM_insert_5 : decode bM_insert 5 = .ok (.ifCond .eq 10, 3) := by decide +kernel
theorem dM_insert_8 : decode bM_insert 8 = .ok (.iload_n 3, 1) := by decide +kernel
theorem dM_insert_9 : decode bM_insert 9 = .ok (.invokestatic 36, 3) := by decide +kernel
theorem dM_insert_12 : decode bM_insert 12 = .ok (.ifCond .ne 7, 3) := by decide +kernel
theorem dM_insert_15 : decode bM_insert 15 = .ok (.iconst 1, 1) := by decide +kernel
theorem dM_insert_16 : decode bM_insert 16 = .ok (.goto 56, 3) := by decide +kernel
theorem dM_insert_19 : decode bM_insert 19 = .ok (.aload_n 0, 1) := by decide +kernel
theorem dM_insert_20 : decode bM_insert 20 = .ok (.iload_n 3, 1) := by decide +kernel
theorem dM_insert_21 : decode bM_insert 21 = .ok (.iload 4, 2) := by decide +kernel
theorem dM_insert_23 : decode bM_insert 23 = .ok (.iload 5, 2) := by decide +kernel
theorem dM_insert_25 : decode bM_insert 25 = .ok (.invokevirtual 42, 3) := by decide +kernel
theorem dM_insert_28 : decode bM_insert 28 = .ok (.ifCond .eq 17, 3) := by decide +kernel
theorem dM_insert_31 : decode bM_insert 31 = .ok (.iload_n 2, 1) := by decide +kernel
theorem dM_insert_32 : decode bM_insert 32 = .ok (.ifCond .lt 13, 3) := by decide +kernel
theorem dM_insert_35 : decode bM_insert 35 = .ok (.iload_n 2, 1) := by decide +kernel
theorem dM_insert_36 : decode bM_insert 36 = .ok (.aload_n 0, 1) := by decide +kernel
theorem dM_insert_37 : decode bM_insert 37 = .ok (.getfield 13, 3) := by decide +kernel
theorem dM_insert_40 : decode bM_insert 40 = .ok (.iload_n 1, 1) := by decide +kernel
theorem dM_insert_41 : decode bM_insert 41 = .ok (.iaload, 1) := by decide +kernel
theorem dM_insert_42 : decode bM_insert 42 = .ok (.if_icmp .le 7, 3) := by decide +kernel
theorem dM_insert_45 : decode bM_insert 45 = .ok (.iconst 2, 1) := by decide +kernel
theorem dM_insert_46 : decode bM_insert 46 = .ok (.goto 26, 3) := by decide +kernel
theorem dM_insert_49 : decode bM_insert 49 = .ok (.aload_n 0, 1) := by decide +kernel
theorem dM_insert_50 : decode bM_insert 50 = .ok (.getfield 13, 3) := by decide +kernel
theorem dM_insert_53 : decode bM_insert 53 = .ok (.iload_n 1, 1) := by decide +kernel
theorem dM_insert_54 : decode bM_insert 54 = .ok (.iaload, 1) := by decide +kernel
theorem dM_insert_55 : decode bM_insert 55 = .ok (.iload 5, 2) := by decide +kernel
theorem dM_insert_57 : decode bM_insert 57 = .ok (.iadd, 1) := by decide +kernel
theorem dM_insert_58 : decode bM_insert 58 = .ok (.iload 4, 2) := by decide +kernel
theorem dM_insert_60 : decode bM_insert 60 = .ok (.isub, 1) := by decide +kernel
theorem dM_insert_61 : decode bM_insert 61 = .ok (.sipush 1000, 3) := by decide +kernel
theorem dM_insert_64 : decode bM_insert 64 = .ok (.if_icmp .le 7, 3) := by decide +kernel
theorem dM_insert_67 : decode bM_insert 67 = .ok (.iconst 3, 1) := by decide +kernel
theorem dM_insert_68 : decode bM_insert 68 = .ok (.goto 4, 3) := by decide +kernel
theorem dM_insert_71 : decode bM_insert 71 = .ok (.iconst 0, 1) := by decide +kernel
theorem dM_insert_72 : decode bM_insert 72 = .ok (.putfield 29, 3) := by decide +kernel
theorem dM_insert_75 : decode bM_insert 75 = .ok (.aload_n 0, 1) := by decide +kernel
theorem dM_insert_76 : decode bM_insert 76 = .ok (.getfield 29, 3) := by decide +kernel
theorem dM_insert_79 : decode bM_insert 79 = .ok (.ifCond .le 5, 3) := by decide +kernel
theorem dM_insert_82 : decode bM_insert 82 = .ok (.iconst 0, 1) := by decide +kernel
theorem dM_insert_83 : decode bM_insert 83 = .ok (.ireturn, 1) := by decide +kernel
theorem dM_insert_84 : decode bM_insert 84 = .ok (.aload_n 0, 1) := by decide +kernel
theorem dM_insert_85 : decode bM_insert 85 = .ok (.iconst 0, 1) := by decide +kernel
theorem dM_insert_86 : decode bM_insert 86 = .ok (.putfield 33, 3) := by decide +kernel
theorem dM_insert_89 : decode bM_insert 89 = .ok (.aload_n 0, 1) := by decide +kernel
theorem dM_insert_90 : decode bM_insert 90 = .ok (.iload_n 1, 1) := by decide +kernel
theorem dM_insert_91 : decode bM_insert 91 = .ok (.iconst 0, 1) := by decide +kernel
theorem dM_insert_92 : decode bM_insert 92 = .ok (.iload_n 2, 1) := by decide +kernel
theorem dM_insert_93 : decode bM_insert 93 = .ok (.invokevirtual 46, 3) := by decide +kernel
theorem dM_insert_96 : decode bM_insert 96 = .ok (.aload_n 0, 1) := by decide +kernel
theorem dM_insert_97 : decode bM_insert 97 = .ok (.iload_n 3, 1) := by decide +kernel
theorem dM_insert_98 : decode bM_insert 98 = .ok (.iload 4, 2) := by decide +kernel
theorem dM_insert_100 : decode bM_insert 100 = .ok (.iload 5, 2) := by decide +kernel
theorem dM_insert_102 : decode bM_insert 102 = .ok (.invokevirtual 46, 3) := by decide +kernel
theorem dM_insert_105 : decode bM_insert 105 = .ok (.aload_n 0, 1) := by decide +kernel
theorem dM_insert_106 : decode bM_insert 106 = .ok (.iload_n 1, 1) := by decide +kernel
theorem dM_insert_107 : decode bM_insert 107 = .ok (.iload_n 2, 1) := by decide +kernel
theorem dM_insert_108 : decode bM_insert 108 = .ok (.aload_n 0, 1) := by decide +kernel
theorem dM_insert_109 : decode bM_insert 109 = .ok (.getfield 13, 3) := by decide +kernel
theorem dM_insert_112 : decode bM_insert 112 = .ok (.iload_n 1, 1) := by decide +kernel
theorem dM_insert_113 : decode bM_insert 113 = .ok (.iaload, 1) := by decide +kernel
theorem dM_insert_114 : decode bM_insert 114 = .ok (.invokevirtual 46, 3) := by decide +kernel
theorem dM_insert_117 : decode bM_insert 117 = .ok (.aload_n 0, 1) := by decide +kernel
theorem dM_insert_118 : decode bM_insert 118 = .ok (.iload_n 1, 1) := by decide +kernel
theorem dM_insert_119 : decode bM_insert 119 = .ok (.invokevirtual 50, 3) := by decide +kernel
theorem dM_insert_122 : decode bM_insert 122 = .ok (.ireturn, 1) := by decide +kernel
theorem dM_delete_0 : decode bM_delete 0 = .ok (.aload_n 0, 1) := by decide +kernel
theorem dM_delete_1 : decode bM_delete 1 = .ok (.iload_n 1, 1) := by decide +kernel
theorem dM_delete_2 : decode bM_delete 2 = .ok (.invokestatic 36, 3) := by decide +kernel
theorem dM_delete_5 : decode bM_delete 5 = .ok (.ifCond .ne 7, 3) := by decide +kernel
theorem dM_delete_8 : decode bM_delete 8 = .ok (.iconst 1, 1) := by decide +kernel
theorem dM_delete_9 : decode bM_delete 9 = .ok (.goto 18, 3) := by decide +kernel
theorem dM_delete_12 : decode bM_delete 12 = .ok (.aload_n 0, 1) := by decide +kernel
theorem dM_delete_13 : decode bM_delete 13 = .ok (.iload_n 1, 1) := by decide +kernel
theorem dM_delete_14 : decode bM_delete 14 = .ok (.iload_n 2, 1) := by decide +kernel
theorem dM_delete_15 : decode bM_delete 15 = .ok (.iload_n 3, 1) := by decide +kernel
theorem dM_delete_16 : decode bM_delete 16 = .ok (.invokevirtual 42, 3) := by decide +kernel
theorem dM_delete_19 : decode bM_delete 19 = .ok (.ifCond .ne 7, 3) := by decide +kernel
theorem dM_delete_22 : decode bM_delete 22 = .ok (.iconst 2, 1) := by decide +kernel
theorem dM_delete_23 : decode bM_delete 23 = .ok (.goto 4, 3) := by decide +kernel
theorem dM_delete_26 : decode bM_delete 26 = .ok (.iconst 0, 1) := by decide +kernel
theorem dM_delete_27 : decode bM_delete 27 = .ok (.putfield 29, 3) := by decide +kernel
theorem dM_delete_30 : decode bM_delete 30 = .ok (.aload_n 0, 1) := by decide +kernel
theorem dM_delete_31 : decode bM_delete 31 = .ok (.getfield 29, 3) := by decide +kernel
theorem dM_delete_34 : decode bM_delete 34 = .ok (.ifCond .le 5, 3) := by decide +kernel
theorem dM_delete_37 : decode bM_delete 37 = .ok (.iconst 0, 1) := by decide +kernel
theorem dM_delete_38 : decode bM_delete 38 = .ok (.ireturn, 1) := by decide +kernel
theorem dM_delete_39 : decode bM_delete 39 = .ok (.aload_n 0, 1) := by decide +kernel
theorem dM_delete_40 : decode bM_delete 40 = .ok (.iconst 0, 1) := by decide +kernel
theorem dM_delete_41 : decode bM_delete 41 = .ok (.putfield 33, 3) := by decide +kernel
theorem dM_delete_44 : decode bM_delete 44 = .ok (.aload_n 0, 1) := by decide +kernel
theorem dM_delete_45 : decode bM_delete 45 = .ok (.iload_n 1, 1) := by decide +kernel
theorem dM_delete_46 : decode bM_delete 46 = .ok (.iconst 0, 1) := by decide +kernel
theorem dM_delete_47 : decode bM_delete 47 = .ok (.iload_n 2, 1) := by decide +kernel
theorem dM_delete_48 : decode bM_delete 48 = .ok (.invokevirtual 46, 3) := by decide +kernel
theorem dM_delete_51 : decode bM_delete 51 = .ok (.aload_n 0, 1) := by decide +kernel
theorem dM_delete_52 : decode bM_delete 52 = .ok (.iload_n 1, 1) := by decide +kernel
theorem dM_delete_53 : decode bM_delete 53 = .ok (.iload_n 3, 1) := by decide +kernel
theorem dM_delete_54 : decode bM_delete 54 = .ok (.aload_n 0, 1) := by decide +kernel
theorem dM_delete_55 : decode bM_delete 55 = .ok (.getfield 13, 3) := by decide +kernel
theorem dM_delete_58 : decode bM_delete 58 = .ok (.iload_n 1, 1) := by decide +kernel
theorem dM_delete_59 : decode bM_delete 59 = .ok (.iaload, 1) := by decide +kernel
theorem dM_delete_60 : decode bM_delete 60 = .ok (.invokevirtual 46, 3) := by decide +kernel
theorem dM_delete_63 : decode bM_delete 63 = .ok (.aload_n 0, 1) := by decide +kernel
theorem dM_delete_64 : decode bM_delete 64 = .ok (.iload_n 1, 1) := by decide +kernel
theorem dM_delete_65 : decode bM_delete 65 = .ok (.invokevirtual 50, 3) := by decide +kernel
theorem dM_delete_68 : decode bM_delete 68 = .ok (.ireturn, 1) := by decide +kernel
theorem dM_addRest_0 : decode bM_addRest 0 = .ok (.iload 4, 2) := by decide +kernel
theorem dM_addRest_2 : decode bM_addRest 2 = .ok (.istore 6, 2) := by decide +kernel
theorem dM_addRest_4 : decode bM_addRest 4 = .ok (.iload 6, 2) := by decide +kernel
theorem dM_addRest_6 : decode bM_addRest 6 = .ok (.iload 5, 2) := by decide +kernel
theorem dM_addRest_8 : decode bM_addRest 8 = .ok (.if_icmp .ge 39, 3) := by decide +kernel
theorem dM_addRest_11 : decode bM_addRest 11 = .ok (.iload 6, 2) := by decide +kernel
theorem dM_addRest_13 : decode bM_addRest 13 = .ok (.iload_n 2, 1) := by decide +kernel
theorem dM_addRest_14 : decode bM_addRest 14 = .ok (.if_icmp .ge 8, 3) := by decide +kernel
theorem dM_addRest_17 : decode bM_addRest 17 = .ok (.iload 6, 2) := by decide +kernel
theorem dM_addRest_19 : decode bM_addRest 19 = .ok (.goto 9, 3) := by decide +kernel
theorem dM_addRest_22 : decode bM_addRest 22 = .ok (.iload 6, 2) := by decide +kernel
theorem dM_addRest_24 : decode bM_addRest 24 = .ok (.iload_n 3, 1) := by decide +kernel
theorem dM_addRest_25 : decode bM_addRest 25 = .ok (.iadd, 1) := by decide +kernel
theorem dM_addRest_26 : decode bM_addRest 26 = .ok (.iload_n 2, 1) := by decide +kernel
theorem dM_addRest_27 : decode bM_addRest 27 = .ok (.isub, 1) := by decide +kernel
theorem dM_addRest_28 : decode bM_addRest 28 = .ok (.istore 7, 2) := by decide +kernel
theorem dM_addRest_30 : decode bM_addRest 30 = .ok (.aload_n 0, 1) := by decide +kernel
theorem dM_addRest_31 : decode bM_addRest 31 = .ok (.iload_n 1, 1) := by decide +kernel
theorem dM_addRest_32 : decode bM_addRest 32 = .ok (.iload 7, 2) := by decide +kernel
theorem dM_addRest_34 : decode bM_addRest 34 = .ok (.iload 7, 2) := by decide +kernel
theorem dM_addRest_36 : decode bM_addRest 36 = .ok (.iconst 1, 1) := by decide +kernel
theorem dM_addRest_37 : decode bM_addRest 37 = .ok (.iadd, 1) := by decide +kernel
theorem dM_addRest_38 : decode bM_addRest 38 = .ok (.invokevirtual 46, 3) := by decide +kernel
theorem dM_addRest_41 : decode bM_addRest 41 = .ok (.iinc 6 1, 3) := by decide +kernel
theorem dM_addRest_44 : decode bM_addRest 44 = .ok (.goto (-40), 3) := by decide +kernel
theorem dM_addRest_47 : decode bM_addRest 47 = .ok (.return_, 1) := by decide +kernel
theorem dM_move_0 : decode bM_move 0 = .ok (.aload_n 0, 1) := by decide +kernel
theorem dM_move_1 : decode bM_move 1 = .ok (.iload_n 1, 1) := by decide +kernel
theorem dM_move_2 : decode bM_move 2 = .ok (.invokestatic 36, 3) := by decide +kernel
theorem dM_move_5 : decode bM_move 5 = .ok (.ifCond .ne 7, 3) := by decide +kernel
theorem dM_move_8 : decode bM_move 8 = .ok (.iconst 1, 1) := by decide +kernel
theorem dM_move_9 : decode bM_move 9 = .ok (.goto 38, 3) := by decide +kernel
theorem dM_move_12 : decode bM_move 12 = .ok (.aload_n 0, 1) := by decide +kernel
theorem dM_move_13 : decode bM_move 13 = .ok (.iload_n 1, 1) := by decide +kernel
theorem dM_move_14 : decode bM_move 14 = .ok (.iload_n 2, 1) := by decide +kernel
theorem dM_move_15 : decode bM_move 15 = .ok (.iload_n 3, 1) := by decide +kernel
theorem dM_move_16 : decode bM_move 16 = .ok (.invokevirtual 42, 3) := by decide +kernel
theorem dM_move_19 : decode bM_move 19 = .ok (.ifCond .eq 23, 3) := by decide +kernel
theorem dM_move_22 : decode bM_move 22 = .ok (.iload 4, 2) := by decide +kernel
theorem dM_move_24 : decode bM_move 24 = .ok (.ifCond .lt 18, 3) := by decide +kernel
theorem dM_move_27 : decode bM_move 27 = .ok (.iload 4, 2) := by decide +kernel
theorem dM_move_29 : decode bM_move 29 = .ok (.aload_n 0, 1) := by decide +kernel
theorem dM_move_30 : decode bM_move 30 = .ok (.getfield 13, 3) := by decide +kernel
theorem dM_move_33 : decode bM_move 33 = .ok (.iload_n 1, 1) := by decide +kernel
theorem dM_move_34 : decode bM_move 34 = .ok (.iaload, 1) := by decide +kernel
theorem dM_move_35 : decode bM_move 35 = .ok (.iload_n 3, 1) := by decide +kernel
theorem dM_move_36 : decode bM_move 36 = .ok (.iload_n 2, 1) := by decide +kernel
theorem dM_move_37 : decode bM_move 37 = .ok (.isub, 1) := by decide +kernel
theorem dM_move_38 : decode bM_move 38 = .ok (.isub, 1) := by decide +kernel
theorem dM_move_39 : decode bM_move 39 = .ok (.if_icmp .le 7, 3) := by decide +kernel
theorem dM_move_42 : decode bM_move 42 = .ok (.iconst 2, 1) := by decide +kernel
theorem dM_move_43 : decode bM_move 43 = .ok (.goto 4, 3) := by decide +kernel
theorem dM_move_46 : decode bM_move 46 = .ok (.iconst 0, 1) := by decide +kernel
theorem dM_move_47 : decode bM_move 47 = .ok (.putfield 29, 3) := by decide +kernel
theorem dM_move_50 : decode bM_move 50 = .ok (.aload_n 0, 1) := by decide +kernel
theorem dM_move_51 : decode bM_move 51 = .ok (.getfield 29, 3) := by decide +kernel
theorem dM_move_54 : decode bM_move 54 = .ok (.ifCond .le 5, 3) := by decide +kernel
theorem dM_move_57 : decode bM_move 57 = .ok (.iconst 0, 1) := by decide +kernel
theorem dM_move_58 : decode bM_move 58 = .ok (.ireturn, 1) := by decide +kernel
theorem dM_move_59 : decode bM_move 59 = .ok (.aload_n 0, 1) := by decide +kernel
theorem dM_move_60 : decode bM_move 60 = .ok (.iconst 0, 1) := by decide +kernel
theorem dM_move_61 : decode bM_move 61 = .ok (.putfield 33, 3) := by decide +kernel
theorem dM_move_64 : decode bM_move 64 = .ok (.aload_n 0, 1) := by decide +kernel
theorem dM_move_65 : decode bM_move 65 = .ok (.iload_n 1, 1) := by decide +kernel
theorem dM_move_66 : decode bM_move 66 = .ok (.iload_n 2, 1) := by decide +kernel
theorem dM_move_67 : decode bM_move 67 = .ok (.iload_n 3, 1) := by decide +kernel
theorem dM_move_68 : decode bM_move 68 = .ok (.iconst 0, 1) := by decide +kernel
theorem dM_move_69 : decode bM_move 69 = .ok (.iload 4, 2) := by decide +kernel
theorem dM_move_71 : decode bM_move 71 = .ok (.invokevirtual 54, 3) := by decide +kernel
theorem dM_move_74 : decode bM_move 74 = .ok (.aload_n 0, 1) := by decide +kernel
theorem dM_move_75 : decode bM_move 75 = .ok (.iload_n 1, 1) := by decide +kernel
theorem dM_move_76 : decode bM_move 76 = .ok (.iload_n 2, 1) := by decide +kernel
theorem dM_move_77 : decode bM_move 77 = .ok (.iload_n 3, 1) := by decide +kernel
theorem dM_move_78 : decode bM_move 78 = .ok (.invokevirtual 46, 3) := by decide +kernel
theorem dM_move_81 : decode bM_move 81 = .ok (.aload_n 0, 1) := by decide +kernel
theorem dM_move_82 : decode bM_move 82 = .ok (.iload_n 1, 1) := by decide +kernel
theorem dM_move_83 : decode bM_move 83 = .ok (.iload_n 2, 1) := by decide +kernel
theorem dM_move_84 : decode bM_move 84 = .ok (.iload_n 3, 1) := by decide +kernel
theorem dM_move_85 : decode bM_move 85 = .ok (.iload 4, 2) := by decide +kernel
theorem dM_move_87 : decode bM_move 87 = .ok (.aload_n 0, 1) := by decide +kernel
theorem dM_move_88 : decode bM_move 88 = .ok (.getfield 13, 3) := by decide +kernel
theorem dM_move_91 : decode bM_move 91 = .ok (.iload_n 1, 1) := by decide +kernel
theorem dM_move_92 : decode bM_move 92 = .ok (.iaload, 1) := by decide +kernel
theorem dM_move_93 : decode bM_move 93 = .ok (.iload_n 3, 1) := by decide +kernel
theorem dM_move_94 : decode bM_move 94 = .ok (.iload_n 2, 1) := by decide +kernel
theorem dM_move_95 : decode bM_move 95 = .ok (.isub, 1) := by decide +kernel
theorem dM_move_96 : decode bM_move 96 = .ok (.isub, 1) := by decide +kernel
theorem dM_move_97 : decode bM_move 97 = .ok (.invokevirtual 54, 3) := by decide +kernel
theorem dM_move_100 : decode bM_move 100 = .ok (.aload_n 0, 1) := by decide +kernel
theorem dM_move_101 : decode bM_move 101 = .ok (.iload_n 1, 1) := by decide +kernel
theorem dM_move_102 : decode bM_move 102 = .ok (.invokevirtual 50, 3) := by decide +kernel
theorem dM_move_105 : decode bM_move 105 = .ok (.ireturn, 1) := by decide +kernel
theorem dM_repeat_0 : decode bM_repeat 0 = .ok (.aload_n 0, 1) := by decide +kernel
theorem dM_repeat_1 : decode bM_repeat 1 = .ok (.iload_n 1, 1) := by decide +kernel
theorem dM_repeat_2 : decode bM_repeat 2 = .ok (.invokestatic 36, 3) := by decide +kernel
theorem dM_repeat_5 : decode bM_repeat 5 = .ok (.ifCond .eq 8, 3) := by decide +kernel
theorem dM_repeat_8 : decode bM_repeat 8 = .ok (.iload 4, 2) := by decide +kernel
theorem dM_repeat_10 : decode bM_repeat 10 = .ok (.ifCond .ge 7, 3) := by decide +kernel
theorem dM_repeat_13 : decode bM_repeat 13 = .ok (.iconst 1, 1) := by decide +kernel
theorem dM_repeat_14 : decode bM_repeat 14 = .ok (.goto 18, 3) := by decide +kernel
theorem dM_repeat_17 : decode bM_repeat 17 = .ok (.aload_n 0, 1) := by decide +kernel
theorem dM_repeat_18 : decode bM_repeat 18 = .ok (.iload_n 1, 1) := by decide +kernel
theorem dM_repeat_19 : decode bM_repeat 19 = .ok (.iload_n 2, 1) := by decide +kernel
theorem dM_repeat_20 : decode bM_repeat 20 = .ok (.iload_n 3, 1) := by decide +kernel
theorem dM_repeat_21 : decode bM_repeat 21 = .ok (.invokevirtual 42, 3) := by decide +kernel
theorem dM_repeat_24 : decode bM_repeat 24 = .ok (.ifCond .ne 7, 3) := by decide +kernel
theorem dM_repeat_27 : decode bM_repeat 27 = .ok (.iconst 2, 1) := by decide +kernel
theorem dM_repeat_28 : decode bM_repeat 28 = .ok (.goto 4, 3) := by decide +kernel
theorem dM_repeat_31 : decode bM_repeat 31 = .ok (.iconst 0, 1) := by decide +kernel
theorem dM_repeat_32 : decode bM_repeat 32 = .ok (.putfield 29, 3) := by decide +kernel
theorem dM_repeat_35 : decode bM_repeat 35 = .ok (.aload_n 0, 1) := by decide +kernel
theorem dM_repeat_36 : decode bM_repeat 36 = .ok (.getfield 29, 3) := by decide +kernel
theorem dM_repeat_39 : decode bM_repeat 39 = .ok (.ifCond .ne 33, 3) := by decide +kernel
theorem dM_repeat_42 : decode bM_repeat 42 = .ok (.aload_n 0, 1) := by decide +kernel
theorem dM_repeat_43 : decode bM_repeat 43 = .ok (.getfield 13, 3) := by decide +kernel
theorem dM_repeat_46 : decode bM_repeat 46 = .ok (.iload_n 1, 1) := by decide +kernel
theorem dM_repeat_47 : decode bM_repeat 47 = .ok (.iaload, 1) := by decide +kernel
theorem dM_repeat_48 : decode bM_repeat 48 = .ok (.i2l, 1) := by decide +kernel
theorem dM_repeat_49 : decode bM_repeat 49 = .ok (.iload 4, 2) := by decide +kernel
theorem dM_repeat_51 : decode bM_repeat 51 = .ok (.i2l, 1) := by decide +kernel
theorem dM_repeat_52 : decode bM_repeat 52 = .ok (.lconst 1, 1) := by decide +kernel
theorem dM_repeat_53 : decode bM_repeat 53 = .ok (.lsub, 1) := by decide +kernel
theorem dM_repeat_54 : decode bM_repeat 54 = .ok (.iload_n 3, 1) := by decide +kernel
theorem dM_repeat_55 : decode bM_repeat 55 = .ok (.iload_n 2, 1) := by decide +kernel
theorem dM_repeat_56 : decode bM_repeat 56 = .ok (.isub, 1) := by decide +kernel
theorem dM_repeat_57 : decode bM_repeat 57 = .ok (.i2l, 1) := by decide +kernel
theorem dM_repeat_58 : decode bM_repeat 58 = .ok (.lmul, 1) := by decide +kernel
theorem dM_repeat_59 : decode bM_repeat 59 = .ok (.ladd, 1) := by decide +kernel
theorem dM_repeat_60 : decode bM_repeat 60 = .ok (.ldc2_w 58, 3) := by decide +kernel
theorem dM_repeat_63 : decode bM_repeat 63 = .ok (.lcmp, 1) := by decide +kernel
theorem dM_repeat_64 : decode bM_repeat 64 = .ok (.ifCond .le 8, 3) := by decide +kernel
theorem dM_repeat_67 : decode bM_repeat 67 = .ok (.aload_n 0, 1) := by decide +kernel
theorem dM_repeat_68 : decode bM_repeat 68 = .ok (.iconst 3, 1) := by decide +kernel
theorem dM_repeat_69 : decode bM_repeat 69 = .ok (.putfield 29, 3) := by decide +kernel
theorem dM_repeat_72 : decode bM_repeat 72 = .ok (.aload_n 0, 1) := by decide +kernel
theorem dM_repeat_73 : decode bM_repeat 73 = .ok (.getfield 29, 3) := by decide +kernel
theorem dM_repeat_76 : decode bM_repeat 76 = .ok (.ifCond .le 5, 3) := by decide +kernel
theorem dM_repeat_79 : decode bM_repeat 79 = .ok (.iconst 0, 1) := by decide +kernel
theorem dM_repeat_80 : decode bM_repeat 80 = .ok (.ireturn, 1) := by decide +kernel
theorem dM_repeat_81 : decode bM_repeat 81 = .ok (.aload_n 0, 1) := by decide +kernel
theorem dM_repeat_82 : decode bM_repeat 82 = .ok (.iconst 0, 1) := by decide +kernel
theorem dM_repeat_83 : decode bM_repeat 83 = .ok (.putfield 33, 3) := by decide +kernel
theorem dM_repeat_86 : decode bM_repeat 86 = .ok (.aload_n 0, 1) := by decide +kernel
theorem dM_repeat_87 : decode bM_repeat 87 = .ok (.iload_n 1, 1) := by decide +kernel
theorem dM_repeat_88 : decode bM_repeat 88 = .ok (.iconst 0, 1) := by decide +kernel
theorem dM_repeat_89 : decode bM_repeat 89 = .ok (.iload_n 2, 1) := by decide +kernel
theorem dM_repeat_90 : decode bM_repeat 90 = .ok (.invokevirtual 46, 3) := by decide +kernel
theorem dM_repeat_93 : decode bM_repeat 93 = .ok (.iconst 0, 1) := by decide +kernel
theorem dM_repeat_94 : decode bM_repeat 94 = .ok (.istore 5, 2) := by decide +kernel
theorem dM_repeat_96 : decode bM_repeat 96 = .ok (.iload 5, 2) := by decide +kernel
theorem dM_repeat_98 : decode bM_repeat 98 = .ok (.iload 4, 2) := by decide +kernel
theorem dM_repeat_100 : decode bM_repeat 100 = .ok (.if_icmp .ge 21, 3) := by decide +kernel
theorem dM_repeat_103 : decode bM_repeat 103 = .ok (.iload_n 2, 1) := by decide +kernel
theorem dM_repeat_104 : decode bM_repeat 104 = .ok (.iload_n 3, 1) := by decide +kernel
theorem dM_repeat_105 : decode bM_repeat 105 = .ok (.if_icmp .ge 16, 3) := by decide +kernel
theorem dM_repeat_108 : decode bM_repeat 108 = .ok (.aload_n 0, 1) := by decide +kernel
theorem dM_repeat_109 : decode bM_repeat 109 = .ok (.iload_n 1, 1) := by decide +kernel
theorem dM_repeat_110 : decode bM_repeat 110 = .ok (.iload_n 2, 1) := by decide +kernel
theorem dM_repeat_111 : decode bM_repeat 111 = .ok (.iload_n 3, 1) := by decide +kernel
theorem dM_repeat_112 : decode bM_repeat 112 = .ok (.invokevirtual 46, 3) := by decide +kernel
theorem dM_repeat_115 : decode bM_repeat 115 = .ok (.iinc 5 1, 3) := by decide +kernel
theorem dM_repeat_118 : decode bM_repeat 118 = .ok (.goto (-22), 3) := by decide +kernel
theorem dM_repeat_121 : decode bM_repeat 121 = .ok (.aload_n 0, 1) := by decide +kernel
theorem dM_repeat_122 : decode bM_repeat 122 = .ok (.iload_n 1, 1) := by decide +kernel
theorem dM_repeat_123 : decode bM_repeat 123 = .ok (.iload_n 3, 1) := by decide +kernel
theorem dM_repeat_124 : decode bM_repeat 124 = .ok (.aload_n 0, 1) := by decide +kernel
theorem dM_repeat_125 : decode bM_repeat 125 = .ok (.getfield 13, 3) := by decide +kernel
theorem dM_repeat_128 : decode bM_repeat 128 = .ok (.iload_n 1, 1) := by decide +kernel
theorem dM_repeat_129 : decode bM_repeat 129 = .ok (.iaload, 1) := by decide +kernel
theorem dM_repeat_130 : decode bM_repeat 130 = .ok (.invokevirtual 46, 3) := by decide +kernel
theorem dM_repeat_133 : decode bM_repeat 133 = .ok (.aload_n 0, 1) := by decide +kernel
theorem dM_repeat_134 : decode bM_repeat 134 = .ok (.iload_n 1, 1) := by decide +kernel
theorem dM_repeat_135 : decode bM_repeat 135 = .ok (.invokevirtual 50, 3) := by decide +kernel
theorem dM_repeat_138 : decode bM_repeat 138 = .ok (.ireturn, 1) := by decide +kernel
theorem dM_common_0 : decode bM_common 0 = .ok (.iconst 0, 1) := by decide +kernel
theorem dM_common_1 : decode bM_common 1 = .ok (.istore 5, 2) := by decide +kernel
theorem dM_common_3 : decode bM_common 3 = .ok (.iload_n 2, 1) := by decide +kernel
theorem dM_common_4 : decode bM_common 4 = .ok (.iload 5, 2) := by decide +kernel
theorem dM_common_6 : decode bM_common 6 = .ok (.iadd, 1) := by decide +kernel
theorem dM_common_7 : decode bM_common 7 = .ok (.aload_n 0, 1) := by decide +kernel
theorem dM_common_8 : decode bM_common 8 = .ok (.getfield 13, 3) := by decide +kernel
theorem dM_common_11 : decode bM_common 11 = .ok (.iload_n 1, 1) := by decide +kernel
theorem dM_common_12 : decode bM_common 12 = .ok (.iaload, 1) := by decide +kernel
theorem dM_common_13 : decode bM_common 13 = .ok (.if_icmp .ge 57, 3) := by decide +kernel
theorem dM_common_16 : decode bM_common 16 = .ok (.iload 4, 2) := by decide +kernel
theorem dM_common_18 : decode bM_common 18 = .ok (.iload 5, 2) := by decide +kernel
theorem dM_common_20 : decode bM_common 20 = .ok (.iadd, 1) := by decide +kernel
theorem dM_common_21 : decode bM_common 21 = .ok (.aload_n 0, 1) := by decide +kernel
theorem dM_common_22 : decode bM_common 22 = .ok (.getfield 13, 3) := by decide +kernel
theorem dM_common_25 : decode bM_common 25 = .ok (.iload_n 3, 1) := by decide +kernel
theorem dM_common_26 : decode bM_common 26 = .ok (.iaload, 1) := by decide +kernel
theorem dM_common_27 : decode bM_common 27 = .ok (.if_icmp .ge 43, 3) := by decide +kernel
theorem dM_common_30 : decode bM_common 30 = .ok (.aload_n 0, 1) := by decide +kernel
theorem dM_common_31 : decode bM_common 31 = .ok (.getfield 7, 3) := by decide +kernel
theorem dM_common_34 : decode bM_common 34 = .ok (.sipush 1000, 3) := by decide +kernel
theorem dM_common_37 : decode bM_common 37 = .ok (.iload_n 1, 1) := by decide +kernel
theorem dM_common_38 : decode bM_common 38 = .ok (.imul, 1) := by decide +kernel
theorem dM_common_39 : decode bM_common 39 = .ok (.iload_n 2, 1) := by decide +kernel
theorem dM_common_40 : decode bM_common 40 = .ok (.iadd, 1) := by decide +kernel
theorem dM_common_41 : decode bM_common 41 = .ok (.iload 5, 2) := by decide +kernel
theorem dM_common_43 : decode bM_common 43 = .ok (.iadd, 1) := by decide +kernel
theorem dM_common_44 : decode bM_common 44 = .ok (.iaload, 1) := by decide +kernel
theorem dM_common_45 : decode bM_common 45 = .ok (.aload_n 0, 1) := by decide +kernel
theorem dM_common_46 : decode bM_common 46 = .ok (.getfield 7, 3) := by decide +kernel
theorem dM_common_49 : decode bM_common 49 = .ok (.sipush 1000, 3) := by decide +kernel
theorem dM_common_52 : decode bM_common 52 = .ok (.iload_n 3, 1) := by decide +kernel
theorem dM_common_53 : decode bM_common 53 = .ok (.imul, 1) := by decide +kernel
theorem dM_common_54 : decode bM_common 54 = .ok (.iload 4, 2) := by decide +kernel
theorem dM_common_56 : decode bM_common 56 = .ok (.iadd, 1) := by decide +kernel
theorem dM_common_57 : decode bM_common 57 = .ok (.iload 5, 2) := by decide +kernel
theorem dM_common_59 : decode bM_common 59 = .ok (.iadd, 1) := by decide +kernel
theorem dM_common_60 : decode bM_common 60 = .ok (.iaload, 1) := by decide +kernel
theorem dM_common_61 : decode bM_common 61 = .ok (.if_icmp .ne 9, 3) := by decide +kernel
theorem dM_common_64 : decode bM_common 64 = .ok (.iinc 5 1, 3) := by decide +kernel
theorem dM_common_67 : decode bM_common 67 = .ok (.goto (-64), 3) := by decide +kernel
theorem dM_common_70 : decode bM_common 70 = .ok (.iload 5, 2) := by decide +kernel
theorem dM_common_72 : decode bM_common 72 = .ok (.ireturn, 1) := by decide +kernel
theorem dM_same_0 : decode bM_same 0 = .ok (.aload_n 0, 1) := by decide +kernel
theorem dM_same_1 : decode bM_same 1 = .ok (.iload_n 1, 1) := by decide +kernel
theorem dM_same_2 : decode bM_same 2 = .ok (.invokestatic 36, 3) := by decide +kernel
theorem dM_same_5 : decode bM_same 5 = .ok (.ifCond .eq 15, 3) := by decide +kernel
theorem dM_same_8 : decode bM_same 8 = .ok (.iload_n 3, 1) := by decide +kernel
theorem dM_same_9 : decode bM_same 9 = .ok (.invokestatic 36, 3) := by decide +kernel
theorem dM_same_12 : decode bM_same 12 = .ok (.ifCond .eq 8, 3) := by decide +kernel
theorem dM_same_15 : decode bM_same 15 = .ok (.iload 5, 2) := by decide +kernel
theorem dM_same_17 : decode bM_same 17 = .ok (.ifCond .ge 7, 3) := by decide +kernel
theorem dM_same_20 : decode bM_same 20 = .ok (.iconst 1, 1) := by decide +kernel
theorem dM_same_21 : decode bM_same 21 = .ok (.goto 4, 3) := by decide +kernel
theorem dM_same_24 : decode bM_same 24 = .ok (.iconst 0, 1) := by decide +kernel
theorem dM_same_25 : decode bM_same 25 = .ok (.putfield 29, 3) := by decide +kernel
theorem dM_same_28 : decode bM_same 28 = .ok (.aload_n 0, 1) := by decide +kernel
theorem dM_same_29 : decode bM_same 29 = .ok (.getfield 29, 3) := by decide +kernel
theorem dM_same_32 : decode bM_same 32 = .ok (.ifCond .ne 44, 3) := by decide +kernel
theorem dM_same_35 : decode bM_same 35 = .ok (.iload_n 2, 1) := by decide +kernel
theorem dM_same_36 : decode bM_same 36 = .ok (.ifCond .lt 35, 3) := by decide +kernel
theorem dM_same_39 : decode bM_same 39 = .ok (.iload 4, 2) := by decide +kernel
theorem dM_same_41 : decode bM_same 41 = .ok (.ifCond .lt 30, 3) := by decide +kernel
theorem dM_same_44 : decode bM_same 44 = .ok (.iload_n 2, 1) := by decide +kernel
theorem dM_same_45 : decode bM_same 45 = .ok (.aload_n 0, 1) := by decide +kernel
theorem dM_same_46 : decode bM_same 46 = .ok (.getfield 13, 3) := by decide +kernel
theorem dM_same_49 : decode bM_same 49 = .ok (.iload_n 1, 1) := by decide +kernel
theorem dM_same_50 : decode bM_same 50 = .ok (.iaload, 1) := by decide +kernel
theorem dM_same_51 : decode bM_same 51 = .ok (.iload 5, 2) := by decide +kernel
theorem dM_same_53 : decode bM_same 53 = .ok (.isub, 1) := by decide +kernel
theorem dM_same_54 : decode bM_same 54 = .ok (.if_icmp .gt 17, 3) := by decide +kernel
theorem dM_same_57 : decode bM_same 57 = .ok (.iload 4, 2) := by decide +kernel
theorem dM_same_59 : decode bM_same 59 = .ok (.aload_n 0, 1) := by decide +kernel
theorem dM_same_60 : decode bM_same 60 = .ok (.getfield 13, 3) := by decide +kernel
theorem dM_same_63 : decode bM_same 63 = .ok (.iload_n 3, 1) := by decide +kernel
theorem dM_same_64 : decode bM_same 64 = .ok (.iaload, 1) := by decide +kernel
theorem dM_same_65 : decode bM_same 65 = .ok (.iload 5, 2) := by decide +kernel
theorem dM_same_67 : decode bM_same 67 = .ok (.isub, 1) := by decide +kernel
theorem dM_same_68 : decode bM_same 68 = .ok (.if_icmp .le 8, 3) := by decide +kernel
theorem dM_same_71 : decode bM_same 71 = .ok (.aload_n 0, 1) := by decide +kernel
theorem dM_same_72 : decode bM_same 72 = .ok (.iconst 2, 1) := by decide +kernel
theorem dM_same_73 : decode bM_same 73 = .ok (.putfield 29, 3) := by decide +kernel
theorem dM_same_76 : decode bM_same 76 = .ok (.aload_n 0, 1) := by decide +kernel
theorem dM_same_77 : decode bM_same 77 = .ok (.getfield 29, 3) := by decide +kernel
theorem dM_same_80 : decode bM_same 80 = .ok (.ifCond .ne 21, 3) := by decide +kernel
theorem dM_same_83 : decode bM_same 83 = .ok (.aload_n 0, 1) := by decide +kernel
theorem dM_same_84 : decode bM_same 84 = .ok (.iload_n 1, 1) := by decide +kernel
theorem dM_same_85 : decode bM_same 85 = .ok (.iload_n 2, 1) := by decide +kernel
theorem dM_same_86 : decode bM_same 86 = .ok (.iload_n 3, 1) := by decide +kernel
theorem dM_same_87 : decode bM_same 87 = .ok (.iload 4, 2) := by decide +kernel
theorem dM_same_89 : decode bM_same 89 = .ok (.invokevirtual 60, 3) := by decide +kernel
theorem dM_same_92 : decode bM_same 92 = .ok (.iload 5, 2) := by decide +kernel
theorem dM_same_94 : decode bM_same 94 = .ok (.if_icmp .lt 7, 3) := by decide +kernel
theorem dM_same_97 : decode bM_same 97 = .ok (.iconst 1, 1) := by decide +kernel
theorem dM_same_98 : decode bM_same 98 = .ok (.goto 4, 3) := by decide +kernel
theorem dM_same_101 : decode bM_same 101 = .ok (.iconst 0, 1) := by decide +kernel
theorem dM_same_102 : decode bM_same 102 = .ok (.ireturn, 1) := by decide +kernel
theorem dM_pieces_0 : decode bM_pieces 0 = .ok (.iload_n 0, 1) := by decide +kernel
theorem dM_pieces_1 : decode bM_pieces 1 = .ok (.ifCond .ne 7, 3) := by decide +kernel
theorem dM_pieces_4 : decode bM_pieces 4 = .ok (.iconst 1, 1) := by decide +kernel
theorem dM_pieces_5 : decode bM_pieces 5 = .ok (.goto 27, 3) := by decide +kernel
theorem dM_pieces_8 : decode bM_pieces 8 = .ok (.iload_n 1, 1) := by decide +kernel
theorem dM_pieces_9 : decode bM_pieces 9 = .ok (.ifCond .lt 18, 3) := by decide +kernel
theorem dM_pieces_12 : decode bM_pieces 12 = .ok (.iload_n 1, 1) := by decide +kernel
theorem dM_pieces_13 : decode bM_pieces 13 = .ok (.iload_n 3, 1) := by decide +kernel
theorem dM_pieces_14 : decode bM_pieces 14 = .ok (.if_icmp .gt 13, 3) := by decide +kernel
theorem dM_pieces_17 : decode bM_pieces 17 = .ok (.iload_n 2, 1) := by decide +kernel
theorem dM_pieces_18 : decode bM_pieces 18 = .ok (.ifCond .lt 9, 3) := by decide +kernel
theorem dM_pieces_21 : decode bM_pieces 21 = .ok (.iload_n 2, 1) := by decide +kernel
theorem dM_pieces_22 : decode bM_pieces 22 = .ok (.iload 4, 2) := by decide +kernel
theorem dM_pieces_24 : decode bM_pieces 24 = .ok (.if_icmp .le 7, 3) := by decide +kernel
theorem dM_pieces_27 : decode bM_pieces 27 = .ok (.iconst 2, 1) := by decide +kernel
theorem dM_pieces_28 : decode bM_pieces 28 = .ok (.goto 4, 3) := by decide +kernel
theorem dM_pieces_31 : decode bM_pieces 31 = .ok (.iconst 0, 1) := by decide +kernel
theorem dM_pieces_32 : decode bM_pieces 32 = .ok (.ireturn, 1) := by decide +kernel
theorem dM_prefix_0 : decode bM_prefix 0 = .ok (.iload_n 1, 1) := by decide +kernel
theorem dM_prefix_1 : decode bM_prefix 1 = .ok (.invokestatic 36, 3) := by decide +kernel
theorem dM_prefix_4 : decode bM_prefix 4 = .ok (.ifCond .eq 14, 3) := by decide +kernel
theorem dM_prefix_7 : decode bM_prefix 7 = .ok (.iload_n 3, 1) := by decide +kernel
theorem dM_prefix_8 : decode bM_prefix 8 = .ok (.invokestatic 36, 3) := by decide +kernel
theorem dM_prefix_11 : decode bM_prefix 11 = .ok (.ifCond .eq 7, 3) := by decide +kernel
theorem dM_prefix_14 : decode bM_prefix 14 = .ok (.iconst 1, 1) := by decide +kernel
theorem dM_prefix_15 : decode bM_prefix 15 = .ok (.goto 4, 3) := by decide +kernel
theorem dM_prefix_18 : decode bM_prefix 18 = .ok (.iconst 0, 1) := by decide +kernel
theorem dM_prefix_19 : decode bM_prefix 19 = .ok (.istore 5, 2) := by decide +kernel
theorem dM_prefix_21 : decode bM_prefix 21 = .ok (.aload_n 0, 1) := by decide +kernel
theorem dM_prefix_22 : decode bM_prefix 22 = .ok (.iload 5, 2) := by decide +kernel
theorem dM_prefix_24 : decode bM_prefix 24 = .ok (.iload_n 2, 1) := by decide +kernel
theorem dM_prefix_25 : decode bM_prefix 25 = .ok (.iload 4, 2) := by decide +kernel
theorem dM_prefix_27 : decode bM_prefix 27 = .ok (.iload 5, 2) := by decide +kernel
theorem dM_prefix_29 : decode bM_prefix 29 = .ok (.ifCond .eq 12, 3) := by decide +kernel
theorem dM_prefix_32 : decode bM_prefix 32 = .ok (.aload_n 0, 1) := by decide +kernel
theorem dM_prefix_33 : decode bM_prefix 33 = .ok (.getfield 13, 3) := by decide +kernel
theorem dM_prefix_36 : decode bM_prefix 36 = .ok (.iload_n 1, 1) := by decide +kernel
theorem dM_prefix_37 : decode bM_prefix 37 = .ok (.iaload, 1) := by decide +kernel
theorem dM_prefix_38 : decode bM_prefix 38 = .ok (.goto 4, 3) := by decide +kernel
theorem dM_prefix_41 : decode bM_prefix 41 = .ok (.iconst 0, 1) := by decide +kernel
theorem dM_prefix_42 : decode bM_prefix 42 = .ok (.iload 5, 2) := by decide +kernel
theorem dM_prefix_44 : decode bM_prefix 44 = .ok (.ifCond .eq 12, 3) := by decide +kernel
theorem dM_prefix_47 : decode bM_prefix 47 = .ok (.aload_n 0, 1) := by decide +kernel
theorem dM_prefix_48 : decode bM_prefix 48 = .ok (.getfield 13, 3) := by decide +kernel
theorem dM_prefix_51 : decode bM_prefix 51 = .ok (.iload_n 3, 1) := by decide +kernel
theorem dM_prefix_52 : decode bM_prefix 52 = .ok (.iaload, 1) := by decide +kernel
theorem dM_prefix_53 : decode bM_prefix 53 = .ok (.goto 4, 3) := by decide +kernel
theorem dM_prefix_56 : decode bM_prefix 56 = .ok (.iconst 0, 1) := by decide +kernel
theorem dM_prefix_57 : decode bM_prefix 57 = .ok (.invokestatic 64, 3) := by decide +kernel
theorem dM_prefix_60 : decode bM_prefix 60 = .ok (.putfield 29, 3) := by decide +kernel
theorem dM_prefix_63 : decode bM_prefix 63 = .ok (.aload_n 0, 1) := by decide +kernel
theorem dM_prefix_64 : decode bM_prefix 64 = .ok (.getfield 29, 3) := by decide +kernel
theorem dM_prefix_67 : decode bM_prefix 67 = .ok (.ifCond .le 7, 3) := by decide +kernel
theorem dM_prefix_70 : decode bM_prefix 70 = .ok (.iconst 0, 1) := by decide +kernel
theorem dM_prefix_71 : decode bM_prefix 71 = .ok (.goto 12, 3) := by decide +kernel
theorem dM_prefix_74 : decode bM_prefix 74 = .ok (.aload_n 0, 1) := by decide +kernel
theorem dM_prefix_75 : decode bM_prefix 75 = .ok (.iload_n 1, 1) := by decide +kernel
theorem dM_prefix_76 : decode bM_prefix 76 = .ok (.iload_n 2, 1) := by decide +kernel
theorem dM_prefix_77 : decode bM_prefix 77 = .ok (.iload_n 3, 1) := by decide +kernel
theorem dM_prefix_78 : decode bM_prefix 78 = .ok (.iload 4, 2) := by decide +kernel
theorem dM_prefix_80 : decode bM_prefix 80 = .ok (.invokevirtual 60, 3) := by decide +kernel
theorem dM_prefix_83 : decode bM_prefix 83 = .ok (.ireturn, 1) := by decide +kernel
theorem dM_order_0 : decode bM_order 0 = .ok (.iload_n 1, 1) := by decide +kernel
theorem dM_order_1 : decode bM_order 1 = .ok (.invokestatic 36, 3) := by decide +kernel
theorem dM_order_4 : decode bM_order 4 = .ok (.ifCond .eq 14, 3) := by decide +kernel
theorem dM_order_7 : decode bM_order 7 = .ok (.iload_n 3, 1) := by decide +kernel
theorem dM_order_8 : decode bM_order 8 = .ok (.invokestatic 36, 3) := by decide +kernel
theorem dM_order_11 : decode bM_order 11 = .ok (.ifCond .eq 7, 3) := by decide +kernel
theorem dM_order_14 : decode bM_order 14 = .ok (.iconst 1, 1) := by decide +kernel
theorem dM_order_15 : decode bM_order 15 = .ok (.goto 4, 3) := by decide +kernel
theorem dM_order_18 : decode bM_order 18 = .ok (.iconst 0, 1) := by decide +kernel
theorem dM_order_19 : decode bM_order 19 = .ok (.istore 5, 2) := by decide +kernel
theorem dM_order_21 : decode bM_order 21 = .ok (.aload_n 0, 1) := by decide +kernel
theorem dM_order_22 : decode bM_order 22 = .ok (.iload 5, 2) := by decide +kernel
theorem dM_order_24 : decode bM_order 24 = .ok (.iload_n 2, 1) := by decide +kernel
theorem dM_order_25 : decode bM_order 25 = .ok (.iload 4, 2) := by decide +kernel
theorem dM_order_27 : decode bM_order 27 = .ok (.iload 5, 2) := by decide +kernel
theorem dM_order_29 : decode bM_order 29 = .ok (.ifCond .eq 12, 3) := by decide +kernel
theorem dM_order_32 : decode bM_order 32 = .ok (.aload_n 0, 1) := by decide +kernel
theorem dM_order_33 : decode bM_order 33 = .ok (.getfield 13, 3) := by decide +kernel
theorem dM_order_36 : decode bM_order 36 = .ok (.iload_n 1, 1) := by decide +kernel
theorem dM_order_37 : decode bM_order 37 = .ok (.iaload, 1) := by decide +kernel
theorem dM_order_38 : decode bM_order 38 = .ok (.goto 4, 3) := by decide +kernel
theorem dM_order_41 : decode bM_order 41 = .ok (.iconst 0, 1) := by decide +kernel
theorem dM_order_42 : decode bM_order 42 = .ok (.iload 5, 2) := by decide +kernel
theorem dM_order_44 : decode bM_order 44 = .ok (.ifCond .eq 12, 3) := by decide +kernel
theorem dM_order_47 : decode bM_order 47 = .ok (.aload_n 0, 1) := by decide +kernel
theorem dM_order_48 : decode bM_order 48 = .ok (.getfield 13, 3) := by decide +kernel
theorem dM_order_51 : decode bM_order 51 = .ok (.iload_n 3, 1) := by decide +kernel
theorem dM_order_52 : decode bM_order 52 = .ok (.iaload, 1) := by decide +kernel
theorem dM_order_53 : decode bM_order 53 = .ok (.goto 4, 3) := by decide +kernel
theorem dM_order_56 : decode bM_order 56 = .ok (.iconst 0, 1) := by decide +kernel
theorem dM_order_57 : decode bM_order 57 = .ok (.invokestatic 64, 3) := by decide +kernel
theorem dM_order_60 : decode bM_order 60 = .ok (.putfield 29, 3) := by decide +kernel
theorem dM_order_63 : decode bM_order 63 = .ok (.aload_n 0, 1) := by decide +kernel
theorem dM_order_64 : decode bM_order 64 = .ok (.getfield 29, 3) := by decide +kernel
theorem dM_order_67 : decode bM_order 67 = .ok (.ifCond .le 5, 3) := by decide +kernel
theorem dM_order_70 : decode bM_order 70 = .ok (.iconst 0, 1) := by decide +kernel
theorem dM_order_71 : decode bM_order 71 = .ok (.ireturn, 1) := by decide +kernel
theorem dM_order_72 : decode bM_order 72 = .ok (.aload_n 0, 1) := by decide +kernel
theorem dM_order_73 : decode bM_order 73 = .ok (.iload_n 1, 1) := by decide +kernel
theorem dM_order_74 : decode bM_order 74 = .ok (.iload_n 2, 1) := by decide +kernel
theorem dM_order_75 : decode bM_order 75 = .ok (.iload_n 3, 1) := by decide +kernel
theorem dM_order_76 : decode bM_order 76 = .ok (.iload 4, 2) := by decide +kernel
theorem dM_order_78 : decode bM_order 78 = .ok (.invokevirtual 60, 3) := by decide +kernel
theorem dM_order_81 : decode bM_order 81 = .ok (.istore 6, 2) := by decide +kernel
theorem dM_order_83 : decode bM_order 83 = .ok (.iload_n 2, 1) := by decide +kernel
theorem dM_order_84 : decode bM_order 84 = .ok (.iload 6, 2) := by decide +kernel
theorem dM_order_86 : decode bM_order 86 = .ok (.iadd, 1) := by decide +kernel
theorem dM_order_87 : decode bM_order 87 = .ok (.aload_n 0, 1) := by decide +kernel
theorem dM_order_88 : decode bM_order 88 = .ok (.getfield 13, 3) := by decide +kernel
theorem dM_order_91 : decode bM_order 91 = .ok (.iload_n 1, 1) := by decide +kernel
theorem dM_order_92 : decode bM_order 92 = .ok (.iaload, 1) := by decide +kernel
theorem dM_order_93 : decode bM_order 93 = .ok (.if_icmp .ne 7, 3) := by decide +kernel
theorem dM_order_96 : decode bM_order 96 = .ok (.iconst 1, 1) := by decide +kernel
theorem dM_order_97 : decode bM_order 97 = .ok (.goto 4, 3) := by decide +kernel
theorem dM_order_100 : decode bM_order 100 = .ok (.iconst 0, 1) := by decide +kernel
theorem dM_order_101 : decode bM_order 101 = .ok (.istore 7, 2) := by decide +kernel
theorem dM_order_103 : decode bM_order 103 = .ok (.iload 4, 2) := by decide +kernel
theorem dM_order_105 : decode bM_order 105 = .ok (.iload 6, 2) := by decide +kernel
theorem dM_order_107 : decode bM_order 107 = .ok (.iadd, 1) := by decide +kernel
theorem dM_order_108 : decode bM_order 108 = .ok (.aload_n 0, 1) := by decide +kernel
theorem dM_order_109 : decode bM_order 109 = .ok (.getfield 13, 3) := by decide +kernel
theorem dM_order_112 : decode bM_order 112 = .ok (.iload_n 3, 1) := by decide +kernel
theorem dM_order_113 : decode bM_order 113 = .ok (.iaload, 1) := by decide +kernel
theorem dM_order_114 : decode bM_order 114 = .ok (.if_icmp .ne 7, 3) := by decide +kernel
theorem dM_order_117 : decode bM_order 117 = .ok (.iconst 1, 1) := by decide +kernel
theorem dM_order_118 : decode bM_order 118 = .ok (.goto 4, 3) := by decide +kernel
theorem dM_order_121 : decode bM_order 121 = .ok (.iconst 0, 1) := by decide +kernel
theorem dM_order_122 : decode bM_order 122 = .ok (.istore 8, 2) := by decide +kernel
theorem dM_order_124 : decode bM_order 124 = .ok (.iload 7, 2) := by decide +kernel
theorem dM_order_126 : decode bM_order 126 = .ok (.ifCond .ne 8, 3) := by decide +kernel
theorem dM_order_129 : decode bM_order 129 = .ok (.iload 8, 2) := by decide +kernel
theorem dM_order_131 : decode bM_order 131 = .ok (.ifCond .eq 28, 3) := by decide +kernel
theorem dM_order_134 : decode bM_order 134 = .ok (.iload 7, 2) := by decide +kernel
theorem dM_order_136 : decode bM_order 136 = .ok (.ifCond .eq 12, 3) := by decide +kernel
theorem dM_order_139 : decode bM_order 139 = .ok (.iload 8, 2) := by decide +kernel
theorem dM_order_141 : decode bM_order 141 = .ok (.ifCond .eq 7, 3) := by decide +kernel
theorem dM_order_144 : decode bM_order 144 = .ok (.iconst 0, 1) := by decide +kernel
theorem dM_order_145 : decode bM_order 145 = .ok (.goto 13, 3) := by decide +kernel
theorem dM_order_148 : decode bM_order 148 = .ok (.iload 7, 2) := by decide +kernel
theorem dM_order_150 : decode bM_order 150 = .ok (.ifCond .eq 7, 3) := by decide +kernel
theorem dM_order_153 : decode bM_order 153 = .ok (.iconst (-1), 1) := by decide +kernel
theorem dM_order_154 : decode bM_order 154 = .ok (.goto 4, 3) := by decide +kernel
theorem dM_order_157 : decode bM_order 157 = .ok (.iconst 1, 1) := by decide +kernel
theorem dM_order_158 : decode bM_order 158 = .ok (.ireturn, 1) := by decide +kernel
theorem dM_order_159 : decode bM_order 159 = .ok (.aload_n 0, 1) := by decide +kernel
theorem dM_order_160 : decode bM_order 160 = .ok (.getfield 7, 3) := by decide +kernel
theorem dM_order_163 : decode bM_order 163 = .ok (.sipush 1000, 3) := by decide +kernel
theorem dM_order_166 : decode bM_order 166 = .ok (.iload_n 1, 1) := by decide +kernel
theorem dM_order_167 : decode bM_order 167 = .ok (.imul, 1) := by decide +kernel
theorem dM_order_168 : decode bM_order 168 = .ok (.iload_n 2, 1) := by decide +kernel
theorem dM_order_169 : decode bM_order 169 = .ok (.iadd, 1) := by decide +kernel
theorem dM_order_170 : decode bM_order 170 = .ok (.iload 6, 2) := by decide +kernel
theorem dM_order_172 : decode bM_order 172 = .ok (.iadd, 1) := by decide +kernel
theorem dM_order_173 : decode bM_order 173 = .ok (.iaload, 1) := by decide +kernel
theorem dM_order_174 : decode bM_order 174 = .ok (.aload_n 0, 1) := by decide +kernel
theorem dM_order_175 : decode bM_order 175 = .ok (.getfield 7, 3) := by decide +kernel
theorem dM_order_178 : decode bM_order 178 = .ok (.sipush 1000, 3) := by decide +kernel
theorem dM_order_181 : decode bM_order 181 = .ok (.iload_n 3, 1) := by decide +kernel
theorem dM_order_182 : decode bM_order 182 = .ok (.imul, 1) := by decide +kernel
theorem dM_order_183 : decode bM_order 183 = .ok (.iload 4, 2) := by decide +kernel
theorem dM_order_185 : decode bM_order 185 = .ok (.iadd, 1) := by decide +kernel
theorem dM_order_186 : decode bM_order 186 = .ok (.iload 6, 2) := by decide +kernel
theorem dM_order_188 : decode bM_order 188 = .ok (.iadd, 1) := by decide +kernel
theorem dM_order_189 : decode bM_order 189 = .ok (.iaload, 1) := by decide +kernel
theorem dM_order_190 : decode bM_order 190 = .ok (.if_icmp .ge 7, 3) := by decide +kernel
theorem dM_order_193 : decode bM_order 193 = .ok (.iconst (-1), 1) := by decide +kernel
theorem dM_order_194 : decode bM_order 194 = .ok (.goto 4, 3) := by decide +kernel
theorem dM_order_197 : decode bM_order 197 = .ok (.iconst 1, 1) := by decide +kernel
theorem dM_order_198 : decode bM_order 198 = .ok (.ireturn, 1) := by decide +kernel
theorem dM_sum_0 : decode bM_sum 0 = .ok (.lload_n 0, 1) := by decide +kernel
theorem dM_sum_1 : decode bM_sum 1 = .ok (.lload_n 2, 1) := by decide +kernel
theorem dM_sum_2 : decode bM_sum 2 = .ok (.ladd, 1) := by decide +kernel
theorem dM_sum_3 : decode bM_sum 3 = .ok (.lstore 4, 2) := by decide +kernel
theorem dM_sum_5 : decode bM_sum 5 = .ok (.lload 4, 2) := by decide +kernel
theorem dM_sum_7 : decode bM_sum 7 = .ok (.ldc2_w 68, 3) := by decide +kernel
theorem dM_sum_10 : decode bM_sum 10 = .ok (.lcmp, 1) := by decide +kernel
theorem dM_sum_11 : decode bM_sum 11 = .ok (.ifCond .lt 12, 3) := by decide +kernel
theorem dM_sum_14 : decode bM_sum 14 = .ok (.lload 4, 2) := by decide +kernel
theorem dM_sum_16 : decode bM_sum 16 = .ok (.ldc2_w 68, 3) := by decide +kernel
theorem dM_sum_19 : decode bM_sum 19 = .ok (.lsub, 1) := by decide +kernel
theorem dM_sum_20 : decode bM_sum 20 = .ok (.goto 5, 3) := by decide +kernel
theorem dM_sum_23 : decode bM_sum 23 = .ok (.lload 4, 2) := by decide +kernel
theorem dM_sum_25 : decode bM_sum 25 = .ok (.lreturn, 1) := by decide +kernel
theorem dM_times_0 : decode bM_times 0 = .ok (.lload_n 0, 1) := by decide +kernel
theorem dM_times_1 : decode bM_times 1 = .ok (.bipush 40, 2) := by decide +kernel
theorem dM_times_3 : decode bM_times 3 = .ok (.lshr, 1) := by decide +kernel
theorem dM_times_4 : decode bM_times 4 = .ok (.ldc2_w 70, 3) := by decide +kernel
theorem dM_times_7 : decode bM_times 7 = .ok (.lmul, 1) := by decide +kernel
theorem dM_times_8 : decode bM_times 8 = .ok (.lstore_n 2, 1) := by decide +kernel
theorem dM_times_9 : decode bM_times 9 = .ok (.lload_n 0, 1) := by decide +kernel
theorem dM_times_10 : decode bM_times 10 = .ok (.ldc2_w 72, 3) := by decide +kernel
theorem dM_times_13 : decode bM_times 13 = .ok (.land, 1) := by decide +kernel
theorem dM_times_14 : decode bM_times 14 = .ok (.ldc2_w 70, 3) := by decide +kernel
theorem dM_times_17 : decode bM_times 17 = .ok (.lmul, 1) := by decide +kernel
theorem dM_times_18 : decode bM_times 18 = .ok (.lstore 4, 2) := by decide +kernel
theorem dM_times_20 : decode bM_times 20 = .ok (.lload_n 2, 1) := by decide +kernel
theorem dM_times_21 : decode bM_times 21 = .ok (.bipush 21, 2) := by decide +kernel
theorem dM_times_23 : decode bM_times 23 = .ok (.lshr, 1) := by decide +kernel
theorem dM_times_24 : decode bM_times 24 = .ok (.lload_n 2, 1) := by decide +kernel
theorem dM_times_25 : decode bM_times 25 = .ok (.ldc2_w 74, 3) := by decide +kernel
theorem dM_times_28 : decode bM_times 28 = .ok (.land, 1) := by decide +kernel
theorem dM_times_29 : decode bM_times 29 = .ok (.bipush 40, 2) := by decide +kernel
theorem dM_times_31 : decode bM_times 31 = .ok (.lshl, 1) := by decide +kernel
theorem dM_times_32 : decode bM_times 32 = .ok (.ladd, 1) := by decide +kernel
theorem dM_times_33 : decode bM_times 33 = .ok (.lstore 6, 2) := by decide +kernel
theorem dM_times_35 : decode bM_times 35 = .ok (.lload 6, 2) := by decide +kernel
theorem dM_times_37 : decode bM_times 37 = .ok (.ldc2_w 68, 3) := by decide +kernel
theorem dM_times_40 : decode bM_times 40 = .ok (.lcmp, 1) := by decide +kernel
theorem dM_times_41 : decode bM_times 41 = .ok (.ifCond .lt 12, 3) := by decide +kernel
theorem dM_times_44 : decode bM_times 44 = .ok (.lload 6, 2) := by decide +kernel
theorem dM_times_46 : decode bM_times 46 = .ok (.ldc2_w 68, 3) := by decide +kernel
theorem dM_times_49 : decode bM_times 49 = .ok (.lsub, 1) := by decide +kernel
theorem dM_times_50 : decode bM_times 50 = .ok (.goto 5, 3) := by decide +kernel
theorem dM_times_53 : decode bM_times 53 = .ok (.lload 6, 2) := by decide +kernel
theorem dM_times_55 : decode bM_times 55 = .ok (.lstore 8, 2) := by decide +kernel
theorem dM_times_57 : decode bM_times 57 = .ok (.lload 8, 2) := by decide +kernel
theorem dM_times_59 : decode bM_times 59 = .ok (.lload 4, 2) := by decide +kernel
theorem dM_times_61 : decode bM_times 61 = .ok (.invokestatic 76, 3) := by decide +kernel
theorem dM_times_64 : decode bM_times 64 = .ok (.lreturn, 1) := by decide +kernel
theorem dM_name_0 : decode bM_name 0 = .ok (.aload_n 0, 1) := by decide +kernel
theorem dM_name_1 : decode bM_name 1 = .ok (.iload_n 1, 1) := by decide +kernel
theorem dM_name_2 : decode bM_name 2 = .ok (.invokestatic 36, 3) := by decide +kernel
theorem dM_name_5 : decode bM_name 5 = .ok (.ifCond .ne 7, 3) := by decide +kernel
theorem dM_name_8 : decode bM_name 8 = .ok (.iconst 1, 1) := by decide +kernel
theorem dM_name_9 : decode bM_name 9 = .ok (.goto 18, 3) := by decide +kernel
theorem dM_name_12 : decode bM_name 12 = .ok (.aload_n 0, 1) := by decide +kernel
theorem dM_name_13 : decode bM_name 13 = .ok (.iload_n 1, 1) := by decide +kernel
theorem dM_name_14 : decode bM_name 14 = .ok (.iload_n 2, 1) := by decide +kernel
theorem dM_name_15 : decode bM_name 15 = .ok (.iload_n 3, 1) := by decide +kernel
theorem dM_name_16 : decode bM_name 16 = .ok (.invokevirtual 42, 3) := by decide +kernel
theorem dM_name_19 : decode bM_name 19 = .ok (.ifCond .ne 7, 3) := by decide +kernel
theorem dM_name_22 : decode bM_name 22 = .ok (.iconst 2, 1) := by decide +kernel
theorem dM_name_23 : decode bM_name 23 = .ok (.goto 4, 3) := by decide +kernel
theorem dM_name_26 : decode bM_name 26 = .ok (.iconst 0, 1) := by decide +kernel
theorem dM_name_27 : decode bM_name 27 = .ok (.putfield 29, 3) := by decide +kernel
theorem dM_name_30 : decode bM_name 30 = .ok (.lconst 0, 1) := by decide +kernel
theorem dM_name_31 : decode bM_name 31 = .ok (.lstore 4, 2) := by decide +kernel
theorem dM_name_33 : decode bM_name 33 = .ok (.iload_n 2, 1) := by decide +kernel
theorem dM_name_34 : decode bM_name 34 = .ok (.istore 6, 2) := by decide +kernel
theorem dM_name_36 : decode bM_name 36 = .ok (.iload 6, 2) := by decide +kernel
theorem dM_name_38 : decode bM_name 38 = .ok (.iload_n 3, 1) := by decide +kernel
theorem dM_name_39 : decode bM_name 39 = .ok (.if_icmp .ge 42, 3) := by decide +kernel
theorem dM_name_42 : decode bM_name 42 = .ok (.aload_n 0, 1) := by decide +kernel
theorem dM_name_43 : decode bM_name 43 = .ok (.getfield 29, 3) := by decide +kernel
theorem dM_name_46 : decode bM_name 46 = .ok (.ifCond .ne 35, 3) := by decide +kernel
theorem dM_name_49 : decode bM_name 49 = .ok (.lload 4, 2) := by decide +kernel
theorem dM_name_51 : decode bM_name 51 = .ok (.invokestatic 80, 3) := by decide +kernel
theorem dM_name_54 : decode bM_name 54 = .ok (.aload_n 0, 1) := by decide +kernel
theorem dM_name_55 : decode bM_name 55 = .ok (.getfield 7, 3) := by decide +kernel
theorem dM_name_58 : decode bM_name 58 = .ok (.sipush 1000, 3) := by decide +kernel
theorem dM_name_61 : decode bM_name 61 = .ok (.iload_n 1, 1) := by decide +kernel
theorem dM_name_62 : decode bM_name 62 = .ok (.imul, 1) := by decide +kernel
theorem dM_name_63 : decode bM_name 63 = .ok (.iload 6, 2) := by decide +kernel
theorem dM_name_65 : decode bM_name 65 = .ok (.iadd, 1) := by decide +kernel
theorem dM_name_66 : decode bM_name 66 = .ok (.iaload, 1) := by decide +kernel
theorem dM_name_67 : decode bM_name 67 = .ok (.i2l, 1) := by decide +kernel
theorem dM_name_68 : decode bM_name 68 = .ok (.lconst 1, 1) := by decide +kernel
theorem dM_name_69 : decode bM_name 69 = .ok (.ladd, 1) := by decide +kernel
theorem dM_name_70 : decode bM_name 70 = .ok (.invokestatic 76, 3) := by decide +kernel
theorem dM_name_73 : decode bM_name 73 = .ok (.lstore 4, 2) := by decide +kernel
theorem dM_name_75 : decode bM_name 75 = .ok (.iinc 6 1, 3) := by decide +kernel
theorem dM_name_78 : decode bM_name 78 = .ok (.goto (-42), 3) := by decide +kernel
theorem dM_name_81 : decode bM_name 81 = .ok (.lload 4, 2) := by decide +kernel
theorem dM_name_83 : decode bM_name 83 = .ok (.lreturn, 1) := by decide +kernel
theorem dM_pattern_0 : decode bM_pattern 0 = .ok (.aload_n 0, 1) := by decide +kernel
theorem dM_pattern_1 : decode bM_pattern 1 = .ok (.iload 5, 2) := by decide +kernel
theorem dM_pattern_3 : decode bM_pattern 3 = .ok (.iconst 1, 1) := by decide +kernel
theorem dM_pattern_4 : decode bM_pattern 4 = .ok (.if_icmp .lt 10, 3) := by decide +kernel
theorem dM_pattern_7 : decode bM_pattern 7 = .ok (.iload 5, 2) := by decide +kernel
theorem dM_pattern_9 : decode bM_pattern 9 = .ok (.bipush 16, 2) := by decide +kernel
theorem dM_pattern_11 : decode bM_pattern 11 = .ok (.if_icmp .le 7, 3) := by decide +kernel
theorem dM_pattern_14 : decode bM_pattern 14 = .ok (.iconst 1, 1) := by decide +kernel
theorem dM_pattern_15 : decode bM_pattern 15 = .ok (.goto 4, 3) := by decide +kernel
theorem dM_pattern_18 : decode bM_pattern 18 = .ok (.iconst 0, 1) := by decide +kernel
theorem dM_pattern_19 : decode bM_pattern 19 = .ok (.putfield 29, 3) := by decide +kernel
theorem dM_pattern_22 : decode bM_pattern 22 = .ok (.iconst 0, 1) := by decide +kernel
theorem dM_pattern_23 : decode bM_pattern 23 = .ok (.istore 6, 2) := by decide +kernel
theorem dM_pattern_25 : decode bM_pattern 25 = .ok (.iload 6, 2) := by decide +kernel
theorem dM_pattern_27 : decode bM_pattern 27 = .ok (.iload 5, 2) := by decide +kernel
theorem dM_pattern_29 : decode bM_pattern 29 = .ok (.if_icmp .ge 55, 3) := by decide +kernel
theorem dM_pattern_32 : decode bM_pattern 32 = .ok (.aload_n 0, 1) := by decide +kernel
theorem dM_pattern_33 : decode bM_pattern 33 = .ok (.getfield 29, 3) := by decide +kernel
theorem dM_pattern_36 : decode bM_pattern 36 = .ok (.ifCond .ne 48, 3) := by decide +kernel
theorem dM_pattern_39 : decode bM_pattern 39 = .ok (.aload_n 0, 1) := by decide +kernel
theorem dM_pattern_40 : decode bM_pattern 40 = .ok (.getfield 19, 3) := by decide +kernel
theorem dM_pattern_43 : decode bM_pattern 43 = .ok (.iload 6, 2) := by decide +kernel
theorem dM_pattern_45 : decode bM_pattern 45 = .ok (.iload 6, 2) := by decide +kernel
theorem dM_pattern_47 : decode bM_pattern 47 = .ok (.bipush 8, 2) := by decide +kernel
theorem dM_pattern_49 : decode bM_pattern 49 = .ok (.if_icmp .ge 13, 3) := by decide +kernel
theorem dM_pattern_52 : decode bM_pattern 52 = .ok (.lload_n 1, 1) := by decide +kernel
theorem dM_pattern_53 : decode bM_pattern 53 = .ok (.bipush 8, 2) := by decide +kernel
theorem dM_pattern_55 : decode bM_pattern 55 = .ok (.iload 6, 2) := by decide +kernel
theorem dM_pattern_57 : decode bM_pattern 57 = .ok (.imul, 1) := by decide +kernel
theorem dM_pattern_58 : decode bM_pattern 58 = .ok (.lshr, 1) := by decide +kernel
theorem dM_pattern_59 : decode bM_pattern 59 = .ok (.goto 13, 3) := by decide +kernel
theorem dM_pattern_62 : decode bM_pattern 62 = .ok (.lload_n 3, 1) := by decide +kernel
theorem dM_pattern_63 : decode bM_pattern 63 = .ok (.bipush 8, 2) := by decide +kernel
theorem dM_pattern_65 : decode bM_pattern 65 = .ok (.iload 6, 2) := by decide +kernel
theorem dM_pattern_67 : decode bM_pattern 67 = .ok (.imul, 1) := by decide +kernel
theorem dM_pattern_68 : decode bM_pattern 68 = .ok (.bipush 64, 2) := by decide +kernel
theorem dM_pattern_70 : decode bM_pattern 70 = .ok (.isub, 1) := by decide +kernel
theorem dM_pattern_71 : decode bM_pattern 71 = .ok (.lshr, 1) := by decide +kernel
theorem dM_pattern_72 : decode bM_pattern 72 = .ok (.ldc2_w 40, 3) := by decide +kernel
theorem dM_pattern_75 : decode bM_pattern 75 = .ok (.land, 1) := by decide +kernel
theorem dM_pattern_76 : decode bM_pattern 76 = .ok (.l2i, 1) := by decide +kernel
theorem dM_pattern_77 : decode bM_pattern 77 = .ok (.iastore, 1) := by decide +kernel
theorem dM_pattern_78 : decode bM_pattern 78 = .ok (.iinc 6 1, 3) := by decide +kernel
theorem dM_pattern_81 : decode bM_pattern 81 = .ok (.goto (-56), 3) := by decide +kernel
theorem dM_pattern_84 : decode bM_pattern 84 = .ok (.aload_n 0, 1) := by decide +kernel
theorem dM_pattern_85 : decode bM_pattern 85 = .ok (.aload_n 0, 1) := by decide +kernel
theorem dM_pattern_86 : decode bM_pattern 86 = .ok (.getfield 29, 3) := by decide +kernel
theorem dM_pattern_89 : decode bM_pattern 89 = .ok (.ifCond .ne 8, 3) := by decide +kernel
theorem dM_pattern_92 : decode bM_pattern 92 = .ok (.iload 5, 2) := by decide +kernel
theorem dM_pattern_94 : decode bM_pattern 94 = .ok (.goto 7, 3) := by decide +kernel
theorem dM_pattern_97 : decode bM_pattern 97 = .ok (.aload_n 0, 1) := by decide +kernel
theorem dM_pattern_98 : decode bM_pattern 98 = .ok (.getfield 84, 3) := by decide +kernel
theorem dM_pattern_101 : decode bM_pattern 101 = .ok (.putfield 84, 3) := by decide +kernel
theorem dM_pattern_104 : decode bM_pattern 104 = .ok (.return_, 1) := by decide +kernel
theorem dM_stands_0 : decode bM_stands 0 = .ok (.iload_n 2, 1) := by decide +kernel
theorem dM_stands_1 : decode bM_stands 1 = .ok (.aload_n 0, 1) := by decide +kernel
theorem dM_stands_2 : decode bM_stands 2 = .ok (.getfield 84, 3) := by decide +kernel
theorem dM_stands_5 : decode bM_stands 5 = .ok (.iadd, 1) := by decide +kernel
theorem dM_stands_6 : decode bM_stands 6 = .ok (.iload_n 3, 1) := by decide +kernel
theorem dM_stands_7 : decode bM_stands 7 = .ok (.if_icmp .gt 7, 3) := by decide +kernel
theorem dM_stands_10 : decode bM_stands 10 = .ok (.iconst 1, 1) := by decide +kernel
theorem dM_stands_11 : decode bM_stands 11 = .ok (.goto 4, 3) := by decide +kernel
theorem dM_stands_14 : decode bM_stands 14 = .ok (.iconst 0, 1) := by decide +kernel
theorem dM_stands_15 : decode bM_stands 15 = .ok (.istore 4, 2) := by decide +kernel
theorem dM_stands_17 : decode bM_stands 17 = .ok (.iconst 0, 1) := by decide +kernel
theorem dM_stands_18 : decode bM_stands 18 = .ok (.istore 5, 2) := by decide +kernel
theorem dM_stands_20 : decode bM_stands 20 = .ok (.iload 5, 2) := by decide +kernel
theorem dM_stands_22 : decode bM_stands 22 = .ok (.aload_n 0, 1) := by decide +kernel
theorem dM_stands_23 : decode bM_stands 23 = .ok (.getfield 84, 3) := by decide +kernel
theorem dM_stands_26 : decode bM_stands 26 = .ok (.if_icmp .ge 46, 3) := by decide +kernel
theorem dM_stands_29 : decode bM_stands 29 = .ok (.iload 4, 2) := by decide +kernel
theorem dM_stands_31 : decode bM_stands 31 = .ok (.ifCond .eq 41, 3) := by decide +kernel
theorem dM_stands_34 : decode bM_stands 34 = .ok (.aload_n 0, 1) := by decide +kernel
theorem dM_stands_35 : decode bM_stands 35 = .ok (.getfield 7, 3) := by decide +kernel
theorem dM_stands_38 : decode bM_stands 38 = .ok (.sipush 1000, 3) := by decide +kernel
theorem dM_stands_41 : decode bM_stands 41 = .ok (.iload_n 1, 1) := by decide +kernel
theorem dM_stands_42 : decode bM_stands 42 = .ok (.imul, 1) := by decide +kernel
theorem dM_stands_43 : decode bM_stands 43 = .ok (.iload_n 2, 1) := by decide +kernel
theorem dM_stands_44 : decode bM_stands 44 = .ok (.iadd, 1) := by decide +kernel
theorem dM_stands_45 : decode bM_stands 45 = .ok (.iload 5, 2) := by decide +kernel
theorem dM_stands_47 : decode bM_stands 47 = .ok (.iadd, 1) := by decide +kernel
theorem dM_stands_48 : decode bM_stands 48 = .ok (.iaload, 1) := by decide +kernel
theorem dM_stands_49 : decode bM_stands 49 = .ok (.aload_n 0, 1) := by decide +kernel
theorem dM_stands_50 : decode bM_stands 50 = .ok (.getfield 19, 3) := by decide +kernel
theorem dM_stands_53 : decode bM_stands 53 = .ok (.iload 5, 2) := by decide +kernel
theorem dM_stands_55 : decode bM_stands 55 = .ok (.iaload, 1) := by decide +kernel
theorem dM_stands_56 : decode bM_stands 56 = .ok (.if_icmp .ne 7, 3) := by decide +kernel
theorem dM_stands_59 : decode bM_stands 59 = .ok (.iconst 1, 1) := by decide +kernel
theorem dM_stands_60 : decode bM_stands 60 = .ok (.goto 4, 3) := by decide +kernel
theorem dM_stands_63 : decode bM_stands 63 = .ok (.iconst 0, 1) := by decide +kernel
theorem dM_stands_64 : decode bM_stands 64 = .ok (.istore 4, 2) := by decide +kernel
theorem dM_stands_66 : decode bM_stands 66 = .ok (.iinc 5 1, 3) := by decide +kernel
theorem dM_stands_69 : decode bM_stands 69 = .ok (.goto (-49), 3) := by decide +kernel
theorem dM_stands_72 : decode bM_stands 72 = .ok (.iload 4, 2) := by decide +kernel
theorem dM_stands_74 : decode bM_stands 74 = .ok (.ireturn, 1) := by decide +kernel
theorem dM_count_0 : decode bM_count 0 = .ok (.aload_n 0, 1) := by decide +kernel
theorem dM_count_1 : decode bM_count 1 = .ok (.iload_n 1, 1) := by decide +kernel
theorem dM_count_2 : decode bM_count 2 = .ok (.invokestatic 36, 3) := by decide +kernel
theorem dM_count_5 : decode bM_count 5 = .ok (.ifCond .ne 7, 3) := by decide +kernel
theorem dM_count_8 : decode bM_count 8 = .ok (.iconst 1, 1) := by decide +kernel
theorem dM_count_9 : decode bM_count 9 = .ok (.goto 29, 3) := by decide +kernel
theorem dM_count_12 : decode bM_count 12 = .ok (.aload_n 0, 1) := by decide +kernel
theorem dM_count_13 : decode bM_count 13 = .ok (.iload_n 1, 1) := by decide +kernel
theorem dM_count_14 : decode bM_count 14 = .ok (.iload_n 2, 1) := by decide +kernel
theorem dM_count_15 : decode bM_count 15 = .ok (.iload_n 3, 1) := by decide +kernel
theorem dM_count_16 : decode bM_count 16 = .ok (.invokevirtual 42, 3) := by decide +kernel
theorem dM_count_19 : decode bM_count 19 = .ok (.ifCond .ne 7, 3) := by decide +kernel
theorem dM_count_22 : decode bM_count 22 = .ok (.iconst 2, 1) := by decide +kernel
theorem dM_count_23 : decode bM_count 23 = .ok (.goto 15, 3) := by decide +kernel
theorem dM_count_26 : decode bM_count 26 = .ok (.aload_n 0, 1) := by decide +kernel
theorem dM_count_27 : decode bM_count 27 = .ok (.getfield 84, 3) := by decide +kernel
theorem dM_count_30 : decode bM_count 30 = .ok (.ifCond .ne 7, 3) := by decide +kernel
theorem dM_count_33 : decode bM_count 33 = .ok (.iconst 3, 1) := by decide +kernel
theorem dM_count_34 : decode bM_count 34 = .ok (.goto 4, 3) := by decide +kernel
theorem dM_count_37 : decode bM_count 37 = .ok (.iconst 0, 1) := by decide +kernel
theorem dM_count_38 : decode bM_count 38 = .ok (.putfield 29, 3) := by decide +kernel
theorem dM_count_41 : decode bM_count 41 = .ok (.iconst 0, 1) := by decide +kernel
theorem dM_count_42 : decode bM_count 42 = .ok (.istore 4, 2) := by decide +kernel
theorem dM_count_44 : decode bM_count 44 = .ok (.iload_n 2, 1) := by decide +kernel
theorem dM_count_45 : decode bM_count 45 = .ok (.istore 5, 2) := by decide +kernel
theorem dM_count_47 : decode bM_count 47 = .ok (.iload 5, 2) := by decide +kernel
theorem dM_count_49 : decode bM_count 49 = .ok (.iload_n 3, 1) := by decide +kernel
theorem dM_count_50 : decode bM_count 50 = .ok (.if_icmp .ge 38, 3) := by decide +kernel
theorem dM_count_53 : decode bM_count 53 = .ok (.aload_n 0, 1) := by decide +kernel
theorem dM_count_54 : decode bM_count 54 = .ok (.getfield 29, 3) := by decide +kernel
theorem dM_count_57 : decode bM_count 57 = .ok (.ifCond .ne 31, 3) := by decide +kernel
theorem dM_count_60 : decode bM_count 60 = .ok (.aload_n 0, 1) := by decide +kernel
theorem dM_count_61 : decode bM_count 61 = .ok (.iload_n 1, 1) := by decide +kernel
theorem dM_count_62 : decode bM_count 62 = .ok (.iload 5, 2) := by decide +kernel
theorem dM_count_64 : decode bM_count 64 = .ok (.iload_n 3, 1) := by decide +kernel
theorem dM_count_65 : decode bM_count 65 = .ok (.invokevirtual 87, 3) := by decide +kernel
theorem dM_count_68 : decode bM_count 68 = .ok (.ifCond .eq 10, 3) := by decide +kernel
theorem dM_count_71 : decode bM_count 71 = .ok (.iload 4, 2) := by decide +kernel
theorem dM_count_73 : decode bM_count 73 = .ok (.iconst 1, 1) := by decide +kernel
theorem dM_count_74 : decode bM_count 74 = .ok (.iadd, 1) := by decide +kernel
theorem dM_count_75 : decode bM_count 75 = .ok (.goto 5, 3) := by decide +kernel
theorem dM_count_78 : decode bM_count 78 = .ok (.iload 4, 2) := by decide +kernel
theorem dM_count_80 : decode bM_count 80 = .ok (.istore 4, 2) := by decide +kernel
theorem dM_count_82 : decode bM_count 82 = .ok (.iinc 5 1, 3) := by decide +kernel
theorem dM_count_85 : decode bM_count 85 = .ok (.goto (-38), 3) := by decide +kernel
theorem dM_count_88 : decode bM_count 88 = .ok (.iload 4, 2) := by decide +kernel
theorem dM_count_90 : decode bM_count 90 = .ok (.ireturn, 1) := by decide +kernel
theorem dM_find_0 : decode bM_find 0 = .ok (.aload_n 0, 1) := by decide +kernel
theorem dM_find_1 : decode bM_find 1 = .ok (.iload_n 1, 1) := by decide +kernel
theorem dM_find_2 : decode bM_find 2 = .ok (.invokestatic 36, 3) := by decide +kernel
theorem dM_find_5 : decode bM_find 5 = .ok (.ifCond .eq 7, 3) := by decide +kernel
theorem dM_find_8 : decode bM_find 8 = .ok (.iload_n 3, 1) := by decide +kernel
theorem dM_find_9 : decode bM_find 9 = .ok (.ifCond .ge 7, 3) := by decide +kernel
theorem dM_find_12 : decode bM_find 12 = .ok (.iconst 1, 1) := by decide +kernel
theorem dM_find_13 : decode bM_find 13 = .ok (.goto 33, 3) := by decide +kernel
theorem dM_find_16 : decode bM_find 16 = .ok (.iload_n 2, 1) := by decide +kernel
theorem dM_find_17 : decode bM_find 17 = .ok (.ifCond .lt 13, 3) := by decide +kernel
theorem dM_find_20 : decode bM_find 20 = .ok (.iload_n 2, 1) := by decide +kernel
theorem dM_find_21 : decode bM_find 21 = .ok (.aload_n 0, 1) := by decide +kernel
theorem dM_find_22 : decode bM_find 22 = .ok (.getfield 13, 3) := by decide +kernel
theorem dM_find_25 : decode bM_find 25 = .ok (.iload_n 1, 1) := by decide +kernel
theorem dM_find_26 : decode bM_find 26 = .ok (.iaload, 1) := by decide +kernel
theorem dM_find_27 : decode bM_find 27 = .ok (.if_icmp .le 7, 3) := by decide +kernel
theorem dM_find_30 : decode bM_find 30 = .ok (.iconst 2, 1) := by decide +kernel
theorem dM_find_31 : decode bM_find 31 = .ok (.goto 15, 3) := by decide +kernel
theorem dM_find_34 : decode bM_find 34 = .ok (.aload_n 0, 1) := by decide +kernel
theorem dM_find_35 : decode bM_find 35 = .ok (.getfield 84, 3) := by decide +kernel
theorem dM_find_38 : decode bM_find 38 = .ok (.ifCond .ne 7, 3) := by decide +kernel
theorem dM_find_41 : decode bM_find 41 = .ok (.iconst 3, 1) := by decide +kernel
theorem dM_find_42 : decode bM_find 42 = .ok (.goto 4, 3) := by decide +kernel
theorem dM_find_45 : decode bM_find 45 = .ok (.iconst 0, 1) := by decide +kernel
theorem dM_find_46 : decode bM_find 46 = .ok (.putfield 29, 3) := by decide +kernel
theorem dM_find_49 : decode bM_find 49 = .ok (.aload_n 0, 1) := by decide +kernel
theorem dM_find_50 : decode bM_find 50 = .ok (.getfield 29, 3) := by decide +kernel
theorem dM_find_53 : decode bM_find 53 = .ok (.ifCond .le 5, 3) := by decide +kernel
theorem dM_find_56 : decode bM_find 56 = .ok (.iconst 0, 1) := by decide +kernel
theorem dM_find_57 : decode bM_find 57 = .ok (.ireturn, 1) := by decide +kernel
theorem dM_find_58 : decode bM_find 58 = .ok (.iload_n 3, 1) := by decide +kernel
theorem dM_find_59 : decode bM_find 59 = .ok (.istore 4, 2) := by decide +kernel
theorem dM_find_61 : decode bM_find 61 = .ok (.iload_n 2, 1) := by decide +kernel
theorem dM_find_62 : decode bM_find 62 = .ok (.istore 5, 2) := by decide +kernel
theorem dM_find_64 : decode bM_find 64 = .ok (.iload 5, 2) := by decide +kernel
theorem dM_find_66 : decode bM_find 66 = .ok (.aload_n 0, 1) := by decide +kernel
theorem dM_find_67 : decode bM_find 67 = .ok (.getfield 13, 3) := by decide +kernel
theorem dM_find_70 : decode bM_find 70 = .ok (.iload_n 1, 1) := by decide +kernel
theorem dM_find_71 : decode bM_find 71 = .ok (.iaload, 1) := by decide +kernel
theorem dM_find_72 : decode bM_find 72 = .ok (.if_icmp .ge 36, 3) := by decide +kernel
theorem dM_find_75 : decode bM_find 75 = .ok (.aload_n 0, 1) := by decide +kernel
theorem dM_find_76 : decode bM_find 76 = .ok (.iload_n 1, 1) := by decide +kernel
theorem dM_find_77 : decode bM_find 77 = .ok (.iload 5, 2) := by decide +kernel
theorem dM_find_79 : decode bM_find 79 = .ok (.aload_n 0, 1) := by decide +kernel
theorem dM_find_80 : decode bM_find 80 = .ok (.getfield 13, 3) := by decide +kernel
theorem dM_find_83 : decode bM_find 83 = .ok (.iload_n 1, 1) := by decide +kernel
theorem dM_find_84 : decode bM_find 84 = .ok (.iaload, 1) := by decide +kernel
theorem dM_find_85 : decode bM_find 85 = .ok (.invokevirtual 87, 3) := by decide +kernel
theorem dM_find_88 : decode bM_find 88 = .ok (.ifCond .eq 14, 3) := by decide +kernel
theorem dM_find_91 : decode bM_find 91 = .ok (.iload 4, 2) := by decide +kernel
theorem dM_find_93 : decode bM_find 93 = .ok (.ifCond .ne 6, 3) := by decide +kernel
theorem dM_find_96 : decode bM_find 96 = .ok (.iload 5, 2) := by decide +kernel
theorem dM_find_98 : decode bM_find 98 = .ok (.ireturn, 1) := by decide +kernel
theorem dM_find_99 : decode bM_find 99 = .ok (.iinc 4 (-1), 3) := by decide +kernel
theorem dM_find_102 : decode bM_find 102 = .ok (.iinc 5 1, 3) := by decide +kernel
theorem dM_find_105 : decode bM_find 105 = .ok (.goto (-41), 3) := by decide +kernel
theorem dM_find_108 : decode bM_find 108 = .ok (.iconst (-1), 1) := by decide +kernel
theorem dM_find_109 : decode bM_find 109 = .ok (.ireturn, 1) := by decide +kernel
theorem dM_lead_0 : decode bM_lead 0 = .ok (.aload_n 0, 1) := by decide +kernel
theorem dM_lead_1 : decode bM_lead 1 = .ok (.iload_n 1, 1) := by decide +kernel
theorem dM_lead_2 : decode bM_lead 2 = .ok (.ifCond .lt 37, 3) := by decide +kernel
theorem dM_lead_5 : decode bM_lead 5 = .ok (.iload_n 1, 1) := by decide +kernel
theorem dM_lead_6 : decode bM_lead 6 = .ok (.bipush 7, 2) := by decide +kernel
theorem dM_lead_8 : decode bM_lead 8 = .ok (.if_icmp .gt 31, 3) := by decide +kernel
theorem dM_lead_11 : decode bM_lead 11 = .ok (.iload 4, 2) := by decide +kernel
theorem dM_lead_13 : decode bM_lead 13 = .ok (.ifCond .lt 26, 3) := by decide +kernel
theorem dM_lead_16 : decode bM_lead 16 = .ok (.iload 4, 2) := by decide +kernel
theorem dM_lead_18 : decode bM_lead 18 = .ok (.bipush 7, 2) := by decide +kernel
theorem dM_lead_20 : decode bM_lead 20 = .ok (.if_icmp .gt 19, 3) := by decide +kernel
theorem dM_lead_23 : decode bM_lead 23 = .ok (.iload_n 2, 1) := by decide +kernel
theorem dM_lead_24 : decode bM_lead 24 = .ok (.ifCond .lt 15, 3) := by decide +kernel
theorem dM_lead_27 : decode bM_lead 27 = .ok (.iload_n 2, 1) := by decide +kernel
theorem dM_lead_28 : decode bM_lead 28 = .ok (.iload_n 3, 1) := by decide +kernel
theorem dM_lead_29 : decode bM_lead 29 = .ok (.if_icmp .gt 10, 3) := by decide +kernel
theorem dM_lead_32 : decode bM_lead 32 = .ok (.iload_n 3, 1) := by decide +kernel
theorem dM_lead_33 : decode bM_lead 33 = .ok (.sipush 255, 3) := by decide +kernel
theorem dM_lead_36 : decode bM_lead 36 = .ok (.if_icmp .le 7, 3) := by decide +kernel
theorem dM_lead_39 : decode bM_lead 39 = .ok (.iconst 1, 1) := by decide +kernel
theorem dM_lead_40 : decode bM_lead 40 = .ok (.goto 4, 3) := by decide +kernel
theorem dM_lead_43 : decode bM_lead 43 = .ok (.iconst 0, 1) := by decide +kernel
theorem dM_lead_44 : decode bM_lead 44 = .ok (.putfield 29, 3) := by decide +kernel
theorem dM_lead_47 : decode bM_lead 47 = .ok (.iload_n 2, 1) := by decide +kernel
theorem dM_lead_48 : decode bM_lead 48 = .ok (.istore 5, 2) := by decide +kernel
theorem dM_lead_50 : decode bM_lead 50 = .ok (.iload 5, 2) := by decide +kernel
theorem dM_lead_52 : decode bM_lead 52 = .ok (.iload_n 3, 1) := by decide +kernel
theorem dM_lead_53 : decode bM_lead 53 = .ok (.if_icmp .gt 31, 3) := by decide +kernel
theorem dM_lead_56 : decode bM_lead 56 = .ok (.aload_n 0, 1) := by decide +kernel
theorem dM_lead_57 : decode bM_lead 57 = .ok (.getfield 29, 3) := by decide +kernel
theorem dM_lead_60 : decode bM_lead 60 = .ok (.ifCond .ne 24, 3) := by decide +kernel
theorem dM_lead_63 : decode bM_lead 63 = .ok (.aload_n 0, 1) := by decide +kernel
theorem dM_lead_64 : decode bM_lead 64 = .ok (.getfield 22, 3) := by decide +kernel
theorem dM_lead_67 : decode bM_lead 67 = .ok (.sipush 256, 3) := by decide +kernel
theorem dM_lead_70 : decode bM_lead 70 = .ok (.iload_n 1, 1) := by decide +kernel
theorem dM_lead_71 : decode bM_lead 71 = .ok (.imul, 1) := by decide +kernel
theorem dM_lead_72 : decode bM_lead 72 = .ok (.iload 5, 2) := by decide +kernel
theorem dM_lead_74 : decode bM_lead 74 = .ok (.iadd, 1) := by decide +kernel
theorem dM_lead_75 : decode bM_lead 75 = .ok (.iload 4, 2) := by decide +kernel
theorem dM_lead_77 : decode bM_lead 77 = .ok (.iastore, 1) := by decide +kernel
theorem dM_lead_78 : decode bM_lead 78 = .ok (.iinc 5 1, 3) := by decide +kernel
theorem dM_lead_81 : decode bM_lead 81 = .ok (.goto (-31), 3) := by decide +kernel
theorem dM_lead_84 : decode bM_lead 84 = .ok (.return_, 1) := by decide +kernel
theorem dM_accept_0 : decode bM_accept 0 = .ok (.aload_n 0, 1) := by decide +kernel
theorem dM_accept_1 : decode bM_accept 1 = .ok (.iload_n 1, 1) := by decide +kernel
theorem dM_accept_2 : decode bM_accept 2 = .ok (.ifCond .lt 9, 3) := by decide +kernel
theorem dM_accept_5 : decode bM_accept 5 = .ok (.iload_n 1, 1) := by decide +kernel
theorem dM_accept_6 : decode bM_accept 6 = .ok (.bipush 7, 2) := by decide +kernel
theorem dM_accept_8 : decode bM_accept 8 = .ok (.if_icmp .le 7, 3) := by decide +kernel
theorem dM_accept_11 : decode bM_accept 11 = .ok (.iconst 1, 1) := by decide +kernel
theorem dM_accept_12 : decode bM_accept 12 = .ok (.goto 4, 3) := by decide +kernel
theorem dM_accept_15 : decode bM_accept 15 = .ok (.iconst 0, 1) := by decide +kernel
theorem dM_accept_16 : decode bM_accept 16 = .ok (.putfield 29, 3) := by decide +kernel
theorem dM_accept_19 : decode bM_accept 19 = .ok (.aload_n 0, 1) := by decide +kernel
theorem dM_accept_20 : decode bM_accept 20 = .ok (.getfield 29, 3) := by decide +kernel
theorem dM_accept_23 : decode bM_accept 23 = .ok (.ifCond .ne 10, 3) := by decide +kernel
theorem dM_accept_26 : decode bM_accept 26 = .ok (.aload_n 0, 1) := by decide +kernel
theorem dM_accept_27 : decode bM_accept 27 = .ok (.getfield 25, 3) := by decide +kernel
theorem dM_accept_30 : decode bM_accept 30 = .ok (.iload_n 1, 1) := by decide +kernel
theorem dM_accept_31 : decode bM_accept 31 = .ok (.iload_n 2, 1) := by decide +kernel
theorem dM_accept_32 : decode bM_accept 32 = .ok (.bastore, 1) := by decide +kernel
theorem dM_accept_33 : decode bM_accept 33 = .ok (.return_, 1) := by decide +kernel
theorem dM_read_0 : decode bM_read 0 = .ok (.aload_n 0, 1) := by decide +kernel
theorem dM_read_1 : decode bM_read 1 = .ok (.iload_n 1, 1) := by decide +kernel
theorem dM_read_2 : decode bM_read 2 = .ok (.invokestatic 36, 3) := by decide +kernel
theorem dM_read_5 : decode bM_read 5 = .ok (.ifCond .eq 15, 3) := by decide +kernel
theorem dM_read_8 : decode bM_read 8 = .ok (.iload 4, 2) := by decide +kernel
theorem dM_read_10 : decode bM_read 10 = .ok (.ifCond .lt 10, 3) := by decide +kernel
theorem dM_read_13 : decode bM_read 13 = .ok (.iload 4, 2) := by decide +kernel
theorem dM_read_15 : decode bM_read 15 = .ok (.bipush 7, 2) := by decide +kernel
theorem dM_read_17 : decode bM_read 17 = .ok (.if_icmp .le 7, 3) := by decide +kernel
theorem dM_read_20 : decode bM_read 20 = .ok (.iconst 1, 1) := by decide +kernel
theorem dM_read_21 : decode bM_read 21 = .ok (.goto 18, 3) := by decide +kernel
theorem dM_read_24 : decode bM_read 24 = .ok (.aload_n 0, 1) := by decide +kernel
theorem dM_read_25 : decode bM_read 25 = .ok (.iload_n 1, 1) := by decide +kernel
theorem dM_read_26 : decode bM_read 26 = .ok (.iload_n 2, 1) := by decide +kernel
theorem dM_read_27 : decode bM_read 27 = .ok (.iload_n 3, 1) := by decide +kernel
theorem dM_read_28 : decode bM_read 28 = .ok (.invokevirtual 42, 3) := by decide +kernel
theorem dM_read_31 : decode bM_read 31 = .ok (.ifCond .ne 7, 3) := by decide +kernel
theorem dM_read_34 : decode bM_read 34 = .ok (.iconst 2, 1) := by decide +kernel
theorem dM_read_35 : decode bM_read 35 = .ok (.goto 4, 3) := by decide +kernel
theorem dM_read_38 : decode bM_read 38 = .ok (.iconst 0, 1) := by decide +kernel
theorem dM_read_39 : decode bM_read 39 = .ok (.putfield 29, 3) := by decide +kernel
theorem dM_read_42 : decode bM_read 42 = .ok (.aload_n 0, 1) := by decide +kernel
theorem dM_read_43 : decode bM_read 43 = .ok (.getfield 29, 3) := by decide +kernel
theorem dM_read_46 : decode bM_read 46 = .ok (.ifCond .le 4, 3) := by decide +kernel
theorem dM_read_49 : decode bM_read 49 = .ok (.return_, 1) := by decide +kernel
theorem dM_read_50 : decode bM_read 50 = .ok (.aload_n 0, 1) := by decide +kernel
theorem dM_read_51 : decode bM_read 51 = .ok (.iload 4, 2) := by decide +kernel
theorem dM_read_53 : decode bM_read 53 = .ok (.putfield 90, 3) := by decide +kernel
theorem dM_read_56 : decode bM_read 56 = .ok (.aload_n 0, 1) := by decide +kernel
theorem dM_read_57 : decode bM_read 57 = .ok (.aload_n 0, 1) := by decide +kernel
theorem dM_read_58 : decode bM_read 58 = .ok (.getfield 25, 3) := by decide +kernel
theorem dM_read_61 : decode bM_read 61 = .ok (.iload 4, 2) := by decide +kernel
theorem dM_read_63 : decode bM_read 63 = .ok (.baload, 1) := by decide +kernel
theorem dM_read_64 : decode bM_read 64 = .ok (.ifCond .eq 7, 3) := by decide +kernel
theorem dM_read_67 : decode bM_read 67 = .ok (.iconst 1, 1) := by decide +kernel
theorem dM_read_68 : decode bM_read 68 = .ok (.goto 4, 3) := by decide +kernel
theorem dM_read_71 : decode bM_read 71 = .ok (.iconst 0, 1) := by decide +kernel
theorem dM_read_72 : decode bM_read 72 = .ok (.putfield 93, 3) := by decide +kernel
theorem dM_read_75 : decode bM_read 75 = .ok (.iload_n 2, 1) := by decide +kernel
theorem dM_read_76 : decode bM_read 76 = .ok (.istore 5, 2) := by decide +kernel
theorem dM_read_78 : decode bM_read 78 = .ok (.iload 5, 2) := by decide +kernel
theorem dM_read_80 : decode bM_read 80 = .ok (.iload_n 3, 1) := by decide +kernel
theorem dM_read_81 : decode bM_read 81 = .ok (.if_icmp .ge 69, 3) := by decide +kernel
theorem dM_read_84 : decode bM_read 84 = .ok (.aload_n 0, 1) := by decide +kernel
theorem dM_read_85 : decode bM_read 85 = .ok (.aload_n 0, 1) := by decide +kernel
theorem dM_read_86 : decode bM_read 86 = .ok (.getfield 22, 3) := by decide +kernel
theorem dM_read_89 : decode bM_read 89 = .ok (.sipush 256, 3) := by decide +kernel
theorem dM_read_92 : decode bM_read 92 = .ok (.aload_n 0, 1) := by decide +kernel
theorem dM_read_93 : decode bM_read 93 = .ok (.getfield 90, 3) := by decide +kernel
theorem dM_read_96 : decode bM_read 96 = .ok (.imul, 1) := by decide +kernel
theorem dM_read_97 : decode bM_read 97 = .ok (.aload_n 0, 1) := by decide +kernel
theorem dM_read_98 : decode bM_read 98 = .ok (.getfield 7, 3) := by decide +kernel
theorem dM_read_101 : decode bM_read 101 = .ok (.sipush 1000, 3) := by decide +kernel
theorem dM_read_104 : decode bM_read 104 = .ok (.iload_n 1, 1) := by decide +kernel
theorem dM_read_105 : decode bM_read 105 = .ok (.imul, 1) := by decide +kernel
theorem dM_read_106 : decode bM_read 106 = .ok (.iload 5, 2) := by decide +kernel
theorem dM_read_108 : decode bM_read 108 = .ok (.iadd, 1) := by decide +kernel
theorem dM_read_109 : decode bM_read 109 = .ok (.iaload, 1) := by decide +kernel
theorem dM_read_110 : decode bM_read 110 = .ok (.iadd, 1) := by decide +kernel
theorem dM_read_111 : decode bM_read 111 = .ok (.iaload, 1) := by decide +kernel
theorem dM_read_112 : decode bM_read 112 = .ok (.putfield 90, 3) := by decide +kernel
theorem dM_read_115 : decode bM_read 115 = .ok (.aload_n 0, 1) := by decide +kernel
theorem dM_read_116 : decode bM_read 116 = .ok (.aload_n 0, 1) := by decide +kernel
theorem dM_read_117 : decode bM_read 117 = .ok (.getfield 25, 3) := by decide +kernel
theorem dM_read_120 : decode bM_read 120 = .ok (.aload_n 0, 1) := by decide +kernel
theorem dM_read_121 : decode bM_read 121 = .ok (.getfield 90, 3) := by decide +kernel
theorem dM_read_124 : decode bM_read 124 = .ok (.baload, 1) := by decide +kernel
theorem dM_read_125 : decode bM_read 125 = .ok (.ifCond .eq 12, 3) := by decide +kernel
theorem dM_read_128 : decode bM_read 128 = .ok (.aload_n 0, 1) := by decide +kernel
theorem dM_read_129 : decode bM_read 129 = .ok (.getfield 93, 3) := by decide +kernel
theorem dM_read_132 : decode bM_read 132 = .ok (.iconst 1, 1) := by decide +kernel
theorem dM_read_133 : decode bM_read 133 = .ok (.iadd, 1) := by decide +kernel
theorem dM_read_134 : decode bM_read 134 = .ok (.goto 7, 3) := by decide +kernel
theorem dM_read_137 : decode bM_read 137 = .ok (.aload_n 0, 1) := by decide +kernel
theorem dM_read_138 : decode bM_read 138 = .ok (.getfield 93, 3) := by decide +kernel
theorem dM_read_141 : decode bM_read 141 = .ok (.putfield 93, 3) := by decide +kernel
theorem dM_read_144 : decode bM_read 144 = .ok (.iinc 5 1, 3) := by decide +kernel
theorem dM_read_147 : decode bM_read 147 = .ok (.goto (-69), 3) := by decide +kernel
theorem dM_read_150 : decode bM_read 150 = .ok (.return_, 1) := by decide +kernel
theorem dM_run_0 : decode bM_run 0 = .ok (.aload_n 0, 1) := by decide +kernel
theorem dM_run_1 : decode bM_run 1 = .ok (.iload_n 1, 1) := by decide +kernel
theorem dM_run_2 : decode bM_run 2 = .ok (.iload_n 2, 1) := by decide +kernel
theorem dM_run_3 : decode bM_run 3 = .ok (.iload_n 3, 1) := by decide +kernel
theorem dM_run_4 : decode bM_run 4 = .ok (.iload 4, 2) := by decide +kernel
theorem dM_run_6 : decode bM_run 6 = .ok (.invokevirtual 96, 3) := by decide +kernel
theorem dM_run_9 : decode bM_run 9 = .ok (.aload_n 0, 1) := by decide +kernel
theorem dM_run_10 : decode bM_run 10 = .ok (.getfield 29, 3) := by decide +kernel
theorem dM_run_13 : decode bM_run 13 = .ok (.ifCond .le 7, 3) := by decide +kernel
theorem dM_run_16 : decode bM_run 16 = .ok (.iconst 0, 1) := by decide +kernel
theorem dM_run_17 : decode bM_run 17 = .ok (.goto 7, 3) := by decide +kernel
theorem dM_run_20 : decode bM_run 20 = .ok (.aload_n 0, 1) := by decide +kernel
theorem dM_run_21 : decode bM_run 21 = .ok (.getfield 90, 3) := by decide +kernel
theorem dM_run_24 : decode bM_run 24 = .ok (.ireturn, 1) := by decide +kernel
theorem dM_accepted_0 : decode bM_accepted 0 = .ok (.aload_n 0, 1) := by decide +kernel
theorem dM_accepted_1 : decode bM_accepted 1 = .ok (.iload_n 1, 1) := by decide +kernel
theorem dM_accepted_2 : decode bM_accepted 2 = .ok (.iload_n 2, 1) := by decide +kernel
theorem dM_accepted_3 : decode bM_accepted 3 = .ok (.iload_n 3, 1) := by decide +kernel
theorem dM_accepted_4 : decode bM_accepted 4 = .ok (.iload 4, 2) := by decide +kernel
theorem dM_accepted_6 : decode bM_accepted 6 = .ok (.invokevirtual 96, 3) := by decide +kernel
theorem dM_accepted_9 : decode bM_accepted 9 = .ok (.aload_n 0, 1) := by decide +kernel
theorem dM_accepted_10 : decode bM_accepted 10 = .ok (.getfield 29, 3) := by decide +kernel
theorem dM_accepted_13 : decode bM_accepted 13 = .ok (.ifCond .le 7, 3) := by decide +kernel
theorem dM_accepted_16 : decode bM_accepted 16 = .ok (.iconst 0, 1) := by decide +kernel
theorem dM_accepted_17 : decode bM_accepted 17 = .ok (.goto 7, 3) := by decide +kernel
theorem dM_accepted_20 : decode bM_accepted 20 = .ok (.aload_n 0, 1) := by decide +kernel
theorem dM_accepted_21 : decode bM_accepted 21 = .ok (.getfield 93, 3) := by decide +kernel
theorem dM_accepted_24 : decode bM_accepted 24 = .ok (.ireturn, 1) := by decide +kernel
