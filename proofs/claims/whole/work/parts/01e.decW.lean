theorem dL_write_0 : decode bL_write 0 = .ok (.aload 5, 2) := by decide +kernel
theorem dL_write_2 : decode bL_write 2 = .ok (.iconst 0, 1) := by decide +kernel
theorem dL_write_3 : decode bL_write 3 = .ok (.aload_n 0, 1) := by decide +kernel
theorem dL_write_4 : decode bL_write 4 = .ok (.iload_n 1, 1) := by decide +kernel
theorem dL_write_5 : decode bL_write 5 = .ok (.lload_n 2, 1) := by decide +kernel
theorem dL_write_6 : decode bL_write 6 = .ok (.iload 4, 2) := by decide +kernel
theorem dL_write_8 : decode bL_write 8 = .ok (.invokevirtual 7, 3) := by decide +kernel
theorem dL_write_11 : decode bL_write 11 = .ok (.i2l, 1) := by decide +kernel
theorem dL_write_12 : decode bL_write 12 = .ok (.lastore, 1) := by decide +kernel
theorem dL_write_13 : decode bL_write 13 = .ok (.goto 11, 3) := by decide +kernel
theorem dL_write_16 : decode bL_write 16 = .ok (.astore 6, 2) := by decide +kernel
theorem dL_write_18 : decode bL_write 18 = .ok (.iconst 1, 1) := by decide +kernel
theorem dL_write_19 : decode bL_write 19 = .ok (.ireturn, 1) := by decide +kernel
theorem dL_write_20 : decode bL_write 20 = .ok (.astore 6, 2) := by decide +kernel
theorem dL_write_22 : decode bL_write 22 = .ok (.iconst 2, 1) := by decide +kernel
theorem dL_write_23 : decode bL_write 23 = .ok (.ireturn, 1) := by decide +kernel
theorem dL_write_24 : decode bL_write 24 = .ok (.iconst 0, 1) := by decide +kernel
theorem dL_write_25 : decode bL_write 25 = .ok (.ireturn, 1) := by decide +kernel
theorem dL_length_0 : decode bL_length 0 = .ok (.aload_n 2, 1) := by decide +kernel
theorem dL_length_1 : decode bL_length 1 = .ok (.iconst 0, 1) := by decide +kernel
theorem dL_length_2 : decode bL_length 2 = .ok (.aload_n 0, 1) := by decide +kernel
theorem dL_length_3 : decode bL_length 3 = .ok (.iload_n 1, 1) := by decide +kernel
theorem dL_length_4 : decode bL_length 4 = .ok (.invokevirtual 17, 3) := by decide +kernel
theorem dL_length_7 : decode bL_length 7 = .ok (.i2l, 1) := by decide +kernel
theorem dL_length_8 : decode bL_length 8 = .ok (.lastore, 1) := by decide +kernel
theorem dL_length_9 : decode bL_length 9 = .ok (.goto 6, 3) := by decide +kernel
theorem dL_length_12 : decode bL_length 12 = .ok (.astore_n 3, 1) := by decide +kernel
theorem dL_length_13 : decode bL_length 13 = .ok (.iconst 1, 1) := by decide +kernel
theorem dL_length_14 : decode bL_length 14 = .ok (.ireturn, 1) := by decide +kernel
theorem dL_length_15 : decode bL_length 15 = .ok (.iconst 0, 1) := by decide +kernel
theorem dL_length_16 : decode bL_length 16 = .ok (.ireturn, 1) := by decide +kernel
theorem dL_byteAt_0 : decode bL_byteAt 0 = .ok (.aload_n 3, 1) := by decide +kernel
theorem dL_byteAt_1 : decode bL_byteAt 1 = .ok (.iconst 0, 1) := by decide +kernel
theorem dL_byteAt_2 : decode bL_byteAt 2 = .ok (.aload_n 0, 1) := by decide +kernel
theorem dL_byteAt_3 : decode bL_byteAt 3 = .ok (.iload_n 1, 1) := by decide +kernel
theorem dL_byteAt_4 : decode bL_byteAt 4 = .ok (.iload_n 2, 1) := by decide +kernel
theorem dL_byteAt_5 : decode bL_byteAt 5 = .ok (.invokevirtual 21, 3) := by decide +kernel
theorem dL_byteAt_8 : decode bL_byteAt 8 = .ok (.i2l, 1) := by decide +kernel
theorem dL_byteAt_9 : decode bL_byteAt 9 = .ok (.lastore, 1) := by decide +kernel
theorem dL_byteAt_10 : decode bL_byteAt 10 = .ok (.goto 11, 3) := by decide +kernel
theorem dL_byteAt_13 : decode bL_byteAt 13 = .ok (.astore 4, 2) := by decide +kernel
theorem dL_byteAt_15 : decode bL_byteAt 15 = .ok (.iconst 1, 1) := by decide +kernel
theorem dL_byteAt_16 : decode bL_byteAt 16 = .ok (.ireturn, 1) := by decide +kernel
theorem dL_byteAt_17 : decode bL_byteAt 17 = .ok (.astore 4, 2) := by decide +kernel
theorem dL_byteAt_19 : decode bL_byteAt 19 = .ok (.iconst 2, 1) := by decide +kernel
theorem dL_byteAt_20 : decode bL_byteAt 20 = .ok (.ireturn, 1) := by decide +kernel
theorem dL_byteAt_21 : decode bL_byteAt 21 = .ok (.iconst 0, 1) := by decide +kernel
theorem dL_byteAt_22 : decode bL_byteAt 22 = .ok (.ireturn, 1) := by decide +kernel
theorem dL_copy_0 : decode bL_copy 0 = .ok (.aload 5, 2) := by decide +kernel
theorem dL_copy_2 : decode bL_copy 2 = .ok (.iconst 0, 1) := by decide +kernel
theorem dL_copy_3 : decode bL_copy 3 = .ok (.aload_n 0, 1) := by decide +kernel
theorem dL_copy_4 : decode bL_copy 4 = .ok (.iload_n 1, 1) := by decide +kernel
theorem dL_copy_5 : decode bL_copy 5 = .ok (.iload_n 2, 1) := by decide +kernel
theorem dL_copy_6 : decode bL_copy 6 = .ok (.iload_n 3, 1) := by decide +kernel
theorem dL_copy_7 : decode bL_copy 7 = .ok (.iload 4, 2) := by decide +kernel
theorem dL_copy_9 : decode bL_copy 9 = .ok (.invokevirtual 27, 3) := by decide +kernel
theorem dL_copy_12 : decode bL_copy 12 = .ok (.i2l, 1) := by decide +kernel
theorem dL_copy_13 : decode bL_copy 13 = .ok (.lastore, 1) := by decide +kernel
theorem dL_copy_14 : decode bL_copy 14 = .ok (.goto 11, 3) := by decide +kernel
theorem dL_copy_17 : decode bL_copy 17 = .ok (.astore 6, 2) := by decide +kernel
theorem dL_copy_19 : decode bL_copy 19 = .ok (.iconst 1, 1) := by decide +kernel
theorem dL_copy_20 : decode bL_copy 20 = .ok (.ireturn, 1) := by decide +kernel
theorem dL_copy_21 : decode bL_copy 21 = .ok (.astore 6, 2) := by decide +kernel
theorem dL_copy_23 : decode bL_copy 23 = .ok (.iconst 2, 1) := by decide +kernel
theorem dL_copy_24 : decode bL_copy 24 = .ok (.ireturn, 1) := by decide +kernel
theorem dL_copy_25 : decode bL_copy 25 = .ok (.iconst 0, 1) := by decide +kernel
theorem dL_copy_26 : decode bL_copy 26 = .ok (.ireturn, 1) := by decide +kernel
theorem dL_join_0 : decode bL_join 0 = .ok (.aload 4, 2) := by decide +kernel
theorem dL_join_2 : decode bL_join 2 = .ok (.iconst 0, 1) := by decide +kernel
theorem dL_join_3 : decode bL_join 3 = .ok (.aload_n 0, 1) := by decide +kernel
theorem dL_join_4 : decode bL_join 4 = .ok (.iload_n 1, 1) := by decide +kernel
theorem dL_join_5 : decode bL_join 5 = .ok (.iload_n 2, 1) := by decide +kernel
theorem dL_join_6 : decode bL_join 6 = .ok (.iload_n 3, 1) := by decide +kernel
theorem dL_join_7 : decode bL_join 7 = .ok (.invokevirtual 31, 3) := by decide +kernel
theorem dL_join_10 : decode bL_join 10 = .ok (.i2l, 1) := by decide +kernel
theorem dL_join_11 : decode bL_join 11 = .ok (.lastore, 1) := by decide +kernel
theorem dL_join_12 : decode bL_join 12 = .ok (.goto 11, 3) := by decide +kernel
theorem dL_join_15 : decode bL_join 15 = .ok (.astore 5, 2) := by decide +kernel
theorem dL_join_17 : decode bL_join 17 = .ok (.iconst 1, 1) := by decide +kernel
theorem dL_join_18 : decode bL_join 18 = .ok (.ireturn, 1) := by decide +kernel
theorem dL_join_19 : decode bL_join 19 = .ok (.astore 5, 2) := by decide +kernel
theorem dL_join_21 : decode bL_join 21 = .ok (.iconst 2, 1) := by decide +kernel
theorem dL_join_22 : decode bL_join 22 = .ok (.ireturn, 1) := by decide +kernel
theorem dL_join_23 : decode bL_join 23 = .ok (.iconst 0, 1) := by decide +kernel
theorem dL_join_24 : decode bL_join 24 = .ok (.ireturn, 1) := by decide +kernel
theorem dL_insert_0 : decode bL_insert 0 = .ok (.aload 6, 2) := by decide +kernel
theorem dL_insert_2 : decode bL_insert 2 = .ok (.iconst 0, 1) := by decide +kernel
theorem dL_insert_3 : decode bL_insert 3 = .ok (.aload_n 0, 1) := by decide +kernel
theorem dL_insert_4 : decode bL_insert 4 = .ok (.iload_n 1, 1) := by decide +kernel
theorem dL_insert_5 : decode bL_insert 5 = .ok (.iload_n 2, 1) := by decide +kernel
theorem dL_insert_6 : decode bL_insert 6 = .ok (.iload_n 3, 1) := by decide +kernel
theorem dL_insert_7 : decode bL_insert 7 = .ok (.iload 4, 2) := by decide +kernel
theorem dL_insert_9 : decode bL_insert 9 = .ok (.iload 5, 2) := by decide +kernel
theorem dL_insert_11 : decode bL_insert 11 = .ok (.invokevirtual 35, 3) := by decide +kernel
theorem dL_insert_14 : decode bL_insert 14 = .ok (.i2l, 1) := by decide +kernel
theorem dL_insert_15 : decode bL_insert 15 = .ok (.lastore, 1) := by decide +kernel
theorem dL_insert_16 : decode bL_insert 16 = .ok (.goto 15, 3) := by decide +kernel
theorem dL_insert_19 : decode bL_insert 19 = .ok (.astore 7, 2) := by decide +kernel
theorem dL_insert_21 : decode bL_insert 21 = .ok (.iconst 1, 1) := by decide +kernel
theorem dL_insert_22 : decode bL_insert 22 = .ok (.ireturn, 1) := by decide +kernel
theorem dL_insert_23 : decode bL_insert 23 = .ok (.astore 7, 2) := by decide +kernel
theorem dL_insert_25 : decode bL_insert 25 = .ok (.iconst 2, 1) := by decide +kernel
theorem dL_insert_26 : decode bL_insert 26 = .ok (.ireturn, 1) := by decide +kernel
theorem dL_insert_27 : decode bL_insert 27 = .ok (.astore 7, 2) := by decide +kernel
theorem dL_insert_29 : decode bL_insert 29 = .ok (.iconst 3, 1) := by decide +kernel
theorem dL_insert_30 : decode bL_insert 30 = .ok (.ireturn, 1) := by decide +kernel
theorem dL_insert_31 : decode bL_insert 31 = .ok (.iconst 0, 1) := by decide +kernel
theorem dL_insert_32 : decode bL_insert 32 = .ok (.ireturn, 1) := by decide +kernel
theorem dL_delete_0 : decode bL_delete 0 = .ok (.aload 4, 2) := by decide +kernel
theorem dL_delete_2 : decode bL_delete 2 = .ok (.iconst 0, 1) := by decide +kernel
theorem dL_delete_3 : decode bL_delete 3 = .ok (.aload_n 0, 1) := by decide +kernel
theorem dL_delete_4 : decode bL_delete 4 = .ok (.iload_n 1, 1) := by decide +kernel
theorem dL_delete_5 : decode bL_delete 5 = .ok (.iload_n 2, 1) := by decide +kernel
theorem dL_delete_6 : decode bL_delete 6 = .ok (.iload_n 3, 1) := by decide +kernel
theorem dL_delete_7 : decode bL_delete 7 = .ok (.invokevirtual 39, 3) := by decide +kernel
theorem dL_delete_10 : decode bL_delete 10 = .ok (.i2l, 1) := by decide +kernel
theorem dL_delete_11 : decode bL_delete 11 = .ok (.lastore, 1) := by decide +kernel
theorem dL_delete_12 : decode bL_delete 12 = .ok (.goto 11, 3) := by decide +kernel
theorem dL_delete_15 : decode bL_delete 15 = .ok (.astore 5, 2) := by decide +kernel
theorem dL_delete_17 : decode bL_delete 17 = .ok (.iconst 1, 1) := by decide +kernel
theorem dL_delete_18 : decode bL_delete 18 = .ok (.ireturn, 1) := by decide +kernel
theorem dL_delete_19 : decode bL_delete 19 = .ok (.astore 5, 2) := by decide +kernel
theorem dL_delete_21 : decode bL_delete 21 = .ok (.iconst 2, 1) := by decide +kernel
theorem dL_delete_22 : decode bL_delete 22 = .ok (.ireturn, 1) := by decide +kernel
theorem dL_delete_23 : decode bL_delete 23 = .ok (.iconst 0, 1) := by decide +kernel
theorem dL_delete_24 : decode bL_delete 24 = .ok (.ireturn, 1) := by decide +kernel
theorem dL_move_0 : decode bL_move 0 = .ok (.aload 5, 2) := by decide +kernel
theorem dL_move_2 : decode bL_move 2 = .ok (.iconst 0, 1) := by decide +kernel
theorem dL_move_3 : decode bL_move 3 = .ok (.aload_n 0, 1) := by decide +kernel
theorem dL_move_4 : decode bL_move 4 = .ok (.iload_n 1, 1) := by decide +kernel
theorem dL_move_5 : decode bL_move 5 = .ok (.iload_n 2, 1) := by decide +kernel
theorem dL_move_6 : decode bL_move 6 = .ok (.iload_n 3, 1) := by decide +kernel
theorem dL_move_7 : decode bL_move 7 = .ok (.iload 4, 2) := by decide +kernel
theorem dL_move_9 : decode bL_move 9 = .ok (.invokevirtual 42, 3) := by decide +kernel
theorem dL_move_12 : decode bL_move 12 = .ok (.i2l, 1) := by decide +kernel
theorem dL_move_13 : decode bL_move 13 = .ok (.lastore, 1) := by decide +kernel
theorem dL_move_14 : decode bL_move 14 = .ok (.goto 11, 3) := by decide +kernel
theorem dL_move_17 : decode bL_move 17 = .ok (.astore 6, 2) := by decide +kernel
theorem dL_move_19 : decode bL_move 19 = .ok (.iconst 1, 1) := by decide +kernel
theorem dL_move_20 : decode bL_move 20 = .ok (.ireturn, 1) := by decide +kernel
theorem dL_move_21 : decode bL_move 21 = .ok (.astore 6, 2) := by decide +kernel
theorem dL_move_23 : decode bL_move 23 = .ok (.iconst 2, 1) := by decide +kernel
theorem dL_move_24 : decode bL_move 24 = .ok (.ireturn, 1) := by decide +kernel
theorem dL_move_25 : decode bL_move 25 = .ok (.iconst 0, 1) := by decide +kernel
theorem dL_move_26 : decode bL_move 26 = .ok (.ireturn, 1) := by decide +kernel
theorem dL_repeat_0 : decode bL_repeat 0 = .ok (.aload 5, 2) := by decide +kernel
theorem dL_repeat_2 : decode bL_repeat 2 = .ok (.iconst 0, 1) := by decide +kernel
theorem dL_repeat_3 : decode bL_repeat 3 = .ok (.aload_n 0, 1) := by decide +kernel
theorem dL_repeat_4 : decode bL_repeat 4 = .ok (.iload_n 1, 1) := by decide +kernel
theorem dL_repeat_5 : decode bL_repeat 5 = .ok (.iload_n 2, 1) := by decide +kernel
theorem dL_repeat_6 : decode bL_repeat 6 = .ok (.iload_n 3, 1) := by decide +kernel
theorem dL_repeat_7 : decode bL_repeat 7 = .ok (.iload 4, 2) := by decide +kernel
theorem dL_repeat_9 : decode bL_repeat 9 = .ok (.invokevirtual 45, 3) := by decide +kernel
theorem dL_repeat_12 : decode bL_repeat 12 = .ok (.i2l, 1) := by decide +kernel
theorem dL_repeat_13 : decode bL_repeat 13 = .ok (.lastore, 1) := by decide +kernel
theorem dL_repeat_14 : decode bL_repeat 14 = .ok (.goto 15, 3) := by decide +kernel
theorem dL_repeat_17 : decode bL_repeat 17 = .ok (.astore 6, 2) := by decide +kernel
theorem dL_repeat_19 : decode bL_repeat 19 = .ok (.iconst 1, 1) := by decide +kernel
theorem dL_repeat_20 : decode bL_repeat 20 = .ok (.ireturn, 1) := by decide +kernel
theorem dL_repeat_21 : decode bL_repeat 21 = .ok (.astore 6, 2) := by decide +kernel
theorem dL_repeat_23 : decode bL_repeat 23 = .ok (.iconst 2, 1) := by decide +kernel
theorem dL_repeat_24 : decode bL_repeat 24 = .ok (.ireturn, 1) := by decide +kernel
theorem dL_repeat_25 : decode bL_repeat 25 = .ok (.astore 6, 2) := by decide +kernel
theorem dL_repeat_27 : decode bL_repeat 27 = .ok (.iconst 3, 1) := by decide +kernel
theorem dL_repeat_28 : decode bL_repeat 28 = .ok (.ireturn, 1) := by decide +kernel
theorem dL_repeat_29 : decode bL_repeat 29 = .ok (.iconst 0, 1) := by decide +kernel
theorem dL_repeat_30 : decode bL_repeat 30 = .ok (.ireturn, 1) := by decide +kernel
theorem dL_same_0 : decode bL_same 0 = .ok (.aload 6, 2) := by decide +kernel
theorem dL_same_2 : decode bL_same 2 = .ok (.iconst 0, 1) := by decide +kernel
theorem dL_same_3 : decode bL_same 3 = .ok (.aload_n 0, 1) := by decide +kernel
theorem dL_same_4 : decode bL_same 4 = .ok (.iload_n 1, 1) := by decide +kernel
theorem dL_same_5 : decode bL_same 5 = .ok (.iload_n 2, 1) := by decide +kernel
theorem dL_same_6 : decode bL_same 6 = .ok (.iload_n 3, 1) := by decide +kernel
theorem dL_same_7 : decode bL_same 7 = .ok (.iload 4, 2) := by decide +kernel
theorem dL_same_9 : decode bL_same 9 = .ok (.iload 5, 2) := by decide +kernel
theorem dL_same_11 : decode bL_same 11 = .ok (.invokevirtual 48, 3) := by decide +kernel
theorem dL_same_14 : decode bL_same 14 = .ok (.ifCond .eq 7, 3) := by decide +kernel
theorem dL_same_17 : decode bL_same 17 = .ok (.lconst 1, 1) := by decide +kernel
theorem dL_same_18 : decode bL_same 18 = .ok (.goto 4, 3) := by decide +kernel
theorem dL_same_21 : decode bL_same 21 = .ok (.lconst 0, 1) := by decide +kernel
theorem dL_same_22 : decode bL_same 22 = .ok (.lastore, 1) := by decide +kernel
theorem dL_same_23 : decode bL_same 23 = .ok (.goto 11, 3) := by decide +kernel
theorem dL_same_26 : decode bL_same 26 = .ok (.astore 7, 2) := by decide +kernel
theorem dL_same_28 : decode bL_same 28 = .ok (.iconst 1, 1) := by decide +kernel
theorem dL_same_29 : decode bL_same 29 = .ok (.ireturn, 1) := by decide +kernel
theorem dL_same_30 : decode bL_same 30 = .ok (.astore 7, 2) := by decide +kernel
theorem dL_same_32 : decode bL_same 32 = .ok (.iconst 2, 1) := by decide +kernel
theorem dL_same_33 : decode bL_same 33 = .ok (.ireturn, 1) := by decide +kernel
theorem dL_same_34 : decode bL_same 34 = .ok (.iconst 0, 1) := by decide +kernel
theorem dL_same_35 : decode bL_same 35 = .ok (.ireturn, 1) := by decide +kernel
theorem dL_prefix_0 : decode bL_prefix 0 = .ok (.aload 5, 2) := by decide +kernel
theorem dL_prefix_2 : decode bL_prefix 2 = .ok (.iconst 0, 1) := by decide +kernel
theorem dL_prefix_3 : decode bL_prefix 3 = .ok (.aload_n 0, 1) := by decide +kernel
theorem dL_prefix_4 : decode bL_prefix 4 = .ok (.iload_n 1, 1) := by decide +kernel
theorem dL_prefix_5 : decode bL_prefix 5 = .ok (.iload_n 2, 1) := by decide +kernel
theorem dL_prefix_6 : decode bL_prefix 6 = .ok (.iload_n 3, 1) := by decide +kernel
theorem dL_prefix_7 : decode bL_prefix 7 = .ok (.iload 4, 2) := by decide +kernel
theorem dL_prefix_9 : decode bL_prefix 9 = .ok (.invokevirtual 52, 3) := by decide +kernel
theorem dL_prefix_12 : decode bL_prefix 12 = .ok (.i2l, 1) := by decide +kernel
theorem dL_prefix_13 : decode bL_prefix 13 = .ok (.lastore, 1) := by decide +kernel
theorem dL_prefix_14 : decode bL_prefix 14 = .ok (.goto 11, 3) := by decide +kernel
theorem dL_prefix_17 : decode bL_prefix 17 = .ok (.astore 6, 2) := by decide +kernel
theorem dL_prefix_19 : decode bL_prefix 19 = .ok (.iconst 1, 1) := by decide +kernel
theorem dL_prefix_20 : decode bL_prefix 20 = .ok (.ireturn, 1) := by decide +kernel
theorem dL_prefix_21 : decode bL_prefix 21 = .ok (.astore 6, 2) := by decide +kernel
theorem dL_prefix_23 : decode bL_prefix 23 = .ok (.iconst 2, 1) := by decide +kernel
theorem dL_prefix_24 : decode bL_prefix 24 = .ok (.ireturn, 1) := by decide +kernel
theorem dL_prefix_25 : decode bL_prefix 25 = .ok (.iconst 0, 1) := by decide +kernel
theorem dL_prefix_26 : decode bL_prefix 26 = .ok (.ireturn, 1) := by decide +kernel
theorem dL_order_0 : decode bL_order 0 = .ok (.aload 5, 2) := by decide +kernel
theorem dL_order_2 : decode bL_order 2 = .ok (.iconst 0, 1) := by decide +kernel
theorem dL_order_3 : decode bL_order 3 = .ok (.aload_n 0, 1) := by decide +kernel
theorem dL_order_4 : decode bL_order 4 = .ok (.iload_n 1, 1) := by decide +kernel
theorem dL_order_5 : decode bL_order 5 = .ok (.iload_n 2, 1) := by decide +kernel
theorem dL_order_6 : decode bL_order 6 = .ok (.iload_n 3, 1) := by decide +kernel
theorem dL_order_7 : decode bL_order 7 = .ok (.iload 4, 2) := by decide +kernel
theorem dL_order_9 : decode bL_order 9 = .ok (.invokevirtual 55, 3) := by decide +kernel
theorem dL_order_12 : decode bL_order 12 = .ok (.i2l, 1) := by decide +kernel
theorem dL_order_13 : decode bL_order 13 = .ok (.lastore, 1) := by decide +kernel
theorem dL_order_14 : decode bL_order 14 = .ok (.goto 11, 3) := by decide +kernel
theorem dL_order_17 : decode bL_order 17 = .ok (.astore 6, 2) := by decide +kernel
theorem dL_order_19 : decode bL_order 19 = .ok (.iconst 1, 1) := by decide +kernel
theorem dL_order_20 : decode bL_order 20 = .ok (.ireturn, 1) := by decide +kernel
theorem dL_order_21 : decode bL_order 21 = .ok (.astore 6, 2) := by decide +kernel
theorem dL_order_23 : decode bL_order 23 = .ok (.iconst 2, 1) := by decide +kernel
theorem dL_order_24 : decode bL_order 24 = .ok (.ireturn, 1) := by decide +kernel
theorem dL_order_25 : decode bL_order 25 = .ok (.iconst 0, 1) := by decide +kernel
theorem dL_order_26 : decode bL_order 26 = .ok (.ireturn, 1) := by decide +kernel
theorem dL_name_0 : decode bL_name 0 = .ok (.aload 4, 2) := by decide +kernel
theorem dL_name_2 : decode bL_name 2 = .ok (.iconst 0, 1) := by decide +kernel
theorem dL_name_3 : decode bL_name 3 = .ok (.aload_n 0, 1) := by decide +kernel
theorem dL_name_4 : decode bL_name 4 = .ok (.iload_n 1, 1) := by decide +kernel
theorem dL_name_5 : decode bL_name 5 = .ok (.iload_n 2, 1) := by decide +kernel
theorem dL_name_6 : decode bL_name 6 = .ok (.iload_n 3, 1) := by decide +kernel
theorem dL_name_7 : decode bL_name 7 = .ok (.invokevirtual 58, 3) := by decide +kernel
theorem dL_name_10 : decode bL_name 10 = .ok (.lastore, 1) := by decide +kernel
theorem dL_name_11 : decode bL_name 11 = .ok (.goto 11, 3) := by decide +kernel
theorem dL_name_14 : decode bL_name 14 = .ok (.astore 5, 2) := by decide +kernel
theorem dL_name_16 : decode bL_name 16 = .ok (.iconst 1, 1) := by decide +kernel
theorem dL_name_17 : decode bL_name 17 = .ok (.ireturn, 1) := by decide +kernel
theorem dL_name_18 : decode bL_name 18 = .ok (.astore 5, 2) := by decide +kernel
theorem dL_name_20 : decode bL_name 20 = .ok (.iconst 2, 1) := by decide +kernel
theorem dL_name_21 : decode bL_name 21 = .ok (.ireturn, 1) := by decide +kernel
theorem dL_name_22 : decode bL_name 22 = .ok (.iconst 0, 1) := by decide +kernel
theorem dL_name_23 : decode bL_name 23 = .ok (.ireturn, 1) := by decide +kernel
theorem dL_pattern_0 : decode bL_pattern 0 = .ok (.aload_n 0, 1) := by decide +kernel
theorem dL_pattern_1 : decode bL_pattern 1 = .ok (.lload_n 1, 1) := by decide +kernel
theorem dL_pattern_2 : decode bL_pattern 2 = .ok (.lload_n 3, 1) := by decide +kernel
theorem dL_pattern_3 : decode bL_pattern 3 = .ok (.iload 5, 2) := by decide +kernel
theorem dL_pattern_5 : decode bL_pattern 5 = .ok (.invokevirtual 62, 3) := by decide +kernel
theorem dL_pattern_8 : decode bL_pattern 8 = .ok (.goto 7, 3) := by decide +kernel
theorem dL_pattern_11 : decode bL_pattern 11 = .ok (.astore 6, 2) := by decide +kernel
theorem dL_pattern_13 : decode bL_pattern 13 = .ok (.iconst 1, 1) := by decide +kernel
theorem dL_pattern_14 : decode bL_pattern 14 = .ok (.ireturn, 1) := by decide +kernel
theorem dL_pattern_15 : decode bL_pattern 15 = .ok (.iconst 0, 1) := by decide +kernel
theorem dL_pattern_16 : decode bL_pattern 16 = .ok (.ireturn, 1) := by decide +kernel
theorem dL_count_0 : decode bL_count 0 = .ok (.aload 4, 2) := by decide +kernel
theorem dL_count_2 : decode bL_count 2 = .ok (.iconst 0, 1) := by decide +kernel
theorem dL_count_3 : decode bL_count 3 = .ok (.aload_n 0, 1) := by decide +kernel
theorem dL_count_4 : decode bL_count 4 = .ok (.iload_n 1, 1) := by decide +kernel
theorem dL_count_5 : decode bL_count 5 = .ok (.iload_n 2, 1) := by decide +kernel
theorem dL_count_6 : decode bL_count 6 = .ok (.iload_n 3, 1) := by decide +kernel
theorem dL_count_7 : decode bL_count 7 = .ok (.invokevirtual 66, 3) := by decide +kernel
theorem dL_count_10 : decode bL_count 10 = .ok (.i2l, 1) := by decide +kernel
theorem dL_count_11 : decode bL_count 11 = .ok (.lastore, 1) := by decide +kernel
theorem dL_count_12 : decode bL_count 12 = .ok (.goto 15, 3) := by decide +kernel
theorem dL_count_15 : decode bL_count 15 = .ok (.astore 5, 2) := by decide +kernel
theorem dL_count_17 : decode bL_count 17 = .ok (.iconst 1, 1) := by decide +kernel
theorem dL_count_18 : decode bL_count 18 = .ok (.ireturn, 1) := by decide +kernel
theorem dL_count_19 : decode bL_count 19 = .ok (.astore 5, 2) := by decide +kernel
theorem dL_count_21 : decode bL_count 21 = .ok (.iconst 2, 1) := by decide +kernel
theorem dL_count_22 : decode bL_count 22 = .ok (.ireturn, 1) := by decide +kernel
theorem dL_count_23 : decode bL_count 23 = .ok (.astore 5, 2) := by decide +kernel
theorem dL_count_25 : decode bL_count 25 = .ok (.iconst 3, 1) := by decide +kernel
theorem dL_count_26 : decode bL_count 26 = .ok (.ireturn, 1) := by decide +kernel
theorem dL_count_27 : decode bL_count 27 = .ok (.iconst 0, 1) := by decide +kernel
theorem dL_count_28 : decode bL_count 28 = .ok (.ireturn, 1) := by decide +kernel
theorem dL_find_0 : decode bL_find 0 = .ok (.aload 4, 2) := by decide +kernel
theorem dL_find_2 : decode bL_find 2 = .ok (.iconst 0, 1) := by decide +kernel
theorem dL_find_3 : decode bL_find 3 = .ok (.aload_n 0, 1) := by decide +kernel
theorem dL_find_4 : decode bL_find 4 = .ok (.iload_n 1, 1) := by decide +kernel
theorem dL_find_5 : decode bL_find 5 = .ok (.iload_n 2, 1) := by decide +kernel
theorem dL_find_6 : decode bL_find 6 = .ok (.iload_n 3, 1) := by decide +kernel
theorem dL_find_7 : decode bL_find 7 = .ok (.invokevirtual 71, 3) := by decide +kernel
theorem dL_find_10 : decode bL_find 10 = .ok (.i2l, 1) := by decide +kernel
theorem dL_find_11 : decode bL_find 11 = .ok (.lastore, 1) := by decide +kernel
theorem dL_find_12 : decode bL_find 12 = .ok (.goto 15, 3) := by decide +kernel
theorem dL_find_15 : decode bL_find 15 = .ok (.astore 5, 2) := by decide +kernel
theorem dL_find_17 : decode bL_find 17 = .ok (.iconst 1, 1) := by decide +kernel
theorem dL_find_18 : decode bL_find 18 = .ok (.ireturn, 1) := by decide +kernel
theorem dL_find_19 : decode bL_find 19 = .ok (.astore 5, 2) := by decide +kernel
theorem dL_find_21 : decode bL_find 21 = .ok (.iconst 2, 1) := by decide +kernel
theorem dL_find_22 : decode bL_find 22 = .ok (.ireturn, 1) := by decide +kernel
theorem dL_find_23 : decode bL_find 23 = .ok (.astore 5, 2) := by decide +kernel
theorem dL_find_25 : decode bL_find 25 = .ok (.iconst 3, 1) := by decide +kernel
theorem dL_find_26 : decode bL_find 26 = .ok (.ireturn, 1) := by decide +kernel
theorem dL_find_27 : decode bL_find 27 = .ok (.iconst 0, 1) := by decide +kernel
theorem dL_find_28 : decode bL_find 28 = .ok (.ireturn, 1) := by decide +kernel
theorem dL_lead_0 : decode bL_lead 0 = .ok (.aload_n 0, 1) := by decide +kernel
theorem dL_lead_1 : decode bL_lead 1 = .ok (.iload_n 1, 1) := by decide +kernel
theorem dL_lead_2 : decode bL_lead 2 = .ok (.iload_n 2, 1) := by decide +kernel
theorem dL_lead_3 : decode bL_lead 3 = .ok (.iload_n 3, 1) := by decide +kernel
theorem dL_lead_4 : decode bL_lead 4 = .ok (.iload 4, 2) := by decide +kernel
theorem dL_lead_6 : decode bL_lead 6 = .ok (.invokevirtual 74, 3) := by decide +kernel
theorem dL_lead_9 : decode bL_lead 9 = .ok (.goto 7, 3) := by decide +kernel
theorem dL_lead_12 : decode bL_lead 12 = .ok (.astore 5, 2) := by decide +kernel
theorem dL_lead_14 : decode bL_lead 14 = .ok (.iconst 1, 1) := by decide +kernel
theorem dL_lead_15 : decode bL_lead 15 = .ok (.ireturn, 1) := by decide +kernel
theorem dL_lead_16 : decode bL_lead 16 = .ok (.iconst 0, 1) := by decide +kernel
theorem dL_lead_17 : decode bL_lead 17 = .ok (.ireturn, 1) := by decide +kernel
theorem dL_accept_0 : decode bL_accept 0 = .ok (.aload_n 0, 1) := by decide +kernel
theorem dL_accept_1 : decode bL_accept 1 = .ok (.iload_n 1, 1) := by decide +kernel
theorem dL_accept_2 : decode bL_accept 2 = .ok (.iload_n 2, 1) := by decide +kernel
theorem dL_accept_3 : decode bL_accept 3 = .ok (.invokevirtual 78, 3) := by decide +kernel
theorem dL_accept_6 : decode bL_accept 6 = .ok (.goto 6, 3) := by decide +kernel
theorem dL_accept_9 : decode bL_accept 9 = .ok (.astore_n 3, 1) := by decide +kernel
theorem dL_accept_10 : decode bL_accept 10 = .ok (.iconst 1, 1) := by decide +kernel
theorem dL_accept_11 : decode bL_accept 11 = .ok (.ireturn, 1) := by decide +kernel
theorem dL_accept_12 : decode bL_accept 12 = .ok (.iconst 0, 1) := by decide +kernel
theorem dL_accept_13 : decode bL_accept 13 = .ok (.ireturn, 1) := by decide +kernel
theorem dL_run_0 : decode bL_run 0 = .ok (.aload 5, 2) := by decide +kernel
theorem dL_run_2 : decode bL_run 2 = .ok (.iconst 0, 1) := by decide +kernel
theorem dL_run_3 : decode bL_run 3 = .ok (.aload_n 0, 1) := by decide +kernel
theorem dL_run_4 : decode bL_run 4 = .ok (.iload_n 1, 1) := by decide +kernel
theorem dL_run_5 : decode bL_run 5 = .ok (.iload_n 2, 1) := by decide +kernel
theorem dL_run_6 : decode bL_run 6 = .ok (.iload_n 3, 1) := by decide +kernel
theorem dL_run_7 : decode bL_run 7 = .ok (.iload 4, 2) := by decide +kernel
theorem dL_run_9 : decode bL_run 9 = .ok (.invokevirtual 82, 3) := by decide +kernel
theorem dL_run_12 : decode bL_run 12 = .ok (.i2l, 1) := by decide +kernel
theorem dL_run_13 : decode bL_run 13 = .ok (.lastore, 1) := by decide +kernel
theorem dL_run_14 : decode bL_run 14 = .ok (.goto 11, 3) := by decide +kernel
theorem dL_run_17 : decode bL_run 17 = .ok (.astore 6, 2) := by decide +kernel
theorem dL_run_19 : decode bL_run 19 = .ok (.iconst 1, 1) := by decide +kernel
theorem dL_run_20 : decode bL_run 20 = .ok (.ireturn, 1) := by decide +kernel
theorem dL_run_21 : decode bL_run 21 = .ok (.astore 6, 2) := by decide +kernel
theorem dL_run_23 : decode bL_run 23 = .ok (.iconst 2, 1) := by decide +kernel
theorem dL_run_24 : decode bL_run 24 = .ok (.ireturn, 1) := by decide +kernel
theorem dL_run_25 : decode bL_run 25 = .ok (.iconst 0, 1) := by decide +kernel
theorem dL_run_26 : decode bL_run 26 = .ok (.ireturn, 1) := by decide +kernel
theorem dL_accepted_0 : decode bL_accepted 0 = .ok (.aload 5, 2) := by decide +kernel
theorem dL_accepted_2 : decode bL_accepted 2 = .ok (.iconst 0, 1) := by decide +kernel
theorem dL_accepted_3 : decode bL_accepted 3 = .ok (.aload_n 0, 1) := by decide +kernel
theorem dL_accepted_4 : decode bL_accepted 4 = .ok (.iload_n 1, 1) := by decide +kernel
theorem dL_accepted_5 : decode bL_accepted 5 = .ok (.iload_n 2, 1) := by decide +kernel
theorem dL_accepted_6 : decode bL_accepted 6 = .ok (.iload_n 3, 1) := by decide +kernel
theorem dL_accepted_7 : decode bL_accepted 7 = .ok (.iload 4, 2) := by decide +kernel
theorem dL_accepted_9 : decode bL_accepted 9 = .ok (.invokevirtual 85, 3) := by decide +kernel
theorem dL_accepted_12 : decode bL_accepted 12 = .ok (.i2l, 1) := by decide +kernel
theorem dL_accepted_13 : decode bL_accepted 13 = .ok (.lastore, 1) := by decide +kernel
theorem dL_accepted_14 : decode bL_accepted 14 = .ok (.goto 11, 3) := by decide +kernel
theorem dL_accepted_17 : decode bL_accepted 17 = .ok (.astore 6, 2) := by decide +kernel
theorem dL_accepted_19 : decode bL_accepted 19 = .ok (.iconst 1, 1) := by decide +kernel
theorem dL_accepted_20 : decode bL_accepted 20 = .ok (.ireturn, 1) := by decide +kernel
theorem dL_accepted_21 : decode bL_accepted 21 = .ok (.astore 6, 2) := by decide +kernel
theorem dL_accepted_23 : decode bL_accepted 23 = .ok (.iconst 2, 1) := by decide +kernel
theorem dL_accepted_24 : decode bL_accepted 24 = .ok (.ireturn, 1) := by decide +kernel
theorem dL_accepted_25 : decode bL_accepted 25 = .ok (.iconst 0, 1) := by decide +kernel
theorem dL_accepted_26 : decode bL_accepted 26 = .ok (.ireturn, 1) := by decide +kernel
