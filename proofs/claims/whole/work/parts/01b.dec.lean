theorem dA_init_0 : decode bA_init 0 = .ok (.aload_n 0, 1) := by decide +kernel
theorem dA_init_1 : decode bA_init 1 = .ok (.invokespecial 3, 3) := by decide +kernel
theorem dA_init_4 : decode bA_init 4 = .ok (.aload_n 0, 1) := by decide +kernel
theorem dA_init_5 : decode bA_init 5 = .ok (.sipush 2048, 3) := by decide +kernel
theorem dA_init_8 : decode bA_init 8 = .ok (.newarray .int, 2) := by decide +kernel
theorem dA_init_10 : decode bA_init 10 = .ok (.putfield 9, 3) := by decide +kernel
theorem dA_init_13 : decode bA_init 13 = .ok (.aload_n 0, 1) := by decide +kernel
theorem dA_init_14 : decode bA_init 14 = .ok (.bipush 8, 2) := by decide +kernel
theorem dA_init_16 : decode bA_init 16 = .ok (.newarray .boolean, 2) := by decide +kernel
theorem dA_init_18 : decode bA_init 18 = .ok (.putfield 15, 3) := by decide +kernel
theorem dA_init_21 : decode bA_init 21 = .ok (.return_, 1) := by decide +kernel
theorem dA_nextOf_0 : decode bA_nextOf 0 = .ok (.aload_n 0, 1) := by decide +kernel
theorem dA_nextOf_1 : decode bA_nextOf 1 = .ok (.getfield 9, 3) := by decide +kernel
theorem dA_nextOf_4 : decode bA_nextOf 4 = .ok (.iload_n 1, 1) := by decide +kernel
theorem dA_nextOf_5 : decode bA_nextOf 5 = .ok (.sipush 256, 3) := by decide +kernel
theorem dA_nextOf_8 : decode bA_nextOf 8 = .ok (.imul, 1) := by decide +kernel
theorem dA_nextOf_9 : decode bA_nextOf 9 = .ok (.iload_n 2, 1) := by decide +kernel
theorem dA_nextOf_10 : decode bA_nextOf 10 = .ok (.iadd, 1) := by decide +kernel
theorem dA_nextOf_11 : decode bA_nextOf 11 = .ok (.iaload, 1) := by decide +kernel
theorem dA_nextOf_12 : decode bA_nextOf 12 = .ok (.ireturn, 1) := by decide +kernel
theorem dA_setNext_0 : decode bA_setNext 0 = .ok (.aload_n 0, 1) := by decide +kernel
theorem dA_setNext_1 : decode bA_setNext 1 = .ok (.getfield 9, 3) := by decide +kernel
theorem dA_setNext_4 : decode bA_setNext 4 = .ok (.iload_n 1, 1) := by decide +kernel
theorem dA_setNext_5 : decode bA_setNext 5 = .ok (.sipush 256, 3) := by decide +kernel
theorem dA_setNext_8 : decode bA_setNext 8 = .ok (.imul, 1) := by decide +kernel
theorem dA_setNext_9 : decode bA_setNext 9 = .ok (.iload_n 2, 1) := by decide +kernel
theorem dA_setNext_10 : decode bA_setNext 10 = .ok (.iadd, 1) := by decide +kernel
theorem dA_setNext_11 : decode bA_setNext 11 = .ok (.iload_n 3, 1) := by decide +kernel
theorem dA_setNext_12 : decode bA_setNext 12 = .ok (.iastore, 1) := by decide +kernel
theorem dA_setNext_13 : decode bA_setNext 13 = .ok (.return_, 1) := by decide +kernel
theorem dQ_init_0 : decode bQ_init 0 = .ok (.aload_n 0, 1) := by decide +kernel
theorem dQ_init_1 : decode bQ_init 1 = .ok (.invokespecial 3, 3) := by decide +kernel
theorem dQ_init_4 : decode bQ_init 4 = .ok (.aload_n 0, 1) := by decide +kernel
theorem dQ_init_5 : decode bQ_init 5 = .ok (.bipush 16, 2) := by decide +kernel
theorem dQ_init_7 : decode bQ_init 7 = .ok (.newarray .int, 2) := by decide +kernel
theorem dQ_init_9 : decode bQ_init 9 = .ok (.putfield 9, 3) := by decide +kernel
theorem dQ_init_12 : decode bQ_init 12 = .ok (.aload_n 0, 1) := by decide +kernel
theorem dQ_init_13 : decode bQ_init 13 = .ok (.iconst 0, 1) := by decide +kernel
theorem dQ_init_14 : decode bQ_init 14 = .ok (.putfield 15, 3) := by decide +kernel
theorem dQ_init_17 : decode bQ_init 17 = .ok (.return_, 1) := by decide +kernel
theorem dQ_become_0 : decode bQ_become 0 = .ok (.iconst 0, 1) := by decide +kernel
theorem dQ_become_1 : decode bQ_become 1 = .ok (.istore 6, 2) := by decide +kernel
theorem dQ_become_3 : decode bQ_become 3 = .ok (.iload 6, 2) := by decide +kernel
theorem dQ_become_5 : decode bQ_become 5 = .ok (.iload 5, 2) := by decide +kernel
theorem dQ_become_7 : decode bQ_become 7 = .ok (.if_icmp .ge 41, 3) := by decide +kernel
theorem dQ_become_10 : decode bQ_become 10 = .ok (.aload_n 0, 1) := by decide +kernel
theorem dQ_become_11 : decode bQ_become 11 = .ok (.getfield 9, 3) := by decide +kernel
theorem dQ_become_14 : decode bQ_become 14 = .ok (.iload 6, 2) := by decide +kernel
theorem dQ_become_16 : decode bQ_become 16 = .ok (.iload 6, 2) := by decide +kernel
theorem dQ_become_18 : decode bQ_become 18 = .ok (.bipush 8, 2) := by decide +kernel
theorem dQ_become_20 : decode bQ_become 20 = .ok (.if_icmp .ge 12, 3) := by decide +kernel
theorem dQ_become_23 : decode bQ_become 23 = .ok (.lload_n 1, 1) := by decide +kernel
theorem dQ_become_24 : decode bQ_become 24 = .ok (.iload 6, 2) := by decide +kernel
theorem dQ_become_26 : decode bQ_become 26 = .ok (.invokestatic 19, 3) := by decide +kernel
theorem dQ_become_29 : decode bQ_become 29 = .ok (.goto 12, 3) := by decide +kernel
theorem dQ_become_32 : decode bQ_become 32 = .ok (.lload_n 3, 1) := by decide +kernel
theorem dQ_become_33 : decode bQ_become 33 = .ok (.iload 6, 2) := by decide +kernel
theorem dQ_become_35 : decode bQ_become 35 = .ok (.bipush 8, 2) := by decide +kernel
theorem dQ_become_37 : decode bQ_become 37 = .ok (.isub, 1) := by decide +kernel
theorem dQ_become_38 : decode bQ_become 38 = .ok (.invokestatic 19, 3) := by decide +kernel
theorem dQ_become_41 : decode bQ_become 41 = .ok (.iastore, 1) := by decide +kernel
theorem dQ_become_42 : decode bQ_become 42 = .ok (.iinc 6 1, 3) := by decide +kernel
theorem dQ_become_45 : decode bQ_become 45 = .ok (.goto (-42), 3) := by decide +kernel
theorem dQ_become_48 : decode bQ_become 48 = .ok (.aload_n 0, 1) := by decide +kernel
theorem dQ_become_49 : decode bQ_become 49 = .ok (.iload 5, 2) := by decide +kernel
theorem dQ_become_51 : decode bQ_become 51 = .ok (.putfield 15, 3) := by decide +kernel
theorem dQ_become_54 : decode bQ_become 54 = .ok (.return_, 1) := by decide +kernel
theorem dQ_standsAt_0 : decode bQ_standsAt 0 = .ok (.aload_n 0, 1) := by decide +kernel
theorem dQ_standsAt_1 : decode bQ_standsAt 1 = .ok (.getfield 15, 3) := by decide +kernel
theorem dQ_standsAt_4 : decode bQ_standsAt 4 = .ok (.iload_n 3, 1) := by decide +kernel
theorem dQ_standsAt_5 : decode bQ_standsAt 5 = .ok (.iload_n 2, 1) := by decide +kernel
theorem dQ_standsAt_6 : decode bQ_standsAt 6 = .ok (.isub, 1) := by decide +kernel
theorem dQ_standsAt_7 : decode bQ_standsAt 7 = .ok (.if_icmp .le 5, 3) := by decide +kernel
theorem dQ_standsAt_10 : decode bQ_standsAt 10 = .ok (.iconst 0, 1) := by decide +kernel
theorem dQ_standsAt_11 : decode bQ_standsAt 11 = .ok (.ireturn, 1) := by decide +kernel
theorem dQ_standsAt_12 : decode bQ_standsAt 12 = .ok (.iconst 0, 1) := by decide +kernel
theorem dQ_standsAt_13 : decode bQ_standsAt 13 = .ok (.istore 4, 2) := by decide +kernel
theorem dQ_standsAt_15 : decode bQ_standsAt 15 = .ok (.iload 4, 2) := by decide +kernel
theorem dQ_standsAt_17 : decode bQ_standsAt 17 = .ok (.aload_n 0, 1) := by decide +kernel
theorem dQ_standsAt_18 : decode bQ_standsAt 18 = .ok (.getfield 15, 3) := by decide +kernel
theorem dQ_standsAt_21 : decode bQ_standsAt 21 = .ok (.if_icmp .ge 30, 3) := by decide +kernel
theorem dQ_standsAt_24 : decode bQ_standsAt 24 = .ok (.aload_n 1, 1) := by decide +kernel
theorem dQ_standsAt_25 : decode bQ_standsAt 25 = .ok (.getfield 23, 3) := by decide +kernel
theorem dQ_standsAt_28 : decode bQ_standsAt 28 = .ok (.iload_n 2, 1) := by decide +kernel
theorem dQ_standsAt_29 : decode bQ_standsAt 29 = .ok (.iload 4, 2) := by decide +kernel
theorem dQ_standsAt_31 : decode bQ_standsAt 31 = .ok (.iadd, 1) := by decide +kernel
theorem dQ_standsAt_32 : decode bQ_standsAt 32 = .ok (.iaload, 1) := by decide +kernel
theorem dQ_standsAt_33 : decode bQ_standsAt 33 = .ok (.aload_n 0, 1) := by decide +kernel
theorem dQ_standsAt_34 : decode bQ_standsAt 34 = .ok (.getfield 9, 3) := by decide +kernel
theorem dQ_standsAt_37 : decode bQ_standsAt 37 = .ok (.iload 4, 2) := by decide +kernel
theorem dQ_standsAt_39 : decode bQ_standsAt 39 = .ok (.iaload, 1) := by decide +kernel
theorem dQ_standsAt_40 : decode bQ_standsAt 40 = .ok (.if_icmp .eq 5, 3) := by decide +kernel
theorem dQ_standsAt_43 : decode bQ_standsAt 43 = .ok (.iconst 0, 1) := by decide +kernel
theorem dQ_standsAt_44 : decode bQ_standsAt 44 = .ok (.ireturn, 1) := by decide +kernel
theorem dQ_standsAt_45 : decode bQ_standsAt 45 = .ok (.iinc 4 1, 3) := by decide +kernel
theorem dQ_standsAt_48 : decode bQ_standsAt 48 = .ok (.goto (-33), 3) := by decide +kernel
theorem dQ_standsAt_51 : decode bQ_standsAt 51 = .ok (.iconst 1, 1) := by decide +kernel
theorem dQ_standsAt_52 : decode bQ_standsAt 52 = .ok (.ireturn, 1) := by decide +kernel
theorem dT_init_0 : decode bT_init 0 = .ok (.aload_n 0, 1) := by decide +kernel
theorem dT_init_1 : decode bT_init 1 = .ok (.invokespecial 3, 3) := by decide +kernel
theorem dT_init_4 : decode bT_init 4 = .ok (.aload_n 0, 1) := by decide +kernel
theorem dT_init_5 : decode bT_init 5 = .ok (.sipush 1000, 3) := by decide +kernel
theorem dT_init_8 : decode bT_init 8 = .ok (.newarray .int, 2) := by decide +kernel
theorem dT_init_10 : decode bT_init 10 = .ok (.putfield 9, 3) := by decide +kernel
theorem dT_init_13 : decode bT_init 13 = .ok (.aload_n 0, 1) := by decide +kernel
theorem dT_init_14 : decode bT_init 14 = .ok (.iconst 0, 1) := by decide +kernel
theorem dT_init_15 : decode bT_init 15 = .ok (.putfield 15, 3) := by decide +kernel
theorem dT_init_18 : decode bT_init 18 = .ok (.return_, 1) := by decide +kernel
theorem dT_clear_0 : decode bT_clear 0 = .ok (.aload_n 0, 1) := by decide +kernel
theorem dT_clear_1 : decode bT_clear 1 = .ok (.iconst 0, 1) := by decide +kernel
theorem dT_clear_2 : decode bT_clear 2 = .ok (.putfield 15, 3) := by decide +kernel
theorem dT_clear_5 : decode bT_clear 5 = .ok (.return_, 1) := by decide +kernel
theorem dT_add_0 : decode bT_add 0 = .ok (.aload_n 0, 1) := by decide +kernel
theorem dT_add_1 : decode bT_add 1 = .ok (.getfield 9, 3) := by decide +kernel
theorem dT_add_4 : decode bT_add 4 = .ok (.aload_n 0, 1) := by decide +kernel
theorem dT_add_5 : decode bT_add 5 = .ok (.getfield 15, 3) := by decide +kernel
theorem dT_add_8 : decode bT_add 8 = .ok (.iload_n 1, 1) := by decide +kernel
theorem dT_add_9 : decode bT_add 9 = .ok (.iastore, 1) := by decide +kernel
theorem dT_add_10 : decode bT_add 10 = .ok (.aload_n 0, 1) := by decide +kernel
theorem dT_add_11 : decode bT_add 11 = .ok (.dup, 1) := by decide +kernel
theorem dT_add_12 : decode bT_add 12 = .ok (.getfield 15, 3) := by decide +kernel
theorem dT_add_15 : decode bT_add 15 = .ok (.iconst 1, 1) := by decide +kernel
theorem dT_add_16 : decode bT_add 16 = .ok (.iadd, 1) := by decide +kernel
theorem dT_add_17 : decode bT_add 17 = .ok (.putfield 15, 3) := by decide +kernel
theorem dT_add_20 : decode bT_add 20 = .ok (.return_, 1) := by decide +kernel
theorem dT_addRange_0 : decode bT_addRange 0 = .ok (.aload_n 1, 1) := by decide +kernel
theorem dT_addRange_1 : decode bT_addRange 1 = .ok (.getfield 9, 3) := by decide +kernel
theorem dT_addRange_4 : decode bT_addRange 4 = .ok (.iload_n 2, 1) := by decide +kernel
theorem dT_addRange_5 : decode bT_addRange 5 = .ok (.aload_n 0, 1) := by decide +kernel
theorem dT_addRange_6 : decode bT_addRange 6 = .ok (.getfield 9, 3) := by decide +kernel
theorem dT_addRange_9 : decode bT_addRange 9 = .ok (.aload_n 0, 1) := by decide +kernel
theorem dT_addRange_10 : decode bT_addRange 10 = .ok (.getfield 15, 3) := by decide +kernel
theorem dT_addRange_13 : decode bT_addRange 13 = .ok (.iload_n 3, 1) := by decide +kernel
theorem dT_addRange_14 : decode bT_addRange 14 = .ok (.iload_n 2, 1) := by decide +kernel
theorem dT_addRange_15 : decode bT_addRange 15 = .ok (.isub, 1) := by decide +kernel
theorem dT_addRange_16 : decode bT_addRange 16 = .ok (.invokestatic 19, 3) := by decide +kernel
theorem dT_addRange_19 : decode bT_addRange 19 = .ok (.aload_n 0, 1) := by decide +kernel
theorem dT_addRange_20 : decode bT_addRange 20 = .ok (.dup, 1) := by decide +kernel
theorem dT_addRange_21 : decode bT_addRange 21 = .ok (.getfield 15, 3) := by decide +kernel
theorem dT_addRange_24 : decode bT_addRange 24 = .ok (.iload_n 3, 1) := by decide +kernel
theorem dT_addRange_25 : decode bT_addRange 25 = .ok (.iload_n 2, 1) := by decide +kernel
theorem dT_addRange_26 : decode bT_addRange 26 = .ok (.isub, 1) := by decide +kernel
theorem dT_addRange_27 : decode bT_addRange 27 = .ok (.iadd, 1) := by decide +kernel
theorem dT_addRange_28 : decode bT_addRange 28 = .ok (.putfield 15, 3) := by decide +kernel
theorem dT_addRange_31 : decode bT_addRange 31 = .ok (.return_, 1) := by decide +kernel
theorem dT_hasRange_0 : decode bT_hasRange 0 = .ok (.iconst 0, 1) := by decide +kernel
theorem dT_hasRange_1 : decode bT_hasRange 1 = .ok (.iload_n 1, 1) := by decide +kernel
theorem dT_hasRange_2 : decode bT_hasRange 2 = .ok (.if_icmp .gt 24, 3) := by decide +kernel
theorem dT_hasRange_5 : decode bT_hasRange 5 = .ok (.iload_n 1, 1) := by decide +kernel
theorem dT_hasRange_6 : decode bT_hasRange 6 = .ok (.i2l, 1) := by decide +kernel
theorem dT_hasRange_7 : decode bT_hasRange 7 = .ok (.lload_n 2, 1) := by decide +kernel
theorem dT_hasRange_8 : decode bT_hasRange 8 = .ok (.lcmp, 1) := by decide +kernel
theorem dT_hasRange_9 : decode bT_hasRange 9 = .ok (.ifCond .gt 17, 3) := by decide +kernel
theorem dT_hasRange_12 : decode bT_hasRange 12 = .ok (.lload_n 2, 1) := by decide +kernel
theorem dT_hasRange_13 : decode bT_hasRange 13 = .ok (.aload_n 0, 1) := by decide +kernel
theorem dT_hasRange_14 : decode bT_hasRange 14 = .ok (.getfield 15, 3) := by decide +kernel
theorem dT_hasRange_17 : decode bT_hasRange 17 = .ok (.i2l, 1) := by decide +kernel
theorem dT_hasRange_18 : decode bT_hasRange 18 = .ok (.lcmp, 1) := by decide +kernel
theorem dT_hasRange_19 : decode bT_hasRange 19 = .ok (.ifCond .gt 7, 3) := by decide +kernel
theorem dT_hasRange_22 : decode bT_hasRange 22 = .ok (.iconst 1, 1) := by decide +kernel
theorem dT_hasRange_23 : decode bT_hasRange 23 = .ok (.goto 4, 3) := by decide +kernel
theorem dT_hasRange_26 : decode bT_hasRange 26 = .ok (.iconst 0, 1) := by decide +kernel
theorem dT_hasRange_27 : decode bT_hasRange 27 = .ok (.ireturn, 1) := by decide +kernel
theorem dT_hasPiece_0 : decode bT_hasPiece 0 = .ok (.iconst 0, 1) := by decide +kernel
theorem dT_hasPiece_1 : decode bT_hasPiece 1 = .ok (.iload_n 1, 1) := by decide +kernel
theorem dT_hasPiece_2 : decode bT_hasPiece 2 = .ok (.if_icmp .gt 15, 3) := by decide +kernel
theorem dT_hasPiece_5 : decode bT_hasPiece 5 = .ok (.iload_n 1, 1) := by decide +kernel
theorem dT_hasPiece_6 : decode bT_hasPiece 6 = .ok (.aload_n 0, 1) := by decide +kernel
theorem dT_hasPiece_7 : decode bT_hasPiece 7 = .ok (.getfield 15, 3) := by decide +kernel
theorem dT_hasPiece_10 : decode bT_hasPiece 10 = .ok (.if_icmp .gt 7, 3) := by decide +kernel
theorem dT_hasPiece_13 : decode bT_hasPiece 13 = .ok (.iconst 1, 1) := by decide +kernel
theorem dT_hasPiece_14 : decode bT_hasPiece 14 = .ok (.goto 4, 3) := by decide +kernel
theorem dT_hasPiece_17 : decode bT_hasPiece 17 = .ok (.iconst 0, 1) := by decide +kernel
theorem dT_hasPiece_18 : decode bT_hasPiece 18 = .ok (.ireturn, 1) := by decide +kernel
