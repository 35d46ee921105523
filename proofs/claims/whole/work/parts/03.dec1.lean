theorem dRow_init_0 : decode cRow_init 0 = .ok (.aload_n 0, 1) := by decide +kernel
theorem dRow_init_1 : decode cRow_init 1 = .ok (.invokespecial 1, 3) := by decide +kernel
theorem dRow_init_4 : decode cRow_init 4 = .ok (.aload_n 0, 1) := by decide +kernel
theorem dRow_init_5 : decode cRow_init 5 = .ok (.iload_n 1, 1) := by decide +kernel
theorem dRow_init_6 : decode cRow_init 6 = .ok (.iconst 0, 1) := by decide +kernel
theorem dRow_init_7 : decode cRow_init 7 = .ok (.invokestatic 7, 3) := by decide +kernel
theorem dRow_init_10 : decode cRow_init 10 = .ok (.newarray .byte, 2) := by decide +kernel
theorem dRow_init_12 : decode cRow_init 12 = .ok (.putfield 13, 3) := by decide +kernel
theorem dRow_init_15 : decode cRow_init 15 = .ok (.return_, 1) := by decide +kernel
theorem dRow_dropLast_0 : decode cRow_dropLast 0 = .ok (.aload_n 0, 1) := by decide +kernel
theorem dRow_dropLast_1 : decode cRow_dropLast 1 = .ok (.getfield 19, 3) := by decide +kernel
theorem dRow_dropLast_4 : decode cRow_dropLast 4 = .ok (.ifCond .le 13, 3) := by decide +kernel
theorem dRow_dropLast_7 : decode cRow_dropLast 7 = .ok (.aload_n 0, 1) := by decide +kernel
theorem dRow_dropLast_8 : decode cRow_dropLast 8 = .ok (.dup, 1) := by decide +kernel
theorem dRow_dropLast_9 : decode cRow_dropLast 9 = .ok (.getfield 19, 3) := by decide +kernel
theorem dRow_dropLast_12 : decode cRow_dropLast 12 = .ok (.iconst 1, 1) := by decide +kernel
theorem dRow_dropLast_13 : decode cRow_dropLast 13 = .ok (.isub, 1) := by decide +kernel
theorem dRow_dropLast_14 : decode cRow_dropLast 14 = .ok (.putfield 19, 3) := by decide +kernel
theorem dRow_dropLast_17 : decode cRow_dropLast 17 = .ok (.return_, 1) := by decide +kernel
theorem dRow_add_0 : decode cRow_add 0 = .ok (.aload_n 0, 1) := by decide +kernel
theorem dRow_add_1 : decode cRow_add 1 = .ok (.getfield 19, 3) := by decide +kernel
theorem dRow_add_4 : decode cRow_add 4 = .ok (.aload_n 0, 1) := by decide +kernel
theorem dRow_add_5 : decode cRow_add 5 = .ok (.getfield 13, 3) := by decide +kernel
theorem dRow_add_8 : decode cRow_add 8 = .ok (.arraylength, 1) := by decide +kernel
theorem dRow_add_9 : decode cRow_add 9 = .ok (.if_icmp .ge 24, 3) := by decide +kernel
theorem dRow_add_12 : decode cRow_add 12 = .ok (.aload_n 0, 1) := by decide +kernel
theorem dRow_add_13 : decode cRow_add 13 = .ok (.getfield 13, 3) := by decide +kernel
theorem dRow_add_16 : decode cRow_add 16 = .ok (.aload_n 0, 1) := by decide +kernel
theorem dRow_add_17 : decode cRow_add 17 = .ok (.getfield 19, 3) := by decide +kernel
theorem dRow_add_20 : decode cRow_add 20 = .ok (.iload_n 1, 1) := by decide +kernel
theorem dRow_add_21 : decode cRow_add 21 = .ok (.i2b, 1) := by decide +kernel
theorem dRow_add_22 : decode cRow_add 22 = .ok (.bastore, 1) := by decide +kernel
theorem dRow_add_23 : decode cRow_add 23 = .ok (.aload_n 0, 1) := by decide +kernel
theorem dRow_add_24 : decode cRow_add 24 = .ok (.dup, 1) := by decide +kernel
theorem dRow_add_25 : decode cRow_add 25 = .ok (.getfield 19, 3) := by decide +kernel
theorem dRow_add_28 : decode cRow_add 28 = .ok (.iconst 1, 1) := by decide +kernel
theorem dRow_add_29 : decode cRow_add 29 = .ok (.iadd, 1) := by decide +kernel
theorem dRow_add_30 : decode cRow_add 30 = .ok (.putfield 19, 3) := by decide +kernel
theorem dRow_add_33 : decode cRow_add 33 = .ok (.return_, 1) := by decide +kernel
theorem dRow_length_0 : decode cRow_length 0 = .ok (.aload_n 0, 1) := by decide +kernel
theorem dRow_length_1 : decode cRow_length 1 = .ok (.getfield 19, 3) := by decide +kernel
theorem dRow_length_4 : decode cRow_length 4 = .ok (.ireturn, 1) := by decide +kernel
theorem dRow_addText_0 : decode cRow_addText 0 = .ok (.iconst 0, 1) := by decide +kernel
theorem dRow_addText_1 : decode cRow_addText 1 = .ok (.istore_n 2, 1) := by decide +kernel
theorem dRow_addText_2 : decode cRow_addText 2 = .ok (.iload_n 2, 1) := by decide +kernel
theorem dRow_addText_3 : decode cRow_addText 3 = .ok (.aload_n 1, 1) := by decide +kernel
theorem dRow_addText_4 : decode cRow_addText 4 = .ok (.invokevirtual 23, 3) := by decide +kernel
theorem dRow_addText_7 : decode cRow_addText 7 = .ok (.if_icmp .ge 18, 3) := by decide +kernel
theorem dRow_addText_10 : decode cRow_addText 10 = .ok (.aload_n 0, 1) := by decide +kernel
theorem dRow_addText_11 : decode cRow_addText 11 = .ok (.aload_n 1, 1) := by decide +kernel
theorem dRow_addText_12 : decode cRow_addText 12 = .ok (.iload_n 2, 1) := by decide +kernel
theorem dRow_addText_13 : decode cRow_addText 13 = .ok (.invokevirtual 28, 3) := by decide +kernel
theorem dRow_addText_16 : decode cRow_addText 16 = .ok (.invokevirtual 32, 3) := by decide +kernel
theorem dRow_addText_19 : decode cRow_addText 19 = .ok (.iinc 2 1, 3) := by decide +kernel
theorem dRow_addText_22 : decode cRow_addText 22 = .ok (.goto (-20), 3) := by decide +kernel
theorem dRow_addText_25 : decode cRow_addText 25 = .ok (.return_, 1) := by decide +kernel
theorem dRow_addPart_0 : decode cRow_addPart 0 = .ok (.iload_n 2, 1) := by decide +kernel
theorem dRow_addPart_1 : decode cRow_addPart 1 = .ok (.istore 4, 2) := by decide +kernel
theorem dRow_addPart_3 : decode cRow_addPart 3 = .ok (.iload 4, 2) := by decide +kernel
theorem dRow_addPart_5 : decode cRow_addPart 5 = .ok (.iload_n 3, 1) := by decide +kernel
theorem dRow_addPart_6 : decode cRow_addPart 6 = .ok (.if_icmp .ge 19, 3) := by decide +kernel
theorem dRow_addPart_9 : decode cRow_addPart 9 = .ok (.aload_n 0, 1) := by decide +kernel
theorem dRow_addPart_10 : decode cRow_addPart 10 = .ok (.aload_n 1, 1) := by decide +kernel
theorem dRow_addPart_11 : decode cRow_addPart 11 = .ok (.iload 4, 2) := by decide +kernel
theorem dRow_addPart_13 : decode cRow_addPart 13 = .ok (.invokevirtual 36, 3) := by decide +kernel
theorem dRow_addPart_16 : decode cRow_addPart 16 = .ok (.invokevirtual 32, 3) := by decide +kernel
theorem dRow_addPart_19 : decode cRow_addPart 19 = .ok (.iinc 4 1, 3) := by decide +kernel
theorem dRow_addPart_22 : decode cRow_addPart 22 = .ok (.goto (-19), 3) := by decide +kernel
theorem dRow_addPart_25 : decode cRow_addPart 25 = .ok (.return_, 1) := by decide +kernel
theorem dRow_at_0 : decode cRow_at 0 = .ok (.iload_n 1, 1) := by decide +kernel
theorem dRow_at_1 : decode cRow_at 1 = .ok (.ifCond .lt 24, 3) := by decide +kernel
theorem dRow_at_4 : decode cRow_at 4 = .ok (.iload_n 1, 1) := by decide +kernel
theorem dRow_at_5 : decode cRow_at 5 = .ok (.aload_n 0, 1) := by decide +kernel
theorem dRow_at_6 : decode cRow_at 6 = .ok (.getfield 19, 3) := by decide +kernel
theorem dRow_at_9 : decode cRow_at 9 = .ok (.if_icmp .ge 16, 3) := by decide +kernel
theorem dRow_at_12 : decode cRow_at 12 = .ok (.aload_n 0, 1) := by decide +kernel
theorem dRow_at_13 : decode cRow_at 13 = .ok (.getfield 13, 3) := by decide +kernel
theorem dRow_at_16 : decode cRow_at 16 = .ok (.iload_n 1, 1) := by decide +kernel
theorem dRow_at_17 : decode cRow_at 17 = .ok (.baload, 1) := by decide +kernel
theorem dRow_at_18 : decode cRow_at 18 = .ok (.sipush 255, 3) := by decide +kernel
theorem dRow_at_21 : decode cRow_at 21 = .ok (.iand, 1) := by decide +kernel
theorem dRow_at_22 : decode cRow_at 22 = .ok (.goto 4, 3) := by decide +kernel
theorem dRow_at_25 : decode cRow_at 25 = .ok (.iconst 0, 1) := by decide +kernel
theorem dRow_at_26 : decode cRow_at 26 = .ok (.ireturn, 1) := by decide +kernel
theorem dRow_hasWord_0 : decode cRow_hasWord 0 = .ok (.iconst 0, 1) := by decide +kernel
theorem dRow_hasWord_1 : decode cRow_hasWord 1 = .ok (.istore_n 3, 1) := by decide +kernel
theorem dRow_hasWord_2 : decode cRow_hasWord 2 = .ok (.iload_n 3, 1) := by decide +kernel
theorem dRow_hasWord_3 : decode cRow_hasWord 3 = .ok (.aload_n 2, 1) := by decide +kernel
theorem dRow_hasWord_4 : decode cRow_hasWord 4 = .ok (.invokevirtual 23, 3) := by decide +kernel
theorem dRow_hasWord_7 : decode cRow_hasWord 7 = .ok (.if_icmp .ge 32, 3) := by decide +kernel
theorem dRow_hasWord_10 : decode cRow_hasWord 10 = .ok (.aload_n 0, 1) := by decide +kernel
theorem dRow_hasWord_11 : decode cRow_hasWord 11 = .ok (.iload_n 1, 1) := by decide +kernel
theorem dRow_hasWord_12 : decode cRow_hasWord 12 = .ok (.iload_n 3, 1) := by decide +kernel
theorem dRow_hasWord_13 : decode cRow_hasWord 13 = .ok (.iadd, 1) := by decide +kernel
theorem dRow_hasWord_14 : decode cRow_hasWord 14 = .ok (.invokevirtual 36, 3) := by decide +kernel
theorem dRow_hasWord_17 : decode cRow_hasWord 17 = .ok (.invokestatic 46, 3) := by decide +kernel
theorem dRow_hasWord_20 : decode cRow_hasWord 20 = .ok (.aload_n 2, 1) := by decide +kernel
theorem dRow_hasWord_21 : decode cRow_hasWord 21 = .ok (.iload_n 3, 1) := by decide +kernel
theorem dRow_hasWord_22 : decode cRow_hasWord 22 = .ok (.invokevirtual 28, 3) := by decide +kernel
theorem dRow_hasWord_25 : decode cRow_hasWord 25 = .ok (.invokestatic 46, 3) := by decide +kernel
theorem dRow_hasWord_28 : decode cRow_hasWord 28 = .ok (.if_icmp .eq 5, 3) := by decide +kernel
theorem dRow_hasWord_31 : decode cRow_hasWord 31 = .ok (.iconst 0, 1) := by decide +kernel
theorem dRow_hasWord_32 : decode cRow_hasWord 32 = .ok (.ireturn, 1) := by decide +kernel
theorem dRow_hasWord_33 : decode cRow_hasWord 33 = .ok (.iinc 3 1, 3) := by decide +kernel
theorem dRow_hasWord_36 : decode cRow_hasWord 36 = .ok (.goto (-34), 3) := by decide +kernel
theorem dRow_hasWord_39 : decode cRow_hasWord 39 = .ok (.iconst 1, 1) := by decide +kernel
theorem dRow_hasWord_40 : decode cRow_hasWord 40 = .ok (.ireturn, 1) := by decide +kernel
theorem dRow_withoutCase_0 : decode cRow_withoutCase 0 = .ok (.iload_n 0, 1) := by decide +kernel
theorem dRow_withoutCase_1 : decode cRow_withoutCase 1 = .ok (.bipush 65, 2) := by decide +kernel
theorem dRow_withoutCase_3 : decode cRow_withoutCase 3 = .ok (.if_icmp .lt 16, 3) := by decide +kernel
theorem dRow_withoutCase_6 : decode cRow_withoutCase 6 = .ok (.iload_n 0, 1) := by decide +kernel
theorem dRow_withoutCase_7 : decode cRow_withoutCase 7 = .ok (.bipush 90, 2) := by decide +kernel
theorem dRow_withoutCase_9 : decode cRow_withoutCase 9 = .ok (.if_icmp .gt 10, 3) := by decide +kernel
theorem dRow_withoutCase_12 : decode cRow_withoutCase 12 = .ok (.iload_n 0, 1) := by decide +kernel
theorem dRow_withoutCase_13 : decode cRow_withoutCase 13 = .ok (.bipush 32, 2) := by decide +kernel
theorem dRow_withoutCase_15 : decode cRow_withoutCase 15 = .ok (.iadd, 1) := by decide +kernel
theorem dRow_withoutCase_16 : decode cRow_withoutCase 16 = .ok (.goto 4, 3) := by decide +kernel
theorem dRow_withoutCase_19 : decode cRow_withoutCase 19 = .ok (.iload_n 0, 1) := by decide +kernel
theorem dRow_withoutCase_20 : decode cRow_withoutCase 20 = .ok (.ireturn, 1) := by decide +kernel
theorem dRow_clear_0 : decode cRow_clear 0 = .ok (.aload_n 0, 1) := by decide +kernel
theorem dRow_clear_1 : decode cRow_clear 1 = .ok (.iconst 0, 1) := by decide +kernel
theorem dRow_clear_2 : decode cRow_clear 2 = .ok (.putfield 19, 3) := by decide +kernel
theorem dRow_clear_5 : decode cRow_clear 5 = .ok (.return_, 1) := by decide +kernel
theorem dRow_dropFirst_0 : decode cRow_dropFirst 0 = .ok (.iload_n 1, 1) := by decide +kernel
theorem dRow_dropFirst_1 : decode cRow_dropFirst 1 = .ok (.ifCond .le 40, 3) := by decide +kernel
theorem dRow_dropFirst_4 : decode cRow_dropFirst 4 = .ok (.iload_n 1, 1) := by decide +kernel
theorem dRow_dropFirst_5 : decode cRow_dropFirst 5 = .ok (.aload_n 0, 1) := by decide +kernel
theorem dRow_dropFirst_6 : decode cRow_dropFirst 6 = .ok (.getfield 19, 3) := by decide +kernel
theorem dRow_dropFirst_9 : decode cRow_dropFirst 9 = .ok (.if_icmp .gt 32, 3) := by decide +kernel
theorem dRow_dropFirst_12 : decode cRow_dropFirst 12 = .ok (.aload_n 0, 1) := by decide +kernel
theorem dRow_dropFirst_13 : decode cRow_dropFirst 13 = .ok (.getfield 13, 3) := by decide +kernel
theorem dRow_dropFirst_16 : decode cRow_dropFirst 16 = .ok (.iload_n 1, 1) := by decide +kernel
theorem dRow_dropFirst_17 : decode cRow_dropFirst 17 = .ok (.aload_n 0, 1) := by decide +kernel
theorem dRow_dropFirst_18 : decode cRow_dropFirst 18 = .ok (.getfield 13, 3) := by decide +kernel
theorem dRow_dropFirst_21 : decode cRow_dropFirst 21 = .ok (.iconst 0, 1) := by decide +kernel
theorem dRow_dropFirst_22 : decode cRow_dropFirst 22 = .ok (.aload_n 0, 1) := by decide +kernel
theorem dRow_dropFirst_23 : decode cRow_dropFirst 23 = .ok (.getfield 19, 3) := by decide +kernel
theorem dRow_dropFirst_26 : decode cRow_dropFirst 26 = .ok (.iload_n 1, 1) := by decide +kernel
theorem dRow_dropFirst_27 : decode cRow_dropFirst 27 = .ok (.isub, 1) := by decide +kernel
theorem dRow_dropFirst_28 : decode cRow_dropFirst 28 = .ok (.invokestatic 40, 3) := by decide +kernel
theorem dRow_dropFirst_31 : decode cRow_dropFirst 31 = .ok (.aload_n 0, 1) := by decide +kernel
theorem dRow_dropFirst_32 : decode cRow_dropFirst 32 = .ok (.dup, 1) := by decide +kernel
theorem dRow_dropFirst_33 : decode cRow_dropFirst 33 = .ok (.getfield 19, 3) := by decide +kernel
theorem dRow_dropFirst_36 : decode cRow_dropFirst 36 = .ok (.iload_n 1, 1) := by decide +kernel
theorem dRow_dropFirst_37 : decode cRow_dropFirst 37 = .ok (.isub, 1) := by decide +kernel
theorem dRow_dropFirst_38 : decode cRow_dropFirst 38 = .ok (.putfield 19, 3) := by decide +kernel
theorem dRow_dropFirst_41 : decode cRow_dropFirst 41 = .ok (.return_, 1) := by decide +kernel
theorem dRow_eightFrom_0 : decode cRow_eightFrom 0 = .ok (.lconst 0, 1) := by decide +kernel
theorem dRow_eightFrom_1 : decode cRow_eightFrom 1 = .ok (.lstore_n 2, 1) := by decide +kernel
theorem dRow_eightFrom_2 : decode cRow_eightFrom 2 = .ok (.iconst 0, 1) := by decide +kernel
theorem dRow_eightFrom_3 : decode cRow_eightFrom 3 = .ok (.istore 4, 2) := by decide +kernel
theorem dRow_eightFrom_5 : decode cRow_eightFrom 5 = .ok (.iload 4, 2) := by decide +kernel
theorem dRow_eightFrom_7 : decode cRow_eightFrom 7 = .ok (.bipush 8, 2) := by decide +kernel
theorem dRow_eightFrom_9 : decode cRow_eightFrom 9 = .ok (.if_icmp .ge 24, 3) := by decide +kernel
theorem dRow_eightFrom_12 : decode cRow_eightFrom 12 = .ok (.lload_n 2, 1) := by decide +kernel
theorem dRow_eightFrom_13 : decode cRow_eightFrom 13 = .ok (.bipush 8, 2) := by decide +kernel
theorem dRow_eightFrom_15 : decode cRow_eightFrom 15 = .ok (.lshl, 1) := by decide +kernel
theorem dRow_eightFrom_16 : decode cRow_eightFrom 16 = .ok (.aload_n 0, 1) := by decide +kernel
theorem dRow_eightFrom_17 : decode cRow_eightFrom 17 = .ok (.iload_n 1, 1) := by decide +kernel
theorem dRow_eightFrom_18 : decode cRow_eightFrom 18 = .ok (.iload 4, 2) := by decide +kernel
theorem dRow_eightFrom_20 : decode cRow_eightFrom 20 = .ok (.iadd, 1) := by decide +kernel
theorem dRow_eightFrom_21 : decode cRow_eightFrom 21 = .ok (.invokevirtual 36, 3) := by decide +kernel
theorem dRow_eightFrom_24 : decode cRow_eightFrom 24 = .ok (.i2l, 1) := by decide +kernel
theorem dRow_eightFrom_25 : decode cRow_eightFrom 25 = .ok (.lor, 1) := by decide +kernel
theorem dRow_eightFrom_26 : decode cRow_eightFrom 26 = .ok (.lstore_n 2, 1) := by decide +kernel
theorem dRow_eightFrom_27 : decode cRow_eightFrom 27 = .ok (.iinc 4 1, 3) := by decide +kernel
theorem dRow_eightFrom_30 : decode cRow_eightFrom 30 = .ok (.goto (-25), 3) := by decide +kernel
theorem dRow_eightFrom_33 : decode cRow_eightFrom 33 = .ok (.lload_n 2, 1) := by decide +kernel
theorem dRow_eightFrom_34 : decode cRow_eightFrom 34 = .ok (.lreturn, 1) := by decide +kernel
theorem dLR_init_0 : decode cLR_init 0 = .ok (.aload_n 0, 1) := by decide +kernel
theorem dLR_init_1 : decode cLR_init 1 = .ok (.invokespecial 3, 3) := by decide +kernel
theorem dLR_init_4 : decode cLR_init 4 = .ok (.aload_n 0, 1) := by decide +kernel
theorem dLR_init_5 : decode cLR_init 5 = .ok (.new 9, 3) := by decide +kernel
theorem dLR_init_8 : decode cLR_init 8 = .ok (.dup, 1) := by decide +kernel
theorem dLR_init_9 : decode cLR_init 9 = .ok (.sipush 202, 3) := by decide +kernel
theorem dLR_init_12 : decode cLR_init 12 = .ok (.invokespecial 11, 3) := by decide +kernel
theorem dLR_init_15 : decode cLR_init 15 = .ok (.putfield 14, 3) := by decide +kernel
theorem dLR_init_18 : decode cLR_init 18 = .ok (.return_, 1) := by decide +kernel
theorem dLR_endsWith_0 : decode cLR_endsWith 0 = .ok (.iload_n 1, 1) := by decide +kernel
theorem dLR_endsWith_1 : decode cLR_endsWith 1 = .ok (.bipush 10, 2) := by decide +kernel
theorem dLR_endsWith_3 : decode cLR_endsWith 3 = .ok (.if_icmp .ne 19, 3) := by decide +kernel
theorem dLR_endsWith_6 : decode cLR_endsWith 6 = .ok (.aload_n 0, 1) := by decide +kernel
theorem dLR_endsWith_7 : decode cLR_endsWith 7 = .ok (.getfield 23, 3) := by decide +kernel
theorem dLR_endsWith_10 : decode cLR_endsWith 10 = .ok (.ifCond .eq 12, 3) := by decide +kernel
theorem dLR_endsWith_13 : decode cLR_endsWith 13 = .ok (.aload_n 0, 1) := by decide +kernel
theorem dLR_endsWith_14 : decode cLR_endsWith 14 = .ok (.getfield 14, 3) := by decide +kernel
theorem dLR_endsWith_17 : decode cLR_endsWith 17 = .ok (.invokevirtual 27, 3) := by decide +kernel
theorem dLR_endsWith_20 : decode cLR_endsWith 20 = .ok (.iconst 1, 1) := by decide +kernel
theorem dLR_endsWith_21 : decode cLR_endsWith 21 = .ok (.ireturn, 1) := by decide +kernel
theorem dLR_endsWith_22 : decode cLR_endsWith 22 = .ok (.aload_n 0, 1) := by decide +kernel
theorem dLR_endsWith_23 : decode cLR_endsWith 23 = .ok (.getfield 14, 3) := by decide +kernel
theorem dLR_endsWith_26 : decode cLR_endsWith 26 = .ok (.iload_n 1, 1) := by decide +kernel
theorem dLR_endsWith_27 : decode cLR_endsWith 27 = .ok (.invokevirtual 30, 3) := by decide +kernel
theorem dLR_endsWith_30 : decode cLR_endsWith 30 = .ok (.aload_n 0, 1) := by decide +kernel
theorem dLR_endsWith_31 : decode cLR_endsWith 31 = .ok (.iload_n 1, 1) := by decide +kernel
theorem dLR_endsWith_32 : decode cLR_endsWith 32 = .ok (.bipush 13, 2) := by decide +kernel
theorem dLR_endsWith_34 : decode cLR_endsWith 34 = .ok (.if_icmp .ne 7, 3) := by decide +kernel
theorem dLR_endsWith_37 : decode cLR_endsWith 37 = .ok (.iconst 1, 1) := by decide +kernel
theorem dLR_endsWith_38 : decode cLR_endsWith 38 = .ok (.goto 4, 3) := by decide +kernel
theorem dLR_endsWith_41 : decode cLR_endsWith 41 = .ok (.iconst 0, 1) := by decide +kernel
theorem dLR_endsWith_42 : decode cLR_endsWith 42 = .ok (.putfield 23, 3) := by decide +kernel
theorem dLR_endsWith_45 : decode cLR_endsWith 45 = .ok (.iconst 0, 1) := by decide +kernel
theorem dLR_endsWith_46 : decode cLR_endsWith 46 = .ok (.ireturn, 1) := by decide +kernel
theorem dLR_row_0 : decode cLR_row 0 = .ok (.aload_n 0, 1) := by decide +kernel
theorem dLR_row_1 : decode cLR_row 1 = .ok (.getfield 14, 3) := by decide +kernel
theorem dLR_row_4 : decode cLR_row 4 = .ok (.areturn, 1) := by decide +kernel
theorem dLR_clear_0 : decode cLR_clear 0 = .ok (.aload_n 0, 1) := by decide +kernel
theorem dLR_clear_1 : decode cLR_clear 1 = .ok (.getfield 14, 3) := by decide +kernel
theorem dLR_clear_4 : decode cLR_clear 4 = .ok (.invokevirtual 20, 3) := by decide +kernel
theorem dLR_clear_7 : decode cLR_clear 7 = .ok (.aload_n 0, 1) := by decide +kernel
theorem dLR_clear_8 : decode cLR_clear 8 = .ok (.iconst 0, 1) := by decide +kernel
theorem dLR_clear_9 : decode cLR_clear 9 = .ok (.putfield 23, 3) := by decide +kernel
theorem dLR_clear_12 : decode cLR_clear 12 = .ok (.return_, 1) := by decide +kernel
theorem dTR_init_0 : decode cTR_init 0 = .ok (.aload_n 0, 1) := by decide +kernel
theorem dTR_init_1 : decode cTR_init 1 = .ok (.invokespecial 3, 3) := by decide +kernel
theorem dTR_init_4 : decode cTR_init 4 = .ok (.aload_n 0, 1) := by decide +kernel
theorem dTR_init_5 : decode cTR_init 5 = .ok (.new 9, 3) := by decide +kernel
theorem dTR_init_8 : decode cTR_init 8 = .ok (.dup, 1) := by decide +kernel
theorem dTR_init_9 : decode cTR_init 9 = .ok (.sipush 202, 3) := by decide +kernel
theorem dTR_init_12 : decode cTR_init 12 = .ok (.invokespecial 11, 3) := by decide +kernel
theorem dTR_init_15 : decode cTR_init 15 = .ok (.putfield 14, 3) := by decide +kernel
theorem dTR_init_18 : decode cTR_init 18 = .ok (.return_, 1) := by decide +kernel
theorem dTR_endsWith_0 : decode cTR_endsWith 0 = .ok (.iload_n 1, 1) := by decide +kernel
theorem dTR_endsWith_1 : decode cTR_endsWith 1 = .ok (.bipush 10, 2) := by decide +kernel
theorem dTR_endsWith_3 : decode cTR_endsWith 3 = .ok (.if_icmp .ne 14, 3) := by decide +kernel
theorem dTR_endsWith_6 : decode cTR_endsWith 6 = .ok (.aload_n 0, 1) := by decide +kernel
theorem dTR_endsWith_7 : decode cTR_endsWith 7 = .ok (.getfield 26, 3) := by decide +kernel
theorem dTR_endsWith_10 : decode cTR_endsWith 10 = .ok (.ifCond .eq 7, 3) := by decide +kernel
theorem dTR_endsWith_13 : decode cTR_endsWith 13 = .ok (.iconst 1, 1) := by decide +kernel
theorem dTR_endsWith_14 : decode cTR_endsWith 14 = .ok (.goto 4, 3) := by decide +kernel
theorem dTR_endsWith_17 : decode cTR_endsWith 17 = .ok (.iconst 0, 1) := by decide +kernel
theorem dTR_endsWith_18 : decode cTR_endsWith 18 = .ok (.istore_n 2, 1) := by decide +kernel
theorem dTR_endsWith_19 : decode cTR_endsWith 19 = .ok (.iload_n 2, 1) := by decide +kernel
theorem dTR_endsWith_20 : decode cTR_endsWith 20 = .ok (.ifCond .eq 27, 3) := by decide +kernel
theorem dTR_endsWith_23 : decode cTR_endsWith 23 = .ok (.aload_n 0, 1) := by decide +kernel
theorem dTR_endsWith_24 : decode cTR_endsWith 24 = .ok (.getfield 30, 3) := by decide +kernel
theorem dTR_endsWith_27 : decode cTR_endsWith 27 = .ok (.ifCond .eq 20, 3) := by decide +kernel
theorem dTR_endsWith_30 : decode cTR_endsWith 30 = .ok (.aload_n 0, 1) := by decide +kernel
theorem dTR_endsWith_31 : decode cTR_endsWith 31 = .ok (.getfield 33, 3) := by decide +kernel
theorem dTR_endsWith_34 : decode cTR_endsWith 34 = .ok (.iconst 2, 1) := by decide +kernel
theorem dTR_endsWith_35 : decode cTR_endsWith 35 = .ok (.if_icmp .ne 12, 3) := by decide +kernel
theorem dTR_endsWith_38 : decode cTR_endsWith 38 = .ok (.aload_n 0, 1) := by decide +kernel
theorem dTR_endsWith_39 : decode cTR_endsWith 39 = .ok (.getfield 14, 3) := by decide +kernel
theorem dTR_endsWith_42 : decode cTR_endsWith 42 = .ok (.invokevirtual 37, 3) := by decide +kernel
theorem dTR_endsWith_45 : decode cTR_endsWith 45 = .ok (.iconst 1, 1) := by decide +kernel
theorem dTR_endsWith_46 : decode cTR_endsWith 46 = .ok (.ireturn, 1) := by decide +kernel
theorem dTR_endsWith_47 : decode cTR_endsWith 47 = .ok (.aload_n 0, 1) := by decide +kernel
theorem dTR_endsWith_48 : decode cTR_endsWith 48 = .ok (.getfield 33, 3) := by decide +kernel
theorem dTR_endsWith_51 : decode cTR_endsWith 51 = .ok (.ifCond .ne 13, 3) := by decide +kernel
theorem dTR_endsWith_54 : decode cTR_endsWith 54 = .ok (.iload_n 1, 1) := by decide +kernel
theorem dTR_endsWith_55 : decode cTR_endsWith 55 = .ok (.bipush 46, 2) := by decide +kernel
theorem dTR_endsWith_57 : decode cTR_endsWith 57 = .ok (.if_icmp .ne 7, 3) := by decide +kernel
theorem dTR_endsWith_60 : decode cTR_endsWith 60 = .ok (.iconst 1, 1) := by decide +kernel
theorem dTR_endsWith_61 : decode cTR_endsWith 61 = .ok (.goto 4, 3) := by decide +kernel
theorem dTR_endsWith_64 : decode cTR_endsWith 64 = .ok (.iconst 0, 1) := by decide +kernel
theorem dTR_endsWith_65 : decode cTR_endsWith 65 = .ok (.istore_n 3, 1) := by decide +kernel
theorem dTR_endsWith_66 : decode cTR_endsWith 66 = .ok (.iload_n 3, 1) := by decide +kernel
theorem dTR_endsWith_67 : decode cTR_endsWith 67 = .ok (.ifCond .ne 11, 3) := by decide +kernel
theorem dTR_endsWith_70 : decode cTR_endsWith 70 = .ok (.aload_n 0, 1) := by decide +kernel
theorem dTR_endsWith_71 : decode cTR_endsWith 71 = .ok (.getfield 14, 3) := by decide +kernel
theorem dTR_endsWith_74 : decode cTR_endsWith 74 = .ok (.iload_n 1, 1) := by decide +kernel
theorem dTR_endsWith_75 : decode cTR_endsWith 75 = .ok (.invokevirtual 40, 3) := by decide +kernel
theorem dTR_endsWith_78 : decode cTR_endsWith 78 = .ok (.iload_n 2, 1) := by decide +kernel
theorem dTR_endsWith_79 : decode cTR_endsWith 79 = .ok (.ifCond .eq 10, 3) := by decide +kernel
theorem dTR_endsWith_82 : decode cTR_endsWith 82 = .ok (.aload_n 0, 1) := by decide +kernel
theorem dTR_endsWith_83 : decode cTR_endsWith 83 = .ok (.invokevirtual 23, 3) := by decide +kernel
theorem dTR_endsWith_86 : decode cTR_endsWith 86 = .ok (.goto 48, 3) := by decide +kernel
theorem dTR_endsWith_89 : decode cTR_endsWith 89 = .ok (.aload_n 0, 1) := by decide +kernel
theorem dTR_endsWith_90 : decode cTR_endsWith 90 = .ok (.aload_n 0, 1) := by decide +kernel
theorem dTR_endsWith_91 : decode cTR_endsWith 91 = .ok (.getfield 30, 3) := by decide +kernel
theorem dTR_endsWith_94 : decode cTR_endsWith 94 = .ok (.ifCond .ne 7, 3) := by decide +kernel
theorem dTR_endsWith_97 : decode cTR_endsWith 97 = .ok (.iload_n 3, 1) := by decide +kernel
theorem dTR_endsWith_98 : decode cTR_endsWith 98 = .ok (.ifCond .eq 7, 3) := by decide +kernel
theorem dTR_endsWith_101 : decode cTR_endsWith 101 = .ok (.iconst 1, 1) := by decide +kernel
theorem dTR_endsWith_102 : decode cTR_endsWith 102 = .ok (.goto 4, 3) := by decide +kernel
theorem dTR_endsWith_105 : decode cTR_endsWith 105 = .ok (.iconst 0, 1) := by decide +kernel
theorem dTR_endsWith_106 : decode cTR_endsWith 106 = .ok (.putfield 30, 3) := by decide +kernel
theorem dTR_endsWith_109 : decode cTR_endsWith 109 = .ok (.aload_n 0, 1) := by decide +kernel
theorem dTR_endsWith_110 : decode cTR_endsWith 110 = .ok (.iload_n 1, 1) := by decide +kernel
theorem dTR_endsWith_111 : decode cTR_endsWith 111 = .ok (.bipush 13, 2) := by decide +kernel
theorem dTR_endsWith_113 : decode cTR_endsWith 113 = .ok (.if_icmp .ne 7, 3) := by decide +kernel
theorem dTR_endsWith_116 : decode cTR_endsWith 116 = .ok (.iconst 1, 1) := by decide +kernel
theorem dTR_endsWith_117 : decode cTR_endsWith 117 = .ok (.goto 4, 3) := by decide +kernel
theorem dTR_endsWith_120 : decode cTR_endsWith 120 = .ok (.iconst 0, 1) := by decide +kernel
theorem dTR_endsWith_121 : decode cTR_endsWith 121 = .ok (.putfield 26, 3) := by decide +kernel
theorem dTR_endsWith_124 : decode cTR_endsWith 124 = .ok (.aload_n 0, 1) := by decide +kernel
theorem dTR_endsWith_125 : decode cTR_endsWith 125 = .ok (.dup, 1) := by decide +kernel
theorem dTR_endsWith_126 : decode cTR_endsWith 126 = .ok (.getfield 33, 3) := by decide +kernel
theorem dTR_endsWith_129 : decode cTR_endsWith 129 = .ok (.iconst 1, 1) := by decide +kernel
theorem dTR_endsWith_130 : decode cTR_endsWith 130 = .ok (.iadd, 1) := by decide +kernel
theorem dTR_endsWith_131 : decode cTR_endsWith 131 = .ok (.putfield 33, 3) := by decide +kernel
theorem dTR_endsWith_134 : decode cTR_endsWith 134 = .ok (.iconst 0, 1) := by decide +kernel
theorem dTR_endsWith_135 : decode cTR_endsWith 135 = .ok (.ireturn, 1) := by decide +kernel
theorem dTR_startLine_0 : decode cTR_startLine 0 = .ok (.aload_n 0, 1) := by decide +kernel
theorem dTR_startLine_1 : decode cTR_startLine 1 = .ok (.iconst 0, 1) := by decide +kernel
theorem dTR_startLine_2 : decode cTR_startLine 2 = .ok (.putfield 26, 3) := by decide +kernel
theorem dTR_startLine_5 : decode cTR_startLine 5 = .ok (.aload_n 0, 1) := by decide +kernel
theorem dTR_startLine_6 : decode cTR_startLine 6 = .ok (.iconst 0, 1) := by decide +kernel
theorem dTR_startLine_7 : decode cTR_startLine 7 = .ok (.putfield 30, 3) := by decide +kernel
theorem dTR_startLine_10 : decode cTR_startLine 10 = .ok (.aload_n 0, 1) := by decide +kernel
theorem dTR_startLine_11 : decode cTR_startLine 11 = .ok (.iconst 0, 1) := by decide +kernel
theorem dTR_startLine_12 : decode cTR_startLine 12 = .ok (.putfield 33, 3) := by decide +kernel
theorem dTR_startLine_15 : decode cTR_startLine 15 = .ok (.return_, 1) := by decide +kernel
theorem dTR_row_0 : decode cTR_row 0 = .ok (.aload_n 0, 1) := by decide +kernel
theorem dTR_row_1 : decode cTR_row 1 = .ok (.getfield 14, 3) := by decide +kernel
theorem dTR_row_4 : decode cTR_row 4 = .ok (.areturn, 1) := by decide +kernel
theorem dTR_clear_0 : decode cTR_clear 0 = .ok (.aload_n 0, 1) := by decide +kernel
theorem dTR_clear_1 : decode cTR_clear 1 = .ok (.getfield 14, 3) := by decide +kernel
theorem dTR_clear_4 : decode cTR_clear 4 = .ok (.invokevirtual 20, 3) := by decide +kernel
theorem dTR_clear_7 : decode cTR_clear 7 = .ok (.aload_n 0, 1) := by decide +kernel
theorem dTR_clear_8 : decode cTR_clear 8 = .ok (.invokevirtual 23, 3) := by decide +kernel
theorem dTR_clear_11 : decode cTR_clear 11 = .ok (.return_, 1) := by decide +kernel
theorem dEnv_init_0 : decode cEnv_init 0 = .ok (.aload_n 0, 1) := by decide +kernel
theorem dEnv_init_1 : decode cEnv_init 1 = .ok (.invokespecial 3, 3) := by decide +kernel
theorem dEnv_init_4 : decode cEnv_init 4 = .ok (.aload_n 0, 1) := by decide +kernel
theorem dEnv_init_5 : decode cEnv_init 5 = .ok (.new 9, 3) := by decide +kernel
theorem dEnv_init_8 : decode cEnv_init 8 = .ok (.dup, 1) := by decide +kernel
theorem dEnv_init_9 : decode cEnv_init 9 = .ok (.bipush 100, 2) := by decide +kernel
theorem dEnv_init_11 : decode cEnv_init 11 = .ok (.invokespecial 11, 3) := by decide +kernel
theorem dEnv_init_14 : decode cEnv_init 14 = .ok (.putfield 14, 3) := by decide +kernel
theorem dEnv_init_17 : decode cEnv_init 17 = .ok (.aload_n 0, 1) := by decide +kernel
theorem dEnv_init_18 : decode cEnv_init 18 = .ok (.iconst 4, 1) := by decide +kernel
theorem dEnv_init_19 : decode cEnv_init 19 = .ok (.anewarray 9, 3) := by decide +kernel
theorem dEnv_init_22 : decode cEnv_init 22 = .ok (.putfield 20, 3) := by decide +kernel
theorem dEnv_init_25 : decode cEnv_init 25 = .ok (.iconst 0, 1) := by decide +kernel
theorem dEnv_init_26 : decode cEnv_init 26 = .ok (.istore_n 1, 1) := by decide +kernel
theorem dEnv_init_27 : decode cEnv_init 27 = .ok (.iload_n 1, 1) := by decide +kernel
theorem dEnv_init_28 : decode cEnv_init 28 = .ok (.aload_n 0, 1) := by decide +kernel
theorem dEnv_init_29 : decode cEnv_init 29 = .ok (.getfield 20, 3) := by decide +kernel
theorem dEnv_init_32 : decode cEnv_init 32 = .ok (.arraylength, 1) := by decide +kernel
theorem dEnv_init_33 : decode cEnv_init 33 = .ok (.if_icmp .ge 24, 3) := by decide +kernel
theorem dEnv_init_36 : decode cEnv_init 36 = .ok (.aload_n 0, 1) := by decide +kernel
theorem dEnv_init_37 : decode cEnv_init 37 = .ok (.getfield 20, 3) := by decide +kernel
theorem dEnv_init_40 : decode cEnv_init 40 = .ok (.iload_n 1, 1) := by decide +kernel
theorem dEnv_init_41 : decode cEnv_init 41 = .ok (.new 9, 3) := by decide +kernel
theorem dEnv_init_44 : decode cEnv_init 44 = .ok (.dup, 1) := by decide +kernel
theorem dEnv_init_45 : decode cEnv_init 45 = .ok (.bipush 100, 2) := by decide +kernel
theorem dEnv_init_47 : decode cEnv_init 47 = .ok (.invokespecial 11, 3) := by decide +kernel
theorem dEnv_init_50 : decode cEnv_init 50 = .ok (.aastore, 1) := by decide +kernel
theorem dEnv_init_51 : decode cEnv_init 51 = .ok (.iinc 1 1, 3) := by decide +kernel
theorem dEnv_init_54 : decode cEnv_init 54 = .ok (.goto (-27), 3) := by decide +kernel
theorem dEnv_init_57 : decode cEnv_init 57 = .ok (.return_, 1) := by decide +kernel
theorem dEnv_recipients_0 : decode cEnv_recipients 0 = .ok (.aload_n 0, 1) := by decide +kernel
theorem dEnv_recipients_1 : decode cEnv_recipients 1 = .ok (.getfield 28, 3) := by decide +kernel
theorem dEnv_recipients_4 : decode cEnv_recipients 4 = .ok (.ireturn, 1) := by decide +kernel
theorem dEnv_recipientOrNull_0 : decode cEnv_recipientOrNull 0 = .ok (.iload_n 1, 1) := by decide +kernel
theorem dEnv_recipientOrNull_1 : decode cEnv_recipientOrNull 1 = .ok (.ifCond .lt 29, 3) := by decide +kernel
theorem dEnv_recipientOrNull_4 : decode cEnv_recipientOrNull 4 = .ok (.iload_n 1, 1) := by decide +kernel
theorem dEnv_recipientOrNull_5 : decode cEnv_recipientOrNull 5 = .ok (.aload_n 0, 1) := by decide +kernel
theorem dEnv_recipientOrNull_6 : decode cEnv_recipientOrNull 6 = .ok (.getfield 28, 3) := by decide +kernel
theorem dEnv_recipientOrNull_9 : decode cEnv_recipientOrNull 9 = .ok (.if_icmp .ge 21, 3) := by decide +kernel
theorem dEnv_recipientOrNull_12 : decode cEnv_recipientOrNull 12 = .ok (.iload_n 1, 1) := by decide +kernel
theorem dEnv_recipientOrNull_13 : decode cEnv_recipientOrNull 13 = .ok (.aload_n 0, 1) := by decide +kernel
theorem dEnv_recipientOrNull_14 : decode cEnv_recipientOrNull 14 = .ok (.getfield 20, 3) := by decide +kernel
theorem dEnv_recipientOrNull_17 : decode cEnv_recipientOrNull 17 = .ok (.arraylength, 1) := by decide +kernel
theorem dEnv_recipientOrNull_18 : decode cEnv_recipientOrNull 18 = .ok (.if_icmp .ge 12, 3) := by decide +kernel
theorem dEnv_recipientOrNull_21 : decode cEnv_recipientOrNull 21 = .ok (.aload_n 0, 1) := by decide +kernel
theorem dEnv_recipientOrNull_22 : decode cEnv_recipientOrNull 22 = .ok (.getfield 20, 3) := by decide +kernel
theorem dEnv_recipientOrNull_25 : decode cEnv_recipientOrNull 25 = .ok (.iload_n 1, 1) := by decide +kernel
theorem dEnv_recipientOrNull_26 : decode cEnv_recipientOrNull 26 = .ok (.aaload, 1) := by decide +kernel
theorem dEnv_recipientOrNull_27 : decode cEnv_recipientOrNull 27 = .ok (.goto 4, 3) := by decide +kernel
theorem dEnv_recipientOrNull_30 : decode cEnv_recipientOrNull 30 = .ok (.aconst_null, 1) := by decide +kernel
theorem dEnv_recipientOrNull_31 : decode cEnv_recipientOrNull 31 = .ok (.areturn, 1) := by decide +kernel
theorem dEnv_sender_0 : decode cEnv_sender 0 = .ok (.aload_n 0, 1) := by decide +kernel
theorem dEnv_sender_1 : decode cEnv_sender 1 = .ok (.getfield 14, 3) := by decide +kernel
theorem dEnv_sender_4 : decode cEnv_sender 4 = .ok (.areturn, 1) := by decide +kernel
theorem dEnv_clear_0 : decode cEnv_clear 0 = .ok (.aload_n 0, 1) := by decide +kernel
theorem dEnv_clear_1 : decode cEnv_clear 1 = .ok (.iconst 0, 1) := by decide +kernel
theorem dEnv_clear_2 : decode cEnv_clear 2 = .ok (.putfield 24, 3) := by decide +kernel
theorem dEnv_clear_5 : decode cEnv_clear 5 = .ok (.aload_n 0, 1) := by decide +kernel
theorem dEnv_clear_6 : decode cEnv_clear 6 = .ok (.iconst 0, 1) := by decide +kernel
theorem dEnv_clear_7 : decode cEnv_clear 7 = .ok (.putfield 28, 3) := by decide +kernel
theorem dEnv_clear_10 : decode cEnv_clear 10 = .ok (.return_, 1) := by decide +kernel
theorem dEnv_hasSender_0 : decode cEnv_hasSender 0 = .ok (.aload_n 0, 1) := by decide +kernel
theorem dEnv_hasSender_1 : decode cEnv_hasSender 1 = .ok (.getfield 24, 3) := by decide +kernel
theorem dEnv_hasSender_4 : decode cEnv_hasSender 4 = .ok (.ireturn, 1) := by decide +kernel
theorem dEnv_setSender_0 : decode cEnv_setSender 0 = .ok (.aload_n 0, 1) := by decide +kernel
theorem dEnv_setSender_1 : decode cEnv_setSender 1 = .ok (.getfield 14, 3) := by decide +kernel
theorem dEnv_setSender_4 : decode cEnv_setSender 4 = .ok (.invokevirtual 32, 3) := by decide +kernel
theorem dEnv_setSender_7 : decode cEnv_setSender 7 = .ok (.aload_n 0, 1) := by decide +kernel
theorem dEnv_setSender_8 : decode cEnv_setSender 8 = .ok (.getfield 14, 3) := by decide +kernel
theorem dEnv_setSender_11 : decode cEnv_setSender 11 = .ok (.aload_n 1, 1) := by decide +kernel
theorem dEnv_setSender_12 : decode cEnv_setSender 12 = .ok (.iload_n 2, 1) := by decide +kernel
theorem dEnv_setSender_13 : decode cEnv_setSender 13 = .ok (.iload_n 3, 1) := by decide +kernel
theorem dEnv_setSender_14 : decode cEnv_setSender 14 = .ok (.invokevirtual 35, 3) := by decide +kernel
theorem dEnv_setSender_17 : decode cEnv_setSender 17 = .ok (.aload_n 0, 1) := by decide +kernel
theorem dEnv_setSender_18 : decode cEnv_setSender 18 = .ok (.iconst 1, 1) := by decide +kernel
theorem dEnv_setSender_19 : decode cEnv_setSender 19 = .ok (.putfield 24, 3) := by decide +kernel
theorem dEnv_setSender_22 : decode cEnv_setSender 22 = .ok (.return_, 1) := by decide +kernel
theorem dEnv_addRecipient_0 : decode cEnv_addRecipient 0 = .ok (.aload_n 0, 1) := by decide +kernel
theorem dEnv_addRecipient_1 : decode cEnv_addRecipient 1 = .ok (.getfield 28, 3) := by decide +kernel
theorem dEnv_addRecipient_4 : decode cEnv_addRecipient 4 = .ok (.aload_n 0, 1) := by decide +kernel
theorem dEnv_addRecipient_5 : decode cEnv_addRecipient 5 = .ok (.getfield 20, 3) := by decide +kernel
theorem dEnv_addRecipient_8 : decode cEnv_addRecipient 8 = .ok (.arraylength, 1) := by decide +kernel
theorem dEnv_addRecipient_9 : decode cEnv_addRecipient 9 = .ok (.if_icmp .ge 37, 3) := by decide +kernel
theorem dEnv_addRecipient_12 : decode cEnv_addRecipient 12 = .ok (.aload_n 0, 1) := by decide +kernel
theorem dEnv_addRecipient_13 : decode cEnv_addRecipient 13 = .ok (.getfield 20, 3) := by decide +kernel
theorem dEnv_addRecipient_16 : decode cEnv_addRecipient 16 = .ok (.aload_n 0, 1) := by decide +kernel
theorem dEnv_addRecipient_17 : decode cEnv_addRecipient 17 = .ok (.getfield 28, 3) := by decide +kernel
theorem dEnv_addRecipient_20 : decode cEnv_addRecipient 20 = .ok (.aaload, 1) := by decide +kernel
theorem dEnv_addRecipient_21 : decode cEnv_addRecipient 21 = .ok (.astore 4, 2) := by decide +kernel
theorem dEnv_addRecipient_23 : decode cEnv_addRecipient 23 = .ok (.aload 4, 2) := by decide +kernel
theorem dEnv_addRecipient_25 : decode cEnv_addRecipient 25 = .ok (.invokevirtual 32, 3) := by decide +kernel
theorem dEnv_addRecipient_28 : decode cEnv_addRecipient 28 = .ok (.aload 4, 2) := by decide +kernel
theorem dEnv_addRecipient_30 : decode cEnv_addRecipient 30 = .ok (.aload_n 1, 1) := by decide +kernel
theorem dEnv_addRecipient_31 : decode cEnv_addRecipient 31 = .ok (.iload_n 2, 1) := by decide +kernel
theorem dEnv_addRecipient_32 : decode cEnv_addRecipient 32 = .ok (.iload_n 3, 1) := by decide +kernel
theorem dEnv_addRecipient_33 : decode cEnv_addRecipient 33 = .ok (.invokevirtual 35, 3) := by decide +kernel
theorem dEnv_addRecipient_36 : decode cEnv_addRecipient 36 = .ok (.aload_n 0, 1) := by decide +kernel
theorem dEnv_addRecipient_37 : decode cEnv_addRecipient 37 = .ok (.dup, 1) := by decide +kernel
theorem dEnv_addRecipient_38 : decode cEnv_addRecipient 38 = .ok (.getfield 28, 3) := by decide +kernel
theorem dEnv_addRecipient_41 : decode cEnv_addRecipient 41 = .ok (.iconst 1, 1) := by decide +kernel
theorem dEnv_addRecipient_42 : decode cEnv_addRecipient 42 = .ok (.iadd, 1) := by decide +kernel
theorem dEnv_addRecipient_43 : decode cEnv_addRecipient 43 = .ok (.putfield 28, 3) := by decide +kernel
theorem dEnv_addRecipient_46 : decode cEnv_addRecipient 46 = .ok (.return_, 1) := by decide +kernel
theorem dLet_init_0 : decode cLet_init 0 = .ok (.aload_n 0, 1) := by decide +kernel
theorem dLet_init_1 : decode cLet_init 1 = .ok (.invokespecial 3, 3) := by decide +kernel
theorem dLet_init_4 : decode cLet_init 4 = .ok (.aload_n 0, 1) := by decide +kernel
theorem dLet_init_5 : decode cLet_init 5 = .ok (.new 9, 3) := by decide +kernel
theorem dLet_init_8 : decode cLet_init 8 = .ok (.dup, 1) := by decide +kernel
theorem dLet_init_9 : decode cLet_init 9 = .ok (.sipush 200, 3) := by decide +kernel
theorem dLet_init_12 : decode cLet_init 12 = .ok (.invokespecial 11, 3) := by decide +kernel
theorem dLet_init_15 : decode cLet_init 15 = .ok (.putfield 14, 3) := by decide +kernel
theorem dLet_init_18 : decode cLet_init 18 = .ok (.aload_n 0, 1) := by decide +kernel
theorem dLet_init_19 : decode cLet_init 19 = .ok (.new 9, 3) := by decide +kernel
theorem dLet_init_22 : decode cLet_init 22 = .ok (.dup, 1) := by decide +kernel
theorem dLet_init_23 : decode cLet_init 23 = .ok (.bipush 100, 2) := by decide +kernel
theorem dLet_init_25 : decode cLet_init 25 = .ok (.invokespecial 11, 3) := by decide +kernel
theorem dLet_init_28 : decode cLet_init 28 = .ok (.putfield 20, 3) := by decide +kernel
theorem dLet_init_31 : decode cLet_init 31 = .ok (.aload_n 0, 1) := by decide +kernel
theorem dLet_init_32 : decode cLet_init 32 = .ok (.new 9, 3) := by decide +kernel
theorem dLet_init_35 : decode cLet_init 35 = .ok (.dup, 1) := by decide +kernel
theorem dLet_init_36 : decode cLet_init 36 = .ok (.bipush 100, 2) := by decide +kernel
theorem dLet_init_38 : decode cLet_init 38 = .ok (.invokespecial 11, 3) := by decide +kernel
theorem dLet_init_41 : decode cLet_init 41 = .ok (.putfield 23, 3) := by decide +kernel
theorem dLet_init_44 : decode cLet_init 44 = .ok (.return_, 1) := by decide +kernel
theorem dLet_fill_0 : decode cLet_fill 0 = .ok (.aload_n 0, 1) := by decide +kernel
theorem dLet_fill_1 : decode cLet_fill 1 = .ok (.getfield 14, 3) := by decide +kernel
theorem dLet_fill_4 : decode cLet_fill 4 = .ok (.aload_n 1, 1) := by decide +kernel
theorem dLet_fill_5 : decode cLet_fill 5 = .ok (.iconst 0, 1) := by decide +kernel
theorem dLet_fill_6 : decode cLet_fill 6 = .ok (.aload_n 1, 1) := by decide +kernel
theorem dLet_fill_7 : decode cLet_fill 7 = .ok (.invokevirtual 26, 3) := by decide +kernel
theorem dLet_fill_10 : decode cLet_fill 10 = .ok (.invokevirtual 30, 3) := by decide +kernel
theorem dLet_fill_13 : decode cLet_fill 13 = .ok (.aload_n 0, 1) := by decide +kernel
theorem dLet_fill_14 : decode cLet_fill 14 = .ok (.getfield 20, 3) := by decide +kernel
theorem dLet_fill_17 : decode cLet_fill 17 = .ok (.aload_n 2, 1) := by decide +kernel
theorem dLet_fill_18 : decode cLet_fill 18 = .ok (.invokevirtual 34, 3) := by decide +kernel
theorem dLet_fill_21 : decode cLet_fill 21 = .ok (.iconst 0, 1) := by decide +kernel
theorem dLet_fill_22 : decode cLet_fill 22 = .ok (.aload_n 2, 1) := by decide +kernel
theorem dLet_fill_23 : decode cLet_fill 23 = .ok (.invokevirtual 34, 3) := by decide +kernel
theorem dLet_fill_26 : decode cLet_fill 26 = .ok (.invokevirtual 26, 3) := by decide +kernel
theorem dLet_fill_29 : decode cLet_fill 29 = .ok (.invokevirtual 30, 3) := by decide +kernel
theorem dLet_fill_32 : decode cLet_fill 32 = .ok (.aload_n 2, 1) := by decide +kernel
theorem dLet_fill_33 : decode cLet_fill 33 = .ok (.iconst 0, 1) := by decide +kernel
theorem dLet_fill_34 : decode cLet_fill 34 = .ok (.invokevirtual 39, 3) := by decide +kernel
theorem dLet_fill_37 : decode cLet_fill 37 = .ok (.astore_n 3, 1) := by decide +kernel
theorem dLet_fill_38 : decode cLet_fill 38 = .ok (.aload_n 3, 1) := by decide +kernel
theorem dLet_fill_39 : decode cLet_fill 39 = .ok (.ifnull 16, 3) := by decide +kernel
theorem dLet_fill_42 : decode cLet_fill 42 = .ok (.aload_n 0, 1) := by decide +kernel
theorem dLet_fill_43 : decode cLet_fill 43 = .ok (.getfield 23, 3) := by decide +kernel
theorem dLet_fill_46 : decode cLet_fill 46 = .ok (.aload_n 3, 1) := by decide +kernel
theorem dLet_fill_47 : decode cLet_fill 47 = .ok (.iconst 0, 1) := by decide +kernel
theorem dLet_fill_48 : decode cLet_fill 48 = .ok (.aload_n 3, 1) := by decide +kernel
theorem dLet_fill_49 : decode cLet_fill 49 = .ok (.invokevirtual 26, 3) := by decide +kernel
theorem dLet_fill_52 : decode cLet_fill 52 = .ok (.invokevirtual 30, 3) := by decide +kernel
theorem dLet_fill_55 : decode cLet_fill 55 = .ok (.aload_n 0, 1) := by decide +kernel
theorem dLet_fill_56 : decode cLet_fill 56 = .ok (.aload_n 2, 1) := by decide +kernel
theorem dLet_fill_57 : decode cLet_fill 57 = .ok (.invokevirtual 43, 3) := by decide +kernel
theorem dLet_fill_60 : decode cLet_fill 60 = .ok (.putfield 46, 3) := by decide +kernel
theorem dLet_fill_63 : decode cLet_fill 63 = .ok (.return_, 1) := by decide +kernel
theorem dLet_text_0 : decode cLet_text 0 = .ok (.aload_n 0, 1) := by decide +kernel
theorem dLet_text_1 : decode cLet_text 1 = .ok (.getfield 14, 3) := by decide +kernel
theorem dLet_text_4 : decode cLet_text 4 = .ok (.areturn, 1) := by decide +kernel
theorem dLet_recipients_0 : decode cLet_recipients 0 = .ok (.aload_n 0, 1) := by decide +kernel
theorem dLet_recipients_1 : decode cLet_recipients 1 = .ok (.getfield 46, 3) := by decide +kernel
theorem dLet_recipients_4 : decode cLet_recipients 4 = .ok (.ireturn, 1) := by decide +kernel
theorem dLet_sender_0 : decode cLet_sender 0 = .ok (.aload_n 0, 1) := by decide +kernel
theorem dLet_sender_1 : decode cLet_sender 1 = .ok (.getfield 20, 3) := by decide +kernel
theorem dLet_sender_4 : decode cLet_sender 4 = .ok (.areturn, 1) := by decide +kernel
theorem dLet_firstRecipient_0 : decode cLet_firstRecipient 0 = .ok (.aload_n 0, 1) := by decide +kernel
theorem dLet_firstRecipient_1 : decode cLet_firstRecipient 1 = .ok (.getfield 23, 3) := by decide +kernel
theorem dLet_firstRecipient_4 : decode cLet_firstRecipient 4 = .ok (.areturn, 1) := by decide +kernel
theorem dML_init_0 : decode cML_init 0 = .ok (.aload_n 0, 1) := by decide +kernel
theorem dML_init_1 : decode cML_init 1 = .ok (.invokespecial 1, 3) := by decide +kernel
theorem dML_init_4 : decode cML_init 4 = .ok (.aload_n 0, 1) := by decide +kernel
theorem dML_init_5 : decode cML_init 5 = .ok (.new 7, 3) := by decide +kernel
theorem dML_init_8 : decode cML_init 8 = .ok (.dup, 1) := by decide +kernel
theorem dML_init_9 : decode cML_init 9 = .ok (.sipush 400, 3) := by decide +kernel
theorem dML_init_12 : decode cML_init 12 = .ok (.invokespecial 11, 3) := by decide +kernel
theorem dML_init_15 : decode cML_init 15 = .ok (.putfield 14, 3) := by decide +kernel
theorem dML_init_18 : decode cML_init 18 = .ok (.aload_n 0, 1) := by decide +kernel
theorem dML_init_19 : decode cML_init 19 = .ok (.new 18, 3) := by decide +kernel
theorem dML_init_22 : decode cML_init 22 = .ok (.dup, 1) := by decide +kernel
theorem dML_init_23 : decode cML_init 23 = .ok (.invokespecial 20, 3) := by decide +kernel
theorem dML_init_26 : decode cML_init 26 = .ok (.putfield 21, 3) := by decide +kernel
theorem dML_init_29 : decode cML_init 29 = .ok (.aload_n 0, 1) := by decide +kernel
theorem dML_init_30 : decode cML_init 30 = .ok (.new 25, 3) := by decide +kernel
theorem dML_init_33 : decode cML_init 33 = .ok (.dup, 1) := by decide +kernel
theorem dML_init_34 : decode cML_init 34 = .ok (.invokespecial 27, 3) := by decide +kernel
theorem dML_init_37 : decode cML_init 37 = .ok (.putfield 28, 3) := by decide +kernel
theorem dML_init_40 : decode cML_init 40 = .ok (.aload_n 0, 1) := by decide +kernel
theorem dML_init_41 : decode cML_init 41 = .ok (.new 32, 3) := by decide +kernel
theorem dML_init_44 : decode cML_init 44 = .ok (.dup, 1) := by decide +kernel
theorem dML_init_45 : decode cML_init 45 = .ok (.invokespecial 34, 3) := by decide +kernel
theorem dML_init_48 : decode cML_init 48 = .ok (.putfield 35, 3) := by decide +kernel
theorem dML_init_51 : decode cML_init 51 = .ok (.aload_n 0, 1) := by decide +kernel
theorem dML_init_52 : decode cML_init 52 = .ok (.bipush 10, 2) := by decide +kernel
theorem dML_init_54 : decode cML_init 54 = .ok (.anewarray 39, 3) := by decide +kernel
theorem dML_init_57 : decode cML_init 57 = .ok (.putfield 41, 3) := by decide +kernel
theorem dML_init_60 : decode cML_init 60 = .ok (.iconst 0, 1) := by decide +kernel
theorem dML_init_61 : decode cML_init 61 = .ok (.istore_n 1, 1) := by decide +kernel
theorem dML_init_62 : decode cML_init 62 = .ok (.iload_n 1, 1) := by decide +kernel
theorem dML_init_63 : decode cML_init 63 = .ok (.aload_n 0, 1) := by decide +kernel
theorem dML_init_64 : decode cML_init 64 = .ok (.getfield 41, 3) := by decide +kernel
theorem dML_init_67 : decode cML_init 67 = .ok (.arraylength, 1) := by decide +kernel
theorem dML_init_68 : decode cML_init 68 = .ok (.if_icmp .ge 22, 3) := by decide +kernel
theorem dML_init_71 : decode cML_init 71 = .ok (.aload_n 0, 1) := by decide +kernel
theorem dML_init_72 : decode cML_init 72 = .ok (.getfield 41, 3) := by decide +kernel
theorem dML_init_75 : decode cML_init 75 = .ok (.iload_n 1, 1) := by decide +kernel
theorem dML_init_76 : decode cML_init 76 = .ok (.new 39, 3) := by decide +kernel
theorem dML_init_79 : decode cML_init 79 = .ok (.dup, 1) := by decide +kernel
theorem dML_init_80 : decode cML_init 80 = .ok (.invokespecial 45, 3) := by decide +kernel
theorem dML_init_83 : decode cML_init 83 = .ok (.aastore, 1) := by decide +kernel
theorem dML_init_84 : decode cML_init 84 = .ok (.iinc 1 1, 3) := by decide +kernel
theorem dML_init_87 : decode cML_init 87 = .ok (.goto (-25), 3) := by decide +kernel
theorem dML_init_90 : decode cML_init 90 = .ok (.aload_n 0, 1) := by decide +kernel
theorem dML_init_91 : decode cML_init 91 = .ok (.iconst 1, 1) := by decide +kernel
theorem dML_init_92 : decode cML_init 92 = .ok (.putfield 46, 3) := by decide +kernel
theorem dML_init_95 : decode cML_init 95 = .ok (.return_, 1) := by decide +kernel
theorem dML_send_0 : decode cML_send 0 = .ok (.iload_n 3, 1) := by decide +kernel
theorem dML_send_1 : decode cML_send 1 = .ok (.iconst 1, 1) := by decide +kernel
theorem dML_send_2 : decode cML_send 2 = .ok (.if_icmp .lt 16, 3) := by decide +kernel
theorem dML_send_5 : decode cML_send 5 = .ok (.iload_n 3, 1) := by decide +kernel
theorem dML_send_6 : decode cML_send 6 = .ok (.bipush 8, 2) := by decide +kernel
theorem dML_send_8 : decode cML_send 8 = .ok (.if_icmp .gt 10, 3) := by decide +kernel
theorem dML_send_11 : decode cML_send 11 = .ok (.aload_n 0, 1) := by decide +kernel
theorem dML_send_12 : decode cML_send 12 = .ok (.getfield 46, 3) := by decide +kernel
theorem dML_send_15 : decode cML_send 15 = .ok (.ifCond .ne 5, 3) := by decide +kernel
theorem dML_send_18 : decode cML_send 18 = .ok (.iconst 0, 1) := by decide +kernel
theorem dML_send_19 : decode cML_send 19 = .ok (.ireturn, 1) := by decide +kernel
theorem dML_send_20 : decode cML_send 20 = .ok (.iload_n 3, 1) := by decide +kernel
theorem dML_send_21 : decode cML_send 21 = .ok (.iconst 1, 1) := by decide +kernel
theorem dML_send_22 : decode cML_send 22 = .ok (.isub, 1) := by decide +kernel
theorem dML_send_23 : decode cML_send 23 = .ok (.istore 4, 2) := by decide +kernel
theorem dML_send_25 : decode cML_send 25 = .ok (.iload 4, 2) := by decide +kernel
theorem dML_send_27 : decode cML_send 27 = .ok (.ifCond .lt 32, 3) := by decide +kernel
theorem dML_send_30 : decode cML_send 30 = .ok (.aload_n 0, 1) := by decide +kernel
theorem dML_send_31 : decode cML_send 31 = .ok (.getfield 46, 3) := by decide +kernel
theorem dML_send_34 : decode cML_send 34 = .ok (.ifCond .eq 25, 3) := by decide +kernel
theorem dML_send_37 : decode cML_send 37 = .ok (.aload_n 0, 1) := by decide +kernel
theorem dML_send_38 : decode cML_send 38 = .ok (.lload_n 1, 1) := by decide +kernel
theorem dML_send_39 : decode cML_send 39 = .ok (.bipush 8, 2) := by decide +kernel
theorem dML_send_41 : decode cML_send 41 = .ok (.iload 4, 2) := by decide +kernel
theorem dML_send_43 : decode cML_send 43 = .ok (.imul, 1) := by decide +kernel
theorem dML_send_44 : decode cML_send 44 = .ok (.lushr, 1) := by decide +kernel
theorem dML_send_45 : decode cML_send 45 = .ok (.l2i, 1) := by decide +kernel
theorem dML_send_46 : decode cML_send 46 = .ok (.sipush 255, 3) := by decide +kernel
theorem dML_send_49 : decode cML_send 49 = .ok (.iand, 1) := by decide +kernel
theorem dML_send_50 : decode cML_send 50 = .ok (.invokevirtual 50, 3) := by decide +kernel
theorem dML_send_53 : decode cML_send 53 = .ok (.iinc 4 (-1), 3) := by decide +kernel
theorem dML_send_56 : decode cML_send 56 = .ok (.goto (-31), 3) := by decide +kernel
theorem dML_send_59 : decode cML_send 59 = .ok (.iconst 1, 1) := by decide +kernel
theorem dML_send_60 : decode cML_send 60 = .ok (.ireturn, 1) := by decide +kernel
theorem dML_takeByte_0 : decode cML_takeByte 0 = .ok (.aload_n 0, 1) := by decide +kernel
theorem dML_takeByte_1 : decode cML_takeByte 1 = .ok (.getfield 73, 3) := by decide +kernel
theorem dML_takeByte_4 : decode cML_takeByte 4 = .ok (.ifCond .eq 28, 3) := by decide +kernel
theorem dML_takeByte_7 : decode cML_takeByte 7 = .ok (.aload_n 0, 1) := by decide +kernel
theorem dML_takeByte_8 : decode cML_takeByte 8 = .ok (.getfield 28, 3) := by decide +kernel
theorem dML_takeByte_11 : decode cML_takeByte 11 = .ok (.iload_n 1, 1) := by decide +kernel
theorem dML_takeByte_12 : decode cML_takeByte 12 = .ok (.invokevirtual 111, 3) := by decide +kernel
theorem dML_takeByte_15 : decode cML_takeByte 15 = .ok (.ifCond .eq 50, 3) := by decide +kernel
theorem dML_takeByte_18 : decode cML_takeByte 18 = .ok (.aload_n 0, 1) := by decide +kernel
theorem dML_takeByte_19 : decode cML_takeByte 19 = .ok (.aload_n 0, 1) := by decide +kernel
theorem dML_takeByte_20 : decode cML_takeByte 20 = .ok (.getfield 28, 3) := by decide +kernel
theorem dML_takeByte_23 : decode cML_takeByte 23 = .ok (.invokevirtual 107, 3) := by decide +kernel
theorem dML_takeByte_26 : decode cML_takeByte 26 = .ok (.invokevirtual 115, 3) := by decide +kernel
theorem dML_takeByte_29 : decode cML_takeByte 29 = .ok (.goto 36, 3) := by decide +kernel
theorem dML_takeByte_32 : decode cML_takeByte 32 = .ok (.aload_n 0, 1) := by decide +kernel
theorem dML_takeByte_33 : decode cML_takeByte 33 = .ok (.getfield 21, 3) := by decide +kernel
theorem dML_takeByte_36 : decode cML_takeByte 36 = .ok (.iload_n 1, 1) := by decide +kernel
theorem dML_takeByte_37 : decode cML_takeByte 37 = .ok (.invokevirtual 119, 3) := by decide +kernel
theorem dML_takeByte_40 : decode cML_takeByte 40 = .ok (.ifCond .eq 25, 3) := by decide +kernel
theorem dML_takeByte_43 : decode cML_takeByte 43 = .ok (.aload_n 0, 1) := by decide +kernel
theorem dML_takeByte_44 : decode cML_takeByte 44 = .ok (.aload_n 0, 1) := by decide +kernel
theorem dML_takeByte_45 : decode cML_takeByte 45 = .ok (.aload_n 0, 1) := by decide +kernel
theorem dML_takeByte_46 : decode cML_takeByte 46 = .ok (.getfield 21, 3) := by decide +kernel
theorem dML_takeByte_49 : decode cML_takeByte 49 = .ok (.invokevirtual 110, 3) := by decide +kernel
theorem dML_takeByte_52 : decode cML_takeByte 52 = .ok (.invokevirtual 120, 3) := by decide +kernel
theorem dML_takeByte_55 : decode cML_takeByte 55 = .ok (.invokevirtual 124, 3) := by decide +kernel
theorem dML_takeByte_58 : decode cML_takeByte 58 = .ok (.aload_n 0, 1) := by decide +kernel
theorem dML_takeByte_59 : decode cML_takeByte 59 = .ok (.getfield 21, 3) := by decide +kernel
theorem dML_takeByte_62 : decode cML_takeByte 62 = .ok (.invokevirtual 76, 3) := by decide +kernel
theorem dML_takeByte_65 : decode cML_takeByte 65 = .ok (.return_, 1) := by decide +kernel
theorem dML_endText_0 : decode cML_endText 0 = .ok (.aload_n 1, 1) := by decide +kernel
theorem dML_endText_1 : decode cML_endText 1 = .ok (.invokevirtual 53, 3) := by decide +kernel
theorem dML_endText_4 : decode cML_endText 4 = .ok (.sipush 200, 3) := by decide +kernel
theorem dML_endText_7 : decode cML_endText 7 = .ok (.if_icmp .le 7, 3) := by decide +kernel
theorem dML_endText_10 : decode cML_endText 10 = .ok (.iconst 1, 1) := by decide +kernel
theorem dML_endText_11 : decode cML_endText 11 = .ok (.goto 4, 3) := by decide +kernel
theorem dML_endText_14 : decode cML_endText 14 = .ok (.iconst 0, 1) := by decide +kernel
theorem dML_endText_15 : decode cML_endText 15 = .ok (.istore_n 2, 1) := by decide +kernel
theorem dML_endText_16 : decode cML_endText 16 = .ok (.aload_n 0, 1) := by decide +kernel
theorem dML_endText_17 : decode cML_endText 17 = .ok (.getfield 102, 3) := by decide +kernel
theorem dML_endText_20 : decode cML_endText 20 = .ok (.aload_n 0, 1) := by decide +kernel
theorem dML_endText_21 : decode cML_endText 21 = .ok (.getfield 41, 3) := by decide +kernel
theorem dML_endText_24 : decode cML_endText 24 = .ok (.arraylength, 1) := by decide +kernel
theorem dML_endText_25 : decode cML_endText 25 = .ok (.if_icmp .lt 7, 3) := by decide +kernel
theorem dML_endText_28 : decode cML_endText 28 = .ok (.iconst 1, 1) := by decide +kernel
theorem dML_endText_29 : decode cML_endText 29 = .ok (.goto 4, 3) := by decide +kernel
theorem dML_endText_32 : decode cML_endText 32 = .ok (.iconst 0, 1) := by decide +kernel
theorem dML_endText_33 : decode cML_endText 33 = .ok (.istore_n 3, 1) := by decide +kernel
theorem dML_endText_34 : decode cML_endText 34 = .ok (.iconst 0, 1) := by decide +kernel
theorem dML_endText_35 : decode cML_endText 35 = .ok (.istore 4, 2) := by decide +kernel
theorem dML_endText_37 : decode cML_endText 37 = .ok (.iload 4, 2) := by decide +kernel
theorem dML_endText_39 : decode cML_endText 39 = .ok (.aload_n 0, 1) := by decide +kernel
theorem dML_endText_40 : decode cML_endText 40 = .ok (.getfield 35, 3) := by decide +kernel
theorem dML_endText_43 : decode cML_endText 43 = .ok (.invokevirtual 106, 3) := by decide +kernel
theorem dML_endText_46 : decode cML_endText 46 = .ok (.if_icmp .ge 57, 3) := by decide +kernel
theorem dML_endText_49 : decode cML_endText 49 = .ok (.aload_n 0, 1) := by decide +kernel
theorem dML_endText_50 : decode cML_endText 50 = .ok (.getfield 35, 3) := by decide +kernel
theorem dML_endText_53 : decode cML_endText 53 = .ok (.iload 4, 2) := by decide +kernel
theorem dML_endText_55 : decode cML_endText 55 = .ok (.invokevirtual 250, 3) := by decide +kernel
theorem dML_endText_58 : decode cML_endText 58 = .ok (.astore 5, 2) := by decide +kernel
theorem dML_endText_60 : decode cML_endText 60 = .ok (.iload_n 2, 1) := by decide +kernel
theorem dML_endText_61 : decode cML_endText 61 = .ok (.ifCond .eq 12, 3) := by decide +kernel
theorem dML_endText_64 : decode cML_endText 64 = .ok (.aload_n 0, 1) := by decide +kernel
theorem dML_endText_65 : decode cML_endText 65 = .ok (.ldc 223, 2) := by decide +kernel
theorem dML_endText_67 : decode cML_endText 67 = .ok (.invokevirtual 124, 3) := by decide +kernel
theorem dML_endText_70 : decode cML_endText 70 = .ok (.goto 27, 3) := by decide +kernel
theorem dML_endText_73 : decode cML_endText 73 = .ok (.iload_n 3, 1) := by decide +kernel
theorem dML_endText_74 : decode cML_endText 74 = .ok (.ifCond .eq 12, 3) := by decide +kernel
theorem dML_endText_77 : decode cML_endText 77 = .ok (.aload_n 0, 1) := by decide +kernel
theorem dML_endText_78 : decode cML_endText 78 = .ok (.ldc 254, 2) := by decide +kernel
theorem dML_endText_80 : decode cML_endText 80 = .ok (.invokevirtual 124, 3) := by decide +kernel
theorem dML_endText_83 : decode cML_endText 83 = .ok (.goto 14, 3) := by decide +kernel
theorem dML_endText_86 : decode cML_endText 86 = .ok (.aload 5, 2) := by decide +kernel
theorem dML_endText_88 : decode cML_endText 88 = .ok (.ifnull 9, 3) := by decide +kernel
theorem dML_endText_91 : decode cML_endText 91 = .ok (.aload_n 0, 1) := by decide +kernel
theorem dML_endText_92 : decode cML_endText 92 = .ok (.aload 5, 2) := by decide +kernel
theorem dML_endText_94 : decode cML_endText 94 = .ok (.invokevirtual 256, 3) := by decide +kernel
theorem dML_endText_97 : decode cML_endText 97 = .ok (.iinc 4 1, 3) := by decide +kernel
theorem dML_endText_100 : decode cML_endText 100 = .ok (.goto (-63), 3) := by decide +kernel
theorem dML_endText_103 : decode cML_endText 103 = .ok (.iload_n 2, 1) := by decide +kernel
theorem dML_endText_104 : decode cML_endText 104 = .ok (.ifCond .ne 34, 3) := by decide +kernel
theorem dML_endText_107 : decode cML_endText 107 = .ok (.iload_n 3, 1) := by decide +kernel
theorem dML_endText_108 : decode cML_endText 108 = .ok (.ifCond .ne 30, 3) := by decide +kernel
theorem dML_endText_111 : decode cML_endText 111 = .ok (.aload_n 0, 1) := by decide +kernel
theorem dML_endText_112 : decode cML_endText 112 = .ok (.getfield 41, 3) := by decide +kernel
theorem dML_endText_115 : decode cML_endText 115 = .ok (.aload_n 0, 1) := by decide +kernel
theorem dML_endText_116 : decode cML_endText 116 = .ok (.getfield 102, 3) := by decide +kernel
theorem dML_endText_119 : decode cML_endText 119 = .ok (.aaload, 1) := by decide +kernel
theorem dML_endText_120 : decode cML_endText 120 = .ok (.aload_n 1, 1) := by decide +kernel
theorem dML_endText_121 : decode cML_endText 121 = .ok (.aload_n 0, 1) := by decide +kernel
theorem dML_endText_122 : decode cML_endText 122 = .ok (.getfield 35, 3) := by decide +kernel
theorem dML_endText_125 : decode cML_endText 125 = .ok (.invokevirtual 259, 3) := by decide +kernel
theorem dML_endText_128 : decode cML_endText 128 = .ok (.aload_n 0, 1) := by decide +kernel
theorem dML_endText_129 : decode cML_endText 129 = .ok (.dup, 1) := by decide +kernel
theorem dML_endText_130 : decode cML_endText 130 = .ok (.getfield 102, 3) := by decide +kernel
theorem dML_endText_133 : decode cML_endText 133 = .ok (.iconst 1, 1) := by decide +kernel
theorem dML_endText_134 : decode cML_endText 134 = .ok (.iadd, 1) := by decide +kernel
theorem dML_endText_135 : decode cML_endText 135 = .ok (.putfield 102, 3) := by decide +kernel
theorem dML_endText_138 : decode cML_endText 138 = .ok (.aload_n 0, 1) := by decide +kernel
theorem dML_endText_139 : decode cML_endText 139 = .ok (.getfield 35, 3) := by decide +kernel
theorem dML_endText_142 : decode cML_endText 142 = .ok (.invokevirtual 79, 3) := by decide +kernel
theorem dML_endText_145 : decode cML_endText 145 = .ok (.aload_n 0, 1) := by decide +kernel
theorem dML_endText_146 : decode cML_endText 146 = .ok (.iconst 0, 1) := by decide +kernel
theorem dML_endText_147 : decode cML_endText 147 = .ok (.putfield 73, 3) := by decide +kernel
theorem dML_endText_150 : decode cML_endText 150 = .ok (.return_, 1) := by decide +kernel
theorem dML_answer_0 : decode cML_answer 0 = .ok (.aload_n 0, 1) := by decide +kernel
theorem dML_answer_1 : decode cML_answer 1 = .ok (.getfield 14, 3) := by decide +kernel
theorem dML_answer_4 : decode cML_answer 4 = .ok (.aload_n 1, 1) := by decide +kernel
theorem dML_answer_5 : decode cML_answer 5 = .ok (.invokevirtual 128, 3) := by decide +kernel
theorem dML_answer_8 : decode cML_answer 8 = .ok (.aload_n 0, 1) := by decide +kernel
theorem dML_answer_9 : decode cML_answer 9 = .ok (.invokevirtual 131, 3) := by decide +kernel
theorem dML_answer_12 : decode cML_answer 12 = .ok (.return_, 1) := by decide +kernel
theorem dML_endAnswer_0 : decode cML_endAnswer 0 = .ok (.aload_n 0, 1) := by decide +kernel
theorem dML_endAnswer_1 : decode cML_endAnswer 1 = .ok (.getfield 14, 3) := by decide +kernel
theorem dML_endAnswer_4 : decode cML_endAnswer 4 = .ok (.bipush 13, 2) := by decide +kernel
theorem dML_endAnswer_6 : decode cML_endAnswer 6 = .ok (.invokevirtual 140, 3) := by decide +kernel
theorem dML_endAnswer_9 : decode cML_endAnswer 9 = .ok (.aload_n 0, 1) := by decide +kernel
theorem dML_endAnswer_10 : decode cML_endAnswer 10 = .ok (.getfield 14, 3) := by decide +kernel
theorem dML_endAnswer_13 : decode cML_endAnswer 13 = .ok (.bipush 10, 2) := by decide +kernel
theorem dML_endAnswer_15 : decode cML_endAnswer 15 = .ok (.invokevirtual 140, 3) := by decide +kernel
theorem dML_endAnswer_18 : decode cML_endAnswer 18 = .ok (.return_, 1) := by decide +kernel
theorem dML_answerTaken_0 : decode cML_answerTaken 0 = .ok (.aload_n 0, 1) := by decide +kernel
theorem dML_answerTaken_1 : decode cML_answerTaken 1 = .ok (.getfield 14, 3) := by decide +kernel
theorem dML_answerTaken_4 : decode cML_answerTaken 4 = .ok (.ldc 134, 2) := by decide +kernel
theorem dML_answerTaken_6 : decode cML_answerTaken 6 = .ok (.invokevirtual 128, 3) := by decide +kernel
theorem dML_answerTaken_9 : decode cML_answerTaken 9 = .ok (.aload_n 0, 1) := by decide +kernel
theorem dML_answerTaken_10 : decode cML_answerTaken 10 = .ok (.getfield 14, 3) := by decide +kernel
theorem dML_answerTaken_13 : decode cML_answerTaken 13 = .ok (.aload_n 1, 1) := by decide +kernel
theorem dML_answerTaken_14 : decode cML_answerTaken 14 = .ok (.iconst 0, 1) := by decide +kernel
theorem dML_answerTaken_15 : decode cML_answerTaken 15 = .ok (.aload_n 1, 1) := by decide +kernel
theorem dML_answerTaken_16 : decode cML_answerTaken 16 = .ok (.invokevirtual 53, 3) := by decide +kernel
theorem dML_answerTaken_19 : decode cML_answerTaken 19 = .ok (.invokevirtual 136, 3) := by decide +kernel
theorem dML_answerTaken_22 : decode cML_answerTaken 22 = .ok (.aload_n 0, 1) := by decide +kernel
theorem dML_answerTaken_23 : decode cML_answerTaken 23 = .ok (.getfield 14, 3) := by decide +kernel
theorem dML_answerTaken_26 : decode cML_answerTaken 26 = .ok (.bipush 62, 2) := by decide +kernel
theorem dML_answerTaken_28 : decode cML_answerTaken 28 = .ok (.invokevirtual 140, 3) := by decide +kernel
theorem dML_answerTaken_31 : decode cML_answerTaken 31 = .ok (.aload_n 0, 1) := by decide +kernel
theorem dML_answerTaken_32 : decode cML_answerTaken 32 = .ok (.invokevirtual 131, 3) := by decide +kernel
theorem dML_answerTaken_35 : decode cML_answerTaken 35 = .ok (.return_, 1) := by decide +kernel
theorem dML_replyTo_0 : decode cML_replyTo 0 = .ok (.aload_n 1, 1) := by decide +kernel
theorem dML_replyTo_1 : decode cML_replyTo 1 = .ok (.invokevirtual 53, 3) := by decide +kernel
theorem dML_replyTo_4 : decode cML_replyTo 4 = .ok (.bipush 100, 2) := by decide +kernel
theorem dML_replyTo_6 : decode cML_replyTo 6 = .ok (.if_icmp .le 6, 3) := by decide +kernel
theorem dML_replyTo_9 : decode cML_replyTo 9 = .ok (.ldc 143, 2) := by decide +kernel
theorem dML_replyTo_11 : decode cML_replyTo 11 = .ok (.areturn, 1) := by decide +kernel
theorem dML_replyTo_12 : decode cML_replyTo 12 = .ok (.aload_n 1, 1) := by decide +kernel
theorem dML_replyTo_13 : decode cML_replyTo 13 = .ok (.ldc 145, 2) := by decide +kernel
theorem dML_replyTo_15 : decode cML_replyTo 15 = .ok (.invokestatic 147, 3) := by decide +kernel
theorem dML_replyTo_18 : decode cML_replyTo 18 = .ok (.ifCond .eq 9, 3) := by decide +kernel
theorem dML_replyTo_21 : decode cML_replyTo 21 = .ok (.aload_n 0, 1) := by decide +kernel
theorem dML_replyTo_22 : decode cML_replyTo 22 = .ok (.aload_n 1, 1) := by decide +kernel
theorem dML_replyTo_23 : decode cML_replyTo 23 = .ok (.invokevirtual 153, 3) := by decide +kernel
theorem dML_replyTo_26 : decode cML_replyTo 26 = .ok (.areturn, 1) := by decide +kernel
theorem dML_replyTo_27 : decode cML_replyTo 27 = .ok (.aload_n 1, 1) := by decide +kernel
theorem dML_replyTo_28 : decode cML_replyTo 28 = .ok (.ldc 156, 2) := by decide +kernel
theorem dML_replyTo_30 : decode cML_replyTo 30 = .ok (.invokestatic 147, 3) := by decide +kernel
theorem dML_replyTo_33 : decode cML_replyTo 33 = .ok (.ifCond .eq 21, 3) := by decide +kernel
theorem dML_replyTo_36 : decode cML_replyTo 36 = .ok (.aload_n 0, 1) := by decide +kernel
theorem dML_replyTo_37 : decode cML_replyTo 37 = .ok (.getfield 70, 3) := by decide +kernel
theorem dML_replyTo_40 : decode cML_replyTo 40 = .ok (.ifCond .eq 11, 3) := by decide +kernel
theorem dML_replyTo_43 : decode cML_replyTo 43 = .ok (.aload_n 0, 1) := by decide +kernel
theorem dML_replyTo_44 : decode cML_replyTo 44 = .ok (.aload_n 1, 1) := by decide +kernel
theorem dML_replyTo_45 : decode cML_replyTo 45 = .ok (.invokevirtual 158, 3) := by decide +kernel
theorem dML_replyTo_48 : decode cML_replyTo 48 = .ok (.goto 5, 3) := by decide +kernel
theorem dML_replyTo_51 : decode cML_replyTo 51 = .ok (.ldc 161, 2) := by decide +kernel
theorem dML_replyTo_53 : decode cML_replyTo 53 = .ok (.areturn, 1) := by decide +kernel
theorem dML_replyTo_54 : decode cML_replyTo 54 = .ok (.aload_n 1, 1) := by decide +kernel
theorem dML_replyTo_55 : decode cML_replyTo 55 = .ok (.ldc 163, 2) := by decide +kernel
theorem dML_replyTo_57 : decode cML_replyTo 57 = .ok (.invokestatic 147, 3) := by decide +kernel
theorem dML_replyTo_60 : decode cML_replyTo 60 = .ok (.ifCond .eq 21, 3) := by decide +kernel
theorem dML_replyTo_63 : decode cML_replyTo 63 = .ok (.aload_n 0, 1) := by decide +kernel
theorem dML_replyTo_64 : decode cML_replyTo 64 = .ok (.getfield 70, 3) := by decide +kernel
theorem dML_replyTo_67 : decode cML_replyTo 67 = .ok (.ifCond .eq 11, 3) := by decide +kernel
theorem dML_replyTo_70 : decode cML_replyTo 70 = .ok (.aload_n 0, 1) := by decide +kernel
theorem dML_replyTo_71 : decode cML_replyTo 71 = .ok (.aload_n 1, 1) := by decide +kernel
theorem dML_replyTo_72 : decode cML_replyTo 72 = .ok (.invokevirtual 165, 3) := by decide +kernel
theorem dML_replyTo_75 : decode cML_replyTo 75 = .ok (.goto 5, 3) := by decide +kernel
theorem dML_replyTo_78 : decode cML_replyTo 78 = .ok (.ldc 161, 2) := by decide +kernel
theorem dML_replyTo_80 : decode cML_replyTo 80 = .ok (.areturn, 1) := by decide +kernel
theorem dML_replyTo_81 : decode cML_replyTo 81 = .ok (.aload_n 1, 1) := by decide +kernel
theorem dML_replyTo_82 : decode cML_replyTo 82 = .ok (.ldc 168, 2) := by decide +kernel
theorem dML_replyTo_84 : decode cML_replyTo 84 = .ok (.invokestatic 147, 3) := by decide +kernel
theorem dML_replyTo_87 : decode cML_replyTo 87 = .ok (.ifCond .eq 21, 3) := by decide +kernel
theorem dML_replyTo_90 : decode cML_replyTo 90 = .ok (.aload_n 0, 1) := by decide +kernel
theorem dML_replyTo_91 : decode cML_replyTo 91 = .ok (.getfield 70, 3) := by decide +kernel
theorem dML_replyTo_94 : decode cML_replyTo 94 = .ok (.ifCond .eq 11, 3) := by decide +kernel
theorem dML_replyTo_97 : decode cML_replyTo 97 = .ok (.aload_n 0, 1) := by decide +kernel
theorem dML_replyTo_98 : decode cML_replyTo 98 = .ok (.aload_n 1, 1) := by decide +kernel
theorem dML_replyTo_99 : decode cML_replyTo 99 = .ok (.invokevirtual 170, 3) := by decide +kernel
theorem dML_replyTo_102 : decode cML_replyTo 102 = .ok (.goto 5, 3) := by decide +kernel
theorem dML_replyTo_105 : decode cML_replyTo 105 = .ok (.ldc 161, 2) := by decide +kernel
theorem dML_replyTo_107 : decode cML_replyTo 107 = .ok (.areturn, 1) := by decide +kernel
theorem dML_replyTo_108 : decode cML_replyTo 108 = .ok (.aload_n 1, 1) := by decide +kernel
theorem dML_replyTo_109 : decode cML_replyTo 109 = .ok (.ldc 173, 2) := by decide +kernel
theorem dML_replyTo_111 : decode cML_replyTo 111 = .ok (.invokestatic 147, 3) := by decide +kernel
theorem dML_replyTo_114 : decode cML_replyTo 114 = .ok (.ifCond .eq 9, 3) := by decide +kernel
theorem dML_replyTo_117 : decode cML_replyTo 117 = .ok (.aload_n 0, 1) := by decide +kernel
theorem dML_replyTo_118 : decode cML_replyTo 118 = .ok (.aload_n 1, 1) := by decide +kernel
theorem dML_replyTo_119 : decode cML_replyTo 119 = .ok (.invokevirtual 175, 3) := by decide +kernel
theorem dML_replyTo_122 : decode cML_replyTo 122 = .ok (.areturn, 1) := by decide +kernel
theorem dML_replyTo_123 : decode cML_replyTo 123 = .ok (.aload_n 1, 1) := by decide +kernel
theorem dML_replyTo_124 : decode cML_replyTo 124 = .ok (.ldc 178, 2) := by decide +kernel
theorem dML_replyTo_126 : decode cML_replyTo 126 = .ok (.invokestatic 147, 3) := by decide +kernel
theorem dML_replyTo_129 : decode cML_replyTo 129 = .ok (.ifCond .eq 18, 3) := by decide +kernel
theorem dML_replyTo_132 : decode cML_replyTo 132 = .ok (.aload_n 1, 1) := by decide +kernel
theorem dML_replyTo_133 : decode cML_replyTo 133 = .ok (.invokestatic 180, 3) := by decide +kernel
theorem dML_replyTo_136 : decode cML_replyTo 136 = .ok (.ifCond .eq 8, 3) := by decide +kernel
theorem dML_replyTo_139 : decode cML_replyTo 139 = .ok (.ldc 184, 2) := by decide +kernel
theorem dML_replyTo_141 : decode cML_replyTo 141 = .ok (.goto 5, 3) := by decide +kernel
theorem dML_replyTo_144 : decode cML_replyTo 144 = .ok (.ldc 186, 2) := by decide +kernel
theorem dML_replyTo_146 : decode cML_replyTo 146 = .ok (.areturn, 1) := by decide +kernel
theorem dML_replyTo_147 : decode cML_replyTo 147 = .ok (.aload_n 1, 1) := by decide +kernel
theorem dML_replyTo_148 : decode cML_replyTo 148 = .ok (.ldc 188, 2) := by decide +kernel
theorem dML_replyTo_150 : decode cML_replyTo 150 = .ok (.invokestatic 147, 3) := by decide +kernel
theorem dML_replyTo_153 : decode cML_replyTo 153 = .ok (.ifCond .eq 9, 3) := by decide +kernel
theorem dML_replyTo_156 : decode cML_replyTo 156 = .ok (.aload_n 0, 1) := by decide +kernel
theorem dML_replyTo_157 : decode cML_replyTo 157 = .ok (.aload_n 1, 1) := by decide +kernel
theorem dML_replyTo_158 : decode cML_replyTo 158 = .ok (.invokevirtual 190, 3) := by decide +kernel
theorem dML_replyTo_161 : decode cML_replyTo 161 = .ok (.areturn, 1) := by decide +kernel
theorem dML_replyTo_162 : decode cML_replyTo 162 = .ok (.ldc 193, 2) := by decide +kernel
theorem dML_replyTo_164 : decode cML_replyTo 164 = .ok (.areturn, 1) := by decide +kernel
theorem dML_replyToGreeting_0 : decode cML_replyToGreeting 0 = .ok (.aload_n 1, 1) := by decide +kernel
theorem dML_replyToGreeting_1 : decode cML_replyToGreeting 1 = .ok (.invokestatic 195, 3) := by decide +kernel
theorem dML_replyToGreeting_4 : decode cML_replyToGreeting 4 = .ok (.ifCond .ne 6, 3) := by decide +kernel
theorem dML_replyToGreeting_7 : decode cML_replyToGreeting 7 = .ok (.ldc 186, 2) := by decide +kernel
theorem dML_replyToGreeting_9 : decode cML_replyToGreeting 9 = .ok (.areturn, 1) := by decide +kernel
theorem dML_replyToGreeting_10 : decode cML_replyToGreeting 10 = .ok (.aload_n 0, 1) := by decide +kernel
theorem dML_replyToGreeting_11 : decode cML_replyToGreeting 11 = .ok (.iconst 1, 1) := by decide +kernel
theorem dML_replyToGreeting_12 : decode cML_replyToGreeting 12 = .ok (.putfield 70, 3) := by decide +kernel
theorem dML_replyToGreeting_15 : decode cML_replyToGreeting 15 = .ok (.aload_n 0, 1) := by decide +kernel
theorem dML_replyToGreeting_16 : decode cML_replyToGreeting 16 = .ok (.getfield 35, 3) := by decide +kernel
theorem dML_replyToGreeting_19 : decode cML_replyToGreeting 19 = .ok (.invokevirtual 79, 3) := by decide +kernel
theorem dML_replyToGreeting_22 : decode cML_replyToGreeting 22 = .ok (.ldc 198, 2) := by decide +kernel
theorem dML_replyToGreeting_24 : decode cML_replyToGreeting 24 = .ok (.areturn, 1) := by decide +kernel
theorem dML_replyToSender_0 : decode cML_replyToSender 0 = .ok (.aload_n 1, 1) := by decide +kernel
theorem dML_replyToSender_1 : decode cML_replyToSender 1 = .ok (.iconst 0, 1) := by decide +kernel
theorem dML_replyToSender_2 : decode cML_replyToSender 2 = .ok (.ldc 200, 2) := by decide +kernel
theorem dML_replyToSender_4 : decode cML_replyToSender 4 = .ok (.invokevirtual 202, 3) := by decide +kernel
theorem dML_replyToSender_7 : decode cML_replyToSender 7 = .ok (.istore_n 2, 1) := by decide +kernel
theorem dML_replyToSender_8 : decode cML_replyToSender 8 = .ok (.iload_n 2, 1) := by decide +kernel
theorem dML_replyToSender_9 : decode cML_replyToSender 9 = .ok (.ifCond .eq 11, 3) := by decide +kernel
theorem dML_replyToSender_12 : decode cML_replyToSender 12 = .ok (.ldc 200, 2) := by decide +kernel
theorem dML_replyToSender_14 : decode cML_replyToSender 14 = .ok (.invokevirtual 206, 3) := by decide +kernel
theorem dML_replyToSender_17 : decode cML_replyToSender 17 = .ok (.goto 9, 3) := by decide +kernel
theorem dML_replyToSender_20 : decode cML_replyToSender 20 = .ok (.aload_n 1, 1) := by decide +kernel
theorem dML_replyToSender_21 : decode cML_replyToSender 21 = .ok (.ldc 209, 2) := by decide +kernel
theorem dML_replyToSender_23 : decode cML_replyToSender 23 = .ok (.invokestatic 211, 3) := by decide +kernel
theorem dML_replyToSender_26 : decode cML_replyToSender 26 = .ok (.istore_n 3, 1) := by decide +kernel
theorem dML_replyToSender_27 : decode cML_replyToSender 27 = .ok (.iload_n 3, 1) := by decide +kernel
theorem dML_replyToSender_28 : decode cML_replyToSender 28 = .ok (.ifCond .ge 7, 3) := by decide +kernel
theorem dML_replyToSender_31 : decode cML_replyToSender 31 = .ok (.iconst (-1), 1) := by decide +kernel
theorem dML_replyToSender_32 : decode cML_replyToSender 32 = .ok (.goto 8, 3) := by decide +kernel
theorem dML_replyToSender_35 : decode cML_replyToSender 35 = .ok (.aload_n 1, 1) := by decide +kernel
theorem dML_replyToSender_36 : decode cML_replyToSender 36 = .ok (.iload_n 3, 1) := by decide +kernel
theorem dML_replyToSender_37 : decode cML_replyToSender 37 = .ok (.invokestatic 215, 3) := by decide +kernel
theorem dML_replyToSender_40 : decode cML_replyToSender 40 = .ok (.istore 4, 2) := by decide +kernel
theorem dML_replyToSender_42 : decode cML_replyToSender 42 = .ok (.iload 4, 2) := by decide +kernel
theorem dML_replyToSender_44 : decode cML_replyToSender 44 = .ok (.ifCond .ge 6, 3) := by decide +kernel
theorem dML_replyToSender_47 : decode cML_replyToSender 47 = .ok (.ldc 186, 2) := by decide +kernel
theorem dML_replyToSender_49 : decode cML_replyToSender 49 = .ok (.areturn, 1) := by decide +kernel
theorem dML_replyToSender_50 : decode cML_replyToSender 50 = .ok (.aload_n 0, 1) := by decide +kernel
theorem dML_replyToSender_51 : decode cML_replyToSender 51 = .ok (.getfield 35, 3) := by decide +kernel
theorem dML_replyToSender_54 : decode cML_replyToSender 54 = .ok (.invokevirtual 219, 3) := by decide +kernel
theorem dML_replyToSender_57 : decode cML_replyToSender 57 = .ok (.ifCond .eq 6, 3) := by decide +kernel
theorem dML_replyToSender_60 : decode cML_replyToSender 60 = .ok (.ldc 161, 2) := by decide +kernel
theorem dML_replyToSender_62 : decode cML_replyToSender 62 = .ok (.areturn, 1) := by decide +kernel
theorem dML_replyToSender_63 : decode cML_replyToSender 63 = .ok (.iload 4, 2) := by decide +kernel
theorem dML_replyToSender_65 : decode cML_replyToSender 65 = .ok (.sipush 200, 3) := by decide +kernel
theorem dML_replyToSender_68 : decode cML_replyToSender 68 = .ok (.if_icmp .le 6, 3) := by decide +kernel
theorem dML_replyToSender_71 : decode cML_replyToSender 71 = .ok (.ldc 223, 2) := by decide +kernel
theorem dML_replyToSender_73 : decode cML_replyToSender 73 = .ok (.areturn, 1) := by decide +kernel
theorem dML_replyToSender_74 : decode cML_replyToSender 74 = .ok (.aload_n 0, 1) := by decide +kernel
theorem dML_replyToSender_75 : decode cML_replyToSender 75 = .ok (.getfield 35, 3) := by decide +kernel
theorem dML_replyToSender_78 : decode cML_replyToSender 78 = .ok (.aload_n 1, 1) := by decide +kernel
theorem dML_replyToSender_79 : decode cML_replyToSender 79 = .ok (.ldc 209, 2) := by decide +kernel
theorem dML_replyToSender_81 : decode cML_replyToSender 81 = .ok (.invokevirtual 206, 3) := by decide +kernel
theorem dML_replyToSender_84 : decode cML_replyToSender 84 = .ok (.iconst 1, 1) := by decide +kernel
theorem dML_replyToSender_85 : decode cML_replyToSender 85 = .ok (.iadd, 1) := by decide +kernel
theorem dML_replyToSender_86 : decode cML_replyToSender 86 = .ok (.iload_n 3, 1) := by decide +kernel
theorem dML_replyToSender_87 : decode cML_replyToSender 87 = .ok (.iconst 1, 1) := by decide +kernel
theorem dML_replyToSender_88 : decode cML_replyToSender 88 = .ok (.isub, 1) := by decide +kernel
theorem dML_replyToSender_89 : decode cML_replyToSender 89 = .ok (.invokevirtual 225, 3) := by decide +kernel
theorem dML_replyToSender_92 : decode cML_replyToSender 92 = .ok (.ldc 228, 2) := by decide +kernel
theorem dML_replyToSender_94 : decode cML_replyToSender 94 = .ok (.areturn, 1) := by decide +kernel
theorem dML_replyToRecipient_0 : decode cML_replyToRecipient 0 = .ok (.aload_n 1, 1) := by decide +kernel
theorem dML_replyToRecipient_1 : decode cML_replyToRecipient 1 = .ok (.ldc 230, 2) := by decide +kernel
theorem dML_replyToRecipient_3 : decode cML_replyToRecipient 3 = .ok (.invokestatic 211, 3) := by decide +kernel
theorem dML_replyToRecipient_6 : decode cML_replyToRecipient 6 = .ok (.istore_n 2, 1) := by decide +kernel
theorem dML_replyToRecipient_7 : decode cML_replyToRecipient 7 = .ok (.iload_n 2, 1) := by decide +kernel
theorem dML_replyToRecipient_8 : decode cML_replyToRecipient 8 = .ok (.aload_n 1, 1) := by decide +kernel
theorem dML_replyToRecipient_9 : decode cML_replyToRecipient 9 = .ok (.invokevirtual 53, 3) := by decide +kernel
theorem dML_replyToRecipient_12 : decode cML_replyToRecipient 12 = .ok (.if_icmp .eq 6, 3) := by decide +kernel
theorem dML_replyToRecipient_15 : decode cML_replyToRecipient 15 = .ok (.ldc 186, 2) := by decide +kernel
theorem dML_replyToRecipient_17 : decode cML_replyToRecipient 17 = .ok (.areturn, 1) := by decide +kernel
theorem dML_replyToRecipient_18 : decode cML_replyToRecipient 18 = .ok (.aload_n 0, 1) := by decide +kernel
theorem dML_replyToRecipient_19 : decode cML_replyToRecipient 19 = .ok (.getfield 35, 3) := by decide +kernel
theorem dML_replyToRecipient_22 : decode cML_replyToRecipient 22 = .ok (.invokevirtual 219, 3) := by decide +kernel
theorem dML_replyToRecipient_25 : decode cML_replyToRecipient 25 = .ok (.ifCond .ne 6, 3) := by decide +kernel
theorem dML_replyToRecipient_28 : decode cML_replyToRecipient 28 = .ok (.ldc 161, 2) := by decide +kernel
theorem dML_replyToRecipient_30 : decode cML_replyToRecipient 30 = .ok (.areturn, 1) := by decide +kernel
theorem dML_replyToRecipient_31 : decode cML_replyToRecipient 31 = .ok (.aload_n 1, 1) := by decide +kernel
theorem dML_replyToRecipient_32 : decode cML_replyToRecipient 32 = .ok (.ldc 230, 2) := by decide +kernel
theorem dML_replyToRecipient_34 : decode cML_replyToRecipient 34 = .ok (.invokevirtual 206, 3) := by decide +kernel
theorem dML_replyToRecipient_37 : decode cML_replyToRecipient 37 = .ok (.iconst 1, 1) := by decide +kernel
theorem dML_replyToRecipient_38 : decode cML_replyToRecipient 38 = .ok (.iadd, 1) := by decide +kernel
theorem dML_replyToRecipient_39 : decode cML_replyToRecipient 39 = .ok (.invokestatic 232, 3) := by decide +kernel
theorem dML_replyToRecipient_42 : decode cML_replyToRecipient 42 = .ok (.ifCond .ne 6, 3) := by decide +kernel
theorem dML_replyToRecipient_45 : decode cML_replyToRecipient 45 = .ok (.ldc 236, 2) := by decide +kernel
theorem dML_replyToRecipient_47 : decode cML_replyToRecipient 47 = .ok (.areturn, 1) := by decide +kernel
theorem dML_replyToRecipient_48 : decode cML_replyToRecipient 48 = .ok (.aload_n 0, 1) := by decide +kernel
theorem dML_replyToRecipient_49 : decode cML_replyToRecipient 49 = .ok (.getfield 35, 3) := by decide +kernel
theorem dML_replyToRecipient_52 : decode cML_replyToRecipient 52 = .ok (.invokevirtual 106, 3) := by decide +kernel
theorem dML_replyToRecipient_55 : decode cML_replyToRecipient 55 = .ok (.iconst 4, 1) := by decide +kernel
theorem dML_replyToRecipient_56 : decode cML_replyToRecipient 56 = .ok (.if_icmp .lt 6, 3) := by decide +kernel
theorem dML_replyToRecipient_59 : decode cML_replyToRecipient 59 = .ok (.ldc 238, 2) := by decide +kernel
theorem dML_replyToRecipient_61 : decode cML_replyToRecipient 61 = .ok (.areturn, 1) := by decide +kernel
theorem dML_replyToRecipient_62 : decode cML_replyToRecipient 62 = .ok (.aload_n 0, 1) := by decide +kernel
theorem dML_replyToRecipient_63 : decode cML_replyToRecipient 63 = .ok (.getfield 35, 3) := by decide +kernel
theorem dML_replyToRecipient_66 : decode cML_replyToRecipient 66 = .ok (.aload_n 1, 1) := by decide +kernel
theorem dML_replyToRecipient_67 : decode cML_replyToRecipient 67 = .ok (.ldc 230, 2) := by decide +kernel
theorem dML_replyToRecipient_69 : decode cML_replyToRecipient 69 = .ok (.invokevirtual 206, 3) := by decide +kernel
theorem dML_replyToRecipient_72 : decode cML_replyToRecipient 72 = .ok (.iconst 1, 1) := by decide +kernel
theorem dML_replyToRecipient_73 : decode cML_replyToRecipient 73 = .ok (.iadd, 1) := by decide +kernel
theorem dML_replyToRecipient_74 : decode cML_replyToRecipient 74 = .ok (.iload_n 2, 1) := by decide +kernel
theorem dML_replyToRecipient_75 : decode cML_replyToRecipient 75 = .ok (.iconst 1, 1) := by decide +kernel
theorem dML_replyToRecipient_76 : decode cML_replyToRecipient 76 = .ok (.isub, 1) := by decide +kernel
theorem dML_replyToRecipient_77 : decode cML_replyToRecipient 77 = .ok (.invokevirtual 240, 3) := by decide +kernel
theorem dML_replyToRecipient_80 : decode cML_replyToRecipient 80 = .ok (.ldc 243, 2) := by decide +kernel
theorem dML_replyToRecipient_82 : decode cML_replyToRecipient 82 = .ok (.areturn, 1) := by decide +kernel
theorem dML_replyToData_0 : decode cML_replyToData 0 = .ok (.aload_n 1, 1) := by decide +kernel
theorem dML_replyToData_1 : decode cML_replyToData 1 = .ok (.invokestatic 180, 3) := by decide +kernel
theorem dML_replyToData_4 : decode cML_replyToData 4 = .ok (.ifCond .ne 6, 3) := by decide +kernel
theorem dML_replyToData_7 : decode cML_replyToData 7 = .ok (.ldc 186, 2) := by decide +kernel
theorem dML_replyToData_9 : decode cML_replyToData 9 = .ok (.areturn, 1) := by decide +kernel
theorem dML_replyToData_10 : decode cML_replyToData 10 = .ok (.aload_n 0, 1) := by decide +kernel
theorem dML_replyToData_11 : decode cML_replyToData 11 = .ok (.getfield 35, 3) := by decide +kernel
theorem dML_replyToData_14 : decode cML_replyToData 14 = .ok (.invokevirtual 106, 3) := by decide +kernel
theorem dML_replyToData_17 : decode cML_replyToData 17 = .ok (.ifCond .ne 6, 3) := by decide +kernel
theorem dML_replyToData_20 : decode cML_replyToData 20 = .ok (.ldc 161, 2) := by decide +kernel
theorem dML_replyToData_22 : decode cML_replyToData 22 = .ok (.areturn, 1) := by decide +kernel
theorem dML_replyToData_23 : decode cML_replyToData 23 = .ok (.aload_n 0, 1) := by decide +kernel
theorem dML_replyToData_24 : decode cML_replyToData 24 = .ok (.iconst 1, 1) := by decide +kernel
theorem dML_replyToData_25 : decode cML_replyToData 25 = .ok (.putfield 73, 3) := by decide +kernel
theorem dML_replyToData_28 : decode cML_replyToData 28 = .ok (.aload_n 0, 1) := by decide +kernel
theorem dML_replyToData_29 : decode cML_replyToData 29 = .ok (.getfield 28, 3) := by decide +kernel
theorem dML_replyToData_32 : decode cML_replyToData 32 = .ok (.invokevirtual 245, 3) := by decide +kernel
theorem dML_replyToData_35 : decode cML_replyToData 35 = .ok (.ldc 246, 2) := by decide +kernel
theorem dML_replyToData_37 : decode cML_replyToData 37 = .ok (.areturn, 1) := by decide +kernel
theorem dML_replyToReset_0 : decode cML_replyToReset 0 = .ok (.aload_n 1, 1) := by decide +kernel
theorem dML_replyToReset_1 : decode cML_replyToReset 1 = .ok (.invokestatic 180, 3) := by decide +kernel
theorem dML_replyToReset_4 : decode cML_replyToReset 4 = .ok (.ifCond .ne 6, 3) := by decide +kernel
theorem dML_replyToReset_7 : decode cML_replyToReset 7 = .ok (.ldc 186, 2) := by decide +kernel
theorem dML_replyToReset_9 : decode cML_replyToReset 9 = .ok (.areturn, 1) := by decide +kernel
theorem dML_replyToReset_10 : decode cML_replyToReset 10 = .ok (.aload_n 0, 1) := by decide +kernel
theorem dML_replyToReset_11 : decode cML_replyToReset 11 = .ok (.getfield 35, 3) := by decide +kernel
theorem dML_replyToReset_14 : decode cML_replyToReset 14 = .ok (.invokevirtual 79, 3) := by decide +kernel
theorem dML_replyToReset_17 : decode cML_replyToReset 17 = .ok (.ldc 184, 2) := by decide +kernel
theorem dML_replyToReset_19 : decode cML_replyToReset 19 = .ok (.areturn, 1) := by decide +kernel
theorem dML_replyToQuit_0 : decode cML_replyToQuit 0 = .ok (.aload_n 1, 1) := by decide +kernel
theorem dML_replyToQuit_1 : decode cML_replyToQuit 1 = .ok (.invokestatic 180, 3) := by decide +kernel
theorem dML_replyToQuit_4 : decode cML_replyToQuit 4 = .ok (.ifCond .ne 6, 3) := by decide +kernel
theorem dML_replyToQuit_7 : decode cML_replyToQuit 7 = .ok (.ldc 186, 2) := by decide +kernel
theorem dML_replyToQuit_9 : decode cML_replyToQuit 9 = .ok (.areturn, 1) := by decide +kernel
theorem dML_replyToQuit_10 : decode cML_replyToQuit 10 = .ok (.aload_n 0, 1) := by decide +kernel
theorem dML_replyToQuit_11 : decode cML_replyToQuit 11 = .ok (.iconst 0, 1) := by decide +kernel
theorem dML_replyToQuit_12 : decode cML_replyToQuit 12 = .ok (.putfield 46, 3) := by decide +kernel
theorem dML_replyToQuit_15 : decode cML_replyToQuit 15 = .ok (.ldc 248, 2) := by decide +kernel
theorem dML_replyToQuit_17 : decode cML_replyToQuit 17 = .ok (.areturn, 1) := by decide +kernel
theorem dML_reply_0 : decode cML_reply 0 = .ok (.bipush 7, 2) := by decide +kernel
theorem dML_reply_2 : decode cML_reply 2 = .ok (.aload_n 0, 1) := by decide +kernel
theorem dML_reply_3 : decode cML_reply 3 = .ok (.getfield 14, 3) := by decide +kernel
theorem dML_reply_6 : decode cML_reply 6 = .ok (.invokevirtual 53, 3) := by decide +kernel
theorem dML_reply_9 : decode cML_reply 9 = .ok (.invokestatic 57, 3) := by decide +kernel
theorem dML_reply_12 : decode cML_reply 12 = .ok (.istore_n 1, 1) := by decide +kernel
theorem dML_reply_13 : decode cML_reply 13 = .ok (.iload_n 1, 1) := by decide +kernel
theorem dML_reply_14 : decode cML_reply 14 = .ok (.i2l, 1) := by decide +kernel
theorem dML_reply_15 : decode cML_reply 15 = .ok (.lstore_n 2, 1) := by decide +kernel
theorem dML_reply_16 : decode cML_reply 16 = .ok (.iconst 0, 1) := by decide +kernel
theorem dML_reply_17 : decode cML_reply 17 = .ok (.istore 4, 2) := by decide +kernel
theorem dML_reply_19 : decode cML_reply 19 = .ok (.iload 4, 2) := by decide +kernel
theorem dML_reply_21 : decode cML_reply 21 = .ok (.bipush 7, 2) := by decide +kernel
theorem dML_reply_23 : decode cML_reply 23 = .ok (.if_icmp .ge 25, 3) := by decide +kernel
theorem dML_reply_26 : decode cML_reply 26 = .ok (.lload_n 2, 1) := by decide +kernel
theorem dML_reply_27 : decode cML_reply 27 = .ok (.bipush 8, 2) := by decide +kernel
theorem dML_reply_29 : decode cML_reply 29 = .ok (.lshl, 1) := by decide +kernel
theorem dML_reply_30 : decode cML_reply 30 = .ok (.aload_n 0, 1) := by decide +kernel
theorem dML_reply_31 : decode cML_reply 31 = .ok (.getfield 14, 3) := by decide +kernel
theorem dML_reply_34 : decode cML_reply 34 = .ok (.iload 4, 2) := by decide +kernel
theorem dML_reply_36 : decode cML_reply 36 = .ok (.invokevirtual 63, 3) := by decide +kernel
theorem dML_reply_39 : decode cML_reply 39 = .ok (.i2l, 1) := by decide +kernel
theorem dML_reply_40 : decode cML_reply 40 = .ok (.lor, 1) := by decide +kernel
theorem dML_reply_41 : decode cML_reply 41 = .ok (.lstore_n 2, 1) := by decide +kernel
theorem dML_reply_42 : decode cML_reply 42 = .ok (.iinc 4 1, 3) := by decide +kernel
theorem dML_reply_45 : decode cML_reply 45 = .ok (.goto (-26), 3) := by decide +kernel
theorem dML_reply_48 : decode cML_reply 48 = .ok (.aload_n 0, 1) := by decide +kernel
theorem dML_reply_49 : decode cML_reply 49 = .ok (.getfield 14, 3) := by decide +kernel
theorem dML_reply_52 : decode cML_reply 52 = .ok (.iload_n 1, 1) := by decide +kernel
theorem dML_reply_53 : decode cML_reply 53 = .ok (.invokevirtual 67, 3) := by decide +kernel
theorem dML_reply_56 : decode cML_reply 56 = .ok (.lload_n 2, 1) := by decide +kernel
theorem dML_reply_57 : decode cML_reply 57 = .ok (.lreturn, 1) := by decide +kernel
theorem dML_open_0 : decode cML_open 0 = .ok (.aload_n 0, 1) := by decide +kernel
theorem dML_open_1 : decode cML_open 1 = .ok (.getfield 46, 3) := by decide +kernel
theorem dML_open_4 : decode cML_open 4 = .ok (.istore_n 1, 1) := by decide +kernel
theorem dML_open_5 : decode cML_open 5 = .ok (.aload_n 0, 1) := by decide +kernel
theorem dML_open_6 : decode cML_open 6 = .ok (.iconst 1, 1) := by decide +kernel
theorem dML_open_7 : decode cML_open 7 = .ok (.putfield 46, 3) := by decide +kernel
theorem dML_open_10 : decode cML_open 10 = .ok (.aload_n 0, 1) := by decide +kernel
theorem dML_open_11 : decode cML_open 11 = .ok (.iconst 0, 1) := by decide +kernel
theorem dML_open_12 : decode cML_open 12 = .ok (.putfield 70, 3) := by decide +kernel
theorem dML_open_15 : decode cML_open 15 = .ok (.aload_n 0, 1) := by decide +kernel
theorem dML_open_16 : decode cML_open 16 = .ok (.iconst 0, 1) := by decide +kernel
theorem dML_open_17 : decode cML_open 17 = .ok (.putfield 73, 3) := by decide +kernel
theorem dML_open_20 : decode cML_open 20 = .ok (.aload_n 0, 1) := by decide +kernel
theorem dML_open_21 : decode cML_open 21 = .ok (.getfield 21, 3) := by decide +kernel
theorem dML_open_24 : decode cML_open 24 = .ok (.invokevirtual 76, 3) := by decide +kernel
theorem dML_open_27 : decode cML_open 27 = .ok (.aload_n 0, 1) := by decide +kernel
theorem dML_open_28 : decode cML_open 28 = .ok (.getfield 35, 3) := by decide +kernel
theorem dML_open_31 : decode cML_open 31 = .ok (.invokevirtual 79, 3) := by decide +kernel
theorem dML_open_34 : decode cML_open 34 = .ok (.iload_n 1, 1) := by decide +kernel
theorem dML_open_35 : decode cML_open 35 = .ok (.ireturn, 1) := by decide +kernel
theorem dML_message_0 : decode cML_message 0 = .ok (.aload_n 0, 1) := by decide +kernel
theorem dML_message_1 : decode cML_message 1 = .ok (.iload_n 1, 1) := by decide +kernel
theorem dML_message_2 : decode cML_message 2 = .ok (.invokevirtual 80, 3) := by decide +kernel
theorem dML_message_5 : decode cML_message 5 = .ok (.astore_n 3, 1) := by decide +kernel
theorem dML_message_6 : decode cML_message 6 = .ok (.aload_n 3, 1) := by decide +kernel
theorem dML_message_7 : decode cML_message 7 = .ok (.ifnonnull 5, 3) := by decide +kernel
theorem dML_message_10 : decode cML_message 10 = .ok (.iconst (-1), 1) := by decide +kernel
theorem dML_message_11 : decode cML_message 11 = .ok (.ireturn, 1) := by decide +kernel
theorem dML_message_12 : decode cML_message 12 = .ok (.iload_n 2, 1) := by decide +kernel
theorem dML_message_13 : decode cML_message 13 = .ok (.tableswitch 60 0 3 #[31, 39, 44, 52], 31) := by decide +kernel
theorem dML_message_44 : decode cML_message 44 = .ok (.aload_n 3, 1) := by decide +kernel
theorem dML_message_45 : decode cML_message 45 = .ok (.invokevirtual 84, 3) := by decide +kernel
theorem dML_message_48 : decode cML_message 48 = .ok (.invokevirtual 53, 3) := by decide +kernel
theorem dML_message_51 : decode cML_message 51 = .ok (.ireturn, 1) := by decide +kernel
theorem dML_message_52 : decode cML_message 52 = .ok (.aload_n 3, 1) := by decide +kernel
theorem dML_message_53 : decode cML_message 53 = .ok (.invokevirtual 87, 3) := by decide +kernel
theorem dML_message_56 : decode cML_message 56 = .ok (.ireturn, 1) := by decide +kernel
theorem dML_message_57 : decode cML_message 57 = .ok (.aload_n 3, 1) := by decide +kernel
theorem dML_message_58 : decode cML_message 58 = .ok (.invokevirtual 90, 3) := by decide +kernel
theorem dML_message_61 : decode cML_message 61 = .ok (.invokevirtual 53, 3) := by decide +kernel
theorem dML_message_64 : decode cML_message 64 = .ok (.ireturn, 1) := by decide +kernel
theorem dML_message_65 : decode cML_message 65 = .ok (.aload_n 3, 1) := by decide +kernel
theorem dML_message_66 : decode cML_message 66 = .ok (.invokevirtual 93, 3) := by decide +kernel
theorem dML_message_69 : decode cML_message 69 = .ok (.invokevirtual 53, 3) := by decide +kernel
theorem dML_message_72 : decode cML_message 72 = .ok (.ireturn, 1) := by decide +kernel
theorem dML_message_73 : decode cML_message 73 = .ok (.iconst (-1), 1) := by decide +kernel
theorem dML_message_74 : decode cML_message 74 = .ok (.ireturn, 1) := by decide +kernel
theorem dML_letterOrNull_0 : decode cML_letterOrNull 0 = .ok (.iload_n 1, 1) := by decide +kernel
theorem dML_letterOrNull_1 : decode cML_letterOrNull 1 = .ok (.ifCond .lt 29, 3) := by decide +kernel
theorem dML_letterOrNull_4 : decode cML_letterOrNull 4 = .ok (.iload_n 1, 1) := by decide +kernel
theorem dML_letterOrNull_5 : decode cML_letterOrNull 5 = .ok (.aload_n 0, 1) := by decide +kernel
theorem dML_letterOrNull_6 : decode cML_letterOrNull 6 = .ok (.getfield 102, 3) := by decide +kernel
theorem dML_letterOrNull_9 : decode cML_letterOrNull 9 = .ok (.if_icmp .ge 21, 3) := by decide +kernel
theorem dML_letterOrNull_12 : decode cML_letterOrNull 12 = .ok (.iload_n 1, 1) := by decide +kernel
theorem dML_letterOrNull_13 : decode cML_letterOrNull 13 = .ok (.aload_n 0, 1) := by decide +kernel
theorem dML_letterOrNull_14 : decode cML_letterOrNull 14 = .ok (.getfield 41, 3) := by decide +kernel
theorem dML_letterOrNull_17 : decode cML_letterOrNull 17 = .ok (.arraylength, 1) := by decide +kernel
theorem dML_letterOrNull_18 : decode cML_letterOrNull 18 = .ok (.if_icmp .ge 12, 3) := by decide +kernel
theorem dML_letterOrNull_21 : decode cML_letterOrNull 21 = .ok (.aload_n 0, 1) := by decide +kernel
theorem dML_letterOrNull_22 : decode cML_letterOrNull 22 = .ok (.getfield 41, 3) := by decide +kernel
theorem dML_letterOrNull_25 : decode cML_letterOrNull 25 = .ok (.iload_n 1, 1) := by decide +kernel
theorem dML_letterOrNull_26 : decode cML_letterOrNull 26 = .ok (.aaload, 1) := by decide +kernel
theorem dML_letterOrNull_27 : decode cML_letterOrNull 27 = .ok (.goto 4, 3) := by decide +kernel
theorem dML_letterOrNull_30 : decode cML_letterOrNull 30 = .ok (.aconst_null, 1) := by decide +kernel
theorem dML_letterOrNull_31 : decode cML_letterOrNull 31 = .ok (.areturn, 1) := by decide +kernel
theorem dML_bytes_0 : decode cML_bytes 0 = .ok (.aload_n 0, 1) := by decide +kernel
theorem dML_bytes_1 : decode cML_bytes 1 = .ok (.iload_n 1, 1) := by decide +kernel
theorem dML_bytes_2 : decode cML_bytes 2 = .ok (.invokevirtual 80, 3) := by decide +kernel
theorem dML_bytes_5 : decode cML_bytes 5 = .ok (.astore 4, 2) := by decide +kernel
theorem dML_bytes_7 : decode cML_bytes 7 = .ok (.aload 4, 2) := by decide +kernel
theorem dML_bytes_9 : decode cML_bytes 9 = .ok (.ifnull 7, 3) := by decide +kernel
theorem dML_bytes_12 : decode cML_bytes 12 = .ok (.iload_n 3, 1) := by decide +kernel
theorem dML_bytes_13 : decode cML_bytes 13 = .ok (.ifCond .ge 7, 3) := by decide +kernel
theorem dML_bytes_16 : decode cML_bytes 16 = .ok (.ldc2_w 96, 3) := by decide +kernel
theorem dML_bytes_19 : decode cML_bytes 19 = .ok (.lreturn, 1) := by decide +kernel
theorem dML_bytes_20 : decode cML_bytes 20 = .ok (.iload_n 2, 1) := by decide +kernel
theorem dML_bytes_21 : decode cML_bytes 21 = .ok (.tableswitch 57 0 2 #[27, 37, 47], 27) := by decide +kernel
theorem dML_bytes_48 : decode cML_bytes 48 = .ok (.aload 4, 2) := by decide +kernel
theorem dML_bytes_50 : decode cML_bytes 50 = .ok (.invokevirtual 84, 3) := by decide +kernel
theorem dML_bytes_53 : decode cML_bytes 53 = .ok (.iload_n 3, 1) := by decide +kernel
theorem dML_bytes_54 : decode cML_bytes 54 = .ok (.invokevirtual 98, 3) := by decide +kernel
theorem dML_bytes_57 : decode cML_bytes 57 = .ok (.lreturn, 1) := by decide +kernel
theorem dML_bytes_58 : decode cML_bytes 58 = .ok (.aload 4, 2) := by decide +kernel
theorem dML_bytes_60 : decode cML_bytes 60 = .ok (.invokevirtual 90, 3) := by decide +kernel
theorem dML_bytes_63 : decode cML_bytes 63 = .ok (.iload_n 3, 1) := by decide +kernel
theorem dML_bytes_64 : decode cML_bytes 64 = .ok (.invokevirtual 98, 3) := by decide +kernel
theorem dML_bytes_67 : decode cML_bytes 67 = .ok (.lreturn, 1) := by decide +kernel
theorem dML_bytes_68 : decode cML_bytes 68 = .ok (.aload 4, 2) := by decide +kernel
theorem dML_bytes_70 : decode cML_bytes 70 = .ok (.invokevirtual 93, 3) := by decide +kernel
theorem dML_bytes_73 : decode cML_bytes 73 = .ok (.iload_n 3, 1) := by decide +kernel
theorem dML_bytes_74 : decode cML_bytes 74 = .ok (.invokevirtual 98, 3) := by decide +kernel
theorem dML_bytes_77 : decode cML_bytes 77 = .ok (.lreturn, 1) := by decide +kernel
theorem dML_bytes_78 : decode cML_bytes 78 = .ok (.ldc2_w 96, 3) := by decide +kernel
theorem dML_bytes_81 : decode cML_bytes 81 = .ok (.lreturn, 1) := by decide +kernel
theorem dML_count_0 : decode cML_count 0 = .ok (.iload_n 1, 1) := by decide +kernel
theorem dML_count_1 : decode cML_count 1 = .ok (.tableswitch 117 0 5 #[39, 44, 57, 70, 78, 109], 39) := by decide +kernel
theorem dML_count_40 : decode cML_count 40 = .ok (.aload_n 0, 1) := by decide +kernel
theorem dML_count_41 : decode cML_count 41 = .ok (.getfield 102, 3) := by decide +kernel
theorem dML_count_44 : decode cML_count 44 = .ok (.ireturn, 1) := by decide +kernel
theorem dML_count_45 : decode cML_count 45 = .ok (.aload_n 0, 1) := by decide +kernel
theorem dML_count_46 : decode cML_count 46 = .ok (.getfield 46, 3) := by decide +kernel
theorem dML_count_49 : decode cML_count 49 = .ok (.ifCond .eq 7, 3) := by decide +kernel
theorem dML_count_52 : decode cML_count 52 = .ok (.iconst 1, 1) := by decide +kernel
theorem dML_count_53 : decode cML_count 53 = .ok (.goto 4, 3) := by decide +kernel
theorem dML_count_56 : decode cML_count 56 = .ok (.iconst 0, 1) := by decide +kernel
theorem dML_count_57 : decode cML_count 57 = .ok (.ireturn, 1) := by decide +kernel
theorem dML_count_58 : decode cML_count 58 = .ok (.aload_n 0, 1) := by decide +kernel
theorem dML_count_59 : decode cML_count 59 = .ok (.getfield 73, 3) := by decide +kernel
theorem dML_count_62 : decode cML_count 62 = .ok (.ifCond .eq 7, 3) := by decide +kernel
theorem dML_count_65 : decode cML_count 65 = .ok (.iconst 1, 1) := by decide +kernel
theorem dML_count_66 : decode cML_count 66 = .ok (.goto 4, 3) := by decide +kernel
theorem dML_count_69 : decode cML_count 69 = .ok (.iconst 0, 1) := by decide +kernel
theorem dML_count_70 : decode cML_count 70 = .ok (.ireturn, 1) := by decide +kernel
theorem dML_count_71 : decode cML_count 71 = .ok (.aload_n 0, 1) := by decide +kernel
theorem dML_count_72 : decode cML_count 72 = .ok (.getfield 35, 3) := by decide +kernel
theorem dML_count_75 : decode cML_count 75 = .ok (.invokevirtual 106, 3) := by decide +kernel
theorem dML_count_78 : decode cML_count 78 = .ok (.ireturn, 1) := by decide +kernel
theorem dML_count_79 : decode cML_count 79 = .ok (.aload_n 0, 1) := by decide +kernel
theorem dML_count_80 : decode cML_count 80 = .ok (.getfield 73, 3) := by decide +kernel
theorem dML_count_83 : decode cML_count 83 = .ok (.ifCond .eq 16, 3) := by decide +kernel
theorem dML_count_86 : decode cML_count 86 = .ok (.aload_n 0, 1) := by decide +kernel
theorem dML_count_87 : decode cML_count 87 = .ok (.getfield 28, 3) := by decide +kernel
theorem dML_count_90 : decode cML_count 90 = .ok (.invokevirtual 107, 3) := by decide +kernel
theorem dML_count_93 : decode cML_count 93 = .ok (.invokevirtual 53, 3) := by decide +kernel
theorem dML_count_96 : decode cML_count 96 = .ok (.goto 13, 3) := by decide +kernel
theorem dML_count_99 : decode cML_count 99 = .ok (.aload_n 0, 1) := by decide +kernel
theorem dML_count_100 : decode cML_count 100 = .ok (.getfield 21, 3) := by decide +kernel
theorem dML_count_103 : decode cML_count 103 = .ok (.invokevirtual 110, 3) := by decide +kernel
theorem dML_count_106 : decode cML_count 106 = .ok (.invokevirtual 53, 3) := by decide +kernel
theorem dML_count_109 : decode cML_count 109 = .ok (.ireturn, 1) := by decide +kernel
theorem dML_count_110 : decode cML_count 110 = .ok (.aload_n 0, 1) := by decide +kernel
theorem dML_count_111 : decode cML_count 111 = .ok (.getfield 14, 3) := by decide +kernel
theorem dML_count_114 : decode cML_count 114 = .ok (.invokevirtual 53, 3) := by decide +kernel
theorem dML_count_117 : decode cML_count 117 = .ok (.ireturn, 1) := by decide +kernel
theorem dML_count_118 : decode cML_count 118 = .ok (.iconst (-1), 1) := by decide +kernel
theorem dML_count_119 : decode cML_count 119 = .ok (.ireturn, 1) := by decide +kernel
theorem dGr_hasFirstWord_0 : decode cGr_hasFirstWord 0 = .ok (.aload_n 0, 1) := by decide +kernel
theorem dGr_hasFirstWord_1 : decode cGr_hasFirstWord 1 = .ok (.iconst 0, 1) := by decide +kernel
theorem dGr_hasFirstWord_2 : decode cGr_hasFirstWord 2 = .ok (.aload_n 1, 1) := by decide +kernel
theorem dGr_hasFirstWord_3 : decode cGr_hasFirstWord 3 = .ok (.invokevirtual 9, 3) := by decide +kernel
theorem dGr_hasFirstWord_6 : decode cGr_hasFirstWord 6 = .ok (.ifCond .eq 24, 3) := by decide +kernel
theorem dGr_hasFirstWord_9 : decode cGr_hasFirstWord 9 = .ok (.aload_n 0, 1) := by decide +kernel
theorem dGr_hasFirstWord_10 : decode cGr_hasFirstWord 10 = .ok (.invokestatic 15, 3) := by decide +kernel
theorem dGr_hasFirstWord_13 : decode cGr_hasFirstWord 13 = .ok (.ifCond .ne 13, 3) := by decide +kernel
theorem dGr_hasFirstWord_16 : decode cGr_hasFirstWord 16 = .ok (.aload_n 0, 1) := by decide +kernel
theorem dGr_hasFirstWord_17 : decode cGr_hasFirstWord 17 = .ok (.iconst 4, 1) := by decide +kernel
theorem dGr_hasFirstWord_18 : decode cGr_hasFirstWord 18 = .ok (.invokevirtual 21, 3) := by decide +kernel
theorem dGr_hasFirstWord_21 : decode cGr_hasFirstWord 21 = .ok (.bipush 32, 2) := by decide +kernel
theorem dGr_hasFirstWord_23 : decode cGr_hasFirstWord 23 = .ok (.if_icmp .ne 7, 3) := by decide +kernel
theorem dGr_hasFirstWord_26 : decode cGr_hasFirstWord 26 = .ok (.iconst 1, 1) := by decide +kernel
theorem dGr_hasFirstWord_27 : decode cGr_hasFirstWord 27 = .ok (.goto 4, 3) := by decide +kernel
theorem dGr_hasFirstWord_30 : decode cGr_hasFirstWord 30 = .ok (.iconst 0, 1) := by decide +kernel
theorem dGr_hasFirstWord_31 : decode cGr_hasFirstWord 31 = .ok (.ireturn, 1) := by decide +kernel
theorem dGr_isBareWord_0 : decode cGr_isBareWord 0 = .ok (.aload_n 0, 1) := by decide +kernel
theorem dGr_isBareWord_1 : decode cGr_isBareWord 1 = .ok (.invokevirtual 25, 3) := by decide +kernel
theorem dGr_isBareWord_4 : decode cGr_isBareWord 4 = .ok (.iconst 4, 1) := by decide +kernel
theorem dGr_isBareWord_5 : decode cGr_isBareWord 5 = .ok (.if_icmp .ne 7, 3) := by decide +kernel
theorem dGr_isBareWord_8 : decode cGr_isBareWord 8 = .ok (.iconst 1, 1) := by decide +kernel
theorem dGr_isBareWord_9 : decode cGr_isBareWord 9 = .ok (.goto 4, 3) := by decide +kernel
theorem dGr_isBareWord_12 : decode cGr_isBareWord 12 = .ok (.iconst 0, 1) := by decide +kernel
theorem dGr_isBareWord_13 : decode cGr_isBareWord 13 = .ok (.ireturn, 1) := by decide +kernel
theorem dGr_isGreeting_0 : decode cGr_isGreeting 0 = .ok (.aload_n 0, 1) := by decide +kernel
theorem dGr_isGreeting_1 : decode cGr_isGreeting 1 = .ok (.iconst 4, 1) := by decide +kernel
theorem dGr_isGreeting_2 : decode cGr_isGreeting 2 = .ok (.invokevirtual 21, 3) := by decide +kernel
theorem dGr_isGreeting_5 : decode cGr_isGreeting 5 = .ok (.bipush 32, 2) := by decide +kernel
theorem dGr_isGreeting_7 : decode cGr_isGreeting 7 = .ok (.if_icmp .ne 23, 3) := by decide +kernel
theorem dGr_isGreeting_10 : decode cGr_isGreeting 10 = .ok (.aload_n 0, 1) := by decide +kernel
theorem dGr_isGreeting_11 : decode cGr_isGreeting 11 = .ok (.iconst 5, 1) := by decide +kernel
theorem dGr_isGreeting_12 : decode cGr_isGreeting 12 = .ok (.bipush 60, 2) := by decide +kernel
theorem dGr_isGreeting_14 : decode cGr_isGreeting 14 = .ok (.ldc 29, 2) := by decide +kernel
theorem dGr_isGreeting_16 : decode cGr_isGreeting 16 = .ok (.invokestatic 31, 3) := by decide +kernel
theorem dGr_isGreeting_19 : decode cGr_isGreeting 19 = .ok (.aload_n 0, 1) := by decide +kernel
theorem dGr_isGreeting_20 : decode cGr_isGreeting 20 = .ok (.invokevirtual 25, 3) := by decide +kernel
theorem dGr_isGreeting_23 : decode cGr_isGreeting 23 = .ok (.if_icmp .ne 7, 3) := by decide +kernel
theorem dGr_isGreeting_26 : decode cGr_isGreeting 26 = .ok (.iconst 1, 1) := by decide +kernel
theorem dGr_isGreeting_27 : decode cGr_isGreeting 27 = .ok (.goto 4, 3) := by decide +kernel
theorem dGr_isGreeting_30 : decode cGr_isGreeting 30 = .ok (.iconst 0, 1) := by decide +kernel
theorem dGr_isGreeting_31 : decode cGr_isGreeting 31 = .ok (.ireturn, 1) := by decide +kernel
theorem dGr_nameEnd_0 : decode cGr_nameEnd 0 = .ok (.iconst 1, 1) := by decide +kernel
theorem dGr_nameEnd_1 : decode cGr_nameEnd 1 = .ok (.istore 4, 2) := by decide +kernel
theorem dGr_nameEnd_3 : decode cGr_nameEnd 3 = .ok (.iload_n 1, 1) := by decide +kernel
theorem dGr_nameEnd_4 : decode cGr_nameEnd 4 = .ok (.istore 5, 2) := by decide +kernel
theorem dGr_nameEnd_6 : decode cGr_nameEnd 6 = .ok (.iload 5, 2) := by decide +kernel
theorem dGr_nameEnd_8 : decode cGr_nameEnd 8 = .ok (.aload_n 0, 1) := by decide +kernel
theorem dGr_nameEnd_9 : decode cGr_nameEnd 9 = .ok (.invokevirtual 25, 3) := by decide +kernel
theorem dGr_nameEnd_12 : decode cGr_nameEnd 12 = .ok (.if_icmp .ge 64, 3) := by decide +kernel
theorem dGr_nameEnd_15 : decode cGr_nameEnd 15 = .ok (.aload_n 0, 1) := by decide +kernel
theorem dGr_nameEnd_16 : decode cGr_nameEnd 16 = .ok (.iload 5, 2) := by decide +kernel
theorem dGr_nameEnd_18 : decode cGr_nameEnd 18 = .ok (.invokevirtual 21, 3) := by decide +kernel
theorem dGr_nameEnd_21 : decode cGr_nameEnd 21 = .ok (.istore 6, 2) := by decide +kernel
theorem dGr_nameEnd_23 : decode cGr_nameEnd 23 = .ok (.iload 6, 2) := by decide +kernel
theorem dGr_nameEnd_25 : decode cGr_nameEnd 25 = .ok (.bipush 46, 2) := by decide +kernel
theorem dGr_nameEnd_27 : decode cGr_nameEnd 27 = .ok (.if_icmp .ne 10, 3) := by decide +kernel
theorem dGr_nameEnd_30 : decode cGr_nameEnd 30 = .ok (.iload 4, 2) := by decide +kernel
theorem dGr_nameEnd_32 : decode cGr_nameEnd 32 = .ok (.ifCond .eq 5, 3) := by decide +kernel
theorem dGr_nameEnd_35 : decode cGr_nameEnd 35 = .ok (.iconst (-1), 1) := by decide +kernel
theorem dGr_nameEnd_36 : decode cGr_nameEnd 36 = .ok (.ireturn, 1) := by decide +kernel
theorem dGr_nameEnd_37 : decode cGr_nameEnd 37 = .ok (.iload 6, 2) := by decide +kernel
theorem dGr_nameEnd_39 : decode cGr_nameEnd 39 = .ok (.bipush 46, 2) := by decide +kernel
theorem dGr_nameEnd_41 : decode cGr_nameEnd 41 = .ok (.if_icmp .eq 15, 3) := by decide +kernel
theorem dGr_nameEnd_44 : decode cGr_nameEnd 44 = .ok (.iload 6, 2) := by decide +kernel
theorem dGr_nameEnd_46 : decode cGr_nameEnd 46 = .ok (.aload_n 3, 1) := by decide +kernel
theorem dGr_nameEnd_47 : decode cGr_nameEnd 47 = .ok (.invokestatic 60, 3) := by decide +kernel
theorem dGr_nameEnd_50 : decode cGr_nameEnd 50 = .ok (.ifCond .ne 6, 3) := by decide +kernel
theorem dGr_nameEnd_53 : decode cGr_nameEnd 53 = .ok (.goto 23, 3) := by decide +kernel
theorem dGr_nameEnd_56 : decode cGr_nameEnd 56 = .ok (.iload 6, 2) := by decide +kernel
theorem dGr_nameEnd_58 : decode cGr_nameEnd 58 = .ok (.bipush 46, 2) := by decide +kernel
theorem dGr_nameEnd_60 : decode cGr_nameEnd 60 = .ok (.if_icmp .ne 7, 3) := by decide +kernel
theorem dGr_nameEnd_63 : decode cGr_nameEnd 63 = .ok (.iconst 1, 1) := by decide +kernel
theorem dGr_nameEnd_64 : decode cGr_nameEnd 64 = .ok (.goto 4, 3) := by decide +kernel
theorem dGr_nameEnd_67 : decode cGr_nameEnd 67 = .ok (.iconst 0, 1) := by decide +kernel
theorem dGr_nameEnd_68 : decode cGr_nameEnd 68 = .ok (.istore 4, 2) := by decide +kernel
theorem dGr_nameEnd_70 : decode cGr_nameEnd 70 = .ok (.iinc 5 1, 3) := by decide +kernel
theorem dGr_nameEnd_73 : decode cGr_nameEnd 73 = .ok (.goto (-67), 3) := by decide +kernel
theorem dGr_nameEnd_76 : decode cGr_nameEnd 76 = .ok (.iload 4, 2) := by decide +kernel
theorem dGr_nameEnd_78 : decode cGr_nameEnd 78 = .ok (.ifCond .ne 11, 3) := by decide +kernel
theorem dGr_nameEnd_81 : decode cGr_nameEnd 81 = .ok (.iload 5, 2) := by decide +kernel
theorem dGr_nameEnd_83 : decode cGr_nameEnd 83 = .ok (.iload_n 1, 1) := by decide +kernel
theorem dGr_nameEnd_84 : decode cGr_nameEnd 84 = .ok (.isub, 1) := by decide +kernel
theorem dGr_nameEnd_85 : decode cGr_nameEnd 85 = .ok (.iload_n 2, 1) := by decide +kernel
theorem dGr_nameEnd_86 : decode cGr_nameEnd 86 = .ok (.if_icmp .le 7, 3) := by decide +kernel
theorem dGr_nameEnd_89 : decode cGr_nameEnd 89 = .ok (.iconst (-1), 1) := by decide +kernel
theorem dGr_nameEnd_90 : decode cGr_nameEnd 90 = .ok (.goto 5, 3) := by decide +kernel
theorem dGr_nameEnd_93 : decode cGr_nameEnd 93 = .ok (.iload 5, 2) := by decide +kernel
theorem dGr_nameEnd_95 : decode cGr_nameEnd 95 = .ok (.ireturn, 1) := by decide +kernel
theorem dGr_isNameByte_0 : decode cGr_isNameByte 0 = .ok (.iload_n 0, 1) := by decide +kernel
theorem dGr_isNameByte_1 : decode cGr_isNameByte 1 = .ok (.bipush 65, 2) := by decide +kernel
theorem dGr_isNameByte_3 : decode cGr_isNameByte 3 = .ok (.if_icmp .lt 9, 3) := by decide +kernel
theorem dGr_isNameByte_6 : decode cGr_isNameByte 6 = .ok (.iload_n 0, 1) := by decide +kernel
theorem dGr_isNameByte_7 : decode cGr_isNameByte 7 = .ok (.bipush 90, 2) := by decide +kernel
theorem dGr_isNameByte_9 : decode cGr_isNameByte 9 = .ok (.if_icmp .le 36, 3) := by decide +kernel
theorem dGr_isNameByte_12 : decode cGr_isNameByte 12 = .ok (.iload_n 0, 1) := by decide +kernel
theorem dGr_isNameByte_13 : decode cGr_isNameByte 13 = .ok (.bipush 97, 2) := by decide +kernel
theorem dGr_isNameByte_15 : decode cGr_isNameByte 15 = .ok (.if_icmp .lt 9, 3) := by decide +kernel
theorem dGr_isNameByte_18 : decode cGr_isNameByte 18 = .ok (.iload_n 0, 1) := by decide +kernel
theorem dGr_isNameByte_19 : decode cGr_isNameByte 19 = .ok (.bipush 122, 2) := by decide +kernel
theorem dGr_isNameByte_21 : decode cGr_isNameByte 21 = .ok (.if_icmp .le 24, 3) := by decide +kernel
theorem dGr_isNameByte_24 : decode cGr_isNameByte 24 = .ok (.iload_n 0, 1) := by decide +kernel
theorem dGr_isNameByte_25 : decode cGr_isNameByte 25 = .ok (.bipush 48, 2) := by decide +kernel
theorem dGr_isNameByte_27 : decode cGr_isNameByte 27 = .ok (.if_icmp .lt 9, 3) := by decide +kernel
theorem dGr_isNameByte_30 : decode cGr_isNameByte 30 = .ok (.iload_n 0, 1) := by decide +kernel
theorem dGr_isNameByte_31 : decode cGr_isNameByte 31 = .ok (.bipush 57, 2) := by decide +kernel
theorem dGr_isNameByte_33 : decode cGr_isNameByte 33 = .ok (.if_icmp .le 12, 3) := by decide +kernel
theorem dGr_isNameByte_36 : decode cGr_isNameByte 36 = .ok (.aload_n 1, 1) := by decide +kernel
theorem dGr_isNameByte_37 : decode cGr_isNameByte 37 = .ok (.iload_n 0, 1) := by decide +kernel
theorem dGr_isNameByte_38 : decode cGr_isNameByte 38 = .ok (.i2c, 1) := by decide +kernel
theorem dGr_isNameByte_39 : decode cGr_isNameByte 39 = .ok (.invokevirtual 63, 3) := by decide +kernel
theorem dGr_isNameByte_42 : decode cGr_isNameByte 42 = .ok (.ifCond .lt 7, 3) := by decide +kernel
theorem dGr_isNameByte_45 : decode cGr_isNameByte 45 = .ok (.iconst 1, 1) := by decide +kernel
theorem dGr_isNameByte_46 : decode cGr_isNameByte 46 = .ok (.goto 4, 3) := by decide +kernel
theorem dGr_isNameByte_49 : decode cGr_isNameByte 49 = .ok (.iconst 0, 1) := by decide +kernel
theorem dGr_isNameByte_50 : decode cGr_isNameByte 50 = .ok (.ireturn, 1) := by decide +kernel
theorem dGr_pathEnd_0 : decode cGr_pathEnd 0 = .ok (.aload_n 1, 1) := by decide +kernel
theorem dGr_pathEnd_1 : decode cGr_pathEnd 1 = .ok (.invokevirtual 35, 3) := by decide +kernel
theorem dGr_pathEnd_4 : decode cGr_pathEnd 4 = .ok (.istore_n 2, 1) := by decide +kernel
theorem dGr_pathEnd_5 : decode cGr_pathEnd 5 = .ok (.aload_n 0, 1) := by decide +kernel
theorem dGr_pathEnd_6 : decode cGr_pathEnd 6 = .ok (.iconst 0, 1) := by decide +kernel
theorem dGr_pathEnd_7 : decode cGr_pathEnd 7 = .ok (.aload_n 1, 1) := by decide +kernel
theorem dGr_pathEnd_8 : decode cGr_pathEnd 8 = .ok (.invokevirtual 9, 3) := by decide +kernel
theorem dGr_pathEnd_11 : decode cGr_pathEnd 11 = .ok (.ifCond .eq 13, 3) := by decide +kernel
theorem dGr_pathEnd_14 : decode cGr_pathEnd 14 = .ok (.aload_n 0, 1) := by decide +kernel
theorem dGr_pathEnd_15 : decode cGr_pathEnd 15 = .ok (.iload_n 2, 1) := by decide +kernel
theorem dGr_pathEnd_16 : decode cGr_pathEnd 16 = .ok (.invokevirtual 21, 3) := by decide +kernel
theorem dGr_pathEnd_19 : decode cGr_pathEnd 19 = .ok (.bipush 60, 2) := by decide +kernel
theorem dGr_pathEnd_21 : decode cGr_pathEnd 21 = .ok (.if_icmp .eq 5, 3) := by decide +kernel
theorem dGr_pathEnd_24 : decode cGr_pathEnd 24 = .ok (.iconst (-1), 1) := by decide +kernel
theorem dGr_pathEnd_25 : decode cGr_pathEnd 25 = .ok (.ireturn, 1) := by decide +kernel
theorem dGr_pathEnd_26 : decode cGr_pathEnd 26 = .ok (.aload_n 0, 1) := by decide +kernel
theorem dGr_pathEnd_27 : decode cGr_pathEnd 27 = .ok (.iload_n 2, 1) := by decide +kernel
theorem dGr_pathEnd_28 : decode cGr_pathEnd 28 = .ok (.iconst 1, 1) := by decide +kernel
theorem dGr_pathEnd_29 : decode cGr_pathEnd 29 = .ok (.iadd, 1) := by decide +kernel
theorem dGr_pathEnd_30 : decode cGr_pathEnd 30 = .ok (.bipush 40, 2) := by decide +kernel
theorem dGr_pathEnd_32 : decode cGr_pathEnd 32 = .ok (.ldc 38, 2) := by decide +kernel
theorem dGr_pathEnd_34 : decode cGr_pathEnd 34 = .ok (.invokestatic 31, 3) := by decide +kernel
theorem dGr_pathEnd_37 : decode cGr_pathEnd 37 = .ok (.istore_n 3, 1) := by decide +kernel
theorem dGr_pathEnd_38 : decode cGr_pathEnd 38 = .ok (.iload_n 3, 1) := by decide +kernel
theorem dGr_pathEnd_39 : decode cGr_pathEnd 39 = .ok (.ifCond .lt 13, 3) := by decide +kernel
theorem dGr_pathEnd_42 : decode cGr_pathEnd 42 = .ok (.aload_n 0, 1) := by decide +kernel
theorem dGr_pathEnd_43 : decode cGr_pathEnd 43 = .ok (.iload_n 3, 1) := by decide +kernel
theorem dGr_pathEnd_44 : decode cGr_pathEnd 44 = .ok (.invokevirtual 21, 3) := by decide +kernel
theorem dGr_pathEnd_47 : decode cGr_pathEnd 47 = .ok (.bipush 64, 2) := by decide +kernel
theorem dGr_pathEnd_49 : decode cGr_pathEnd 49 = .ok (.if_icmp .eq 5, 3) := by decide +kernel
theorem dGr_pathEnd_52 : decode cGr_pathEnd 52 = .ok (.iconst (-1), 1) := by decide +kernel
theorem dGr_pathEnd_53 : decode cGr_pathEnd 53 = .ok (.ireturn, 1) := by decide +kernel
theorem dGr_pathEnd_54 : decode cGr_pathEnd 54 = .ok (.aload_n 0, 1) := by decide +kernel
theorem dGr_pathEnd_55 : decode cGr_pathEnd 55 = .ok (.iload_n 3, 1) := by decide +kernel
theorem dGr_pathEnd_56 : decode cGr_pathEnd 56 = .ok (.iconst 1, 1) := by decide +kernel
theorem dGr_pathEnd_57 : decode cGr_pathEnd 57 = .ok (.iadd, 1) := by decide +kernel
theorem dGr_pathEnd_58 : decode cGr_pathEnd 58 = .ok (.bipush 60, 2) := by decide +kernel
theorem dGr_pathEnd_60 : decode cGr_pathEnd 60 = .ok (.ldc 29, 2) := by decide +kernel
theorem dGr_pathEnd_62 : decode cGr_pathEnd 62 = .ok (.invokestatic 31, 3) := by decide +kernel
theorem dGr_pathEnd_65 : decode cGr_pathEnd 65 = .ok (.istore 4, 2) := by decide +kernel
theorem dGr_pathEnd_67 : decode cGr_pathEnd 67 = .ok (.iload 4, 2) := by decide +kernel
theorem dGr_pathEnd_69 : decode cGr_pathEnd 69 = .ok (.ifCond .lt 21, 3) := by decide +kernel
theorem dGr_pathEnd_72 : decode cGr_pathEnd 72 = .ok (.aload_n 0, 1) := by decide +kernel
theorem dGr_pathEnd_73 : decode cGr_pathEnd 73 = .ok (.iload 4, 2) := by decide +kernel
theorem dGr_pathEnd_75 : decode cGr_pathEnd 75 = .ok (.invokevirtual 21, 3) := by decide +kernel
theorem dGr_pathEnd_78 : decode cGr_pathEnd 78 = .ok (.bipush 62, 2) := by decide +kernel
theorem dGr_pathEnd_80 : decode cGr_pathEnd 80 = .ok (.if_icmp .ne 10, 3) := by decide +kernel
theorem dGr_pathEnd_83 : decode cGr_pathEnd 83 = .ok (.iload 4, 2) := by decide +kernel
theorem dGr_pathEnd_85 : decode cGr_pathEnd 85 = .ok (.iconst 1, 1) := by decide +kernel
theorem dGr_pathEnd_86 : decode cGr_pathEnd 86 = .ok (.iadd, 1) := by decide +kernel
theorem dGr_pathEnd_87 : decode cGr_pathEnd 87 = .ok (.goto 4, 3) := by decide +kernel
theorem dGr_pathEnd_90 : decode cGr_pathEnd 90 = .ok (.iconst (-1), 1) := by decide +kernel
theorem dGr_pathEnd_91 : decode cGr_pathEnd 91 = .ok (.ireturn, 1) := by decide +kernel
theorem dGr_largestSize_0 : decode cGr_largestSize 0 = .ok (.iconst 0, 1) := by decide +kernel
theorem dGr_largestSize_1 : decode cGr_largestSize 1 = .ok (.istore_n 2, 1) := by decide +kernel
theorem dGr_largestSize_2 : decode cGr_largestSize 2 = .ok (.iload_n 1, 1) := by decide +kernel
theorem dGr_largestSize_3 : decode cGr_largestSize 3 = .ok (.istore_n 3, 1) := by decide +kernel
theorem dGr_largestSize_4 : decode cGr_largestSize 4 = .ok (.iconst 0, 1) := by decide +kernel
theorem dGr_largestSize_5 : decode cGr_largestSize 5 = .ok (.istore 4, 2) := by decide +kernel
theorem dGr_largestSize_7 : decode cGr_largestSize 7 = .ok (.iload 4, 2) := by decide +kernel
theorem dGr_largestSize_9 : decode cGr_largestSize 9 = .ok (.bipush 100, 2) := by decide +kernel
theorem dGr_largestSize_11 : decode cGr_largestSize 11 = .ok (.if_icmp .ge 98, 3) := by decide +kernel
theorem dGr_largestSize_14 : decode cGr_largestSize 14 = .ok (.iload_n 3, 1) := by decide +kernel
theorem dGr_largestSize_15 : decode cGr_largestSize 15 = .ok (.aload_n 0, 1) := by decide +kernel
theorem dGr_largestSize_16 : decode cGr_largestSize 16 = .ok (.invokevirtual 25, 3) := by decide +kernel
theorem dGr_largestSize_19 : decode cGr_largestSize 19 = .ok (.if_icmp .ge 90, 3) := by decide +kernel
theorem dGr_largestSize_22 : decode cGr_largestSize 22 = .ok (.aload_n 0, 1) := by decide +kernel
theorem dGr_largestSize_23 : decode cGr_largestSize 23 = .ok (.iload_n 3, 1) := by decide +kernel
theorem dGr_largestSize_24 : decode cGr_largestSize 24 = .ok (.ldc 42, 2) := by decide +kernel
theorem dGr_largestSize_26 : decode cGr_largestSize 26 = .ok (.invokevirtual 9, 3) := by decide +kernel
theorem dGr_largestSize_29 : decode cGr_largestSize 29 = .ok (.ifCond .eq 14, 3) := by decide +kernel
theorem dGr_largestSize_32 : decode cGr_largestSize 32 = .ok (.iload_n 3, 1) := by decide +kernel
theorem dGr_largestSize_33 : decode cGr_largestSize 33 = .ok (.ldc 42, 2) := by decide +kernel
theorem dGr_largestSize_35 : decode cGr_largestSize 35 = .ok (.invokevirtual 35, 3) := by decide +kernel
theorem dGr_largestSize_38 : decode cGr_largestSize 38 = .ok (.iadd, 1) := by decide +kernel
theorem dGr_largestSize_39 : decode cGr_largestSize 39 = .ok (.istore_n 3, 1) := by decide +kernel
theorem dGr_largestSize_40 : decode cGr_largestSize 40 = .ok (.goto 63, 3) := by decide +kernel
theorem dGr_largestSize_43 : decode cGr_largestSize 43 = .ok (.aload_n 0, 1) := by decide +kernel
theorem dGr_largestSize_44 : decode cGr_largestSize 44 = .ok (.iload_n 3, 1) := by decide +kernel
theorem dGr_largestSize_45 : decode cGr_largestSize 45 = .ok (.ldc 44, 2) := by decide +kernel
theorem dGr_largestSize_47 : decode cGr_largestSize 47 = .ok (.invokevirtual 9, 3) := by decide +kernel
theorem dGr_largestSize_50 : decode cGr_largestSize 50 = .ok (.ifCond .eq 51, 3) := by decide +kernel
theorem dGr_largestSize_53 : decode cGr_largestSize 53 = .ok (.iload_n 3, 1) := by decide +kernel
theorem dGr_largestSize_54 : decode cGr_largestSize 54 = .ok (.ldc 44, 2) := by decide +kernel
theorem dGr_largestSize_56 : decode cGr_largestSize 56 = .ok (.invokevirtual 35, 3) := by decide +kernel
theorem dGr_largestSize_59 : decode cGr_largestSize 59 = .ok (.iadd, 1) := by decide +kernel
theorem dGr_largestSize_60 : decode cGr_largestSize 60 = .ok (.istore 5, 2) := by decide +kernel
theorem dGr_largestSize_62 : decode cGr_largestSize 62 = .ok (.aload_n 0, 1) := by decide +kernel
theorem dGr_largestSize_63 : decode cGr_largestSize 63 = .ok (.iload 5, 2) := by decide +kernel
theorem dGr_largestSize_65 : decode cGr_largestSize 65 = .ok (.invokestatic 46, 3) := by decide +kernel
theorem dGr_largestSize_68 : decode cGr_largestSize 68 = .ok (.istore_n 3, 1) := by decide +kernel
theorem dGr_largestSize_69 : decode cGr_largestSize 69 = .ok (.iload_n 3, 1) := by decide +kernel
theorem dGr_largestSize_70 : decode cGr_largestSize 70 = .ok (.iload 5, 2) := by decide +kernel
theorem dGr_largestSize_72 : decode cGr_largestSize 72 = .ok (.if_icmp .eq 12, 3) := by decide +kernel
theorem dGr_largestSize_75 : decode cGr_largestSize 75 = .ok (.iload_n 3, 1) := by decide +kernel
theorem dGr_largestSize_76 : decode cGr_largestSize 76 = .ok (.iload 5, 2) := by decide +kernel
theorem dGr_largestSize_78 : decode cGr_largestSize 78 = .ok (.isub, 1) := by decide +kernel
theorem dGr_largestSize_79 : decode cGr_largestSize 79 = .ok (.bipush 9, 2) := by decide +kernel
theorem dGr_largestSize_81 : decode cGr_largestSize 81 = .ok (.if_icmp .le 5, 3) := by decide +kernel
theorem dGr_largestSize_84 : decode cGr_largestSize 84 = .ok (.iconst (-1), 1) := by decide +kernel
theorem dGr_largestSize_85 : decode cGr_largestSize 85 = .ok (.ireturn, 1) := by decide +kernel
theorem dGr_largestSize_86 : decode cGr_largestSize 86 = .ok (.iload_n 2, 1) := by decide +kernel
theorem dGr_largestSize_87 : decode cGr_largestSize 87 = .ok (.aload_n 0, 1) := by decide +kernel
theorem dGr_largestSize_88 : decode cGr_largestSize 88 = .ok (.iload 5, 2) := by decide +kernel
theorem dGr_largestSize_90 : decode cGr_largestSize 90 = .ok (.iload_n 3, 1) := by decide +kernel
theorem dGr_largestSize_91 : decode cGr_largestSize 91 = .ok (.invokestatic 50, 3) := by decide +kernel
theorem dGr_largestSize_94 : decode cGr_largestSize 94 = .ok (.invokestatic 54, 3) := by decide +kernel
theorem dGr_largestSize_97 : decode cGr_largestSize 97 = .ok (.istore_n 2, 1) := by decide +kernel
theorem dGr_largestSize_98 : decode cGr_largestSize 98 = .ok (.goto 5, 3) := by decide +kernel
theorem dGr_largestSize_101 : decode cGr_largestSize 101 = .ok (.iconst (-1), 1) := by decide +kernel
theorem dGr_largestSize_102 : decode cGr_largestSize 102 = .ok (.ireturn, 1) := by decide +kernel
theorem dGr_largestSize_103 : decode cGr_largestSize 103 = .ok (.iinc 4 1, 3) := by decide +kernel
theorem dGr_largestSize_106 : decode cGr_largestSize 106 = .ok (.goto (-99), 3) := by decide +kernel
theorem dGr_largestSize_109 : decode cGr_largestSize 109 = .ok (.iload_n 2, 1) := by decide +kernel
theorem dGr_largestSize_110 : decode cGr_largestSize 110 = .ok (.ireturn, 1) := by decide +kernel
theorem dGr_digitsEnd_0 : decode cGr_digitsEnd 0 = .ok (.iload_n 1, 1) := by decide +kernel
theorem dGr_digitsEnd_1 : decode cGr_digitsEnd 1 = .ok (.istore_n 2, 1) := by decide +kernel
theorem dGr_digitsEnd_2 : decode cGr_digitsEnd 2 = .ok (.iload_n 2, 1) := by decide +kernel
theorem dGr_digitsEnd_3 : decode cGr_digitsEnd 3 = .ok (.aload_n 0, 1) := by decide +kernel
theorem dGr_digitsEnd_4 : decode cGr_digitsEnd 4 = .ok (.invokevirtual 25, 3) := by decide +kernel
theorem dGr_digitsEnd_7 : decode cGr_digitsEnd 7 = .ok (.if_icmp .ge 20, 3) := by decide +kernel
theorem dGr_digitsEnd_10 : decode cGr_digitsEnd 10 = .ok (.aload_n 0, 1) := by decide +kernel
theorem dGr_digitsEnd_11 : decode cGr_digitsEnd 11 = .ok (.iload_n 2, 1) := by decide +kernel
theorem dGr_digitsEnd_12 : decode cGr_digitsEnd 12 = .ok (.invokevirtual 21, 3) := by decide +kernel
theorem dGr_digitsEnd_15 : decode cGr_digitsEnd 15 = .ok (.invokestatic 66, 3) := by decide +kernel
theorem dGr_digitsEnd_18 : decode cGr_digitsEnd 18 = .ok (.ifCond .eq 9, 3) := by decide +kernel
theorem dGr_digitsEnd_21 : decode cGr_digitsEnd 21 = .ok (.iinc 2 1, 3) := by decide +kernel
theorem dGr_digitsEnd_24 : decode cGr_digitsEnd 24 = .ok (.goto (-22), 3) := by decide +kernel
theorem dGr_digitsEnd_27 : decode cGr_digitsEnd 27 = .ok (.iload_n 2, 1) := by decide +kernel
theorem dGr_digitsEnd_28 : decode cGr_digitsEnd 28 = .ok (.ireturn, 1) := by decide +kernel
theorem dGr_isDigit_0 : decode cGr_isDigit 0 = .ok (.iload_n 0, 1) := by decide +kernel
theorem dGr_isDigit_1 : decode cGr_isDigit 1 = .ok (.bipush 48, 2) := by decide +kernel
theorem dGr_isDigit_3 : decode cGr_isDigit 3 = .ok (.if_icmp .lt 13, 3) := by decide +kernel
theorem dGr_isDigit_6 : decode cGr_isDigit 6 = .ok (.iload_n 0, 1) := by decide +kernel
theorem dGr_isDigit_7 : decode cGr_isDigit 7 = .ok (.bipush 57, 2) := by decide +kernel
theorem dGr_isDigit_9 : decode cGr_isDigit 9 = .ok (.if_icmp .gt 7, 3) := by decide +kernel
theorem dGr_isDigit_12 : decode cGr_isDigit 12 = .ok (.iconst 1, 1) := by decide +kernel
theorem dGr_isDigit_13 : decode cGr_isDigit 13 = .ok (.goto 4, 3) := by decide +kernel
theorem dGr_isDigit_16 : decode cGr_isDigit 16 = .ok (.iconst 0, 1) := by decide +kernel
theorem dGr_isDigit_17 : decode cGr_isDigit 17 = .ok (.ireturn, 1) := by decide +kernel
theorem dGr_number_0 : decode cGr_number 0 = .ok (.iconst 0, 1) := by decide +kernel
theorem dGr_number_1 : decode cGr_number 1 = .ok (.istore_n 3, 1) := by decide +kernel
theorem dGr_number_2 : decode cGr_number 2 = .ok (.iload_n 1, 1) := by decide +kernel
theorem dGr_number_3 : decode cGr_number 3 = .ok (.istore 4, 2) := by decide +kernel
theorem dGr_number_5 : decode cGr_number 5 = .ok (.iload 4, 2) := by decide +kernel
theorem dGr_number_7 : decode cGr_number 7 = .ok (.iload_n 2, 1) := by decide +kernel
theorem dGr_number_8 : decode cGr_number 8 = .ok (.if_icmp .ge 24, 3) := by decide +kernel
theorem dGr_number_11 : decode cGr_number 11 = .ok (.iload_n 3, 1) := by decide +kernel
theorem dGr_number_12 : decode cGr_number 12 = .ok (.bipush 10, 2) := by decide +kernel
theorem dGr_number_14 : decode cGr_number 14 = .ok (.imul, 1) := by decide +kernel
theorem dGr_number_15 : decode cGr_number 15 = .ok (.aload_n 0, 1) := by decide +kernel
theorem dGr_number_16 : decode cGr_number 16 = .ok (.iload 4, 2) := by decide +kernel
theorem dGr_number_18 : decode cGr_number 18 = .ok (.invokevirtual 21, 3) := by decide +kernel
theorem dGr_number_21 : decode cGr_number 21 = .ok (.iadd, 1) := by decide +kernel
theorem dGr_number_22 : decode cGr_number 22 = .ok (.bipush 48, 2) := by decide +kernel
theorem dGr_number_24 : decode cGr_number 24 = .ok (.isub, 1) := by decide +kernel
theorem dGr_number_25 : decode cGr_number 25 = .ok (.istore_n 3, 1) := by decide +kernel
theorem dGr_number_26 : decode cGr_number 26 = .ok (.iinc 4 1, 3) := by decide +kernel
theorem dGr_number_29 : decode cGr_number 29 = .ok (.goto (-24), 3) := by decide +kernel
theorem dGr_number_32 : decode cGr_number 32 = .ok (.iload_n 3, 1) := by decide +kernel
theorem dGr_number_33 : decode cGr_number 33 = .ok (.ireturn, 1) := by decide +kernel
theorem dGr_isHere_0 : decode cGr_isHere 0 = .ok (.aload_n 0, 1) := by decide +kernel
theorem dGr_isHere_1 : decode cGr_isHere 1 = .ok (.iload_n 1, 1) := by decide +kernel
theorem dGr_isHere_2 : decode cGr_isHere 2 = .ok (.bipush 8, 2) := by decide +kernel
theorem dGr_isHere_4 : decode cGr_isHere 4 = .ok (.ldc 38, 2) := by decide +kernel
theorem dGr_isHere_6 : decode cGr_isHere 6 = .ok (.invokestatic 31, 3) := by decide +kernel
theorem dGr_isHere_9 : decode cGr_isHere 9 = .ok (.istore_n 2, 1) := by decide +kernel
theorem dGr_isHere_10 : decode cGr_isHere 10 = .ok (.iload_n 2, 1) := by decide +kernel
theorem dGr_isHere_11 : decode cGr_isHere 11 = .ok (.ifCond .lt 17, 3) := by decide +kernel
theorem dGr_isHere_14 : decode cGr_isHere 14 = .ok (.aload_n 0, 1) := by decide +kernel
theorem dGr_isHere_15 : decode cGr_isHere 15 = .ok (.iload_n 2, 1) := by decide +kernel
theorem dGr_isHere_16 : decode cGr_isHere 16 = .ok (.ldc 40, 2) := by decide +kernel
theorem dGr_isHere_18 : decode cGr_isHere 18 = .ok (.invokevirtual 9, 3) := by decide +kernel
theorem dGr_isHere_21 : decode cGr_isHere 21 = .ok (.ifCond .eq 7, 3) := by decide +kernel
theorem dGr_isHere_24 : decode cGr_isHere 24 = .ok (.iconst 1, 1) := by decide +kernel
theorem dGr_isHere_25 : decode cGr_isHere 25 = .ok (.goto 4, 3) := by decide +kernel
theorem dGr_isHere_28 : decode cGr_isHere 28 = .ok (.iconst 0, 1) := by decide +kernel
theorem dGr_isHere_29 : decode cGr_isHere 29 = .ok (.ireturn, 1) := by decide +kernel
theorem dStr_length_0 : decode cStr_length 0 = .ok (.aload_n 0, 1) := by decide +kernel
theorem dStr_length_1 : decode cStr_length 1 = .ok (.getfield 9, 3) := by decide +kernel
theorem dStr_length_4 : decode cStr_length 4 = .ok (.arraylength, 1) := by decide +kernel
theorem dStr_length_5 : decode cStr_length 5 = .ok (.aload_n 0, 1) := by decide +kernel
theorem dStr_length_6 : decode cStr_length 6 = .ok (.invokevirtual 335, 3) := by decide +kernel
theorem dStr_length_9 : decode cStr_length 9 = .ok (.ishr, 1) := by decide +kernel
theorem dStr_length_10 : decode cStr_length 10 = .ok (.ireturn, 1) := by decide +kernel
theorem dStr_coder_0 : decode cStr_coder 0 = .ok (.getstatic 38, 3) := by decide +kernel
theorem dStr_coder_3 : decode cStr_coder 3 = .ok (.ifCond .eq 10, 3) := by decide +kernel
theorem dStr_coder_6 : decode cStr_coder 6 = .ok (.aload_n 0, 1) := by decide +kernel
theorem dStr_coder_7 : decode cStr_coder 7 = .ok (.getfield 15, 3) := by decide +kernel
theorem dStr_coder_10 : decode cStr_coder 10 = .ok (.goto 4, 3) := by decide +kernel
theorem dStr_coder_13 : decode cStr_coder 13 = .ok (.iconst 1, 1) := by decide +kernel
theorem dStr_coder_14 : decode cStr_coder 14 = .ok (.ireturn, 1) := by decide +kernel
theorem dStr_charAt_0 : decode cStr_charAt 0 = .ok (.aload_n 0, 1) := by decide +kernel
theorem dStr_charAt_1 : decode cStr_charAt 1 = .ok (.invokevirtual 492, 3) := by decide +kernel
theorem dStr_charAt_4 : decode cStr_charAt 4 = .ok (.ifCond .eq 12, 3) := by decide +kernel
theorem dStr_charAt_7 : decode cStr_charAt 7 = .ok (.aload_n 0, 1) := by decide +kernel
theorem dStr_charAt_8 : decode cStr_charAt 8 = .ok (.getfield 9, 3) := by decide +kernel
theorem dStr_charAt_11 : decode cStr_charAt 11 = .ok (.iload_n 1, 1) := by decide +kernel
theorem dStr_charAt_12 : decode cStr_charAt 12 = .ok (.invokestatic 495, 3) := by decide +kernel
theorem dStr_charAt_15 : decode cStr_charAt 15 = .ok (.ireturn, 1) := by decide +kernel
theorem dStr_charAt_16 : decode cStr_charAt 16 = .ok (.aload_n 0, 1) := by decide +kernel
theorem dStr_charAt_17 : decode cStr_charAt 17 = .ok (.getfield 9, 3) := by decide +kernel
theorem dStr_charAt_20 : decode cStr_charAt 20 = .ok (.iload_n 1, 1) := by decide +kernel
theorem dStr_charAt_21 : decode cStr_charAt 21 = .ok (.invokestatic 498, 3) := by decide +kernel
theorem dStr_charAt_24 : decode cStr_charAt 24 = .ok (.ireturn, 1) := by decide +kernel
theorem dStr_isLatin1_0 : decode cStr_isLatin1 0 = .ok (.getstatic 38, 3) := by decide +kernel
theorem dStr_isLatin1_3 : decode cStr_isLatin1 3 = .ok (.ifCond .eq 14, 3) := by decide +kernel
theorem dStr_isLatin1_6 : decode cStr_isLatin1 6 = .ok (.aload_n 0, 1) := by decide +kernel
theorem dStr_isLatin1_7 : decode cStr_isLatin1 7 = .ok (.getfield 15, 3) := by decide +kernel
theorem dStr_isLatin1_10 : decode cStr_isLatin1 10 = .ok (.ifCond .ne 7, 3) := by decide +kernel
theorem dStr_isLatin1_13 : decode cStr_isLatin1 13 = .ok (.iconst 1, 1) := by decide +kernel
theorem dStr_isLatin1_14 : decode cStr_isLatin1 14 = .ok (.goto 4, 3) := by decide +kernel
theorem dStr_isLatin1_17 : decode cStr_isLatin1 17 = .ok (.iconst 0, 1) := by decide +kernel
theorem dStr_isLatin1_18 : decode cStr_isLatin1 18 = .ok (.ireturn, 1) := by decide +kernel
theorem dStr_checkIndex_0 : decode cStr_checkIndex 0 = .ok (.iload_n 0, 1) := by decide +kernel
theorem dStr_checkIndex_1 : decode cStr_checkIndex 1 = .ok (.iload_n 1, 1) := by decide +kernel
theorem dStr_checkIndex_2 : decode cStr_checkIndex 2 = .ok (.getstatic 1053, 3) := by decide +kernel
theorem dStr_checkIndex_5 : decode cStr_checkIndex 5 = .ok (.invokestatic 1059, 3) := by decide +kernel
theorem dStr_checkIndex_8 : decode cStr_checkIndex 8 = .ok (.pop, 1) := by decide +kernel
theorem dStr_checkIndex_9 : decode cStr_checkIndex 9 = .ok (.return_, 1) := by decide +kernel
theorem dStr_indexOf_0 : decode cStr_indexOf 0 = .ok (.aload_n 0, 1) := by decide +kernel
theorem dStr_indexOf_1 : decode cStr_indexOf 1 = .ok (.iload_n 1, 1) := by decide +kernel
theorem dStr_indexOf_2 : decode cStr_indexOf 2 = .ok (.iconst 0, 1) := by decide +kernel
theorem dStr_indexOf_3 : decode cStr_indexOf 3 = .ok (.invokevirtual 633, 3) := by decide +kernel
theorem dStr_indexOf_6 : decode cStr_indexOf 6 = .ok (.ireturn, 1) := by decide +kernel
theorem dStr_indexOf__0 : decode cStr_indexOf_ 0 = .ok (.aload_n 0, 1) := by decide +kernel
theorem dStr_indexOf__1 : decode cStr_indexOf_ 1 = .ok (.invokevirtual 492, 3) := by decide +kernel
theorem dStr_indexOf__4 : decode cStr_indexOf_ 4 = .ok (.ifCond .eq 19, 3) := by decide +kernel
theorem dStr_indexOf__7 : decode cStr_indexOf_ 7 = .ok (.aload_n 0, 1) := by decide +kernel
theorem dStr_indexOf__8 : decode cStr_indexOf_ 8 = .ok (.getfield 9, 3) := by decide +kernel
theorem dStr_indexOf__11 : decode cStr_indexOf_ 11 = .ok (.iload_n 1, 1) := by decide +kernel
theorem dStr_indexOf__12 : decode cStr_indexOf_ 12 = .ok (.iload_n 2, 1) := by decide +kernel
theorem dStr_indexOf__13 : decode cStr_indexOf_ 13 = .ok (.aload_n 0, 1) := by decide +kernel
theorem dStr_indexOf__14 : decode cStr_indexOf_ 14 = .ok (.invokevirtual 505, 3) := by decide +kernel
theorem dStr_indexOf__17 : decode cStr_indexOf_ 17 = .ok (.invokestatic 637, 3) := by decide +kernel
theorem dStr_indexOf__20 : decode cStr_indexOf_ 20 = .ok (.goto 16, 3) := by decide +kernel
theorem dStr_indexOf__23 : decode cStr_indexOf_ 23 = .ok (.aload_n 0, 1) := by decide +kernel
theorem dStr_indexOf__24 : decode cStr_indexOf_ 24 = .ok (.getfield 9, 3) := by decide +kernel
theorem dStr_indexOf__27 : decode cStr_indexOf_ 27 = .ok (.iload_n 1, 1) := by decide +kernel
theorem dStr_indexOf__28 : decode cStr_indexOf_ 28 = .ok (.iload_n 2, 1) := by decide +kernel
theorem dStr_indexOf__29 : decode cStr_indexOf_ 29 = .ok (.aload_n 0, 1) := by decide +kernel
theorem dStr_indexOf__30 : decode cStr_indexOf_ 30 = .ok (.invokevirtual 505, 3) := by decide +kernel
theorem dStr_indexOf__33 : decode cStr_indexOf_ 33 = .ok (.invokestatic 640, 3) := by decide +kernel
theorem dStr_indexOf__36 : decode cStr_indexOf_ 36 = .ok (.ireturn, 1) := by decide +kernel
theorem dSL_charAt_0 : decode cSL_charAt 0 = .ok (.iload_n 1, 1) := by decide +kernel
theorem dSL_charAt_1 : decode cSL_charAt 1 = .ok (.aload_n 0, 1) := by decide +kernel
theorem dSL_charAt_2 : decode cSL_charAt 2 = .ok (.arraylength, 1) := by decide +kernel
theorem dSL_charAt_3 : decode cSL_charAt 3 = .ok (.invokestatic 9, 3) := by decide +kernel
theorem dSL_charAt_6 : decode cSL_charAt 6 = .ok (.aload_n 0, 1) := by decide +kernel
theorem dSL_charAt_7 : decode cSL_charAt 7 = .ok (.iload_n 1, 1) := by decide +kernel
theorem dSL_charAt_8 : decode cSL_charAt 8 = .ok (.baload, 1) := by decide +kernel
theorem dSL_charAt_9 : decode cSL_charAt 9 = .ok (.sipush 255, 3) := by decide +kernel
theorem dSL_charAt_12 : decode cSL_charAt 12 = .ok (.iand, 1) := by decide +kernel
theorem dSL_charAt_13 : decode cSL_charAt 13 = .ok (.i2c, 1) := by decide +kernel
theorem dSL_charAt_14 : decode cSL_charAt 14 = .ok (.ireturn, 1) := by decide +kernel
theorem dSL_indexOf_0 : decode cSL_indexOf 0 = .ok (.iload_n 1, 1) := by decide +kernel
theorem dSL_indexOf_1 : decode cSL_indexOf 1 = .ok (.invokestatic 88, 3) := by decide +kernel
theorem dSL_indexOf_4 : decode cSL_indexOf 4 = .ok (.ifCond .ne 5, 3) := by decide +kernel
theorem dSL_indexOf_7 : decode cSL_indexOf 7 = .ok (.iconst (-1), 1) := by decide +kernel
theorem dSL_indexOf_8 : decode cSL_indexOf 8 = .ok (.ireturn, 1) := by decide +kernel
theorem dSL_indexOf_9 : decode cSL_indexOf 9 = .ok (.iload_n 2, 1) := by decide +kernel
theorem dSL_indexOf_10 : decode cSL_indexOf 10 = .ok (.iconst 0, 1) := by decide +kernel
theorem dSL_indexOf_11 : decode cSL_indexOf 11 = .ok (.invokestatic 92, 3) := by decide +kernel
theorem dSL_indexOf_14 : decode cSL_indexOf 14 = .ok (.istore_n 2, 1) := by decide +kernel
theorem dSL_indexOf_15 : decode cSL_indexOf 15 = .ok (.iload_n 3, 1) := by decide +kernel
theorem dSL_indexOf_16 : decode cSL_indexOf 16 = .ok (.aload_n 0, 1) := by decide +kernel
theorem dSL_indexOf_17 : decode cSL_indexOf 17 = .ok (.arraylength, 1) := by decide +kernel
theorem dSL_indexOf_18 : decode cSL_indexOf 18 = .ok (.invokestatic 38, 3) := by decide +kernel
theorem dSL_indexOf_21 : decode cSL_indexOf 21 = .ok (.istore_n 3, 1) := by decide +kernel
theorem dSL_indexOf_22 : decode cSL_indexOf 22 = .ok (.iload_n 2, 1) := by decide +kernel
theorem dSL_indexOf_23 : decode cSL_indexOf 23 = .ok (.iload_n 3, 1) := by decide +kernel
theorem dSL_indexOf_24 : decode cSL_indexOf 24 = .ok (.if_icmp .lt 5, 3) := by decide +kernel
theorem dSL_indexOf_27 : decode cSL_indexOf 27 = .ok (.iconst (-1), 1) := by decide +kernel
theorem dSL_indexOf_28 : decode cSL_indexOf 28 = .ok (.ireturn, 1) := by decide +kernel
theorem dSL_indexOf_29 : decode cSL_indexOf 29 = .ok (.aload_n 0, 1) := by decide +kernel
theorem dSL_indexOf_30 : decode cSL_indexOf 30 = .ok (.iload_n 1, 1) := by decide +kernel
theorem dSL_indexOf_31 : decode cSL_indexOf 31 = .ok (.iload_n 2, 1) := by decide +kernel
theorem dSL_indexOf_32 : decode cSL_indexOf 32 = .ok (.iload_n 3, 1) := by decide +kernel
theorem dSL_indexOf_33 : decode cSL_indexOf 33 = .ok (.invokestatic 95, 3) := by decide +kernel
theorem dSL_indexOf_36 : decode cSL_indexOf 36 = .ok (.ireturn, 1) := by decide +kernel
theorem dSL_canEncode_0 : decode cSL_canEncode 0 = .ok (.iload_n 0, 1) := by decide +kernel
theorem dSL_canEncode_1 : decode cSL_canEncode 1 = .ok (.ifCond .lt 14, 3) := by decide +kernel
theorem dSL_canEncode_4 : decode cSL_canEncode 4 = .ok (.iload_n 0, 1) := by decide +kernel
theorem dSL_canEncode_5 : decode cSL_canEncode 5 = .ok (.sipush 255, 3) := by decide +kernel
theorem dSL_canEncode_8 : decode cSL_canEncode 8 = .ok (.if_icmp .gt 7, 3) := by decide +kernel
theorem dSL_canEncode_11 : decode cSL_canEncode 11 = .ok (.iconst 1, 1) := by decide +kernel
theorem dSL_canEncode_12 : decode cSL_canEncode 12 = .ok (.goto 4, 3) := by decide +kernel
theorem dSL_canEncode_15 : decode cSL_canEncode 15 = .ok (.iconst 0, 1) := by decide +kernel
theorem dSL_canEncode_16 : decode cSL_canEncode 16 = .ok (.ireturn, 1) := by decide +kernel
theorem dSL_indexOfChar_0 : decode cSL_indexOfChar 0 = .ok (.iload_n 1, 1) := by decide +kernel
theorem dSL_indexOfChar_1 : decode cSL_indexOfChar 1 = .ok (.i2b, 1) := by decide +kernel
theorem dSL_indexOfChar_2 : decode cSL_indexOfChar 2 = .ok (.istore 4, 2) := by decide +kernel
theorem dSL_indexOfChar_4 : decode cSL_indexOfChar 4 = .ok (.iload_n 2, 1) := by decide +kernel
theorem dSL_indexOfChar_5 : decode cSL_indexOfChar 5 = .ok (.istore 5, 2) := by decide +kernel
theorem dSL_indexOfChar_7 : decode cSL_indexOfChar 7 = .ok (.iload 5, 2) := by decide +kernel
theorem dSL_indexOfChar_9 : decode cSL_indexOfChar 9 = .ok (.iload_n 3, 1) := by decide +kernel
theorem dSL_indexOfChar_10 : decode cSL_indexOfChar 10 = .ok (.if_icmp .ge 21, 3) := by decide +kernel
theorem dSL_indexOfChar_13 : decode cSL_indexOfChar 13 = .ok (.aload_n 0, 1) := by decide +kernel
theorem dSL_indexOfChar_14 : decode cSL_indexOfChar 14 = .ok (.iload 5, 2) := by decide +kernel
theorem dSL_indexOfChar_16 : decode cSL_indexOfChar 16 = .ok (.baload, 1) := by decide +kernel
theorem dSL_indexOfChar_17 : decode cSL_indexOfChar 17 = .ok (.iload 4, 2) := by decide +kernel
theorem dSL_indexOfChar_19 : decode cSL_indexOfChar 19 = .ok (.if_icmp .ne 6, 3) := by decide +kernel
theorem dSL_indexOfChar_22 : decode cSL_indexOfChar 22 = .ok (.iload 5, 2) := by decide +kernel
theorem dSL_indexOfChar_24 : decode cSL_indexOfChar 24 = .ok (.ireturn, 1) := by decide +kernel
theorem dSL_indexOfChar_25 : decode cSL_indexOfChar 25 = .ok (.iinc 5 1, 3) := by decide +kernel
theorem dSL_indexOfChar_28 : decode cSL_indexOfChar 28 = .ok (.goto (-21), 3) := by decide +kernel
theorem dSL_indexOfChar_31 : decode cSL_indexOfChar 31 = .ok (.iconst (-1), 1) := by decide +kernel
theorem dSL_indexOfChar_32 : decode cSL_indexOfChar 32 = .ok (.ireturn, 1) := by decide +kernel
theorem dPre_checkIndex_0 : decode cPre_checkIndex 0 = .ok (.iload_n 0, 1) := by decide +kernel
theorem dPre_checkIndex_1 : decode cPre_checkIndex 1 = .ok (.ifCond .lt 8, 3) := by decide +kernel
theorem dPre_checkIndex_4 : decode cPre_checkIndex 4 = .ok (.iload_n 0, 1) := by decide +kernel
theorem dPre_checkIndex_5 : decode cPre_checkIndex 5 = .ok (.iload_n 1, 1) := by decide +kernel
theorem dPre_checkIndex_6 : decode cPre_checkIndex 6 = .ok (.if_icmp .lt 10, 3) := by decide +kernel
theorem dPre_checkIndex_9 : decode cPre_checkIndex 9 = .ok (.aload_n 2, 1) := by decide +kernel
theorem dPre_checkIndex_10 : decode cPre_checkIndex 10 = .ok (.iload_n 0, 1) := by decide +kernel
theorem dPre_checkIndex_11 : decode cPre_checkIndex 11 = .ok (.iload_n 1, 1) := by decide +kernel
theorem dPre_checkIndex_16 : decode cPre_checkIndex 16 = .ok (.iload_n 0, 1) := by decide +kernel
theorem dPre_checkIndex_17 : decode cPre_checkIndex 17 = .ok (.ireturn, 1) := by decide +kernel
