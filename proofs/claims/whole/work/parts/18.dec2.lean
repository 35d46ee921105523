theorem dMo_init_0 : decode cMo_init 0 = .ok (.aload_n 0, 1) := by decide +kernel
theorem dMo_init_1 : decode cMo_init 1 = .ok (.invokespecial 1, 3) := by decide +kernel
theorem dMo_init_4 : decode cMo_init 4 = .ok (.aload_n 0, 1) := by decide +kernel
theorem dMo_init_5 : decode cMo_init 5 = .ok (.iconst 1, 1) := by decide +kernel
theorem dMo_init_6 : decode cMo_init 6 = .ok (.putfield 7, 3) := by decide +kernel
theorem dMo_init_9 : decode cMo_init 9 = .ok (.aload_n 0, 1) := by decide +kernel
theorem dMo_init_10 : decode cMo_init 10 = .ok (.sipush 210, 3) := by decide +kernel
theorem dMo_init_13 : decode cMo_init 13 = .ok (.newarray .int, 2) := by decide +kernel
theorem dMo_init_15 : decode cMo_init 15 = .ok (.putfield 13, 3) := by decide +kernel
theorem dMo_init_18 : decode cMo_init 18 = .ok (.aload_n 0, 1) := by decide +kernel
theorem dMo_init_19 : decode cMo_init 19 = .ok (.bipush 110, 2) := by decide +kernel
theorem dMo_init_21 : decode cMo_init 21 = .ok (.newarray .int, 2) := by decide +kernel
theorem dMo_init_23 : decode cMo_init 23 = .ok (.putfield 17, 3) := by decide +kernel
theorem dMo_init_26 : decode cMo_init 26 = .ok (.aload_n 0, 1) := by decide +kernel
theorem dMo_init_27 : decode cMo_init 27 = .ok (.sipush 440, 3) := by decide +kernel
theorem dMo_init_30 : decode cMo_init 30 = .ok (.newarray .int, 2) := by decide +kernel
theorem dMo_init_32 : decode cMo_init 32 = .ok (.putfield 20, 3) := by decide +kernel
theorem dMo_init_35 : decode cMo_init 35 = .ok (.aload_n 0, 1) := by decide +kernel
theorem dMo_init_36 : decode cMo_init 36 = .ok (.iconst 4, 1) := by decide +kernel
theorem dMo_init_37 : decode cMo_init 37 = .ok (.newarray .int, 2) := by decide +kernel
theorem dMo_init_39 : decode cMo_init 39 = .ok (.putfield 23, 3) := by decide +kernel
theorem dMo_init_42 : decode cMo_init 42 = .ok (.aload_n 0, 1) := by decide +kernel
theorem dMo_init_43 : decode cMo_init 43 = .ok (.sipush 400, 3) := by decide +kernel
theorem dMo_init_46 : decode cMo_init 46 = .ok (.newarray .int, 2) := by decide +kernel
theorem dMo_init_48 : decode cMo_init 48 = .ok (.putfield 26, 3) := by decide +kernel
theorem dMo_init_51 : decode cMo_init 51 = .ok (.aload_n 0, 1) := by decide +kernel
theorem dMo_init_52 : decode cMo_init 52 = .ok (.sipush 2000, 3) := by decide +kernel
theorem dMo_init_55 : decode cMo_init 55 = .ok (.newarray .int, 2) := by decide +kernel
theorem dMo_init_57 : decode cMo_init 57 = .ok (.putfield 29, 3) := by decide +kernel
theorem dMo_init_60 : decode cMo_init 60 = .ok (.aload_n 0, 1) := by decide +kernel
theorem dMo_init_61 : decode cMo_init 61 = .ok (.bipush 10, 2) := by decide +kernel
theorem dMo_init_63 : decode cMo_init 63 = .ok (.newarray .int, 2) := by decide +kernel
theorem dMo_init_65 : decode cMo_init 65 = .ok (.putfield 32, 3) := by decide +kernel
theorem dMo_init_68 : decode cMo_init 68 = .ok (.aload_n 0, 1) := by decide +kernel
theorem dMo_init_69 : decode cMo_init 69 = .ok (.bipush 10, 2) := by decide +kernel
theorem dMo_init_71 : decode cMo_init 71 = .ok (.newarray .int, 2) := by decide +kernel
theorem dMo_init_73 : decode cMo_init 73 = .ok (.putfield 35, 3) := by decide +kernel
theorem dMo_init_76 : decode cMo_init 76 = .ok (.aload_n 0, 1) := by decide +kernel
theorem dMo_init_77 : decode cMo_init 77 = .ok (.sipush 1100, 3) := by decide +kernel
theorem dMo_init_80 : decode cMo_init 80 = .ok (.newarray .int, 2) := by decide +kernel
theorem dMo_init_82 : decode cMo_init 82 = .ok (.putfield 38, 3) := by decide +kernel
theorem dMo_init_85 : decode cMo_init 85 = .ok (.aload_n 0, 1) := by decide +kernel
theorem dMo_init_86 : decode cMo_init 86 = .ok (.bipush 10, 2) := by decide +kernel
theorem dMo_init_88 : decode cMo_init 88 = .ok (.newarray .int, 2) := by decide +kernel
theorem dMo_init_90 : decode cMo_init 90 = .ok (.putfield 41, 3) := by decide +kernel
theorem dMo_init_93 : decode cMo_init 93 = .ok (.aload_n 0, 1) := by decide +kernel
theorem dMo_init_94 : decode cMo_init 94 = .ok (.sipush 1100, 3) := by decide +kernel
theorem dMo_init_97 : decode cMo_init 97 = .ok (.newarray .int, 2) := by decide +kernel
theorem dMo_init_99 : decode cMo_init 99 = .ok (.putfield 44, 3) := by decide +kernel
theorem dMo_init_102 : decode cMo_init 102 = .ok (.aload_n 0, 1) := by decide +kernel
theorem dMo_init_103 : decode cMo_init 103 = .ok (.bipush 10, 2) := by decide +kernel
theorem dMo_init_105 : decode cMo_init 105 = .ok (.newarray .int, 2) := by decide +kernel
theorem dMo_init_107 : decode cMo_init 107 = .ok (.putfield 47, 3) := by decide +kernel
theorem dMo_init_110 : decode cMo_init 110 = .ok (.return_, 1) := by decide +kernel
theorem dMo_send_0 : decode cMo_send 0 = .ok (.iload_n 3, 1) := by decide +kernel
theorem dMo_send_1 : decode cMo_send 1 = .ok (.iconst 1, 1) := by decide +kernel
theorem dMo_send_2 : decode cMo_send 2 = .ok (.if_icmp .lt 16, 3) := by decide +kernel
theorem dMo_send_5 : decode cMo_send 5 = .ok (.iload_n 3, 1) := by decide +kernel
theorem dMo_send_6 : decode cMo_send 6 = .ok (.bipush 8, 2) := by decide +kernel
theorem dMo_send_8 : decode cMo_send 8 = .ok (.if_icmp .gt 10, 3) := by decide +kernel
theorem dMo_send_11 : decode cMo_send 11 = .ok (.aload_n 0, 1) := by decide +kernel
theorem dMo_send_12 : decode cMo_send 12 = .ok (.getfield 7, 3) := by decide +kernel
theorem dMo_send_15 : decode cMo_send 15 = .ok (.ifCond .ne 5, 3) := by decide +kernel
theorem dMo_send_18 : decode cMo_send 18 = .ok (.iconst 0, 1) := by decide +kernel
theorem dMo_send_19 : decode cMo_send 19 = .ok (.ireturn, 1) := by decide +kernel
theorem dMo_send_20 : decode cMo_send 20 = .ok (.iload_n 3, 1) := by decide +kernel
theorem dMo_send_21 : decode cMo_send 21 = .ok (.iconst 1, 1) := by decide +kernel
theorem dMo_send_22 : decode cMo_send 22 = .ok (.isub, 1) := by decide +kernel
theorem dMo_send_23 : decode cMo_send 23 = .ok (.istore 4, 2) := by decide +kernel
theorem dMo_send_25 : decode cMo_send 25 = .ok (.iload 4, 2) := by decide +kernel
theorem dMo_send_27 : decode cMo_send 27 = .ok (.ifCond .lt 32, 3) := by decide +kernel
theorem dMo_send_30 : decode cMo_send 30 = .ok (.aload_n 0, 1) := by decide +kernel
theorem dMo_send_31 : decode cMo_send 31 = .ok (.getfield 7, 3) := by decide +kernel
theorem dMo_send_34 : decode cMo_send 34 = .ok (.ifCond .eq 25, 3) := by decide +kernel
theorem dMo_send_37 : decode cMo_send 37 = .ok (.aload_n 0, 1) := by decide +kernel
theorem dMo_send_38 : decode cMo_send 38 = .ok (.lload_n 1, 1) := by decide +kernel
theorem dMo_send_39 : decode cMo_send 39 = .ok (.bipush 8, 2) := by decide +kernel
theorem dMo_send_41 : decode cMo_send 41 = .ok (.iload 4, 2) := by decide +kernel
theorem dMo_send_43 : decode cMo_send 43 = .ok (.imul, 1) := by decide +kernel
theorem dMo_send_44 : decode cMo_send 44 = .ok (.lshr, 1) := by decide +kernel
theorem dMo_send_45 : decode cMo_send 45 = .ok (.l2i, 1) := by decide +kernel
theorem dMo_send_46 : decode cMo_send 46 = .ok (.sipush 255, 3) := by decide +kernel
theorem dMo_send_49 : decode cMo_send 49 = .ok (.iand, 1) := by decide +kernel
theorem dMo_send_50 : decode cMo_send 50 = .ok (.invokevirtual 73, 3) := by decide +kernel
theorem dMo_send_53 : decode cMo_send 53 = .ok (.iinc 4 (-1), 3) := by decide +kernel
theorem dMo_send_56 : decode cMo_send 56 = .ok (.goto (-31), 3) := by decide +kernel
theorem dMo_send_59 : decode cMo_send 59 = .ok (.iconst 1, 1) := by decide +kernel
theorem dMo_send_60 : decode cMo_send 60 = .ok (.ireturn, 1) := by decide +kernel
theorem dMo_come_0 : decode cMo_come 0 = .ok (.iload_n 1, 1) := by decide +kernel
theorem dMo_come_1 : decode cMo_come 1 = .ok (.bipush 10, 2) := by decide +kernel
theorem dMo_come_3 : decode cMo_come 3 = .ok (.if_icmp .ne 16, 3) := by decide +kernel
theorem dMo_come_6 : decode cMo_come 6 = .ok (.aload_n 0, 1) := by decide +kernel
theorem dMo_come_7 : decode cMo_come 7 = .ok (.getfield 79, 3) := by decide +kernel
theorem dMo_come_10 : decode cMo_come 10 = .ok (.bipush 13, 2) := by decide +kernel
theorem dMo_come_12 : decode cMo_come 12 = .ok (.if_icmp .ne 7, 3) := by decide +kernel
theorem dMo_come_15 : decode cMo_come 15 = .ok (.iconst 1, 1) := by decide +kernel
theorem dMo_come_16 : decode cMo_come 16 = .ok (.goto 4, 3) := by decide +kernel
theorem dMo_come_19 : decode cMo_come 19 = .ok (.iconst 0, 1) := by decide +kernel
theorem dMo_come_20 : decode cMo_come 20 = .ok (.istore_n 2, 1) := by decide +kernel
theorem dMo_come_21 : decode cMo_come 21 = .ok (.aload_n 0, 1) := by decide +kernel
theorem dMo_come_22 : decode cMo_come 22 = .ok (.getfield 82, 3) := by decide +kernel
theorem dMo_come_25 : decode cMo_come 25 = .ok (.ifCond .eq 10, 3) := by decide +kernel
theorem dMo_come_28 : decode cMo_come 28 = .ok (.aload_n 0, 1) := by decide +kernel
theorem dMo_come_29 : decode cMo_come 29 = .ok (.iload_n 1, 1) := by decide +kernel
theorem dMo_come_30 : decode cMo_come 30 = .ok (.iload_n 2, 1) := by decide +kernel
theorem dMo_come_31 : decode cMo_come 31 = .ok (.invokevirtual 85, 3) := by decide +kernel
theorem dMo_come_34 : decode cMo_come 34 = .ok (.return_, 1) := by decide +kernel
theorem dMo_come_35 : decode cMo_come 35 = .ok (.aload_n 0, 1) := by decide +kernel
theorem dMo_come_36 : decode cMo_come 36 = .ok (.iload_n 1, 1) := by decide +kernel
theorem dMo_come_37 : decode cMo_come 37 = .ok (.invokevirtual 89, 3) := by decide +kernel
theorem dMo_come_40 : decode cMo_come 40 = .ok (.aload_n 0, 1) := by decide +kernel
theorem dMo_come_41 : decode cMo_come 41 = .ok (.iload_n 1, 1) := by decide +kernel
theorem dMo_come_42 : decode cMo_come 42 = .ok (.putfield 79, 3) := by decide +kernel
theorem dMo_come_45 : decode cMo_come 45 = .ok (.iload_n 2, 1) := by decide +kernel
theorem dMo_come_46 : decode cMo_come 46 = .ok (.ifCond .ne 4, 3) := by decide +kernel
theorem dMo_come_49 : decode cMo_come 49 = .ok (.return_, 1) := by decide +kernel
theorem dMo_come_50 : decode cMo_come 50 = .ok (.aload_n 0, 1) := by decide +kernel
theorem dMo_come_51 : decode cMo_come 51 = .ok (.getfield 76, 3) := by decide +kernel
theorem dMo_come_54 : decode cMo_come 54 = .ok (.iconst 2, 1) := by decide +kernel
theorem dMo_come_55 : decode cMo_come 55 = .ok (.isub, 1) := by decide +kernel
theorem dMo_come_56 : decode cMo_come 56 = .ok (.istore_n 3, 1) := by decide +kernel
theorem dMo_come_57 : decode cMo_come 57 = .ok (.aload_n 0, 1) := by decide +kernel
theorem dMo_come_58 : decode cMo_come 58 = .ok (.iconst 0, 1) := by decide +kernel
theorem dMo_come_59 : decode cMo_come 59 = .ok (.putfield 76, 3) := by decide +kernel
theorem dMo_come_62 : decode cMo_come 62 = .ok (.aload_n 0, 1) := by decide +kernel
theorem dMo_come_63 : decode cMo_come 63 = .ok (.iconst 0, 1) := by decide +kernel
theorem dMo_come_64 : decode cMo_come 64 = .ok (.putfield 79, 3) := by decide +kernel
theorem dMo_come_67 : decode cMo_come 67 = .ok (.iload_n 3, 1) := by decide +kernel
theorem dMo_come_68 : decode cMo_come 68 = .ok (.bipush 100, 2) := by decide +kernel
theorem dMo_come_70 : decode cMo_come 70 = .ok (.if_icmp .le 27, 3) := by decide +kernel
theorem dMo_come_73 : decode cMo_come 73 = .ok (.aload_n 0, 1) := by decide +kernel
theorem dMo_come_74 : decode cMo_come 74 = .ok (.ldc2_w 92, 3) := by decide +kernel
theorem dMo_come_77 : decode cMo_come 77 = .ok (.bipush 8, 2) := by decide +kernel
theorem dMo_come_79 : decode cMo_come 79 = .ok (.invokevirtual 60, 3) := by decide +kernel
theorem dMo_come_82 : decode cMo_come 82 = .ok (.aload_n 0, 1) := by decide +kernel
theorem dMo_come_83 : decode cMo_come 83 = .ok (.ldc2_w 94, 3) := by decide +kernel
theorem dMo_come_86 : decode cMo_come 86 = .ok (.iconst 4, 1) := by decide +kernel
theorem dMo_come_87 : decode cMo_come 87 = .ok (.invokevirtual 60, 3) := by decide +kernel
theorem dMo_come_90 : decode cMo_come 90 = .ok (.aload_n 0, 1) := by decide +kernel
theorem dMo_come_91 : decode cMo_come 91 = .ok (.invokevirtual 66, 3) := by decide +kernel
theorem dMo_come_94 : decode cMo_come 94 = .ok (.goto 8, 3) := by decide +kernel
theorem dMo_come_97 : decode cMo_come 97 = .ok (.aload_n 0, 1) := by decide +kernel
theorem dMo_come_98 : decode cMo_come 98 = .ok (.iload_n 3, 1) := by decide +kernel
theorem dMo_come_99 : decode cMo_come 99 = .ok (.invokevirtual 96, 3) := by decide +kernel
theorem dMo_come_102 : decode cMo_come 102 = .ok (.return_, 1) := by decide +kernel
theorem dMo_mail_0 : decode cMo_mail 0 = .ok (.iload_n 1, 1) := by decide +kernel
theorem dMo_mail_1 : decode cMo_mail 1 = .ok (.bipush 46, 2) := by decide +kernel
theorem dMo_mail_3 : decode cMo_mail 3 = .ok (.if_icmp .ne 14, 3) := by decide +kernel
theorem dMo_mail_6 : decode cMo_mail 6 = .ok (.aload_n 0, 1) := by decide +kernel
theorem dMo_mail_7 : decode cMo_mail 7 = .ok (.getfield 99, 3) := by decide +kernel
theorem dMo_mail_10 : decode cMo_mail 10 = .ok (.ifCond .ne 7, 3) := by decide +kernel
theorem dMo_mail_13 : decode cMo_mail 13 = .ok (.iconst 1, 1) := by decide +kernel
theorem dMo_mail_14 : decode cMo_mail 14 = .ok (.goto 4, 3) := by decide +kernel
theorem dMo_mail_17 : decode cMo_mail 17 = .ok (.iconst 0, 1) := by decide +kernel
theorem dMo_mail_18 : decode cMo_mail 18 = .ok (.istore_n 3, 1) := by decide +kernel
theorem dMo_mail_19 : decode cMo_mail 19 = .ok (.aload_n 0, 1) := by decide +kernel
theorem dMo_mail_20 : decode cMo_mail 20 = .ok (.aload_n 0, 1) := by decide +kernel
theorem dMo_mail_21 : decode cMo_mail 21 = .ok (.getfield 99, 3) := by decide +kernel
theorem dMo_mail_24 : decode cMo_mail 24 = .ok (.ifCond .ne 7, 3) := by decide +kernel
theorem dMo_mail_27 : decode cMo_mail 27 = .ok (.iload_n 3, 1) := by decide +kernel
theorem dMo_mail_28 : decode cMo_mail 28 = .ok (.goto 7, 3) := by decide +kernel
theorem dMo_mail_31 : decode cMo_mail 31 = .ok (.aload_n 0, 1) := by decide +kernel
theorem dMo_mail_32 : decode cMo_mail 32 = .ok (.getfield 102, 3) := by decide +kernel
theorem dMo_mail_35 : decode cMo_mail 35 = .ok (.putfield 102, 3) := by decide +kernel
theorem dMo_mail_38 : decode cMo_mail 38 = .ok (.aload_n 0, 1) := by decide +kernel
theorem dMo_mail_39 : decode cMo_mail 39 = .ok (.aload_n 0, 1) := by decide +kernel
theorem dMo_mail_40 : decode cMo_mail 40 = .ok (.getfield 99, 3) := by decide +kernel
theorem dMo_mail_43 : decode cMo_mail 43 = .ok (.iconst 1, 1) := by decide +kernel
theorem dMo_mail_44 : decode cMo_mail 44 = .ok (.iadd, 1) := by decide +kernel
theorem dMo_mail_45 : decode cMo_mail 45 = .ok (.iconst 4, 1) := by decide +kernel
theorem dMo_mail_46 : decode cMo_mail 46 = .ok (.if_icmp .ge 12, 3) := by decide +kernel
theorem dMo_mail_49 : decode cMo_mail 49 = .ok (.aload_n 0, 1) := by decide +kernel
theorem dMo_mail_50 : decode cMo_mail 50 = .ok (.getfield 99, 3) := by decide +kernel
theorem dMo_mail_53 : decode cMo_mail 53 = .ok (.iconst 1, 1) := by decide +kernel
theorem dMo_mail_54 : decode cMo_mail 54 = .ok (.iadd, 1) := by decide +kernel
theorem dMo_mail_55 : decode cMo_mail 55 = .ok (.goto 4, 3) := by decide +kernel
theorem dMo_mail_58 : decode cMo_mail 58 = .ok (.iconst 4, 1) := by decide +kernel
theorem dMo_mail_59 : decode cMo_mail 59 = .ok (.putfield 99, 3) := by decide +kernel
theorem dMo_mail_62 : decode cMo_mail 62 = .ok (.aload_n 0, 1) := by decide +kernel
theorem dMo_mail_63 : decode cMo_mail 63 = .ok (.iload_n 1, 1) := by decide +kernel
theorem dMo_mail_64 : decode cMo_mail 64 = .ok (.putfield 79, 3) := by decide +kernel
theorem dMo_mail_67 : decode cMo_mail 67 = .ok (.iload_n 2, 1) := by decide +kernel
theorem dMo_mail_68 : decode cMo_mail 68 = .ok (.ifCond .eq 48, 3) := by decide +kernel
theorem dMo_mail_71 : decode cMo_mail 71 = .ok (.aload_n 0, 1) := by decide +kernel
theorem dMo_mail_72 : decode cMo_mail 72 = .ok (.getfield 102, 3) := by decide +kernel
theorem dMo_mail_75 : decode cMo_mail 75 = .ok (.ifCond .eq 41, 3) := by decide +kernel
theorem dMo_mail_78 : decode cMo_mail 78 = .ok (.aload_n 0, 1) := by decide +kernel
theorem dMo_mail_79 : decode cMo_mail 79 = .ok (.getfield 99, 3) := by decide +kernel
theorem dMo_mail_82 : decode cMo_mail 82 = .ok (.iconst 3, 1) := by decide +kernel
theorem dMo_mail_83 : decode cMo_mail 83 = .ok (.if_icmp .ne 33, 3) := by decide +kernel
theorem dMo_mail_86 : decode cMo_mail 86 = .ok (.aload_n 0, 1) := by decide +kernel
theorem dMo_mail_87 : decode cMo_mail 87 = .ok (.aload_n 0, 1) := by decide +kernel
theorem dMo_mail_88 : decode cMo_mail 88 = .ok (.getfield 76, 3) := by decide +kernel
theorem dMo_mail_91 : decode cMo_mail 91 = .ok (.iconst 1, 1) := by decide +kernel
theorem dMo_mail_92 : decode cMo_mail 92 = .ok (.isub, 1) := by decide +kernel
theorem dMo_mail_93 : decode cMo_mail 93 = .ok (.putfield 76, 3) := by decide +kernel
theorem dMo_mail_96 : decode cMo_mail 96 = .ok (.aload_n 0, 1) := by decide +kernel
theorem dMo_mail_97 : decode cMo_mail 97 = .ok (.iconst 0, 1) := by decide +kernel
theorem dMo_mail_98 : decode cMo_mail 98 = .ok (.putfield 82, 3) := by decide +kernel
theorem dMo_mail_101 : decode cMo_mail 101 = .ok (.aload_n 0, 1) := by decide +kernel
theorem dMo_mail_102 : decode cMo_mail 102 = .ok (.iconst 0, 1) := by decide +kernel
theorem dMo_mail_103 : decode cMo_mail 103 = .ok (.putfield 79, 3) := by decide +kernel
theorem dMo_mail_106 : decode cMo_mail 106 = .ok (.aload_n 0, 1) := by decide +kernel
theorem dMo_mail_107 : decode cMo_mail 107 = .ok (.invokevirtual 105, 3) := by decide +kernel
theorem dMo_mail_110 : decode cMo_mail 110 = .ok (.aload_n 0, 1) := by decide +kernel
theorem dMo_mail_111 : decode cMo_mail 111 = .ok (.iconst 0, 1) := by decide +kernel
theorem dMo_mail_112 : decode cMo_mail 112 = .ok (.putfield 76, 3) := by decide +kernel
theorem dMo_mail_115 : decode cMo_mail 115 = .ok (.return_, 1) := by decide +kernel
theorem dMo_mail_116 : decode cMo_mail 116 = .ok (.iload_n 3, 1) := by decide +kernel
theorem dMo_mail_117 : decode cMo_mail 117 = .ok (.ifCond .ne 8, 3) := by decide +kernel
theorem dMo_mail_120 : decode cMo_mail 120 = .ok (.aload_n 0, 1) := by decide +kernel
theorem dMo_mail_121 : decode cMo_mail 121 = .ok (.iload_n 1, 1) := by decide +kernel
theorem dMo_mail_122 : decode cMo_mail 122 = .ok (.invokevirtual 89, 3) := by decide +kernel
theorem dMo_mail_125 : decode cMo_mail 125 = .ok (.iload_n 2, 1) := by decide +kernel
theorem dMo_mail_126 : decode cMo_mail 126 = .ok (.ifCond .ne 4, 3) := by decide +kernel
theorem dMo_mail_129 : decode cMo_mail 129 = .ok (.return_, 1) := by decide +kernel
theorem dMo_mail_130 : decode cMo_mail 130 = .ok (.aload_n 0, 1) := by decide +kernel
theorem dMo_mail_131 : decode cMo_mail 131 = .ok (.iconst 0, 1) := by decide +kernel
theorem dMo_mail_132 : decode cMo_mail 132 = .ok (.putfield 99, 3) := by decide +kernel
theorem dMo_mail_135 : decode cMo_mail 135 = .ok (.aload_n 0, 1) := by decide +kernel
theorem dMo_mail_136 : decode cMo_mail 136 = .ok (.iconst 0, 1) := by decide +kernel
theorem dMo_mail_137 : decode cMo_mail 137 = .ok (.putfield 79, 3) := by decide +kernel
theorem dMo_mail_140 : decode cMo_mail 140 = .ok (.return_, 1) := by decide +kernel
theorem dMo_hand_0 : decode cMo_hand 0 = .ok (.aload_n 0, 1) := by decide +kernel
theorem dMo_hand_1 : decode cMo_hand 1 = .ok (.getfield 76, 3) := by decide +kernel
theorem dMo_hand_4 : decode cMo_hand 4 = .ok (.sipush 200, 3) := by decide +kernel
theorem dMo_hand_7 : decode cMo_hand 7 = .ok (.if_icmp .le 7, 3) := by decide +kernel
theorem dMo_hand_10 : decode cMo_hand 10 = .ok (.iconst 1, 1) := by decide +kernel
theorem dMo_hand_11 : decode cMo_hand 11 = .ok (.goto 4, 3) := by decide +kernel
theorem dMo_hand_14 : decode cMo_hand 14 = .ok (.iconst 0, 1) := by decide +kernel
theorem dMo_hand_15 : decode cMo_hand 15 = .ok (.istore_n 1, 1) := by decide +kernel
theorem dMo_hand_16 : decode cMo_hand 16 = .ok (.aload_n 0, 1) := by decide +kernel
theorem dMo_hand_17 : decode cMo_hand 17 = .ok (.getfield 230, 3) := by decide +kernel
theorem dMo_hand_20 : decode cMo_hand 20 = .ok (.bipush 10, 2) := by decide +kernel
theorem dMo_hand_22 : decode cMo_hand 22 = .ok (.if_icmp .ne 7, 3) := by decide +kernel
theorem dMo_hand_25 : decode cMo_hand 25 = .ok (.iconst 1, 1) := by decide +kernel
theorem dMo_hand_26 : decode cMo_hand 26 = .ok (.goto 4, 3) := by decide +kernel
theorem dMo_hand_29 : decode cMo_hand 29 = .ok (.iconst 0, 1) := by decide +kernel
theorem dMo_hand_30 : decode cMo_hand 30 = .ok (.istore_n 2, 1) := by decide +kernel
theorem dMo_hand_31 : decode cMo_hand 31 = .ok (.iconst 0, 1) := by decide +kernel
theorem dMo_hand_32 : decode cMo_hand 32 = .ok (.istore_n 3, 1) := by decide +kernel
theorem dMo_hand_33 : decode cMo_hand 33 = .ok (.iload_n 3, 1) := by decide +kernel
theorem dMo_hand_34 : decode cMo_hand 34 = .ok (.aload_n 0, 1) := by decide +kernel
theorem dMo_hand_35 : decode cMo_hand 35 = .ok (.getfield 138, 3) := by decide +kernel
theorem dMo_hand_38 : decode cMo_hand 38 = .ok (.if_icmp .ge 95, 3) := by decide +kernel
theorem dMo_hand_41 : decode cMo_hand 41 = .ok (.iload_n 1, 1) := by decide +kernel
theorem dMo_hand_42 : decode cMo_hand 42 = .ok (.ifCond .eq 15, 3) := by decide +kernel
theorem dMo_hand_45 : decode cMo_hand 45 = .ok (.aload_n 0, 1) := by decide +kernel
theorem dMo_hand_46 : decode cMo_hand 46 = .ok (.ldc2_w 203, 3) := by decide +kernel
theorem dMo_hand_49 : decode cMo_hand 49 = .ok (.bipush 7, 2) := by decide +kernel
theorem dMo_hand_51 : decode cMo_hand 51 = .ok (.invokevirtual 60, 3) := by decide +kernel
theorem dMo_hand_54 : decode cMo_hand 54 = .ok (.goto 69, 3) := by decide +kernel
theorem dMo_hand_57 : decode cMo_hand 57 = .ok (.iload_n 2, 1) := by decide +kernel
theorem dMo_hand_58 : decode cMo_hand 58 = .ok (.ifCond .eq 15, 3) := by decide +kernel
theorem dMo_hand_61 : decode cMo_hand 61 = .ok (.aload_n 0, 1) := by decide +kernel
theorem dMo_hand_62 : decode cMo_hand 62 = .ok (.ldc2_w 233, 3) := by decide +kernel
theorem dMo_hand_65 : decode cMo_hand 65 = .ok (.bipush 8, 2) := by decide +kernel
theorem dMo_hand_67 : decode cMo_hand 67 = .ok (.invokevirtual 60, 3) := by decide +kernel
theorem dMo_hand_70 : decode cMo_hand 70 = .ok (.goto 53, 3) := by decide +kernel
theorem dMo_hand_73 : decode cMo_hand 73 = .ok (.aload_n 0, 1) := by decide +kernel
theorem dMo_hand_74 : decode cMo_hand 74 = .ok (.ldc2_w 235, 3) := by decide +kernel
theorem dMo_hand_77 : decode cMo_hand 77 = .ok (.iconst 5, 1) := by decide +kernel
theorem dMo_hand_78 : decode cMo_hand 78 = .ok (.invokevirtual 60, 3) := by decide +kernel
theorem dMo_hand_81 : decode cMo_hand 81 = .ok (.iconst 0, 1) := by decide +kernel
theorem dMo_hand_82 : decode cMo_hand 82 = .ok (.istore 4, 2) := by decide +kernel
theorem dMo_hand_84 : decode cMo_hand 84 = .ok (.iload 4, 2) := by decide +kernel
theorem dMo_hand_86 : decode cMo_hand 86 = .ok (.aload_n 0, 1) := by decide +kernel
theorem dMo_hand_87 : decode cMo_hand 87 = .ok (.getfield 23, 3) := by decide +kernel
theorem dMo_hand_90 : decode cMo_hand 90 = .ok (.iload_n 3, 1) := by decide +kernel
theorem dMo_hand_91 : decode cMo_hand 91 = .ok (.iaload, 1) := by decide +kernel
theorem dMo_hand_92 : decode cMo_hand 92 = .ok (.if_icmp .ge 25, 3) := by decide +kernel
theorem dMo_hand_95 : decode cMo_hand 95 = .ok (.aload_n 0, 1) := by decide +kernel
theorem dMo_hand_96 : decode cMo_hand 96 = .ok (.aload_n 0, 1) := by decide +kernel
theorem dMo_hand_97 : decode cMo_hand 97 = .ok (.getfield 20, 3) := by decide +kernel
theorem dMo_hand_100 : decode cMo_hand 100 = .ok (.bipush 110, 2) := by decide +kernel
theorem dMo_hand_102 : decode cMo_hand 102 = .ok (.iload_n 3, 1) := by decide +kernel
theorem dMo_hand_103 : decode cMo_hand 103 = .ok (.imul, 1) := by decide +kernel
theorem dMo_hand_104 : decode cMo_hand 104 = .ok (.iload 4, 2) := by decide +kernel
theorem dMo_hand_106 : decode cMo_hand 106 = .ok (.iadd, 1) := by decide +kernel
theorem dMo_hand_107 : decode cMo_hand 107 = .ok (.iaload, 1) := by decide +kernel
theorem dMo_hand_108 : decode cMo_hand 108 = .ok (.invokevirtual 54, 3) := by decide +kernel
theorem dMo_hand_111 : decode cMo_hand 111 = .ok (.iinc 4 1, 3) := by decide +kernel
theorem dMo_hand_114 : decode cMo_hand 114 = .ok (.goto (-30), 3) := by decide +kernel
theorem dMo_hand_117 : decode cMo_hand 117 = .ok (.aload_n 0, 1) := by decide +kernel
theorem dMo_hand_118 : decode cMo_hand 118 = .ok (.bipush 62, 2) := by decide +kernel
theorem dMo_hand_120 : decode cMo_hand 120 = .ok (.invokevirtual 54, 3) := by decide +kernel
theorem dMo_hand_123 : decode cMo_hand 123 = .ok (.aload_n 0, 1) := by decide +kernel
theorem dMo_hand_124 : decode cMo_hand 124 = .ok (.invokevirtual 66, 3) := by decide +kernel
theorem dMo_hand_127 : decode cMo_hand 127 = .ok (.iinc 3 1, 3) := by decide +kernel
theorem dMo_hand_130 : decode cMo_hand 130 = .ok (.goto (-97), 3) := by decide +kernel
theorem dMo_hand_133 : decode cMo_hand 133 = .ok (.iload_n 1, 1) := by decide +kernel
theorem dMo_hand_134 : decode cMo_hand 134 = .ok (.ifCond .ne 11, 3) := by decide +kernel
theorem dMo_hand_137 : decode cMo_hand 137 = .ok (.iload_n 2, 1) := by decide +kernel
theorem dMo_hand_138 : decode cMo_hand 138 = .ok (.ifCond .ne 7, 3) := by decide +kernel
theorem dMo_hand_141 : decode cMo_hand 141 = .ok (.aload_n 0, 1) := by decide +kernel
theorem dMo_hand_142 : decode cMo_hand 142 = .ok (.invokevirtual 237, 3) := by decide +kernel
theorem dMo_hand_145 : decode cMo_hand 145 = .ok (.aload_n 0, 1) := by decide +kernel
theorem dMo_hand_146 : decode cMo_hand 146 = .ok (.invokevirtual 184, 3) := by decide +kernel
theorem dMo_hand_149 : decode cMo_hand 149 = .ok (.return_, 1) := by decide +kernel
theorem dMo_say_0 : decode cMo_say 0 = .ok (.iconst 0, 1) := by decide +kernel
theorem dMo_say_1 : decode cMo_say 1 = .ok (.istore 4, 2) := by decide +kernel
theorem dMo_say_3 : decode cMo_say 3 = .ok (.iload 4, 2) := by decide +kernel
theorem dMo_say_5 : decode cMo_say 5 = .ok (.iload_n 3, 1) := by decide +kernel
theorem dMo_say_6 : decode cMo_say 6 = .ok (.if_icmp .ge 28, 3) := by decide +kernel
theorem dMo_say_9 : decode cMo_say 9 = .ok (.aload_n 0, 1) := by decide +kernel
theorem dMo_say_10 : decode cMo_say 10 = .ok (.lload_n 1, 1) := by decide +kernel
theorem dMo_say_11 : decode cMo_say 11 = .ok (.bipush 56, 2) := by decide +kernel
theorem dMo_say_13 : decode cMo_say 13 = .ok (.bipush 8, 2) := by decide +kernel
theorem dMo_say_15 : decode cMo_say 15 = .ok (.iload 4, 2) := by decide +kernel
theorem dMo_say_17 : decode cMo_say 17 = .ok (.imul, 1) := by decide +kernel
theorem dMo_say_18 : decode cMo_say 18 = .ok (.isub, 1) := by decide +kernel
theorem dMo_say_19 : decode cMo_say 19 = .ok (.lshr, 1) := by decide +kernel
theorem dMo_say_20 : decode cMo_say 20 = .ok (.l2i, 1) := by decide +kernel
theorem dMo_say_21 : decode cMo_say 21 = .ok (.sipush 255, 3) := by decide +kernel
theorem dMo_say_24 : decode cMo_say 24 = .ok (.iand, 1) := by decide +kernel
theorem dMo_say_25 : decode cMo_say 25 = .ok (.invokevirtual 54, 3) := by decide +kernel
theorem dMo_say_28 : decode cMo_say 28 = .ok (.iinc 4 1, 3) := by decide +kernel
theorem dMo_say_31 : decode cMo_say 31 = .ok (.goto (-28), 3) := by decide +kernel
theorem dMo_say_34 : decode cMo_say 34 = .ok (.return_, 1) := by decide +kernel
theorem dMo_sayByte_0 : decode cMo_sayByte 0 = .ok (.aload_n 0, 1) := by decide +kernel
theorem dMo_sayByte_1 : decode cMo_sayByte 1 = .ok (.getfield 50, 3) := by decide +kernel
theorem dMo_sayByte_4 : decode cMo_sayByte 4 = .ok (.sipush 400, 3) := by decide +kernel
theorem dMo_sayByte_7 : decode cMo_sayByte 7 = .ok (.if_icmp .ne 4, 3) := by decide +kernel
theorem dMo_sayByte_10 : decode cMo_sayByte 10 = .ok (.return_, 1) := by decide +kernel
theorem dMo_sayByte_11 : decode cMo_sayByte 11 = .ok (.aload_n 0, 1) := by decide +kernel
theorem dMo_sayByte_12 : decode cMo_sayByte 12 = .ok (.getfield 26, 3) := by decide +kernel
theorem dMo_sayByte_15 : decode cMo_sayByte 15 = .ok (.aload_n 0, 1) := by decide +kernel
theorem dMo_sayByte_16 : decode cMo_sayByte 16 = .ok (.getfield 50, 3) := by decide +kernel
theorem dMo_sayByte_19 : decode cMo_sayByte 19 = .ok (.iload_n 1, 1) := by decide +kernel
theorem dMo_sayByte_20 : decode cMo_sayByte 20 = .ok (.iastore, 1) := by decide +kernel
theorem dMo_sayByte_21 : decode cMo_sayByte 21 = .ok (.aload_n 0, 1) := by decide +kernel
theorem dMo_sayByte_22 : decode cMo_sayByte 22 = .ok (.aload_n 0, 1) := by decide +kernel
theorem dMo_sayByte_23 : decode cMo_sayByte 23 = .ok (.getfield 50, 3) := by decide +kernel
theorem dMo_sayByte_26 : decode cMo_sayByte 26 = .ok (.iconst 1, 1) := by decide +kernel
theorem dMo_sayByte_27 : decode cMo_sayByte 27 = .ok (.iadd, 1) := by decide +kernel
theorem dMo_sayByte_28 : decode cMo_sayByte 28 = .ok (.putfield 50, 3) := by decide +kernel
theorem dMo_sayByte_31 : decode cMo_sayByte 31 = .ok (.return_, 1) := by decide +kernel
theorem dMo_end_0 : decode cMo_end 0 = .ok (.aload_n 0, 1) := by decide +kernel
theorem dMo_end_1 : decode cMo_end 1 = .ok (.bipush 13, 2) := by decide +kernel
theorem dMo_end_3 : decode cMo_end 3 = .ok (.invokevirtual 54, 3) := by decide +kernel
theorem dMo_end_6 : decode cMo_end 6 = .ok (.aload_n 0, 1) := by decide +kernel
theorem dMo_end_7 : decode cMo_end 7 = .ok (.bipush 10, 2) := by decide +kernel
theorem dMo_end_9 : decode cMo_end 9 = .ok (.invokevirtual 54, 3) := by decide +kernel
theorem dMo_end_12 : decode cMo_end 12 = .ok (.return_, 1) := by decide +kernel
theorem dMo_store_0 : decode cMo_store 0 = .ok (.aload_n 0, 1) := by decide +kernel
theorem dMo_store_1 : decode cMo_store 1 = .ok (.getfield 230, 3) := by decide +kernel
theorem dMo_store_4 : decode cMo_store 4 = .ok (.istore_n 1, 1) := by decide +kernel
theorem dMo_store_5 : decode cMo_store 5 = .ok (.aload_n 0, 1) := by decide +kernel
theorem dMo_store_6 : decode cMo_store 6 = .ok (.getfield 32, 3) := by decide +kernel
theorem dMo_store_9 : decode cMo_store 9 = .ok (.iload_n 1, 1) := by decide +kernel
theorem dMo_store_10 : decode cMo_store 10 = .ok (.aload_n 0, 1) := by decide +kernel
theorem dMo_store_11 : decode cMo_store 11 = .ok (.getfield 76, 3) := by decide +kernel
theorem dMo_store_14 : decode cMo_store 14 = .ok (.iastore, 1) := by decide +kernel
theorem dMo_store_15 : decode cMo_store 15 = .ok (.iconst 0, 1) := by decide +kernel
theorem dMo_store_16 : decode cMo_store 16 = .ok (.istore_n 2, 1) := by decide +kernel
theorem dMo_store_17 : decode cMo_store 17 = .ok (.iload_n 2, 1) := by decide +kernel
theorem dMo_store_18 : decode cMo_store 18 = .ok (.aload_n 0, 1) := by decide +kernel
theorem dMo_store_19 : decode cMo_store 19 = .ok (.getfield 76, 3) := by decide +kernel
theorem dMo_store_22 : decode cMo_store 22 = .ok (.if_icmp .ge 27, 3) := by decide +kernel
theorem dMo_store_25 : decode cMo_store 25 = .ok (.aload_n 0, 1) := by decide +kernel
theorem dMo_store_26 : decode cMo_store 26 = .ok (.getfield 29, 3) := by decide +kernel
theorem dMo_store_29 : decode cMo_store 29 = .ok (.sipush 200, 3) := by decide +kernel
theorem dMo_store_32 : decode cMo_store 32 = .ok (.iload_n 1, 1) := by decide +kernel
theorem dMo_store_33 : decode cMo_store 33 = .ok (.imul, 1) := by decide +kernel
theorem dMo_store_34 : decode cMo_store 34 = .ok (.iload_n 2, 1) := by decide +kernel
theorem dMo_store_35 : decode cMo_store 35 = .ok (.iadd, 1) := by decide +kernel
theorem dMo_store_36 : decode cMo_store 36 = .ok (.aload_n 0, 1) := by decide +kernel
theorem dMo_store_37 : decode cMo_store 37 = .ok (.getfield 13, 3) := by decide +kernel
theorem dMo_store_40 : decode cMo_store 40 = .ok (.iload_n 2, 1) := by decide +kernel
theorem dMo_store_41 : decode cMo_store 41 = .ok (.iaload, 1) := by decide +kernel
theorem dMo_store_42 : decode cMo_store 42 = .ok (.iastore, 1) := by decide +kernel
theorem dMo_store_43 : decode cMo_store 43 = .ok (.iinc 2 1, 3) := by decide +kernel
theorem dMo_store_46 : decode cMo_store 46 = .ok (.goto (-29), 3) := by decide +kernel
theorem dMo_store_49 : decode cMo_store 49 = .ok (.aload_n 0, 1) := by decide +kernel
theorem dMo_store_50 : decode cMo_store 50 = .ok (.getfield 35, 3) := by decide +kernel
theorem dMo_store_53 : decode cMo_store 53 = .ok (.iload_n 1, 1) := by decide +kernel
theorem dMo_store_54 : decode cMo_store 54 = .ok (.aload_n 0, 1) := by decide +kernel
theorem dMo_store_55 : decode cMo_store 55 = .ok (.getfield 138, 3) := by decide +kernel
theorem dMo_store_58 : decode cMo_store 58 = .ok (.iastore, 1) := by decide +kernel
theorem dMo_store_59 : decode cMo_store 59 = .ok (.aload_n 0, 1) := by decide +kernel
theorem dMo_store_60 : decode cMo_store 60 = .ok (.getfield 41, 3) := by decide +kernel
theorem dMo_store_63 : decode cMo_store 63 = .ok (.iload_n 1, 1) := by decide +kernel
theorem dMo_store_64 : decode cMo_store 64 = .ok (.aload_n 0, 1) := by decide +kernel
theorem dMo_store_65 : decode cMo_store 65 = .ok (.getfield 205, 3) := by decide +kernel
theorem dMo_store_68 : decode cMo_store 68 = .ok (.iastore, 1) := by decide +kernel
theorem dMo_store_69 : decode cMo_store 69 = .ok (.iconst 0, 1) := by decide +kernel
theorem dMo_store_70 : decode cMo_store 70 = .ok (.istore_n 2, 1) := by decide +kernel
theorem dMo_store_71 : decode cMo_store 71 = .ok (.iload_n 2, 1) := by decide +kernel
theorem dMo_store_72 : decode cMo_store 72 = .ok (.aload_n 0, 1) := by decide +kernel
theorem dMo_store_73 : decode cMo_store 73 = .ok (.getfield 205, 3) := by decide +kernel
theorem dMo_store_76 : decode cMo_store 76 = .ok (.if_icmp .ge 26, 3) := by decide +kernel
theorem dMo_store_79 : decode cMo_store 79 = .ok (.aload_n 0, 1) := by decide +kernel
theorem dMo_store_80 : decode cMo_store 80 = .ok (.getfield 38, 3) := by decide +kernel
theorem dMo_store_83 : decode cMo_store 83 = .ok (.bipush 110, 2) := by decide +kernel
theorem dMo_store_85 : decode cMo_store 85 = .ok (.iload_n 1, 1) := by decide +kernel
theorem dMo_store_86 : decode cMo_store 86 = .ok (.imul, 1) := by decide +kernel
theorem dMo_store_87 : decode cMo_store 87 = .ok (.iload_n 2, 1) := by decide +kernel
theorem dMo_store_88 : decode cMo_store 88 = .ok (.iadd, 1) := by decide +kernel
theorem dMo_store_89 : decode cMo_store 89 = .ok (.aload_n 0, 1) := by decide +kernel
theorem dMo_store_90 : decode cMo_store 90 = .ok (.getfield 17, 3) := by decide +kernel
theorem dMo_store_93 : decode cMo_store 93 = .ok (.iload_n 2, 1) := by decide +kernel
theorem dMo_store_94 : decode cMo_store 94 = .ok (.iaload, 1) := by decide +kernel
theorem dMo_store_95 : decode cMo_store 95 = .ok (.iastore, 1) := by decide +kernel
theorem dMo_store_96 : decode cMo_store 96 = .ok (.iinc 2 1, 3) := by decide +kernel
theorem dMo_store_99 : decode cMo_store 99 = .ok (.goto (-28), 3) := by decide +kernel
theorem dMo_store_102 : decode cMo_store 102 = .ok (.aload_n 0, 1) := by decide +kernel
theorem dMo_store_103 : decode cMo_store 103 = .ok (.getfield 47, 3) := by decide +kernel
theorem dMo_store_106 : decode cMo_store 106 = .ok (.iload_n 1, 1) := by decide +kernel
theorem dMo_store_107 : decode cMo_store 107 = .ok (.aload_n 0, 1) := by decide +kernel
theorem dMo_store_108 : decode cMo_store 108 = .ok (.getfield 23, 3) := by decide +kernel
theorem dMo_store_111 : decode cMo_store 111 = .ok (.iconst 0, 1) := by decide +kernel
theorem dMo_store_112 : decode cMo_store 112 = .ok (.iaload, 1) := by decide +kernel
theorem dMo_store_113 : decode cMo_store 113 = .ok (.iastore, 1) := by decide +kernel
theorem dMo_store_114 : decode cMo_store 114 = .ok (.iconst 0, 1) := by decide +kernel
theorem dMo_store_115 : decode cMo_store 115 = .ok (.istore_n 2, 1) := by decide +kernel
theorem dMo_store_116 : decode cMo_store 116 = .ok (.iload_n 2, 1) := by decide +kernel
theorem dMo_store_117 : decode cMo_store 117 = .ok (.aload_n 0, 1) := by decide +kernel
theorem dMo_store_118 : decode cMo_store 118 = .ok (.getfield 47, 3) := by decide +kernel
theorem dMo_store_121 : decode cMo_store 121 = .ok (.iload_n 1, 1) := by decide +kernel
theorem dMo_store_122 : decode cMo_store 122 = .ok (.iaload, 1) := by decide +kernel
theorem dMo_store_123 : decode cMo_store 123 = .ok (.if_icmp .ge 26, 3) := by decide +kernel
theorem dMo_store_126 : decode cMo_store 126 = .ok (.aload_n 0, 1) := by decide +kernel
theorem dMo_store_127 : decode cMo_store 127 = .ok (.getfield 44, 3) := by decide +kernel
theorem dMo_store_130 : decode cMo_store 130 = .ok (.bipush 110, 2) := by decide +kernel
theorem dMo_store_132 : decode cMo_store 132 = .ok (.iload_n 1, 1) := by decide +kernel
theorem dMo_store_133 : decode cMo_store 133 = .ok (.imul, 1) := by decide +kernel
theorem dMo_store_134 : decode cMo_store 134 = .ok (.iload_n 2, 1) := by decide +kernel
theorem dMo_store_135 : decode cMo_store 135 = .ok (.iadd, 1) := by decide +kernel
theorem dMo_store_136 : decode cMo_store 136 = .ok (.aload_n 0, 1) := by decide +kernel
theorem dMo_store_137 : decode cMo_store 137 = .ok (.getfield 20, 3) := by decide +kernel
theorem dMo_store_140 : decode cMo_store 140 = .ok (.iload_n 2, 1) := by decide +kernel
theorem dMo_store_141 : decode cMo_store 141 = .ok (.iaload, 1) := by decide +kernel
theorem dMo_store_142 : decode cMo_store 142 = .ok (.iastore, 1) := by decide +kernel
theorem dMo_store_143 : decode cMo_store 143 = .ok (.iinc 2 1, 3) := by decide +kernel
theorem dMo_store_146 : decode cMo_store 146 = .ok (.goto (-30), 3) := by decide +kernel
theorem dMo_store_149 : decode cMo_store 149 = .ok (.aload_n 0, 1) := by decide +kernel
theorem dMo_store_150 : decode cMo_store 150 = .ok (.aload_n 0, 1) := by decide +kernel
theorem dMo_store_151 : decode cMo_store 151 = .ok (.getfield 230, 3) := by decide +kernel
theorem dMo_store_154 : decode cMo_store 154 = .ok (.iconst 1, 1) := by decide +kernel
theorem dMo_store_155 : decode cMo_store 155 = .ok (.iadd, 1) := by decide +kernel
theorem dMo_store_156 : decode cMo_store 156 = .ok (.putfield 230, 3) := by decide +kernel
theorem dMo_store_159 : decode cMo_store 159 = .ok (.return_, 1) := by decide +kernel
theorem dMo_forget_0 : decode cMo_forget 0 = .ok (.aload_n 0, 1) := by decide +kernel
theorem dMo_forget_1 : decode cMo_forget 1 = .ok (.iconst 0, 1) := by decide +kernel
theorem dMo_forget_2 : decode cMo_forget 2 = .ok (.putfield 135, 3) := by decide +kernel
theorem dMo_forget_5 : decode cMo_forget 5 = .ok (.aload_n 0, 1) := by decide +kernel
theorem dMo_forget_6 : decode cMo_forget 6 = .ok (.iconst 0, 1) := by decide +kernel
theorem dMo_forget_7 : decode cMo_forget 7 = .ok (.putfield 138, 3) := by decide +kernel
theorem dMo_forget_10 : decode cMo_forget 10 = .ok (.return_, 1) := by decide +kernel
theorem dMo_keep_0 : decode cMo_keep 0 = .ok (.aload_n 0, 1) := by decide +kernel
theorem dMo_keep_1 : decode cMo_keep 1 = .ok (.getfield 76, 3) := by decide +kernel
theorem dMo_keep_4 : decode cMo_keep 4 = .ok (.sipush 210, 3) := by decide +kernel
theorem dMo_keep_7 : decode cMo_keep 7 = .ok (.if_icmp .ge 13, 3) := by decide +kernel
theorem dMo_keep_10 : decode cMo_keep 10 = .ok (.aload_n 0, 1) := by decide +kernel
theorem dMo_keep_11 : decode cMo_keep 11 = .ok (.getfield 13, 3) := by decide +kernel
theorem dMo_keep_14 : decode cMo_keep 14 = .ok (.aload_n 0, 1) := by decide +kernel
theorem dMo_keep_15 : decode cMo_keep 15 = .ok (.getfield 76, 3) := by decide +kernel
theorem dMo_keep_18 : decode cMo_keep 18 = .ok (.iload_n 1, 1) := by decide +kernel
theorem dMo_keep_19 : decode cMo_keep 19 = .ok (.iastore, 1) := by decide +kernel
theorem dMo_keep_20 : decode cMo_keep 20 = .ok (.aload_n 0, 1) := by decide +kernel
theorem dMo_keep_21 : decode cMo_keep 21 = .ok (.aload_n 0, 1) := by decide +kernel
theorem dMo_keep_22 : decode cMo_keep 22 = .ok (.getfield 76, 3) := by decide +kernel
theorem dMo_keep_25 : decode cMo_keep 25 = .ok (.sipush 202, 3) := by decide +kernel
theorem dMo_keep_28 : decode cMo_keep 28 = .ok (.if_icmp .ge 12, 3) := by decide +kernel
theorem dMo_keep_31 : decode cMo_keep 31 = .ok (.aload_n 0, 1) := by decide +kernel
theorem dMo_keep_32 : decode cMo_keep 32 = .ok (.getfield 76, 3) := by decide +kernel
theorem dMo_keep_35 : decode cMo_keep 35 = .ok (.iconst 1, 1) := by decide +kernel
theorem dMo_keep_36 : decode cMo_keep 36 = .ok (.iadd, 1) := by decide +kernel
theorem dMo_keep_37 : decode cMo_keep 37 = .ok (.goto 6, 3) := by decide +kernel
theorem dMo_keep_40 : decode cMo_keep 40 = .ok (.sipush 202, 3) := by decide +kernel
theorem dMo_keep_43 : decode cMo_keep 43 = .ok (.putfield 76, 3) := by decide +kernel
theorem dMo_keep_46 : decode cMo_keep 46 = .ok (.return_, 1) := by decide +kernel
theorem dMo_command_0 : decode cMo_command 0 = .ok (.iconst 0, 1) := by decide +kernel
theorem dMo_command_1 : decode cMo_command 1 = .ok (.istore_n 2, 1) := by decide +kernel
theorem dMo_command_2 : decode cMo_command 2 = .ok (.iload_n 2, 1) := by decide +kernel
theorem dMo_command_3 : decode cMo_command 3 = .ok (.iload_n 1, 1) := by decide +kernel
theorem dMo_command_4 : decode cMo_command 4 = .ok (.if_icmp .ge 21, 3) := by decide +kernel
theorem dMo_command_7 : decode cMo_command 7 = .ok (.aload_n 0, 1) := by decide +kernel
theorem dMo_command_8 : decode cMo_command 8 = .ok (.getfield 13, 3) := by decide +kernel
theorem dMo_command_11 : decode cMo_command 11 = .ok (.iload_n 2, 1) := by decide +kernel
theorem dMo_command_12 : decode cMo_command 12 = .ok (.iaload, 1) := by decide +kernel
theorem dMo_command_13 : decode cMo_command 13 = .ok (.bipush 32, 2) := by decide +kernel
theorem dMo_command_15 : decode cMo_command 15 = .ok (.if_icmp .eq 10, 3) := by decide +kernel
theorem dMo_command_18 : decode cMo_command 18 = .ok (.iload_n 2, 1) := by decide +kernel
theorem dMo_command_19 : decode cMo_command 19 = .ok (.iconst 1, 1) := by decide +kernel
theorem dMo_command_20 : decode cMo_command 20 = .ok (.iadd, 1) := by decide +kernel
theorem dMo_command_21 : decode cMo_command 21 = .ok (.istore_n 2, 1) := by decide +kernel
theorem dMo_command_22 : decode cMo_command 22 = .ok (.goto (-20), 3) := by decide +kernel
theorem dMo_command_25 : decode cMo_command 25 = .ok (.iload_n 2, 1) := by decide +kernel
theorem dMo_command_26 : decode cMo_command 26 = .ok (.iconst 4, 1) := by decide +kernel
theorem dMo_command_27 : decode cMo_command 27 = .ok (.if_icmp .eq 7, 3) := by decide +kernel
theorem dMo_command_30 : decode cMo_command 30 = .ok (.iconst (-1), 1) := by decide +kernel
theorem dMo_command_31 : decode cMo_command 31 = .ok (.goto 124, 3) := by decide +kernel
theorem dMo_command_34 : decode cMo_command 34 = .ok (.aload_n 0, 1) := by decide +kernel
theorem dMo_command_35 : decode cMo_command 35 = .ok (.iconst 0, 1) := by decide +kernel
theorem dMo_command_36 : decode cMo_command 36 = .ok (.ldc2_w 141, 3) := by decide +kernel
theorem dMo_command_39 : decode cMo_command 39 = .ok (.iconst 4, 1) := by decide +kernel
theorem dMo_command_40 : decode cMo_command 40 = .ok (.iload_n 1, 1) := by decide +kernel
theorem dMo_command_41 : decode cMo_command 41 = .ok (.invokevirtual 143, 3) := by decide +kernel
theorem dMo_command_44 : decode cMo_command 44 = .ok (.ifCond .eq 7, 3) := by decide +kernel
theorem dMo_command_47 : decode cMo_command 47 = .ok (.iconst 0, 1) := by decide +kernel
theorem dMo_command_48 : decode cMo_command 48 = .ok (.goto 107, 3) := by decide +kernel
theorem dMo_command_51 : decode cMo_command 51 = .ok (.aload_n 0, 1) := by decide +kernel
theorem dMo_command_52 : decode cMo_command 52 = .ok (.iconst 0, 1) := by decide +kernel
theorem dMo_command_53 : decode cMo_command 53 = .ok (.ldc2_w 147, 3) := by decide +kernel
theorem dMo_command_56 : decode cMo_command 56 = .ok (.iconst 4, 1) := by decide +kernel
theorem dMo_command_57 : decode cMo_command 57 = .ok (.iload_n 1, 1) := by decide +kernel
theorem dMo_command_58 : decode cMo_command 58 = .ok (.invokevirtual 143, 3) := by decide +kernel
theorem dMo_command_61 : decode cMo_command 61 = .ok (.ifCond .eq 7, 3) := by decide +kernel
theorem dMo_command_64 : decode cMo_command 64 = .ok (.iconst 1, 1) := by decide +kernel
theorem dMo_command_65 : decode cMo_command 65 = .ok (.goto 90, 3) := by decide +kernel
theorem dMo_command_68 : decode cMo_command 68 = .ok (.aload_n 0, 1) := by decide +kernel
theorem dMo_command_69 : decode cMo_command 69 = .ok (.iconst 0, 1) := by decide +kernel
theorem dMo_command_70 : decode cMo_command 70 = .ok (.ldc2_w 149, 3) := by decide +kernel
theorem dMo_command_73 : decode cMo_command 73 = .ok (.iconst 4, 1) := by decide +kernel
theorem dMo_command_74 : decode cMo_command 74 = .ok (.iload_n 1, 1) := by decide +kernel
theorem dMo_command_75 : decode cMo_command 75 = .ok (.invokevirtual 143, 3) := by decide +kernel
theorem dMo_command_78 : decode cMo_command 78 = .ok (.ifCond .eq 7, 3) := by decide +kernel
theorem dMo_command_81 : decode cMo_command 81 = .ok (.iconst 2, 1) := by decide +kernel
theorem dMo_command_82 : decode cMo_command 82 = .ok (.goto 73, 3) := by decide +kernel
theorem dMo_command_85 : decode cMo_command 85 = .ok (.aload_n 0, 1) := by decide +kernel
theorem dMo_command_86 : decode cMo_command 86 = .ok (.iconst 0, 1) := by decide +kernel
theorem dMo_command_87 : decode cMo_command 87 = .ok (.ldc2_w 151, 3) := by decide +kernel
theorem dMo_command_90 : decode cMo_command 90 = .ok (.iconst 4, 1) := by decide +kernel
theorem dMo_command_91 : decode cMo_command 91 = .ok (.iload_n 1, 1) := by decide +kernel
theorem dMo_command_92 : decode cMo_command 92 = .ok (.invokevirtual 143, 3) := by decide +kernel
theorem dMo_command_95 : decode cMo_command 95 = .ok (.ifCond .eq 7, 3) := by decide +kernel
theorem dMo_command_98 : decode cMo_command 98 = .ok (.iconst 3, 1) := by decide +kernel
theorem dMo_command_99 : decode cMo_command 99 = .ok (.goto 56, 3) := by decide +kernel
theorem dMo_command_102 : decode cMo_command 102 = .ok (.aload_n 0, 1) := by decide +kernel
theorem dMo_command_103 : decode cMo_command 103 = .ok (.iconst 0, 1) := by decide +kernel
theorem dMo_command_104 : decode cMo_command 104 = .ok (.ldc2_w 153, 3) := by decide +kernel
theorem dMo_command_107 : decode cMo_command 107 = .ok (.iconst 4, 1) := by decide +kernel
theorem dMo_command_108 : decode cMo_command 108 = .ok (.iload_n 1, 1) := by decide +kernel
theorem dMo_command_109 : decode cMo_command 109 = .ok (.invokevirtual 143, 3) := by decide +kernel
theorem dMo_command_112 : decode cMo_command 112 = .ok (.ifCond .eq 7, 3) := by decide +kernel
theorem dMo_command_115 : decode cMo_command 115 = .ok (.iconst 4, 1) := by decide +kernel
theorem dMo_command_116 : decode cMo_command 116 = .ok (.goto 39, 3) := by decide +kernel
theorem dMo_command_119 : decode cMo_command 119 = .ok (.aload_n 0, 1) := by decide +kernel
theorem dMo_command_120 : decode cMo_command 120 = .ok (.iconst 0, 1) := by decide +kernel
theorem dMo_command_121 : decode cMo_command 121 = .ok (.ldc2_w 155, 3) := by decide +kernel
theorem dMo_command_124 : decode cMo_command 124 = .ok (.iconst 4, 1) := by decide +kernel
theorem dMo_command_125 : decode cMo_command 125 = .ok (.iload_n 1, 1) := by decide +kernel
theorem dMo_command_126 : decode cMo_command 126 = .ok (.invokevirtual 143, 3) := by decide +kernel
theorem dMo_command_129 : decode cMo_command 129 = .ok (.ifCond .eq 7, 3) := by decide +kernel
theorem dMo_command_132 : decode cMo_command 132 = .ok (.iconst 5, 1) := by decide +kernel
theorem dMo_command_133 : decode cMo_command 133 = .ok (.goto 22, 3) := by decide +kernel
theorem dMo_command_136 : decode cMo_command 136 = .ok (.aload_n 0, 1) := by decide +kernel
theorem dMo_command_137 : decode cMo_command 137 = .ok (.iconst 0, 1) := by decide +kernel
theorem dMo_command_138 : decode cMo_command 138 = .ok (.ldc2_w 157, 3) := by decide +kernel
theorem dMo_command_141 : decode cMo_command 141 = .ok (.iconst 4, 1) := by decide +kernel
theorem dMo_command_142 : decode cMo_command 142 = .ok (.iload_n 1, 1) := by decide +kernel
theorem dMo_command_143 : decode cMo_command 143 = .ok (.invokevirtual 143, 3) := by decide +kernel
theorem dMo_command_146 : decode cMo_command 146 = .ok (.ifCond .eq 8, 3) := by decide +kernel
theorem dMo_command_149 : decode cMo_command 149 = .ok (.bipush 6, 2) := by decide +kernel
theorem dMo_command_151 : decode cMo_command 151 = .ok (.goto 4, 3) := by decide +kernel
theorem dMo_command_154 : decode cMo_command 154 = .ok (.iconst (-1), 1) := by decide +kernel
theorem dMo_command_155 : decode cMo_command 155 = .ok (.istore_n 3, 1) := by decide +kernel
theorem dMo_command_156 : decode cMo_command 156 = .ok (.iload_n 3, 1) := by decide +kernel
theorem dMo_command_157 : decode cMo_command 157 = .ok (.ifCond .ge 25, 3) := by decide +kernel
theorem dMo_command_160 : decode cMo_command 160 = .ok (.aload_n 0, 1) := by decide +kernel
theorem dMo_command_161 : decode cMo_command 161 = .ok (.ldc2_w 159, 3) := by decide +kernel
theorem dMo_command_164 : decode cMo_command 164 = .ok (.bipush 8, 2) := by decide +kernel
theorem dMo_command_166 : decode cMo_command 166 = .ok (.invokevirtual 60, 3) := by decide +kernel
theorem dMo_command_169 : decode cMo_command 169 = .ok (.aload_n 0, 1) := by decide +kernel
theorem dMo_command_170 : decode cMo_command 170 = .ok (.ldc2_w 161, 3) := by decide +kernel
theorem dMo_command_173 : decode cMo_command 173 = .ok (.iconst 3, 1) := by decide +kernel
theorem dMo_command_174 : decode cMo_command 174 = .ok (.invokevirtual 60, 3) := by decide +kernel
theorem dMo_command_177 : decode cMo_command 177 = .ok (.aload_n 0, 1) := by decide +kernel
theorem dMo_command_178 : decode cMo_command 178 = .ok (.invokevirtual 66, 3) := by decide +kernel
theorem dMo_command_181 : decode cMo_command 181 = .ok (.return_, 1) := by decide +kernel
theorem dMo_command_182 : decode cMo_command 182 = .ok (.iload_n 3, 1) := by decide +kernel
theorem dMo_command_183 : decode cMo_command 183 = .ok (.ifCond .le 20, 3) := by decide +kernel
theorem dMo_command_186 : decode cMo_command 186 = .ok (.iload_n 3, 1) := by decide +kernel
theorem dMo_command_187 : decode cMo_command 187 = .ok (.iconst 4, 1) := by decide +kernel
theorem dMo_command_188 : decode cMo_command 188 = .ok (.if_icmp .ge 15, 3) := by decide +kernel
theorem dMo_command_191 : decode cMo_command 191 = .ok (.aload_n 0, 1) := by decide +kernel
theorem dMo_command_192 : decode cMo_command 192 = .ok (.getfield 163, 3) := by decide +kernel
theorem dMo_command_195 : decode cMo_command 195 = .ok (.ifCond .ne 8, 3) := by decide +kernel
theorem dMo_command_198 : decode cMo_command 198 = .ok (.aload_n 0, 1) := by decide +kernel
theorem dMo_command_199 : decode cMo_command 199 = .ok (.invokevirtual 166, 3) := by decide +kernel
theorem dMo_command_202 : decode cMo_command 202 = .ok (.return_, 1) := by decide +kernel
theorem dMo_command_203 : decode cMo_command 203 = .ok (.iload_n 3, 1) := by decide +kernel
theorem dMo_command_204 : decode cMo_command 204 = .ok (.ifCond .ne 11, 3) := by decide +kernel
theorem dMo_command_207 : decode cMo_command 207 = .ok (.aload_n 0, 1) := by decide +kernel
theorem dMo_command_208 : decode cMo_command 208 = .ok (.iload_n 1, 1) := by decide +kernel
theorem dMo_command_209 : decode cMo_command 209 = .ok (.invokevirtual 169, 3) := by decide +kernel
theorem dMo_command_212 : decode cMo_command 212 = .ok (.goto 46, 3) := by decide +kernel
theorem dMo_command_215 : decode cMo_command 215 = .ok (.iload_n 3, 1) := by decide +kernel
theorem dMo_command_216 : decode cMo_command 216 = .ok (.iconst 1, 1) := by decide +kernel
theorem dMo_command_217 : decode cMo_command 217 = .ok (.if_icmp .ne 11, 3) := by decide +kernel
theorem dMo_command_220 : decode cMo_command 220 = .ok (.aload_n 0, 1) := by decide +kernel
theorem dMo_command_221 : decode cMo_command 221 = .ok (.iload_n 1, 1) := by decide +kernel
theorem dMo_command_222 : decode cMo_command 222 = .ok (.invokevirtual 172, 3) := by decide +kernel
theorem dMo_command_225 : decode cMo_command 225 = .ok (.goto 33, 3) := by decide +kernel
theorem dMo_command_228 : decode cMo_command 228 = .ok (.iload_n 3, 1) := by decide +kernel
theorem dMo_command_229 : decode cMo_command 229 = .ok (.iconst 2, 1) := by decide +kernel
theorem dMo_command_230 : decode cMo_command 230 = .ok (.if_icmp .ne 11, 3) := by decide +kernel
theorem dMo_command_233 : decode cMo_command 233 = .ok (.aload_n 0, 1) := by decide +kernel
theorem dMo_command_234 : decode cMo_command 234 = .ok (.iload_n 1, 1) := by decide +kernel
theorem dMo_command_235 : decode cMo_command 235 = .ok (.invokevirtual 175, 3) := by decide +kernel
theorem dMo_command_238 : decode cMo_command 238 = .ok (.goto 20, 3) := by decide +kernel
theorem dMo_command_241 : decode cMo_command 241 = .ok (.iload_n 1, 1) := by decide +kernel
theorem dMo_command_242 : decode cMo_command 242 = .ok (.iconst 4, 1) := by decide +kernel
theorem dMo_command_243 : decode cMo_command 243 = .ok (.if_icmp .eq 10, 3) := by decide +kernel
theorem dMo_command_246 : decode cMo_command 246 = .ok (.aload_n 0, 1) := by decide +kernel
theorem dMo_command_247 : decode cMo_command 247 = .ok (.invokevirtual 178, 3) := by decide +kernel
theorem dMo_command_250 : decode cMo_command 250 = .ok (.goto 8, 3) := by decide +kernel
theorem dMo_command_253 : decode cMo_command 253 = .ok (.aload_n 0, 1) := by decide +kernel
theorem dMo_command_254 : decode cMo_command 254 = .ok (.iload_n 3, 1) := by decide +kernel
theorem dMo_command_255 : decode cMo_command 255 = .ok (.invokevirtual 181, 3) := by decide +kernel
theorem dMo_command_258 : decode cMo_command 258 = .ok (.return_, 1) := by decide +kernel
theorem dMo_is_0 : decode cMo_is 0 = .ok (.iload_n 1, 1) := by decide +kernel
theorem dMo_is_1 : decode cMo_is 1 = .ok (.iload 4, 2) := by decide +kernel
theorem dMo_is_3 : decode cMo_is 3 = .ok (.iadd, 1) := by decide +kernel
theorem dMo_is_4 : decode cMo_is 4 = .ok (.iload 5, 2) := by decide +kernel
theorem dMo_is_6 : decode cMo_is 6 = .ok (.if_icmp .gt 7, 3) := by decide +kernel
theorem dMo_is_9 : decode cMo_is 9 = .ok (.iconst 1, 1) := by decide +kernel
theorem dMo_is_10 : decode cMo_is 10 = .ok (.goto 4, 3) := by decide +kernel
theorem dMo_is_13 : decode cMo_is 13 = .ok (.iconst 0, 1) := by decide +kernel
theorem dMo_is_14 : decode cMo_is 14 = .ok (.istore 6, 2) := by decide +kernel
theorem dMo_is_16 : decode cMo_is 16 = .ok (.iconst 0, 1) := by decide +kernel
theorem dMo_is_17 : decode cMo_is 17 = .ok (.istore 7, 2) := by decide +kernel
theorem dMo_is_19 : decode cMo_is 19 = .ok (.iload 7, 2) := by decide +kernel
theorem dMo_is_21 : decode cMo_is 21 = .ok (.iload 4, 2) := by decide +kernel
theorem dMo_is_23 : decode cMo_is 23 = .ok (.if_icmp .ge 51, 3) := by decide +kernel
theorem dMo_is_26 : decode cMo_is 26 = .ok (.iload 6, 2) := by decide +kernel
theorem dMo_is_28 : decode cMo_is 28 = .ok (.ifCond .eq 46, 3) := by decide +kernel
theorem dMo_is_31 : decode cMo_is 31 = .ok (.aload_n 0, 1) := by decide +kernel
theorem dMo_is_32 : decode cMo_is 32 = .ok (.getfield 13, 3) := by decide +kernel
theorem dMo_is_35 : decode cMo_is 35 = .ok (.iload_n 1, 1) := by decide +kernel
theorem dMo_is_36 : decode cMo_is 36 = .ok (.iload 7, 2) := by decide +kernel
theorem dMo_is_38 : decode cMo_is 38 = .ok (.iadd, 1) := by decide +kernel
theorem dMo_is_39 : decode cMo_is 39 = .ok (.iaload, 1) := by decide +kernel
theorem dMo_is_40 : decode cMo_is 40 = .ok (.invokestatic 108, 3) := by decide +kernel
theorem dMo_is_43 : decode cMo_is 43 = .ok (.lload_n 2, 1) := by decide +kernel
theorem dMo_is_44 : decode cMo_is 44 = .ok (.bipush 56, 2) := by decide +kernel
theorem dMo_is_46 : decode cMo_is 46 = .ok (.bipush 8, 2) := by decide +kernel
theorem dMo_is_48 : decode cMo_is 48 = .ok (.iload 7, 2) := by decide +kernel
theorem dMo_is_50 : decode cMo_is 50 = .ok (.imul, 1) := by decide +kernel
theorem dMo_is_51 : decode cMo_is 51 = .ok (.isub, 1) := by decide +kernel
theorem dMo_is_52 : decode cMo_is 52 = .ok (.lshr, 1) := by decide +kernel
theorem dMo_is_53 : decode cMo_is 53 = .ok (.l2i, 1) := by decide +kernel
theorem dMo_is_54 : decode cMo_is 54 = .ok (.sipush 255, 3) := by decide +kernel
theorem dMo_is_57 : decode cMo_is 57 = .ok (.iand, 1) := by decide +kernel
theorem dMo_is_58 : decode cMo_is 58 = .ok (.if_icmp .ne 7, 3) := by decide +kernel
theorem dMo_is_61 : decode cMo_is 61 = .ok (.iconst 1, 1) := by decide +kernel
theorem dMo_is_62 : decode cMo_is 62 = .ok (.goto 4, 3) := by decide +kernel
theorem dMo_is_65 : decode cMo_is 65 = .ok (.iconst 0, 1) := by decide +kernel
theorem dMo_is_66 : decode cMo_is 66 = .ok (.istore 6, 2) := by decide +kernel
theorem dMo_is_68 : decode cMo_is 68 = .ok (.iinc 7 1, 3) := by decide +kernel
theorem dMo_is_71 : decode cMo_is 71 = .ok (.goto (-52), 3) := by decide +kernel
theorem dMo_is_74 : decode cMo_is 74 = .ok (.iload 6, 2) := by decide +kernel
theorem dMo_is_76 : decode cMo_is 76 = .ok (.ireturn, 1) := by decide +kernel
theorem dMo_high_0 : decode cMo_high 0 = .ok (.iload_n 0, 1) := by decide +kernel
theorem dMo_high_1 : decode cMo_high 1 = .ok (.bipush 97, 2) := by decide +kernel
theorem dMo_high_3 : decode cMo_high 3 = .ok (.if_icmp .lt 16, 3) := by decide +kernel
theorem dMo_high_6 : decode cMo_high 6 = .ok (.iload_n 0, 1) := by decide +kernel
theorem dMo_high_7 : decode cMo_high 7 = .ok (.bipush 122, 2) := by decide +kernel
theorem dMo_high_9 : decode cMo_high 9 = .ok (.if_icmp .gt 10, 3) := by decide +kernel
theorem dMo_high_12 : decode cMo_high 12 = .ok (.iload_n 0, 1) := by decide +kernel
theorem dMo_high_13 : decode cMo_high 13 = .ok (.bipush 32, 2) := by decide +kernel
theorem dMo_high_15 : decode cMo_high 15 = .ok (.isub, 1) := by decide +kernel
theorem dMo_high_16 : decode cMo_high 16 = .ok (.goto 4, 3) := by decide +kernel
theorem dMo_high_19 : decode cMo_high 19 = .ok (.iload_n 0, 1) := by decide +kernel
theorem dMo_high_20 : decode cMo_high 20 = .ok (.ireturn, 1) := by decide +kernel
theorem dMo_order_0 : decode cMo_order 0 = .ok (.aload_n 0, 1) := by decide +kernel
theorem dMo_order_1 : decode cMo_order 1 = .ok (.ldc2_w 58, 3) := by decide +kernel
theorem dMo_order_4 : decode cMo_order 4 = .ok (.bipush 8, 2) := by decide +kernel
theorem dMo_order_6 : decode cMo_order 6 = .ok (.invokevirtual 60, 3) := by decide +kernel
theorem dMo_order_9 : decode cMo_order 9 = .ok (.aload_n 0, 1) := by decide +kernel
theorem dMo_order_10 : decode cMo_order 10 = .ok (.ldc2_w 64, 3) := by decide +kernel
theorem dMo_order_13 : decode cMo_order 13 = .ok (.iconst 1, 1) := by decide +kernel
theorem dMo_order_14 : decode cMo_order 14 = .ok (.invokevirtual 60, 3) := by decide +kernel
theorem dMo_order_17 : decode cMo_order 17 = .ok (.aload_n 0, 1) := by decide +kernel
theorem dMo_order_18 : decode cMo_order 18 = .ok (.invokevirtual 66, 3) := by decide +kernel
theorem dMo_order_21 : decode cMo_order 21 = .ok (.return_, 1) := by decide +kernel
theorem dMo_greet_0 : decode cMo_greet 0 = .ok (.iload_n 1, 1) := by decide +kernel
theorem dMo_greet_1 : decode cMo_greet 1 = .ok (.bipush 6, 2) := by decide +kernel
theorem dMo_greet_3 : decode cMo_greet 3 = .ok (.if_icmp .lt 27, 3) := by decide +kernel
theorem dMo_greet_6 : decode cMo_greet 6 = .ok (.aload_n 0, 1) := by decide +kernel
theorem dMo_greet_7 : decode cMo_greet 7 = .ok (.getfield 13, 3) := by decide +kernel
theorem dMo_greet_10 : decode cMo_greet 10 = .ok (.iconst 4, 1) := by decide +kernel
theorem dMo_greet_11 : decode cMo_greet 11 = .ok (.iaload, 1) := by decide +kernel
theorem dMo_greet_12 : decode cMo_greet 12 = .ok (.bipush 32, 2) := by decide +kernel
theorem dMo_greet_14 : decode cMo_greet 14 = .ok (.if_icmp .ne 16, 3) := by decide +kernel
theorem dMo_greet_17 : decode cMo_greet 17 = .ok (.aload_n 0, 1) := by decide +kernel
theorem dMo_greet_18 : decode cMo_greet 18 = .ok (.iconst 5, 1) := by decide +kernel
theorem dMo_greet_19 : decode cMo_greet 19 = .ok (.iload_n 1, 1) := by decide +kernel
theorem dMo_greet_20 : decode cMo_greet 20 = .ok (.bipush 60, 2) := by decide +kernel
theorem dMo_greet_22 : decode cMo_greet 22 = .ok (.iconst 0, 1) := by decide +kernel
theorem dMo_greet_23 : decode cMo_greet 23 = .ok (.invokevirtual 125, 3) := by decide +kernel
theorem dMo_greet_26 : decode cMo_greet 26 = .ok (.iload_n 1, 1) := by decide +kernel
theorem dMo_greet_27 : decode cMo_greet 27 = .ok (.if_icmp .eq 8, 3) := by decide +kernel
theorem dMo_greet_30 : decode cMo_greet 30 = .ok (.aload_n 0, 1) := by decide +kernel
theorem dMo_greet_31 : decode cMo_greet 31 = .ok (.invokevirtual 178, 3) := by decide +kernel
theorem dMo_greet_34 : decode cMo_greet 34 = .ok (.return_, 1) := by decide +kernel
theorem dMo_greet_35 : decode cMo_greet 35 = .ok (.aload_n 0, 1) := by decide +kernel
theorem dMo_greet_36 : decode cMo_greet 36 = .ok (.iconst 1, 1) := by decide +kernel
theorem dMo_greet_37 : decode cMo_greet 37 = .ok (.putfield 163, 3) := by decide +kernel
theorem dMo_greet_40 : decode cMo_greet 40 = .ok (.aload_n 0, 1) := by decide +kernel
theorem dMo_greet_41 : decode cMo_greet 41 = .ok (.invokevirtual 184, 3) := by decide +kernel
theorem dMo_greet_44 : decode cMo_greet 44 = .ok (.aload_n 0, 1) := by decide +kernel
theorem dMo_greet_45 : decode cMo_greet 45 = .ok (.ldc2_w 187, 3) := by decide +kernel
theorem dMo_greet_48 : decode cMo_greet 48 = .ok (.bipush 8, 2) := by decide +kernel
theorem dMo_greet_50 : decode cMo_greet 50 = .ok (.invokevirtual 60, 3) := by decide +kernel
theorem dMo_greet_53 : decode cMo_greet 53 = .ok (.aload_n 0, 1) := by decide +kernel
theorem dMo_greet_54 : decode cMo_greet 54 = .ok (.invokevirtual 66, 3) := by decide +kernel
theorem dMo_greet_57 : decode cMo_greet 57 = .ok (.return_, 1) := by decide +kernel
theorem dMo_dotted_0 : decode cMo_dotted 0 = .ok (.iload_n 1, 1) := by decide +kernel
theorem dMo_dotted_1 : decode cMo_dotted 1 = .ok (.istore 5, 2) := by decide +kernel
theorem dMo_dotted_3 : decode cMo_dotted 3 = .ok (.iconst 1, 1) := by decide +kernel
theorem dMo_dotted_4 : decode cMo_dotted 4 = .ok (.istore 6, 2) := by decide +kernel
theorem dMo_dotted_6 : decode cMo_dotted 6 = .ok (.iload 6, 2) := by decide +kernel
theorem dMo_dotted_8 : decode cMo_dotted 8 = .ok (.ifCond .eq 127, 3) := by decide +kernel
theorem dMo_dotted_11 : decode cMo_dotted 11 = .ok (.iload 5, 2) := by decide +kernel
theorem dMo_dotted_13 : decode cMo_dotted 13 = .ok (.iload_n 2, 1) := by decide +kernel
theorem dMo_dotted_14 : decode cMo_dotted 14 = .ok (.if_icmp .ge 19, 3) := by decide +kernel
theorem dMo_dotted_17 : decode cMo_dotted 17 = .ok (.aload_n 0, 1) := by decide +kernel
theorem dMo_dotted_18 : decode cMo_dotted 18 = .ok (.getfield 13, 3) := by decide +kernel
theorem dMo_dotted_21 : decode cMo_dotted 21 = .ok (.iload 5, 2) := by decide +kernel
theorem dMo_dotted_23 : decode cMo_dotted 23 = .ok (.iaload, 1) := by decide +kernel
theorem dMo_dotted_24 : decode cMo_dotted 24 = .ok (.bipush 46, 2) := by decide +kernel
theorem dMo_dotted_26 : decode cMo_dotted 26 = .ok (.if_icmp .ne 7, 3) := by decide +kernel
theorem dMo_dotted_29 : decode cMo_dotted 29 = .ok (.iconst 1, 1) := by decide +kernel
theorem dMo_dotted_30 : decode cMo_dotted 30 = .ok (.goto 4, 3) := by decide +kernel
theorem dMo_dotted_33 : decode cMo_dotted 33 = .ok (.iconst 0, 1) := by decide +kernel
theorem dMo_dotted_34 : decode cMo_dotted 34 = .ok (.istore 7, 2) := by decide +kernel
theorem dMo_dotted_36 : decode cMo_dotted 36 = .ok (.iload 7, 2) := by decide +kernel
theorem dMo_dotted_38 : decode cMo_dotted 38 = .ok (.ifCond .eq 31, 3) := by decide +kernel
theorem dMo_dotted_41 : decode cMo_dotted 41 = .ok (.iload 5, 2) := by decide +kernel
theorem dMo_dotted_43 : decode cMo_dotted 43 = .ok (.iload_n 1, 1) := by decide +kernel
theorem dMo_dotted_44 : decode cMo_dotted 44 = .ok (.if_icmp .le 21, 3) := by decide +kernel
theorem dMo_dotted_47 : decode cMo_dotted 47 = .ok (.aload_n 0, 1) := by decide +kernel
theorem dMo_dotted_48 : decode cMo_dotted 48 = .ok (.getfield 13, 3) := by decide +kernel
theorem dMo_dotted_51 : decode cMo_dotted 51 = .ok (.iload 5, 2) := by decide +kernel
theorem dMo_dotted_53 : decode cMo_dotted 53 = .ok (.iconst 1, 1) := by decide +kernel
theorem dMo_dotted_54 : decode cMo_dotted 54 = .ok (.isub, 1) := by decide +kernel
theorem dMo_dotted_55 : decode cMo_dotted 55 = .ok (.iaload, 1) := by decide +kernel
theorem dMo_dotted_56 : decode cMo_dotted 56 = .ok (.bipush 46, 2) := by decide +kernel
theorem dMo_dotted_58 : decode cMo_dotted 58 = .ok (.if_icmp .eq 7, 3) := by decide +kernel
theorem dMo_dotted_61 : decode cMo_dotted 61 = .ok (.iconst 1, 1) := by decide +kernel
theorem dMo_dotted_62 : decode cMo_dotted 62 = .ok (.goto 52, 3) := by decide +kernel
theorem dMo_dotted_65 : decode cMo_dotted 65 = .ok (.iconst 0, 1) := by decide +kernel
theorem dMo_dotted_66 : decode cMo_dotted 66 = .ok (.goto 48, 3) := by decide +kernel
theorem dMo_dotted_69 : decode cMo_dotted 69 = .ok (.iload 5, 2) := by decide +kernel
theorem dMo_dotted_71 : decode cMo_dotted 71 = .ok (.iload_n 2, 1) := by decide +kernel
theorem dMo_dotted_72 : decode cMo_dotted 72 = .ok (.if_icmp .ge 41, 3) := by decide +kernel
theorem dMo_dotted_75 : decode cMo_dotted 75 = .ok (.iload 4, 2) := by decide +kernel
theorem dMo_dotted_77 : decode cMo_dotted 77 = .ok (.ifCond .eq 19, 3) := by decide +kernel
theorem dMo_dotted_80 : decode cMo_dotted 80 = .ok (.aload_n 0, 1) := by decide +kernel
theorem dMo_dotted_81 : decode cMo_dotted 81 = .ok (.getfield 13, 3) := by decide +kernel
theorem dMo_dotted_84 : decode cMo_dotted 84 = .ok (.iload 5, 2) := by decide +kernel
theorem dMo_dotted_86 : decode cMo_dotted 86 = .ok (.iaload, 1) := by decide +kernel
theorem dMo_dotted_87 : decode cMo_dotted 87 = .ok (.invokestatic 119, 3) := by decide +kernel
theorem dMo_dotted_90 : decode cMo_dotted 90 = .ok (.ifCond .eq 23, 3) := by decide +kernel
theorem dMo_dotted_93 : decode cMo_dotted 93 = .ok (.goto 16, 3) := by decide +kernel
theorem dMo_dotted_96 : decode cMo_dotted 96 = .ok (.aload_n 0, 1) := by decide +kernel
theorem dMo_dotted_97 : decode cMo_dotted 97 = .ok (.getfield 13, 3) := by decide +kernel
theorem dMo_dotted_100 : decode cMo_dotted 100 = .ok (.iload 5, 2) := by decide +kernel
theorem dMo_dotted_102 : decode cMo_dotted 102 = .ok (.iaload, 1) := by decide +kernel
theorem dMo_dotted_103 : decode cMo_dotted 103 = .ok (.invokestatic 116, 3) := by decide +kernel
theorem dMo_dotted_106 : decode cMo_dotted 106 = .ok (.ifCond .eq 7, 3) := by decide +kernel
theorem dMo_dotted_109 : decode cMo_dotted 109 = .ok (.iconst 1, 1) := by decide +kernel
theorem dMo_dotted_110 : decode cMo_dotted 110 = .ok (.goto 4, 3) := by decide +kernel
theorem dMo_dotted_113 : decode cMo_dotted 113 = .ok (.iconst 0, 1) := by decide +kernel
theorem dMo_dotted_114 : decode cMo_dotted 114 = .ok (.istore 6, 2) := by decide +kernel
theorem dMo_dotted_116 : decode cMo_dotted 116 = .ok (.iload 6, 2) := by decide +kernel
theorem dMo_dotted_118 : decode cMo_dotted 118 = .ok (.ifCond .eq 10, 3) := by decide +kernel
theorem dMo_dotted_121 : decode cMo_dotted 121 = .ok (.iload 5, 2) := by decide +kernel
theorem dMo_dotted_123 : decode cMo_dotted 123 = .ok (.iconst 1, 1) := by decide +kernel
theorem dMo_dotted_124 : decode cMo_dotted 124 = .ok (.iadd, 1) := by decide +kernel
theorem dMo_dotted_125 : decode cMo_dotted 125 = .ok (.goto 5, 3) := by decide +kernel
theorem dMo_dotted_128 : decode cMo_dotted 128 = .ok (.iload 5, 2) := by decide +kernel
theorem dMo_dotted_130 : decode cMo_dotted 130 = .ok (.istore 5, 2) := by decide +kernel
theorem dMo_dotted_132 : decode cMo_dotted 132 = .ok (.goto (-126), 3) := by decide +kernel
theorem dMo_dotted_135 : decode cMo_dotted 135 = .ok (.iload 5, 2) := by decide +kernel
theorem dMo_dotted_137 : decode cMo_dotted 137 = .ok (.iload_n 1, 1) := by decide +kernel
theorem dMo_dotted_138 : decode cMo_dotted 138 = .ok (.if_icmp .eq 25, 3) := by decide +kernel
theorem dMo_dotted_141 : decode cMo_dotted 141 = .ok (.iload 5, 2) := by decide +kernel
theorem dMo_dotted_143 : decode cMo_dotted 143 = .ok (.iload_n 1, 1) := by decide +kernel
theorem dMo_dotted_144 : decode cMo_dotted 144 = .ok (.isub, 1) := by decide +kernel
theorem dMo_dotted_145 : decode cMo_dotted 145 = .ok (.iload_n 3, 1) := by decide +kernel
theorem dMo_dotted_146 : decode cMo_dotted 146 = .ok (.if_icmp .gt 17, 3) := by decide +kernel
theorem dMo_dotted_149 : decode cMo_dotted 149 = .ok (.aload_n 0, 1) := by decide +kernel
theorem dMo_dotted_150 : decode cMo_dotted 150 = .ok (.getfield 13, 3) := by decide +kernel
theorem dMo_dotted_153 : decode cMo_dotted 153 = .ok (.iload 5, 2) := by decide +kernel
theorem dMo_dotted_155 : decode cMo_dotted 155 = .ok (.iconst 1, 1) := by decide +kernel
theorem dMo_dotted_156 : decode cMo_dotted 156 = .ok (.isub, 1) := by decide +kernel
theorem dMo_dotted_157 : decode cMo_dotted 157 = .ok (.iaload, 1) := by decide +kernel
theorem dMo_dotted_158 : decode cMo_dotted 158 = .ok (.bipush 46, 2) := by decide +kernel
theorem dMo_dotted_160 : decode cMo_dotted 160 = .ok (.if_icmp .ne 7, 3) := by decide +kernel
theorem dMo_dotted_163 : decode cMo_dotted 163 = .ok (.iconst (-1), 1) := by decide +kernel
theorem dMo_dotted_164 : decode cMo_dotted 164 = .ok (.goto 5, 3) := by decide +kernel
theorem dMo_dotted_167 : decode cMo_dotted 167 = .ok (.iload 5, 2) := by decide +kernel
theorem dMo_dotted_169 : decode cMo_dotted 169 = .ok (.ireturn, 1) := by decide +kernel
theorem dMo_isLocal_0 : decode cMo_isLocal 0 = .ok (.iload_n 0, 1) := by decide +kernel
theorem dMo_isLocal_1 : decode cMo_isLocal 1 = .ok (.invokestatic 116, 3) := by decide +kernel
theorem dMo_isLocal_4 : decode cMo_isLocal 4 = .ok (.ifCond .ne 75, 3) := by decide +kernel
theorem dMo_isLocal_7 : decode cMo_isLocal 7 = .ok (.iload_n 0, 1) := by decide +kernel
theorem dMo_isLocal_8 : decode cMo_isLocal 8 = .ok (.bipush 33, 2) := by decide +kernel
theorem dMo_isLocal_10 : decode cMo_isLocal 10 = .ok (.if_icmp .eq 69, 3) := by decide +kernel
theorem dMo_isLocal_13 : decode cMo_isLocal 13 = .ok (.iload_n 0, 1) := by decide +kernel
theorem dMo_isLocal_14 : decode cMo_isLocal 14 = .ok (.bipush 35, 2) := by decide +kernel
theorem dMo_isLocal_16 : decode cMo_isLocal 16 = .ok (.if_icmp .lt 9, 3) := by decide +kernel
theorem dMo_isLocal_19 : decode cMo_isLocal 19 = .ok (.iload_n 0, 1) := by decide +kernel
theorem dMo_isLocal_20 : decode cMo_isLocal 20 = .ok (.bipush 39, 2) := by decide +kernel
theorem dMo_isLocal_22 : decode cMo_isLocal 22 = .ok (.if_icmp .le 57, 3) := by decide +kernel
theorem dMo_isLocal_25 : decode cMo_isLocal 25 = .ok (.iload_n 0, 1) := by decide +kernel
theorem dMo_isLocal_26 : decode cMo_isLocal 26 = .ok (.bipush 42, 2) := by decide +kernel
theorem dMo_isLocal_28 : decode cMo_isLocal 28 = .ok (.if_icmp .eq 51, 3) := by decide +kernel
theorem dMo_isLocal_31 : decode cMo_isLocal 31 = .ok (.iload_n 0, 1) := by decide +kernel
theorem dMo_isLocal_32 : decode cMo_isLocal 32 = .ok (.bipush 43, 2) := by decide +kernel
theorem dMo_isLocal_34 : decode cMo_isLocal 34 = .ok (.if_icmp .eq 45, 3) := by decide +kernel
theorem dMo_isLocal_37 : decode cMo_isLocal 37 = .ok (.iload_n 0, 1) := by decide +kernel
theorem dMo_isLocal_38 : decode cMo_isLocal 38 = .ok (.bipush 47, 2) := by decide +kernel
theorem dMo_isLocal_40 : decode cMo_isLocal 40 = .ok (.if_icmp .eq 39, 3) := by decide +kernel
theorem dMo_isLocal_43 : decode cMo_isLocal 43 = .ok (.iload_n 0, 1) := by decide +kernel
theorem dMo_isLocal_44 : decode cMo_isLocal 44 = .ok (.bipush 61, 2) := by decide +kernel
theorem dMo_isLocal_46 : decode cMo_isLocal 46 = .ok (.if_icmp .eq 33, 3) := by decide +kernel
theorem dMo_isLocal_49 : decode cMo_isLocal 49 = .ok (.iload_n 0, 1) := by decide +kernel
theorem dMo_isLocal_50 : decode cMo_isLocal 50 = .ok (.bipush 63, 2) := by decide +kernel
theorem dMo_isLocal_52 : decode cMo_isLocal 52 = .ok (.if_icmp .eq 27, 3) := by decide +kernel
theorem dMo_isLocal_55 : decode cMo_isLocal 55 = .ok (.iload_n 0, 1) := by decide +kernel
theorem dMo_isLocal_56 : decode cMo_isLocal 56 = .ok (.bipush 94, 2) := by decide +kernel
theorem dMo_isLocal_58 : decode cMo_isLocal 58 = .ok (.if_icmp .lt 9, 3) := by decide +kernel
theorem dMo_isLocal_61 : decode cMo_isLocal 61 = .ok (.iload_n 0, 1) := by decide +kernel
theorem dMo_isLocal_62 : decode cMo_isLocal 62 = .ok (.bipush 96, 2) := by decide +kernel
theorem dMo_isLocal_64 : decode cMo_isLocal 64 = .ok (.if_icmp .le 15, 3) := by decide +kernel
theorem dMo_isLocal_67 : decode cMo_isLocal 67 = .ok (.iload_n 0, 1) := by decide +kernel
theorem dMo_isLocal_68 : decode cMo_isLocal 68 = .ok (.bipush 123, 2) := by decide +kernel
theorem dMo_isLocal_70 : decode cMo_isLocal 70 = .ok (.if_icmp .lt 13, 3) := by decide +kernel
theorem dMo_isLocal_73 : decode cMo_isLocal 73 = .ok (.iload_n 0, 1) := by decide +kernel
theorem dMo_isLocal_74 : decode cMo_isLocal 74 = .ok (.bipush 126, 2) := by decide +kernel
theorem dMo_isLocal_76 : decode cMo_isLocal 76 = .ok (.if_icmp .gt 7, 3) := by decide +kernel
theorem dMo_isLocal_79 : decode cMo_isLocal 79 = .ok (.iconst 1, 1) := by decide +kernel
theorem dMo_isLocal_80 : decode cMo_isLocal 80 = .ok (.goto 4, 3) := by decide +kernel
theorem dMo_isLocal_83 : decode cMo_isLocal 83 = .ok (.iconst 0, 1) := by decide +kernel
theorem dMo_isLocal_84 : decode cMo_isLocal 84 = .ok (.ireturn, 1) := by decide +kernel
theorem dMo_isDomain_0 : decode cMo_isDomain 0 = .ok (.iload_n 0, 1) := by decide +kernel
theorem dMo_isDomain_1 : decode cMo_isDomain 1 = .ok (.invokestatic 108, 3) := by decide +kernel
theorem dMo_isDomain_4 : decode cMo_isDomain 4 = .ok (.bipush 65, 2) := by decide +kernel
theorem dMo_isDomain_6 : decode cMo_isDomain 6 = .ok (.if_icmp .lt 12, 3) := by decide +kernel
theorem dMo_isDomain_9 : decode cMo_isDomain 9 = .ok (.iload_n 0, 1) := by decide +kernel
theorem dMo_isDomain_10 : decode cMo_isDomain 10 = .ok (.invokestatic 108, 3) := by decide +kernel
theorem dMo_isDomain_13 : decode cMo_isDomain 13 = .ok (.bipush 90, 2) := by decide +kernel
theorem dMo_isDomain_15 : decode cMo_isDomain 15 = .ok (.if_icmp .le 16, 3) := by decide +kernel
theorem dMo_isDomain_18 : decode cMo_isDomain 18 = .ok (.iload_n 0, 1) := by decide +kernel
theorem dMo_isDomain_19 : decode cMo_isDomain 19 = .ok (.invokestatic 112, 3) := by decide +kernel
theorem dMo_isDomain_22 : decode cMo_isDomain 22 = .ok (.ifCond .ne 9, 3) := by decide +kernel
theorem dMo_isDomain_25 : decode cMo_isDomain 25 = .ok (.iload_n 0, 1) := by decide +kernel
theorem dMo_isDomain_26 : decode cMo_isDomain 26 = .ok (.bipush 45, 2) := by decide +kernel
theorem dMo_isDomain_28 : decode cMo_isDomain 28 = .ok (.if_icmp .ne 7, 3) := by decide +kernel
theorem dMo_isDomain_31 : decode cMo_isDomain 31 = .ok (.iconst 1, 1) := by decide +kernel
theorem dMo_isDomain_32 : decode cMo_isDomain 32 = .ok (.goto 4, 3) := by decide +kernel
theorem dMo_isDomain_35 : decode cMo_isDomain 35 = .ok (.iconst 0, 1) := by decide +kernel
theorem dMo_isDomain_36 : decode cMo_isDomain 36 = .ok (.ireturn, 1) := by decide +kernel
theorem dMo_isDigit_0 : decode cMo_isDigit 0 = .ok (.iload_n 0, 1) := by decide +kernel
theorem dMo_isDigit_1 : decode cMo_isDigit 1 = .ok (.bipush 48, 2) := by decide +kernel
theorem dMo_isDigit_3 : decode cMo_isDigit 3 = .ok (.if_icmp .lt 13, 3) := by decide +kernel
theorem dMo_isDigit_6 : decode cMo_isDigit 6 = .ok (.iload_n 0, 1) := by decide +kernel
theorem dMo_isDigit_7 : decode cMo_isDigit 7 = .ok (.bipush 57, 2) := by decide +kernel
theorem dMo_isDigit_9 : decode cMo_isDigit 9 = .ok (.if_icmp .gt 7, 3) := by decide +kernel
theorem dMo_isDigit_12 : decode cMo_isDigit 12 = .ok (.iconst 1, 1) := by decide +kernel
theorem dMo_isDigit_13 : decode cMo_isDigit 13 = .ok (.goto 4, 3) := by decide +kernel
theorem dMo_isDigit_16 : decode cMo_isDigit 16 = .ok (.iconst 0, 1) := by decide +kernel
theorem dMo_isDigit_17 : decode cMo_isDigit 17 = .ok (.ireturn, 1) := by decide +kernel
theorem dMo_syntax_0 : decode cMo_syntax 0 = .ok (.aload_n 0, 1) := by decide +kernel
theorem dMo_syntax_1 : decode cMo_syntax 1 = .ok (.ldc2_w 69, 3) := by decide +kernel
theorem dMo_syntax_4 : decode cMo_syntax 4 = .ok (.bipush 8, 2) := by decide +kernel
theorem dMo_syntax_6 : decode cMo_syntax 6 = .ok (.invokevirtual 60, 3) := by decide +kernel
theorem dMo_syntax_9 : decode cMo_syntax 9 = .ok (.aload_n 0, 1) := by decide +kernel
theorem dMo_syntax_10 : decode cMo_syntax 10 = .ok (.ldc2_w 71, 3) := by decide +kernel
theorem dMo_syntax_13 : decode cMo_syntax 13 = .ok (.iconst 2, 1) := by decide +kernel
theorem dMo_syntax_14 : decode cMo_syntax 14 = .ok (.invokevirtual 60, 3) := by decide +kernel
theorem dMo_syntax_17 : decode cMo_syntax 17 = .ok (.aload_n 0, 1) := by decide +kernel
theorem dMo_syntax_18 : decode cMo_syntax 18 = .ok (.invokevirtual 66, 3) := by decide +kernel
theorem dMo_syntax_21 : decode cMo_syntax 21 = .ok (.return_, 1) := by decide +kernel
theorem dMo_sent_0 : decode cMo_sent 0 = .ok (.iconst (-1), 1) := by decide +kernel
theorem dMo_sent_1 : decode cMo_sent 1 = .ok (.istore_n 2, 1) := by decide +kernel
theorem dMo_sent_2 : decode cMo_sent 2 = .ok (.aload_n 0, 1) := by decide +kernel
theorem dMo_sent_3 : decode cMo_sent 3 = .ok (.iconst 0, 1) := by decide +kernel
theorem dMo_sent_4 : decode cMo_sent 4 = .ok (.putfield 122, 3) := by decide +kernel
theorem dMo_sent_7 : decode cMo_sent 7 = .ok (.aload_n 0, 1) := by decide +kernel
theorem dMo_sent_8 : decode cMo_sent 8 = .ok (.iconst 0, 1) := by decide +kernel
theorem dMo_sent_9 : decode cMo_sent 9 = .ok (.putfield 132, 3) := by decide +kernel
theorem dMo_sent_12 : decode cMo_sent 12 = .ok (.aload_n 0, 1) := by decide +kernel
theorem dMo_sent_13 : decode cMo_sent 13 = .ok (.iconst 0, 1) := by decide +kernel
theorem dMo_sent_14 : decode cMo_sent 14 = .ok (.ldc2_w 189, 3) := by decide +kernel
theorem dMo_sent_17 : decode cMo_sent 17 = .ok (.bipush 8, 2) := by decide +kernel
theorem dMo_sent_19 : decode cMo_sent 19 = .ok (.iload_n 1, 1) := by decide +kernel
theorem dMo_sent_20 : decode cMo_sent 20 = .ok (.invokevirtual 143, 3) := by decide +kernel
theorem dMo_sent_23 : decode cMo_sent 23 = .ok (.ifCond .eq 60, 3) := by decide +kernel
theorem dMo_sent_26 : decode cMo_sent 26 = .ok (.aload_n 0, 1) := by decide +kernel
theorem dMo_sent_27 : decode cMo_sent 27 = .ok (.bipush 8, 2) := by decide +kernel
theorem dMo_sent_29 : decode cMo_sent 29 = .ok (.ldc2_w 191, 3) := by decide +kernel
theorem dMo_sent_32 : decode cMo_sent 32 = .ok (.iconst 2, 1) := by decide +kernel
theorem dMo_sent_33 : decode cMo_sent 33 = .ok (.iload_n 1, 1) := by decide +kernel
theorem dMo_sent_34 : decode cMo_sent 34 = .ok (.invokevirtual 143, 3) := by decide +kernel
theorem dMo_sent_37 : decode cMo_sent 37 = .ok (.ifCond .eq 46, 3) := by decide +kernel
theorem dMo_sent_40 : decode cMo_sent 40 = .ok (.bipush 11, 2) := by decide +kernel
theorem dMo_sent_42 : decode cMo_sent 42 = .ok (.iload_n 1, 1) := by decide +kernel
theorem dMo_sent_43 : decode cMo_sent 43 = .ok (.if_icmp .ge 32, 3) := by decide +kernel
theorem dMo_sent_46 : decode cMo_sent 46 = .ok (.aload_n 0, 1) := by decide +kernel
theorem dMo_sent_47 : decode cMo_sent 47 = .ok (.getfield 13, 3) := by decide +kernel
theorem dMo_sent_50 : decode cMo_sent 50 = .ok (.bipush 10, 2) := by decide +kernel
theorem dMo_sent_52 : decode cMo_sent 52 = .ok (.iaload, 1) := by decide +kernel
theorem dMo_sent_53 : decode cMo_sent 53 = .ok (.bipush 60, 2) := by decide +kernel
theorem dMo_sent_55 : decode cMo_sent 55 = .ok (.if_icmp .ne 20, 3) := by decide +kernel
theorem dMo_sent_58 : decode cMo_sent 58 = .ok (.aload_n 0, 1) := by decide +kernel
theorem dMo_sent_59 : decode cMo_sent 59 = .ok (.getfield 13, 3) := by decide +kernel
theorem dMo_sent_62 : decode cMo_sent 62 = .ok (.bipush 11, 2) := by decide +kernel
theorem dMo_sent_64 : decode cMo_sent 64 = .ok (.iaload, 1) := by decide +kernel
theorem dMo_sent_65 : decode cMo_sent 65 = .ok (.bipush 62, 2) := by decide +kernel
theorem dMo_sent_67 : decode cMo_sent 67 = .ok (.if_icmp .ne 8, 3) := by decide +kernel
theorem dMo_sent_70 : decode cMo_sent 70 = .ok (.bipush 12, 2) := by decide +kernel
theorem dMo_sent_72 : decode cMo_sent 72 = .ok (.goto 10, 3) := by decide +kernel
theorem dMo_sent_75 : decode cMo_sent 75 = .ok (.aload_n 0, 1) := by decide +kernel
theorem dMo_sent_76 : decode cMo_sent 76 = .ok (.bipush 10, 2) := by decide +kernel
theorem dMo_sent_78 : decode cMo_sent 78 = .ok (.iload_n 1, 1) := by decide +kernel
theorem dMo_sent_79 : decode cMo_sent 79 = .ok (.invokevirtual 193, 3) := by decide +kernel
theorem dMo_sent_82 : decode cMo_sent 82 = .ok (.istore_n 2, 1) := by decide +kernel
theorem dMo_sent_83 : decode cMo_sent 83 = .ok (.iconst 0, 1) := by decide +kernel
theorem dMo_sent_84 : decode cMo_sent 84 = .ok (.istore_n 3, 1) := by decide +kernel
theorem dMo_sent_85 : decode cMo_sent 85 = .ok (.iload_n 2, 1) := by decide +kernel
theorem dMo_sent_86 : decode cMo_sent 86 = .ok (.ifCond .lt 167, 3) := by decide +kernel
theorem dMo_sent_89 : decode cMo_sent 89 = .ok (.iload_n 2, 1) := by decide +kernel
theorem dMo_sent_90 : decode cMo_sent 90 = .ok (.iload_n 1, 1) := by decide +kernel
theorem dMo_sent_91 : decode cMo_sent 91 = .ok (.if_icmp .ge 162, 3) := by decide +kernel
theorem dMo_sent_94 : decode cMo_sent 94 = .ok (.aload_n 0, 1) := by decide +kernel
theorem dMo_sent_95 : decode cMo_sent 95 = .ok (.iload_n 2, 1) := by decide +kernel
theorem dMo_sent_96 : decode cMo_sent 96 = .ok (.ldc2_w 197, 3) := by decide +kernel
theorem dMo_sent_99 : decode cMo_sent 99 = .ok (.bipush 8, 2) := by decide +kernel
theorem dMo_sent_101 : decode cMo_sent 101 = .ok (.iload_n 1, 1) := by decide +kernel
theorem dMo_sent_102 : decode cMo_sent 102 = .ok (.invokevirtual 143, 3) := by decide +kernel
theorem dMo_sent_105 : decode cMo_sent 105 = .ok (.ifCond .eq 28, 3) := by decide +kernel
theorem dMo_sent_108 : decode cMo_sent 108 = .ok (.aload_n 0, 1) := by decide +kernel
theorem dMo_sent_109 : decode cMo_sent 109 = .ok (.iload_n 2, 1) := by decide +kernel
theorem dMo_sent_110 : decode cMo_sent 110 = .ok (.bipush 8, 2) := by decide +kernel
theorem dMo_sent_112 : decode cMo_sent 112 = .ok (.iadd, 1) := by decide +kernel
theorem dMo_sent_113 : decode cMo_sent 113 = .ok (.ldc2_w 199, 3) := by decide +kernel
theorem dMo_sent_116 : decode cMo_sent 116 = .ok (.bipush 6, 2) := by decide +kernel
theorem dMo_sent_118 : decode cMo_sent 118 = .ok (.iload_n 1, 1) := by decide +kernel
theorem dMo_sent_119 : decode cMo_sent 119 = .ok (.invokevirtual 143, 3) := by decide +kernel
theorem dMo_sent_122 : decode cMo_sent 122 = .ok (.ifCond .eq 11, 3) := by decide +kernel
theorem dMo_sent_125 : decode cMo_sent 125 = .ok (.iload_n 2, 1) := by decide +kernel
theorem dMo_sent_126 : decode cMo_sent 126 = .ok (.bipush 14, 2) := by decide +kernel
theorem dMo_sent_128 : decode cMo_sent 128 = .ok (.iadd, 1) := by decide +kernel
theorem dMo_sent_129 : decode cMo_sent 129 = .ok (.istore_n 2, 1) := by decide +kernel
theorem dMo_sent_130 : decode cMo_sent 130 = .ok (.goto (-45), 3) := by decide +kernel
theorem dMo_sent_133 : decode cMo_sent 133 = .ok (.aload_n 0, 1) := by decide +kernel
theorem dMo_sent_134 : decode cMo_sent 134 = .ok (.iload_n 2, 1) := by decide +kernel
theorem dMo_sent_135 : decode cMo_sent 135 = .ok (.ldc2_w 201, 3) := by decide +kernel
theorem dMo_sent_138 : decode cMo_sent 138 = .ok (.bipush 6, 2) := by decide +kernel
theorem dMo_sent_140 : decode cMo_sent 140 = .ok (.iload_n 1, 1) := by decide +kernel
theorem dMo_sent_141 : decode cMo_sent 141 = .ok (.invokevirtual 143, 3) := by decide +kernel
theorem dMo_sent_144 : decode cMo_sent 144 = .ok (.ifCond .eq 104, 3) := by decide +kernel
theorem dMo_sent_147 : decode cMo_sent 147 = .ok (.iload_n 2, 1) := by decide +kernel
theorem dMo_sent_148 : decode cMo_sent 148 = .ok (.bipush 6, 2) := by decide +kernel
theorem dMo_sent_150 : decode cMo_sent 150 = .ok (.iadd, 1) := by decide +kernel
theorem dMo_sent_151 : decode cMo_sent 151 = .ok (.istore 4, 2) := by decide +kernel
theorem dMo_sent_153 : decode cMo_sent 153 = .ok (.iconst 0, 1) := by decide +kernel
theorem dMo_sent_154 : decode cMo_sent 154 = .ok (.istore 5, 2) := by decide +kernel
theorem dMo_sent_156 : decode cMo_sent 156 = .ok (.iload 4, 2) := by decide +kernel
theorem dMo_sent_158 : decode cMo_sent 158 = .ok (.iload_n 1, 1) := by decide +kernel
theorem dMo_sent_159 : decode cMo_sent 159 = .ok (.if_icmp .ge 52, 3) := by decide +kernel
theorem dMo_sent_162 : decode cMo_sent 162 = .ok (.aload_n 0, 1) := by decide +kernel
theorem dMo_sent_163 : decode cMo_sent 163 = .ok (.getfield 13, 3) := by decide +kernel
theorem dMo_sent_166 : decode cMo_sent 166 = .ok (.iload 4, 2) := by decide +kernel
theorem dMo_sent_168 : decode cMo_sent 168 = .ok (.iaload, 1) := by decide +kernel
theorem dMo_sent_169 : decode cMo_sent 169 = .ok (.invokestatic 112, 3) := by decide +kernel
theorem dMo_sent_172 : decode cMo_sent 172 = .ok (.ifCond .eq 39, 3) := by decide +kernel
theorem dMo_sent_175 : decode cMo_sent 175 = .ok (.iload 4, 2) := by decide +kernel
theorem dMo_sent_177 : decode cMo_sent 177 = .ok (.iload_n 2, 1) := by decide +kernel
theorem dMo_sent_178 : decode cMo_sent 178 = .ok (.bipush 15, 2) := by decide +kernel
theorem dMo_sent_180 : decode cMo_sent 180 = .ok (.iadd, 1) := by decide +kernel
theorem dMo_sent_181 : decode cMo_sent 181 = .ok (.if_icmp .ge 30, 3) := by decide +kernel
theorem dMo_sent_184 : decode cMo_sent 184 = .ok (.bipush 10, 2) := by decide +kernel
theorem dMo_sent_186 : decode cMo_sent 186 = .ok (.iload 5, 2) := by decide +kernel
theorem dMo_sent_188 : decode cMo_sent 188 = .ok (.imul, 1) := by decide +kernel
theorem dMo_sent_189 : decode cMo_sent 189 = .ok (.aload_n 0, 1) := by decide +kernel
theorem dMo_sent_190 : decode cMo_sent 190 = .ok (.getfield 13, 3) := by decide +kernel
theorem dMo_sent_193 : decode cMo_sent 193 = .ok (.iload 4, 2) := by decide +kernel
theorem dMo_sent_195 : decode cMo_sent 195 = .ok (.iaload, 1) := by decide +kernel
theorem dMo_sent_196 : decode cMo_sent 196 = .ok (.iadd, 1) := by decide +kernel
theorem dMo_sent_197 : decode cMo_sent 197 = .ok (.bipush 48, 2) := by decide +kernel
theorem dMo_sent_199 : decode cMo_sent 199 = .ok (.isub, 1) := by decide +kernel
theorem dMo_sent_200 : decode cMo_sent 200 = .ok (.istore 5, 2) := by decide +kernel
theorem dMo_sent_202 : decode cMo_sent 202 = .ok (.iload 4, 2) := by decide +kernel
theorem dMo_sent_204 : decode cMo_sent 204 = .ok (.iconst 1, 1) := by decide +kernel
theorem dMo_sent_205 : decode cMo_sent 205 = .ok (.iadd, 1) := by decide +kernel
theorem dMo_sent_206 : decode cMo_sent 206 = .ok (.istore 4, 2) := by decide +kernel
theorem dMo_sent_208 : decode cMo_sent 208 = .ok (.goto (-52), 3) := by decide +kernel
theorem dMo_sent_211 : decode cMo_sent 211 = .ok (.iload_n 3, 1) := by decide +kernel
theorem dMo_sent_212 : decode cMo_sent 212 = .ok (.ifCond .ne 11, 3) := by decide +kernel
theorem dMo_sent_215 : decode cMo_sent 215 = .ok (.iload 5, 2) := by decide +kernel
theorem dMo_sent_217 : decode cMo_sent 217 = .ok (.sipush 200, 3) := by decide +kernel
theorem dMo_sent_220 : decode cMo_sent 220 = .ok (.if_icmp .le 7, 3) := by decide +kernel
theorem dMo_sent_223 : decode cMo_sent 223 = .ok (.iconst 1, 1) := by decide +kernel
theorem dMo_sent_224 : decode cMo_sent 224 = .ok (.goto 4, 3) := by decide +kernel
theorem dMo_sent_227 : decode cMo_sent 227 = .ok (.iconst 0, 1) := by decide +kernel
theorem dMo_sent_228 : decode cMo_sent 228 = .ok (.istore_n 3, 1) := by decide +kernel
theorem dMo_sent_229 : decode cMo_sent 229 = .ok (.iload 4, 2) := by decide +kernel
theorem dMo_sent_231 : decode cMo_sent 231 = .ok (.iload_n 2, 1) := by decide +kernel
theorem dMo_sent_232 : decode cMo_sent 232 = .ok (.bipush 6, 2) := by decide +kernel
theorem dMo_sent_234 : decode cMo_sent 234 = .ok (.iadd, 1) := by decide +kernel
theorem dMo_sent_235 : decode cMo_sent 235 = .ok (.if_icmp .ne 7, 3) := by decide +kernel
theorem dMo_sent_238 : decode cMo_sent 238 = .ok (.iconst (-1), 1) := by decide +kernel
theorem dMo_sent_239 : decode cMo_sent 239 = .ok (.goto 5, 3) := by decide +kernel
theorem dMo_sent_242 : decode cMo_sent 242 = .ok (.iload 4, 2) := by decide +kernel
theorem dMo_sent_244 : decode cMo_sent 244 = .ok (.istore_n 2, 1) := by decide +kernel
theorem dMo_sent_245 : decode cMo_sent 245 = .ok (.goto (-160), 3) := by decide +kernel
theorem dMo_sent_248 : decode cMo_sent 248 = .ok (.iconst (-1), 1) := by decide +kernel
theorem dMo_sent_249 : decode cMo_sent 249 = .ok (.istore_n 2, 1) := by decide +kernel
theorem dMo_sent_250 : decode cMo_sent 250 = .ok (.goto (-165), 3) := by decide +kernel
theorem dMo_sent_253 : decode cMo_sent 253 = .ok (.iload_n 2, 1) := by decide +kernel
theorem dMo_sent_254 : decode cMo_sent 254 = .ok (.ifCond .ge 10, 3) := by decide +kernel
theorem dMo_sent_257 : decode cMo_sent 257 = .ok (.aload_n 0, 1) := by decide +kernel
theorem dMo_sent_258 : decode cMo_sent 258 = .ok (.invokevirtual 178, 3) := by decide +kernel
theorem dMo_sent_261 : decode cMo_sent 261 = .ok (.goto 113, 3) := by decide +kernel
theorem dMo_sent_264 : decode cMo_sent 264 = .ok (.aload_n 0, 1) := by decide +kernel
theorem dMo_sent_265 : decode cMo_sent 265 = .ok (.getfield 135, 3) := by decide +kernel
theorem dMo_sent_268 : decode cMo_sent 268 = .ok (.ifCond .eq 10, 3) := by decide +kernel
theorem dMo_sent_271 : decode cMo_sent 271 = .ok (.aload_n 0, 1) := by decide +kernel
theorem dMo_sent_272 : decode cMo_sent 272 = .ok (.invokevirtual 166, 3) := by decide +kernel
theorem dMo_sent_275 : decode cMo_sent 275 = .ok (.goto 99, 3) := by decide +kernel
theorem dMo_sent_278 : decode cMo_sent 278 = .ok (.iload_n 3, 1) := by decide +kernel
theorem dMo_sent_279 : decode cMo_sent 279 = .ok (.ifCond .eq 19, 3) := by decide +kernel
theorem dMo_sent_282 : decode cMo_sent 282 = .ok (.aload_n 0, 1) := by decide +kernel
theorem dMo_sent_283 : decode cMo_sent 283 = .ok (.ldc2_w 203, 3) := by decide +kernel
theorem dMo_sent_286 : decode cMo_sent 286 = .ok (.bipush 7, 2) := by decide +kernel
theorem dMo_sent_288 : decode cMo_sent 288 = .ok (.invokevirtual 60, 3) := by decide +kernel
theorem dMo_sent_291 : decode cMo_sent 291 = .ok (.aload_n 0, 1) := by decide +kernel
theorem dMo_sent_292 : decode cMo_sent 292 = .ok (.invokevirtual 66, 3) := by decide +kernel
theorem dMo_sent_295 : decode cMo_sent 295 = .ok (.goto 79, 3) := by decide +kernel
theorem dMo_sent_298 : decode cMo_sent 298 = .ok (.aload_n 0, 1) := by decide +kernel
theorem dMo_sent_299 : decode cMo_sent 299 = .ok (.iconst 1, 1) := by decide +kernel
theorem dMo_sent_300 : decode cMo_sent 300 = .ok (.putfield 135, 3) := by decide +kernel
theorem dMo_sent_303 : decode cMo_sent 303 = .ok (.aload_n 0, 1) := by decide +kernel
theorem dMo_sent_304 : decode cMo_sent 304 = .ok (.aload_n 0, 1) := by decide +kernel
theorem dMo_sent_305 : decode cMo_sent 305 = .ok (.getfield 132, 3) := by decide +kernel
theorem dMo_sent_308 : decode cMo_sent 308 = .ok (.aload_n 0, 1) := by decide +kernel
theorem dMo_sent_309 : decode cMo_sent 309 = .ok (.getfield 122, 3) := by decide +kernel
theorem dMo_sent_312 : decode cMo_sent 312 = .ok (.isub, 1) := by decide +kernel
theorem dMo_sent_313 : decode cMo_sent 313 = .ok (.putfield 205, 3) := by decide +kernel
theorem dMo_sent_316 : decode cMo_sent 316 = .ok (.iconst 0, 1) := by decide +kernel
theorem dMo_sent_317 : decode cMo_sent 317 = .ok (.istore 4, 2) := by decide +kernel
theorem dMo_sent_319 : decode cMo_sent 319 = .ok (.iload 4, 2) := by decide +kernel
theorem dMo_sent_321 : decode cMo_sent 321 = .ok (.aload_n 0, 1) := by decide +kernel
theorem dMo_sent_322 : decode cMo_sent 322 = .ok (.getfield 205, 3) := by decide +kernel
theorem dMo_sent_325 : decode cMo_sent 325 = .ok (.if_icmp .ge 28, 3) := by decide +kernel
theorem dMo_sent_328 : decode cMo_sent 328 = .ok (.aload_n 0, 1) := by decide +kernel
theorem dMo_sent_329 : decode cMo_sent 329 = .ok (.getfield 17, 3) := by decide +kernel
theorem dMo_sent_332 : decode cMo_sent 332 = .ok (.iload 4, 2) := by decide +kernel
theorem dMo_sent_334 : decode cMo_sent 334 = .ok (.aload_n 0, 1) := by decide +kernel
theorem dMo_sent_335 : decode cMo_sent 335 = .ok (.getfield 13, 3) := by decide +kernel
theorem dMo_sent_338 : decode cMo_sent 338 = .ok (.aload_n 0, 1) := by decide +kernel
theorem dMo_sent_339 : decode cMo_sent 339 = .ok (.getfield 122, 3) := by decide +kernel
theorem dMo_sent_342 : decode cMo_sent 342 = .ok (.iload 4, 2) := by decide +kernel
theorem dMo_sent_344 : decode cMo_sent 344 = .ok (.iadd, 1) := by decide +kernel
theorem dMo_sent_345 : decode cMo_sent 345 = .ok (.iaload, 1) := by decide +kernel
theorem dMo_sent_346 : decode cMo_sent 346 = .ok (.iastore, 1) := by decide +kernel
theorem dMo_sent_347 : decode cMo_sent 347 = .ok (.iinc 4 1, 3) := by decide +kernel
theorem dMo_sent_350 : decode cMo_sent 350 = .ok (.goto (-31), 3) := by decide +kernel
theorem dMo_sent_353 : decode cMo_sent 353 = .ok (.aload_n 0, 1) := by decide +kernel
theorem dMo_sent_354 : decode cMo_sent 354 = .ok (.ldc2_w 208, 3) := by decide +kernel
theorem dMo_sent_357 : decode cMo_sent 357 = .ok (.bipush 8, 2) := by decide +kernel
theorem dMo_sent_359 : decode cMo_sent 359 = .ok (.invokevirtual 60, 3) := by decide +kernel
theorem dMo_sent_362 : decode cMo_sent 362 = .ok (.aload_n 0, 1) := by decide +kernel
theorem dMo_sent_363 : decode cMo_sent 363 = .ok (.ldc2_w 210, 3) := by decide +kernel
theorem dMo_sent_366 : decode cMo_sent 366 = .ok (.iconst 2, 1) := by decide +kernel
theorem dMo_sent_367 : decode cMo_sent 367 = .ok (.invokevirtual 60, 3) := by decide +kernel
theorem dMo_sent_370 : decode cMo_sent 370 = .ok (.aload_n 0, 1) := by decide +kernel
theorem dMo_sent_371 : decode cMo_sent 371 = .ok (.invokevirtual 66, 3) := by decide +kernel
theorem dMo_sent_374 : decode cMo_sent 374 = .ok (.return_, 1) := by decide +kernel
theorem dMo_path_0 : decode cMo_path 0 = .ok (.iload_n 1, 1) := by decide +kernel
theorem dMo_path_1 : decode cMo_path 1 = .ok (.iload_n 2, 1) := by decide +kernel
theorem dMo_path_2 : decode cMo_path 2 = .ok (.if_icmp .ge 14, 3) := by decide +kernel
theorem dMo_path_5 : decode cMo_path 5 = .ok (.aload_n 0, 1) := by decide +kernel
theorem dMo_path_6 : decode cMo_path 6 = .ok (.getfield 13, 3) := by decide +kernel
theorem dMo_path_9 : decode cMo_path 9 = .ok (.iload_n 1, 1) := by decide +kernel
theorem dMo_path_10 : decode cMo_path 10 = .ok (.iaload, 1) := by decide +kernel
theorem dMo_path_11 : decode cMo_path 11 = .ok (.bipush 60, 2) := by decide +kernel
theorem dMo_path_13 : decode cMo_path 13 = .ok (.if_icmp .eq 5, 3) := by decide +kernel
theorem dMo_path_16 : decode cMo_path 16 = .ok (.iconst (-1), 1) := by decide +kernel
theorem dMo_path_17 : decode cMo_path 17 = .ok (.ireturn, 1) := by decide +kernel
theorem dMo_path_18 : decode cMo_path 18 = .ok (.aload_n 0, 1) := by decide +kernel
theorem dMo_path_19 : decode cMo_path 19 = .ok (.iload_n 1, 1) := by decide +kernel
theorem dMo_path_20 : decode cMo_path 20 = .ok (.iconst 1, 1) := by decide +kernel
theorem dMo_path_21 : decode cMo_path 21 = .ok (.iadd, 1) := by decide +kernel
theorem dMo_path_22 : decode cMo_path 22 = .ok (.putfield 122, 3) := by decide +kernel
theorem dMo_path_25 : decode cMo_path 25 = .ok (.aload_n 0, 1) := by decide +kernel
theorem dMo_path_26 : decode cMo_path 26 = .ok (.aload_n 0, 1) := by decide +kernel
theorem dMo_path_27 : decode cMo_path 27 = .ok (.aload_n 0, 1) := by decide +kernel
theorem dMo_path_28 : decode cMo_path 28 = .ok (.getfield 122, 3) := by decide +kernel
theorem dMo_path_31 : decode cMo_path 31 = .ok (.iload_n 2, 1) := by decide +kernel
theorem dMo_path_32 : decode cMo_path 32 = .ok (.bipush 40, 2) := by decide +kernel
theorem dMo_path_34 : decode cMo_path 34 = .ok (.iconst 1, 1) := by decide +kernel
theorem dMo_path_35 : decode cMo_path 35 = .ok (.invokevirtual 125, 3) := by decide +kernel
theorem dMo_path_38 : decode cMo_path 38 = .ok (.putfield 129, 3) := by decide +kernel
theorem dMo_path_41 : decode cMo_path 41 = .ok (.aload_n 0, 1) := by decide +kernel
theorem dMo_path_42 : decode cMo_path 42 = .ok (.getfield 129, 3) := by decide +kernel
theorem dMo_path_45 : decode cMo_path 45 = .ok (.ifCond .lt 25, 3) := by decide +kernel
theorem dMo_path_48 : decode cMo_path 48 = .ok (.aload_n 0, 1) := by decide +kernel
theorem dMo_path_49 : decode cMo_path 49 = .ok (.getfield 129, 3) := by decide +kernel
theorem dMo_path_52 : decode cMo_path 52 = .ok (.iload_n 2, 1) := by decide +kernel
theorem dMo_path_53 : decode cMo_path 53 = .ok (.if_icmp .ge 17, 3) := by decide +kernel
theorem dMo_path_56 : decode cMo_path 56 = .ok (.aload_n 0, 1) := by decide +kernel
theorem dMo_path_57 : decode cMo_path 57 = .ok (.getfield 13, 3) := by decide +kernel
theorem dMo_path_60 : decode cMo_path 60 = .ok (.aload_n 0, 1) := by decide +kernel
theorem dMo_path_61 : decode cMo_path 61 = .ok (.getfield 129, 3) := by decide +kernel
theorem dMo_path_64 : decode cMo_path 64 = .ok (.iaload, 1) := by decide +kernel
theorem dMo_path_65 : decode cMo_path 65 = .ok (.bipush 64, 2) := by decide +kernel
theorem dMo_path_67 : decode cMo_path 67 = .ok (.if_icmp .eq 5, 3) := by decide +kernel
theorem dMo_path_70 : decode cMo_path 70 = .ok (.iconst (-1), 1) := by decide +kernel
theorem dMo_path_71 : decode cMo_path 71 = .ok (.ireturn, 1) := by decide +kernel
theorem dMo_path_72 : decode cMo_path 72 = .ok (.aload_n 0, 1) := by decide +kernel
theorem dMo_path_73 : decode cMo_path 73 = .ok (.aload_n 0, 1) := by decide +kernel
theorem dMo_path_74 : decode cMo_path 74 = .ok (.aload_n 0, 1) := by decide +kernel
theorem dMo_path_75 : decode cMo_path 75 = .ok (.getfield 129, 3) := by decide +kernel
theorem dMo_path_78 : decode cMo_path 78 = .ok (.iconst 1, 1) := by decide +kernel
theorem dMo_path_79 : decode cMo_path 79 = .ok (.iadd, 1) := by decide +kernel
theorem dMo_path_80 : decode cMo_path 80 = .ok (.iload_n 2, 1) := by decide +kernel
theorem dMo_path_81 : decode cMo_path 81 = .ok (.bipush 60, 2) := by decide +kernel
theorem dMo_path_83 : decode cMo_path 83 = .ok (.iconst 0, 1) := by decide +kernel
theorem dMo_path_84 : decode cMo_path 84 = .ok (.invokevirtual 125, 3) := by decide +kernel
theorem dMo_path_87 : decode cMo_path 87 = .ok (.putfield 132, 3) := by decide +kernel
theorem dMo_path_90 : decode cMo_path 90 = .ok (.aload_n 0, 1) := by decide +kernel
theorem dMo_path_91 : decode cMo_path 91 = .ok (.getfield 132, 3) := by decide +kernel
theorem dMo_path_94 : decode cMo_path 94 = .ok (.ifCond .lt 25, 3) := by decide +kernel
theorem dMo_path_97 : decode cMo_path 97 = .ok (.aload_n 0, 1) := by decide +kernel
theorem dMo_path_98 : decode cMo_path 98 = .ok (.getfield 132, 3) := by decide +kernel
theorem dMo_path_101 : decode cMo_path 101 = .ok (.iload_n 2, 1) := by decide +kernel
theorem dMo_path_102 : decode cMo_path 102 = .ok (.if_icmp .ge 17, 3) := by decide +kernel
theorem dMo_path_105 : decode cMo_path 105 = .ok (.aload_n 0, 1) := by decide +kernel
theorem dMo_path_106 : decode cMo_path 106 = .ok (.getfield 13, 3) := by decide +kernel
theorem dMo_path_109 : decode cMo_path 109 = .ok (.aload_n 0, 1) := by decide +kernel
theorem dMo_path_110 : decode cMo_path 110 = .ok (.getfield 132, 3) := by decide +kernel
theorem dMo_path_113 : decode cMo_path 113 = .ok (.iaload, 1) := by decide +kernel
theorem dMo_path_114 : decode cMo_path 114 = .ok (.bipush 62, 2) := by decide +kernel
theorem dMo_path_116 : decode cMo_path 116 = .ok (.if_icmp .eq 7, 3) := by decide +kernel
theorem dMo_path_119 : decode cMo_path 119 = .ok (.iconst (-1), 1) := by decide +kernel
theorem dMo_path_120 : decode cMo_path 120 = .ok (.goto 9, 3) := by decide +kernel
theorem dMo_path_123 : decode cMo_path 123 = .ok (.aload_n 0, 1) := by decide +kernel
theorem dMo_path_124 : decode cMo_path 124 = .ok (.getfield 132, 3) := by decide +kernel
theorem dMo_path_127 : decode cMo_path 127 = .ok (.iconst 1, 1) := by decide +kernel
theorem dMo_path_128 : decode cMo_path 128 = .ok (.iadd, 1) := by decide +kernel
theorem dMo_path_129 : decode cMo_path 129 = .ok (.ireturn, 1) := by decide +kernel
theorem dMo_received_0 : decode cMo_received 0 = .ok (.aload_n 0, 1) := by decide +kernel
theorem dMo_received_1 : decode cMo_received 1 = .ok (.iconst 0, 1) := by decide +kernel
theorem dMo_received_2 : decode cMo_received 2 = .ok (.ldc2_w 212, 3) := by decide +kernel
theorem dMo_received_5 : decode cMo_received 5 = .ok (.bipush 8, 2) := by decide +kernel
theorem dMo_received_7 : decode cMo_received 7 = .ok (.iload_n 1, 1) := by decide +kernel
theorem dMo_received_8 : decode cMo_received 8 = .ok (.invokevirtual 143, 3) := by decide +kernel
theorem dMo_received_11 : decode cMo_received 11 = .ok (.ifCond .eq 18, 3) := by decide +kernel
theorem dMo_received_14 : decode cMo_received 14 = .ok (.aload_n 0, 1) := by decide +kernel
theorem dMo_received_15 : decode cMo_received 15 = .ok (.bipush 8, 2) := by decide +kernel
theorem dMo_received_17 : decode cMo_received 17 = .ok (.iload_n 1, 1) := by decide +kernel
theorem dMo_received_18 : decode cMo_received 18 = .ok (.invokevirtual 193, 3) := by decide +kernel
theorem dMo_received_21 : decode cMo_received 21 = .ok (.iload_n 1, 1) := by decide +kernel
theorem dMo_received_22 : decode cMo_received 22 = .ok (.if_icmp .ne 7, 3) := by decide +kernel
theorem dMo_received_25 : decode cMo_received 25 = .ok (.iconst 1, 1) := by decide +kernel
theorem dMo_received_26 : decode cMo_received 26 = .ok (.goto 4, 3) := by decide +kernel
theorem dMo_received_29 : decode cMo_received 29 = .ok (.iconst 0, 1) := by decide +kernel
theorem dMo_received_30 : decode cMo_received 30 = .ok (.istore_n 2, 1) := by decide +kernel
theorem dMo_received_31 : decode cMo_received 31 = .ok (.iload_n 2, 1) := by decide +kernel
theorem dMo_received_32 : decode cMo_received 32 = .ok (.ifCond .ne 10, 3) := by decide +kernel
theorem dMo_received_35 : decode cMo_received 35 = .ok (.aload_n 0, 1) := by decide +kernel
theorem dMo_received_36 : decode cMo_received 36 = .ok (.invokevirtual 178, 3) := by decide +kernel
theorem dMo_received_39 : decode cMo_received 39 = .ok (.goto 195, 3) := by decide +kernel
theorem dMo_received_42 : decode cMo_received 42 = .ok (.aload_n 0, 1) := by decide +kernel
theorem dMo_received_43 : decode cMo_received 43 = .ok (.getfield 135, 3) := by decide +kernel
theorem dMo_received_46 : decode cMo_received 46 = .ok (.ifCond .ne 10, 3) := by decide +kernel
theorem dMo_received_49 : decode cMo_received 49 = .ok (.aload_n 0, 1) := by decide +kernel
theorem dMo_received_50 : decode cMo_received 50 = .ok (.invokevirtual 166, 3) := by decide +kernel
theorem dMo_received_53 : decode cMo_received 53 = .ok (.goto 181, 3) := by decide +kernel
theorem dMo_received_56 : decode cMo_received 56 = .ok (.aload_n 0, 1) := by decide +kernel
theorem dMo_received_57 : decode cMo_received 57 = .ok (.getfield 129, 3) := by decide +kernel
theorem dMo_received_60 : decode cMo_received 60 = .ok (.aload_n 0, 1) := by decide +kernel
theorem dMo_received_61 : decode cMo_received 61 = .ok (.getfield 122, 3) := by decide +kernel
theorem dMo_received_64 : decode cMo_received 64 = .ok (.isub, 1) := by decide +kernel
theorem dMo_received_65 : decode cMo_received 65 = .ok (.bipush 8, 2) := by decide +kernel
theorem dMo_received_67 : decode cMo_received 67 = .ok (.if_icmp .gt 32, 3) := by decide +kernel
theorem dMo_received_70 : decode cMo_received 70 = .ok (.aload_n 0, 1) := by decide +kernel
theorem dMo_received_71 : decode cMo_received 71 = .ok (.getfield 132, 3) := by decide +kernel
theorem dMo_received_74 : decode cMo_received 74 = .ok (.aload_n 0, 1) := by decide +kernel
theorem dMo_received_75 : decode cMo_received 75 = .ok (.getfield 129, 3) := by decide +kernel
theorem dMo_received_78 : decode cMo_received 78 = .ok (.isub, 1) := by decide +kernel
theorem dMo_received_79 : decode cMo_received 79 = .ok (.iconst 5, 1) := by decide +kernel
theorem dMo_received_80 : decode cMo_received 80 = .ok (.if_icmp .ne 19, 3) := by decide +kernel
theorem dMo_received_83 : decode cMo_received 83 = .ok (.aload_n 0, 1) := by decide +kernel
theorem dMo_received_84 : decode cMo_received 84 = .ok (.aload_n 0, 1) := by decide +kernel
theorem dMo_received_85 : decode cMo_received 85 = .ok (.getfield 129, 3) := by decide +kernel
theorem dMo_received_88 : decode cMo_received 88 = .ok (.ldc2_w 214, 3) := by decide +kernel
theorem dMo_received_91 : decode cMo_received 91 = .ok (.iconst 5, 1) := by decide +kernel
theorem dMo_received_92 : decode cMo_received 92 = .ok (.iload_n 1, 1) := by decide +kernel
theorem dMo_received_93 : decode cMo_received 93 = .ok (.invokevirtual 143, 3) := by decide +kernel
theorem dMo_received_96 : decode cMo_received 96 = .ok (.ifCond .ne 19, 3) := by decide +kernel
theorem dMo_received_99 : decode cMo_received 99 = .ok (.aload_n 0, 1) := by decide +kernel
theorem dMo_received_100 : decode cMo_received 100 = .ok (.ldc2_w 216, 3) := by decide +kernel
theorem dMo_received_103 : decode cMo_received 103 = .ok (.bipush 8, 2) := by decide +kernel
theorem dMo_received_105 : decode cMo_received 105 = .ok (.invokevirtual 60, 3) := by decide +kernel
theorem dMo_received_108 : decode cMo_received 108 = .ok (.aload_n 0, 1) := by decide +kernel
theorem dMo_received_109 : decode cMo_received 109 = .ok (.invokevirtual 66, 3) := by decide +kernel
theorem dMo_received_112 : decode cMo_received 112 = .ok (.goto 122, 3) := by decide +kernel
theorem dMo_received_115 : decode cMo_received 115 = .ok (.aload_n 0, 1) := by decide +kernel
theorem dMo_received_116 : decode cMo_received 116 = .ok (.getfield 138, 3) := by decide +kernel
theorem dMo_received_119 : decode cMo_received 119 = .ok (.iconst 4, 1) := by decide +kernel
theorem dMo_received_120 : decode cMo_received 120 = .ok (.if_icmp .ne 19, 3) := by decide +kernel
theorem dMo_received_123 : decode cMo_received 123 = .ok (.aload_n 0, 1) := by decide +kernel
theorem dMo_received_124 : decode cMo_received 124 = .ok (.ldc2_w 218, 3) := by decide +kernel
theorem dMo_received_127 : decode cMo_received 127 = .ok (.bipush 8, 2) := by decide +kernel
theorem dMo_received_129 : decode cMo_received 129 = .ok (.invokevirtual 60, 3) := by decide +kernel
theorem dMo_received_132 : decode cMo_received 132 = .ok (.aload_n 0, 1) := by decide +kernel
theorem dMo_received_133 : decode cMo_received 133 = .ok (.invokevirtual 66, 3) := by decide +kernel
theorem dMo_received_136 : decode cMo_received 136 = .ok (.goto 98, 3) := by decide +kernel
theorem dMo_received_139 : decode cMo_received 139 = .ok (.aload_n 0, 1) := by decide +kernel
theorem dMo_received_140 : decode cMo_received 140 = .ok (.getfield 23, 3) := by decide +kernel
theorem dMo_received_143 : decode cMo_received 143 = .ok (.aload_n 0, 1) := by decide +kernel
theorem dMo_received_144 : decode cMo_received 144 = .ok (.getfield 138, 3) := by decide +kernel
theorem dMo_received_147 : decode cMo_received 147 = .ok (.aload_n 0, 1) := by decide +kernel
theorem dMo_received_148 : decode cMo_received 148 = .ok (.getfield 132, 3) := by decide +kernel
theorem dMo_received_151 : decode cMo_received 151 = .ok (.aload_n 0, 1) := by decide +kernel
theorem dMo_received_152 : decode cMo_received 152 = .ok (.getfield 122, 3) := by decide +kernel
theorem dMo_received_155 : decode cMo_received 155 = .ok (.isub, 1) := by decide +kernel
theorem dMo_received_156 : decode cMo_received 156 = .ok (.iastore, 1) := by decide +kernel
theorem dMo_received_157 : decode cMo_received 157 = .ok (.iconst 0, 1) := by decide +kernel
theorem dMo_received_158 : decode cMo_received 158 = .ok (.istore_n 3, 1) := by decide +kernel
theorem dMo_received_159 : decode cMo_received 159 = .ok (.iload_n 3, 1) := by decide +kernel
theorem dMo_received_160 : decode cMo_received 160 = .ok (.aload_n 0, 1) := by decide +kernel
theorem dMo_received_161 : decode cMo_received 161 = .ok (.getfield 132, 3) := by decide +kernel
theorem dMo_received_164 : decode cMo_received 164 = .ok (.aload_n 0, 1) := by decide +kernel
theorem dMo_received_165 : decode cMo_received 165 = .ok (.getfield 122, 3) := by decide +kernel
theorem dMo_received_168 : decode cMo_received 168 = .ok (.isub, 1) := by decide +kernel
theorem dMo_received_169 : decode cMo_received 169 = .ok (.if_icmp .ge 34, 3) := by decide +kernel
theorem dMo_received_172 : decode cMo_received 172 = .ok (.aload_n 0, 1) := by decide +kernel
theorem dMo_received_173 : decode cMo_received 173 = .ok (.getfield 20, 3) := by decide +kernel
theorem dMo_received_176 : decode cMo_received 176 = .ok (.bipush 110, 2) := by decide +kernel
theorem dMo_received_178 : decode cMo_received 178 = .ok (.aload_n 0, 1) := by decide +kernel
theorem dMo_received_179 : decode cMo_received 179 = .ok (.getfield 138, 3) := by decide +kernel
theorem dMo_received_182 : decode cMo_received 182 = .ok (.imul, 1) := by decide +kernel
theorem dMo_received_183 : decode cMo_received 183 = .ok (.iload_n 3, 1) := by decide +kernel
theorem dMo_received_184 : decode cMo_received 184 = .ok (.iadd, 1) := by decide +kernel
theorem dMo_received_185 : decode cMo_received 185 = .ok (.aload_n 0, 1) := by decide +kernel
theorem dMo_received_186 : decode cMo_received 186 = .ok (.getfield 13, 3) := by decide +kernel
theorem dMo_received_189 : decode cMo_received 189 = .ok (.aload_n 0, 1) := by decide +kernel
theorem dMo_received_190 : decode cMo_received 190 = .ok (.getfield 122, 3) := by decide +kernel
theorem dMo_received_193 : decode cMo_received 193 = .ok (.iload_n 3, 1) := by decide +kernel
theorem dMo_received_194 : decode cMo_received 194 = .ok (.iadd, 1) := by decide +kernel
theorem dMo_received_195 : decode cMo_received 195 = .ok (.iaload, 1) := by decide +kernel
theorem dMo_received_196 : decode cMo_received 196 = .ok (.iastore, 1) := by decide +kernel
theorem dMo_received_197 : decode cMo_received 197 = .ok (.iinc 3 1, 3) := by decide +kernel
theorem dMo_received_200 : decode cMo_received 200 = .ok (.goto (-41), 3) := by decide +kernel
theorem dMo_received_203 : decode cMo_received 203 = .ok (.aload_n 0, 1) := by decide +kernel
theorem dMo_received_204 : decode cMo_received 204 = .ok (.aload_n 0, 1) := by decide +kernel
theorem dMo_received_205 : decode cMo_received 205 = .ok (.getfield 138, 3) := by decide +kernel
theorem dMo_received_208 : decode cMo_received 208 = .ok (.iconst 1, 1) := by decide +kernel
theorem dMo_received_209 : decode cMo_received 209 = .ok (.iadd, 1) := by decide +kernel
theorem dMo_received_210 : decode cMo_received 210 = .ok (.putfield 138, 3) := by decide +kernel
theorem dMo_received_213 : decode cMo_received 213 = .ok (.aload_n 0, 1) := by decide +kernel
theorem dMo_received_214 : decode cMo_received 214 = .ok (.ldc2_w 220, 3) := by decide +kernel
theorem dMo_received_217 : decode cMo_received 217 = .ok (.bipush 8, 2) := by decide +kernel
theorem dMo_received_219 : decode cMo_received 219 = .ok (.invokevirtual 60, 3) := by decide +kernel
theorem dMo_received_222 : decode cMo_received 222 = .ok (.aload_n 0, 1) := by decide +kernel
theorem dMo_received_223 : decode cMo_received 223 = .ok (.ldc2_w 222, 3) := by decide +kernel
theorem dMo_received_226 : decode cMo_received 226 = .ok (.iconst 5, 1) := by decide +kernel
theorem dMo_received_227 : decode cMo_received 227 = .ok (.invokevirtual 60, 3) := by decide +kernel
theorem dMo_received_230 : decode cMo_received 230 = .ok (.aload_n 0, 1) := by decide +kernel
theorem dMo_received_231 : decode cMo_received 231 = .ok (.invokevirtual 66, 3) := by decide +kernel
theorem dMo_received_234 : decode cMo_received 234 = .ok (.return_, 1) := by decide +kernel
theorem dMo_plain_0 : decode cMo_plain 0 = .ok (.iload_n 1, 1) := by decide +kernel
theorem dMo_plain_1 : decode cMo_plain 1 = .ok (.iconst 3, 1) := by decide +kernel
theorem dMo_plain_2 : decode cMo_plain 2 = .ok (.if_icmp .ne 15, 3) := by decide +kernel
theorem dMo_plain_5 : decode cMo_plain 5 = .ok (.aload_n 0, 1) := by decide +kernel
theorem dMo_plain_6 : decode cMo_plain 6 = .ok (.getfield 138, 3) := by decide +kernel
theorem dMo_plain_9 : decode cMo_plain 9 = .ok (.ifCond .ne 8, 3) := by decide +kernel
theorem dMo_plain_12 : decode cMo_plain 12 = .ok (.aload_n 0, 1) := by decide +kernel
theorem dMo_plain_13 : decode cMo_plain 13 = .ok (.invokevirtual 166, 3) := by decide +kernel
theorem dMo_plain_16 : decode cMo_plain 16 = .ok (.return_, 1) := by decide +kernel
theorem dMo_plain_17 : decode cMo_plain 17 = .ok (.iload_n 1, 1) := by decide +kernel
theorem dMo_plain_18 : decode cMo_plain 18 = .ok (.iconst 3, 1) := by decide +kernel
theorem dMo_plain_19 : decode cMo_plain 19 = .ok (.if_icmp .ne 25, 3) := by decide +kernel
theorem dMo_plain_22 : decode cMo_plain 22 = .ok (.aload_n 0, 1) := by decide +kernel
theorem dMo_plain_23 : decode cMo_plain 23 = .ok (.iconst 1, 1) := by decide +kernel
theorem dMo_plain_24 : decode cMo_plain 24 = .ok (.putfield 82, 3) := by decide +kernel
theorem dMo_plain_27 : decode cMo_plain 27 = .ok (.aload_n 0, 1) := by decide +kernel
theorem dMo_plain_28 : decode cMo_plain 28 = .ok (.iconst 0, 1) := by decide +kernel
theorem dMo_plain_29 : decode cMo_plain 29 = .ok (.putfield 99, 3) := by decide +kernel
theorem dMo_plain_32 : decode cMo_plain 32 = .ok (.aload_n 0, 1) := by decide +kernel
theorem dMo_plain_33 : decode cMo_plain 33 = .ok (.ldc2_w 224, 3) := by decide +kernel
theorem dMo_plain_36 : decode cMo_plain 36 = .ok (.bipush 6, 2) := by decide +kernel
theorem dMo_plain_38 : decode cMo_plain 38 = .ok (.invokevirtual 60, 3) := by decide +kernel
theorem dMo_plain_41 : decode cMo_plain 41 = .ok (.goto 44, 3) := by decide +kernel
theorem dMo_plain_44 : decode cMo_plain 44 = .ok (.iload_n 1, 1) := by decide +kernel
theorem dMo_plain_45 : decode cMo_plain 45 = .ok (.bipush 6, 2) := by decide +kernel
theorem dMo_plain_47 : decode cMo_plain 47 = .ok (.if_icmp .ne 20, 3) := by decide +kernel
theorem dMo_plain_50 : decode cMo_plain 50 = .ok (.aload_n 0, 1) := by decide +kernel
theorem dMo_plain_51 : decode cMo_plain 51 = .ok (.iconst 0, 1) := by decide +kernel
theorem dMo_plain_52 : decode cMo_plain 52 = .ok (.putfield 7, 3) := by decide +kernel
theorem dMo_plain_55 : decode cMo_plain 55 = .ok (.aload_n 0, 1) := by decide +kernel
theorem dMo_plain_56 : decode cMo_plain 56 = .ok (.ldc2_w 226, 3) := by decide +kernel
theorem dMo_plain_59 : decode cMo_plain 59 = .ok (.bipush 7, 2) := by decide +kernel
theorem dMo_plain_61 : decode cMo_plain 61 = .ok (.invokevirtual 60, 3) := by decide +kernel
theorem dMo_plain_64 : decode cMo_plain 64 = .ok (.goto 21, 3) := by decide +kernel
theorem dMo_plain_67 : decode cMo_plain 67 = .ok (.iload_n 1, 1) := by decide +kernel
theorem dMo_plain_68 : decode cMo_plain 68 = .ok (.iconst 4, 1) := by decide +kernel
theorem dMo_plain_69 : decode cMo_plain 69 = .ok (.if_icmp .ne 7, 3) := by decide +kernel
theorem dMo_plain_72 : decode cMo_plain 72 = .ok (.aload_n 0, 1) := by decide +kernel
theorem dMo_plain_73 : decode cMo_plain 73 = .ok (.invokevirtual 184, 3) := by decide +kernel
theorem dMo_plain_76 : decode cMo_plain 76 = .ok (.aload_n 0, 1) := by decide +kernel
theorem dMo_plain_77 : decode cMo_plain 77 = .ok (.ldc2_w 228, 3) := by decide +kernel
theorem dMo_plain_80 : decode cMo_plain 80 = .ok (.bipush 6, 2) := by decide +kernel
theorem dMo_plain_82 : decode cMo_plain 82 = .ok (.invokevirtual 60, 3) := by decide +kernel
theorem dMo_plain_85 : decode cMo_plain 85 = .ok (.aload_n 0, 1) := by decide +kernel
theorem dMo_plain_86 : decode cMo_plain 86 = .ok (.invokevirtual 66, 3) := by decide +kernel
theorem dMo_plain_89 : decode cMo_plain 89 = .ok (.return_, 1) := by decide +kernel
theorem dMo_reply_0 : decode cMo_reply 0 = .ok (.aload_n 0, 1) := by decide +kernel
theorem dMo_reply_1 : decode cMo_reply 1 = .ok (.getfield 50, 3) := by decide +kernel
theorem dMo_reply_4 : decode cMo_reply 4 = .ok (.bipush 7, 2) := by decide +kernel
theorem dMo_reply_6 : decode cMo_reply 6 = .ok (.if_icmp .ge 10, 3) := by decide +kernel
theorem dMo_reply_9 : decode cMo_reply 9 = .ok (.aload_n 0, 1) := by decide +kernel
theorem dMo_reply_10 : decode cMo_reply 10 = .ok (.getfield 50, 3) := by decide +kernel
theorem dMo_reply_13 : decode cMo_reply 13 = .ok (.goto 5, 3) := by decide +kernel
theorem dMo_reply_16 : decode cMo_reply 16 = .ok (.bipush 7, 2) := by decide +kernel
theorem dMo_reply_18 : decode cMo_reply 18 = .ok (.istore_n 1, 1) := by decide +kernel
theorem dMo_reply_19 : decode cMo_reply 19 = .ok (.iload_n 1, 1) := by decide +kernel
theorem dMo_reply_20 : decode cMo_reply 20 = .ok (.ifCond .ne 5, 3) := by decide +kernel
theorem dMo_reply_23 : decode cMo_reply 23 = .ok (.lconst 0, 1) := by decide +kernel
theorem dMo_reply_24 : decode cMo_reply 24 = .ok (.lreturn, 1) := by decide +kernel
theorem dMo_reply_25 : decode cMo_reply 25 = .ok (.iload_n 1, 1) := by decide +kernel
theorem dMo_reply_26 : decode cMo_reply 26 = .ok (.i2l, 1) := by decide +kernel
theorem dMo_reply_27 : decode cMo_reply 27 = .ok (.bipush 56, 2) := by decide +kernel
theorem dMo_reply_29 : decode cMo_reply 29 = .ok (.lshl, 1) := by decide +kernel
theorem dMo_reply_30 : decode cMo_reply 30 = .ok (.lstore_n 2, 1) := by decide +kernel
theorem dMo_reply_31 : decode cMo_reply 31 = .ok (.iconst 0, 1) := by decide +kernel
theorem dMo_reply_32 : decode cMo_reply 32 = .ok (.istore 4, 2) := by decide +kernel
theorem dMo_reply_34 : decode cMo_reply 34 = .ok (.iload 4, 2) := by decide +kernel
theorem dMo_reply_36 : decode cMo_reply 36 = .ok (.iload_n 1, 1) := by decide +kernel
theorem dMo_reply_37 : decode cMo_reply 37 = .ok (.if_icmp .ge 29, 3) := by decide +kernel
theorem dMo_reply_40 : decode cMo_reply 40 = .ok (.lload_n 2, 1) := by decide +kernel
theorem dMo_reply_41 : decode cMo_reply 41 = .ok (.aload_n 0, 1) := by decide +kernel
theorem dMo_reply_42 : decode cMo_reply 42 = .ok (.getfield 26, 3) := by decide +kernel
theorem dMo_reply_45 : decode cMo_reply 45 = .ok (.iload 4, 2) := by decide +kernel
theorem dMo_reply_47 : decode cMo_reply 47 = .ok (.iaload, 1) := by decide +kernel
theorem dMo_reply_48 : decode cMo_reply 48 = .ok (.i2l, 1) := by decide +kernel
theorem dMo_reply_49 : decode cMo_reply 49 = .ok (.bipush 48, 2) := by decide +kernel
theorem dMo_reply_51 : decode cMo_reply 51 = .ok (.bipush 8, 2) := by decide +kernel
theorem dMo_reply_53 : decode cMo_reply 53 = .ok (.iload 4, 2) := by decide +kernel
theorem dMo_reply_55 : decode cMo_reply 55 = .ok (.imul, 1) := by decide +kernel
theorem dMo_reply_56 : decode cMo_reply 56 = .ok (.isub, 1) := by decide +kernel
theorem dMo_reply_57 : decode cMo_reply 57 = .ok (.lshl, 1) := by decide +kernel
theorem dMo_reply_58 : decode cMo_reply 58 = .ok (.lor, 1) := by decide +kernel
theorem dMo_reply_59 : decode cMo_reply 59 = .ok (.lstore_n 2, 1) := by decide +kernel
theorem dMo_reply_60 : decode cMo_reply 60 = .ok (.iinc 4 1, 3) := by decide +kernel
theorem dMo_reply_63 : decode cMo_reply 63 = .ok (.goto (-29), 3) := by decide +kernel
theorem dMo_reply_66 : decode cMo_reply 66 = .ok (.aload_n 0, 1) := by decide +kernel
theorem dMo_reply_67 : decode cMo_reply 67 = .ok (.aload_n 0, 1) := by decide +kernel
theorem dMo_reply_68 : decode cMo_reply 68 = .ok (.getfield 50, 3) := by decide +kernel
theorem dMo_reply_71 : decode cMo_reply 71 = .ok (.iload_n 1, 1) := by decide +kernel
theorem dMo_reply_72 : decode cMo_reply 72 = .ok (.isub, 1) := by decide +kernel
theorem dMo_reply_73 : decode cMo_reply 73 = .ok (.putfield 50, 3) := by decide +kernel
theorem dMo_reply_76 : decode cMo_reply 76 = .ok (.iconst 0, 1) := by decide +kernel
theorem dMo_reply_77 : decode cMo_reply 77 = .ok (.istore 4, 2) := by decide +kernel
theorem dMo_reply_79 : decode cMo_reply 79 = .ok (.iload 4, 2) := by decide +kernel
theorem dMo_reply_81 : decode cMo_reply 81 = .ok (.aload_n 0, 1) := by decide +kernel
theorem dMo_reply_82 : decode cMo_reply 82 = .ok (.getfield 50, 3) := by decide +kernel
theorem dMo_reply_85 : decode cMo_reply 85 = .ok (.if_icmp .ge 25, 3) := by decide +kernel
theorem dMo_reply_88 : decode cMo_reply 88 = .ok (.aload_n 0, 1) := by decide +kernel
theorem dMo_reply_89 : decode cMo_reply 89 = .ok (.getfield 26, 3) := by decide +kernel
theorem dMo_reply_92 : decode cMo_reply 92 = .ok (.iload 4, 2) := by decide +kernel
theorem dMo_reply_94 : decode cMo_reply 94 = .ok (.aload_n 0, 1) := by decide +kernel
theorem dMo_reply_95 : decode cMo_reply 95 = .ok (.getfield 26, 3) := by decide +kernel
theorem dMo_reply_98 : decode cMo_reply 98 = .ok (.iload 4, 2) := by decide +kernel
theorem dMo_reply_100 : decode cMo_reply 100 = .ok (.iload_n 1, 1) := by decide +kernel
theorem dMo_reply_101 : decode cMo_reply 101 = .ok (.iadd, 1) := by decide +kernel
theorem dMo_reply_102 : decode cMo_reply 102 = .ok (.iaload, 1) := by decide +kernel
theorem dMo_reply_103 : decode cMo_reply 103 = .ok (.iastore, 1) := by decide +kernel
theorem dMo_reply_104 : decode cMo_reply 104 = .ok (.iinc 4 1, 3) := by decide +kernel
theorem dMo_reply_107 : decode cMo_reply 107 = .ok (.goto (-28), 3) := by decide +kernel
theorem dMo_reply_110 : decode cMo_reply 110 = .ok (.lload_n 2, 1) := by decide +kernel
theorem dMo_reply_111 : decode cMo_reply 111 = .ok (.lreturn, 1) := by decide +kernel
theorem dMo_open_0 : decode cMo_open 0 = .ok (.aload_n 0, 1) := by decide +kernel
theorem dMo_open_1 : decode cMo_open 1 = .ok (.getfield 7, 3) := by decide +kernel
theorem dMo_open_4 : decode cMo_open 4 = .ok (.istore_n 1, 1) := by decide +kernel
theorem dMo_open_5 : decode cMo_open 5 = .ok (.aload_n 0, 1) := by decide +kernel
theorem dMo_open_6 : decode cMo_open 6 = .ok (.iconst 1, 1) := by decide +kernel
theorem dMo_open_7 : decode cMo_open 7 = .ok (.putfield 7, 3) := by decide +kernel
theorem dMo_open_10 : decode cMo_open 10 = .ok (.aload_n 0, 1) := by decide +kernel
theorem dMo_open_11 : decode cMo_open 11 = .ok (.iconst 0, 1) := by decide +kernel
theorem dMo_open_12 : decode cMo_open 12 = .ok (.putfield 163, 3) := by decide +kernel
theorem dMo_open_15 : decode cMo_open 15 = .ok (.aload_n 0, 1) := by decide +kernel
theorem dMo_open_16 : decode cMo_open 16 = .ok (.iconst 0, 1) := by decide +kernel
theorem dMo_open_17 : decode cMo_open 17 = .ok (.putfield 82, 3) := by decide +kernel
theorem dMo_open_20 : decode cMo_open 20 = .ok (.aload_n 0, 1) := by decide +kernel
theorem dMo_open_21 : decode cMo_open 21 = .ok (.iconst 0, 1) := by decide +kernel
theorem dMo_open_22 : decode cMo_open 22 = .ok (.putfield 76, 3) := by decide +kernel
theorem dMo_open_25 : decode cMo_open 25 = .ok (.aload_n 0, 1) := by decide +kernel
theorem dMo_open_26 : decode cMo_open 26 = .ok (.iconst 0, 1) := by decide +kernel
theorem dMo_open_27 : decode cMo_open 27 = .ok (.putfield 79, 3) := by decide +kernel
theorem dMo_open_30 : decode cMo_open 30 = .ok (.aload_n 0, 1) := by decide +kernel
theorem dMo_open_31 : decode cMo_open 31 = .ok (.invokevirtual 184, 3) := by decide +kernel
theorem dMo_open_34 : decode cMo_open 34 = .ok (.iload_n 1, 1) := by decide +kernel
theorem dMo_open_35 : decode cMo_open 35 = .ok (.ireturn, 1) := by decide +kernel
theorem dMo_message_0 : decode cMo_message 0 = .ok (.aload_n 0, 1) := by decide +kernel
theorem dMo_message_1 : decode cMo_message 1 = .ok (.iload_n 1, 1) := by decide +kernel
theorem dMo_message_2 : decode cMo_message 2 = .ok (.invokevirtual 240, 3) := by decide +kernel
theorem dMo_message_5 : decode cMo_message 5 = .ok (.ifCond .ne 7, 3) := by decide +kernel
theorem dMo_message_8 : decode cMo_message 8 = .ok (.iconst (-1), 1) := by decide +kernel
theorem dMo_message_9 : decode cMo_message 9 = .ok (.goto 59, 3) := by decide +kernel
theorem dMo_message_12 : decode cMo_message 12 = .ok (.iload_n 2, 1) := by decide +kernel
theorem dMo_message_13 : decode cMo_message 13 = .ok (.ifCond .ne 12, 3) := by decide +kernel
theorem dMo_message_16 : decode cMo_message 16 = .ok (.aload_n 0, 1) := by decide +kernel
theorem dMo_message_17 : decode cMo_message 17 = .ok (.getfield 32, 3) := by decide +kernel
theorem dMo_message_20 : decode cMo_message 20 = .ok (.iload_n 1, 1) := by decide +kernel
theorem dMo_message_21 : decode cMo_message 21 = .ok (.iaload, 1) := by decide +kernel
theorem dMo_message_22 : decode cMo_message 22 = .ok (.goto 46, 3) := by decide +kernel
theorem dMo_message_25 : decode cMo_message 25 = .ok (.iload_n 2, 1) := by decide +kernel
theorem dMo_message_26 : decode cMo_message 26 = .ok (.iconst 1, 1) := by decide +kernel
theorem dMo_message_27 : decode cMo_message 27 = .ok (.if_icmp .ne 12, 3) := by decide +kernel
theorem dMo_message_30 : decode cMo_message 30 = .ok (.aload_n 0, 1) := by decide +kernel
theorem dMo_message_31 : decode cMo_message 31 = .ok (.getfield 35, 3) := by decide +kernel
theorem dMo_message_34 : decode cMo_message 34 = .ok (.iload_n 1, 1) := by decide +kernel
theorem dMo_message_35 : decode cMo_message 35 = .ok (.iaload, 1) := by decide +kernel
theorem dMo_message_36 : decode cMo_message 36 = .ok (.goto 32, 3) := by decide +kernel
theorem dMo_message_39 : decode cMo_message 39 = .ok (.iload_n 2, 1) := by decide +kernel
theorem dMo_message_40 : decode cMo_message 40 = .ok (.iconst 2, 1) := by decide +kernel
theorem dMo_message_41 : decode cMo_message 41 = .ok (.if_icmp .ne 12, 3) := by decide +kernel
theorem dMo_message_44 : decode cMo_message 44 = .ok (.aload_n 0, 1) := by decide +kernel
theorem dMo_message_45 : decode cMo_message 45 = .ok (.getfield 41, 3) := by decide +kernel
theorem dMo_message_48 : decode cMo_message 48 = .ok (.iload_n 1, 1) := by decide +kernel
theorem dMo_message_49 : decode cMo_message 49 = .ok (.iaload, 1) := by decide +kernel
theorem dMo_message_50 : decode cMo_message 50 = .ok (.goto 18, 3) := by decide +kernel
theorem dMo_message_53 : decode cMo_message 53 = .ok (.iload_n 2, 1) := by decide +kernel
theorem dMo_message_54 : decode cMo_message 54 = .ok (.iconst 3, 1) := by decide +kernel
theorem dMo_message_55 : decode cMo_message 55 = .ok (.if_icmp .ne 12, 3) := by decide +kernel
theorem dMo_message_58 : decode cMo_message 58 = .ok (.aload_n 0, 1) := by decide +kernel
theorem dMo_message_59 : decode cMo_message 59 = .ok (.getfield 47, 3) := by decide +kernel
theorem dMo_message_62 : decode cMo_message 62 = .ok (.iload_n 1, 1) := by decide +kernel
theorem dMo_message_63 : decode cMo_message 63 = .ok (.iaload, 1) := by decide +kernel
theorem dMo_message_64 : decode cMo_message 64 = .ok (.goto 4, 3) := by decide +kernel
theorem dMo_message_67 : decode cMo_message 67 = .ok (.iconst (-1), 1) := by decide +kernel
theorem dMo_message_68 : decode cMo_message 68 = .ok (.ireturn, 1) := by decide +kernel
theorem dMo_isMessage_0 : decode cMo_isMessage 0 = .ok (.iload_n 1, 1) := by decide +kernel
theorem dMo_isMessage_1 : decode cMo_isMessage 1 = .ok (.ifCond .lt 15, 3) := by decide +kernel
theorem dMo_isMessage_4 : decode cMo_isMessage 4 = .ok (.iload_n 1, 1) := by decide +kernel
theorem dMo_isMessage_5 : decode cMo_isMessage 5 = .ok (.aload_n 0, 1) := by decide +kernel
theorem dMo_isMessage_6 : decode cMo_isMessage 6 = .ok (.getfield 230, 3) := by decide +kernel
theorem dMo_isMessage_9 : decode cMo_isMessage 9 = .ok (.if_icmp .ge 7, 3) := by decide +kernel
theorem dMo_isMessage_12 : decode cMo_isMessage 12 = .ok (.iconst 1, 1) := by decide +kernel
theorem dMo_isMessage_13 : decode cMo_isMessage 13 = .ok (.goto 4, 3) := by decide +kernel
theorem dMo_isMessage_16 : decode cMo_isMessage 16 = .ok (.iconst 0, 1) := by decide +kernel
theorem dMo_isMessage_17 : decode cMo_isMessage 17 = .ok (.ireturn, 1) := by decide +kernel
theorem dMo_bytes_0 : decode cMo_bytes 0 = .ok (.aload_n 0, 1) := by decide +kernel
theorem dMo_bytes_1 : decode cMo_bytes 1 = .ok (.iload_n 1, 1) := by decide +kernel
theorem dMo_bytes_2 : decode cMo_bytes 2 = .ok (.invokevirtual 240, 3) := by decide +kernel
theorem dMo_bytes_5 : decode cMo_bytes 5 = .ok (.ifCond .eq 16, 3) := by decide +kernel
theorem dMo_bytes_8 : decode cMo_bytes 8 = .ok (.iload_n 2, 1) := by decide +kernel
theorem dMo_bytes_9 : decode cMo_bytes 9 = .ok (.ifCond .lt 12, 3) := by decide +kernel
theorem dMo_bytes_12 : decode cMo_bytes 12 = .ok (.iload_n 2, 1) := by decide +kernel
theorem dMo_bytes_13 : decode cMo_bytes 13 = .ok (.iconst 2, 1) := by decide +kernel
theorem dMo_bytes_14 : decode cMo_bytes 14 = .ok (.if_icmp .gt 7, 3) := by decide +kernel
theorem dMo_bytes_17 : decode cMo_bytes 17 = .ok (.iload_n 3, 1) := by decide +kernel
theorem dMo_bytes_18 : decode cMo_bytes 18 = .ok (.ifCond .ge 7, 3) := by decide +kernel
theorem dMo_bytes_21 : decode cMo_bytes 21 = .ok (.ldc2_w 243, 3) := by decide +kernel
theorem dMo_bytes_24 : decode cMo_bytes 24 = .ok (.lreturn, 1) := by decide +kernel
theorem dMo_bytes_25 : decode cMo_bytes 25 = .ok (.iload_n 2, 1) := by decide +kernel
theorem dMo_bytes_26 : decode cMo_bytes 26 = .ok (.ifCond .ne 12, 3) := by decide +kernel
theorem dMo_bytes_29 : decode cMo_bytes 29 = .ok (.aload_n 0, 1) := by decide +kernel
theorem dMo_bytes_30 : decode cMo_bytes 30 = .ok (.getfield 32, 3) := by decide +kernel
theorem dMo_bytes_33 : decode cMo_bytes 33 = .ok (.iload_n 1, 1) := by decide +kernel
theorem dMo_bytes_34 : decode cMo_bytes 34 = .ok (.iaload, 1) := by decide +kernel
theorem dMo_bytes_35 : decode cMo_bytes 35 = .ok (.goto 23, 3) := by decide +kernel
theorem dMo_bytes_38 : decode cMo_bytes 38 = .ok (.iload_n 2, 1) := by decide +kernel
theorem dMo_bytes_39 : decode cMo_bytes 39 = .ok (.iconst 1, 1) := by decide +kernel
theorem dMo_bytes_40 : decode cMo_bytes 40 = .ok (.if_icmp .ne 12, 3) := by decide +kernel
theorem dMo_bytes_43 : decode cMo_bytes 43 = .ok (.aload_n 0, 1) := by decide +kernel
theorem dMo_bytes_44 : decode cMo_bytes 44 = .ok (.getfield 41, 3) := by decide +kernel
theorem dMo_bytes_47 : decode cMo_bytes 47 = .ok (.iload_n 1, 1) := by decide +kernel
theorem dMo_bytes_48 : decode cMo_bytes 48 = .ok (.iaload, 1) := by decide +kernel
theorem dMo_bytes_49 : decode cMo_bytes 49 = .ok (.goto 9, 3) := by decide +kernel
theorem dMo_bytes_52 : decode cMo_bytes 52 = .ok (.aload_n 0, 1) := by decide +kernel
theorem dMo_bytes_53 : decode cMo_bytes 53 = .ok (.getfield 47, 3) := by decide +kernel
theorem dMo_bytes_56 : decode cMo_bytes 56 = .ok (.iload_n 1, 1) := by decide +kernel
theorem dMo_bytes_57 : decode cMo_bytes 57 = .ok (.iaload, 1) := by decide +kernel
theorem dMo_bytes_58 : decode cMo_bytes 58 = .ok (.istore 4, 2) := by decide +kernel
theorem dMo_bytes_60 : decode cMo_bytes 60 = .ok (.lconst 0, 1) := by decide +kernel
theorem dMo_bytes_61 : decode cMo_bytes 61 = .ok (.lstore 5, 2) := by decide +kernel
theorem dMo_bytes_63 : decode cMo_bytes 63 = .ok (.iconst 0, 1) := by decide +kernel
theorem dMo_bytes_64 : decode cMo_bytes 64 = .ok (.istore 7, 2) := by decide +kernel
theorem dMo_bytes_66 : decode cMo_bytes 66 = .ok (.iload 7, 2) := by decide +kernel
theorem dMo_bytes_68 : decode cMo_bytes 68 = .ok (.bipush 8, 2) := by decide +kernel
theorem dMo_bytes_70 : decode cMo_bytes 70 = .ok (.if_icmp .ge 107, 3) := by decide +kernel
theorem dMo_bytes_73 : decode cMo_bytes 73 = .ok (.iload_n 3, 1) := by decide +kernel
theorem dMo_bytes_74 : decode cMo_bytes 74 = .ok (.iload 4, 2) := by decide +kernel
theorem dMo_bytes_76 : decode cMo_bytes 76 = .ok (.if_icmp .ge 16, 3) := by decide +kernel
theorem dMo_bytes_79 : decode cMo_bytes 79 = .ok (.iload 7, 2) := by decide +kernel
theorem dMo_bytes_81 : decode cMo_bytes 81 = .ok (.iload 4, 2) := by decide +kernel
theorem dMo_bytes_83 : decode cMo_bytes 83 = .ok (.iload_n 3, 1) := by decide +kernel
theorem dMo_bytes_84 : decode cMo_bytes 84 = .ok (.isub, 1) := by decide +kernel
theorem dMo_bytes_85 : decode cMo_bytes 85 = .ok (.if_icmp .ge 7, 3) := by decide +kernel
theorem dMo_bytes_88 : decode cMo_bytes 88 = .ok (.iconst 1, 1) := by decide +kernel
theorem dMo_bytes_89 : decode cMo_bytes 89 = .ok (.goto 4, 3) := by decide +kernel
theorem dMo_bytes_92 : decode cMo_bytes 92 = .ok (.iconst 0, 1) := by decide +kernel
theorem dMo_bytes_93 : decode cMo_bytes 93 = .ok (.istore 8, 2) := by decide +kernel
theorem dMo_bytes_95 : decode cMo_bytes 95 = .ok (.lload 5, 2) := by decide +kernel
theorem dMo_bytes_97 : decode cMo_bytes 97 = .ok (.bipush 8, 2) := by decide +kernel
theorem dMo_bytes_99 : decode cMo_bytes 99 = .ok (.lshl, 1) := by decide +kernel
theorem dMo_bytes_100 : decode cMo_bytes 100 = .ok (.iload 8, 2) := by decide +kernel
theorem dMo_bytes_102 : decode cMo_bytes 102 = .ok (.ifCond .ne 7, 3) := by decide +kernel
theorem dMo_bytes_105 : decode cMo_bytes 105 = .ok (.iconst 0, 1) := by decide +kernel
theorem dMo_bytes_106 : decode cMo_bytes 106 = .ok (.goto 61, 3) := by decide +kernel
theorem dMo_bytes_109 : decode cMo_bytes 109 = .ok (.iload_n 2, 1) := by decide +kernel
theorem dMo_bytes_110 : decode cMo_bytes 110 = .ok (.ifCond .ne 21, 3) := by decide +kernel
theorem dMo_bytes_113 : decode cMo_bytes 113 = .ok (.aload_n 0, 1) := by decide +kernel
theorem dMo_bytes_114 : decode cMo_bytes 114 = .ok (.getfield 29, 3) := by decide +kernel
theorem dMo_bytes_117 : decode cMo_bytes 117 = .ok (.sipush 200, 3) := by decide +kernel
theorem dMo_bytes_120 : decode cMo_bytes 120 = .ok (.iload_n 1, 1) := by decide +kernel
theorem dMo_bytes_121 : decode cMo_bytes 121 = .ok (.imul, 1) := by decide +kernel
theorem dMo_bytes_122 : decode cMo_bytes 122 = .ok (.iload_n 3, 1) := by decide +kernel
theorem dMo_bytes_123 : decode cMo_bytes 123 = .ok (.iadd, 1) := by decide +kernel
theorem dMo_bytes_124 : decode cMo_bytes 124 = .ok (.iload 7, 2) := by decide +kernel
theorem dMo_bytes_126 : decode cMo_bytes 126 = .ok (.iadd, 1) := by decide +kernel
theorem dMo_bytes_127 : decode cMo_bytes 127 = .ok (.iaload, 1) := by decide +kernel
theorem dMo_bytes_128 : decode cMo_bytes 128 = .ok (.goto 39, 3) := by decide +kernel
theorem dMo_bytes_131 : decode cMo_bytes 131 = .ok (.iload_n 2, 1) := by decide +kernel
theorem dMo_bytes_132 : decode cMo_bytes 132 = .ok (.iconst 1, 1) := by decide +kernel
theorem dMo_bytes_133 : decode cMo_bytes 133 = .ok (.if_icmp .ne 20, 3) := by decide +kernel
theorem dMo_bytes_136 : decode cMo_bytes 136 = .ok (.aload_n 0, 1) := by decide +kernel
theorem dMo_bytes_137 : decode cMo_bytes 137 = .ok (.getfield 38, 3) := by decide +kernel
theorem dMo_bytes_140 : decode cMo_bytes 140 = .ok (.bipush 110, 2) := by decide +kernel
theorem dMo_bytes_142 : decode cMo_bytes 142 = .ok (.iload_n 1, 1) := by decide +kernel
theorem dMo_bytes_143 : decode cMo_bytes 143 = .ok (.imul, 1) := by decide +kernel
theorem dMo_bytes_144 : decode cMo_bytes 144 = .ok (.iload_n 3, 1) := by decide +kernel
theorem dMo_bytes_145 : decode cMo_bytes 145 = .ok (.iadd, 1) := by decide +kernel
theorem dMo_bytes_146 : decode cMo_bytes 146 = .ok (.iload 7, 2) := by decide +kernel
theorem dMo_bytes_148 : decode cMo_bytes 148 = .ok (.iadd, 1) := by decide +kernel
theorem dMo_bytes_149 : decode cMo_bytes 149 = .ok (.iaload, 1) := by decide +kernel
theorem dMo_bytes_150 : decode cMo_bytes 150 = .ok (.goto 17, 3) := by decide +kernel
theorem dMo_bytes_153 : decode cMo_bytes 153 = .ok (.aload_n 0, 1) := by decide +kernel
theorem dMo_bytes_154 : decode cMo_bytes 154 = .ok (.getfield 44, 3) := by decide +kernel
theorem dMo_bytes_157 : decode cMo_bytes 157 = .ok (.bipush 110, 2) := by decide +kernel
theorem dMo_bytes_159 : decode cMo_bytes 159 = .ok (.iload_n 1, 1) := by decide +kernel
theorem dMo_bytes_160 : decode cMo_bytes 160 = .ok (.imul, 1) := by decide +kernel
theorem dMo_bytes_161 : decode cMo_bytes 161 = .ok (.iload_n 3, 1) := by decide +kernel
theorem dMo_bytes_162 : decode cMo_bytes 162 = .ok (.iadd, 1) := by decide +kernel
theorem dMo_bytes_163 : decode cMo_bytes 163 = .ok (.iload 7, 2) := by decide +kernel
theorem dMo_bytes_165 : decode cMo_bytes 165 = .ok (.iadd, 1) := by decide +kernel
theorem dMo_bytes_166 : decode cMo_bytes 166 = .ok (.iaload, 1) := by decide +kernel
theorem dMo_bytes_167 : decode cMo_bytes 167 = .ok (.i2l, 1) := by decide +kernel
theorem dMo_bytes_168 : decode cMo_bytes 168 = .ok (.lor, 1) := by decide +kernel
theorem dMo_bytes_169 : decode cMo_bytes 169 = .ok (.lstore 5, 2) := by decide +kernel
theorem dMo_bytes_171 : decode cMo_bytes 171 = .ok (.iinc 7 1, 3) := by decide +kernel
theorem dMo_bytes_174 : decode cMo_bytes 174 = .ok (.goto (-108), 3) := by decide +kernel
theorem dMo_bytes_177 : decode cMo_bytes 177 = .ok (.lload 5, 2) := by decide +kernel
theorem dMo_bytes_179 : decode cMo_bytes 179 = .ok (.lreturn, 1) := by decide +kernel
theorem dMo_count_0 : decode cMo_count 0 = .ok (.iload_n 1, 1) := by decide +kernel
theorem dMo_count_1 : decode cMo_count 1 = .ok (.tableswitch 85 0 5 #[39, 44, 57, 70, 75, 80], 39) := by decide +kernel
theorem dMo_count_40 : decode cMo_count 40 = .ok (.aload_n 0, 1) := by decide +kernel
theorem dMo_count_41 : decode cMo_count 41 = .ok (.getfield 230, 3) := by decide +kernel
theorem dMo_count_44 : decode cMo_count 44 = .ok (.ireturn, 1) := by decide +kernel
theorem dMo_count_45 : decode cMo_count 45 = .ok (.aload_n 0, 1) := by decide +kernel
theorem dMo_count_46 : decode cMo_count 46 = .ok (.getfield 7, 3) := by decide +kernel
theorem dMo_count_49 : decode cMo_count 49 = .ok (.ifCond .eq 7, 3) := by decide +kernel
theorem dMo_count_52 : decode cMo_count 52 = .ok (.iconst 1, 1) := by decide +kernel
theorem dMo_count_53 : decode cMo_count 53 = .ok (.goto 4, 3) := by decide +kernel
theorem dMo_count_56 : decode cMo_count 56 = .ok (.iconst 0, 1) := by decide +kernel
theorem dMo_count_57 : decode cMo_count 57 = .ok (.ireturn, 1) := by decide +kernel
theorem dMo_count_58 : decode cMo_count 58 = .ok (.aload_n 0, 1) := by decide +kernel
theorem dMo_count_59 : decode cMo_count 59 = .ok (.getfield 82, 3) := by decide +kernel
theorem dMo_count_62 : decode cMo_count 62 = .ok (.ifCond .eq 7, 3) := by decide +kernel
theorem dMo_count_65 : decode cMo_count 65 = .ok (.iconst 1, 1) := by decide +kernel
theorem dMo_count_66 : decode cMo_count 66 = .ok (.goto 4, 3) := by decide +kernel
theorem dMo_count_69 : decode cMo_count 69 = .ok (.iconst 0, 1) := by decide +kernel
theorem dMo_count_70 : decode cMo_count 70 = .ok (.ireturn, 1) := by decide +kernel
theorem dMo_count_71 : decode cMo_count 71 = .ok (.aload_n 0, 1) := by decide +kernel
theorem dMo_count_72 : decode cMo_count 72 = .ok (.getfield 138, 3) := by decide +kernel
theorem dMo_count_75 : decode cMo_count 75 = .ok (.ireturn, 1) := by decide +kernel
theorem dMo_count_76 : decode cMo_count 76 = .ok (.aload_n 0, 1) := by decide +kernel
theorem dMo_count_77 : decode cMo_count 77 = .ok (.getfield 76, 3) := by decide +kernel
theorem dMo_count_80 : decode cMo_count 80 = .ok (.ireturn, 1) := by decide +kernel
theorem dMo_count_81 : decode cMo_count 81 = .ok (.aload_n 0, 1) := by decide +kernel
theorem dMo_count_82 : decode cMo_count 82 = .ok (.getfield 50, 3) := by decide +kernel
theorem dMo_count_85 : decode cMo_count 85 = .ok (.ireturn, 1) := by decide +kernel
theorem dMo_count_86 : decode cMo_count 86 = .ok (.iconst (-1), 1) := by decide +kernel
theorem dMo_count_87 : decode cMo_count 87 = .ok (.ireturn, 1) := by decide +kernel
