theorem dX0_init_0 : decode cX0_init 0 = .ok (.aload_n 0, 1) := by decide +kernel
theorem dX0_init_1 : decode cX0_init 1 = .ok (.iload_n 1, 1) := by decide +kernel
theorem dX0_init_2 : decode cX0_init 2 = .ok (.iconst 1, 1) := by decide +kernel
theorem dX0_init_3 : decode cX0_init 3 = .ok (.invokestatic 1, 3) := by decide +kernel
theorem dX0_init_6 : decode cX0_init 6 = .ok (.newarray .byte, 2) := by decide +kernel
theorem dX0_init_8 : decode cX0_init 8 = .ok (.iconst 0, 1) := by decide +kernel
theorem dX0_init_9 : decode cX0_init 9 = .ok (.iconst 0, 1) := by decide +kernel
theorem dX0_init_10 : decode cX0_init 10 = .ok (.invokespecial 7, 3) := by decide +kernel
theorem dX0_init_13 : decode cX0_init 13 = .ok (.return_, 1) := by decide +kernel
theorem dX0_push_0 : decode cX0_push 0 = .ok (.aload_n 0, 1) := by decide +kernel
theorem dX0_push_1 : decode cX0_push 1 = .ok (.getfield 13, 3) := by decide +kernel
theorem dX0_push_4 : decode cX0_push 4 = .ok (.ifCond .ge 4, 3) := by decide +kernel
theorem dX0_push_7 : decode cX0_push 7 = .ok (.return_, 1) := by decide +kernel
theorem dX0_push_8 : decode cX0_push 8 = .ok (.aload_n 0, 1) := by decide +kernel
theorem dX0_push_9 : decode cX0_push 9 = .ok (.getfield 13, 3) := by decide +kernel
theorem dX0_push_12 : decode cX0_push 12 = .ok (.aload_n 0, 1) := by decide +kernel
theorem dX0_push_13 : decode cX0_push 13 = .ok (.getfield 19, 3) := by decide +kernel
theorem dX0_push_16 : decode cX0_push 16 = .ok (.arraylength, 1) := by decide +kernel
theorem dX0_push_17 : decode cX0_push 17 = .ok (.if_icmp .lt 22, 3) := by decide +kernel
theorem dX0_push_20 : decode cX0_push 20 = .ok (.aload_n 0, 1) := by decide +kernel
theorem dX0_push_21 : decode cX0_push 21 = .ok (.aload_n 0, 1) := by decide +kernel
theorem dX0_push_22 : decode cX0_push 22 = .ok (.getfield 19, 3) := by decide +kernel
theorem dX0_push_25 : decode cX0_push 25 = .ok (.iconst 2, 1) := by decide +kernel
theorem dX0_push_26 : decode cX0_push 26 = .ok (.aload_n 0, 1) := by decide +kernel
theorem dX0_push_27 : decode cX0_push 27 = .ok (.getfield 13, 3) := by decide +kernel
theorem dX0_push_30 : decode cX0_push 30 = .ok (.imul, 1) := by decide +kernel
theorem dX0_push_31 : decode cX0_push 31 = .ok (.iconst 1, 1) := by decide +kernel
theorem dX0_push_32 : decode cX0_push 32 = .ok (.iadd, 1) := by decide +kernel
theorem dX0_push_33 : decode cX0_push 33 = .ok (.invokestatic 23, 3) := by decide +kernel
theorem dX0_push_36 : decode cX0_push 36 = .ok (.putfield 19, 3) := by decide +kernel
theorem dX0_push_39 : decode cX0_push 39 = .ok (.aload_n 0, 1) := by decide +kernel
theorem dX0_push_40 : decode cX0_push 40 = .ok (.getfield 19, 3) := by decide +kernel
theorem dX0_push_43 : decode cX0_push 43 = .ok (.aload_n 0, 1) := by decide +kernel
theorem dX0_push_44 : decode cX0_push 44 = .ok (.getfield 13, 3) := by decide +kernel
theorem dX0_push_47 : decode cX0_push 47 = .ok (.iload_n 1, 1) := by decide +kernel
theorem dX0_push_48 : decode cX0_push 48 = .ok (.i2b, 1) := by decide +kernel
theorem dX0_push_49 : decode cX0_push 49 = .ok (.bastore, 1) := by decide +kernel
theorem dX0_push_50 : decode cX0_push 50 = .ok (.aload_n 0, 1) := by decide +kernel
theorem dX0_push_51 : decode cX0_push 51 = .ok (.dup, 1) := by decide +kernel
theorem dX0_push_52 : decode cX0_push 52 = .ok (.getfield 13, 3) := by decide +kernel
theorem dX0_push_55 : decode cX0_push 55 = .ok (.iconst 1, 1) := by decide +kernel
theorem dX0_push_56 : decode cX0_push 56 = .ok (.iadd, 1) := by decide +kernel
theorem dX0_push_57 : decode cX0_push 57 = .ok (.putfield 13, 3) := by decide +kernel
theorem dX0_push_60 : decode cX0_push 60 = .ok (.return_, 1) := by decide +kernel
theorem dX0_pushSpan_0 : decode cX0_pushSpan 0 = .ok (.iload_n 3, 1) := by decide +kernel
theorem dX0_pushSpan_1 : decode cX0_pushSpan 1 = .ok (.iload_n 2, 1) := by decide +kernel
theorem dX0_pushSpan_2 : decode cX0_pushSpan 2 = .ok (.isub, 1) := by decide +kernel
theorem dX0_pushSpan_3 : decode cX0_pushSpan 3 = .ok (.istore 4, 2) := by decide +kernel
theorem dX0_pushSpan_5 : decode cX0_pushSpan 5 = .ok (.aload_n 1, 1) := by decide +kernel
theorem dX0_pushSpan_6 : decode cX0_pushSpan 6 = .ok (.getfield 33, 3) := by decide +kernel
theorem dX0_pushSpan_9 : decode cX0_pushSpan 9 = .ok (.iload_n 2, 1) := by decide +kernel
theorem dX0_pushSpan_10 : decode cX0_pushSpan 10 = .ok (.iadd, 1) := by decide +kernel
theorem dX0_pushSpan_11 : decode cX0_pushSpan 11 = .ok (.istore 5, 2) := by decide +kernel
theorem dX0_pushSpan_13 : decode cX0_pushSpan 13 = .ok (.aload_n 0, 1) := by decide +kernel
theorem dX0_pushSpan_14 : decode cX0_pushSpan 14 = .ok (.getfield 13, 3) := by decide +kernel
theorem dX0_pushSpan_17 : decode cX0_pushSpan 17 = .ok (.ifCond .lt 20, 3) := by decide +kernel
theorem dX0_pushSpan_20 : decode cX0_pushSpan 20 = .ok (.iload_n 2, 1) := by decide +kernel
theorem dX0_pushSpan_21 : decode cX0_pushSpan 21 = .ok (.ifCond .lt 16, 3) := by decide +kernel
theorem dX0_pushSpan_24 : decode cX0_pushSpan 24 = .ok (.iload 4, 2) := by decide +kernel
theorem dX0_pushSpan_26 : decode cX0_pushSpan 26 = .ok (.ifCond .le 11, 3) := by decide +kernel
theorem dX0_pushSpan_29 : decode cX0_pushSpan 29 = .ok (.iload_n 3, 1) := by decide +kernel
theorem dX0_pushSpan_30 : decode cX0_pushSpan 30 = .ok (.aload_n 1, 1) := by decide +kernel
theorem dX0_pushSpan_31 : decode cX0_pushSpan 31 = .ok (.getfield 36, 3) := by decide +kernel
theorem dX0_pushSpan_34 : decode cX0_pushSpan 34 = .ok (.if_icmp .le 4, 3) := by decide +kernel
theorem dX0_pushSpan_37 : decode cX0_pushSpan 37 = .ok (.return_, 1) := by decide +kernel
theorem dX0_pushSpan_38 : decode cX0_pushSpan 38 = .ok (.iload 5, 2) := by decide +kernel
theorem dX0_pushSpan_40 : decode cX0_pushSpan 40 = .ok (.ifCond .lt 16, 3) := by decide +kernel
theorem dX0_pushSpan_43 : decode cX0_pushSpan 43 = .ok (.iload 4, 2) := by decide +kernel
theorem dX0_pushSpan_45 : decode cX0_pushSpan 45 = .ok (.aload_n 1, 1) := by decide +kernel
theorem dX0_pushSpan_46 : decode cX0_pushSpan 46 = .ok (.getfield 37, 3) := by decide +kernel
theorem dX0_pushSpan_49 : decode cX0_pushSpan 49 = .ok (.arraylength, 1) := by decide +kernel
theorem dX0_pushSpan_50 : decode cX0_pushSpan 50 = .ok (.iload 5, 2) := by decide +kernel
theorem dX0_pushSpan_52 : decode cX0_pushSpan 52 = .ok (.isub, 1) := by decide +kernel
theorem dX0_pushSpan_53 : decode cX0_pushSpan 53 = .ok (.if_icmp .le 4, 3) := by decide +kernel
theorem dX0_pushSpan_56 : decode cX0_pushSpan 56 = .ok (.return_, 1) := by decide +kernel
theorem dX0_pushSpan_57 : decode cX0_pushSpan 57 = .ok (.iload 4, 2) := by decide +kernel
theorem dX0_pushSpan_59 : decode cX0_pushSpan 59 = .ok (.aload_n 0, 1) := by decide +kernel
theorem dX0_pushSpan_60 : decode cX0_pushSpan 60 = .ok (.getfield 19, 3) := by decide +kernel
theorem dX0_pushSpan_63 : decode cX0_pushSpan 63 = .ok (.arraylength, 1) := by decide +kernel
theorem dX0_pushSpan_64 : decode cX0_pushSpan 64 = .ok (.aload_n 0, 1) := by decide +kernel
theorem dX0_pushSpan_65 : decode cX0_pushSpan 65 = .ok (.getfield 13, 3) := by decide +kernel
theorem dX0_pushSpan_68 : decode cX0_pushSpan 68 = .ok (.isub, 1) := by decide +kernel
theorem dX0_pushSpan_69 : decode cX0_pushSpan 69 = .ok (.if_icmp .le 23, 3) := by decide +kernel
theorem dX0_pushSpan_72 : decode cX0_pushSpan 72 = .ok (.aload_n 0, 1) := by decide +kernel
theorem dX0_pushSpan_73 : decode cX0_pushSpan 73 = .ok (.aload_n 0, 1) := by decide +kernel
theorem dX0_pushSpan_74 : decode cX0_pushSpan 74 = .ok (.getfield 19, 3) := by decide +kernel
theorem dX0_pushSpan_77 : decode cX0_pushSpan 77 = .ok (.iconst 2, 1) := by decide +kernel
theorem dX0_pushSpan_78 : decode cX0_pushSpan 78 = .ok (.aload_n 0, 1) := by decide +kernel
theorem dX0_pushSpan_79 : decode cX0_pushSpan 79 = .ok (.getfield 13, 3) := by decide +kernel
theorem dX0_pushSpan_82 : decode cX0_pushSpan 82 = .ok (.iload 4, 2) := by decide +kernel
theorem dX0_pushSpan_84 : decode cX0_pushSpan 84 = .ok (.iadd, 1) := by decide +kernel
theorem dX0_pushSpan_85 : decode cX0_pushSpan 85 = .ok (.imul, 1) := by decide +kernel
theorem dX0_pushSpan_86 : decode cX0_pushSpan 86 = .ok (.invokestatic 23, 3) := by decide +kernel
theorem dX0_pushSpan_89 : decode cX0_pushSpan 89 = .ok (.putfield 19, 3) := by decide +kernel
theorem dX0_pushSpan_92 : decode cX0_pushSpan 92 = .ok (.aload_n 1, 1) := by decide +kernel
theorem dX0_pushSpan_93 : decode cX0_pushSpan 93 = .ok (.getfield 37, 3) := by decide +kernel
theorem dX0_pushSpan_96 : decode cX0_pushSpan 96 = .ok (.iload 5, 2) := by decide +kernel
theorem dX0_pushSpan_98 : decode cX0_pushSpan 98 = .ok (.aload_n 0, 1) := by decide +kernel
theorem dX0_pushSpan_99 : decode cX0_pushSpan 99 = .ok (.getfield 19, 3) := by decide +kernel
theorem dX0_pushSpan_102 : decode cX0_pushSpan 102 = .ok (.aload_n 0, 1) := by decide +kernel
theorem dX0_pushSpan_103 : decode cX0_pushSpan 103 = .ok (.getfield 13, 3) := by decide +kernel
theorem dX0_pushSpan_106 : decode cX0_pushSpan 106 = .ok (.iload 4, 2) := by decide +kernel
theorem dX0_pushSpan_108 : decode cX0_pushSpan 108 = .ok (.invokestatic 38, 3) := by decide +kernel
theorem dX0_pushSpan_111 : decode cX0_pushSpan 111 = .ok (.aload_n 0, 1) := by decide +kernel
theorem dX0_pushSpan_112 : decode cX0_pushSpan 112 = .ok (.dup, 1) := by decide +kernel
theorem dX0_pushSpan_113 : decode cX0_pushSpan 113 = .ok (.getfield 13, 3) := by decide +kernel
theorem dX0_pushSpan_116 : decode cX0_pushSpan 116 = .ok (.iload 4, 2) := by decide +kernel
theorem dX0_pushSpan_118 : decode cX0_pushSpan 118 = .ok (.iadd, 1) := by decide +kernel
theorem dX0_pushSpan_119 : decode cX0_pushSpan 119 = .ok (.putfield 13, 3) := by decide +kernel
theorem dX0_pushSpan_122 : decode cX0_pushSpan 122 = .ok (.return_, 1) := by decide +kernel
theorem dX0_pushText_0 : decode cX0_pushText 0 = .ok (.iconst 0, 1) := by decide +kernel
theorem dX0_pushText_1 : decode cX0_pushText 1 = .ok (.istore_n 2, 1) := by decide +kernel
theorem dX0_pushText_2 : decode cX0_pushText 2 = .ok (.iload_n 2, 1) := by decide +kernel
theorem dX0_pushText_3 : decode cX0_pushText 3 = .ok (.aload_n 1, 1) := by decide +kernel
theorem dX0_pushText_4 : decode cX0_pushText 4 = .ok (.invokevirtual 56, 3) := by decide +kernel
theorem dX0_pushText_7 : decode cX0_pushText 7 = .ok (.if_icmp .ge 18, 3) := by decide +kernel
theorem dX0_pushText_10 : decode cX0_pushText 10 = .ok (.aload_n 0, 1) := by decide +kernel
theorem dX0_pushText_11 : decode cX0_pushText 11 = .ok (.aload_n 1, 1) := by decide +kernel
theorem dX0_pushText_12 : decode cX0_pushText 12 = .ok (.iload_n 2, 1) := by decide +kernel
theorem dX0_pushText_13 : decode cX0_pushText 13 = .ok (.invokevirtual 62, 3) := by decide +kernel
theorem dX0_pushText_16 : decode cX0_pushText 16 = .ok (.invokevirtual 29, 3) := by decide +kernel
theorem dX0_pushText_19 : decode cX0_pushText 19 = .ok (.iinc 2 1, 3) := by decide +kernel
theorem dX0_pushText_22 : decode cX0_pushText 22 = .ok (.goto (-20), 3) := by decide +kernel
theorem dX0_pushText_25 : decode cX0_pushText 25 = .ok (.return_, 1) := by decide +kernel
theorem dX1_init_0 : decode cX1_init 0 = .ok (.aload_n 0, 1) := by decide +kernel
theorem dX1_init_1 : decode cX1_init 1 = .ok (.invokespecial 3, 3) := by decide +kernel
theorem dX1_init_4 : decode cX1_init 4 = .ok (.aload_n 0, 1) := by decide +kernel
theorem dX1_init_5 : decode cX1_init 5 = .ok (.bipush 8, 2) := by decide +kernel
theorem dX1_init_7 : decode cX1_init 7 = .ok (.newarray .int, 2) := by decide +kernel
theorem dX1_init_9 : decode cX1_init 9 = .ok (.putfield 9, 3) := by decide +kernel
theorem dX1_init_12 : decode cX1_init 12 = .ok (.aload_n 0, 1) := by decide +kernel
theorem dX1_init_13 : decode cX1_init 13 = .ok (.bipush 80, 2) := by decide +kernel
theorem dX1_init_15 : decode cX1_init 15 = .ok (.newarray .int, 2) := by decide +kernel
theorem dX1_init_17 : decode cX1_init 17 = .ok (.putfield 15, 3) := by decide +kernel
theorem dX1_init_20 : decode cX1_init 20 = .ok (.return_, 1) := by decide +kernel
theorem dX1_make_0 : decode cX1_make 0 = .ok (.aload_n 0, 1) := by decide +kernel
theorem dX1_make_1 : decode cX1_make 1 = .ok (.iload_n 1, 1) := by decide +kernel
theorem dX1_make_2 : decode cX1_make 2 = .ok (.bipush 8, 2) := by decide +kernel
theorem dX1_make_4 : decode cX1_make 4 = .ok (.if_icmp .ne 7, 3) := by decide +kernel
theorem dX1_make_7 : decode cX1_make 7 = .ok (.iconst 1, 1) := by decide +kernel
theorem dX1_make_8 : decode cX1_make 8 = .ok (.goto 4, 3) := by decide +kernel
theorem dX1_make_11 : decode cX1_make 11 = .ok (.iconst 0, 1) := by decide +kernel
theorem dX1_make_12 : decode cX1_make 12 = .ok (.putfield 18, 3) := by decide +kernel
theorem dX1_make_15 : decode cX1_make 15 = .ok (.iconst 0, 1) := by decide +kernel
theorem dX1_make_16 : decode cX1_make 16 = .ok (.istore_n 3, 1) := by decide +kernel
theorem dX1_make_17 : decode cX1_make 17 = .ok (.iload_n 3, 1) := by decide +kernel
theorem dX1_make_18 : decode cX1_make 18 = .ok (.bipush 8, 2) := by decide +kernel
theorem dX1_make_20 : decode cX1_make 20 = .ok (.if_icmp .ge 35, 3) := by decide +kernel
theorem dX1_make_23 : decode cX1_make 23 = .ok (.aload_n 0, 1) := by decide +kernel
theorem dX1_make_24 : decode cX1_make 24 = .ok (.getfield 9, 3) := by decide +kernel
theorem dX1_make_27 : decode cX1_make 27 = .ok (.iload_n 3, 1) := by decide +kernel
theorem dX1_make_28 : decode cX1_make 28 = .ok (.aload_n 0, 1) := by decide +kernel
theorem dX1_make_29 : decode cX1_make 29 = .ok (.getfield 18, 3) := by decide +kernel
theorem dX1_make_32 : decode cX1_make 32 = .ok (.ifCond .eq 11, 3) := by decide +kernel
theorem dX1_make_35 : decode cX1_make 35 = .ok (.getstatic 22, 3) := by decide +kernel
theorem dX1_make_38 : decode cX1_make 38 = .ok (.iload_n 3, 1) := by decide +kernel
theorem dX1_make_39 : decode cX1_make 39 = .ok (.iaload, 1) := by decide +kernel
theorem dX1_make_40 : decode cX1_make 40 = .ok (.goto 8, 3) := by decide +kernel
theorem dX1_make_43 : decode cX1_make 43 = .ok (.getstatic 25, 3) := by decide +kernel
theorem dX1_make_46 : decode cX1_make 46 = .ok (.iload_n 3, 1) := by decide +kernel
theorem dX1_make_47 : decode cX1_make 47 = .ok (.iaload, 1) := by decide +kernel
theorem dX1_make_48 : decode cX1_make 48 = .ok (.iastore, 1) := by decide +kernel
theorem dX1_make_49 : decode cX1_make 49 = .ok (.iinc 3 1, 3) := by decide +kernel
theorem dX1_make_52 : decode cX1_make 52 = .ok (.goto (-35), 3) := by decide +kernel
theorem dX1_make_55 : decode cX1_make 55 = .ok (.aload_n 2, 1) := by decide +kernel
theorem dX1_make_56 : decode cX1_make 56 = .ok (.getfield 28, 3) := by decide +kernel
theorem dX1_make_59 : decode cX1_make 59 = .ok (.bipush 8, 2) := by decide +kernel
theorem dX1_make_61 : decode cX1_make 61 = .ok (.iadd, 1) := by decide +kernel
theorem dX1_make_62 : decode cX1_make 62 = .ok (.bipush 64, 2) := by decide +kernel
theorem dX1_make_64 : decode cX1_make 64 = .ok (.idiv, 1) := by decide +kernel
theorem dX1_make_65 : decode cX1_make 65 = .ok (.iconst 1, 1) := by decide +kernel
theorem dX1_make_66 : decode cX1_make 66 = .ok (.iadd, 1) := by decide +kernel
theorem dX1_make_67 : decode cX1_make 67 = .ok (.istore_n 3, 1) := by decide +kernel
theorem dX1_make_68 : decode cX1_make 68 = .ok (.iconst 0, 1) := by decide +kernel
theorem dX1_make_69 : decode cX1_make 69 = .ok (.istore 4, 2) := by decide +kernel
theorem dX1_make_71 : decode cX1_make 71 = .ok (.iload 4, 2) := by decide +kernel
theorem dX1_make_73 : decode cX1_make 73 = .ok (.iload_n 3, 1) := by decide +kernel
theorem dX1_make_74 : decode cX1_make 74 = .ok (.if_icmp .ge 86, 3) := by decide +kernel
theorem dX1_make_77 : decode cX1_make 77 = .ok (.iconst 0, 1) := by decide +kernel
theorem dX1_make_78 : decode cX1_make 78 = .ok (.istore 5, 2) := by decide +kernel
theorem dX1_make_80 : decode cX1_make 80 = .ok (.iload 5, 2) := by decide +kernel
theorem dX1_make_82 : decode cX1_make 82 = .ok (.bipush 16, 2) := by decide +kernel
theorem dX1_make_84 : decode cX1_make 84 = .ok (.if_icmp .ge 30, 3) := by decide +kernel
theorem dX1_make_87 : decode cX1_make 87 = .ok (.aload_n 0, 1) := by decide +kernel
theorem dX1_make_88 : decode cX1_make 88 = .ok (.getfield 15, 3) := by decide +kernel
theorem dX1_make_91 : decode cX1_make 91 = .ok (.iload 5, 2) := by decide +kernel
theorem dX1_make_93 : decode cX1_make 93 = .ok (.aload_n 2, 1) := by decide +kernel
theorem dX1_make_94 : decode cX1_make 94 = .ok (.bipush 64, 2) := by decide +kernel
theorem dX1_make_96 : decode cX1_make 96 = .ok (.iload 4, 2) := by decide +kernel
theorem dX1_make_98 : decode cX1_make 98 = .ok (.imul, 1) := by decide +kernel
theorem dX1_make_99 : decode cX1_make 99 = .ok (.iconst 4, 1) := by decide +kernel
theorem dX1_make_100 : decode cX1_make 100 = .ok (.iload 5, 2) := by decide +kernel
theorem dX1_make_102 : decode cX1_make 102 = .ok (.imul, 1) := by decide +kernel
theorem dX1_make_103 : decode cX1_make 103 = .ok (.iadd, 1) := by decide +kernel
theorem dX1_make_104 : decode cX1_make 104 = .ok (.invokestatic 34, 3) := by decide +kernel
theorem dX1_make_107 : decode cX1_make 107 = .ok (.iastore, 1) := by decide +kernel
theorem dX1_make_108 : decode cX1_make 108 = .ok (.iinc 5 1, 3) := by decide +kernel
theorem dX1_make_111 : decode cX1_make 111 = .ok (.goto (-31), 3) := by decide +kernel
theorem dX1_make_114 : decode cX1_make 114 = .ok (.iload 4, 2) := by decide +kernel
theorem dX1_make_116 : decode cX1_make 116 = .ok (.iload_n 3, 1) := by decide +kernel
theorem dX1_make_117 : decode cX1_make 117 = .ok (.iconst 1, 1) := by decide +kernel
theorem dX1_make_118 : decode cX1_make 118 = .ok (.isub, 1) := by decide +kernel
theorem dX1_make_119 : decode cX1_make 119 = .ok (.if_icmp .ne 17, 3) := by decide +kernel
theorem dX1_make_122 : decode cX1_make 122 = .ok (.aload_n 0, 1) := by decide +kernel
theorem dX1_make_123 : decode cX1_make 123 = .ok (.getfield 15, 3) := by decide +kernel
theorem dX1_make_126 : decode cX1_make 126 = .ok (.bipush 15, 2) := by decide +kernel
theorem dX1_make_128 : decode cX1_make 128 = .ok (.bipush 8, 2) := by decide +kernel
theorem dX1_make_130 : decode cX1_make 130 = .ok (.aload_n 2, 1) := by decide +kernel
theorem dX1_make_131 : decode cX1_make 131 = .ok (.getfield 28, 3) := by decide +kernel
theorem dX1_make_134 : decode cX1_make 134 = .ok (.imul, 1) := by decide +kernel
theorem dX1_make_135 : decode cX1_make 135 = .ok (.iastore, 1) := by decide +kernel
theorem dX1_make_136 : decode cX1_make 136 = .ok (.aload_n 0, 1) := by decide +kernel
theorem dX1_make_137 : decode cX1_make 137 = .ok (.getfield 18, 3) := by decide +kernel
theorem dX1_make_140 : decode cX1_make 140 = .ok (.ifCond .eq 10, 3) := by decide +kernel
theorem dX1_make_143 : decode cX1_make 143 = .ok (.aload_n 0, 1) := by decide +kernel
theorem dX1_make_144 : decode cX1_make 144 = .ok (.invokevirtual 38, 3) := by decide +kernel
theorem dX1_make_147 : decode cX1_make 147 = .ok (.goto 7, 3) := by decide +kernel
theorem dX1_make_150 : decode cX1_make 150 = .ok (.aload_n 0, 1) := by decide +kernel
theorem dX1_make_151 : decode cX1_make 151 = .ok (.invokevirtual 41, 3) := by decide +kernel
theorem dX1_make_154 : decode cX1_make 154 = .ok (.iinc 4 1, 3) := by decide +kernel
theorem dX1_make_157 : decode cX1_make 157 = .ok (.goto (-86), 3) := by decide +kernel
theorem dX1_make_160 : decode cX1_make 160 = .ok (.return_, 1) := by decide +kernel
theorem dX1_wordOf_0 : decode cX1_wordOf 0 = .ok (.aload_n 0, 1) := by decide +kernel
theorem dX1_wordOf_1 : decode cX1_wordOf 1 = .ok (.iload_n 1, 1) := by decide +kernel
theorem dX1_wordOf_2 : decode cX1_wordOf 2 = .ok (.iconst 4, 1) := by decide +kernel
theorem dX1_wordOf_3 : decode cX1_wordOf 3 = .ok (.invokevirtual 44, 3) := by decide +kernel
theorem dX1_wordOf_6 : decode cX1_wordOf 6 = .ok (.l2i, 1) := by decide +kernel
theorem dX1_wordOf_7 : decode cX1_wordOf 7 = .ok (.istore_n 2, 1) := by decide +kernel
theorem dX1_wordOf_8 : decode cX1_wordOf 8 = .ok (.aload_n 0, 1) := by decide +kernel
theorem dX1_wordOf_9 : decode cX1_wordOf 9 = .ok (.getfield 28, 3) := by decide +kernel
theorem dX1_wordOf_12 : decode cX1_wordOf 12 = .ok (.iload_n 1, 1) := by decide +kernel
theorem dX1_wordOf_13 : decode cX1_wordOf 13 = .ok (.isub, 1) := by decide +kernel
theorem dX1_wordOf_14 : decode cX1_wordOf 14 = .ok (.istore_n 3, 1) := by decide +kernel
theorem dX1_wordOf_15 : decode cX1_wordOf 15 = .ok (.iload_n 3, 1) := by decide +kernel
theorem dX1_wordOf_16 : decode cX1_wordOf 16 = .ok (.ifCond .lt 24, 3) := by decide +kernel
theorem dX1_wordOf_19 : decode cX1_wordOf 19 = .ok (.iload_n 3, 1) := by decide +kernel
theorem dX1_wordOf_20 : decode cX1_wordOf 20 = .ok (.iconst 4, 1) := by decide +kernel
theorem dX1_wordOf_21 : decode cX1_wordOf 21 = .ok (.if_icmp .ge 19, 3) := by decide +kernel
theorem dX1_wordOf_24 : decode cX1_wordOf 24 = .ok (.iload_n 2, 1) := by decide +kernel
theorem dX1_wordOf_25 : decode cX1_wordOf 25 = .ok (.sipush 128, 3) := by decide +kernel
theorem dX1_wordOf_28 : decode cX1_wordOf 28 = .ok (.bipush 24, 2) := by decide +kernel
theorem dX1_wordOf_30 : decode cX1_wordOf 30 = .ok (.bipush 8, 2) := by decide +kernel
theorem dX1_wordOf_32 : decode cX1_wordOf 32 = .ok (.iload_n 3, 1) := by decide +kernel
theorem dX1_wordOf_33 : decode cX1_wordOf 33 = .ok (.imul, 1) := by decide +kernel
theorem dX1_wordOf_34 : decode cX1_wordOf 34 = .ok (.isub, 1) := by decide +kernel
theorem dX1_wordOf_35 : decode cX1_wordOf 35 = .ok (.ishl, 1) := by decide +kernel
theorem dX1_wordOf_36 : decode cX1_wordOf 36 = .ok (.ior, 1) := by decide +kernel
theorem dX1_wordOf_37 : decode cX1_wordOf 37 = .ok (.goto 4, 3) := by decide +kernel
theorem dX1_wordOf_40 : decode cX1_wordOf 40 = .ok (.iload_n 2, 1) := by decide +kernel
theorem dX1_wordOf_41 : decode cX1_wordOf 41 = .ok (.ireturn, 1) := by decide +kernel
theorem dX1_at_0 : decode cX1_at 0 = .ok (.iload_n 1, 1) := by decide +kernel
theorem dX1_at_1 : decode cX1_at 1 = .ok (.ifCond .lt 34, 3) := by decide +kernel
theorem dX1_at_4 : decode cX1_at 4 = .ok (.iload_n 1, 1) := by decide +kernel
theorem dX1_at_5 : decode cX1_at 5 = .ok (.bipush 32, 2) := by decide +kernel
theorem dX1_at_7 : decode cX1_at 7 = .ok (.if_icmp .ge 28, 3) := by decide +kernel
theorem dX1_at_10 : decode cX1_at 10 = .ok (.aload_n 0, 1) := by decide +kernel
theorem dX1_at_11 : decode cX1_at 11 = .ok (.getfield 9, 3) := by decide +kernel
theorem dX1_at_14 : decode cX1_at 14 = .ok (.iload_n 1, 1) := by decide +kernel
theorem dX1_at_15 : decode cX1_at 15 = .ok (.iconst 2, 1) := by decide +kernel
theorem dX1_at_16 : decode cX1_at 16 = .ok (.ishr, 1) := by decide +kernel
theorem dX1_at_17 : decode cX1_at 17 = .ok (.iaload, 1) := by decide +kernel
theorem dX1_at_18 : decode cX1_at 18 = .ok (.bipush 24, 2) := by decide +kernel
theorem dX1_at_20 : decode cX1_at 20 = .ok (.bipush 8, 2) := by decide +kernel
theorem dX1_at_22 : decode cX1_at 22 = .ok (.iload_n 1, 1) := by decide +kernel
theorem dX1_at_23 : decode cX1_at 23 = .ok (.iconst 3, 1) := by decide +kernel
theorem dX1_at_24 : decode cX1_at 24 = .ok (.iand, 1) := by decide +kernel
theorem dX1_at_25 : decode cX1_at 25 = .ok (.imul, 1) := by decide +kernel
theorem dX1_at_26 : decode cX1_at 26 = .ok (.isub, 1) := by decide +kernel
theorem dX1_at_27 : decode cX1_at 27 = .ok (.iushr, 1) := by decide +kernel
theorem dX1_at_28 : decode cX1_at 28 = .ok (.sipush 255, 3) := by decide +kernel
theorem dX1_at_31 : decode cX1_at 31 = .ok (.iand, 1) := by decide +kernel
theorem dX1_at_32 : decode cX1_at 32 = .ok (.goto 4, 3) := by decide +kernel
theorem dX1_at_35 : decode cX1_at 35 = .ok (.iconst 0, 1) := by decide +kernel
theorem dX1_at_36 : decode cX1_at 36 = .ok (.ireturn, 1) := by decide +kernel
theorem dX1_mixFirst_0 : decode cX1_mixFirst 0 = .ok (.bipush 16, 2) := by decide +kernel
theorem dX1_mixFirst_2 : decode cX1_mixFirst 2 = .ok (.istore_n 1, 1) := by decide +kernel
theorem dX1_mixFirst_3 : decode cX1_mixFirst 3 = .ok (.iload_n 1, 1) := by decide +kernel
theorem dX1_mixFirst_4 : decode cX1_mixFirst 4 = .ok (.bipush 80, 2) := by decide +kernel
theorem dX1_mixFirst_6 : decode cX1_mixFirst 6 = .ok (.if_icmp .ge 62, 3) := by decide +kernel
theorem dX1_mixFirst_9 : decode cX1_mixFirst 9 = .ok (.aload_n 0, 1) := by decide +kernel
theorem dX1_mixFirst_10 : decode cX1_mixFirst 10 = .ok (.getfield 15, 3) := by decide +kernel
theorem dX1_mixFirst_13 : decode cX1_mixFirst 13 = .ok (.iload_n 1, 1) := by decide +kernel
theorem dX1_mixFirst_14 : decode cX1_mixFirst 14 = .ok (.iconst 3, 1) := by decide +kernel
theorem dX1_mixFirst_15 : decode cX1_mixFirst 15 = .ok (.isub, 1) := by decide +kernel
theorem dX1_mixFirst_16 : decode cX1_mixFirst 16 = .ok (.iaload, 1) := by decide +kernel
theorem dX1_mixFirst_17 : decode cX1_mixFirst 17 = .ok (.aload_n 0, 1) := by decide +kernel
theorem dX1_mixFirst_18 : decode cX1_mixFirst 18 = .ok (.getfield 15, 3) := by decide +kernel
theorem dX1_mixFirst_21 : decode cX1_mixFirst 21 = .ok (.iload_n 1, 1) := by decide +kernel
theorem dX1_mixFirst_22 : decode cX1_mixFirst 22 = .ok (.bipush 8, 2) := by decide +kernel
theorem dX1_mixFirst_24 : decode cX1_mixFirst 24 = .ok (.isub, 1) := by decide +kernel
theorem dX1_mixFirst_25 : decode cX1_mixFirst 25 = .ok (.iaload, 1) := by decide +kernel
theorem dX1_mixFirst_26 : decode cX1_mixFirst 26 = .ok (.ixor, 1) := by decide +kernel
theorem dX1_mixFirst_27 : decode cX1_mixFirst 27 = .ok (.aload_n 0, 1) := by decide +kernel
theorem dX1_mixFirst_28 : decode cX1_mixFirst 28 = .ok (.getfield 15, 3) := by decide +kernel
theorem dX1_mixFirst_31 : decode cX1_mixFirst 31 = .ok (.iload_n 1, 1) := by decide +kernel
theorem dX1_mixFirst_32 : decode cX1_mixFirst 32 = .ok (.bipush 14, 2) := by decide +kernel
theorem dX1_mixFirst_34 : decode cX1_mixFirst 34 = .ok (.isub, 1) := by decide +kernel
theorem dX1_mixFirst_35 : decode cX1_mixFirst 35 = .ok (.iaload, 1) := by decide +kernel
theorem dX1_mixFirst_36 : decode cX1_mixFirst 36 = .ok (.ixor, 1) := by decide +kernel
theorem dX1_mixFirst_37 : decode cX1_mixFirst 37 = .ok (.aload_n 0, 1) := by decide +kernel
theorem dX1_mixFirst_38 : decode cX1_mixFirst 38 = .ok (.getfield 15, 3) := by decide +kernel
theorem dX1_mixFirst_41 : decode cX1_mixFirst 41 = .ok (.iload_n 1, 1) := by decide +kernel
theorem dX1_mixFirst_42 : decode cX1_mixFirst 42 = .ok (.bipush 16, 2) := by decide +kernel
theorem dX1_mixFirst_44 : decode cX1_mixFirst 44 = .ok (.isub, 1) := by decide +kernel
theorem dX1_mixFirst_45 : decode cX1_mixFirst 45 = .ok (.iaload, 1) := by decide +kernel
theorem dX1_mixFirst_46 : decode cX1_mixFirst 46 = .ok (.ixor, 1) := by decide +kernel
theorem dX1_mixFirst_47 : decode cX1_mixFirst 47 = .ok (.istore_n 2, 1) := by decide +kernel
theorem dX1_mixFirst_48 : decode cX1_mixFirst 48 = .ok (.aload_n 0, 1) := by decide +kernel
theorem dX1_mixFirst_49 : decode cX1_mixFirst 49 = .ok (.getfield 15, 3) := by decide +kernel
theorem dX1_mixFirst_52 : decode cX1_mixFirst 52 = .ok (.iload_n 1, 1) := by decide +kernel
theorem dX1_mixFirst_53 : decode cX1_mixFirst 53 = .ok (.iload_n 2, 1) := by decide +kernel
theorem dX1_mixFirst_54 : decode cX1_mixFirst 54 = .ok (.iconst 1, 1) := by decide +kernel
theorem dX1_mixFirst_55 : decode cX1_mixFirst 55 = .ok (.ishl, 1) := by decide +kernel
theorem dX1_mixFirst_56 : decode cX1_mixFirst 56 = .ok (.iload_n 2, 1) := by decide +kernel
theorem dX1_mixFirst_57 : decode cX1_mixFirst 57 = .ok (.bipush 31, 2) := by decide +kernel
theorem dX1_mixFirst_59 : decode cX1_mixFirst 59 = .ok (.iushr, 1) := by decide +kernel
theorem dX1_mixFirst_60 : decode cX1_mixFirst 60 = .ok (.ior, 1) := by decide +kernel
theorem dX1_mixFirst_61 : decode cX1_mixFirst 61 = .ok (.iastore, 1) := by decide +kernel
theorem dX1_mixFirst_62 : decode cX1_mixFirst 62 = .ok (.iinc 1 1, 3) := by decide +kernel
theorem dX1_mixFirst_65 : decode cX1_mixFirst 65 = .ok (.goto (-62), 3) := by decide +kernel
theorem dX1_mixFirst_68 : decode cX1_mixFirst 68 = .ok (.aload_n 0, 1) := by decide +kernel
theorem dX1_mixFirst_69 : decode cX1_mixFirst 69 = .ok (.getfield 9, 3) := by decide +kernel
theorem dX1_mixFirst_72 : decode cX1_mixFirst 72 = .ok (.iconst 0, 1) := by decide +kernel
theorem dX1_mixFirst_73 : decode cX1_mixFirst 73 = .ok (.iaload, 1) := by decide +kernel
theorem dX1_mixFirst_74 : decode cX1_mixFirst 74 = .ok (.istore_n 1, 1) := by decide +kernel
theorem dX1_mixFirst_75 : decode cX1_mixFirst 75 = .ok (.aload_n 0, 1) := by decide +kernel
theorem dX1_mixFirst_76 : decode cX1_mixFirst 76 = .ok (.getfield 9, 3) := by decide +kernel
theorem dX1_mixFirst_79 : decode cX1_mixFirst 79 = .ok (.iconst 1, 1) := by decide +kernel
theorem dX1_mixFirst_80 : decode cX1_mixFirst 80 = .ok (.iaload, 1) := by decide +kernel
theorem dX1_mixFirst_81 : decode cX1_mixFirst 81 = .ok (.istore_n 2, 1) := by decide +kernel
theorem dX1_mixFirst_82 : decode cX1_mixFirst 82 = .ok (.aload_n 0, 1) := by decide +kernel
theorem dX1_mixFirst_83 : decode cX1_mixFirst 83 = .ok (.getfield 9, 3) := by decide +kernel
theorem dX1_mixFirst_86 : decode cX1_mixFirst 86 = .ok (.iconst 2, 1) := by decide +kernel
theorem dX1_mixFirst_87 : decode cX1_mixFirst 87 = .ok (.iaload, 1) := by decide +kernel
theorem dX1_mixFirst_88 : decode cX1_mixFirst 88 = .ok (.istore_n 3, 1) := by decide +kernel
theorem dX1_mixFirst_89 : decode cX1_mixFirst 89 = .ok (.aload_n 0, 1) := by decide +kernel
theorem dX1_mixFirst_90 : decode cX1_mixFirst 90 = .ok (.getfield 9, 3) := by decide +kernel
theorem dX1_mixFirst_93 : decode cX1_mixFirst 93 = .ok (.iconst 3, 1) := by decide +kernel
theorem dX1_mixFirst_94 : decode cX1_mixFirst 94 = .ok (.iaload, 1) := by decide +kernel
theorem dX1_mixFirst_95 : decode cX1_mixFirst 95 = .ok (.istore 4, 2) := by decide +kernel
theorem dX1_mixFirst_97 : decode cX1_mixFirst 97 = .ok (.aload_n 0, 1) := by decide +kernel
theorem dX1_mixFirst_98 : decode cX1_mixFirst 98 = .ok (.getfield 9, 3) := by decide +kernel
theorem dX1_mixFirst_101 : decode cX1_mixFirst 101 = .ok (.iconst 4, 1) := by decide +kernel
theorem dX1_mixFirst_102 : decode cX1_mixFirst 102 = .ok (.iaload, 1) := by decide +kernel
theorem dX1_mixFirst_103 : decode cX1_mixFirst 103 = .ok (.istore 5, 2) := by decide +kernel
theorem dX1_mixFirst_105 : decode cX1_mixFirst 105 = .ok (.iconst 0, 1) := by decide +kernel
theorem dX1_mixFirst_106 : decode cX1_mixFirst 106 = .ok (.istore 6, 2) := by decide +kernel
theorem dX1_mixFirst_108 : decode cX1_mixFirst 108 = .ok (.iload 6, 2) := by decide +kernel
theorem dX1_mixFirst_110 : decode cX1_mixFirst 110 = .ok (.bipush 80, 2) := by decide +kernel
theorem dX1_mixFirst_112 : decode cX1_mixFirst 112 = .ok (.if_icmp .ge 139, 3) := by decide +kernel
theorem dX1_mixFirst_115 : decode cX1_mixFirst 115 = .ok (.iload 6, 2) := by decide +kernel
theorem dX1_mixFirst_117 : decode cX1_mixFirst 117 = .ok (.bipush 20, 2) := by decide +kernel
theorem dX1_mixFirst_119 : decode cX1_mixFirst 119 = .ok (.if_icmp .ge 21, 3) := by decide +kernel
theorem dX1_mixFirst_122 : decode cX1_mixFirst 122 = .ok (.iload_n 2, 1) := by decide +kernel
theorem dX1_mixFirst_123 : decode cX1_mixFirst 123 = .ok (.iload_n 3, 1) := by decide +kernel
theorem dX1_mixFirst_124 : decode cX1_mixFirst 124 = .ok (.iand, 1) := by decide +kernel
theorem dX1_mixFirst_125 : decode cX1_mixFirst 125 = .ok (.iload_n 2, 1) := by decide +kernel
theorem dX1_mixFirst_126 : decode cX1_mixFirst 126 = .ok (.iconst (-1), 1) := by decide +kernel
theorem dX1_mixFirst_127 : decode cX1_mixFirst 127 = .ok (.ixor, 1) := by decide +kernel
theorem dX1_mixFirst_128 : decode cX1_mixFirst 128 = .ok (.iload 4, 2) := by decide +kernel
theorem dX1_mixFirst_130 : decode cX1_mixFirst 130 = .ok (.iand, 1) := by decide +kernel
theorem dX1_mixFirst_131 : decode cX1_mixFirst 131 = .ok (.ior, 1) := by decide +kernel
theorem dX1_mixFirst_132 : decode cX1_mixFirst 132 = .ok (.ldc 48, 2) := by decide +kernel
theorem dX1_mixFirst_134 : decode cX1_mixFirst 134 = .ok (.iadd, 1) := by decide +kernel
theorem dX1_mixFirst_135 : decode cX1_mixFirst 135 = .ok (.istore 7, 2) := by decide +kernel
theorem dX1_mixFirst_137 : decode cX1_mixFirst 137 = .ok (.goto 63, 3) := by decide +kernel
theorem dX1_mixFirst_140 : decode cX1_mixFirst 140 = .ok (.iload 6, 2) := by decide +kernel
theorem dX1_mixFirst_142 : decode cX1_mixFirst 142 = .ok (.bipush 40, 2) := by decide +kernel
theorem dX1_mixFirst_144 : decode cX1_mixFirst 144 = .ok (.if_icmp .ge 17, 3) := by decide +kernel
theorem dX1_mixFirst_147 : decode cX1_mixFirst 147 = .ok (.iload_n 2, 1) := by decide +kernel
theorem dX1_mixFirst_148 : decode cX1_mixFirst 148 = .ok (.iload_n 3, 1) := by decide +kernel
theorem dX1_mixFirst_149 : decode cX1_mixFirst 149 = .ok (.ixor, 1) := by decide +kernel
theorem dX1_mixFirst_150 : decode cX1_mixFirst 150 = .ok (.iload 4, 2) := by decide +kernel
theorem dX1_mixFirst_152 : decode cX1_mixFirst 152 = .ok (.ixor, 1) := by decide +kernel
theorem dX1_mixFirst_153 : decode cX1_mixFirst 153 = .ok (.ldc 49, 2) := by decide +kernel
theorem dX1_mixFirst_155 : decode cX1_mixFirst 155 = .ok (.iadd, 1) := by decide +kernel
theorem dX1_mixFirst_156 : decode cX1_mixFirst 156 = .ok (.istore 7, 2) := by decide +kernel
theorem dX1_mixFirst_158 : decode cX1_mixFirst 158 = .ok (.goto 42, 3) := by decide +kernel
theorem dX1_mixFirst_161 : decode cX1_mixFirst 161 = .ok (.iload 6, 2) := by decide +kernel
theorem dX1_mixFirst_163 : decode cX1_mixFirst 163 = .ok (.bipush 60, 2) := by decide +kernel
theorem dX1_mixFirst_165 : decode cX1_mixFirst 165 = .ok (.if_icmp .ge 24, 3) := by decide +kernel
theorem dX1_mixFirst_168 : decode cX1_mixFirst 168 = .ok (.iload_n 2, 1) := by decide +kernel
theorem dX1_mixFirst_169 : decode cX1_mixFirst 169 = .ok (.iload_n 3, 1) := by decide +kernel
theorem dX1_mixFirst_170 : decode cX1_mixFirst 170 = .ok (.iand, 1) := by decide +kernel
theorem dX1_mixFirst_171 : decode cX1_mixFirst 171 = .ok (.iload_n 2, 1) := by decide +kernel
theorem dX1_mixFirst_172 : decode cX1_mixFirst 172 = .ok (.iload 4, 2) := by decide +kernel
theorem dX1_mixFirst_174 : decode cX1_mixFirst 174 = .ok (.iand, 1) := by decide +kernel
theorem dX1_mixFirst_175 : decode cX1_mixFirst 175 = .ok (.ior, 1) := by decide +kernel
theorem dX1_mixFirst_176 : decode cX1_mixFirst 176 = .ok (.iload_n 3, 1) := by decide +kernel
theorem dX1_mixFirst_177 : decode cX1_mixFirst 177 = .ok (.iload 4, 2) := by decide +kernel
theorem dX1_mixFirst_179 : decode cX1_mixFirst 179 = .ok (.iand, 1) := by decide +kernel
theorem dX1_mixFirst_180 : decode cX1_mixFirst 180 = .ok (.ior, 1) := by decide +kernel
theorem dX1_mixFirst_181 : decode cX1_mixFirst 181 = .ok (.ldc 50, 2) := by decide +kernel
theorem dX1_mixFirst_183 : decode cX1_mixFirst 183 = .ok (.iadd, 1) := by decide +kernel
theorem dX1_mixFirst_184 : decode cX1_mixFirst 184 = .ok (.istore 7, 2) := by decide +kernel
theorem dX1_mixFirst_186 : decode cX1_mixFirst 186 = .ok (.goto 14, 3) := by decide +kernel
theorem dX1_mixFirst_189 : decode cX1_mixFirst 189 = .ok (.iload_n 2, 1) := by decide +kernel
theorem dX1_mixFirst_190 : decode cX1_mixFirst 190 = .ok (.iload_n 3, 1) := by decide +kernel
theorem dX1_mixFirst_191 : decode cX1_mixFirst 191 = .ok (.ixor, 1) := by decide +kernel
theorem dX1_mixFirst_192 : decode cX1_mixFirst 192 = .ok (.iload 4, 2) := by decide +kernel
theorem dX1_mixFirst_194 : decode cX1_mixFirst 194 = .ok (.ixor, 1) := by decide +kernel
theorem dX1_mixFirst_195 : decode cX1_mixFirst 195 = .ok (.ldc 51, 2) := by decide +kernel
theorem dX1_mixFirst_197 : decode cX1_mixFirst 197 = .ok (.iadd, 1) := by decide +kernel
theorem dX1_mixFirst_198 : decode cX1_mixFirst 198 = .ok (.istore 7, 2) := by decide +kernel
theorem dX1_mixFirst_200 : decode cX1_mixFirst 200 = .ok (.iload_n 1, 1) := by decide +kernel
theorem dX1_mixFirst_201 : decode cX1_mixFirst 201 = .ok (.iconst 5, 1) := by decide +kernel
theorem dX1_mixFirst_202 : decode cX1_mixFirst 202 = .ok (.ishl, 1) := by decide +kernel
theorem dX1_mixFirst_203 : decode cX1_mixFirst 203 = .ok (.iload_n 1, 1) := by decide +kernel
theorem dX1_mixFirst_204 : decode cX1_mixFirst 204 = .ok (.bipush 27, 2) := by decide +kernel
theorem dX1_mixFirst_206 : decode cX1_mixFirst 206 = .ok (.iushr, 1) := by decide +kernel
theorem dX1_mixFirst_207 : decode cX1_mixFirst 207 = .ok (.ior, 1) := by decide +kernel
theorem dX1_mixFirst_208 : decode cX1_mixFirst 208 = .ok (.iload 7, 2) := by decide +kernel
theorem dX1_mixFirst_210 : decode cX1_mixFirst 210 = .ok (.iadd, 1) := by decide +kernel
theorem dX1_mixFirst_211 : decode cX1_mixFirst 211 = .ok (.iload 5, 2) := by decide +kernel
theorem dX1_mixFirst_213 : decode cX1_mixFirst 213 = .ok (.iadd, 1) := by decide +kernel
theorem dX1_mixFirst_214 : decode cX1_mixFirst 214 = .ok (.aload_n 0, 1) := by decide +kernel
theorem dX1_mixFirst_215 : decode cX1_mixFirst 215 = .ok (.getfield 15, 3) := by decide +kernel
theorem dX1_mixFirst_218 : decode cX1_mixFirst 218 = .ok (.iload 6, 2) := by decide +kernel
theorem dX1_mixFirst_220 : decode cX1_mixFirst 220 = .ok (.iaload, 1) := by decide +kernel
theorem dX1_mixFirst_221 : decode cX1_mixFirst 221 = .ok (.iadd, 1) := by decide +kernel
theorem dX1_mixFirst_222 : decode cX1_mixFirst 222 = .ok (.istore 8, 2) := by decide +kernel
theorem dX1_mixFirst_224 : decode cX1_mixFirst 224 = .ok (.iload 4, 2) := by decide +kernel
theorem dX1_mixFirst_226 : decode cX1_mixFirst 226 = .ok (.istore 5, 2) := by decide +kernel
theorem dX1_mixFirst_228 : decode cX1_mixFirst 228 = .ok (.iload_n 3, 1) := by decide +kernel
theorem dX1_mixFirst_229 : decode cX1_mixFirst 229 = .ok (.istore 4, 2) := by decide +kernel
theorem dX1_mixFirst_231 : decode cX1_mixFirst 231 = .ok (.iload_n 2, 1) := by decide +kernel
theorem dX1_mixFirst_232 : decode cX1_mixFirst 232 = .ok (.bipush 30, 2) := by decide +kernel
theorem dX1_mixFirst_234 : decode cX1_mixFirst 234 = .ok (.ishl, 1) := by decide +kernel
theorem dX1_mixFirst_235 : decode cX1_mixFirst 235 = .ok (.iload_n 2, 1) := by decide +kernel
theorem dX1_mixFirst_236 : decode cX1_mixFirst 236 = .ok (.iconst 2, 1) := by decide +kernel
theorem dX1_mixFirst_237 : decode cX1_mixFirst 237 = .ok (.iushr, 1) := by decide +kernel
theorem dX1_mixFirst_238 : decode cX1_mixFirst 238 = .ok (.ior, 1) := by decide +kernel
theorem dX1_mixFirst_239 : decode cX1_mixFirst 239 = .ok (.istore_n 3, 1) := by decide +kernel
theorem dX1_mixFirst_240 : decode cX1_mixFirst 240 = .ok (.iload_n 1, 1) := by decide +kernel
theorem dX1_mixFirst_241 : decode cX1_mixFirst 241 = .ok (.istore_n 2, 1) := by decide +kernel
theorem dX1_mixFirst_242 : decode cX1_mixFirst 242 = .ok (.iload 8, 2) := by decide +kernel
theorem dX1_mixFirst_244 : decode cX1_mixFirst 244 = .ok (.istore_n 1, 1) := by decide +kernel
theorem dX1_mixFirst_245 : decode cX1_mixFirst 245 = .ok (.iinc 6 1, 3) := by decide +kernel
theorem dX1_mixFirst_248 : decode cX1_mixFirst 248 = .ok (.goto (-140), 3) := by decide +kernel
theorem dX1_mixFirst_251 : decode cX1_mixFirst 251 = .ok (.aload_n 0, 1) := by decide +kernel
theorem dX1_mixFirst_252 : decode cX1_mixFirst 252 = .ok (.getfield 9, 3) := by decide +kernel
theorem dX1_mixFirst_255 : decode cX1_mixFirst 255 = .ok (.iconst 0, 1) := by decide +kernel
theorem dX1_mixFirst_256 : decode cX1_mixFirst 256 = .ok (.dup2, 1) := by decide +kernel
theorem dX1_mixFirst_257 : decode cX1_mixFirst 257 = .ok (.iaload, 1) := by decide +kernel
theorem dX1_mixFirst_258 : decode cX1_mixFirst 258 = .ok (.iload_n 1, 1) := by decide +kernel
theorem dX1_mixFirst_259 : decode cX1_mixFirst 259 = .ok (.iadd, 1) := by decide +kernel
theorem dX1_mixFirst_260 : decode cX1_mixFirst 260 = .ok (.iastore, 1) := by decide +kernel
theorem dX1_mixFirst_261 : decode cX1_mixFirst 261 = .ok (.aload_n 0, 1) := by decide +kernel
theorem dX1_mixFirst_262 : decode cX1_mixFirst 262 = .ok (.getfield 9, 3) := by decide +kernel
theorem dX1_mixFirst_265 : decode cX1_mixFirst 265 = .ok (.iconst 1, 1) := by decide +kernel
theorem dX1_mixFirst_266 : decode cX1_mixFirst 266 = .ok (.dup2, 1) := by decide +kernel
theorem dX1_mixFirst_267 : decode cX1_mixFirst 267 = .ok (.iaload, 1) := by decide +kernel
theorem dX1_mixFirst_268 : decode cX1_mixFirst 268 = .ok (.iload_n 2, 1) := by decide +kernel
theorem dX1_mixFirst_269 : decode cX1_mixFirst 269 = .ok (.iadd, 1) := by decide +kernel
theorem dX1_mixFirst_270 : decode cX1_mixFirst 270 = .ok (.iastore, 1) := by decide +kernel
theorem dX1_mixFirst_271 : decode cX1_mixFirst 271 = .ok (.aload_n 0, 1) := by decide +kernel
theorem dX1_mixFirst_272 : decode cX1_mixFirst 272 = .ok (.getfield 9, 3) := by decide +kernel
theorem dX1_mixFirst_275 : decode cX1_mixFirst 275 = .ok (.iconst 2, 1) := by decide +kernel
theorem dX1_mixFirst_276 : decode cX1_mixFirst 276 = .ok (.dup2, 1) := by decide +kernel
theorem dX1_mixFirst_277 : decode cX1_mixFirst 277 = .ok (.iaload, 1) := by decide +kernel
theorem dX1_mixFirst_278 : decode cX1_mixFirst 278 = .ok (.iload_n 3, 1) := by decide +kernel
theorem dX1_mixFirst_279 : decode cX1_mixFirst 279 = .ok (.iadd, 1) := by decide +kernel
theorem dX1_mixFirst_280 : decode cX1_mixFirst 280 = .ok (.iastore, 1) := by decide +kernel
theorem dX1_mixFirst_281 : decode cX1_mixFirst 281 = .ok (.aload_n 0, 1) := by decide +kernel
theorem dX1_mixFirst_282 : decode cX1_mixFirst 282 = .ok (.getfield 9, 3) := by decide +kernel
theorem dX1_mixFirst_285 : decode cX1_mixFirst 285 = .ok (.iconst 3, 1) := by decide +kernel
theorem dX1_mixFirst_286 : decode cX1_mixFirst 286 = .ok (.dup2, 1) := by decide +kernel
theorem dX1_mixFirst_287 : decode cX1_mixFirst 287 = .ok (.iaload, 1) := by decide +kernel
theorem dX1_mixFirst_288 : decode cX1_mixFirst 288 = .ok (.iload 4, 2) := by decide +kernel
theorem dX1_mixFirst_290 : decode cX1_mixFirst 290 = .ok (.iadd, 1) := by decide +kernel
theorem dX1_mixFirst_291 : decode cX1_mixFirst 291 = .ok (.iastore, 1) := by decide +kernel
theorem dX1_mixFirst_292 : decode cX1_mixFirst 292 = .ok (.aload_n 0, 1) := by decide +kernel
theorem dX1_mixFirst_293 : decode cX1_mixFirst 293 = .ok (.getfield 9, 3) := by decide +kernel
theorem dX1_mixFirst_296 : decode cX1_mixFirst 296 = .ok (.iconst 4, 1) := by decide +kernel
theorem dX1_mixFirst_297 : decode cX1_mixFirst 297 = .ok (.dup2, 1) := by decide +kernel
theorem dX1_mixFirst_298 : decode cX1_mixFirst 298 = .ok (.iaload, 1) := by decide +kernel
theorem dX1_mixFirst_299 : decode cX1_mixFirst 299 = .ok (.iload 5, 2) := by decide +kernel
theorem dX1_mixFirst_301 : decode cX1_mixFirst 301 = .ok (.iadd, 1) := by decide +kernel
theorem dX1_mixFirst_302 : decode cX1_mixFirst 302 = .ok (.iastore, 1) := by decide +kernel
theorem dX1_mixFirst_303 : decode cX1_mixFirst 303 = .ok (.return_, 1) := by decide +kernel
theorem dX1_mixSecond_0 : decode cX1_mixSecond 0 = .ok (.bipush 16, 2) := by decide +kernel
theorem dX1_mixSecond_2 : decode cX1_mixSecond 2 = .ok (.istore_n 1, 1) := by decide +kernel
theorem dX1_mixSecond_3 : decode cX1_mixSecond 3 = .ok (.iload_n 1, 1) := by decide +kernel
theorem dX1_mixSecond_4 : decode cX1_mixSecond 4 = .ok (.bipush 64, 2) := by decide +kernel
theorem dX1_mixSecond_6 : decode cX1_mixSecond 6 = .ok (.if_icmp .ge 102, 3) := by decide +kernel
theorem dX1_mixSecond_9 : decode cX1_mixSecond 9 = .ok (.aload_n 0, 1) := by decide +kernel
theorem dX1_mixSecond_10 : decode cX1_mixSecond 10 = .ok (.getfield 15, 3) := by decide +kernel
theorem dX1_mixSecond_13 : decode cX1_mixSecond 13 = .ok (.iload_n 1, 1) := by decide +kernel
theorem dX1_mixSecond_14 : decode cX1_mixSecond 14 = .ok (.bipush 15, 2) := by decide +kernel
theorem dX1_mixSecond_16 : decode cX1_mixSecond 16 = .ok (.isub, 1) := by decide +kernel
theorem dX1_mixSecond_17 : decode cX1_mixSecond 17 = .ok (.iaload, 1) := by decide +kernel
theorem dX1_mixSecond_18 : decode cX1_mixSecond 18 = .ok (.istore_n 2, 1) := by decide +kernel
theorem dX1_mixSecond_19 : decode cX1_mixSecond 19 = .ok (.aload_n 0, 1) := by decide +kernel
theorem dX1_mixSecond_20 : decode cX1_mixSecond 20 = .ok (.getfield 15, 3) := by decide +kernel
theorem dX1_mixSecond_23 : decode cX1_mixSecond 23 = .ok (.iload_n 1, 1) := by decide +kernel
theorem dX1_mixSecond_24 : decode cX1_mixSecond 24 = .ok (.iconst 2, 1) := by decide +kernel
theorem dX1_mixSecond_25 : decode cX1_mixSecond 25 = .ok (.isub, 1) := by decide +kernel
theorem dX1_mixSecond_26 : decode cX1_mixSecond 26 = .ok (.iaload, 1) := by decide +kernel
theorem dX1_mixSecond_27 : decode cX1_mixSecond 27 = .ok (.istore_n 3, 1) := by decide +kernel
theorem dX1_mixSecond_28 : decode cX1_mixSecond 28 = .ok (.aload_n 0, 1) := by decide +kernel
theorem dX1_mixSecond_29 : decode cX1_mixSecond 29 = .ok (.getfield 15, 3) := by decide +kernel
theorem dX1_mixSecond_32 : decode cX1_mixSecond 32 = .ok (.iload_n 1, 1) := by decide +kernel
theorem dX1_mixSecond_33 : decode cX1_mixSecond 33 = .ok (.iload_n 2, 1) := by decide +kernel
theorem dX1_mixSecond_34 : decode cX1_mixSecond 34 = .ok (.bipush 7, 2) := by decide +kernel
theorem dX1_mixSecond_36 : decode cX1_mixSecond 36 = .ok (.iushr, 1) := by decide +kernel
theorem dX1_mixSecond_37 : decode cX1_mixSecond 37 = .ok (.iload_n 2, 1) := by decide +kernel
theorem dX1_mixSecond_38 : decode cX1_mixSecond 38 = .ok (.bipush 25, 2) := by decide +kernel
theorem dX1_mixSecond_40 : decode cX1_mixSecond 40 = .ok (.ishl, 1) := by decide +kernel
theorem dX1_mixSecond_41 : decode cX1_mixSecond 41 = .ok (.ior, 1) := by decide +kernel
theorem dX1_mixSecond_42 : decode cX1_mixSecond 42 = .ok (.iload_n 2, 1) := by decide +kernel
theorem dX1_mixSecond_43 : decode cX1_mixSecond 43 = .ok (.bipush 18, 2) := by decide +kernel
theorem dX1_mixSecond_45 : decode cX1_mixSecond 45 = .ok (.iushr, 1) := by decide +kernel
theorem dX1_mixSecond_46 : decode cX1_mixSecond 46 = .ok (.iload_n 2, 1) := by decide +kernel
theorem dX1_mixSecond_47 : decode cX1_mixSecond 47 = .ok (.bipush 14, 2) := by decide +kernel
theorem dX1_mixSecond_49 : decode cX1_mixSecond 49 = .ok (.ishl, 1) := by decide +kernel
theorem dX1_mixSecond_50 : decode cX1_mixSecond 50 = .ok (.ior, 1) := by decide +kernel
theorem dX1_mixSecond_51 : decode cX1_mixSecond 51 = .ok (.ixor, 1) := by decide +kernel
theorem dX1_mixSecond_52 : decode cX1_mixSecond 52 = .ok (.iload_n 2, 1) := by decide +kernel
theorem dX1_mixSecond_53 : decode cX1_mixSecond 53 = .ok (.iconst 3, 1) := by decide +kernel
theorem dX1_mixSecond_54 : decode cX1_mixSecond 54 = .ok (.iushr, 1) := by decide +kernel
theorem dX1_mixSecond_55 : decode cX1_mixSecond 55 = .ok (.ixor, 1) := by decide +kernel
theorem dX1_mixSecond_56 : decode cX1_mixSecond 56 = .ok (.aload_n 0, 1) := by decide +kernel
theorem dX1_mixSecond_57 : decode cX1_mixSecond 57 = .ok (.getfield 15, 3) := by decide +kernel
theorem dX1_mixSecond_60 : decode cX1_mixSecond 60 = .ok (.iload_n 1, 1) := by decide +kernel
theorem dX1_mixSecond_61 : decode cX1_mixSecond 61 = .ok (.bipush 16, 2) := by decide +kernel
theorem dX1_mixSecond_63 : decode cX1_mixSecond 63 = .ok (.isub, 1) := by decide +kernel
theorem dX1_mixSecond_64 : decode cX1_mixSecond 64 = .ok (.iaload, 1) := by decide +kernel
theorem dX1_mixSecond_65 : decode cX1_mixSecond 65 = .ok (.iadd, 1) := by decide +kernel
theorem dX1_mixSecond_66 : decode cX1_mixSecond 66 = .ok (.iload_n 3, 1) := by decide +kernel
theorem dX1_mixSecond_67 : decode cX1_mixSecond 67 = .ok (.bipush 17, 2) := by decide +kernel
theorem dX1_mixSecond_69 : decode cX1_mixSecond 69 = .ok (.iushr, 1) := by decide +kernel
theorem dX1_mixSecond_70 : decode cX1_mixSecond 70 = .ok (.iload_n 3, 1) := by decide +kernel
theorem dX1_mixSecond_71 : decode cX1_mixSecond 71 = .ok (.bipush 15, 2) := by decide +kernel
theorem dX1_mixSecond_73 : decode cX1_mixSecond 73 = .ok (.ishl, 1) := by decide +kernel
theorem dX1_mixSecond_74 : decode cX1_mixSecond 74 = .ok (.ior, 1) := by decide +kernel
theorem dX1_mixSecond_75 : decode cX1_mixSecond 75 = .ok (.iload_n 3, 1) := by decide +kernel
theorem dX1_mixSecond_76 : decode cX1_mixSecond 76 = .ok (.bipush 19, 2) := by decide +kernel
theorem dX1_mixSecond_78 : decode cX1_mixSecond 78 = .ok (.iushr, 1) := by decide +kernel
theorem dX1_mixSecond_79 : decode cX1_mixSecond 79 = .ok (.iload_n 3, 1) := by decide +kernel
theorem dX1_mixSecond_80 : decode cX1_mixSecond 80 = .ok (.bipush 13, 2) := by decide +kernel
theorem dX1_mixSecond_82 : decode cX1_mixSecond 82 = .ok (.ishl, 1) := by decide +kernel
theorem dX1_mixSecond_83 : decode cX1_mixSecond 83 = .ok (.ior, 1) := by decide +kernel
theorem dX1_mixSecond_84 : decode cX1_mixSecond 84 = .ok (.ixor, 1) := by decide +kernel
theorem dX1_mixSecond_85 : decode cX1_mixSecond 85 = .ok (.iload_n 3, 1) := by decide +kernel
theorem dX1_mixSecond_86 : decode cX1_mixSecond 86 = .ok (.bipush 10, 2) := by decide +kernel
theorem dX1_mixSecond_88 : decode cX1_mixSecond 88 = .ok (.iushr, 1) := by decide +kernel
theorem dX1_mixSecond_89 : decode cX1_mixSecond 89 = .ok (.ixor, 1) := by decide +kernel
theorem dX1_mixSecond_90 : decode cX1_mixSecond 90 = .ok (.iadd, 1) := by decide +kernel
theorem dX1_mixSecond_91 : decode cX1_mixSecond 91 = .ok (.aload_n 0, 1) := by decide +kernel
theorem dX1_mixSecond_92 : decode cX1_mixSecond 92 = .ok (.getfield 15, 3) := by decide +kernel
theorem dX1_mixSecond_95 : decode cX1_mixSecond 95 = .ok (.iload_n 1, 1) := by decide +kernel
theorem dX1_mixSecond_96 : decode cX1_mixSecond 96 = .ok (.bipush 7, 2) := by decide +kernel
theorem dX1_mixSecond_98 : decode cX1_mixSecond 98 = .ok (.isub, 1) := by decide +kernel
theorem dX1_mixSecond_99 : decode cX1_mixSecond 99 = .ok (.iaload, 1) := by decide +kernel
theorem dX1_mixSecond_100 : decode cX1_mixSecond 100 = .ok (.iadd, 1) := by decide +kernel
theorem dX1_mixSecond_101 : decode cX1_mixSecond 101 = .ok (.iastore, 1) := by decide +kernel
theorem dX1_mixSecond_102 : decode cX1_mixSecond 102 = .ok (.iinc 1 1, 3) := by decide +kernel
theorem dX1_mixSecond_105 : decode cX1_mixSecond 105 = .ok (.goto (-102), 3) := by decide +kernel
theorem dX1_mixSecond_108 : decode cX1_mixSecond 108 = .ok (.aload_n 0, 1) := by decide +kernel
theorem dX1_mixSecond_109 : decode cX1_mixSecond 109 = .ok (.getfield 9, 3) := by decide +kernel
theorem dX1_mixSecond_112 : decode cX1_mixSecond 112 = .ok (.iconst 0, 1) := by decide +kernel
theorem dX1_mixSecond_113 : decode cX1_mixSecond 113 = .ok (.iaload, 1) := by decide +kernel
theorem dX1_mixSecond_114 : decode cX1_mixSecond 114 = .ok (.istore_n 1, 1) := by decide +kernel
theorem dX1_mixSecond_115 : decode cX1_mixSecond 115 = .ok (.aload_n 0, 1) := by decide +kernel
theorem dX1_mixSecond_116 : decode cX1_mixSecond 116 = .ok (.getfield 9, 3) := by decide +kernel
theorem dX1_mixSecond_119 : decode cX1_mixSecond 119 = .ok (.iconst 1, 1) := by decide +kernel
theorem dX1_mixSecond_120 : decode cX1_mixSecond 120 = .ok (.iaload, 1) := by decide +kernel
theorem dX1_mixSecond_121 : decode cX1_mixSecond 121 = .ok (.istore_n 2, 1) := by decide +kernel
theorem dX1_mixSecond_122 : decode cX1_mixSecond 122 = .ok (.aload_n 0, 1) := by decide +kernel
theorem dX1_mixSecond_123 : decode cX1_mixSecond 123 = .ok (.getfield 9, 3) := by decide +kernel
theorem dX1_mixSecond_126 : decode cX1_mixSecond 126 = .ok (.iconst 2, 1) := by decide +kernel
theorem dX1_mixSecond_127 : decode cX1_mixSecond 127 = .ok (.iaload, 1) := by decide +kernel
theorem dX1_mixSecond_128 : decode cX1_mixSecond 128 = .ok (.istore_n 3, 1) := by decide +kernel
theorem dX1_mixSecond_129 : decode cX1_mixSecond 129 = .ok (.aload_n 0, 1) := by decide +kernel
theorem dX1_mixSecond_130 : decode cX1_mixSecond 130 = .ok (.getfield 9, 3) := by decide +kernel
theorem dX1_mixSecond_133 : decode cX1_mixSecond 133 = .ok (.iconst 3, 1) := by decide +kernel
theorem dX1_mixSecond_134 : decode cX1_mixSecond 134 = .ok (.iaload, 1) := by decide +kernel
theorem dX1_mixSecond_135 : decode cX1_mixSecond 135 = .ok (.istore 4, 2) := by decide +kernel
theorem dX1_mixSecond_137 : decode cX1_mixSecond 137 = .ok (.aload_n 0, 1) := by decide +kernel
theorem dX1_mixSecond_138 : decode cX1_mixSecond 138 = .ok (.getfield 9, 3) := by decide +kernel
theorem dX1_mixSecond_141 : decode cX1_mixSecond 141 = .ok (.iconst 4, 1) := by decide +kernel
theorem dX1_mixSecond_142 : decode cX1_mixSecond 142 = .ok (.iaload, 1) := by decide +kernel
theorem dX1_mixSecond_143 : decode cX1_mixSecond 143 = .ok (.istore 5, 2) := by decide +kernel
theorem dX1_mixSecond_145 : decode cX1_mixSecond 145 = .ok (.aload_n 0, 1) := by decide +kernel
theorem dX1_mixSecond_146 : decode cX1_mixSecond 146 = .ok (.getfield 9, 3) := by decide +kernel
theorem dX1_mixSecond_149 : decode cX1_mixSecond 149 = .ok (.iconst 5, 1) := by decide +kernel
theorem dX1_mixSecond_150 : decode cX1_mixSecond 150 = .ok (.iaload, 1) := by decide +kernel
theorem dX1_mixSecond_151 : decode cX1_mixSecond 151 = .ok (.istore 6, 2) := by decide +kernel
theorem dX1_mixSecond_153 : decode cX1_mixSecond 153 = .ok (.aload_n 0, 1) := by decide +kernel
theorem dX1_mixSecond_154 : decode cX1_mixSecond 154 = .ok (.getfield 9, 3) := by decide +kernel
theorem dX1_mixSecond_157 : decode cX1_mixSecond 157 = .ok (.bipush 6, 2) := by decide +kernel
theorem dX1_mixSecond_159 : decode cX1_mixSecond 159 = .ok (.iaload, 1) := by decide +kernel
theorem dX1_mixSecond_160 : decode cX1_mixSecond 160 = .ok (.istore 7, 2) := by decide +kernel
theorem dX1_mixSecond_162 : decode cX1_mixSecond 162 = .ok (.aload_n 0, 1) := by decide +kernel
theorem dX1_mixSecond_163 : decode cX1_mixSecond 163 = .ok (.getfield 9, 3) := by decide +kernel
theorem dX1_mixSecond_166 : decode cX1_mixSecond 166 = .ok (.bipush 7, 2) := by decide +kernel
theorem dX1_mixSecond_168 : decode cX1_mixSecond 168 = .ok (.iaload, 1) := by decide +kernel
theorem dX1_mixSecond_169 : decode cX1_mixSecond 169 = .ok (.istore 8, 2) := by decide +kernel
theorem dX1_mixSecond_171 : decode cX1_mixSecond 171 = .ok (.iconst 0, 1) := by decide +kernel
theorem dX1_mixSecond_172 : decode cX1_mixSecond 172 = .ok (.istore 9, 2) := by decide +kernel
theorem dX1_mixSecond_174 : decode cX1_mixSecond 174 = .ok (.iload 9, 2) := by decide +kernel
theorem dX1_mixSecond_176 : decode cX1_mixSecond 176 = .ok (.bipush 64, 2) := by decide +kernel
theorem dX1_mixSecond_178 : decode cX1_mixSecond 178 = .ok (.if_icmp .ge 152, 3) := by decide +kernel
theorem dX1_mixSecond_181 : decode cX1_mixSecond 181 = .ok (.iload 8, 2) := by decide +kernel
theorem dX1_mixSecond_183 : decode cX1_mixSecond 183 = .ok (.iload 5, 2) := by decide +kernel
theorem dX1_mixSecond_185 : decode cX1_mixSecond 185 = .ok (.bipush 6, 2) := by decide +kernel
theorem dX1_mixSecond_187 : decode cX1_mixSecond 187 = .ok (.iushr, 1) := by decide +kernel
theorem dX1_mixSecond_188 : decode cX1_mixSecond 188 = .ok (.iload 5, 2) := by decide +kernel
theorem dX1_mixSecond_190 : decode cX1_mixSecond 190 = .ok (.bipush 26, 2) := by decide +kernel
theorem dX1_mixSecond_192 : decode cX1_mixSecond 192 = .ok (.ishl, 1) := by decide +kernel
theorem dX1_mixSecond_193 : decode cX1_mixSecond 193 = .ok (.ior, 1) := by decide +kernel
theorem dX1_mixSecond_194 : decode cX1_mixSecond 194 = .ok (.iload 5, 2) := by decide +kernel
theorem dX1_mixSecond_196 : decode cX1_mixSecond 196 = .ok (.bipush 11, 2) := by decide +kernel
theorem dX1_mixSecond_198 : decode cX1_mixSecond 198 = .ok (.iushr, 1) := by decide +kernel
theorem dX1_mixSecond_199 : decode cX1_mixSecond 199 = .ok (.iload 5, 2) := by decide +kernel
theorem dX1_mixSecond_201 : decode cX1_mixSecond 201 = .ok (.bipush 21, 2) := by decide +kernel
theorem dX1_mixSecond_203 : decode cX1_mixSecond 203 = .ok (.ishl, 1) := by decide +kernel
theorem dX1_mixSecond_204 : decode cX1_mixSecond 204 = .ok (.ior, 1) := by decide +kernel
theorem dX1_mixSecond_205 : decode cX1_mixSecond 205 = .ok (.ixor, 1) := by decide +kernel
theorem dX1_mixSecond_206 : decode cX1_mixSecond 206 = .ok (.iload 5, 2) := by decide +kernel
theorem dX1_mixSecond_208 : decode cX1_mixSecond 208 = .ok (.bipush 25, 2) := by decide +kernel
theorem dX1_mixSecond_210 : decode cX1_mixSecond 210 = .ok (.iushr, 1) := by decide +kernel
theorem dX1_mixSecond_211 : decode cX1_mixSecond 211 = .ok (.iload 5, 2) := by decide +kernel
theorem dX1_mixSecond_213 : decode cX1_mixSecond 213 = .ok (.bipush 7, 2) := by decide +kernel
theorem dX1_mixSecond_215 : decode cX1_mixSecond 215 = .ok (.ishl, 1) := by decide +kernel
theorem dX1_mixSecond_216 : decode cX1_mixSecond 216 = .ok (.ior, 1) := by decide +kernel
theorem dX1_mixSecond_217 : decode cX1_mixSecond 217 = .ok (.ixor, 1) := by decide +kernel
theorem dX1_mixSecond_218 : decode cX1_mixSecond 218 = .ok (.iadd, 1) := by decide +kernel
theorem dX1_mixSecond_219 : decode cX1_mixSecond 219 = .ok (.iload 5, 2) := by decide +kernel
theorem dX1_mixSecond_221 : decode cX1_mixSecond 221 = .ok (.iload 6, 2) := by decide +kernel
theorem dX1_mixSecond_223 : decode cX1_mixSecond 223 = .ok (.iand, 1) := by decide +kernel
theorem dX1_mixSecond_224 : decode cX1_mixSecond 224 = .ok (.iload 5, 2) := by decide +kernel
theorem dX1_mixSecond_226 : decode cX1_mixSecond 226 = .ok (.iconst (-1), 1) := by decide +kernel
theorem dX1_mixSecond_227 : decode cX1_mixSecond 227 = .ok (.ixor, 1) := by decide +kernel
theorem dX1_mixSecond_228 : decode cX1_mixSecond 228 = .ok (.iload 7, 2) := by decide +kernel
theorem dX1_mixSecond_230 : decode cX1_mixSecond 230 = .ok (.iand, 1) := by decide +kernel
theorem dX1_mixSecond_231 : decode cX1_mixSecond 231 = .ok (.ixor, 1) := by decide +kernel
theorem dX1_mixSecond_232 : decode cX1_mixSecond 232 = .ok (.iadd, 1) := by decide +kernel
theorem dX1_mixSecond_233 : decode cX1_mixSecond 233 = .ok (.getstatic 52, 3) := by decide +kernel
theorem dX1_mixSecond_236 : decode cX1_mixSecond 236 = .ok (.iload 9, 2) := by decide +kernel
theorem dX1_mixSecond_238 : decode cX1_mixSecond 238 = .ok (.iaload, 1) := by decide +kernel
theorem dX1_mixSecond_239 : decode cX1_mixSecond 239 = .ok (.iadd, 1) := by decide +kernel
theorem dX1_mixSecond_240 : decode cX1_mixSecond 240 = .ok (.aload_n 0, 1) := by decide +kernel
theorem dX1_mixSecond_241 : decode cX1_mixSecond 241 = .ok (.getfield 15, 3) := by decide +kernel
theorem dX1_mixSecond_244 : decode cX1_mixSecond 244 = .ok (.iload 9, 2) := by decide +kernel
theorem dX1_mixSecond_246 : decode cX1_mixSecond 246 = .ok (.iaload, 1) := by decide +kernel
theorem dX1_mixSecond_247 : decode cX1_mixSecond 247 = .ok (.iadd, 1) := by decide +kernel
theorem dX1_mixSecond_248 : decode cX1_mixSecond 248 = .ok (.istore 10, 2) := by decide +kernel
theorem dX1_mixSecond_250 : decode cX1_mixSecond 250 = .ok (.iload_n 1, 1) := by decide +kernel
theorem dX1_mixSecond_251 : decode cX1_mixSecond 251 = .ok (.iconst 2, 1) := by decide +kernel
theorem dX1_mixSecond_252 : decode cX1_mixSecond 252 = .ok (.iushr, 1) := by decide +kernel
theorem dX1_mixSecond_253 : decode cX1_mixSecond 253 = .ok (.iload_n 1, 1) := by decide +kernel
theorem dX1_mixSecond_254 : decode cX1_mixSecond 254 = .ok (.bipush 30, 2) := by decide +kernel
theorem dX1_mixSecond_256 : decode cX1_mixSecond 256 = .ok (.ishl, 1) := by decide +kernel
theorem dX1_mixSecond_257 : decode cX1_mixSecond 257 = .ok (.ior, 1) := by decide +kernel
theorem dX1_mixSecond_258 : decode cX1_mixSecond 258 = .ok (.iload_n 1, 1) := by decide +kernel
theorem dX1_mixSecond_259 : decode cX1_mixSecond 259 = .ok (.bipush 13, 2) := by decide +kernel
theorem dX1_mixSecond_261 : decode cX1_mixSecond 261 = .ok (.iushr, 1) := by decide +kernel
theorem dX1_mixSecond_262 : decode cX1_mixSecond 262 = .ok (.iload_n 1, 1) := by decide +kernel
theorem dX1_mixSecond_263 : decode cX1_mixSecond 263 = .ok (.bipush 19, 2) := by decide +kernel
theorem dX1_mixSecond_265 : decode cX1_mixSecond 265 = .ok (.ishl, 1) := by decide +kernel
theorem dX1_mixSecond_266 : decode cX1_mixSecond 266 = .ok (.ior, 1) := by decide +kernel
theorem dX1_mixSecond_267 : decode cX1_mixSecond 267 = .ok (.ixor, 1) := by decide +kernel
theorem dX1_mixSecond_268 : decode cX1_mixSecond 268 = .ok (.iload_n 1, 1) := by decide +kernel
theorem dX1_mixSecond_269 : decode cX1_mixSecond 269 = .ok (.bipush 22, 2) := by decide +kernel
theorem dX1_mixSecond_271 : decode cX1_mixSecond 271 = .ok (.iushr, 1) := by decide +kernel
theorem dX1_mixSecond_272 : decode cX1_mixSecond 272 = .ok (.iload_n 1, 1) := by decide +kernel
theorem dX1_mixSecond_273 : decode cX1_mixSecond 273 = .ok (.bipush 10, 2) := by decide +kernel
theorem dX1_mixSecond_275 : decode cX1_mixSecond 275 = .ok (.ishl, 1) := by decide +kernel
theorem dX1_mixSecond_276 : decode cX1_mixSecond 276 = .ok (.ior, 1) := by decide +kernel
theorem dX1_mixSecond_277 : decode cX1_mixSecond 277 = .ok (.ixor, 1) := by decide +kernel
theorem dX1_mixSecond_278 : decode cX1_mixSecond 278 = .ok (.iload_n 1, 1) := by decide +kernel
theorem dX1_mixSecond_279 : decode cX1_mixSecond 279 = .ok (.iload_n 2, 1) := by decide +kernel
theorem dX1_mixSecond_280 : decode cX1_mixSecond 280 = .ok (.iand, 1) := by decide +kernel
theorem dX1_mixSecond_281 : decode cX1_mixSecond 281 = .ok (.iload_n 1, 1) := by decide +kernel
theorem dX1_mixSecond_282 : decode cX1_mixSecond 282 = .ok (.iload_n 3, 1) := by decide +kernel
theorem dX1_mixSecond_283 : decode cX1_mixSecond 283 = .ok (.iand, 1) := by decide +kernel
theorem dX1_mixSecond_284 : decode cX1_mixSecond 284 = .ok (.ixor, 1) := by decide +kernel
theorem dX1_mixSecond_285 : decode cX1_mixSecond 285 = .ok (.iload_n 2, 1) := by decide +kernel
theorem dX1_mixSecond_286 : decode cX1_mixSecond 286 = .ok (.iload_n 3, 1) := by decide +kernel
theorem dX1_mixSecond_287 : decode cX1_mixSecond 287 = .ok (.iand, 1) := by decide +kernel
theorem dX1_mixSecond_288 : decode cX1_mixSecond 288 = .ok (.ixor, 1) := by decide +kernel
theorem dX1_mixSecond_289 : decode cX1_mixSecond 289 = .ok (.iadd, 1) := by decide +kernel
theorem dX1_mixSecond_290 : decode cX1_mixSecond 290 = .ok (.istore 11, 2) := by decide +kernel
theorem dX1_mixSecond_292 : decode cX1_mixSecond 292 = .ok (.iload 7, 2) := by decide +kernel
theorem dX1_mixSecond_294 : decode cX1_mixSecond 294 = .ok (.istore 8, 2) := by decide +kernel
theorem dX1_mixSecond_296 : decode cX1_mixSecond 296 = .ok (.iload 6, 2) := by decide +kernel
theorem dX1_mixSecond_298 : decode cX1_mixSecond 298 = .ok (.istore 7, 2) := by decide +kernel
theorem dX1_mixSecond_300 : decode cX1_mixSecond 300 = .ok (.iload 5, 2) := by decide +kernel
theorem dX1_mixSecond_302 : decode cX1_mixSecond 302 = .ok (.istore 6, 2) := by decide +kernel
theorem dX1_mixSecond_304 : decode cX1_mixSecond 304 = .ok (.iload 4, 2) := by decide +kernel
theorem dX1_mixSecond_306 : decode cX1_mixSecond 306 = .ok (.iload 10, 2) := by decide +kernel
theorem dX1_mixSecond_308 : decode cX1_mixSecond 308 = .ok (.iadd, 1) := by decide +kernel
theorem dX1_mixSecond_309 : decode cX1_mixSecond 309 = .ok (.istore 5, 2) := by decide +kernel
theorem dX1_mixSecond_311 : decode cX1_mixSecond 311 = .ok (.iload_n 3, 1) := by decide +kernel
theorem dX1_mixSecond_312 : decode cX1_mixSecond 312 = .ok (.istore 4, 2) := by decide +kernel
theorem dX1_mixSecond_314 : decode cX1_mixSecond 314 = .ok (.iload_n 2, 1) := by decide +kernel
theorem dX1_mixSecond_315 : decode cX1_mixSecond 315 = .ok (.istore_n 3, 1) := by decide +kernel
theorem dX1_mixSecond_316 : decode cX1_mixSecond 316 = .ok (.iload_n 1, 1) := by decide +kernel
theorem dX1_mixSecond_317 : decode cX1_mixSecond 317 = .ok (.istore_n 2, 1) := by decide +kernel
theorem dX1_mixSecond_318 : decode cX1_mixSecond 318 = .ok (.iload 10, 2) := by decide +kernel
theorem dX1_mixSecond_320 : decode cX1_mixSecond 320 = .ok (.iload 11, 2) := by decide +kernel
theorem dX1_mixSecond_322 : decode cX1_mixSecond 322 = .ok (.iadd, 1) := by decide +kernel
theorem dX1_mixSecond_323 : decode cX1_mixSecond 323 = .ok (.istore_n 1, 1) := by decide +kernel
theorem dX1_mixSecond_324 : decode cX1_mixSecond 324 = .ok (.iinc 9 1, 3) := by decide +kernel
theorem dX1_mixSecond_327 : decode cX1_mixSecond 327 = .ok (.goto (-153), 3) := by decide +kernel
theorem dX1_mixSecond_330 : decode cX1_mixSecond 330 = .ok (.aload_n 0, 1) := by decide +kernel
theorem dX1_mixSecond_331 : decode cX1_mixSecond 331 = .ok (.getfield 9, 3) := by decide +kernel
theorem dX1_mixSecond_334 : decode cX1_mixSecond 334 = .ok (.iconst 0, 1) := by decide +kernel
theorem dX1_mixSecond_335 : decode cX1_mixSecond 335 = .ok (.dup2, 1) := by decide +kernel
theorem dX1_mixSecond_336 : decode cX1_mixSecond 336 = .ok (.iaload, 1) := by decide +kernel
theorem dX1_mixSecond_337 : decode cX1_mixSecond 337 = .ok (.iload_n 1, 1) := by decide +kernel
theorem dX1_mixSecond_338 : decode cX1_mixSecond 338 = .ok (.iadd, 1) := by decide +kernel
theorem dX1_mixSecond_339 : decode cX1_mixSecond 339 = .ok (.iastore, 1) := by decide +kernel
theorem dX1_mixSecond_340 : decode cX1_mixSecond 340 = .ok (.aload_n 0, 1) := by decide +kernel
theorem dX1_mixSecond_341 : decode cX1_mixSecond 341 = .ok (.getfield 9, 3) := by decide +kernel
theorem dX1_mixSecond_344 : decode cX1_mixSecond 344 = .ok (.iconst 1, 1) := by decide +kernel
theorem dX1_mixSecond_345 : decode cX1_mixSecond 345 = .ok (.dup2, 1) := by decide +kernel
theorem dX1_mixSecond_346 : decode cX1_mixSecond 346 = .ok (.iaload, 1) := by decide +kernel
theorem dX1_mixSecond_347 : decode cX1_mixSecond 347 = .ok (.iload_n 2, 1) := by decide +kernel
theorem dX1_mixSecond_348 : decode cX1_mixSecond 348 = .ok (.iadd, 1) := by decide +kernel
theorem dX1_mixSecond_349 : decode cX1_mixSecond 349 = .ok (.iastore, 1) := by decide +kernel
theorem dX1_mixSecond_350 : decode cX1_mixSecond 350 = .ok (.aload_n 0, 1) := by decide +kernel
theorem dX1_mixSecond_351 : decode cX1_mixSecond 351 = .ok (.getfield 9, 3) := by decide +kernel
theorem dX1_mixSecond_354 : decode cX1_mixSecond 354 = .ok (.iconst 2, 1) := by decide +kernel
theorem dX1_mixSecond_355 : decode cX1_mixSecond 355 = .ok (.dup2, 1) := by decide +kernel
theorem dX1_mixSecond_356 : decode cX1_mixSecond 356 = .ok (.iaload, 1) := by decide +kernel
theorem dX1_mixSecond_357 : decode cX1_mixSecond 357 = .ok (.iload_n 3, 1) := by decide +kernel
theorem dX1_mixSecond_358 : decode cX1_mixSecond 358 = .ok (.iadd, 1) := by decide +kernel
theorem dX1_mixSecond_359 : decode cX1_mixSecond 359 = .ok (.iastore, 1) := by decide +kernel
theorem dX1_mixSecond_360 : decode cX1_mixSecond 360 = .ok (.aload_n 0, 1) := by decide +kernel
theorem dX1_mixSecond_361 : decode cX1_mixSecond 361 = .ok (.getfield 9, 3) := by decide +kernel
theorem dX1_mixSecond_364 : decode cX1_mixSecond 364 = .ok (.iconst 3, 1) := by decide +kernel
theorem dX1_mixSecond_365 : decode cX1_mixSecond 365 = .ok (.dup2, 1) := by decide +kernel
theorem dX1_mixSecond_366 : decode cX1_mixSecond 366 = .ok (.iaload, 1) := by decide +kernel
theorem dX1_mixSecond_367 : decode cX1_mixSecond 367 = .ok (.iload 4, 2) := by decide +kernel
theorem dX1_mixSecond_369 : decode cX1_mixSecond 369 = .ok (.iadd, 1) := by decide +kernel
theorem dX1_mixSecond_370 : decode cX1_mixSecond 370 = .ok (.iastore, 1) := by decide +kernel
theorem dX1_mixSecond_371 : decode cX1_mixSecond 371 = .ok (.aload_n 0, 1) := by decide +kernel
theorem dX1_mixSecond_372 : decode cX1_mixSecond 372 = .ok (.getfield 9, 3) := by decide +kernel
theorem dX1_mixSecond_375 : decode cX1_mixSecond 375 = .ok (.iconst 4, 1) := by decide +kernel
theorem dX1_mixSecond_376 : decode cX1_mixSecond 376 = .ok (.dup2, 1) := by decide +kernel
theorem dX1_mixSecond_377 : decode cX1_mixSecond 377 = .ok (.iaload, 1) := by decide +kernel
theorem dX1_mixSecond_378 : decode cX1_mixSecond 378 = .ok (.iload 5, 2) := by decide +kernel
theorem dX1_mixSecond_380 : decode cX1_mixSecond 380 = .ok (.iadd, 1) := by decide +kernel
theorem dX1_mixSecond_381 : decode cX1_mixSecond 381 = .ok (.iastore, 1) := by decide +kernel
theorem dX1_mixSecond_382 : decode cX1_mixSecond 382 = .ok (.aload_n 0, 1) := by decide +kernel
theorem dX1_mixSecond_383 : decode cX1_mixSecond 383 = .ok (.getfield 9, 3) := by decide +kernel
theorem dX1_mixSecond_386 : decode cX1_mixSecond 386 = .ok (.iconst 5, 1) := by decide +kernel
theorem dX1_mixSecond_387 : decode cX1_mixSecond 387 = .ok (.dup2, 1) := by decide +kernel
theorem dX1_mixSecond_388 : decode cX1_mixSecond 388 = .ok (.iaload, 1) := by decide +kernel
theorem dX1_mixSecond_389 : decode cX1_mixSecond 389 = .ok (.iload 6, 2) := by decide +kernel
theorem dX1_mixSecond_391 : decode cX1_mixSecond 391 = .ok (.iadd, 1) := by decide +kernel
theorem dX1_mixSecond_392 : decode cX1_mixSecond 392 = .ok (.iastore, 1) := by decide +kernel
theorem dX1_mixSecond_393 : decode cX1_mixSecond 393 = .ok (.aload_n 0, 1) := by decide +kernel
theorem dX1_mixSecond_394 : decode cX1_mixSecond 394 = .ok (.getfield 9, 3) := by decide +kernel
theorem dX1_mixSecond_397 : decode cX1_mixSecond 397 = .ok (.bipush 6, 2) := by decide +kernel
theorem dX1_mixSecond_399 : decode cX1_mixSecond 399 = .ok (.dup2, 1) := by decide +kernel
theorem dX1_mixSecond_400 : decode cX1_mixSecond 400 = .ok (.iaload, 1) := by decide +kernel
theorem dX1_mixSecond_401 : decode cX1_mixSecond 401 = .ok (.iload 7, 2) := by decide +kernel
theorem dX1_mixSecond_403 : decode cX1_mixSecond 403 = .ok (.iadd, 1) := by decide +kernel
theorem dX1_mixSecond_404 : decode cX1_mixSecond 404 = .ok (.iastore, 1) := by decide +kernel
theorem dX1_mixSecond_405 : decode cX1_mixSecond 405 = .ok (.aload_n 0, 1) := by decide +kernel
theorem dX1_mixSecond_406 : decode cX1_mixSecond 406 = .ok (.getfield 9, 3) := by decide +kernel
theorem dX1_mixSecond_409 : decode cX1_mixSecond 409 = .ok (.bipush 7, 2) := by decide +kernel
theorem dX1_mixSecond_411 : decode cX1_mixSecond 411 = .ok (.dup2, 1) := by decide +kernel
theorem dX1_mixSecond_412 : decode cX1_mixSecond 412 = .ok (.iaload, 1) := by decide +kernel
theorem dX1_mixSecond_413 : decode cX1_mixSecond 413 = .ok (.iload 8, 2) := by decide +kernel
theorem dX1_mixSecond_415 : decode cX1_mixSecond 415 = .ok (.iadd, 1) := by decide +kernel
theorem dX1_mixSecond_416 : decode cX1_mixSecond 416 = .ok (.iastore, 1) := by decide +kernel
theorem dX1_mixSecond_417 : decode cX1_mixSecond 417 = .ok (.return_, 1) := by decide +kernel
theorem dX2_init_0 : decode cX2_init 0 = .ok (.aload_n 0, 1) := by decide +kernel
theorem dX2_init_1 : decode cX2_init 1 = .ok (.invokespecial 3, 3) := by decide +kernel
theorem dX2_init_4 : decode cX2_init 4 = .ok (.aload_n 0, 1) := by decide +kernel
theorem dX2_init_5 : decode cX2_init 5 = .ok (.new 9, 3) := by decide +kernel
theorem dX2_init_8 : decode cX2_init 8 = .ok (.dup, 1) := by decide +kernel
theorem dX2_init_9 : decode cX2_init 9 = .ok (.invokespecial 11, 3) := by decide +kernel
theorem dX2_init_12 : decode cX2_init 12 = .ok (.putfield 12, 3) := by decide +kernel
theorem dX2_init_15 : decode cX2_init 15 = .ok (.aload_n 0, 1) := by decide +kernel
theorem dX2_init_16 : decode cX2_init 16 = .ok (.new 18, 3) := by decide +kernel
theorem dX2_init_19 : decode cX2_init 19 = .ok (.dup, 1) := by decide +kernel
theorem dX2_init_20 : decode cX2_init 20 = .ok (.sipush 1024, 3) := by decide +kernel
theorem dX2_init_23 : decode cX2_init 23 = .ok (.invokespecial 20, 3) := by decide +kernel
theorem dX2_init_26 : decode cX2_init 26 = .ok (.putfield 23, 3) := by decide +kernel
theorem dX2_init_29 : decode cX2_init 29 = .ok (.aload_n 0, 1) := by decide +kernel
theorem dX2_init_30 : decode cX2_init 30 = .ok (.new 27, 3) := by decide +kernel
theorem dX2_init_33 : decode cX2_init 33 = .ok (.dup, 1) := by decide +kernel
theorem dX2_init_34 : decode cX2_init 34 = .ok (.invokespecial 29, 3) := by decide +kernel
theorem dX2_init_37 : decode cX2_init 37 = .ok (.putfield 30, 3) := by decide +kernel
theorem dX2_init_40 : decode cX2_init 40 = .ok (.aload_n 0, 1) := by decide +kernel
theorem dX2_init_41 : decode cX2_init 41 = .ok (.new 18, 3) := by decide +kernel
theorem dX2_init_44 : decode cX2_init 44 = .ok (.dup, 1) := by decide +kernel
theorem dX2_init_45 : decode cX2_init 45 = .ok (.sipush 128, 3) := by decide +kernel
theorem dX2_init_48 : decode cX2_init 48 = .ok (.invokespecial 20, 3) := by decide +kernel
theorem dX2_init_51 : decode cX2_init 51 = .ok (.putfield 34, 3) := by decide +kernel
theorem dX2_init_54 : decode cX2_init 54 = .ok (.aload_n 0, 1) := by decide +kernel
theorem dX2_init_55 : decode cX2_init 55 = .ok (.new 37, 3) := by decide +kernel
theorem dX2_init_58 : decode cX2_init 58 = .ok (.dup, 1) := by decide +kernel
theorem dX2_init_59 : decode cX2_init 59 = .ok (.iconst 0, 1) := by decide +kernel
theorem dX2_init_60 : decode cX2_init 60 = .ok (.newarray .byte, 2) := by decide +kernel
theorem dX2_init_62 : decode cX2_init 62 = .ok (.invokespecial 39, 3) := by decide +kernel
theorem dX2_init_65 : decode cX2_init 65 = .ok (.putfield 42, 3) := by decide +kernel
theorem dX2_init_68 : decode cX2_init 68 = .ok (.return_, 1) := by decide +kernel
theorem dX3_init_0 : decode cX3_init 0 = .ok (.aload_n 0, 1) := by decide +kernel
theorem dX3_init_1 : decode cX3_init 1 = .ok (.aload_n 1, 1) := by decide +kernel
theorem dX3_init_2 : decode cX3_init 2 = .ok (.invokespecial 3, 3) := by decide +kernel
theorem dX3_init_5 : decode cX3_init 5 = .ok (.aload_n 0, 1) := by decide +kernel
theorem dX3_init_6 : decode cX3_init 6 = .ok (.new 9, 3) := by decide +kernel
theorem dX3_init_9 : decode cX3_init 9 = .ok (.dup, 1) := by decide +kernel
theorem dX3_init_10 : decode cX3_init 10 = .ok (.invokespecial 11, 3) := by decide +kernel
theorem dX3_init_13 : decode cX3_init 13 = .ok (.putfield 14, 3) := by decide +kernel
theorem dX3_init_16 : decode cX3_init 16 = .ok (.aload_n 0, 1) := by decide +kernel
theorem dX3_init_17 : decode cX3_init 17 = .ok (.new 9, 3) := by decide +kernel
theorem dX3_init_20 : decode cX3_init 20 = .ok (.dup, 1) := by decide +kernel
theorem dX3_init_21 : decode cX3_init 21 = .ok (.invokespecial 11, 3) := by decide +kernel
theorem dX3_init_24 : decode cX3_init 24 = .ok (.putfield 20, 3) := by decide +kernel
theorem dX3_init_27 : decode cX3_init 27 = .ok (.aload_n 0, 1) := by decide +kernel
theorem dX3_init_28 : decode cX3_init 28 = .ok (.bipush 20, 2) := by decide +kernel
theorem dX3_init_30 : decode cX3_init 30 = .ok (.newarray .byte, 2) := by decide +kernel
theorem dX3_init_32 : decode cX3_init 32 = .ok (.putfield 23, 3) := by decide +kernel
theorem dX3_init_35 : decode cX3_init 35 = .ok (.aload_n 0, 1) := by decide +kernel
theorem dX3_init_36 : decode cX3_init 36 = .ok (.aload_n 2, 1) := by decide +kernel
theorem dX3_init_37 : decode cX3_init 37 = .ok (.ifnonnull 7, 3) := by decide +kernel
theorem dX3_init_40 : decode cX3_init 40 = .ok (.aload_n 0, 1) := by decide +kernel
theorem dX3_init_41 : decode cX3_init 41 = .ok (.goto 4, 3) := by decide +kernel
theorem dX3_init_44 : decode cX3_init 44 = .ok (.aload_n 2, 1) := by decide +kernel
theorem dX3_init_45 : decode cX3_init 45 = .ok (.putfield 27, 3) := by decide +kernel
theorem dX3_init_48 : decode cX3_init 48 = .ok (.return_, 1) := by decide +kernel
theorem dX4_init_0 : decode cX4_init 0 = .ok (.aload_n 0, 1) := by decide +kernel
theorem dX4_init_1 : decode cX4_init 1 = .ok (.invokespecial 3, 3) := by decide +kernel
theorem dX4_init_4 : decode cX4_init 4 = .ok (.aload_n 0, 1) := by decide +kernel
theorem dX4_init_5 : decode cX4_init 5 = .ok (.new 9, 3) := by decide +kernel
theorem dX4_init_8 : decode cX4_init 8 = .ok (.dup, 1) := by decide +kernel
theorem dX4_init_9 : decode cX4_init 9 = .ok (.iconst 0, 1) := by decide +kernel
theorem dX4_init_10 : decode cX4_init 10 = .ok (.newarray .byte, 2) := by decide +kernel
theorem dX4_init_12 : decode cX4_init 12 = .ok (.iconst 0, 1) := by decide +kernel
theorem dX4_init_13 : decode cX4_init 13 = .ok (.iconst 0, 1) := by decide +kernel
theorem dX4_init_14 : decode cX4_init 14 = .ok (.invokespecial 11, 3) := by decide +kernel
theorem dX4_init_17 : decode cX4_init 17 = .ok (.putfield 14, 3) := by decide +kernel
theorem dX4_init_20 : decode cX4_init 20 = .ok (.aload_n 0, 1) := by decide +kernel
theorem dX4_init_21 : decode cX4_init 21 = .ok (.new 20, 3) := by decide +kernel
theorem dX4_init_24 : decode cX4_init 24 = .ok (.dup, 1) := by decide +kernel
theorem dX4_init_25 : decode cX4_init 25 = .ok (.sipush 256, 3) := by decide +kernel
theorem dX4_init_28 : decode cX4_init 28 = .ok (.invokespecial 22, 3) := by decide +kernel
theorem dX4_init_31 : decode cX4_init 31 = .ok (.putfield 25, 3) := by decide +kernel
theorem dX4_init_34 : decode cX4_init 34 = .ok (.aload_n 0, 1) := by decide +kernel
theorem dX4_init_35 : decode cX4_init 35 = .ok (.aload_n 0, 1) := by decide +kernel
theorem dX4_init_36 : decode cX4_init 36 = .ok (.getfield 14, 3) := by decide +kernel
theorem dX4_init_39 : decode cX4_init 39 = .ok (.putfield 29, 3) := by decide +kernel
theorem dX4_init_42 : decode cX4_init 42 = .ok (.return_, 1) := by decide +kernel
theorem dX4_open_0 : decode cX4_open 0 = .ok (.aload_n 0, 1) := by decide +kernel
theorem dX4_open_1 : decode cX4_open 1 = .ok (.aload_n 1, 1) := by decide +kernel
theorem dX4_open_2 : decode cX4_open 2 = .ok (.putfield 29, 3) := by decide +kernel
theorem dX4_open_5 : decode cX4_open 5 = .ok (.aload_n 0, 1) := by decide +kernel
theorem dX4_open_6 : decode cX4_open 6 = .ok (.iconst 0, 1) := by decide +kernel
theorem dX4_open_7 : decode cX4_open 7 = .ok (.putfield 32, 3) := by decide +kernel
theorem dX4_open_10 : decode cX4_open 10 = .ok (.aload_n 0, 1) := by decide +kernel
theorem dX4_open_11 : decode cX4_open 11 = .ok (.iconst 0, 1) := by decide +kernel
theorem dX4_open_12 : decode cX4_open 12 = .ok (.putfield 36, 3) := by decide +kernel
theorem dX4_open_15 : decode cX4_open 15 = .ok (.return_, 1) := by decide +kernel
theorem dX4_more_0 : decode cX4_more 0 = .ok (.aload_n 0, 1) := by decide +kernel
theorem dX4_more_1 : decode cX4_more 1 = .ok (.getfield 36, 3) := by decide +kernel
theorem dX4_more_4 : decode cX4_more 4 = .ok (.aload_n 0, 1) := by decide +kernel
theorem dX4_more_5 : decode cX4_more 5 = .ok (.getfield 29, 3) := by decide +kernel
theorem dX4_more_8 : decode cX4_more 8 = .ok (.getfield 39, 3) := by decide +kernel
theorem dX4_more_11 : decode cX4_more 11 = .ok (.if_icmp .ge 7, 3) := by decide +kernel
theorem dX4_more_14 : decode cX4_more 14 = .ok (.iconst 1, 1) := by decide +kernel
theorem dX4_more_15 : decode cX4_more 15 = .ok (.goto 4, 3) := by decide +kernel
theorem dX4_more_18 : decode cX4_more 18 = .ok (.iconst 0, 1) := by decide +kernel
theorem dX4_more_19 : decode cX4_more 19 = .ok (.ireturn, 1) := by decide +kernel
theorem dX4_fault_0 : decode cX4_fault 0 = .ok (.iconst (-1), 1) := by decide +kernel
theorem dX4_fault_1 : decode cX4_fault 1 = .ok (.aload_n 0, 1) := by decide +kernel
theorem dX4_fault_2 : decode cX4_fault 2 = .ok (.getfield 32, 3) := by decide +kernel
theorem dX4_fault_5 : decode cX4_fault 5 = .ok (.isub, 1) := by decide +kernel
theorem dX4_fault_6 : decode cX4_fault 6 = .ok (.ireturn, 1) := by decide +kernel
theorem dX4_read_0 : decode cX4_read 0 = .ok (.aload_n 0, 1) := by decide +kernel
theorem dX4_read_1 : decode cX4_read 1 = .ok (.aload_n 0, 1) := by decide +kernel
theorem dX4_read_2 : decode cX4_read 2 = .ok (.getfield 36, 3) := by decide +kernel
theorem dX4_read_5 : decode cX4_read 5 = .ok (.putfield 32, 3) := by decide +kernel
theorem dX4_read_8 : decode cX4_read 8 = .ok (.aload_n 0, 1) := by decide +kernel
theorem dX4_read_9 : decode cX4_read 9 = .ok (.getfield 29, 3) := by decide +kernel
theorem dX4_read_12 : decode cX4_read 12 = .ok (.aload_n 0, 1) := by decide +kernel
theorem dX4_read_13 : decode cX4_read 13 = .ok (.getfield 32, 3) := by decide +kernel
theorem dX4_read_16 : decode cX4_read 16 = .ok (.invokevirtual 42, 3) := by decide +kernel
theorem dX4_read_19 : decode cX4_read 19 = .ok (.istore_n 1, 1) := by decide +kernel
theorem dX4_read_20 : decode cX4_read 20 = .ok (.aload_n 0, 1) := by decide +kernel
theorem dX4_read_21 : decode cX4_read 21 = .ok (.getfield 32, 3) := by decide +kernel
theorem dX4_read_24 : decode cX4_read 24 = .ok (.aload_n 0, 1) := by decide +kernel
theorem dX4_read_25 : decode cX4_read 25 = .ok (.getfield 29, 3) := by decide +kernel
theorem dX4_read_28 : decode cX4_read 28 = .ok (.getfield 39, 3) := by decide +kernel
theorem dX4_read_31 : decode cX4_read 31 = .ok (.if_icmp .ge 10, 3) := by decide +kernel
theorem dX4_read_34 : decode cX4_read 34 = .ok (.iload_n 1, 1) := by decide +kernel
theorem dX4_read_35 : decode cX4_read 35 = .ok (.sipush 128, 3) := by decide +kernel
theorem dX4_read_38 : decode cX4_read 38 = .ok (.if_icmp .ge 5, 3) := by decide +kernel
theorem dX4_read_41 : decode cX4_read 41 = .ok (.iconst 0, 1) := by decide +kernel
theorem dX4_read_42 : decode cX4_read 42 = .ok (.ireturn, 1) := by decide +kernel
theorem dX4_read_43 : decode cX4_read 43 = .ok (.iload_n 1, 1) := by decide +kernel
theorem dX4_read_44 : decode cX4_read 44 = .ok (.bipush 64, 2) := by decide +kernel
theorem dX4_read_46 : decode cX4_read 46 = .ok (.iand, 1) := by decide +kernel
theorem dX4_read_47 : decode cX4_read 47 = .ok (.ifCond .eq 43, 3) := by decide +kernel
theorem dX4_read_50 : decode cX4_read 50 = .ok (.aload_n 0, 1) := by decide +kernel
theorem dX4_read_51 : decode cX4_read 51 = .ok (.iload_n 1, 1) := by decide +kernel
theorem dX4_read_52 : decode cX4_read 52 = .ok (.bipush 63, 2) := by decide +kernel
theorem dX4_read_54 : decode cX4_read 54 = .ok (.iand, 1) := by decide +kernel
theorem dX4_read_55 : decode cX4_read 55 = .ok (.putfield 46, 3) := by decide +kernel
theorem dX4_read_58 : decode cX4_read 58 = .ok (.aload_n 0, 1) := by decide +kernel
theorem dX4_read_59 : decode cX4_read 59 = .ok (.aload_n 0, 1) := by decide +kernel
theorem dX4_read_60 : decode cX4_read 60 = .ok (.getfield 32, 3) := by decide +kernel
theorem dX4_read_63 : decode cX4_read 63 = .ok (.iconst 1, 1) := by decide +kernel
theorem dX4_read_64 : decode cX4_read 64 = .ok (.iadd, 1) := by decide +kernel
theorem dX4_read_65 : decode cX4_read 65 = .ok (.invokevirtual 49, 3) := by decide +kernel
theorem dX4_read_68 : decode cX4_read 68 = .ok (.ifCond .ne 16, 3) := by decide +kernel
theorem dX4_read_71 : decode cX4_read 71 = .ok (.aload_n 0, 1) := by decide +kernel
theorem dX4_read_72 : decode cX4_read 72 = .ok (.aload_n 0, 1) := by decide +kernel
theorem dX4_read_73 : decode cX4_read 73 = .ok (.getfield 32, 3) := by decide +kernel
theorem dX4_read_76 : decode cX4_read 76 = .ok (.iconst 1, 1) := by decide +kernel
theorem dX4_read_77 : decode cX4_read 77 = .ok (.iadd, 1) := by decide +kernel
theorem dX4_read_78 : decode cX4_read 78 = .ok (.invokevirtual 53, 3) := by decide +kernel
theorem dX4_read_81 : decode cX4_read 81 = .ok (.ifCond .eq 7, 3) := by decide +kernel
theorem dX4_read_84 : decode cX4_read 84 = .ok (.iconst 1, 1) := by decide +kernel
theorem dX4_read_85 : decode cX4_read 85 = .ok (.goto 4, 3) := by decide +kernel
theorem dX4_read_88 : decode cX4_read 88 = .ok (.iconst 0, 1) := by decide +kernel
theorem dX4_read_89 : decode cX4_read 89 = .ok (.ireturn, 1) := by decide +kernel
theorem dX4_read_90 : decode cX4_read 90 = .ok (.aload_n 0, 1) := by decide +kernel
theorem dX4_read_91 : decode cX4_read 91 = .ok (.iload_n 1, 1) := by decide +kernel
theorem dX4_read_92 : decode cX4_read 92 = .ok (.iconst 2, 1) := by decide +kernel
theorem dX4_read_93 : decode cX4_read 93 = .ok (.ishr, 1) := by decide +kernel
theorem dX4_read_94 : decode cX4_read 94 = .ok (.bipush 15, 2) := by decide +kernel
theorem dX4_read_96 : decode cX4_read 96 = .ok (.iand, 1) := by decide +kernel
theorem dX4_read_97 : decode cX4_read 97 = .ok (.putfield 46, 3) := by decide +kernel
theorem dX4_read_100 : decode cX4_read 100 = .ok (.iconst 1, 1) := by decide +kernel
theorem dX4_read_101 : decode cX4_read 101 = .ok (.iload_n 1, 1) := by decide +kernel
theorem dX4_read_102 : decode cX4_read 102 = .ok (.iconst 3, 1) := by decide +kernel
theorem dX4_read_103 : decode cX4_read 103 = .ok (.iand, 1) := by decide +kernel
theorem dX4_read_104 : decode cX4_read 104 = .ok (.ishl, 1) := by decide +kernel
theorem dX4_read_105 : decode cX4_read 105 = .ok (.istore_n 2, 1) := by decide +kernel
theorem dX4_read_106 : decode cX4_read 106 = .ok (.iload_n 2, 1) := by decide +kernel
theorem dX4_read_107 : decode cX4_read 107 = .ok (.iconst 4, 1) := by decide +kernel
theorem dX4_read_108 : decode cX4_read 108 = .ok (.if_icmp .gt 21, 3) := by decide +kernel
theorem dX4_read_111 : decode cX4_read 111 = .ok (.aload_n 0, 1) := by decide +kernel
theorem dX4_read_112 : decode cX4_read 112 = .ok (.getfield 32, 3) := by decide +kernel
theorem dX4_read_115 : decode cX4_read 115 = .ok (.iconst 1, 1) := by decide +kernel
theorem dX4_read_116 : decode cX4_read 116 = .ok (.iadd, 1) := by decide +kernel
theorem dX4_read_117 : decode cX4_read 117 = .ok (.iload_n 2, 1) := by decide +kernel
theorem dX4_read_118 : decode cX4_read 118 = .ok (.iadd, 1) := by decide +kernel
theorem dX4_read_119 : decode cX4_read 119 = .ok (.aload_n 0, 1) := by decide +kernel
theorem dX4_read_120 : decode cX4_read 120 = .ok (.getfield 29, 3) := by decide +kernel
theorem dX4_read_123 : decode cX4_read 123 = .ok (.getfield 39, 3) := by decide +kernel
theorem dX4_read_126 : decode cX4_read 126 = .ok (.if_icmp .le 5, 3) := by decide +kernel
theorem dX4_read_129 : decode cX4_read 129 = .ok (.iconst 0, 1) := by decide +kernel
theorem dX4_read_130 : decode cX4_read 130 = .ok (.ireturn, 1) := by decide +kernel
theorem dX4_read_131 : decode cX4_read 131 = .ok (.aload_n 0, 1) := by decide +kernel
theorem dX4_read_132 : decode cX4_read 132 = .ok (.aload_n 0, 1) := by decide +kernel
theorem dX4_read_133 : decode cX4_read 133 = .ok (.getfield 32, 3) := by decide +kernel
theorem dX4_read_136 : decode cX4_read 136 = .ok (.iconst 1, 1) := by decide +kernel
theorem dX4_read_137 : decode cX4_read 137 = .ok (.iadd, 1) := by decide +kernel
theorem dX4_read_138 : decode cX4_read 138 = .ok (.iload_n 2, 1) := by decide +kernel
theorem dX4_read_139 : decode cX4_read 139 = .ok (.iadd, 1) := by decide +kernel
theorem dX4_read_140 : decode cX4_read 140 = .ok (.aload_n 0, 1) := by decide +kernel
theorem dX4_read_141 : decode cX4_read 141 = .ok (.getfield 29, 3) := by decide +kernel
theorem dX4_read_144 : decode cX4_read 144 = .ok (.aload_n 0, 1) := by decide +kernel
theorem dX4_read_145 : decode cX4_read 145 = .ok (.getfield 32, 3) := by decide +kernel
theorem dX4_read_148 : decode cX4_read 148 = .ok (.iconst 1, 1) := by decide +kernel
theorem dX4_read_149 : decode cX4_read 149 = .ok (.iadd, 1) := by decide +kernel
theorem dX4_read_150 : decode cX4_read 150 = .ok (.iload_n 2, 1) := by decide +kernel
theorem dX4_read_151 : decode cX4_read 151 = .ok (.invokevirtual 56, 3) := by decide +kernel
theorem dX4_read_154 : decode cX4_read 154 = .ok (.invokevirtual 60, 3) := by decide +kernel
theorem dX4_read_157 : decode cX4_read 157 = .ok (.ireturn, 1) := by decide +kernel
theorem dX5_init_0 : decode cX5_init 0 = .ok (.aload_n 0, 1) := by decide +kernel
theorem dX5_init_1 : decode cX5_init 1 = .ok (.aload_n 1, 1) := by decide +kernel
theorem dX5_init_2 : decode cX5_init 2 = .ok (.iconst 0, 1) := by decide +kernel
theorem dX5_init_3 : decode cX5_init 3 = .ok (.aload_n 1, 1) := by decide +kernel
theorem dX5_init_4 : decode cX5_init 4 = .ok (.arraylength, 1) := by decide +kernel
theorem dX5_init_5 : decode cX5_init 5 = .ok (.invokespecial 3, 3) := by decide +kernel
theorem dX5_init_8 : decode cX5_init 8 = .ok (.aload_n 0, 1) := by decide +kernel
theorem dX5_init_9 : decode cX5_init 9 = .ok (.new 9, 3) := by decide +kernel
theorem dX5_init_12 : decode cX5_init 12 = .ok (.dup, 1) := by decide +kernel
theorem dX5_init_13 : decode cX5_init 13 = .ok (.invokespecial 11, 3) := by decide +kernel
theorem dX5_init_16 : decode cX5_init 16 = .ok (.putfield 14, 3) := by decide +kernel
theorem dX5_init_19 : decode cX5_init 19 = .ok (.return_, 1) := by decide +kernel
theorem dX6_init_0 : decode cX6_init 0 = .ok (.aload_n 0, 1) := by decide +kernel
theorem dX6_init_1 : decode cX6_init 1 = .ok (.invokespecial 3, 3) := by decide +kernel
theorem dX6_init_4 : decode cX6_init 4 = .ok (.aload_n 0, 1) := by decide +kernel
theorem dX6_init_5 : decode cX6_init 5 = .ok (.bipush 38, 2) := by decide +kernel
theorem dX6_init_7 : decode cX6_init 7 = .ok (.newarray .long, 2) := by decide +kernel
theorem dX6_init_9 : decode cX6_init 9 = .ok (.putfield 9, 3) := by decide +kernel
theorem dX6_init_12 : decode cX6_init 12 = .ok (.aload_n 0, 1) := by decide +kernel
theorem dX6_init_13 : decode cX6_init 13 = .ok (.bipush 38, 2) := by decide +kernel
theorem dX6_init_15 : decode cX6_init 15 = .ok (.newarray .long, 2) := by decide +kernel
theorem dX6_init_17 : decode cX6_init 17 = .ok (.putfield 13, 3) := by decide +kernel
theorem dX6_init_20 : decode cX6_init 20 = .ok (.aload_n 0, 1) := by decide +kernel
theorem dX6_init_21 : decode cX6_init 21 = .ok (.bipush 38, 2) := by decide +kernel
theorem dX6_init_23 : decode cX6_init 23 = .ok (.newarray .long, 2) := by decide +kernel
theorem dX6_init_25 : decode cX6_init 25 = .ok (.putfield 16, 3) := by decide +kernel
theorem dX6_init_28 : decode cX6_init 28 = .ok (.aload_n 0, 1) := by decide +kernel
theorem dX6_init_29 : decode cX6_init 29 = .ok (.bipush 38, 2) := by decide +kernel
theorem dX6_init_31 : decode cX6_init 31 = .ok (.newarray .long, 2) := by decide +kernel
theorem dX6_init_33 : decode cX6_init 33 = .ok (.putfield 19, 3) := by decide +kernel
theorem dX6_init_36 : decode cX6_init 36 = .ok (.aload_n 0, 1) := by decide +kernel
theorem dX6_init_37 : decode cX6_init 37 = .ok (.bipush 38, 2) := by decide +kernel
theorem dX6_init_39 : decode cX6_init 39 = .ok (.newarray .long, 2) := by decide +kernel
theorem dX6_init_41 : decode cX6_init 41 = .ok (.putfield 22, 3) := by decide +kernel
theorem dX6_init_44 : decode cX6_init 44 = .ok (.aload_n 0, 1) := by decide +kernel
theorem dX6_init_45 : decode cX6_init 45 = .ok (.bipush 38, 2) := by decide +kernel
theorem dX6_init_47 : decode cX6_init 47 = .ok (.newarray .long, 2) := by decide +kernel
theorem dX6_init_49 : decode cX6_init 49 = .ok (.putfield 25, 3) := by decide +kernel
theorem dX6_init_52 : decode cX6_init 52 = .ok (.aload_n 0, 1) := by decide +kernel
theorem dX6_init_53 : decode cX6_init 53 = .ok (.bipush 38, 2) := by decide +kernel
theorem dX6_init_55 : decode cX6_init 55 = .ok (.newarray .long, 2) := by decide +kernel
theorem dX6_init_57 : decode cX6_init 57 = .ok (.putfield 28, 3) := by decide +kernel
theorem dX6_init_60 : decode cX6_init 60 = .ok (.aload_n 0, 1) := by decide +kernel
theorem dX6_init_61 : decode cX6_init 61 = .ok (.iconst 1, 1) := by decide +kernel
theorem dX6_init_62 : decode cX6_init 62 = .ok (.putfield 31, 3) := by decide +kernel
theorem dX6_init_65 : decode cX6_init 65 = .ok (.aload_n 0, 1) := by decide +kernel
theorem dX6_init_66 : decode cX6_init 66 = .ok (.getfield 16, 3) := by decide +kernel
theorem dX6_init_69 : decode cX6_init 69 = .ok (.iconst 0, 1) := by decide +kernel
theorem dX6_init_70 : decode cX6_init 70 = .ok (.lconst 1, 1) := by decide +kernel
theorem dX6_init_71 : decode cX6_init 71 = .ok (.lastore, 1) := by decide +kernel
theorem dX6_init_72 : decode cX6_init 72 = .ok (.return_, 1) := by decide +kernel
theorem dX7_init_0 : decode cX7_init 0 = .ok (.aload_n 0, 1) := by decide +kernel
theorem dX7_init_1 : decode cX7_init 1 = .ok (.invokespecial 3, 3) := by decide +kernel
theorem dX7_init_4 : decode cX7_init 4 = .ok (.aload_n 0, 1) := by decide +kernel
theorem dX7_init_5 : decode cX7_init 5 = .ok (.new 9, 3) := by decide +kernel
theorem dX7_init_8 : decode cX7_init 8 = .ok (.dup, 1) := by decide +kernel
theorem dX7_init_9 : decode cX7_init 9 = .ok (.invokespecial 11, 3) := by decide +kernel
theorem dX7_init_12 : decode cX7_init 12 = .ok (.putfield 12, 3) := by decide +kernel
theorem dX7_init_15 : decode cX7_init 15 = .ok (.aload_n 0, 1) := by decide +kernel
theorem dX7_init_16 : decode cX7_init 16 = .ok (.new 18, 3) := by decide +kernel
theorem dX7_init_19 : decode cX7_init 19 = .ok (.dup, 1) := by decide +kernel
theorem dX7_init_20 : decode cX7_init 20 = .ok (.invokespecial 20, 3) := by decide +kernel
theorem dX7_init_23 : decode cX7_init 23 = .ok (.putfield 21, 3) := by decide +kernel
theorem dX7_init_26 : decode cX7_init 26 = .ok (.aload_n 0, 1) := by decide +kernel
theorem dX7_init_27 : decode cX7_init 27 = .ok (.new 25, 3) := by decide +kernel
theorem dX7_init_30 : decode cX7_init 30 = .ok (.dup, 1) := by decide +kernel
theorem dX7_init_31 : decode cX7_init 31 = .ok (.sipush 256, 3) := by decide +kernel
theorem dX7_init_34 : decode cX7_init 34 = .ok (.invokespecial 27, 3) := by decide +kernel
theorem dX7_init_37 : decode cX7_init 37 = .ok (.putfield 30, 3) := by decide +kernel
theorem dX7_init_40 : decode cX7_init 40 = .ok (.aload_n 0, 1) := by decide +kernel
theorem dX7_init_41 : decode cX7_init 41 = .ok (.new 34, 3) := by decide +kernel
theorem dX7_init_44 : decode cX7_init 44 = .ok (.dup, 1) := by decide +kernel
theorem dX7_init_45 : decode cX7_init 45 = .ok (.iconst 0, 1) := by decide +kernel
theorem dX7_init_46 : decode cX7_init 46 = .ok (.newarray .byte, 2) := by decide +kernel
theorem dX7_init_48 : decode cX7_init 48 = .ok (.aconst_null, 1) := by decide +kernel
theorem dX7_init_49 : decode cX7_init 49 = .ok (.invokespecial 36, 3) := by decide +kernel
theorem dX7_init_52 : decode cX7_init 52 = .ok (.putfield 39, 3) := by decide +kernel
theorem dX7_init_55 : decode cX7_init 55 = .ok (.aload_n 0, 1) := by decide +kernel
theorem dX7_init_56 : decode cX7_init 56 = .ok (.new 43, 3) := by decide +kernel
theorem dX7_init_59 : decode cX7_init 59 = .ok (.dup, 1) := by decide +kernel
theorem dX7_init_60 : decode cX7_init 60 = .ok (.iconst 0, 1) := by decide +kernel
theorem dX7_init_61 : decode cX7_init 61 = .ok (.newarray .byte, 2) := by decide +kernel
theorem dX7_init_63 : decode cX7_init 63 = .ok (.invokespecial 45, 3) := by decide +kernel
theorem dX7_init_66 : decode cX7_init 66 = .ok (.putfield 48, 3) := by decide +kernel
theorem dX7_init_69 : decode cX7_init 69 = .ok (.return_, 1) := by decide +kernel
theorem dX7_joinAll_0 : decode cX7_joinAll 0 = .ok (.aload_n 0, 1) := by decide +kernel
theorem dX7_joinAll_1 : decode cX7_joinAll 1 = .ok (.aconst_null, 1) := by decide +kernel
theorem dX7_joinAll_2 : decode cX7_joinAll 2 = .ok (.putfield 52, 3) := by decide +kernel
theorem dX7_joinAll_5 : decode cX7_joinAll 5 = .ok (.aload_n 0, 1) := by decide +kernel
theorem dX7_joinAll_6 : decode cX7_joinAll 6 = .ok (.aconst_null, 1) := by decide +kernel
theorem dX7_joinAll_7 : decode cX7_joinAll 7 = .ok (.putfield 55, 3) := by decide +kernel
theorem dX7_joinAll_10 : decode cX7_joinAll 10 = .ok (.iconst 0, 1) := by decide +kernel
theorem dX7_joinAll_11 : decode cX7_joinAll 11 = .ok (.istore_n 2, 1) := by decide +kernel
theorem dX7_joinAll_12 : decode cX7_joinAll 12 = .ok (.aload_n 0, 1) := by decide +kernel
theorem dX7_joinAll_13 : decode cX7_joinAll 13 = .ok (.getfield 12, 3) := by decide +kernel
theorem dX7_joinAll_16 : decode cX7_joinAll 16 = .ok (.invokevirtual 59, 3) := by decide +kernel
theorem dX7_joinAll_19 : decode cX7_joinAll 19 = .ok (.istore_n 3, 1) := by decide +kernel
theorem dX7_joinAll_20 : decode cX7_joinAll 20 = .ok (.iconst 0, 1) := by decide +kernel
theorem dX7_joinAll_21 : decode cX7_joinAll 21 = .ok (.istore 4, 2) := by decide +kernel
theorem dX7_joinAll_23 : decode cX7_joinAll 23 = .ok (.iload 4, 2) := by decide +kernel
theorem dX7_joinAll_25 : decode cX7_joinAll 25 = .ok (.sipush 4096, 3) := by decide +kernel
theorem dX7_joinAll_28 : decode cX7_joinAll 28 = .ok (.if_icmp .gt 68, 3) := by decide +kernel
theorem dX7_joinAll_31 : decode cX7_joinAll 31 = .ok (.aload_n 1, 1) := by decide +kernel
theorem dX7_joinAll_32 : decode cX7_joinAll 32 = .ok (.invokevirtual 63, 3) := by decide +kernel
theorem dX7_joinAll_35 : decode cX7_joinAll 35 = .ok (.ifCond .eq 61, 3) := by decide +kernel
theorem dX7_joinAll_38 : decode cX7_joinAll 38 = .ok (.aload_n 1, 1) := by decide +kernel
theorem dX7_joinAll_39 : decode cX7_joinAll 39 = .ok (.invokevirtual 69, 3) := by decide +kernel
theorem dX7_joinAll_42 : decode cX7_joinAll 42 = .ok (.ifCond .eq 18, 3) := by decide +kernel
theorem dX7_joinAll_45 : decode cX7_joinAll 45 = .ok (.aload_n 0, 1) := by decide +kernel
theorem dX7_joinAll_46 : decode cX7_joinAll 46 = .ok (.aload_n 1, 1) := by decide +kernel
theorem dX7_joinAll_47 : decode cX7_joinAll 47 = .ok (.getfield 72, 3) := by decide +kernel
theorem dX7_joinAll_50 : decode cX7_joinAll 50 = .ok (.aload_n 1, 1) := by decide +kernel
theorem dX7_joinAll_51 : decode cX7_joinAll 51 = .ok (.getfield 76, 3) := by decide +kernel
theorem dX7_joinAll_54 : decode cX7_joinAll 54 = .ok (.invokevirtual 80, 3) := by decide +kernel
theorem dX7_joinAll_57 : decode cX7_joinAll 57 = .ok (.ifCond .ne 13, 3) := by decide +kernel
theorem dX7_joinAll_60 : decode cX7_joinAll 60 = .ok (.aload_n 0, 1) := by decide +kernel
theorem dX7_joinAll_61 : decode cX7_joinAll 61 = .ok (.iload_n 3, 1) := by decide +kernel
theorem dX7_joinAll_62 : decode cX7_joinAll 62 = .ok (.invokevirtual 84, 3) := by decide +kernel
theorem dX7_joinAll_65 : decode cX7_joinAll 65 = .ok (.aload_n 1, 1) := by decide +kernel
theorem dX7_joinAll_66 : decode cX7_joinAll 66 = .ok (.invokevirtual 87, 3) := by decide +kernel
theorem dX7_joinAll_69 : decode cX7_joinAll 69 = .ok (.ireturn, 1) := by decide +kernel
theorem dX7_joinAll_70 : decode cX7_joinAll 70 = .ok (.aload_n 1, 1) := by decide +kernel
theorem dX7_joinAll_71 : decode cX7_joinAll 71 = .ok (.getfield 72, 3) := by decide +kernel
theorem dX7_joinAll_74 : decode cX7_joinAll 74 = .ok (.bipush 6, 2) := by decide +kernel
theorem dX7_joinAll_76 : decode cX7_joinAll 76 = .ok (.if_icmp .eq 11, 3) := by decide +kernel
theorem dX7_joinAll_79 : decode cX7_joinAll 79 = .ok (.aload_n 1, 1) := by decide +kernel
theorem dX7_joinAll_80 : decode cX7_joinAll 80 = .ok (.getfield 72, 3) := by decide +kernel
theorem dX7_joinAll_83 : decode cX7_joinAll 83 = .ok (.iconst 5, 1) := by decide +kernel
theorem dX7_joinAll_84 : decode cX7_joinAll 84 = .ok (.if_icmp .ne 6, 3) := by decide +kernel
theorem dX7_joinAll_87 : decode cX7_joinAll 87 = .ok (.iinc 2 1, 3) := by decide +kernel
theorem dX7_joinAll_90 : decode cX7_joinAll 90 = .ok (.iinc 4 1, 3) := by decide +kernel
theorem dX7_joinAll_93 : decode cX7_joinAll 93 = .ok (.goto (-70), 3) := by decide +kernel
theorem dX7_joinAll_96 : decode cX7_joinAll 96 = .ok (.iconst 0, 1) := by decide +kernel
theorem dX7_joinAll_97 : decode cX7_joinAll 97 = .ok (.istore 4, 2) := by decide +kernel
theorem dX7_joinAll_99 : decode cX7_joinAll 99 = .ok (.iload 4, 2) := by decide +kernel
theorem dX7_joinAll_101 : decode cX7_joinAll 101 = .ok (.aload_n 0, 1) := by decide +kernel
theorem dX7_joinAll_102 : decode cX7_joinAll 102 = .ok (.getfield 12, 3) := by decide +kernel
theorem dX7_joinAll_105 : decode cX7_joinAll 105 = .ok (.invokevirtual 59, 3) := by decide +kernel
theorem dX7_joinAll_108 : decode cX7_joinAll 108 = .ok (.if_icmp .ge 24, 3) := by decide +kernel
theorem dX7_joinAll_111 : decode cX7_joinAll 111 = .ok (.aload_n 0, 1) := by decide +kernel
theorem dX7_joinAll_112 : decode cX7_joinAll 112 = .ok (.getfield 12, 3) := by decide +kernel
theorem dX7_joinAll_115 : decode cX7_joinAll 115 = .ok (.iload 4, 2) := by decide +kernel
theorem dX7_joinAll_117 : decode cX7_joinAll 117 = .ok (.invokevirtual 90, 3) := by decide +kernel
theorem dX7_joinAll_120 : decode cX7_joinAll 120 = .ok (.checkcast 34, 3) := by decide +kernel
theorem dX7_joinAll_123 : decode cX7_joinAll 123 = .ok (.invokevirtual 94, 3) := by decide +kernel
theorem dX7_joinAll_126 : decode cX7_joinAll 126 = .ok (.iinc 4 1, 3) := by decide +kernel
theorem dX7_joinAll_129 : decode cX7_joinAll 129 = .ok (.goto (-30), 3) := by decide +kernel
theorem dX7_joinAll_132 : decode cX7_joinAll 132 = .ok (.iload_n 2, 1) := by decide +kernel
theorem dX7_joinAll_133 : decode cX7_joinAll 133 = .ok (.ifCond .le 7, 3) := by decide +kernel
theorem dX7_joinAll_136 : decode cX7_joinAll 136 = .ok (.iload_n 2, 1) := by decide +kernel
theorem dX7_joinAll_137 : decode cX7_joinAll 137 = .ok (.goto 12, 3) := by decide +kernel
theorem dX7_joinAll_140 : decode cX7_joinAll 140 = .ok (.iconst (-1), 1) := by decide +kernel
theorem dX7_joinAll_141 : decode cX7_joinAll 141 = .ok (.aload_n 1, 1) := by decide +kernel
theorem dX7_joinAll_142 : decode cX7_joinAll 142 = .ok (.getfield 97, 3) := by decide +kernel
theorem dX7_joinAll_145 : decode cX7_joinAll 145 = .ok (.getfield 100, 3) := by decide +kernel
theorem dX7_joinAll_148 : decode cX7_joinAll 148 = .ok (.isub, 1) := by decide +kernel
theorem dX7_joinAll_149 : decode cX7_joinAll 149 = .ok (.ireturn, 1) := by decide +kernel
theorem dX8_init_0 : decode cX8_init 0 = .ok (.aload_n 0, 1) := by decide +kernel
theorem dX8_init_1 : decode cX8_init 1 = .ok (.aload_n 1, 1) := by decide +kernel
theorem dX8_init_2 : decode cX8_init 2 = .ok (.iconst 0, 1) := by decide +kernel
theorem dX8_init_3 : decode cX8_init 3 = .ok (.aload_n 1, 1) := by decide +kernel
theorem dX8_init_4 : decode cX8_init 4 = .ok (.arraylength, 1) := by decide +kernel
theorem dX8_init_5 : decode cX8_init 5 = .ok (.invokespecial 3, 3) := by decide +kernel
theorem dX8_init_8 : decode cX8_init 8 = .ok (.return_, 1) := by decide +kernel
theorem dX9_init_0 : decode cX9_init 0 = .ok (.aload_n 0, 1) := by decide +kernel
theorem dX9_init_1 : decode cX9_init 1 = .ok (.invokespecial 3, 3) := by decide +kernel
theorem dX9_init_4 : decode cX9_init 4 = .ok (.aload_n 0, 1) := by decide +kernel
theorem dX9_init_5 : decode cX9_init 5 = .ok (.new 9, 3) := by decide +kernel
theorem dX9_init_8 : decode cX9_init 8 = .ok (.dup, 1) := by decide +kernel
theorem dX9_init_9 : decode cX9_init 9 = .ok (.sipush 1024, 3) := by decide +kernel
theorem dX9_init_12 : decode cX9_init 12 = .ok (.invokespecial 11, 3) := by decide +kernel
theorem dX9_init_15 : decode cX9_init 15 = .ok (.putfield 14, 3) := by decide +kernel
theorem dX9_init_18 : decode cX9_init 18 = .ok (.aload_n 0, 1) := by decide +kernel
theorem dX9_init_19 : decode cX9_init 19 = .ok (.aload_n 0, 1) := by decide +kernel
theorem dX9_init_20 : decode cX9_init 20 = .ok (.getfield 14, 3) := by decide +kernel
theorem dX9_init_23 : decode cX9_init 23 = .ok (.putfield 20, 3) := by decide +kernel
theorem dX9_init_26 : decode cX9_init 26 = .ok (.return_, 1) := by decide +kernel
theorem dX9_label_0 : decode cX9_label 0 = .ok (.iload_n 0, 1) := by decide +kernel
theorem dX9_label_1 : decode cX9_label 1 = .ok (.ifCond .ne 8, 3) := by decide +kernel
theorem dX9_label_4 : decode cX9_label 4 = .ok (.ldc 24, 2) := by decide +kernel
theorem dX9_label_6 : decode cX9_label 6 = .ok (.goto 15, 3) := by decide +kernel
theorem dX9_label_9 : decode cX9_label 9 = .ok (.iload_n 0, 1) := by decide +kernel
theorem dX9_label_10 : decode cX9_label 10 = .ok (.iconst 1, 1) := by decide +kernel
theorem dX9_label_11 : decode cX9_label 11 = .ok (.if_icmp .ne 8, 3) := by decide +kernel
theorem dX9_label_14 : decode cX9_label 14 = .ok (.ldc 26, 2) := by decide +kernel
theorem dX9_label_16 : decode cX9_label 16 = .ok (.goto 5, 3) := by decide +kernel
theorem dX9_label_19 : decode cX9_label 19 = .ok (.ldc 28, 2) := by decide +kernel
theorem dX9_label_21 : decode cX9_label 21 = .ok (.areturn, 1) := by decide +kernel
theorem dX9_sumOf_0 : decode cX9_sumOf 0 = .ok (.ldc 30, 2) := by decide +kernel
theorem dX9_sumOf_2 : decode cX9_sumOf 2 = .ok (.istore_n 1, 1) := by decide +kernel
theorem dX9_sumOf_3 : decode cX9_sumOf 3 = .ok (.iconst 0, 1) := by decide +kernel
theorem dX9_sumOf_4 : decode cX9_sumOf 4 = .ok (.istore_n 2, 1) := by decide +kernel
theorem dX9_sumOf_5 : decode cX9_sumOf 5 = .ok (.iload_n 2, 1) := by decide +kernel
theorem dX9_sumOf_6 : decode cX9_sumOf 6 = .ok (.aload_n 0, 1) := by decide +kernel
theorem dX9_sumOf_7 : decode cX9_sumOf 7 = .ok (.getfield 31, 3) := by decide +kernel
theorem dX9_sumOf_10 : decode cX9_sumOf 10 = .ok (.if_icmp .ge 50, 3) := by decide +kernel
theorem dX9_sumOf_13 : decode cX9_sumOf 13 = .ok (.iload_n 1, 1) := by decide +kernel
theorem dX9_sumOf_14 : decode cX9_sumOf 14 = .ok (.aload_n 0, 1) := by decide +kernel
theorem dX9_sumOf_15 : decode cX9_sumOf 15 = .ok (.iload_n 2, 1) := by decide +kernel
theorem dX9_sumOf_16 : decode cX9_sumOf 16 = .ok (.invokevirtual 37, 3) := by decide +kernel
theorem dX9_sumOf_19 : decode cX9_sumOf 19 = .ok (.bipush 16, 2) := by decide +kernel
theorem dX9_sumOf_21 : decode cX9_sumOf 21 = .ok (.ishl, 1) := by decide +kernel
theorem dX9_sumOf_22 : decode cX9_sumOf 22 = .ok (.ixor, 1) := by decide +kernel
theorem dX9_sumOf_23 : decode cX9_sumOf 23 = .ok (.istore_n 1, 1) := by decide +kernel
theorem dX9_sumOf_24 : decode cX9_sumOf 24 = .ok (.iconst 0, 1) := by decide +kernel
theorem dX9_sumOf_25 : decode cX9_sumOf 25 = .ok (.istore_n 3, 1) := by decide +kernel
theorem dX9_sumOf_26 : decode cX9_sumOf 26 = .ok (.iload_n 3, 1) := by decide +kernel
theorem dX9_sumOf_27 : decode cX9_sumOf 27 = .ok (.bipush 8, 2) := by decide +kernel
theorem dX9_sumOf_29 : decode cX9_sumOf 29 = .ok (.if_icmp .ge 25, 3) := by decide +kernel
theorem dX9_sumOf_32 : decode cX9_sumOf 32 = .ok (.iload_n 1, 1) := by decide +kernel
theorem dX9_sumOf_33 : decode cX9_sumOf 33 = .ok (.iconst 1, 1) := by decide +kernel
theorem dX9_sumOf_34 : decode cX9_sumOf 34 = .ok (.ishl, 1) := by decide +kernel
theorem dX9_sumOf_35 : decode cX9_sumOf 35 = .ok (.istore_n 1, 1) := by decide +kernel
theorem dX9_sumOf_36 : decode cX9_sumOf 36 = .ok (.iload_n 1, 1) := by decide +kernel
theorem dX9_sumOf_37 : decode cX9_sumOf 37 = .ok (.ldc 41, 2) := by decide +kernel
theorem dX9_sumOf_39 : decode cX9_sumOf 39 = .ok (.iand, 1) := by decide +kernel
theorem dX9_sumOf_40 : decode cX9_sumOf 40 = .ok (.ifCond .eq 8, 3) := by decide +kernel
theorem dX9_sumOf_43 : decode cX9_sumOf 43 = .ok (.iload_n 1, 1) := by decide +kernel
theorem dX9_sumOf_44 : decode cX9_sumOf 44 = .ok (.ldc 42, 2) := by decide +kernel
theorem dX9_sumOf_46 : decode cX9_sumOf 46 = .ok (.ixor, 1) := by decide +kernel
theorem dX9_sumOf_47 : decode cX9_sumOf 47 = .ok (.istore_n 1, 1) := by decide +kernel
theorem dX9_sumOf_48 : decode cX9_sumOf 48 = .ok (.iinc 3 1, 3) := by decide +kernel
theorem dX9_sumOf_51 : decode cX9_sumOf 51 = .ok (.goto (-25), 3) := by decide +kernel
theorem dX9_sumOf_54 : decode cX9_sumOf 54 = .ok (.iinc 2 1, 3) := by decide +kernel
theorem dX9_sumOf_57 : decode cX9_sumOf 57 = .ok (.goto (-52), 3) := by decide +kernel
theorem dX9_sumOf_60 : decode cX9_sumOf 60 = .ok (.iload_n 1, 1) := by decide +kernel
theorem dX9_sumOf_61 : decode cX9_sumOf 61 = .ok (.ireturn, 1) := by decide +kernel
theorem dX9_signOf_0 : decode cX9_signOf 0 = .ok (.iload_n 0, 1) := by decide +kernel
theorem dX9_signOf_1 : decode cX9_signOf 1 = .ok (.bipush 26, 2) := by decide +kernel
theorem dX9_signOf_3 : decode cX9_signOf 3 = .ok (.if_icmp .ge 8, 3) := by decide +kernel
theorem dX9_signOf_6 : decode cX9_signOf 6 = .ok (.bipush 65, 2) := by decide +kernel
theorem dX9_signOf_8 : decode cX9_signOf 8 = .ok (.iload_n 0, 1) := by decide +kernel
theorem dX9_signOf_9 : decode cX9_signOf 9 = .ok (.iadd, 1) := by decide +kernel
theorem dX9_signOf_10 : decode cX9_signOf 10 = .ok (.ireturn, 1) := by decide +kernel
theorem dX9_signOf_11 : decode cX9_signOf 11 = .ok (.iload_n 0, 1) := by decide +kernel
theorem dX9_signOf_12 : decode cX9_signOf 12 = .ok (.bipush 52, 2) := by decide +kernel
theorem dX9_signOf_14 : decode cX9_signOf 14 = .ok (.if_icmp .ge 11, 3) := by decide +kernel
theorem dX9_signOf_17 : decode cX9_signOf 17 = .ok (.bipush 97, 2) := by decide +kernel
theorem dX9_signOf_19 : decode cX9_signOf 19 = .ok (.iload_n 0, 1) := by decide +kernel
theorem dX9_signOf_20 : decode cX9_signOf 20 = .ok (.iadd, 1) := by decide +kernel
theorem dX9_signOf_21 : decode cX9_signOf 21 = .ok (.bipush 26, 2) := by decide +kernel
theorem dX9_signOf_23 : decode cX9_signOf 23 = .ok (.isub, 1) := by decide +kernel
theorem dX9_signOf_24 : decode cX9_signOf 24 = .ok (.ireturn, 1) := by decide +kernel
theorem dX9_signOf_25 : decode cX9_signOf 25 = .ok (.iload_n 0, 1) := by decide +kernel
theorem dX9_signOf_26 : decode cX9_signOf 26 = .ok (.bipush 62, 2) := by decide +kernel
theorem dX9_signOf_28 : decode cX9_signOf 28 = .ok (.if_icmp .ge 13, 3) := by decide +kernel
theorem dX9_signOf_31 : decode cX9_signOf 31 = .ok (.bipush 48, 2) := by decide +kernel
theorem dX9_signOf_33 : decode cX9_signOf 33 = .ok (.iload_n 0, 1) := by decide +kernel
theorem dX9_signOf_34 : decode cX9_signOf 34 = .ok (.iadd, 1) := by decide +kernel
theorem dX9_signOf_35 : decode cX9_signOf 35 = .ok (.bipush 52, 2) := by decide +kernel
theorem dX9_signOf_37 : decode cX9_signOf 37 = .ok (.isub, 1) := by decide +kernel
theorem dX9_signOf_38 : decode cX9_signOf 38 = .ok (.goto 16, 3) := by decide +kernel
theorem dX9_signOf_41 : decode cX9_signOf 41 = .ok (.iload_n 0, 1) := by decide +kernel
theorem dX9_signOf_42 : decode cX9_signOf 42 = .ok (.bipush 62, 2) := by decide +kernel
theorem dX9_signOf_44 : decode cX9_signOf 44 = .ok (.if_icmp .ne 8, 3) := by decide +kernel
theorem dX9_signOf_47 : decode cX9_signOf 47 = .ok (.bipush 43, 2) := by decide +kernel
theorem dX9_signOf_49 : decode cX9_signOf 49 = .ok (.goto 5, 3) := by decide +kernel
theorem dX9_signOf_52 : decode cX9_signOf 52 = .ok (.bipush 47, 2) := by decide +kernel
theorem dX9_signOf_54 : decode cX9_signOf 54 = .ok (.ireturn, 1) := by decide +kernel
theorem dX9_write_0 : decode cX9_write 0 = .ok (.aload_n 2, 1) := by decide +kernel
theorem dX9_write_1 : decode cX9_write 1 = .ok (.ldc 82, 2) := by decide +kernel
theorem dX9_write_3 : decode cX9_write 3 = .ok (.invokevirtual 149, 3) := by decide +kernel
theorem dX9_write_6 : decode cX9_write 6 = .ok (.aload_n 2, 1) := by decide +kernel
theorem dX9_write_7 : decode cX9_write 7 = .ok (.iload_n 1, 1) := by decide +kernel
theorem dX9_write_8 : decode cX9_write 8 = .ok (.invokestatic 84, 3) := by decide +kernel
theorem dX9_write_11 : decode cX9_write 11 = .ok (.invokevirtual 149, 3) := by decide +kernel
theorem dX9_write_14 : decode cX9_write 14 = .ok (.aload_n 2, 1) := by decide +kernel
theorem dX9_write_15 : decode cX9_write 15 = .ok (.ldc 80, 2) := by decide +kernel
theorem dX9_write_17 : decode cX9_write 17 = .ok (.invokevirtual 149, 3) := by decide +kernel
theorem dX9_write_20 : decode cX9_write 20 = .ok (.aload_n 2, 1) := by decide +kernel
theorem dX9_write_21 : decode cX9_write 21 = .ok (.bipush 10, 2) := by decide +kernel
theorem dX9_write_23 : decode cX9_write 23 = .ok (.invokevirtual 135, 3) := by decide +kernel
theorem dX9_write_26 : decode cX9_write 26 = .ok (.aload_n 2, 1) := by decide +kernel
theorem dX9_write_27 : decode cX9_write 27 = .ok (.bipush 10, 2) := by decide +kernel
theorem dX9_write_29 : decode cX9_write 29 = .ok (.invokevirtual 135, 3) := by decide +kernel
theorem dX9_write_32 : decode cX9_write 32 = .ok (.iconst 0, 1) := by decide +kernel
theorem dX9_write_33 : decode cX9_write 33 = .ok (.istore_n 3, 1) := by decide +kernel
theorem dX9_write_34 : decode cX9_write 34 = .ok (.iload_n 3, 1) := by decide +kernel
theorem dX9_write_35 : decode cX9_write 35 = .ok (.aload_n 0, 1) := by decide +kernel
theorem dX9_write_36 : decode cX9_write 36 = .ok (.getfield 31, 3) := by decide +kernel
theorem dX9_write_39 : decode cX9_write 39 = .ok (.if_icmp .ge 54, 3) := by decide +kernel
theorem dX9_write_42 : decode cX9_write 42 = .ok (.aload_n 0, 1) := by decide +kernel
theorem dX9_write_43 : decode cX9_write 43 = .ok (.iload_n 3, 1) := by decide +kernel
theorem dX9_write_44 : decode cX9_write 44 = .ok (.iconst 3, 1) := by decide +kernel
theorem dX9_write_45 : decode cX9_write 45 = .ok (.invokevirtual 153, 3) := by decide +kernel
theorem dX9_write_48 : decode cX9_write 48 = .ok (.aload_n 0, 1) := by decide +kernel
theorem dX9_write_49 : decode cX9_write 49 = .ok (.getfield 31, 3) := by decide +kernel
theorem dX9_write_52 : decode cX9_write 52 = .ok (.iload_n 3, 1) := by decide +kernel
theorem dX9_write_53 : decode cX9_write 53 = .ok (.isub, 1) := by decide +kernel
theorem dX9_write_54 : decode cX9_write 54 = .ok (.iconst 3, 1) := by decide +kernel
theorem dX9_write_55 : decode cX9_write 55 = .ok (.invokestatic 52, 3) := by decide +kernel
theorem dX9_write_58 : decode cX9_write 58 = .ok (.aload_n 2, 1) := by decide +kernel
theorem dX9_write_59 : decode cX9_write 59 = .ok (.invokestatic 157, 3) := by decide +kernel
theorem dX9_write_62 : decode cX9_write 62 = .ok (.iload_n 3, 1) := by decide +kernel
theorem dX9_write_63 : decode cX9_write 63 = .ok (.bipush 48, 2) := by decide +kernel
theorem dX9_write_65 : decode cX9_write 65 = .ok (.irem, 1) := by decide +kernel
theorem dX9_write_66 : decode cX9_write 66 = .ok (.bipush 45, 2) := by decide +kernel
theorem dX9_write_68 : decode cX9_write 68 = .ok (.if_icmp .eq 13, 3) := by decide +kernel
theorem dX9_write_71 : decode cX9_write 71 = .ok (.iload_n 3, 1) := by decide +kernel
theorem dX9_write_72 : decode cX9_write 72 = .ok (.iconst 3, 1) := by decide +kernel
theorem dX9_write_73 : decode cX9_write 73 = .ok (.iadd, 1) := by decide +kernel
theorem dX9_write_74 : decode cX9_write 74 = .ok (.aload_n 0, 1) := by decide +kernel
theorem dX9_write_75 : decode cX9_write 75 = .ok (.getfield 31, 3) := by decide +kernel
theorem dX9_write_78 : decode cX9_write 78 = .ok (.if_icmp .lt 9, 3) := by decide +kernel
theorem dX9_write_81 : decode cX9_write 81 = .ok (.aload_n 2, 1) := by decide +kernel
theorem dX9_write_82 : decode cX9_write 82 = .ok (.bipush 10, 2) := by decide +kernel
theorem dX9_write_84 : decode cX9_write 84 = .ok (.invokevirtual 135, 3) := by decide +kernel
theorem dX9_write_87 : decode cX9_write 87 = .ok (.iinc 3 3, 3) := by decide +kernel
theorem dX9_write_90 : decode cX9_write 90 = .ok (.goto (-56), 3) := by decide +kernel
theorem dX9_write_93 : decode cX9_write 93 = .ok (.aload_n 2, 1) := by decide +kernel
theorem dX9_write_94 : decode cX9_write 94 = .ok (.bipush 61, 2) := by decide +kernel
theorem dX9_write_96 : decode cX9_write 96 = .ok (.invokevirtual 135, 3) := by decide +kernel
theorem dX9_write_99 : decode cX9_write 99 = .ok (.aload_n 0, 1) := by decide +kernel
theorem dX9_write_100 : decode cX9_write 100 = .ok (.invokestatic 138, 3) := by decide +kernel
theorem dX9_write_103 : decode cX9_write 103 = .ok (.i2l, 1) := by decide +kernel
theorem dX9_write_104 : decode cX9_write 104 = .ok (.iconst 3, 1) := by decide +kernel
theorem dX9_write_105 : decode cX9_write 105 = .ok (.aload_n 2, 1) := by decide +kernel
theorem dX9_write_106 : decode cX9_write 106 = .ok (.invokestatic 157, 3) := by decide +kernel
theorem dX9_write_109 : decode cX9_write 109 = .ok (.aload_n 2, 1) := by decide +kernel
theorem dX9_write_110 : decode cX9_write 110 = .ok (.bipush 10, 2) := by decide +kernel
theorem dX9_write_112 : decode cX9_write 112 = .ok (.invokevirtual 135, 3) := by decide +kernel
theorem dX9_write_115 : decode cX9_write 115 = .ok (.aload_n 2, 1) := by decide +kernel
theorem dX9_write_116 : decode cX9_write 116 = .ok (.ldc 113, 2) := by decide +kernel
theorem dX9_write_118 : decode cX9_write 118 = .ok (.invokevirtual 149, 3) := by decide +kernel
theorem dX9_write_121 : decode cX9_write 121 = .ok (.aload_n 2, 1) := by decide +kernel
theorem dX9_write_122 : decode cX9_write 122 = .ok (.iload_n 1, 1) := by decide +kernel
theorem dX9_write_123 : decode cX9_write 123 = .ok (.invokestatic 84, 3) := by decide +kernel
theorem dX9_write_126 : decode cX9_write 126 = .ok (.invokevirtual 149, 3) := by decide +kernel
theorem dX9_write_129 : decode cX9_write 129 = .ok (.aload_n 2, 1) := by decide +kernel
theorem dX9_write_130 : decode cX9_write 130 = .ok (.ldc 80, 2) := by decide +kernel
theorem dX9_write_132 : decode cX9_write 132 = .ok (.invokevirtual 149, 3) := by decide +kernel
theorem dX9_write_135 : decode cX9_write 135 = .ok (.aload_n 2, 1) := by decide +kernel
theorem dX9_write_136 : decode cX9_write 136 = .ok (.bipush 10, 2) := by decide +kernel
theorem dX9_write_138 : decode cX9_write 138 = .ok (.invokevirtual 135, 3) := by decide +kernel
theorem dX9_write_141 : decode cX9_write 141 = .ok (.return_, 1) := by decide +kernel
theorem dX9_writeGroup_0 : decode cX9_writeGroup 0 = .ok (.iconst 0, 1) := by decide +kernel
theorem dX9_writeGroup_1 : decode cX9_writeGroup 1 = .ok (.istore 4, 2) := by decide +kernel
theorem dX9_writeGroup_3 : decode cX9_writeGroup 3 = .ok (.iload 4, 2) := by decide +kernel
theorem dX9_writeGroup_5 : decode cX9_writeGroup 5 = .ok (.iconst 4, 1) := by decide +kernel
theorem dX9_writeGroup_6 : decode cX9_writeGroup 6 = .ok (.if_icmp .ge 41, 3) := by decide +kernel
theorem dX9_writeGroup_9 : decode cX9_writeGroup 9 = .ok (.aload_n 3, 1) := by decide +kernel
theorem dX9_writeGroup_10 : decode cX9_writeGroup 10 = .ok (.iload 4, 2) := by decide +kernel
theorem dX9_writeGroup_12 : decode cX9_writeGroup 12 = .ok (.iload_n 2, 1) := by decide +kernel
theorem dX9_writeGroup_13 : decode cX9_writeGroup 13 = .ok (.if_icmp .gt 23, 3) := by decide +kernel
theorem dX9_writeGroup_16 : decode cX9_writeGroup 16 = .ok (.lload_n 0, 1) := by decide +kernel
theorem dX9_writeGroup_17 : decode cX9_writeGroup 17 = .ok (.bipush 18, 2) := by decide +kernel
theorem dX9_writeGroup_19 : decode cX9_writeGroup 19 = .ok (.bipush 6, 2) := by decide +kernel
theorem dX9_writeGroup_21 : decode cX9_writeGroup 21 = .ok (.iload 4, 2) := by decide +kernel
theorem dX9_writeGroup_23 : decode cX9_writeGroup 23 = .ok (.imul, 1) := by decide +kernel
theorem dX9_writeGroup_24 : decode cX9_writeGroup 24 = .ok (.isub, 1) := by decide +kernel
theorem dX9_writeGroup_25 : decode cX9_writeGroup 25 = .ok (.lshr, 1) := by decide +kernel
theorem dX9_writeGroup_26 : decode cX9_writeGroup 26 = .ok (.l2i, 1) := by decide +kernel
theorem dX9_writeGroup_27 : decode cX9_writeGroup 27 = .ok (.bipush 63, 2) := by decide +kernel
theorem dX9_writeGroup_29 : decode cX9_writeGroup 29 = .ok (.iand, 1) := by decide +kernel
theorem dX9_writeGroup_30 : decode cX9_writeGroup 30 = .ok (.invokestatic 161, 3) := by decide +kernel
theorem dX9_writeGroup_33 : decode cX9_writeGroup 33 = .ok (.goto 5, 3) := by decide +kernel
theorem dX9_writeGroup_36 : decode cX9_writeGroup 36 = .ok (.bipush 61, 2) := by decide +kernel
theorem dX9_writeGroup_38 : decode cX9_writeGroup 38 = .ok (.invokevirtual 135, 3) := by decide +kernel
theorem dX9_writeGroup_41 : decode cX9_writeGroup 41 = .ok (.iinc 4 1, 3) := by decide +kernel
theorem dX9_writeGroup_44 : decode cX9_writeGroup 44 = .ok (.goto (-41), 3) := by decide +kernel
theorem dX9_writeGroup_47 : decode cX9_writeGroup 47 = .ok (.return_, 1) := by decide +kernel
theorem dX10_init_0 : decode cX10_init 0 = .ok (.aload_n 0, 1) := by decide +kernel
theorem dX10_init_1 : decode cX10_init 1 = .ok (.invokespecial 1, 3) := by decide +kernel
theorem dX10_init_4 : decode cX10_init 4 = .ok (.aload_n 0, 1) := by decide +kernel
theorem dX10_init_5 : decode cX10_init 5 = .ok (.aload_n 1, 1) := by decide +kernel
theorem dX10_init_6 : decode cX10_init 6 = .ok (.putfield 7, 3) := by decide +kernel
theorem dX10_init_9 : decode cX10_init 9 = .ok (.aload_n 0, 1) := by decide +kernel
theorem dX10_init_10 : decode cX10_init 10 = .ok (.iload_n 2, 1) := by decide +kernel
theorem dX10_init_11 : decode cX10_init 11 = .ok (.putfield 13, 3) := by decide +kernel
theorem dX10_init_14 : decode cX10_init 14 = .ok (.aload_n 0, 1) := by decide +kernel
theorem dX10_init_15 : decode cX10_init 15 = .ok (.iload_n 3, 1) := by decide +kernel
theorem dX10_init_16 : decode cX10_init 16 = .ok (.putfield 17, 3) := by decide +kernel
theorem dX10_init_19 : decode cX10_init 19 = .ok (.return_, 1) := by decide +kernel
theorem dX10_view_0 : decode cX10_view 0 = .ok (.aload_n 0, 1) := by decide +kernel
theorem dX10_view_1 : decode cX10_view 1 = .ok (.aload_n 1, 1) := by decide +kernel
theorem dX10_view_2 : decode cX10_view 2 = .ok (.putfield 7, 3) := by decide +kernel
theorem dX10_view_5 : decode cX10_view 5 = .ok (.aload_n 0, 1) := by decide +kernel
theorem dX10_view_6 : decode cX10_view 6 = .ok (.iload_n 2, 1) := by decide +kernel
theorem dX10_view_7 : decode cX10_view 7 = .ok (.putfield 13, 3) := by decide +kernel
theorem dX10_view_10 : decode cX10_view 10 = .ok (.aload_n 0, 1) := by decide +kernel
theorem dX10_view_11 : decode cX10_view 11 = .ok (.iload_n 3, 1) := by decide +kernel
theorem dX10_view_12 : decode cX10_view 12 = .ok (.putfield 17, 3) := by decide +kernel
theorem dX10_view_15 : decode cX10_view 15 = .ok (.return_, 1) := by decide +kernel
theorem dX10_at_0 : decode cX10_at 0 = .ok (.aload_n 0, 1) := by decide +kernel
theorem dX10_at_1 : decode cX10_at 1 = .ok (.getfield 13, 3) := by decide +kernel
theorem dX10_at_4 : decode cX10_at 4 = .ok (.iload_n 1, 1) := by decide +kernel
theorem dX10_at_5 : decode cX10_at 5 = .ok (.iadd, 1) := by decide +kernel
theorem dX10_at_6 : decode cX10_at 6 = .ok (.istore_n 2, 1) := by decide +kernel
theorem dX10_at_7 : decode cX10_at 7 = .ok (.iload_n 1, 1) := by decide +kernel
theorem dX10_at_8 : decode cX10_at 8 = .ok (.ifCond .lt 37, 3) := by decide +kernel
theorem dX10_at_11 : decode cX10_at 11 = .ok (.iload_n 1, 1) := by decide +kernel
theorem dX10_at_12 : decode cX10_at 12 = .ok (.aload_n 0, 1) := by decide +kernel
theorem dX10_at_13 : decode cX10_at 13 = .ok (.getfield 17, 3) := by decide +kernel
theorem dX10_at_16 : decode cX10_at 16 = .ok (.if_icmp .ge 29, 3) := by decide +kernel
theorem dX10_at_19 : decode cX10_at 19 = .ok (.iload_n 2, 1) := by decide +kernel
theorem dX10_at_20 : decode cX10_at 20 = .ok (.ifCond .lt 25, 3) := by decide +kernel
theorem dX10_at_23 : decode cX10_at 23 = .ok (.iload_n 2, 1) := by decide +kernel
theorem dX10_at_24 : decode cX10_at 24 = .ok (.aload_n 0, 1) := by decide +kernel
theorem dX10_at_25 : decode cX10_at 25 = .ok (.getfield 7, 3) := by decide +kernel
theorem dX10_at_28 : decode cX10_at 28 = .ok (.arraylength, 1) := by decide +kernel
theorem dX10_at_29 : decode cX10_at 29 = .ok (.if_icmp .ge 16, 3) := by decide +kernel
theorem dX10_at_32 : decode cX10_at 32 = .ok (.aload_n 0, 1) := by decide +kernel
theorem dX10_at_33 : decode cX10_at 33 = .ok (.getfield 7, 3) := by decide +kernel
theorem dX10_at_36 : decode cX10_at 36 = .ok (.iload_n 2, 1) := by decide +kernel
theorem dX10_at_37 : decode cX10_at 37 = .ok (.baload, 1) := by decide +kernel
theorem dX10_at_38 : decode cX10_at 38 = .ok (.sipush 255, 3) := by decide +kernel
theorem dX10_at_41 : decode cX10_at 41 = .ok (.iand, 1) := by decide +kernel
theorem dX10_at_42 : decode cX10_at 42 = .ok (.goto 4, 3) := by decide +kernel
theorem dX10_at_45 : decode cX10_at 45 = .ok (.iconst 0, 1) := by decide +kernel
theorem dX10_at_46 : decode cX10_at 46 = .ok (.ireturn, 1) := by decide +kernel
theorem dX10_number_0 : decode cX10_number 0 = .ok (.lconst 0, 1) := by decide +kernel
theorem dX10_number_1 : decode cX10_number 1 = .ok (.lstore_n 3, 1) := by decide +kernel
theorem dX10_number_2 : decode cX10_number 2 = .ok (.iconst 0, 1) := by decide +kernel
theorem dX10_number_3 : decode cX10_number 3 = .ok (.istore 5, 2) := by decide +kernel
theorem dX10_number_5 : decode cX10_number 5 = .ok (.iload 5, 2) := by decide +kernel
theorem dX10_number_7 : decode cX10_number 7 = .ok (.iload_n 2, 1) := by decide +kernel
theorem dX10_number_8 : decode cX10_number 8 = .ok (.if_icmp .ge 84, 3) := by decide +kernel
theorem dX10_number_11 : decode cX10_number 11 = .ok (.aload_n 0, 1) := by decide +kernel
theorem dX10_number_12 : decode cX10_number 12 = .ok (.getfield 13, 3) := by decide +kernel
theorem dX10_number_15 : decode cX10_number 15 = .ok (.iload_n 1, 1) := by decide +kernel
theorem dX10_number_16 : decode cX10_number 16 = .ok (.iadd, 1) := by decide +kernel
theorem dX10_number_17 : decode cX10_number 17 = .ok (.iload 5, 2) := by decide +kernel
theorem dX10_number_19 : decode cX10_number 19 = .ok (.iadd, 1) := by decide +kernel
theorem dX10_number_20 : decode cX10_number 20 = .ok (.istore 6, 2) := by decide +kernel
theorem dX10_number_22 : decode cX10_number 22 = .ok (.iload_n 1, 1) := by decide +kernel
theorem dX10_number_23 : decode cX10_number 23 = .ok (.ifCond .lt 33, 3) := by decide +kernel
theorem dX10_number_26 : decode cX10_number 26 = .ok (.iload_n 1, 1) := by decide +kernel
theorem dX10_number_27 : decode cX10_number 27 = .ok (.iload 5, 2) := by decide +kernel
theorem dX10_number_29 : decode cX10_number 29 = .ok (.iadd, 1) := by decide +kernel
theorem dX10_number_30 : decode cX10_number 30 = .ok (.aload_n 0, 1) := by decide +kernel
theorem dX10_number_31 : decode cX10_number 31 = .ok (.getfield 17, 3) := by decide +kernel
theorem dX10_number_34 : decode cX10_number 34 = .ok (.if_icmp .ge 22, 3) := by decide +kernel
theorem dX10_number_37 : decode cX10_number 37 = .ok (.iload 6, 2) := by decide +kernel
theorem dX10_number_39 : decode cX10_number 39 = .ok (.ifCond .lt 17, 3) := by decide +kernel
theorem dX10_number_42 : decode cX10_number 42 = .ok (.iload 6, 2) := by decide +kernel
theorem dX10_number_44 : decode cX10_number 44 = .ok (.aload_n 0, 1) := by decide +kernel
theorem dX10_number_45 : decode cX10_number 45 = .ok (.getfield 7, 3) := by decide +kernel
theorem dX10_number_48 : decode cX10_number 48 = .ok (.arraylength, 1) := by decide +kernel
theorem dX10_number_49 : decode cX10_number 49 = .ok (.if_icmp .ge 7, 3) := by decide +kernel
theorem dX10_number_52 : decode cX10_number 52 = .ok (.iconst 1, 1) := by decide +kernel
theorem dX10_number_53 : decode cX10_number 53 = .ok (.goto 4, 3) := by decide +kernel
theorem dX10_number_56 : decode cX10_number 56 = .ok (.iconst 0, 1) := by decide +kernel
theorem dX10_number_57 : decode cX10_number 57 = .ok (.istore 7, 2) := by decide +kernel
theorem dX10_number_59 : decode cX10_number 59 = .ok (.lload_n 3, 1) := by decide +kernel
theorem dX10_number_60 : decode cX10_number 60 = .ok (.bipush 8, 2) := by decide +kernel
theorem dX10_number_62 : decode cX10_number 62 = .ok (.lshl, 1) := by decide +kernel
theorem dX10_number_63 : decode cX10_number 63 = .ok (.iload 7, 2) := by decide +kernel
theorem dX10_number_65 : decode cX10_number 65 = .ok (.ifCond .eq 17, 3) := by decide +kernel
theorem dX10_number_68 : decode cX10_number 68 = .ok (.aload_n 0, 1) := by decide +kernel
theorem dX10_number_69 : decode cX10_number 69 = .ok (.getfield 7, 3) := by decide +kernel
theorem dX10_number_72 : decode cX10_number 72 = .ok (.iload 6, 2) := by decide +kernel
theorem dX10_number_74 : decode cX10_number 74 = .ok (.baload, 1) := by decide +kernel
theorem dX10_number_75 : decode cX10_number 75 = .ok (.sipush 255, 3) := by decide +kernel
theorem dX10_number_78 : decode cX10_number 78 = .ok (.iand, 1) := by decide +kernel
theorem dX10_number_79 : decode cX10_number 79 = .ok (.goto 4, 3) := by decide +kernel
theorem dX10_number_82 : decode cX10_number 82 = .ok (.iconst 0, 1) := by decide +kernel
theorem dX10_number_83 : decode cX10_number 83 = .ok (.i2l, 1) := by decide +kernel
theorem dX10_number_84 : decode cX10_number 84 = .ok (.lor, 1) := by decide +kernel
theorem dX10_number_85 : decode cX10_number 85 = .ok (.lstore_n 3, 1) := by decide +kernel
theorem dX10_number_86 : decode cX10_number 86 = .ok (.iinc 5 1, 3) := by decide +kernel
theorem dX10_number_89 : decode cX10_number 89 = .ok (.goto (-84), 3) := by decide +kernel
theorem dX10_number_92 : decode cX10_number 92 = .ok (.lload_n 3, 1) := by decide +kernel
theorem dX10_number_93 : decode cX10_number 93 = .ok (.lreturn, 1) := by decide +kernel
theorem dX11_init_0 : decode cX11_init 0 = .ok (.aload_n 0, 1) := by decide +kernel
theorem dX11_init_1 : decode cX11_init 1 = .ok (.invokespecial 1, 3) := by decide +kernel
theorem dX11_init_4 : decode cX11_init 4 = .ok (.aload_n 0, 1) := by decide +kernel
theorem dX11_init_5 : decode cX11_init 5 = .ok (.new 7, 3) := by decide +kernel
theorem dX11_init_8 : decode cX11_init 8 = .ok (.dup, 1) := by decide +kernel
theorem dX11_init_9 : decode cX11_init 9 = .ok (.sipush 4096, 3) := by decide +kernel
theorem dX11_init_12 : decode cX11_init 12 = .ok (.invokespecial 11, 3) := by decide +kernel
theorem dX11_init_15 : decode cX11_init 15 = .ok (.putfield 14, 3) := by decide +kernel
theorem dX11_init_18 : decode cX11_init 18 = .ok (.aload_n 0, 1) := by decide +kernel
theorem dX11_init_19 : decode cX11_init 19 = .ok (.new 7, 3) := by decide +kernel
theorem dX11_init_22 : decode cX11_init 22 = .ok (.dup, 1) := by decide +kernel
theorem dX11_init_23 : decode cX11_init 23 = .ok (.sipush 1024, 3) := by decide +kernel
theorem dX11_init_26 : decode cX11_init 26 = .ok (.invokespecial 11, 3) := by decide +kernel
theorem dX11_init_29 : decode cX11_init 29 = .ok (.putfield 18, 3) := by decide +kernel
theorem dX11_init_32 : decode cX11_init 32 = .ok (.aload_n 0, 1) := by decide +kernel
theorem dX11_init_33 : decode cX11_init 33 = .ok (.new 7, 3) := by decide +kernel
theorem dX11_init_36 : decode cX11_init 36 = .ok (.dup, 1) := by decide +kernel
theorem dX11_init_37 : decode cX11_init 37 = .ok (.sipush 1024, 3) := by decide +kernel
theorem dX11_init_40 : decode cX11_init 40 = .ok (.invokespecial 11, 3) := by decide +kernel
theorem dX11_init_43 : decode cX11_init 43 = .ok (.putfield 21, 3) := by decide +kernel
theorem dX11_init_46 : decode cX11_init 46 = .ok (.aload_n 0, 1) := by decide +kernel
theorem dX11_init_47 : decode cX11_init 47 = .ok (.new 7, 3) := by decide +kernel
theorem dX11_init_50 : decode cX11_init 50 = .ok (.dup, 1) := by decide +kernel
theorem dX11_init_51 : decode cX11_init 51 = .ok (.sipush 256, 3) := by decide +kernel
theorem dX11_init_54 : decode cX11_init 54 = .ok (.invokespecial 11, 3) := by decide +kernel
theorem dX11_init_57 : decode cX11_init 57 = .ok (.putfield 24, 3) := by decide +kernel
theorem dX11_init_60 : decode cX11_init 60 = .ok (.aload_n 0, 1) := by decide +kernel
theorem dX11_init_61 : decode cX11_init 61 = .ok (.new 27, 3) := by decide +kernel
theorem dX11_init_64 : decode cX11_init 64 = .ok (.dup, 1) := by decide +kernel
theorem dX11_init_65 : decode cX11_init 65 = .ok (.iconst 0, 1) := by decide +kernel
theorem dX11_init_66 : decode cX11_init 66 = .ok (.newarray .byte, 2) := by decide +kernel
theorem dX11_init_68 : decode cX11_init 68 = .ok (.iconst 0, 1) := by decide +kernel
theorem dX11_init_69 : decode cX11_init 69 = .ok (.iconst 0, 1) := by decide +kernel
theorem dX11_init_70 : decode cX11_init 70 = .ok (.invokespecial 29, 3) := by decide +kernel
theorem dX11_init_73 : decode cX11_init 73 = .ok (.putfield 32, 3) := by decide +kernel
theorem dX11_init_76 : decode cX11_init 76 = .ok (.aload_n 0, 1) := by decide +kernel
theorem dX11_init_77 : decode cX11_init 77 = .ok (.new 36, 3) := by decide +kernel
theorem dX11_init_80 : decode cX11_init 80 = .ok (.dup, 1) := by decide +kernel
theorem dX11_init_81 : decode cX11_init 81 = .ok (.invokespecial 38, 3) := by decide +kernel
theorem dX11_init_84 : decode cX11_init 84 = .ok (.putfield 39, 3) := by decide +kernel
theorem dX11_init_87 : decode cX11_init 87 = .ok (.aload_n 0, 1) := by decide +kernel
theorem dX11_init_88 : decode cX11_init 88 = .ok (.new 43, 3) := by decide +kernel
theorem dX11_init_91 : decode cX11_init 91 = .ok (.dup, 1) := by decide +kernel
theorem dX11_init_92 : decode cX11_init 92 = .ok (.invokespecial 45, 3) := by decide +kernel
theorem dX11_init_95 : decode cX11_init 95 = .ok (.putfield 46, 3) := by decide +kernel
theorem dX11_init_98 : decode cX11_init 98 = .ok (.aload_n 0, 1) := by decide +kernel
theorem dX11_init_99 : decode cX11_init 99 = .ok (.new 50, 3) := by decide +kernel
theorem dX11_init_102 : decode cX11_init 102 = .ok (.dup, 1) := by decide +kernel
theorem dX11_init_103 : decode cX11_init 103 = .ok (.invokespecial 52, 3) := by decide +kernel
theorem dX11_init_106 : decode cX11_init 106 = .ok (.putfield 53, 3) := by decide +kernel
theorem dX11_init_109 : decode cX11_init 109 = .ok (.aload_n 0, 1) := by decide +kernel
theorem dX11_init_110 : decode cX11_init 110 = .ok (.new 57, 3) := by decide +kernel
theorem dX11_init_113 : decode cX11_init 113 = .ok (.dup, 1) := by decide +kernel
theorem dX11_init_114 : decode cX11_init 114 = .ok (.invokespecial 59, 3) := by decide +kernel
theorem dX11_init_117 : decode cX11_init 117 = .ok (.putfield 60, 3) := by decide +kernel
theorem dX11_init_120 : decode cX11_init 120 = .ok (.aload_n 0, 1) := by decide +kernel
theorem dX11_init_121 : decode cX11_init 121 = .ok (.new 64, 3) := by decide +kernel
theorem dX11_init_124 : decode cX11_init 124 = .ok (.dup, 1) := by decide +kernel
theorem dX11_init_125 : decode cX11_init 125 = .ok (.invokespecial 66, 3) := by decide +kernel
theorem dX11_init_128 : decode cX11_init 128 = .ok (.putfield 67, 3) := by decide +kernel
theorem dX11_init_131 : decode cX11_init 131 = .ok (.aload_n 0, 1) := by decide +kernel
theorem dX11_init_132 : decode cX11_init 132 = .ok (.new 71, 3) := by decide +kernel
theorem dX11_init_135 : decode cX11_init 135 = .ok (.dup, 1) := by decide +kernel
theorem dX11_init_136 : decode cX11_init 136 = .ok (.iconst 0, 1) := by decide +kernel
theorem dX11_init_137 : decode cX11_init 137 = .ok (.newarray .byte, 2) := by decide +kernel
theorem dX11_init_139 : decode cX11_init 139 = .ok (.invokespecial 73, 3) := by decide +kernel
theorem dX11_init_142 : decode cX11_init 142 = .ok (.putfield 76, 3) := by decide +kernel
theorem dX11_init_145 : decode cX11_init 145 = .ok (.aload_n 0, 1) := by decide +kernel
theorem dX11_init_146 : decode cX11_init 146 = .ok (.new 7, 3) := by decide +kernel
theorem dX11_init_149 : decode cX11_init 149 = .ok (.dup, 1) := by decide +kernel
theorem dX11_init_150 : decode cX11_init 150 = .ok (.sipush 1024, 3) := by decide +kernel
theorem dX11_init_153 : decode cX11_init 153 = .ok (.invokespecial 11, 3) := by decide +kernel
theorem dX11_init_156 : decode cX11_init 156 = .ok (.putfield 80, 3) := by decide +kernel
theorem dX11_init_159 : decode cX11_init 159 = .ok (.aload_n 0, 1) := by decide +kernel
theorem dX11_init_160 : decode cX11_init 160 = .ok (.new 7, 3) := by decide +kernel
theorem dX11_init_163 : decode cX11_init 163 = .ok (.dup, 1) := by decide +kernel
theorem dX11_init_164 : decode cX11_init 164 = .ok (.sipush 1024, 3) := by decide +kernel
theorem dX11_init_167 : decode cX11_init 167 = .ok (.invokespecial 11, 3) := by decide +kernel
theorem dX11_init_170 : decode cX11_init 170 = .ok (.putfield 83, 3) := by decide +kernel
theorem dX11_init_173 : decode cX11_init 173 = .ok (.return_, 1) := by decide +kernel
theorem dX11_add_0 : decode cX11_add 0 = .ok (.iload_n 3, 1) := by decide +kernel
theorem dX11_add_1 : decode cX11_add 1 = .ok (.iconst 1, 1) := by decide +kernel
theorem dX11_add_2 : decode cX11_add 2 = .ok (.if_icmp .lt 24, 3) := by decide +kernel
theorem dX11_add_5 : decode cX11_add 5 = .ok (.iload_n 3, 1) := by decide +kernel
theorem dX11_add_6 : decode cX11_add 6 = .ok (.bipush 8, 2) := by decide +kernel
theorem dX11_add_8 : decode cX11_add 8 = .ok (.if_icmp .gt 18, 3) := by decide +kernel
theorem dX11_add_11 : decode cX11_add 11 = .ok (.aload_n 0, 1) := by decide +kernel
theorem dX11_add_12 : decode cX11_add 12 = .ok (.getfield 14, 3) := by decide +kernel
theorem dX11_add_15 : decode cX11_add 15 = .ok (.getfield 86, 3) := by decide +kernel
theorem dX11_add_18 : decode cX11_add 18 = .ok (.iload_n 3, 1) := by decide +kernel
theorem dX11_add_19 : decode cX11_add 19 = .ok (.iadd, 1) := by decide +kernel
theorem dX11_add_20 : decode cX11_add 20 = .ok (.sipush 4096, 3) := by decide +kernel
theorem dX11_add_23 : decode cX11_add 23 = .ok (.if_icmp .le 5, 3) := by decide +kernel
theorem dX11_add_26 : decode cX11_add 26 = .ok (.iconst 0, 1) := by decide +kernel
theorem dX11_add_27 : decode cX11_add 27 = .ok (.ireturn, 1) := by decide +kernel
theorem dX11_add_28 : decode cX11_add 28 = .ok (.iconst 0, 1) := by decide +kernel
theorem dX11_add_29 : decode cX11_add 29 = .ok (.istore 4, 2) := by decide +kernel
theorem dX11_add_31 : decode cX11_add 31 = .ok (.iload 4, 2) := by decide +kernel
theorem dX11_add_33 : decode cX11_add 33 = .ok (.iload_n 3, 1) := by decide +kernel
theorem dX11_add_34 : decode cX11_add 34 = .ok (.if_icmp .ge 24, 3) := by decide +kernel
theorem dX11_add_37 : decode cX11_add 37 = .ok (.aload_n 0, 1) := by decide +kernel
theorem dX11_add_38 : decode cX11_add 38 = .ok (.getfield 14, 3) := by decide +kernel
theorem dX11_add_41 : decode cX11_add 41 = .ok (.lload_n 1, 1) := by decide +kernel
theorem dX11_add_42 : decode cX11_add 42 = .ok (.bipush 8, 2) := by decide +kernel
theorem dX11_add_44 : decode cX11_add 44 = .ok (.iload 4, 2) := by decide +kernel
theorem dX11_add_46 : decode cX11_add 46 = .ok (.imul, 1) := by decide +kernel
theorem dX11_add_47 : decode cX11_add 47 = .ok (.lushr, 1) := by decide +kernel
theorem dX11_add_48 : decode cX11_add 48 = .ok (.l2i, 1) := by decide +kernel
theorem dX11_add_49 : decode cX11_add 49 = .ok (.invokevirtual 90, 3) := by decide +kernel
theorem dX11_add_52 : decode cX11_add 52 = .ok (.iinc 4 1, 3) := by decide +kernel
theorem dX11_add_55 : decode cX11_add 55 = .ok (.goto (-24), 3) := by decide +kernel
theorem dX11_add_58 : decode cX11_add 58 = .ok (.iconst 1, 1) := by decide +kernel
theorem dX11_add_59 : decode cX11_add 59 = .ok (.ireturn, 1) := by decide +kernel
theorem dX11_join_0 : decode cX11_join 0 = .ok (.aload_n 0, 1) := by decide +kernel
theorem dX11_join_1 : decode cX11_join 1 = .ok (.invokevirtual 93, 3) := by decide +kernel
theorem dX11_join_4 : decode cX11_join 4 = .ok (.istore_n 1, 1) := by decide +kernel
theorem dX11_join_5 : decode cX11_join 5 = .ok (.iload_n 1, 1) := by decide +kernel
theorem dX11_join_6 : decode cX11_join 6 = .ok (.ifCond .ne 15, 3) := by decide +kernel
theorem dX11_join_9 : decode cX11_join 9 = .ok (.aload_n 0, 1) := by decide +kernel
theorem dX11_join_10 : decode cX11_join 10 = .ok (.getfield 60, 3) := by decide +kernel
theorem dX11_join_13 : decode cX11_join 13 = .ok (.aload_n 0, 1) := by decide +kernel
theorem dX11_join_14 : decode cX11_join 14 = .ok (.getfield 39, 3) := by decide +kernel
theorem dX11_join_17 : decode cX11_join 17 = .ok (.invokevirtual 97, 3) := by decide +kernel
theorem dX11_join_20 : decode cX11_join 20 = .ok (.istore_n 1, 1) := by decide +kernel
theorem dX11_join_21 : decode cX11_join 21 = .ok (.aload_n 0, 1) := by decide +kernel
theorem dX11_join_22 : decode cX11_join 22 = .ok (.getfield 14, 3) := by decide +kernel
theorem dX11_join_25 : decode cX11_join 25 = .ok (.iconst 0, 1) := by decide +kernel
theorem dX11_join_26 : decode cX11_join 26 = .ok (.putfield 86, 3) := by decide +kernel
theorem dX11_join_29 : decode cX11_join 29 = .ok (.iload_n 1, 1) := by decide +kernel
theorem dX11_join_30 : decode cX11_join 30 = .ok (.ireturn, 1) := by decide +kernel
theorem dX11_document_0 : decode cX11_document 0 = .ok (.aload_n 0, 1) := by decide +kernel
theorem dX11_document_1 : decode cX11_document 1 = .ok (.getfield 18, 3) := by decide +kernel
theorem dX11_document_4 : decode cX11_document 4 = .ok (.iconst 0, 1) := by decide +kernel
theorem dX11_document_5 : decode cX11_document 5 = .ok (.putfield 86, 3) := by decide +kernel
theorem dX11_document_8 : decode cX11_document 8 = .ok (.aload_n 0, 1) := by decide +kernel
theorem dX11_document_9 : decode cX11_document 9 = .ok (.getfield 18, 3) := by decide +kernel
theorem dX11_document_12 : decode cX11_document 12 = .ok (.aload_n 0, 1) := by decide +kernel
theorem dX11_document_13 : decode cX11_document 13 = .ok (.getfield 14, 3) := by decide +kernel
theorem dX11_document_16 : decode cX11_document 16 = .ok (.iconst 0, 1) := by decide +kernel
theorem dX11_document_17 : decode cX11_document 17 = .ok (.aload_n 0, 1) := by decide +kernel
theorem dX11_document_18 : decode cX11_document 18 = .ok (.getfield 14, 3) := by decide +kernel
theorem dX11_document_21 : decode cX11_document 21 = .ok (.getfield 86, 3) := by decide +kernel
theorem dX11_document_24 : decode cX11_document 24 = .ok (.invokevirtual 101, 3) := by decide +kernel
theorem dX11_document_27 : decode cX11_document 27 = .ok (.aload_n 0, 1) := by decide +kernel
theorem dX11_document_28 : decode cX11_document 28 = .ok (.iconst 0, 1) := by decide +kernel
theorem dX11_document_29 : decode cX11_document 29 = .ok (.putfield 105, 3) := by decide +kernel
theorem dX11_document_32 : decode cX11_document 32 = .ok (.aload_n 0, 1) := by decide +kernel
theorem dX11_document_33 : decode cX11_document 33 = .ok (.getfield 14, 3) := by decide +kernel
theorem dX11_document_36 : decode cX11_document 36 = .ok (.iconst 0, 1) := by decide +kernel
theorem dX11_document_37 : decode cX11_document 37 = .ok (.putfield 86, 3) := by decide +kernel
theorem dX11_document_40 : decode cX11_document 40 = .ok (.aload_n 0, 1) := by decide +kernel
theorem dX11_document_41 : decode cX11_document 41 = .ok (.getfield 18, 3) := by decide +kernel
theorem dX11_document_44 : decode cX11_document 44 = .ok (.getfield 86, 3) := by decide +kernel
theorem dX11_document_47 : decode cX11_document 47 = .ok (.ireturn, 1) := by decide +kernel
theorem dX11_look_0 : decode cX11_look 0 = .ok (.lload_n 1, 1) := by decide +kernel
theorem dX11_look_1 : decode cX11_look 1 = .ok (.invokestatic 108, 3) := by decide +kernel
theorem dX11_look_4 : decode cX11_look 4 = .ok (.ifCond .ne 11, 3) := by decide +kernel
theorem dX11_look_7 : decode cX11_look 7 = .ok (.new 112, 3) := by decide +kernel
theorem dX11_look_10 : decode cX11_look 10 = .ok (.dup, 1) := by decide +kernel
theorem dX11_look_11 : decode cX11_look 11 = .ok (.invokespecial 114, 3) := by decide +kernel
theorem dX11_look_14 : decode cX11_look 14 = .ok (.athrow, 1) := by decide +kernel
theorem dX11_look_15 : decode cX11_look 15 = .ok (.aload_n 0, 1) := by decide +kernel
theorem dX11_look_16 : decode cX11_look 16 = .ok (.invokevirtual 115, 3) := by decide +kernel
theorem dX11_look_19 : decode cX11_look 19 = .ok (.istore_n 3, 1) := by decide +kernel
theorem dX11_look_20 : decode cX11_look 20 = .ok (.iload_n 3, 1) := by decide +kernel
theorem dX11_look_21 : decode cX11_look 21 = .ok (.ifCond .ne 9, 3) := by decide +kernel
theorem dX11_look_24 : decode cX11_look 24 = .ok (.aload_n 0, 1) := by decide +kernel
theorem dX11_look_25 : decode cX11_look 25 = .ok (.lload_n 1, 1) := by decide +kernel
theorem dX11_look_26 : decode cX11_look 26 = .ok (.invokevirtual 118, 3) := by decide +kernel
theorem dX11_look_29 : decode cX11_look 29 = .ok (.istore_n 3, 1) := by decide +kernel
theorem dX11_look_30 : decode cX11_look 30 = .ok (.iload_n 3, 1) := by decide +kernel
theorem dX11_look_31 : decode cX11_look 31 = .ok (.ifCond .ne 39, 3) := by decide +kernel
theorem dX11_look_34 : decode cX11_look 34 = .ok (.aload_n 0, 1) := by decide +kernel
theorem dX11_look_35 : decode cX11_look 35 = .ok (.getfield 122, 3) := by decide +kernel
theorem dX11_look_38 : decode cX11_look 38 = .ok (.ifnull 32, 3) := by decide +kernel
theorem dX11_look_41 : decode cX11_look 41 = .ok (.aload_n 0, 1) := by decide +kernel
theorem dX11_look_42 : decode cX11_look 42 = .ok (.getfield 67, 3) := by decide +kernel
theorem dX11_look_45 : decode cX11_look 45 = .ok (.aload_n 0, 1) := by decide +kernel
theorem dX11_look_46 : decode cX11_look 46 = .ok (.getfield 122, 3) := by decide +kernel
theorem dX11_look_49 : decode cX11_look 49 = .ok (.lload_n 1, 1) := by decide +kernel
theorem dX11_look_50 : decode cX11_look 50 = .ok (.invokevirtual 126, 3) := by decide +kernel
theorem dX11_look_53 : decode cX11_look 53 = .ok (.istore 4, 2) := by decide +kernel
theorem dX11_look_55 : decode cX11_look 55 = .ok (.iload 4, 2) := by decide +kernel
theorem dX11_look_57 : decode cX11_look 57 = .ok (.ifCond .ne 7, 3) := by decide +kernel
theorem dX11_look_60 : decode cX11_look 60 = .ok (.iconst 0, 1) := by decide +kernel
theorem dX11_look_61 : decode cX11_look 61 = .ok (.goto 8, 3) := by decide +kernel
theorem dX11_look_64 : decode cX11_look 64 = .ok (.bipush 10, 2) := by decide +kernel
theorem dX11_look_66 : decode cX11_look 66 = .ok (.iload 4, 2) := by decide +kernel
theorem dX11_look_68 : decode cX11_look 68 = .ok (.iadd, 1) := by decide +kernel
theorem dX11_look_69 : decode cX11_look 69 = .ok (.istore_n 3, 1) := by decide +kernel
theorem dX11_look_70 : decode cX11_look 70 = .ok (.aload_n 0, 1) := by decide +kernel
theorem dX11_look_71 : decode cX11_look 71 = .ok (.getfield 14, 3) := by decide +kernel
theorem dX11_look_74 : decode cX11_look 74 = .ok (.iconst 0, 1) := by decide +kernel
theorem dX11_look_75 : decode cX11_look 75 = .ok (.putfield 86, 3) := by decide +kernel
theorem dX11_look_78 : decode cX11_look 78 = .ok (.iload_n 3, 1) := by decide +kernel
theorem dX11_look_79 : decode cX11_look 79 = .ok (.ireturn, 1) := by decide +kernel
theorem dX11_keys_0 : decode cX11_keys 0 = .ok (.aload_n 0, 1) := by decide +kernel
theorem dX11_keys_1 : decode cX11_keys 1 = .ok (.getfield 60, 3) := by decide +kernel
theorem dX11_keys_4 : decode cX11_keys 4 = .ok (.getfield 130, 3) := by decide +kernel
theorem dX11_keys_7 : decode cX11_keys 7 = .ok (.invokevirtual 134, 3) := by decide +kernel
theorem dX11_keys_10 : decode cX11_keys 10 = .ok (.ireturn, 1) := by decide +kernel
theorem dX11_key_0 : decode cX11_key 0 = .ok (.aload_n 0, 1) := by decide +kernel
theorem dX11_key_1 : decode cX11_key 1 = .ok (.iload_n 1, 1) := by decide +kernel
theorem dX11_key_2 : decode cX11_key 2 = .ok (.iconst (-1), 1) := by decide +kernel
theorem dX11_key_3 : decode cX11_key 3 = .ok (.invokevirtual 138, 3) := by decide +kernel
theorem dX11_key_6 : decode cX11_key 6 = .ok (.astore_n 3, 1) := by decide +kernel
theorem dX11_key_7 : decode cX11_key 7 = .ok (.aload_n 3, 1) := by decide +kernel
theorem dX11_key_8 : decode cX11_key 8 = .ok (.ifnull 12, 3) := by decide +kernel
theorem dX11_key_11 : decode cX11_key 11 = .ok (.iload_n 2, 1) := by decide +kernel
theorem dX11_key_12 : decode cX11_key 12 = .ok (.ifCond .lt 8, 3) := by decide +kernel
theorem dX11_key_15 : decode cX11_key 15 = .ok (.iload_n 2, 1) := by decide +kernel
theorem dX11_key_16 : decode cX11_key 16 = .ok (.iconst 5, 1) := by decide +kernel
theorem dX11_key_17 : decode cX11_key 17 = .ok (.if_icmp .le 11, 3) := by decide +kernel
theorem dX11_key_20 : decode cX11_key 20 = .ok (.new 142, 3) := by decide +kernel
theorem dX11_key_23 : decode cX11_key 23 = .ok (.dup, 1) := by decide +kernel
theorem dX11_key_24 : decode cX11_key 24 = .ok (.invokespecial 144, 3) := by decide +kernel
theorem dX11_key_27 : decode cX11_key 27 = .ok (.athrow, 1) := by decide +kernel
theorem dX11_key_28 : decode cX11_key 28 = .ok (.iload_n 2, 1) := by decide +kernel
theorem dX11_key_29 : decode cX11_key 29 = .ok (.tableswitch 70 0 4 #[35, 40, 46, 55, 64], 35) := by decide +kernel
theorem dX11_key_64 : decode cX11_key 64 = .ok (.aload_n 3, 1) := by decide +kernel
theorem dX11_key_65 : decode cX11_key 65 = .ok (.getfield 145, 3) := by decide +kernel
theorem dX11_key_68 : decode cX11_key 68 = .ok (.lreturn, 1) := by decide +kernel
theorem dX11_key_69 : decode cX11_key 69 = .ok (.aload_n 3, 1) := by decide +kernel
theorem dX11_key_70 : decode cX11_key 70 = .ok (.getfield 151, 3) := by decide +kernel
theorem dX11_key_73 : decode cX11_key 73 = .ok (.i2l, 1) := by decide +kernel
theorem dX11_key_74 : decode cX11_key 74 = .ok (.lreturn, 1) := by decide +kernel
theorem dX11_key_75 : decode cX11_key 75 = .ok (.aload_n 3, 1) := by decide +kernel
theorem dX11_key_76 : decode cX11_key 76 = .ok (.getfield 154, 3) := by decide +kernel
theorem dX11_key_79 : decode cX11_key 79 = .ok (.invokevirtual 134, 3) := by decide +kernel
theorem dX11_key_82 : decode cX11_key 82 = .ok (.i2l, 1) := by decide +kernel
theorem dX11_key_83 : decode cX11_key 83 = .ok (.lreturn, 1) := by decide +kernel
theorem dX11_key_84 : decode cX11_key 84 = .ok (.aload_n 3, 1) := by decide +kernel
theorem dX11_key_85 : decode cX11_key 85 = .ok (.getfield 157, 3) := by decide +kernel
theorem dX11_key_88 : decode cX11_key 88 = .ok (.invokevirtual 134, 3) := by decide +kernel
theorem dX11_key_91 : decode cX11_key 91 = .ok (.i2l, 1) := by decide +kernel
theorem dX11_key_92 : decode cX11_key 92 = .ok (.lreturn, 1) := by decide +kernel
theorem dX11_key_93 : decode cX11_key 93 = .ok (.aload_n 3, 1) := by decide +kernel
theorem dX11_key_94 : decode cX11_key 94 = .ok (.invokevirtual 160, 3) := by decide +kernel
theorem dX11_key_97 : decode cX11_key 97 = .ok (.i2l, 1) := by decide +kernel
theorem dX11_key_98 : decode cX11_key 98 = .ok (.lreturn, 1) := by decide +kernel
theorem dX11_key_99 : decode cX11_key 99 = .ok (.aload_n 3, 1) := by decide +kernel
theorem dX11_key_100 : decode cX11_key 100 = .ok (.getfield 163, 3) := by decide +kernel
theorem dX11_key_103 : decode cX11_key 103 = .ok (.ifnull 7, 3) := by decide +kernel
theorem dX11_key_106 : decode cX11_key 106 = .ok (.lconst 1, 1) := by decide +kernel
theorem dX11_key_107 : decode cX11_key 107 = .ok (.goto 4, 3) := by decide +kernel
theorem dX11_key_110 : decode cX11_key 110 = .ok (.lconst 0, 1) := by decide +kernel
theorem dX11_key_111 : decode cX11_key 111 = .ok (.lreturn, 1) := by decide +kernel
theorem dX11_print_0 : decode cX11_print 0 = .ok (.aload_n 0, 1) := by decide +kernel
theorem dX11_print_1 : decode cX11_print 1 = .ok (.iload_n 1, 1) := by decide +kernel
theorem dX11_print_2 : decode cX11_print 2 = .ok (.iload_n 2, 1) := by decide +kernel
theorem dX11_print_3 : decode cX11_print 3 = .ok (.invokevirtual 138, 3) := by decide +kernel
theorem dX11_print_6 : decode cX11_print 6 = .ok (.astore 4, 2) := by decide +kernel
theorem dX11_print_8 : decode cX11_print 8 = .ok (.aload 4, 2) := by decide +kernel
theorem dX11_print_10 : decode cX11_print 10 = .ok (.ifnull 13, 3) := by decide +kernel
theorem dX11_print_13 : decode cX11_print 13 = .ok (.iload_n 3, 1) := by decide +kernel
theorem dX11_print_14 : decode cX11_print 14 = .ok (.ifCond .lt 9, 3) := by decide +kernel
theorem dX11_print_17 : decode cX11_print 17 = .ok (.iload_n 3, 1) := by decide +kernel
theorem dX11_print_18 : decode cX11_print 18 = .ok (.bipush 20, 2) := by decide +kernel
theorem dX11_print_20 : decode cX11_print 20 = .ok (.if_icmp .lt 11, 3) := by decide +kernel
theorem dX11_print_23 : decode cX11_print 23 = .ok (.new 142, 3) := by decide +kernel
theorem dX11_print_26 : decode cX11_print 26 = .ok (.dup, 1) := by decide +kernel
theorem dX11_print_27 : decode cX11_print 27 = .ok (.invokespecial 144, 3) := by decide +kernel
theorem dX11_print_30 : decode cX11_print 30 = .ok (.athrow, 1) := by decide +kernel
theorem dX11_print_31 : decode cX11_print 31 = .ok (.aload 4, 2) := by decide +kernel
theorem dX11_print_33 : decode cX11_print 33 = .ok (.getfield 166, 3) := by decide +kernel
theorem dX11_print_36 : decode cX11_print 36 = .ok (.iload_n 3, 1) := by decide +kernel
theorem dX11_print_37 : decode cX11_print 37 = .ok (.baload, 1) := by decide +kernel
theorem dX11_print_38 : decode cX11_print 38 = .ok (.sipush 255, 3) := by decide +kernel
theorem dX11_print_41 : decode cX11_print 41 = .ok (.iand, 1) := by decide +kernel
theorem dX11_print_42 : decode cX11_print 42 = .ok (.ireturn, 1) := by decide +kernel
theorem dX11_usable_0 : decode cX11_usable 0 = .ok (.aload_n 0, 1) := by decide +kernel
theorem dX11_usable_1 : decode cX11_usable 1 = .ok (.iload_n 1, 1) := by decide +kernel
theorem dX11_usable_2 : decode cX11_usable 2 = .ok (.iload_n 2, 1) := by decide +kernel
theorem dX11_usable_3 : decode cX11_usable 3 = .ok (.invokevirtual 138, 3) := by decide +kernel
theorem dX11_usable_6 : decode cX11_usable 6 = .ok (.astore 5, 2) := by decide +kernel
theorem dX11_usable_8 : decode cX11_usable 8 = .ok (.aload 5, 2) := by decide +kernel
theorem dX11_usable_10 : decode cX11_usable 10 = .ok (.ifnonnull 11, 3) := by decide +kernel
theorem dX11_usable_13 : decode cX11_usable 13 = .ok (.new 142, 3) := by decide +kernel
theorem dX11_usable_16 : decode cX11_usable 16 = .ok (.dup, 1) := by decide +kernel
theorem dX11_usable_17 : decode cX11_usable 17 = .ok (.invokespecial 144, 3) := by decide +kernel
theorem dX11_usable_20 : decode cX11_usable 20 = .ok (.athrow, 1) := by decide +kernel
theorem dX11_usable_21 : decode cX11_usable 21 = .ok (.lload_n 3, 1) := by decide +kernel
theorem dX11_usable_22 : decode cX11_usable 22 = .ok (.invokestatic 108, 3) := by decide +kernel
theorem dX11_usable_25 : decode cX11_usable 25 = .ok (.ifCond .ne 11, 3) := by decide +kernel
theorem dX11_usable_28 : decode cX11_usable 28 = .ok (.new 112, 3) := by decide +kernel
theorem dX11_usable_31 : decode cX11_usable 31 = .ok (.dup, 1) := by decide +kernel
theorem dX11_usable_32 : decode cX11_usable 32 = .ok (.invokespecial 114, 3) := by decide +kernel
theorem dX11_usable_35 : decode cX11_usable 35 = .ok (.athrow, 1) := by decide +kernel
theorem dX11_usable_36 : decode cX11_usable 36 = .ok (.aload_n 0, 1) := by decide +kernel
theorem dX11_usable_37 : decode cX11_usable 37 = .ok (.getfield 67, 3) := by decide +kernel
theorem dX11_usable_40 : decode cX11_usable 40 = .ok (.aload 5, 2) := by decide +kernel
theorem dX11_usable_42 : decode cX11_usable 42 = .ok (.lload_n 3, 1) := by decide +kernel
theorem dX11_usable_43 : decode cX11_usable 43 = .ok (.invokevirtual 126, 3) := by decide +kernel
theorem dX11_usable_46 : decode cX11_usable 46 = .ok (.ireturn, 1) := by decide +kernel
theorem dX11_seal_0 : decode cX11_seal 0 = .ok (.aload_n 0, 1) := by decide +kernel
theorem dX11_seal_1 : decode cX11_seal 1 = .ok (.iload_n 1, 1) := by decide +kernel
theorem dX11_seal_2 : decode cX11_seal 2 = .ok (.iload_n 2, 1) := by decide +kernel
theorem dX11_seal_3 : decode cX11_seal 3 = .ok (.invokevirtual 138, 3) := by decide +kernel
theorem dX11_seal_6 : decode cX11_seal 6 = .ok (.astore 6, 2) := by decide +kernel
theorem dX11_seal_8 : decode cX11_seal 8 = .ok (.aload 6, 2) := by decide +kernel
theorem dX11_seal_10 : decode cX11_seal 10 = .ok (.ifnonnull 11, 3) := by decide +kernel
theorem dX11_seal_13 : decode cX11_seal 13 = .ok (.new 142, 3) := by decide +kernel
theorem dX11_seal_16 : decode cX11_seal 16 = .ok (.dup, 1) := by decide +kernel
theorem dX11_seal_17 : decode cX11_seal 17 = .ok (.invokespecial 144, 3) := by decide +kernel
theorem dX11_seal_20 : decode cX11_seal 20 = .ok (.athrow, 1) := by decide +kernel
theorem dX11_seal_21 : decode cX11_seal 21 = .ok (.lload 4, 2) := by decide +kernel
theorem dX11_seal_23 : decode cX11_seal 23 = .ok (.invokestatic 108, 3) := by decide +kernel
theorem dX11_seal_26 : decode cX11_seal 26 = .ok (.ifCond .eq 12, 3) := by decide +kernel
theorem dX11_seal_29 : decode cX11_seal 29 = .ok (.iload_n 3, 1) := by decide +kernel
theorem dX11_seal_30 : decode cX11_seal 30 = .ok (.ifCond .lt 8, 3) := by decide +kernel
theorem dX11_seal_33 : decode cX11_seal 33 = .ok (.iload_n 3, 1) := by decide +kernel
theorem dX11_seal_34 : decode cX11_seal 34 = .ok (.iconst 3, 1) := by decide +kernel
theorem dX11_seal_35 : decode cX11_seal 35 = .ok (.if_icmp .le 11, 3) := by decide +kernel
theorem dX11_seal_38 : decode cX11_seal 38 = .ok (.new 112, 3) := by decide +kernel
theorem dX11_seal_41 : decode cX11_seal 41 = .ok (.dup, 1) := by decide +kernel
theorem dX11_seal_42 : decode cX11_seal 42 = .ok (.invokespecial 114, 3) := by decide +kernel
theorem dX11_seal_45 : decode cX11_seal 45 = .ok (.athrow, 1) := by decide +kernel
theorem dX11_seal_46 : decode cX11_seal 46 = .ok (.aload 6, 2) := by decide +kernel
theorem dX11_seal_48 : decode cX11_seal 48 = .ok (.getfield 163, 3) := by decide +kernel
theorem dX11_seal_51 : decode cX11_seal 51 = .ok (.ifnonnull 11, 3) := by decide +kernel
theorem dX11_seal_54 : decode cX11_seal 54 = .ok (.new 170, 3) := by decide +kernel
theorem dX11_seal_57 : decode cX11_seal 57 = .ok (.dup, 1) := by decide +kernel
theorem dX11_seal_58 : decode cX11_seal 58 = .ok (.invokespecial 172, 3) := by decide +kernel
theorem dX11_seal_61 : decode cX11_seal 61 = .ok (.athrow, 1) := by decide +kernel
theorem dX11_seal_62 : decode cX11_seal 62 = .ok (.aload_n 0, 1) := by decide +kernel
theorem dX11_seal_63 : decode cX11_seal 63 = .ok (.getfield 80, 3) := by decide +kernel
theorem dX11_seal_66 : decode cX11_seal 66 = .ok (.iconst 0, 1) := by decide +kernel
theorem dX11_seal_67 : decode cX11_seal 67 = .ok (.putfield 86, 3) := by decide +kernel
theorem dX11_seal_70 : decode cX11_seal 70 = .ok (.iload_n 3, 1) := by decide +kernel
theorem dX11_seal_71 : decode cX11_seal 71 = .ok (.iconst 3, 1) := by decide +kernel
theorem dX11_seal_72 : decode cX11_seal 72 = .ok (.if_icmp .ne 27, 3) := by decide +kernel
theorem dX11_seal_75 : decode cX11_seal 75 = .ok (.aload_n 0, 1) := by decide +kernel
theorem dX11_seal_76 : decode cX11_seal 76 = .ok (.invokevirtual 173, 3) := by decide +kernel
theorem dX11_seal_79 : decode cX11_seal 79 = .ok (.aload_n 0, 1) := by decide +kernel
theorem dX11_seal_80 : decode cX11_seal 80 = .ok (.aload 6, 2) := by decide +kernel
theorem dX11_seal_82 : decode cX11_seal 82 = .ok (.iconst 1, 1) := by decide +kernel
theorem dX11_seal_83 : decode cX11_seal 83 = .ok (.lload 4, 2) := by decide +kernel
theorem dX11_seal_85 : decode cX11_seal 85 = .ok (.aload_n 0, 1) := by decide +kernel
theorem dX11_seal_86 : decode cX11_seal 86 = .ok (.getfield 21, 3) := by decide +kernel
theorem dX11_seal_89 : decode cX11_seal 89 = .ok (.invokevirtual 176, 3) := by decide +kernel
theorem dX11_seal_92 : decode cX11_seal 92 = .ok (.aload_n 0, 1) := by decide +kernel
theorem dX11_seal_93 : decode cX11_seal 93 = .ok (.invokevirtual 180, 3) := by decide +kernel
theorem dX11_seal_96 : decode cX11_seal 96 = .ok (.goto 41, 3) := by decide +kernel
theorem dX11_seal_99 : decode cX11_seal 99 = .ok (.aload_n 0, 1) := by decide +kernel
theorem dX11_seal_100 : decode cX11_seal 100 = .ok (.aload 6, 2) := by decide +kernel
theorem dX11_seal_102 : decode cX11_seal 102 = .ok (.iload_n 3, 1) := by decide +kernel
theorem dX11_seal_103 : decode cX11_seal 103 = .ok (.iconst 1, 1) := by decide +kernel
theorem dX11_seal_104 : decode cX11_seal 104 = .ok (.iand, 1) := by decide +kernel
theorem dX11_seal_105 : decode cX11_seal 105 = .ok (.lload 4, 2) := by decide +kernel
theorem dX11_seal_107 : decode cX11_seal 107 = .ok (.aload_n 0, 1) := by decide +kernel
theorem dX11_seal_108 : decode cX11_seal 108 = .ok (.getfield 18, 3) := by decide +kernel
theorem dX11_seal_111 : decode cX11_seal 111 = .ok (.invokevirtual 176, 3) := by decide +kernel
theorem dX11_seal_114 : decode cX11_seal 114 = .ok (.iload_n 3, 1) := by decide +kernel
theorem dX11_seal_115 : decode cX11_seal 115 = .ok (.iconst 2, 1) := by decide +kernel
theorem dX11_seal_116 : decode cX11_seal 116 = .ok (.if_icmp .ne 9, 3) := by decide +kernel
theorem dX11_seal_119 : decode cX11_seal 119 = .ok (.aload_n 0, 1) := by decide +kernel
theorem dX11_seal_120 : decode cX11_seal 120 = .ok (.aload 6, 2) := by decide +kernel
theorem dX11_seal_122 : decode cX11_seal 122 = .ok (.invokevirtual 183, 3) := by decide +kernel
theorem dX11_seal_125 : decode cX11_seal 125 = .ok (.aload_n 0, 1) := by decide +kernel
theorem dX11_seal_126 : decode cX11_seal 126 = .ok (.getfield 80, 3) := by decide +kernel
theorem dX11_seal_129 : decode cX11_seal 129 = .ok (.iconst 2, 1) := by decide +kernel
theorem dX11_seal_130 : decode cX11_seal 130 = .ok (.aload_n 0, 1) := by decide +kernel
theorem dX11_seal_131 : decode cX11_seal 131 = .ok (.getfield 24, 3) := by decide +kernel
theorem dX11_seal_134 : decode cX11_seal 134 = .ok (.invokevirtual 187, 3) := by decide +kernel
theorem dX11_seal_137 : decode cX11_seal 137 = .ok (.aload_n 0, 1) := by decide +kernel
theorem dX11_seal_138 : decode cX11_seal 138 = .ok (.getfield 80, 3) := by decide +kernel
theorem dX11_seal_141 : decode cX11_seal 141 = .ok (.getfield 86, 3) := by decide +kernel
theorem dX11_seal_144 : decode cX11_seal 144 = .ok (.ireturn, 1) := by decide +kernel
theorem dX11_export_0 : decode cX11_export 0 = .ok (.aload_n 0, 1) := by decide +kernel
theorem dX11_export_1 : decode cX11_export 1 = .ok (.iload_n 1, 1) := by decide +kernel
theorem dX11_export_2 : decode cX11_export 2 = .ok (.iconst (-1), 1) := by decide +kernel
theorem dX11_export_3 : decode cX11_export 3 = .ok (.invokevirtual 138, 3) := by decide +kernel
theorem dX11_export_6 : decode cX11_export 6 = .ok (.astore_n 2, 1) := by decide +kernel
theorem dX11_export_7 : decode cX11_export 7 = .ok (.aload_n 2, 1) := by decide +kernel
theorem dX11_export_8 : decode cX11_export 8 = .ok (.ifnonnull 11, 3) := by decide +kernel
theorem dX11_export_11 : decode cX11_export 11 = .ok (.new 142, 3) := by decide +kernel
theorem dX11_export_14 : decode cX11_export 14 = .ok (.dup, 1) := by decide +kernel
theorem dX11_export_15 : decode cX11_export 15 = .ok (.invokespecial 144, 3) := by decide +kernel
theorem dX11_export_18 : decode cX11_export 18 = .ok (.athrow, 1) := by decide +kernel
theorem dX11_export_19 : decode cX11_export 19 = .ok (.aload_n 0, 1) := by decide +kernel
theorem dX11_export_20 : decode cX11_export 20 = .ok (.getfield 80, 3) := by decide +kernel
theorem dX11_export_23 : decode cX11_export 23 = .ok (.iconst 0, 1) := by decide +kernel
theorem dX11_export_24 : decode cX11_export 24 = .ok (.putfield 86, 3) := by decide +kernel
theorem dX11_export_27 : decode cX11_export 27 = .ok (.aload_n 0, 1) := by decide +kernel
theorem dX11_export_28 : decode cX11_export 28 = .ok (.aload_n 2, 1) := by decide +kernel
theorem dX11_export_29 : decode cX11_export 29 = .ok (.invokevirtual 191, 3) := by decide +kernel
theorem dX11_export_32 : decode cX11_export 32 = .ok (.iconst 0, 1) := by decide +kernel
theorem dX11_export_33 : decode cX11_export 33 = .ok (.istore_n 3, 1) := by decide +kernel
theorem dX11_export_34 : decode cX11_export 34 = .ok (.iload_n 3, 1) := by decide +kernel
theorem dX11_export_35 : decode cX11_export 35 = .ok (.aload_n 2, 1) := by decide +kernel
theorem dX11_export_36 : decode cX11_export 36 = .ok (.getfield 154, 3) := by decide +kernel
theorem dX11_export_39 : decode cX11_export 39 = .ok (.invokevirtual 134, 3) := by decide +kernel
theorem dX11_export_42 : decode cX11_export 42 = .ok (.if_icmp .ge 24, 3) := by decide +kernel
theorem dX11_export_45 : decode cX11_export 45 = .ok (.aload_n 0, 1) := by decide +kernel
theorem dX11_export_46 : decode cX11_export 46 = .ok (.aload_n 2, 1) := by decide +kernel
theorem dX11_export_47 : decode cX11_export 47 = .ok (.getfield 154, 3) := by decide +kernel
theorem dX11_export_50 : decode cX11_export 50 = .ok (.iload_n 3, 1) := by decide +kernel
theorem dX11_export_51 : decode cX11_export 51 = .ok (.invokevirtual 195, 3) := by decide +kernel
theorem dX11_export_54 : decode cX11_export 54 = .ok (.checkcast 199, 3) := by decide +kernel
theorem dX11_export_57 : decode cX11_export 57 = .ok (.invokevirtual 191, 3) := by decide +kernel
theorem dX11_export_60 : decode cX11_export 60 = .ok (.iinc 3 1, 3) := by decide +kernel
theorem dX11_export_63 : decode cX11_export 63 = .ok (.goto (-29), 3) := by decide +kernel
theorem dX11_export_66 : decode cX11_export 66 = .ok (.iconst 0, 1) := by decide +kernel
theorem dX11_export_67 : decode cX11_export 67 = .ok (.istore_n 3, 1) := by decide +kernel
theorem dX11_export_68 : decode cX11_export 68 = .ok (.iload_n 3, 1) := by decide +kernel
theorem dX11_export_69 : decode cX11_export 69 = .ok (.aload_n 2, 1) := by decide +kernel
theorem dX11_export_70 : decode cX11_export 70 = .ok (.getfield 157, 3) := by decide +kernel
theorem dX11_export_73 : decode cX11_export 73 = .ok (.invokevirtual 134, 3) := by decide +kernel
theorem dX11_export_76 : decode cX11_export 76 = .ok (.if_icmp .ge 24, 3) := by decide +kernel
theorem dX11_export_79 : decode cX11_export 79 = .ok (.aload_n 0, 1) := by decide +kernel
theorem dX11_export_80 : decode cX11_export 80 = .ok (.aload_n 2, 1) := by decide +kernel
theorem dX11_export_81 : decode cX11_export 81 = .ok (.getfield 157, 3) := by decide +kernel
theorem dX11_export_84 : decode cX11_export 84 = .ok (.iload_n 3, 1) := by decide +kernel
theorem dX11_export_85 : decode cX11_export 85 = .ok (.invokevirtual 195, 3) := by decide +kernel
theorem dX11_export_88 : decode cX11_export 88 = .ok (.checkcast 199, 3) := by decide +kernel
theorem dX11_export_91 : decode cX11_export 91 = .ok (.invokevirtual 191, 3) := by decide +kernel
theorem dX11_export_94 : decode cX11_export 94 = .ok (.iinc 3 1, 3) := by decide +kernel
theorem dX11_export_97 : decode cX11_export 97 = .ok (.goto (-29), 3) := by decide +kernel
theorem dX11_export_100 : decode cX11_export 100 = .ok (.aload_n 0, 1) := by decide +kernel
theorem dX11_export_101 : decode cX11_export 101 = .ok (.getfield 80, 3) := by decide +kernel
theorem dX11_export_104 : decode cX11_export 104 = .ok (.getfield 86, 3) := by decide +kernel
theorem dX11_export_107 : decode cX11_export 107 = .ok (.ireturn, 1) := by decide +kernel
theorem dX11_armor_0 : decode cX11_armor 0 = .ok (.iload_n 1, 1) := by decide +kernel
theorem dX11_armor_1 : decode cX11_armor 1 = .ok (.ifCond .lt 8, 3) := by decide +kernel
theorem dX11_armor_4 : decode cX11_armor 4 = .ok (.iload_n 1, 1) := by decide +kernel
theorem dX11_armor_5 : decode cX11_armor 5 = .ok (.iconst 2, 1) := by decide +kernel
theorem dX11_armor_6 : decode cX11_armor 6 = .ok (.if_icmp .le 11, 3) := by decide +kernel
theorem dX11_armor_9 : decode cX11_armor 9 = .ok (.new 112, 3) := by decide +kernel
theorem dX11_armor_12 : decode cX11_armor 12 = .ok (.dup, 1) := by decide +kernel
theorem dX11_armor_13 : decode cX11_armor 13 = .ok (.invokespecial 114, 3) := by decide +kernel
theorem dX11_armor_16 : decode cX11_armor 16 = .ok (.athrow, 1) := by decide +kernel
theorem dX11_armor_17 : decode cX11_armor 17 = .ok (.aload_n 0, 1) := by decide +kernel
theorem dX11_armor_18 : decode cX11_armor 18 = .ok (.getfield 80, 3) := by decide +kernel
theorem dX11_armor_21 : decode cX11_armor 21 = .ok (.getfield 86, 3) := by decide +kernel
theorem dX11_armor_24 : decode cX11_armor 24 = .ok (.sipush 8000, 3) := by decide +kernel
theorem dX11_armor_27 : decode cX11_armor 27 = .ok (.if_icmp .le 11, 3) := by decide +kernel
theorem dX11_armor_30 : decode cX11_armor 30 = .ok (.new 201, 3) := by decide +kernel
theorem dX11_armor_33 : decode cX11_armor 33 = .ok (.dup, 1) := by decide +kernel
theorem dX11_armor_34 : decode cX11_armor 34 = .ok (.invokespecial 203, 3) := by decide +kernel
theorem dX11_armor_37 : decode cX11_armor 37 = .ok (.athrow, 1) := by decide +kernel
theorem dX11_armor_38 : decode cX11_armor 38 = .ok (.aload_n 0, 1) := by decide +kernel
theorem dX11_armor_39 : decode cX11_armor 39 = .ok (.getfield 83, 3) := by decide +kernel
theorem dX11_armor_42 : decode cX11_armor 42 = .ok (.iconst 0, 1) := by decide +kernel
theorem dX11_armor_43 : decode cX11_armor 43 = .ok (.putfield 86, 3) := by decide +kernel
theorem dX11_armor_46 : decode cX11_armor 46 = .ok (.aload_n 0, 1) := by decide +kernel
theorem dX11_armor_47 : decode cX11_armor 47 = .ok (.getfield 80, 3) := by decide +kernel
theorem dX11_armor_50 : decode cX11_armor 50 = .ok (.iload_n 1, 1) := by decide +kernel
theorem dX11_armor_51 : decode cX11_armor 51 = .ok (.aload_n 0, 1) := by decide +kernel
theorem dX11_armor_52 : decode cX11_armor 52 = .ok (.getfield 83, 3) := by decide +kernel
theorem dX11_armor_55 : decode cX11_armor 55 = .ok (.invokestatic 204, 3) := by decide +kernel
theorem dX11_armor_58 : decode cX11_armor 58 = .ok (.aload_n 0, 1) := by decide +kernel
theorem dX11_armor_59 : decode cX11_armor 59 = .ok (.getfield 83, 3) := by decide +kernel
theorem dX11_armor_62 : decode cX11_armor 62 = .ok (.astore_n 2, 1) := by decide +kernel
theorem dX11_armor_63 : decode cX11_armor 63 = .ok (.aload_n 0, 1) := by decide +kernel
theorem dX11_armor_64 : decode cX11_armor 64 = .ok (.aload_n 0, 1) := by decide +kernel
theorem dX11_armor_65 : decode cX11_armor 65 = .ok (.getfield 80, 3) := by decide +kernel
theorem dX11_armor_68 : decode cX11_armor 68 = .ok (.putfield 83, 3) := by decide +kernel
theorem dX11_armor_71 : decode cX11_armor 71 = .ok (.aload_n 0, 1) := by decide +kernel
theorem dX11_armor_72 : decode cX11_armor 72 = .ok (.aload_n 2, 1) := by decide +kernel
theorem dX11_armor_73 : decode cX11_armor 73 = .ok (.putfield 80, 3) := by decide +kernel
theorem dX11_armor_76 : decode cX11_armor 76 = .ok (.aload_n 0, 1) := by decide +kernel
theorem dX11_armor_77 : decode cX11_armor 77 = .ok (.getfield 80, 3) := by decide +kernel
theorem dX11_armor_80 : decode cX11_armor 80 = .ok (.getfield 86, 3) := by decide +kernel
theorem dX11_armor_83 : decode cX11_armor 83 = .ok (.ireturn, 1) := by decide +kernel
theorem dX11_out_0 : decode cX11_out 0 = .ok (.iload_n 1, 1) := by decide +kernel
theorem dX11_out_1 : decode cX11_out 1 = .ok (.ifCond .lt 14, 3) := by decide +kernel
theorem dX11_out_4 : decode cX11_out 4 = .ok (.iload_n 1, 1) := by decide +kernel
theorem dX11_out_5 : decode cX11_out 5 = .ok (.aload_n 0, 1) := by decide +kernel
theorem dX11_out_6 : decode cX11_out 6 = .ok (.getfield 80, 3) := by decide +kernel
theorem dX11_out_9 : decode cX11_out 9 = .ok (.getfield 86, 3) := by decide +kernel
theorem dX11_out_12 : decode cX11_out 12 = .ok (.if_icmp .lt 11, 3) := by decide +kernel
theorem dX11_out_15 : decode cX11_out 15 = .ok (.new 208, 3) := by decide +kernel
theorem dX11_out_18 : decode cX11_out 18 = .ok (.dup, 1) := by decide +kernel
theorem dX11_out_19 : decode cX11_out 19 = .ok (.invokespecial 210, 3) := by decide +kernel
theorem dX11_out_22 : decode cX11_out 22 = .ok (.athrow, 1) := by decide +kernel
theorem dX11_out_23 : decode cX11_out 23 = .ok (.aload_n 0, 1) := by decide +kernel
theorem dX11_out_24 : decode cX11_out 24 = .ok (.getfield 80, 3) := by decide +kernel
theorem dX11_out_27 : decode cX11_out 27 = .ok (.iload_n 1, 1) := by decide +kernel
theorem dX11_out_28 : decode cX11_out 28 = .ok (.invokevirtual 211, 3) := by decide +kernel
theorem dX11_out_31 : decode cX11_out 31 = .ok (.ireturn, 1) := by decide +kernel
theorem dX11_sum_0 : decode cX11_sum 0 = .ok (.aload_n 0, 1) := by decide +kernel
theorem dX11_sum_1 : decode cX11_sum 1 = .ok (.getfield 80, 3) := by decide +kernel
theorem dX11_sum_4 : decode cX11_sum 4 = .ok (.invokestatic 215, 3) := by decide +kernel
theorem dX11_sum_7 : decode cX11_sum 7 = .ok (.ireturn, 1) := by decide +kernel
theorem dX11_take_0 : decode cX11_take 0 = .ok (.aload_n 0, 1) := by decide +kernel
theorem dX11_take_1 : decode cX11_take 1 = .ok (.getfield 14, 3) := by decide +kernel
theorem dX11_take_4 : decode cX11_take 4 = .ok (.iconst 0, 1) := by decide +kernel
theorem dX11_take_5 : decode cX11_take 5 = .ok (.putfield 86, 3) := by decide +kernel
theorem dX11_take_8 : decode cX11_take 8 = .ok (.aload_n 0, 1) := by decide +kernel
theorem dX11_take_9 : decode cX11_take 9 = .ok (.getfield 14, 3) := by decide +kernel
theorem dX11_take_12 : decode cX11_take 12 = .ok (.aload_n 0, 1) := by decide +kernel
theorem dX11_take_13 : decode cX11_take 13 = .ok (.getfield 80, 3) := by decide +kernel
theorem dX11_take_16 : decode cX11_take 16 = .ok (.iconst 0, 1) := by decide +kernel
theorem dX11_take_17 : decode cX11_take 17 = .ok (.aload_n 0, 1) := by decide +kernel
theorem dX11_take_18 : decode cX11_take 18 = .ok (.getfield 80, 3) := by decide +kernel
theorem dX11_take_21 : decode cX11_take 21 = .ok (.getfield 86, 3) := by decide +kernel
theorem dX11_take_24 : decode cX11_take 24 = .ok (.sipush 4096, 3) := by decide +kernel
theorem dX11_take_27 : decode cX11_take 27 = .ok (.invokestatic 219, 3) := by decide +kernel
theorem dX11_take_30 : decode cX11_take 30 = .ok (.invokevirtual 101, 3) := by decide +kernel
theorem dX11_take_33 : decode cX11_take 33 = .ok (.aload_n 0, 1) := by decide +kernel
theorem dX11_take_34 : decode cX11_take 34 = .ok (.getfield 14, 3) := by decide +kernel
theorem dX11_take_37 : decode cX11_take 37 = .ok (.getfield 86, 3) := by decide +kernel
theorem dX11_take_40 : decode cX11_take 40 = .ok (.ireturn, 1) := by decide +kernel
theorem dX11_drop_0 : decode cX11_drop 0 = .ok (.iload_n 1, 1) := by decide +kernel
theorem dX11_drop_1 : decode cX11_drop 1 = .ok (.ifCond .lt 17, 3) := by decide +kernel
theorem dX11_drop_4 : decode cX11_drop 4 = .ok (.iload_n 1, 1) := by decide +kernel
theorem dX11_drop_5 : decode cX11_drop 5 = .ok (.aload_n 0, 1) := by decide +kernel
theorem dX11_drop_6 : decode cX11_drop 6 = .ok (.getfield 60, 3) := by decide +kernel
theorem dX11_drop_9 : decode cX11_drop 9 = .ok (.getfield 130, 3) := by decide +kernel
theorem dX11_drop_12 : decode cX11_drop 12 = .ok (.invokevirtual 134, 3) := by decide +kernel
theorem dX11_drop_15 : decode cX11_drop 15 = .ok (.if_icmp .lt 11, 3) := by decide +kernel
theorem dX11_drop_18 : decode cX11_drop 18 = .ok (.new 142, 3) := by decide +kernel
theorem dX11_drop_21 : decode cX11_drop 21 = .ok (.dup, 1) := by decide +kernel
theorem dX11_drop_22 : decode cX11_drop 22 = .ok (.invokespecial 144, 3) := by decide +kernel
theorem dX11_drop_25 : decode cX11_drop 25 = .ok (.athrow, 1) := by decide +kernel
theorem dX11_drop_26 : decode cX11_drop 26 = .ok (.aload_n 0, 1) := by decide +kernel
theorem dX11_drop_27 : decode cX11_drop 27 = .ok (.getfield 60, 3) := by decide +kernel
theorem dX11_drop_30 : decode cX11_drop 30 = .ok (.getfield 130, 3) := by decide +kernel
theorem dX11_drop_33 : decode cX11_drop 33 = .ok (.iload_n 1, 1) := by decide +kernel
theorem dX11_drop_34 : decode cX11_drop 34 = .ok (.invokevirtual 225, 3) := by decide +kernel
theorem dX11_drop_37 : decode cX11_drop 37 = .ok (.pop, 1) := by decide +kernel
theorem dX11_drop_38 : decode cX11_drop 38 = .ok (.aload_n 0, 1) := by decide +kernel
theorem dX11_drop_39 : decode cX11_drop 39 = .ok (.getfield 60, 3) := by decide +kernel
theorem dX11_drop_42 : decode cX11_drop 42 = .ok (.getfield 130, 3) := by decide +kernel
theorem dX11_drop_45 : decode cX11_drop 45 = .ok (.invokevirtual 134, 3) := by decide +kernel
theorem dX11_drop_48 : decode cX11_drop 48 = .ok (.ireturn, 1) := by decide +kernel
theorem dX11_hash_0 : decode cX11_hash 0 = .ok (.iload_n 1, 1) := by decide +kernel
theorem dX11_hash_1 : decode cX11_hash 1 = .ok (.iconst 1, 1) := by decide +kernel
theorem dX11_hash_2 : decode cX11_hash 2 = .ok (.if_icmp .eq 16, 3) := by decide +kernel
theorem dX11_hash_5 : decode cX11_hash 5 = .ok (.iload_n 1, 1) := by decide +kernel
theorem dX11_hash_6 : decode cX11_hash 6 = .ok (.iconst 2, 1) := by decide +kernel
theorem dX11_hash_7 : decode cX11_hash 7 = .ok (.if_icmp .eq 11, 3) := by decide +kernel
theorem dX11_hash_10 : decode cX11_hash 10 = .ok (.new 112, 3) := by decide +kernel
theorem dX11_hash_13 : decode cX11_hash 13 = .ok (.dup, 1) := by decide +kernel
theorem dX11_hash_14 : decode cX11_hash 14 = .ok (.invokespecial 114, 3) := by decide +kernel
theorem dX11_hash_17 : decode cX11_hash 17 = .ok (.athrow, 1) := by decide +kernel
theorem dX11_hash_18 : decode cX11_hash 18 = .ok (.iload_n 2, 1) := by decide +kernel
theorem dX11_hash_19 : decode cX11_hash 19 = .ok (.ifCond .lt 19, 3) := by decide +kernel
theorem dX11_hash_22 : decode cX11_hash 22 = .ok (.iload_n 2, 1) := by decide +kernel
theorem dX11_hash_23 : decode cX11_hash 23 = .ok (.iload_n 1, 1) := by decide +kernel
theorem dX11_hash_24 : decode cX11_hash 24 = .ok (.iconst 1, 1) := by decide +kernel
theorem dX11_hash_25 : decode cX11_hash 25 = .ok (.if_icmp .ne 8, 3) := by decide +kernel
theorem dX11_hash_28 : decode cX11_hash 28 = .ok (.bipush 20, 2) := by decide +kernel
theorem dX11_hash_30 : decode cX11_hash 30 = .ok (.goto 5, 3) := by decide +kernel
theorem dX11_hash_33 : decode cX11_hash 33 = .ok (.bipush 32, 2) := by decide +kernel
theorem dX11_hash_35 : decode cX11_hash 35 = .ok (.if_icmp .lt 11, 3) := by decide +kernel
theorem dX11_hash_38 : decode cX11_hash 38 = .ok (.new 142, 3) := by decide +kernel
theorem dX11_hash_41 : decode cX11_hash 41 = .ok (.dup, 1) := by decide +kernel
theorem dX11_hash_42 : decode cX11_hash 42 = .ok (.invokespecial 144, 3) := by decide +kernel
theorem dX11_hash_45 : decode cX11_hash 45 = .ok (.athrow, 1) := by decide +kernel
theorem dX11_hash_46 : decode cX11_hash 46 = .ok (.aload_n 0, 1) := by decide +kernel
theorem dX11_hash_47 : decode cX11_hash 47 = .ok (.getfield 105, 3) := by decide +kernel
theorem dX11_hash_50 : decode cX11_hash 50 = .ok (.iload_n 1, 1) := by decide +kernel
theorem dX11_hash_51 : decode cX11_hash 51 = .ok (.if_icmp .eq 30, 3) := by decide +kernel
theorem dX11_hash_54 : decode cX11_hash 54 = .ok (.aload_n 0, 1) := by decide +kernel
theorem dX11_hash_55 : decode cX11_hash 55 = .ok (.getfield 53, 3) := by decide +kernel
theorem dX11_hash_58 : decode cX11_hash 58 = .ok (.iload_n 1, 1) := by decide +kernel
theorem dX11_hash_59 : decode cX11_hash 59 = .ok (.iconst 1, 1) := by decide +kernel
theorem dX11_hash_60 : decode cX11_hash 60 = .ok (.if_icmp .ne 7, 3) := by decide +kernel
theorem dX11_hash_63 : decode cX11_hash 63 = .ok (.iconst 2, 1) := by decide +kernel
theorem dX11_hash_64 : decode cX11_hash 64 = .ok (.goto 5, 3) := by decide +kernel
theorem dX11_hash_67 : decode cX11_hash 67 = .ok (.bipush 8, 2) := by decide +kernel
theorem dX11_hash_69 : decode cX11_hash 69 = .ok (.aload_n 0, 1) := by decide +kernel
theorem dX11_hash_70 : decode cX11_hash 70 = .ok (.getfield 18, 3) := by decide +kernel
theorem dX11_hash_73 : decode cX11_hash 73 = .ok (.invokevirtual 228, 3) := by decide +kernel
theorem dX11_hash_76 : decode cX11_hash 76 = .ok (.aload_n 0, 1) := by decide +kernel
theorem dX11_hash_77 : decode cX11_hash 77 = .ok (.iload_n 1, 1) := by decide +kernel
theorem dX11_hash_78 : decode cX11_hash 78 = .ok (.putfield 105, 3) := by decide +kernel
theorem dX11_hash_81 : decode cX11_hash 81 = .ok (.aload_n 0, 1) := by decide +kernel
theorem dX11_hash_82 : decode cX11_hash 82 = .ok (.getfield 53, 3) := by decide +kernel
theorem dX11_hash_85 : decode cX11_hash 85 = .ok (.iload_n 2, 1) := by decide +kernel
theorem dX11_hash_86 : decode cX11_hash 86 = .ok (.invokevirtual 231, 3) := by decide +kernel
theorem dX11_hash_89 : decode cX11_hash 89 = .ok (.ireturn, 1) := by decide +kernel
theorem dX11_isTime_0 : decode cX11_isTime 0 = .ok (.lload_n 0, 1) := by decide +kernel
theorem dX11_isTime_1 : decode cX11_isTime 1 = .ok (.lconst 0, 1) := by decide +kernel
theorem dX11_isTime_2 : decode cX11_isTime 2 = .ok (.lcmp, 1) := by decide +kernel
theorem dX11_isTime_3 : decode cX11_isTime 3 = .ok (.ifCond .lt 15, 3) := by decide +kernel
theorem dX11_isTime_6 : decode cX11_isTime 6 = .ok (.lload_n 0, 1) := by decide +kernel
theorem dX11_isTime_7 : decode cX11_isTime 7 = .ok (.ldc2_w 232, 3) := by decide +kernel
theorem dX11_isTime_10 : decode cX11_isTime 10 = .ok (.lcmp, 1) := by decide +kernel
theorem dX11_isTime_11 : decode cX11_isTime 11 = .ok (.ifCond .gt 7, 3) := by decide +kernel
theorem dX11_isTime_14 : decode cX11_isTime 14 = .ok (.iconst 1, 1) := by decide +kernel
theorem dX11_isTime_15 : decode cX11_isTime 15 = .ok (.goto 4, 3) := by decide +kernel
theorem dX11_isTime_18 : decode cX11_isTime 18 = .ok (.iconst 0, 1) := by decide +kernel
theorem dX11_isTime_19 : decode cX11_isTime 19 = .ok (.ireturn, 1) := by decide +kernel
theorem dX11_found_0 : decode cX11_found 0 = .ok (.iload_n 1, 1) := by decide +kernel
theorem dX11_found_1 : decode cX11_found 1 = .ok (.ifCond .lt 17, 3) := by decide +kernel
theorem dX11_found_4 : decode cX11_found 4 = .ok (.iload_n 1, 1) := by decide +kernel
theorem dX11_found_5 : decode cX11_found 5 = .ok (.aload_n 0, 1) := by decide +kernel
theorem dX11_found_6 : decode cX11_found 6 = .ok (.getfield 60, 3) := by decide +kernel
theorem dX11_found_9 : decode cX11_found 9 = .ok (.getfield 130, 3) := by decide +kernel
theorem dX11_found_12 : decode cX11_found 12 = .ok (.invokevirtual 134, 3) := by decide +kernel
theorem dX11_found_15 : decode cX11_found 15 = .ok (.if_icmp .lt 5, 3) := by decide +kernel
theorem dX11_found_18 : decode cX11_found 18 = .ok (.aconst_null, 1) := by decide +kernel
theorem dX11_found_19 : decode cX11_found 19 = .ok (.areturn, 1) := by decide +kernel
theorem dX11_found_20 : decode cX11_found 20 = .ok (.aload_n 0, 1) := by decide +kernel
theorem dX11_found_21 : decode cX11_found 21 = .ok (.getfield 60, 3) := by decide +kernel
theorem dX11_found_24 : decode cX11_found 24 = .ok (.getfield 130, 3) := by decide +kernel
theorem dX11_found_27 : decode cX11_found 27 = .ok (.iload_n 1, 1) := by decide +kernel
theorem dX11_found_28 : decode cX11_found 28 = .ok (.invokevirtual 195, 3) := by decide +kernel
theorem dX11_found_31 : decode cX11_found 31 = .ok (.checkcast 146, 3) := by decide +kernel
theorem dX11_found_34 : decode cX11_found 34 = .ok (.astore_n 3, 1) := by decide +kernel
theorem dX11_found_35 : decode cX11_found 35 = .ok (.iload_n 2, 1) := by decide +kernel
theorem dX11_found_36 : decode cX11_found 36 = .ok (.iconst (-1), 1) := by decide +kernel
theorem dX11_found_37 : decode cX11_found 37 = .ok (.if_icmp .ne 5, 3) := by decide +kernel
theorem dX11_found_40 : decode cX11_found 40 = .ok (.aload_n 3, 1) := by decide +kernel
theorem dX11_found_41 : decode cX11_found 41 = .ok (.areturn, 1) := by decide +kernel
theorem dX11_found_42 : decode cX11_found 42 = .ok (.iload_n 2, 1) := by decide +kernel
theorem dX11_found_43 : decode cX11_found 43 = .ok (.ifCond .lt 28, 3) := by decide +kernel
theorem dX11_found_46 : decode cX11_found 46 = .ok (.iload_n 2, 1) := by decide +kernel
theorem dX11_found_47 : decode cX11_found 47 = .ok (.aload_n 3, 1) := by decide +kernel
theorem dX11_found_48 : decode cX11_found 48 = .ok (.getfield 157, 3) := by decide +kernel
theorem dX11_found_51 : decode cX11_found 51 = .ok (.invokevirtual 134, 3) := by decide +kernel
theorem dX11_found_54 : decode cX11_found 54 = .ok (.if_icmp .ge 17, 3) := by decide +kernel
theorem dX11_found_57 : decode cX11_found 57 = .ok (.aload_n 3, 1) := by decide +kernel
theorem dX11_found_58 : decode cX11_found 58 = .ok (.getfield 157, 3) := by decide +kernel
theorem dX11_found_61 : decode cX11_found 61 = .ok (.iload_n 2, 1) := by decide +kernel
theorem dX11_found_62 : decode cX11_found 62 = .ok (.invokevirtual 195, 3) := by decide +kernel
theorem dX11_found_65 : decode cX11_found 65 = .ok (.checkcast 146, 3) := by decide +kernel
theorem dX11_found_68 : decode cX11_found 68 = .ok (.goto 4, 3) := by decide +kernel
theorem dX11_found_71 : decode cX11_found 71 = .ok (.aconst_null, 1) := by decide +kernel
theorem dX11_found_72 : decode cX11_found 72 = .ok (.areturn, 1) := by decide +kernel
theorem dX11_isInSigns_0 : decode cX11_isInSigns 0 = .ok (.aload_n 0, 1) := by decide +kernel
theorem dX11_isInSigns_1 : decode cX11_isInSigns 1 = .ok (.getfield 14, 3) := by decide +kernel
theorem dX11_isInSigns_4 : decode cX11_isInSigns 4 = .ok (.getfield 86, 3) := by decide +kernel
theorem dX11_isInSigns_7 : decode cX11_isInSigns 7 = .ok (.ifCond .le 21, 3) := by decide +kernel
theorem dX11_isInSigns_10 : decode cX11_isInSigns 10 = .ok (.aload_n 0, 1) := by decide +kernel
theorem dX11_isInSigns_11 : decode cX11_isInSigns 11 = .ok (.getfield 14, 3) := by decide +kernel
theorem dX11_isInSigns_14 : decode cX11_isInSigns 14 = .ok (.iconst 0, 1) := by decide +kernel
theorem dX11_isInSigns_15 : decode cX11_isInSigns 15 = .ok (.invokevirtual 211, 3) := by decide +kernel
theorem dX11_isInSigns_18 : decode cX11_isInSigns 18 = .ok (.sipush 128, 3) := by decide +kernel
theorem dX11_isInSigns_21 : decode cX11_isInSigns 21 = .ok (.if_icmp .ge 7, 3) := by decide +kernel
theorem dX11_isInSigns_24 : decode cX11_isInSigns 24 = .ok (.iconst 1, 1) := by decide +kernel
theorem dX11_isInSigns_25 : decode cX11_isInSigns 25 = .ok (.goto 4, 3) := by decide +kernel
theorem dX11_isInSigns_28 : decode cX11_isInSigns 28 = .ok (.iconst 0, 1) := by decide +kernel
theorem dX11_isInSigns_29 : decode cX11_isInSigns 29 = .ok (.ireturn, 1) := by decide +kernel
theorem dX11_openKeys_0 : decode cX11_openKeys 0 = .ok (.aload_n 0, 1) := by decide +kernel
theorem dX11_openKeys_1 : decode cX11_openKeys 1 = .ok (.getfield 39, 3) := by decide +kernel
theorem dX11_openKeys_4 : decode cX11_openKeys 4 = .ok (.aload_n 0, 1) := by decide +kernel
theorem dX11_openKeys_5 : decode cX11_openKeys 5 = .ok (.getfield 14, 3) := by decide +kernel
theorem dX11_openKeys_8 : decode cX11_openKeys 8 = .ok (.invokevirtual 234, 3) := by decide +kernel
theorem dX11_openKeys_11 : decode cX11_openKeys 11 = .ok (.aload_n 0, 1) := by decide +kernel
theorem dX11_openKeys_12 : decode cX11_openKeys 12 = .ok (.invokevirtual 238, 3) := by decide +kernel
theorem dX11_openKeys_15 : decode cX11_openKeys 15 = .ok (.ifCond .eq 10, 3) := by decide +kernel
theorem dX11_openKeys_18 : decode cX11_openKeys 18 = .ok (.aload_n 0, 1) := by decide +kernel
theorem dX11_openKeys_19 : decode cX11_openKeys 19 = .ok (.invokevirtual 242, 3) := by decide +kernel
theorem dX11_openKeys_22 : decode cX11_openKeys 22 = .ok (.goto 4, 3) := by decide +kernel
theorem dX11_openKeys_25 : decode cX11_openKeys 25 = .ok (.iconst 0, 1) := by decide +kernel
theorem dX11_openKeys_26 : decode cX11_openKeys 26 = .ok (.ireturn, 1) := by decide +kernel
theorem dX11_openLooked_0 : decode cX11_openLooked 0 = .ok (.aload_n 0, 1) := by decide +kernel
theorem dX11_openLooked_1 : decode cX11_openLooked 1 = .ok (.getfield 32, 3) := by decide +kernel
theorem dX11_openLooked_4 : decode cX11_openLooked 4 = .ok (.aload_n 0, 1) := by decide +kernel
theorem dX11_openLooked_5 : decode cX11_openLooked 5 = .ok (.getfield 18, 3) := by decide +kernel
theorem dX11_openLooked_8 : decode cX11_openLooked 8 = .ok (.getfield 261, 3) := by decide +kernel
theorem dX11_openLooked_11 : decode cX11_openLooked 11 = .ok (.aload_n 0, 1) := by decide +kernel
theorem dX11_openLooked_12 : decode cX11_openLooked 12 = .ok (.getfield 18, 3) := by decide +kernel
theorem dX11_openLooked_15 : decode cX11_openLooked 15 = .ok (.getfield 264, 3) := by decide +kernel
theorem dX11_openLooked_18 : decode cX11_openLooked 18 = .ok (.aload_n 0, 1) := by decide +kernel
theorem dX11_openLooked_19 : decode cX11_openLooked 19 = .ok (.getfield 18, 3) := by decide +kernel
theorem dX11_openLooked_22 : decode cX11_openLooked 22 = .ok (.getfield 86, 3) := by decide +kernel
theorem dX11_openLooked_25 : decode cX11_openLooked 25 = .ok (.invokevirtual 267, 3) := by decide +kernel
theorem dX11_openLooked_28 : decode cX11_openLooked 28 = .ok (.aload_n 0, 1) := by decide +kernel
theorem dX11_openLooked_29 : decode cX11_openLooked 29 = .ok (.getfield 39, 3) := by decide +kernel
theorem dX11_openLooked_32 : decode cX11_openLooked 32 = .ok (.aload_n 0, 1) := by decide +kernel
theorem dX11_openLooked_33 : decode cX11_openLooked 33 = .ok (.getfield 14, 3) := by decide +kernel
theorem dX11_openLooked_36 : decode cX11_openLooked 36 = .ok (.invokevirtual 234, 3) := by decide +kernel
theorem dX11_openLooked_39 : decode cX11_openLooked 39 = .ok (.aload_n 0, 1) := by decide +kernel
theorem dX11_openLooked_40 : decode cX11_openLooked 40 = .ok (.invokevirtual 238, 3) := by decide +kernel
theorem dX11_openLooked_43 : decode cX11_openLooked 43 = .ok (.ifCond .ne 8, 3) := by decide +kernel
theorem dX11_openLooked_46 : decode cX11_openLooked 46 = .ok (.aload_n 0, 1) := by decide +kernel
theorem dX11_openLooked_47 : decode cX11_openLooked 47 = .ok (.invokevirtual 270, 3) := by decide +kernel
theorem dX11_openLooked_50 : decode cX11_openLooked 50 = .ok (.ireturn, 1) := by decide +kernel
theorem dX11_openLooked_51 : decode cX11_openLooked 51 = .ok (.aload_n 0, 1) := by decide +kernel
theorem dX11_openLooked_52 : decode cX11_openLooked 52 = .ok (.getfield 46, 3) := by decide +kernel
theorem dX11_openLooked_55 : decode cX11_openLooked 55 = .ok (.aload_n 0, 1) := by decide +kernel
theorem dX11_openLooked_56 : decode cX11_openLooked 56 = .ok (.getfield 14, 3) := by decide +kernel
theorem dX11_openLooked_59 : decode cX11_openLooked 59 = .ok (.invokevirtual 245, 3) := by decide +kernel
theorem dX11_openLooked_62 : decode cX11_openLooked 62 = .ok (.aload_n 0, 1) := by decide +kernel
theorem dX11_openLooked_63 : decode cX11_openLooked 63 = .ok (.getfield 46, 3) := by decide +kernel
theorem dX11_openLooked_66 : decode cX11_openLooked 66 = .ok (.invokevirtual 246, 3) := by decide +kernel
theorem dX11_openLooked_69 : decode cX11_openLooked 69 = .ok (.pop, 1) := by decide +kernel
theorem dX11_openLooked_70 : decode cX11_openLooked 70 = .ok (.aload_n 0, 1) := by decide +kernel
theorem dX11_openLooked_71 : decode cX11_openLooked 71 = .ok (.getfield 46, 3) := by decide +kernel
theorem dX11_openLooked_74 : decode cX11_openLooked 74 = .ok (.ldc_w 273, 3) := by decide +kernel
theorem dX11_openLooked_77 : decode cX11_openLooked 77 = .ok (.ldc_w 275, 3) := by decide +kernel
theorem dX11_openLooked_80 : decode cX11_openLooked 80 = .ok (.invokevirtual 277, 3) := by decide +kernel
theorem dX11_openLooked_83 : decode cX11_openLooked 83 = .ok (.ifCond .eq 8, 3) := by decide +kernel
theorem dX11_openLooked_86 : decode cX11_openLooked 86 = .ok (.aload_n 0, 1) := by decide +kernel
theorem dX11_openLooked_87 : decode cX11_openLooked 87 = .ok (.invokevirtual 281, 3) := by decide +kernel
theorem dX11_openLooked_90 : decode cX11_openLooked 90 = .ok (.ireturn, 1) := by decide +kernel
theorem dX11_openLooked_91 : decode cX11_openLooked 91 = .ok (.aload_n 0, 1) := by decide +kernel
theorem dX11_openLooked_92 : decode cX11_openLooked 92 = .ok (.invokevirtual 242, 3) := by decide +kernel
theorem dX11_openLooked_95 : decode cX11_openLooked 95 = .ok (.istore_n 1, 1) := by decide +kernel
theorem dX11_openLooked_96 : decode cX11_openLooked 96 = .ok (.iload_n 1, 1) := by decide +kernel
theorem dX11_openLooked_97 : decode cX11_openLooked 97 = .ok (.ifCond .ge 7, 3) := by decide +kernel
theorem dX11_openLooked_100 : decode cX11_openLooked 100 = .ok (.iload_n 1, 1) := by decide +kernel
theorem dX11_openLooked_101 : decode cX11_openLooked 101 = .ok (.goto 7, 3) := by decide +kernel
theorem dX11_openLooked_104 : decode cX11_openLooked 104 = .ok (.aload_n 0, 1) := by decide +kernel
theorem dX11_openLooked_105 : decode cX11_openLooked 105 = .ok (.invokevirtual 270, 3) := by decide +kernel
theorem dX11_openLooked_108 : decode cX11_openLooked 108 = .ok (.ireturn, 1) := by decide +kernel
theorem dX11_readSealed_0 : decode cX11_readSealed 0 = .ok (.aload_n 0, 1) := by decide +kernel
theorem dX11_readSealed_1 : decode cX11_readSealed 1 = .ok (.getfield 39, 3) := by decide +kernel
theorem dX11_readSealed_4 : decode cX11_readSealed 4 = .ok (.invokevirtual 288, 3) := by decide +kernel
theorem dX11_readSealed_7 : decode cX11_readSealed 7 = .ok (.ifCond .ne 11, 3) := by decide +kernel
theorem dX11_readSealed_10 : decode cX11_readSealed 10 = .ok (.aload_n 0, 1) := by decide +kernel
theorem dX11_readSealed_11 : decode cX11_readSealed 11 = .ok (.getfield 39, 3) := by decide +kernel
theorem dX11_readSealed_14 : decode cX11_readSealed 14 = .ok (.invokevirtual 299, 3) := by decide +kernel
theorem dX11_readSealed_17 : decode cX11_readSealed 17 = .ok (.ireturn, 1) := by decide +kernel
theorem dX11_readSealed_18 : decode cX11_readSealed 18 = .ok (.aload_n 0, 1) := by decide +kernel
theorem dX11_readSealed_19 : decode cX11_readSealed 19 = .ok (.getfield 39, 3) := by decide +kernel
theorem dX11_readSealed_22 : decode cX11_readSealed 22 = .ok (.getfield 300, 3) := by decide +kernel
theorem dX11_readSealed_25 : decode cX11_readSealed 25 = .ok (.iconst 4, 1) := by decide +kernel
theorem dX11_readSealed_26 : decode cX11_readSealed 26 = .ok (.if_icmp .eq 25, 3) := by decide +kernel
theorem dX11_readSealed_29 : decode cX11_readSealed 29 = .ok (.aload_n 0, 1) := by decide +kernel
theorem dX11_readSealed_30 : decode cX11_readSealed 30 = .ok (.invokevirtual 290, 3) := by decide +kernel
theorem dX11_readSealed_33 : decode cX11_readSealed 33 = .ok (.ifCond .eq 10, 3) := by decide +kernel
theorem dX11_readSealed_36 : decode cX11_readSealed 36 = .ok (.aload_n 0, 1) := by decide +kernel
theorem dX11_readSealed_37 : decode cX11_readSealed 37 = .ok (.invokevirtual 296, 3) := by decide +kernel
theorem dX11_readSealed_40 : decode cX11_readSealed 40 = .ok (.goto 10, 3) := by decide +kernel
theorem dX11_readSealed_43 : decode cX11_readSealed 43 = .ok (.aload_n 0, 1) := by decide +kernel
theorem dX11_readSealed_44 : decode cX11_readSealed 44 = .ok (.getfield 39, 3) := by decide +kernel
theorem dX11_readSealed_47 : decode cX11_readSealed 47 = .ok (.invokevirtual 299, 3) := by decide +kernel
theorem dX11_readSealed_50 : decode cX11_readSealed 50 = .ok (.ireturn, 1) := by decide +kernel
theorem dX11_readSealed_51 : decode cX11_readSealed 51 = .ok (.aload_n 0, 1) := by decide +kernel
theorem dX11_readSealed_52 : decode cX11_readSealed 52 = .ok (.getfield 39, 3) := by decide +kernel
theorem dX11_readSealed_55 : decode cX11_readSealed 55 = .ok (.getfield 303, 3) := by decide +kernel
theorem dX11_readSealed_58 : decode cX11_readSealed 58 = .ok (.astore_n 1, 1) := by decide +kernel
theorem dX11_readSealed_59 : decode cX11_readSealed 59 = .ok (.aload_n 1, 1) := by decide +kernel
theorem dX11_readSealed_60 : decode cX11_readSealed 60 = .ok (.iconst 1, 1) := by decide +kernel
theorem dX11_readSealed_61 : decode cX11_readSealed 61 = .ok (.invokevirtual 306, 3) := by decide +kernel
theorem dX11_readSealed_64 : decode cX11_readSealed 64 = .ok (.istore_n 2, 1) := by decide +kernel
theorem dX11_readSealed_65 : decode cX11_readSealed 65 = .ok (.aload_n 1, 1) := by decide +kernel
theorem dX11_readSealed_66 : decode cX11_readSealed 66 = .ok (.iconst 2, 1) := by decide +kernel
theorem dX11_readSealed_67 : decode cX11_readSealed 67 = .ok (.invokevirtual 306, 3) := by decide +kernel
theorem dX11_readSealed_70 : decode cX11_readSealed 70 = .ok (.istore_n 3, 1) := by decide +kernel
theorem dX11_readSealed_71 : decode cX11_readSealed 71 = .ok (.aload_n 1, 1) := by decide +kernel
theorem dX11_readSealed_72 : decode cX11_readSealed 72 = .ok (.getfield 307, 3) := by decide +kernel
theorem dX11_readSealed_75 : decode cX11_readSealed 75 = .ok (.bipush 13, 2) := by decide +kernel
theorem dX11_readSealed_77 : decode cX11_readSealed 77 = .ok (.if_icmp .ne 31, 3) := by decide +kernel
theorem dX11_readSealed_80 : decode cX11_readSealed 80 = .ok (.aload_n 1, 1) := by decide +kernel
theorem dX11_readSealed_81 : decode cX11_readSealed 81 = .ok (.iconst 0, 1) := by decide +kernel
theorem dX11_readSealed_82 : decode cX11_readSealed 82 = .ok (.invokevirtual 306, 3) := by decide +kernel
theorem dX11_readSealed_85 : decode cX11_readSealed 85 = .ok (.iconst 3, 1) := by decide +kernel
theorem dX11_readSealed_86 : decode cX11_readSealed 86 = .ok (.if_icmp .ne 22, 3) := by decide +kernel
theorem dX11_readSealed_89 : decode cX11_readSealed 89 = .ok (.aload_n 1, 1) := by decide +kernel
theorem dX11_readSealed_90 : decode cX11_readSealed 90 = .ok (.iconst 3, 1) := by decide +kernel
theorem dX11_readSealed_91 : decode cX11_readSealed 91 = .ok (.invokevirtual 306, 3) := by decide +kernel
theorem dX11_readSealed_94 : decode cX11_readSealed 94 = .ok (.iconst 1, 1) := by decide +kernel
theorem dX11_readSealed_95 : decode cX11_readSealed 95 = .ok (.if_icmp .ne 13, 3) := by decide +kernel
theorem dX11_readSealed_98 : decode cX11_readSealed 98 = .ok (.aload_n 1, 1) := by decide +kernel
theorem dX11_readSealed_99 : decode cX11_readSealed 99 = .ok (.bipush 12, 2) := by decide +kernel
theorem dX11_readSealed_101 : decode cX11_readSealed 101 = .ok (.invokevirtual 306, 3) := by decide +kernel
theorem dX11_readSealed_104 : decode cX11_readSealed 104 = .ok (.iconst 1, 1) := by decide +kernel
theorem dX11_readSealed_105 : decode cX11_readSealed 105 = .ok (.if_icmp .eq 11, 3) := by decide +kernel
theorem dX11_readSealed_108 : decode cX11_readSealed 108 = .ok (.aload_n 0, 1) := by decide +kernel
theorem dX11_readSealed_109 : decode cX11_readSealed 109 = .ok (.getfield 39, 3) := by decide +kernel
theorem dX11_readSealed_112 : decode cX11_readSealed 112 = .ok (.invokevirtual 299, 3) := by decide +kernel
theorem dX11_readSealed_115 : decode cX11_readSealed 115 = .ok (.ireturn, 1) := by decide +kernel
theorem dX11_readSealed_116 : decode cX11_readSealed 116 = .ok (.aload_n 0, 1) := by decide +kernel
theorem dX11_readSealed_117 : decode cX11_readSealed 117 = .ok (.getfield 39, 3) := by decide +kernel
theorem dX11_readSealed_120 : decode cX11_readSealed 120 = .ok (.invokevirtual 288, 3) := by decide +kernel
theorem dX11_readSealed_123 : decode cX11_readSealed 123 = .ok (.ifCond .eq 10, 3) := by decide +kernel
theorem dX11_readSealed_126 : decode cX11_readSealed 126 = .ok (.aload_n 0, 1) := by decide +kernel
theorem dX11_readSealed_127 : decode cX11_readSealed 127 = .ok (.invokevirtual 308, 3) := by decide +kernel
theorem dX11_readSealed_130 : decode cX11_readSealed 130 = .ok (.ifCond .ne 11, 3) := by decide +kernel
theorem dX11_readSealed_133 : decode cX11_readSealed 133 = .ok (.aload_n 0, 1) := by decide +kernel
theorem dX11_readSealed_134 : decode cX11_readSealed 134 = .ok (.getfield 39, 3) := by decide +kernel
theorem dX11_readSealed_137 : decode cX11_readSealed 137 = .ok (.invokevirtual 299, 3) := by decide +kernel
theorem dX11_readSealed_140 : decode cX11_readSealed 140 = .ok (.ireturn, 1) := by decide +kernel
theorem dX11_readSealed_141 : decode cX11_readSealed 141 = .ok (.aload_n 0, 1) := by decide +kernel
theorem dX11_readSealed_142 : decode cX11_readSealed 142 = .ok (.getfield 39, 3) := by decide +kernel
theorem dX11_readSealed_145 : decode cX11_readSealed 145 = .ok (.invokevirtual 288, 3) := by decide +kernel
theorem dX11_readSealed_148 : decode cX11_readSealed 148 = .ok (.ifCond .eq 36, 3) := by decide +kernel
theorem dX11_readSealed_151 : decode cX11_readSealed 151 = .ok (.aload_n 0, 1) := by decide +kernel
theorem dX11_readSealed_152 : decode cX11_readSealed 152 = .ok (.invokevirtual 290, 3) := by decide +kernel
theorem dX11_readSealed_155 : decode cX11_readSealed 155 = .ok (.ifCond .eq 29, 3) := by decide +kernel
theorem dX11_readSealed_158 : decode cX11_readSealed 158 = .ok (.aload_n 0, 1) := by decide +kernel
theorem dX11_readSealed_159 : decode cX11_readSealed 159 = .ok (.getfield 76, 3) := by decide +kernel
theorem dX11_readSealed_162 : decode cX11_readSealed 162 = .ok (.getfield 293, 3) := by decide +kernel
theorem dX11_readSealed_165 : decode cX11_readSealed 165 = .ok (.iload_n 2, 1) := by decide +kernel
theorem dX11_readSealed_166 : decode cX11_readSealed 166 = .ok (.if_icmp .ne 18, 3) := by decide +kernel
theorem dX11_readSealed_169 : decode cX11_readSealed 169 = .ok (.aload_n 0, 1) := by decide +kernel
theorem dX11_readSealed_170 : decode cX11_readSealed 170 = .ok (.getfield 76, 3) := by decide +kernel
theorem dX11_readSealed_173 : decode cX11_readSealed 173 = .ok (.getfield 311, 3) := by decide +kernel
theorem dX11_readSealed_176 : decode cX11_readSealed 176 = .ok (.iload_n 3, 1) := by decide +kernel
theorem dX11_readSealed_177 : decode cX11_readSealed 177 = .ok (.if_icmp .ne 7, 3) := by decide +kernel
theorem dX11_readSealed_180 : decode cX11_readSealed 180 = .ok (.iconst 1, 1) := by decide +kernel
theorem dX11_readSealed_181 : decode cX11_readSealed 181 = .ok (.goto 4, 3) := by decide +kernel
theorem dX11_readSealed_184 : decode cX11_readSealed 184 = .ok (.iconst 0, 1) := by decide +kernel
theorem dX11_readSealed_185 : decode cX11_readSealed 185 = .ok (.istore 4, 2) := by decide +kernel
theorem dX11_readSealed_187 : decode cX11_readSealed 187 = .ok (.iload 4, 2) := by decide +kernel
theorem dX11_readSealed_189 : decode cX11_readSealed 189 = .ok (.ifCond .eq 10, 3) := by decide +kernel
theorem dX11_readSealed_192 : decode cX11_readSealed 192 = .ok (.aload_n 0, 1) := by decide +kernel
theorem dX11_readSealed_193 : decode cX11_readSealed 193 = .ok (.invokevirtual 296, 3) := by decide +kernel
theorem dX11_readSealed_196 : decode cX11_readSealed 196 = .ok (.goto 10, 3) := by decide +kernel
theorem dX11_readSealed_199 : decode cX11_readSealed 199 = .ok (.aload_n 0, 1) := by decide +kernel
theorem dX11_readSealed_200 : decode cX11_readSealed 200 = .ok (.getfield 39, 3) := by decide +kernel
theorem dX11_readSealed_203 : decode cX11_readSealed 203 = .ok (.invokevirtual 299, 3) := by decide +kernel
theorem dX11_readSealed_206 : decode cX11_readSealed 206 = .ok (.ireturn, 1) := by decide +kernel
