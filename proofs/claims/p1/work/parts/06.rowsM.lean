theorem dX12_init_0 : decode cX12_init 0 = .ok (.aload_n 0, 1) := by decide +kernel
theorem dX12_init_1 : decode cX12_init 1 = .ok (.invokespecial 1, 3) := by decide +kernel
theorem dX12_init_4 : decode cX12_init 4 = .ok (.aload_n 0, 1) := by decide +kernel
theorem dX12_init_5 : decode cX12_init 5 = .ok (.sipush 4096, 3) := by decide +kernel
theorem dX12_init_8 : decode cX12_init 8 = .ok (.newarray .int, 2) := by decide +kernel
theorem dX12_init_10 : decode cX12_init 10 = .ok (.putfield 7, 3) := by decide +kernel
theorem dX12_init_13 : decode cX12_init 13 = .ok (.aload_n 0, 1) := by decide +kernel
theorem dX12_init_14 : decode cX12_init 14 = .ok (.iconst 0, 1) := by decide +kernel
theorem dX12_init_15 : decode cX12_init 15 = .ok (.newarray .int, 2) := by decide +kernel
theorem dX12_init_17 : decode cX12_init 17 = .ok (.putfield 13, 3) := by decide +kernel
theorem dX12_init_20 : decode cX12_init 20 = .ok (.aload_n 0, 1) := by decide +kernel
theorem dX12_init_21 : decode cX12_init 21 = .ok (.ldc 16, 2) := by decide +kernel
theorem dX12_init_23 : decode cX12_init 23 = .ok (.newarray .int, 2) := by decide +kernel
theorem dX12_init_25 : decode cX12_init 25 = .ok (.putfield 17, 3) := by decide +kernel
theorem dX12_init_28 : decode cX12_init 28 = .ok (.aload_n 0, 1) := by decide +kernel
theorem dX12_init_29 : decode cX12_init 29 = .ok (.sipush 4700, 3) := by decide +kernel
theorem dX12_init_32 : decode cX12_init 32 = .ok (.newarray .int, 2) := by decide +kernel
theorem dX12_init_34 : decode cX12_init 34 = .ok (.putfield 20, 3) := by decide +kernel
theorem dX12_init_37 : decode cX12_init 37 = .ok (.aload_n 0, 1) := by decide +kernel
theorem dX12_init_38 : decode cX12_init 38 = .ok (.sipush 4700, 3) := by decide +kernel
theorem dX12_init_41 : decode cX12_init 41 = .ok (.anewarray 23, 3) := by decide +kernel
theorem dX12_init_44 : decode cX12_init 44 = .ok (.putfield 24, 3) := by decide +kernel
theorem dX12_init_47 : decode cX12_init 47 = .ok (.aload_n 0, 1) := by decide +kernel
theorem dX12_init_48 : decode cX12_init 48 = .ok (.sipush 4700, 3) := by decide +kernel
theorem dX12_init_51 : decode cX12_init 51 = .ok (.anewarray 23, 3) := by decide +kernel
theorem dX12_init_54 : decode cX12_init 54 = .ok (.putfield 28, 3) := by decide +kernel
theorem dX12_init_57 : decode cX12_init 57 = .ok (.aload_n 0, 1) := by decide +kernel
theorem dX12_init_58 : decode cX12_init 58 = .ok (.sipush 4700, 3) := by decide +kernel
theorem dX12_init_61 : decode cX12_init 61 = .ok (.newarray .int, 2) := by decide +kernel
theorem dX12_init_63 : decode cX12_init 63 = .ok (.putfield 31, 3) := by decide +kernel
theorem dX12_init_66 : decode cX12_init 66 = .ok (.aload_n 0, 1) := by decide +kernel
theorem dX12_init_67 : decode cX12_init 67 = .ok (.sipush 4700, 3) := by decide +kernel
theorem dX12_init_70 : decode cX12_init 70 = .ok (.anewarray 23, 3) := by decide +kernel
theorem dX12_init_73 : decode cX12_init 73 = .ok (.putfield 34, 3) := by decide +kernel
theorem dX12_init_76 : decode cX12_init 76 = .ok (.aload_n 0, 1) := by decide +kernel
theorem dX12_init_77 : decode cX12_init 77 = .ok (.sipush 4700, 3) := by decide +kernel
theorem dX12_init_80 : decode cX12_init 80 = .ok (.anewarray 23, 3) := by decide +kernel
theorem dX12_init_83 : decode cX12_init 83 = .ok (.putfield 37, 3) := by decide +kernel
theorem dX12_init_86 : decode cX12_init 86 = .ok (.aload_n 0, 1) := by decide +kernel
theorem dX12_init_87 : decode cX12_init 87 = .ok (.sipush 30000, 3) := by decide +kernel
theorem dX12_init_90 : decode cX12_init 90 = .ok (.newarray .int, 2) := by decide +kernel
theorem dX12_init_92 : decode cX12_init 92 = .ok (.putfield 40, 3) := by decide +kernel
theorem dX12_init_95 : decode cX12_init 95 = .ok (.aload_n 0, 1) := by decide +kernel
theorem dX12_init_96 : decode cX12_init 96 = .ok (.bipush 32, 2) := by decide +kernel
theorem dX12_init_98 : decode cX12_init 98 = .ok (.newarray .int, 2) := by decide +kernel
theorem dX12_init_100 : decode cX12_init 100 = .ok (.putfield 43, 3) := by decide +kernel
theorem dX12_init_103 : decode cX12_init 103 = .ok (.aload_n 0, 1) := by decide +kernel
theorem dX12_init_104 : decode cX12_init 104 = .ok (.bipush 80, 2) := by decide +kernel
theorem dX12_init_106 : decode cX12_init 106 = .ok (.newarray .int, 2) := by decide +kernel
theorem dX12_init_108 : decode cX12_init 108 = .ok (.putfield 46, 3) := by decide +kernel
theorem dX12_init_111 : decode cX12_init 111 = .ok (.aload_n 0, 1) := by decide +kernel
theorem dX12_init_112 : decode cX12_init 112 = .ok (.bipush 8, 2) := by decide +kernel
theorem dX12_init_114 : decode cX12_init 114 = .ok (.newarray .int, 2) := by decide +kernel
theorem dX12_init_116 : decode cX12_init 116 = .ok (.putfield 49, 3) := by decide +kernel
theorem dX12_init_119 : decode cX12_init 119 = .ok (.aload_n 0, 1) := by decide +kernel
theorem dX12_init_120 : decode cX12_init 120 = .ok (.bipush 8, 2) := by decide +kernel
theorem dX12_init_122 : decode cX12_init 122 = .ok (.newarray .int, 2) := by decide +kernel
theorem dX12_init_124 : decode cX12_init 124 = .ok (.putfield 52, 3) := by decide +kernel
theorem dX12_init_127 : decode cX12_init 127 = .ok (.aload_n 0, 1) := by decide +kernel
theorem dX12_init_128 : decode cX12_init 128 = .ok (.bipush 40, 2) := by decide +kernel
theorem dX12_init_130 : decode cX12_init 130 = .ok (.newarray .long, 2) := by decide +kernel
theorem dX12_init_132 : decode cX12_init 132 = .ok (.putfield 55, 3) := by decide +kernel
theorem dX12_init_135 : decode cX12_init 135 = .ok (.aload_n 0, 1) := by decide +kernel
theorem dX12_init_136 : decode cX12_init 136 = .ok (.bipush 42, 2) := by decide +kernel
theorem dX12_init_138 : decode cX12_init 138 = .ok (.newarray .long, 2) := by decide +kernel
theorem dX12_init_140 : decode cX12_init 140 = .ok (.putfield 59, 3) := by decide +kernel
theorem dX12_init_143 : decode cX12_init 143 = .ok (.aload_n 0, 1) := by decide +kernel
theorem dX12_init_144 : decode cX12_init 144 = .ok (.bipush 40, 2) := by decide +kernel
theorem dX12_init_146 : decode cX12_init 146 = .ok (.newarray .long, 2) := by decide +kernel
theorem dX12_init_148 : decode cX12_init 148 = .ok (.putfield 62, 3) := by decide +kernel
theorem dX12_init_151 : decode cX12_init 151 = .ok (.aload_n 0, 1) := by decide +kernel
theorem dX12_init_152 : decode cX12_init 152 = .ok (.bipush 40, 2) := by decide +kernel
theorem dX12_init_154 : decode cX12_init 154 = .ok (.newarray .long, 2) := by decide +kernel
theorem dX12_init_156 : decode cX12_init 156 = .ok (.putfield 65, 3) := by decide +kernel
theorem dX12_init_159 : decode cX12_init 159 = .ok (.aload_n 0, 1) := by decide +kernel
theorem dX12_init_160 : decode cX12_init 160 = .ok (.bipush 40, 2) := by decide +kernel
theorem dX12_init_162 : decode cX12_init 162 = .ok (.newarray .long, 2) := by decide +kernel
theorem dX12_init_164 : decode cX12_init 164 = .ok (.putfield 68, 3) := by decide +kernel
theorem dX12_init_167 : decode cX12_init 167 = .ok (.aload_n 0, 1) := by decide +kernel
theorem dX12_init_168 : decode cX12_init 168 = .ok (.sipush 5000, 3) := by decide +kernel
theorem dX12_init_171 : decode cX12_init 171 = .ok (.newarray .int, 2) := by decide +kernel
theorem dX12_init_173 : decode cX12_init 173 = .ok (.putfield 71, 3) := by decide +kernel
theorem dX12_init_176 : decode cX12_init 176 = .ok (.aload_n 0, 1) := by decide +kernel
theorem dX12_init_177 : decode cX12_init 177 = .ok (.iconst 3, 1) := by decide +kernel
theorem dX12_init_178 : decode cX12_init 178 = .ok (.newarray .boolean, 2) := by decide +kernel
theorem dX12_init_180 : decode cX12_init 180 = .ok (.putfield 74, 3) := by decide +kernel
theorem dX12_init_183 : decode cX12_init 183 = .ok (.return_, 1) := by decide +kernel
theorem dX12_thrown_0 : decode cX12_thrown 0 = .ok (.aload_n 0, 1) := by decide +kernel
theorem dX12_thrown_1 : decode cX12_thrown 1 = .ok (.getfield 78, 3) := by decide +kernel
theorem dX12_thrown_4 : decode cX12_thrown 4 = .ok (.ireturn, 1) := by decide +kernel
theorem dX12_part_0 : decode cX12_part 0 = .ok (.iload_n 2, 1) := by decide +kernel
theorem dX12_part_1 : decode cX12_part 1 = .ok (.newarray .int, 2) := by decide +kernel
theorem dX12_part_3 : decode cX12_part 3 = .ok (.astore_n 3, 1) := by decide +kernel
theorem dX12_part_4 : decode cX12_part 4 = .ok (.iconst 0, 1) := by decide +kernel
theorem dX12_part_5 : decode cX12_part 5 = .ok (.istore 4, 2) := by decide +kernel
theorem dX12_part_7 : decode cX12_part 7 = .ok (.iload 4, 2) := by decide +kernel
theorem dX12_part_9 : decode cX12_part 9 = .ok (.iload_n 2, 1) := by decide +kernel
theorem dX12_part_10 : decode cX12_part 10 = .ok (.if_icmp .ge 19, 3) := by decide +kernel
theorem dX12_part_13 : decode cX12_part 13 = .ok (.aload_n 3, 1) := by decide +kernel
theorem dX12_part_14 : decode cX12_part 14 = .ok (.iload 4, 2) := by decide +kernel
theorem dX12_part_16 : decode cX12_part 16 = .ok (.aload_n 0, 1) := by decide +kernel
theorem dX12_part_17 : decode cX12_part 17 = .ok (.iload_n 1, 1) := by decide +kernel
theorem dX12_part_18 : decode cX12_part 18 = .ok (.iload 4, 2) := by decide +kernel
theorem dX12_part_20 : decode cX12_part 20 = .ok (.iadd, 1) := by decide +kernel
theorem dX12_part_21 : decode cX12_part 21 = .ok (.iaload, 1) := by decide +kernel
theorem dX12_part_22 : decode cX12_part 22 = .ok (.iastore, 1) := by decide +kernel
theorem dX12_part_23 : decode cX12_part 23 = .ok (.iinc 4 1, 3) := by decide +kernel
theorem dX12_part_26 : decode cX12_part 26 = .ok (.goto (-19), 3) := by decide +kernel
theorem dX12_part_29 : decode cX12_part 29 = .ok (.aload_n 3, 1) := by decide +kernel
theorem dX12_part_30 : decode cX12_part 30 = .ok (.areturn, 1) := by decide +kernel
theorem dX12_number_0 : decode cX12_number 0 = .ok (.lconst 0, 1) := by decide +kernel
theorem dX12_number_1 : decode cX12_number 1 = .ok (.lstore_n 3, 1) := by decide +kernel
theorem dX12_number_2 : decode cX12_number 2 = .ok (.iconst 0, 1) := by decide +kernel
theorem dX12_number_3 : decode cX12_number 3 = .ok (.istore 5, 2) := by decide +kernel
theorem dX12_number_5 : decode cX12_number 5 = .ok (.iload 5, 2) := by decide +kernel
theorem dX12_number_7 : decode cX12_number 7 = .ok (.iload_n 2, 1) := by decide +kernel
theorem dX12_number_8 : decode cX12_number 8 = .ok (.if_icmp .ge 23, 3) := by decide +kernel
theorem dX12_number_11 : decode cX12_number 11 = .ok (.lload_n 3, 1) := by decide +kernel
theorem dX12_number_12 : decode cX12_number 12 = .ok (.ldc2_w 82, 3) := by decide +kernel
theorem dX12_number_15 : decode cX12_number 15 = .ok (.lmul, 1) := by decide +kernel
theorem dX12_number_16 : decode cX12_number 16 = .ok (.aload_n 0, 1) := by decide +kernel
theorem dX12_number_17 : decode cX12_number 17 = .ok (.iload_n 1, 1) := by decide +kernel
theorem dX12_number_18 : decode cX12_number 18 = .ok (.iload 5, 2) := by decide +kernel
theorem dX12_number_20 : decode cX12_number 20 = .ok (.iadd, 1) := by decide +kernel
theorem dX12_number_21 : decode cX12_number 21 = .ok (.iaload, 1) := by decide +kernel
theorem dX12_number_22 : decode cX12_number 22 = .ok (.i2l, 1) := by decide +kernel
theorem dX12_number_23 : decode cX12_number 23 = .ok (.ladd, 1) := by decide +kernel
theorem dX12_number_24 : decode cX12_number 24 = .ok (.lstore_n 3, 1) := by decide +kernel
theorem dX12_number_25 : decode cX12_number 25 = .ok (.iinc 5 1, 3) := by decide +kernel
theorem dX12_number_28 : decode cX12_number 28 = .ok (.goto (-23), 3) := by decide +kernel
theorem dX12_number_31 : decode cX12_number 31 = .ok (.lload_n 3, 1) := by decide +kernel
theorem dX12_number_32 : decode cX12_number 32 = .ok (.lreturn, 1) := by decide +kernel
theorem dX12_add_0 : decode cX12_add 0 = .ok (.aload_n 0, 1) := by decide +kernel
theorem dX12_add_1 : decode cX12_add 1 = .ok (.iconst 0, 1) := by decide +kernel
theorem dX12_add_2 : decode cX12_add 2 = .ok (.putfield 78, 3) := by decide +kernel
theorem dX12_add_5 : decode cX12_add 5 = .ok (.iload_n 3, 1) := by decide +kernel
theorem dX12_add_6 : decode cX12_add 6 = .ok (.iconst 1, 1) := by decide +kernel
theorem dX12_add_7 : decode cX12_add 7 = .ok (.if_icmp .lt 21, 3) := by decide +kernel
theorem dX12_add_10 : decode cX12_add 10 = .ok (.iload_n 3, 1) := by decide +kernel
theorem dX12_add_11 : decode cX12_add 11 = .ok (.bipush 8, 2) := by decide +kernel
theorem dX12_add_13 : decode cX12_add 13 = .ok (.if_icmp .gt 15, 3) := by decide +kernel
theorem dX12_add_16 : decode cX12_add 16 = .ok (.aload_n 0, 1) := by decide +kernel
theorem dX12_add_17 : decode cX12_add 17 = .ok (.getfield 84, 3) := by decide +kernel
theorem dX12_add_20 : decode cX12_add 20 = .ok (.iload_n 3, 1) := by decide +kernel
theorem dX12_add_21 : decode cX12_add 21 = .ok (.iadd, 1) := by decide +kernel
theorem dX12_add_22 : decode cX12_add 22 = .ok (.sipush 4096, 3) := by decide +kernel
theorem dX12_add_25 : decode cX12_add 25 = .ok (.if_icmp .le 5, 3) := by decide +kernel
theorem dX12_add_28 : decode cX12_add 28 = .ok (.iconst 0, 1) := by decide +kernel
theorem dX12_add_29 : decode cX12_add 29 = .ok (.ireturn, 1) := by decide +kernel
theorem dX12_add_30 : decode cX12_add 30 = .ok (.iconst 0, 1) := by decide +kernel
theorem dX12_add_31 : decode cX12_add 31 = .ok (.istore 4, 2) := by decide +kernel
theorem dX12_add_33 : decode cX12_add 33 = .ok (.iload 4, 2) := by decide +kernel
theorem dX12_add_35 : decode cX12_add 35 = .ok (.iload_n 3, 1) := by decide +kernel
theorem dX12_add_36 : decode cX12_add 36 = .ok (.if_icmp .ge 40, 3) := by decide +kernel
theorem dX12_add_39 : decode cX12_add 39 = .ok (.aload_n 0, 1) := by decide +kernel
theorem dX12_add_40 : decode cX12_add 40 = .ok (.getfield 7, 3) := by decide +kernel
theorem dX12_add_43 : decode cX12_add 43 = .ok (.aload_n 0, 1) := by decide +kernel
theorem dX12_add_44 : decode cX12_add 44 = .ok (.getfield 84, 3) := by decide +kernel
theorem dX12_add_47 : decode cX12_add 47 = .ok (.lload_n 1, 1) := by decide +kernel
theorem dX12_add_48 : decode cX12_add 48 = .ok (.bipush 8, 2) := by decide +kernel
theorem dX12_add_50 : decode cX12_add 50 = .ok (.iload 4, 2) := by decide +kernel
theorem dX12_add_52 : decode cX12_add 52 = .ok (.imul, 1) := by decide +kernel
theorem dX12_add_53 : decode cX12_add 53 = .ok (.lshr, 1) := by decide +kernel
theorem dX12_add_54 : decode cX12_add 54 = .ok (.ldc2_w 87, 3) := by decide +kernel
theorem dX12_add_57 : decode cX12_add 57 = .ok (.land, 1) := by decide +kernel
theorem dX12_add_58 : decode cX12_add 58 = .ok (.l2i, 1) := by decide +kernel
theorem dX12_add_59 : decode cX12_add 59 = .ok (.iastore, 1) := by decide +kernel
theorem dX12_add_60 : decode cX12_add 60 = .ok (.aload_n 0, 1) := by decide +kernel
theorem dX12_add_61 : decode cX12_add 61 = .ok (.dup, 1) := by decide +kernel
theorem dX12_add_62 : decode cX12_add 62 = .ok (.getfield 84, 3) := by decide +kernel
theorem dX12_add_65 : decode cX12_add 65 = .ok (.iconst 1, 1) := by decide +kernel
theorem dX12_add_66 : decode cX12_add 66 = .ok (.iadd, 1) := by decide +kernel
theorem dX12_add_67 : decode cX12_add 67 = .ok (.putfield 84, 3) := by decide +kernel
theorem dX12_add_70 : decode cX12_add 70 = .ok (.iinc 4 1, 3) := by decide +kernel
theorem dX12_add_73 : decode cX12_add 73 = .ok (.goto (-40), 3) := by decide +kernel
theorem dX12_add_76 : decode cX12_add 76 = .ok (.iconst 1, 1) := by decide +kernel
theorem dX12_add_77 : decode cX12_add 77 = .ok (.ireturn, 1) := by decide +kernel
theorem dX12_taken_0 : decode cX12_taken 0 = .ok (.aload_n 0, 1) := by decide +kernel
theorem dX12_taken_1 : decode cX12_taken 1 = .ok (.getfield 7, 3) := by decide +kernel
theorem dX12_taken_4 : decode cX12_taken 4 = .ok (.iconst 0, 1) := by decide +kernel
theorem dX12_taken_5 : decode cX12_taken 5 = .ok (.aload_n 0, 1) := by decide +kernel
theorem dX12_taken_6 : decode cX12_taken 6 = .ok (.getfield 84, 3) := by decide +kernel
theorem dX12_taken_9 : decode cX12_taken 9 = .ok (.invokestatic 89, 3) := by decide +kernel
theorem dX12_taken_12 : decode cX12_taken 12 = .ok (.astore_n 1, 1) := by decide +kernel
theorem dX12_taken_13 : decode cX12_taken 13 = .ok (.aload_n 0, 1) := by decide +kernel
theorem dX12_taken_14 : decode cX12_taken 14 = .ok (.iconst 0, 1) := by decide +kernel
theorem dX12_taken_15 : decode cX12_taken 15 = .ok (.putfield 84, 3) := by decide +kernel
theorem dX12_taken_18 : decode cX12_taken 18 = .ok (.aload_n 1, 1) := by decide +kernel
theorem dX12_taken_19 : decode cX12_taken 19 = .ok (.areturn, 1) := by decide +kernel
theorem dX12_say_0 : decode cX12_say 0 = .ok (.aload_n 0, 1) := by decide +kernel
theorem dX12_say_1 : decode cX12_say 1 = .ok (.getfield 40, 3) := by decide +kernel
theorem dX12_say_4 : decode cX12_say 4 = .ok (.aload_n 0, 1) := by decide +kernel
theorem dX12_say_5 : decode cX12_say 5 = .ok (.getfield 93, 3) := by decide +kernel
theorem dX12_say_8 : decode cX12_say 8 = .ok (.iload_n 1, 1) := by decide +kernel
theorem dX12_say_9 : decode cX12_say 9 = .ok (.sipush 255, 3) := by decide +kernel
theorem dX12_say_12 : decode cX12_say 12 = .ok (.iand, 1) := by decide +kernel
theorem dX12_say_13 : decode cX12_say 13 = .ok (.iastore, 1) := by decide +kernel
theorem dX12_say_14 : decode cX12_say 14 = .ok (.aload_n 0, 1) := by decide +kernel
theorem dX12_say_15 : decode cX12_say 15 = .ok (.dup, 1) := by decide +kernel
theorem dX12_say_16 : decode cX12_say 16 = .ok (.getfield 93, 3) := by decide +kernel
theorem dX12_say_19 : decode cX12_say 19 = .ok (.iconst 1, 1) := by decide +kernel
theorem dX12_say_20 : decode cX12_say 20 = .ok (.iadd, 1) := by decide +kernel
theorem dX12_say_21 : decode cX12_say 21 = .ok (.putfield 93, 3) := by decide +kernel
theorem dX12_say_24 : decode cX12_say 24 = .ok (.return_, 1) := by decide +kernel
theorem dX12_sayRow_0 : decode cX12_sayRow 0 = .ok (.iload_n 2, 1) := by decide +kernel
theorem dX12_sayRow_1 : decode cX12_sayRow 1 = .ok (.istore 4, 2) := by decide +kernel
theorem dX12_sayRow_3 : decode cX12_sayRow 3 = .ok (.iload 4, 2) := by decide +kernel
theorem dX12_sayRow_5 : decode cX12_sayRow 5 = .ok (.iload_n 3, 1) := by decide +kernel
theorem dX12_sayRow_6 : decode cX12_sayRow 6 = .ok (.if_icmp .ge 17, 3) := by decide +kernel
theorem dX12_sayRow_9 : decode cX12_sayRow 9 = .ok (.aload_n 0, 1) := by decide +kernel
theorem dX12_sayRow_10 : decode cX12_sayRow 10 = .ok (.aload_n 1, 1) := by decide +kernel
theorem dX12_sayRow_11 : decode cX12_sayRow 11 = .ok (.iload 4, 2) := by decide +kernel
theorem dX12_sayRow_13 : decode cX12_sayRow 13 = .ok (.iaload, 1) := by decide +kernel
theorem dX12_sayRow_14 : decode cX12_sayRow 14 = .ok (.invokevirtual 96, 3) := by decide +kernel
theorem dX12_sayRow_17 : decode cX12_sayRow 17 = .ok (.iinc 4 1, 3) := by decide +kernel
theorem dX12_sayRow_20 : decode cX12_sayRow 20 = .ok (.goto (-17), 3) := by decide +kernel
theorem dX12_sayRow_23 : decode cX12_sayRow 23 = .ok (.return_, 1) := by decide +kernel
theorem dX12_sayNumber_0 : decode cX12_sayNumber 0 = .ok (.iload_n 3, 1) := by decide +kernel
theorem dX12_sayNumber_1 : decode cX12_sayNumber 1 = .ok (.iconst 1, 1) := by decide +kernel
theorem dX12_sayNumber_2 : decode cX12_sayNumber 2 = .ok (.isub, 1) := by decide +kernel
theorem dX12_sayNumber_3 : decode cX12_sayNumber 3 = .ok (.istore 4, 2) := by decide +kernel
theorem dX12_sayNumber_5 : decode cX12_sayNumber 5 = .ok (.iload 4, 2) := by decide +kernel
theorem dX12_sayNumber_7 : decode cX12_sayNumber 7 = .ok (.ifCond .lt 25, 3) := by decide +kernel
theorem dX12_sayNumber_10 : decode cX12_sayNumber 10 = .ok (.aload_n 0, 1) := by decide +kernel
theorem dX12_sayNumber_11 : decode cX12_sayNumber 11 = .ok (.lload_n 1, 1) := by decide +kernel
theorem dX12_sayNumber_12 : decode cX12_sayNumber 12 = .ok (.bipush 8, 2) := by decide +kernel
theorem dX12_sayNumber_14 : decode cX12_sayNumber 14 = .ok (.iload 4, 2) := by decide +kernel
theorem dX12_sayNumber_16 : decode cX12_sayNumber 16 = .ok (.imul, 1) := by decide +kernel
theorem dX12_sayNumber_17 : decode cX12_sayNumber 17 = .ok (.lshr, 1) := by decide +kernel
theorem dX12_sayNumber_18 : decode cX12_sayNumber 18 = .ok (.ldc2_w 87, 3) := by decide +kernel
theorem dX12_sayNumber_21 : decode cX12_sayNumber 21 = .ok (.land, 1) := by decide +kernel
theorem dX12_sayNumber_22 : decode cX12_sayNumber 22 = .ok (.l2i, 1) := by decide +kernel
theorem dX12_sayNumber_23 : decode cX12_sayNumber 23 = .ok (.invokevirtual 96, 3) := by decide +kernel
theorem dX12_sayNumber_26 : decode cX12_sayNumber 26 = .ok (.iinc 4 (-1), 3) := by decide +kernel
theorem dX12_sayNumber_29 : decode cX12_sayNumber 29 = .ok (.goto (-24), 3) := by decide +kernel
theorem dX12_sayNumber_32 : decode cX12_sayNumber 32 = .ok (.return_, 1) := by decide +kernel
theorem dX12_left_0 : decode cX12_left 0 = .ok (.iload_n 0, 1) := by decide +kernel
theorem dX12_left_1 : decode cX12_left 1 = .ok (.iload_n 1, 1) := by decide +kernel
theorem dX12_left_2 : decode cX12_left 2 = .ok (.ishl, 1) := by decide +kernel
theorem dX12_left_3 : decode cX12_left 3 = .ok (.iload_n 0, 1) := by decide +kernel
theorem dX12_left_4 : decode cX12_left 4 = .ok (.bipush 32, 2) := by decide +kernel
theorem dX12_left_6 : decode cX12_left 6 = .ok (.iload_n 1, 1) := by decide +kernel
theorem dX12_left_7 : decode cX12_left 7 = .ok (.isub, 1) := by decide +kernel
theorem dX12_left_8 : decode cX12_left 8 = .ok (.iushr, 1) := by decide +kernel
theorem dX12_left_9 : decode cX12_left 9 = .ok (.ior, 1) := by decide +kernel
theorem dX12_left_10 : decode cX12_left 10 = .ok (.ireturn, 1) := by decide +kernel
theorem dX12_close_0 : decode cX12_close 0 = .ok (.ldc2_w 100, 3) := by decide +kernel
theorem dX12_close_3 : decode cX12_close 3 = .ok (.aload_n 0, 1) := by decide +kernel
theorem dX12_close_4 : decode cX12_close 4 = .ok (.getfield 93, 3) := by decide +kernel
theorem dX12_close_7 : decode cX12_close 7 = .ok (.i2l, 1) := by decide +kernel
theorem dX12_close_8 : decode cX12_close 8 = .ok (.lmul, 1) := by decide +kernel
theorem dX12_close_9 : decode cX12_close 9 = .ok (.lstore_n 1, 1) := by decide +kernel
theorem dX12_close_10 : decode cX12_close 10 = .ok (.aload_n 0, 1) := by decide +kernel
theorem dX12_close_11 : decode cX12_close 11 = .ok (.sipush 128, 3) := by decide +kernel
theorem dX12_close_14 : decode cX12_close 14 = .ok (.invokevirtual 96, 3) := by decide +kernel
theorem dX12_close_17 : decode cX12_close 17 = .ok (.aload_n 0, 1) := by decide +kernel
theorem dX12_close_18 : decode cX12_close 18 = .ok (.getfield 93, 3) := by decide +kernel
theorem dX12_close_21 : decode cX12_close 21 = .ok (.bipush 64, 2) := by decide +kernel
theorem dX12_close_23 : decode cX12_close 23 = .ok (.irem, 1) := by decide +kernel
theorem dX12_close_24 : decode cX12_close 24 = .ok (.bipush 56, 2) := by decide +kernel
theorem dX12_close_26 : decode cX12_close 26 = .ok (.if_icmp .eq 11, 3) := by decide +kernel
theorem dX12_close_29 : decode cX12_close 29 = .ok (.aload_n 0, 1) := by decide +kernel
theorem dX12_close_30 : decode cX12_close 30 = .ok (.iconst 0, 1) := by decide +kernel
theorem dX12_close_31 : decode cX12_close 31 = .ok (.invokevirtual 96, 3) := by decide +kernel
theorem dX12_close_34 : decode cX12_close 34 = .ok (.goto (-17), 3) := by decide +kernel
theorem dX12_close_37 : decode cX12_close 37 = .ok (.aload_n 0, 1) := by decide +kernel
theorem dX12_close_38 : decode cX12_close 38 = .ok (.lload_n 1, 1) := by decide +kernel
theorem dX12_close_39 : decode cX12_close 39 = .ok (.bipush 8, 2) := by decide +kernel
theorem dX12_close_41 : decode cX12_close 41 = .ok (.invokevirtual 102, 3) := by decide +kernel
theorem dX12_close_44 : decode cX12_close 44 = .ok (.aload_n 0, 1) := by decide +kernel
theorem dX12_close_45 : decode cX12_close 45 = .ok (.getfield 93, 3) := by decide +kernel
theorem dX12_close_48 : decode cX12_close 48 = .ok (.bipush 64, 2) := by decide +kernel
theorem dX12_close_50 : decode cX12_close 50 = .ok (.idiv, 1) := by decide +kernel
theorem dX12_close_51 : decode cX12_close 51 = .ok (.ireturn, 1) := by decide +kernel
theorem dX12_keep_0 : decode cX12_keep 0 = .ok (.iconst 0, 1) := by decide +kernel
theorem dX12_keep_1 : decode cX12_keep 1 = .ok (.istore_n 3, 1) := by decide +kernel
theorem dX12_keep_2 : decode cX12_keep 2 = .ok (.iload_n 3, 1) := by decide +kernel
theorem dX12_keep_3 : decode cX12_keep 3 = .ok (.iconst 4, 1) := by decide +kernel
theorem dX12_keep_4 : decode cX12_keep 4 = .ok (.if_icmp .ge 32, 3) := by decide +kernel
theorem dX12_keep_7 : decode cX12_keep 7 = .ok (.aload_n 0, 1) := by decide +kernel
theorem dX12_keep_8 : decode cX12_keep 8 = .ok (.getfield 43, 3) := by decide +kernel
theorem dX12_keep_11 : decode cX12_keep 11 = .ok (.iconst 4, 1) := by decide +kernel
theorem dX12_keep_12 : decode cX12_keep 12 = .ok (.iload_n 1, 1) := by decide +kernel
theorem dX12_keep_13 : decode cX12_keep 13 = .ok (.imul, 1) := by decide +kernel
theorem dX12_keep_14 : decode cX12_keep 14 = .ok (.iload_n 3, 1) := by decide +kernel
theorem dX12_keep_15 : decode cX12_keep 15 = .ok (.iadd, 1) := by decide +kernel
theorem dX12_keep_16 : decode cX12_keep 16 = .ok (.iload_n 2, 1) := by decide +kernel
theorem dX12_keep_17 : decode cX12_keep 17 = .ok (.bipush 24, 2) := by decide +kernel
theorem dX12_keep_19 : decode cX12_keep 19 = .ok (.bipush 8, 2) := by decide +kernel
theorem dX12_keep_21 : decode cX12_keep 21 = .ok (.iload_n 3, 1) := by decide +kernel
theorem dX12_keep_22 : decode cX12_keep 22 = .ok (.imul, 1) := by decide +kernel
theorem dX12_keep_23 : decode cX12_keep 23 = .ok (.isub, 1) := by decide +kernel
theorem dX12_keep_24 : decode cX12_keep 24 = .ok (.iushr, 1) := by decide +kernel
theorem dX12_keep_25 : decode cX12_keep 25 = .ok (.sipush 255, 3) := by decide +kernel
theorem dX12_keep_28 : decode cX12_keep 28 = .ok (.iand, 1) := by decide +kernel
theorem dX12_keep_29 : decode cX12_keep 29 = .ok (.iastore, 1) := by decide +kernel
theorem dX12_keep_30 : decode cX12_keep 30 = .ok (.iinc 3 1, 3) := by decide +kernel
theorem dX12_keep_33 : decode cX12_keep 33 = .ok (.goto (-31), 3) := by decide +kernel
theorem dX12_keep_36 : decode cX12_keep 36 = .ok (.return_, 1) := by decide +kernel
theorem dX12_firstHash_0 : decode cX12_firstHash 0 = .ok (.aload_n 0, 1) := by decide +kernel
theorem dX12_firstHash_1 : decode cX12_firstHash 1 = .ok (.invokevirtual 106, 3) := by decide +kernel
theorem dX12_firstHash_4 : decode cX12_firstHash 4 = .ok (.istore_n 1, 1) := by decide +kernel
theorem dX12_firstHash_5 : decode cX12_firstHash 5 = .ok (.ldc 110, 2) := by decide +kernel
theorem dX12_firstHash_7 : decode cX12_firstHash 7 = .ok (.istore_n 2, 1) := by decide +kernel
theorem dX12_firstHash_8 : decode cX12_firstHash 8 = .ok (.ldc 111, 2) := by decide +kernel
theorem dX12_firstHash_10 : decode cX12_firstHash 10 = .ok (.istore_n 3, 1) := by decide +kernel
theorem dX12_firstHash_11 : decode cX12_firstHash 11 = .ok (.ldc 112, 2) := by decide +kernel
theorem dX12_firstHash_13 : decode cX12_firstHash 13 = .ok (.istore 4, 2) := by decide +kernel
theorem dX12_firstHash_15 : decode cX12_firstHash 15 = .ok (.ldc 113, 2) := by decide +kernel
theorem dX12_firstHash_17 : decode cX12_firstHash 17 = .ok (.istore 5, 2) := by decide +kernel
theorem dX12_firstHash_19 : decode cX12_firstHash 19 = .ok (.ldc 114, 2) := by decide +kernel
theorem dX12_firstHash_21 : decode cX12_firstHash 21 = .ok (.istore 6, 2) := by decide +kernel
theorem dX12_firstHash_23 : decode cX12_firstHash 23 = .ok (.iconst 0, 1) := by decide +kernel
theorem dX12_firstHash_24 : decode cX12_firstHash 24 = .ok (.istore 7, 2) := by decide +kernel
theorem dX12_firstHash_26 : decode cX12_firstHash 26 = .ok (.iload 7, 2) := by decide +kernel
theorem dX12_firstHash_28 : decode cX12_firstHash 28 = .ok (.iload_n 1, 1) := by decide +kernel
theorem dX12_firstHash_29 : decode cX12_firstHash 29 = .ok (.if_icmp .ge 319, 3) := by decide +kernel
theorem dX12_firstHash_32 : decode cX12_firstHash 32 = .ok (.iload_n 2, 1) := by decide +kernel
theorem dX12_firstHash_33 : decode cX12_firstHash 33 = .ok (.istore 8, 2) := by decide +kernel
theorem dX12_firstHash_35 : decode cX12_firstHash 35 = .ok (.iload_n 3, 1) := by decide +kernel
theorem dX12_firstHash_36 : decode cX12_firstHash 36 = .ok (.istore 9, 2) := by decide +kernel
theorem dX12_firstHash_38 : decode cX12_firstHash 38 = .ok (.iload 4, 2) := by decide +kernel
theorem dX12_firstHash_40 : decode cX12_firstHash 40 = .ok (.istore 10, 2) := by decide +kernel
theorem dX12_firstHash_42 : decode cX12_firstHash 42 = .ok (.iload 5, 2) := by decide +kernel
theorem dX12_firstHash_44 : decode cX12_firstHash 44 = .ok (.istore 11, 2) := by decide +kernel
theorem dX12_firstHash_46 : decode cX12_firstHash 46 = .ok (.iload 6, 2) := by decide +kernel
theorem dX12_firstHash_48 : decode cX12_firstHash 48 = .ok (.istore 12, 2) := by decide +kernel
theorem dX12_firstHash_50 : decode cX12_firstHash 50 = .ok (.iconst 0, 1) := by decide +kernel
theorem dX12_firstHash_51 : decode cX12_firstHash 51 = .ok (.istore 13, 2) := by decide +kernel
theorem dX12_firstHash_53 : decode cX12_firstHash 53 = .ok (.iload 13, 2) := by decide +kernel
theorem dX12_firstHash_55 : decode cX12_firstHash 55 = .ok (.bipush 80, 2) := by decide +kernel
theorem dX12_firstHash_57 : decode cX12_firstHash 57 = .ok (.if_icmp .ge 254, 3) := by decide +kernel
theorem dX12_firstHash_60 : decode cX12_firstHash 60 = .ok (.aload_n 0, 1) := by decide +kernel
theorem dX12_firstHash_61 : decode cX12_firstHash 61 = .ok (.getfield 46, 3) := by decide +kernel
theorem dX12_firstHash_64 : decode cX12_firstHash 64 = .ok (.iload 13, 2) := by decide +kernel
theorem dX12_firstHash_66 : decode cX12_firstHash 66 = .ok (.iload 13, 2) := by decide +kernel
theorem dX12_firstHash_68 : decode cX12_firstHash 68 = .ok (.bipush 16, 2) := by decide +kernel
theorem dX12_firstHash_70 : decode cX12_firstHash 70 = .ok (.if_icmp .ge 25, 3) := by decide +kernel
theorem dX12_firstHash_73 : decode cX12_firstHash 73 = .ok (.aload_n 0, 1) := by decide +kernel
theorem dX12_firstHash_74 : decode cX12_firstHash 74 = .ok (.getfield 40, 3) := by decide +kernel
theorem dX12_firstHash_77 : decode cX12_firstHash 77 = .ok (.bipush 64, 2) := by decide +kernel
theorem dX12_firstHash_79 : decode cX12_firstHash 79 = .ok (.iload 7, 2) := by decide +kernel
theorem dX12_firstHash_81 : decode cX12_firstHash 81 = .ok (.imul, 1) := by decide +kernel
theorem dX12_firstHash_82 : decode cX12_firstHash 82 = .ok (.iconst 4, 1) := by decide +kernel
theorem dX12_firstHash_83 : decode cX12_firstHash 83 = .ok (.iload 13, 2) := by decide +kernel
theorem dX12_firstHash_85 : decode cX12_firstHash 85 = .ok (.imul, 1) := by decide +kernel
theorem dX12_firstHash_86 : decode cX12_firstHash 86 = .ok (.iadd, 1) := by decide +kernel
theorem dX12_firstHash_87 : decode cX12_firstHash 87 = .ok (.iconst 4, 1) := by decide +kernel
theorem dX12_firstHash_88 : decode cX12_firstHash 88 = .ok (.invokestatic 115, 3) := by decide +kernel
theorem dX12_firstHash_91 : decode cX12_firstHash 91 = .ok (.l2i, 1) := by decide +kernel
theorem dX12_firstHash_92 : decode cX12_firstHash 92 = .ok (.goto 49, 3) := by decide +kernel
theorem dX12_firstHash_95 : decode cX12_firstHash 95 = .ok (.aload_n 0, 1) := by decide +kernel
theorem dX12_firstHash_96 : decode cX12_firstHash 96 = .ok (.getfield 46, 3) := by decide +kernel
theorem dX12_firstHash_99 : decode cX12_firstHash 99 = .ok (.iload 13, 2) := by decide +kernel
theorem dX12_firstHash_101 : decode cX12_firstHash 101 = .ok (.iconst 3, 1) := by decide +kernel
theorem dX12_firstHash_102 : decode cX12_firstHash 102 = .ok (.isub, 1) := by decide +kernel
theorem dX12_firstHash_103 : decode cX12_firstHash 103 = .ok (.iaload, 1) := by decide +kernel
theorem dX12_firstHash_104 : decode cX12_firstHash 104 = .ok (.aload_n 0, 1) := by decide +kernel
theorem dX12_firstHash_105 : decode cX12_firstHash 105 = .ok (.getfield 46, 3) := by decide +kernel
theorem dX12_firstHash_108 : decode cX12_firstHash 108 = .ok (.iload 13, 2) := by decide +kernel
theorem dX12_firstHash_110 : decode cX12_firstHash 110 = .ok (.bipush 8, 2) := by decide +kernel
theorem dX12_firstHash_112 : decode cX12_firstHash 112 = .ok (.isub, 1) := by decide +kernel
theorem dX12_firstHash_113 : decode cX12_firstHash 113 = .ok (.iaload, 1) := by decide +kernel
theorem dX12_firstHash_114 : decode cX12_firstHash 114 = .ok (.ixor, 1) := by decide +kernel
theorem dX12_firstHash_115 : decode cX12_firstHash 115 = .ok (.aload_n 0, 1) := by decide +kernel
theorem dX12_firstHash_116 : decode cX12_firstHash 116 = .ok (.getfield 46, 3) := by decide +kernel
theorem dX12_firstHash_119 : decode cX12_firstHash 119 = .ok (.iload 13, 2) := by decide +kernel
theorem dX12_firstHash_121 : decode cX12_firstHash 121 = .ok (.bipush 14, 2) := by decide +kernel
theorem dX12_firstHash_123 : decode cX12_firstHash 123 = .ok (.isub, 1) := by decide +kernel
theorem dX12_firstHash_124 : decode cX12_firstHash 124 = .ok (.iaload, 1) := by decide +kernel
theorem dX12_firstHash_125 : decode cX12_firstHash 125 = .ok (.ixor, 1) := by decide +kernel
theorem dX12_firstHash_126 : decode cX12_firstHash 126 = .ok (.aload_n 0, 1) := by decide +kernel
theorem dX12_firstHash_127 : decode cX12_firstHash 127 = .ok (.getfield 46, 3) := by decide +kernel
theorem dX12_firstHash_130 : decode cX12_firstHash 130 = .ok (.iload 13, 2) := by decide +kernel
theorem dX12_firstHash_132 : decode cX12_firstHash 132 = .ok (.bipush 16, 2) := by decide +kernel
theorem dX12_firstHash_134 : decode cX12_firstHash 134 = .ok (.isub, 1) := by decide +kernel
theorem dX12_firstHash_135 : decode cX12_firstHash 135 = .ok (.iaload, 1) := by decide +kernel
theorem dX12_firstHash_136 : decode cX12_firstHash 136 = .ok (.ixor, 1) := by decide +kernel
theorem dX12_firstHash_137 : decode cX12_firstHash 137 = .ok (.iconst 1, 1) := by decide +kernel
theorem dX12_firstHash_138 : decode cX12_firstHash 138 = .ok (.invokestatic 119, 3) := by decide +kernel
theorem dX12_firstHash_141 : decode cX12_firstHash 141 = .ok (.iastore, 1) := by decide +kernel
theorem dX12_firstHash_142 : decode cX12_firstHash 142 = .ok (.iload 13, 2) := by decide +kernel
theorem dX12_firstHash_144 : decode cX12_firstHash 144 = .ok (.bipush 20, 2) := by decide +kernel
theorem dX12_firstHash_146 : decode cX12_firstHash 146 = .ok (.if_icmp .ge 17, 3) := by decide +kernel
theorem dX12_firstHash_149 : decode cX12_firstHash 149 = .ok (.iload 11, 2) := by decide +kernel
theorem dX12_firstHash_151 : decode cX12_firstHash 151 = .ok (.iload 9, 2) := by decide +kernel
theorem dX12_firstHash_153 : decode cX12_firstHash 153 = .ok (.iload 10, 2) := by decide +kernel
theorem dX12_firstHash_155 : decode cX12_firstHash 155 = .ok (.iload 11, 2) := by decide +kernel
theorem dX12_firstHash_157 : decode cX12_firstHash 157 = .ok (.ixor, 1) := by decide +kernel
theorem dX12_firstHash_158 : decode cX12_firstHash 158 = .ok (.iand, 1) := by decide +kernel
theorem dX12_firstHash_159 : decode cX12_firstHash 159 = .ok (.ixor, 1) := by decide +kernel
theorem dX12_firstHash_160 : decode cX12_firstHash 160 = .ok (.goto 53, 3) := by decide +kernel
theorem dX12_firstHash_163 : decode cX12_firstHash 163 = .ok (.iload 13, 2) := by decide +kernel
theorem dX12_firstHash_165 : decode cX12_firstHash 165 = .ok (.bipush 40, 2) := by decide +kernel
theorem dX12_firstHash_167 : decode cX12_firstHash 167 = .ok (.if_icmp .ge 14, 3) := by decide +kernel
theorem dX12_firstHash_170 : decode cX12_firstHash 170 = .ok (.iload 9, 2) := by decide +kernel
theorem dX12_firstHash_172 : decode cX12_firstHash 172 = .ok (.iload 10, 2) := by decide +kernel
theorem dX12_firstHash_174 : decode cX12_firstHash 174 = .ok (.ixor, 1) := by decide +kernel
theorem dX12_firstHash_175 : decode cX12_firstHash 175 = .ok (.iload 11, 2) := by decide +kernel
theorem dX12_firstHash_177 : decode cX12_firstHash 177 = .ok (.ixor, 1) := by decide +kernel
theorem dX12_firstHash_178 : decode cX12_firstHash 178 = .ok (.goto 35, 3) := by decide +kernel
theorem dX12_firstHash_181 : decode cX12_firstHash 181 = .ok (.iload 13, 2) := by decide +kernel
theorem dX12_firstHash_183 : decode cX12_firstHash 183 = .ok (.bipush 60, 2) := by decide +kernel
theorem dX12_firstHash_185 : decode cX12_firstHash 185 = .ok (.if_icmp .ge 20, 3) := by decide +kernel
theorem dX12_firstHash_188 : decode cX12_firstHash 188 = .ok (.iload 9, 2) := by decide +kernel
theorem dX12_firstHash_190 : decode cX12_firstHash 190 = .ok (.iload 10, 2) := by decide +kernel
theorem dX12_firstHash_192 : decode cX12_firstHash 192 = .ok (.iand, 1) := by decide +kernel
theorem dX12_firstHash_193 : decode cX12_firstHash 193 = .ok (.iload 11, 2) := by decide +kernel
theorem dX12_firstHash_195 : decode cX12_firstHash 195 = .ok (.iload 9, 2) := by decide +kernel
theorem dX12_firstHash_197 : decode cX12_firstHash 197 = .ok (.iload 10, 2) := by decide +kernel
theorem dX12_firstHash_199 : decode cX12_firstHash 199 = .ok (.ior, 1) := by decide +kernel
theorem dX12_firstHash_200 : decode cX12_firstHash 200 = .ok (.iand, 1) := by decide +kernel
theorem dX12_firstHash_201 : decode cX12_firstHash 201 = .ok (.ior, 1) := by decide +kernel
theorem dX12_firstHash_202 : decode cX12_firstHash 202 = .ok (.goto 11, 3) := by decide +kernel
theorem dX12_firstHash_205 : decode cX12_firstHash 205 = .ok (.iload 9, 2) := by decide +kernel
theorem dX12_firstHash_207 : decode cX12_firstHash 207 = .ok (.iload 10, 2) := by decide +kernel
theorem dX12_firstHash_209 : decode cX12_firstHash 209 = .ok (.ixor, 1) := by decide +kernel
theorem dX12_firstHash_210 : decode cX12_firstHash 210 = .ok (.iload 11, 2) := by decide +kernel
theorem dX12_firstHash_212 : decode cX12_firstHash 212 = .ok (.ixor, 1) := by decide +kernel
theorem dX12_firstHash_213 : decode cX12_firstHash 213 = .ok (.istore 14, 2) := by decide +kernel
theorem dX12_firstHash_215 : decode cX12_firstHash 215 = .ok (.iload 13, 2) := by decide +kernel
theorem dX12_firstHash_217 : decode cX12_firstHash 217 = .ok (.bipush 20, 2) := by decide +kernel
theorem dX12_firstHash_219 : decode cX12_firstHash 219 = .ok (.if_icmp .ge 8, 3) := by decide +kernel
theorem dX12_firstHash_222 : decode cX12_firstHash 222 = .ok (.ldc 123, 2) := by decide +kernel
theorem dX12_firstHash_224 : decode cX12_firstHash 224 = .ok (.goto 29, 3) := by decide +kernel
theorem dX12_firstHash_227 : decode cX12_firstHash 227 = .ok (.iload 13, 2) := by decide +kernel
theorem dX12_firstHash_229 : decode cX12_firstHash 229 = .ok (.bipush 40, 2) := by decide +kernel
theorem dX12_firstHash_231 : decode cX12_firstHash 231 = .ok (.if_icmp .ge 8, 3) := by decide +kernel
theorem dX12_firstHash_234 : decode cX12_firstHash 234 = .ok (.ldc 124, 2) := by decide +kernel
theorem dX12_firstHash_236 : decode cX12_firstHash 236 = .ok (.goto 17, 3) := by decide +kernel
theorem dX12_firstHash_239 : decode cX12_firstHash 239 = .ok (.iload 13, 2) := by decide +kernel
theorem dX12_firstHash_241 : decode cX12_firstHash 241 = .ok (.bipush 60, 2) := by decide +kernel
theorem dX12_firstHash_243 : decode cX12_firstHash 243 = .ok (.if_icmp .ge 8, 3) := by decide +kernel
theorem dX12_firstHash_246 : decode cX12_firstHash 246 = .ok (.ldc 125, 2) := by decide +kernel
theorem dX12_firstHash_248 : decode cX12_firstHash 248 = .ok (.goto 5, 3) := by decide +kernel
theorem dX12_firstHash_251 : decode cX12_firstHash 251 = .ok (.ldc 126, 2) := by decide +kernel
theorem dX12_firstHash_253 : decode cX12_firstHash 253 = .ok (.istore 15, 2) := by decide +kernel
theorem dX12_firstHash_255 : decode cX12_firstHash 255 = .ok (.iload 8, 2) := by decide +kernel
theorem dX12_firstHash_257 : decode cX12_firstHash 257 = .ok (.iconst 5, 1) := by decide +kernel
theorem dX12_firstHash_258 : decode cX12_firstHash 258 = .ok (.invokestatic 119, 3) := by decide +kernel
theorem dX12_firstHash_261 : decode cX12_firstHash 261 = .ok (.iload 14, 2) := by decide +kernel
theorem dX12_firstHash_263 : decode cX12_firstHash 263 = .ok (.iadd, 1) := by decide +kernel
theorem dX12_firstHash_264 : decode cX12_firstHash 264 = .ok (.iload 12, 2) := by decide +kernel
theorem dX12_firstHash_266 : decode cX12_firstHash 266 = .ok (.iadd, 1) := by decide +kernel
theorem dX12_firstHash_267 : decode cX12_firstHash 267 = .ok (.iload 15, 2) := by decide +kernel
theorem dX12_firstHash_269 : decode cX12_firstHash 269 = .ok (.iadd, 1) := by decide +kernel
theorem dX12_firstHash_270 : decode cX12_firstHash 270 = .ok (.aload_n 0, 1) := by decide +kernel
theorem dX12_firstHash_271 : decode cX12_firstHash 271 = .ok (.getfield 46, 3) := by decide +kernel
theorem dX12_firstHash_274 : decode cX12_firstHash 274 = .ok (.iload 13, 2) := by decide +kernel
theorem dX12_firstHash_276 : decode cX12_firstHash 276 = .ok (.iaload, 1) := by decide +kernel
theorem dX12_firstHash_277 : decode cX12_firstHash 277 = .ok (.iadd, 1) := by decide +kernel
theorem dX12_firstHash_278 : decode cX12_firstHash 278 = .ok (.istore 16, 2) := by decide +kernel
theorem dX12_firstHash_280 : decode cX12_firstHash 280 = .ok (.iload 11, 2) := by decide +kernel
theorem dX12_firstHash_282 : decode cX12_firstHash 282 = .ok (.istore 12, 2) := by decide +kernel
theorem dX12_firstHash_284 : decode cX12_firstHash 284 = .ok (.iload 10, 2) := by decide +kernel
theorem dX12_firstHash_286 : decode cX12_firstHash 286 = .ok (.istore 11, 2) := by decide +kernel
theorem dX12_firstHash_288 : decode cX12_firstHash 288 = .ok (.iload 9, 2) := by decide +kernel
theorem dX12_firstHash_290 : decode cX12_firstHash 290 = .ok (.bipush 30, 2) := by decide +kernel
theorem dX12_firstHash_292 : decode cX12_firstHash 292 = .ok (.invokestatic 119, 3) := by decide +kernel
theorem dX12_firstHash_295 : decode cX12_firstHash 295 = .ok (.istore 10, 2) := by decide +kernel
theorem dX12_firstHash_297 : decode cX12_firstHash 297 = .ok (.iload 8, 2) := by decide +kernel
theorem dX12_firstHash_299 : decode cX12_firstHash 299 = .ok (.istore 9, 2) := by decide +kernel
theorem dX12_firstHash_301 : decode cX12_firstHash 301 = .ok (.iload 16, 2) := by decide +kernel
theorem dX12_firstHash_303 : decode cX12_firstHash 303 = .ok (.istore 8, 2) := by decide +kernel
theorem dX12_firstHash_305 : decode cX12_firstHash 305 = .ok (.iinc 13 1, 3) := by decide +kernel
theorem dX12_firstHash_308 : decode cX12_firstHash 308 = .ok (.goto (-255), 3) := by decide +kernel
theorem dX12_firstHash_311 : decode cX12_firstHash 311 = .ok (.iload_n 2, 1) := by decide +kernel
theorem dX12_firstHash_312 : decode cX12_firstHash 312 = .ok (.iload 8, 2) := by decide +kernel
theorem dX12_firstHash_314 : decode cX12_firstHash 314 = .ok (.iadd, 1) := by decide +kernel
theorem dX12_firstHash_315 : decode cX12_firstHash 315 = .ok (.istore_n 2, 1) := by decide +kernel
theorem dX12_firstHash_316 : decode cX12_firstHash 316 = .ok (.iload_n 3, 1) := by decide +kernel
theorem dX12_firstHash_317 : decode cX12_firstHash 317 = .ok (.iload 9, 2) := by decide +kernel
theorem dX12_firstHash_319 : decode cX12_firstHash 319 = .ok (.iadd, 1) := by decide +kernel
theorem dX12_firstHash_320 : decode cX12_firstHash 320 = .ok (.istore_n 3, 1) := by decide +kernel
theorem dX12_firstHash_321 : decode cX12_firstHash 321 = .ok (.iload 4, 2) := by decide +kernel
theorem dX12_firstHash_323 : decode cX12_firstHash 323 = .ok (.iload 10, 2) := by decide +kernel
theorem dX12_firstHash_325 : decode cX12_firstHash 325 = .ok (.iadd, 1) := by decide +kernel
theorem dX12_firstHash_326 : decode cX12_firstHash 326 = .ok (.istore 4, 2) := by decide +kernel
theorem dX12_firstHash_328 : decode cX12_firstHash 328 = .ok (.iload 5, 2) := by decide +kernel
theorem dX12_firstHash_330 : decode cX12_firstHash 330 = .ok (.iload 11, 2) := by decide +kernel
theorem dX12_firstHash_332 : decode cX12_firstHash 332 = .ok (.iadd, 1) := by decide +kernel
theorem dX12_firstHash_333 : decode cX12_firstHash 333 = .ok (.istore 5, 2) := by decide +kernel
theorem dX12_firstHash_335 : decode cX12_firstHash 335 = .ok (.iload 6, 2) := by decide +kernel
theorem dX12_firstHash_337 : decode cX12_firstHash 337 = .ok (.iload 12, 2) := by decide +kernel
theorem dX12_firstHash_339 : decode cX12_firstHash 339 = .ok (.iadd, 1) := by decide +kernel
theorem dX12_firstHash_340 : decode cX12_firstHash 340 = .ok (.istore 6, 2) := by decide +kernel
theorem dX12_firstHash_342 : decode cX12_firstHash 342 = .ok (.iinc 7 1, 3) := by decide +kernel
theorem dX12_firstHash_345 : decode cX12_firstHash 345 = .ok (.goto (-319), 3) := by decide +kernel
theorem dX12_firstHash_348 : decode cX12_firstHash 348 = .ok (.aload_n 0, 1) := by decide +kernel
theorem dX12_firstHash_349 : decode cX12_firstHash 349 = .ok (.iconst 0, 1) := by decide +kernel
theorem dX12_firstHash_350 : decode cX12_firstHash 350 = .ok (.iload_n 2, 1) := by decide +kernel
theorem dX12_firstHash_351 : decode cX12_firstHash 351 = .ok (.invokevirtual 127, 3) := by decide +kernel
theorem dX12_firstHash_354 : decode cX12_firstHash 354 = .ok (.aload_n 0, 1) := by decide +kernel
theorem dX12_firstHash_355 : decode cX12_firstHash 355 = .ok (.iconst 1, 1) := by decide +kernel
theorem dX12_firstHash_356 : decode cX12_firstHash 356 = .ok (.iload_n 3, 1) := by decide +kernel
theorem dX12_firstHash_357 : decode cX12_firstHash 357 = .ok (.invokevirtual 127, 3) := by decide +kernel
theorem dX12_firstHash_360 : decode cX12_firstHash 360 = .ok (.aload_n 0, 1) := by decide +kernel
theorem dX12_firstHash_361 : decode cX12_firstHash 361 = .ok (.iconst 2, 1) := by decide +kernel
theorem dX12_firstHash_362 : decode cX12_firstHash 362 = .ok (.iload 4, 2) := by decide +kernel
theorem dX12_firstHash_364 : decode cX12_firstHash 364 = .ok (.invokevirtual 127, 3) := by decide +kernel
theorem dX12_firstHash_367 : decode cX12_firstHash 367 = .ok (.aload_n 0, 1) := by decide +kernel
theorem dX12_firstHash_368 : decode cX12_firstHash 368 = .ok (.iconst 3, 1) := by decide +kernel
theorem dX12_firstHash_369 : decode cX12_firstHash 369 = .ok (.iload 5, 2) := by decide +kernel
theorem dX12_firstHash_371 : decode cX12_firstHash 371 = .ok (.invokevirtual 127, 3) := by decide +kernel
theorem dX12_firstHash_374 : decode cX12_firstHash 374 = .ok (.aload_n 0, 1) := by decide +kernel
theorem dX12_firstHash_375 : decode cX12_firstHash 375 = .ok (.iconst 4, 1) := by decide +kernel
theorem dX12_firstHash_376 : decode cX12_firstHash 376 = .ok (.iload 6, 2) := by decide +kernel
theorem dX12_firstHash_378 : decode cX12_firstHash 378 = .ok (.invokevirtual 127, 3) := by decide +kernel
theorem dX12_firstHash_381 : decode cX12_firstHash 381 = .ok (.return_, 1) := by decide +kernel
theorem dX12_secondHash_0 : decode cX12_secondHash 0 = .ok (.aload_n 0, 1) := by decide +kernel
theorem dX12_secondHash_1 : decode cX12_secondHash 1 = .ok (.invokevirtual 106, 3) := by decide +kernel
theorem dX12_secondHash_4 : decode cX12_secondHash 4 = .ok (.istore_n 1, 1) := by decide +kernel
theorem dX12_secondHash_5 : decode cX12_secondHash 5 = .ok (.aload_n 0, 1) := by decide +kernel
theorem dX12_secondHash_6 : decode cX12_secondHash 6 = .ok (.getfield 49, 3) := by decide +kernel
theorem dX12_secondHash_9 : decode cX12_secondHash 9 = .ok (.iconst 0, 1) := by decide +kernel
theorem dX12_secondHash_10 : decode cX12_secondHash 10 = .ok (.ldc 131, 2) := by decide +kernel
theorem dX12_secondHash_12 : decode cX12_secondHash 12 = .ok (.iastore, 1) := by decide +kernel
theorem dX12_secondHash_13 : decode cX12_secondHash 13 = .ok (.aload_n 0, 1) := by decide +kernel
theorem dX12_secondHash_14 : decode cX12_secondHash 14 = .ok (.getfield 49, 3) := by decide +kernel
theorem dX12_secondHash_17 : decode cX12_secondHash 17 = .ok (.iconst 1, 1) := by decide +kernel
theorem dX12_secondHash_18 : decode cX12_secondHash 18 = .ok (.ldc 132, 2) := by decide +kernel
theorem dX12_secondHash_20 : decode cX12_secondHash 20 = .ok (.iastore, 1) := by decide +kernel
theorem dX12_secondHash_21 : decode cX12_secondHash 21 = .ok (.aload_n 0, 1) := by decide +kernel
theorem dX12_secondHash_22 : decode cX12_secondHash 22 = .ok (.getfield 49, 3) := by decide +kernel
theorem dX12_secondHash_25 : decode cX12_secondHash 25 = .ok (.iconst 2, 1) := by decide +kernel
theorem dX12_secondHash_26 : decode cX12_secondHash 26 = .ok (.ldc 133, 2) := by decide +kernel
theorem dX12_secondHash_28 : decode cX12_secondHash 28 = .ok (.iastore, 1) := by decide +kernel
theorem dX12_secondHash_29 : decode cX12_secondHash 29 = .ok (.aload_n 0, 1) := by decide +kernel
theorem dX12_secondHash_30 : decode cX12_secondHash 30 = .ok (.getfield 49, 3) := by decide +kernel
theorem dX12_secondHash_33 : decode cX12_secondHash 33 = .ok (.iconst 3, 1) := by decide +kernel
theorem dX12_secondHash_34 : decode cX12_secondHash 34 = .ok (.ldc 134, 2) := by decide +kernel
theorem dX12_secondHash_36 : decode cX12_secondHash 36 = .ok (.iastore, 1) := by decide +kernel
theorem dX12_secondHash_37 : decode cX12_secondHash 37 = .ok (.aload_n 0, 1) := by decide +kernel
theorem dX12_secondHash_38 : decode cX12_secondHash 38 = .ok (.getfield 49, 3) := by decide +kernel
theorem dX12_secondHash_41 : decode cX12_secondHash 41 = .ok (.iconst 4, 1) := by decide +kernel
theorem dX12_secondHash_42 : decode cX12_secondHash 42 = .ok (.ldc 135, 2) := by decide +kernel
theorem dX12_secondHash_44 : decode cX12_secondHash 44 = .ok (.iastore, 1) := by decide +kernel
theorem dX12_secondHash_45 : decode cX12_secondHash 45 = .ok (.aload_n 0, 1) := by decide +kernel
theorem dX12_secondHash_46 : decode cX12_secondHash 46 = .ok (.getfield 49, 3) := by decide +kernel
theorem dX12_secondHash_49 : decode cX12_secondHash 49 = .ok (.iconst 5, 1) := by decide +kernel
theorem dX12_secondHash_50 : decode cX12_secondHash 50 = .ok (.ldc 136, 2) := by decide +kernel
theorem dX12_secondHash_52 : decode cX12_secondHash 52 = .ok (.iastore, 1) := by decide +kernel
theorem dX12_secondHash_53 : decode cX12_secondHash 53 = .ok (.aload_n 0, 1) := by decide +kernel
theorem dX12_secondHash_54 : decode cX12_secondHash 54 = .ok (.getfield 49, 3) := by decide +kernel
theorem dX12_secondHash_57 : decode cX12_secondHash 57 = .ok (.bipush 6, 2) := by decide +kernel
theorem dX12_secondHash_59 : decode cX12_secondHash 59 = .ok (.ldc 137, 2) := by decide +kernel
theorem dX12_secondHash_61 : decode cX12_secondHash 61 = .ok (.iastore, 1) := by decide +kernel
theorem dX12_secondHash_62 : decode cX12_secondHash 62 = .ok (.aload_n 0, 1) := by decide +kernel
theorem dX12_secondHash_63 : decode cX12_secondHash 63 = .ok (.getfield 49, 3) := by decide +kernel
theorem dX12_secondHash_66 : decode cX12_secondHash 66 = .ok (.bipush 7, 2) := by decide +kernel
theorem dX12_secondHash_68 : decode cX12_secondHash 68 = .ok (.ldc 138, 2) := by decide +kernel
theorem dX12_secondHash_70 : decode cX12_secondHash 70 = .ok (.iastore, 1) := by decide +kernel
theorem dX12_secondHash_71 : decode cX12_secondHash 71 = .ok (.iconst 0, 1) := by decide +kernel
theorem dX12_secondHash_72 : decode cX12_secondHash 72 = .ok (.istore_n 2, 1) := by decide +kernel
theorem dX12_secondHash_73 : decode cX12_secondHash 73 = .ok (.iload_n 2, 1) := by decide +kernel
theorem dX12_secondHash_74 : decode cX12_secondHash 74 = .ok (.iload_n 1, 1) := by decide +kernel
theorem dX12_secondHash_75 : decode cX12_secondHash 75 = .ok (.if_icmp .ge 423, 3) := by decide +kernel
theorem dX12_secondHash_78 : decode cX12_secondHash 78 = .ok (.iconst 0, 1) := by decide +kernel
theorem dX12_secondHash_79 : decode cX12_secondHash 79 = .ok (.istore_n 3, 1) := by decide +kernel
theorem dX12_secondHash_80 : decode cX12_secondHash 80 = .ok (.iload_n 3, 1) := by decide +kernel
theorem dX12_secondHash_81 : decode cX12_secondHash 81 = .ok (.bipush 8, 2) := by decide +kernel
theorem dX12_secondHash_83 : decode cX12_secondHash 83 = .ok (.if_icmp .ge 21, 3) := by decide +kernel
theorem dX12_secondHash_86 : decode cX12_secondHash 86 = .ok (.aload_n 0, 1) := by decide +kernel
theorem dX12_secondHash_87 : decode cX12_secondHash 87 = .ok (.getfield 52, 3) := by decide +kernel
theorem dX12_secondHash_90 : decode cX12_secondHash 90 = .ok (.iload_n 3, 1) := by decide +kernel
theorem dX12_secondHash_91 : decode cX12_secondHash 91 = .ok (.aload_n 0, 1) := by decide +kernel
theorem dX12_secondHash_92 : decode cX12_secondHash 92 = .ok (.getfield 49, 3) := by decide +kernel
theorem dX12_secondHash_95 : decode cX12_secondHash 95 = .ok (.iload_n 3, 1) := by decide +kernel
theorem dX12_secondHash_96 : decode cX12_secondHash 96 = .ok (.iaload, 1) := by decide +kernel
theorem dX12_secondHash_97 : decode cX12_secondHash 97 = .ok (.iastore, 1) := by decide +kernel
theorem dX12_secondHash_98 : decode cX12_secondHash 98 = .ok (.iinc 3 1, 3) := by decide +kernel
theorem dX12_secondHash_101 : decode cX12_secondHash 101 = .ok (.goto (-21), 3) := by decide +kernel
theorem dX12_secondHash_104 : decode cX12_secondHash 104 = .ok (.iconst 0, 1) := by decide +kernel
theorem dX12_secondHash_105 : decode cX12_secondHash 105 = .ok (.istore_n 3, 1) := by decide +kernel
theorem dX12_secondHash_106 : decode cX12_secondHash 106 = .ok (.iload_n 3, 1) := by decide +kernel
theorem dX12_secondHash_107 : decode cX12_secondHash 107 = .ok (.bipush 64, 2) := by decide +kernel
theorem dX12_secondHash_109 : decode cX12_secondHash 109 = .ok (.if_icmp .ge 354, 3) := by decide +kernel
theorem dX12_secondHash_112 : decode cX12_secondHash 112 = .ok (.iload_n 3, 1) := by decide +kernel
theorem dX12_secondHash_113 : decode cX12_secondHash 113 = .ok (.bipush 16, 2) := by decide +kernel
theorem dX12_secondHash_115 : decode cX12_secondHash 115 = .ok (.if_icmp .ge 29, 3) := by decide +kernel
theorem dX12_secondHash_118 : decode cX12_secondHash 118 = .ok (.aload_n 0, 1) := by decide +kernel
theorem dX12_secondHash_119 : decode cX12_secondHash 119 = .ok (.getfield 46, 3) := by decide +kernel
theorem dX12_secondHash_122 : decode cX12_secondHash 122 = .ok (.iload_n 3, 1) := by decide +kernel
theorem dX12_secondHash_123 : decode cX12_secondHash 123 = .ok (.aload_n 0, 1) := by decide +kernel
theorem dX12_secondHash_124 : decode cX12_secondHash 124 = .ok (.getfield 40, 3) := by decide +kernel
theorem dX12_secondHash_127 : decode cX12_secondHash 127 = .ok (.bipush 64, 2) := by decide +kernel
theorem dX12_secondHash_129 : decode cX12_secondHash 129 = .ok (.iload_n 2, 1) := by decide +kernel
theorem dX12_secondHash_130 : decode cX12_secondHash 130 = .ok (.imul, 1) := by decide +kernel
theorem dX12_secondHash_131 : decode cX12_secondHash 131 = .ok (.iconst 4, 1) := by decide +kernel
theorem dX12_secondHash_132 : decode cX12_secondHash 132 = .ok (.iload_n 3, 1) := by decide +kernel
theorem dX12_secondHash_133 : decode cX12_secondHash 133 = .ok (.imul, 1) := by decide +kernel
theorem dX12_secondHash_134 : decode cX12_secondHash 134 = .ok (.iadd, 1) := by decide +kernel
theorem dX12_secondHash_135 : decode cX12_secondHash 135 = .ok (.iconst 4, 1) := by decide +kernel
theorem dX12_secondHash_136 : decode cX12_secondHash 136 = .ok (.invokestatic 115, 3) := by decide +kernel
theorem dX12_secondHash_139 : decode cX12_secondHash 139 = .ok (.l2i, 1) := by decide +kernel
theorem dX12_secondHash_140 : decode cX12_secondHash 140 = .ok (.iastore, 1) := by decide +kernel
theorem dX12_secondHash_141 : decode cX12_secondHash 141 = .ok (.goto 92, 3) := by decide +kernel
theorem dX12_secondHash_144 : decode cX12_secondHash 144 = .ok (.aload_n 0, 1) := by decide +kernel
theorem dX12_secondHash_145 : decode cX12_secondHash 145 = .ok (.getfield 46, 3) := by decide +kernel
theorem dX12_secondHash_148 : decode cX12_secondHash 148 = .ok (.iload_n 3, 1) := by decide +kernel
theorem dX12_secondHash_149 : decode cX12_secondHash 149 = .ok (.bipush 15, 2) := by decide +kernel
theorem dX12_secondHash_151 : decode cX12_secondHash 151 = .ok (.isub, 1) := by decide +kernel
theorem dX12_secondHash_152 : decode cX12_secondHash 152 = .ok (.iaload, 1) := by decide +kernel
theorem dX12_secondHash_153 : decode cX12_secondHash 153 = .ok (.istore 4, 2) := by decide +kernel
theorem dX12_secondHash_155 : decode cX12_secondHash 155 = .ok (.aload_n 0, 1) := by decide +kernel
theorem dX12_secondHash_156 : decode cX12_secondHash 156 = .ok (.getfield 46, 3) := by decide +kernel
theorem dX12_secondHash_159 : decode cX12_secondHash 159 = .ok (.iload_n 3, 1) := by decide +kernel
theorem dX12_secondHash_160 : decode cX12_secondHash 160 = .ok (.iconst 2, 1) := by decide +kernel
theorem dX12_secondHash_161 : decode cX12_secondHash 161 = .ok (.isub, 1) := by decide +kernel
theorem dX12_secondHash_162 : decode cX12_secondHash 162 = .ok (.iaload, 1) := by decide +kernel
theorem dX12_secondHash_163 : decode cX12_secondHash 163 = .ok (.istore 5, 2) := by decide +kernel
theorem dX12_secondHash_165 : decode cX12_secondHash 165 = .ok (.aload_n 0, 1) := by decide +kernel
theorem dX12_secondHash_166 : decode cX12_secondHash 166 = .ok (.getfield 46, 3) := by decide +kernel
theorem dX12_secondHash_169 : decode cX12_secondHash 169 = .ok (.iload_n 3, 1) := by decide +kernel
theorem dX12_secondHash_170 : decode cX12_secondHash 170 = .ok (.aload_n 0, 1) := by decide +kernel
theorem dX12_secondHash_171 : decode cX12_secondHash 171 = .ok (.getfield 46, 3) := by decide +kernel
theorem dX12_secondHash_174 : decode cX12_secondHash 174 = .ok (.iload_n 3, 1) := by decide +kernel
theorem dX12_secondHash_175 : decode cX12_secondHash 175 = .ok (.bipush 16, 2) := by decide +kernel
theorem dX12_secondHash_177 : decode cX12_secondHash 177 = .ok (.isub, 1) := by decide +kernel
theorem dX12_secondHash_178 : decode cX12_secondHash 178 = .ok (.iaload, 1) := by decide +kernel
theorem dX12_secondHash_179 : decode cX12_secondHash 179 = .ok (.aload_n 0, 1) := by decide +kernel
theorem dX12_secondHash_180 : decode cX12_secondHash 180 = .ok (.getfield 46, 3) := by decide +kernel
theorem dX12_secondHash_183 : decode cX12_secondHash 183 = .ok (.iload_n 3, 1) := by decide +kernel
theorem dX12_secondHash_184 : decode cX12_secondHash 184 = .ok (.bipush 7, 2) := by decide +kernel
theorem dX12_secondHash_186 : decode cX12_secondHash 186 = .ok (.isub, 1) := by decide +kernel
theorem dX12_secondHash_187 : decode cX12_secondHash 187 = .ok (.iaload, 1) := by decide +kernel
theorem dX12_secondHash_188 : decode cX12_secondHash 188 = .ok (.iadd, 1) := by decide +kernel
theorem dX12_secondHash_189 : decode cX12_secondHash 189 = .ok (.iload 4, 2) := by decide +kernel
theorem dX12_secondHash_191 : decode cX12_secondHash 191 = .ok (.bipush 25, 2) := by decide +kernel
theorem dX12_secondHash_193 : decode cX12_secondHash 193 = .ok (.invokestatic 119, 3) := by decide +kernel
theorem dX12_secondHash_196 : decode cX12_secondHash 196 = .ok (.iload 4, 2) := by decide +kernel
theorem dX12_secondHash_198 : decode cX12_secondHash 198 = .ok (.bipush 14, 2) := by decide +kernel
theorem dX12_secondHash_200 : decode cX12_secondHash 200 = .ok (.invokestatic 119, 3) := by decide +kernel
theorem dX12_secondHash_203 : decode cX12_secondHash 203 = .ok (.ixor, 1) := by decide +kernel
theorem dX12_secondHash_204 : decode cX12_secondHash 204 = .ok (.iload 4, 2) := by decide +kernel
theorem dX12_secondHash_206 : decode cX12_secondHash 206 = .ok (.iconst 3, 1) := by decide +kernel
theorem dX12_secondHash_207 : decode cX12_secondHash 207 = .ok (.iushr, 1) := by decide +kernel
theorem dX12_secondHash_208 : decode cX12_secondHash 208 = .ok (.ixor, 1) := by decide +kernel
theorem dX12_secondHash_209 : decode cX12_secondHash 209 = .ok (.iadd, 1) := by decide +kernel
theorem dX12_secondHash_210 : decode cX12_secondHash 210 = .ok (.iload 5, 2) := by decide +kernel
theorem dX12_secondHash_212 : decode cX12_secondHash 212 = .ok (.bipush 15, 2) := by decide +kernel
theorem dX12_secondHash_214 : decode cX12_secondHash 214 = .ok (.invokestatic 119, 3) := by decide +kernel
theorem dX12_secondHash_217 : decode cX12_secondHash 217 = .ok (.iload 5, 2) := by decide +kernel
theorem dX12_secondHash_219 : decode cX12_secondHash 219 = .ok (.bipush 13, 2) := by decide +kernel
theorem dX12_secondHash_221 : decode cX12_secondHash 221 = .ok (.invokestatic 119, 3) := by decide +kernel
theorem dX12_secondHash_224 : decode cX12_secondHash 224 = .ok (.ixor, 1) := by decide +kernel
theorem dX12_secondHash_225 : decode cX12_secondHash 225 = .ok (.iload 5, 2) := by decide +kernel
theorem dX12_secondHash_227 : decode cX12_secondHash 227 = .ok (.bipush 10, 2) := by decide +kernel
theorem dX12_secondHash_229 : decode cX12_secondHash 229 = .ok (.iushr, 1) := by decide +kernel
theorem dX12_secondHash_230 : decode cX12_secondHash 230 = .ok (.ixor, 1) := by decide +kernel
theorem dX12_secondHash_231 : decode cX12_secondHash 231 = .ok (.iadd, 1) := by decide +kernel
theorem dX12_secondHash_232 : decode cX12_secondHash 232 = .ok (.iastore, 1) := by decide +kernel
theorem dX12_secondHash_233 : decode cX12_secondHash 233 = .ok (.bipush 64, 2) := by decide +kernel
theorem dX12_secondHash_235 : decode cX12_secondHash 235 = .ok (.iload_n 3, 1) := by decide +kernel
theorem dX12_secondHash_236 : decode cX12_secondHash 236 = .ok (.isub, 1) := by decide +kernel
theorem dX12_secondHash_237 : decode cX12_secondHash 237 = .ok (.bipush 7, 2) := by decide +kernel
theorem dX12_secondHash_239 : decode cX12_secondHash 239 = .ok (.iand, 1) := by decide +kernel
theorem dX12_secondHash_240 : decode cX12_secondHash 240 = .ok (.istore 4, 2) := by decide +kernel
theorem dX12_secondHash_242 : decode cX12_secondHash 242 = .ok (.aload_n 0, 1) := by decide +kernel
theorem dX12_secondHash_243 : decode cX12_secondHash 243 = .ok (.getfield 52, 3) := by decide +kernel
theorem dX12_secondHash_246 : decode cX12_secondHash 246 = .ok (.iload 4, 2) := by decide +kernel
theorem dX12_secondHash_248 : decode cX12_secondHash 248 = .ok (.iconst 4, 1) := by decide +kernel
theorem dX12_secondHash_249 : decode cX12_secondHash 249 = .ok (.iadd, 1) := by decide +kernel
theorem dX12_secondHash_250 : decode cX12_secondHash 250 = .ok (.bipush 7, 2) := by decide +kernel
theorem dX12_secondHash_252 : decode cX12_secondHash 252 = .ok (.iand, 1) := by decide +kernel
theorem dX12_secondHash_253 : decode cX12_secondHash 253 = .ok (.iaload, 1) := by decide +kernel
theorem dX12_secondHash_254 : decode cX12_secondHash 254 = .ok (.istore 5, 2) := by decide +kernel
theorem dX12_secondHash_256 : decode cX12_secondHash 256 = .ok (.aload_n 0, 1) := by decide +kernel
theorem dX12_secondHash_257 : decode cX12_secondHash 257 = .ok (.getfield 52, 3) := by decide +kernel
theorem dX12_secondHash_260 : decode cX12_secondHash 260 = .ok (.iload 4, 2) := by decide +kernel
theorem dX12_secondHash_262 : decode cX12_secondHash 262 = .ok (.iconst 5, 1) := by decide +kernel
theorem dX12_secondHash_263 : decode cX12_secondHash 263 = .ok (.iadd, 1) := by decide +kernel
theorem dX12_secondHash_264 : decode cX12_secondHash 264 = .ok (.bipush 7, 2) := by decide +kernel
theorem dX12_secondHash_266 : decode cX12_secondHash 266 = .ok (.iand, 1) := by decide +kernel
theorem dX12_secondHash_267 : decode cX12_secondHash 267 = .ok (.iaload, 1) := by decide +kernel
theorem dX12_secondHash_268 : decode cX12_secondHash 268 = .ok (.istore 6, 2) := by decide +kernel
theorem dX12_secondHash_270 : decode cX12_secondHash 270 = .ok (.aload_n 0, 1) := by decide +kernel
theorem dX12_secondHash_271 : decode cX12_secondHash 271 = .ok (.getfield 52, 3) := by decide +kernel
theorem dX12_secondHash_274 : decode cX12_secondHash 274 = .ok (.iload 4, 2) := by decide +kernel
theorem dX12_secondHash_276 : decode cX12_secondHash 276 = .ok (.bipush 6, 2) := by decide +kernel
theorem dX12_secondHash_278 : decode cX12_secondHash 278 = .ok (.iadd, 1) := by decide +kernel
theorem dX12_secondHash_279 : decode cX12_secondHash 279 = .ok (.bipush 7, 2) := by decide +kernel
theorem dX12_secondHash_281 : decode cX12_secondHash 281 = .ok (.iand, 1) := by decide +kernel
theorem dX12_secondHash_282 : decode cX12_secondHash 282 = .ok (.iaload, 1) := by decide +kernel
theorem dX12_secondHash_283 : decode cX12_secondHash 283 = .ok (.istore 7, 2) := by decide +kernel
theorem dX12_secondHash_285 : decode cX12_secondHash 285 = .ok (.aload_n 0, 1) := by decide +kernel
theorem dX12_secondHash_286 : decode cX12_secondHash 286 = .ok (.getfield 52, 3) := by decide +kernel
theorem dX12_secondHash_289 : decode cX12_secondHash 289 = .ok (.iload 4, 2) := by decide +kernel
theorem dX12_secondHash_291 : decode cX12_secondHash 291 = .ok (.bipush 7, 2) := by decide +kernel
theorem dX12_secondHash_293 : decode cX12_secondHash 293 = .ok (.iadd, 1) := by decide +kernel
theorem dX12_secondHash_294 : decode cX12_secondHash 294 = .ok (.bipush 7, 2) := by decide +kernel
theorem dX12_secondHash_296 : decode cX12_secondHash 296 = .ok (.iand, 1) := by decide +kernel
theorem dX12_secondHash_297 : decode cX12_secondHash 297 = .ok (.iaload, 1) := by decide +kernel
theorem dX12_secondHash_298 : decode cX12_secondHash 298 = .ok (.iload 5, 2) := by decide +kernel
theorem dX12_secondHash_300 : decode cX12_secondHash 300 = .ok (.bipush 26, 2) := by decide +kernel
theorem dX12_secondHash_302 : decode cX12_secondHash 302 = .ok (.invokestatic 119, 3) := by decide +kernel
theorem dX12_secondHash_305 : decode cX12_secondHash 305 = .ok (.iload 5, 2) := by decide +kernel
theorem dX12_secondHash_307 : decode cX12_secondHash 307 = .ok (.bipush 21, 2) := by decide +kernel
theorem dX12_secondHash_309 : decode cX12_secondHash 309 = .ok (.invokestatic 119, 3) := by decide +kernel
theorem dX12_secondHash_312 : decode cX12_secondHash 312 = .ok (.ixor, 1) := by decide +kernel
theorem dX12_secondHash_313 : decode cX12_secondHash 313 = .ok (.iload 5, 2) := by decide +kernel
theorem dX12_secondHash_315 : decode cX12_secondHash 315 = .ok (.bipush 7, 2) := by decide +kernel
theorem dX12_secondHash_317 : decode cX12_secondHash 317 = .ok (.invokestatic 119, 3) := by decide +kernel
theorem dX12_secondHash_320 : decode cX12_secondHash 320 = .ok (.ixor, 1) := by decide +kernel
theorem dX12_secondHash_321 : decode cX12_secondHash 321 = .ok (.iadd, 1) := by decide +kernel
theorem dX12_secondHash_322 : decode cX12_secondHash 322 = .ok (.iload 7, 2) := by decide +kernel
theorem dX12_secondHash_324 : decode cX12_secondHash 324 = .ok (.iload 5, 2) := by decide +kernel
theorem dX12_secondHash_326 : decode cX12_secondHash 326 = .ok (.iload 6, 2) := by decide +kernel
theorem dX12_secondHash_328 : decode cX12_secondHash 328 = .ok (.iload 7, 2) := by decide +kernel
theorem dX12_secondHash_330 : decode cX12_secondHash 330 = .ok (.ixor, 1) := by decide +kernel
theorem dX12_secondHash_331 : decode cX12_secondHash 331 = .ok (.iand, 1) := by decide +kernel
theorem dX12_secondHash_332 : decode cX12_secondHash 332 = .ok (.ixor, 1) := by decide +kernel
theorem dX12_secondHash_333 : decode cX12_secondHash 333 = .ok (.iadd, 1) := by decide +kernel
theorem dX12_secondHash_334 : decode cX12_secondHash 334 = .ok (.getstatic 139, 3) := by decide +kernel
theorem dX12_secondHash_337 : decode cX12_secondHash 337 = .ok (.iload_n 3, 1) := by decide +kernel
theorem dX12_secondHash_338 : decode cX12_secondHash 338 = .ok (.iaload, 1) := by decide +kernel
theorem dX12_secondHash_339 : decode cX12_secondHash 339 = .ok (.iadd, 1) := by decide +kernel
theorem dX12_secondHash_340 : decode cX12_secondHash 340 = .ok (.aload_n 0, 1) := by decide +kernel
theorem dX12_secondHash_341 : decode cX12_secondHash 341 = .ok (.getfield 46, 3) := by decide +kernel
theorem dX12_secondHash_344 : decode cX12_secondHash 344 = .ok (.iload_n 3, 1) := by decide +kernel
theorem dX12_secondHash_345 : decode cX12_secondHash 345 = .ok (.iaload, 1) := by decide +kernel
theorem dX12_secondHash_346 : decode cX12_secondHash 346 = .ok (.iadd, 1) := by decide +kernel
theorem dX12_secondHash_347 : decode cX12_secondHash 347 = .ok (.istore 8, 2) := by decide +kernel
theorem dX12_secondHash_349 : decode cX12_secondHash 349 = .ok (.aload_n 0, 1) := by decide +kernel
theorem dX12_secondHash_350 : decode cX12_secondHash 350 = .ok (.getfield 52, 3) := by decide +kernel
theorem dX12_secondHash_353 : decode cX12_secondHash 353 = .ok (.iload 4, 2) := by decide +kernel
theorem dX12_secondHash_355 : decode cX12_secondHash 355 = .ok (.iaload, 1) := by decide +kernel
theorem dX12_secondHash_356 : decode cX12_secondHash 356 = .ok (.istore 9, 2) := by decide +kernel
theorem dX12_secondHash_358 : decode cX12_secondHash 358 = .ok (.aload_n 0, 1) := by decide +kernel
theorem dX12_secondHash_359 : decode cX12_secondHash 359 = .ok (.getfield 52, 3) := by decide +kernel
theorem dX12_secondHash_362 : decode cX12_secondHash 362 = .ok (.iload 4, 2) := by decide +kernel
theorem dX12_secondHash_364 : decode cX12_secondHash 364 = .ok (.iconst 1, 1) := by decide +kernel
theorem dX12_secondHash_365 : decode cX12_secondHash 365 = .ok (.iadd, 1) := by decide +kernel
theorem dX12_secondHash_366 : decode cX12_secondHash 366 = .ok (.bipush 7, 2) := by decide +kernel
theorem dX12_secondHash_368 : decode cX12_secondHash 368 = .ok (.iand, 1) := by decide +kernel
theorem dX12_secondHash_369 : decode cX12_secondHash 369 = .ok (.iaload, 1) := by decide +kernel
theorem dX12_secondHash_370 : decode cX12_secondHash 370 = .ok (.istore 10, 2) := by decide +kernel
theorem dX12_secondHash_372 : decode cX12_secondHash 372 = .ok (.aload_n 0, 1) := by decide +kernel
theorem dX12_secondHash_373 : decode cX12_secondHash 373 = .ok (.getfield 52, 3) := by decide +kernel
theorem dX12_secondHash_376 : decode cX12_secondHash 376 = .ok (.iload 4, 2) := by decide +kernel
theorem dX12_secondHash_378 : decode cX12_secondHash 378 = .ok (.iconst 2, 1) := by decide +kernel
theorem dX12_secondHash_379 : decode cX12_secondHash 379 = .ok (.iadd, 1) := by decide +kernel
theorem dX12_secondHash_380 : decode cX12_secondHash 380 = .ok (.bipush 7, 2) := by decide +kernel
theorem dX12_secondHash_382 : decode cX12_secondHash 382 = .ok (.iand, 1) := by decide +kernel
theorem dX12_secondHash_383 : decode cX12_secondHash 383 = .ok (.iaload, 1) := by decide +kernel
theorem dX12_secondHash_384 : decode cX12_secondHash 384 = .ok (.istore 11, 2) := by decide +kernel
theorem dX12_secondHash_386 : decode cX12_secondHash 386 = .ok (.aload_n 0, 1) := by decide +kernel
theorem dX12_secondHash_387 : decode cX12_secondHash 387 = .ok (.getfield 52, 3) := by decide +kernel
theorem dX12_secondHash_390 : decode cX12_secondHash 390 = .ok (.iload 4, 2) := by decide +kernel
theorem dX12_secondHash_392 : decode cX12_secondHash 392 = .ok (.iconst 3, 1) := by decide +kernel
theorem dX12_secondHash_393 : decode cX12_secondHash 393 = .ok (.iadd, 1) := by decide +kernel
theorem dX12_secondHash_394 : decode cX12_secondHash 394 = .ok (.bipush 7, 2) := by decide +kernel
theorem dX12_secondHash_396 : decode cX12_secondHash 396 = .ok (.iand, 1) := by decide +kernel
theorem dX12_secondHash_397 : decode cX12_secondHash 397 = .ok (.dup2, 1) := by decide +kernel
theorem dX12_secondHash_398 : decode cX12_secondHash 398 = .ok (.iaload, 1) := by decide +kernel
theorem dX12_secondHash_399 : decode cX12_secondHash 399 = .ok (.iload 8, 2) := by decide +kernel
theorem dX12_secondHash_401 : decode cX12_secondHash 401 = .ok (.iadd, 1) := by decide +kernel
theorem dX12_secondHash_402 : decode cX12_secondHash 402 = .ok (.iastore, 1) := by decide +kernel
theorem dX12_secondHash_403 : decode cX12_secondHash 403 = .ok (.aload_n 0, 1) := by decide +kernel
theorem dX12_secondHash_404 : decode cX12_secondHash 404 = .ok (.getfield 52, 3) := by decide +kernel
theorem dX12_secondHash_407 : decode cX12_secondHash 407 = .ok (.iload 4, 2) := by decide +kernel
theorem dX12_secondHash_409 : decode cX12_secondHash 409 = .ok (.bipush 7, 2) := by decide +kernel
theorem dX12_secondHash_411 : decode cX12_secondHash 411 = .ok (.iadd, 1) := by decide +kernel
theorem dX12_secondHash_412 : decode cX12_secondHash 412 = .ok (.bipush 7, 2) := by decide +kernel
theorem dX12_secondHash_414 : decode cX12_secondHash 414 = .ok (.iand, 1) := by decide +kernel
theorem dX12_secondHash_415 : decode cX12_secondHash 415 = .ok (.iload 8, 2) := by decide +kernel
theorem dX12_secondHash_417 : decode cX12_secondHash 417 = .ok (.iload 9, 2) := by decide +kernel
theorem dX12_secondHash_419 : decode cX12_secondHash 419 = .ok (.bipush 30, 2) := by decide +kernel
theorem dX12_secondHash_421 : decode cX12_secondHash 421 = .ok (.invokestatic 119, 3) := by decide +kernel
theorem dX12_secondHash_424 : decode cX12_secondHash 424 = .ok (.iload 9, 2) := by decide +kernel
theorem dX12_secondHash_426 : decode cX12_secondHash 426 = .ok (.bipush 19, 2) := by decide +kernel
theorem dX12_secondHash_428 : decode cX12_secondHash 428 = .ok (.invokestatic 119, 3) := by decide +kernel
theorem dX12_secondHash_431 : decode cX12_secondHash 431 = .ok (.ixor, 1) := by decide +kernel
theorem dX12_secondHash_432 : decode cX12_secondHash 432 = .ok (.iload 9, 2) := by decide +kernel
theorem dX12_secondHash_434 : decode cX12_secondHash 434 = .ok (.bipush 10, 2) := by decide +kernel
theorem dX12_secondHash_436 : decode cX12_secondHash 436 = .ok (.invokestatic 119, 3) := by decide +kernel
theorem dX12_secondHash_439 : decode cX12_secondHash 439 = .ok (.ixor, 1) := by decide +kernel
theorem dX12_secondHash_440 : decode cX12_secondHash 440 = .ok (.iadd, 1) := by decide +kernel
theorem dX12_secondHash_441 : decode cX12_secondHash 441 = .ok (.iload 9, 2) := by decide +kernel
theorem dX12_secondHash_443 : decode cX12_secondHash 443 = .ok (.iload 10, 2) := by decide +kernel
theorem dX12_secondHash_445 : decode cX12_secondHash 445 = .ok (.iand, 1) := by decide +kernel
theorem dX12_secondHash_446 : decode cX12_secondHash 446 = .ok (.iload 11, 2) := by decide +kernel
theorem dX12_secondHash_448 : decode cX12_secondHash 448 = .ok (.iload 9, 2) := by decide +kernel
theorem dX12_secondHash_450 : decode cX12_secondHash 450 = .ok (.iload 10, 2) := by decide +kernel
theorem dX12_secondHash_452 : decode cX12_secondHash 452 = .ok (.ior, 1) := by decide +kernel
theorem dX12_secondHash_453 : decode cX12_secondHash 453 = .ok (.iand, 1) := by decide +kernel
theorem dX12_secondHash_454 : decode cX12_secondHash 454 = .ok (.ior, 1) := by decide +kernel
theorem dX12_secondHash_455 : decode cX12_secondHash 455 = .ok (.iadd, 1) := by decide +kernel
theorem dX12_secondHash_456 : decode cX12_secondHash 456 = .ok (.iastore, 1) := by decide +kernel
theorem dX12_secondHash_457 : decode cX12_secondHash 457 = .ok (.iinc 3 1, 3) := by decide +kernel
theorem dX12_secondHash_460 : decode cX12_secondHash 460 = .ok (.goto (-354), 3) := by decide +kernel
theorem dX12_secondHash_463 : decode cX12_secondHash 463 = .ok (.iconst 0, 1) := by decide +kernel
theorem dX12_secondHash_464 : decode cX12_secondHash 464 = .ok (.istore_n 3, 1) := by decide +kernel
theorem dX12_secondHash_465 : decode cX12_secondHash 465 = .ok (.iload_n 3, 1) := by decide +kernel
theorem dX12_secondHash_466 : decode cX12_secondHash 466 = .ok (.bipush 8, 2) := by decide +kernel
theorem dX12_secondHash_468 : decode cX12_secondHash 468 = .ok (.if_icmp .ge 24, 3) := by decide +kernel
theorem dX12_secondHash_471 : decode cX12_secondHash 471 = .ok (.aload_n 0, 1) := by decide +kernel
theorem dX12_secondHash_472 : decode cX12_secondHash 472 = .ok (.getfield 49, 3) := by decide +kernel
theorem dX12_secondHash_475 : decode cX12_secondHash 475 = .ok (.iload_n 3, 1) := by decide +kernel
theorem dX12_secondHash_476 : decode cX12_secondHash 476 = .ok (.dup2, 1) := by decide +kernel
theorem dX12_secondHash_477 : decode cX12_secondHash 477 = .ok (.iaload, 1) := by decide +kernel
theorem dX12_secondHash_478 : decode cX12_secondHash 478 = .ok (.aload_n 0, 1) := by decide +kernel
theorem dX12_secondHash_479 : decode cX12_secondHash 479 = .ok (.getfield 52, 3) := by decide +kernel
theorem dX12_secondHash_482 : decode cX12_secondHash 482 = .ok (.iload_n 3, 1) := by decide +kernel
theorem dX12_secondHash_483 : decode cX12_secondHash 483 = .ok (.iaload, 1) := by decide +kernel
theorem dX12_secondHash_484 : decode cX12_secondHash 484 = .ok (.iadd, 1) := by decide +kernel
theorem dX12_secondHash_485 : decode cX12_secondHash 485 = .ok (.iastore, 1) := by decide +kernel
theorem dX12_secondHash_486 : decode cX12_secondHash 486 = .ok (.iinc 3 1, 3) := by decide +kernel
theorem dX12_secondHash_489 : decode cX12_secondHash 489 = .ok (.goto (-24), 3) := by decide +kernel
theorem dX12_secondHash_492 : decode cX12_secondHash 492 = .ok (.iinc 2 1, 3) := by decide +kernel
theorem dX12_secondHash_495 : decode cX12_secondHash 495 = .ok (.goto (-422), 3) := by decide +kernel
theorem dX12_secondHash_498 : decode cX12_secondHash 498 = .ok (.iconst 0, 1) := by decide +kernel
theorem dX12_secondHash_499 : decode cX12_secondHash 499 = .ok (.istore_n 2, 1) := by decide +kernel
theorem dX12_secondHash_500 : decode cX12_secondHash 500 = .ok (.iload_n 2, 1) := by decide +kernel
theorem dX12_secondHash_501 : decode cX12_secondHash 501 = .ok (.bipush 8, 2) := by decide +kernel
theorem dX12_secondHash_503 : decode cX12_secondHash 503 = .ok (.if_icmp .ge 20, 3) := by decide +kernel
theorem dX12_secondHash_506 : decode cX12_secondHash 506 = .ok (.aload_n 0, 1) := by decide +kernel
theorem dX12_secondHash_507 : decode cX12_secondHash 507 = .ok (.iload_n 2, 1) := by decide +kernel
theorem dX12_secondHash_508 : decode cX12_secondHash 508 = .ok (.aload_n 0, 1) := by decide +kernel
theorem dX12_secondHash_509 : decode cX12_secondHash 509 = .ok (.getfield 49, 3) := by decide +kernel
theorem dX12_secondHash_512 : decode cX12_secondHash 512 = .ok (.iload_n 2, 1) := by decide +kernel
theorem dX12_secondHash_513 : decode cX12_secondHash 513 = .ok (.iaload, 1) := by decide +kernel
theorem dX12_secondHash_514 : decode cX12_secondHash 514 = .ok (.invokevirtual 127, 3) := by decide +kernel
theorem dX12_secondHash_517 : decode cX12_secondHash 517 = .ok (.iinc 2 1, 3) := by decide +kernel
theorem dX12_secondHash_520 : decode cX12_secondHash 520 = .ok (.goto (-20), 3) := by decide +kernel
theorem dX12_secondHash_523 : decode cX12_secondHash 523 = .ok (.return_, 1) := by decide +kernel
theorem dX12_hashOf_0 : decode cX12_hashOf 0 = .ok (.iload_n 1, 1) := by decide +kernel
theorem dX12_hashOf_1 : decode cX12_hashOf 1 = .ok (.iconst 2, 1) := by decide +kernel
theorem dX12_hashOf_2 : decode cX12_hashOf 2 = .ok (.if_icmp .ne 10, 3) := by decide +kernel
theorem dX12_hashOf_5 : decode cX12_hashOf 5 = .ok (.aload_n 0, 1) := by decide +kernel
theorem dX12_hashOf_6 : decode cX12_hashOf 6 = .ok (.invokevirtual 142, 3) := by decide +kernel
theorem dX12_hashOf_9 : decode cX12_hashOf 9 = .ok (.bipush 20, 2) := by decide +kernel
theorem dX12_hashOf_11 : decode cX12_hashOf 11 = .ok (.ireturn, 1) := by decide +kernel
theorem dX12_hashOf_12 : decode cX12_hashOf 12 = .ok (.aload_n 0, 1) := by decide +kernel
theorem dX12_hashOf_13 : decode cX12_hashOf 13 = .ok (.invokevirtual 145, 3) := by decide +kernel
theorem dX12_hashOf_16 : decode cX12_hashOf 16 = .ok (.bipush 32, 2) := by decide +kernel
theorem dX12_hashOf_18 : decode cX12_hashOf 18 = .ok (.ireturn, 1) := by decide +kernel
theorem dX12_fail_0 : decode cX12_fail 0 = .ok (.aload_n 0, 1) := by decide +kernel
theorem dX12_fail_1 : decode cX12_fail 1 = .ok (.aload_n 0, 1) := by decide +kernel
theorem dX12_fail_2 : decode cX12_fail 2 = .ok (.getfield 178, 3) := by decide +kernel
theorem dX12_fail_5 : decode cX12_fail 5 = .ok (.ifCond .ne 7, 3) := by decide +kernel
theorem dX12_fail_8 : decode cX12_fail 8 = .ok (.iload_n 1, 1) := by decide +kernel
theorem dX12_fail_9 : decode cX12_fail 9 = .ok (.goto 7, 3) := by decide +kernel
theorem dX12_fail_12 : decode cX12_fail 12 = .ok (.aload_n 0, 1) := by decide +kernel
theorem dX12_fail_13 : decode cX12_fail 13 = .ok (.getfield 178, 3) := by decide +kernel
theorem dX12_fail_16 : decode cX12_fail 16 = .ok (.putfield 178, 3) := by decide +kernel
theorem dX12_fail_19 : decode cX12_fail 19 = .ok (.return_, 1) := by decide +kernel
theorem dX12_label_0 : decode cX12_label 0 = .ok (.iload_n 0, 1) := by decide +kernel
theorem dX12_label_1 : decode cX12_label 1 = .ok (.ifCond .ne 8, 3) := by decide +kernel
theorem dX12_label_4 : decode cX12_label 4 = .ok (.ldc 204, 2) := by decide +kernel
theorem dX12_label_6 : decode cX12_label 6 = .ok (.goto 15, 3) := by decide +kernel
theorem dX12_label_9 : decode cX12_label 9 = .ok (.iload_n 0, 1) := by decide +kernel
theorem dX12_label_10 : decode cX12_label 10 = .ok (.iconst 1, 1) := by decide +kernel
theorem dX12_label_11 : decode cX12_label 11 = .ok (.if_icmp .ne 8, 3) := by decide +kernel
theorem dX12_label_14 : decode cX12_label 14 = .ok (.ldc 206, 2) := by decide +kernel
theorem dX12_label_16 : decode cX12_label 16 = .ok (.goto 5, 3) := by decide +kernel
theorem dX12_label_19 : decode cX12_label 19 = .ok (.ldc 208, 2) := by decide +kernel
theorem dX12_label_21 : decode cX12_label 21 = .ok (.areturn, 1) := by decide +kernel
theorem dX12_signOf_0 : decode cX12_signOf 0 = .ok (.iload_n 0, 1) := by decide +kernel
theorem dX12_signOf_1 : decode cX12_signOf 1 = .ok (.bipush 26, 2) := by decide +kernel
theorem dX12_signOf_3 : decode cX12_signOf 3 = .ok (.if_icmp .ge 10, 3) := by decide +kernel
theorem dX12_signOf_6 : decode cX12_signOf 6 = .ok (.bipush 65, 2) := by decide +kernel
theorem dX12_signOf_8 : decode cX12_signOf 8 = .ok (.iload_n 0, 1) := by decide +kernel
theorem dX12_signOf_9 : decode cX12_signOf 9 = .ok (.iadd, 1) := by decide +kernel
theorem dX12_signOf_10 : decode cX12_signOf 10 = .ok (.goto 41, 3) := by decide +kernel
theorem dX12_signOf_13 : decode cX12_signOf 13 = .ok (.iload_n 0, 1) := by decide +kernel
theorem dX12_signOf_14 : decode cX12_signOf 14 = .ok (.bipush 52, 2) := by decide +kernel
theorem dX12_signOf_16 : decode cX12_signOf 16 = .ok (.if_icmp .ge 10, 3) := by decide +kernel
theorem dX12_signOf_19 : decode cX12_signOf 19 = .ok (.bipush 71, 2) := by decide +kernel
theorem dX12_signOf_21 : decode cX12_signOf 21 = .ok (.iload_n 0, 1) := by decide +kernel
theorem dX12_signOf_22 : decode cX12_signOf 22 = .ok (.iadd, 1) := by decide +kernel
theorem dX12_signOf_23 : decode cX12_signOf 23 = .ok (.goto 28, 3) := by decide +kernel
theorem dX12_signOf_26 : decode cX12_signOf 26 = .ok (.iload_n 0, 1) := by decide +kernel
theorem dX12_signOf_27 : decode cX12_signOf 27 = .ok (.bipush 62, 2) := by decide +kernel
theorem dX12_signOf_29 : decode cX12_signOf 29 = .ok (.if_icmp .ge 9, 3) := by decide +kernel
theorem dX12_signOf_32 : decode cX12_signOf 32 = .ok (.iload_n 0, 1) := by decide +kernel
theorem dX12_signOf_33 : decode cX12_signOf 33 = .ok (.iconst 4, 1) := by decide +kernel
theorem dX12_signOf_34 : decode cX12_signOf 34 = .ok (.isub, 1) := by decide +kernel
theorem dX12_signOf_35 : decode cX12_signOf 35 = .ok (.goto 16, 3) := by decide +kernel
theorem dX12_signOf_38 : decode cX12_signOf 38 = .ok (.iload_n 0, 1) := by decide +kernel
theorem dX12_signOf_39 : decode cX12_signOf 39 = .ok (.bipush 62, 2) := by decide +kernel
theorem dX12_signOf_41 : decode cX12_signOf 41 = .ok (.if_icmp .ne 8, 3) := by decide +kernel
theorem dX12_signOf_44 : decode cX12_signOf 44 = .ok (.bipush 43, 2) := by decide +kernel
theorem dX12_signOf_46 : decode cX12_signOf 46 = .ok (.goto 5, 3) := by decide +kernel
theorem dX12_signOf_49 : decode cX12_signOf 49 = .ok (.bipush 47, 2) := by decide +kernel
theorem dX12_signOf_51 : decode cX12_signOf 51 = .ok (.ireturn, 1) := by decide +kernel
theorem dX12_sumOf_0 : decode cX12_sumOf 0 = .ok (.ldc 222, 2) := by decide +kernel
theorem dX12_sumOf_2 : decode cX12_sumOf 2 = .ok (.istore_n 2, 1) := by decide +kernel
theorem dX12_sumOf_3 : decode cX12_sumOf 3 = .ok (.iconst 0, 1) := by decide +kernel
theorem dX12_sumOf_4 : decode cX12_sumOf 4 = .ok (.istore_n 3, 1) := by decide +kernel
theorem dX12_sumOf_5 : decode cX12_sumOf 5 = .ok (.iload_n 3, 1) := by decide +kernel
theorem dX12_sumOf_6 : decode cX12_sumOf 6 = .ok (.iload_n 1, 1) := by decide +kernel
theorem dX12_sumOf_7 : decode cX12_sumOf 7 = .ok (.if_icmp .ge 53, 3) := by decide +kernel
theorem dX12_sumOf_10 : decode cX12_sumOf 10 = .ok (.iload_n 2, 1) := by decide +kernel
theorem dX12_sumOf_11 : decode cX12_sumOf 11 = .ok (.aload_n 0, 1) := by decide +kernel
theorem dX12_sumOf_12 : decode cX12_sumOf 12 = .ok (.iload_n 3, 1) := by decide +kernel
theorem dX12_sumOf_13 : decode cX12_sumOf 13 = .ok (.iaload, 1) := by decide +kernel
theorem dX12_sumOf_14 : decode cX12_sumOf 14 = .ok (.ldc 223, 2) := by decide +kernel
theorem dX12_sumOf_16 : decode cX12_sumOf 16 = .ok (.imul, 1) := by decide +kernel
theorem dX12_sumOf_17 : decode cX12_sumOf 17 = .ok (.ixor, 1) := by decide +kernel
theorem dX12_sumOf_18 : decode cX12_sumOf 18 = .ok (.istore_n 2, 1) := by decide +kernel
theorem dX12_sumOf_19 : decode cX12_sumOf 19 = .ok (.iconst 0, 1) := by decide +kernel
theorem dX12_sumOf_20 : decode cX12_sumOf 20 = .ok (.istore 4, 2) := by decide +kernel
theorem dX12_sumOf_22 : decode cX12_sumOf 22 = .ok (.iload 4, 2) := by decide +kernel
theorem dX12_sumOf_24 : decode cX12_sumOf 24 = .ok (.bipush 8, 2) := by decide +kernel
theorem dX12_sumOf_26 : decode cX12_sumOf 26 = .ok (.if_icmp .ge 28, 3) := by decide +kernel
theorem dX12_sumOf_29 : decode cX12_sumOf 29 = .ok (.iconst 2, 1) := by decide +kernel
theorem dX12_sumOf_30 : decode cX12_sumOf 30 = .ok (.iload_n 2, 1) := by decide +kernel
theorem dX12_sumOf_31 : decode cX12_sumOf 31 = .ok (.imul, 1) := by decide +kernel
theorem dX12_sumOf_32 : decode cX12_sumOf 32 = .ok (.istore_n 2, 1) := by decide +kernel
theorem dX12_sumOf_33 : decode cX12_sumOf 33 = .ok (.iload_n 2, 1) := by decide +kernel
theorem dX12_sumOf_34 : decode cX12_sumOf 34 = .ok (.ldc 224, 2) := by decide +kernel
theorem dX12_sumOf_36 : decode cX12_sumOf 36 = .ok (.if_icmp .lt 10, 3) := by decide +kernel
theorem dX12_sumOf_39 : decode cX12_sumOf 39 = .ok (.iload_n 2, 1) := by decide +kernel
theorem dX12_sumOf_40 : decode cX12_sumOf 40 = .ok (.ldc 225, 2) := by decide +kernel
theorem dX12_sumOf_42 : decode cX12_sumOf 42 = .ok (.ixor, 1) := by decide +kernel
theorem dX12_sumOf_43 : decode cX12_sumOf 43 = .ok (.goto 4, 3) := by decide +kernel
theorem dX12_sumOf_46 : decode cX12_sumOf 46 = .ok (.iload_n 2, 1) := by decide +kernel
theorem dX12_sumOf_47 : decode cX12_sumOf 47 = .ok (.istore_n 2, 1) := by decide +kernel
theorem dX12_sumOf_48 : decode cX12_sumOf 48 = .ok (.iinc 4 1, 3) := by decide +kernel
theorem dX12_sumOf_51 : decode cX12_sumOf 51 = .ok (.goto (-29), 3) := by decide +kernel
theorem dX12_sumOf_54 : decode cX12_sumOf 54 = .ok (.iinc 3 1, 3) := by decide +kernel
theorem dX12_sumOf_57 : decode cX12_sumOf 57 = .ok (.goto (-52), 3) := by decide +kernel
theorem dX12_sumOf_60 : decode cX12_sumOf 60 = .ok (.iload_n 2, 1) := by decide +kernel
theorem dX12_sumOf_61 : decode cX12_sumOf 61 = .ok (.ireturn, 1) := by decide +kernel
theorem dX12_open_0 : decode cX12_open 0 = .ok (.aload_n 0, 1) := by decide +kernel
theorem dX12_open_1 : decode cX12_open 1 = .ok (.aload_n 1, 1) := by decide +kernel
theorem dX12_open_2 : decode cX12_open 2 = .ok (.putfield 272, 3) := by decide +kernel
theorem dX12_open_5 : decode cX12_open 5 = .ok (.aload_n 0, 1) := by decide +kernel
theorem dX12_open_6 : decode cX12_open 6 = .ok (.iconst 0, 1) := by decide +kernel
theorem dX12_open_7 : decode cX12_open 7 = .ok (.putfield 275, 3) := by decide +kernel
theorem dX12_open_10 : decode cX12_open 10 = .ok (.aload_n 0, 1) := by decide +kernel
theorem dX12_open_11 : decode cX12_open 11 = .ok (.iconst 0, 1) := by decide +kernel
theorem dX12_open_12 : decode cX12_open 12 = .ok (.putfield 269, 3) := by decide +kernel
theorem dX12_open_15 : decode cX12_open 15 = .ok (.return_, 1) := by decide +kernel
theorem dX12_readKeys_0 : decode cX12_readKeys 0 = .ok (.iconst (-1), 1) := by decide +kernel
theorem dX12_readKeys_1 : decode cX12_readKeys 1 = .ok (.istore_n 1, 1) := by decide +kernel
theorem dX12_readKeys_2 : decode cX12_readKeys 2 = .ok (.iconst (-1), 1) := by decide +kernel
theorem dX12_readKeys_3 : decode cX12_readKeys 3 = .ok (.istore_n 2, 1) := by decide +kernel
theorem dX12_readKeys_4 : decode cX12_readKeys 4 = .ok (.iconst 0, 1) := by decide +kernel
theorem dX12_readKeys_5 : decode cX12_readKeys 5 = .ok (.istore_n 3, 1) := by decide +kernel
theorem dX12_readKeys_6 : decode cX12_readKeys 6 = .ok (.aload_n 0, 1) := by decide +kernel
theorem dX12_readKeys_7 : decode cX12_readKeys 7 = .ok (.getfield 178, 3) := by decide +kernel
theorem dX12_readKeys_10 : decode cX12_readKeys 10 = .ok (.ifCond .ne 262, 3) := by decide +kernel
theorem dX12_readKeys_13 : decode cX12_readKeys 13 = .ok (.aload_n 0, 1) := by decide +kernel
theorem dX12_readKeys_14 : decode cX12_readKeys 14 = .ok (.getfield 275, 3) := by decide +kernel
theorem dX12_readKeys_17 : decode cX12_readKeys 17 = .ok (.aload_n 0, 1) := by decide +kernel
theorem dX12_readKeys_18 : decode cX12_readKeys 18 = .ok (.getfield 272, 3) := by decide +kernel
theorem dX12_readKeys_21 : decode cX12_readKeys 21 = .ok (.arraylength, 1) := by decide +kernel
theorem dX12_readKeys_22 : decode cX12_readKeys 22 = .ok (.if_icmp .ge 250, 3) := by decide +kernel
theorem dX12_readKeys_25 : decode cX12_readKeys 25 = .ok (.aload_n 0, 1) := by decide +kernel
theorem dX12_readKeys_26 : decode cX12_readKeys 26 = .ok (.invokevirtual 450, 3) := by decide +kernel
theorem dX12_readKeys_29 : decode cX12_readKeys 29 = .ok (.ifCond .eq 243, 3) := by decide +kernel
theorem dX12_readKeys_32 : decode cX12_readKeys 32 = .ok (.aload_n 0, 1) := by decide +kernel
theorem dX12_readKeys_33 : decode cX12_readKeys 33 = .ok (.getfield 290, 3) := by decide +kernel
theorem dX12_readKeys_36 : decode cX12_readKeys 36 = .ok (.bipush 10, 2) := by decide +kernel
theorem dX12_readKeys_38 : decode cX12_readKeys 38 = .ok (.if_icmp .eq 30, 3) := by decide +kernel
theorem dX12_readKeys_41 : decode cX12_readKeys 41 = .ok (.aload_n 0, 1) := by decide +kernel
theorem dX12_readKeys_42 : decode cX12_readKeys 42 = .ok (.getfield 290, 3) := by decide +kernel
theorem dX12_readKeys_45 : decode cX12_readKeys 45 = .ok (.bipush 12, 2) := by decide +kernel
theorem dX12_readKeys_47 : decode cX12_readKeys 47 = .ok (.if_icmp .eq 21, 3) := by decide +kernel
theorem dX12_readKeys_50 : decode cX12_readKeys 50 = .ok (.aload_n 0, 1) := by decide +kernel
theorem dX12_readKeys_51 : decode cX12_readKeys 51 = .ok (.getfield 290, 3) := by decide +kernel
theorem dX12_readKeys_54 : decode cX12_readKeys 54 = .ok (.bipush 17, 2) := by decide +kernel
theorem dX12_readKeys_56 : decode cX12_readKeys 56 = .ok (.if_icmp .eq 12, 3) := by decide +kernel
theorem dX12_readKeys_59 : decode cX12_readKeys 59 = .ok (.aload_n 0, 1) := by decide +kernel
theorem dX12_readKeys_60 : decode cX12_readKeys 60 = .ok (.getfield 290, 3) := by decide +kernel
theorem dX12_readKeys_63 : decode cX12_readKeys 63 = .ok (.bipush 40, 2) := by decide +kernel
theorem dX12_readKeys_65 : decode cX12_readKeys 65 = .ok (.if_icmp .lt 7, 3) := by decide +kernel
theorem dX12_readKeys_68 : decode cX12_readKeys 68 = .ok (.iconst 1, 1) := by decide +kernel
theorem dX12_readKeys_69 : decode cX12_readKeys 69 = .ok (.goto 4, 3) := by decide +kernel
theorem dX12_readKeys_72 : decode cX12_readKeys 72 = .ok (.iconst 0, 1) := by decide +kernel
theorem dX12_readKeys_73 : decode cX12_readKeys 73 = .ok (.istore 4, 2) := by decide +kernel
theorem dX12_readKeys_75 : decode cX12_readKeys 75 = .ok (.iload 4, 2) := by decide +kernel
theorem dX12_readKeys_77 : decode cX12_readKeys 77 = .ok (.ifCond .ne 192, 3) := by decide +kernel
theorem dX12_readKeys_80 : decode cX12_readKeys 80 = .ok (.aload_n 0, 1) := by decide +kernel
theorem dX12_readKeys_81 : decode cX12_readKeys 81 = .ok (.getfield 290, 3) := by decide +kernel
theorem dX12_readKeys_84 : decode cX12_readKeys 84 = .ok (.invokestatic 453, 3) := by decide +kernel
theorem dX12_readKeys_87 : decode cX12_readKeys 87 = .ok (.istore 5, 2) := by decide +kernel
theorem dX12_readKeys_89 : decode cX12_readKeys 89 = .ok (.aload_n 0, 1) := by decide +kernel
theorem dX12_readKeys_90 : decode cX12_readKeys 90 = .ok (.getfield 290, 3) := by decide +kernel
theorem dX12_readKeys_93 : decode cX12_readKeys 93 = .ok (.invokestatic 456, 3) := by decide +kernel
theorem dX12_readKeys_96 : decode cX12_readKeys 96 = .ok (.istore 6, 2) := by decide +kernel
theorem dX12_readKeys_98 : decode cX12_readKeys 98 = .ok (.iload 5, 2) := by decide +kernel
theorem dX12_readKeys_100 : decode cX12_readKeys 100 = .ok (.ifCond .ne 30, 3) := by decide +kernel
theorem dX12_readKeys_103 : decode cX12_readKeys 103 = .ok (.iload_n 1, 1) := by decide +kernel
theorem dX12_readKeys_104 : decode cX12_readKeys 104 = .ok (.iconst (-1), 1) := by decide +kernel
theorem dX12_readKeys_105 : decode cX12_readKeys 105 = .ok (.if_icmp .eq 29, 3) := by decide +kernel
theorem dX12_readKeys_108 : decode cX12_readKeys 108 = .ok (.iload 6, 2) := by decide +kernel
theorem dX12_readKeys_110 : decode cX12_readKeys 110 = .ok (.ifCond .ne 20, 3) := by decide +kernel
theorem dX12_readKeys_113 : decode cX12_readKeys 113 = .ok (.aload_n 0, 1) := by decide +kernel
theorem dX12_readKeys_114 : decode cX12_readKeys 114 = .ok (.getfield 290, 3) := by decide +kernel
theorem dX12_readKeys_117 : decode cX12_readKeys 117 = .ok (.iconst 2, 1) := by decide +kernel
theorem dX12_readKeys_118 : decode cX12_readKeys 118 = .ok (.if_icmp .eq 12, 3) := by decide +kernel
theorem dX12_readKeys_121 : decode cX12_readKeys 121 = .ok (.aload_n 0, 1) := by decide +kernel
theorem dX12_readKeys_122 : decode cX12_readKeys 122 = .ok (.getfield 290, 3) := by decide +kernel
theorem dX12_readKeys_125 : decode cX12_readKeys 125 = .ok (.bipush 13, 2) := by decide +kernel
theorem dX12_readKeys_127 : decode cX12_readKeys 127 = .ok (.if_icmp .ne 7, 3) := by decide +kernel
theorem dX12_readKeys_130 : decode cX12_readKeys 130 = .ok (.iconst 1, 1) := by decide +kernel
theorem dX12_readKeys_131 : decode cX12_readKeys 131 = .ok (.goto 4, 3) := by decide +kernel
theorem dX12_readKeys_134 : decode cX12_readKeys 134 = .ok (.iconst 0, 1) := by decide +kernel
theorem dX12_readKeys_135 : decode cX12_readKeys 135 = .ok (.istore 7, 2) := by decide +kernel
theorem dX12_readKeys_137 : decode cX12_readKeys 137 = .ok (.iload 7, 2) := by decide +kernel
theorem dX12_readKeys_139 : decode cX12_readKeys 139 = .ok (.ifCond .eq 46, 3) := by decide +kernel
theorem dX12_readKeys_142 : decode cX12_readKeys 142 = .ok (.iload 5, 2) := by decide +kernel
theorem dX12_readKeys_144 : decode cX12_readKeys 144 = .ok (.ifCond .ne 8, 3) := by decide +kernel
theorem dX12_readKeys_147 : decode cX12_readKeys 147 = .ok (.iload 6, 2) := by decide +kernel
theorem dX12_readKeys_149 : decode cX12_readKeys 149 = .ok (.ifCond .eq 45, 3) := by decide +kernel
theorem dX12_readKeys_152 : decode cX12_readKeys 152 = .ok (.aload_n 0, 1) := by decide +kernel
theorem dX12_readKeys_153 : decode cX12_readKeys 153 = .ok (.aload_n 0, 1) := by decide +kernel
theorem dX12_readKeys_154 : decode cX12_readKeys 154 = .ok (.getfield 299, 3) := by decide +kernel
theorem dX12_readKeys_157 : decode cX12_readKeys 157 = .ok (.aload_n 0, 1) := by decide +kernel
theorem dX12_readKeys_158 : decode cX12_readKeys 158 = .ok (.getfield 290, 3) := by decide +kernel
theorem dX12_readKeys_161 : decode cX12_readKeys 161 = .ok (.iconst 5, 1) := by decide +kernel
theorem dX12_readKeys_162 : decode cX12_readKeys 162 = .ok (.if_icmp .eq 12, 3) := by decide +kernel
theorem dX12_readKeys_165 : decode cX12_readKeys 165 = .ok (.aload_n 0, 1) := by decide +kernel
theorem dX12_readKeys_166 : decode cX12_readKeys 166 = .ok (.getfield 290, 3) := by decide +kernel
theorem dX12_readKeys_169 : decode cX12_readKeys 169 = .ok (.bipush 7, 2) := by decide +kernel
theorem dX12_readKeys_171 : decode cX12_readKeys 171 = .ok (.if_icmp .ne 7, 3) := by decide +kernel
theorem dX12_readKeys_174 : decode cX12_readKeys 174 = .ok (.iconst 1, 1) := by decide +kernel
theorem dX12_readKeys_175 : decode cX12_readKeys 175 = .ok (.goto 4, 3) := by decide +kernel
theorem dX12_readKeys_178 : decode cX12_readKeys 178 = .ok (.iconst 0, 1) := by decide +kernel
theorem dX12_readKeys_179 : decode cX12_readKeys 179 = .ok (.invokevirtual 409, 3) := by decide +kernel
theorem dX12_readKeys_182 : decode cX12_readKeys 182 = .ok (.ifCond .ne 12, 3) := by decide +kernel
theorem dX12_readKeys_185 : decode cX12_readKeys 185 = .ok (.aload_n 0, 1) := by decide +kernel
theorem dX12_readKeys_186 : decode cX12_readKeys 186 = .ok (.invokevirtual 278, 3) := by decide +kernel
theorem dX12_readKeys_189 : decode cX12_readKeys 189 = .ok (.istore 8, 2) := by decide +kernel
theorem dX12_readKeys_191 : decode cX12_readKeys 191 = .ok (.goto 78, 3) := by decide +kernel
theorem dX12_readKeys_194 : decode cX12_readKeys 194 = .ok (.iload 5, 2) := by decide +kernel
theorem dX12_readKeys_196 : decode cX12_readKeys 196 = .ok (.ifCond .eq 25, 3) := by decide +kernel
theorem dX12_readKeys_199 : decode cX12_readKeys 199 = .ok (.aload_n 0, 1) := by decide +kernel
theorem dX12_readKeys_200 : decode cX12_readKeys 200 = .ok (.iconst 0, 1) := by decide +kernel
theorem dX12_readKeys_201 : decode cX12_readKeys 201 = .ok (.aload_n 0, 1) := by decide +kernel
theorem dX12_readKeys_202 : decode cX12_readKeys 202 = .ok (.getfield 428, 3) := by decide +kernel
theorem dX12_readKeys_205 : decode cX12_readKeys 205 = .ok (.bipush 6, 2) := by decide +kernel
theorem dX12_readKeys_207 : decode cX12_readKeys 207 = .ok (.bipush 16, 2) := by decide +kernel
theorem dX12_readKeys_209 : decode cX12_readKeys 209 = .ok (.invokevirtual 459, 3) := by decide +kernel
theorem dX12_readKeys_212 : decode cX12_readKeys 212 = .ok (.istore_n 1, 1) := by decide +kernel
theorem dX12_readKeys_213 : decode cX12_readKeys 213 = .ok (.iload_n 1, 1) := by decide +kernel
theorem dX12_readKeys_214 : decode cX12_readKeys 214 = .ok (.istore_n 2, 1) := by decide +kernel
theorem dX12_readKeys_215 : decode cX12_readKeys 215 = .ok (.iinc 3 1, 3) := by decide +kernel
theorem dX12_readKeys_218 : decode cX12_readKeys 218 = .ok (.goto 51, 3) := by decide +kernel
theorem dX12_readKeys_221 : decode cX12_readKeys 221 = .ok (.iload 6, 2) := by decide +kernel
theorem dX12_readKeys_223 : decode cX12_readKeys 223 = .ok (.ifCond .eq 23, 3) := by decide +kernel
theorem dX12_readKeys_226 : decode cX12_readKeys 226 = .ok (.aload_n 0, 1) := by decide +kernel
theorem dX12_readKeys_227 : decode cX12_readKeys 227 = .ok (.iload_n 1, 1) := by decide +kernel
theorem dX12_readKeys_228 : decode cX12_readKeys 228 = .ok (.iconst 1, 1) := by decide +kernel
theorem dX12_readKeys_229 : decode cX12_readKeys 229 = .ok (.iadd, 1) := by decide +kernel
theorem dX12_readKeys_230 : decode cX12_readKeys 230 = .ok (.aload_n 0, 1) := by decide +kernel
theorem dX12_readKeys_231 : decode cX12_readKeys 231 = .ok (.iload_n 1, 1) := by decide +kernel
theorem dX12_readKeys_232 : decode cX12_readKeys 232 = .ok (.invokevirtual 447, 3) := by decide +kernel
theorem dX12_readKeys_235 : decode cX12_readKeys 235 = .ok (.bipush 14, 2) := by decide +kernel
theorem dX12_readKeys_237 : decode cX12_readKeys 237 = .ok (.bipush 8, 2) := by decide +kernel
theorem dX12_readKeys_239 : decode cX12_readKeys 239 = .ok (.invokevirtual 459, 3) := by decide +kernel
theorem dX12_readKeys_242 : decode cX12_readKeys 242 = .ok (.istore_n 2, 1) := by decide +kernel
theorem dX12_readKeys_243 : decode cX12_readKeys 243 = .ok (.goto 26, 3) := by decide +kernel
theorem dX12_readKeys_246 : decode cX12_readKeys 246 = .ok (.aload_n 0, 1) := by decide +kernel
theorem dX12_readKeys_247 : decode cX12_readKeys 247 = .ok (.getfield 290, 3) := by decide +kernel
theorem dX12_readKeys_250 : decode cX12_readKeys 250 = .ok (.bipush 13, 2) := by decide +kernel
theorem dX12_readKeys_252 : decode cX12_readKeys 252 = .ok (.if_icmp .ne 12, 3) := by decide +kernel
theorem dX12_readKeys_255 : decode cX12_readKeys 255 = .ok (.aload_n 0, 1) := by decide +kernel
theorem dX12_readKeys_256 : decode cX12_readKeys 256 = .ok (.iload_n 1, 1) := by decide +kernel
theorem dX12_readKeys_257 : decode cX12_readKeys 257 = .ok (.invokevirtual 463, 3) := by decide +kernel
theorem dX12_readKeys_260 : decode cX12_readKeys 260 = .ok (.istore_n 2, 1) := by decide +kernel
theorem dX12_readKeys_261 : decode cX12_readKeys 261 = .ok (.goto 8, 3) := by decide +kernel
theorem dX12_readKeys_264 : decode cX12_readKeys 264 = .ok (.aload_n 0, 1) := by decide +kernel
theorem dX12_readKeys_265 : decode cX12_readKeys 265 = .ok (.iload_n 2, 1) := by decide +kernel
theorem dX12_readKeys_266 : decode cX12_readKeys 266 = .ok (.invokevirtual 466, 3) := by decide +kernel
theorem dX12_readKeys_269 : decode cX12_readKeys 269 = .ok (.goto (-263), 3) := by decide +kernel
theorem dX12_readKeys_272 : decode cX12_readKeys 272 = .ok (.aload_n 0, 1) := by decide +kernel
theorem dX12_readKeys_273 : decode cX12_readKeys 273 = .ok (.getfield 178, 3) := by decide +kernel
theorem dX12_readKeys_276 : decode cX12_readKeys 276 = .ok (.ifCond .ne 18, 3) := by decide +kernel
theorem dX12_readKeys_279 : decode cX12_readKeys 279 = .ok (.iload_n 3, 1) := by decide +kernel
theorem dX12_readKeys_280 : decode cX12_readKeys 280 = .ok (.ifCond .ne 14, 3) := by decide +kernel
theorem dX12_readKeys_283 : decode cX12_readKeys 283 = .ok (.aload_n 0, 1) := by decide +kernel
theorem dX12_readKeys_284 : decode cX12_readKeys 284 = .ok (.iconst (-1), 1) := by decide +kernel
theorem dX12_readKeys_285 : decode cX12_readKeys 285 = .ok (.aload_n 0, 1) := by decide +kernel
theorem dX12_readKeys_286 : decode cX12_readKeys 286 = .ok (.getfield 272, 3) := by decide +kernel
theorem dX12_readKeys_289 : decode cX12_readKeys 289 = .ok (.arraylength, 1) := by decide +kernel
theorem dX12_readKeys_290 : decode cX12_readKeys 290 = .ok (.isub, 1) := by decide +kernel
theorem dX12_readKeys_291 : decode cX12_readKeys 291 = .ok (.invokevirtual 182, 3) := by decide +kernel
theorem dX12_readKeys_294 : decode cX12_readKeys 294 = .ok (.iload_n 3, 1) := by decide +kernel
theorem dX12_readKeys_295 : decode cX12_readKeys 295 = .ok (.ireturn, 1) := by decide +kernel
theorem dX12_join_0 : decode cX12_join 0 = .ok (.aload_n 0, 1) := by decide +kernel
theorem dX12_join_1 : decode cX12_join 1 = .ok (.iconst 0, 1) := by decide +kernel
theorem dX12_join_2 : decode cX12_join 2 = .ok (.putfield 78, 3) := by decide +kernel
theorem dX12_join_5 : decode cX12_join 5 = .ok (.aload_n 0, 1) := by decide +kernel
theorem dX12_join_6 : decode cX12_join 6 = .ok (.iconst 0, 1) := by decide +kernel
theorem dX12_join_7 : decode cX12_join 7 = .ok (.putfield 178, 3) := by decide +kernel
theorem dX12_join_10 : decode cX12_join 10 = .ok (.aload_n 0, 1) := by decide +kernel
theorem dX12_join_11 : decode cX12_join 11 = .ok (.aload_n 0, 1) := by decide +kernel
theorem dX12_join_12 : decode cX12_join 12 = .ok (.getfield 485, 3) := by decide +kernel
theorem dX12_join_15 : decode cX12_join 15 = .ok (.putfield 428, 3) := by decide +kernel
theorem dX12_join_18 : decode cX12_join 18 = .ok (.iconst 0, 1) := by decide +kernel
theorem dX12_join_19 : decode cX12_join 19 = .ok (.istore_n 1, 1) := by decide +kernel
theorem dX12_join_20 : decode cX12_join 20 = .ok (.iload_n 1, 1) := by decide +kernel
theorem dX12_join_21 : decode cX12_join 21 = .ok (.aload_n 0, 1) := by decide +kernel
theorem dX12_join_22 : decode cX12_join 22 = .ok (.getfield 485, 3) := by decide +kernel
theorem dX12_join_25 : decode cX12_join 25 = .ok (.if_icmp .ge 45, 3) := by decide +kernel
theorem dX12_join_28 : decode cX12_join 28 = .ok (.aload_n 0, 1) := by decide +kernel
theorem dX12_join_29 : decode cX12_join 29 = .ok (.getfield 31, 3) := by decide +kernel
theorem dX12_join_32 : decode cX12_join 32 = .ok (.iload_n 1, 1) := by decide +kernel
theorem dX12_join_33 : decode cX12_join 33 = .ok (.aload_n 0, 1) := by decide +kernel
theorem dX12_join_34 : decode cX12_join 34 = .ok (.getfield 20, 3) := by decide +kernel
theorem dX12_join_37 : decode cX12_join 37 = .ok (.iload_n 1, 1) := by decide +kernel
theorem dX12_join_38 : decode cX12_join 38 = .ok (.iaload, 1) := by decide +kernel
theorem dX12_join_39 : decode cX12_join 39 = .ok (.iastore, 1) := by decide +kernel
theorem dX12_join_40 : decode cX12_join 40 = .ok (.aload_n 0, 1) := by decide +kernel
theorem dX12_join_41 : decode cX12_join 41 = .ok (.getfield 34, 3) := by decide +kernel
theorem dX12_join_44 : decode cX12_join 44 = .ok (.iload_n 1, 1) := by decide +kernel
theorem dX12_join_45 : decode cX12_join 45 = .ok (.aload_n 0, 1) := by decide +kernel
theorem dX12_join_46 : decode cX12_join 46 = .ok (.getfield 24, 3) := by decide +kernel
theorem dX12_join_49 : decode cX12_join 49 = .ok (.iload_n 1, 1) := by decide +kernel
theorem dX12_join_50 : decode cX12_join 50 = .ok (.aaload, 1) := by decide +kernel
theorem dX12_join_51 : decode cX12_join 51 = .ok (.aastore, 1) := by decide +kernel
theorem dX12_join_52 : decode cX12_join 52 = .ok (.aload_n 0, 1) := by decide +kernel
theorem dX12_join_53 : decode cX12_join 53 = .ok (.getfield 37, 3) := by decide +kernel
theorem dX12_join_56 : decode cX12_join 56 = .ok (.iload_n 1, 1) := by decide +kernel
theorem dX12_join_57 : decode cX12_join 57 = .ok (.aload_n 0, 1) := by decide +kernel
theorem dX12_join_58 : decode cX12_join 58 = .ok (.getfield 28, 3) := by decide +kernel
theorem dX12_join_61 : decode cX12_join 61 = .ok (.iload_n 1, 1) := by decide +kernel
theorem dX12_join_62 : decode cX12_join 62 = .ok (.aaload, 1) := by decide +kernel
theorem dX12_join_63 : decode cX12_join 63 = .ok (.aastore, 1) := by decide +kernel
theorem dX12_join_64 : decode cX12_join 64 = .ok (.iinc 1 1, 3) := by decide +kernel
theorem dX12_join_67 : decode cX12_join 67 = .ok (.goto (-47), 3) := by decide +kernel
theorem dX12_join_70 : decode cX12_join 70 = .ok (.aload_n 0, 1) := by decide +kernel
theorem dX12_join_71 : decode cX12_join 71 = .ok (.invokevirtual 488, 3) := by decide +kernel
theorem dX12_join_74 : decode cX12_join 74 = .ok (.astore_n 1, 1) := by decide +kernel
theorem dX12_join_75 : decode cX12_join 75 = .ok (.aload_n 1, 1) := by decide +kernel
theorem dX12_join_76 : decode cX12_join 76 = .ok (.arraylength, 1) := by decide +kernel
theorem dX12_join_77 : decode cX12_join 77 = .ok (.ifCond .le 33, 3) := by decide +kernel
theorem dX12_join_80 : decode cX12_join 80 = .ok (.aload_n 1, 1) := by decide +kernel
theorem dX12_join_81 : decode cX12_join 81 = .ok (.iconst 0, 1) := by decide +kernel
theorem dX12_join_82 : decode cX12_join 82 = .ok (.iaload, 1) := by decide +kernel
theorem dX12_join_83 : decode cX12_join 83 = .ok (.sipush 128, 3) := by decide +kernel
theorem dX12_join_86 : decode cX12_join 86 = .ok (.if_icmp .ge 24, 3) := by decide +kernel
theorem dX12_join_89 : decode cX12_join 89 = .ok (.aload_n 0, 1) := by decide +kernel
theorem dX12_join_90 : decode cX12_join 90 = .ok (.aload_n 1, 1) := by decide +kernel
theorem dX12_join_91 : decode cX12_join 91 = .ok (.invokevirtual 491, 3) := by decide +kernel
theorem dX12_join_94 : decode cX12_join 94 = .ok (.aload_n 0, 1) := by decide +kernel
theorem dX12_join_95 : decode cX12_join 95 = .ok (.getfield 178, 3) := by decide +kernel
theorem dX12_join_98 : decode cX12_join 98 = .ok (.ifCond .ne 10, 3) := by decide +kernel
theorem dX12_join_101 : decode cX12_join 101 = .ok (.aload_n 0, 1) := by decide +kernel
theorem dX12_join_102 : decode cX12_join 102 = .ok (.invokevirtual 494, 3) := by decide +kernel
theorem dX12_join_105 : decode cX12_join 105 = .ok (.goto 4, 3) := by decide +kernel
theorem dX12_join_108 : decode cX12_join 108 = .ok (.aload_n 1, 1) := by decide +kernel
theorem dX12_join_109 : decode cX12_join 109 = .ok (.astore_n 1, 1) := by decide +kernel
theorem dX12_join_110 : decode cX12_join 110 = .ok (.iconst 0, 1) := by decide +kernel
theorem dX12_join_111 : decode cX12_join 111 = .ok (.istore_n 2, 1) := by decide +kernel
theorem dX12_join_112 : decode cX12_join 112 = .ok (.aload_n 0, 1) := by decide +kernel
theorem dX12_join_113 : decode cX12_join 113 = .ok (.getfield 178, 3) := by decide +kernel
theorem dX12_join_116 : decode cX12_join 116 = .ok (.ifCond .ne 13, 3) := by decide +kernel
theorem dX12_join_119 : decode cX12_join 119 = .ok (.aload_n 0, 1) := by decide +kernel
theorem dX12_join_120 : decode cX12_join 120 = .ok (.aload_n 1, 1) := by decide +kernel
theorem dX12_join_121 : decode cX12_join 121 = .ok (.invokevirtual 497, 3) := by decide +kernel
theorem dX12_join_124 : decode cX12_join 124 = .ok (.aload_n 0, 1) := by decide +kernel
theorem dX12_join_125 : decode cX12_join 125 = .ok (.invokevirtual 500, 3) := by decide +kernel
theorem dX12_join_128 : decode cX12_join 128 = .ok (.istore_n 2, 1) := by decide +kernel
theorem dX12_join_129 : decode cX12_join 129 = .ok (.aload_n 0, 1) := by decide +kernel
theorem dX12_join_130 : decode cX12_join 130 = .ok (.getfield 178, 3) := by decide +kernel
theorem dX12_join_133 : decode cX12_join 133 = .ok (.ifCond .eq 8, 3) := by decide +kernel
theorem dX12_join_136 : decode cX12_join 136 = .ok (.aload_n 0, 1) := by decide +kernel
theorem dX12_join_137 : decode cX12_join 137 = .ok (.getfield 178, 3) := by decide +kernel
theorem dX12_join_140 : decode cX12_join 140 = .ok (.ireturn, 1) := by decide +kernel
theorem dX12_join_141 : decode cX12_join 141 = .ok (.aload_n 0, 1) := by decide +kernel
theorem dX12_join_142 : decode cX12_join 142 = .ok (.getfield 20, 3) := by decide +kernel
theorem dX12_join_145 : decode cX12_join 145 = .ok (.astore_n 3, 1) := by decide +kernel
theorem dX12_join_146 : decode cX12_join 146 = .ok (.aload_n 0, 1) := by decide +kernel
theorem dX12_join_147 : decode cX12_join 147 = .ok (.getfield 24, 3) := by decide +kernel
theorem dX12_join_150 : decode cX12_join 150 = .ok (.astore 4, 2) := by decide +kernel
theorem dX12_join_152 : decode cX12_join 152 = .ok (.aload_n 0, 1) := by decide +kernel
theorem dX12_join_153 : decode cX12_join 153 = .ok (.getfield 28, 3) := by decide +kernel
theorem dX12_join_156 : decode cX12_join 156 = .ok (.astore 5, 2) := by decide +kernel
theorem dX12_join_158 : decode cX12_join 158 = .ok (.aload_n 0, 1) := by decide +kernel
theorem dX12_join_159 : decode cX12_join 159 = .ok (.aload_n 0, 1) := by decide +kernel
theorem dX12_join_160 : decode cX12_join 160 = .ok (.getfield 31, 3) := by decide +kernel
theorem dX12_join_163 : decode cX12_join 163 = .ok (.putfield 20, 3) := by decide +kernel
theorem dX12_join_166 : decode cX12_join 166 = .ok (.aload_n 0, 1) := by decide +kernel
theorem dX12_join_167 : decode cX12_join 167 = .ok (.aload_n 0, 1) := by decide +kernel
theorem dX12_join_168 : decode cX12_join 168 = .ok (.getfield 34, 3) := by decide +kernel
theorem dX12_join_171 : decode cX12_join 171 = .ok (.putfield 24, 3) := by decide +kernel
theorem dX12_join_174 : decode cX12_join 174 = .ok (.aload_n 0, 1) := by decide +kernel
theorem dX12_join_175 : decode cX12_join 175 = .ok (.aload_n 0, 1) := by decide +kernel
theorem dX12_join_176 : decode cX12_join 176 = .ok (.getfield 37, 3) := by decide +kernel
theorem dX12_join_179 : decode cX12_join 179 = .ok (.putfield 28, 3) := by decide +kernel
theorem dX12_join_182 : decode cX12_join 182 = .ok (.aload_n 0, 1) := by decide +kernel
theorem dX12_join_183 : decode cX12_join 183 = .ok (.aload_n 0, 1) := by decide +kernel
theorem dX12_join_184 : decode cX12_join 184 = .ok (.getfield 428, 3) := by decide +kernel
theorem dX12_join_187 : decode cX12_join 187 = .ok (.putfield 485, 3) := by decide +kernel
theorem dX12_join_190 : decode cX12_join 190 = .ok (.aload_n 0, 1) := by decide +kernel
theorem dX12_join_191 : decode cX12_join 191 = .ok (.aload_n 3, 1) := by decide +kernel
theorem dX12_join_192 : decode cX12_join 192 = .ok (.putfield 31, 3) := by decide +kernel
theorem dX12_join_195 : decode cX12_join 195 = .ok (.aload_n 0, 1) := by decide +kernel
theorem dX12_join_196 : decode cX12_join 196 = .ok (.aload 4, 2) := by decide +kernel
theorem dX12_join_198 : decode cX12_join 198 = .ok (.putfield 34, 3) := by decide +kernel
theorem dX12_join_201 : decode cX12_join 201 = .ok (.aload_n 0, 1) := by decide +kernel
theorem dX12_join_202 : decode cX12_join 202 = .ok (.aload 5, 2) := by decide +kernel
theorem dX12_join_204 : decode cX12_join 204 = .ok (.putfield 37, 3) := by decide +kernel
theorem dX12_join_207 : decode cX12_join 207 = .ok (.iload_n 2, 1) := by decide +kernel
theorem dX12_join_208 : decode cX12_join 208 = .ok (.ireturn, 1) := by decide +kernel
theorem dX12_placeOf_0 : decode cX12_placeOf 0 = .ok (.iconst (-1), 1) := by decide +kernel
theorem dX12_placeOf_1 : decode cX12_placeOf 1 = .ok (.istore_n 2, 1) := by decide +kernel
theorem dX12_placeOf_2 : decode cX12_placeOf 2 = .ok (.iconst 0, 1) := by decide +kernel
theorem dX12_placeOf_3 : decode cX12_placeOf 3 = .ok (.istore_n 3, 1) := by decide +kernel
theorem dX12_placeOf_4 : decode cX12_placeOf 4 = .ok (.iload_n 3, 1) := by decide +kernel
theorem dX12_placeOf_5 : decode cX12_placeOf 5 = .ok (.aload_n 0, 1) := by decide +kernel
theorem dX12_placeOf_6 : decode cX12_placeOf 6 = .ok (.getfield 485, 3) := by decide +kernel
theorem dX12_placeOf_9 : decode cX12_placeOf 9 = .ok (.if_icmp .ge 39, 3) := by decide +kernel
theorem dX12_placeOf_12 : decode cX12_placeOf 12 = .ok (.aload_n 0, 1) := by decide +kernel
theorem dX12_placeOf_13 : decode cX12_placeOf 13 = .ok (.getfield 20, 3) := by decide +kernel
theorem dX12_placeOf_16 : decode cX12_placeOf 16 = .ok (.iload_n 3, 1) := by decide +kernel
theorem dX12_placeOf_17 : decode cX12_placeOf 17 = .ok (.iaload, 1) := by decide +kernel
theorem dX12_placeOf_18 : decode cX12_placeOf 18 = .ok (.bipush 6, 2) := by decide +kernel
theorem dX12_placeOf_20 : decode cX12_placeOf 20 = .ok (.if_icmp .ne 9, 3) := by decide +kernel
theorem dX12_placeOf_23 : decode cX12_placeOf 23 = .ok (.iload_n 2, 1) := by decide +kernel
theorem dX12_placeOf_24 : decode cX12_placeOf 24 = .ok (.iconst 1, 1) := by decide +kernel
theorem dX12_placeOf_25 : decode cX12_placeOf 25 = .ok (.iadd, 1) := by decide +kernel
theorem dX12_placeOf_26 : decode cX12_placeOf 26 = .ok (.goto 4, 3) := by decide +kernel
theorem dX12_placeOf_29 : decode cX12_placeOf 29 = .ok (.iload_n 2, 1) := by decide +kernel
theorem dX12_placeOf_30 : decode cX12_placeOf 30 = .ok (.istore_n 2, 1) := by decide +kernel
theorem dX12_placeOf_31 : decode cX12_placeOf 31 = .ok (.iload_n 2, 1) := by decide +kernel
theorem dX12_placeOf_32 : decode cX12_placeOf 32 = .ok (.iload_n 1, 1) := by decide +kernel
theorem dX12_placeOf_33 : decode cX12_placeOf 33 = .ok (.if_icmp .ne 9, 3) := by decide +kernel
theorem dX12_placeOf_36 : decode cX12_placeOf 36 = .ok (.iload_n 1, 1) := by decide +kernel
theorem dX12_placeOf_37 : decode cX12_placeOf 37 = .ok (.ifCond .lt 5, 3) := by decide +kernel
theorem dX12_placeOf_40 : decode cX12_placeOf 40 = .ok (.iload_n 3, 1) := by decide +kernel
theorem dX12_placeOf_41 : decode cX12_placeOf 41 = .ok (.ireturn, 1) := by decide +kernel
theorem dX12_placeOf_42 : decode cX12_placeOf 42 = .ok (.iinc 3 1, 3) := by decide +kernel
theorem dX12_placeOf_45 : decode cX12_placeOf 45 = .ok (.goto (-41), 3) := by decide +kernel
theorem dX12_placeOf_48 : decode cX12_placeOf 48 = .ok (.iconst (-1), 1) := by decide +kernel
theorem dX12_placeOf_49 : decode cX12_placeOf 49 = .ok (.ireturn, 1) := by decide +kernel
theorem dX12_document_0 : decode cX12_document 0 = .ok (.aload_n 0, 1) := by decide +kernel
theorem dX12_document_1 : decode cX12_document 1 = .ok (.iconst 0, 1) := by decide +kernel
theorem dX12_document_2 : decode cX12_document 2 = .ok (.putfield 78, 3) := by decide +kernel
theorem dX12_document_5 : decode cX12_document 5 = .ok (.aload_n 0, 1) := by decide +kernel
theorem dX12_document_6 : decode cX12_document 6 = .ok (.aload_n 0, 1) := by decide +kernel
theorem dX12_document_7 : decode cX12_document 7 = .ok (.invokevirtual 488, 3) := by decide +kernel
theorem dX12_document_10 : decode cX12_document 10 = .ok (.putfield 13, 3) := by decide +kernel
theorem dX12_document_13 : decode cX12_document 13 = .ok (.aload_n 0, 1) := by decide +kernel
theorem dX12_document_14 : decode cX12_document 14 = .ok (.getfield 13, 3) := by decide +kernel
theorem dX12_document_17 : decode cX12_document 17 = .ok (.arraylength, 1) := by decide +kernel
theorem dX12_document_18 : decode cX12_document 18 = .ok (.ireturn, 1) := by decide +kernel
theorem dX12_readCase_0 : decode cX12_readCase 0 = .ok (.aload_n 1, 1) := by decide +kernel
theorem dX12_readCase_1 : decode cX12_readCase 1 = .ok (.arraylength, 1) := by decide +kernel
theorem dX12_readCase_2 : decode cX12_readCase 2 = .ok (.ifCond .ne 9, 3) := by decide +kernel
theorem dX12_readCase_5 : decode cX12_readCase 5 = .ok (.aload_n 0, 1) := by decide +kernel
theorem dX12_readCase_6 : decode cX12_readCase 6 = .ok (.iconst (-1), 1) := by decide +kernel
theorem dX12_readCase_7 : decode cX12_readCase 7 = .ok (.invokevirtual 182, 3) := by decide +kernel
theorem dX12_readCase_10 : decode cX12_readCase 10 = .ok (.return_, 1) := by decide +kernel
theorem dX12_readCase_11 : decode cX12_readCase 11 = .ok (.aload_n 1, 1) := by decide +kernel
theorem dX12_readCase_12 : decode cX12_readCase 12 = .ok (.iconst 0, 1) := by decide +kernel
theorem dX12_readCase_13 : decode cX12_readCase 13 = .ok (.iaload, 1) := by decide +kernel
theorem dX12_readCase_14 : decode cX12_readCase 14 = .ok (.bipush 127, 2) := by decide +kernel
theorem dX12_readCase_16 : decode cX12_readCase 16 = .ok (.if_icmp .le 9, 3) := by decide +kernel
theorem dX12_readCase_19 : decode cX12_readCase 19 = .ok (.aload_n 0, 1) := by decide +kernel
theorem dX12_readCase_20 : decode cX12_readCase 20 = .ok (.aload_n 1, 1) := by decide +kernel
theorem dX12_readCase_21 : decode cX12_readCase 21 = .ok (.invokevirtual 565, 3) := by decide +kernel
theorem dX12_readCase_24 : decode cX12_readCase 24 = .ok (.return_, 1) := by decide +kernel
theorem dX12_readCase_25 : decode cX12_readCase 25 = .ok (.aload_n 0, 1) := by decide +kernel
theorem dX12_readCase_26 : decode cX12_readCase 26 = .ok (.aload_n 1, 1) := by decide +kernel
theorem dX12_readCase_27 : decode cX12_readCase 27 = .ok (.invokevirtual 491, 3) := by decide +kernel
theorem dX12_readCase_30 : decode cX12_readCase 30 = .ok (.aload_n 0, 1) := by decide +kernel
theorem dX12_readCase_31 : decode cX12_readCase 31 = .ok (.getfield 178, 3) := by decide +kernel
theorem dX12_readCase_34 : decode cX12_readCase 34 = .ok (.ifCond .eq 4, 3) := by decide +kernel
theorem dX12_readCase_37 : decode cX12_readCase 37 = .ok (.return_, 1) := by decide +kernel
theorem dX12_readCase_38 : decode cX12_readCase 38 = .ok (.aload_n 0, 1) := by decide +kernel
theorem dX12_readCase_39 : decode cX12_readCase 39 = .ok (.ldc_w 568, 3) := by decide +kernel
theorem dX12_readCase_42 : decode cX12_readCase 42 = .ok (.invokevirtual 255, 3) := by decide +kernel
theorem dX12_readCase_45 : decode cX12_readCase 45 = .ok (.ifCond .eq 8, 3) := by decide +kernel
theorem dX12_readCase_48 : decode cX12_readCase 48 = .ok (.aload_n 0, 1) := by decide +kernel
theorem dX12_readCase_49 : decode cX12_readCase 49 = .ok (.invokevirtual 570, 3) := by decide +kernel
theorem dX12_readCase_52 : decode cX12_readCase 52 = .ok (.return_, 1) := by decide +kernel
theorem dX12_readCase_53 : decode cX12_readCase 53 = .ok (.aload_n 0, 1) := by decide +kernel
theorem dX12_readCase_54 : decode cX12_readCase 54 = .ok (.invokevirtual 494, 3) := by decide +kernel
theorem dX12_readCase_57 : decode cX12_readCase 57 = .ok (.astore_n 2, 1) := by decide +kernel
theorem dX12_readCase_58 : decode cX12_readCase 58 = .ok (.aload_n 0, 1) := by decide +kernel
theorem dX12_readCase_59 : decode cX12_readCase 59 = .ok (.getfield 178, 3) := by decide +kernel
theorem dX12_readCase_62 : decode cX12_readCase 62 = .ok (.ifCond .ne 13, 3) := by decide +kernel
theorem dX12_readCase_65 : decode cX12_readCase 65 = .ok (.aload_n 2, 1) := by decide +kernel
theorem dX12_readCase_66 : decode cX12_readCase 66 = .ok (.arraylength, 1) := by decide +kernel
theorem dX12_readCase_67 : decode cX12_readCase 67 = .ok (.ifCond .ne 8, 3) := by decide +kernel
theorem dX12_readCase_70 : decode cX12_readCase 70 = .ok (.aload_n 0, 1) := by decide +kernel
theorem dX12_readCase_71 : decode cX12_readCase 71 = .ok (.iconst (-1), 1) := by decide +kernel
theorem dX12_readCase_72 : decode cX12_readCase 72 = .ok (.invokevirtual 182, 3) := by decide +kernel
theorem dX12_readCase_75 : decode cX12_readCase 75 = .ok (.aload_n 0, 1) := by decide +kernel
theorem dX12_readCase_76 : decode cX12_readCase 76 = .ok (.getfield 178, 3) := by decide +kernel
theorem dX12_readCase_79 : decode cX12_readCase 79 = .ok (.ifCond .ne 8, 3) := by decide +kernel
theorem dX12_readCase_82 : decode cX12_readCase 82 = .ok (.aload_n 0, 1) := by decide +kernel
theorem dX12_readCase_83 : decode cX12_readCase 83 = .ok (.aload_n 2, 1) := by decide +kernel
theorem dX12_readCase_84 : decode cX12_readCase 84 = .ok (.invokevirtual 565, 3) := by decide +kernel
theorem dX12_readCase_87 : decode cX12_readCase 87 = .ok (.return_, 1) := by decide +kernel
theorem dX12_isTime_0 : decode cX12_isTime 0 = .ok (.lload_n 0, 1) := by decide +kernel
theorem dX12_isTime_1 : decode cX12_isTime 1 = .ok (.lconst 0, 1) := by decide +kernel
theorem dX12_isTime_2 : decode cX12_isTime 2 = .ok (.lcmp, 1) := by decide +kernel
theorem dX12_isTime_3 : decode cX12_isTime 3 = .ok (.ifCond .lt 15, 3) := by decide +kernel
theorem dX12_isTime_6 : decode cX12_isTime 6 = .ok (.lload_n 0, 1) := by decide +kernel
theorem dX12_isTime_7 : decode cX12_isTime 7 = .ok (.ldc2_w 151, 3) := by decide +kernel
theorem dX12_isTime_10 : decode cX12_isTime 10 = .ok (.lcmp, 1) := by decide +kernel
theorem dX12_isTime_11 : decode cX12_isTime 11 = .ok (.ifCond .gt 7, 3) := by decide +kernel
theorem dX12_isTime_14 : decode cX12_isTime 14 = .ok (.iconst 1, 1) := by decide +kernel
theorem dX12_isTime_15 : decode cX12_isTime 15 = .ok (.goto 4, 3) := by decide +kernel
theorem dX12_isTime_18 : decode cX12_isTime 18 = .ok (.iconst 0, 1) := by decide +kernel
theorem dX12_isTime_19 : decode cX12_isTime 19 = .ok (.ireturn, 1) := by decide +kernel
theorem dX12_look_0 : decode cX12_look 0 = .ok (.aload_n 0, 1) := by decide +kernel
theorem dX12_look_1 : decode cX12_look 1 = .ok (.lload_n 1, 1) := by decide +kernel
theorem dX12_look_2 : decode cX12_look 2 = .ok (.invokestatic 573, 3) := by decide +kernel
theorem dX12_look_5 : decode cX12_look 5 = .ok (.ifCond .eq 7, 3) := by decide +kernel
theorem dX12_look_8 : decode cX12_look 8 = .ok (.iconst 0, 1) := by decide +kernel
theorem dX12_look_9 : decode cX12_look 9 = .ok (.goto 4, 3) := by decide +kernel
theorem dX12_look_12 : decode cX12_look 12 = .ok (.iconst 1, 1) := by decide +kernel
theorem dX12_look_13 : decode cX12_look 13 = .ok (.putfield 78, 3) := by decide +kernel
theorem dX12_look_16 : decode cX12_look 16 = .ok (.aload_n 0, 1) := by decide +kernel
theorem dX12_look_17 : decode cX12_look 17 = .ok (.getfield 78, 3) := by decide +kernel
theorem dX12_look_20 : decode cX12_look 20 = .ok (.ifCond .le 5, 3) := by decide +kernel
theorem dX12_look_23 : decode cX12_look 23 = .ok (.iconst 0, 1) := by decide +kernel
theorem dX12_look_24 : decode cX12_look 24 = .ok (.ireturn, 1) := by decide +kernel
theorem dX12_look_25 : decode cX12_look 25 = .ok (.aload_n 0, 1) := by decide +kernel
theorem dX12_look_26 : decode cX12_look 26 = .ok (.iconst 0, 1) := by decide +kernel
theorem dX12_look_27 : decode cX12_look 27 = .ok (.putfield 178, 3) := by decide +kernel
theorem dX12_look_30 : decode cX12_look 30 = .ok (.aload_n 0, 1) := by decide +kernel
theorem dX12_look_31 : decode cX12_look 31 = .ok (.aload_n 0, 1) := by decide +kernel
theorem dX12_look_32 : decode cX12_look 32 = .ok (.invokevirtual 488, 3) := by decide +kernel
theorem dX12_look_35 : decode cX12_look 35 = .ok (.invokevirtual 576, 3) := by decide +kernel
theorem dX12_look_38 : decode cX12_look 38 = .ok (.aload_n 0, 1) := by decide +kernel
theorem dX12_look_39 : decode cX12_look 39 = .ok (.getfield 178, 3) := by decide +kernel
theorem dX12_look_42 : decode cX12_look 42 = .ok (.ifCond .eq 8, 3) := by decide +kernel
theorem dX12_look_45 : decode cX12_look 45 = .ok (.aload_n 0, 1) := by decide +kernel
theorem dX12_look_46 : decode cX12_look 46 = .ok (.getfield 178, 3) := by decide +kernel
theorem dX12_look_49 : decode cX12_look 49 = .ok (.ireturn, 1) := by decide +kernel
theorem dX12_look_50 : decode cX12_look 50 = .ok (.aload_n 0, 1) := by decide +kernel
theorem dX12_look_51 : decode cX12_look 51 = .ok (.aload_n 0, 1) := by decide +kernel
theorem dX12_look_52 : decode cX12_look 52 = .ok (.getfield 551, 3) := by decide +kernel
theorem dX12_look_55 : decode cX12_look 55 = .ok (.invokevirtual 479, 3) := by decide +kernel
theorem dX12_look_58 : decode cX12_look 58 = .ok (.istore_n 3, 1) := by decide +kernel
theorem dX12_look_59 : decode cX12_look 59 = .ok (.aload_n 0, 1) := by decide +kernel
theorem dX12_look_60 : decode cX12_look 60 = .ok (.getfield 381, 3) := by decide +kernel
theorem dX12_look_63 : decode cX12_look 63 = .ok (.ifCond .ne 17, 3) := by decide +kernel
theorem dX12_look_66 : decode cX12_look 66 = .ok (.aload_n 0, 1) := by decide +kernel
theorem dX12_look_67 : decode cX12_look 67 = .ok (.getfield 369, 3) := by decide +kernel
theorem dX12_look_70 : decode cX12_look 70 = .ok (.ifnonnull 12, 3) := by decide +kernel
theorem dX12_look_73 : decode cX12_look 73 = .ok (.aload_n 0, 1) := by decide +kernel
theorem dX12_look_74 : decode cX12_look 74 = .ok (.getfield 366, 3) := by decide +kernel
theorem dX12_look_77 : decode cX12_look 77 = .ok (.ifnonnull 5, 3) := by decide +kernel
theorem dX12_look_80 : decode cX12_look 80 = .ok (.iconst 1, 1) := by decide +kernel
theorem dX12_look_81 : decode cX12_look 81 = .ok (.ireturn, 1) := by decide +kernel
theorem dX12_look_82 : decode cX12_look 82 = .ok (.iconst (-1), 1) := by decide +kernel
theorem dX12_look_83 : decode cX12_look 83 = .ok (.istore 4, 2) := by decide +kernel
theorem dX12_look_85 : decode cX12_look 85 = .ok (.iconst (-1), 1) := by decide +kernel
theorem dX12_look_86 : decode cX12_look 86 = .ok (.istore 5, 2) := by decide +kernel
theorem dX12_look_88 : decode cX12_look 88 = .ok (.iconst (-1), 1) := by decide +kernel
theorem dX12_look_89 : decode cX12_look 89 = .ok (.istore 6, 2) := by decide +kernel
theorem dX12_look_91 : decode cX12_look 91 = .ok (.iconst 0, 1) := by decide +kernel
theorem dX12_look_92 : decode cX12_look 92 = .ok (.istore 7, 2) := by decide +kernel
theorem dX12_look_94 : decode cX12_look 94 = .ok (.iload 7, 2) := by decide +kernel
theorem dX12_look_96 : decode cX12_look 96 = .ok (.aload_n 0, 1) := by decide +kernel
theorem dX12_look_97 : decode cX12_look 97 = .ok (.getfield 485, 3) := by decide +kernel
theorem dX12_look_100 : decode cX12_look 100 = .ok (.if_icmp .ge 82, 3) := by decide +kernel
theorem dX12_look_103 : decode cX12_look 103 = .ok (.iload 5, 2) := by decide +kernel
theorem dX12_look_105 : decode cX12_look 105 = .ok (.iconst (-1), 1) := by decide +kernel
theorem dX12_look_106 : decode cX12_look 106 = .ok (.if_icmp .ne 76, 3) := by decide +kernel
theorem dX12_look_109 : decode cX12_look 109 = .ok (.aload_n 0, 1) := by decide +kernel
theorem dX12_look_110 : decode cX12_look 110 = .ok (.getfield 20, 3) := by decide +kernel
theorem dX12_look_113 : decode cX12_look 113 = .ok (.iload 7, 2) := by decide +kernel
theorem dX12_look_115 : decode cX12_look 115 = .ok (.iaload, 1) := by decide +kernel
theorem dX12_look_116 : decode cX12_look 116 = .ok (.bipush 6, 2) := by decide +kernel
theorem dX12_look_118 : decode cX12_look 118 = .ok (.if_icmp .ne 8, 3) := by decide +kernel
theorem dX12_look_121 : decode cX12_look 121 = .ok (.iload 7, 2) := by decide +kernel
theorem dX12_look_123 : decode cX12_look 123 = .ok (.goto 5, 3) := by decide +kernel
theorem dX12_look_126 : decode cX12_look 126 = .ok (.iload 6, 2) := by decide +kernel
theorem dX12_look_128 : decode cX12_look 128 = .ok (.istore 6, 2) := by decide +kernel
theorem dX12_look_130 : decode cX12_look 130 = .ok (.aload_n 0, 1) := by decide +kernel
theorem dX12_look_131 : decode cX12_look 131 = .ok (.getfield 20, 3) := by decide +kernel
theorem dX12_look_134 : decode cX12_look 134 = .ok (.iload 7, 2) := by decide +kernel
theorem dX12_look_136 : decode cX12_look 136 = .ok (.iaload, 1) := by decide +kernel
theorem dX12_look_137 : decode cX12_look 137 = .ok (.bipush 6, 2) := by decide +kernel
theorem dX12_look_139 : decode cX12_look 139 = .ok (.if_icmp .eq 15, 3) := by decide +kernel
theorem dX12_look_142 : decode cX12_look 142 = .ok (.aload_n 0, 1) := by decide +kernel
theorem dX12_look_143 : decode cX12_look 143 = .ok (.getfield 20, 3) := by decide +kernel
theorem dX12_look_146 : decode cX12_look 146 = .ok (.iload 7, 2) := by decide +kernel
theorem dX12_look_148 : decode cX12_look 148 = .ok (.iaload, 1) := by decide +kernel
theorem dX12_look_149 : decode cX12_look 149 = .ok (.bipush 14, 2) := by decide +kernel
theorem dX12_look_151 : decode cX12_look 151 = .ok (.if_icmp .ne 25, 3) := by decide +kernel
theorem dX12_look_154 : decode cX12_look 154 = .ok (.aload_n 0, 1) := by decide +kernel
theorem dX12_look_155 : decode cX12_look 155 = .ok (.aload_n 0, 1) := by decide +kernel
theorem dX12_look_156 : decode cX12_look 156 = .ok (.getfield 24, 3) := by decide +kernel
theorem dX12_look_159 : decode cX12_look 159 = .ok (.iload 7, 2) := by decide +kernel
theorem dX12_look_161 : decode cX12_look 161 = .ok (.aaload, 1) := by decide +kernel
theorem dX12_look_162 : decode cX12_look 162 = .ok (.invokevirtual 579, 3) := by decide +kernel
theorem dX12_look_165 : decode cX12_look 165 = .ok (.ifCond .eq 11, 3) := by decide +kernel
theorem dX12_look_168 : decode cX12_look 168 = .ok (.iload 6, 2) := by decide +kernel
theorem dX12_look_170 : decode cX12_look 170 = .ok (.istore 4, 2) := by decide +kernel
theorem dX12_look_172 : decode cX12_look 172 = .ok (.iload 7, 2) := by decide +kernel
theorem dX12_look_174 : decode cX12_look 174 = .ok (.istore 5, 2) := by decide +kernel
theorem dX12_look_176 : decode cX12_look 176 = .ok (.iinc 7 1, 3) := by decide +kernel
theorem dX12_look_179 : decode cX12_look 179 = .ok (.goto (-85), 3) := by decide +kernel
theorem dX12_look_182 : decode cX12_look 182 = .ok (.iload 5, 2) := by decide +kernel
theorem dX12_look_184 : decode cX12_look 184 = .ok (.iconst (-1), 1) := by decide +kernel
theorem dX12_look_185 : decode cX12_look 185 = .ok (.if_icmp .ne 5, 3) := by decide +kernel
theorem dX12_look_188 : decode cX12_look 188 = .ok (.iconst 2, 1) := by decide +kernel
theorem dX12_look_189 : decode cX12_look 189 = .ok (.ireturn, 1) := by decide +kernel
theorem dX12_look_190 : decode cX12_look 190 = .ok (.aload_n 0, 1) := by decide +kernel
theorem dX12_look_191 : decode cX12_look 191 = .ok (.getfield 353, 3) := by decide +kernel
theorem dX12_look_194 : decode cX12_look 194 = .ok (.lstore 7, 2) := by decide +kernel
theorem dX12_look_196 : decode cX12_look 196 = .ok (.aload_n 0, 1) := by decide +kernel
theorem dX12_look_197 : decode cX12_look 197 = .ok (.lload_n 1, 1) := by decide +kernel
theorem dX12_look_198 : decode cX12_look 198 = .ok (.invokevirtual 509, 3) := by decide +kernel
theorem dX12_look_201 : decode cX12_look 201 = .ok (.istore 9, 2) := by decide +kernel
theorem dX12_look_203 : decode cX12_look 203 = .ok (.aload_n 0, 1) := by decide +kernel
theorem dX12_look_204 : decode cX12_look 204 = .ok (.iconst 0, 1) := by decide +kernel
theorem dX12_look_205 : decode cX12_look 205 = .ok (.putfield 93, 3) := by decide +kernel
theorem dX12_look_208 : decode cX12_look 208 = .ok (.aload_n 0, 1) := by decide +kernel
theorem dX12_look_209 : decode cX12_look 209 = .ok (.aload_n 0, 1) := by decide +kernel
theorem dX12_look_210 : decode cX12_look 210 = .ok (.getfield 554, 3) := by decide +kernel
theorem dX12_look_213 : decode cX12_look 213 = .ok (.aload_n 0, 1) := by decide +kernel
theorem dX12_look_214 : decode cX12_look 214 = .ok (.getfield 390, 3) := by decide +kernel
theorem dX12_look_217 : decode cX12_look 217 = .ok (.iconst 1, 1) := by decide +kernel
theorem dX12_look_218 : decode cX12_look 218 = .ok (.if_icmp .ne 7, 3) := by decide +kernel
theorem dX12_look_221 : decode cX12_look 221 = .ok (.iconst 1, 1) := by decide +kernel
theorem dX12_look_222 : decode cX12_look 222 = .ok (.goto 4, 3) := by decide +kernel
theorem dX12_look_225 : decode cX12_look 225 = .ok (.iconst 0, 1) := by decide +kernel
theorem dX12_look_226 : decode cX12_look 226 = .ok (.invokevirtual 582, 3) := by decide +kernel
theorem dX12_look_229 : decode cX12_look 229 = .ok (.aload_n 0, 1) := by decide +kernel
theorem dX12_look_230 : decode cX12_look 230 = .ok (.aload_n 0, 1) := by decide +kernel
theorem dX12_look_231 : decode cX12_look 231 = .ok (.getfield 551, 3) := by decide +kernel
theorem dX12_look_234 : decode cX12_look 234 = .ok (.aload_n 0, 1) := by decide +kernel
theorem dX12_look_235 : decode cX12_look 235 = .ok (.getfield 24, 3) := by decide +kernel
theorem dX12_look_238 : decode cX12_look 238 = .ok (.iload 5, 2) := by decide +kernel
theorem dX12_look_240 : decode cX12_look 240 = .ok (.aaload, 1) := by decide +kernel
theorem dX12_look_241 : decode cX12_look 241 = .ok (.invokevirtual 506, 3) := by decide +kernel
theorem dX12_look_244 : decode cX12_look 244 = .ok (.ifCond .ne 5, 3) := by decide +kernel
theorem dX12_look_247 : decode cX12_look 247 = .ok (.iconst 3, 1) := by decide +kernel
theorem dX12_look_248 : decode cX12_look 248 = .ok (.ireturn, 1) := by decide +kernel
theorem dX12_look_249 : decode cX12_look 249 = .ok (.lload 7, 2) := by decide +kernel
theorem dX12_look_251 : decode cX12_look 251 = .ok (.lload_n 1, 1) := by decide +kernel
theorem dX12_look_252 : decode cX12_look 252 = .ok (.lcmp, 1) := by decide +kernel
theorem dX12_look_253 : decode cX12_look 253 = .ok (.ifCond .gt 8, 3) := by decide +kernel
theorem dX12_look_256 : decode cX12_look 256 = .ok (.iload 9, 2) := by decide +kernel
theorem dX12_look_258 : decode cX12_look 258 = .ok (.ifCond .eq 5, 3) := by decide +kernel
theorem dX12_look_261 : decode cX12_look 261 = .ok (.iconst 4, 1) := by decide +kernel
theorem dX12_look_262 : decode cX12_look 262 = .ok (.ireturn, 1) := by decide +kernel
theorem dX12_look_263 : decode cX12_look 263 = .ok (.aload_n 0, 1) := by decide +kernel
theorem dX12_look_264 : decode cX12_look 264 = .ok (.iload 4, 2) := by decide +kernel
theorem dX12_look_266 : decode cX12_look 266 = .ok (.iload 5, 2) := by decide +kernel
theorem dX12_look_268 : decode cX12_look 268 = .ok (.lload_n 1, 1) := by decide +kernel
theorem dX12_look_269 : decode cX12_look 269 = .ok (.invokevirtual 586, 3) := by decide +kernel
theorem dX12_look_272 : decode cX12_look 272 = .ok (.istore 10, 2) := by decide +kernel
theorem dX12_look_274 : decode cX12_look 274 = .ok (.iload 10, 2) := by decide +kernel
theorem dX12_look_276 : decode cX12_look 276 = .ok (.ifCond .ne 7, 3) := by decide +kernel
theorem dX12_look_279 : decode cX12_look 279 = .ok (.iconst 0, 1) := by decide +kernel
theorem dX12_look_280 : decode cX12_look 280 = .ok (.goto 8, 3) := by decide +kernel
theorem dX12_look_283 : decode cX12_look 283 = .ok (.bipush 10, 2) := by decide +kernel
theorem dX12_look_285 : decode cX12_look 285 = .ok (.iload 10, 2) := by decide +kernel
theorem dX12_look_287 : decode cX12_look 287 = .ok (.iadd, 1) := by decide +kernel
theorem dX12_look_288 : decode cX12_look 288 = .ok (.ireturn, 1) := by decide +kernel
theorem dX12_keys_0 : decode cX12_keys 0 = .ok (.aload_n 0, 1) := by decide +kernel
theorem dX12_keys_1 : decode cX12_keys 1 = .ok (.iconst 0, 1) := by decide +kernel
theorem dX12_keys_2 : decode cX12_keys 2 = .ok (.putfield 78, 3) := by decide +kernel
theorem dX12_keys_5 : decode cX12_keys 5 = .ok (.iconst 0, 1) := by decide +kernel
theorem dX12_keys_6 : decode cX12_keys 6 = .ok (.istore_n 1, 1) := by decide +kernel
theorem dX12_keys_7 : decode cX12_keys 7 = .ok (.iconst 0, 1) := by decide +kernel
theorem dX12_keys_8 : decode cX12_keys 8 = .ok (.istore_n 2, 1) := by decide +kernel
theorem dX12_keys_9 : decode cX12_keys 9 = .ok (.iload_n 2, 1) := by decide +kernel
theorem dX12_keys_10 : decode cX12_keys 10 = .ok (.aload_n 0, 1) := by decide +kernel
theorem dX12_keys_11 : decode cX12_keys 11 = .ok (.getfield 485, 3) := by decide +kernel
theorem dX12_keys_14 : decode cX12_keys 14 = .ok (.if_icmp .ge 28, 3) := by decide +kernel
theorem dX12_keys_17 : decode cX12_keys 17 = .ok (.aload_n 0, 1) := by decide +kernel
theorem dX12_keys_18 : decode cX12_keys 18 = .ok (.getfield 20, 3) := by decide +kernel
theorem dX12_keys_21 : decode cX12_keys 21 = .ok (.iload_n 2, 1) := by decide +kernel
theorem dX12_keys_22 : decode cX12_keys 22 = .ok (.iaload, 1) := by decide +kernel
theorem dX12_keys_23 : decode cX12_keys 23 = .ok (.bipush 6, 2) := by decide +kernel
theorem dX12_keys_25 : decode cX12_keys 25 = .ok (.if_icmp .ne 9, 3) := by decide +kernel
theorem dX12_keys_28 : decode cX12_keys 28 = .ok (.iload_n 1, 1) := by decide +kernel
theorem dX12_keys_29 : decode cX12_keys 29 = .ok (.iconst 1, 1) := by decide +kernel
theorem dX12_keys_30 : decode cX12_keys 30 = .ok (.iadd, 1) := by decide +kernel
theorem dX12_keys_31 : decode cX12_keys 31 = .ok (.goto 4, 3) := by decide +kernel
theorem dX12_keys_34 : decode cX12_keys 34 = .ok (.iload_n 1, 1) := by decide +kernel
theorem dX12_keys_35 : decode cX12_keys 35 = .ok (.istore_n 1, 1) := by decide +kernel
theorem dX12_keys_36 : decode cX12_keys 36 = .ok (.iinc 2 1, 3) := by decide +kernel
theorem dX12_keys_39 : decode cX12_keys 39 = .ok (.goto (-30), 3) := by decide +kernel
theorem dX12_keys_42 : decode cX12_keys 42 = .ok (.iload_n 1, 1) := by decide +kernel
theorem dX12_keys_43 : decode cX12_keys 43 = .ok (.ireturn, 1) := by decide +kernel
theorem dX12_key_0 : decode cX12_key 0 = .ok (.aload_n 0, 1) := by decide +kernel
theorem dX12_key_1 : decode cX12_key 1 = .ok (.iload_n 1, 1) := by decide +kernel
theorem dX12_key_2 : decode cX12_key 2 = .ok (.invokevirtual 590, 3) := by decide +kernel
theorem dX12_key_5 : decode cX12_key 5 = .ok (.istore_n 3, 1) := by decide +kernel
theorem dX12_key_6 : decode cX12_key 6 = .ok (.aload_n 0, 1) := by decide +kernel
theorem dX12_key_7 : decode cX12_key 7 = .ok (.iload_n 3, 1) := by decide +kernel
theorem dX12_key_8 : decode cX12_key 8 = .ok (.iconst (-1), 1) := by decide +kernel
theorem dX12_key_9 : decode cX12_key 9 = .ok (.if_icmp .eq 12, 3) := by decide +kernel
theorem dX12_key_12 : decode cX12_key 12 = .ok (.iload_n 2, 1) := by decide +kernel
theorem dX12_key_13 : decode cX12_key 13 = .ok (.ifCond .lt 8, 3) := by decide +kernel
theorem dX12_key_16 : decode cX12_key 16 = .ok (.iload_n 2, 1) := by decide +kernel
theorem dX12_key_17 : decode cX12_key 17 = .ok (.iconst 5, 1) := by decide +kernel
theorem dX12_key_18 : decode cX12_key 18 = .ok (.if_icmp .le 7, 3) := by decide +kernel
theorem dX12_key_21 : decode cX12_key 21 = .ok (.iconst 1, 1) := by decide +kernel
theorem dX12_key_22 : decode cX12_key 22 = .ok (.goto 4, 3) := by decide +kernel
theorem dX12_key_25 : decode cX12_key 25 = .ok (.iconst 0, 1) := by decide +kernel
theorem dX12_key_26 : decode cX12_key 26 = .ok (.putfield 78, 3) := by decide +kernel
theorem dX12_key_29 : decode cX12_key 29 = .ok (.aload_n 0, 1) := by decide +kernel
theorem dX12_key_30 : decode cX12_key 30 = .ok (.getfield 78, 3) := by decide +kernel
theorem dX12_key_33 : decode cX12_key 33 = .ok (.ifCond .le 5, 3) := by decide +kernel
theorem dX12_key_36 : decode cX12_key 36 = .ok (.lconst 0, 1) := by decide +kernel
theorem dX12_key_37 : decode cX12_key 37 = .ok (.lreturn, 1) := by decide +kernel
theorem dX12_key_38 : decode cX12_key 38 = .ok (.aload_n 0, 1) := by decide +kernel
theorem dX12_key_39 : decode cX12_key 39 = .ok (.aload_n 0, 1) := by decide +kernel
theorem dX12_key_40 : decode cX12_key 40 = .ok (.getfield 24, 3) := by decide +kernel
theorem dX12_key_43 : decode cX12_key 43 = .ok (.iload_n 3, 1) := by decide +kernel
theorem dX12_key_44 : decode cX12_key 44 = .ok (.aaload, 1) := by decide +kernel
theorem dX12_key_45 : decode cX12_key 45 = .ok (.iconst 0, 1) := by decide +kernel
theorem dX12_key_46 : decode cX12_key 46 = .ok (.invokevirtual 409, 3) := by decide +kernel
theorem dX12_key_49 : decode cX12_key 49 = .ok (.istore 4, 2) := by decide +kernel
theorem dX12_key_51 : decode cX12_key 51 = .ok (.iload_n 2, 1) := by decide +kernel
theorem dX12_key_52 : decode cX12_key 52 = .ok (.iconst 2, 1) := by decide +kernel
theorem dX12_key_53 : decode cX12_key 53 = .ok (.if_icmp .ge 23, 3) := by decide +kernel
theorem dX12_key_56 : decode cX12_key 56 = .ok (.iload_n 2, 1) := by decide +kernel
theorem dX12_key_57 : decode cX12_key 57 = .ok (.ifCond .ne 10, 3) := by decide +kernel
theorem dX12_key_60 : decode cX12_key 60 = .ok (.aload_n 0, 1) := by decide +kernel
theorem dX12_key_61 : decode cX12_key 61 = .ok (.getfield 323, 3) := by decide +kernel
theorem dX12_key_64 : decode cX12_key 64 = .ok (.goto 11, 3) := by decide +kernel
theorem dX12_key_67 : decode cX12_key 67 = .ok (.aload_n 0, 1) := by decide +kernel
theorem dX12_key_68 : decode cX12_key 68 = .ok (.getfield 330, 3) := by decide +kernel
theorem dX12_key_71 : decode cX12_key 71 = .ok (.invokestatic 319, 3) := by decide +kernel
theorem dX12_key_74 : decode cX12_key 74 = .ok (.i2l, 1) := by decide +kernel
theorem dX12_key_75 : decode cX12_key 75 = .ok (.lreturn, 1) := by decide +kernel
theorem dX12_key_76 : decode cX12_key 76 = .ok (.iload_n 2, 1) := by decide +kernel
theorem dX12_key_77 : decode cX12_key 77 = .ok (.iconst 2, 1) := by decide +kernel
theorem dX12_key_78 : decode cX12_key 78 = .ok (.if_icmp .ne 14, 3) := by decide +kernel
theorem dX12_key_81 : decode cX12_key 81 = .ok (.aload_n 0, 1) := by decide +kernel
theorem dX12_key_82 : decode cX12_key 82 = .ok (.iload_n 3, 1) := by decide +kernel
theorem dX12_key_83 : decode cX12_key 83 = .ok (.bipush 13, 2) := by decide +kernel
theorem dX12_key_85 : decode cX12_key 85 = .ok (.invokevirtual 593, 3) := by decide +kernel
theorem dX12_key_88 : decode cX12_key 88 = .ok (.i2l, 1) := by decide +kernel
theorem dX12_key_89 : decode cX12_key 89 = .ok (.goto 48, 3) := by decide +kernel
theorem dX12_key_92 : decode cX12_key 92 = .ok (.iload_n 2, 1) := by decide +kernel
theorem dX12_key_93 : decode cX12_key 93 = .ok (.iconst 3, 1) := by decide +kernel
theorem dX12_key_94 : decode cX12_key 94 = .ok (.if_icmp .ne 14, 3) := by decide +kernel
theorem dX12_key_97 : decode cX12_key 97 = .ok (.aload_n 0, 1) := by decide +kernel
theorem dX12_key_98 : decode cX12_key 98 = .ok (.iload_n 3, 1) := by decide +kernel
theorem dX12_key_99 : decode cX12_key 99 = .ok (.bipush 14, 2) := by decide +kernel
theorem dX12_key_101 : decode cX12_key 101 = .ok (.invokevirtual 593, 3) := by decide +kernel
theorem dX12_key_104 : decode cX12_key 104 = .ok (.i2l, 1) := by decide +kernel
theorem dX12_key_105 : decode cX12_key 105 = .ok (.goto 32, 3) := by decide +kernel
theorem dX12_key_108 : decode cX12_key 108 = .ok (.iload_n 2, 1) := by decide +kernel
theorem dX12_key_109 : decode cX12_key 109 = .ok (.iconst 4, 1) := by decide +kernel
theorem dX12_key_110 : decode cX12_key 110 = .ok (.if_icmp .ne 13, 3) := by decide +kernel
theorem dX12_key_113 : decode cX12_key 113 = .ok (.aload_n 0, 1) := by decide +kernel
theorem dX12_key_114 : decode cX12_key 114 = .ok (.iload_n 3, 1) := by decide +kernel
theorem dX12_key_115 : decode cX12_key 115 = .ok (.iconst 2, 1) := by decide +kernel
theorem dX12_key_116 : decode cX12_key 116 = .ok (.invokevirtual 593, 3) := by decide +kernel
theorem dX12_key_119 : decode cX12_key 119 = .ok (.i2l, 1) := by decide +kernel
theorem dX12_key_120 : decode cX12_key 120 = .ok (.goto 17, 3) := by decide +kernel
theorem dX12_key_123 : decode cX12_key 123 = .ok (.aload_n 0, 1) := by decide +kernel
theorem dX12_key_124 : decode cX12_key 124 = .ok (.getfield 28, 3) := by decide +kernel
theorem dX12_key_127 : decode cX12_key 127 = .ok (.iload_n 3, 1) := by decide +kernel
theorem dX12_key_128 : decode cX12_key 128 = .ok (.aaload, 1) := by decide +kernel
theorem dX12_key_129 : decode cX12_key 129 = .ok (.ifnull 7, 3) := by decide +kernel
theorem dX12_key_132 : decode cX12_key 132 = .ok (.lconst 1, 1) := by decide +kernel
theorem dX12_key_133 : decode cX12_key 133 = .ok (.goto 4, 3) := by decide +kernel
theorem dX12_key_136 : decode cX12_key 136 = .ok (.lconst 0, 1) := by decide +kernel
theorem dX12_key_137 : decode cX12_key 137 = .ok (.lreturn, 1) := by decide +kernel
theorem dX12_thingOf_0 : decode cX12_thingOf 0 = .ok (.aload_n 0, 1) := by decide +kernel
theorem dX12_thingOf_1 : decode cX12_thingOf 1 = .ok (.iload_n 1, 1) := by decide +kernel
theorem dX12_thingOf_2 : decode cX12_thingOf 2 = .ok (.invokevirtual 590, 3) := by decide +kernel
theorem dX12_thingOf_5 : decode cX12_thingOf 5 = .ok (.istore_n 3, 1) := by decide +kernel
theorem dX12_thingOf_6 : decode cX12_thingOf 6 = .ok (.iload_n 3, 1) := by decide +kernel
theorem dX12_thingOf_7 : decode cX12_thingOf 7 = .ok (.iconst (-1), 1) := by decide +kernel
theorem dX12_thingOf_8 : decode cX12_thingOf 8 = .ok (.if_icmp .ne 7, 3) := by decide +kernel
theorem dX12_thingOf_11 : decode cX12_thingOf 11 = .ok (.iconst (-1), 1) := by decide +kernel
theorem dX12_thingOf_12 : decode cX12_thingOf 12 = .ok (.goto 9, 3) := by decide +kernel
theorem dX12_thingOf_15 : decode cX12_thingOf 15 = .ok (.aload_n 0, 1) := by decide +kernel
theorem dX12_thingOf_16 : decode cX12_thingOf 16 = .ok (.iload_n 3, 1) := by decide +kernel
theorem dX12_thingOf_17 : decode cX12_thingOf 17 = .ok (.iload_n 2, 1) := by decide +kernel
theorem dX12_thingOf_18 : decode cX12_thingOf 18 = .ok (.invokevirtual 596, 3) := by decide +kernel
theorem dX12_thingOf_21 : decode cX12_thingOf 21 = .ok (.ireturn, 1) := by decide +kernel
theorem dX12_print_0 : decode cX12_print 0 = .ok (.aload_n 0, 1) := by decide +kernel
theorem dX12_print_1 : decode cX12_print 1 = .ok (.iload_n 1, 1) := by decide +kernel
theorem dX12_print_2 : decode cX12_print 2 = .ok (.iload_n 2, 1) := by decide +kernel
theorem dX12_print_3 : decode cX12_print 3 = .ok (.invokevirtual 599, 3) := by decide +kernel
theorem dX12_print_6 : decode cX12_print 6 = .ok (.istore 4, 2) := by decide +kernel
theorem dX12_print_8 : decode cX12_print 8 = .ok (.aload_n 0, 1) := by decide +kernel
theorem dX12_print_9 : decode cX12_print 9 = .ok (.iload 4, 2) := by decide +kernel
theorem dX12_print_11 : decode cX12_print 11 = .ok (.iconst (-1), 1) := by decide +kernel
theorem dX12_print_12 : decode cX12_print 12 = .ok (.if_icmp .eq 13, 3) := by decide +kernel
theorem dX12_print_15 : decode cX12_print 15 = .ok (.iload_n 3, 1) := by decide +kernel
theorem dX12_print_16 : decode cX12_print 16 = .ok (.ifCond .lt 9, 3) := by decide +kernel
theorem dX12_print_19 : decode cX12_print 19 = .ok (.iload_n 3, 1) := by decide +kernel
theorem dX12_print_20 : decode cX12_print 20 = .ok (.bipush 19, 2) := by decide +kernel
theorem dX12_print_22 : decode cX12_print 22 = .ok (.if_icmp .le 7, 3) := by decide +kernel
theorem dX12_print_25 : decode cX12_print 25 = .ok (.iconst 1, 1) := by decide +kernel
theorem dX12_print_26 : decode cX12_print 26 = .ok (.goto 4, 3) := by decide +kernel
theorem dX12_print_29 : decode cX12_print 29 = .ok (.iconst 0, 1) := by decide +kernel
theorem dX12_print_30 : decode cX12_print 30 = .ok (.putfield 78, 3) := by decide +kernel
theorem dX12_print_33 : decode cX12_print 33 = .ok (.aload_n 0, 1) := by decide +kernel
theorem dX12_print_34 : decode cX12_print 34 = .ok (.getfield 78, 3) := by decide +kernel
theorem dX12_print_37 : decode cX12_print 37 = .ok (.ifCond .le 7, 3) := by decide +kernel
theorem dX12_print_40 : decode cX12_print 40 = .ok (.iconst 0, 1) := by decide +kernel
theorem dX12_print_41 : decode cX12_print 41 = .ok (.goto 16, 3) := by decide +kernel
theorem dX12_print_44 : decode cX12_print 44 = .ok (.aload_n 0, 1) := by decide +kernel
theorem dX12_print_45 : decode cX12_print 45 = .ok (.aload_n 0, 1) := by decide +kernel
theorem dX12_print_46 : decode cX12_print 46 = .ok (.getfield 24, 3) := by decide +kernel
theorem dX12_print_49 : decode cX12_print 49 = .ok (.iload 4, 2) := by decide +kernel
theorem dX12_print_51 : decode cX12_print 51 = .ok (.aaload, 1) := by decide +kernel
theorem dX12_print_52 : decode cX12_print 52 = .ok (.invokevirtual 431, 3) := by decide +kernel
theorem dX12_print_55 : decode cX12_print 55 = .ok (.iload_n 3, 1) := by decide +kernel
theorem dX12_print_56 : decode cX12_print 56 = .ok (.iaload, 1) := by decide +kernel
theorem dX12_print_57 : decode cX12_print 57 = .ok (.ireturn, 1) := by decide +kernel
theorem dX12_usable_0 : decode cX12_usable 0 = .ok (.aload_n 0, 1) := by decide +kernel
theorem dX12_usable_1 : decode cX12_usable 1 = .ok (.iload_n 1, 1) := by decide +kernel
theorem dX12_usable_2 : decode cX12_usable 2 = .ok (.iload_n 2, 1) := by decide +kernel
theorem dX12_usable_3 : decode cX12_usable 3 = .ok (.invokevirtual 599, 3) := by decide +kernel
theorem dX12_usable_6 : decode cX12_usable 6 = .ok (.istore 5, 2) := by decide +kernel
theorem dX12_usable_8 : decode cX12_usable 8 = .ok (.aload_n 0, 1) := by decide +kernel
theorem dX12_usable_9 : decode cX12_usable 9 = .ok (.iload 5, 2) := by decide +kernel
theorem dX12_usable_11 : decode cX12_usable 11 = .ok (.iconst (-1), 1) := by decide +kernel
theorem dX12_usable_12 : decode cX12_usable 12 = .ok (.if_icmp .ne 7, 3) := by decide +kernel
theorem dX12_usable_15 : decode cX12_usable 15 = .ok (.iconst 1, 1) := by decide +kernel
theorem dX12_usable_16 : decode cX12_usable 16 = .ok (.goto 15, 3) := by decide +kernel
theorem dX12_usable_19 : decode cX12_usable 19 = .ok (.lload_n 3, 1) := by decide +kernel
theorem dX12_usable_20 : decode cX12_usable 20 = .ok (.invokestatic 573, 3) := by decide +kernel
theorem dX12_usable_23 : decode cX12_usable 23 = .ok (.ifCond .ne 7, 3) := by decide +kernel
theorem dX12_usable_26 : decode cX12_usable 26 = .ok (.iconst 2, 1) := by decide +kernel
theorem dX12_usable_27 : decode cX12_usable 27 = .ok (.goto 4, 3) := by decide +kernel
theorem dX12_usable_30 : decode cX12_usable 30 = .ok (.iconst 0, 1) := by decide +kernel
theorem dX12_usable_31 : decode cX12_usable 31 = .ok (.putfield 78, 3) := by decide +kernel
theorem dX12_usable_34 : decode cX12_usable 34 = .ok (.aload_n 0, 1) := by decide +kernel
theorem dX12_usable_35 : decode cX12_usable 35 = .ok (.getfield 78, 3) := by decide +kernel
theorem dX12_usable_38 : decode cX12_usable 38 = .ok (.ifCond .le 7, 3) := by decide +kernel
theorem dX12_usable_41 : decode cX12_usable 41 = .ok (.iconst 0, 1) := by decide +kernel
theorem dX12_usable_42 : decode cX12_usable 42 = .ok (.goto 15, 3) := by decide +kernel
theorem dX12_usable_45 : decode cX12_usable 45 = .ok (.aload_n 0, 1) := by decide +kernel
theorem dX12_usable_46 : decode cX12_usable 46 = .ok (.aload_n 0, 1) := by decide +kernel
theorem dX12_usable_47 : decode cX12_usable 47 = .ok (.iload_n 1, 1) := by decide +kernel
theorem dX12_usable_48 : decode cX12_usable 48 = .ok (.invokevirtual 590, 3) := by decide +kernel
theorem dX12_usable_51 : decode cX12_usable 51 = .ok (.iload 5, 2) := by decide +kernel
theorem dX12_usable_53 : decode cX12_usable 53 = .ok (.lload_n 3, 1) := by decide +kernel
theorem dX12_usable_54 : decode cX12_usable 54 = .ok (.invokevirtual 586, 3) := by decide +kernel
theorem dX12_usable_57 : decode cX12_usable 57 = .ok (.ireturn, 1) := by decide +kernel
theorem dX12_put_0 : decode cX12_put 0 = .ok (.aload_n 0, 1) := by decide +kernel
theorem dX12_put_1 : decode cX12_put 1 = .ok (.getfield 17, 3) := by decide +kernel
theorem dX12_put_4 : decode cX12_put 4 = .ok (.aload_n 0, 1) := by decide +kernel
theorem dX12_put_5 : decode cX12_put 5 = .ok (.getfield 602, 3) := by decide +kernel
theorem dX12_put_8 : decode cX12_put 8 = .ok (.iload_n 1, 1) := by decide +kernel
theorem dX12_put_9 : decode cX12_put 9 = .ok (.sipush 255, 3) := by decide +kernel
theorem dX12_put_12 : decode cX12_put 12 = .ok (.iand, 1) := by decide +kernel
theorem dX12_put_13 : decode cX12_put 13 = .ok (.iastore, 1) := by decide +kernel
theorem dX12_put_14 : decode cX12_put 14 = .ok (.aload_n 0, 1) := by decide +kernel
theorem dX12_put_15 : decode cX12_put 15 = .ok (.dup, 1) := by decide +kernel
theorem dX12_put_16 : decode cX12_put 16 = .ok (.getfield 602, 3) := by decide +kernel
theorem dX12_put_19 : decode cX12_put 19 = .ok (.iconst 1, 1) := by decide +kernel
theorem dX12_put_20 : decode cX12_put 20 = .ok (.iadd, 1) := by decide +kernel
theorem dX12_put_21 : decode cX12_put 21 = .ok (.putfield 602, 3) := by decide +kernel
theorem dX12_put_24 : decode cX12_put 24 = .ok (.return_, 1) := by decide +kernel
theorem dX12_putText_0 : decode cX12_putText 0 = .ok (.iconst 0, 1) := by decide +kernel
theorem dX12_putText_1 : decode cX12_putText 1 = .ok (.istore_n 2, 1) := by decide +kernel
theorem dX12_putText_2 : decode cX12_putText 2 = .ok (.iload_n 2, 1) := by decide +kernel
theorem dX12_putText_3 : decode cX12_putText 3 = .ok (.aload_n 1, 1) := by decide +kernel
theorem dX12_putText_4 : decode cX12_putText 4 = .ok (.invokevirtual 210, 3) := by decide +kernel
theorem dX12_putText_7 : decode cX12_putText 7 = .ok (.if_icmp .ge 18, 3) := by decide +kernel
theorem dX12_putText_10 : decode cX12_putText 10 = .ok (.aload_n 0, 1) := by decide +kernel
theorem dX12_putText_11 : decode cX12_putText 11 = .ok (.aload_n 1, 1) := by decide +kernel
theorem dX12_putText_12 : decode cX12_putText 12 = .ok (.iload_n 2, 1) := by decide +kernel
theorem dX12_putText_13 : decode cX12_putText 13 = .ok (.invokevirtual 215, 3) := by decide +kernel
theorem dX12_putText_16 : decode cX12_putText 16 = .ok (.invokevirtual 605, 3) := by decide +kernel
theorem dX12_putText_19 : decode cX12_putText 19 = .ok (.iinc 2 1, 3) := by decide +kernel
theorem dX12_putText_22 : decode cX12_putText 22 = .ok (.goto (-20), 3) := by decide +kernel
theorem dX12_putText_25 : decode cX12_putText 25 = .ok (.return_, 1) := by decide +kernel
theorem dX12_seal_0 : decode cX12_seal 0 = .ok (.aload_n 0, 1) := by decide +kernel
theorem dX12_seal_1 : decode cX12_seal 1 = .ok (.iload_n 1, 1) := by decide +kernel
theorem dX12_seal_2 : decode cX12_seal 2 = .ok (.iload_n 2, 1) := by decide +kernel
theorem dX12_seal_3 : decode cX12_seal 3 = .ok (.invokevirtual 599, 3) := by decide +kernel
theorem dX12_seal_6 : decode cX12_seal 6 = .ok (.istore 6, 2) := by decide +kernel
theorem dX12_seal_8 : decode cX12_seal 8 = .ok (.aload_n 0, 1) := by decide +kernel
theorem dX12_seal_9 : decode cX12_seal 9 = .ok (.iload 6, 2) := by decide +kernel
theorem dX12_seal_11 : decode cX12_seal 11 = .ok (.iconst (-1), 1) := by decide +kernel
theorem dX12_seal_12 : decode cX12_seal 12 = .ok (.if_icmp .ne 7, 3) := by decide +kernel
theorem dX12_seal_15 : decode cX12_seal 15 = .ok (.iconst 1, 1) := by decide +kernel
theorem dX12_seal_16 : decode cX12_seal 16 = .ok (.goto 39, 3) := by decide +kernel
theorem dX12_seal_19 : decode cX12_seal 19 = .ok (.lload 4, 2) := by decide +kernel
theorem dX12_seal_21 : decode cX12_seal 21 = .ok (.invokestatic 573, 3) := by decide +kernel
theorem dX12_seal_24 : decode cX12_seal 24 = .ok (.ifCond .eq 12, 3) := by decide +kernel
theorem dX12_seal_27 : decode cX12_seal 27 = .ok (.iload_n 3, 1) := by decide +kernel
theorem dX12_seal_28 : decode cX12_seal 28 = .ok (.ifCond .lt 8, 3) := by decide +kernel
theorem dX12_seal_31 : decode cX12_seal 31 = .ok (.iload_n 3, 1) := by decide +kernel
theorem dX12_seal_32 : decode cX12_seal 32 = .ok (.iconst 3, 1) := by decide +kernel
theorem dX12_seal_33 : decode cX12_seal 33 = .ok (.if_icmp .le 7, 3) := by decide +kernel
theorem dX12_seal_36 : decode cX12_seal 36 = .ok (.iconst 2, 1) := by decide +kernel
theorem dX12_seal_37 : decode cX12_seal 37 = .ok (.goto 18, 3) := by decide +kernel
theorem dX12_seal_40 : decode cX12_seal 40 = .ok (.aload_n 0, 1) := by decide +kernel
theorem dX12_seal_41 : decode cX12_seal 41 = .ok (.getfield 28, 3) := by decide +kernel
theorem dX12_seal_44 : decode cX12_seal 44 = .ok (.iload 6, 2) := by decide +kernel
theorem dX12_seal_46 : decode cX12_seal 46 = .ok (.aaload, 1) := by decide +kernel
theorem dX12_seal_47 : decode cX12_seal 47 = .ok (.ifnonnull 7, 3) := by decide +kernel
theorem dX12_seal_50 : decode cX12_seal 50 = .ok (.iconst 3, 1) := by decide +kernel
theorem dX12_seal_51 : decode cX12_seal 51 = .ok (.goto 4, 3) := by decide +kernel
theorem dX12_seal_54 : decode cX12_seal 54 = .ok (.iconst 0, 1) := by decide +kernel
theorem dX12_seal_55 : decode cX12_seal 55 = .ok (.putfield 78, 3) := by decide +kernel
theorem dX12_seal_58 : decode cX12_seal 58 = .ok (.aload_n 0, 1) := by decide +kernel
theorem dX12_seal_59 : decode cX12_seal 59 = .ok (.getfield 78, 3) := by decide +kernel
theorem dX12_seal_62 : decode cX12_seal 62 = .ok (.ifCond .le 5, 3) := by decide +kernel
theorem dX12_seal_65 : decode cX12_seal 65 = .ok (.iconst 0, 1) := by decide +kernel
theorem dX12_seal_66 : decode cX12_seal 66 = .ok (.ireturn, 1) := by decide +kernel
theorem dX12_seal_67 : decode cX12_seal 67 = .ok (.aload_n 0, 1) := by decide +kernel
theorem dX12_seal_68 : decode cX12_seal 68 = .ok (.iconst 0, 1) := by decide +kernel
theorem dX12_seal_69 : decode cX12_seal 69 = .ok (.putfield 602, 3) := by decide +kernel
theorem dX12_seal_72 : decode cX12_seal 72 = .ok (.iload_n 3, 1) := by decide +kernel
theorem dX12_seal_73 : decode cX12_seal 73 = .ok (.iconst 3, 1) := by decide +kernel
theorem dX12_seal_74 : decode cX12_seal 74 = .ok (.if_icmp .ne 16, 3) := by decide +kernel
theorem dX12_seal_77 : decode cX12_seal 77 = .ok (.aload_n 0, 1) := by decide +kernel
theorem dX12_seal_78 : decode cX12_seal 78 = .ok (.iload 6, 2) := by decide +kernel
theorem dX12_seal_80 : decode cX12_seal 80 = .ok (.lload 4, 2) := by decide +kernel
theorem dX12_seal_82 : decode cX12_seal 82 = .ok (.invokevirtual 636, 3) := by decide +kernel
theorem dX12_seal_85 : decode cX12_seal 85 = .ok (.aload_n 0, 1) := by decide +kernel
theorem dX12_seal_86 : decode cX12_seal 86 = .ok (.getfield 602, 3) := by decide +kernel
theorem dX12_seal_89 : decode cX12_seal 89 = .ok (.ireturn, 1) := by decide +kernel
theorem dX12_seal_90 : decode cX12_seal 90 = .ok (.iload_n 3, 1) := by decide +kernel
theorem dX12_seal_91 : decode cX12_seal 91 = .ok (.iconst 2, 1) := by decide +kernel
theorem dX12_seal_92 : decode cX12_seal 92 = .ok (.if_icmp .ne 181, 3) := by decide +kernel
theorem dX12_seal_95 : decode cX12_seal 95 = .ok (.aload_n 0, 1) := by decide +kernel
theorem dX12_seal_96 : decode cX12_seal 96 = .ok (.aload_n 0, 1) := by decide +kernel
theorem dX12_seal_97 : decode cX12_seal 97 = .ok (.getfield 24, 3) := by decide +kernel
theorem dX12_seal_100 : decode cX12_seal 100 = .ok (.iload 6, 2) := by decide +kernel
theorem dX12_seal_102 : decode cX12_seal 102 = .ok (.aaload, 1) := by decide +kernel
theorem dX12_seal_103 : decode cX12_seal 103 = .ok (.invokevirtual 431, 3) := by decide +kernel
theorem dX12_seal_106 : decode cX12_seal 106 = .ok (.astore 7, 2) := by decide +kernel
theorem dX12_seal_108 : decode cX12_seal 108 = .ok (.bipush 13, 2) := by decide +kernel
theorem dX12_seal_110 : decode cX12_seal 110 = .ok (.newarray .int, 2) := by decide +kernel
theorem dX12_seal_112 : decode cX12_seal 112 = .ok (.dup, 1) := by decide +kernel
theorem dX12_seal_113 : decode cX12_seal 113 = .ok (.iconst 0, 1) := by decide +kernel
theorem dX12_seal_114 : decode cX12_seal 114 = .ok (.iconst 3, 1) := by decide +kernel
theorem dX12_seal_115 : decode cX12_seal 115 = .ok (.iastore, 1) := by decide +kernel
theorem dX12_seal_116 : decode cX12_seal 116 = .ok (.dup, 1) := by decide +kernel
theorem dX12_seal_117 : decode cX12_seal 117 = .ok (.iconst 1, 1) := by decide +kernel
theorem dX12_seal_118 : decode cX12_seal 118 = .ok (.iconst 0, 1) := by decide +kernel
theorem dX12_seal_119 : decode cX12_seal 119 = .ok (.iastore, 1) := by decide +kernel
theorem dX12_seal_120 : decode cX12_seal 120 = .ok (.dup, 1) := by decide +kernel
theorem dX12_seal_121 : decode cX12_seal 121 = .ok (.iconst 2, 1) := by decide +kernel
theorem dX12_seal_122 : decode cX12_seal 122 = .ok (.bipush 8, 2) := by decide +kernel
theorem dX12_seal_124 : decode cX12_seal 124 = .ok (.iastore, 1) := by decide +kernel
theorem dX12_seal_125 : decode cX12_seal 125 = .ok (.dup, 1) := by decide +kernel
theorem dX12_seal_126 : decode cX12_seal 126 = .ok (.iconst 3, 1) := by decide +kernel
theorem dX12_seal_127 : decode cX12_seal 127 = .ok (.iconst 1, 1) := by decide +kernel
theorem dX12_seal_128 : decode cX12_seal 128 = .ok (.iastore, 1) := by decide +kernel
theorem dX12_seal_129 : decode cX12_seal 129 = .ok (.dup, 1) := by decide +kernel
theorem dX12_seal_130 : decode cX12_seal 130 = .ok (.iconst 4, 1) := by decide +kernel
theorem dX12_seal_131 : decode cX12_seal 131 = .ok (.aload 7, 2) := by decide +kernel
theorem dX12_seal_133 : decode cX12_seal 133 = .ok (.bipush 12, 2) := by decide +kernel
theorem dX12_seal_135 : decode cX12_seal 135 = .ok (.iaload, 1) := by decide +kernel
theorem dX12_seal_136 : decode cX12_seal 136 = .ok (.iastore, 1) := by decide +kernel
theorem dX12_seal_137 : decode cX12_seal 137 = .ok (.dup, 1) := by decide +kernel
theorem dX12_seal_138 : decode cX12_seal 138 = .ok (.iconst 5, 1) := by decide +kernel
theorem dX12_seal_139 : decode cX12_seal 139 = .ok (.aload 7, 2) := by decide +kernel
theorem dX12_seal_141 : decode cX12_seal 141 = .ok (.bipush 13, 2) := by decide +kernel
theorem dX12_seal_143 : decode cX12_seal 143 = .ok (.iaload, 1) := by decide +kernel
theorem dX12_seal_144 : decode cX12_seal 144 = .ok (.iastore, 1) := by decide +kernel
theorem dX12_seal_145 : decode cX12_seal 145 = .ok (.dup, 1) := by decide +kernel
theorem dX12_seal_146 : decode cX12_seal 146 = .ok (.bipush 6, 2) := by decide +kernel
theorem dX12_seal_148 : decode cX12_seal 148 = .ok (.aload 7, 2) := by decide +kernel
theorem dX12_seal_150 : decode cX12_seal 150 = .ok (.bipush 14, 2) := by decide +kernel
theorem dX12_seal_152 : decode cX12_seal 152 = .ok (.iaload, 1) := by decide +kernel
theorem dX12_seal_153 : decode cX12_seal 153 = .ok (.iastore, 1) := by decide +kernel
theorem dX12_seal_154 : decode cX12_seal 154 = .ok (.dup, 1) := by decide +kernel
theorem dX12_seal_155 : decode cX12_seal 155 = .ok (.bipush 7, 2) := by decide +kernel
theorem dX12_seal_157 : decode cX12_seal 157 = .ok (.aload 7, 2) := by decide +kernel
theorem dX12_seal_159 : decode cX12_seal 159 = .ok (.bipush 15, 2) := by decide +kernel
theorem dX12_seal_161 : decode cX12_seal 161 = .ok (.iaload, 1) := by decide +kernel
theorem dX12_seal_162 : decode cX12_seal 162 = .ok (.iastore, 1) := by decide +kernel
theorem dX12_seal_163 : decode cX12_seal 163 = .ok (.dup, 1) := by decide +kernel
theorem dX12_seal_164 : decode cX12_seal 164 = .ok (.bipush 8, 2) := by decide +kernel
theorem dX12_seal_166 : decode cX12_seal 166 = .ok (.aload 7, 2) := by decide +kernel
theorem dX12_seal_168 : decode cX12_seal 168 = .ok (.bipush 16, 2) := by decide +kernel
theorem dX12_seal_170 : decode cX12_seal 170 = .ok (.iaload, 1) := by decide +kernel
theorem dX12_seal_171 : decode cX12_seal 171 = .ok (.iastore, 1) := by decide +kernel
theorem dX12_seal_172 : decode cX12_seal 172 = .ok (.dup, 1) := by decide +kernel
theorem dX12_seal_173 : decode cX12_seal 173 = .ok (.bipush 9, 2) := by decide +kernel
theorem dX12_seal_175 : decode cX12_seal 175 = .ok (.aload 7, 2) := by decide +kernel
theorem dX12_seal_177 : decode cX12_seal 177 = .ok (.bipush 17, 2) := by decide +kernel
theorem dX12_seal_179 : decode cX12_seal 179 = .ok (.iaload, 1) := by decide +kernel
theorem dX12_seal_180 : decode cX12_seal 180 = .ok (.iastore, 1) := by decide +kernel
theorem dX12_seal_181 : decode cX12_seal 181 = .ok (.dup, 1) := by decide +kernel
theorem dX12_seal_182 : decode cX12_seal 182 = .ok (.bipush 10, 2) := by decide +kernel
theorem dX12_seal_184 : decode cX12_seal 184 = .ok (.aload 7, 2) := by decide +kernel
theorem dX12_seal_186 : decode cX12_seal 186 = .ok (.bipush 18, 2) := by decide +kernel
theorem dX12_seal_188 : decode cX12_seal 188 = .ok (.iaload, 1) := by decide +kernel
theorem dX12_seal_189 : decode cX12_seal 189 = .ok (.iastore, 1) := by decide +kernel
theorem dX12_seal_190 : decode cX12_seal 190 = .ok (.dup, 1) := by decide +kernel
theorem dX12_seal_191 : decode cX12_seal 191 = .ok (.bipush 11, 2) := by decide +kernel
theorem dX12_seal_193 : decode cX12_seal 193 = .ok (.aload 7, 2) := by decide +kernel
theorem dX12_seal_195 : decode cX12_seal 195 = .ok (.bipush 19, 2) := by decide +kernel
theorem dX12_seal_197 : decode cX12_seal 197 = .ok (.iaload, 1) := by decide +kernel
theorem dX12_seal_198 : decode cX12_seal 198 = .ok (.iastore, 1) := by decide +kernel
theorem dX12_seal_199 : decode cX12_seal 199 = .ok (.dup, 1) := by decide +kernel
theorem dX12_seal_200 : decode cX12_seal 200 = .ok (.bipush 12, 2) := by decide +kernel
theorem dX12_seal_202 : decode cX12_seal 202 = .ok (.iconst 1, 1) := by decide +kernel
theorem dX12_seal_203 : decode cX12_seal 203 = .ok (.iastore, 1) := by decide +kernel
theorem dX12_seal_204 : decode cX12_seal 204 = .ok (.astore 8, 2) := by decide +kernel
theorem dX12_seal_206 : decode cX12_seal 206 = .ok (.aload_n 0, 1) := by decide +kernel
theorem dX12_seal_207 : decode cX12_seal 207 = .ok (.iconst 4, 1) := by decide +kernel
theorem dX12_seal_208 : decode cX12_seal 208 = .ok (.aload 8, 2) := by decide +kernel
theorem dX12_seal_210 : decode cX12_seal 210 = .ok (.invokevirtual 628, 3) := by decide +kernel
theorem dX12_seal_213 : decode cX12_seal 213 = .ok (.aload_n 0, 1) := by decide +kernel
theorem dX12_seal_214 : decode cX12_seal 214 = .ok (.getfield 13, 3) := by decide +kernel
theorem dX12_seal_217 : decode cX12_seal 217 = .ok (.arraylength, 1) := by decide +kernel
theorem dX12_seal_218 : decode cX12_seal 218 = .ok (.bipush 6, 2) := by decide +kernel
theorem dX12_seal_220 : decode cX12_seal 220 = .ok (.iadd, 1) := by decide +kernel
theorem dX12_seal_221 : decode cX12_seal 221 = .ok (.newarray .int, 2) := by decide +kernel
theorem dX12_seal_223 : decode cX12_seal 223 = .ok (.astore 9, 2) := by decide +kernel
theorem dX12_seal_225 : decode cX12_seal 225 = .ok (.aload 9, 2) := by decide +kernel
theorem dX12_seal_227 : decode cX12_seal 227 = .ok (.iconst 0, 1) := by decide +kernel
theorem dX12_seal_228 : decode cX12_seal 228 = .ok (.bipush 98, 2) := by decide +kernel
theorem dX12_seal_230 : decode cX12_seal 230 = .ok (.iastore, 1) := by decide +kernel
theorem dX12_seal_231 : decode cX12_seal 231 = .ok (.iconst 0, 1) := by decide +kernel
theorem dX12_seal_232 : decode cX12_seal 232 = .ok (.istore 10, 2) := by decide +kernel
theorem dX12_seal_234 : decode cX12_seal 234 = .ok (.iload 10, 2) := by decide +kernel
theorem dX12_seal_236 : decode cX12_seal 236 = .ok (.aload_n 0, 1) := by decide +kernel
theorem dX12_seal_237 : decode cX12_seal 237 = .ok (.getfield 13, 3) := by decide +kernel
theorem dX12_seal_240 : decode cX12_seal 240 = .ok (.arraylength, 1) := by decide +kernel
theorem dX12_seal_241 : decode cX12_seal 241 = .ok (.if_icmp .ge 24, 3) := by decide +kernel
theorem dX12_seal_244 : decode cX12_seal 244 = .ok (.aload 9, 2) := by decide +kernel
theorem dX12_seal_246 : decode cX12_seal 246 = .ok (.bipush 6, 2) := by decide +kernel
theorem dX12_seal_248 : decode cX12_seal 248 = .ok (.iload 10, 2) := by decide +kernel
theorem dX12_seal_250 : decode cX12_seal 250 = .ok (.iadd, 1) := by decide +kernel
theorem dX12_seal_251 : decode cX12_seal 251 = .ok (.aload_n 0, 1) := by decide +kernel
theorem dX12_seal_252 : decode cX12_seal 252 = .ok (.getfield 13, 3) := by decide +kernel
theorem dX12_seal_255 : decode cX12_seal 255 = .ok (.iload 10, 2) := by decide +kernel
theorem dX12_seal_257 : decode cX12_seal 257 = .ok (.iaload, 1) := by decide +kernel
theorem dX12_seal_258 : decode cX12_seal 258 = .ok (.iastore, 1) := by decide +kernel
theorem dX12_seal_259 : decode cX12_seal 259 = .ok (.iinc 10 1, 3) := by decide +kernel
theorem dX12_seal_262 : decode cX12_seal 262 = .ok (.goto (-28), 3) := by decide +kernel
theorem dX12_seal_265 : decode cX12_seal 265 = .ok (.aload_n 0, 1) := by decide +kernel
theorem dX12_seal_266 : decode cX12_seal 266 = .ok (.bipush 11, 2) := by decide +kernel
theorem dX12_seal_268 : decode cX12_seal 268 = .ok (.aload 9, 2) := by decide +kernel
theorem dX12_seal_270 : decode cX12_seal 270 = .ok (.invokevirtual 628, 3) := by decide +kernel
theorem dX12_seal_273 : decode cX12_seal 273 = .ok (.aload_n 0, 1) := by decide +kernel
theorem dX12_seal_274 : decode cX12_seal 274 = .ok (.iconst 2, 1) := by decide +kernel
theorem dX12_seal_275 : decode cX12_seal 275 = .ok (.aload_n 0, 1) := by decide +kernel
theorem dX12_seal_276 : decode cX12_seal 276 = .ok (.iload 6, 2) := by decide +kernel
theorem dX12_seal_278 : decode cX12_seal 278 = .ok (.iload_n 3, 1) := by decide +kernel
theorem dX12_seal_279 : decode cX12_seal 279 = .ok (.iconst 1, 1) := by decide +kernel
theorem dX12_seal_280 : decode cX12_seal 280 = .ok (.if_icmp .ne 7, 3) := by decide +kernel
theorem dX12_seal_283 : decode cX12_seal 283 = .ok (.iconst 1, 1) := by decide +kernel
theorem dX12_seal_284 : decode cX12_seal 284 = .ok (.goto 4, 3) := by decide +kernel
theorem dX12_seal_287 : decode cX12_seal 287 = .ok (.iconst 0, 1) := by decide +kernel
theorem dX12_seal_288 : decode cX12_seal 288 = .ok (.aload_n 0, 1) := by decide +kernel
theorem dX12_seal_289 : decode cX12_seal 289 = .ok (.getfield 13, 3) := by decide +kernel
theorem dX12_seal_292 : decode cX12_seal 292 = .ok (.lload 4, 2) := by decide +kernel
theorem dX12_seal_294 : decode cX12_seal 294 = .ok (.invokevirtual 624, 3) := by decide +kernel
theorem dX12_seal_297 : decode cX12_seal 297 = .ok (.invokevirtual 628, 3) := by decide +kernel
theorem dX12_seal_300 : decode cX12_seal 300 = .ok (.aload_n 0, 1) := by decide +kernel
theorem dX12_seal_301 : decode cX12_seal 301 = .ok (.getfield 602, 3) := by decide +kernel
theorem dX12_seal_304 : decode cX12_seal 304 = .ok (.ireturn, 1) := by decide +kernel
theorem dX12_export_0 : decode cX12_export 0 = .ok (.aload_n 0, 1) := by decide +kernel
theorem dX12_export_1 : decode cX12_export 1 = .ok (.iload_n 1, 1) := by decide +kernel
theorem dX12_export_2 : decode cX12_export 2 = .ok (.invokevirtual 590, 3) := by decide +kernel
theorem dX12_export_5 : decode cX12_export 5 = .ok (.istore_n 2, 1) := by decide +kernel
theorem dX12_export_6 : decode cX12_export 6 = .ok (.aload_n 0, 1) := by decide +kernel
theorem dX12_export_7 : decode cX12_export 7 = .ok (.iload_n 2, 1) := by decide +kernel
theorem dX12_export_8 : decode cX12_export 8 = .ok (.iconst (-1), 1) := by decide +kernel
theorem dX12_export_9 : decode cX12_export 9 = .ok (.if_icmp .ne 7, 3) := by decide +kernel
theorem dX12_export_12 : decode cX12_export 12 = .ok (.iconst 1, 1) := by decide +kernel
theorem dX12_export_13 : decode cX12_export 13 = .ok (.goto 4, 3) := by decide +kernel
theorem dX12_export_16 : decode cX12_export 16 = .ok (.iconst 0, 1) := by decide +kernel
theorem dX12_export_17 : decode cX12_export 17 = .ok (.putfield 78, 3) := by decide +kernel
theorem dX12_export_20 : decode cX12_export 20 = .ok (.aload_n 0, 1) := by decide +kernel
theorem dX12_export_21 : decode cX12_export 21 = .ok (.getfield 78, 3) := by decide +kernel
theorem dX12_export_24 : decode cX12_export 24 = .ok (.ifCond .le 5, 3) := by decide +kernel
theorem dX12_export_27 : decode cX12_export 27 = .ok (.iconst 0, 1) := by decide +kernel
theorem dX12_export_28 : decode cX12_export 28 = .ok (.ireturn, 1) := by decide +kernel
theorem dX12_export_29 : decode cX12_export 29 = .ok (.aload_n 0, 1) := by decide +kernel
theorem dX12_export_30 : decode cX12_export 30 = .ok (.iconst 0, 1) := by decide +kernel
theorem dX12_export_31 : decode cX12_export 31 = .ok (.putfield 602, 3) := by decide +kernel
theorem dX12_export_34 : decode cX12_export 34 = .ok (.aload_n 0, 1) := by decide +kernel
theorem dX12_export_35 : decode cX12_export 35 = .ok (.iload_n 2, 1) := by decide +kernel
theorem dX12_export_36 : decode cX12_export 36 = .ok (.invokevirtual 503, 3) := by decide +kernel
theorem dX12_export_39 : decode cX12_export 39 = .ok (.istore_n 3, 1) := by decide +kernel
theorem dX12_export_40 : decode cX12_export 40 = .ok (.iload_n 2, 1) := by decide +kernel
theorem dX12_export_41 : decode cX12_export 41 = .ok (.istore 4, 2) := by decide +kernel
theorem dX12_export_43 : decode cX12_export 43 = .ok (.iload 4, 2) := by decide +kernel
theorem dX12_export_45 : decode cX12_export 45 = .ok (.iload_n 3, 1) := by decide +kernel
theorem dX12_export_46 : decode cX12_export 46 = .ok (.if_icmp .ge 27, 3) := by decide +kernel
theorem dX12_export_49 : decode cX12_export 49 = .ok (.aload_n 0, 1) := by decide +kernel
theorem dX12_export_50 : decode cX12_export 50 = .ok (.aload_n 0, 1) := by decide +kernel
theorem dX12_export_51 : decode cX12_export 51 = .ok (.getfield 20, 3) := by decide +kernel
theorem dX12_export_54 : decode cX12_export 54 = .ok (.iload 4, 2) := by decide +kernel
theorem dX12_export_56 : decode cX12_export 56 = .ok (.iaload, 1) := by decide +kernel
theorem dX12_export_57 : decode cX12_export 57 = .ok (.aload_n 0, 1) := by decide +kernel
theorem dX12_export_58 : decode cX12_export 58 = .ok (.getfield 24, 3) := by decide +kernel
theorem dX12_export_61 : decode cX12_export 61 = .ok (.iload 4, 2) := by decide +kernel
theorem dX12_export_63 : decode cX12_export 63 = .ok (.aaload, 1) := by decide +kernel
theorem dX12_export_64 : decode cX12_export 64 = .ok (.invokevirtual 628, 3) := by decide +kernel
theorem dX12_export_67 : decode cX12_export 67 = .ok (.iinc 4 1, 3) := by decide +kernel
theorem dX12_export_70 : decode cX12_export 70 = .ok (.goto (-27), 3) := by decide +kernel
theorem dX12_export_73 : decode cX12_export 73 = .ok (.aload_n 0, 1) := by decide +kernel
theorem dX12_export_74 : decode cX12_export 74 = .ok (.getfield 602, 3) := by decide +kernel
theorem dX12_export_77 : decode cX12_export 77 = .ok (.ireturn, 1) := by decide +kernel
theorem dX12_putSigns_0 : decode cX12_putSigns 0 = .ok (.aload_n 0, 1) := by decide +kernel
theorem dX12_putSigns_1 : decode cX12_putSigns 1 = .ok (.new 240, 3) := by decide +kernel
theorem dX12_putSigns_4 : decode cX12_putSigns 4 = .ok (.dup, 1) := by decide +kernel
theorem dX12_putSigns_5 : decode cX12_putSigns 5 = .ok (.invokespecial 242, 3) := by decide +kernel
theorem dX12_putSigns_8 : decode cX12_putSigns 8 = .ok (.ldc_w 259, 3) := by decide +kernel
theorem dX12_putSigns_11 : decode cX12_putSigns 11 = .ok (.invokevirtual 245, 3) := by decide +kernel
theorem dX12_putSigns_14 : decode cX12_putSigns 14 = .ok (.iload_n 2, 1) := by decide +kernel
theorem dX12_putSigns_15 : decode cX12_putSigns 15 = .ok (.invokestatic 261, 3) := by decide +kernel
theorem dX12_putSigns_18 : decode cX12_putSigns 18 = .ok (.invokevirtual 245, 3) := by decide +kernel
theorem dX12_putSigns_21 : decode cX12_putSigns 21 = .ok (.ldc 249, 2) := by decide +kernel
theorem dX12_putSigns_23 : decode cX12_putSigns 23 = .ok (.invokevirtual 245, 3) := by decide +kernel
theorem dX12_putSigns_26 : decode cX12_putSigns 26 = .ok (.invokevirtual 251, 3) := by decide +kernel
theorem dX12_putSigns_29 : decode cX12_putSigns 29 = .ok (.invokevirtual 616, 3) := by decide +kernel
theorem dX12_putSigns_32 : decode cX12_putSigns 32 = .ok (.aload_n 0, 1) := by decide +kernel
theorem dX12_putSigns_33 : decode cX12_putSigns 33 = .ok (.bipush 10, 2) := by decide +kernel
theorem dX12_putSigns_35 : decode cX12_putSigns 35 = .ok (.invokevirtual 605, 3) := by decide +kernel
theorem dX12_putSigns_38 : decode cX12_putSigns 38 = .ok (.aload_n 0, 1) := by decide +kernel
theorem dX12_putSigns_39 : decode cX12_putSigns 39 = .ok (.bipush 10, 2) := by decide +kernel
theorem dX12_putSigns_41 : decode cX12_putSigns 41 = .ok (.invokevirtual 605, 3) := by decide +kernel
theorem dX12_putSigns_44 : decode cX12_putSigns 44 = .ok (.iconst 4, 1) := by decide +kernel
theorem dX12_putSigns_45 : decode cX12_putSigns 45 = .ok (.aload_n 1, 1) := by decide +kernel
theorem dX12_putSigns_46 : decode cX12_putSigns 46 = .ok (.arraylength, 1) := by decide +kernel
theorem dX12_putSigns_47 : decode cX12_putSigns 47 = .ok (.iconst 2, 1) := by decide +kernel
theorem dX12_putSigns_48 : decode cX12_putSigns 48 = .ok (.iadd, 1) := by decide +kernel
theorem dX12_putSigns_49 : decode cX12_putSigns 49 = .ok (.iconst 3, 1) := by decide +kernel
theorem dX12_putSigns_50 : decode cX12_putSigns 50 = .ok (.idiv, 1) := by decide +kernel
theorem dX12_putSigns_51 : decode cX12_putSigns 51 = .ok (.imul, 1) := by decide +kernel
theorem dX12_putSigns_52 : decode cX12_putSigns 52 = .ok (.istore_n 3, 1) := by decide +kernel
theorem dX12_putSigns_53 : decode cX12_putSigns 53 = .ok (.iconst 0, 1) := by decide +kernel
theorem dX12_putSigns_54 : decode cX12_putSigns 54 = .ok (.istore 4, 2) := by decide +kernel
theorem dX12_putSigns_56 : decode cX12_putSigns 56 = .ok (.iload 4, 2) := by decide +kernel
theorem dX12_putSigns_58 : decode cX12_putSigns 58 = .ok (.iload_n 3, 1) := by decide +kernel
theorem dX12_putSigns_59 : decode cX12_putSigns 59 = .ok (.if_icmp .ge 130, 3) := by decide +kernel
theorem dX12_putSigns_62 : decode cX12_putSigns 62 = .ok (.bipush 6, 2) := by decide +kernel
theorem dX12_putSigns_64 : decode cX12_putSigns 64 = .ok (.iload 4, 2) := by decide +kernel
theorem dX12_putSigns_66 : decode cX12_putSigns 66 = .ok (.imul, 1) := by decide +kernel
theorem dX12_putSigns_67 : decode cX12_putSigns 67 = .ok (.bipush 8, 2) := by decide +kernel
theorem dX12_putSigns_69 : decode cX12_putSigns 69 = .ok (.irem, 1) := by decide +kernel
theorem dX12_putSigns_70 : decode cX12_putSigns 70 = .ok (.istore 5, 2) := by decide +kernel
theorem dX12_putSigns_72 : decode cX12_putSigns 72 = .ok (.bipush 6, 2) := by decide +kernel
theorem dX12_putSigns_74 : decode cX12_putSigns 74 = .ok (.iload 4, 2) := by decide +kernel
theorem dX12_putSigns_76 : decode cX12_putSigns 76 = .ok (.imul, 1) := by decide +kernel
theorem dX12_putSigns_77 : decode cX12_putSigns 77 = .ok (.bipush 8, 2) := by decide +kernel
theorem dX12_putSigns_79 : decode cX12_putSigns 79 = .ok (.idiv, 1) := by decide +kernel
theorem dX12_putSigns_80 : decode cX12_putSigns 80 = .ok (.istore 6, 2) := by decide +kernel
theorem dX12_putSigns_82 : decode cX12_putSigns 82 = .ok (.iload 6, 2) := by decide +kernel
theorem dX12_putSigns_84 : decode cX12_putSigns 84 = .ok (.aload_n 1, 1) := by decide +kernel
theorem dX12_putSigns_85 : decode cX12_putSigns 85 = .ok (.arraylength, 1) := by decide +kernel
theorem dX12_putSigns_86 : decode cX12_putSigns 86 = .ok (.if_icmp .ge 14, 3) := by decide +kernel
theorem dX12_putSigns_89 : decode cX12_putSigns 89 = .ok (.aload_n 1, 1) := by decide +kernel
theorem dX12_putSigns_90 : decode cX12_putSigns 90 = .ok (.iload 6, 2) := by decide +kernel
theorem dX12_putSigns_92 : decode cX12_putSigns 92 = .ok (.iaload, 1) := by decide +kernel
theorem dX12_putSigns_93 : decode cX12_putSigns 93 = .ok (.sipush 256, 3) := by decide +kernel
theorem dX12_putSigns_96 : decode cX12_putSigns 96 = .ok (.imul, 1) := by decide +kernel
theorem dX12_putSigns_97 : decode cX12_putSigns 97 = .ok (.goto 4, 3) := by decide +kernel
theorem dX12_putSigns_100 : decode cX12_putSigns 100 = .ok (.iconst 0, 1) := by decide +kernel
theorem dX12_putSigns_101 : decode cX12_putSigns 101 = .ok (.iload 6, 2) := by decide +kernel
theorem dX12_putSigns_103 : decode cX12_putSigns 103 = .ok (.iconst 1, 1) := by decide +kernel
theorem dX12_putSigns_104 : decode cX12_putSigns 104 = .ok (.iadd, 1) := by decide +kernel
theorem dX12_putSigns_105 : decode cX12_putSigns 105 = .ok (.aload_n 1, 1) := by decide +kernel
theorem dX12_putSigns_106 : decode cX12_putSigns 106 = .ok (.arraylength, 1) := by decide +kernel
theorem dX12_putSigns_107 : decode cX12_putSigns 107 = .ok (.if_icmp .ge 12, 3) := by decide +kernel
theorem dX12_putSigns_110 : decode cX12_putSigns 110 = .ok (.aload_n 1, 1) := by decide +kernel
theorem dX12_putSigns_111 : decode cX12_putSigns 111 = .ok (.iload 6, 2) := by decide +kernel
theorem dX12_putSigns_113 : decode cX12_putSigns 113 = .ok (.iconst 1, 1) := by decide +kernel
theorem dX12_putSigns_114 : decode cX12_putSigns 114 = .ok (.iadd, 1) := by decide +kernel
theorem dX12_putSigns_115 : decode cX12_putSigns 115 = .ok (.iaload, 1) := by decide +kernel
theorem dX12_putSigns_116 : decode cX12_putSigns 116 = .ok (.goto 4, 3) := by decide +kernel
theorem dX12_putSigns_119 : decode cX12_putSigns 119 = .ok (.iconst 0, 1) := by decide +kernel
theorem dX12_putSigns_120 : decode cX12_putSigns 120 = .ok (.iadd, 1) := by decide +kernel
theorem dX12_putSigns_121 : decode cX12_putSigns 121 = .ok (.istore 7, 2) := by decide +kernel
theorem dX12_putSigns_123 : decode cX12_putSigns 123 = .ok (.aload_n 0, 1) := by decide +kernel
theorem dX12_putSigns_124 : decode cX12_putSigns 124 = .ok (.bipush 6, 2) := by decide +kernel
theorem dX12_putSigns_126 : decode cX12_putSigns 126 = .ok (.iload 4, 2) := by decide +kernel
theorem dX12_putSigns_128 : decode cX12_putSigns 128 = .ok (.imul, 1) := by decide +kernel
theorem dX12_putSigns_129 : decode cX12_putSigns 129 = .ok (.bipush 8, 2) := by decide +kernel
theorem dX12_putSigns_131 : decode cX12_putSigns 131 = .ok (.aload_n 1, 1) := by decide +kernel
theorem dX12_putSigns_132 : decode cX12_putSigns 132 = .ok (.arraylength, 1) := by decide +kernel
theorem dX12_putSigns_133 : decode cX12_putSigns 133 = .ok (.imul, 1) := by decide +kernel
theorem dX12_putSigns_134 : decode cX12_putSigns 134 = .ok (.if_icmp .ge 20, 3) := by decide +kernel
theorem dX12_putSigns_137 : decode cX12_putSigns 137 = .ok (.iload 7, 2) := by decide +kernel
theorem dX12_putSigns_139 : decode cX12_putSigns 139 = .ok (.bipush 10, 2) := by decide +kernel
theorem dX12_putSigns_141 : decode cX12_putSigns 141 = .ok (.iload 5, 2) := by decide +kernel
theorem dX12_putSigns_143 : decode cX12_putSigns 143 = .ok (.isub, 1) := by decide +kernel
theorem dX12_putSigns_144 : decode cX12_putSigns 144 = .ok (.ishr, 1) := by decide +kernel
theorem dX12_putSigns_145 : decode cX12_putSigns 145 = .ok (.bipush 63, 2) := by decide +kernel
theorem dX12_putSigns_147 : decode cX12_putSigns 147 = .ok (.iand, 1) := by decide +kernel
theorem dX12_putSigns_148 : decode cX12_putSigns 148 = .ok (.invokestatic 640, 3) := by decide +kernel
theorem dX12_putSigns_151 : decode cX12_putSigns 151 = .ok (.goto 5, 3) := by decide +kernel
theorem dX12_putSigns_154 : decode cX12_putSigns 154 = .ok (.bipush 61, 2) := by decide +kernel
theorem dX12_putSigns_156 : decode cX12_putSigns 156 = .ok (.invokevirtual 605, 3) := by decide +kernel
theorem dX12_putSigns_159 : decode cX12_putSigns 159 = .ok (.iload 4, 2) := by decide +kernel
theorem dX12_putSigns_161 : decode cX12_putSigns 161 = .ok (.bipush 64, 2) := by decide +kernel
theorem dX12_putSigns_163 : decode cX12_putSigns 163 = .ok (.irem, 1) := by decide +kernel
theorem dX12_putSigns_164 : decode cX12_putSigns 164 = .ok (.bipush 63, 2) := by decide +kernel
theorem dX12_putSigns_166 : decode cX12_putSigns 166 = .ok (.if_icmp .eq 11, 3) := by decide +kernel
theorem dX12_putSigns_169 : decode cX12_putSigns 169 = .ok (.iload 4, 2) := by decide +kernel
theorem dX12_putSigns_171 : decode cX12_putSigns 171 = .ok (.iload_n 3, 1) := by decide +kernel
theorem dX12_putSigns_172 : decode cX12_putSigns 172 = .ok (.iconst 1, 1) := by decide +kernel
theorem dX12_putSigns_173 : decode cX12_putSigns 173 = .ok (.isub, 1) := by decide +kernel
theorem dX12_putSigns_174 : decode cX12_putSigns 174 = .ok (.if_icmp .ne 9, 3) := by decide +kernel
theorem dX12_putSigns_177 : decode cX12_putSigns 177 = .ok (.aload_n 0, 1) := by decide +kernel
theorem dX12_putSigns_178 : decode cX12_putSigns 178 = .ok (.bipush 10, 2) := by decide +kernel
theorem dX12_putSigns_180 : decode cX12_putSigns 180 = .ok (.invokevirtual 605, 3) := by decide +kernel
theorem dX12_putSigns_183 : decode cX12_putSigns 183 = .ok (.iinc 4 1, 3) := by decide +kernel
theorem dX12_putSigns_186 : decode cX12_putSigns 186 = .ok (.goto (-130), 3) := by decide +kernel
theorem dX12_putSigns_189 : decode cX12_putSigns 189 = .ok (.aload_n 1, 1) := by decide +kernel
theorem dX12_putSigns_190 : decode cX12_putSigns 190 = .ok (.aload_n 1, 1) := by decide +kernel
theorem dX12_putSigns_191 : decode cX12_putSigns 191 = .ok (.arraylength, 1) := by decide +kernel
theorem dX12_putSigns_192 : decode cX12_putSigns 192 = .ok (.invokestatic 236, 3) := by decide +kernel
theorem dX12_putSigns_195 : decode cX12_putSigns 195 = .ok (.istore 4, 2) := by decide +kernel
theorem dX12_putSigns_197 : decode cX12_putSigns 197 = .ok (.aload_n 0, 1) := by decide +kernel
theorem dX12_putSigns_198 : decode cX12_putSigns 198 = .ok (.bipush 61, 2) := by decide +kernel
theorem dX12_putSigns_200 : decode cX12_putSigns 200 = .ok (.invokevirtual 605, 3) := by decide +kernel
theorem dX12_putSigns_203 : decode cX12_putSigns 203 = .ok (.bipush 18, 2) := by decide +kernel
theorem dX12_putSigns_205 : decode cX12_putSigns 205 = .ok (.istore 5, 2) := by decide +kernel
theorem dX12_putSigns_207 : decode cX12_putSigns 207 = .ok (.iload 5, 2) := by decide +kernel
theorem dX12_putSigns_209 : decode cX12_putSigns 209 = .ok (.ifCond .lt 24, 3) := by decide +kernel
theorem dX12_putSigns_212 : decode cX12_putSigns 212 = .ok (.aload_n 0, 1) := by decide +kernel
theorem dX12_putSigns_213 : decode cX12_putSigns 213 = .ok (.iload 4, 2) := by decide +kernel
theorem dX12_putSigns_215 : decode cX12_putSigns 215 = .ok (.iload 5, 2) := by decide +kernel
theorem dX12_putSigns_217 : decode cX12_putSigns 217 = .ok (.ishr, 1) := by decide +kernel
theorem dX12_putSigns_218 : decode cX12_putSigns 218 = .ok (.bipush 63, 2) := by decide +kernel
theorem dX12_putSigns_220 : decode cX12_putSigns 220 = .ok (.iand, 1) := by decide +kernel
theorem dX12_putSigns_221 : decode cX12_putSigns 221 = .ok (.invokestatic 640, 3) := by decide +kernel
theorem dX12_putSigns_224 : decode cX12_putSigns 224 = .ok (.invokevirtual 605, 3) := by decide +kernel
theorem dX12_putSigns_227 : decode cX12_putSigns 227 = .ok (.iinc 5 (-6), 3) := by decide +kernel
theorem dX12_putSigns_230 : decode cX12_putSigns 230 = .ok (.goto (-23), 3) := by decide +kernel
theorem dX12_putSigns_233 : decode cX12_putSigns 233 = .ok (.aload_n 0, 1) := by decide +kernel
theorem dX12_putSigns_234 : decode cX12_putSigns 234 = .ok (.bipush 10, 2) := by decide +kernel
theorem dX12_putSigns_236 : decode cX12_putSigns 236 = .ok (.invokevirtual 605, 3) := by decide +kernel
theorem dX12_putSigns_239 : decode cX12_putSigns 239 = .ok (.aload_n 0, 1) := by decide +kernel
theorem dX12_putSigns_240 : decode cX12_putSigns 240 = .ok (.new 240, 3) := by decide +kernel
theorem dX12_putSigns_243 : decode cX12_putSigns 243 = .ok (.dup, 1) := by decide +kernel
theorem dX12_putSigns_244 : decode cX12_putSigns 244 = .ok (.invokespecial 242, 3) := by decide +kernel
theorem dX12_putSigns_247 : decode cX12_putSigns 247 = .ok (.ldc 243, 2) := by decide +kernel
theorem dX12_putSigns_249 : decode cX12_putSigns 249 = .ok (.invokevirtual 245, 3) := by decide +kernel
theorem dX12_putSigns_252 : decode cX12_putSigns 252 = .ok (.iload_n 2, 1) := by decide +kernel
theorem dX12_putSigns_253 : decode cX12_putSigns 253 = .ok (.invokestatic 261, 3) := by decide +kernel
theorem dX12_putSigns_256 : decode cX12_putSigns 256 = .ok (.invokevirtual 245, 3) := by decide +kernel
theorem dX12_putSigns_259 : decode cX12_putSigns 259 = .ok (.ldc 249, 2) := by decide +kernel
theorem dX12_putSigns_261 : decode cX12_putSigns 261 = .ok (.invokevirtual 245, 3) := by decide +kernel
theorem dX12_putSigns_264 : decode cX12_putSigns 264 = .ok (.invokevirtual 251, 3) := by decide +kernel
theorem dX12_putSigns_267 : decode cX12_putSigns 267 = .ok (.invokevirtual 616, 3) := by decide +kernel
theorem dX12_putSigns_270 : decode cX12_putSigns 270 = .ok (.aload_n 0, 1) := by decide +kernel
theorem dX12_putSigns_271 : decode cX12_putSigns 271 = .ok (.bipush 10, 2) := by decide +kernel
theorem dX12_putSigns_273 : decode cX12_putSigns 273 = .ok (.invokevirtual 605, 3) := by decide +kernel
theorem dX12_putSigns_276 : decode cX12_putSigns 276 = .ok (.return_, 1) := by decide +kernel
theorem dX12_armor_0 : decode cX12_armor 0 = .ok (.aload_n 0, 1) := by decide +kernel
theorem dX12_armor_1 : decode cX12_armor 1 = .ok (.iload_n 1, 1) := by decide +kernel
theorem dX12_armor_2 : decode cX12_armor 2 = .ok (.ifCond .lt 8, 3) := by decide +kernel
theorem dX12_armor_5 : decode cX12_armor 5 = .ok (.iload_n 1, 1) := by decide +kernel
theorem dX12_armor_6 : decode cX12_armor 6 = .ok (.iconst 2, 1) := by decide +kernel
theorem dX12_armor_7 : decode cX12_armor 7 = .ok (.if_icmp .le 7, 3) := by decide +kernel
theorem dX12_armor_10 : decode cX12_armor 10 = .ok (.iconst 1, 1) := by decide +kernel
theorem dX12_armor_11 : decode cX12_armor 11 = .ok (.goto 18, 3) := by decide +kernel
theorem dX12_armor_14 : decode cX12_armor 14 = .ok (.aload_n 0, 1) := by decide +kernel
theorem dX12_armor_15 : decode cX12_armor 15 = .ok (.getfield 602, 3) := by decide +kernel
theorem dX12_armor_18 : decode cX12_armor 18 = .ok (.sipush 8000, 3) := by decide +kernel
theorem dX12_armor_21 : decode cX12_armor 21 = .ok (.if_icmp .le 7, 3) := by decide +kernel
theorem dX12_armor_24 : decode cX12_armor 24 = .ok (.iconst 2, 1) := by decide +kernel
theorem dX12_armor_25 : decode cX12_armor 25 = .ok (.goto 4, 3) := by decide +kernel
theorem dX12_armor_28 : decode cX12_armor 28 = .ok (.iconst 0, 1) := by decide +kernel
theorem dX12_armor_29 : decode cX12_armor 29 = .ok (.putfield 78, 3) := by decide +kernel
theorem dX12_armor_32 : decode cX12_armor 32 = .ok (.aload_n 0, 1) := by decide +kernel
theorem dX12_armor_33 : decode cX12_armor 33 = .ok (.getfield 78, 3) := by decide +kernel
theorem dX12_armor_36 : decode cX12_armor 36 = .ok (.ifCond .le 5, 3) := by decide +kernel
theorem dX12_armor_39 : decode cX12_armor 39 = .ok (.iconst 0, 1) := by decide +kernel
theorem dX12_armor_40 : decode cX12_armor 40 = .ok (.ireturn, 1) := by decide +kernel
theorem dX12_armor_41 : decode cX12_armor 41 = .ok (.aload_n 0, 1) := by decide +kernel
theorem dX12_armor_42 : decode cX12_armor 42 = .ok (.getfield 17, 3) := by decide +kernel
theorem dX12_armor_45 : decode cX12_armor 45 = .ok (.iconst 0, 1) := by decide +kernel
theorem dX12_armor_46 : decode cX12_armor 46 = .ok (.aload_n 0, 1) := by decide +kernel
theorem dX12_armor_47 : decode cX12_armor 47 = .ok (.getfield 602, 3) := by decide +kernel
theorem dX12_armor_50 : decode cX12_armor 50 = .ok (.invokestatic 89, 3) := by decide +kernel
theorem dX12_armor_53 : decode cX12_armor 53 = .ok (.astore_n 2, 1) := by decide +kernel
theorem dX12_armor_54 : decode cX12_armor 54 = .ok (.aload_n 0, 1) := by decide +kernel
theorem dX12_armor_55 : decode cX12_armor 55 = .ok (.iconst 0, 1) := by decide +kernel
theorem dX12_armor_56 : decode cX12_armor 56 = .ok (.putfield 602, 3) := by decide +kernel
theorem dX12_armor_59 : decode cX12_armor 59 = .ok (.aload_n 0, 1) := by decide +kernel
theorem dX12_armor_60 : decode cX12_armor 60 = .ok (.aload_n 2, 1) := by decide +kernel
theorem dX12_armor_61 : decode cX12_armor 61 = .ok (.iload_n 1, 1) := by decide +kernel
theorem dX12_armor_62 : decode cX12_armor 62 = .ok (.invokevirtual 632, 3) := by decide +kernel
theorem dX12_armor_65 : decode cX12_armor 65 = .ok (.aload_n 0, 1) := by decide +kernel
theorem dX12_armor_66 : decode cX12_armor 66 = .ok (.getfield 602, 3) := by decide +kernel
theorem dX12_armor_69 : decode cX12_armor 69 = .ok (.ireturn, 1) := by decide +kernel
theorem dX12_out_0 : decode cX12_out 0 = .ok (.aload_n 0, 1) := by decide +kernel
theorem dX12_out_1 : decode cX12_out 1 = .ok (.iload_n 1, 1) := by decide +kernel
theorem dX12_out_2 : decode cX12_out 2 = .ok (.ifCond .lt 11, 3) := by decide +kernel
theorem dX12_out_5 : decode cX12_out 5 = .ok (.iload_n 1, 1) := by decide +kernel
theorem dX12_out_6 : decode cX12_out 6 = .ok (.aload_n 0, 1) := by decide +kernel
theorem dX12_out_7 : decode cX12_out 7 = .ok (.getfield 602, 3) := by decide +kernel
theorem dX12_out_10 : decode cX12_out 10 = .ok (.if_icmp .lt 7, 3) := by decide +kernel
theorem dX12_out_13 : decode cX12_out 13 = .ok (.iconst 1, 1) := by decide +kernel
theorem dX12_out_14 : decode cX12_out 14 = .ok (.goto 4, 3) := by decide +kernel
theorem dX12_out_17 : decode cX12_out 17 = .ok (.iconst 0, 1) := by decide +kernel
theorem dX12_out_18 : decode cX12_out 18 = .ok (.putfield 78, 3) := by decide +kernel
theorem dX12_out_21 : decode cX12_out 21 = .ok (.aload_n 0, 1) := by decide +kernel
theorem dX12_out_22 : decode cX12_out 22 = .ok (.getfield 78, 3) := by decide +kernel
theorem dX12_out_25 : decode cX12_out 25 = .ok (.ifCond .le 7, 3) := by decide +kernel
theorem dX12_out_28 : decode cX12_out 28 = .ok (.iconst 0, 1) := by decide +kernel
theorem dX12_out_29 : decode cX12_out 29 = .ok (.goto 9, 3) := by decide +kernel
theorem dX12_out_32 : decode cX12_out 32 = .ok (.aload_n 0, 1) := by decide +kernel
theorem dX12_out_33 : decode cX12_out 33 = .ok (.getfield 17, 3) := by decide +kernel
theorem dX12_out_36 : decode cX12_out 36 = .ok (.iload_n 1, 1) := by decide +kernel
theorem dX12_out_37 : decode cX12_out 37 = .ok (.iaload, 1) := by decide +kernel
theorem dX12_out_38 : decode cX12_out 38 = .ok (.ireturn, 1) := by decide +kernel
theorem dX12_sum_0 : decode cX12_sum 0 = .ok (.aload_n 0, 1) := by decide +kernel
theorem dX12_sum_1 : decode cX12_sum 1 = .ok (.iconst 0, 1) := by decide +kernel
theorem dX12_sum_2 : decode cX12_sum 2 = .ok (.putfield 78, 3) := by decide +kernel
theorem dX12_sum_5 : decode cX12_sum 5 = .ok (.aload_n 0, 1) := by decide +kernel
theorem dX12_sum_6 : decode cX12_sum 6 = .ok (.getfield 17, 3) := by decide +kernel
theorem dX12_sum_9 : decode cX12_sum 9 = .ok (.aload_n 0, 1) := by decide +kernel
theorem dX12_sum_10 : decode cX12_sum 10 = .ok (.getfield 602, 3) := by decide +kernel
theorem dX12_sum_13 : decode cX12_sum 13 = .ok (.invokestatic 236, 3) := by decide +kernel
theorem dX12_sum_16 : decode cX12_sum 16 = .ok (.ireturn, 1) := by decide +kernel
theorem dX12_take_0 : decode cX12_take 0 = .ok (.aload_n 0, 1) := by decide +kernel
theorem dX12_take_1 : decode cX12_take 1 = .ok (.iconst 0, 1) := by decide +kernel
theorem dX12_take_2 : decode cX12_take 2 = .ok (.putfield 78, 3) := by decide +kernel
theorem dX12_take_5 : decode cX12_take 5 = .ok (.aload_n 0, 1) := by decide +kernel
theorem dX12_take_6 : decode cX12_take 6 = .ok (.aload_n 0, 1) := by decide +kernel
theorem dX12_take_7 : decode cX12_take 7 = .ok (.getfield 602, 3) := by decide +kernel
theorem dX12_take_10 : decode cX12_take 10 = .ok (.sipush 4096, 3) := by decide +kernel
theorem dX12_take_13 : decode cX12_take 13 = .ok (.if_icmp .ge 10, 3) := by decide +kernel
theorem dX12_take_16 : decode cX12_take 16 = .ok (.aload_n 0, 1) := by decide +kernel
theorem dX12_take_17 : decode cX12_take 17 = .ok (.getfield 602, 3) := by decide +kernel
theorem dX12_take_20 : decode cX12_take 20 = .ok (.goto 6, 3) := by decide +kernel
theorem dX12_take_23 : decode cX12_take 23 = .ok (.sipush 4096, 3) := by decide +kernel
theorem dX12_take_26 : decode cX12_take 26 = .ok (.putfield 84, 3) := by decide +kernel
theorem dX12_take_29 : decode cX12_take 29 = .ok (.iconst 0, 1) := by decide +kernel
theorem dX12_take_30 : decode cX12_take 30 = .ok (.istore_n 1, 1) := by decide +kernel
theorem dX12_take_31 : decode cX12_take 31 = .ok (.iload_n 1, 1) := by decide +kernel
theorem dX12_take_32 : decode cX12_take 32 = .ok (.aload_n 0, 1) := by decide +kernel
theorem dX12_take_33 : decode cX12_take 33 = .ok (.getfield 84, 3) := by decide +kernel
theorem dX12_take_36 : decode cX12_take 36 = .ok (.if_icmp .ge 21, 3) := by decide +kernel
theorem dX12_take_39 : decode cX12_take 39 = .ok (.aload_n 0, 1) := by decide +kernel
theorem dX12_take_40 : decode cX12_take 40 = .ok (.getfield 7, 3) := by decide +kernel
theorem dX12_take_43 : decode cX12_take 43 = .ok (.iload_n 1, 1) := by decide +kernel
theorem dX12_take_44 : decode cX12_take 44 = .ok (.aload_n 0, 1) := by decide +kernel
theorem dX12_take_45 : decode cX12_take 45 = .ok (.getfield 17, 3) := by decide +kernel
theorem dX12_take_48 : decode cX12_take 48 = .ok (.iload_n 1, 1) := by decide +kernel
theorem dX12_take_49 : decode cX12_take 49 = .ok (.iaload, 1) := by decide +kernel
theorem dX12_take_50 : decode cX12_take 50 = .ok (.iastore, 1) := by decide +kernel
theorem dX12_take_51 : decode cX12_take 51 = .ok (.iinc 1 1, 3) := by decide +kernel
theorem dX12_take_54 : decode cX12_take 54 = .ok (.goto (-23), 3) := by decide +kernel
theorem dX12_take_57 : decode cX12_take 57 = .ok (.aload_n 0, 1) := by decide +kernel
theorem dX12_take_58 : decode cX12_take 58 = .ok (.getfield 84, 3) := by decide +kernel
theorem dX12_take_61 : decode cX12_take 61 = .ok (.ireturn, 1) := by decide +kernel
theorem dX12_drop_0 : decode cX12_drop 0 = .ok (.aload_n 0, 1) := by decide +kernel
theorem dX12_drop_1 : decode cX12_drop 1 = .ok (.iload_n 1, 1) := by decide +kernel
theorem dX12_drop_2 : decode cX12_drop 2 = .ok (.invokevirtual 590, 3) := by decide +kernel
theorem dX12_drop_5 : decode cX12_drop 5 = .ok (.istore_n 2, 1) := by decide +kernel
theorem dX12_drop_6 : decode cX12_drop 6 = .ok (.aload_n 0, 1) := by decide +kernel
theorem dX12_drop_7 : decode cX12_drop 7 = .ok (.iload_n 2, 1) := by decide +kernel
theorem dX12_drop_8 : decode cX12_drop 8 = .ok (.iconst (-1), 1) := by decide +kernel
theorem dX12_drop_9 : decode cX12_drop 9 = .ok (.if_icmp .ne 7, 3) := by decide +kernel
theorem dX12_drop_12 : decode cX12_drop 12 = .ok (.iconst 1, 1) := by decide +kernel
theorem dX12_drop_13 : decode cX12_drop 13 = .ok (.goto 4, 3) := by decide +kernel
theorem dX12_drop_16 : decode cX12_drop 16 = .ok (.iconst 0, 1) := by decide +kernel
theorem dX12_drop_17 : decode cX12_drop 17 = .ok (.putfield 78, 3) := by decide +kernel
theorem dX12_drop_20 : decode cX12_drop 20 = .ok (.aload_n 0, 1) := by decide +kernel
theorem dX12_drop_21 : decode cX12_drop 21 = .ok (.getfield 78, 3) := by decide +kernel
theorem dX12_drop_24 : decode cX12_drop 24 = .ok (.ifCond .le 5, 3) := by decide +kernel
theorem dX12_drop_27 : decode cX12_drop 27 = .ok (.iconst 0, 1) := by decide +kernel
theorem dX12_drop_28 : decode cX12_drop 28 = .ok (.ireturn, 1) := by decide +kernel
theorem dX12_drop_29 : decode cX12_drop 29 = .ok (.aload_n 0, 1) := by decide +kernel
theorem dX12_drop_30 : decode cX12_drop 30 = .ok (.iload_n 2, 1) := by decide +kernel
theorem dX12_drop_31 : decode cX12_drop 31 = .ok (.invokevirtual 503, 3) := by decide +kernel
theorem dX12_drop_34 : decode cX12_drop 34 = .ok (.iload_n 2, 1) := by decide +kernel
theorem dX12_drop_35 : decode cX12_drop 35 = .ok (.isub, 1) := by decide +kernel
theorem dX12_drop_36 : decode cX12_drop 36 = .ok (.istore_n 3, 1) := by decide +kernel
theorem dX12_drop_37 : decode cX12_drop 37 = .ok (.aload_n 0, 1) := by decide +kernel
theorem dX12_drop_38 : decode cX12_drop 38 = .ok (.aload_n 0, 1) := by decide +kernel
theorem dX12_drop_39 : decode cX12_drop 39 = .ok (.getfield 485, 3) := by decide +kernel
theorem dX12_drop_42 : decode cX12_drop 42 = .ok (.iload_n 3, 1) := by decide +kernel
theorem dX12_drop_43 : decode cX12_drop 43 = .ok (.isub, 1) := by decide +kernel
theorem dX12_drop_44 : decode cX12_drop 44 = .ok (.putfield 485, 3) := by decide +kernel
theorem dX12_drop_47 : decode cX12_drop 47 = .ok (.iload_n 2, 1) := by decide +kernel
theorem dX12_drop_48 : decode cX12_drop 48 = .ok (.istore 4, 2) := by decide +kernel
theorem dX12_drop_50 : decode cX12_drop 50 = .ok (.iload 4, 2) := by decide +kernel
theorem dX12_drop_52 : decode cX12_drop 52 = .ok (.aload_n 0, 1) := by decide +kernel
theorem dX12_drop_53 : decode cX12_drop 53 = .ok (.getfield 485, 3) := by decide +kernel
theorem dX12_drop_56 : decode cX12_drop 56 = .ok (.if_icmp .ge 57, 3) := by decide +kernel
theorem dX12_drop_59 : decode cX12_drop 59 = .ok (.aload_n 0, 1) := by decide +kernel
theorem dX12_drop_60 : decode cX12_drop 60 = .ok (.getfield 20, 3) := by decide +kernel
theorem dX12_drop_63 : decode cX12_drop 63 = .ok (.iload 4, 2) := by decide +kernel
theorem dX12_drop_65 : decode cX12_drop 65 = .ok (.aload_n 0, 1) := by decide +kernel
theorem dX12_drop_66 : decode cX12_drop 66 = .ok (.getfield 20, 3) := by decide +kernel
theorem dX12_drop_69 : decode cX12_drop 69 = .ok (.iload 4, 2) := by decide +kernel
theorem dX12_drop_71 : decode cX12_drop 71 = .ok (.iload_n 3, 1) := by decide +kernel
theorem dX12_drop_72 : decode cX12_drop 72 = .ok (.iadd, 1) := by decide +kernel
theorem dX12_drop_73 : decode cX12_drop 73 = .ok (.iaload, 1) := by decide +kernel
theorem dX12_drop_74 : decode cX12_drop 74 = .ok (.iastore, 1) := by decide +kernel
theorem dX12_drop_75 : decode cX12_drop 75 = .ok (.aload_n 0, 1) := by decide +kernel
theorem dX12_drop_76 : decode cX12_drop 76 = .ok (.getfield 24, 3) := by decide +kernel
theorem dX12_drop_79 : decode cX12_drop 79 = .ok (.iload 4, 2) := by decide +kernel
theorem dX12_drop_81 : decode cX12_drop 81 = .ok (.aload_n 0, 1) := by decide +kernel
theorem dX12_drop_82 : decode cX12_drop 82 = .ok (.getfield 24, 3) := by decide +kernel
theorem dX12_drop_85 : decode cX12_drop 85 = .ok (.iload 4, 2) := by decide +kernel
theorem dX12_drop_87 : decode cX12_drop 87 = .ok (.iload_n 3, 1) := by decide +kernel
theorem dX12_drop_88 : decode cX12_drop 88 = .ok (.iadd, 1) := by decide +kernel
theorem dX12_drop_89 : decode cX12_drop 89 = .ok (.aaload, 1) := by decide +kernel
theorem dX12_drop_90 : decode cX12_drop 90 = .ok (.aastore, 1) := by decide +kernel
theorem dX12_drop_91 : decode cX12_drop 91 = .ok (.aload_n 0, 1) := by decide +kernel
theorem dX12_drop_92 : decode cX12_drop 92 = .ok (.getfield 28, 3) := by decide +kernel
theorem dX12_drop_95 : decode cX12_drop 95 = .ok (.iload 4, 2) := by decide +kernel
theorem dX12_drop_97 : decode cX12_drop 97 = .ok (.aload_n 0, 1) := by decide +kernel
theorem dX12_drop_98 : decode cX12_drop 98 = .ok (.getfield 28, 3) := by decide +kernel
theorem dX12_drop_101 : decode cX12_drop 101 = .ok (.iload 4, 2) := by decide +kernel
theorem dX12_drop_103 : decode cX12_drop 103 = .ok (.iload_n 3, 1) := by decide +kernel
theorem dX12_drop_104 : decode cX12_drop 104 = .ok (.iadd, 1) := by decide +kernel
theorem dX12_drop_105 : decode cX12_drop 105 = .ok (.aaload, 1) := by decide +kernel
theorem dX12_drop_106 : decode cX12_drop 106 = .ok (.aastore, 1) := by decide +kernel
theorem dX12_drop_107 : decode cX12_drop 107 = .ok (.iinc 4 1, 3) := by decide +kernel
theorem dX12_drop_110 : decode cX12_drop 110 = .ok (.goto (-60), 3) := by decide +kernel
theorem dX12_drop_113 : decode cX12_drop 113 = .ok (.aload_n 0, 1) := by decide +kernel
theorem dX12_drop_114 : decode cX12_drop 114 = .ok (.invokevirtual 643, 3) := by decide +kernel
theorem dX12_drop_117 : decode cX12_drop 117 = .ok (.ireturn, 1) := by decide +kernel
theorem dX12_hash_0 : decode cX12_hash 0 = .ok (.aload_n 0, 1) := by decide +kernel
theorem dX12_hash_1 : decode cX12_hash 1 = .ok (.iload_n 1, 1) := by decide +kernel
theorem dX12_hash_2 : decode cX12_hash 2 = .ok (.iconst 1, 1) := by decide +kernel
theorem dX12_hash_3 : decode cX12_hash 3 = .ok (.if_icmp .eq 12, 3) := by decide +kernel
theorem dX12_hash_6 : decode cX12_hash 6 = .ok (.iload_n 1, 1) := by decide +kernel
theorem dX12_hash_7 : decode cX12_hash 7 = .ok (.iconst 2, 1) := by decide +kernel
theorem dX12_hash_8 : decode cX12_hash 8 = .ok (.if_icmp .eq 7, 3) := by decide +kernel
theorem dX12_hash_11 : decode cX12_hash 11 = .ok (.iconst 1, 1) := by decide +kernel
theorem dX12_hash_12 : decode cX12_hash 12 = .ok (.goto 28, 3) := by decide +kernel
theorem dX12_hash_15 : decode cX12_hash 15 = .ok (.iload_n 2, 1) := by decide +kernel
theorem dX12_hash_16 : decode cX12_hash 16 = .ok (.ifCond .lt 19, 3) := by decide +kernel
theorem dX12_hash_19 : decode cX12_hash 19 = .ok (.iload_n 2, 1) := by decide +kernel
theorem dX12_hash_20 : decode cX12_hash 20 = .ok (.iload_n 1, 1) := by decide +kernel
theorem dX12_hash_21 : decode cX12_hash 21 = .ok (.iconst 1, 1) := by decide +kernel
theorem dX12_hash_22 : decode cX12_hash 22 = .ok (.if_icmp .ne 8, 3) := by decide +kernel
theorem dX12_hash_25 : decode cX12_hash 25 = .ok (.bipush 20, 2) := by decide +kernel
theorem dX12_hash_27 : decode cX12_hash 27 = .ok (.goto 5, 3) := by decide +kernel
theorem dX12_hash_30 : decode cX12_hash 30 = .ok (.bipush 32, 2) := by decide +kernel
theorem dX12_hash_32 : decode cX12_hash 32 = .ok (.if_icmp .lt 7, 3) := by decide +kernel
theorem dX12_hash_35 : decode cX12_hash 35 = .ok (.iconst 2, 1) := by decide +kernel
theorem dX12_hash_36 : decode cX12_hash 36 = .ok (.goto 4, 3) := by decide +kernel
theorem dX12_hash_39 : decode cX12_hash 39 = .ok (.iconst 0, 1) := by decide +kernel
theorem dX12_hash_40 : decode cX12_hash 40 = .ok (.putfield 78, 3) := by decide +kernel
theorem dX12_hash_43 : decode cX12_hash 43 = .ok (.aload_n 0, 1) := by decide +kernel
theorem dX12_hash_44 : decode cX12_hash 44 = .ok (.getfield 78, 3) := by decide +kernel
theorem dX12_hash_47 : decode cX12_hash 47 = .ok (.ifCond .le 5, 3) := by decide +kernel
theorem dX12_hash_50 : decode cX12_hash 50 = .ok (.iconst 0, 1) := by decide +kernel
theorem dX12_hash_51 : decode cX12_hash 51 = .ok (.ireturn, 1) := by decide +kernel
theorem dX12_hash_52 : decode cX12_hash 52 = .ok (.aload_n 0, 1) := by decide +kernel
theorem dX12_hash_53 : decode cX12_hash 53 = .ok (.iconst 0, 1) := by decide +kernel
theorem dX12_hash_54 : decode cX12_hash 54 = .ok (.putfield 93, 3) := by decide +kernel
theorem dX12_hash_57 : decode cX12_hash 57 = .ok (.aload_n 0, 1) := by decide +kernel
theorem dX12_hash_58 : decode cX12_hash 58 = .ok (.aload_n 0, 1) := by decide +kernel
theorem dX12_hash_59 : decode cX12_hash 59 = .ok (.getfield 13, 3) := by decide +kernel
theorem dX12_hash_62 : decode cX12_hash 62 = .ok (.iconst 0, 1) := by decide +kernel
theorem dX12_hash_63 : decode cX12_hash 63 = .ok (.aload_n 0, 1) := by decide +kernel
theorem dX12_hash_64 : decode cX12_hash 64 = .ok (.getfield 13, 3) := by decide +kernel
theorem dX12_hash_67 : decode cX12_hash 67 = .ok (.arraylength, 1) := by decide +kernel
theorem dX12_hash_68 : decode cX12_hash 68 = .ok (.invokevirtual 342, 3) := by decide +kernel
theorem dX12_hash_71 : decode cX12_hash 71 = .ok (.aload_n 0, 1) := by decide +kernel
theorem dX12_hash_72 : decode cX12_hash 72 = .ok (.iload_n 1, 1) := by decide +kernel
theorem dX12_hash_73 : decode cX12_hash 73 = .ok (.iconst 1, 1) := by decide +kernel
theorem dX12_hash_74 : decode cX12_hash 74 = .ok (.if_icmp .ne 7, 3) := by decide +kernel
theorem dX12_hash_77 : decode cX12_hash 77 = .ok (.iconst 2, 1) := by decide +kernel
theorem dX12_hash_78 : decode cX12_hash 78 = .ok (.goto 5, 3) := by decide +kernel
theorem dX12_hash_81 : decode cX12_hash 81 = .ok (.bipush 8, 2) := by decide +kernel
theorem dX12_hash_83 : decode cX12_hash 83 = .ok (.invokevirtual 350, 3) := by decide +kernel
theorem dX12_hash_86 : decode cX12_hash 86 = .ok (.istore_n 3, 1) := by decide +kernel
theorem dX12_hash_87 : decode cX12_hash 87 = .ok (.aload_n 0, 1) := by decide +kernel
theorem dX12_hash_88 : decode cX12_hash 88 = .ok (.getfield 43, 3) := by decide +kernel
theorem dX12_hash_91 : decode cX12_hash 91 = .ok (.iload_n 2, 1) := by decide +kernel
theorem dX12_hash_92 : decode cX12_hash 92 = .ok (.iaload, 1) := by decide +kernel
theorem dX12_hash_93 : decode cX12_hash 93 = .ok (.ireturn, 1) := by decide +kernel
