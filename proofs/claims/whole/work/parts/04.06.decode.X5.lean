theorem dX5_init_0 : decode cX5_init 0 = .ok (.aload_n 0, 1) := by decide +kernel
theorem dX5_init_1 : decode cX5_init 1 = .ok (.invokespecial 5, 3) := by decide +kernel
theorem dX5_init_4 : decode cX5_init 4 = .ok (.aload_n 0, 1) := by decide +kernel
theorem dX5_init_5 : decode cX5_init 5 = .ok (.bipush 6, 2) := by decide +kernel
theorem dX5_init_7 : decode cX5_init 7 = .ok (.newarray .int, 2) := by decide +kernel
theorem dX5_init_9 : decode cX5_init 9 = .ok (.putfield 11, 3) := by decide +kernel
theorem dX5_init_12 : decode cX5_init 12 = .ok (.aload_n 0, 1) := by decide +kernel
theorem dX5_init_13 : decode cX5_init 13 = .ok (.bipush 40, 2) := by decide +kernel
theorem dX5_init_15 : decode cX5_init 15 = .ok (.newarray .int, 2) := by decide +kernel
theorem dX5_init_17 : decode cX5_init 17 = .ok (.putfield 15, 3) := by decide +kernel
theorem dX5_init_20 : decode cX5_init 20 = .ok (.return_, 1) := by decide +kernel
theorem dX5_face_0 : decode cX5_face 0 = .ok (.aload_n 0, 1) := by decide +kernel
theorem dX5_face_1 : decode cX5_face 1 = .ok (.aload_n 1, 1) := by decide +kernel
theorem dX5_face_2 : decode cX5_face 2 = .ok (.getfield 18, 3) := by decide +kernel
theorem dX5_face_5 : decode cX5_face 5 = .ok (.bipush 6, 2) := by decide +kernel
theorem dX5_face_7 : decode cX5_face 7 = .ok (.invokestatic 24, 3) := by decide +kernel
theorem dX5_face_10 : decode cX5_face 10 = .ok (.putfield 30, 3) := by decide +kernel
theorem dX5_face_13 : decode cX5_face 13 = .ok (.aload_n 0, 1) := by decide +kernel
theorem dX5_face_14 : decode cX5_face 14 = .ok (.iload 4, 2) := by decide +kernel
theorem dX5_face_16 : decode cX5_face 16 = .ok (.putfield 31, 3) := by decide +kernel
theorem dX5_face_19 : decode cX5_face 19 = .ok (.iconst 0, 1) := by decide +kernel
theorem dX5_face_20 : decode cX5_face 20 = .ok (.istore 5, 2) := by decide +kernel
theorem dX5_face_22 : decode cX5_face 22 = .ok (.iload 5, 2) := by decide +kernel
theorem dX5_face_24 : decode cX5_face 24 = .ok (.aload_n 0, 1) := by decide +kernel
theorem dX5_face_25 : decode cX5_face 25 = .ok (.getfield 30, 3) := by decide +kernel
theorem dX5_face_28 : decode cX5_face 28 = .ok (.if_icmp .ge 44, 3) := by decide +kernel
theorem dX5_face_31 : decode cX5_face 31 = .ok (.iload_n 2, 1) := by decide +kernel
theorem dX5_face_32 : decode cX5_face 32 = .ok (.iconst 4, 1) := by decide +kernel
theorem dX5_face_33 : decode cX5_face 33 = .ok (.iload 5, 2) := by decide +kernel
theorem dX5_face_35 : decode cX5_face 35 = .ok (.imul, 1) := by decide +kernel
theorem dX5_face_36 : decode cX5_face 36 = .ok (.ishr, 1) := by decide +kernel
theorem dX5_face_37 : decode cX5_face 37 = .ok (.bipush 15, 2) := by decide +kernel
theorem dX5_face_39 : decode cX5_face 39 = .ok (.iand, 1) := by decide +kernel
theorem dX5_face_40 : decode cX5_face 40 = .ok (.istore 6, 2) := by decide +kernel
theorem dX5_face_42 : decode cX5_face 42 = .ok (.aload_n 0, 1) := by decide +kernel
theorem dX5_face_43 : decode cX5_face 43 = .ok (.getfield 11, 3) := by decide +kernel
theorem dX5_face_46 : decode cX5_face 46 = .ok (.iload 5, 2) := by decide +kernel
theorem dX5_face_48 : decode cX5_face 48 = .ok (.iload_n 3, 1) := by decide +kernel
theorem dX5_face_49 : decode cX5_face 49 = .ok (.ifCond .eq 14, 3) := by decide +kernel
theorem dX5_face_52 : decode cX5_face 52 = .ok (.aload_n 1, 1) := by decide +kernel
theorem dX5_face_53 : decode cX5_face 53 = .ok (.iload 5, 2) := by decide +kernel
theorem dX5_face_55 : decode cX5_face 55 = .ok (.iload 6, 2) := by decide +kernel
theorem dX5_face_57 : decode cX5_face 57 = .ok (.invokevirtual 34, 3) := by decide +kernel
theorem dX5_face_60 : decode cX5_face 60 = .ok (.goto 5, 3) := by decide +kernel
theorem dX5_face_63 : decode cX5_face 63 = .ok (.iload 6, 2) := by decide +kernel
theorem dX5_face_65 : decode cX5_face 65 = .ok (.iastore, 1) := by decide +kernel
theorem dX5_face_66 : decode cX5_face 66 = .ok (.iinc 5 1, 3) := by decide +kernel
theorem dX5_face_69 : decode cX5_face 69 = .ok (.goto (-47), 3) := by decide +kernel
theorem dX5_face_72 : decode cX5_face 72 = .ok (.return_, 1) := by decide +kernel
theorem dX5_allTruths_0 : decode cX5_allTruths 0 = .ok (.iconst 0, 1) := by decide +kernel
theorem dX5_allTruths_1 : decode cX5_allTruths 1 = .ok (.istore_n 2, 1) := by decide +kernel
theorem dX5_allTruths_2 : decode cX5_allTruths 2 = .ok (.iconst 0, 1) := by decide +kernel
theorem dX5_allTruths_3 : decode cX5_allTruths 3 = .ok (.istore_n 3, 1) := by decide +kernel
theorem dX5_allTruths_4 : decode cX5_allTruths 4 = .ok (.iload_n 3, 1) := by decide +kernel
theorem dX5_allTruths_5 : decode cX5_allTruths 5 = .ok (.aload_n 1, 1) := by decide +kernel
theorem dX5_allTruths_6 : decode cX5_allTruths 6 = .ok (.getfield 37, 3) := by decide +kernel
theorem dX5_allTruths_9 : decode cX5_allTruths 9 = .ok (.if_icmp .ge 24, 3) := by decide +kernel
theorem dX5_allTruths_12 : decode cX5_allTruths 12 = .ok (.aload_n 0, 1) := by decide +kernel
theorem dX5_allTruths_13 : decode cX5_allTruths 13 = .ok (.aload_n 1, 1) := by decide +kernel
theorem dX5_allTruths_14 : decode cX5_allTruths 14 = .ok (.iload_n 3, 1) := by decide +kernel
theorem dX5_allTruths_15 : decode cX5_allTruths 15 = .ok (.invokevirtual 40, 3) := by decide +kernel
theorem dX5_allTruths_18 : decode cX5_allTruths 18 = .ok (.ifCond .eq 9, 3) := by decide +kernel
theorem dX5_allTruths_21 : decode cX5_allTruths 21 = .ok (.iload_n 2, 1) := by decide +kernel
theorem dX5_allTruths_22 : decode cX5_allTruths 22 = .ok (.iconst 1, 1) := by decide +kernel
theorem dX5_allTruths_23 : decode cX5_allTruths 23 = .ok (.iload_n 3, 1) := by decide +kernel
theorem dX5_allTruths_24 : decode cX5_allTruths 24 = .ok (.ishl, 1) := by decide +kernel
theorem dX5_allTruths_25 : decode cX5_allTruths 25 = .ok (.ior, 1) := by decide +kernel
theorem dX5_allTruths_26 : decode cX5_allTruths 26 = .ok (.istore_n 2, 1) := by decide +kernel
theorem dX5_allTruths_27 : decode cX5_allTruths 27 = .ok (.iinc 3 1, 3) := by decide +kernel
theorem dX5_allTruths_30 : decode cX5_allTruths 30 = .ok (.goto (-26), 3) := by decide +kernel
theorem dX5_allTruths_33 : decode cX5_allTruths 33 = .ok (.iload_n 2, 1) := by decide +kernel
theorem dX5_allTruths_34 : decode cX5_allTruths 34 = .ok (.ireturn, 1) := by decide +kernel
theorem dX5_isTrue_0 : decode cX5_isTrue 0 = .ok (.aload_n 1, 1) := by decide +kernel
theorem dX5_isTrue_1 : decode cX5_isTrue 1 = .ok (.getfield 44, 3) := by decide +kernel
theorem dX5_isTrue_4 : decode cX5_isTrue 4 = .ok (.iload_n 2, 1) := by decide +kernel
theorem dX5_isTrue_5 : decode cX5_isTrue 5 = .ok (.iconst 1, 1) := by decide +kernel
theorem dX5_isTrue_6 : decode cX5_isTrue 6 = .ok (.iadd, 1) := by decide +kernel
theorem dX5_isTrue_7 : decode cX5_isTrue 7 = .ok (.iaload, 1) := by decide +kernel
theorem dX5_isTrue_8 : decode cX5_isTrue 8 = .ok (.aload_n 1, 1) := by decide +kernel
theorem dX5_isTrue_9 : decode cX5_isTrue 9 = .ok (.getfield 47, 3) := by decide +kernel
theorem dX5_isTrue_12 : decode cX5_isTrue 12 = .ok (.arraylength, 1) := by decide +kernel
theorem dX5_isTrue_13 : decode cX5_isTrue 13 = .ok (.invokestatic 24, 3) := by decide +kernel
theorem dX5_isTrue_16 : decode cX5_isTrue 16 = .ok (.istore_n 3, 1) := by decide +kernel
theorem dX5_isTrue_17 : decode cX5_isTrue 17 = .ok (.iconst 0, 1) := by decide +kernel
theorem dX5_isTrue_18 : decode cX5_isTrue 18 = .ok (.istore 4, 2) := by decide +kernel
theorem dX5_isTrue_20 : decode cX5_isTrue 20 = .ok (.aload_n 1, 1) := by decide +kernel
theorem dX5_isTrue_21 : decode cX5_isTrue 21 = .ok (.getfield 44, 3) := by decide +kernel
theorem dX5_isTrue_24 : decode cX5_isTrue 24 = .ok (.iload_n 2, 1) := by decide +kernel
theorem dX5_isTrue_25 : decode cX5_isTrue 25 = .ok (.iaload, 1) := by decide +kernel
theorem dX5_isTrue_26 : decode cX5_isTrue 26 = .ok (.istore 5, 2) := by decide +kernel
theorem dX5_isTrue_28 : decode cX5_isTrue 28 = .ok (.iload 5, 2) := by decide +kernel
theorem dX5_isTrue_30 : decode cX5_isTrue 30 = .ok (.iload_n 3, 1) := by decide +kernel
theorem dX5_isTrue_31 : decode cX5_isTrue 31 = .ok (.if_icmp .ge 138, 3) := by decide +kernel
theorem dX5_isTrue_34 : decode cX5_isTrue 34 = .ok (.aload_n 1, 1) := by decide +kernel
theorem dX5_isTrue_35 : decode cX5_isTrue 35 = .ok (.getfield 47, 3) := by decide +kernel
theorem dX5_isTrue_38 : decode cX5_isTrue 38 = .ok (.iload 5, 2) := by decide +kernel
theorem dX5_isTrue_40 : decode cX5_isTrue 40 = .ok (.iaload, 1) := by decide +kernel
theorem dX5_isTrue_41 : decode cX5_isTrue 41 = .ok (.bipush 10, 2) := by decide +kernel
theorem dX5_isTrue_43 : decode cX5_isTrue 43 = .ok (.ishr, 1) := by decide +kernel
theorem dX5_isTrue_44 : decode cX5_isTrue 44 = .ok (.istore 6, 2) := by decide +kernel
theorem dX5_isTrue_46 : decode cX5_isTrue 46 = .ok (.iload 6, 2) := by decide +kernel
theorem dX5_isTrue_48 : decode cX5_isTrue 48 = .ok (.iconst 5, 1) := by decide +kernel
theorem dX5_isTrue_49 : decode cX5_isTrue 49 = .ok (.if_icmp .gt 40, 3) := by decide +kernel
theorem dX5_isTrue_52 : decode cX5_isTrue 52 = .ok (.iload 4, 2) := by decide +kernel
theorem dX5_isTrue_54 : decode cX5_isTrue 54 = .ok (.bipush 40, 2) := by decide +kernel
theorem dX5_isTrue_56 : decode cX5_isTrue 56 = .ok (.if_icmp .ge 107, 3) := by decide +kernel
theorem dX5_isTrue_59 : decode cX5_isTrue 59 = .ok (.aload_n 0, 1) := by decide +kernel
theorem dX5_isTrue_60 : decode cX5_isTrue 60 = .ok (.getfield 15, 3) := by decide +kernel
theorem dX5_isTrue_63 : decode cX5_isTrue 63 = .ok (.iload 4, 2) := by decide +kernel
theorem dX5_isTrue_65 : decode cX5_isTrue 65 = .ok (.aload_n 0, 1) := by decide +kernel
theorem dX5_isTrue_66 : decode cX5_isTrue 66 = .ok (.iload 6, 2) := by decide +kernel
theorem dX5_isTrue_68 : decode cX5_isTrue 68 = .ok (.aload_n 1, 1) := by decide +kernel
theorem dX5_isTrue_69 : decode cX5_isTrue 69 = .ok (.getfield 47, 3) := by decide +kernel
theorem dX5_isTrue_72 : decode cX5_isTrue 72 = .ok (.iload 5, 2) := by decide +kernel
theorem dX5_isTrue_74 : decode cX5_isTrue 74 = .ok (.iaload, 1) := by decide +kernel
theorem dX5_isTrue_75 : decode cX5_isTrue 75 = .ok (.sipush 1023, 3) := by decide +kernel
theorem dX5_isTrue_78 : decode cX5_isTrue 78 = .ok (.iand, 1) := by decide +kernel
theorem dX5_isTrue_79 : decode cX5_isTrue 79 = .ok (.invokevirtual 50, 3) := by decide +kernel
theorem dX5_isTrue_82 : decode cX5_isTrue 82 = .ok (.iastore, 1) := by decide +kernel
theorem dX5_isTrue_83 : decode cX5_isTrue 83 = .ok (.iinc 4 1, 3) := by decide +kernel
theorem dX5_isTrue_86 : decode cX5_isTrue 86 = .ok (.goto 77, 3) := by decide +kernel
theorem dX5_isTrue_89 : decode cX5_isTrue 89 = .ok (.iload 6, 2) := by decide +kernel
theorem dX5_isTrue_91 : decode cX5_isTrue 91 = .ok (.bipush 6, 2) := by decide +kernel
theorem dX5_isTrue_93 : decode cX5_isTrue 93 = .ok (.if_icmp .ne 31, 3) := by decide +kernel
theorem dX5_isTrue_96 : decode cX5_isTrue 96 = .ok (.iload 4, 2) := by decide +kernel
theorem dX5_isTrue_98 : decode cX5_isTrue 98 = .ok (.ifCond .le 65, 3) := by decide +kernel
theorem dX5_isTrue_101 : decode cX5_isTrue 101 = .ok (.aload_n 0, 1) := by decide +kernel
theorem dX5_isTrue_102 : decode cX5_isTrue 102 = .ok (.getfield 15, 3) := by decide +kernel
theorem dX5_isTrue_105 : decode cX5_isTrue 105 = .ok (.iload 4, 2) := by decide +kernel
theorem dX5_isTrue_107 : decode cX5_isTrue 107 = .ok (.iconst 1, 1) := by decide +kernel
theorem dX5_isTrue_108 : decode cX5_isTrue 108 = .ok (.isub, 1) := by decide +kernel
theorem dX5_isTrue_109 : decode cX5_isTrue 109 = .ok (.iconst 1, 1) := by decide +kernel
theorem dX5_isTrue_110 : decode cX5_isTrue 110 = .ok (.aload_n 0, 1) := by decide +kernel
theorem dX5_isTrue_111 : decode cX5_isTrue 111 = .ok (.getfield 15, 3) := by decide +kernel
theorem dX5_isTrue_114 : decode cX5_isTrue 114 = .ok (.iload 4, 2) := by decide +kernel
theorem dX5_isTrue_116 : decode cX5_isTrue 116 = .ok (.iconst 1, 1) := by decide +kernel
theorem dX5_isTrue_117 : decode cX5_isTrue 117 = .ok (.isub, 1) := by decide +kernel
theorem dX5_isTrue_118 : decode cX5_isTrue 118 = .ok (.iaload, 1) := by decide +kernel
theorem dX5_isTrue_119 : decode cX5_isTrue 119 = .ok (.isub, 1) := by decide +kernel
theorem dX5_isTrue_120 : decode cX5_isTrue 120 = .ok (.iastore, 1) := by decide +kernel
theorem dX5_isTrue_121 : decode cX5_isTrue 121 = .ok (.goto 42, 3) := by decide +kernel
theorem dX5_isTrue_124 : decode cX5_isTrue 124 = .ok (.iload 4, 2) := by decide +kernel
theorem dX5_isTrue_126 : decode cX5_isTrue 126 = .ok (.iconst 1, 1) := by decide +kernel
theorem dX5_isTrue_127 : decode cX5_isTrue 127 = .ok (.if_icmp .le 36, 3) := by decide +kernel
theorem dX5_isTrue_130 : decode cX5_isTrue 130 = .ok (.iinc 4 (-1), 3) := by decide +kernel
theorem dX5_isTrue_133 : decode cX5_isTrue 133 = .ok (.aload_n 0, 1) := by decide +kernel
theorem dX5_isTrue_134 : decode cX5_isTrue 134 = .ok (.getfield 15, 3) := by decide +kernel
theorem dX5_isTrue_137 : decode cX5_isTrue 137 = .ok (.iload 4, 2) := by decide +kernel
theorem dX5_isTrue_139 : decode cX5_isTrue 139 = .ok (.iconst 1, 1) := by decide +kernel
theorem dX5_isTrue_140 : decode cX5_isTrue 140 = .ok (.isub, 1) := by decide +kernel
theorem dX5_isTrue_141 : decode cX5_isTrue 141 = .ok (.iload 6, 2) := by decide +kernel
theorem dX5_isTrue_143 : decode cX5_isTrue 143 = .ok (.aload_n 0, 1) := by decide +kernel
theorem dX5_isTrue_144 : decode cX5_isTrue 144 = .ok (.getfield 15, 3) := by decide +kernel
theorem dX5_isTrue_147 : decode cX5_isTrue 147 = .ok (.iload 4, 2) := by decide +kernel
theorem dX5_isTrue_149 : decode cX5_isTrue 149 = .ok (.iconst 1, 1) := by decide +kernel
theorem dX5_isTrue_150 : decode cX5_isTrue 150 = .ok (.isub, 1) := by decide +kernel
theorem dX5_isTrue_151 : decode cX5_isTrue 151 = .ok (.iaload, 1) := by decide +kernel
theorem dX5_isTrue_152 : decode cX5_isTrue 152 = .ok (.aload_n 0, 1) := by decide +kernel
theorem dX5_isTrue_153 : decode cX5_isTrue 153 = .ok (.getfield 15, 3) := by decide +kernel
theorem dX5_isTrue_156 : decode cX5_isTrue 156 = .ok (.iload 4, 2) := by decide +kernel
theorem dX5_isTrue_158 : decode cX5_isTrue 158 = .ok (.iaload, 1) := by decide +kernel
theorem dX5_isTrue_159 : decode cX5_isTrue 159 = .ok (.invokestatic 53, 3) := by decide +kernel
theorem dX5_isTrue_162 : decode cX5_isTrue 162 = .ok (.iastore, 1) := by decide +kernel
theorem dX5_isTrue_163 : decode cX5_isTrue 163 = .ok (.iinc 5 1, 3) := by decide +kernel
theorem dX5_isTrue_166 : decode cX5_isTrue 166 = .ok (.goto (-138), 3) := by decide +kernel
theorem dX5_isTrue_169 : decode cX5_isTrue 169 = .ok (.aload_n 0, 1) := by decide +kernel
theorem dX5_isTrue_170 : decode cX5_isTrue 170 = .ok (.getfield 15, 3) := by decide +kernel
theorem dX5_isTrue_173 : decode cX5_isTrue 173 = .ok (.iconst 0, 1) := by decide +kernel
theorem dX5_isTrue_174 : decode cX5_isTrue 174 = .ok (.iaload, 1) := by decide +kernel
theorem dX5_isTrue_175 : decode cX5_isTrue 175 = .ok (.ifCond .eq 7, 3) := by decide +kernel
theorem dX5_isTrue_178 : decode cX5_isTrue 178 = .ok (.iconst 1, 1) := by decide +kernel
theorem dX5_isTrue_179 : decode cX5_isTrue 179 = .ok (.goto 4, 3) := by decide +kernel
theorem dX5_isTrue_182 : decode cX5_isTrue 182 = .ok (.iconst 0, 1) := by decide +kernel
theorem dX5_isTrue_183 : decode cX5_isTrue 183 = .ok (.ireturn, 1) := by decide +kernel
theorem dX5_atom_0 : decode cX5_atom 0 = .ok (.iload_n 1, 1) := by decide +kernel
theorem dX5_atom_1 : decode cX5_atom 1 = .ok (.tableswitch 70 0 4 #[35, 37, 54, 60, 65], 35) := by decide +kernel
theorem dX5_atom_36 : decode cX5_atom 36 = .ok (.iload_n 2, 1) := by decide +kernel
theorem dX5_atom_37 : decode cX5_atom 37 = .ok (.ireturn, 1) := by decide +kernel
theorem dX5_atom_38 : decode cX5_atom 38 = .ok (.iload_n 2, 1) := by decide +kernel
theorem dX5_atom_39 : decode cX5_atom 39 = .ok (.bipush 6, 2) := by decide +kernel
theorem dX5_atom_41 : decode cX5_atom 41 = .ok (.if_icmp .ge 12, 3) := by decide +kernel
theorem dX5_atom_44 : decode cX5_atom 44 = .ok (.aload_n 0, 1) := by decide +kernel
theorem dX5_atom_45 : decode cX5_atom 45 = .ok (.getfield 11, 3) := by decide +kernel
theorem dX5_atom_48 : decode cX5_atom 48 = .ok (.iload_n 2, 1) := by decide +kernel
theorem dX5_atom_49 : decode cX5_atom 49 = .ok (.iaload, 1) := by decide +kernel
theorem dX5_atom_50 : decode cX5_atom 50 = .ok (.goto 4, 3) := by decide +kernel
theorem dX5_atom_53 : decode cX5_atom 53 = .ok (.iconst 0, 1) := by decide +kernel
theorem dX5_atom_54 : decode cX5_atom 54 = .ok (.ireturn, 1) := by decide +kernel
theorem dX5_atom_55 : decode cX5_atom 55 = .ok (.aload_n 0, 1) := by decide +kernel
theorem dX5_atom_56 : decode cX5_atom 56 = .ok (.iload_n 2, 1) := by decide +kernel
theorem dX5_atom_57 : decode cX5_atom 57 = .ok (.invokevirtual 57, 3) := by decide +kernel
theorem dX5_atom_60 : decode cX5_atom 60 = .ok (.ireturn, 1) := by decide +kernel
theorem dX5_atom_61 : decode cX5_atom 61 = .ok (.aload_n 0, 1) := by decide +kernel
theorem dX5_atom_62 : decode cX5_atom 62 = .ok (.invokevirtual 61, 3) := by decide +kernel
theorem dX5_atom_65 : decode cX5_atom 65 = .ok (.ireturn, 1) := by decide +kernel
theorem dX5_atom_66 : decode cX5_atom 66 = .ok (.aload_n 0, 1) := by decide +kernel
theorem dX5_atom_67 : decode cX5_atom 67 = .ok (.invokevirtual 65, 3) := by decide +kernel
theorem dX5_atom_70 : decode cX5_atom 70 = .ok (.ireturn, 1) := by decide +kernel
theorem dX5_atom_71 : decode cX5_atom 71 = .ok (.aload_n 0, 1) := by decide +kernel
theorem dX5_atom_72 : decode cX5_atom 72 = .ok (.getfield 31, 3) := by decide +kernel
theorem dX5_atom_75 : decode cX5_atom 75 = .ok (.ireturn, 1) := by decide +kernel
theorem dX5_join_0 : decode cX5_join 0 = .ok (.iload_n 0, 1) := by decide +kernel
theorem dX5_join_1 : decode cX5_join 1 = .ok (.tableswitch 102 7 13 #[43, 47, 51, 62, 73, 84, 93], 43) := by decide +kernel
theorem dX5_join_44 : decode cX5_join 44 = .ok (.iload_n 1, 1) := by decide +kernel
theorem dX5_join_45 : decode cX5_join 45 = .ok (.iload_n 2, 1) := by decide +kernel
theorem dX5_join_46 : decode cX5_join 46 = .ok (.iand, 1) := by decide +kernel
theorem dX5_join_47 : decode cX5_join 47 = .ok (.ireturn, 1) := by decide +kernel
theorem dX5_join_48 : decode cX5_join 48 = .ok (.iload_n 1, 1) := by decide +kernel
theorem dX5_join_49 : decode cX5_join 49 = .ok (.iload_n 2, 1) := by decide +kernel
theorem dX5_join_50 : decode cX5_join 50 = .ok (.ior, 1) := by decide +kernel
theorem dX5_join_51 : decode cX5_join 51 = .ok (.ireturn, 1) := by decide +kernel
theorem dX5_join_52 : decode cX5_join 52 = .ok (.iload_n 1, 1) := by decide +kernel
theorem dX5_join_53 : decode cX5_join 53 = .ok (.iload_n 2, 1) := by decide +kernel
theorem dX5_join_54 : decode cX5_join 54 = .ok (.if_icmp .ne 7, 3) := by decide +kernel
theorem dX5_join_57 : decode cX5_join 57 = .ok (.iconst 1, 1) := by decide +kernel
theorem dX5_join_58 : decode cX5_join 58 = .ok (.goto 4, 3) := by decide +kernel
theorem dX5_join_61 : decode cX5_join 61 = .ok (.iconst 0, 1) := by decide +kernel
theorem dX5_join_62 : decode cX5_join 62 = .ok (.ireturn, 1) := by decide +kernel
theorem dX5_join_63 : decode cX5_join 63 = .ok (.iload_n 1, 1) := by decide +kernel
theorem dX5_join_64 : decode cX5_join 64 = .ok (.iload_n 2, 1) := by decide +kernel
theorem dX5_join_65 : decode cX5_join 65 = .ok (.if_icmp .ge 7, 3) := by decide +kernel
theorem dX5_join_68 : decode cX5_join 68 = .ok (.iconst 1, 1) := by decide +kernel
theorem dX5_join_69 : decode cX5_join 69 = .ok (.goto 4, 3) := by decide +kernel
theorem dX5_join_72 : decode cX5_join 72 = .ok (.iconst 0, 1) := by decide +kernel
theorem dX5_join_73 : decode cX5_join 73 = .ok (.ireturn, 1) := by decide +kernel
theorem dX5_join_74 : decode cX5_join 74 = .ok (.iload_n 1, 1) := by decide +kernel
theorem dX5_join_75 : decode cX5_join 75 = .ok (.iload_n 2, 1) := by decide +kernel
theorem dX5_join_76 : decode cX5_join 76 = .ok (.if_icmp .le 7, 3) := by decide +kernel
theorem dX5_join_79 : decode cX5_join 79 = .ok (.iconst 1, 1) := by decide +kernel
theorem dX5_join_80 : decode cX5_join 80 = .ok (.goto 4, 3) := by decide +kernel
theorem dX5_join_83 : decode cX5_join 83 = .ok (.iconst 0, 1) := by decide +kernel
theorem dX5_join_84 : decode cX5_join 84 = .ok (.ireturn, 1) := by decide +kernel
theorem dX5_join_85 : decode cX5_join 85 = .ok (.iload_n 1, 1) := by decide +kernel
theorem dX5_join_86 : decode cX5_join 86 = .ok (.i2l, 1) := by decide +kernel
theorem dX5_join_87 : decode cX5_join 87 = .ok (.iload_n 2, 1) := by decide +kernel
theorem dX5_join_88 : decode cX5_join 88 = .ok (.i2l, 1) := by decide +kernel
theorem dX5_join_89 : decode cX5_join 89 = .ok (.ladd, 1) := by decide +kernel
theorem dX5_join_90 : decode cX5_join 90 = .ok (.invokestatic 68, 3) := by decide +kernel
theorem dX5_join_93 : decode cX5_join 93 = .ok (.ireturn, 1) := by decide +kernel
theorem dX5_join_94 : decode cX5_join 94 = .ok (.iload_n 1, 1) := by decide +kernel
theorem dX5_join_95 : decode cX5_join 95 = .ok (.i2l, 1) := by decide +kernel
theorem dX5_join_96 : decode cX5_join 96 = .ok (.iload_n 2, 1) := by decide +kernel
theorem dX5_join_97 : decode cX5_join 97 = .ok (.i2l, 1) := by decide +kernel
theorem dX5_join_98 : decode cX5_join 98 = .ok (.lsub, 1) := by decide +kernel
theorem dX5_join_99 : decode cX5_join 99 = .ok (.invokestatic 68, 3) := by decide +kernel
theorem dX5_join_102 : decode cX5_join 102 = .ok (.ireturn, 1) := by decide +kernel
theorem dX5_join_103 : decode cX5_join 103 = .ok (.iload_n 1, 1) := by decide +kernel
theorem dX5_join_104 : decode cX5_join 104 = .ok (.i2l, 1) := by decide +kernel
theorem dX5_join_105 : decode cX5_join 105 = .ok (.iload_n 2, 1) := by decide +kernel
theorem dX5_join_106 : decode cX5_join 106 = .ok (.i2l, 1) := by decide +kernel
theorem dX5_join_107 : decode cX5_join 107 = .ok (.lmul, 1) := by decide +kernel
theorem dX5_join_108 : decode cX5_join 108 = .ok (.invokestatic 68, 3) := by decide +kernel
theorem dX5_join_111 : decode cX5_join 111 = .ok (.ireturn, 1) := by decide +kernel
theorem dX5_kept_0 : decode cX5_kept 0 = .ok (.lload_n 0, 1) := by decide +kernel
theorem dX5_kept_1 : decode cX5_kept 1 = .ok (.ldc2_w 72, 3) := by decide +kernel
theorem dX5_kept_4 : decode cX5_kept 4 = .ok (.lcmp, 1) := by decide +kernel
theorem dX5_kept_5 : decode cX5_kept 5 = .ok (.ifCond .le 8, 3) := by decide +kernel
theorem dX5_kept_8 : decode cX5_kept 8 = .ok (.ldc 74, 2) := by decide +kernel
theorem dX5_kept_10 : decode cX5_kept 10 = .ok (.goto 18, 3) := by decide +kernel
theorem dX5_kept_13 : decode cX5_kept 13 = .ok (.lload_n 0, 1) := by decide +kernel
theorem dX5_kept_14 : decode cX5_kept 14 = .ok (.ldc2_w 75, 3) := by decide +kernel
theorem dX5_kept_17 : decode cX5_kept 17 = .ok (.lcmp, 1) := by decide +kernel
theorem dX5_kept_18 : decode cX5_kept 18 = .ok (.ifCond .ge 8, 3) := by decide +kernel
theorem dX5_kept_21 : decode cX5_kept 21 = .ok (.ldc 77, 2) := by decide +kernel
theorem dX5_kept_23 : decode cX5_kept 23 = .ok (.goto 5, 3) := by decide +kernel
theorem dX5_kept_26 : decode cX5_kept 26 = .ok (.lload_n 0, 1) := by decide +kernel
theorem dX5_kept_27 : decode cX5_kept 27 = .ok (.l2i, 1) := by decide +kernel
theorem dX5_kept_28 : decode cX5_kept 28 = .ok (.ireturn, 1) := by decide +kernel
theorem dX5_someLooks_0 : decode cX5_someLooks 0 = .ok (.iconst 0, 1) := by decide +kernel
theorem dX5_someLooks_1 : decode cX5_someLooks 1 = .ok (.istore_n 2, 1) := by decide +kernel
theorem dX5_someLooks_2 : decode cX5_someLooks 2 = .ok (.iload_n 2, 1) := by decide +kernel
theorem dX5_someLooks_3 : decode cX5_someLooks 3 = .ok (.aload_n 0, 1) := by decide +kernel
theorem dX5_someLooks_4 : decode cX5_someLooks 4 = .ok (.getfield 30, 3) := by decide +kernel
theorem dX5_someLooks_7 : decode cX5_someLooks 7 = .ok (.if_icmp .ge 21, 3) := by decide +kernel
theorem dX5_someLooks_10 : decode cX5_someLooks 10 = .ok (.aload_n 0, 1) := by decide +kernel
theorem dX5_someLooks_11 : decode cX5_someLooks 11 = .ok (.getfield 11, 3) := by decide +kernel
theorem dX5_someLooks_14 : decode cX5_someLooks 14 = .ok (.iload_n 2, 1) := by decide +kernel
theorem dX5_someLooks_15 : decode cX5_someLooks 15 = .ok (.iaload, 1) := by decide +kernel
theorem dX5_someLooks_16 : decode cX5_someLooks 16 = .ok (.iload_n 1, 1) := by decide +kernel
theorem dX5_someLooks_17 : decode cX5_someLooks 17 = .ok (.if_icmp .ne 5, 3) := by decide +kernel
theorem dX5_someLooks_20 : decode cX5_someLooks 20 = .ok (.iconst 1, 1) := by decide +kernel
theorem dX5_someLooks_21 : decode cX5_someLooks 21 = .ok (.ireturn, 1) := by decide +kernel
theorem dX5_someLooks_22 : decode cX5_someLooks 22 = .ok (.iinc 2 1, 3) := by decide +kernel
theorem dX5_someLooks_25 : decode cX5_someLooks 25 = .ok (.goto (-23), 3) := by decide +kernel
theorem dX5_someLooks_28 : decode cX5_someLooks 28 = .ok (.iconst 0, 1) := by decide +kernel
theorem dX5_someLooks_29 : decode cX5_someLooks 29 = .ok (.ireturn, 1) := by decide +kernel
theorem dX5_sumOfLooks_0 : decode cX5_sumOfLooks 0 = .ok (.iconst 0, 1) := by decide +kernel
theorem dX5_sumOfLooks_1 : decode cX5_sumOfLooks 1 = .ok (.istore_n 1, 1) := by decide +kernel
theorem dX5_sumOfLooks_2 : decode cX5_sumOfLooks 2 = .ok (.iconst 0, 1) := by decide +kernel
theorem dX5_sumOfLooks_3 : decode cX5_sumOfLooks 3 = .ok (.istore_n 2, 1) := by decide +kernel
theorem dX5_sumOfLooks_4 : decode cX5_sumOfLooks 4 = .ok (.iload_n 2, 1) := by decide +kernel
theorem dX5_sumOfLooks_5 : decode cX5_sumOfLooks 5 = .ok (.aload_n 0, 1) := by decide +kernel
theorem dX5_sumOfLooks_6 : decode cX5_sumOfLooks 6 = .ok (.getfield 30, 3) := by decide +kernel
theorem dX5_sumOfLooks_9 : decode cX5_sumOfLooks 9 = .ok (.if_icmp .ge 18, 3) := by decide +kernel
theorem dX5_sumOfLooks_12 : decode cX5_sumOfLooks 12 = .ok (.iload_n 1, 1) := by decide +kernel
theorem dX5_sumOfLooks_13 : decode cX5_sumOfLooks 13 = .ok (.aload_n 0, 1) := by decide +kernel
theorem dX5_sumOfLooks_14 : decode cX5_sumOfLooks 14 = .ok (.getfield 11, 3) := by decide +kernel
theorem dX5_sumOfLooks_17 : decode cX5_sumOfLooks 17 = .ok (.iload_n 2, 1) := by decide +kernel
theorem dX5_sumOfLooks_18 : decode cX5_sumOfLooks 18 = .ok (.iaload, 1) := by decide +kernel
theorem dX5_sumOfLooks_19 : decode cX5_sumOfLooks 19 = .ok (.iadd, 1) := by decide +kernel
theorem dX5_sumOfLooks_20 : decode cX5_sumOfLooks 20 = .ok (.istore_n 1, 1) := by decide +kernel
theorem dX5_sumOfLooks_21 : decode cX5_sumOfLooks 21 = .ok (.iinc 2 1, 3) := by decide +kernel
theorem dX5_sumOfLooks_24 : decode cX5_sumOfLooks 24 = .ok (.goto (-20), 3) := by decide +kernel
theorem dX5_sumOfLooks_27 : decode cX5_sumOfLooks 27 = .ok (.iload_n 1, 1) := by decide +kernel
theorem dX5_sumOfLooks_28 : decode cX5_sumOfLooks 28 = .ok (.ireturn, 1) := by decide +kernel
theorem dX5_pairsAlike_0 : decode cX5_pairsAlike 0 = .ok (.iconst 0, 1) := by decide +kernel
theorem dX5_pairsAlike_1 : decode cX5_pairsAlike 1 = .ok (.istore_n 1, 1) := by decide +kernel
theorem dX5_pairsAlike_2 : decode cX5_pairsAlike 2 = .ok (.iconst 1, 1) := by decide +kernel
theorem dX5_pairsAlike_3 : decode cX5_pairsAlike 3 = .ok (.istore_n 2, 1) := by decide +kernel
theorem dX5_pairsAlike_4 : decode cX5_pairsAlike 4 = .ok (.iload_n 2, 1) := by decide +kernel
theorem dX5_pairsAlike_5 : decode cX5_pairsAlike 5 = .ok (.aload_n 0, 1) := by decide +kernel
theorem dX5_pairsAlike_6 : decode cX5_pairsAlike 6 = .ok (.getfield 30, 3) := by decide +kernel
theorem dX5_pairsAlike_9 : decode cX5_pairsAlike 9 = .ok (.if_icmp .ge 40, 3) := by decide +kernel
theorem dX5_pairsAlike_12 : decode cX5_pairsAlike 12 = .ok (.iconst 0, 1) := by decide +kernel
theorem dX5_pairsAlike_13 : decode cX5_pairsAlike 13 = .ok (.istore_n 3, 1) := by decide +kernel
theorem dX5_pairsAlike_14 : decode cX5_pairsAlike 14 = .ok (.iload_n 3, 1) := by decide +kernel
theorem dX5_pairsAlike_15 : decode cX5_pairsAlike 15 = .ok (.iload_n 2, 1) := by decide +kernel
theorem dX5_pairsAlike_16 : decode cX5_pairsAlike 16 = .ok (.if_icmp .ge 27, 3) := by decide +kernel
theorem dX5_pairsAlike_19 : decode cX5_pairsAlike 19 = .ok (.aload_n 0, 1) := by decide +kernel
theorem dX5_pairsAlike_20 : decode cX5_pairsAlike 20 = .ok (.getfield 11, 3) := by decide +kernel
theorem dX5_pairsAlike_23 : decode cX5_pairsAlike 23 = .ok (.iload_n 2, 1) := by decide +kernel
theorem dX5_pairsAlike_24 : decode cX5_pairsAlike 24 = .ok (.iaload, 1) := by decide +kernel
theorem dX5_pairsAlike_25 : decode cX5_pairsAlike 25 = .ok (.aload_n 0, 1) := by decide +kernel
theorem dX5_pairsAlike_26 : decode cX5_pairsAlike 26 = .ok (.getfield 11, 3) := by decide +kernel
theorem dX5_pairsAlike_29 : decode cX5_pairsAlike 29 = .ok (.iload_n 3, 1) := by decide +kernel
theorem dX5_pairsAlike_30 : decode cX5_pairsAlike 30 = .ok (.iaload, 1) := by decide +kernel
theorem dX5_pairsAlike_31 : decode cX5_pairsAlike 31 = .ok (.if_icmp .ne 6, 3) := by decide +kernel
theorem dX5_pairsAlike_34 : decode cX5_pairsAlike 34 = .ok (.iinc 1 1, 3) := by decide +kernel
theorem dX5_pairsAlike_37 : decode cX5_pairsAlike 37 = .ok (.iinc 3 1, 3) := by decide +kernel
theorem dX5_pairsAlike_40 : decode cX5_pairsAlike 40 = .ok (.goto (-26), 3) := by decide +kernel
theorem dX5_pairsAlike_43 : decode cX5_pairsAlike 43 = .ok (.iinc 2 1, 3) := by decide +kernel
theorem dX5_pairsAlike_46 : decode cX5_pairsAlike 46 = .ok (.goto (-42), 3) := by decide +kernel
theorem dX5_pairsAlike_49 : decode cX5_pairsAlike 49 = .ok (.iload_n 1, 1) := by decide +kernel
theorem dX5_pairsAlike_50 : decode cX5_pairsAlike 50 = .ok (.ireturn, 1) := by decide +kernel
