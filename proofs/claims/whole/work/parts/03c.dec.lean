theorem dX12_here_16 : decode cX12_here 16 = .ok (.getfield 128, 3) := by decide +kernel
theorem dX12_here_19 : decode cX12_here 19 = .ok (.aload_n 0, 1) := by decide +kernel
theorem dX12_here_20 : decode cX12_here 20 = .ok (.getfield 122, 3) := by decide +kernel
theorem dX12_here_23 : decode cX12_here 23 = .ok (.iadd, 1) := by decide +kernel
theorem dX12_here_24 : decode cX12_here 24 = .ok (.iaload, 1) := by decide +kernel
theorem dX12_here_25 : decode cX12_here 25 = .ok (.goto 6, 3) := by decide +kernel
theorem dX12_here_28 : decode cX12_here 28 = .ok (.sipush (-1000), 3) := by decide +kernel
theorem dX12_here_31 : decode cX12_here 31 = .ok (.ireturn, 1) := by decide +kernel
theorem dX12_readsDigits_0 : decode cX12_readsDigits 0 = .ok (.iconst 0, 1) := by decide +kernel
theorem dX12_readsDigits_1 : decode cX12_readsDigits 1 = .ok (.istore_n 2, 1) := by decide +kernel
theorem dX12_readsDigits_2 : decode cX12_readsDigits 2 = .ok (.iload_n 2, 1) := by decide +kernel
theorem dX12_readsDigits_3 : decode cX12_readsDigits 3 = .ok (.iload_n 1, 1) := by decide +kernel
theorem dX12_readsDigits_4 : decode cX12_readsDigits 4 = .ok (.if_icmp .ge 51, 3) := by decide +kernel
theorem dX12_readsDigits_7 : decode cX12_readsDigits 7 = .ok (.aload_n 0, 1) := by decide +kernel
theorem dX12_readsDigits_8 : decode cX12_readsDigits 8 = .ok (.invokevirtual 131, 3) := by decide +kernel
theorem dX12_readsDigits_11 : decode cX12_readsDigits 11 = .ok (.i2l, 1) := by decide +kernel
theorem dX12_readsDigits_12 : decode cX12_readsDigits 12 = .ok (.ldc2_w 135, 3) := by decide +kernel
theorem dX12_readsDigits_15 : decode cX12_readsDigits 15 = .ok (.ldc2_w 137, 3) := by decide +kernel
theorem dX12_readsDigits_18 : decode cX12_readsDigits 18 = .ok (.invokestatic 67, 3) := by decide +kernel
theorem dX12_readsDigits_21 : decode cX12_readsDigits 21 = .ok (.ifCond .ne 5, 3) := by decide +kernel
theorem dX12_readsDigits_24 : decode cX12_readsDigits 24 = .ok (.iconst 0, 1) := by decide +kernel
theorem dX12_readsDigits_25 : decode cX12_readsDigits 25 = .ok (.ireturn, 1) := by decide +kernel
theorem dX12_readsDigits_26 : decode cX12_readsDigits 26 = .ok (.aload_n 0, 1) := by decide +kernel
theorem dX12_readsDigits_27 : decode cX12_readsDigits 27 = .ok (.getfield 49, 3) := by decide +kernel
theorem dX12_readsDigits_30 : decode cX12_readsDigits 30 = .ok (.iload_n 2, 1) := by decide +kernel
theorem dX12_readsDigits_31 : decode cX12_readsDigits 31 = .ok (.aload_n 0, 1) := by decide +kernel
theorem dX12_readsDigits_32 : decode cX12_readsDigits 32 = .ok (.invokevirtual 131, 3) := by decide +kernel
theorem dX12_readsDigits_35 : decode cX12_readsDigits 35 = .ok (.bipush 48, 2) := by decide +kernel
theorem dX12_readsDigits_37 : decode cX12_readsDigits 37 = .ok (.isub, 1) := by decide +kernel
theorem dX12_readsDigits_38 : decode cX12_readsDigits 38 = .ok (.iastore, 1) := by decide +kernel
theorem dX12_readsDigits_39 : decode cX12_readsDigits 39 = .ok (.aload_n 0, 1) := by decide +kernel
theorem dX12_readsDigits_40 : decode cX12_readsDigits 40 = .ok (.dup, 1) := by decide +kernel
theorem dX12_readsDigits_41 : decode cX12_readsDigits 41 = .ok (.getfield 122, 3) := by decide +kernel
theorem dX12_readsDigits_44 : decode cX12_readsDigits 44 = .ok (.iconst 1, 1) := by decide +kernel
theorem dX12_readsDigits_45 : decode cX12_readsDigits 45 = .ok (.iadd, 1) := by decide +kernel
theorem dX12_readsDigits_46 : decode cX12_readsDigits 46 = .ok (.putfield 122, 3) := by decide +kernel
theorem dX12_readsDigits_49 : decode cX12_readsDigits 49 = .ok (.iinc 2 1, 3) := by decide +kernel
theorem dX12_readsDigits_52 : decode cX12_readsDigits 52 = .ok (.goto (-50), 3) := by decide +kernel
theorem dX12_readsDigits_55 : decode cX12_readsDigits 55 = .ok (.iconst 1, 1) := by decide +kernel
theorem dX12_readsDigits_56 : decode cX12_readsDigits 56 = .ok (.ireturn, 1) := by decide +kernel
theorem dX12_readsStatement_0 : decode cX12_readsStatement 0 = .ok (.aload_n 0, 1) := by decide +kernel
theorem dX12_readsStatement_1 : decode cX12_readsStatement 1 = .ok (.invokevirtual 131, 3) := by decide +kernel
theorem dX12_readsStatement_4 : decode cX12_readsStatement 4 = .ok (.istore_n 1, 1) := by decide +kernel
theorem dX12_readsStatement_5 : decode cX12_readsStatement 5 = .ok (.iload_n 1, 1) := by decide +kernel
theorem dX12_readsStatement_6 : decode cX12_readsStatement 6 = .ok (.bipush 107, 2) := by decide +kernel
theorem dX12_readsStatement_8 : decode cX12_readsStatement 8 = .ok (.if_icmp .ne 7, 3) := by decide +kernel
theorem dX12_readsStatement_11 : decode cX12_readsStatement 11 = .ok (.iconst 4, 1) := by decide +kernel
theorem dX12_readsStatement_12 : decode cX12_readsStatement 12 = .ok (.goto 24, 3) := by decide +kernel
theorem dX12_readsStatement_15 : decode cX12_readsStatement 15 = .ok (.iload_n 1, 1) := by decide +kernel
theorem dX12_readsStatement_16 : decode cX12_readsStatement 16 = .ok (.bipush 103, 2) := by decide +kernel
theorem dX12_readsStatement_18 : decode cX12_readsStatement 18 = .ok (.if_icmp .ne 7, 3) := by decide +kernel
theorem dX12_readsStatement_21 : decode cX12_readsStatement 21 = .ok (.iconst 3, 1) := by decide +kernel
theorem dX12_readsStatement_22 : decode cX12_readsStatement 22 = .ok (.goto 14, 3) := by decide +kernel
theorem dX12_readsStatement_25 : decode cX12_readsStatement 25 = .ok (.iload_n 1, 1) := by decide +kernel
theorem dX12_readsStatement_26 : decode cX12_readsStatement 26 = .ok (.bipush 100, 2) := by decide +kernel
theorem dX12_readsStatement_28 : decode cX12_readsStatement 28 = .ok (.if_icmp .ne 7, 3) := by decide +kernel
theorem dX12_readsStatement_31 : decode cX12_readsStatement 31 = .ok (.iconst 2, 1) := by decide +kernel
theorem dX12_readsStatement_32 : decode cX12_readsStatement 32 = .ok (.goto 4, 3) := by decide +kernel
theorem dX12_readsStatement_35 : decode cX12_readsStatement 35 = .ok (.iconst 0, 1) := by decide +kernel
theorem dX12_readsStatement_36 : decode cX12_readsStatement 36 = .ok (.istore_n 2, 1) := by decide +kernel
theorem dX12_readsStatement_37 : decode cX12_readsStatement 37 = .ok (.iload_n 2, 1) := by decide +kernel
theorem dX12_readsStatement_38 : decode cX12_readsStatement 38 = .ok (.ifCond .ne 5, 3) := by decide +kernel
theorem dX12_readsStatement_41 : decode cX12_readsStatement 41 = .ok (.iconst 0, 1) := by decide +kernel
theorem dX12_readsStatement_42 : decode cX12_readsStatement 42 = .ok (.ireturn, 1) := by decide +kernel
theorem dX12_readsStatement_43 : decode cX12_readsStatement 43 = .ok (.aload_n 0, 1) := by decide +kernel
theorem dX12_readsStatement_44 : decode cX12_readsStatement 44 = .ok (.dup, 1) := by decide +kernel
theorem dX12_readsStatement_45 : decode cX12_readsStatement 45 = .ok (.getfield 122, 3) := by decide +kernel
theorem dX12_readsStatement_48 : decode cX12_readsStatement 48 = .ok (.iconst 1, 1) := by decide +kernel
theorem dX12_readsStatement_49 : decode cX12_readsStatement 49 = .ok (.iadd, 1) := by decide +kernel
theorem dX12_readsStatement_50 : decode cX12_readsStatement 50 = .ok (.putfield 122, 3) := by decide +kernel
theorem dX12_readsStatement_53 : decode cX12_readsStatement 53 = .ok (.aload_n 0, 1) := by decide +kernel
theorem dX12_readsStatement_54 : decode cX12_readsStatement 54 = .ok (.iload_n 2, 1) := by decide +kernel
theorem dX12_readsStatement_55 : decode cX12_readsStatement 55 = .ok (.invokevirtual 139, 3) := by decide +kernel
theorem dX12_readsStatement_58 : decode cX12_readsStatement 58 = .ok (.ifCond .eq 12, 3) := by decide +kernel
theorem dX12_readsStatement_61 : decode cX12_readsStatement 61 = .ok (.aload_n 0, 1) := by decide +kernel
theorem dX12_readsStatement_62 : decode cX12_readsStatement 62 = .ok (.invokevirtual 131, 3) := by decide +kernel
theorem dX12_readsStatement_65 : decode cX12_readsStatement 65 = .ok (.bipush 59, 2) := by decide +kernel
theorem dX12_readsStatement_67 : decode cX12_readsStatement 67 = .ok (.if_icmp .eq 5, 3) := by decide +kernel
theorem dX12_readsStatement_70 : decode cX12_readsStatement 70 = .ok (.iconst 0, 1) := by decide +kernel
theorem dX12_readsStatement_71 : decode cX12_readsStatement 71 = .ok (.ireturn, 1) := by decide +kernel
theorem dX12_readsStatement_72 : decode cX12_readsStatement 72 = .ok (.aload_n 0, 1) := by decide +kernel
theorem dX12_readsStatement_73 : decode cX12_readsStatement 73 = .ok (.dup, 1) := by decide +kernel
theorem dX12_readsStatement_74 : decode cX12_readsStatement 74 = .ok (.getfield 122, 3) := by decide +kernel
theorem dX12_readsStatement_77 : decode cX12_readsStatement 77 = .ok (.iconst 1, 1) := by decide +kernel
theorem dX12_readsStatement_78 : decode cX12_readsStatement 78 = .ok (.iadd, 1) := by decide +kernel
theorem dX12_readsStatement_79 : decode cX12_readsStatement 79 = .ok (.putfield 122, 3) := by decide +kernel
theorem dX12_readsStatement_82 : decode cX12_readsStatement 82 = .ok (.iconst 1, 1) := by decide +kernel
theorem dX12_readsStatement_83 : decode cX12_readsStatement 83 = .ok (.ireturn, 1) := by decide +kernel
theorem dX12_comesTold_0 : decode cX12_comesTold 0 = .ok (.iload_n 1, 1) := by decide +kernel
theorem dX12_comesTold_1 : decode cX12_comesTold 1 = .ok (.lookupswitch 140 #[(103, 83), (107, 27)], 27) := by decide +kernel
theorem dX12_comesTold_28 : decode cX12_comesTold 28 = .ok (.bipush 10, 2) := by decide +kernel
theorem dX12_comesTold_30 : decode cX12_comesTold 30 = .ok (.aload_n 0, 1) := by decide +kernel
theorem dX12_comesTold_31 : decode cX12_comesTold 31 = .ok (.getfield 49, 3) := by decide +kernel
theorem dX12_comesTold_34 : decode cX12_comesTold 34 = .ok (.iconst 0, 1) := by decide +kernel
theorem dX12_comesTold_35 : decode cX12_comesTold 35 = .ok (.iaload, 1) := by decide +kernel
theorem dX12_comesTold_36 : decode cX12_comesTold 36 = .ok (.imul, 1) := by decide +kernel
theorem dX12_comesTold_37 : decode cX12_comesTold 37 = .ok (.aload_n 0, 1) := by decide +kernel
theorem dX12_comesTold_38 : decode cX12_comesTold 38 = .ok (.getfield 49, 3) := by decide +kernel
theorem dX12_comesTold_41 : decode cX12_comesTold 41 = .ok (.iconst 1, 1) := by decide +kernel
theorem dX12_comesTold_42 : decode cX12_comesTold 42 = .ok (.iaload, 1) := by decide +kernel
theorem dX12_comesTold_43 : decode cX12_comesTold 43 = .ok (.iadd, 1) := by decide +kernel
theorem dX12_comesTold_44 : decode cX12_comesTold 44 = .ok (.istore_n 2, 1) := by decide +kernel
theorem dX12_comesTold_45 : decode cX12_comesTold 45 = .ok (.iload_n 2, 1) := by decide +kernel
theorem dX12_comesTold_46 : decode cX12_comesTold 46 = .ok (.invokestatic 143, 3) := by decide +kernel
theorem dX12_comesTold_49 : decode cX12_comesTold 49 = .ok (.ifCond .eq 14, 3) := by decide +kernel
theorem dX12_comesTold_52 : decode cX12_comesTold 52 = .ok (.aload_n 0, 1) := by decide +kernel
theorem dX12_comesTold_53 : decode cX12_comesTold 53 = .ok (.getfield 49, 3) := by decide +kernel
theorem dX12_comesTold_56 : decode cX12_comesTold 56 = .ok (.iconst 2, 1) := by decide +kernel
theorem dX12_comesTold_57 : decode cX12_comesTold 57 = .ok (.iaload, 1) := by decide +kernel
theorem dX12_comesTold_58 : decode cX12_comesTold 58 = .ok (.bipush 7, 2) := by decide +kernel
theorem dX12_comesTold_60 : decode cX12_comesTold 60 = .ok (.if_icmp .le 5, 3) := by decide +kernel
theorem dX12_comesTold_63 : decode cX12_comesTold 63 = .ok (.iconst 0, 1) := by decide +kernel
theorem dX12_comesTold_64 : decode cX12_comesTold 64 = .ok (.ireturn, 1) := by decide +kernel
theorem dX12_comesTold_65 : decode cX12_comesTold 65 = .ok (.aload_n 0, 1) := by decide +kernel
theorem dX12_comesTold_66 : decode cX12_comesTold 66 = .ok (.iload_n 2, 1) := by decide +kernel
theorem dX12_comesTold_67 : decode cX12_comesTold 67 = .ok (.aload_n 0, 1) := by decide +kernel
theorem dX12_comesTold_68 : decode cX12_comesTold 68 = .ok (.getfield 49, 3) := by decide +kernel
theorem dX12_comesTold_71 : decode cX12_comesTold 71 = .ok (.iconst 2, 1) := by decide +kernel
theorem dX12_comesTold_72 : decode cX12_comesTold 72 = .ok (.iaload, 1) := by decide +kernel
theorem dX12_comesTold_73 : decode cX12_comesTold 73 = .ok (.aload_n 0, 1) := by decide +kernel
theorem dX12_comesTold_74 : decode cX12_comesTold 74 = .ok (.getfield 49, 3) := by decide +kernel
theorem dX12_comesTold_77 : decode cX12_comesTold 77 = .ok (.iconst 3, 1) := by decide +kernel
theorem dX12_comesTold_78 : decode cX12_comesTold 78 = .ok (.iaload, 1) := by decide +kernel
theorem dX12_comesTold_79 : decode cX12_comesTold 79 = .ok (.invokevirtual 103, 3) := by decide +kernel
theorem dX12_comesTold_82 : decode cX12_comesTold 82 = .ok (.iconst 1, 1) := by decide +kernel
theorem dX12_comesTold_83 : decode cX12_comesTold 83 = .ok (.ireturn, 1) := by decide +kernel
theorem dX12_comesTold_84 : decode cX12_comesTold 84 = .ok (.bipush 10, 2) := by decide +kernel
theorem dX12_comesTold_86 : decode cX12_comesTold 86 = .ok (.aload_n 0, 1) := by decide +kernel
theorem dX12_comesTold_87 : decode cX12_comesTold 87 = .ok (.getfield 49, 3) := by decide +kernel
theorem dX12_comesTold_90 : decode cX12_comesTold 90 = .ok (.iconst 1, 1) := by decide +kernel
theorem dX12_comesTold_91 : decode cX12_comesTold 91 = .ok (.iaload, 1) := by decide +kernel
theorem dX12_comesTold_92 : decode cX12_comesTold 92 = .ok (.imul, 1) := by decide +kernel
theorem dX12_comesTold_93 : decode cX12_comesTold 93 = .ok (.aload_n 0, 1) := by decide +kernel
theorem dX12_comesTold_94 : decode cX12_comesTold 94 = .ok (.getfield 49, 3) := by decide +kernel
theorem dX12_comesTold_97 : decode cX12_comesTold 97 = .ok (.iconst 2, 1) := by decide +kernel
theorem dX12_comesTold_98 : decode cX12_comesTold 98 = .ok (.iaload, 1) := by decide +kernel
theorem dX12_comesTold_99 : decode cX12_comesTold 99 = .ok (.iadd, 1) := by decide +kernel
theorem dX12_comesTold_100 : decode cX12_comesTold 100 = .ok (.istore_n 2, 1) := by decide +kernel
theorem dX12_comesTold_101 : decode cX12_comesTold 101 = .ok (.aload_n 0, 1) := by decide +kernel
theorem dX12_comesTold_102 : decode cX12_comesTold 102 = .ok (.getfield 49, 3) := by decide +kernel
theorem dX12_comesTold_105 : decode cX12_comesTold 105 = .ok (.iconst 0, 1) := by decide +kernel
theorem dX12_comesTold_106 : decode cX12_comesTold 106 = .ok (.iaload, 1) := by decide +kernel
theorem dX12_comesTold_107 : decode cX12_comesTold 107 = .ok (.invokestatic 146, 3) := by decide +kernel
theorem dX12_comesTold_110 : decode cX12_comesTold 110 = .ok (.ifCond .eq 10, 3) := by decide +kernel
theorem dX12_comesTold_113 : decode cX12_comesTold 113 = .ok (.iload_n 2, 1) := by decide +kernel
theorem dX12_comesTold_114 : decode cX12_comesTold 114 = .ok (.invokestatic 143, 3) := by decide +kernel
theorem dX12_comesTold_117 : decode cX12_comesTold 117 = .ok (.ifCond .ne 5, 3) := by decide +kernel
theorem dX12_comesTold_120 : decode cX12_comesTold 120 = .ok (.iconst 0, 1) := by decide +kernel
theorem dX12_comesTold_121 : decode cX12_comesTold 121 = .ok (.ireturn, 1) := by decide +kernel
theorem dX12_comesTold_122 : decode cX12_comesTold 122 = .ok (.aload_n 0, 1) := by decide +kernel
theorem dX12_comesTold_123 : decode cX12_comesTold 123 = .ok (.getfield 9, 3) := by decide +kernel
theorem dX12_comesTold_126 : decode cX12_comesTold 126 = .ok (.bipush 40, 2) := by decide +kernel
theorem dX12_comesTold_128 : decode cX12_comesTold 128 = .ok (.iconst 2, 1) := by decide +kernel
theorem dX12_comesTold_129 : decode cX12_comesTold 129 = .ok (.aload_n 0, 1) := by decide +kernel
theorem dX12_comesTold_130 : decode cX12_comesTold 130 = .ok (.getfield 49, 3) := by decide +kernel
theorem dX12_comesTold_133 : decode cX12_comesTold 133 = .ok (.iconst 0, 1) := by decide +kernel
theorem dX12_comesTold_134 : decode cX12_comesTold 134 = .ok (.iaload, 1) := by decide +kernel
theorem dX12_comesTold_135 : decode cX12_comesTold 135 = .ok (.imul, 1) := by decide +kernel
theorem dX12_comesTold_136 : decode cX12_comesTold 136 = .ok (.iadd, 1) := by decide +kernel
theorem dX12_comesTold_137 : decode cX12_comesTold 137 = .ok (.iload_n 2, 1) := by decide +kernel
theorem dX12_comesTold_138 : decode cX12_comesTold 138 = .ok (.iastore, 1) := by decide +kernel
theorem dX12_comesTold_139 : decode cX12_comesTold 139 = .ok (.iconst 1, 1) := by decide +kernel
theorem dX12_comesTold_140 : decode cX12_comesTold 140 = .ok (.ireturn, 1) := by decide +kernel
theorem dX12_comesTold_141 : decode cX12_comesTold 141 = .ok (.aload_n 0, 1) := by decide +kernel
theorem dX12_comesTold_142 : decode cX12_comesTold 142 = .ok (.getfield 49, 3) := by decide +kernel
theorem dX12_comesTold_145 : decode cX12_comesTold 145 = .ok (.iconst 0, 1) := by decide +kernel
theorem dX12_comesTold_146 : decode cX12_comesTold 146 = .ok (.iaload, 1) := by decide +kernel
theorem dX12_comesTold_147 : decode cX12_comesTold 147 = .ok (.invokestatic 146, 3) := by decide +kernel
theorem dX12_comesTold_150 : decode cX12_comesTold 150 = .ok (.ifCond .eq 36, 3) := by decide +kernel
theorem dX12_comesTold_153 : decode cX12_comesTold 153 = .ok (.aload_n 0, 1) := by decide +kernel
theorem dX12_comesTold_154 : decode cX12_comesTold 154 = .ok (.getfield 49, 3) := by decide +kernel
theorem dX12_comesTold_157 : decode cX12_comesTold 157 = .ok (.iconst 1, 1) := by decide +kernel
theorem dX12_comesTold_158 : decode cX12_comesTold 158 = .ok (.iaload, 1) := by decide +kernel
theorem dX12_comesTold_159 : decode cX12_comesTold 159 = .ok (.iconst 4, 1) := by decide +kernel
theorem dX12_comesTold_160 : decode cX12_comesTold 160 = .ok (.if_icmp .ge 26, 3) := by decide +kernel
theorem dX12_comesTold_163 : decode cX12_comesTold 163 = .ok (.aload_n 0, 1) := by decide +kernel
theorem dX12_comesTold_164 : decode cX12_comesTold 164 = .ok (.aload_n 0, 1) := by decide +kernel
theorem dX12_comesTold_165 : decode cX12_comesTold 165 = .ok (.getfield 49, 3) := by decide +kernel
theorem dX12_comesTold_168 : decode cX12_comesTold 168 = .ok (.iconst 0, 1) := by decide +kernel
theorem dX12_comesTold_169 : decode cX12_comesTold 169 = .ok (.iaload, 1) := by decide +kernel
theorem dX12_comesTold_170 : decode cX12_comesTold 170 = .ok (.aload_n 0, 1) := by decide +kernel
theorem dX12_comesTold_171 : decode cX12_comesTold 171 = .ok (.getfield 49, 3) := by decide +kernel
theorem dX12_comesTold_174 : decode cX12_comesTold 174 = .ok (.iconst 1, 1) := by decide +kernel
theorem dX12_comesTold_175 : decode cX12_comesTold 175 = .ok (.iaload, 1) := by decide +kernel
theorem dX12_comesTold_176 : decode cX12_comesTold 176 = .ok (.invokevirtual 149, 3) := by decide +kernel
theorem dX12_comesTold_179 : decode cX12_comesTold 179 = .ok (.ifCond .eq 7, 3) := by decide +kernel
theorem dX12_comesTold_182 : decode cX12_comesTold 182 = .ok (.iconst 1, 1) := by decide +kernel
theorem dX12_comesTold_183 : decode cX12_comesTold 183 = .ok (.goto 4, 3) := by decide +kernel
theorem dX12_comesTold_186 : decode cX12_comesTold 186 = .ok (.iconst 0, 1) := by decide +kernel
theorem dX12_comesTold_187 : decode cX12_comesTold 187 = .ok (.ireturn, 1) := by decide +kernel
theorem dX12_wrongRow_0 : decode cX12_wrongRow 0 = .ok (.iload_n 1, 1) := by decide +kernel
theorem dX12_wrongRow_1 : decode cX12_wrongRow 1 = .ok (.invokestatic 152, 3) := by decide +kernel
theorem dX12_wrongRow_4 : decode cX12_wrongRow 4 = .ok (.ifCond .ne 7, 3) := by decide +kernel
theorem dX12_wrongRow_7 : decode cX12_wrongRow 7 = .ok (.iconst (-1), 1) := by decide +kernel
theorem dX12_wrongRow_8 : decode cX12_wrongRow 8 = .ok (.goto 47, 3) := by decide +kernel
theorem dX12_wrongRow_11 : decode cX12_wrongRow 11 = .ok (.aload_n 0, 1) := by decide +kernel
theorem dX12_wrongRow_12 : decode cX12_wrongRow 12 = .ok (.getfield 22, 3) := by decide +kernel
theorem dX12_wrongRow_15 : decode cX12_wrongRow 15 = .ok (.iload_n 1, 1) := by decide +kernel
theorem dX12_wrongRow_16 : decode cX12_wrongRow 16 = .ok (.iaload, 1) := by decide +kernel
theorem dX12_wrongRow_17 : decode cX12_wrongRow 17 = .ok (.ifCond .ne 8, 3) := by decide +kernel
theorem dX12_wrongRow_20 : decode cX12_wrongRow 20 = .ok (.bipush (-11), 2) := by decide +kernel
theorem dX12_wrongRow_22 : decode cX12_wrongRow 22 = .ok (.goto 33, 3) := by decide +kernel
theorem dX12_wrongRow_25 : decode cX12_wrongRow 25 = .ok (.aload_n 0, 1) := by decide +kernel
theorem dX12_wrongRow_26 : decode cX12_wrongRow 26 = .ok (.getfield 22, 3) := by decide +kernel
theorem dX12_wrongRow_29 : decode cX12_wrongRow 29 = .ok (.iload_n 1, 1) := by decide +kernel
theorem dX12_wrongRow_30 : decode cX12_wrongRow 30 = .ok (.iaload, 1) := by decide +kernel
theorem dX12_wrongRow_31 : decode cX12_wrongRow 31 = .ok (.iconst 2, 1) := by decide +kernel
theorem dX12_wrongRow_32 : decode cX12_wrongRow 32 = .ok (.if_icmp .ne 17, 3) := by decide +kernel
theorem dX12_wrongRow_35 : decode cX12_wrongRow 35 = .ok (.iload_n 2, 1) := by decide +kernel
theorem dX12_wrongRow_36 : decode cX12_wrongRow 36 = .ok (.ifCond .lt 18, 3) := by decide +kernel
theorem dX12_wrongRow_39 : decode cX12_wrongRow 39 = .ok (.aload_n 0, 1) := by decide +kernel
theorem dX12_wrongRow_40 : decode cX12_wrongRow 40 = .ok (.getfield 25, 3) := by decide +kernel
theorem dX12_wrongRow_43 : decode cX12_wrongRow 43 = .ok (.iload_n 1, 1) := by decide +kernel
theorem dX12_wrongRow_44 : decode cX12_wrongRow 44 = .ok (.iaload, 1) := by decide +kernel
theorem dX12_wrongRow_45 : decode cX12_wrongRow 45 = .ok (.iload_n 2, 1) := by decide +kernel
theorem dX12_wrongRow_46 : decode cX12_wrongRow 46 = .ok (.if_icmp .eq 8, 3) := by decide +kernel
theorem dX12_wrongRow_49 : decode cX12_wrongRow 49 = .ok (.bipush (-12), 2) := by decide +kernel
theorem dX12_wrongRow_51 : decode cX12_wrongRow 51 = .ok (.goto 4, 3) := by decide +kernel
theorem dX12_wrongRow_54 : decode cX12_wrongRow 54 = .ok (.iconst 0, 1) := by decide +kernel
theorem dX12_wrongRow_55 : decode cX12_wrongRow 55 = .ok (.ireturn, 1) := by decide +kernel
theorem dX12_mountain_0 : decode cX12_mountain 0 = .ok (.aload_n 0, 1) := by decide +kernel
theorem dX12_mountain_1 : decode cX12_mountain 1 = .ok (.iload_n 1, 1) := by decide +kernel
theorem dX12_mountain_2 : decode cX12_mountain 2 = .ok (.iconst 0, 1) := by decide +kernel
theorem dX12_mountain_3 : decode cX12_mountain 3 = .ok (.invokevirtual 155, 3) := by decide +kernel
theorem dX12_mountain_6 : decode cX12_mountain 6 = .ok (.istore_n 2, 1) := by decide +kernel
theorem dX12_mountain_7 : decode cX12_mountain 7 = .ok (.iload_n 2, 1) := by decide +kernel
theorem dX12_mountain_8 : decode cX12_mountain 8 = .ok (.ifCond .eq 5, 3) := by decide +kernel
theorem dX12_mountain_11 : decode cX12_mountain 11 = .ok (.iload_n 2, 1) := by decide +kernel
theorem dX12_mountain_12 : decode cX12_mountain 12 = .ok (.ireturn, 1) := by decide +kernel
theorem dX12_mountain_13 : decode cX12_mountain 13 = .ok (.aload_n 0, 1) := by decide +kernel
theorem dX12_mountain_14 : decode cX12_mountain 14 = .ok (.bipush 100, 2) := by decide +kernel
theorem dX12_mountain_16 : decode cX12_mountain 16 = .ok (.iload_n 1, 1) := by decide +kernel
theorem dX12_mountain_17 : decode cX12_mountain 17 = .ok (.imul, 1) := by decide +kernel
theorem dX12_mountain_18 : decode cX12_mountain 18 = .ok (.putfield 128, 3) := by decide +kernel
theorem dX12_mountain_21 : decode cX12_mountain 21 = .ok (.aload_n 0, 1) := by decide +kernel
theorem dX12_mountain_22 : decode cX12_mountain 22 = .ok (.aload_n 0, 1) := by decide +kernel
theorem dX12_mountain_23 : decode cX12_mountain 23 = .ok (.getfield 28, 3) := by decide +kernel
theorem dX12_mountain_26 : decode cX12_mountain 26 = .ok (.iload_n 1, 1) := by decide +kernel
theorem dX12_mountain_27 : decode cX12_mountain 27 = .ok (.iaload, 1) := by decide +kernel
theorem dX12_mountain_28 : decode cX12_mountain 28 = .ok (.putfield 125, 3) := by decide +kernel
theorem dX12_mountain_31 : decode cX12_mountain 31 = .ok (.aload_n 0, 1) := by decide +kernel
theorem dX12_mountain_32 : decode cX12_mountain 32 = .ok (.iconst 0, 1) := by decide +kernel
theorem dX12_mountain_33 : decode cX12_mountain 33 = .ok (.putfield 122, 3) := by decide +kernel
theorem dX12_mountain_36 : decode cX12_mountain 36 = .ok (.iconst 0, 1) := by decide +kernel
theorem dX12_mountain_37 : decode cX12_mountain 37 = .ok (.istore_n 3, 1) := by decide +kernel
theorem dX12_mountain_38 : decode cX12_mountain 38 = .ok (.aload_n 0, 1) := by decide +kernel
theorem dX12_mountain_39 : decode cX12_mountain 39 = .ok (.invokevirtual 158, 3) := by decide +kernel
theorem dX12_mountain_42 : decode cX12_mountain 42 = .ok (.ifCond .ne 12, 3) := by decide +kernel
theorem dX12_mountain_45 : decode cX12_mountain 45 = .ok (.sipush (-1000), 3) := by decide +kernel
theorem dX12_mountain_48 : decode cX12_mountain 48 = .ok (.aload_n 0, 1) := by decide +kernel
theorem dX12_mountain_49 : decode cX12_mountain 49 = .ok (.getfield 122, 3) := by decide +kernel
theorem dX12_mountain_52 : decode cX12_mountain 52 = .ok (.isub, 1) := by decide +kernel
theorem dX12_mountain_53 : decode cX12_mountain 53 = .ok (.ireturn, 1) := by decide +kernel
theorem dX12_mountain_54 : decode cX12_mountain 54 = .ok (.iinc 3 1, 3) := by decide +kernel
theorem dX12_mountain_57 : decode cX12_mountain 57 = .ok (.aload_n 0, 1) := by decide +kernel
theorem dX12_mountain_58 : decode cX12_mountain 58 = .ok (.getfield 122, 3) := by decide +kernel
theorem dX12_mountain_61 : decode cX12_mountain 61 = .ok (.aload_n 0, 1) := by decide +kernel
theorem dX12_mountain_62 : decode cX12_mountain 62 = .ok (.getfield 125, 3) := by decide +kernel
theorem dX12_mountain_65 : decode cX12_mountain 65 = .ok (.if_icmp .lt (-27), 3) := by decide +kernel
theorem dX12_mountain_68 : decode cX12_mountain 68 = .ok (.aload_n 0, 1) := by decide +kernel
theorem dX12_mountain_69 : decode cX12_mountain 69 = .ok (.getfield 9, 3) := by decide +kernel
theorem dX12_mountain_72 : decode cX12_mountain 72 = .ok (.aload_n 0, 1) := by decide +kernel
theorem dX12_mountain_73 : decode cX12_mountain 73 = .ok (.getfield 16, 3) := by decide +kernel
theorem dX12_mountain_76 : decode cX12_mountain 76 = .ok (.invokestatic 73, 3) := by decide +kernel
theorem dX12_mountain_79 : decode cX12_mountain 79 = .ok (.aload_n 0, 1) := by decide +kernel
theorem dX12_mountain_80 : decode cX12_mountain 80 = .ok (.iconst 0, 1) := by decide +kernel
theorem dX12_mountain_81 : decode cX12_mountain 81 = .ok (.putfield 122, 3) := by decide +kernel
theorem dX12_mountain_84 : decode cX12_mountain 84 = .ok (.aload_n 0, 1) := by decide +kernel
theorem dX12_mountain_85 : decode cX12_mountain 85 = .ok (.getfield 122, 3) := by decide +kernel
theorem dX12_mountain_88 : decode cX12_mountain 88 = .ok (.aload_n 0, 1) := by decide +kernel
theorem dX12_mountain_89 : decode cX12_mountain 89 = .ok (.getfield 125, 3) := by decide +kernel
theorem dX12_mountain_92 : decode cX12_mountain 92 = .ok (.if_icmp .ge 51, 3) := by decide +kernel
theorem dX12_mountain_95 : decode cX12_mountain 95 = .ok (.aload_n 0, 1) := by decide +kernel
theorem dX12_mountain_96 : decode cX12_mountain 96 = .ok (.getfield 122, 3) := by decide +kernel
theorem dX12_mountain_99 : decode cX12_mountain 99 = .ok (.istore 4, 2) := by decide +kernel
theorem dX12_mountain_101 : decode cX12_mountain 101 = .ok (.aload_n 0, 1) := by decide +kernel
theorem dX12_mountain_102 : decode cX12_mountain 102 = .ok (.invokevirtual 131, 3) := by decide +kernel
theorem dX12_mountain_105 : decode cX12_mountain 105 = .ok (.istore 5, 2) := by decide +kernel
theorem dX12_mountain_107 : decode cX12_mountain 107 = .ok (.aload_n 0, 1) := by decide +kernel
theorem dX12_mountain_108 : decode cX12_mountain 108 = .ok (.invokevirtual 158, 3) := by decide +kernel
theorem dX12_mountain_111 : decode cX12_mountain 111 = .ok (.istore 6, 2) := by decide +kernel
theorem dX12_mountain_113 : decode cX12_mountain 113 = .ok (.aload_n 0, 1) := by decide +kernel
theorem dX12_mountain_114 : decode cX12_mountain 114 = .ok (.iload 5, 2) := by decide +kernel
theorem dX12_mountain_116 : decode cX12_mountain 116 = .ok (.invokevirtual 162, 3) := by decide +kernel
theorem dX12_mountain_119 : decode cX12_mountain 119 = .ok (.ifCond .ne 21, 3) := by decide +kernel
theorem dX12_mountain_122 : decode cX12_mountain 122 = .ok (.aload_n 0, 1) := by decide +kernel
theorem dX12_mountain_123 : decode cX12_mountain 123 = .ok (.getfield 16, 3) := by decide +kernel
theorem dX12_mountain_126 : decode cX12_mountain 126 = .ok (.aload_n 0, 1) := by decide +kernel
theorem dX12_mountain_127 : decode cX12_mountain 127 = .ok (.getfield 9, 3) := by decide +kernel
theorem dX12_mountain_130 : decode cX12_mountain 130 = .ok (.invokestatic 73, 3) := by decide +kernel
theorem dX12_mountain_133 : decode cX12_mountain 133 = .ok (.sipush (-2000), 3) := by decide +kernel
theorem dX12_mountain_136 : decode cX12_mountain 136 = .ok (.iload 4, 2) := by decide +kernel
theorem dX12_mountain_138 : decode cX12_mountain 138 = .ok (.isub, 1) := by decide +kernel
theorem dX12_mountain_139 : decode cX12_mountain 139 = .ok (.ireturn, 1) := by decide +kernel
theorem dX12_mountain_140 : decode cX12_mountain 140 = .ok (.goto (-56), 3) := by decide +kernel
theorem dX12_mountain_143 : decode cX12_mountain 143 = .ok (.iload_n 3, 1) := by decide +kernel
theorem dX12_mountain_144 : decode cX12_mountain 144 = .ok (.ireturn, 1) := by decide +kernel
theorem dX12_cell_0 : decode cX12_cell 0 = .ok (.iload_n 1, 1) := by decide +kernel
theorem dX12_cell_1 : decode cX12_cell 1 = .ok (.invokestatic 143, 3) := by decide +kernel
theorem dX12_cell_4 : decode cX12_cell 4 = .ok (.ifCond .ne 5, 3) := by decide +kernel
theorem dX12_cell_7 : decode cX12_cell 7 = .ok (.iconst (-1), 1) := by decide +kernel
theorem dX12_cell_8 : decode cX12_cell 8 = .ok (.ireturn, 1) := by decide +kernel
theorem dX12_cell_9 : decode cX12_cell 9 = .ok (.iload_n 2, 1) := by decide +kernel
theorem dX12_cell_10 : decode cX12_cell 10 = .ok (.tableswitch 64 0 4 #[34, 40, 46, 52, 58], 34) := by decide +kernel
theorem dX12_cell_44 : decode cX12_cell 44 = .ok (.aload_n 0, 1) := by decide +kernel
theorem dX12_cell_45 : decode cX12_cell 45 = .ok (.iload_n 1, 1) := by decide +kernel
theorem dX12_cell_46 : decode cX12_cell 46 = .ok (.invokevirtual 77, 3) := by decide +kernel
theorem dX12_cell_49 : decode cX12_cell 49 = .ok (.ireturn, 1) := by decide +kernel
theorem dX12_cell_50 : decode cX12_cell 50 = .ok (.aload_n 0, 1) := by decide +kernel
theorem dX12_cell_51 : decode cX12_cell 51 = .ok (.iload_n 1, 1) := by decide +kernel
theorem dX12_cell_52 : decode cX12_cell 52 = .ok (.invokevirtual 81, 3) := by decide +kernel
theorem dX12_cell_55 : decode cX12_cell 55 = .ok (.ireturn, 1) := by decide +kernel
theorem dX12_cell_56 : decode cX12_cell 56 = .ok (.aload_n 0, 1) := by decide +kernel
theorem dX12_cell_57 : decode cX12_cell 57 = .ok (.iload_n 1, 1) := by decide +kernel
theorem dX12_cell_58 : decode cX12_cell 58 = .ok (.invokevirtual 107, 3) := by decide +kernel
theorem dX12_cell_61 : decode cX12_cell 61 = .ok (.ireturn, 1) := by decide +kernel
theorem dX12_cell_62 : decode cX12_cell 62 = .ok (.aload_n 0, 1) := by decide +kernel
theorem dX12_cell_63 : decode cX12_cell 63 = .ok (.iload_n 1, 1) := by decide +kernel
theorem dX12_cell_64 : decode cX12_cell 64 = .ok (.invokevirtual 110, 3) := by decide +kernel
theorem dX12_cell_67 : decode cX12_cell 67 = .ok (.ireturn, 1) := by decide +kernel
theorem dX12_cell_68 : decode cX12_cell 68 = .ok (.aload_n 0, 1) := by decide +kernel
theorem dX12_cell_69 : decode cX12_cell 69 = .ok (.iload_n 1, 1) := by decide +kernel
theorem dX12_cell_70 : decode cX12_cell 70 = .ok (.invokevirtual 100, 3) := by decide +kernel
theorem dX12_cell_73 : decode cX12_cell 73 = .ok (.ireturn, 1) := by decide +kernel
theorem dX12_cell_74 : decode cX12_cell 74 = .ok (.iconst (-1), 1) := by decide +kernel
theorem dX12_cell_75 : decode cX12_cell 75 = .ok (.ireturn, 1) := by decide +kernel
theorem dX12_wrongKept_0 : decode cX12_wrongKept 0 = .ok (.iload_n 1, 1) := by decide +kernel
theorem dX12_wrongKept_1 : decode cX12_wrongKept 1 = .ok (.invokestatic 152, 3) := by decide +kernel
theorem dX12_wrongKept_4 : decode cX12_wrongKept 4 = .ok (.ifCond .ne 7, 3) := by decide +kernel
theorem dX12_wrongKept_7 : decode cX12_wrongKept 7 = .ok (.iconst (-1), 1) := by decide +kernel
theorem dX12_wrongKept_8 : decode cX12_wrongKept 8 = .ok (.goto 33, 3) := by decide +kernel
theorem dX12_wrongKept_11 : decode cX12_wrongKept 11 = .ok (.aload_n 0, 1) := by decide +kernel
theorem dX12_wrongKept_12 : decode cX12_wrongKept 12 = .ok (.getfield 22, 3) := by decide +kernel
theorem dX12_wrongKept_15 : decode cX12_wrongKept 15 = .ok (.iload_n 1, 1) := by decide +kernel
theorem dX12_wrongKept_16 : decode cX12_wrongKept 16 = .ok (.iaload, 1) := by decide +kernel
theorem dX12_wrongKept_17 : decode cX12_wrongKept 17 = .ok (.ifCond .ne 8, 3) := by decide +kernel
theorem dX12_wrongKept_20 : decode cX12_wrongKept 20 = .ok (.bipush (-11), 2) := by decide +kernel
theorem dX12_wrongKept_22 : decode cX12_wrongKept 22 = .ok (.goto 19, 3) := by decide +kernel
theorem dX12_wrongKept_25 : decode cX12_wrongKept 25 = .ok (.aload_n 0, 1) := by decide +kernel
theorem dX12_wrongKept_26 : decode cX12_wrongKept 26 = .ok (.getfield 22, 3) := by decide +kernel
theorem dX12_wrongKept_29 : decode cX12_wrongKept 29 = .ok (.iload_n 1, 1) := by decide +kernel
theorem dX12_wrongKept_30 : decode cX12_wrongKept 30 = .ok (.iaload, 1) := by decide +kernel
theorem dX12_wrongKept_31 : decode cX12_wrongKept 31 = .ok (.iconst 1, 1) := by decide +kernel
theorem dX12_wrongKept_32 : decode cX12_wrongKept 32 = .ok (.if_icmp .ne 7, 3) := by decide +kernel
theorem dX12_wrongKept_35 : decode cX12_wrongKept 35 = .ok (.iconst 0, 1) := by decide +kernel
theorem dX12_wrongKept_36 : decode cX12_wrongKept 36 = .ok (.goto 5, 3) := by decide +kernel
theorem dX12_wrongKept_39 : decode cX12_wrongKept 39 = .ok (.bipush (-12), 2) := by decide +kernel
theorem dX12_wrongKept_41 : decode cX12_wrongKept 41 = .ok (.ireturn, 1) := by decide +kernel
theorem dX12_lay_0 : decode cX12_lay 0 = .ok (.iload_n 2, 1) := by decide +kernel
theorem dX12_lay_1 : decode cX12_lay 1 = .ok (.invokestatic 143, 3) := by decide +kernel
theorem dX12_lay_4 : decode cX12_lay 4 = .ok (.ifCond .ne 7, 3) := by decide +kernel
theorem dX12_lay_7 : decode cX12_lay 7 = .ok (.iconst (-1), 1) := by decide +kernel
theorem dX12_lay_8 : decode cX12_lay 8 = .ok (.goto 8, 3) := by decide +kernel
theorem dX12_lay_11 : decode cX12_lay 11 = .ok (.aload_n 0, 1) := by decide +kernel
theorem dX12_lay_12 : decode cX12_lay 12 = .ok (.iload_n 1, 1) := by decide +kernel
theorem dX12_lay_13 : decode cX12_lay 13 = .ok (.invokevirtual 165, 3) := by decide +kernel
theorem dX12_lay_16 : decode cX12_lay 16 = .ok (.istore_n 3, 1) := by decide +kernel
theorem dX12_lay_17 : decode cX12_lay 17 = .ok (.iload_n 3, 1) := by decide +kernel
theorem dX12_lay_18 : decode cX12_lay 18 = .ok (.ifCond .eq 5, 3) := by decide +kernel
theorem dX12_lay_21 : decode cX12_lay 21 = .ok (.iload_n 3, 1) := by decide +kernel
theorem dX12_lay_22 : decode cX12_lay 22 = .ok (.ireturn, 1) := by decide +kernel
theorem dX12_lay_23 : decode cX12_lay 23 = .ok (.aload_n 0, 1) := by decide +kernel
theorem dX12_lay_24 : decode cX12_lay 24 = .ok (.iload_n 2, 1) := by decide +kernel
theorem dX12_lay_25 : decode cX12_lay 25 = .ok (.invokevirtual 77, 3) := by decide +kernel
theorem dX12_lay_28 : decode cX12_lay 28 = .ok (.istore 4, 2) := by decide +kernel
theorem dX12_lay_30 : decode cX12_lay 30 = .ok (.aload_n 0, 1) := by decide +kernel
theorem dX12_lay_31 : decode cX12_lay 31 = .ok (.iload_n 2, 1) := by decide +kernel
theorem dX12_lay_32 : decode cX12_lay 32 = .ok (.aload_n 0, 1) := by decide +kernel
theorem dX12_lay_33 : decode cX12_lay 33 = .ok (.getfield 34, 3) := by decide +kernel
theorem dX12_lay_36 : decode cX12_lay 36 = .ok (.iload_n 1, 1) := by decide +kernel
theorem dX12_lay_37 : decode cX12_lay 37 = .ok (.iaload, 1) := by decide +kernel
theorem dX12_lay_38 : decode cX12_lay 38 = .ok (.aload_n 0, 1) := by decide +kernel
theorem dX12_lay_39 : decode cX12_lay 39 = .ok (.getfield 37, 3) := by decide +kernel
theorem dX12_lay_42 : decode cX12_lay 42 = .ok (.iload_n 1, 1) := by decide +kernel
theorem dX12_lay_43 : decode cX12_lay 43 = .ok (.iaload, 1) := by decide +kernel
theorem dX12_lay_44 : decode cX12_lay 44 = .ok (.invokevirtual 103, 3) := by decide +kernel
theorem dX12_lay_47 : decode cX12_lay 47 = .ok (.iload 4, 2) := by decide +kernel
theorem dX12_lay_49 : decode cX12_lay 49 = .ok (.ireturn, 1) := by decide +kernel
theorem dX12_gang_0 : decode cX12_gang 0 = .ok (.iload_n 1, 1) := by decide +kernel
theorem dX12_gang_1 : decode cX12_gang 1 = .ok (.invokestatic 146, 3) := by decide +kernel
theorem dX12_gang_4 : decode cX12_gang 4 = .ok (.ifCond .eq 29, 3) := by decide +kernel
theorem dX12_gang_7 : decode cX12_gang 7 = .ok (.iload_n 2, 1) := by decide +kernel
theorem dX12_gang_8 : decode cX12_gang 8 = .ok (.i2l, 1) := by decide +kernel
theorem dX12_gang_9 : decode cX12_gang 9 = .ok (.lconst 0, 1) := by decide +kernel
theorem dX12_gang_10 : decode cX12_gang 10 = .ok (.lconst 1, 1) := by decide +kernel
theorem dX12_gang_11 : decode cX12_gang 11 = .ok (.invokestatic 67, 3) := by decide +kernel
theorem dX12_gang_14 : decode cX12_gang 14 = .ok (.ifCond .eq 19, 3) := by decide +kernel
theorem dX12_gang_17 : decode cX12_gang 17 = .ok (.aload_n 0, 1) := by decide +kernel
theorem dX12_gang_18 : decode cX12_gang 18 = .ok (.getfield 9, 3) := by decide +kernel
theorem dX12_gang_21 : decode cX12_gang 21 = .ok (.bipush 40, 2) := by decide +kernel
theorem dX12_gang_23 : decode cX12_gang 23 = .ok (.iconst 2, 1) := by decide +kernel
theorem dX12_gang_24 : decode cX12_gang 24 = .ok (.iload_n 1, 1) := by decide +kernel
theorem dX12_gang_25 : decode cX12_gang 25 = .ok (.imul, 1) := by decide +kernel
theorem dX12_gang_26 : decode cX12_gang 26 = .ok (.iadd, 1) := by decide +kernel
theorem dX12_gang_27 : decode cX12_gang 27 = .ok (.iload_n 2, 1) := by decide +kernel
theorem dX12_gang_28 : decode cX12_gang 28 = .ok (.iadd, 1) := by decide +kernel
theorem dX12_gang_29 : decode cX12_gang 29 = .ok (.iaload, 1) := by decide +kernel
theorem dX12_gang_30 : decode cX12_gang 30 = .ok (.goto 4, 3) := by decide +kernel
theorem dX12_gang_33 : decode cX12_gang 33 = .ok (.iconst (-1), 1) := by decide +kernel
theorem dX12_gang_34 : decode cX12_gang 34 = .ok (.ireturn, 1) := by decide +kernel
theorem dX12_dig_0 : decode cX12_dig 0 = .ok (.iload_n 1, 1) := by decide +kernel
theorem dX12_dig_1 : decode cX12_dig 1 = .ok (.invokestatic 146, 3) := by decide +kernel
theorem dX12_dig_4 : decode cX12_dig 4 = .ok (.ifCond .eq 15, 3) := by decide +kernel
theorem dX12_dig_7 : decode cX12_dig 7 = .ok (.iload_n 2, 1) := by decide +kernel
theorem dX12_dig_8 : decode cX12_dig 8 = .ok (.i2l, 1) := by decide +kernel
theorem dX12_dig_9 : decode cX12_dig 9 = .ok (.lconst 0, 1) := by decide +kernel
theorem dX12_dig_10 : decode cX12_dig 10 = .ok (.ldc2_w 168, 3) := by decide +kernel
theorem dX12_dig_13 : decode cX12_dig 13 = .ok (.invokestatic 67, 3) := by decide +kernel
theorem dX12_dig_16 : decode cX12_dig 16 = .ok (.ifCond .ne 5, 3) := by decide +kernel
theorem dX12_dig_19 : decode cX12_dig 19 = .ok (.iconst (-1), 1) := by decide +kernel
theorem dX12_dig_20 : decode cX12_dig 20 = .ok (.ireturn, 1) := by decide +kernel
theorem dX12_dig_21 : decode cX12_dig 21 = .ok (.aload_n 0, 1) := by decide +kernel
theorem dX12_dig_22 : decode cX12_dig 22 = .ok (.getfield 9, 3) := by decide +kernel
theorem dX12_dig_25 : decode cX12_dig 25 = .ok (.bipush 40, 2) := by decide +kernel
theorem dX12_dig_27 : decode cX12_dig 27 = .ok (.iconst 2, 1) := by decide +kernel
theorem dX12_dig_28 : decode cX12_dig 28 = .ok (.iload_n 1, 1) := by decide +kernel
theorem dX12_dig_29 : decode cX12_dig 29 = .ok (.imul, 1) := by decide +kernel
theorem dX12_dig_30 : decode cX12_dig 30 = .ok (.iadd, 1) := by decide +kernel
theorem dX12_dig_31 : decode cX12_dig 31 = .ok (.iconst 1, 1) := by decide +kernel
theorem dX12_dig_32 : decode cX12_dig 32 = .ok (.iadd, 1) := by decide +kernel
theorem dX12_dig_33 : decode cX12_dig 33 = .ok (.iaload, 1) := by decide +kernel
theorem dX12_dig_34 : decode cX12_dig 34 = .ok (.istore_n 3, 1) := by decide +kernel
theorem dX12_dig_35 : decode cX12_dig 35 = .ok (.aload_n 0, 1) := by decide +kernel
theorem dX12_dig_36 : decode cX12_dig 36 = .ok (.iload_n 1, 1) := by decide +kernel
theorem dX12_dig_37 : decode cX12_dig 37 = .ok (.iload_n 2, 1) := by decide +kernel
theorem dX12_dig_38 : decode cX12_dig 38 = .ok (.invokevirtual 149, 3) := by decide +kernel
theorem dX12_dig_41 : decode cX12_dig 41 = .ok (.ifCond .eq 21, 3) := by decide +kernel
theorem dX12_dig_44 : decode cX12_dig 44 = .ok (.aload_n 0, 1) := by decide +kernel
theorem dX12_dig_45 : decode cX12_dig 45 = .ok (.getfield 9, 3) := by decide +kernel
theorem dX12_dig_48 : decode cX12_dig 48 = .ok (.bipush 40, 2) := by decide +kernel
theorem dX12_dig_50 : decode cX12_dig 50 = .ok (.iconst 2, 1) := by decide +kernel
theorem dX12_dig_51 : decode cX12_dig 51 = .ok (.iload_n 1, 1) := by decide +kernel
theorem dX12_dig_52 : decode cX12_dig 52 = .ok (.imul, 1) := by decide +kernel
theorem dX12_dig_53 : decode cX12_dig 53 = .ok (.iadd, 1) := by decide +kernel
theorem dX12_dig_54 : decode cX12_dig 54 = .ok (.iconst 1, 1) := by decide +kernel
theorem dX12_dig_55 : decode cX12_dig 55 = .ok (.iadd, 1) := by decide +kernel
theorem dX12_dig_56 : decode cX12_dig 56 = .ok (.iaload, 1) := by decide +kernel
theorem dX12_dig_57 : decode cX12_dig 57 = .ok (.iload_n 3, 1) := by decide +kernel
theorem dX12_dig_58 : decode cX12_dig 58 = .ok (.isub, 1) := by decide +kernel
theorem dX12_dig_59 : decode cX12_dig 59 = .ok (.goto 5, 3) := by decide +kernel
theorem dX12_dig_62 : decode cX12_dig 62 = .ok (.bipush (-3), 2) := by decide +kernel
theorem dX12_dig_64 : decode cX12_dig 64 = .ok (.ireturn, 1) := by decide +kernel
theorem dX12_met_0 : decode cX12_met 0 = .ok (.aload_n 0, 1) := by decide +kernel
theorem dX12_met_1 : decode cX12_met 1 = .ok (.invokevirtual 170, 3) := by decide +kernel
theorem dX12_met_4 : decode cX12_met 4 = .ok (.ifCond .eq 7, 3) := by decide +kernel
theorem dX12_met_7 : decode cX12_met 7 = .ok (.iconst 1, 1) := by decide +kernel
theorem dX12_met_8 : decode cX12_met 8 = .ok (.goto 4, 3) := by decide +kernel
theorem dX12_met_11 : decode cX12_met 11 = .ok (.iconst 0, 1) := by decide +kernel
theorem dX12_met_12 : decode cX12_met 12 = .ok (.ireturn, 1) := by decide +kernel
theorem dX12_time_0 : decode cX12_time 0 = .ok (.iload_n 1, 1) := by decide +kernel
theorem dX12_time_1 : decode cX12_time 1 = .ok (.invokestatic 143, 3) := by decide +kernel
theorem dX12_time_4 : decode cX12_time 4 = .ok (.ifCond .eq 19, 3) := by decide +kernel
theorem dX12_time_7 : decode cX12_time 7 = .ok (.iload_n 2, 1) := by decide +kernel
theorem dX12_time_8 : decode cX12_time 8 = .ok (.invokestatic 143, 3) := by decide +kernel
theorem dX12_time_11 : decode cX12_time 11 = .ok (.ifCond .eq 12, 3) := by decide +kernel
theorem dX12_time_14 : decode cX12_time 14 = .ok (.aload_n 0, 1) := by decide +kernel
theorem dX12_time_15 : decode cX12_time 15 = .ok (.iload_n 1, 1) := by decide +kernel
theorem dX12_time_16 : decode cX12_time 16 = .ok (.iload_n 2, 1) := by decide +kernel
theorem dX12_time_17 : decode cX12_time 17 = .ok (.invokevirtual 173, 3) := by decide +kernel
theorem dX12_time_20 : decode cX12_time 20 = .ok (.goto 4, 3) := by decide +kernel
theorem dX12_time_23 : decode cX12_time 23 = .ok (.iconst (-1), 1) := by decide +kernel
theorem dX12_time_24 : decode cX12_time 24 = .ok (.ireturn, 1) := by decide +kernel
theorem dX12_loud_0 : decode cX12_loud 0 = .ok (.iload_n 1, 1) := by decide +kernel
theorem dX12_loud_1 : decode cX12_loud 1 = .ok (.invokestatic 143, 3) := by decide +kernel
theorem dX12_loud_4 : decode cX12_loud 4 = .ok (.ifCond .eq 22, 3) := by decide +kernel
theorem dX12_loud_7 : decode cX12_loud 7 = .ok (.iload_n 2, 1) := by decide +kernel
theorem dX12_loud_8 : decode cX12_loud 8 = .ok (.invokestatic 143, 3) := by decide +kernel
theorem dX12_loud_11 : decode cX12_loud 11 = .ok (.ifCond .eq 15, 3) := by decide +kernel
theorem dX12_loud_14 : decode cX12_loud 14 = .ok (.iload_n 3, 1) := by decide +kernel
theorem dX12_loud_15 : decode cX12_loud 15 = .ok (.i2l, 1) := by decide +kernel
theorem dX12_loud_16 : decode cX12_loud 16 = .ok (.lconst 0, 1) := by decide +kernel
theorem dX12_loud_17 : decode cX12_loud 17 = .ok (.ldc2_w 176, 3) := by decide +kernel
theorem dX12_loud_20 : decode cX12_loud 20 = .ok (.invokestatic 67, 3) := by decide +kernel
theorem dX12_loud_23 : decode cX12_loud 23 = .ok (.ifCond .ne 5, 3) := by decide +kernel
theorem dX12_loud_26 : decode cX12_loud 26 = .ok (.iconst (-1), 1) := by decide +kernel
theorem dX12_loud_27 : decode cX12_loud 27 = .ok (.ireturn, 1) := by decide +kernel
theorem dX12_loud_28 : decode cX12_loud 28 = .ok (.aload_n 0, 1) := by decide +kernel
theorem dX12_loud_29 : decode cX12_loud 29 = .ok (.iload_n 1, 1) := by decide +kernel
theorem dX12_loud_30 : decode cX12_loud 30 = .ok (.invokevirtual 118, 3) := by decide +kernel
theorem dX12_loud_33 : decode cX12_loud 33 = .ok (.iload_n 3, 1) := by decide +kernel
theorem dX12_loud_34 : decode cX12_loud 34 = .ok (.aload_n 0, 1) := by decide +kernel
theorem dX12_loud_35 : decode cX12_loud 35 = .ok (.getfield 43, 3) := by decide +kernel
theorem dX12_loud_38 : decode cX12_loud 38 = .ok (.iload_n 2, 1) := by decide +kernel
theorem dX12_loud_39 : decode cX12_loud 39 = .ok (.iaload, 1) := by decide +kernel
theorem dX12_loud_40 : decode cX12_loud 40 = .ok (.if_icmp .le 14, 3) := by decide +kernel
theorem dX12_loud_43 : decode cX12_loud 43 = .ok (.iload_n 3, 1) := by decide +kernel
theorem dX12_loud_44 : decode cX12_loud 44 = .ok (.aload_n 0, 1) := by decide +kernel
theorem dX12_loud_45 : decode cX12_loud 45 = .ok (.getfield 43, 3) := by decide +kernel
theorem dX12_loud_48 : decode cX12_loud 48 = .ok (.iload_n 2, 1) := by decide +kernel
theorem dX12_loud_49 : decode cX12_loud 49 = .ok (.iaload, 1) := by decide +kernel
theorem dX12_loud_50 : decode cX12_loud 50 = .ok (.isub, 1) := by decide +kernel
theorem dX12_loud_51 : decode cX12_loud 51 = .ok (.goto 4, 3) := by decide +kernel
theorem dX12_loud_54 : decode cX12_loud 54 = .ok (.iconst 0, 1) := by decide +kernel
theorem dX12_loud_55 : decode cX12_loud 55 = .ok (.ireturn, 1) := by decide +kernel
theorem dX12_paths_0 : decode cX12_paths 0 = .ok (.iload_n 1, 1) := by decide +kernel
theorem dX12_paths_1 : decode cX12_paths 1 = .ok (.invokestatic 143, 3) := by decide +kernel
theorem dX12_paths_4 : decode cX12_paths 4 = .ok (.ifCond .eq 10, 3) := by decide +kernel
theorem dX12_paths_7 : decode cX12_paths 7 = .ok (.iload_n 2, 1) := by decide +kernel
theorem dX12_paths_8 : decode cX12_paths 8 = .ok (.invokestatic 143, 3) := by decide +kernel
theorem dX12_paths_11 : decode cX12_paths 11 = .ok (.ifCond .ne 5, 3) := by decide +kernel
theorem dX12_paths_14 : decode cX12_paths 14 = .ok (.iconst (-1), 1) := by decide +kernel
theorem dX12_paths_15 : decode cX12_paths 15 = .ok (.ireturn, 1) := by decide +kernel
theorem dX12_paths_16 : decode cX12_paths 16 = .ok (.aload_n 0, 1) := by decide +kernel
theorem dX12_paths_17 : decode cX12_paths 17 = .ok (.iload_n 1, 1) := by decide +kernel
theorem dX12_paths_18 : decode cX12_paths 18 = .ok (.invokevirtual 178, 3) := by decide +kernel
theorem dX12_paths_21 : decode cX12_paths 21 = .ok (.aload_n 0, 1) := by decide +kernel
theorem dX12_paths_22 : decode cX12_paths 22 = .ok (.getfield 46, 3) := by decide +kernel
theorem dX12_paths_25 : decode cX12_paths 25 = .ok (.iload_n 2, 1) := by decide +kernel
theorem dX12_paths_26 : decode cX12_paths 26 = .ok (.iaload, 1) := by decide +kernel
theorem dX12_paths_27 : decode cX12_paths 27 = .ok (.ireturn, 1) := by decide +kernel
theorem dX12_reaches_0 : decode cX12_reaches 0 = .ok (.iload_n 1, 1) := by decide +kernel
theorem dX12_reaches_1 : decode cX12_reaches 1 = .ok (.invokestatic 143, 3) := by decide +kernel
theorem dX12_reaches_4 : decode cX12_reaches 4 = .ok (.ifCond .eq 15, 3) := by decide +kernel
theorem dX12_reaches_7 : decode cX12_reaches 7 = .ok (.iload_n 2, 1) := by decide +kernel
theorem dX12_reaches_8 : decode cX12_reaches 8 = .ok (.i2l, 1) := by decide +kernel
theorem dX12_reaches_9 : decode cX12_reaches 9 = .ok (.lconst 1, 1) := by decide +kernel
theorem dX12_reaches_10 : decode cX12_reaches 10 = .ok (.ldc2_w 176, 3) := by decide +kernel
theorem dX12_reaches_13 : decode cX12_reaches 13 = .ok (.invokestatic 67, 3) := by decide +kernel
theorem dX12_reaches_16 : decode cX12_reaches 16 = .ok (.ifCond .ne 5, 3) := by decide +kernel
theorem dX12_reaches_19 : decode cX12_reaches 19 = .ok (.iconst (-1), 1) := by decide +kernel
theorem dX12_reaches_20 : decode cX12_reaches 20 = .ok (.ireturn, 1) := by decide +kernel
theorem dX12_reaches_21 : decode cX12_reaches 21 = .ok (.aload_n 0, 1) := by decide +kernel
theorem dX12_reaches_22 : decode cX12_reaches 22 = .ok (.iload_n 1, 1) := by decide +kernel
theorem dX12_reaches_23 : decode cX12_reaches 23 = .ok (.invokevirtual 118, 3) := by decide +kernel
theorem dX12_reaches_26 : decode cX12_reaches 26 = .ok (.iconst 0, 1) := by decide +kernel
theorem dX12_reaches_27 : decode cX12_reaches 27 = .ok (.istore_n 3, 1) := by decide +kernel
theorem dX12_reaches_28 : decode cX12_reaches 28 = .ok (.iconst 0, 1) := by decide +kernel
theorem dX12_reaches_29 : decode cX12_reaches 29 = .ok (.istore 4, 2) := by decide +kernel
theorem dX12_reaches_31 : decode cX12_reaches 31 = .ok (.iload 4, 2) := by decide +kernel
theorem dX12_reaches_33 : decode cX12_reaches 33 = .ok (.bipush 20, 2) := by decide +kernel
theorem dX12_reaches_35 : decode cX12_reaches 35 = .ok (.if_icmp .ge 31, 3) := by decide +kernel
theorem dX12_reaches_38 : decode cX12_reaches 38 = .ok (.iload_n 3, 1) := by decide +kernel
theorem dX12_reaches_39 : decode cX12_reaches 39 = .ok (.iload_n 2, 1) := by decide +kernel
theorem dX12_reaches_40 : decode cX12_reaches 40 = .ok (.aload_n 0, 1) := by decide +kernel
theorem dX12_reaches_41 : decode cX12_reaches 41 = .ok (.getfield 43, 3) := by decide +kernel
theorem dX12_reaches_44 : decode cX12_reaches 44 = .ok (.iload 4, 2) := by decide +kernel
theorem dX12_reaches_46 : decode cX12_reaches 46 = .ok (.iaload, 1) := by decide +kernel
theorem dX12_reaches_47 : decode cX12_reaches 47 = .ok (.if_icmp .le 10, 3) := by decide +kernel
theorem dX12_reaches_50 : decode cX12_reaches 50 = .ok (.iconst 1, 1) := by decide +kernel
theorem dX12_reaches_51 : decode cX12_reaches 51 = .ok (.iload 4, 2) := by decide +kernel
theorem dX12_reaches_53 : decode cX12_reaches 53 = .ok (.ishl, 1) := by decide +kernel
theorem dX12_reaches_54 : decode cX12_reaches 54 = .ok (.goto 4, 3) := by decide +kernel
theorem dX12_reaches_57 : decode cX12_reaches 57 = .ok (.iconst 0, 1) := by decide +kernel
theorem dX12_reaches_58 : decode cX12_reaches 58 = .ok (.ior, 1) := by decide +kernel
theorem dX12_reaches_59 : decode cX12_reaches 59 = .ok (.istore_n 3, 1) := by decide +kernel
theorem dX12_reaches_60 : decode cX12_reaches 60 = .ok (.iinc 4 1, 3) := by decide +kernel
theorem dX12_reaches_63 : decode cX12_reaches 63 = .ok (.goto (-32), 3) := by decide +kernel
theorem dX12_reaches_66 : decode cX12_reaches 66 = .ok (.iload_n 3, 1) := by decide +kernel
theorem dX12_reaches_67 : decode cX12_reaches 67 = .ok (.ireturn, 1) := by decide +kernel
theorem dX12_told_0 : decode cX12_told 0 = .ok (.aload_n 0, 1) := by decide +kernel
theorem dX12_told_1 : decode cX12_told 1 = .ok (.getfield 31, 3) := by decide +kernel
theorem dX12_told_4 : decode cX12_told 4 = .ok (.bipush 100, 2) := by decide +kernel
theorem dX12_told_6 : decode cX12_told 6 = .ok (.iload_n 1, 1) := by decide +kernel
theorem dX12_told_7 : decode cX12_told 7 = .ok (.imul, 1) := by decide +kernel
theorem dX12_told_8 : decode cX12_told 8 = .ok (.iload_n 2, 1) := by decide +kernel
theorem dX12_told_9 : decode cX12_told 9 = .ok (.iadd, 1) := by decide +kernel
theorem dX12_told_10 : decode cX12_told 10 = .ok (.iaload, 1) := by decide +kernel
theorem dX12_told_11 : decode cX12_told 11 = .ok (.ireturn, 1) := by decide +kernel
theorem dX12_isFrom_0 : decode cX12_isFrom 0 = .ok (.aload_n 0, 1) := by decide +kernel
theorem dX12_isFrom_1 : decode cX12_isFrom 1 = .ok (.iload_n 2, 1) := by decide +kernel
theorem dX12_isFrom_2 : decode cX12_isFrom 2 = .ok (.invokevirtual 118, 3) := by decide +kernel
theorem dX12_isFrom_5 : decode cX12_isFrom 5 = .ok (.iconst 2, 1) := by decide +kernel
theorem dX12_isFrom_6 : decode cX12_isFrom 6 = .ok (.istore_n 3, 1) := by decide +kernel
theorem dX12_isFrom_7 : decode cX12_isFrom 7 = .ok (.iload_n 3, 1) := by decide +kernel
theorem dX12_isFrom_8 : decode cX12_isFrom 8 = .ok (.aload_n 0, 1) := by decide +kernel
theorem dX12_isFrom_9 : decode cX12_isFrom 9 = .ok (.getfield 28, 3) := by decide +kernel
theorem dX12_isFrom_12 : decode cX12_isFrom 12 = .ok (.iload_n 1, 1) := by decide +kernel
theorem dX12_isFrom_13 : decode cX12_isFrom 13 = .ok (.iaload, 1) := by decide +kernel
theorem dX12_isFrom_14 : decode cX12_isFrom 14 = .ok (.if_icmp .ge 57, 3) := by decide +kernel
theorem dX12_isFrom_17 : decode cX12_isFrom 17 = .ok (.aload_n 0, 1) := by decide +kernel
theorem dX12_isFrom_18 : decode cX12_isFrom 18 = .ok (.iload_n 1, 1) := by decide +kernel
theorem dX12_isFrom_19 : decode cX12_isFrom 19 = .ok (.iload_n 3, 1) := by decide +kernel
theorem dX12_isFrom_20 : decode cX12_isFrom 20 = .ok (.iconst 1, 1) := by decide +kernel
theorem dX12_isFrom_21 : decode cX12_isFrom 21 = .ok (.iadd, 1) := by decide +kernel
theorem dX12_isFrom_22 : decode cX12_isFrom 22 = .ok (.invokevirtual 181, 3) := by decide +kernel
theorem dX12_isFrom_25 : decode cX12_isFrom 25 = .ok (.i2l, 1) := by decide +kernel
theorem dX12_isFrom_26 : decode cX12_isFrom 26 = .ok (.aload_n 0, 1) := by decide +kernel
theorem dX12_isFrom_27 : decode cX12_isFrom 27 = .ok (.getfield 40, 3) := by decide +kernel
theorem dX12_isFrom_30 : decode cX12_isFrom 30 = .ok (.aload_n 0, 1) := by decide +kernel
theorem dX12_isFrom_31 : decode cX12_isFrom 31 = .ok (.iload_n 1, 1) := by decide +kernel
theorem dX12_isFrom_32 : decode cX12_isFrom 32 = .ok (.iload_n 3, 1) := by decide +kernel
theorem dX12_isFrom_33 : decode cX12_isFrom 33 = .ok (.invokevirtual 181, 3) := by decide +kernel
theorem dX12_isFrom_36 : decode cX12_isFrom 36 = .ok (.iaload, 1) := by decide +kernel
theorem dX12_isFrom_37 : decode cX12_isFrom 37 = .ok (.i2l, 1) := by decide +kernel
theorem dX12_isFrom_38 : decode cX12_isFrom 38 = .ok (.lsub, 1) := by decide +kernel
theorem dX12_isFrom_39 : decode cX12_isFrom 39 = .ok (.aload_n 0, 1) := by decide +kernel
theorem dX12_isFrom_40 : decode cX12_isFrom 40 = .ok (.iload_n 1, 1) := by decide +kernel
theorem dX12_isFrom_41 : decode cX12_isFrom 41 = .ok (.iconst 1, 1) := by decide +kernel
theorem dX12_isFrom_42 : decode cX12_isFrom 42 = .ok (.invokevirtual 181, 3) := by decide +kernel
theorem dX12_isFrom_45 : decode cX12_isFrom 45 = .ok (.i2l, 1) := by decide +kernel
theorem dX12_isFrom_46 : decode cX12_isFrom 46 = .ok (.aload_n 0, 1) := by decide +kernel
theorem dX12_isFrom_47 : decode cX12_isFrom 47 = .ok (.getfield 40, 3) := by decide +kernel
theorem dX12_isFrom_50 : decode cX12_isFrom 50 = .ok (.aload_n 0, 1) := by decide +kernel
theorem dX12_isFrom_51 : decode cX12_isFrom 51 = .ok (.iload_n 1, 1) := by decide +kernel
theorem dX12_isFrom_52 : decode cX12_isFrom 52 = .ok (.iconst 0, 1) := by decide +kernel
theorem dX12_isFrom_53 : decode cX12_isFrom 53 = .ok (.invokevirtual 181, 3) := by decide +kernel
theorem dX12_isFrom_56 : decode cX12_isFrom 56 = .ok (.iaload, 1) := by decide +kernel
theorem dX12_isFrom_57 : decode cX12_isFrom 57 = .ok (.i2l, 1) := by decide +kernel
theorem dX12_isFrom_58 : decode cX12_isFrom 58 = .ok (.lsub, 1) := by decide +kernel
theorem dX12_isFrom_59 : decode cX12_isFrom 59 = .ok (.lcmp, 1) := by decide +kernel
theorem dX12_isFrom_60 : decode cX12_isFrom 60 = .ok (.ifCond .eq 5, 3) := by decide +kernel
theorem dX12_isFrom_63 : decode cX12_isFrom 63 = .ok (.iconst 0, 1) := by decide +kernel
theorem dX12_isFrom_64 : decode cX12_isFrom 64 = .ok (.ireturn, 1) := by decide +kernel
theorem dX12_isFrom_65 : decode cX12_isFrom 65 = .ok (.iinc 3 2, 3) := by decide +kernel
theorem dX12_isFrom_68 : decode cX12_isFrom 68 = .ok (.goto (-61), 3) := by decide +kernel
theorem dX12_isFrom_71 : decode cX12_isFrom 71 = .ok (.iconst 1, 1) := by decide +kernel
theorem dX12_isFrom_72 : decode cX12_isFrom 72 = .ok (.ireturn, 1) := by decide +kernel
theorem dX12_from_0 : decode cX12_from 0 = .ok (.iload_n 1, 1) := by decide +kernel
theorem dX12_from_1 : decode cX12_from 1 = .ok (.invokestatic 152, 3) := by decide +kernel
theorem dX12_from_4 : decode cX12_from 4 = .ok (.ifCond .eq 13, 3) := by decide +kernel
theorem dX12_from_7 : decode cX12_from 7 = .ok (.iload_n 2, 1) := by decide +kernel
theorem dX12_from_8 : decode cX12_from 8 = .ok (.i2l, 1) := by decide +kernel
theorem dX12_from_9 : decode cX12_from 9 = .ok (.lconst 0, 1) := by decide +kernel
theorem dX12_from_10 : decode cX12_from 10 = .ok (.lconst 1, 1) := by decide +kernel
theorem dX12_from_11 : decode cX12_from 11 = .ok (.invokestatic 67, 3) := by decide +kernel
theorem dX12_from_14 : decode cX12_from 14 = .ok (.ifCond .ne 7, 3) := by decide +kernel
theorem dX12_from_17 : decode cX12_from 17 = .ok (.iconst (-1), 1) := by decide +kernel
theorem dX12_from_18 : decode cX12_from 18 = .ok (.goto 9, 3) := by decide +kernel
theorem dX12_from_21 : decode cX12_from 21 = .ok (.aload_n 0, 1) := by decide +kernel
theorem dX12_from_22 : decode cX12_from 22 = .ok (.iload_n 1, 1) := by decide +kernel
theorem dX12_from_23 : decode cX12_from 23 = .ok (.iconst 2, 1) := by decide +kernel
theorem dX12_from_24 : decode cX12_from 24 = .ok (.invokevirtual 155, 3) := by decide +kernel
theorem dX12_from_27 : decode cX12_from 27 = .ok (.istore_n 3, 1) := by decide +kernel
theorem dX12_from_28 : decode cX12_from 28 = .ok (.iload_n 3, 1) := by decide +kernel
theorem dX12_from_29 : decode cX12_from 29 = .ok (.ifCond .ne 17, 3) := by decide +kernel
theorem dX12_from_32 : decode cX12_from 32 = .ok (.aload_n 0, 1) := by decide +kernel
theorem dX12_from_33 : decode cX12_from 33 = .ok (.getfield 28, 3) := by decide +kernel
theorem dX12_from_36 : decode cX12_from 36 = .ok (.iload_n 1, 1) := by decide +kernel
theorem dX12_from_37 : decode cX12_from 37 = .ok (.iaload, 1) := by decide +kernel
theorem dX12_from_38 : decode cX12_from 38 = .ok (.iconst 2, 1) := by decide +kernel
theorem dX12_from_39 : decode cX12_from 39 = .ok (.irem, 1) := by decide +kernel
theorem dX12_from_40 : decode cX12_from 40 = .ok (.ifCond .eq 6, 3) := by decide +kernel
theorem dX12_from_43 : decode cX12_from 43 = .ok (.bipush (-13), 2) := by decide +kernel
theorem dX12_from_45 : decode cX12_from 45 = .ok (.istore_n 3, 1) := by decide +kernel
theorem dX12_from_46 : decode cX12_from 46 = .ok (.iconst 0, 1) := by decide +kernel
theorem dX12_from_47 : decode cX12_from 47 = .ok (.istore 4, 2) := by decide +kernel
theorem dX12_from_49 : decode cX12_from 49 = .ok (.iload_n 3, 1) := by decide +kernel
theorem dX12_from_50 : decode cX12_from 50 = .ok (.ifCond .ne 40, 3) := by decide +kernel
theorem dX12_from_53 : decode cX12_from 53 = .ok (.iload 4, 2) := by decide +kernel
theorem dX12_from_55 : decode cX12_from 55 = .ok (.aload_n 0, 1) := by decide +kernel
theorem dX12_from_56 : decode cX12_from 56 = .ok (.getfield 28, 3) := by decide +kernel
theorem dX12_from_59 : decode cX12_from 59 = .ok (.iload_n 1, 1) := by decide +kernel
theorem dX12_from_60 : decode cX12_from 60 = .ok (.iaload, 1) := by decide +kernel
theorem dX12_from_61 : decode cX12_from 61 = .ok (.if_icmp .ge 29, 3) := by decide +kernel
theorem dX12_from_64 : decode cX12_from 64 = .ok (.aload_n 0, 1) := by decide +kernel
theorem dX12_from_65 : decode cX12_from 65 = .ok (.iload_n 1, 1) := by decide +kernel
theorem dX12_from_66 : decode cX12_from 66 = .ok (.iload 4, 2) := by decide +kernel
theorem dX12_from_68 : decode cX12_from 68 = .ok (.invokevirtual 181, 3) := by decide +kernel
theorem dX12_from_71 : decode cX12_from 71 = .ok (.invokestatic 143, 3) := by decide +kernel
theorem dX12_from_74 : decode cX12_from 74 = .ok (.ifCond .eq 7, 3) := by decide +kernel
theorem dX12_from_77 : decode cX12_from 77 = .ok (.iconst 0, 1) := by decide +kernel
theorem dX12_from_78 : decode cX12_from 78 = .ok (.goto 5, 3) := by decide +kernel
theorem dX12_from_81 : decode cX12_from 81 = .ok (.bipush (-13), 2) := by decide +kernel
theorem dX12_from_83 : decode cX12_from 83 = .ok (.istore_n 3, 1) := by decide +kernel
theorem dX12_from_84 : decode cX12_from 84 = .ok (.iinc 4 2, 3) := by decide +kernel
theorem dX12_from_87 : decode cX12_from 87 = .ok (.goto (-38), 3) := by decide +kernel
theorem dX12_from_90 : decode cX12_from 90 = .ok (.iload_n 3, 1) := by decide +kernel
theorem dX12_from_91 : decode cX12_from 91 = .ok (.ifCond .eq 5, 3) := by decide +kernel
theorem dX12_from_94 : decode cX12_from 94 = .ok (.iload_n 3, 1) := by decide +kernel
theorem dX12_from_95 : decode cX12_from 95 = .ok (.ireturn, 1) := by decide +kernel
theorem dX12_from_96 : decode cX12_from 96 = .ok (.iconst 0, 1) := by decide +kernel
theorem dX12_from_97 : decode cX12_from 97 = .ok (.istore 4, 2) := by decide +kernel
theorem dX12_from_99 : decode cX12_from 99 = .ok (.bipush (-4), 2) := by decide +kernel
theorem dX12_from_101 : decode cX12_from 101 = .ok (.istore 5, 2) := by decide +kernel
theorem dX12_from_103 : decode cX12_from 103 = .ok (.iconst 0, 1) := by decide +kernel
theorem dX12_from_104 : decode cX12_from 104 = .ok (.istore 6, 2) := by decide +kernel
theorem dX12_from_106 : decode cX12_from 106 = .ok (.iload 6, 2) := by decide +kernel
theorem dX12_from_108 : decode cX12_from 108 = .ok (.bipush 20, 2) := by decide +kernel
theorem dX12_from_110 : decode cX12_from 110 = .ok (.if_icmp .ge 39, 3) := by decide +kernel
theorem dX12_from_113 : decode cX12_from 113 = .ok (.aload_n 0, 1) := by decide +kernel
theorem dX12_from_114 : decode cX12_from 114 = .ok (.iload_n 1, 1) := by decide +kernel
theorem dX12_from_115 : decode cX12_from 115 = .ok (.iload 6, 2) := by decide +kernel
theorem dX12_from_117 : decode cX12_from 117 = .ok (.invokevirtual 184, 3) := by decide +kernel
theorem dX12_from_120 : decode cX12_from 120 = .ok (.ifCond .ne 6, 3) := by decide +kernel
theorem dX12_from_123 : decode cX12_from 123 = .ok (.goto 20, 3) := by decide +kernel
theorem dX12_from_126 : decode cX12_from 126 = .ok (.iinc 4 1, 3) := by decide +kernel
theorem dX12_from_129 : decode cX12_from 129 = .ok (.iload 5, 2) := by decide +kernel
theorem dX12_from_131 : decode cX12_from 131 = .ok (.ifCond .ge 8, 3) := by decide +kernel
theorem dX12_from_134 : decode cX12_from 134 = .ok (.iload 6, 2) := by decide +kernel
theorem dX12_from_136 : decode cX12_from 136 = .ok (.goto 5, 3) := by decide +kernel
theorem dX12_from_139 : decode cX12_from 139 = .ok (.iload 5, 2) := by decide +kernel
theorem dX12_from_141 : decode cX12_from 141 = .ok (.istore 5, 2) := by decide +kernel
theorem dX12_from_143 : decode cX12_from 143 = .ok (.iinc 6 1, 3) := by decide +kernel
theorem dX12_from_146 : decode cX12_from 146 = .ok (.goto (-40), 3) := by decide +kernel
theorem dX12_from_149 : decode cX12_from 149 = .ok (.iload_n 2, 1) := by decide +kernel
theorem dX12_from_150 : decode cX12_from 150 = .ok (.ifCond .ne 8, 3) := by decide +kernel
theorem dX12_from_153 : decode cX12_from 153 = .ok (.iload 4, 2) := by decide +kernel
theorem dX12_from_155 : decode cX12_from 155 = .ok (.goto 5, 3) := by decide +kernel
theorem dX12_from_158 : decode cX12_from 158 = .ok (.iload 5, 2) := by decide +kernel
theorem dX12_from_160 : decode cX12_from 160 = .ok (.ireturn, 1) := by decide +kernel
theorem dX12_alikeAt_0 : decode cX12_alikeAt 0 = .ok (.iconst 0, 1) := by decide +kernel
theorem dX12_alikeAt_1 : decode cX12_alikeAt 1 = .ok (.istore_n 3, 1) := by decide +kernel
theorem dX12_alikeAt_2 : decode cX12_alikeAt 2 = .ok (.iconst 0, 1) := by decide +kernel
theorem dX12_alikeAt_3 : decode cX12_alikeAt 3 = .ok (.istore 4, 2) := by decide +kernel
theorem dX12_alikeAt_5 : decode cX12_alikeAt 5 = .ok (.iload 4, 2) := by decide +kernel
theorem dX12_alikeAt_7 : decode cX12_alikeAt 7 = .ok (.aload_n 0, 1) := by decide +kernel
theorem dX12_alikeAt_8 : decode cX12_alikeAt 8 = .ok (.getfield 28, 3) := by decide +kernel
theorem dX12_alikeAt_11 : decode cX12_alikeAt 11 = .ok (.iload_n 1, 1) := by decide +kernel
theorem dX12_alikeAt_12 : decode cX12_alikeAt 12 = .ok (.iaload, 1) := by decide +kernel
theorem dX12_alikeAt_13 : decode cX12_alikeAt 13 = .ok (.if_icmp .ge 92, 3) := by decide +kernel
theorem dX12_alikeAt_16 : decode cX12_alikeAt 16 = .ok (.iconst 0, 1) := by decide +kernel
theorem dX12_alikeAt_17 : decode cX12_alikeAt 17 = .ok (.istore 5, 2) := by decide +kernel
theorem dX12_alikeAt_19 : decode cX12_alikeAt 19 = .ok (.iconst 0, 1) := by decide +kernel
theorem dX12_alikeAt_20 : decode cX12_alikeAt 20 = .ok (.istore 6, 2) := by decide +kernel
theorem dX12_alikeAt_22 : decode cX12_alikeAt 22 = .ok (.iload 6, 2) := by decide +kernel
theorem dX12_alikeAt_24 : decode cX12_alikeAt 24 = .ok (.aload_n 0, 1) := by decide +kernel
theorem dX12_alikeAt_25 : decode cX12_alikeAt 25 = .ok (.getfield 28, 3) := by decide +kernel
theorem dX12_alikeAt_28 : decode cX12_alikeAt 28 = .ok (.iload_n 1, 1) := by decide +kernel
theorem dX12_alikeAt_29 : decode cX12_alikeAt 29 = .ok (.iaload, 1) := by decide +kernel
theorem dX12_alikeAt_30 : decode cX12_alikeAt 30 = .ok (.if_icmp .ge 56, 3) := by decide +kernel
theorem dX12_alikeAt_33 : decode cX12_alikeAt 33 = .ok (.iload 5, 2) := by decide +kernel
theorem dX12_alikeAt_35 : decode cX12_alikeAt 35 = .ok (.aload_n 0, 1) := by decide +kernel
theorem dX12_alikeAt_36 : decode cX12_alikeAt 36 = .ok (.getfield 52, 3) := by decide +kernel
theorem dX12_alikeAt_39 : decode cX12_alikeAt 39 = .ok (.bipush 20, 2) := by decide +kernel
theorem dX12_alikeAt_41 : decode cX12_alikeAt 41 = .ok (.aload_n 0, 1) := by decide +kernel
theorem dX12_alikeAt_42 : decode cX12_alikeAt 42 = .ok (.iload_n 1, 1) := by decide +kernel
theorem dX12_alikeAt_43 : decode cX12_alikeAt 43 = .ok (.iload 6, 2) := by decide +kernel
theorem dX12_alikeAt_45 : decode cX12_alikeAt 45 = .ok (.invokevirtual 181, 3) := by decide +kernel
theorem dX12_alikeAt_48 : decode cX12_alikeAt 48 = .ok (.imul, 1) := by decide +kernel
theorem dX12_alikeAt_49 : decode cX12_alikeAt 49 = .ok (.iload_n 2, 1) := by decide +kernel
theorem dX12_alikeAt_50 : decode cX12_alikeAt 50 = .ok (.iadd, 1) := by decide +kernel
theorem dX12_alikeAt_51 : decode cX12_alikeAt 51 = .ok (.iaload, 1) := by decide +kernel
theorem dX12_alikeAt_52 : decode cX12_alikeAt 52 = .ok (.aload_n 0, 1) := by decide +kernel
theorem dX12_alikeAt_53 : decode cX12_alikeAt 53 = .ok (.getfield 52, 3) := by decide +kernel
theorem dX12_alikeAt_56 : decode cX12_alikeAt 56 = .ok (.bipush 20, 2) := by decide +kernel
theorem dX12_alikeAt_58 : decode cX12_alikeAt 58 = .ok (.aload_n 0, 1) := by decide +kernel
theorem dX12_alikeAt_59 : decode cX12_alikeAt 59 = .ok (.iload_n 1, 1) := by decide +kernel
theorem dX12_alikeAt_60 : decode cX12_alikeAt 60 = .ok (.iload 4, 2) := by decide +kernel
theorem dX12_alikeAt_62 : decode cX12_alikeAt 62 = .ok (.invokevirtual 181, 3) := by decide +kernel
theorem dX12_alikeAt_65 : decode cX12_alikeAt 65 = .ok (.imul, 1) := by decide +kernel
theorem dX12_alikeAt_66 : decode cX12_alikeAt 66 = .ok (.iload_n 2, 1) := by decide +kernel
theorem dX12_alikeAt_67 : decode cX12_alikeAt 67 = .ok (.iadd, 1) := by decide +kernel
theorem dX12_alikeAt_68 : decode cX12_alikeAt 68 = .ok (.iaload, 1) := by decide +kernel
theorem dX12_alikeAt_69 : decode cX12_alikeAt 69 = .ok (.if_icmp .ne 7, 3) := by decide +kernel
theorem dX12_alikeAt_72 : decode cX12_alikeAt 72 = .ok (.iconst 1, 1) := by decide +kernel
theorem dX12_alikeAt_73 : decode cX12_alikeAt 73 = .ok (.goto 4, 3) := by decide +kernel
theorem dX12_alikeAt_76 : decode cX12_alikeAt 76 = .ok (.iconst 0, 1) := by decide +kernel
theorem dX12_alikeAt_77 : decode cX12_alikeAt 77 = .ok (.iadd, 1) := by decide +kernel
theorem dX12_alikeAt_78 : decode cX12_alikeAt 78 = .ok (.istore 5, 2) := by decide +kernel
theorem dX12_alikeAt_80 : decode cX12_alikeAt 80 = .ok (.iinc 6 1, 3) := by decide +kernel
theorem dX12_alikeAt_83 : decode cX12_alikeAt 83 = .ok (.goto (-61), 3) := by decide +kernel
theorem dX12_alikeAt_86 : decode cX12_alikeAt 86 = .ok (.iload 5, 2) := by decide +kernel
theorem dX12_alikeAt_88 : decode cX12_alikeAt 88 = .ok (.iload_n 3, 1) := by decide +kernel
theorem dX12_alikeAt_89 : decode cX12_alikeAt 89 = .ok (.if_icmp .le 8, 3) := by decide +kernel
theorem dX12_alikeAt_92 : decode cX12_alikeAt 92 = .ok (.iload 5, 2) := by decide +kernel
theorem dX12_alikeAt_94 : decode cX12_alikeAt 94 = .ok (.goto 4, 3) := by decide +kernel
theorem dX12_alikeAt_97 : decode cX12_alikeAt 97 = .ok (.iload_n 3, 1) := by decide +kernel
theorem dX12_alikeAt_98 : decode cX12_alikeAt 98 = .ok (.istore_n 3, 1) := by decide +kernel
theorem dX12_alikeAt_99 : decode cX12_alikeAt 99 = .ok (.iinc 4 1, 3) := by decide +kernel
theorem dX12_alikeAt_102 : decode cX12_alikeAt 102 = .ok (.goto (-97), 3) := by decide +kernel
theorem dX12_alikeAt_105 : decode cX12_alikeAt 105 = .ok (.iload_n 3, 1) := by decide +kernel
theorem dX12_alikeAt_106 : decode cX12_alikeAt 106 = .ok (.ireturn, 1) := by decide +kernel
theorem dX12_listen_0 : decode cX12_listen 0 = .ok (.iload_n 1, 1) := by decide +kernel
theorem dX12_listen_1 : decode cX12_listen 1 = .ok (.invokestatic 152, 3) := by decide +kernel
theorem dX12_listen_4 : decode cX12_listen 4 = .ok (.ifCond .eq 13, 3) := by decide +kernel
theorem dX12_listen_7 : decode cX12_listen 7 = .ok (.iload_n 2, 1) := by decide +kernel
theorem dX12_listen_8 : decode cX12_listen 8 = .ok (.i2l, 1) := by decide +kernel
theorem dX12_listen_9 : decode cX12_listen 9 = .ok (.lconst 0, 1) := by decide +kernel
theorem dX12_listen_10 : decode cX12_listen 10 = .ok (.lconst 1, 1) := by decide +kernel
theorem dX12_listen_11 : decode cX12_listen 11 = .ok (.invokestatic 67, 3) := by decide +kernel
theorem dX12_listen_14 : decode cX12_listen 14 = .ok (.ifCond .ne 7, 3) := by decide +kernel
theorem dX12_listen_17 : decode cX12_listen 17 = .ok (.iconst (-1), 1) := by decide +kernel
theorem dX12_listen_18 : decode cX12_listen 18 = .ok (.goto 9, 3) := by decide +kernel
theorem dX12_listen_21 : decode cX12_listen 21 = .ok (.aload_n 0, 1) := by decide +kernel
theorem dX12_listen_22 : decode cX12_listen 22 = .ok (.iload_n 1, 1) := by decide +kernel
theorem dX12_listen_23 : decode cX12_listen 23 = .ok (.iconst 0, 1) := by decide +kernel
theorem dX12_listen_24 : decode cX12_listen 24 = .ok (.invokevirtual 155, 3) := by decide +kernel
theorem dX12_listen_27 : decode cX12_listen 27 = .ok (.istore_n 3, 1) := by decide +kernel
theorem dX12_listen_28 : decode cX12_listen 28 = .ok (.iload_n 3, 1) := by decide +kernel
theorem dX12_listen_29 : decode cX12_listen 29 = .ok (.ifCond .ne 17, 3) := by decide +kernel
theorem dX12_listen_32 : decode cX12_listen 32 = .ok (.aload_n 0, 1) := by decide +kernel
theorem dX12_listen_33 : decode cX12_listen 33 = .ok (.getfield 28, 3) := by decide +kernel
theorem dX12_listen_36 : decode cX12_listen 36 = .ok (.iload_n 1, 1) := by decide +kernel
theorem dX12_listen_37 : decode cX12_listen 37 = .ok (.iaload, 1) := by decide +kernel
theorem dX12_listen_38 : decode cX12_listen 38 = .ok (.bipush 20, 2) := by decide +kernel
theorem dX12_listen_40 : decode cX12_listen 40 = .ok (.if_icmp .le 6, 3) := by decide +kernel
theorem dX12_listen_43 : decode cX12_listen 43 = .ok (.bipush (-13), 2) := by decide +kernel
theorem dX12_listen_45 : decode cX12_listen 45 = .ok (.istore_n 3, 1) := by decide +kernel
theorem dX12_listen_46 : decode cX12_listen 46 = .ok (.iconst 0, 1) := by decide +kernel
theorem dX12_listen_47 : decode cX12_listen 47 = .ok (.istore 4, 2) := by decide +kernel
theorem dX12_listen_49 : decode cX12_listen 49 = .ok (.iload_n 3, 1) := by decide +kernel
theorem dX12_listen_50 : decode cX12_listen 50 = .ok (.ifCond .ne 40, 3) := by decide +kernel
theorem dX12_listen_53 : decode cX12_listen 53 = .ok (.iload 4, 2) := by decide +kernel
theorem dX12_listen_55 : decode cX12_listen 55 = .ok (.aload_n 0, 1) := by decide +kernel
theorem dX12_listen_56 : decode cX12_listen 56 = .ok (.getfield 28, 3) := by decide +kernel
theorem dX12_listen_59 : decode cX12_listen 59 = .ok (.iload_n 1, 1) := by decide +kernel
theorem dX12_listen_60 : decode cX12_listen 60 = .ok (.iaload, 1) := by decide +kernel
theorem dX12_listen_61 : decode cX12_listen 61 = .ok (.if_icmp .ge 29, 3) := by decide +kernel
theorem dX12_listen_64 : decode cX12_listen 64 = .ok (.aload_n 0, 1) := by decide +kernel
theorem dX12_listen_65 : decode cX12_listen 65 = .ok (.iload_n 1, 1) := by decide +kernel
theorem dX12_listen_66 : decode cX12_listen 66 = .ok (.iload 4, 2) := by decide +kernel
theorem dX12_listen_68 : decode cX12_listen 68 = .ok (.invokevirtual 181, 3) := by decide +kernel
theorem dX12_listen_71 : decode cX12_listen 71 = .ok (.invokestatic 143, 3) := by decide +kernel
theorem dX12_listen_74 : decode cX12_listen 74 = .ok (.ifCond .eq 7, 3) := by decide +kernel
theorem dX12_listen_77 : decode cX12_listen 77 = .ok (.iconst 0, 1) := by decide +kernel
theorem dX12_listen_78 : decode cX12_listen 78 = .ok (.goto 5, 3) := by decide +kernel
theorem dX12_listen_81 : decode cX12_listen 81 = .ok (.bipush (-13), 2) := by decide +kernel
theorem dX12_listen_83 : decode cX12_listen 83 = .ok (.istore_n 3, 1) := by decide +kernel
theorem dX12_listen_84 : decode cX12_listen 84 = .ok (.iinc 4 1, 3) := by decide +kernel
theorem dX12_listen_87 : decode cX12_listen 87 = .ok (.goto (-38), 3) := by decide +kernel
theorem dX12_listen_90 : decode cX12_listen 90 = .ok (.iload_n 3, 1) := by decide +kernel
theorem dX12_listen_91 : decode cX12_listen 91 = .ok (.ifCond .eq 5, 3) := by decide +kernel
theorem dX12_listen_94 : decode cX12_listen 94 = .ok (.iload_n 3, 1) := by decide +kernel
theorem dX12_listen_95 : decode cX12_listen 95 = .ok (.ireturn, 1) := by decide +kernel
theorem dX12_listen_96 : decode cX12_listen 96 = .ok (.aload_n 0, 1) := by decide +kernel
theorem dX12_listen_97 : decode cX12_listen 97 = .ok (.getfield 28, 3) := by decide +kernel
theorem dX12_listen_100 : decode cX12_listen 100 = .ok (.iload_n 1, 1) := by decide +kernel
theorem dX12_listen_101 : decode cX12_listen 101 = .ok (.iaload, 1) := by decide +kernel
theorem dX12_listen_102 : decode cX12_listen 102 = .ok (.ifCond .ne 6, 3) := by decide +kernel
theorem dX12_listen_105 : decode cX12_listen 105 = .ok (.bipush (-4), 2) := by decide +kernel
theorem dX12_listen_107 : decode cX12_listen 107 = .ok (.ireturn, 1) := by decide +kernel
theorem dX12_listen_108 : decode cX12_listen 108 = .ok (.iconst 0, 1) := by decide +kernel
theorem dX12_listen_109 : decode cX12_listen 109 = .ok (.istore 4, 2) := by decide +kernel
theorem dX12_listen_111 : decode cX12_listen 111 = .ok (.iload 4, 2) := by decide +kernel
theorem dX12_listen_113 : decode cX12_listen 113 = .ok (.bipush 20, 2) := by decide +kernel
theorem dX12_listen_115 : decode cX12_listen 115 = .ok (.if_icmp .ge 51, 3) := by decide +kernel
theorem dX12_listen_118 : decode cX12_listen 118 = .ok (.aload_n 0, 1) := by decide +kernel
theorem dX12_listen_119 : decode cX12_listen 119 = .ok (.iload 4, 2) := by decide +kernel
theorem dX12_listen_121 : decode cX12_listen 121 = .ok (.invokevirtual 118, 3) := by decide +kernel
theorem dX12_listen_124 : decode cX12_listen 124 = .ok (.iconst 0, 1) := by decide +kernel
theorem dX12_listen_125 : decode cX12_listen 125 = .ok (.istore 5, 2) := by decide +kernel
theorem dX12_listen_127 : decode cX12_listen 127 = .ok (.iload 5, 2) := by decide +kernel
theorem dX12_listen_129 : decode cX12_listen 129 = .ok (.bipush 20, 2) := by decide +kernel
theorem dX12_listen_131 : decode cX12_listen 131 = .ok (.if_icmp .ge 29, 3) := by decide +kernel
theorem dX12_listen_134 : decode cX12_listen 134 = .ok (.aload_n 0, 1) := by decide +kernel
theorem dX12_listen_135 : decode cX12_listen 135 = .ok (.getfield 52, 3) := by decide +kernel
theorem dX12_listen_138 : decode cX12_listen 138 = .ok (.bipush 20, 2) := by decide +kernel
theorem dX12_listen_140 : decode cX12_listen 140 = .ok (.iload 4, 2) := by decide +kernel
theorem dX12_listen_142 : decode cX12_listen 142 = .ok (.imul, 1) := by decide +kernel
theorem dX12_listen_143 : decode cX12_listen 143 = .ok (.iload 5, 2) := by decide +kernel
theorem dX12_listen_145 : decode cX12_listen 145 = .ok (.iadd, 1) := by decide +kernel
theorem dX12_listen_146 : decode cX12_listen 146 = .ok (.aload_n 0, 1) := by decide +kernel
theorem dX12_listen_147 : decode cX12_listen 147 = .ok (.getfield 40, 3) := by decide +kernel
theorem dX12_listen_150 : decode cX12_listen 150 = .ok (.iload 5, 2) := by decide +kernel
theorem dX12_listen_152 : decode cX12_listen 152 = .ok (.iaload, 1) := by decide +kernel
theorem dX12_listen_153 : decode cX12_listen 153 = .ok (.iastore, 1) := by decide +kernel
theorem dX12_listen_154 : decode cX12_listen 154 = .ok (.iinc 5 1, 3) := by decide +kernel
theorem dX12_listen_157 : decode cX12_listen 157 = .ok (.goto (-30), 3) := by decide +kernel
theorem dX12_listen_160 : decode cX12_listen 160 = .ok (.iinc 4 1, 3) := by decide +kernel
theorem dX12_listen_163 : decode cX12_listen 163 = .ok (.goto (-52), 3) := by decide +kernel
theorem dX12_listen_166 : decode cX12_listen 166 = .ok (.iconst 0, 1) := by decide +kernel
theorem dX12_listen_167 : decode cX12_listen 167 = .ok (.istore 4, 2) := by decide +kernel
theorem dX12_listen_169 : decode cX12_listen 169 = .ok (.iconst 1, 1) := by decide +kernel
theorem dX12_listen_170 : decode cX12_listen 170 = .ok (.istore 5, 2) := by decide +kernel
theorem dX12_listen_172 : decode cX12_listen 172 = .ok (.iload 5, 2) := by decide +kernel
theorem dX12_listen_174 : decode cX12_listen 174 = .ok (.bipush 20, 2) := by decide +kernel
theorem dX12_listen_176 : decode cX12_listen 176 = .ok (.if_icmp .ge 30, 3) := by decide +kernel
theorem dX12_listen_179 : decode cX12_listen 179 = .ok (.aload_n 0, 1) := by decide +kernel
theorem dX12_listen_180 : decode cX12_listen 180 = .ok (.iload_n 1, 1) := by decide +kernel
theorem dX12_listen_181 : decode cX12_listen 181 = .ok (.iload 5, 2) := by decide +kernel
theorem dX12_listen_183 : decode cX12_listen 183 = .ok (.invokevirtual 187, 3) := by decide +kernel
theorem dX12_listen_186 : decode cX12_listen 186 = .ok (.aload_n 0, 1) := by decide +kernel
theorem dX12_listen_187 : decode cX12_listen 187 = .ok (.iload_n 1, 1) := by decide +kernel
theorem dX12_listen_188 : decode cX12_listen 188 = .ok (.iload 4, 2) := by decide +kernel
theorem dX12_listen_190 : decode cX12_listen 190 = .ok (.invokevirtual 187, 3) := by decide +kernel
theorem dX12_listen_193 : decode cX12_listen 193 = .ok (.if_icmp .ge 7, 3) := by decide +kernel
theorem dX12_listen_196 : decode cX12_listen 196 = .ok (.iload 5, 2) := by decide +kernel
theorem dX12_listen_198 : decode cX12_listen 198 = .ok (.istore 4, 2) := by decide +kernel
theorem dX12_listen_200 : decode cX12_listen 200 = .ok (.iinc 5 1, 3) := by decide +kernel
theorem dX12_listen_203 : decode cX12_listen 203 = .ok (.goto (-31), 3) := by decide +kernel
theorem dX12_listen_206 : decode cX12_listen 206 = .ok (.iload_n 2, 1) := by decide +kernel
theorem dX12_listen_207 : decode cX12_listen 207 = .ok (.ifCond .ne 8, 3) := by decide +kernel
theorem dX12_listen_210 : decode cX12_listen 210 = .ok (.iload 4, 2) := by decide +kernel
theorem dX12_listen_212 : decode cX12_listen 212 = .ok (.goto 10, 3) := by decide +kernel
theorem dX12_listen_215 : decode cX12_listen 215 = .ok (.aload_n 0, 1) := by decide +kernel
theorem dX12_listen_216 : decode cX12_listen 216 = .ok (.iload_n 1, 1) := by decide +kernel
theorem dX12_listen_217 : decode cX12_listen 217 = .ok (.iload 4, 2) := by decide +kernel
theorem dX12_listen_219 : decode cX12_listen 219 = .ok (.invokevirtual 187, 3) := by decide +kernel
theorem dX12_listen_222 : decode cX12_listen 222 = .ok (.ireturn, 1) := by decide +kernel
theorem dX12_rocks_0 : decode cX12_rocks 0 = .ok (.iload_n 1, 1) := by decide +kernel
theorem dX12_rocks_1 : decode cX12_rocks 1 = .ok (.invokestatic 143, 3) := by decide +kernel
theorem dX12_rocks_4 : decode cX12_rocks 4 = .ok (.ifCond .eq 30, 3) := by decide +kernel
theorem dX12_rocks_7 : decode cX12_rocks 7 = .ok (.iload_n 2, 1) := by decide +kernel
theorem dX12_rocks_8 : decode cX12_rocks 8 = .ok (.i2l, 1) := by decide +kernel
theorem dX12_rocks_9 : decode cX12_rocks 9 = .ok (.lconst 0, 1) := by decide +kernel
theorem dX12_rocks_10 : decode cX12_rocks 10 = .ok (.ldc2_w 190, 3) := by decide +kernel
theorem dX12_rocks_13 : decode cX12_rocks 13 = .ok (.invokestatic 67, 3) := by decide +kernel
theorem dX12_rocks_16 : decode cX12_rocks 16 = .ok (.ifCond .eq 18, 3) := by decide +kernel
theorem dX12_rocks_19 : decode cX12_rocks 19 = .ok (.iload_n 3, 1) := by decide +kernel
theorem dX12_rocks_20 : decode cX12_rocks 20 = .ok (.invokestatic 143, 3) := by decide +kernel
theorem dX12_rocks_23 : decode cX12_rocks 23 = .ok (.ifCond .eq 11, 3) := by decide +kernel
theorem dX12_rocks_26 : decode cX12_rocks 26 = .ok (.iload 4, 2) := by decide +kernel
theorem dX12_rocks_28 : decode cX12_rocks 28 = .ok (.invokestatic 143, 3) := by decide +kernel
theorem dX12_rocks_31 : decode cX12_rocks 31 = .ok (.ifCond .ne 5, 3) := by decide +kernel
theorem dX12_rocks_34 : decode cX12_rocks 34 = .ok (.iconst (-1), 1) := by decide +kernel
theorem dX12_rocks_35 : decode cX12_rocks 35 = .ok (.ireturn, 1) := by decide +kernel
theorem dX12_rocks_36 : decode cX12_rocks 36 = .ok (.aload_n 0, 1) := by decide +kernel
theorem dX12_rocks_37 : decode cX12_rocks 37 = .ok (.invokevirtual 192, 3) := by decide +kernel
theorem dX12_rocks_40 : decode cX12_rocks 40 = .ok (.iconst 0, 1) := by decide +kernel
theorem dX12_rocks_41 : decode cX12_rocks 41 = .ok (.istore 6, 2) := by decide +kernel
theorem dX12_rocks_43 : decode cX12_rocks 43 = .ok (.iconst 0, 1) := by decide +kernel
theorem dX12_rocks_44 : decode cX12_rocks 44 = .ok (.istore 7, 2) := by decide +kernel
theorem dX12_rocks_46 : decode cX12_rocks 46 = .ok (.iload 7, 2) := by decide +kernel
theorem dX12_rocks_48 : decode cX12_rocks 48 = .ok (.bipush 8, 2) := by decide +kernel
theorem dX12_rocks_50 : decode cX12_rocks 50 = .ok (.if_icmp .ge 42, 3) := by decide +kernel
theorem dX12_rocks_53 : decode cX12_rocks 53 = .ok (.aload_n 0, 1) := by decide +kernel
theorem dX12_rocks_54 : decode cX12_rocks 54 = .ok (.iload_n 1, 1) := by decide +kernel
theorem dX12_rocks_55 : decode cX12_rocks 55 = .ok (.iload 7, 2) := by decide +kernel
theorem dX12_rocks_57 : decode cX12_rocks 57 = .ok (.iload_n 2, 1) := by decide +kernel
theorem dX12_rocks_58 : decode cX12_rocks 58 = .ok (.invokevirtual 103, 3) := by decide +kernel
theorem dX12_rocks_61 : decode cX12_rocks 61 = .ok (.iload 6, 2) := by decide +kernel
theorem dX12_rocks_63 : decode cX12_rocks 63 = .ok (.aload_n 0, 1) := by decide +kernel
theorem dX12_rocks_64 : decode cX12_rocks 64 = .ok (.iload_n 3, 1) := by decide +kernel
theorem dX12_rocks_65 : decode cX12_rocks 65 = .ok (.iload 4, 2) := by decide +kernel
theorem dX12_rocks_67 : decode cX12_rocks 67 = .ok (.invokevirtual 173, 3) := by decide +kernel
theorem dX12_rocks_70 : decode cX12_rocks 70 = .ok (.iload 5, 2) := by decide +kernel
theorem dX12_rocks_72 : decode cX12_rocks 72 = .ok (.if_icmp .ne 10, 3) := by decide +kernel
theorem dX12_rocks_75 : decode cX12_rocks 75 = .ok (.iconst 1, 1) := by decide +kernel
theorem dX12_rocks_76 : decode cX12_rocks 76 = .ok (.iload 7, 2) := by decide +kernel
theorem dX12_rocks_78 : decode cX12_rocks 78 = .ok (.ishl, 1) := by decide +kernel
theorem dX12_rocks_79 : decode cX12_rocks 79 = .ok (.goto 4, 3) := by decide +kernel
theorem dX12_rocks_82 : decode cX12_rocks 82 = .ok (.iconst 0, 1) := by decide +kernel
theorem dX12_rocks_83 : decode cX12_rocks 83 = .ok (.ior, 1) := by decide +kernel
theorem dX12_rocks_84 : decode cX12_rocks 84 = .ok (.istore 6, 2) := by decide +kernel
theorem dX12_rocks_86 : decode cX12_rocks 86 = .ok (.iinc 7 1, 3) := by decide +kernel
theorem dX12_rocks_89 : decode cX12_rocks 89 = .ok (.goto (-43), 3) := by decide +kernel
theorem dX12_rocks_92 : decode cX12_rocks 92 = .ok (.aload_n 0, 1) := by decide +kernel
theorem dX12_rocks_93 : decode cX12_rocks 93 = .ok (.invokevirtual 195, 3) := by decide +kernel
theorem dX12_rocks_96 : decode cX12_rocks 96 = .ok (.iload 6, 2) := by decide +kernel
theorem dX12_rocks_98 : decode cX12_rocks 98 = .ok (.ireturn, 1) := by decide +kernel
theorem dX12_findsToils_0 : decode cX12_findsToils 0 = .ok (.iconst 0, 1) := by decide +kernel
theorem dX12_findsToils_1 : decode cX12_findsToils 1 = .ok (.istore_n 2, 1) := by decide +kernel
theorem dX12_findsToils_2 : decode cX12_findsToils 2 = .ok (.iload_n 2, 1) := by decide +kernel
theorem dX12_findsToils_3 : decode cX12_findsToils 3 = .ok (.bipush 20, 2) := by decide +kernel
theorem dX12_findsToils_5 : decode cX12_findsToils 5 = .ok (.if_icmp .ge 26, 3) := by decide +kernel
theorem dX12_findsToils_8 : decode cX12_findsToils 8 = .ok (.aload_n 0, 1) := by decide +kernel
theorem dX12_findsToils_9 : decode cX12_findsToils 9 = .ok (.getfield 55, 3) := by decide +kernel
theorem dX12_findsToils_12 : decode cX12_findsToils 12 = .ok (.iload_n 2, 1) := by decide +kernel
theorem dX12_findsToils_13 : decode cX12_findsToils 13 = .ok (.iload_n 2, 1) := by decide +kernel
theorem dX12_findsToils_14 : decode cX12_findsToils 14 = .ok (.iload_n 1, 1) := by decide +kernel
theorem dX12_findsToils_15 : decode cX12_findsToils 15 = .ok (.if_icmp .ne 7, 3) := by decide +kernel
theorem dX12_findsToils_18 : decode cX12_findsToils 18 = .ok (.iconst 0, 1) := by decide +kernel
theorem dX12_findsToils_19 : decode cX12_findsToils 19 = .ok (.goto 5, 3) := by decide +kernel
theorem dX12_findsToils_22 : decode cX12_findsToils 22 = .ok (.ldc 113, 2) := by decide +kernel
theorem dX12_findsToils_24 : decode cX12_findsToils 24 = .ok (.iastore, 1) := by decide +kernel
theorem dX12_findsToils_25 : decode cX12_findsToils 25 = .ok (.iinc 2 1, 3) := by decide +kernel
theorem dX12_findsToils_28 : decode cX12_findsToils 28 = .ok (.goto (-26), 3) := by decide +kernel
theorem dX12_findsToils_31 : decode cX12_findsToils 31 = .ok (.iconst 0, 1) := by decide +kernel
theorem dX12_findsToils_32 : decode cX12_findsToils 32 = .ok (.istore_n 2, 1) := by decide +kernel
theorem dX12_findsToils_33 : decode cX12_findsToils 33 = .ok (.iload_n 2, 1) := by decide +kernel
theorem dX12_findsToils_34 : decode cX12_findsToils 34 = .ok (.bipush 20, 2) := by decide +kernel
theorem dX12_findsToils_36 : decode cX12_findsToils 36 = .ok (.if_icmp .ge 94, 3) := by decide +kernel
theorem dX12_findsToils_39 : decode cX12_findsToils 39 = .ok (.iconst 0, 1) := by decide +kernel
theorem dX12_findsToils_40 : decode cX12_findsToils 40 = .ok (.istore_n 3, 1) := by decide +kernel
theorem dX12_findsToils_41 : decode cX12_findsToils 41 = .ok (.iload_n 3, 1) := by decide +kernel
theorem dX12_findsToils_42 : decode cX12_findsToils 42 = .ok (.bipush 20, 2) := by decide +kernel
theorem dX12_findsToils_44 : decode cX12_findsToils 44 = .ok (.if_icmp .ge 80, 3) := by decide +kernel
theorem dX12_findsToils_47 : decode cX12_findsToils 47 = .ok (.iconst 0, 1) := by decide +kernel
theorem dX12_findsToils_48 : decode cX12_findsToils 48 = .ok (.istore 4, 2) := by decide +kernel
theorem dX12_findsToils_50 : decode cX12_findsToils 50 = .ok (.iload 4, 2) := by decide +kernel
theorem dX12_findsToils_52 : decode cX12_findsToils 52 = .ok (.iconst 4, 1) := by decide +kernel
theorem dX12_findsToils_53 : decode cX12_findsToils 53 = .ok (.if_icmp .ge 65, 3) := by decide +kernel
theorem dX12_findsToils_56 : decode cX12_findsToils 56 = .ok (.iload_n 3, 1) := by decide +kernel
theorem dX12_findsToils_57 : decode cX12_findsToils 57 = .ok (.iload 4, 2) := by decide +kernel
theorem dX12_findsToils_59 : decode cX12_findsToils 59 = .ok (.invokestatic 97, 3) := by decide +kernel
theorem dX12_findsToils_62 : decode cX12_findsToils 62 = .ok (.istore 5, 2) := by decide +kernel
theorem dX12_findsToils_64 : decode cX12_findsToils 64 = .ok (.iload 5, 2) := by decide +kernel
theorem dX12_findsToils_66 : decode cX12_findsToils 66 = .ok (.ifCond .lt 46, 3) := by decide +kernel
theorem dX12_findsToils_69 : decode cX12_findsToils 69 = .ok (.aload_n 0, 1) := by decide +kernel
theorem dX12_findsToils_70 : decode cX12_findsToils 70 = .ok (.getfield 55, 3) := by decide +kernel
theorem dX12_findsToils_73 : decode cX12_findsToils 73 = .ok (.iload_n 3, 1) := by decide +kernel
theorem dX12_findsToils_74 : decode cX12_findsToils 74 = .ok (.iaload, 1) := by decide +kernel
theorem dX12_findsToils_75 : decode cX12_findsToils 75 = .ok (.aload_n 0, 1) := by decide +kernel
theorem dX12_findsToils_76 : decode cX12_findsToils 76 = .ok (.iload 5, 2) := by decide +kernel
theorem dX12_findsToils_78 : decode cX12_findsToils 78 = .ok (.invokevirtual 100, 3) := by decide +kernel
theorem dX12_findsToils_81 : decode cX12_findsToils 81 = .ok (.iadd, 1) := by decide +kernel
theorem dX12_findsToils_82 : decode cX12_findsToils 82 = .ok (.aload_n 0, 1) := by decide +kernel
theorem dX12_findsToils_83 : decode cX12_findsToils 83 = .ok (.getfield 55, 3) := by decide +kernel
theorem dX12_findsToils_86 : decode cX12_findsToils 86 = .ok (.iload 5, 2) := by decide +kernel
theorem dX12_findsToils_88 : decode cX12_findsToils 88 = .ok (.iaload, 1) := by decide +kernel
theorem dX12_findsToils_89 : decode cX12_findsToils 89 = .ok (.if_icmp .ge 23, 3) := by decide +kernel
theorem dX12_findsToils_92 : decode cX12_findsToils 92 = .ok (.aload_n 0, 1) := by decide +kernel
theorem dX12_findsToils_93 : decode cX12_findsToils 93 = .ok (.getfield 55, 3) := by decide +kernel
theorem dX12_findsToils_96 : decode cX12_findsToils 96 = .ok (.iload 5, 2) := by decide +kernel
theorem dX12_findsToils_98 : decode cX12_findsToils 98 = .ok (.aload_n 0, 1) := by decide +kernel
theorem dX12_findsToils_99 : decode cX12_findsToils 99 = .ok (.getfield 55, 3) := by decide +kernel
theorem dX12_findsToils_102 : decode cX12_findsToils 102 = .ok (.iload_n 3, 1) := by decide +kernel
theorem dX12_findsToils_103 : decode cX12_findsToils 103 = .ok (.iaload, 1) := by decide +kernel
theorem dX12_findsToils_104 : decode cX12_findsToils 104 = .ok (.aload_n 0, 1) := by decide +kernel
theorem dX12_findsToils_105 : decode cX12_findsToils 105 = .ok (.iload 5, 2) := by decide +kernel
theorem dX12_findsToils_107 : decode cX12_findsToils 107 = .ok (.invokevirtual 100, 3) := by decide +kernel
theorem dX12_findsToils_110 : decode cX12_findsToils 110 = .ok (.iadd, 1) := by decide +kernel
theorem dX12_findsToils_111 : decode cX12_findsToils 111 = .ok (.iastore, 1) := by decide +kernel
theorem dX12_findsToils_112 : decode cX12_findsToils 112 = .ok (.iinc 4 1, 3) := by decide +kernel
theorem dX12_findsToils_115 : decode cX12_findsToils 115 = .ok (.goto (-65), 3) := by decide +kernel
theorem dX12_findsToils_118 : decode cX12_findsToils 118 = .ok (.iinc 3 1, 3) := by decide +kernel
theorem dX12_findsToils_121 : decode cX12_findsToils 121 = .ok (.goto (-80), 3) := by decide +kernel
theorem dX12_findsToils_124 : decode cX12_findsToils 124 = .ok (.iinc 2 1, 3) := by decide +kernel
theorem dX12_findsToils_127 : decode cX12_findsToils 127 = .ok (.goto (-94), 3) := by decide +kernel
theorem dX12_findsToils_130 : decode cX12_findsToils 130 = .ok (.return_, 1) := by decide +kernel
theorem dX12_toils_0 : decode cX12_toils 0 = .ok (.aload_n 0, 1) := by decide +kernel
theorem dX12_toils_1 : decode cX12_toils 1 = .ok (.iconst 0, 1) := by decide +kernel
theorem dX12_toils_2 : decode cX12_toils 2 = .ok (.invokevirtual 94, 3) := by decide +kernel
theorem dX12_toils_5 : decode cX12_toils 5 = .ok (.istore_n 1, 1) := by decide +kernel
theorem dX12_toils_6 : decode cX12_toils 6 = .ok (.aload_n 0, 1) := by decide +kernel
theorem dX12_toils_7 : decode cX12_toils 7 = .ok (.iconst 1, 1) := by decide +kernel
theorem dX12_toils_8 : decode cX12_toils 8 = .ok (.invokevirtual 94, 3) := by decide +kernel
theorem dX12_toils_11 : decode cX12_toils 11 = .ok (.istore_n 2, 1) := by decide +kernel
theorem dX12_toils_12 : decode cX12_toils 12 = .ok (.iload_n 1, 1) := by decide +kernel
theorem dX12_toils_13 : decode cX12_toils 13 = .ok (.iload_n 2, 1) := by decide +kernel
theorem dX12_toils_14 : decode cX12_toils 14 = .ok (.if_icmp .ne 5, 3) := by decide +kernel
theorem dX12_toils_17 : decode cX12_toils 17 = .ok (.iconst 0, 1) := by decide +kernel
theorem dX12_toils_18 : decode cX12_toils 18 = .ok (.ireturn, 1) := by decide +kernel
theorem dX12_toils_19 : decode cX12_toils 19 = .ok (.aload_n 0, 1) := by decide +kernel
theorem dX12_toils_20 : decode cX12_toils 20 = .ok (.iload_n 1, 1) := by decide +kernel
theorem dX12_toils_21 : decode cX12_toils 21 = .ok (.invokevirtual 198, 3) := by decide +kernel
theorem dX12_toils_24 : decode cX12_toils 24 = .ok (.aload_n 0, 1) := by decide +kernel
theorem dX12_toils_25 : decode cX12_toils 25 = .ok (.getfield 55, 3) := by decide +kernel
theorem dX12_toils_28 : decode cX12_toils 28 = .ok (.iload_n 2, 1) := by decide +kernel
theorem dX12_toils_29 : decode cX12_toils 29 = .ok (.iaload, 1) := by decide +kernel
theorem dX12_toils_30 : decode cX12_toils 30 = .ok (.aload_n 0, 1) := by decide +kernel
theorem dX12_toils_31 : decode cX12_toils 31 = .ok (.iload_n 2, 1) := by decide +kernel
theorem dX12_toils_32 : decode cX12_toils 32 = .ok (.invokevirtual 100, 3) := by decide +kernel
theorem dX12_toils_35 : decode cX12_toils 35 = .ok (.isub, 1) := by decide +kernel
theorem dX12_toils_36 : decode cX12_toils 36 = .ok (.ireturn, 1) := by decide +kernel
theorem dX12_soonNow_0 : decode cX12_soonNow 0 = .ok (.aload_n 0, 1) := by decide +kernel
theorem dX12_soonNow_1 : decode cX12_soonNow 1 = .ok (.invokevirtual 170, 3) := by decide +kernel
theorem dX12_soonNow_4 : decode cX12_soonNow 4 = .ok (.ifCond .eq 5, 3) := by decide +kernel
theorem dX12_soonNow_7 : decode cX12_soonNow 7 = .ok (.iconst 0, 1) := by decide +kernel
theorem dX12_soonNow_8 : decode cX12_soonNow 8 = .ok (.ireturn, 1) := by decide +kernel
theorem dX12_soonNow_9 : decode cX12_soonNow 9 = .ok (.aload_n 0, 1) := by decide +kernel
theorem dX12_soonNow_10 : decode cX12_soonNow 10 = .ok (.aload_n 0, 1) := by decide +kernel
theorem dX12_soonNow_11 : decode cX12_soonNow 11 = .ok (.iconst 1, 1) := by decide +kernel
theorem dX12_soonNow_12 : decode cX12_soonNow 12 = .ok (.invokevirtual 94, 3) := by decide +kernel
theorem dX12_soonNow_15 : decode cX12_soonNow 15 = .ok (.invokevirtual 198, 3) := by decide +kernel
theorem dX12_soonNow_18 : decode cX12_soonNow 18 = .ok (.iconst 0, 1) := by decide +kernel
theorem dX12_soonNow_19 : decode cX12_soonNow 19 = .ok (.istore_n 1, 1) := by decide +kernel
theorem dX12_soonNow_20 : decode cX12_soonNow 20 = .ok (.iload_n 1, 1) := by decide +kernel
theorem dX12_soonNow_21 : decode cX12_soonNow 21 = .ok (.bipush 20, 2) := by decide +kernel
theorem dX12_soonNow_23 : decode cX12_soonNow 23 = .ok (.if_icmp .ge 21, 3) := by decide +kernel
theorem dX12_soonNow_26 : decode cX12_soonNow 26 = .ok (.aload_n 0, 1) := by decide +kernel
theorem dX12_soonNow_27 : decode cX12_soonNow 27 = .ok (.getfield 58, 3) := by decide +kernel
theorem dX12_soonNow_30 : decode cX12_soonNow 30 = .ok (.iload_n 1, 1) := by decide +kernel
theorem dX12_soonNow_31 : decode cX12_soonNow 31 = .ok (.aload_n 0, 1) := by decide +kernel
theorem dX12_soonNow_32 : decode cX12_soonNow 32 = .ok (.getfield 55, 3) := by decide +kernel
theorem dX12_soonNow_35 : decode cX12_soonNow 35 = .ok (.iload_n 1, 1) := by decide +kernel
theorem dX12_soonNow_36 : decode cX12_soonNow 36 = .ok (.iaload, 1) := by decide +kernel
theorem dX12_soonNow_37 : decode cX12_soonNow 37 = .ok (.iastore, 1) := by decide +kernel
theorem dX12_soonNow_38 : decode cX12_soonNow 38 = .ok (.iinc 1 1, 3) := by decide +kernel
theorem dX12_soonNow_41 : decode cX12_soonNow 41 = .ok (.goto (-21), 3) := by decide +kernel
theorem dX12_soonNow_44 : decode cX12_soonNow 44 = .ok (.aload_n 0, 1) := by decide +kernel
theorem dX12_soonNow_45 : decode cX12_soonNow 45 = .ok (.aload_n 0, 1) := by decide +kernel
theorem dX12_soonNow_46 : decode cX12_soonNow 46 = .ok (.iconst 0, 1) := by decide +kernel
theorem dX12_soonNow_47 : decode cX12_soonNow 47 = .ok (.invokevirtual 94, 3) := by decide +kernel
theorem dX12_soonNow_50 : decode cX12_soonNow 50 = .ok (.invokevirtual 198, 3) := by decide +kernel
theorem dX12_soonNow_53 : decode cX12_soonNow 53 = .ok (.ldc 113, 2) := by decide +kernel
theorem dX12_soonNow_55 : decode cX12_soonNow 55 = .ok (.istore_n 1, 1) := by decide +kernel
theorem dX12_soonNow_56 : decode cX12_soonNow 56 = .ok (.iconst 0, 1) := by decide +kernel
theorem dX12_soonNow_57 : decode cX12_soonNow 57 = .ok (.istore_n 2, 1) := by decide +kernel
theorem dX12_soonNow_58 : decode cX12_soonNow 58 = .ok (.iload_n 2, 1) := by decide +kernel
theorem dX12_soonNow_59 : decode cX12_soonNow 59 = .ok (.bipush 20, 2) := by decide +kernel
theorem dX12_soonNow_61 : decode cX12_soonNow 61 = .ok (.if_icmp .ge 84, 3) := by decide +kernel
theorem dX12_soonNow_64 : decode cX12_soonNow 64 = .ok (.iconst 0, 1) := by decide +kernel
theorem dX12_soonNow_65 : decode cX12_soonNow 65 = .ok (.istore_n 3, 1) := by decide +kernel
theorem dX12_soonNow_66 : decode cX12_soonNow 66 = .ok (.iload_n 3, 1) := by decide +kernel
theorem dX12_soonNow_67 : decode cX12_soonNow 67 = .ok (.iconst 4, 1) := by decide +kernel
theorem dX12_soonNow_68 : decode cX12_soonNow 68 = .ok (.if_icmp .ge 71, 3) := by decide +kernel
theorem dX12_soonNow_71 : decode cX12_soonNow 71 = .ok (.iload_n 2, 1) := by decide +kernel
theorem dX12_soonNow_72 : decode cX12_soonNow 72 = .ok (.iload_n 3, 1) := by decide +kernel
theorem dX12_soonNow_73 : decode cX12_soonNow 73 = .ok (.invokestatic 97, 3) := by decide +kernel
theorem dX12_soonNow_76 : decode cX12_soonNow 76 = .ok (.istore 4, 2) := by decide +kernel
theorem dX12_soonNow_78 : decode cX12_soonNow 78 = .ok (.iload 4, 2) := by decide +kernel
theorem dX12_soonNow_80 : decode cX12_soonNow 80 = .ok (.ifCond .ge 6, 3) := by decide +kernel
theorem dX12_soonNow_83 : decode cX12_soonNow 83 = .ok (.goto 50, 3) := by decide +kernel
theorem dX12_soonNow_86 : decode cX12_soonNow 86 = .ok (.aload_n 0, 1) := by decide +kernel
theorem dX12_soonNow_87 : decode cX12_soonNow 87 = .ok (.getfield 55, 3) := by decide +kernel
theorem dX12_soonNow_90 : decode cX12_soonNow 90 = .ok (.iload_n 2, 1) := by decide +kernel
theorem dX12_soonNow_91 : decode cX12_soonNow 91 = .ok (.iaload, 1) := by decide +kernel
theorem dX12_soonNow_92 : decode cX12_soonNow 92 = .ok (.aload_n 0, 1) := by decide +kernel
theorem dX12_soonNow_93 : decode cX12_soonNow 93 = .ok (.getfield 58, 3) := by decide +kernel
theorem dX12_soonNow_96 : decode cX12_soonNow 96 = .ok (.iload 4, 2) := by decide +kernel
theorem dX12_soonNow_98 : decode cX12_soonNow 98 = .ok (.iaload, 1) := by decide +kernel
theorem dX12_soonNow_99 : decode cX12_soonNow 99 = .ok (.if_icmp .le 12, 3) := by decide +kernel
theorem dX12_soonNow_102 : decode cX12_soonNow 102 = .ok (.aload_n 0, 1) := by decide +kernel
theorem dX12_soonNow_103 : decode cX12_soonNow 103 = .ok (.getfield 55, 3) := by decide +kernel
theorem dX12_soonNow_106 : decode cX12_soonNow 106 = .ok (.iload_n 2, 1) := by decide +kernel
theorem dX12_soonNow_107 : decode cX12_soonNow 107 = .ok (.iaload, 1) := by decide +kernel
theorem dX12_soonNow_108 : decode cX12_soonNow 108 = .ok (.goto 10, 3) := by decide +kernel
theorem dX12_soonNow_111 : decode cX12_soonNow 111 = .ok (.aload_n 0, 1) := by decide +kernel
theorem dX12_soonNow_112 : decode cX12_soonNow 112 = .ok (.getfield 58, 3) := by decide +kernel
theorem dX12_soonNow_115 : decode cX12_soonNow 115 = .ok (.iload 4, 2) := by decide +kernel
theorem dX12_soonNow_117 : decode cX12_soonNow 117 = .ok (.iaload, 1) := by decide +kernel
theorem dX12_soonNow_118 : decode cX12_soonNow 118 = .ok (.istore 5, 2) := by decide +kernel
theorem dX12_soonNow_120 : decode cX12_soonNow 120 = .ok (.iload 5, 2) := by decide +kernel
theorem dX12_soonNow_122 : decode cX12_soonNow 122 = .ok (.iload_n 1, 1) := by decide +kernel
theorem dX12_soonNow_123 : decode cX12_soonNow 123 = .ok (.if_icmp .ge 8, 3) := by decide +kernel
theorem dX12_soonNow_126 : decode cX12_soonNow 126 = .ok (.iload 5, 2) := by decide +kernel
theorem dX12_soonNow_128 : decode cX12_soonNow 128 = .ok (.goto 4, 3) := by decide +kernel
theorem dX12_soonNow_131 : decode cX12_soonNow 131 = .ok (.iload_n 1, 1) := by decide +kernel
theorem dX12_soonNow_132 : decode cX12_soonNow 132 = .ok (.istore_n 1, 1) := by decide +kernel
theorem dX12_soonNow_133 : decode cX12_soonNow 133 = .ok (.iinc 3 1, 3) := by decide +kernel
theorem dX12_soonNow_136 : decode cX12_soonNow 136 = .ok (.goto (-70), 3) := by decide +kernel
theorem dX12_soonNow_139 : decode cX12_soonNow 139 = .ok (.iinc 2 1, 3) := by decide +kernel
theorem dX12_soonNow_142 : decode cX12_soonNow 142 = .ok (.goto (-84), 3) := by decide +kernel
theorem dX12_soonNow_145 : decode cX12_soonNow 145 = .ok (.iload_n 1, 1) := by decide +kernel
theorem dX12_soonNow_146 : decode cX12_soonNow 146 = .ok (.ireturn, 1) := by decide +kernel
theorem dX12_soon_0 : decode cX12_soon 0 = .ok (.aload_n 0, 1) := by decide +kernel
theorem dX12_soon_1 : decode cX12_soon 1 = .ok (.invokevirtual 201, 3) := by decide +kernel
theorem dX12_soon_4 : decode cX12_soon 4 = .ok (.ireturn, 1) := by decide +kernel
theorem dX12_side_0 : decode cX12_side 0 = .ok (.iload_n 1, 1) := by decide +kernel
theorem dX12_side_1 : decode cX12_side 1 = .ok (.invokestatic 146, 3) := by decide +kernel
theorem dX12_side_4 : decode cX12_side 4 = .ok (.ifCond .eq 13, 3) := by decide +kernel
theorem dX12_side_7 : decode cX12_side 7 = .ok (.iload_n 2, 1) := by decide +kernel
theorem dX12_side_8 : decode cX12_side 8 = .ok (.i2l, 1) := by decide +kernel
theorem dX12_side_9 : decode cX12_side 9 = .ok (.lconst 0, 1) := by decide +kernel
theorem dX12_side_10 : decode cX12_side 10 = .ok (.lconst 1, 1) := by decide +kernel
theorem dX12_side_11 : decode cX12_side 11 = .ok (.invokestatic 67, 3) := by decide +kernel
theorem dX12_side_14 : decode cX12_side 14 = .ok (.ifCond .ne 5, 3) := by decide +kernel
theorem dX12_side_17 : decode cX12_side 17 = .ok (.iconst (-1), 1) := by decide +kernel
theorem dX12_side_18 : decode cX12_side 18 = .ok (.ireturn, 1) := by decide +kernel
theorem dX12_side_19 : decode cX12_side 19 = .ok (.aload_n 0, 1) := by decide +kernel
theorem dX12_side_20 : decode cX12_side 20 = .ok (.invokevirtual 192, 3) := by decide +kernel
theorem dX12_side_23 : decode cX12_side 23 = .ok (.bipush (-4), 2) := by decide +kernel
theorem dX12_side_25 : decode cX12_side 25 = .ok (.istore_n 3, 1) := by decide +kernel
theorem dX12_side_26 : decode cX12_side 26 = .ok (.bipush (-4), 2) := by decide +kernel
theorem dX12_side_28 : decode cX12_side 28 = .ok (.istore 4, 2) := by decide +kernel
theorem dX12_side_30 : decode cX12_side 30 = .ok (.iconst 0, 1) := by decide +kernel
theorem dX12_side_31 : decode cX12_side 31 = .ok (.istore 5, 2) := by decide +kernel
theorem dX12_side_33 : decode cX12_side 33 = .ok (.iload 5, 2) := by decide +kernel
theorem dX12_side_35 : decode cX12_side 35 = .ok (.iconst 4, 1) := by decide +kernel
theorem dX12_side_36 : decode cX12_side 36 = .ok (.if_icmp .ge 53, 3) := by decide +kernel
theorem dX12_side_39 : decode cX12_side 39 = .ok (.aload_n 0, 1) := by decide +kernel
theorem dX12_side_40 : decode cX12_side 40 = .ok (.iload_n 1, 1) := by decide +kernel
theorem dX12_side_41 : decode cX12_side 41 = .ok (.iload 5, 2) := by decide +kernel
theorem dX12_side_43 : decode cX12_side 43 = .ok (.invokevirtual 149, 3) := by decide +kernel
theorem dX12_side_46 : decode cX12_side 46 = .ok (.ifCond .ne 6, 3) := by decide +kernel
theorem dX12_side_49 : decode cX12_side 49 = .ok (.goto 34, 3) := by decide +kernel
theorem dX12_side_52 : decode cX12_side 52 = .ok (.aload_n 0, 1) := by decide +kernel
theorem dX12_side_53 : decode cX12_side 53 = .ok (.invokevirtual 201, 3) := by decide +kernel
theorem dX12_side_56 : decode cX12_side 56 = .ok (.istore 6, 2) := by decide +kernel
theorem dX12_side_58 : decode cX12_side 58 = .ok (.aload_n 0, 1) := by decide +kernel
theorem dX12_side_59 : decode cX12_side 59 = .ok (.invokevirtual 195, 3) := by decide +kernel
theorem dX12_side_62 : decode cX12_side 62 = .ok (.iload_n 3, 1) := by decide +kernel
theorem dX12_side_63 : decode cX12_side 63 = .ok (.ifCond .lt 13, 3) := by decide +kernel
theorem dX12_side_66 : decode cX12_side 66 = .ok (.iload 6, 2) := by decide +kernel
theorem dX12_side_68 : decode cX12_side 68 = .ok (.iload 4, 2) := by decide +kernel
theorem dX12_side_70 : decode cX12_side 70 = .ok (.if_icmp .lt 6, 3) := by decide +kernel
theorem dX12_side_73 : decode cX12_side 73 = .ok (.goto 10, 3) := by decide +kernel
theorem dX12_side_76 : decode cX12_side 76 = .ok (.iload 5, 2) := by decide +kernel
theorem dX12_side_78 : decode cX12_side 78 = .ok (.istore_n 3, 1) := by decide +kernel
theorem dX12_side_79 : decode cX12_side 79 = .ok (.iload 6, 2) := by decide +kernel
theorem dX12_side_81 : decode cX12_side 81 = .ok (.istore 4, 2) := by decide +kernel
theorem dX12_side_83 : decode cX12_side 83 = .ok (.iinc 5 1, 3) := by decide +kernel
theorem dX12_side_86 : decode cX12_side 86 = .ok (.goto (-53), 3) := by decide +kernel
theorem dX12_side_89 : decode cX12_side 89 = .ok (.iload_n 2, 1) := by decide +kernel
theorem dX12_side_90 : decode cX12_side 90 = .ok (.ifCond .ne 7, 3) := by decide +kernel
theorem dX12_side_93 : decode cX12_side 93 = .ok (.iload_n 3, 1) := by decide +kernel
theorem dX12_side_94 : decode cX12_side 94 = .ok (.goto 5, 3) := by decide +kernel
theorem dX12_side_97 : decode cX12_side 97 = .ok (.iload 4, 2) := by decide +kernel
theorem dX12_side_99 : decode cX12_side 99 = .ok (.ireturn, 1) := by decide +kernel
theorem dX12_bits_0 : decode cX12_bits 0 = .ok (.iconst 0, 1) := by decide +kernel
theorem dX12_bits_1 : decode cX12_bits 1 = .ok (.istore_n 1, 1) := by decide +kernel
theorem dX12_bits_2 : decode cX12_bits 2 = .ok (.iload_n 0, 1) := by decide +kernel
theorem dX12_bits_3 : decode cX12_bits 3 = .ok (.istore_n 2, 1) := by decide +kernel
theorem dX12_bits_4 : decode cX12_bits 4 = .ok (.iload_n 2, 1) := by decide +kernel
theorem dX12_bits_5 : decode cX12_bits 5 = .ok (.ifCond .le 16, 3) := by decide +kernel
theorem dX12_bits_8 : decode cX12_bits 8 = .ok (.iload_n 1, 1) := by decide +kernel
theorem dX12_bits_9 : decode cX12_bits 9 = .ok (.iload_n 2, 1) := by decide +kernel
theorem dX12_bits_10 : decode cX12_bits 10 = .ok (.iconst 1, 1) := by decide +kernel
theorem dX12_bits_11 : decode cX12_bits 11 = .ok (.iand, 1) := by decide +kernel
theorem dX12_bits_12 : decode cX12_bits 12 = .ok (.iadd, 1) := by decide +kernel
theorem dX12_bits_13 : decode cX12_bits 13 = .ok (.istore_n 1, 1) := by decide +kernel
theorem dX12_bits_14 : decode cX12_bits 14 = .ok (.iload_n 2, 1) := by decide +kernel
theorem dX12_bits_15 : decode cX12_bits 15 = .ok (.iconst 1, 1) := by decide +kernel
theorem dX12_bits_16 : decode cX12_bits 16 = .ok (.ishr, 1) := by decide +kernel
theorem dX12_bits_17 : decode cX12_bits 17 = .ok (.istore_n 2, 1) := by decide +kernel
theorem dX12_bits_18 : decode cX12_bits 18 = .ok (.goto (-14), 3) := by decide +kernel
theorem dX12_bits_21 : decode cX12_bits 21 = .ok (.iload_n 1, 1) := by decide +kernel
theorem dX12_bits_22 : decode cX12_bits 22 = .ok (.ireturn, 1) := by decide +kernel
theorem dX12_areTaken_0 : decode cX12_areTaken 0 = .ok (.iload_n 0, 1) := by decide +kernel
theorem dX12_areTaken_1 : decode cX12_areTaken 1 = .ok (.iload_n 1, 1) := by decide +kernel
theorem dX12_areTaken_2 : decode cX12_areTaken 2 = .ok (.iconst (-1), 1) := by decide +kernel
theorem dX12_areTaken_3 : decode cX12_areTaken 3 = .ok (.ixor, 1) := by decide +kernel
theorem dX12_areTaken_4 : decode cX12_areTaken 4 = .ok (.iand, 1) := by decide +kernel
theorem dX12_areTaken_5 : decode cX12_areTaken 5 = .ok (.invokestatic 204, 3) := by decide +kernel
theorem dX12_areTaken_8 : decode cX12_areTaken 8 = .ok (.iload_n 2, 1) := by decide +kernel
theorem dX12_areTaken_9 : decode cX12_areTaken 9 = .ok (.if_icmp .gt 19, 3) := by decide +kernel
theorem dX12_areTaken_12 : decode cX12_areTaken 12 = .ok (.iload_n 1, 1) := by decide +kernel
theorem dX12_areTaken_13 : decode cX12_areTaken 13 = .ok (.iload_n 0, 1) := by decide +kernel
theorem dX12_areTaken_14 : decode cX12_areTaken 14 = .ok (.iconst (-1), 1) := by decide +kernel
theorem dX12_areTaken_15 : decode cX12_areTaken 15 = .ok (.ixor, 1) := by decide +kernel
theorem dX12_areTaken_16 : decode cX12_areTaken 16 = .ok (.iand, 1) := by decide +kernel
theorem dX12_areTaken_17 : decode cX12_areTaken 17 = .ok (.invokestatic 204, 3) := by decide +kernel
theorem dX12_areTaken_20 : decode cX12_areTaken 20 = .ok (.iload_n 2, 1) := by decide +kernel
theorem dX12_areTaken_21 : decode cX12_areTaken 21 = .ok (.if_icmp .gt 7, 3) := by decide +kernel
theorem dX12_areTaken_24 : decode cX12_areTaken 24 = .ok (.iconst 1, 1) := by decide +kernel
theorem dX12_areTaken_25 : decode cX12_areTaken 25 = .ok (.goto 4, 3) := by decide +kernel
theorem dX12_areTaken_28 : decode cX12_areTaken 28 = .ok (.iconst 0, 1) := by decide +kernel
theorem dX12_areTaken_29 : decode cX12_areTaken 29 = .ok (.ireturn, 1) := by decide +kernel
theorem dX12_taken_0 : decode cX12_taken 0 = .ok (.iload_n 1, 1) := by decide +kernel
theorem dX12_taken_1 : decode cX12_taken 1 = .ok (.i2l, 1) := by decide +kernel
theorem dX12_taken_2 : decode cX12_taken 2 = .ok (.lconst 0, 1) := by decide +kernel
theorem dX12_taken_3 : decode cX12_taken 3 = .ok (.ldc2_w 207, 3) := by decide +kernel
theorem dX12_taken_6 : decode cX12_taken 6 = .ok (.invokestatic 67, 3) := by decide +kernel
theorem dX12_taken_9 : decode cX12_taken 9 = .ok (.ifCond .eq 27, 3) := by decide +kernel
theorem dX12_taken_12 : decode cX12_taken 12 = .ok (.iload_n 2, 1) := by decide +kernel
theorem dX12_taken_13 : decode cX12_taken 13 = .ok (.i2l, 1) := by decide +kernel
theorem dX12_taken_14 : decode cX12_taken 14 = .ok (.lconst 0, 1) := by decide +kernel
theorem dX12_taken_15 : decode cX12_taken 15 = .ok (.ldc2_w 207, 3) := by decide +kernel
theorem dX12_taken_18 : decode cX12_taken 18 = .ok (.invokestatic 67, 3) := by decide +kernel
theorem dX12_taken_21 : decode cX12_taken 21 = .ok (.ifCond .eq 15, 3) := by decide +kernel
theorem dX12_taken_24 : decode cX12_taken 24 = .ok (.iload_n 3, 1) := by decide +kernel
theorem dX12_taken_25 : decode cX12_taken 25 = .ok (.i2l, 1) := by decide +kernel
theorem dX12_taken_26 : decode cX12_taken 26 = .ok (.lconst 0, 1) := by decide +kernel
theorem dX12_taken_27 : decode cX12_taken 27 = .ok (.ldc2_w 209, 3) := by decide +kernel
theorem dX12_taken_30 : decode cX12_taken 30 = .ok (.invokestatic 67, 3) := by decide +kernel
theorem dX12_taken_33 : decode cX12_taken 33 = .ok (.ifCond .ne 7, 3) := by decide +kernel
theorem dX12_taken_36 : decode cX12_taken 36 = .ok (.iconst (-1), 1) := by decide +kernel
theorem dX12_taken_37 : decode cX12_taken 37 = .ok (.goto 17, 3) := by decide +kernel
theorem dX12_taken_40 : decode cX12_taken 40 = .ok (.iload_n 1, 1) := by decide +kernel
theorem dX12_taken_41 : decode cX12_taken 41 = .ok (.iload_n 2, 1) := by decide +kernel
theorem dX12_taken_42 : decode cX12_taken 42 = .ok (.iload_n 3, 1) := by decide +kernel
theorem dX12_taken_43 : decode cX12_taken 43 = .ok (.invokestatic 211, 3) := by decide +kernel
theorem dX12_taken_46 : decode cX12_taken 46 = .ok (.ifCond .eq 7, 3) := by decide +kernel
theorem dX12_taken_49 : decode cX12_taken 49 = .ok (.iconst 1, 1) := by decide +kernel
theorem dX12_taken_50 : decode cX12_taken 50 = .ok (.goto 4, 3) := by decide +kernel
theorem dX12_taken_53 : decode cX12_taken 53 = .ok (.iconst 0, 1) := by decide +kernel
theorem dX12_taken_54 : decode cX12_taken 54 = .ok (.ireturn, 1) := by decide +kernel
theorem dX12_isSafe_0 : decode cX12_isSafe 0 = .ok (.iconst 0, 1) := by decide +kernel
theorem dX12_isSafe_1 : decode cX12_isSafe 1 = .ok (.istore 4, 2) := by decide +kernel
theorem dX12_isSafe_3 : decode cX12_isSafe 3 = .ok (.iload 4, 2) := by decide +kernel
theorem dX12_isSafe_5 : decode cX12_isSafe 5 = .ok (.aload_n 0, 1) := by decide +kernel
theorem dX12_isSafe_6 : decode cX12_isSafe 6 = .ok (.getfield 28, 3) := by decide +kernel
theorem dX12_isSafe_9 : decode cX12_isSafe 9 = .ok (.iload_n 1, 1) := by decide +kernel
theorem dX12_isSafe_10 : decode cX12_isSafe 10 = .ok (.iaload, 1) := by decide +kernel
theorem dX12_isSafe_11 : decode cX12_isSafe 11 = .ok (.if_icmp .ge 76, 3) := by decide +kernel
theorem dX12_isSafe_14 : decode cX12_isSafe 14 = .ok (.iconst 0, 1) := by decide +kernel
theorem dX12_isSafe_15 : decode cX12_isSafe 15 = .ok (.istore 5, 2) := by decide +kernel
theorem dX12_isSafe_17 : decode cX12_isSafe 17 = .ok (.iload 5, 2) := by decide +kernel
theorem dX12_isSafe_19 : decode cX12_isSafe 19 = .ok (.iload 4, 2) := by decide +kernel
theorem dX12_isSafe_21 : decode cX12_isSafe 21 = .ok (.if_icmp .ge 60, 3) := by decide +kernel
theorem dX12_isSafe_24 : decode cX12_isSafe 24 = .ok (.iload_n 3, 1) := by decide +kernel
theorem dX12_isSafe_25 : decode cX12_isSafe 25 = .ok (.iload 4, 2) := by decide +kernel
theorem dX12_isSafe_27 : decode cX12_isSafe 27 = .ok (.ishr, 1) := by decide +kernel
theorem dX12_isSafe_28 : decode cX12_isSafe 28 = .ok (.iconst 1, 1) := by decide +kernel
theorem dX12_isSafe_29 : decode cX12_isSafe 29 = .ok (.iand, 1) := by decide +kernel
theorem dX12_isSafe_30 : decode cX12_isSafe 30 = .ok (.iconst 1, 1) := by decide +kernel
theorem dX12_isSafe_31 : decode cX12_isSafe 31 = .ok (.if_icmp .ne 44, 3) := by decide +kernel
theorem dX12_isSafe_34 : decode cX12_isSafe 34 = .ok (.iload_n 3, 1) := by decide +kernel
theorem dX12_isSafe_35 : decode cX12_isSafe 35 = .ok (.iload 5, 2) := by decide +kernel
theorem dX12_isSafe_37 : decode cX12_isSafe 37 = .ok (.ishr, 1) := by decide +kernel
theorem dX12_isSafe_38 : decode cX12_isSafe 38 = .ok (.iconst 1, 1) := by decide +kernel
theorem dX12_isSafe_39 : decode cX12_isSafe 39 = .ok (.iand, 1) := by decide +kernel
theorem dX12_isSafe_40 : decode cX12_isSafe 40 = .ok (.iconst 1, 1) := by decide +kernel
theorem dX12_isSafe_41 : decode cX12_isSafe 41 = .ok (.if_icmp .ne 34, 3) := by decide +kernel
theorem dX12_isSafe_44 : decode cX12_isSafe 44 = .ok (.aload_n 0, 1) := by decide +kernel
theorem dX12_isSafe_45 : decode cX12_isSafe 45 = .ok (.iload_n 1, 1) := by decide +kernel
theorem dX12_isSafe_46 : decode cX12_isSafe 46 = .ok (.iload 4, 2) := by decide +kernel
theorem dX12_isSafe_48 : decode cX12_isSafe 48 = .ok (.invokevirtual 181, 3) := by decide +kernel
theorem dX12_isSafe_51 : decode cX12_isSafe 51 = .ok (.sipush 255, 3) := by decide +kernel
theorem dX12_isSafe_54 : decode cX12_isSafe 54 = .ok (.iand, 1) := by decide +kernel
theorem dX12_isSafe_55 : decode cX12_isSafe 55 = .ok (.aload_n 0, 1) := by decide +kernel
theorem dX12_isSafe_56 : decode cX12_isSafe 56 = .ok (.iload_n 1, 1) := by decide +kernel
theorem dX12_isSafe_57 : decode cX12_isSafe 57 = .ok (.iload 5, 2) := by decide +kernel
theorem dX12_isSafe_59 : decode cX12_isSafe 59 = .ok (.invokevirtual 181, 3) := by decide +kernel
theorem dX12_isSafe_62 : decode cX12_isSafe 62 = .ok (.sipush 255, 3) := by decide +kernel
theorem dX12_isSafe_65 : decode cX12_isSafe 65 = .ok (.iand, 1) := by decide +kernel
theorem dX12_isSafe_66 : decode cX12_isSafe 66 = .ok (.iload_n 2, 1) := by decide +kernel
theorem dX12_isSafe_67 : decode cX12_isSafe 67 = .ok (.invokestatic 211, 3) := by decide +kernel
theorem dX12_isSafe_70 : decode cX12_isSafe 70 = .ok (.ifCond .eq 5, 3) := by decide +kernel
theorem dX12_isSafe_73 : decode cX12_isSafe 73 = .ok (.iconst 0, 1) := by decide +kernel
theorem dX12_isSafe_74 : decode cX12_isSafe 74 = .ok (.ireturn, 1) := by decide +kernel
theorem dX12_isSafe_75 : decode cX12_isSafe 75 = .ok (.iinc 5 1, 3) := by decide +kernel
theorem dX12_isSafe_78 : decode cX12_isSafe 78 = .ok (.goto (-61), 3) := by decide +kernel
theorem dX12_isSafe_81 : decode cX12_isSafe 81 = .ok (.iinc 4 1, 3) := by decide +kernel
theorem dX12_isSafe_84 : decode cX12_isSafe 84 = .ok (.goto (-81), 3) := by decide +kernel
theorem dX12_isSafe_87 : decode cX12_isSafe 87 = .ok (.iconst 1, 1) := by decide +kernel
theorem dX12_isSafe_88 : decode cX12_isSafe 88 = .ok (.ireturn, 1) := by decide +kernel
theorem dX12_safe_0 : decode cX12_safe 0 = .ok (.iload_n 1, 1) := by decide +kernel
theorem dX12_safe_1 : decode cX12_safe 1 = .ok (.invokestatic 152, 3) := by decide +kernel
theorem dX12_safe_4 : decode cX12_safe 4 = .ok (.ifCond .eq 25, 3) := by decide +kernel
theorem dX12_safe_7 : decode cX12_safe 7 = .ok (.iload_n 2, 1) := by decide +kernel
theorem dX12_safe_8 : decode cX12_safe 8 = .ok (.i2l, 1) := by decide +kernel
theorem dX12_safe_9 : decode cX12_safe 9 = .ok (.lconst 0, 1) := by decide +kernel
theorem dX12_safe_10 : decode cX12_safe 10 = .ok (.ldc2_w 209, 3) := by decide +kernel
theorem dX12_safe_13 : decode cX12_safe 13 = .ok (.invokestatic 67, 3) := by decide +kernel
theorem dX12_safe_16 : decode cX12_safe 16 = .ok (.ifCond .eq 13, 3) := by decide +kernel
theorem dX12_safe_19 : decode cX12_safe 19 = .ok (.iload_n 3, 1) := by decide +kernel
theorem dX12_safe_20 : decode cX12_safe 20 = .ok (.i2l, 1) := by decide +kernel
theorem dX12_safe_21 : decode cX12_safe 21 = .ok (.lconst 0, 1) := by decide +kernel
theorem dX12_safe_22 : decode cX12_safe 22 = .ok (.lconst 1, 1) := by decide +kernel
theorem dX12_safe_23 : decode cX12_safe 23 = .ok (.invokestatic 67, 3) := by decide +kernel
theorem dX12_safe_26 : decode cX12_safe 26 = .ok (.ifCond .ne 7, 3) := by decide +kernel
theorem dX12_safe_29 : decode cX12_safe 29 = .ok (.iconst (-1), 1) := by decide +kernel
theorem dX12_safe_30 : decode cX12_safe 30 = .ok (.goto 9, 3) := by decide +kernel
theorem dX12_safe_33 : decode cX12_safe 33 = .ok (.aload_n 0, 1) := by decide +kernel
theorem dX12_safe_34 : decode cX12_safe 34 = .ok (.iload_n 1, 1) := by decide +kernel
theorem dX12_safe_35 : decode cX12_safe 35 = .ok (.iconst 0, 1) := by decide +kernel
theorem dX12_safe_36 : decode cX12_safe 36 = .ok (.invokevirtual 155, 3) := by decide +kernel
theorem dX12_safe_39 : decode cX12_safe 39 = .ok (.istore 4, 2) := by decide +kernel
theorem dX12_safe_41 : decode cX12_safe 41 = .ok (.iload 4, 2) := by decide +kernel
theorem dX12_safe_43 : decode cX12_safe 43 = .ok (.ifCond .ne 18, 3) := by decide +kernel
theorem dX12_safe_46 : decode cX12_safe 46 = .ok (.aload_n 0, 1) := by decide +kernel
theorem dX12_safe_47 : decode cX12_safe 47 = .ok (.getfield 28, 3) := by decide +kernel
theorem dX12_safe_50 : decode cX12_safe 50 = .ok (.iload_n 1, 1) := by decide +kernel
theorem dX12_safe_51 : decode cX12_safe 51 = .ok (.iaload, 1) := by decide +kernel
theorem dX12_safe_52 : decode cX12_safe 52 = .ok (.bipush 8, 2) := by decide +kernel
theorem dX12_safe_54 : decode cX12_safe 54 = .ok (.if_icmp .le 7, 3) := by decide +kernel
theorem dX12_safe_57 : decode cX12_safe 57 = .ok (.bipush (-13), 2) := by decide +kernel
theorem dX12_safe_59 : decode cX12_safe 59 = .ok (.istore 4, 2) := by decide +kernel
theorem dX12_safe_61 : decode cX12_safe 61 = .ok (.iload 4, 2) := by decide +kernel
theorem dX12_safe_63 : decode cX12_safe 63 = .ok (.ifCond .eq 6, 3) := by decide +kernel
theorem dX12_safe_66 : decode cX12_safe 66 = .ok (.iload 4, 2) := by decide +kernel
theorem dX12_safe_68 : decode cX12_safe 68 = .ok (.ireturn, 1) := by decide +kernel
theorem dX12_safe_69 : decode cX12_safe 69 = .ok (.iconst 0, 1) := by decide +kernel
theorem dX12_safe_70 : decode cX12_safe 70 = .ok (.istore 5, 2) := by decide +kernel
theorem dX12_safe_72 : decode cX12_safe 72 = .ok (.iconst 1, 1) := by decide +kernel
theorem dX12_safe_73 : decode cX12_safe 73 = .ok (.istore 6, 2) := by decide +kernel
theorem dX12_safe_75 : decode cX12_safe 75 = .ok (.iload 6, 2) := by decide +kernel
theorem dX12_safe_77 : decode cX12_safe 77 = .ok (.iconst 1, 1) := by decide +kernel
theorem dX12_safe_78 : decode cX12_safe 78 = .ok (.aload_n 0, 1) := by decide +kernel
theorem dX12_safe_79 : decode cX12_safe 79 = .ok (.getfield 28, 3) := by decide +kernel
theorem dX12_safe_82 : decode cX12_safe 82 = .ok (.iload_n 1, 1) := by decide +kernel
theorem dX12_safe_83 : decode cX12_safe 83 = .ok (.iaload, 1) := by decide +kernel
theorem dX12_safe_84 : decode cX12_safe 84 = .ok (.ishl, 1) := by decide +kernel
theorem dX12_safe_85 : decode cX12_safe 85 = .ok (.if_icmp .ge 37, 3) := by decide +kernel
theorem dX12_safe_88 : decode cX12_safe 88 = .ok (.iload 6, 2) := by decide +kernel
theorem dX12_safe_90 : decode cX12_safe 90 = .ok (.invokestatic 204, 3) := by decide +kernel
theorem dX12_safe_93 : decode cX12_safe 93 = .ok (.iload 5, 2) := by decide +kernel
theorem dX12_safe_95 : decode cX12_safe 95 = .ok (.invokestatic 204, 3) := by decide +kernel
theorem dX12_safe_98 : decode cX12_safe 98 = .ok (.if_icmp .le 18, 3) := by decide +kernel
theorem dX12_safe_101 : decode cX12_safe 101 = .ok (.aload_n 0, 1) := by decide +kernel
theorem dX12_safe_102 : decode cX12_safe 102 = .ok (.iload_n 1, 1) := by decide +kernel
theorem dX12_safe_103 : decode cX12_safe 103 = .ok (.iload_n 2, 1) := by decide +kernel
theorem dX12_safe_104 : decode cX12_safe 104 = .ok (.iload 6, 2) := by decide +kernel
theorem dX12_safe_106 : decode cX12_safe 106 = .ok (.invokevirtual 215, 3) := by decide +kernel
theorem dX12_safe_109 : decode cX12_safe 109 = .ok (.ifCond .eq 7, 3) := by decide +kernel
theorem dX12_safe_112 : decode cX12_safe 112 = .ok (.iload 6, 2) := by decide +kernel
theorem dX12_safe_114 : decode cX12_safe 114 = .ok (.istore 5, 2) := by decide +kernel
theorem dX12_safe_116 : decode cX12_safe 116 = .ok (.iinc 6 1, 3) := by decide +kernel
theorem dX12_safe_119 : decode cX12_safe 119 = .ok (.goto (-44), 3) := by decide +kernel
theorem dX12_safe_122 : decode cX12_safe 122 = .ok (.iload_n 3, 1) := by decide +kernel
theorem dX12_safe_123 : decode cX12_safe 123 = .ok (.ifCond .ne 8, 3) := by decide +kernel
theorem dX12_safe_126 : decode cX12_safe 126 = .ok (.iload 5, 2) := by decide +kernel
theorem dX12_safe_128 : decode cX12_safe 128 = .ok (.goto 8, 3) := by decide +kernel
theorem dX12_safe_131 : decode cX12_safe 131 = .ok (.iload 5, 2) := by decide +kernel
theorem dX12_safe_133 : decode cX12_safe 133 = .ok (.invokestatic 204, 3) := by decide +kernel
theorem dX12_safe_136 : decode cX12_safe 136 = .ok (.ireturn, 1) := by decide +kernel
theorem dX12_drawn_0 : decode cX12_drawn 0 = .ok (.aload_n 0, 1) := by decide +kernel
theorem dX12_drawn_1 : decode cX12_drawn 1 = .ok (.aload_n 0, 1) := by decide +kernel
theorem dX12_drawn_2 : decode cX12_drawn 2 = .ok (.getfield 218, 3) := by decide +kernel
theorem dX12_drawn_5 : decode cX12_drawn 5 = .ok (.ldc 221, 2) := by decide +kernel
theorem dX12_drawn_7 : decode cX12_drawn 7 = .ok (.imul, 1) := by decide +kernel
theorem dX12_drawn_8 : decode cX12_drawn 8 = .ok (.sipush 12345, 3) := by decide +kernel
theorem dX12_drawn_11 : decode cX12_drawn 11 = .ok (.iadd, 1) := by decide +kernel
theorem dX12_drawn_12 : decode cX12_drawn 12 = .ok (.putfield 218, 3) := by decide +kernel
theorem dX12_drawn_15 : decode cX12_drawn 15 = .ok (.aload_n 0, 1) := by decide +kernel
theorem dX12_drawn_16 : decode cX12_drawn 16 = .ok (.getfield 218, 3) := by decide +kernel
theorem dX12_drawn_19 : decode cX12_drawn 19 = .ok (.ldc 222, 2) := by decide +kernel
theorem dX12_drawn_21 : decode cX12_drawn 21 = .ok (.iand, 1) := by decide +kernel
theorem dX12_drawn_22 : decode cX12_drawn 22 = .ok (.ldc 223, 2) := by decide +kernel
theorem dX12_drawn_24 : decode cX12_drawn 24 = .ok (.idiv, 1) := by decide +kernel
theorem dX12_drawn_25 : decode cX12_drawn 25 = .ok (.iload_n 1, 1) := by decide +kernel
theorem dX12_drawn_26 : decode cX12_drawn 26 = .ok (.irem, 1) := by decide +kernel
theorem dX12_drawn_27 : decode cX12_drawn 27 = .ok (.ireturn, 1) := by decide +kernel
theorem dX12_hours_0 : decode cX12_hours 0 = .ok (.aload_n 0, 1) := by decide +kernel
theorem dX12_hours_1 : decode cX12_hours 1 = .ok (.getfield 9, 3) := by decide +kernel
theorem dX12_hours_4 : decode cX12_hours 4 = .ok (.bipush 41, 2) := by decide +kernel
theorem dX12_hours_6 : decode cX12_hours 6 = .ok (.iaload, 1) := by decide +kernel
theorem dX12_hours_7 : decode cX12_hours 7 = .ok (.aload_n 0, 1) := by decide +kernel
theorem dX12_hours_8 : decode cX12_hours 8 = .ok (.getfield 9, 3) := by decide +kernel
theorem dX12_hours_11 : decode cX12_hours 11 = .ok (.bipush 43, 2) := by decide +kernel
theorem dX12_hours_13 : decode cX12_hours 13 = .ok (.iaload, 1) := by decide +kernel
theorem dX12_hours_14 : decode cX12_hours 14 = .ok (.iadd, 1) := by decide +kernel
theorem dX12_hours_15 : decode cX12_hours 15 = .ok (.ireturn, 1) := by decide +kernel
theorem dX12_seeded_0 : decode cX12_seeded 0 = .ok (.iload_n 1, 1) := by decide +kernel
theorem dX12_seeded_1 : decode cX12_seeded 1 = .ok (.i2l, 1) := by decide +kernel
theorem dX12_seeded_2 : decode cX12_seeded 2 = .ok (.lconst 1, 1) := by decide +kernel
theorem dX12_seeded_3 : decode cX12_seeded 3 = .ok (.ldc2_w 224, 3) := by decide +kernel
theorem dX12_seeded_6 : decode cX12_seeded 6 = .ok (.invokestatic 67, 3) := by decide +kernel
theorem dX12_seeded_9 : decode cX12_seeded 9 = .ok (.ifCond .eq 13, 3) := by decide +kernel
theorem dX12_seeded_12 : decode cX12_seeded 12 = .ok (.iload_n 3, 1) := by decide +kernel
theorem dX12_seeded_13 : decode cX12_seeded 13 = .ok (.i2l, 1) := by decide +kernel
theorem dX12_seeded_14 : decode cX12_seeded 14 = .ok (.lconst 0, 1) := by decide +kernel
theorem dX12_seeded_15 : decode cX12_seeded 15 = .ok (.lconst 1, 1) := by decide +kernel
theorem dX12_seeded_16 : decode cX12_seeded 16 = .ok (.invokestatic 67, 3) := by decide +kernel
theorem dX12_seeded_19 : decode cX12_seeded 19 = .ok (.ifCond .ne 5, 3) := by decide +kernel
theorem dX12_seeded_22 : decode cX12_seeded 22 = .ok (.iconst (-1), 1) := by decide +kernel
theorem dX12_seeded_23 : decode cX12_seeded 23 = .ok (.ireturn, 1) := by decide +kernel
theorem dX12_seeded_24 : decode cX12_seeded 24 = .ok (.aload_n 0, 1) := by decide +kernel
theorem dX12_seeded_25 : decode cX12_seeded 25 = .ok (.invokevirtual 192, 3) := by decide +kernel
theorem dX12_seeded_28 : decode cX12_seeded 28 = .ok (.aload_n 0, 1) := by decide +kernel
theorem dX12_seeded_29 : decode cX12_seeded 29 = .ok (.iload_n 2, 1) := by decide +kernel
theorem dX12_seeded_30 : decode cX12_seeded 30 = .ok (.putfield 218, 3) := by decide +kernel
theorem dX12_seeded_33 : decode cX12_seeded 33 = .ok (.aload_n 0, 1) := by decide +kernel
theorem dX12_seeded_34 : decode cX12_seeded 34 = .ok (.invokevirtual 170, 3) := by decide +kernel
theorem dX12_seeded_37 : decode cX12_seeded 37 = .ok (.ifCond .eq 7, 3) := by decide +kernel
theorem dX12_seeded_40 : decode cX12_seeded 40 = .ok (.iconst 0, 1) := by decide +kernel
theorem dX12_seeded_41 : decode cX12_seeded 41 = .ok (.goto 5, 3) := by decide +kernel
theorem dX12_seeded_44 : decode cX12_seeded 44 = .ok (.bipush (-4), 2) := by decide +kernel
theorem dX12_seeded_46 : decode cX12_seeded 46 = .ok (.istore 4, 2) := by decide +kernel
theorem dX12_seeded_48 : decode cX12_seeded 48 = .ok (.iconst 1, 1) := by decide +kernel
theorem dX12_seeded_49 : decode cX12_seeded 49 = .ok (.istore 5, 2) := by decide +kernel
theorem dX12_seeded_51 : decode cX12_seeded 51 = .ok (.iload 5, 2) := by decide +kernel
theorem dX12_seeded_53 : decode cX12_seeded 53 = .ok (.iload_n 1, 1) := by decide +kernel
theorem dX12_seeded_54 : decode cX12_seeded 54 = .ok (.if_icmp .gt 45, 3) := by decide +kernel
theorem dX12_seeded_57 : decode cX12_seeded 57 = .ok (.aload_n 0, 1) := by decide +kernel
theorem dX12_seeded_58 : decode cX12_seeded 58 = .ok (.iconst 2, 1) := by decide +kernel
theorem dX12_seeded_59 : decode cX12_seeded 59 = .ok (.invokevirtual 226, 3) := by decide +kernel
theorem dX12_seeded_62 : decode cX12_seeded 62 = .ok (.istore 6, 2) := by decide +kernel
theorem dX12_seeded_64 : decode cX12_seeded 64 = .ok (.aload_n 0, 1) := by decide +kernel
theorem dX12_seeded_65 : decode cX12_seeded 65 = .ok (.iload 6, 2) := by decide +kernel
theorem dX12_seeded_67 : decode cX12_seeded 67 = .ok (.aload_n 0, 1) := by decide +kernel
theorem dX12_seeded_68 : decode cX12_seeded 68 = .ok (.iconst 4, 1) := by decide +kernel
theorem dX12_seeded_69 : decode cX12_seeded 69 = .ok (.invokevirtual 226, 3) := by decide +kernel
theorem dX12_seeded_72 : decode cX12_seeded 72 = .ok (.invokevirtual 149, 3) := by decide +kernel
theorem dX12_seeded_75 : decode cX12_seeded 75 = .ok (.istore 7, 2) := by decide +kernel
theorem dX12_seeded_77 : decode cX12_seeded 77 = .ok (.iload 4, 2) := by decide +kernel
theorem dX12_seeded_79 : decode cX12_seeded 79 = .ok (.ifCond .ge 14, 3) := by decide +kernel
theorem dX12_seeded_82 : decode cX12_seeded 82 = .ok (.aload_n 0, 1) := by decide +kernel
theorem dX12_seeded_83 : decode cX12_seeded 83 = .ok (.invokevirtual 170, 3) := by decide +kernel
theorem dX12_seeded_86 : decode cX12_seeded 86 = .ok (.ifCond .eq 7, 3) := by decide +kernel
theorem dX12_seeded_89 : decode cX12_seeded 89 = .ok (.iload 5, 2) := by decide +kernel
theorem dX12_seeded_91 : decode cX12_seeded 91 = .ok (.istore 4, 2) := by decide +kernel
theorem dX12_seeded_93 : decode cX12_seeded 93 = .ok (.iinc 5 1, 3) := by decide +kernel
theorem dX12_seeded_96 : decode cX12_seeded 96 = .ok (.goto (-45), 3) := by decide +kernel
theorem dX12_seeded_99 : decode cX12_seeded 99 = .ok (.aload_n 0, 1) := by decide +kernel
theorem dX12_seeded_100 : decode cX12_seeded 100 = .ok (.invokevirtual 229, 3) := by decide +kernel
theorem dX12_seeded_103 : decode cX12_seeded 103 = .ok (.istore 5, 2) := by decide +kernel
theorem dX12_seeded_105 : decode cX12_seeded 105 = .ok (.aload_n 0, 1) := by decide +kernel
theorem dX12_seeded_106 : decode cX12_seeded 106 = .ok (.invokevirtual 195, 3) := by decide +kernel
theorem dX12_seeded_109 : decode cX12_seeded 109 = .ok (.iload_n 3, 1) := by decide +kernel
theorem dX12_seeded_110 : decode cX12_seeded 110 = .ok (.ifCond .ne 8, 3) := by decide +kernel
theorem dX12_seeded_113 : decode cX12_seeded 113 = .ok (.iload 5, 2) := by decide +kernel
theorem dX12_seeded_115 : decode cX12_seeded 115 = .ok (.goto 5, 3) := by decide +kernel
theorem dX12_seeded_118 : decode cX12_seeded 118 = .ok (.iload 4, 2) := by decide +kernel
theorem dX12_seeded_120 : decode cX12_seeded 120 = .ok (.ireturn, 1) := by decide +kernel
theorem dX12_wrongThree_0 : decode cX12_wrongThree 0 = .ok (.aload_n 0, 1) := by decide +kernel
theorem dX12_wrongThree_1 : decode cX12_wrongThree 1 = .ok (.iload_n 1, 1) := by decide +kernel
theorem dX12_wrongThree_2 : decode cX12_wrongThree 2 = .ok (.iload_n 2, 1) := by decide +kernel
theorem dX12_wrongThree_3 : decode cX12_wrongThree 3 = .ok (.invokevirtual 181, 3) := by decide +kernel
theorem dX12_wrongThree_6 : decode cX12_wrongThree 6 = .ok (.istore_n 3, 1) := by decide +kernel
theorem dX12_wrongThree_7 : decode cX12_wrongThree 7 = .ok (.aload_n 0, 1) := by decide +kernel
theorem dX12_wrongThree_8 : decode cX12_wrongThree 8 = .ok (.iload_n 1, 1) := by decide +kernel
theorem dX12_wrongThree_9 : decode cX12_wrongThree 9 = .ok (.iload_n 2, 1) := by decide +kernel
theorem dX12_wrongThree_10 : decode cX12_wrongThree 10 = .ok (.iconst 1, 1) := by decide +kernel
theorem dX12_wrongThree_11 : decode cX12_wrongThree 11 = .ok (.iadd, 1) := by decide +kernel
theorem dX12_wrongThree_12 : decode cX12_wrongThree 12 = .ok (.invokevirtual 181, 3) := by decide +kernel
theorem dX12_wrongThree_15 : decode cX12_wrongThree 15 = .ok (.istore 4, 2) := by decide +kernel
theorem dX12_wrongThree_17 : decode cX12_wrongThree 17 = .ok (.iload_n 3, 1) := by decide +kernel
theorem dX12_wrongThree_18 : decode cX12_wrongThree 18 = .ok (.invokestatic 146, 3) := by decide +kernel
theorem dX12_wrongThree_21 : decode cX12_wrongThree 21 = .ok (.ifCond .ne 5, 3) := by decide +kernel
theorem dX12_wrongThree_24 : decode cX12_wrongThree 24 = .ok (.iload_n 2, 1) := by decide +kernel
theorem dX12_wrongThree_25 : decode cX12_wrongThree 25 = .ok (.ireturn, 1) := by decide +kernel
theorem dX12_wrongThree_26 : decode cX12_wrongThree 26 = .ok (.iload 4, 2) := by decide +kernel
theorem dX12_wrongThree_28 : decode cX12_wrongThree 28 = .ok (.i2l, 1) := by decide +kernel
theorem dX12_wrongThree_29 : decode cX12_wrongThree 29 = .ok (.lconst 0, 1) := by decide +kernel
theorem dX12_wrongThree_30 : decode cX12_wrongThree 30 = .ok (.ldc2_w 168, 3) := by decide +kernel
theorem dX12_wrongThree_33 : decode cX12_wrongThree 33 = .ok (.invokestatic 67, 3) := by decide +kernel
theorem dX12_wrongThree_36 : decode cX12_wrongThree 36 = .ok (.ifCond .eq 13, 3) := by decide +kernel
theorem dX12_wrongThree_39 : decode cX12_wrongThree 39 = .ok (.aload_n 0, 1) := by decide +kernel
theorem dX12_wrongThree_40 : decode cX12_wrongThree 40 = .ok (.iload_n 3, 1) := by decide +kernel
theorem dX12_wrongThree_41 : decode cX12_wrongThree 41 = .ok (.iload 4, 2) := by decide +kernel
theorem dX12_wrongThree_43 : decode cX12_wrongThree 43 = .ok (.invokevirtual 149, 3) := by decide +kernel
theorem dX12_wrongThree_46 : decode cX12_wrongThree 46 = .ok (.ifCond .ne 7, 3) := by decide +kernel
theorem dX12_wrongThree_49 : decode cX12_wrongThree 49 = .ok (.iload_n 2, 1) := by decide +kernel
theorem dX12_wrongThree_50 : decode cX12_wrongThree 50 = .ok (.iconst 1, 1) := by decide +kernel
theorem dX12_wrongThree_51 : decode cX12_wrongThree 51 = .ok (.iadd, 1) := by decide +kernel
theorem dX12_wrongThree_52 : decode cX12_wrongThree 52 = .ok (.ireturn, 1) := by decide +kernel
theorem dX12_wrongThree_53 : decode cX12_wrongThree 53 = .ok (.aload_n 0, 1) := by decide +kernel
theorem dX12_wrongThree_54 : decode cX12_wrongThree 54 = .ok (.getfield 9, 3) := by decide +kernel
theorem dX12_wrongThree_57 : decode cX12_wrongThree 57 = .ok (.bipush 40, 2) := by decide +kernel
theorem dX12_wrongThree_59 : decode cX12_wrongThree 59 = .ok (.iconst 2, 1) := by decide +kernel
theorem dX12_wrongThree_60 : decode cX12_wrongThree 60 = .ok (.iload_n 3, 1) := by decide +kernel
theorem dX12_wrongThree_61 : decode cX12_wrongThree 61 = .ok (.imul, 1) := by decide +kernel
theorem dX12_wrongThree_62 : decode cX12_wrongThree 62 = .ok (.iadd, 1) := by decide +kernel
theorem dX12_wrongThree_63 : decode cX12_wrongThree 63 = .ok (.iconst 1, 1) := by decide +kernel
theorem dX12_wrongThree_64 : decode cX12_wrongThree 64 = .ok (.iadd, 1) := by decide +kernel
theorem dX12_wrongThree_65 : decode cX12_wrongThree 65 = .ok (.iaload, 1) := by decide +kernel
theorem dX12_wrongThree_66 : decode cX12_wrongThree 66 = .ok (.aload_n 0, 1) := by decide +kernel
theorem dX12_wrongThree_67 : decode cX12_wrongThree 67 = .ok (.iload_n 1, 1) := by decide +kernel
theorem dX12_wrongThree_68 : decode cX12_wrongThree 68 = .ok (.iload_n 2, 1) := by decide +kernel
theorem dX12_wrongThree_69 : decode cX12_wrongThree 69 = .ok (.iconst 2, 1) := by decide +kernel
theorem dX12_wrongThree_70 : decode cX12_wrongThree 70 = .ok (.iadd, 1) := by decide +kernel
theorem dX12_wrongThree_71 : decode cX12_wrongThree 71 = .ok (.invokevirtual 181, 3) := by decide +kernel
theorem dX12_wrongThree_74 : decode cX12_wrongThree 74 = .ok (.if_icmp .eq 9, 3) := by decide +kernel
theorem dX12_wrongThree_77 : decode cX12_wrongThree 77 = .ok (.iload_n 2, 1) := by decide +kernel
theorem dX12_wrongThree_78 : decode cX12_wrongThree 78 = .ok (.iconst 2, 1) := by decide +kernel
theorem dX12_wrongThree_79 : decode cX12_wrongThree 79 = .ok (.iadd, 1) := by decide +kernel
theorem dX12_wrongThree_80 : decode cX12_wrongThree 80 = .ok (.goto 5, 3) := by decide +kernel
theorem dX12_wrongThree_83 : decode cX12_wrongThree 83 = .ok (.bipush (-4), 2) := by decide +kernel
theorem dX12_wrongThree_85 : decode cX12_wrongThree 85 = .ok (.ireturn, 1) := by decide +kernel
theorem dX12_judge_0 : decode cX12_judge 0 = .ok (.aload_n 0, 1) := by decide +kernel
theorem dX12_judge_1 : decode cX12_judge 1 = .ok (.iload_n 1, 1) := by decide +kernel
theorem dX12_judge_2 : decode cX12_judge 2 = .ok (.iconst (-1), 1) := by decide +kernel
theorem dX12_judge_3 : decode cX12_judge 3 = .ok (.invokevirtual 155, 3) := by decide +kernel
theorem dX12_judge_6 : decode cX12_judge 6 = .ok (.istore_n 2, 1) := by decide +kernel
theorem dX12_judge_7 : decode cX12_judge 7 = .ok (.iload_n 2, 1) := by decide +kernel
theorem dX12_judge_8 : decode cX12_judge 8 = .ok (.ifCond .eq 5, 3) := by decide +kernel
theorem dX12_judge_11 : decode cX12_judge 11 = .ok (.iload_n 2, 1) := by decide +kernel
theorem dX12_judge_12 : decode cX12_judge 12 = .ok (.ireturn, 1) := by decide +kernel
theorem dX12_judge_13 : decode cX12_judge 13 = .ok (.aload_n 0, 1) := by decide +kernel
theorem dX12_judge_14 : decode cX12_judge 14 = .ok (.invokevirtual 192, 3) := by decide +kernel
theorem dX12_judge_17 : decode cX12_judge 17 = .ok (.bipush (-4), 2) := by decide +kernel
theorem dX12_judge_19 : decode cX12_judge 19 = .ok (.istore_n 3, 1) := by decide +kernel
theorem dX12_judge_20 : decode cX12_judge 20 = .ok (.iconst 0, 1) := by decide +kernel
theorem dX12_judge_21 : decode cX12_judge 21 = .ok (.istore 4, 2) := by decide +kernel
theorem dX12_judge_23 : decode cX12_judge 23 = .ok (.iload 4, 2) := by decide +kernel
theorem dX12_judge_25 : decode cX12_judge 25 = .ok (.iconst 2, 1) := by decide +kernel
theorem dX12_judge_26 : decode cX12_judge 26 = .ok (.iadd, 1) := by decide +kernel
theorem dX12_judge_27 : decode cX12_judge 27 = .ok (.aload_n 0, 1) := by decide +kernel
theorem dX12_judge_28 : decode cX12_judge 28 = .ok (.getfield 28, 3) := by decide +kernel
theorem dX12_judge_31 : decode cX12_judge 31 = .ok (.iload_n 1, 1) := by decide +kernel
theorem dX12_judge_32 : decode cX12_judge 32 = .ok (.iaload, 1) := by decide +kernel
theorem dX12_judge_33 : decode cX12_judge 33 = .ok (.if_icmp .ge 21, 3) := by decide +kernel
theorem dX12_judge_36 : decode cX12_judge 36 = .ok (.iload_n 3, 1) := by decide +kernel
theorem dX12_judge_37 : decode cX12_judge 37 = .ok (.ifCond .ge 17, 3) := by decide +kernel
theorem dX12_judge_40 : decode cX12_judge 40 = .ok (.aload_n 0, 1) := by decide +kernel
theorem dX12_judge_41 : decode cX12_judge 41 = .ok (.iload_n 1, 1) := by decide +kernel
theorem dX12_judge_42 : decode cX12_judge 42 = .ok (.iload 4, 2) := by decide +kernel
theorem dX12_judge_44 : decode cX12_judge 44 = .ok (.invokevirtual 232, 3) := by decide +kernel
theorem dX12_judge_47 : decode cX12_judge 47 = .ok (.istore_n 3, 1) := by decide +kernel
theorem dX12_judge_48 : decode cX12_judge 48 = .ok (.iinc 4 3, 3) := by decide +kernel
theorem dX12_judge_51 : decode cX12_judge 51 = .ok (.goto (-28), 3) := by decide +kernel
theorem dX12_judge_54 : decode cX12_judge 54 = .ok (.aload_n 0, 1) := by decide +kernel
theorem dX12_judge_55 : decode cX12_judge 55 = .ok (.invokevirtual 195, 3) := by decide +kernel
theorem dX12_judge_58 : decode cX12_judge 58 = .ok (.iload_n 3, 1) := by decide +kernel
theorem dX12_judge_59 : decode cX12_judge 59 = .ok (.ifCond .ge 14, 3) := by decide +kernel
theorem dX12_judge_62 : decode cX12_judge 62 = .ok (.aload_n 0, 1) := by decide +kernel
theorem dX12_judge_63 : decode cX12_judge 63 = .ok (.getfield 28, 3) := by decide +kernel
theorem dX12_judge_66 : decode cX12_judge 66 = .ok (.iload_n 1, 1) := by decide +kernel
theorem dX12_judge_67 : decode cX12_judge 67 = .ok (.iaload, 1) := by decide +kernel
theorem dX12_judge_68 : decode cX12_judge 68 = .ok (.iconst 3, 1) := by decide +kernel
theorem dX12_judge_69 : decode cX12_judge 69 = .ok (.irem, 1) := by decide +kernel
theorem dX12_judge_70 : decode cX12_judge 70 = .ok (.ifCond .ne 7, 3) := by decide +kernel
theorem dX12_judge_73 : decode cX12_judge 73 = .ok (.iload_n 3, 1) := by decide +kernel
theorem dX12_judge_74 : decode cX12_judge 74 = .ok (.goto 5, 3) := by decide +kernel
theorem dX12_judge_77 : decode cX12_judge 77 = .ok (.iload 4, 2) := by decide +kernel
theorem dX12_judge_79 : decode cX12_judge 79 = .ok (.ireturn, 1) := by decide +kernel
theorem dX12_image_0 : decode cX12_image 0 = .ok (.aload_n 0, 1) := by decide +kernel
theorem dX12_image_1 : decode cX12_image 1 = .ok (.getfield 9, 3) := by decide +kernel
theorem dX12_image_4 : decode cX12_image 4 = .ok (.aload_n 0, 1) := by decide +kernel
theorem dX12_image_5 : decode cX12_image 5 = .ok (.getfield 13, 3) := by decide +kernel
theorem dX12_image_8 : decode cX12_image 8 = .ok (.invokestatic 73, 3) := by decide +kernel
theorem dX12_image_11 : decode cX12_image 11 = .ok (.aload_n 0, 1) := by decide +kernel
theorem dX12_image_12 : decode cX12_image 12 = .ok (.iconst 1, 1) := by decide +kernel
theorem dX12_image_13 : decode cX12_image 13 = .ok (.putfield 235, 3) := by decide +kernel
theorem dX12_image_16 : decode cX12_image 16 = .ok (.aload_n 0, 1) := by decide +kernel
theorem dX12_image_17 : decode cX12_image 17 = .ok (.invokevirtual 229, 3) := by decide +kernel
theorem dX12_image_20 : decode cX12_image 20 = .ok (.ireturn, 1) := by decide +kernel
theorem dX12_restore_0 : decode cX12_restore 0 = .ok (.aload_n 0, 1) := by decide +kernel
theorem dX12_restore_1 : decode cX12_restore 1 = .ok (.getfield 235, 3) := by decide +kernel
theorem dX12_restore_4 : decode cX12_restore 4 = .ok (.ifCond .ne 6, 3) := by decide +kernel
theorem dX12_restore_7 : decode cX12_restore 7 = .ok (.bipush (-3), 2) := by decide +kernel
theorem dX12_restore_9 : decode cX12_restore 9 = .ok (.ireturn, 1) := by decide +kernel
theorem dX12_restore_10 : decode cX12_restore 10 = .ok (.aload_n 0, 1) := by decide +kernel
theorem dX12_restore_11 : decode cX12_restore 11 = .ok (.getfield 13, 3) := by decide +kernel
theorem dX12_restore_14 : decode cX12_restore 14 = .ok (.aload_n 0, 1) := by decide +kernel
theorem dX12_restore_15 : decode cX12_restore 15 = .ok (.getfield 9, 3) := by decide +kernel
theorem dX12_restore_18 : decode cX12_restore 18 = .ok (.invokestatic 73, 3) := by decide +kernel
theorem dX12_restore_21 : decode cX12_restore 21 = .ok (.aload_n 0, 1) := by decide +kernel
theorem dX12_restore_22 : decode cX12_restore 22 = .ok (.invokevirtual 229, 3) := by decide +kernel
theorem dX12_restore_25 : decode cX12_restore 25 = .ok (.ireturn, 1) := by decide +kernel
theorem dX12_count_0 : decode cX12_count 0 = .ok (.iload_n 1, 1) := by decide +kernel
theorem dX12_count_1 : decode cX12_count 1 = .ok (.i2l, 1) := by decide +kernel
theorem dX12_count_2 : decode cX12_count 2 = .ok (.lconst 0, 1) := by decide +kernel
theorem dX12_count_3 : decode cX12_count 3 = .ok (.ldc2_w 190, 3) := by decide +kernel
theorem dX12_count_6 : decode cX12_count 6 = .ok (.invokestatic 67, 3) := by decide +kernel
theorem dX12_count_9 : decode cX12_count 9 = .ok (.ifCond .ne 5, 3) := by decide +kernel
theorem dX12_count_12 : decode cX12_count 12 = .ok (.iconst (-1), 1) := by decide +kernel
theorem dX12_count_13 : decode cX12_count 13 = .ok (.ireturn, 1) := by decide +kernel
theorem dX12_count_14 : decode cX12_count 14 = .ok (.iconst 0, 1) := by decide +kernel
theorem dX12_count_15 : decode cX12_count 15 = .ok (.istore_n 2, 1) := by decide +kernel
theorem dX12_count_16 : decode cX12_count 16 = .ok (.iconst 0, 1) := by decide +kernel
theorem dX12_count_17 : decode cX12_count 17 = .ok (.istore_n 3, 1) := by decide +kernel
theorem dX12_count_18 : decode cX12_count 18 = .ok (.iload_n 3, 1) := by decide +kernel
theorem dX12_count_19 : decode cX12_count 19 = .ok (.bipush 20, 2) := by decide +kernel
theorem dX12_count_21 : decode cX12_count 21 = .ok (.if_icmp .ge 54, 3) := by decide +kernel
theorem dX12_count_24 : decode cX12_count 24 = .ok (.iload_n 2, 1) := by decide +kernel
theorem dX12_count_25 : decode cX12_count 25 = .ok (.iload_n 1, 1) := by decide +kernel
theorem dX12_count_26 : decode cX12_count 26 = .ok (.bipush 8, 2) := by decide +kernel
theorem dX12_count_28 : decode cX12_count 28 = .ok (.if_icmp .ne 11, 3) := by decide +kernel
theorem dX12_count_31 : decode cX12_count 31 = .ok (.aload_n 0, 1) := by decide +kernel
theorem dX12_count_32 : decode cX12_count 32 = .ok (.iload_n 3, 1) := by decide +kernel
theorem dX12_count_33 : decode cX12_count 33 = .ok (.invokevirtual 107, 3) := by decide +kernel
theorem dX12_count_36 : decode cX12_count 36 = .ok (.goto 31, 3) := by decide +kernel
theorem dX12_count_39 : decode cX12_count 39 = .ok (.iload_n 1, 1) := by decide +kernel
theorem dX12_count_40 : decode cX12_count 40 = .ok (.bipush 9, 2) := by decide +kernel
theorem dX12_count_42 : decode cX12_count 42 = .ok (.if_icmp .ne 11, 3) := by decide +kernel
theorem dX12_count_45 : decode cX12_count 45 = .ok (.aload_n 0, 1) := by decide +kernel
theorem dX12_count_46 : decode cX12_count 46 = .ok (.iload_n 3, 1) := by decide +kernel
theorem dX12_count_47 : decode cX12_count 47 = .ok (.invokevirtual 100, 3) := by decide +kernel
theorem dX12_count_50 : decode cX12_count 50 = .ok (.goto 17, 3) := by decide +kernel
theorem dX12_count_53 : decode cX12_count 53 = .ok (.aload_n 0, 1) := by decide +kernel
theorem dX12_count_54 : decode cX12_count 54 = .ok (.iload_n 3, 1) := by decide +kernel
theorem dX12_count_55 : decode cX12_count 55 = .ok (.invokevirtual 77, 3) := by decide +kernel
theorem dX12_count_58 : decode cX12_count 58 = .ok (.iload_n 1, 1) := by decide +kernel
theorem dX12_count_59 : decode cX12_count 59 = .ok (.if_icmp .ne 7, 3) := by decide +kernel
theorem dX12_count_62 : decode cX12_count 62 = .ok (.iconst 1, 1) := by decide +kernel
theorem dX12_count_63 : decode cX12_count 63 = .ok (.goto 4, 3) := by decide +kernel
theorem dX12_count_66 : decode cX12_count 66 = .ok (.iconst 0, 1) := by decide +kernel
theorem dX12_count_67 : decode cX12_count 67 = .ok (.iadd, 1) := by decide +kernel
theorem dX12_count_68 : decode cX12_count 68 = .ok (.istore_n 2, 1) := by decide +kernel
theorem dX12_count_69 : decode cX12_count 69 = .ok (.iinc 3 1, 3) := by decide +kernel
theorem dX12_count_72 : decode cX12_count 72 = .ok (.goto (-54), 3) := by decide +kernel
theorem dX12_count_75 : decode cX12_count 75 = .ok (.iload_n 2, 1) := by decide +kernel
theorem dX12_count_76 : decode cX12_count 76 = .ok (.ireturn, 1) := by decide +kernel
theorem dX12_payBy_0 : decode cX12_payBy 0 = .ok (.iload_n 0, 1) := by decide +kernel
theorem dX12_payBy_1 : decode cX12_payBy 1 = .ok (.tableswitch 66 1 7 #[43, 47, 49, 51, 66, 59, 62], 43) := by decide +kernel
theorem dX12_payBy_44 : decode cX12_payBy 44 = .ok (.iconst 3, 1) := by decide +kernel
