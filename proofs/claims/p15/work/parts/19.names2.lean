abbrev cMo_init : ByteArray := prog_7_method_1_code
abbrev mMo_init : MD := (⟨"DockBookModel", "<init>", "()V"⟩, cMo_init, 1, none, [])
theorem dMo_init_0 : decode cMo_init 0 = .ok (.aload_n 0, 1) := by decide +kernel
theorem dMo_init_1 : decode cMo_init 1 = .ok (.invokespecial 1, 3) := by decide +kernel
theorem dMo_init_4 : decode cMo_init 4 = .ok (.aload_n 0, 1) := by decide +kernel
theorem dMo_init_5 : decode cMo_init 5 = .ok (.iconst 0, 1) := by decide +kernel
theorem dMo_init_6 : decode cMo_init 6 = .ok (.putfield 7, 3) := by decide +kernel
theorem dMo_init_9 : decode cMo_init 9 = .ok (.aload_n 0, 1) := by decide +kernel
theorem dMo_init_10 : decode cMo_init 10 = .ok (.iconst 0, 1) := by decide +kernel
theorem dMo_init_11 : decode cMo_init 11 = .ok (.putfield 13, 3) := by decide +kernel
theorem dMo_init_14 : decode cMo_init 14 = .ok (.aload_n 0, 1) := by decide +kernel
theorem dMo_init_15 : decode cMo_init 15 = .ok (.iconst 0, 1) := by decide +kernel
theorem dMo_init_16 : decode cMo_init 16 = .ok (.putfield 16, 3) := by decide +kernel
theorem dMo_init_19 : decode cMo_init 19 = .ok (.aload_n 0, 1) := by decide +kernel
theorem dMo_init_20 : decode cMo_init 20 = .ok (.iconst 4, 1) := by decide +kernel
theorem dMo_init_21 : decode cMo_init 21 = .ok (.newarray .int, 2) := by decide +kernel
theorem dMo_init_23 : decode cMo_init 23 = .ok (.putfield 19, 3) := by decide +kernel
theorem dMo_init_26 : decode cMo_init 26 = .ok (.aload_n 0, 1) := by decide +kernel
theorem dMo_init_27 : decode cMo_init 27 = .ok (.iconst 4, 1) := by decide +kernel
theorem dMo_init_28 : decode cMo_init 28 = .ok (.newarray .int, 2) := by decide +kernel
theorem dMo_init_30 : decode cMo_init 30 = .ok (.putfield 23, 3) := by decide +kernel
theorem dMo_init_33 : decode cMo_init 33 = .ok (.aload_n 0, 1) := by decide +kernel
theorem dMo_init_34 : decode cMo_init 34 = .ok (.iconst 4, 1) := by decide +kernel
theorem dMo_init_35 : decode cMo_init 35 = .ok (.newarray .int, 2) := by decide +kernel
theorem dMo_init_37 : decode cMo_init 37 = .ok (.putfield 26, 3) := by decide +kernel
theorem dMo_init_40 : decode cMo_init 40 = .ok (.aload_n 0, 1) := by decide +kernel
theorem dMo_init_41 : decode cMo_init 41 = .ok (.iconst 4, 1) := by decide +kernel
theorem dMo_init_42 : decode cMo_init 42 = .ok (.newarray .boolean, 2) := by decide +kernel
theorem dMo_init_44 : decode cMo_init 44 = .ok (.putfield 29, 3) := by decide +kernel
theorem dMo_init_47 : decode cMo_init 47 = .ok (.aload_n 0, 1) := by decide +kernel
theorem dMo_init_48 : decode cMo_init 48 = .ok (.iconst 4, 1) := by decide +kernel
theorem dMo_init_49 : decode cMo_init 49 = .ok (.newarray .int, 2) := by decide +kernel
theorem dMo_init_51 : decode cMo_init 51 = .ok (.putfield 33, 3) := by decide +kernel
theorem dMo_init_54 : decode cMo_init 54 = .ok (.aload_n 0, 1) := by decide +kernel
theorem dMo_init_55 : decode cMo_init 55 = .ok (.iconst 0, 1) := by decide +kernel
theorem dMo_init_56 : decode cMo_init 56 = .ok (.putfield 36, 3) := by decide +kernel
theorem dMo_init_59 : decode cMo_init 59 = .ok (.aload_n 0, 1) := by decide +kernel
theorem dMo_init_60 : decode cMo_init 60 = .ok (.bipush 12, 2) := by decide +kernel
theorem dMo_init_62 : decode cMo_init 62 = .ok (.newarray .int, 2) := by decide +kernel
theorem dMo_init_64 : decode cMo_init 64 = .ok (.putfield 39, 3) := by decide +kernel
theorem dMo_init_67 : decode cMo_init 67 = .ok (.aload_n 0, 1) := by decide +kernel
theorem dMo_init_68 : decode cMo_init 68 = .ok (.bipush 12, 2) := by decide +kernel
theorem dMo_init_70 : decode cMo_init 70 = .ok (.newarray .int, 2) := by decide +kernel
theorem dMo_init_72 : decode cMo_init 72 = .ok (.putfield 42, 3) := by decide +kernel
theorem dMo_init_75 : decode cMo_init 75 = .ok (.aload_n 0, 1) := by decide +kernel
theorem dMo_init_76 : decode cMo_init 76 = .ok (.bipush 12, 2) := by decide +kernel
theorem dMo_init_78 : decode cMo_init 78 = .ok (.newarray .int, 2) := by decide +kernel
theorem dMo_init_80 : decode cMo_init 80 = .ok (.putfield 45, 3) := by decide +kernel
theorem dMo_init_83 : decode cMo_init 83 = .ok (.aload_n 0, 1) := by decide +kernel
theorem dMo_init_84 : decode cMo_init 84 = .ok (.bipush 12, 2) := by decide +kernel
theorem dMo_init_86 : decode cMo_init 86 = .ok (.newarray .int, 2) := by decide +kernel
theorem dMo_init_88 : decode cMo_init 88 = .ok (.putfield 48, 3) := by decide +kernel
theorem dMo_init_91 : decode cMo_init 91 = .ok (.aload_n 0, 1) := by decide +kernel
theorem dMo_init_92 : decode cMo_init 92 = .ok (.bipush 12, 2) := by decide +kernel
theorem dMo_init_94 : decode cMo_init 94 = .ok (.newarray .int, 2) := by decide +kernel
theorem dMo_init_96 : decode cMo_init 96 = .ok (.putfield 51, 3) := by decide +kernel
theorem dMo_init_99 : decode cMo_init 99 = .ok (.aload_n 0, 1) := by decide +kernel
theorem dMo_init_100 : decode cMo_init 100 = .ok (.bipush 12, 2) := by decide +kernel
theorem dMo_init_102 : decode cMo_init 102 = .ok (.newarray .int, 2) := by decide +kernel
theorem dMo_init_104 : decode cMo_init 104 = .ok (.putfield 54, 3) := by decide +kernel
theorem dMo_init_107 : decode cMo_init 107 = .ok (.aload_n 0, 1) := by decide +kernel
theorem dMo_init_108 : decode cMo_init 108 = .ok (.bipush 12, 2) := by decide +kernel
theorem dMo_init_110 : decode cMo_init 110 = .ok (.newarray .int, 2) := by decide +kernel
theorem dMo_init_112 : decode cMo_init 112 = .ok (.putfield 57, 3) := by decide +kernel
theorem dMo_init_115 : decode cMo_init 115 = .ok (.aload_n 0, 1) := by decide +kernel
theorem dMo_init_116 : decode cMo_init 116 = .ok (.bipush 12, 2) := by decide +kernel
theorem dMo_init_118 : decode cMo_init 118 = .ok (.newarray .int, 2) := by decide +kernel
theorem dMo_init_120 : decode cMo_init 120 = .ok (.putfield 60, 3) := by decide +kernel
theorem dMo_init_123 : decode cMo_init 123 = .ok (.aload_n 0, 1) := by decide +kernel
theorem dMo_init_124 : decode cMo_init 124 = .ok (.bipush 12, 2) := by decide +kernel
theorem dMo_init_126 : decode cMo_init 126 = .ok (.newarray .int, 2) := by decide +kernel
theorem dMo_init_128 : decode cMo_init 128 = .ok (.putfield 63, 3) := by decide +kernel
theorem dMo_init_131 : decode cMo_init 131 = .ok (.aload_n 0, 1) := by decide +kernel
theorem dMo_init_132 : decode cMo_init 132 = .ok (.bipush 12, 2) := by decide +kernel
theorem dMo_init_134 : decode cMo_init 134 = .ok (.newarray .boolean, 2) := by decide +kernel
theorem dMo_init_136 : decode cMo_init 136 = .ok (.putfield 66, 3) := by decide +kernel
theorem dMo_init_139 : decode cMo_init 139 = .ok (.aload_n 0, 1) := by decide +kernel
theorem dMo_init_140 : decode cMo_init 140 = .ok (.bipush 12, 2) := by decide +kernel
theorem dMo_init_142 : decode cMo_init 142 = .ok (.newarray .boolean, 2) := by decide +kernel
theorem dMo_init_144 : decode cMo_init 144 = .ok (.putfield 69, 3) := by decide +kernel
theorem dMo_init_147 : decode cMo_init 147 = .ok (.aload_n 0, 1) := by decide +kernel
theorem dMo_init_148 : decode cMo_init 148 = .ok (.iconst 0, 1) := by decide +kernel
theorem dMo_init_149 : decode cMo_init 149 = .ok (.putfield 72, 3) := by decide +kernel
theorem dMo_init_152 : decode cMo_init 152 = .ok (.aload_n 0, 1) := by decide +kernel
theorem dMo_init_153 : decode cMo_init 153 = .ok (.iconst 0, 1) := by decide +kernel
theorem dMo_init_154 : decode cMo_init 154 = .ok (.putfield 76, 3) := by decide +kernel
theorem dMo_init_157 : decode cMo_init 157 = .ok (.aload_n 0, 1) := by decide +kernel
theorem dMo_init_158 : decode cMo_init 158 = .ok (.iconst 0, 1) := by decide +kernel
theorem dMo_init_159 : decode cMo_init 159 = .ok (.putfield 79, 3) := by decide +kernel
theorem dMo_init_162 : decode cMo_init 162 = .ok (.aload_n 0, 1) := by decide +kernel
theorem dMo_init_163 : decode cMo_init 163 = .ok (.bipush 12, 2) := by decide +kernel
theorem dMo_init_165 : decode cMo_init 165 = .ok (.newarray .int, 2) := by decide +kernel
theorem dMo_init_167 : decode cMo_init 167 = .ok (.putfield 82, 3) := by decide +kernel
theorem dMo_init_170 : decode cMo_init 170 = .ok (.aload_n 0, 1) := by decide +kernel
theorem dMo_init_171 : decode cMo_init 171 = .ok (.bipush 12, 2) := by decide +kernel
theorem dMo_init_173 : decode cMo_init 173 = .ok (.newarray .int, 2) := by decide +kernel
theorem dMo_init_175 : decode cMo_init 175 = .ok (.putfield 85, 3) := by decide +kernel
theorem dMo_init_178 : decode cMo_init 178 = .ok (.aload_n 0, 1) := by decide +kernel
theorem dMo_init_179 : decode cMo_init 179 = .ok (.bipush 12, 2) := by decide +kernel
theorem dMo_init_181 : decode cMo_init 181 = .ok (.newarray .int, 2) := by decide +kernel
theorem dMo_init_183 : decode cMo_init 183 = .ok (.putfield 88, 3) := by decide +kernel
theorem dMo_init_186 : decode cMo_init 186 = .ok (.aload_n 0, 1) := by decide +kernel
theorem dMo_init_187 : decode cMo_init 187 = .ok (.sipush 128, 3) := by decide +kernel
theorem dMo_init_190 : decode cMo_init 190 = .ok (.newarray .int, 2) := by decide +kernel
theorem dMo_init_192 : decode cMo_init 192 = .ok (.putfield 91, 3) := by decide +kernel
theorem dMo_init_195 : decode cMo_init 195 = .ok (.aload_n 0, 1) := by decide +kernel
theorem dMo_init_196 : decode cMo_init 196 = .ok (.sipush 640, 3) := by decide +kernel
theorem dMo_init_199 : decode cMo_init 199 = .ok (.newarray .int, 2) := by decide +kernel
theorem dMo_init_201 : decode cMo_init 201 = .ok (.putfield 94, 3) := by decide +kernel
theorem dMo_init_204 : decode cMo_init 204 = .ok (.aload_n 0, 1) := by decide +kernel
theorem dMo_init_205 : decode cMo_init 205 = .ok (.iconst 5, 1) := by decide +kernel
theorem dMo_init_206 : decode cMo_init 206 = .ok (.newarray .int, 2) := by decide +kernel
theorem dMo_init_208 : decode cMo_init 208 = .ok (.putfield 97, 3) := by decide +kernel
theorem dMo_init_211 : decode cMo_init 211 = .ok (.aload_n 0, 1) := by decide +kernel
theorem dMo_init_212 : decode cMo_init 212 = .ok (.iconst 4, 1) := by decide +kernel
theorem dMo_init_213 : decode cMo_init 213 = .ok (.newarray .int, 2) := by decide +kernel
theorem dMo_init_215 : decode cMo_init 215 = .ok (.putfield 100, 3) := by decide +kernel
theorem dMo_init_218 : decode cMo_init 218 = .ok (.return_, 1) := by decide +kernel
abbrev cMo_findWaiting : ByteArray := prog_7_method_2_code
abbrev mMo_findWaiting : MD := (⟨"DockBookModel", "findWaiting", "()V"⟩, cMo_findWaiting, 2, none, [])
theorem dMo_findWaiting_0 : decode cMo_findWaiting 0 = .ok (.aload_n 0, 1) := by decide +kernel
theorem dMo_findWaiting_1 : decode cMo_findWaiting 1 = .ok (.iconst 0, 1) := by decide +kernel
theorem dMo_findWaiting_2 : decode cMo_findWaiting 2 = .ok (.putfield 79, 3) := by decide +kernel
theorem dMo_findWaiting_5 : decode cMo_findWaiting 5 = .ok (.iconst 0, 1) := by decide +kernel
theorem dMo_findWaiting_6 : decode cMo_findWaiting 6 = .ok (.istore_n 1, 1) := by decide +kernel
theorem dMo_findWaiting_7 : decode cMo_findWaiting 7 = .ok (.iload_n 1, 1) := by decide +kernel
theorem dMo_findWaiting_8 : decode cMo_findWaiting 8 = .ok (.aload_n 0, 1) := by decide +kernel
theorem dMo_findWaiting_9 : decode cMo_findWaiting 9 = .ok (.getfield 36, 3) := by decide +kernel
theorem dMo_findWaiting_12 : decode cMo_findWaiting 12 = .ok (.if_icmp .ge 38, 3) := by decide +kernel
theorem dMo_findWaiting_15 : decode cMo_findWaiting 15 = .ok (.aload_n 0, 1) := by decide +kernel
theorem dMo_findWaiting_16 : decode cMo_findWaiting 16 = .ok (.getfield 39, 3) := by decide +kernel
theorem dMo_findWaiting_19 : decode cMo_findWaiting 19 = .ok (.iload_n 1, 1) := by decide +kernel
theorem dMo_findWaiting_20 : decode cMo_findWaiting 20 = .ok (.iaload, 1) := by decide +kernel
theorem dMo_findWaiting_21 : decode cMo_findWaiting 21 = .ok (.ifCond .ne 23, 3) := by decide +kernel
theorem dMo_findWaiting_24 : decode cMo_findWaiting 24 = .ok (.aload_n 0, 1) := by decide +kernel
theorem dMo_findWaiting_25 : decode cMo_findWaiting 25 = .ok (.getfield 82, 3) := by decide +kernel
theorem dMo_findWaiting_28 : decode cMo_findWaiting 28 = .ok (.aload_n 0, 1) := by decide +kernel
theorem dMo_findWaiting_29 : decode cMo_findWaiting 29 = .ok (.getfield 79, 3) := by decide +kernel
theorem dMo_findWaiting_32 : decode cMo_findWaiting 32 = .ok (.iload_n 1, 1) := by decide +kernel
theorem dMo_findWaiting_33 : decode cMo_findWaiting 33 = .ok (.iastore, 1) := by decide +kernel
theorem dMo_findWaiting_34 : decode cMo_findWaiting 34 = .ok (.aload_n 0, 1) := by decide +kernel
theorem dMo_findWaiting_35 : decode cMo_findWaiting 35 = .ok (.dup, 1) := by decide +kernel
theorem dMo_findWaiting_36 : decode cMo_findWaiting 36 = .ok (.getfield 79, 3) := by decide +kernel
theorem dMo_findWaiting_39 : decode cMo_findWaiting 39 = .ok (.iconst 1, 1) := by decide +kernel
theorem dMo_findWaiting_40 : decode cMo_findWaiting 40 = .ok (.iadd, 1) := by decide +kernel
theorem dMo_findWaiting_41 : decode cMo_findWaiting 41 = .ok (.putfield 79, 3) := by decide +kernel
theorem dMo_findWaiting_44 : decode cMo_findWaiting 44 = .ok (.iinc 1 1, 3) := by decide +kernel
theorem dMo_findWaiting_47 : decode cMo_findWaiting 47 = .ok (.goto (-40), 3) := by decide +kernel
theorem dMo_findWaiting_50 : decode cMo_findWaiting 50 = .ok (.return_, 1) := by decide +kernel
abbrev cMo_at : ByteArray := prog_7_method_3_code
abbrev mMo_at : MD := (⟨"DockBookModel", "at", "(I)I"⟩, cMo_at, 3, some (.int), [])
theorem dMo_at_0 : decode cMo_at 0 = .ok (.iconst 0, 1) := by decide +kernel
theorem dMo_at_1 : decode cMo_at 1 = .ok (.istore_n 2, 1) := by decide +kernel
theorem dMo_at_2 : decode cMo_at 2 = .ok (.iload_n 2, 1) := by decide +kernel
theorem dMo_at_3 : decode cMo_at 3 = .ok (.aload_n 0, 1) := by decide +kernel
theorem dMo_at_4 : decode cMo_at 4 = .ok (.getfield 36, 3) := by decide +kernel
theorem dMo_at_7 : decode cMo_at 7 = .ok (.if_icmp .ge 31, 3) := by decide +kernel
theorem dMo_at_10 : decode cMo_at 10 = .ok (.aload_n 0, 1) := by decide +kernel
theorem dMo_at_11 : decode cMo_at 11 = .ok (.getfield 39, 3) := by decide +kernel
theorem dMo_at_14 : decode cMo_at 14 = .ok (.iload_n 2, 1) := by decide +kernel
theorem dMo_at_15 : decode cMo_at 15 = .ok (.iaload, 1) := by decide +kernel
theorem dMo_at_16 : decode cMo_at 16 = .ok (.iconst 1, 1) := by decide +kernel
theorem dMo_at_17 : decode cMo_at 17 = .ok (.if_icmp .ne 15, 3) := by decide +kernel
theorem dMo_at_20 : decode cMo_at 20 = .ok (.aload_n 0, 1) := by decide +kernel
theorem dMo_at_21 : decode cMo_at 21 = .ok (.getfield 54, 3) := by decide +kernel
theorem dMo_at_24 : decode cMo_at 24 = .ok (.iload_n 2, 1) := by decide +kernel
theorem dMo_at_25 : decode cMo_at 25 = .ok (.iaload, 1) := by decide +kernel
theorem dMo_at_26 : decode cMo_at 26 = .ok (.iload_n 1, 1) := by decide +kernel
theorem dMo_at_27 : decode cMo_at 27 = .ok (.if_icmp .ne 5, 3) := by decide +kernel
theorem dMo_at_30 : decode cMo_at 30 = .ok (.iload_n 2, 1) := by decide +kernel
theorem dMo_at_31 : decode cMo_at 31 = .ok (.ireturn, 1) := by decide +kernel
theorem dMo_at_32 : decode cMo_at 32 = .ok (.iinc 2 1, 3) := by decide +kernel
theorem dMo_at_35 : decode cMo_at 35 = .ok (.goto (-33), 3) := by decide +kernel
theorem dMo_at_38 : decode cMo_at 38 = .ok (.iconst (-1), 1) := by decide +kernel
theorem dMo_at_39 : decode cMo_at 39 = .ok (.ireturn, 1) := by decide +kernel
abbrev cMo_freeFrom : ByteArray := prog_7_method_4_code
abbrev mMo_freeFrom : MD := (⟨"DockBookModel", "freeFrom", "(I)I"⟩, cMo_freeFrom, 4, some (.int), [])
theorem dMo_freeFrom_0 : decode cMo_freeFrom 0 = .ok (.aload_n 0, 1) := by decide +kernel
theorem dMo_freeFrom_1 : decode cMo_freeFrom 1 = .ok (.iload_n 1, 1) := by decide +kernel
theorem dMo_freeFrom_2 : decode cMo_freeFrom 2 = .ok (.invokevirtual 103, 3) := by decide +kernel
theorem dMo_freeFrom_5 : decode cMo_freeFrom 5 = .ok (.istore_n 2, 1) := by decide +kernel
theorem dMo_freeFrom_6 : decode cMo_freeFrom 6 = .ok (.iload_n 2, 1) := by decide +kernel
theorem dMo_freeFrom_7 : decode cMo_freeFrom 7 = .ok (.ifCond .ge 7, 3) := by decide +kernel
theorem dMo_freeFrom_10 : decode cMo_freeFrom 10 = .ok (.iconst 0, 1) := by decide +kernel
theorem dMo_freeFrom_11 : decode cMo_freeFrom 11 = .ok (.goto 16, 3) := by decide +kernel
theorem dMo_freeFrom_14 : decode cMo_freeFrom 14 = .ok (.aload_n 0, 1) := by decide +kernel
theorem dMo_freeFrom_15 : decode cMo_freeFrom 15 = .ok (.getfield 57, 3) := by decide +kernel
theorem dMo_freeFrom_18 : decode cMo_freeFrom 18 = .ok (.iload_n 2, 1) := by decide +kernel
theorem dMo_freeFrom_19 : decode cMo_freeFrom 19 = .ok (.iaload, 1) := by decide +kernel
theorem dMo_freeFrom_20 : decode cMo_freeFrom 20 = .ok (.aload_n 0, 1) := by decide +kernel
theorem dMo_freeFrom_21 : decode cMo_freeFrom 21 = .ok (.getfield 48, 3) := by decide +kernel
theorem dMo_freeFrom_24 : decode cMo_freeFrom 24 = .ok (.iload_n 2, 1) := by decide +kernel
theorem dMo_freeFrom_25 : decode cMo_freeFrom 25 = .ok (.iaload, 1) := by decide +kernel
theorem dMo_freeFrom_26 : decode cMo_freeFrom 26 = .ok (.iadd, 1) := by decide +kernel
theorem dMo_freeFrom_27 : decode cMo_freeFrom 27 = .ok (.istore_n 3, 1) := by decide +kernel
theorem dMo_freeFrom_28 : decode cMo_freeFrom 28 = .ok (.iload_n 3, 1) := by decide +kernel
theorem dMo_freeFrom_29 : decode cMo_freeFrom 29 = .ok (.aload_n 0, 1) := by decide +kernel
theorem dMo_freeFrom_30 : decode cMo_freeFrom 30 = .ok (.getfield 13, 3) := by decide +kernel
theorem dMo_freeFrom_33 : decode cMo_freeFrom 33 = .ok (.if_icmp .le 7, 3) := by decide +kernel
theorem dMo_freeFrom_36 : decode cMo_freeFrom 36 = .ok (.iload_n 3, 1) := by decide +kernel
theorem dMo_freeFrom_37 : decode cMo_freeFrom 37 = .ok (.goto 7, 3) := by decide +kernel
theorem dMo_freeFrom_40 : decode cMo_freeFrom 40 = .ok (.aload_n 0, 1) := by decide +kernel
theorem dMo_freeFrom_41 : decode cMo_freeFrom 41 = .ok (.getfield 13, 3) := by decide +kernel
theorem dMo_freeFrom_44 : decode cMo_freeFrom 44 = .ok (.ireturn, 1) := by decide +kernel
abbrev cMo_startAt : ByteArray := prog_7_method_5_code
abbrev mMo_startAt : MD := (⟨"DockBookModel", "startAt", "(III)I"⟩, cMo_startAt, 5, some (.int), [])
theorem dMo_startAt_0 : decode cMo_startAt 0 = .ok (.aload_n 0, 1) := by decide +kernel
theorem dMo_startAt_1 : decode cMo_startAt 1 = .ok (.getfield 29, 3) := by decide +kernel
theorem dMo_startAt_4 : decode cMo_startAt 4 = .ok (.iload_n 2, 1) := by decide +kernel
theorem dMo_startAt_5 : decode cMo_startAt 5 = .ok (.baload, 1) := by decide +kernel
theorem dMo_startAt_6 : decode cMo_startAt 6 = .ok (.ifCond .ne 21, 3) := by decide +kernel
theorem dMo_startAt_9 : decode cMo_startAt 9 = .ok (.aload_n 0, 1) := by decide +kernel
theorem dMo_startAt_10 : decode cMo_startAt 10 = .ok (.getfield 19, 3) := by decide +kernel
theorem dMo_startAt_13 : decode cMo_startAt 13 = .ok (.iload_n 2, 1) := by decide +kernel
theorem dMo_startAt_14 : decode cMo_startAt 14 = .ok (.iaload, 1) := by decide +kernel
theorem dMo_startAt_15 : decode cMo_startAt 15 = .ok (.aload_n 0, 1) := by decide +kernel
theorem dMo_startAt_16 : decode cMo_startAt 16 = .ok (.getfield 42, 3) := by decide +kernel
theorem dMo_startAt_19 : decode cMo_startAt 19 = .ok (.iload_n 1, 1) := by decide +kernel
theorem dMo_startAt_20 : decode cMo_startAt 20 = .ok (.iaload, 1) := by decide +kernel
theorem dMo_startAt_21 : decode cMo_startAt 21 = .ok (.ishr, 1) := by decide +kernel
theorem dMo_startAt_22 : decode cMo_startAt 22 = .ok (.iconst 1, 1) := by decide +kernel
theorem dMo_startAt_23 : decode cMo_startAt 23 = .ok (.iand, 1) := by decide +kernel
theorem dMo_startAt_24 : decode cMo_startAt 24 = .ok (.ifCond .ne 5, 3) := by decide +kernel
theorem dMo_startAt_27 : decode cMo_startAt 27 = .ok (.iconst (-1), 1) := by decide +kernel
theorem dMo_startAt_28 : decode cMo_startAt 28 = .ok (.ireturn, 1) := by decide +kernel
theorem dMo_startAt_29 : decode cMo_startAt 29 = .ok (.iload_n 3, 1) := by decide +kernel
theorem dMo_startAt_30 : decode cMo_startAt 30 = .ok (.istore 4, 2) := by decide +kernel
theorem dMo_startAt_32 : decode cMo_startAt 32 = .ok (.aload_n 0, 1) := by decide +kernel
theorem dMo_startAt_33 : decode cMo_startAt 33 = .ok (.getfield 45, 3) := by decide +kernel
theorem dMo_startAt_36 : decode cMo_startAt 36 = .ok (.iload_n 1, 1) := by decide +kernel
theorem dMo_startAt_37 : decode cMo_startAt 37 = .ok (.iaload, 1) := by decide +kernel
theorem dMo_startAt_38 : decode cMo_startAt 38 = .ok (.iload 4, 2) := by decide +kernel
theorem dMo_startAt_40 : decode cMo_startAt 40 = .ok (.if_icmp .le 11, 3) := by decide +kernel
theorem dMo_startAt_43 : decode cMo_startAt 43 = .ok (.aload_n 0, 1) := by decide +kernel
theorem dMo_startAt_44 : decode cMo_startAt 44 = .ok (.getfield 45, 3) := by decide +kernel
theorem dMo_startAt_47 : decode cMo_startAt 47 = .ok (.iload_n 1, 1) := by decide +kernel
theorem dMo_startAt_48 : decode cMo_startAt 48 = .ok (.iaload, 1) := by decide +kernel
theorem dMo_startAt_49 : decode cMo_startAt 49 = .ok (.istore 4, 2) := by decide +kernel
theorem dMo_startAt_51 : decode cMo_startAt 51 = .ok (.aload_n 0, 1) := by decide +kernel
theorem dMo_startAt_52 : decode cMo_startAt 52 = .ok (.getfield 23, 3) := by decide +kernel
theorem dMo_startAt_55 : decode cMo_startAt 55 = .ok (.iload_n 2, 1) := by decide +kernel
theorem dMo_startAt_56 : decode cMo_startAt 56 = .ok (.iaload, 1) := by decide +kernel
theorem dMo_startAt_57 : decode cMo_startAt 57 = .ok (.iload 4, 2) := by decide +kernel
theorem dMo_startAt_59 : decode cMo_startAt 59 = .ok (.if_icmp .le 11, 3) := by decide +kernel
theorem dMo_startAt_62 : decode cMo_startAt 62 = .ok (.aload_n 0, 1) := by decide +kernel
theorem dMo_startAt_63 : decode cMo_startAt 63 = .ok (.getfield 23, 3) := by decide +kernel
theorem dMo_startAt_66 : decode cMo_startAt 66 = .ok (.iload_n 2, 1) := by decide +kernel
theorem dMo_startAt_67 : decode cMo_startAt 67 = .ok (.iaload, 1) := by decide +kernel
theorem dMo_startAt_68 : decode cMo_startAt 68 = .ok (.istore 4, 2) := by decide +kernel
theorem dMo_startAt_70 : decode cMo_startAt 70 = .ok (.aload_n 0, 1) := by decide +kernel
theorem dMo_startAt_71 : decode cMo_startAt 71 = .ok (.getfield 13, 3) := by decide +kernel
theorem dMo_startAt_74 : decode cMo_startAt 74 = .ok (.iload 4, 2) := by decide +kernel
theorem dMo_startAt_76 : decode cMo_startAt 76 = .ok (.if_icmp .le 9, 3) := by decide +kernel
theorem dMo_startAt_79 : decode cMo_startAt 79 = .ok (.aload_n 0, 1) := by decide +kernel
theorem dMo_startAt_80 : decode cMo_startAt 80 = .ok (.getfield 13, 3) := by decide +kernel
theorem dMo_startAt_83 : decode cMo_startAt 83 = .ok (.istore 4, 2) := by decide +kernel
theorem dMo_startAt_85 : decode cMo_startAt 85 = .ok (.iload 4, 2) := by decide +kernel
theorem dMo_startAt_87 : decode cMo_startAt 87 = .ok (.aload_n 0, 1) := by decide +kernel
theorem dMo_startAt_88 : decode cMo_startAt 88 = .ok (.getfield 48, 3) := by decide +kernel
theorem dMo_startAt_91 : decode cMo_startAt 91 = .ok (.iload_n 1, 1) := by decide +kernel
theorem dMo_startAt_92 : decode cMo_startAt 92 = .ok (.iaload, 1) := by decide +kernel
theorem dMo_startAt_93 : decode cMo_startAt 93 = .ok (.iadd, 1) := by decide +kernel
theorem dMo_startAt_94 : decode cMo_startAt 94 = .ok (.aload_n 0, 1) := by decide +kernel
theorem dMo_startAt_95 : decode cMo_startAt 95 = .ok (.getfield 26, 3) := by decide +kernel
theorem dMo_startAt_98 : decode cMo_startAt 98 = .ok (.iload_n 2, 1) := by decide +kernel
theorem dMo_startAt_99 : decode cMo_startAt 99 = .ok (.iaload, 1) := by decide +kernel
theorem dMo_startAt_100 : decode cMo_startAt 100 = .ok (.if_icmp .le 7, 3) := by decide +kernel
theorem dMo_startAt_103 : decode cMo_startAt 103 = .ok (.iconst (-1), 1) := by decide +kernel
theorem dMo_startAt_104 : decode cMo_startAt 104 = .ok (.goto 5, 3) := by decide +kernel
theorem dMo_startAt_107 : decode cMo_startAt 107 = .ok (.iload 4, 2) := by decide +kernel
theorem dMo_startAt_109 : decode cMo_startAt 109 = .ok (.ireturn, 1) := by decide +kernel
abbrev cMo_inOrder : ByteArray := prog_7_method_6_code
abbrev mMo_inOrder : MD := (⟨"DockBookModel", "inOrder", "(III)I"⟩, cMo_inOrder, 13, some (.int), [])
theorem dMo_inOrder_0 : decode cMo_inOrder 0 = .ok (.iload_n 2, 1) := by decide +kernel
theorem dMo_inOrder_1 : decode cMo_inOrder 1 = .ok (.istore 4, 2) := by decide +kernel
theorem dMo_inOrder_3 : decode cMo_inOrder 3 = .ok (.iload_n 3, 1) := by decide +kernel
theorem dMo_inOrder_4 : decode cMo_inOrder 4 = .ok (.istore 5, 2) := by decide +kernel
theorem dMo_inOrder_6 : decode cMo_inOrder 6 = .ok (.aload_n 0, 1) := by decide +kernel
theorem dMo_inOrder_7 : decode cMo_inOrder 7 = .ok (.iload_n 1, 1) := by decide +kernel
theorem dMo_inOrder_8 : decode cMo_inOrder 8 = .ok (.invokevirtual 107, 3) := by decide +kernel
theorem dMo_inOrder_11 : decode cMo_inOrder 11 = .ok (.istore 6, 2) := by decide +kernel
theorem dMo_inOrder_13 : decode cMo_inOrder 13 = .ok (.iconst 0, 1) := by decide +kernel
theorem dMo_inOrder_14 : decode cMo_inOrder 14 = .ok (.istore 7, 2) := by decide +kernel
theorem dMo_inOrder_16 : decode cMo_inOrder 16 = .ok (.iconst 0, 1) := by decide +kernel
theorem dMo_inOrder_17 : decode cMo_inOrder 17 = .ok (.istore 8, 2) := by decide +kernel
theorem dMo_inOrder_19 : decode cMo_inOrder 19 = .ok (.iconst 0, 1) := by decide +kernel
theorem dMo_inOrder_20 : decode cMo_inOrder 20 = .ok (.istore 9, 2) := by decide +kernel
theorem dMo_inOrder_22 : decode cMo_inOrder 22 = .ok (.iload 9, 2) := by decide +kernel
theorem dMo_inOrder_24 : decode cMo_inOrder 24 = .ok (.iconst 5, 1) := by decide +kernel
theorem dMo_inOrder_25 : decode cMo_inOrder 25 = .ok (.if_icmp .ge 20, 3) := by decide +kernel
theorem dMo_inOrder_28 : decode cMo_inOrder 28 = .ok (.iload 8, 2) := by decide +kernel
theorem dMo_inOrder_30 : decode cMo_inOrder 30 = .ok (.iload_n 2, 1) := by decide +kernel
theorem dMo_inOrder_31 : decode cMo_inOrder 31 = .ok (.iload 9, 2) := by decide +kernel
theorem dMo_inOrder_33 : decode cMo_inOrder 33 = .ok (.ishr, 1) := by decide +kernel
theorem dMo_inOrder_34 : decode cMo_inOrder 34 = .ok (.iconst 1, 1) := by decide +kernel
theorem dMo_inOrder_35 : decode cMo_inOrder 35 = .ok (.iand, 1) := by decide +kernel
theorem dMo_inOrder_36 : decode cMo_inOrder 36 = .ok (.iadd, 1) := by decide +kernel
theorem dMo_inOrder_37 : decode cMo_inOrder 37 = .ok (.istore 8, 2) := by decide +kernel
theorem dMo_inOrder_39 : decode cMo_inOrder 39 = .ok (.iinc 9 1, 3) := by decide +kernel
theorem dMo_inOrder_42 : decode cMo_inOrder 42 = .ok (.goto (-20), 3) := by decide +kernel
theorem dMo_inOrder_45 : decode cMo_inOrder 45 = .ok (.iload 8, 2) := by decide +kernel
theorem dMo_inOrder_47 : decode cMo_inOrder 47 = .ok (.ifCond .le 135, 3) := by decide +kernel
theorem dMo_inOrder_50 : decode cMo_inOrder 50 = .ok (.iload 5, 2) := by decide +kernel
theorem dMo_inOrder_52 : decode cMo_inOrder 52 = .ok (.iload 8, 2) := by decide +kernel
theorem dMo_inOrder_54 : decode cMo_inOrder 54 = .ok (.irem, 1) := by decide +kernel
theorem dMo_inOrder_55 : decode cMo_inOrder 55 = .ok (.istore 9, 2) := by decide +kernel
theorem dMo_inOrder_57 : decode cMo_inOrder 57 = .ok (.iload 5, 2) := by decide +kernel
theorem dMo_inOrder_59 : decode cMo_inOrder 59 = .ok (.iload 8, 2) := by decide +kernel
theorem dMo_inOrder_61 : decode cMo_inOrder 61 = .ok (.idiv, 1) := by decide +kernel
theorem dMo_inOrder_62 : decode cMo_inOrder 62 = .ok (.istore 5, 2) := by decide +kernel
theorem dMo_inOrder_64 : decode cMo_inOrder 64 = .ok (.iconst 0, 1) := by decide +kernel
theorem dMo_inOrder_65 : decode cMo_inOrder 65 = .ok (.istore 10, 2) := by decide +kernel
theorem dMo_inOrder_67 : decode cMo_inOrder 67 = .ok (.iload 4, 2) := by decide +kernel
theorem dMo_inOrder_69 : decode cMo_inOrder 69 = .ok (.iload 10, 2) := by decide +kernel
theorem dMo_inOrder_71 : decode cMo_inOrder 71 = .ok (.ishr, 1) := by decide +kernel
theorem dMo_inOrder_72 : decode cMo_inOrder 72 = .ok (.iconst 1, 1) := by decide +kernel
theorem dMo_inOrder_73 : decode cMo_inOrder 73 = .ok (.iand, 1) := by decide +kernel
theorem dMo_inOrder_74 : decode cMo_inOrder 74 = .ok (.ifCond .eq 8, 3) := by decide +kernel
theorem dMo_inOrder_77 : decode cMo_inOrder 77 = .ok (.iload 9, 2) := by decide +kernel
theorem dMo_inOrder_79 : decode cMo_inOrder 79 = .ok (.ifCond .le 23, 3) := by decide +kernel
theorem dMo_inOrder_82 : decode cMo_inOrder 82 = .ok (.iload 4, 2) := by decide +kernel
theorem dMo_inOrder_84 : decode cMo_inOrder 84 = .ok (.iload 10, 2) := by decide +kernel
theorem dMo_inOrder_86 : decode cMo_inOrder 86 = .ok (.ishr, 1) := by decide +kernel
theorem dMo_inOrder_87 : decode cMo_inOrder 87 = .ok (.iconst 1, 1) := by decide +kernel
theorem dMo_inOrder_88 : decode cMo_inOrder 88 = .ok (.iand, 1) := by decide +kernel
theorem dMo_inOrder_89 : decode cMo_inOrder 89 = .ok (.iconst 1, 1) := by decide +kernel
theorem dMo_inOrder_90 : decode cMo_inOrder 90 = .ok (.if_icmp .ne 6, 3) := by decide +kernel
theorem dMo_inOrder_93 : decode cMo_inOrder 93 = .ok (.iinc 9 (-1), 3) := by decide +kernel
theorem dMo_inOrder_96 : decode cMo_inOrder 96 = .ok (.iinc 10 1, 3) := by decide +kernel
theorem dMo_inOrder_99 : decode cMo_inOrder 99 = .ok (.goto (-32), 3) := by decide +kernel
theorem dMo_inOrder_102 : decode cMo_inOrder 102 = .ok (.iload 4, 2) := by decide +kernel
theorem dMo_inOrder_104 : decode cMo_inOrder 104 = .ok (.iconst 1, 1) := by decide +kernel
theorem dMo_inOrder_105 : decode cMo_inOrder 105 = .ok (.iload 10, 2) := by decide +kernel
theorem dMo_inOrder_107 : decode cMo_inOrder 107 = .ok (.ishl, 1) := by decide +kernel
theorem dMo_inOrder_108 : decode cMo_inOrder 108 = .ok (.iconst (-1), 1) := by decide +kernel
theorem dMo_inOrder_109 : decode cMo_inOrder 109 = .ok (.ixor, 1) := by decide +kernel
theorem dMo_inOrder_110 : decode cMo_inOrder 110 = .ok (.iand, 1) := by decide +kernel
theorem dMo_inOrder_111 : decode cMo_inOrder 111 = .ok (.istore 4, 2) := by decide +kernel
theorem dMo_inOrder_113 : decode cMo_inOrder 113 = .ok (.aload_n 0, 1) := by decide +kernel
theorem dMo_inOrder_114 : decode cMo_inOrder 114 = .ok (.getfield 82, 3) := by decide +kernel
theorem dMo_inOrder_117 : decode cMo_inOrder 117 = .ok (.iload 10, 2) := by decide +kernel
theorem dMo_inOrder_119 : decode cMo_inOrder 119 = .ok (.iaload, 1) := by decide +kernel
theorem dMo_inOrder_120 : decode cMo_inOrder 120 = .ok (.istore 11, 2) := by decide +kernel
theorem dMo_inOrder_122 : decode cMo_inOrder 122 = .ok (.aload_n 0, 1) := by decide +kernel
theorem dMo_inOrder_123 : decode cMo_inOrder 123 = .ok (.iload 11, 2) := by decide +kernel
theorem dMo_inOrder_125 : decode cMo_inOrder 125 = .ok (.iload_n 1, 1) := by decide +kernel
theorem dMo_inOrder_126 : decode cMo_inOrder 126 = .ok (.iload 6, 2) := by decide +kernel
theorem dMo_inOrder_128 : decode cMo_inOrder 128 = .ok (.invokevirtual 110, 3) := by decide +kernel
theorem dMo_inOrder_131 : decode cMo_inOrder 131 = .ok (.istore 12, 2) := by decide +kernel
theorem dMo_inOrder_133 : decode cMo_inOrder 133 = .ok (.iload 12, 2) := by decide +kernel
theorem dMo_inOrder_135 : decode cMo_inOrder 135 = .ok (.ifCond .ge 5, 3) := by decide +kernel
theorem dMo_inOrder_138 : decode cMo_inOrder 138 = .ok (.iconst (-1), 1) := by decide +kernel
theorem dMo_inOrder_139 : decode cMo_inOrder 139 = .ok (.ireturn, 1) := by decide +kernel
theorem dMo_inOrder_140 : decode cMo_inOrder 140 = .ok (.aload_n 0, 1) := by decide +kernel
theorem dMo_inOrder_141 : decode cMo_inOrder 141 = .ok (.getfield 97, 3) := by decide +kernel
theorem dMo_inOrder_144 : decode cMo_inOrder 144 = .ok (.iload 10, 2) := by decide +kernel
theorem dMo_inOrder_146 : decode cMo_inOrder 146 = .ok (.iload 12, 2) := by decide +kernel
theorem dMo_inOrder_148 : decode cMo_inOrder 148 = .ok (.iastore, 1) := by decide +kernel
theorem dMo_inOrder_149 : decode cMo_inOrder 149 = .ok (.iload 7, 2) := by decide +kernel
theorem dMo_inOrder_151 : decode cMo_inOrder 151 = .ok (.iload 12, 2) := by decide +kernel
theorem dMo_inOrder_153 : decode cMo_inOrder 153 = .ok (.aload_n 0, 1) := by decide +kernel
theorem dMo_inOrder_154 : decode cMo_inOrder 154 = .ok (.getfield 45, 3) := by decide +kernel
theorem dMo_inOrder_157 : decode cMo_inOrder 157 = .ok (.iload 11, 2) := by decide +kernel
theorem dMo_inOrder_159 : decode cMo_inOrder 159 = .ok (.iaload, 1) := by decide +kernel
theorem dMo_inOrder_160 : decode cMo_inOrder 160 = .ok (.isub, 1) := by decide +kernel
theorem dMo_inOrder_161 : decode cMo_inOrder 161 = .ok (.iadd, 1) := by decide +kernel
theorem dMo_inOrder_162 : decode cMo_inOrder 162 = .ok (.istore 7, 2) := by decide +kernel
theorem dMo_inOrder_164 : decode cMo_inOrder 164 = .ok (.iload 12, 2) := by decide +kernel
theorem dMo_inOrder_166 : decode cMo_inOrder 166 = .ok (.aload_n 0, 1) := by decide +kernel
theorem dMo_inOrder_167 : decode cMo_inOrder 167 = .ok (.getfield 48, 3) := by decide +kernel
theorem dMo_inOrder_170 : decode cMo_inOrder 170 = .ok (.iload 11, 2) := by decide +kernel
theorem dMo_inOrder_172 : decode cMo_inOrder 172 = .ok (.iaload, 1) := by decide +kernel
theorem dMo_inOrder_173 : decode cMo_inOrder 173 = .ok (.iadd, 1) := by decide +kernel
theorem dMo_inOrder_174 : decode cMo_inOrder 174 = .ok (.istore 6, 2) := by decide +kernel
theorem dMo_inOrder_176 : decode cMo_inOrder 176 = .ok (.iinc 8 (-1), 3) := by decide +kernel
theorem dMo_inOrder_179 : decode cMo_inOrder 179 = .ok (.goto (-134), 3) := by decide +kernel
theorem dMo_inOrder_182 : decode cMo_inOrder 182 = .ok (.iload 7, 2) := by decide +kernel
theorem dMo_inOrder_184 : decode cMo_inOrder 184 = .ok (.ireturn, 1) := by decide +kernel
abbrev cMo_findSet : ByteArray := prog_7_method_7_code
abbrev mMo_findSet : MD := (⟨"DockBookModel", "findSet", "(II)V"⟩, cMo_findSet, 10, none, [])
theorem dMo_findSet_0 : decode cMo_findSet 0 = .ok (.bipush 32, 2) := by decide +kernel
theorem dMo_findSet_2 : decode cMo_findSet 2 = .ok (.iload_n 1, 1) := by decide +kernel
theorem dMo_findSet_3 : decode cMo_findSet 3 = .ok (.imul, 1) := by decide +kernel
theorem dMo_findSet_4 : decode cMo_findSet 4 = .ok (.iload_n 2, 1) := by decide +kernel
theorem dMo_findSet_5 : decode cMo_findSet 5 = .ok (.iadd, 1) := by decide +kernel
theorem dMo_findSet_6 : decode cMo_findSet 6 = .ok (.istore_n 3, 1) := by decide +kernel
theorem dMo_findSet_7 : decode cMo_findSet 7 = .ok (.iconst 1, 1) := by decide +kernel
theorem dMo_findSet_8 : decode cMo_findSet 8 = .ok (.istore 4, 2) := by decide +kernel
theorem dMo_findSet_10 : decode cMo_findSet 10 = .ok (.iconst 0, 1) := by decide +kernel
theorem dMo_findSet_11 : decode cMo_findSet 11 = .ok (.istore 5, 2) := by decide +kernel
theorem dMo_findSet_13 : decode cMo_findSet 13 = .ok (.iconst 0, 1) := by decide +kernel
theorem dMo_findSet_14 : decode cMo_findSet 14 = .ok (.istore 6, 2) := by decide +kernel
theorem dMo_findSet_16 : decode cMo_findSet 16 = .ok (.iload 6, 2) := by decide +kernel
theorem dMo_findSet_18 : decode cMo_findSet 18 = .ok (.iconst 5, 1) := by decide +kernel
theorem dMo_findSet_19 : decode cMo_findSet 19 = .ok (.if_icmp .ge 29, 3) := by decide +kernel
theorem dMo_findSet_22 : decode cMo_findSet 22 = .ok (.iload_n 2, 1) := by decide +kernel
theorem dMo_findSet_23 : decode cMo_findSet 23 = .ok (.iload 6, 2) := by decide +kernel
theorem dMo_findSet_25 : decode cMo_findSet 25 = .ok (.ishr, 1) := by decide +kernel
theorem dMo_findSet_26 : decode cMo_findSet 26 = .ok (.iconst 1, 1) := by decide +kernel
theorem dMo_findSet_27 : decode cMo_findSet 27 = .ok (.iand, 1) := by decide +kernel
theorem dMo_findSet_28 : decode cMo_findSet 28 = .ok (.iconst 1, 1) := by decide +kernel
theorem dMo_findSet_29 : decode cMo_findSet 29 = .ok (.if_icmp .ne 13, 3) := by decide +kernel
theorem dMo_findSet_32 : decode cMo_findSet 32 = .ok (.iinc 5 1, 3) := by decide +kernel
theorem dMo_findSet_35 : decode cMo_findSet 35 = .ok (.iload 4, 2) := by decide +kernel
theorem dMo_findSet_37 : decode cMo_findSet 37 = .ok (.iload 5, 2) := by decide +kernel
theorem dMo_findSet_39 : decode cMo_findSet 39 = .ok (.imul, 1) := by decide +kernel
theorem dMo_findSet_40 : decode cMo_findSet 40 = .ok (.istore 4, 2) := by decide +kernel
theorem dMo_findSet_42 : decode cMo_findSet 42 = .ok (.iinc 6 1, 3) := by decide +kernel
theorem dMo_findSet_45 : decode cMo_findSet 45 = .ok (.goto (-29), 3) := by decide +kernel
theorem dMo_findSet_48 : decode cMo_findSet 48 = .ok (.aload_n 0, 1) := by decide +kernel
theorem dMo_findSet_49 : decode cMo_findSet 49 = .ok (.getfield 91, 3) := by decide +kernel
theorem dMo_findSet_52 : decode cMo_findSet 52 = .ok (.iload_n 3, 1) := by decide +kernel
theorem dMo_findSet_53 : decode cMo_findSet 53 = .ok (.iconst (-1), 1) := by decide +kernel
theorem dMo_findSet_54 : decode cMo_findSet 54 = .ok (.iastore, 1) := by decide +kernel
theorem dMo_findSet_55 : decode cMo_findSet 55 = .ok (.iconst 0, 1) := by decide +kernel
theorem dMo_findSet_56 : decode cMo_findSet 56 = .ok (.istore 6, 2) := by decide +kernel
theorem dMo_findSet_58 : decode cMo_findSet 58 = .ok (.iload 6, 2) := by decide +kernel
theorem dMo_findSet_60 : decode cMo_findSet 60 = .ok (.iload 4, 2) := by decide +kernel
theorem dMo_findSet_62 : decode cMo_findSet 62 = .ok (.if_icmp .ge 192, 3) := by decide +kernel
theorem dMo_findSet_65 : decode cMo_findSet 65 = .ok (.aload_n 0, 1) := by decide +kernel
theorem dMo_findSet_66 : decode cMo_findSet 66 = .ok (.iload_n 1, 1) := by decide +kernel
theorem dMo_findSet_67 : decode cMo_findSet 67 = .ok (.iload_n 2, 1) := by decide +kernel
theorem dMo_findSet_68 : decode cMo_findSet 68 = .ok (.iload 6, 2) := by decide +kernel
theorem dMo_findSet_70 : decode cMo_findSet 70 = .ok (.invokevirtual 114, 3) := by decide +kernel
theorem dMo_findSet_73 : decode cMo_findSet 73 = .ok (.istore 7, 2) := by decide +kernel
theorem dMo_findSet_75 : decode cMo_findSet 75 = .ok (.iload 7, 2) := by decide +kernel
theorem dMo_findSet_77 : decode cMo_findSet 77 = .ok (.ifCond .lt 27, 3) := by decide +kernel
theorem dMo_findSet_80 : decode cMo_findSet 80 = .ok (.aload_n 0, 1) := by decide +kernel
theorem dMo_findSet_81 : decode cMo_findSet 81 = .ok (.getfield 91, 3) := by decide +kernel
theorem dMo_findSet_84 : decode cMo_findSet 84 = .ok (.iload_n 3, 1) := by decide +kernel
theorem dMo_findSet_85 : decode cMo_findSet 85 = .ok (.iaload, 1) := by decide +kernel
theorem dMo_findSet_86 : decode cMo_findSet 86 = .ok (.ifCond .lt 14, 3) := by decide +kernel
theorem dMo_findSet_89 : decode cMo_findSet 89 = .ok (.iload 7, 2) := by decide +kernel
theorem dMo_findSet_91 : decode cMo_findSet 91 = .ok (.aload_n 0, 1) := by decide +kernel
theorem dMo_findSet_92 : decode cMo_findSet 92 = .ok (.getfield 91, 3) := by decide +kernel
theorem dMo_findSet_95 : decode cMo_findSet 95 = .ok (.iload_n 3, 1) := by decide +kernel
theorem dMo_findSet_96 : decode cMo_findSet 96 = .ok (.iaload, 1) := by decide +kernel
theorem dMo_findSet_97 : decode cMo_findSet 97 = .ok (.if_icmp .ge 7, 3) := by decide +kernel
theorem dMo_findSet_100 : decode cMo_findSet 100 = .ok (.iconst 1, 1) := by decide +kernel
theorem dMo_findSet_101 : decode cMo_findSet 101 = .ok (.goto 4, 3) := by decide +kernel
theorem dMo_findSet_104 : decode cMo_findSet 104 = .ok (.iconst 0, 1) := by decide +kernel
theorem dMo_findSet_105 : decode cMo_findSet 105 = .ok (.istore 8, 2) := by decide +kernel
theorem dMo_findSet_107 : decode cMo_findSet 107 = .ok (.iload 7, 2) := by decide +kernel
theorem dMo_findSet_109 : decode cMo_findSet 109 = .ok (.ifCond .lt 93, 3) := by decide +kernel
theorem dMo_findSet_112 : decode cMo_findSet 112 = .ok (.iload 7, 2) := by decide +kernel
theorem dMo_findSet_114 : decode cMo_findSet 114 = .ok (.aload_n 0, 1) := by decide +kernel
theorem dMo_findSet_115 : decode cMo_findSet 115 = .ok (.getfield 91, 3) := by decide +kernel
theorem dMo_findSet_118 : decode cMo_findSet 118 = .ok (.iload_n 3, 1) := by decide +kernel
theorem dMo_findSet_119 : decode cMo_findSet 119 = .ok (.iaload, 1) := by decide +kernel
theorem dMo_findSet_120 : decode cMo_findSet 120 = .ok (.if_icmp .ne 82, 3) := by decide +kernel
theorem dMo_findSet_123 : decode cMo_findSet 123 = .ok (.iconst 0, 1) := by decide +kernel
theorem dMo_findSet_124 : decode cMo_findSet 124 = .ok (.istore 9, 2) := by decide +kernel
theorem dMo_findSet_126 : decode cMo_findSet 126 = .ok (.iload 9, 2) := by decide +kernel
theorem dMo_findSet_128 : decode cMo_findSet 128 = .ok (.iconst 5, 1) := by decide +kernel
theorem dMo_findSet_129 : decode cMo_findSet 129 = .ok (.if_icmp .ge 39, 3) := by decide +kernel
theorem dMo_findSet_132 : decode cMo_findSet 132 = .ok (.iload_n 2, 1) := by decide +kernel
theorem dMo_findSet_133 : decode cMo_findSet 133 = .ok (.iload 9, 2) := by decide +kernel
theorem dMo_findSet_135 : decode cMo_findSet 135 = .ok (.ishr, 1) := by decide +kernel
theorem dMo_findSet_136 : decode cMo_findSet 136 = .ok (.iconst 1, 1) := by decide +kernel
theorem dMo_findSet_137 : decode cMo_findSet 137 = .ok (.iand, 1) := by decide +kernel
theorem dMo_findSet_138 : decode cMo_findSet 138 = .ok (.ifCond .eq 24, 3) := by decide +kernel
theorem dMo_findSet_141 : decode cMo_findSet 141 = .ok (.aload_n 0, 1) := by decide +kernel
theorem dMo_findSet_142 : decode cMo_findSet 142 = .ok (.getfield 97, 3) := by decide +kernel
theorem dMo_findSet_145 : decode cMo_findSet 145 = .ok (.iload 9, 2) := by decide +kernel
theorem dMo_findSet_147 : decode cMo_findSet 147 = .ok (.iaload, 1) := by decide +kernel
theorem dMo_findSet_148 : decode cMo_findSet 148 = .ok (.aload_n 0, 1) := by decide +kernel
theorem dMo_findSet_149 : decode cMo_findSet 149 = .ok (.getfield 94, 3) := by decide +kernel
theorem dMo_findSet_152 : decode cMo_findSet 152 = .ok (.iconst 5, 1) := by decide +kernel
theorem dMo_findSet_153 : decode cMo_findSet 153 = .ok (.iload_n 3, 1) := by decide +kernel
theorem dMo_findSet_154 : decode cMo_findSet 154 = .ok (.imul, 1) := by decide +kernel
theorem dMo_findSet_155 : decode cMo_findSet 155 = .ok (.iload 9, 2) := by decide +kernel
theorem dMo_findSet_157 : decode cMo_findSet 157 = .ok (.iadd, 1) := by decide +kernel
theorem dMo_findSet_158 : decode cMo_findSet 158 = .ok (.iaload, 1) := by decide +kernel
theorem dMo_findSet_159 : decode cMo_findSet 159 = .ok (.if_icmp .ne 9, 3) := by decide +kernel
theorem dMo_findSet_162 : decode cMo_findSet 162 = .ok (.iinc 9 1, 3) := by decide +kernel
theorem dMo_findSet_165 : decode cMo_findSet 165 = .ok (.goto (-39), 3) := by decide +kernel
theorem dMo_findSet_168 : decode cMo_findSet 168 = .ok (.iload 9, 2) := by decide +kernel
theorem dMo_findSet_170 : decode cMo_findSet 170 = .ok (.iconst 5, 1) := by decide +kernel
theorem dMo_findSet_171 : decode cMo_findSet 171 = .ok (.if_icmp .ge 28, 3) := by decide +kernel
theorem dMo_findSet_174 : decode cMo_findSet 174 = .ok (.aload_n 0, 1) := by decide +kernel
theorem dMo_findSet_175 : decode cMo_findSet 175 = .ok (.getfield 97, 3) := by decide +kernel
theorem dMo_findSet_178 : decode cMo_findSet 178 = .ok (.iload 9, 2) := by decide +kernel
theorem dMo_findSet_180 : decode cMo_findSet 180 = .ok (.iaload, 1) := by decide +kernel
theorem dMo_findSet_181 : decode cMo_findSet 181 = .ok (.aload_n 0, 1) := by decide +kernel
theorem dMo_findSet_182 : decode cMo_findSet 182 = .ok (.getfield 94, 3) := by decide +kernel
theorem dMo_findSet_185 : decode cMo_findSet 185 = .ok (.iconst 5, 1) := by decide +kernel
theorem dMo_findSet_186 : decode cMo_findSet 186 = .ok (.iload_n 3, 1) := by decide +kernel
theorem dMo_findSet_187 : decode cMo_findSet 187 = .ok (.imul, 1) := by decide +kernel
theorem dMo_findSet_188 : decode cMo_findSet 188 = .ok (.iload 9, 2) := by decide +kernel
theorem dMo_findSet_190 : decode cMo_findSet 190 = .ok (.iadd, 1) := by decide +kernel
theorem dMo_findSet_191 : decode cMo_findSet 191 = .ok (.iaload, 1) := by decide +kernel
theorem dMo_findSet_192 : decode cMo_findSet 192 = .ok (.if_icmp .ge 7, 3) := by decide +kernel
theorem dMo_findSet_195 : decode cMo_findSet 195 = .ok (.iconst 1, 1) := by decide +kernel
theorem dMo_findSet_196 : decode cMo_findSet 196 = .ok (.goto 4, 3) := by decide +kernel
theorem dMo_findSet_199 : decode cMo_findSet 199 = .ok (.iconst 0, 1) := by decide +kernel
theorem dMo_findSet_200 : decode cMo_findSet 200 = .ok (.istore 8, 2) := by decide +kernel
theorem dMo_findSet_202 : decode cMo_findSet 202 = .ok (.iload 8, 2) := by decide +kernel
theorem dMo_findSet_204 : decode cMo_findSet 204 = .ok (.ifCond .eq 44, 3) := by decide +kernel
theorem dMo_findSet_207 : decode cMo_findSet 207 = .ok (.aload_n 0, 1) := by decide +kernel
theorem dMo_findSet_208 : decode cMo_findSet 208 = .ok (.getfield 91, 3) := by decide +kernel
theorem dMo_findSet_211 : decode cMo_findSet 211 = .ok (.iload_n 3, 1) := by decide +kernel
theorem dMo_findSet_212 : decode cMo_findSet 212 = .ok (.iload 7, 2) := by decide +kernel
theorem dMo_findSet_214 : decode cMo_findSet 214 = .ok (.iastore, 1) := by decide +kernel
theorem dMo_findSet_215 : decode cMo_findSet 215 = .ok (.iconst 0, 1) := by decide +kernel
theorem dMo_findSet_216 : decode cMo_findSet 216 = .ok (.istore 9, 2) := by decide +kernel
theorem dMo_findSet_218 : decode cMo_findSet 218 = .ok (.iload 9, 2) := by decide +kernel
theorem dMo_findSet_220 : decode cMo_findSet 220 = .ok (.iconst 5, 1) := by decide +kernel
theorem dMo_findSet_221 : decode cMo_findSet 221 = .ok (.if_icmp .ge 27, 3) := by decide +kernel
theorem dMo_findSet_224 : decode cMo_findSet 224 = .ok (.aload_n 0, 1) := by decide +kernel
theorem dMo_findSet_225 : decode cMo_findSet 225 = .ok (.getfield 94, 3) := by decide +kernel
theorem dMo_findSet_228 : decode cMo_findSet 228 = .ok (.iconst 5, 1) := by decide +kernel
theorem dMo_findSet_229 : decode cMo_findSet 229 = .ok (.iload_n 3, 1) := by decide +kernel
theorem dMo_findSet_230 : decode cMo_findSet 230 = .ok (.imul, 1) := by decide +kernel
theorem dMo_findSet_231 : decode cMo_findSet 231 = .ok (.iload 9, 2) := by decide +kernel
theorem dMo_findSet_233 : decode cMo_findSet 233 = .ok (.iadd, 1) := by decide +kernel
theorem dMo_findSet_234 : decode cMo_findSet 234 = .ok (.aload_n 0, 1) := by decide +kernel
theorem dMo_findSet_235 : decode cMo_findSet 235 = .ok (.getfield 97, 3) := by decide +kernel
theorem dMo_findSet_238 : decode cMo_findSet 238 = .ok (.iload 9, 2) := by decide +kernel
theorem dMo_findSet_240 : decode cMo_findSet 240 = .ok (.iaload, 1) := by decide +kernel
theorem dMo_findSet_241 : decode cMo_findSet 241 = .ok (.iastore, 1) := by decide +kernel
theorem dMo_findSet_242 : decode cMo_findSet 242 = .ok (.iinc 9 1, 3) := by decide +kernel
theorem dMo_findSet_245 : decode cMo_findSet 245 = .ok (.goto (-27), 3) := by decide +kernel
theorem dMo_findSet_248 : decode cMo_findSet 248 = .ok (.iinc 6 1, 3) := by decide +kernel
theorem dMo_findSet_251 : decode cMo_findSet 251 = .ok (.goto (-193), 3) := by decide +kernel
theorem dMo_findSet_254 : decode cMo_findSet 254 = .ok (.return_, 1) := by decide +kernel
abbrev cMo_exactly : ByteArray := prog_7_method_8_code
abbrev mMo_exactly : MD := (⟨"DockBookModel", "exactly", "()V"⟩, cMo_exactly, 7, none, [])
theorem dMo_exactly_0 : decode cMo_exactly 0 = .ok (.iconst 0, 1) := by decide +kernel
theorem dMo_exactly_1 : decode cMo_exactly 1 = .ok (.istore_n 1, 1) := by decide +kernel
theorem dMo_exactly_2 : decode cMo_exactly 2 = .ok (.iload_n 1, 1) := by decide +kernel
theorem dMo_exactly_3 : decode cMo_exactly 3 = .ok (.aload_n 0, 1) := by decide +kernel
theorem dMo_exactly_4 : decode cMo_exactly 4 = .ok (.getfield 16, 3) := by decide +kernel
theorem dMo_exactly_7 : decode cMo_exactly 7 = .ok (.if_icmp .ge 33, 3) := by decide +kernel
theorem dMo_exactly_10 : decode cMo_exactly 10 = .ok (.iconst 0, 1) := by decide +kernel
theorem dMo_exactly_11 : decode cMo_exactly 11 = .ok (.istore_n 2, 1) := by decide +kernel
theorem dMo_exactly_12 : decode cMo_exactly 12 = .ok (.iload_n 2, 1) := by decide +kernel
theorem dMo_exactly_13 : decode cMo_exactly 13 = .ok (.iconst 1, 1) := by decide +kernel
theorem dMo_exactly_14 : decode cMo_exactly 14 = .ok (.aload_n 0, 1) := by decide +kernel
theorem dMo_exactly_15 : decode cMo_exactly 15 = .ok (.getfield 79, 3) := by decide +kernel
theorem dMo_exactly_18 : decode cMo_exactly 18 = .ok (.ishl, 1) := by decide +kernel
theorem dMo_exactly_19 : decode cMo_exactly 19 = .ok (.if_icmp .ge 15, 3) := by decide +kernel
theorem dMo_exactly_22 : decode cMo_exactly 22 = .ok (.aload_n 0, 1) := by decide +kernel
theorem dMo_exactly_23 : decode cMo_exactly 23 = .ok (.iload_n 1, 1) := by decide +kernel
theorem dMo_exactly_24 : decode cMo_exactly 24 = .ok (.iload_n 2, 1) := by decide +kernel
theorem dMo_exactly_25 : decode cMo_exactly 25 = .ok (.invokevirtual 117, 3) := by decide +kernel
theorem dMo_exactly_28 : decode cMo_exactly 28 = .ok (.iinc 2 1, 3) := by decide +kernel
theorem dMo_exactly_31 : decode cMo_exactly 31 = .ok (.goto (-19), 3) := by decide +kernel
theorem dMo_exactly_34 : decode cMo_exactly 34 = .ok (.iinc 1 1, 3) := by decide +kernel
theorem dMo_exactly_37 : decode cMo_exactly 37 = .ok (.goto (-35), 3) := by decide +kernel
theorem dMo_exactly_40 : decode cMo_exactly 40 = .ok (.iconst 1, 1) := by decide +kernel
theorem dMo_exactly_41 : decode cMo_exactly 41 = .ok (.istore_n 1, 1) := by decide +kernel
theorem dMo_exactly_42 : decode cMo_exactly 42 = .ok (.iconst 0, 1) := by decide +kernel
theorem dMo_exactly_43 : decode cMo_exactly 43 = .ok (.istore_n 2, 1) := by decide +kernel
theorem dMo_exactly_44 : decode cMo_exactly 44 = .ok (.iload_n 2, 1) := by decide +kernel
theorem dMo_exactly_45 : decode cMo_exactly 45 = .ok (.aload_n 0, 1) := by decide +kernel
theorem dMo_exactly_46 : decode cMo_exactly 46 = .ok (.getfield 79, 3) := by decide +kernel
theorem dMo_exactly_49 : decode cMo_exactly 49 = .ok (.if_icmp .ge 13, 3) := by decide +kernel
theorem dMo_exactly_52 : decode cMo_exactly 52 = .ok (.iload_n 1, 1) := by decide +kernel
theorem dMo_exactly_53 : decode cMo_exactly 53 = .ok (.iconst 5, 1) := by decide +kernel
theorem dMo_exactly_54 : decode cMo_exactly 54 = .ok (.imul, 1) := by decide +kernel
theorem dMo_exactly_55 : decode cMo_exactly 55 = .ok (.istore_n 1, 1) := by decide +kernel
theorem dMo_exactly_56 : decode cMo_exactly 56 = .ok (.iinc 2 1, 3) := by decide +kernel
theorem dMo_exactly_59 : decode cMo_exactly 59 = .ok (.goto (-15), 3) := by decide +kernel
theorem dMo_exactly_62 : decode cMo_exactly 62 = .ok (.iconst (-1), 1) := by decide +kernel
theorem dMo_exactly_63 : decode cMo_exactly 63 = .ok (.istore_n 2, 1) := by decide +kernel
theorem dMo_exactly_64 : decode cMo_exactly 64 = .ok (.iconst 0, 1) := by decide +kernel
theorem dMo_exactly_65 : decode cMo_exactly 65 = .ok (.istore_n 3, 1) := by decide +kernel
theorem dMo_exactly_66 : decode cMo_exactly 66 = .ok (.iconst 0, 1) := by decide +kernel
theorem dMo_exactly_67 : decode cMo_exactly 67 = .ok (.istore 4, 2) := by decide +kernel
theorem dMo_exactly_69 : decode cMo_exactly 69 = .ok (.iload 4, 2) := by decide +kernel
theorem dMo_exactly_71 : decode cMo_exactly 71 = .ok (.iload_n 1, 1) := by decide +kernel
theorem dMo_exactly_72 : decode cMo_exactly 72 = .ok (.if_icmp .ge 38, 3) := by decide +kernel
theorem dMo_exactly_75 : decode cMo_exactly 75 = .ok (.aload_n 0, 1) := by decide +kernel
theorem dMo_exactly_76 : decode cMo_exactly 76 = .ok (.iload 4, 2) := by decide +kernel
theorem dMo_exactly_78 : decode cMo_exactly 78 = .ok (.invokevirtual 121, 3) := by decide +kernel
theorem dMo_exactly_81 : decode cMo_exactly 81 = .ok (.istore 5, 2) := by decide +kernel
theorem dMo_exactly_83 : decode cMo_exactly 83 = .ok (.iload 5, 2) := by decide +kernel
theorem dMo_exactly_85 : decode cMo_exactly 85 = .ok (.ifCond .lt 19, 3) := by decide +kernel
theorem dMo_exactly_88 : decode cMo_exactly 88 = .ok (.iload_n 2, 1) := by decide +kernel
theorem dMo_exactly_89 : decode cMo_exactly 89 = .ok (.ifCond .lt 9, 3) := by decide +kernel
theorem dMo_exactly_92 : decode cMo_exactly 92 = .ok (.iload 5, 2) := by decide +kernel
theorem dMo_exactly_94 : decode cMo_exactly 94 = .ok (.iload_n 3, 1) := by decide +kernel
theorem dMo_exactly_95 : decode cMo_exactly 95 = .ok (.if_icmp .ge 9, 3) := by decide +kernel
theorem dMo_exactly_98 : decode cMo_exactly 98 = .ok (.iload 4, 2) := by decide +kernel
theorem dMo_exactly_100 : decode cMo_exactly 100 = .ok (.istore_n 2, 1) := by decide +kernel
theorem dMo_exactly_101 : decode cMo_exactly 101 = .ok (.iload 5, 2) := by decide +kernel
theorem dMo_exactly_103 : decode cMo_exactly 103 = .ok (.istore_n 3, 1) := by decide +kernel
theorem dMo_exactly_104 : decode cMo_exactly 104 = .ok (.iinc 4 1, 3) := by decide +kernel
theorem dMo_exactly_107 : decode cMo_exactly 107 = .ok (.goto (-38), 3) := by decide +kernel
theorem dMo_exactly_110 : decode cMo_exactly 110 = .ok (.iload_n 2, 1) := by decide +kernel
theorem dMo_exactly_111 : decode cMo_exactly 111 = .ok (.istore 4, 2) := by decide +kernel
theorem dMo_exactly_113 : decode cMo_exactly 113 = .ok (.aload_n 0, 1) := by decide +kernel
theorem dMo_exactly_114 : decode cMo_exactly 114 = .ok (.getfield 79, 3) := by decide +kernel
theorem dMo_exactly_117 : decode cMo_exactly 117 = .ok (.iconst 1, 1) := by decide +kernel
theorem dMo_exactly_118 : decode cMo_exactly 118 = .ok (.isub, 1) := by decide +kernel
theorem dMo_exactly_119 : decode cMo_exactly 119 = .ok (.istore 5, 2) := by decide +kernel
theorem dMo_exactly_121 : decode cMo_exactly 121 = .ok (.iload 5, 2) := by decide +kernel
theorem dMo_exactly_123 : decode cMo_exactly 123 = .ok (.ifCond .lt 40, 3) := by decide +kernel
theorem dMo_exactly_126 : decode cMo_exactly 126 = .ok (.iload 4, 2) := by decide +kernel
theorem dMo_exactly_128 : decode cMo_exactly 128 = .ok (.iconst 5, 1) := by decide +kernel
theorem dMo_exactly_129 : decode cMo_exactly 129 = .ok (.irem, 1) := by decide +kernel
theorem dMo_exactly_130 : decode cMo_exactly 130 = .ok (.istore 6, 2) := by decide +kernel
theorem dMo_exactly_132 : decode cMo_exactly 132 = .ok (.iload 4, 2) := by decide +kernel
theorem dMo_exactly_134 : decode cMo_exactly 134 = .ok (.iconst 5, 1) := by decide +kernel
theorem dMo_exactly_135 : decode cMo_exactly 135 = .ok (.idiv, 1) := by decide +kernel
theorem dMo_exactly_136 : decode cMo_exactly 136 = .ok (.istore 4, 2) := by decide +kernel
theorem dMo_exactly_138 : decode cMo_exactly 138 = .ok (.aload_n 0, 1) := by decide +kernel
theorem dMo_exactly_139 : decode cMo_exactly 139 = .ok (.getfield 85, 3) := by decide +kernel
theorem dMo_exactly_142 : decode cMo_exactly 142 = .ok (.iload 5, 2) := by decide +kernel
theorem dMo_exactly_144 : decode cMo_exactly 144 = .ok (.iload 6, 2) := by decide +kernel
theorem dMo_exactly_146 : decode cMo_exactly 146 = .ok (.iconst 4, 1) := by decide +kernel
theorem dMo_exactly_147 : decode cMo_exactly 147 = .ok (.if_icmp .ne 7, 3) := by decide +kernel
theorem dMo_exactly_150 : decode cMo_exactly 150 = .ok (.iconst (-1), 1) := by decide +kernel
theorem dMo_exactly_151 : decode cMo_exactly 151 = .ok (.goto 5, 3) := by decide +kernel
theorem dMo_exactly_154 : decode cMo_exactly 154 = .ok (.iload 6, 2) := by decide +kernel
theorem dMo_exactly_156 : decode cMo_exactly 156 = .ok (.iastore, 1) := by decide +kernel
theorem dMo_exactly_157 : decode cMo_exactly 157 = .ok (.iinc 5 (-1), 3) := by decide +kernel
theorem dMo_exactly_160 : decode cMo_exactly 160 = .ok (.goto (-39), 3) := by decide +kernel
theorem dMo_exactly_163 : decode cMo_exactly 163 = .ok (.iconst 0, 1) := by decide +kernel
theorem dMo_exactly_164 : decode cMo_exactly 164 = .ok (.istore 5, 2) := by decide +kernel
theorem dMo_exactly_166 : decode cMo_exactly 166 = .ok (.iload 5, 2) := by decide +kernel
theorem dMo_exactly_168 : decode cMo_exactly 168 = .ok (.aload_n 0, 1) := by decide +kernel
theorem dMo_exactly_169 : decode cMo_exactly 169 = .ok (.getfield 79, 3) := by decide +kernel
theorem dMo_exactly_172 : decode cMo_exactly 172 = .ok (.if_icmp .ge 62, 3) := by decide +kernel
theorem dMo_exactly_175 : decode cMo_exactly 175 = .ok (.aload_n 0, 1) := by decide +kernel
theorem dMo_exactly_176 : decode cMo_exactly 176 = .ok (.getfield 88, 3) := by decide +kernel
theorem dMo_exactly_179 : decode cMo_exactly 179 = .ok (.iload 5, 2) := by decide +kernel
theorem dMo_exactly_181 : decode cMo_exactly 181 = .ok (.aload_n 0, 1) := by decide +kernel
theorem dMo_exactly_182 : decode cMo_exactly 182 = .ok (.getfield 85, 3) := by decide +kernel
theorem dMo_exactly_185 : decode cMo_exactly 185 = .ok (.iload 5, 2) := by decide +kernel
theorem dMo_exactly_187 : decode cMo_exactly 187 = .ok (.iaload, 1) := by decide +kernel
theorem dMo_exactly_188 : decode cMo_exactly 188 = .ok (.ifCond .ge 7, 3) := by decide +kernel
theorem dMo_exactly_191 : decode cMo_exactly 191 = .ok (.iconst (-1), 1) := by decide +kernel
theorem dMo_exactly_192 : decode cMo_exactly 192 = .ok (.goto 35, 3) := by decide +kernel
theorem dMo_exactly_195 : decode cMo_exactly 195 = .ok (.aload_n 0, 1) := by decide +kernel
theorem dMo_exactly_196 : decode cMo_exactly 196 = .ok (.getfield 94, 3) := by decide +kernel
theorem dMo_exactly_199 : decode cMo_exactly 199 = .ok (.iconst 5, 1) := by decide +kernel
theorem dMo_exactly_200 : decode cMo_exactly 200 = .ok (.bipush 32, 2) := by decide +kernel
theorem dMo_exactly_202 : decode cMo_exactly 202 = .ok (.aload_n 0, 1) := by decide +kernel
theorem dMo_exactly_203 : decode cMo_exactly 203 = .ok (.getfield 85, 3) := by decide +kernel
theorem dMo_exactly_206 : decode cMo_exactly 206 = .ok (.iload 5, 2) := by decide +kernel
theorem dMo_exactly_208 : decode cMo_exactly 208 = .ok (.iaload, 1) := by decide +kernel
theorem dMo_exactly_209 : decode cMo_exactly 209 = .ok (.imul, 1) := by decide +kernel
theorem dMo_exactly_210 : decode cMo_exactly 210 = .ok (.aload_n 0, 1) := by decide +kernel
theorem dMo_exactly_211 : decode cMo_exactly 211 = .ok (.aload_n 0, 1) := by decide +kernel
theorem dMo_exactly_212 : decode cMo_exactly 212 = .ok (.getfield 85, 3) := by decide +kernel
theorem dMo_exactly_215 : decode cMo_exactly 215 = .ok (.iload 5, 2) := by decide +kernel
theorem dMo_exactly_217 : decode cMo_exactly 217 = .ok (.iaload, 1) := by decide +kernel
theorem dMo_exactly_218 : decode cMo_exactly 218 = .ok (.invokevirtual 124, 3) := by decide +kernel
theorem dMo_exactly_221 : decode cMo_exactly 221 = .ok (.iadd, 1) := by decide +kernel
theorem dMo_exactly_222 : decode cMo_exactly 222 = .ok (.imul, 1) := by decide +kernel
theorem dMo_exactly_223 : decode cMo_exactly 223 = .ok (.iload 5, 2) := by decide +kernel
theorem dMo_exactly_225 : decode cMo_exactly 225 = .ok (.iadd, 1) := by decide +kernel
theorem dMo_exactly_226 : decode cMo_exactly 226 = .ok (.iaload, 1) := by decide +kernel
theorem dMo_exactly_227 : decode cMo_exactly 227 = .ok (.iastore, 1) := by decide +kernel
theorem dMo_exactly_228 : decode cMo_exactly 228 = .ok (.iinc 5 1, 3) := by decide +kernel
theorem dMo_exactly_231 : decode cMo_exactly 231 = .ok (.goto (-65), 3) := by decide +kernel
theorem dMo_exactly_234 : decode cMo_exactly 234 = .ok (.return_, 1) := by decide +kernel
abbrev cMo_setOf : ByteArray := prog_7_method_9_code
abbrev mMo_setOf : MD := (⟨"DockBookModel", "setOf", "(I)I"⟩, cMo_setOf, 4, some (.int), [])
theorem dMo_setOf_0 : decode cMo_setOf 0 = .ok (.iconst 0, 1) := by decide +kernel
theorem dMo_setOf_1 : decode cMo_setOf 1 = .ok (.istore_n 2, 1) := by decide +kernel
theorem dMo_setOf_2 : decode cMo_setOf 2 = .ok (.iconst 0, 1) := by decide +kernel
theorem dMo_setOf_3 : decode cMo_setOf 3 = .ok (.istore_n 3, 1) := by decide +kernel
theorem dMo_setOf_4 : decode cMo_setOf 4 = .ok (.iload_n 3, 1) := by decide +kernel
theorem dMo_setOf_5 : decode cMo_setOf 5 = .ok (.aload_n 0, 1) := by decide +kernel
theorem dMo_setOf_6 : decode cMo_setOf 6 = .ok (.getfield 79, 3) := by decide +kernel
theorem dMo_setOf_9 : decode cMo_setOf 9 = .ok (.if_icmp .ge 29, 3) := by decide +kernel
theorem dMo_setOf_12 : decode cMo_setOf 12 = .ok (.aload_n 0, 1) := by decide +kernel
theorem dMo_setOf_13 : decode cMo_setOf 13 = .ok (.getfield 85, 3) := by decide +kernel
theorem dMo_setOf_16 : decode cMo_setOf 16 = .ok (.iload_n 3, 1) := by decide +kernel
theorem dMo_setOf_17 : decode cMo_setOf 17 = .ok (.iaload, 1) := by decide +kernel
theorem dMo_setOf_18 : decode cMo_setOf 18 = .ok (.iload_n 1, 1) := by decide +kernel
theorem dMo_setOf_19 : decode cMo_setOf 19 = .ok (.if_icmp .ne 11, 3) := by decide +kernel
theorem dMo_setOf_22 : decode cMo_setOf 22 = .ok (.iload_n 2, 1) := by decide +kernel
theorem dMo_setOf_23 : decode cMo_setOf 23 = .ok (.iconst 1, 1) := by decide +kernel
theorem dMo_setOf_24 : decode cMo_setOf 24 = .ok (.iload_n 3, 1) := by decide +kernel
theorem dMo_setOf_25 : decode cMo_setOf 25 = .ok (.ishl, 1) := by decide +kernel
theorem dMo_setOf_26 : decode cMo_setOf 26 = .ok (.ior, 1) := by decide +kernel
theorem dMo_setOf_27 : decode cMo_setOf 27 = .ok (.goto 4, 3) := by decide +kernel
theorem dMo_setOf_30 : decode cMo_setOf 30 = .ok (.iload_n 2, 1) := by decide +kernel
theorem dMo_setOf_31 : decode cMo_setOf 31 = .ok (.istore_n 2, 1) := by decide +kernel
theorem dMo_setOf_32 : decode cMo_setOf 32 = .ok (.iinc 3 1, 3) := by decide +kernel
theorem dMo_setOf_35 : decode cMo_setOf 35 = .ok (.goto (-31), 3) := by decide +kernel
theorem dMo_setOf_38 : decode cMo_setOf 38 = .ok (.iload_n 2, 1) := by decide +kernel
theorem dMo_setOf_39 : decode cMo_setOf 39 = .ok (.ireturn, 1) := by decide +kernel
abbrev cMo_costOf : ByteArray := prog_7_method_10_code
abbrev mMo_costOf : MD := (⟨"DockBookModel", "costOf", "(I)I"⟩, cMo_costOf, 6, some (.int), [])
theorem dMo_costOf_0 : decode cMo_costOf 0 = .ok (.iload_n 1, 1) := by decide +kernel
theorem dMo_costOf_1 : decode cMo_costOf 1 = .ok (.istore_n 2, 1) := by decide +kernel
theorem dMo_costOf_2 : decode cMo_costOf 2 = .ok (.iconst 0, 1) := by decide +kernel
theorem dMo_costOf_3 : decode cMo_costOf 3 = .ok (.istore_n 3, 1) := by decide +kernel
theorem dMo_costOf_4 : decode cMo_costOf 4 = .ok (.aload_n 0, 1) := by decide +kernel
theorem dMo_costOf_5 : decode cMo_costOf 5 = .ok (.getfield 79, 3) := by decide +kernel
theorem dMo_costOf_8 : decode cMo_costOf 8 = .ok (.iconst 1, 1) := by decide +kernel
theorem dMo_costOf_9 : decode cMo_costOf 9 = .ok (.isub, 1) := by decide +kernel
theorem dMo_costOf_10 : decode cMo_costOf 10 = .ok (.istore 4, 2) := by decide +kernel
theorem dMo_costOf_12 : decode cMo_costOf 12 = .ok (.iload 4, 2) := by decide +kernel
theorem dMo_costOf_14 : decode cMo_costOf 14 = .ok (.ifCond .lt 70, 3) := by decide +kernel
theorem dMo_costOf_17 : decode cMo_costOf 17 = .ok (.iload_n 2, 1) := by decide +kernel
theorem dMo_costOf_18 : decode cMo_costOf 18 = .ok (.iconst 5, 1) := by decide +kernel
theorem dMo_costOf_19 : decode cMo_costOf 19 = .ok (.irem, 1) := by decide +kernel
theorem dMo_costOf_20 : decode cMo_costOf 20 = .ok (.istore 5, 2) := by decide +kernel
theorem dMo_costOf_22 : decode cMo_costOf 22 = .ok (.iload_n 2, 1) := by decide +kernel
theorem dMo_costOf_23 : decode cMo_costOf 23 = .ok (.iconst 5, 1) := by decide +kernel
theorem dMo_costOf_24 : decode cMo_costOf 24 = .ok (.idiv, 1) := by decide +kernel
theorem dMo_costOf_25 : decode cMo_costOf 25 = .ok (.istore_n 2, 1) := by decide +kernel
theorem dMo_costOf_26 : decode cMo_costOf 26 = .ok (.iload 5, 2) := by decide +kernel
theorem dMo_costOf_28 : decode cMo_costOf 28 = .ok (.iconst 4, 1) := by decide +kernel
theorem dMo_costOf_29 : decode cMo_costOf 29 = .ok (.if_icmp .ge 14, 3) := by decide +kernel
theorem dMo_costOf_32 : decode cMo_costOf 32 = .ok (.iload 5, 2) := by decide +kernel
theorem dMo_costOf_34 : decode cMo_costOf 34 = .ok (.aload_n 0, 1) := by decide +kernel
theorem dMo_costOf_35 : decode cMo_costOf 35 = .ok (.getfield 16, 3) := by decide +kernel
theorem dMo_costOf_38 : decode cMo_costOf 38 = .ok (.if_icmp .lt 5, 3) := by decide +kernel
theorem dMo_costOf_41 : decode cMo_costOf 41 = .ok (.iconst (-1), 1) := by decide +kernel
theorem dMo_costOf_42 : decode cMo_costOf 42 = .ok (.ireturn, 1) := by decide +kernel
theorem dMo_costOf_43 : decode cMo_costOf 43 = .ok (.aload_n 0, 1) := by decide +kernel
theorem dMo_costOf_44 : decode cMo_costOf 44 = .ok (.getfield 85, 3) := by decide +kernel
theorem dMo_costOf_47 : decode cMo_costOf 47 = .ok (.iload 4, 2) := by decide +kernel
theorem dMo_costOf_49 : decode cMo_costOf 49 = .ok (.iload 5, 2) := by decide +kernel
theorem dMo_costOf_51 : decode cMo_costOf 51 = .ok (.iconst 4, 1) := by decide +kernel
theorem dMo_costOf_52 : decode cMo_costOf 52 = .ok (.if_icmp .ne 7, 3) := by decide +kernel
theorem dMo_costOf_55 : decode cMo_costOf 55 = .ok (.iconst (-1), 1) := by decide +kernel
theorem dMo_costOf_56 : decode cMo_costOf 56 = .ok (.goto 5, 3) := by decide +kernel
theorem dMo_costOf_59 : decode cMo_costOf 59 = .ok (.iload 5, 2) := by decide +kernel
theorem dMo_costOf_61 : decode cMo_costOf 61 = .ok (.iastore, 1) := by decide +kernel
theorem dMo_costOf_62 : decode cMo_costOf 62 = .ok (.iload_n 3, 1) := by decide +kernel
theorem dMo_costOf_63 : decode cMo_costOf 63 = .ok (.iload 5, 2) := by decide +kernel
theorem dMo_costOf_65 : decode cMo_costOf 65 = .ok (.iconst 4, 1) := by decide +kernel
theorem dMo_costOf_66 : decode cMo_costOf 66 = .ok (.if_icmp .ne 9, 3) := by decide +kernel
theorem dMo_costOf_69 : decode cMo_costOf 69 = .ok (.sipush 5000, 3) := by decide +kernel
theorem dMo_costOf_72 : decode cMo_costOf 72 = .ok (.goto 4, 3) := by decide +kernel
theorem dMo_costOf_75 : decode cMo_costOf 75 = .ok (.iconst 0, 1) := by decide +kernel
theorem dMo_costOf_76 : decode cMo_costOf 76 = .ok (.iadd, 1) := by decide +kernel
theorem dMo_costOf_77 : decode cMo_costOf 77 = .ok (.istore_n 3, 1) := by decide +kernel
theorem dMo_costOf_78 : decode cMo_costOf 78 = .ok (.iinc 4 (-1), 3) := by decide +kernel
theorem dMo_costOf_81 : decode cMo_costOf 81 = .ok (.goto (-69), 3) := by decide +kernel
theorem dMo_costOf_84 : decode cMo_costOf 84 = .ok (.iconst 0, 1) := by decide +kernel
theorem dMo_costOf_85 : decode cMo_costOf 85 = .ok (.istore 4, 2) := by decide +kernel
theorem dMo_costOf_87 : decode cMo_costOf 87 = .ok (.iload 4, 2) := by decide +kernel
theorem dMo_costOf_89 : decode cMo_costOf 89 = .ok (.aload_n 0, 1) := by decide +kernel
theorem dMo_costOf_90 : decode cMo_costOf 90 = .ok (.getfield 16, 3) := by decide +kernel
theorem dMo_costOf_93 : decode cMo_costOf 93 = .ok (.if_icmp .ge 40, 3) := by decide +kernel
theorem dMo_costOf_96 : decode cMo_costOf 96 = .ok (.aload_n 0, 1) := by decide +kernel
theorem dMo_costOf_97 : decode cMo_costOf 97 = .ok (.getfield 91, 3) := by decide +kernel
theorem dMo_costOf_100 : decode cMo_costOf 100 = .ok (.bipush 32, 2) := by decide +kernel
theorem dMo_costOf_102 : decode cMo_costOf 102 = .ok (.iload 4, 2) := by decide +kernel
theorem dMo_costOf_104 : decode cMo_costOf 104 = .ok (.imul, 1) := by decide +kernel
theorem dMo_costOf_105 : decode cMo_costOf 105 = .ok (.aload_n 0, 1) := by decide +kernel
theorem dMo_costOf_106 : decode cMo_costOf 106 = .ok (.iload 4, 2) := by decide +kernel
theorem dMo_costOf_108 : decode cMo_costOf 108 = .ok (.invokevirtual 124, 3) := by decide +kernel
theorem dMo_costOf_111 : decode cMo_costOf 111 = .ok (.iadd, 1) := by decide +kernel
theorem dMo_costOf_112 : decode cMo_costOf 112 = .ok (.iaload, 1) := by decide +kernel
theorem dMo_costOf_113 : decode cMo_costOf 113 = .ok (.istore 5, 2) := by decide +kernel
theorem dMo_costOf_115 : decode cMo_costOf 115 = .ok (.iload 5, 2) := by decide +kernel
theorem dMo_costOf_117 : decode cMo_costOf 117 = .ok (.ifCond .ge 5, 3) := by decide +kernel
theorem dMo_costOf_120 : decode cMo_costOf 120 = .ok (.iconst (-1), 1) := by decide +kernel
theorem dMo_costOf_121 : decode cMo_costOf 121 = .ok (.ireturn, 1) := by decide +kernel
theorem dMo_costOf_122 : decode cMo_costOf 122 = .ok (.iload_n 3, 1) := by decide +kernel
theorem dMo_costOf_123 : decode cMo_costOf 123 = .ok (.iload 5, 2) := by decide +kernel
theorem dMo_costOf_125 : decode cMo_costOf 125 = .ok (.iadd, 1) := by decide +kernel
theorem dMo_costOf_126 : decode cMo_costOf 126 = .ok (.istore_n 3, 1) := by decide +kernel
theorem dMo_costOf_127 : decode cMo_costOf 127 = .ok (.iinc 4 1, 3) := by decide +kernel
theorem dMo_costOf_130 : decode cMo_costOf 130 = .ok (.goto (-43), 3) := by decide +kernel
theorem dMo_costOf_133 : decode cMo_costOf 133 = .ok (.iload_n 3, 1) := by decide +kernel
theorem dMo_costOf_134 : decode cMo_costOf 134 = .ok (.ireturn, 1) := by decide +kernel
abbrev cMo_ahead : ByteArray := prog_7_method_11_code
abbrev mMo_ahead : MD := (⟨"DockBookModel", "ahead", "(II)Z"⟩, cMo_ahead, 3, some (.boolean), [])
theorem dMo_ahead_0 : decode cMo_ahead 0 = .ok (.aload_n 0, 1) := by decide +kernel
theorem dMo_ahead_1 : decode cMo_ahead 1 = .ok (.getfield 51, 3) := by decide +kernel
theorem dMo_ahead_4 : decode cMo_ahead 4 = .ok (.iload_n 1, 1) := by decide +kernel
theorem dMo_ahead_5 : decode cMo_ahead 5 = .ok (.iaload, 1) := by decide +kernel
theorem dMo_ahead_6 : decode cMo_ahead 6 = .ok (.aload_n 0, 1) := by decide +kernel
theorem dMo_ahead_7 : decode cMo_ahead 7 = .ok (.getfield 51, 3) := by decide +kernel
theorem dMo_ahead_10 : decode cMo_ahead 10 = .ok (.iload_n 2, 1) := by decide +kernel
theorem dMo_ahead_11 : decode cMo_ahead 11 = .ok (.iaload, 1) := by decide +kernel
theorem dMo_ahead_12 : decode cMo_ahead 12 = .ok (.if_icmp .eq 24, 3) := by decide +kernel
theorem dMo_ahead_15 : decode cMo_ahead 15 = .ok (.aload_n 0, 1) := by decide +kernel
theorem dMo_ahead_16 : decode cMo_ahead 16 = .ok (.getfield 51, 3) := by decide +kernel
theorem dMo_ahead_19 : decode cMo_ahead 19 = .ok (.iload_n 1, 1) := by decide +kernel
theorem dMo_ahead_20 : decode cMo_ahead 20 = .ok (.iaload, 1) := by decide +kernel
theorem dMo_ahead_21 : decode cMo_ahead 21 = .ok (.aload_n 0, 1) := by decide +kernel
theorem dMo_ahead_22 : decode cMo_ahead 22 = .ok (.getfield 51, 3) := by decide +kernel
theorem dMo_ahead_25 : decode cMo_ahead 25 = .ok (.iload_n 2, 1) := by decide +kernel
theorem dMo_ahead_26 : decode cMo_ahead 26 = .ok (.iaload, 1) := by decide +kernel
theorem dMo_ahead_27 : decode cMo_ahead 27 = .ok (.if_icmp .ge 7, 3) := by decide +kernel
theorem dMo_ahead_30 : decode cMo_ahead 30 = .ok (.iconst 1, 1) := by decide +kernel
theorem dMo_ahead_31 : decode cMo_ahead 31 = .ok (.goto 4, 3) := by decide +kernel
theorem dMo_ahead_34 : decode cMo_ahead 34 = .ok (.iconst 0, 1) := by decide +kernel
theorem dMo_ahead_35 : decode cMo_ahead 35 = .ok (.ireturn, 1) := by decide +kernel
theorem dMo_ahead_36 : decode cMo_ahead 36 = .ok (.aload_n 0, 1) := by decide +kernel
theorem dMo_ahead_37 : decode cMo_ahead 37 = .ok (.getfield 45, 3) := by decide +kernel
theorem dMo_ahead_40 : decode cMo_ahead 40 = .ok (.iload_n 1, 1) := by decide +kernel
theorem dMo_ahead_41 : decode cMo_ahead 41 = .ok (.iaload, 1) := by decide +kernel
theorem dMo_ahead_42 : decode cMo_ahead 42 = .ok (.aload_n 0, 1) := by decide +kernel
theorem dMo_ahead_43 : decode cMo_ahead 43 = .ok (.getfield 45, 3) := by decide +kernel
theorem dMo_ahead_46 : decode cMo_ahead 46 = .ok (.iload_n 2, 1) := by decide +kernel
theorem dMo_ahead_47 : decode cMo_ahead 47 = .ok (.iaload, 1) := by decide +kernel
theorem dMo_ahead_48 : decode cMo_ahead 48 = .ok (.if_icmp .eq 26, 3) := by decide +kernel
theorem dMo_ahead_51 : decode cMo_ahead 51 = .ok (.aload_n 0, 1) := by decide +kernel
theorem dMo_ahead_52 : decode cMo_ahead 52 = .ok (.getfield 45, 3) := by decide +kernel
theorem dMo_ahead_55 : decode cMo_ahead 55 = .ok (.iload_n 1, 1) := by decide +kernel
theorem dMo_ahead_56 : decode cMo_ahead 56 = .ok (.iaload, 1) := by decide +kernel
theorem dMo_ahead_57 : decode cMo_ahead 57 = .ok (.aload_n 0, 1) := by decide +kernel
theorem dMo_ahead_58 : decode cMo_ahead 58 = .ok (.getfield 45, 3) := by decide +kernel
theorem dMo_ahead_61 : decode cMo_ahead 61 = .ok (.iload_n 2, 1) := by decide +kernel
theorem dMo_ahead_62 : decode cMo_ahead 62 = .ok (.iaload, 1) := by decide +kernel
theorem dMo_ahead_63 : decode cMo_ahead 63 = .ok (.if_icmp .ge 7, 3) := by decide +kernel
theorem dMo_ahead_66 : decode cMo_ahead 66 = .ok (.iconst 1, 1) := by decide +kernel
theorem dMo_ahead_67 : decode cMo_ahead 67 = .ok (.goto 17, 3) := by decide +kernel
theorem dMo_ahead_70 : decode cMo_ahead 70 = .ok (.iconst 0, 1) := by decide +kernel
theorem dMo_ahead_71 : decode cMo_ahead 71 = .ok (.goto 13, 3) := by decide +kernel
theorem dMo_ahead_74 : decode cMo_ahead 74 = .ok (.iload_n 1, 1) := by decide +kernel
theorem dMo_ahead_75 : decode cMo_ahead 75 = .ok (.iload_n 2, 1) := by decide +kernel
theorem dMo_ahead_76 : decode cMo_ahead 76 = .ok (.if_icmp .ge 7, 3) := by decide +kernel
theorem dMo_ahead_79 : decode cMo_ahead 79 = .ok (.iconst 1, 1) := by decide +kernel
theorem dMo_ahead_80 : decode cMo_ahead 80 = .ok (.goto 4, 3) := by decide +kernel
theorem dMo_ahead_83 : decode cMo_ahead 83 = .ok (.iconst 0, 1) := by decide +kernel
theorem dMo_ahead_84 : decode cMo_ahead 84 = .ok (.ireturn, 1) := by decide +kernel
abbrev cMo_byRule : ByteArray := prog_7_method_12_code
abbrev mMo_byRule : MD := (⟨"DockBookModel", "byRule", "()V"⟩, cMo_byRule, 7, none, [])
theorem dMo_byRule_0 : decode cMo_byRule 0 = .ok (.iconst 0, 1) := by decide +kernel
theorem dMo_byRule_1 : decode cMo_byRule 1 = .ok (.istore_n 1, 1) := by decide +kernel
theorem dMo_byRule_2 : decode cMo_byRule 2 = .ok (.iconst 0, 1) := by decide +kernel
theorem dMo_byRule_3 : decode cMo_byRule 3 = .ok (.istore_n 2, 1) := by decide +kernel
theorem dMo_byRule_4 : decode cMo_byRule 4 = .ok (.iload_n 2, 1) := by decide +kernel
theorem dMo_byRule_5 : decode cMo_byRule 5 = .ok (.aload_n 0, 1) := by decide +kernel
theorem dMo_byRule_6 : decode cMo_byRule 6 = .ok (.getfield 79, 3) := by decide +kernel
theorem dMo_byRule_9 : decode cMo_byRule 9 = .ok (.if_icmp .ge 16, 3) := by decide +kernel
theorem dMo_byRule_12 : decode cMo_byRule 12 = .ok (.aload_n 0, 1) := by decide +kernel
theorem dMo_byRule_13 : decode cMo_byRule 13 = .ok (.getfield 85, 3) := by decide +kernel
theorem dMo_byRule_16 : decode cMo_byRule 16 = .ok (.iload_n 2, 1) := by decide +kernel
theorem dMo_byRule_17 : decode cMo_byRule 17 = .ok (.iconst (-1), 1) := by decide +kernel
theorem dMo_byRule_18 : decode cMo_byRule 18 = .ok (.iastore, 1) := by decide +kernel
theorem dMo_byRule_19 : decode cMo_byRule 19 = .ok (.iinc 2 1, 3) := by decide +kernel
theorem dMo_byRule_22 : decode cMo_byRule 22 = .ok (.goto (-18), 3) := by decide +kernel
theorem dMo_byRule_25 : decode cMo_byRule 25 = .ok (.iconst 0, 1) := by decide +kernel
theorem dMo_byRule_26 : decode cMo_byRule 26 = .ok (.istore_n 2, 1) := by decide +kernel
theorem dMo_byRule_27 : decode cMo_byRule 27 = .ok (.iload_n 2, 1) := by decide +kernel
theorem dMo_byRule_28 : decode cMo_byRule 28 = .ok (.aload_n 0, 1) := by decide +kernel
theorem dMo_byRule_29 : decode cMo_byRule 29 = .ok (.getfield 79, 3) := by decide +kernel
theorem dMo_byRule_32 : decode cMo_byRule 32 = .ok (.if_icmp .ge 254, 3) := by decide +kernel
theorem dMo_byRule_35 : decode cMo_byRule 35 = .ok (.iconst (-1), 1) := by decide +kernel
theorem dMo_byRule_36 : decode cMo_byRule 36 = .ok (.istore_n 3, 1) := by decide +kernel
theorem dMo_byRule_37 : decode cMo_byRule 37 = .ok (.iconst 0, 1) := by decide +kernel
theorem dMo_byRule_38 : decode cMo_byRule 38 = .ok (.istore 4, 2) := by decide +kernel
theorem dMo_byRule_40 : decode cMo_byRule 40 = .ok (.iload 4, 2) := by decide +kernel
theorem dMo_byRule_42 : decode cMo_byRule 42 = .ok (.aload_n 0, 1) := by decide +kernel
theorem dMo_byRule_43 : decode cMo_byRule 43 = .ok (.getfield 79, 3) := by decide +kernel
theorem dMo_byRule_46 : decode cMo_byRule 46 = .ok (.if_icmp .ge 45, 3) := by decide +kernel
theorem dMo_byRule_49 : decode cMo_byRule 49 = .ok (.iload_n 1, 1) := by decide +kernel
theorem dMo_byRule_50 : decode cMo_byRule 50 = .ok (.iload 4, 2) := by decide +kernel
theorem dMo_byRule_52 : decode cMo_byRule 52 = .ok (.ishr, 1) := by decide +kernel
theorem dMo_byRule_53 : decode cMo_byRule 53 = .ok (.iconst 1, 1) := by decide +kernel
theorem dMo_byRule_54 : decode cMo_byRule 54 = .ok (.iand, 1) := by decide +kernel
theorem dMo_byRule_55 : decode cMo_byRule 55 = .ok (.ifCond .ne 30, 3) := by decide +kernel
theorem dMo_byRule_58 : decode cMo_byRule 58 = .ok (.iload_n 3, 1) := by decide +kernel
theorem dMo_byRule_59 : decode cMo_byRule 59 = .ok (.ifCond .lt 23, 3) := by decide +kernel
theorem dMo_byRule_62 : decode cMo_byRule 62 = .ok (.aload_n 0, 1) := by decide +kernel
theorem dMo_byRule_63 : decode cMo_byRule 63 = .ok (.aload_n 0, 1) := by decide +kernel
theorem dMo_byRule_64 : decode cMo_byRule 64 = .ok (.getfield 82, 3) := by decide +kernel
theorem dMo_byRule_67 : decode cMo_byRule 67 = .ok (.iload 4, 2) := by decide +kernel
theorem dMo_byRule_69 : decode cMo_byRule 69 = .ok (.iaload, 1) := by decide +kernel
theorem dMo_byRule_70 : decode cMo_byRule 70 = .ok (.aload_n 0, 1) := by decide +kernel
theorem dMo_byRule_71 : decode cMo_byRule 71 = .ok (.getfield 82, 3) := by decide +kernel
theorem dMo_byRule_74 : decode cMo_byRule 74 = .ok (.iload_n 3, 1) := by decide +kernel
theorem dMo_byRule_75 : decode cMo_byRule 75 = .ok (.iaload, 1) := by decide +kernel
theorem dMo_byRule_76 : decode cMo_byRule 76 = .ok (.invokevirtual 127, 3) := by decide +kernel
theorem dMo_byRule_79 : decode cMo_byRule 79 = .ok (.ifCond .eq 6, 3) := by decide +kernel
theorem dMo_byRule_82 : decode cMo_byRule 82 = .ok (.iload 4, 2) := by decide +kernel
theorem dMo_byRule_84 : decode cMo_byRule 84 = .ok (.istore_n 3, 1) := by decide +kernel
theorem dMo_byRule_85 : decode cMo_byRule 85 = .ok (.iinc 4 1, 3) := by decide +kernel
theorem dMo_byRule_88 : decode cMo_byRule 88 = .ok (.goto (-48), 3) := by decide +kernel
theorem dMo_byRule_91 : decode cMo_byRule 91 = .ok (.iload_n 1, 1) := by decide +kernel
theorem dMo_byRule_92 : decode cMo_byRule 92 = .ok (.iconst 1, 1) := by decide +kernel
theorem dMo_byRule_93 : decode cMo_byRule 93 = .ok (.iload_n 3, 1) := by decide +kernel
theorem dMo_byRule_94 : decode cMo_byRule 94 = .ok (.ishl, 1) := by decide +kernel
theorem dMo_byRule_95 : decode cMo_byRule 95 = .ok (.ior, 1) := by decide +kernel
theorem dMo_byRule_96 : decode cMo_byRule 96 = .ok (.istore_n 1, 1) := by decide +kernel
theorem dMo_byRule_97 : decode cMo_byRule 97 = .ok (.aload_n 0, 1) := by decide +kernel
theorem dMo_byRule_98 : decode cMo_byRule 98 = .ok (.getfield 88, 3) := by decide +kernel
theorem dMo_byRule_101 : decode cMo_byRule 101 = .ok (.iload_n 3, 1) := by decide +kernel
theorem dMo_byRule_102 : decode cMo_byRule 102 = .ok (.iconst (-1), 1) := by decide +kernel
theorem dMo_byRule_103 : decode cMo_byRule 103 = .ok (.iastore, 1) := by decide +kernel
theorem dMo_byRule_104 : decode cMo_byRule 104 = .ok (.iconst 0, 1) := by decide +kernel
theorem dMo_byRule_105 : decode cMo_byRule 105 = .ok (.istore 4, 2) := by decide +kernel
theorem dMo_byRule_107 : decode cMo_byRule 107 = .ok (.iload 4, 2) := by decide +kernel
theorem dMo_byRule_109 : decode cMo_byRule 109 = .ok (.aload_n 0, 1) := by decide +kernel
theorem dMo_byRule_110 : decode cMo_byRule 110 = .ok (.getfield 16, 3) := by decide +kernel
theorem dMo_byRule_113 : decode cMo_byRule 113 = .ok (.if_icmp .ge 167, 3) := by decide +kernel
theorem dMo_byRule_116 : decode cMo_byRule 116 = .ok (.aload_n 0, 1) := by decide +kernel
theorem dMo_byRule_117 : decode cMo_byRule 117 = .ok (.iload 4, 2) := by decide +kernel
theorem dMo_byRule_119 : decode cMo_byRule 119 = .ok (.invokevirtual 107, 3) := by decide +kernel
theorem dMo_byRule_122 : decode cMo_byRule 122 = .ok (.istore 5, 2) := by decide +kernel
theorem dMo_byRule_124 : decode cMo_byRule 124 = .ok (.iconst 0, 1) := by decide +kernel
theorem dMo_byRule_125 : decode cMo_byRule 125 = .ok (.istore 6, 2) := by decide +kernel
theorem dMo_byRule_127 : decode cMo_byRule 127 = .ok (.iload 6, 2) := by decide +kernel
theorem dMo_byRule_129 : decode cMo_byRule 129 = .ok (.aload_n 0, 1) := by decide +kernel
theorem dMo_byRule_130 : decode cMo_byRule 130 = .ok (.getfield 79, 3) := by decide +kernel
theorem dMo_byRule_133 : decode cMo_byRule 133 = .ok (.if_icmp .ge 84, 3) := by decide +kernel
theorem dMo_byRule_136 : decode cMo_byRule 136 = .ok (.iload_n 1, 1) := by decide +kernel
theorem dMo_byRule_137 : decode cMo_byRule 137 = .ok (.iload 6, 2) := by decide +kernel
theorem dMo_byRule_139 : decode cMo_byRule 139 = .ok (.ishr, 1) := by decide +kernel
theorem dMo_byRule_140 : decode cMo_byRule 140 = .ok (.iconst 1, 1) := by decide +kernel
theorem dMo_byRule_141 : decode cMo_byRule 141 = .ok (.iand, 1) := by decide +kernel
theorem dMo_byRule_142 : decode cMo_byRule 142 = .ok (.iconst 1, 1) := by decide +kernel
theorem dMo_byRule_143 : decode cMo_byRule 143 = .ok (.if_icmp .ne 68, 3) := by decide +kernel
theorem dMo_byRule_146 : decode cMo_byRule 146 = .ok (.iload 6, 2) := by decide +kernel
theorem dMo_byRule_148 : decode cMo_byRule 148 = .ok (.iload_n 3, 1) := by decide +kernel
theorem dMo_byRule_149 : decode cMo_byRule 149 = .ok (.if_icmp .eq 62, 3) := by decide +kernel
theorem dMo_byRule_152 : decode cMo_byRule 152 = .ok (.aload_n 0, 1) := by decide +kernel
theorem dMo_byRule_153 : decode cMo_byRule 153 = .ok (.getfield 85, 3) := by decide +kernel
theorem dMo_byRule_156 : decode cMo_byRule 156 = .ok (.iload 6, 2) := by decide +kernel
theorem dMo_byRule_158 : decode cMo_byRule 158 = .ok (.iaload, 1) := by decide +kernel
theorem dMo_byRule_159 : decode cMo_byRule 159 = .ok (.iload 4, 2) := by decide +kernel
theorem dMo_byRule_161 : decode cMo_byRule 161 = .ok (.if_icmp .ne 50, 3) := by decide +kernel
theorem dMo_byRule_164 : decode cMo_byRule 164 = .ok (.aload_n 0, 1) := by decide +kernel
theorem dMo_byRule_165 : decode cMo_byRule 165 = .ok (.getfield 88, 3) := by decide +kernel
theorem dMo_byRule_168 : decode cMo_byRule 168 = .ok (.iload 6, 2) := by decide +kernel
theorem dMo_byRule_170 : decode cMo_byRule 170 = .ok (.iaload, 1) := by decide +kernel
theorem dMo_byRule_171 : decode cMo_byRule 171 = .ok (.aload_n 0, 1) := by decide +kernel
theorem dMo_byRule_172 : decode cMo_byRule 172 = .ok (.getfield 48, 3) := by decide +kernel
theorem dMo_byRule_175 : decode cMo_byRule 175 = .ok (.aload_n 0, 1) := by decide +kernel
theorem dMo_byRule_176 : decode cMo_byRule 176 = .ok (.getfield 82, 3) := by decide +kernel
theorem dMo_byRule_179 : decode cMo_byRule 179 = .ok (.iload 6, 2) := by decide +kernel
theorem dMo_byRule_181 : decode cMo_byRule 181 = .ok (.iaload, 1) := by decide +kernel
theorem dMo_byRule_182 : decode cMo_byRule 182 = .ok (.iaload, 1) := by decide +kernel
theorem dMo_byRule_183 : decode cMo_byRule 183 = .ok (.iadd, 1) := by decide +kernel
theorem dMo_byRule_184 : decode cMo_byRule 184 = .ok (.iload 5, 2) := by decide +kernel
theorem dMo_byRule_186 : decode cMo_byRule 186 = .ok (.if_icmp .le 25, 3) := by decide +kernel
theorem dMo_byRule_189 : decode cMo_byRule 189 = .ok (.aload_n 0, 1) := by decide +kernel
theorem dMo_byRule_190 : decode cMo_byRule 190 = .ok (.getfield 88, 3) := by decide +kernel
theorem dMo_byRule_193 : decode cMo_byRule 193 = .ok (.iload 6, 2) := by decide +kernel
theorem dMo_byRule_195 : decode cMo_byRule 195 = .ok (.iaload, 1) := by decide +kernel
theorem dMo_byRule_196 : decode cMo_byRule 196 = .ok (.aload_n 0, 1) := by decide +kernel
theorem dMo_byRule_197 : decode cMo_byRule 197 = .ok (.getfield 48, 3) := by decide +kernel
theorem dMo_byRule_200 : decode cMo_byRule 200 = .ok (.aload_n 0, 1) := by decide +kernel
theorem dMo_byRule_201 : decode cMo_byRule 201 = .ok (.getfield 82, 3) := by decide +kernel
theorem dMo_byRule_204 : decode cMo_byRule 204 = .ok (.iload 6, 2) := by decide +kernel
theorem dMo_byRule_206 : decode cMo_byRule 206 = .ok (.iaload, 1) := by decide +kernel
theorem dMo_byRule_207 : decode cMo_byRule 207 = .ok (.iaload, 1) := by decide +kernel
theorem dMo_byRule_208 : decode cMo_byRule 208 = .ok (.iadd, 1) := by decide +kernel
theorem dMo_byRule_209 : decode cMo_byRule 209 = .ok (.istore 5, 2) := by decide +kernel
theorem dMo_byRule_211 : decode cMo_byRule 211 = .ok (.iinc 6 1, 3) := by decide +kernel
theorem dMo_byRule_214 : decode cMo_byRule 214 = .ok (.goto (-87), 3) := by decide +kernel
theorem dMo_byRule_217 : decode cMo_byRule 217 = .ok (.aload_n 0, 1) := by decide +kernel
theorem dMo_byRule_218 : decode cMo_byRule 218 = .ok (.aload_n 0, 1) := by decide +kernel
theorem dMo_byRule_219 : decode cMo_byRule 219 = .ok (.getfield 82, 3) := by decide +kernel
theorem dMo_byRule_222 : decode cMo_byRule 222 = .ok (.iload_n 3, 1) := by decide +kernel
theorem dMo_byRule_223 : decode cMo_byRule 223 = .ok (.iaload, 1) := by decide +kernel
theorem dMo_byRule_224 : decode cMo_byRule 224 = .ok (.iload 4, 2) := by decide +kernel
theorem dMo_byRule_226 : decode cMo_byRule 226 = .ok (.iload 5, 2) := by decide +kernel
theorem dMo_byRule_228 : decode cMo_byRule 228 = .ok (.invokevirtual 110, 3) := by decide +kernel
theorem dMo_byRule_231 : decode cMo_byRule 231 = .ok (.istore 6, 2) := by decide +kernel
theorem dMo_byRule_233 : decode cMo_byRule 233 = .ok (.iload 6, 2) := by decide +kernel
theorem dMo_byRule_235 : decode cMo_byRule 235 = .ok (.ifCond .lt 39, 3) := by decide +kernel
theorem dMo_byRule_238 : decode cMo_byRule 238 = .ok (.aload_n 0, 1) := by decide +kernel
theorem dMo_byRule_239 : decode cMo_byRule 239 = .ok (.getfield 85, 3) := by decide +kernel
theorem dMo_byRule_242 : decode cMo_byRule 242 = .ok (.iload_n 3, 1) := by decide +kernel
theorem dMo_byRule_243 : decode cMo_byRule 243 = .ok (.iaload, 1) := by decide +kernel
theorem dMo_byRule_244 : decode cMo_byRule 244 = .ok (.ifCond .lt 14, 3) := by decide +kernel
theorem dMo_byRule_247 : decode cMo_byRule 247 = .ok (.iload 6, 2) := by decide +kernel
theorem dMo_byRule_249 : decode cMo_byRule 249 = .ok (.aload_n 0, 1) := by decide +kernel
theorem dMo_byRule_250 : decode cMo_byRule 250 = .ok (.getfield 88, 3) := by decide +kernel
theorem dMo_byRule_253 : decode cMo_byRule 253 = .ok (.iload_n 3, 1) := by decide +kernel
theorem dMo_byRule_254 : decode cMo_byRule 254 = .ok (.iaload, 1) := by decide +kernel
theorem dMo_byRule_255 : decode cMo_byRule 255 = .ok (.if_icmp .ge 19, 3) := by decide +kernel
theorem dMo_byRule_258 : decode cMo_byRule 258 = .ok (.aload_n 0, 1) := by decide +kernel
theorem dMo_byRule_259 : decode cMo_byRule 259 = .ok (.getfield 85, 3) := by decide +kernel
theorem dMo_byRule_262 : decode cMo_byRule 262 = .ok (.iload_n 3, 1) := by decide +kernel
theorem dMo_byRule_263 : decode cMo_byRule 263 = .ok (.iload 4, 2) := by decide +kernel
theorem dMo_byRule_265 : decode cMo_byRule 265 = .ok (.iastore, 1) := by decide +kernel
theorem dMo_byRule_266 : decode cMo_byRule 266 = .ok (.aload_n 0, 1) := by decide +kernel
theorem dMo_byRule_267 : decode cMo_byRule 267 = .ok (.getfield 88, 3) := by decide +kernel
theorem dMo_byRule_270 : decode cMo_byRule 270 = .ok (.iload_n 3, 1) := by decide +kernel
theorem dMo_byRule_271 : decode cMo_byRule 271 = .ok (.iload 6, 2) := by decide +kernel
theorem dMo_byRule_273 : decode cMo_byRule 273 = .ok (.iastore, 1) := by decide +kernel
theorem dMo_byRule_274 : decode cMo_byRule 274 = .ok (.iinc 4 1, 3) := by decide +kernel
theorem dMo_byRule_277 : decode cMo_byRule 277 = .ok (.goto (-170), 3) := by decide +kernel
theorem dMo_byRule_280 : decode cMo_byRule 280 = .ok (.iinc 2 1, 3) := by decide +kernel
theorem dMo_byRule_283 : decode cMo_byRule 283 = .ok (.goto (-256), 3) := by decide +kernel
theorem dMo_byRule_286 : decode cMo_byRule 286 = .ok (.return_, 1) := by decide +kernel
abbrev cMo_costNow : ByteArray := prog_7_method_13_code
abbrev mMo_costNow : MD := (⟨"DockBookModel", "costNow", "()I"⟩, cMo_costNow, 3, some (.int), [])
theorem dMo_costNow_0 : decode cMo_costNow 0 = .ok (.iconst 0, 1) := by decide +kernel
theorem dMo_costNow_1 : decode cMo_costNow 1 = .ok (.istore_n 1, 1) := by decide +kernel
theorem dMo_costNow_2 : decode cMo_costNow 2 = .ok (.iconst 0, 1) := by decide +kernel
theorem dMo_costNow_3 : decode cMo_costNow 3 = .ok (.istore_n 2, 1) := by decide +kernel
theorem dMo_costNow_4 : decode cMo_costNow 4 = .ok (.iload_n 2, 1) := by decide +kernel
theorem dMo_costNow_5 : decode cMo_costNow 5 = .ok (.aload_n 0, 1) := by decide +kernel
theorem dMo_costNow_6 : decode cMo_costNow 6 = .ok (.getfield 36, 3) := by decide +kernel
theorem dMo_costNow_9 : decode cMo_costNow 9 = .ok (.if_icmp .ge 49, 3) := by decide +kernel
theorem dMo_costNow_12 : decode cMo_costNow 12 = .ok (.aload_n 0, 1) := by decide +kernel
theorem dMo_costNow_13 : decode cMo_costNow 13 = .ok (.getfield 39, 3) := by decide +kernel
theorem dMo_costNow_16 : decode cMo_costNow 16 = .ok (.iload_n 2, 1) := by decide +kernel
theorem dMo_costNow_17 : decode cMo_costNow 17 = .ok (.iaload, 1) := by decide +kernel
theorem dMo_costNow_18 : decode cMo_costNow 18 = .ok (.ifCond .ne 34, 3) := by decide +kernel
theorem dMo_costNow_21 : decode cMo_costNow 21 = .ok (.iload_n 1, 1) := by decide +kernel
theorem dMo_costNow_22 : decode cMo_costNow 22 = .ok (.aload_n 0, 1) := by decide +kernel
theorem dMo_costNow_23 : decode cMo_costNow 23 = .ok (.getfield 54, 3) := by decide +kernel
theorem dMo_costNow_26 : decode cMo_costNow 26 = .ok (.iload_n 2, 1) := by decide +kernel
theorem dMo_costNow_27 : decode cMo_costNow 27 = .ok (.iaload, 1) := by decide +kernel
theorem dMo_costNow_28 : decode cMo_costNow 28 = .ok (.ifCond .ge 9, 3) := by decide +kernel
theorem dMo_costNow_31 : decode cMo_costNow 31 = .ok (.sipush 5000, 3) := by decide +kernel
theorem dMo_costNow_34 : decode cMo_costNow 34 = .ok (.goto 16, 3) := by decide +kernel
theorem dMo_costNow_37 : decode cMo_costNow 37 = .ok (.aload_n 0, 1) := by decide +kernel
theorem dMo_costNow_38 : decode cMo_costNow 38 = .ok (.getfield 57, 3) := by decide +kernel
theorem dMo_costNow_41 : decode cMo_costNow 41 = .ok (.iload_n 2, 1) := by decide +kernel
theorem dMo_costNow_42 : decode cMo_costNow 42 = .ok (.iaload, 1) := by decide +kernel
theorem dMo_costNow_43 : decode cMo_costNow 43 = .ok (.aload_n 0, 1) := by decide +kernel
theorem dMo_costNow_44 : decode cMo_costNow 44 = .ok (.getfield 45, 3) := by decide +kernel
theorem dMo_costNow_47 : decode cMo_costNow 47 = .ok (.iload_n 2, 1) := by decide +kernel
theorem dMo_costNow_48 : decode cMo_costNow 48 = .ok (.iaload, 1) := by decide +kernel
theorem dMo_costNow_49 : decode cMo_costNow 49 = .ok (.isub, 1) := by decide +kernel
theorem dMo_costNow_50 : decode cMo_costNow 50 = .ok (.iadd, 1) := by decide +kernel
theorem dMo_costNow_51 : decode cMo_costNow 51 = .ok (.istore_n 1, 1) := by decide +kernel
theorem dMo_costNow_52 : decode cMo_costNow 52 = .ok (.iinc 2 1, 3) := by decide +kernel
theorem dMo_costNow_55 : decode cMo_costNow 55 = .ok (.goto (-51), 3) := by decide +kernel
theorem dMo_costNow_58 : decode cMo_costNow 58 = .ok (.iload_n 1, 1) := by decide +kernel
theorem dMo_costNow_59 : decode cMo_costNow 59 = .ok (.ireturn, 1) := by decide +kernel
abbrev cMo_nothing : ByteArray := prog_7_method_14_code
abbrev mMo_nothing : MD := (⟨"DockBookModel", "nothing", "(I)V"⟩, cMo_nothing, 2, none, [])
theorem dMo_nothing_0 : decode cMo_nothing 0 = .ok (.aload_n 0, 1) := by decide +kernel
theorem dMo_nothing_1 : decode cMo_nothing 1 = .ok (.getfield 54, 3) := by decide +kernel
theorem dMo_nothing_4 : decode cMo_nothing 4 = .ok (.iload_n 1, 1) := by decide +kernel
theorem dMo_nothing_5 : decode cMo_nothing 5 = .ok (.iconst (-1), 1) := by decide +kernel
theorem dMo_nothing_6 : decode cMo_nothing 6 = .ok (.iastore, 1) := by decide +kernel
theorem dMo_nothing_7 : decode cMo_nothing 7 = .ok (.aload_n 0, 1) := by decide +kernel
theorem dMo_nothing_8 : decode cMo_nothing 8 = .ok (.getfield 57, 3) := by decide +kernel
theorem dMo_nothing_11 : decode cMo_nothing 11 = .ok (.iload_n 1, 1) := by decide +kernel
theorem dMo_nothing_12 : decode cMo_nothing 12 = .ok (.iconst (-1), 1) := by decide +kernel
theorem dMo_nothing_13 : decode cMo_nothing 13 = .ok (.iastore, 1) := by decide +kernel
theorem dMo_nothing_14 : decode cMo_nothing 14 = .ok (.return_, 1) := by decide +kernel
abbrev cMo_thrown : ByteArray := prog_7_method_15_code
abbrev mMo_thrown : MD := (⟨"DockBookModel", "thrown", "()I"⟩, cMo_thrown, 1, some (.int), [])
theorem dMo_thrown_0 : decode cMo_thrown 0 = .ok (.aload_n 0, 1) := by decide +kernel
theorem dMo_thrown_1 : decode cMo_thrown 1 = .ok (.getfield 7, 3) := by decide +kernel
theorem dMo_thrown_4 : decode cMo_thrown 4 = .ok (.ireturn, 1) := by decide +kernel
abbrev cMo_not : ByteArray := prog_7_method_16_code
abbrev mMo_not : MD := (⟨"DockBookModel", "not", "(III)Z"⟩, cMo_not, 3, some (.boolean), [])
theorem dMo_not_0 : decode cMo_not 0 = .ok (.iload_n 0, 1) := by decide +kernel
theorem dMo_not_1 : decode cMo_not 1 = .ok (.iload_n 1, 1) := by decide +kernel
theorem dMo_not_2 : decode cMo_not 2 = .ok (.if_icmp .lt 8, 3) := by decide +kernel
theorem dMo_not_5 : decode cMo_not 5 = .ok (.iload_n 0, 1) := by decide +kernel
theorem dMo_not_6 : decode cMo_not 6 = .ok (.iload_n 2, 1) := by decide +kernel
theorem dMo_not_7 : decode cMo_not 7 = .ok (.if_icmp .le 7, 3) := by decide +kernel
theorem dMo_not_10 : decode cMo_not 10 = .ok (.iconst 1, 1) := by decide +kernel
theorem dMo_not_11 : decode cMo_not 11 = .ok (.goto 4, 3) := by decide +kernel
theorem dMo_not_14 : decode cMo_not 14 = .ok (.iconst 0, 1) := by decide +kernel
theorem dMo_not_15 : decode cMo_not 15 = .ok (.ireturn, 1) := by decide +kernel
abbrev cMo_noTruck : ByteArray := prog_7_method_17_code
abbrev mMo_noTruck : MD := (⟨"DockBookModel", "noTruck", "(I)Z"⟩, cMo_noTruck, 2, some (.boolean), [])
theorem dMo_noTruck_0 : decode cMo_noTruck 0 = .ok (.iload_n 1, 1) := by decide +kernel
theorem dMo_noTruck_1 : decode cMo_noTruck 1 = .ok (.ifCond .lt 11, 3) := by decide +kernel
theorem dMo_noTruck_4 : decode cMo_noTruck 4 = .ok (.iload_n 1, 1) := by decide +kernel
theorem dMo_noTruck_5 : decode cMo_noTruck 5 = .ok (.aload_n 0, 1) := by decide +kernel
theorem dMo_noTruck_6 : decode cMo_noTruck 6 = .ok (.getfield 36, 3) := by decide +kernel
theorem dMo_noTruck_9 : decode cMo_noTruck 9 = .ok (.if_icmp .lt 7, 3) := by decide +kernel
theorem dMo_noTruck_12 : decode cMo_noTruck 12 = .ok (.iconst 1, 1) := by decide +kernel
theorem dMo_noTruck_13 : decode cMo_noTruck 13 = .ok (.goto 4, 3) := by decide +kernel
theorem dMo_noTruck_16 : decode cMo_noTruck 16 = .ok (.iconst 0, 1) := by decide +kernel
theorem dMo_noTruck_17 : decode cMo_noTruck 17 = .ok (.ireturn, 1) := by decide +kernel
abbrev cMo_noDoor : ByteArray := prog_7_method_18_code
abbrev mMo_noDoor : MD := (⟨"DockBookModel", "noDoor", "(I)Z"⟩, cMo_noDoor, 2, some (.boolean), [])
theorem dMo_noDoor_0 : decode cMo_noDoor 0 = .ok (.iload_n 1, 1) := by decide +kernel
theorem dMo_noDoor_1 : decode cMo_noDoor 1 = .ok (.ifCond .lt 11, 3) := by decide +kernel
theorem dMo_noDoor_4 : decode cMo_noDoor 4 = .ok (.iload_n 1, 1) := by decide +kernel
theorem dMo_noDoor_5 : decode cMo_noDoor 5 = .ok (.aload_n 0, 1) := by decide +kernel
theorem dMo_noDoor_6 : decode cMo_noDoor 6 = .ok (.getfield 16, 3) := by decide +kernel
theorem dMo_noDoor_9 : decode cMo_noDoor 9 = .ok (.if_icmp .lt 7, 3) := by decide +kernel
theorem dMo_noDoor_12 : decode cMo_noDoor 12 = .ok (.iconst 1, 1) := by decide +kernel
theorem dMo_noDoor_13 : decode cMo_noDoor 13 = .ok (.goto 4, 3) := by decide +kernel
theorem dMo_noDoor_16 : decode cMo_noDoor 16 = .ok (.iconst 0, 1) := by decide +kernel
theorem dMo_noDoor_17 : decode cMo_noDoor 17 = .ok (.ireturn, 1) := by decide +kernel
abbrev cMo_door : ByteArray := prog_7_method_19_code
abbrev mMo_door : MD := (⟨"DockBookModel", "door", "(III)I"⟩, cMo_door, 4, some (.int), [])
theorem dMo_door_0 : decode cMo_door 0 = .ok (.aload_n 0, 1) := by decide +kernel
theorem dMo_door_1 : decode cMo_door 1 = .ok (.iload_n 1, 1) := by decide +kernel
theorem dMo_door_2 : decode cMo_door 2 = .ok (.iconst 0, 1) := by decide +kernel
theorem dMo_door_3 : decode cMo_door 3 = .ok (.sipush 255, 3) := by decide +kernel
theorem dMo_door_6 : decode cMo_door 6 = .ok (.invokestatic 131, 3) := by decide +kernel
theorem dMo_door_9 : decode cMo_door 9 = .ok (.ifCond .ne 30, 3) := by decide +kernel
theorem dMo_door_12 : decode cMo_door 12 = .ok (.iload_n 2, 1) := by decide +kernel
theorem dMo_door_13 : decode cMo_door 13 = .ok (.iconst 0, 1) := by decide +kernel
theorem dMo_door_14 : decode cMo_door 14 = .ok (.sipush 2000, 3) := by decide +kernel
theorem dMo_door_17 : decode cMo_door 17 = .ok (.invokestatic 131, 3) := by decide +kernel
theorem dMo_door_20 : decode cMo_door 20 = .ok (.ifCond .ne 19, 3) := by decide +kernel
theorem dMo_door_23 : decode cMo_door 23 = .ok (.iload_n 3, 1) := by decide +kernel
theorem dMo_door_24 : decode cMo_door 24 = .ok (.iconst 0, 1) := by decide +kernel
theorem dMo_door_25 : decode cMo_door 25 = .ok (.sipush 2000, 3) := by decide +kernel
theorem dMo_door_28 : decode cMo_door 28 = .ok (.invokestatic 131, 3) := by decide +kernel
theorem dMo_door_31 : decode cMo_door 31 = .ok (.ifCond .ne 8, 3) := by decide +kernel
theorem dMo_door_34 : decode cMo_door 34 = .ok (.iload_n 2, 1) := by decide +kernel
theorem dMo_door_35 : decode cMo_door 35 = .ok (.iload_n 3, 1) := by decide +kernel
theorem dMo_door_36 : decode cMo_door 36 = .ok (.if_icmp .lt 7, 3) := by decide +kernel
theorem dMo_door_39 : decode cMo_door 39 = .ok (.iconst 1, 1) := by decide +kernel
theorem dMo_door_40 : decode cMo_door 40 = .ok (.goto 16, 3) := by decide +kernel
theorem dMo_door_43 : decode cMo_door 43 = .ok (.aload_n 0, 1) := by decide +kernel
theorem dMo_door_44 : decode cMo_door 44 = .ok (.getfield 16, 3) := by decide +kernel
theorem dMo_door_47 : decode cMo_door 47 = .ok (.iconst 4, 1) := by decide +kernel
theorem dMo_door_48 : decode cMo_door 48 = .ok (.if_icmp .ne 7, 3) := by decide +kernel
theorem dMo_door_51 : decode cMo_door 51 = .ok (.iconst 2, 1) := by decide +kernel
theorem dMo_door_52 : decode cMo_door 52 = .ok (.goto 4, 3) := by decide +kernel
theorem dMo_door_55 : decode cMo_door 55 = .ok (.iconst 0, 1) := by decide +kernel
theorem dMo_door_56 : decode cMo_door 56 = .ok (.putfield 7, 3) := by decide +kernel
theorem dMo_door_59 : decode cMo_door 59 = .ok (.aload_n 0, 1) := by decide +kernel
theorem dMo_door_60 : decode cMo_door 60 = .ok (.getfield 7, 3) := by decide +kernel
theorem dMo_door_63 : decode cMo_door 63 = .ok (.ifCond .eq 5, 3) := by decide +kernel
theorem dMo_door_66 : decode cMo_door 66 = .ok (.iconst 0, 1) := by decide +kernel
theorem dMo_door_67 : decode cMo_door 67 = .ok (.ireturn, 1) := by decide +kernel
theorem dMo_door_68 : decode cMo_door 68 = .ok (.aload_n 0, 1) := by decide +kernel
theorem dMo_door_69 : decode cMo_door 69 = .ok (.getfield 19, 3) := by decide +kernel
theorem dMo_door_72 : decode cMo_door 72 = .ok (.aload_n 0, 1) := by decide +kernel
theorem dMo_door_73 : decode cMo_door 73 = .ok (.getfield 16, 3) := by decide +kernel
theorem dMo_door_76 : decode cMo_door 76 = .ok (.iload_n 1, 1) := by decide +kernel
theorem dMo_door_77 : decode cMo_door 77 = .ok (.iastore, 1) := by decide +kernel
theorem dMo_door_78 : decode cMo_door 78 = .ok (.aload_n 0, 1) := by decide +kernel
theorem dMo_door_79 : decode cMo_door 79 = .ok (.getfield 23, 3) := by decide +kernel
theorem dMo_door_82 : decode cMo_door 82 = .ok (.aload_n 0, 1) := by decide +kernel
theorem dMo_door_83 : decode cMo_door 83 = .ok (.getfield 16, 3) := by decide +kernel
theorem dMo_door_86 : decode cMo_door 86 = .ok (.iload_n 2, 1) := by decide +kernel
theorem dMo_door_87 : decode cMo_door 87 = .ok (.iastore, 1) := by decide +kernel
theorem dMo_door_88 : decode cMo_door 88 = .ok (.aload_n 0, 1) := by decide +kernel
theorem dMo_door_89 : decode cMo_door 89 = .ok (.getfield 26, 3) := by decide +kernel
theorem dMo_door_92 : decode cMo_door 92 = .ok (.aload_n 0, 1) := by decide +kernel
theorem dMo_door_93 : decode cMo_door 93 = .ok (.getfield 16, 3) := by decide +kernel
theorem dMo_door_96 : decode cMo_door 96 = .ok (.iload_n 3, 1) := by decide +kernel
theorem dMo_door_97 : decode cMo_door 97 = .ok (.iastore, 1) := by decide +kernel
theorem dMo_door_98 : decode cMo_door 98 = .ok (.aload_n 0, 1) := by decide +kernel
theorem dMo_door_99 : decode cMo_door 99 = .ok (.dup, 1) := by decide +kernel
theorem dMo_door_100 : decode cMo_door 100 = .ok (.getfield 16, 3) := by decide +kernel
theorem dMo_door_103 : decode cMo_door 103 = .ok (.iconst 1, 1) := by decide +kernel
theorem dMo_door_104 : decode cMo_door 104 = .ok (.iadd, 1) := by decide +kernel
theorem dMo_door_105 : decode cMo_door 105 = .ok (.putfield 16, 3) := by decide +kernel
theorem dMo_door_108 : decode cMo_door 108 = .ok (.aload_n 0, 1) := by decide +kernel
theorem dMo_door_109 : decode cMo_door 109 = .ok (.getfield 16, 3) := by decide +kernel
theorem dMo_door_112 : decode cMo_door 112 = .ok (.iconst 1, 1) := by decide +kernel
theorem dMo_door_113 : decode cMo_door 113 = .ok (.isub, 1) := by decide +kernel
theorem dMo_door_114 : decode cMo_door 114 = .ok (.ireturn, 1) := by decide +kernel
abbrev cMo_truck : ByteArray := prog_7_method_20_code
abbrev mMo_truck : MD := (⟨"DockBookModel", "truck", "(IIII)I"⟩, cMo_truck, 5, some (.int), [])
theorem dMo_truck_0 : decode cMo_truck 0 = .ok (.aload_n 0, 1) := by decide +kernel
theorem dMo_truck_1 : decode cMo_truck 1 = .ok (.iload_n 1, 1) := by decide +kernel
theorem dMo_truck_2 : decode cMo_truck 2 = .ok (.iconst 0, 1) := by decide +kernel
theorem dMo_truck_3 : decode cMo_truck 3 = .ok (.bipush 7, 2) := by decide +kernel
theorem dMo_truck_5 : decode cMo_truck 5 = .ok (.invokestatic 131, 3) := by decide +kernel
theorem dMo_truck_8 : decode cMo_truck 8 = .ok (.ifCond .ne 36, 3) := by decide +kernel
theorem dMo_truck_11 : decode cMo_truck 11 = .ok (.iload_n 2, 1) := by decide +kernel
theorem dMo_truck_12 : decode cMo_truck 12 = .ok (.iconst 0, 1) := by decide +kernel
theorem dMo_truck_13 : decode cMo_truck 13 = .ok (.sipush 2000, 3) := by decide +kernel
theorem dMo_truck_16 : decode cMo_truck 16 = .ok (.invokestatic 131, 3) := by decide +kernel
theorem dMo_truck_19 : decode cMo_truck 19 = .ok (.ifCond .ne 25, 3) := by decide +kernel
theorem dMo_truck_22 : decode cMo_truck 22 = .ok (.iload_n 3, 1) := by decide +kernel
theorem dMo_truck_23 : decode cMo_truck 23 = .ok (.iconst 1, 1) := by decide +kernel
theorem dMo_truck_24 : decode cMo_truck 24 = .ok (.sipush 300, 3) := by decide +kernel
theorem dMo_truck_27 : decode cMo_truck 27 = .ok (.invokestatic 131, 3) := by decide +kernel
theorem dMo_truck_30 : decode cMo_truck 30 = .ok (.ifCond .ne 14, 3) := by decide +kernel
theorem dMo_truck_33 : decode cMo_truck 33 = .ok (.iload 4, 2) := by decide +kernel
theorem dMo_truck_35 : decode cMo_truck 35 = .ok (.iconst 1, 1) := by decide +kernel
theorem dMo_truck_36 : decode cMo_truck 36 = .ok (.bipush 9, 2) := by decide +kernel
theorem dMo_truck_38 : decode cMo_truck 38 = .ok (.invokestatic 131, 3) := by decide +kernel
theorem dMo_truck_41 : decode cMo_truck 41 = .ok (.ifCond .eq 7, 3) := by decide +kernel
theorem dMo_truck_44 : decode cMo_truck 44 = .ok (.iconst 1, 1) := by decide +kernel
theorem dMo_truck_45 : decode cMo_truck 45 = .ok (.goto 17, 3) := by decide +kernel
theorem dMo_truck_48 : decode cMo_truck 48 = .ok (.aload_n 0, 1) := by decide +kernel
theorem dMo_truck_49 : decode cMo_truck 49 = .ok (.getfield 36, 3) := by decide +kernel
theorem dMo_truck_52 : decode cMo_truck 52 = .ok (.bipush 12, 2) := by decide +kernel
theorem dMo_truck_54 : decode cMo_truck 54 = .ok (.if_icmp .ne 7, 3) := by decide +kernel
theorem dMo_truck_57 : decode cMo_truck 57 = .ok (.iconst 2, 1) := by decide +kernel
theorem dMo_truck_58 : decode cMo_truck 58 = .ok (.goto 4, 3) := by decide +kernel
theorem dMo_truck_61 : decode cMo_truck 61 = .ok (.iconst 0, 1) := by decide +kernel
theorem dMo_truck_62 : decode cMo_truck 62 = .ok (.putfield 7, 3) := by decide +kernel
theorem dMo_truck_65 : decode cMo_truck 65 = .ok (.aload_n 0, 1) := by decide +kernel
theorem dMo_truck_66 : decode cMo_truck 66 = .ok (.getfield 7, 3) := by decide +kernel
theorem dMo_truck_69 : decode cMo_truck 69 = .ok (.ifCond .eq 5, 3) := by decide +kernel
theorem dMo_truck_72 : decode cMo_truck 72 = .ok (.iconst 0, 1) := by decide +kernel
theorem dMo_truck_73 : decode cMo_truck 73 = .ok (.ireturn, 1) := by decide +kernel
theorem dMo_truck_74 : decode cMo_truck 74 = .ok (.aload_n 0, 1) := by decide +kernel
theorem dMo_truck_75 : decode cMo_truck 75 = .ok (.getfield 42, 3) := by decide +kernel
theorem dMo_truck_78 : decode cMo_truck 78 = .ok (.aload_n 0, 1) := by decide +kernel
theorem dMo_truck_79 : decode cMo_truck 79 = .ok (.getfield 36, 3) := by decide +kernel
theorem dMo_truck_82 : decode cMo_truck 82 = .ok (.iload_n 1, 1) := by decide +kernel
theorem dMo_truck_83 : decode cMo_truck 83 = .ok (.iastore, 1) := by decide +kernel
theorem dMo_truck_84 : decode cMo_truck 84 = .ok (.aload_n 0, 1) := by decide +kernel
theorem dMo_truck_85 : decode cMo_truck 85 = .ok (.getfield 45, 3) := by decide +kernel
theorem dMo_truck_88 : decode cMo_truck 88 = .ok (.aload_n 0, 1) := by decide +kernel
theorem dMo_truck_89 : decode cMo_truck 89 = .ok (.getfield 36, 3) := by decide +kernel
theorem dMo_truck_92 : decode cMo_truck 92 = .ok (.iload_n 2, 1) := by decide +kernel
theorem dMo_truck_93 : decode cMo_truck 93 = .ok (.iastore, 1) := by decide +kernel
theorem dMo_truck_94 : decode cMo_truck 94 = .ok (.aload_n 0, 1) := by decide +kernel
theorem dMo_truck_95 : decode cMo_truck 95 = .ok (.getfield 48, 3) := by decide +kernel
theorem dMo_truck_98 : decode cMo_truck 98 = .ok (.aload_n 0, 1) := by decide +kernel
theorem dMo_truck_99 : decode cMo_truck 99 = .ok (.getfield 36, 3) := by decide +kernel
theorem dMo_truck_102 : decode cMo_truck 102 = .ok (.iload_n 3, 1) := by decide +kernel
theorem dMo_truck_103 : decode cMo_truck 103 = .ok (.iastore, 1) := by decide +kernel
theorem dMo_truck_104 : decode cMo_truck 104 = .ok (.aload_n 0, 1) := by decide +kernel
theorem dMo_truck_105 : decode cMo_truck 105 = .ok (.getfield 51, 3) := by decide +kernel
theorem dMo_truck_108 : decode cMo_truck 108 = .ok (.aload_n 0, 1) := by decide +kernel
theorem dMo_truck_109 : decode cMo_truck 109 = .ok (.getfield 36, 3) := by decide +kernel
theorem dMo_truck_112 : decode cMo_truck 112 = .ok (.iload 4, 2) := by decide +kernel
theorem dMo_truck_114 : decode cMo_truck 114 = .ok (.iastore, 1) := by decide +kernel
theorem dMo_truck_115 : decode cMo_truck 115 = .ok (.aload_n 0, 1) := by decide +kernel
theorem dMo_truck_116 : decode cMo_truck 116 = .ok (.getfield 63, 3) := by decide +kernel
theorem dMo_truck_119 : decode cMo_truck 119 = .ok (.aload_n 0, 1) := by decide +kernel
theorem dMo_truck_120 : decode cMo_truck 120 = .ok (.getfield 36, 3) := by decide +kernel
theorem dMo_truck_123 : decode cMo_truck 123 = .ok (.iconst (-1), 1) := by decide +kernel
theorem dMo_truck_124 : decode cMo_truck 124 = .ok (.iastore, 1) := by decide +kernel
theorem dMo_truck_125 : decode cMo_truck 125 = .ok (.aload_n 0, 1) := by decide +kernel
theorem dMo_truck_126 : decode cMo_truck 126 = .ok (.getfield 60, 3) := by decide +kernel
theorem dMo_truck_129 : decode cMo_truck 129 = .ok (.aload_n 0, 1) := by decide +kernel
theorem dMo_truck_130 : decode cMo_truck 130 = .ok (.getfield 36, 3) := by decide +kernel
theorem dMo_truck_133 : decode cMo_truck 133 = .ok (.iconst (-1), 1) := by decide +kernel
theorem dMo_truck_134 : decode cMo_truck 134 = .ok (.iastore, 1) := by decide +kernel
theorem dMo_truck_135 : decode cMo_truck 135 = .ok (.aload_n 0, 1) := by decide +kernel
theorem dMo_truck_136 : decode cMo_truck 136 = .ok (.aload_n 0, 1) := by decide +kernel
theorem dMo_truck_137 : decode cMo_truck 137 = .ok (.getfield 36, 3) := by decide +kernel
theorem dMo_truck_140 : decode cMo_truck 140 = .ok (.invokevirtual 135, 3) := by decide +kernel
theorem dMo_truck_143 : decode cMo_truck 143 = .ok (.aload_n 0, 1) := by decide +kernel
theorem dMo_truck_144 : decode cMo_truck 144 = .ok (.dup, 1) := by decide +kernel
theorem dMo_truck_145 : decode cMo_truck 145 = .ok (.getfield 36, 3) := by decide +kernel
theorem dMo_truck_148 : decode cMo_truck 148 = .ok (.iconst 1, 1) := by decide +kernel
theorem dMo_truck_149 : decode cMo_truck 149 = .ok (.iadd, 1) := by decide +kernel
theorem dMo_truck_150 : decode cMo_truck 150 = .ok (.putfield 36, 3) := by decide +kernel
theorem dMo_truck_153 : decode cMo_truck 153 = .ok (.aload_n 0, 1) := by decide +kernel
theorem dMo_truck_154 : decode cMo_truck 154 = .ok (.getfield 36, 3) := by decide +kernel
theorem dMo_truck_157 : decode cMo_truck 157 = .ok (.iconst 1, 1) := by decide +kernel
theorem dMo_truck_158 : decode cMo_truck 158 = .ok (.isub, 1) := by decide +kernel
theorem dMo_truck_159 : decode cMo_truck 159 = .ok (.ireturn, 1) := by decide +kernel
abbrev cMo_assign : ByteArray := prog_7_method_21_code
abbrev mMo_assign : MD := (⟨"DockBookModel", "assign", "(I)I"⟩, cMo_assign, 4, some (.int), [])
theorem dMo_assign_0 : decode cMo_assign 0 = .ok (.aload_n 0, 1) := by decide +kernel
theorem dMo_assign_1 : decode cMo_assign 1 = .ok (.iload_n 1, 1) := by decide +kernel
theorem dMo_assign_2 : decode cMo_assign 2 = .ok (.iconst 0, 1) := by decide +kernel
theorem dMo_assign_3 : decode cMo_assign 3 = .ok (.iconst 5, 1) := by decide +kernel
theorem dMo_assign_4 : decode cMo_assign 4 = .ok (.invokestatic 131, 3) := by decide +kernel
theorem dMo_assign_7 : decode cMo_assign 7 = .ok (.ifCond .eq 7, 3) := by decide +kernel
theorem dMo_assign_10 : decode cMo_assign 10 = .ok (.iconst 1, 1) := by decide +kernel
theorem dMo_assign_11 : decode cMo_assign 11 = .ok (.goto 4, 3) := by decide +kernel
theorem dMo_assign_14 : decode cMo_assign 14 = .ok (.iconst 0, 1) := by decide +kernel
theorem dMo_assign_15 : decode cMo_assign 15 = .ok (.putfield 7, 3) := by decide +kernel
theorem dMo_assign_18 : decode cMo_assign 18 = .ok (.aload_n 0, 1) := by decide +kernel
theorem dMo_assign_19 : decode cMo_assign 19 = .ok (.getfield 7, 3) := by decide +kernel
theorem dMo_assign_22 : decode cMo_assign 22 = .ok (.ifCond .eq 5, 3) := by decide +kernel
theorem dMo_assign_25 : decode cMo_assign 25 = .ok (.iconst 0, 1) := by decide +kernel
theorem dMo_assign_26 : decode cMo_assign 26 = .ok (.ireturn, 1) := by decide +kernel
theorem dMo_assign_27 : decode cMo_assign 27 = .ok (.aload_n 0, 1) := by decide +kernel
theorem dMo_assign_28 : decode cMo_assign 28 = .ok (.invokevirtual 139, 3) := by decide +kernel
theorem dMo_assign_31 : decode cMo_assign 31 = .ok (.aload_n 0, 1) := by decide +kernel
theorem dMo_assign_32 : decode cMo_assign 32 = .ok (.aload_n 0, 1) := by decide +kernel
theorem dMo_assign_33 : decode cMo_assign 33 = .ok (.getfield 79, 3) := by decide +kernel
theorem dMo_assign_36 : decode cMo_assign 36 = .ok (.iload_n 1, 1) := by decide +kernel
theorem dMo_assign_37 : decode cMo_assign 37 = .ok (.if_icmp .gt 7, 3) := by decide +kernel
theorem dMo_assign_40 : decode cMo_assign 40 = .ok (.iconst 1, 1) := by decide +kernel
theorem dMo_assign_41 : decode cMo_assign 41 = .ok (.goto 4, 3) := by decide +kernel
theorem dMo_assign_44 : decode cMo_assign 44 = .ok (.iconst 0, 1) := by decide +kernel
theorem dMo_assign_45 : decode cMo_assign 45 = .ok (.putfield 72, 3) := by decide +kernel
theorem dMo_assign_48 : decode cMo_assign 48 = .ok (.aload_n 0, 1) := by decide +kernel
theorem dMo_assign_49 : decode cMo_assign 49 = .ok (.getfield 72, 3) := by decide +kernel
theorem dMo_assign_52 : decode cMo_assign 52 = .ok (.ifCond .eq 10, 3) := by decide +kernel
theorem dMo_assign_55 : decode cMo_assign 55 = .ok (.aload_n 0, 1) := by decide +kernel
theorem dMo_assign_56 : decode cMo_assign 56 = .ok (.invokevirtual 142, 3) := by decide +kernel
theorem dMo_assign_59 : decode cMo_assign 59 = .ok (.goto 7, 3) := by decide +kernel
theorem dMo_assign_62 : decode cMo_assign 62 = .ok (.aload_n 0, 1) := by decide +kernel
theorem dMo_assign_63 : decode cMo_assign 63 = .ok (.invokevirtual 145, 3) := by decide +kernel
theorem dMo_assign_66 : decode cMo_assign 66 = .ok (.aload_n 0, 1) := by decide +kernel
theorem dMo_assign_67 : decode cMo_assign 67 = .ok (.iconst 0, 1) := by decide +kernel
theorem dMo_assign_68 : decode cMo_assign 68 = .ok (.putfield 76, 3) := by decide +kernel
theorem dMo_assign_71 : decode cMo_assign 71 = .ok (.iconst 0, 1) := by decide +kernel
theorem dMo_assign_72 : decode cMo_assign 72 = .ok (.istore_n 2, 1) := by decide +kernel
theorem dMo_assign_73 : decode cMo_assign 73 = .ok (.iload_n 2, 1) := by decide +kernel
theorem dMo_assign_74 : decode cMo_assign 74 = .ok (.aload_n 0, 1) := by decide +kernel
theorem dMo_assign_75 : decode cMo_assign 75 = .ok (.getfield 79, 3) := by decide +kernel
theorem dMo_assign_78 : decode cMo_assign 78 = .ok (.if_icmp .ge 80, 3) := by decide +kernel
theorem dMo_assign_81 : decode cMo_assign 81 = .ok (.aload_n 0, 1) := by decide +kernel
theorem dMo_assign_82 : decode cMo_assign 82 = .ok (.getfield 82, 3) := by decide +kernel
theorem dMo_assign_85 : decode cMo_assign 85 = .ok (.iload_n 2, 1) := by decide +kernel
theorem dMo_assign_86 : decode cMo_assign 86 = .ok (.iaload, 1) := by decide +kernel
theorem dMo_assign_87 : decode cMo_assign 87 = .ok (.istore_n 3, 1) := by decide +kernel
theorem dMo_assign_88 : decode cMo_assign 88 = .ok (.aload_n 0, 1) := by decide +kernel
theorem dMo_assign_89 : decode cMo_assign 89 = .ok (.getfield 54, 3) := by decide +kernel
theorem dMo_assign_92 : decode cMo_assign 92 = .ok (.iload_n 3, 1) := by decide +kernel
theorem dMo_assign_93 : decode cMo_assign 93 = .ok (.iaload, 1) := by decide +kernel
theorem dMo_assign_94 : decode cMo_assign 94 = .ok (.aload_n 0, 1) := by decide +kernel
theorem dMo_assign_95 : decode cMo_assign 95 = .ok (.getfield 85, 3) := by decide +kernel
theorem dMo_assign_98 : decode cMo_assign 98 = .ok (.iload_n 2, 1) := by decide +kernel
theorem dMo_assign_99 : decode cMo_assign 99 = .ok (.iaload, 1) := by decide +kernel
theorem dMo_assign_100 : decode cMo_assign 100 = .ok (.if_icmp .ne 18, 3) := by decide +kernel
theorem dMo_assign_103 : decode cMo_assign 103 = .ok (.aload_n 0, 1) := by decide +kernel
theorem dMo_assign_104 : decode cMo_assign 104 = .ok (.getfield 57, 3) := by decide +kernel
theorem dMo_assign_107 : decode cMo_assign 107 = .ok (.iload_n 3, 1) := by decide +kernel
theorem dMo_assign_108 : decode cMo_assign 108 = .ok (.iaload, 1) := by decide +kernel
theorem dMo_assign_109 : decode cMo_assign 109 = .ok (.aload_n 0, 1) := by decide +kernel
theorem dMo_assign_110 : decode cMo_assign 110 = .ok (.getfield 88, 3) := by decide +kernel
theorem dMo_assign_113 : decode cMo_assign 113 = .ok (.iload_n 2, 1) := by decide +kernel
theorem dMo_assign_114 : decode cMo_assign 114 = .ok (.iaload, 1) := by decide +kernel
theorem dMo_assign_115 : decode cMo_assign 115 = .ok (.if_icmp .eq 13, 3) := by decide +kernel
theorem dMo_assign_118 : decode cMo_assign 118 = .ok (.aload_n 0, 1) := by decide +kernel
theorem dMo_assign_119 : decode cMo_assign 119 = .ok (.dup, 1) := by decide +kernel
theorem dMo_assign_120 : decode cMo_assign 120 = .ok (.getfield 76, 3) := by decide +kernel
theorem dMo_assign_123 : decode cMo_assign 123 = .ok (.iconst 1, 1) := by decide +kernel
theorem dMo_assign_124 : decode cMo_assign 124 = .ok (.iadd, 1) := by decide +kernel
theorem dMo_assign_125 : decode cMo_assign 125 = .ok (.putfield 76, 3) := by decide +kernel
theorem dMo_assign_128 : decode cMo_assign 128 = .ok (.aload_n 0, 1) := by decide +kernel
theorem dMo_assign_129 : decode cMo_assign 129 = .ok (.getfield 54, 3) := by decide +kernel
theorem dMo_assign_132 : decode cMo_assign 132 = .ok (.iload_n 3, 1) := by decide +kernel
theorem dMo_assign_133 : decode cMo_assign 133 = .ok (.aload_n 0, 1) := by decide +kernel
theorem dMo_assign_134 : decode cMo_assign 134 = .ok (.getfield 85, 3) := by decide +kernel
theorem dMo_assign_137 : decode cMo_assign 137 = .ok (.iload_n 2, 1) := by decide +kernel
theorem dMo_assign_138 : decode cMo_assign 138 = .ok (.iaload, 1) := by decide +kernel
theorem dMo_assign_139 : decode cMo_assign 139 = .ok (.iastore, 1) := by decide +kernel
theorem dMo_assign_140 : decode cMo_assign 140 = .ok (.aload_n 0, 1) := by decide +kernel
theorem dMo_assign_141 : decode cMo_assign 141 = .ok (.getfield 57, 3) := by decide +kernel
theorem dMo_assign_144 : decode cMo_assign 144 = .ok (.iload_n 3, 1) := by decide +kernel
theorem dMo_assign_145 : decode cMo_assign 145 = .ok (.aload_n 0, 1) := by decide +kernel
theorem dMo_assign_146 : decode cMo_assign 146 = .ok (.getfield 88, 3) := by decide +kernel
theorem dMo_assign_149 : decode cMo_assign 149 = .ok (.iload_n 2, 1) := by decide +kernel
theorem dMo_assign_150 : decode cMo_assign 150 = .ok (.iaload, 1) := by decide +kernel
theorem dMo_assign_151 : decode cMo_assign 151 = .ok (.iastore, 1) := by decide +kernel
theorem dMo_assign_152 : decode cMo_assign 152 = .ok (.iinc 2 1, 3) := by decide +kernel
theorem dMo_assign_155 : decode cMo_assign 155 = .ok (.goto (-82), 3) := by decide +kernel
theorem dMo_assign_158 : decode cMo_assign 158 = .ok (.aload_n 0, 1) := by decide +kernel
theorem dMo_assign_159 : decode cMo_assign 159 = .ok (.invokevirtual 148, 3) := by decide +kernel
theorem dMo_assign_162 : decode cMo_assign 162 = .ok (.ireturn, 1) := by decide +kernel
abbrev cMo_exact : ByteArray := prog_7_method_22_code
abbrev mMo_exact : MD := (⟨"DockBookModel", "exact", "()Z"⟩, cMo_exact, 1, some (.boolean), [])
theorem dMo_exact_0 : decode cMo_exact 0 = .ok (.aload_n 0, 1) := by decide +kernel
theorem dMo_exact_1 : decode cMo_exact 1 = .ok (.iconst 0, 1) := by decide +kernel
theorem dMo_exact_2 : decode cMo_exact 2 = .ok (.putfield 7, 3) := by decide +kernel
theorem dMo_exact_5 : decode cMo_exact 5 = .ok (.aload_n 0, 1) := by decide +kernel
theorem dMo_exact_6 : decode cMo_exact 6 = .ok (.getfield 72, 3) := by decide +kernel
theorem dMo_exact_9 : decode cMo_exact 9 = .ok (.ireturn, 1) := by decide +kernel
abbrev cMo_moved : ByteArray := prog_7_method_23_code
abbrev mMo_moved : MD := (⟨"DockBookModel", "moved", "()I"⟩, cMo_moved, 1, some (.int), [])
theorem dMo_moved_0 : decode cMo_moved 0 = .ok (.aload_n 0, 1) := by decide +kernel
theorem dMo_moved_1 : decode cMo_moved 1 = .ok (.iconst 0, 1) := by decide +kernel
theorem dMo_moved_2 : decode cMo_moved 2 = .ok (.putfield 7, 3) := by decide +kernel
theorem dMo_moved_5 : decode cMo_moved 5 = .ok (.aload_n 0, 1) := by decide +kernel
theorem dMo_moved_6 : decode cMo_moved 6 = .ok (.getfield 76, 3) := by decide +kernel
theorem dMo_moved_9 : decode cMo_moved 9 = .ok (.ireturn, 1) := by decide +kernel
abbrev cMo_bound : ByteArray := prog_7_method_24_code
abbrev mMo_bound : MD := (⟨"DockBookModel", "bound", "()I"⟩, cMo_bound, 6, some (.int), [])
theorem dMo_bound_0 : decode cMo_bound 0 = .ok (.aload_n 0, 1) := by decide +kernel
theorem dMo_bound_1 : decode cMo_bound 1 = .ok (.iconst 0, 1) := by decide +kernel
theorem dMo_bound_2 : decode cMo_bound 2 = .ok (.putfield 7, 3) := by decide +kernel
theorem dMo_bound_5 : decode cMo_bound 5 = .ok (.iconst 0, 1) := by decide +kernel
theorem dMo_bound_6 : decode cMo_bound 6 = .ok (.istore_n 1, 1) := by decide +kernel
theorem dMo_bound_7 : decode cMo_bound 7 = .ok (.iconst 0, 1) := by decide +kernel
theorem dMo_bound_8 : decode cMo_bound 8 = .ok (.istore_n 2, 1) := by decide +kernel
theorem dMo_bound_9 : decode cMo_bound 9 = .ok (.iload_n 2, 1) := by decide +kernel
theorem dMo_bound_10 : decode cMo_bound 10 = .ok (.aload_n 0, 1) := by decide +kernel
theorem dMo_bound_11 : decode cMo_bound 11 = .ok (.getfield 36, 3) := by decide +kernel
theorem dMo_bound_14 : decode cMo_bound 14 = .ok (.if_icmp .ge 87, 3) := by decide +kernel
theorem dMo_bound_17 : decode cMo_bound 17 = .ok (.aload_n 0, 1) := by decide +kernel
theorem dMo_bound_18 : decode cMo_bound 18 = .ok (.getfield 39, 3) := by decide +kernel
theorem dMo_bound_21 : decode cMo_bound 21 = .ok (.iload_n 2, 1) := by decide +kernel
theorem dMo_bound_22 : decode cMo_bound 22 = .ok (.iaload, 1) := by decide +kernel
theorem dMo_bound_23 : decode cMo_bound 23 = .ok (.ifCond .ne 72, 3) := by decide +kernel
theorem dMo_bound_26 : decode cMo_bound 26 = .ok (.sipush 5000, 3) := by decide +kernel
theorem dMo_bound_29 : decode cMo_bound 29 = .ok (.istore_n 3, 1) := by decide +kernel
theorem dMo_bound_30 : decode cMo_bound 30 = .ok (.iconst 0, 1) := by decide +kernel
theorem dMo_bound_31 : decode cMo_bound 31 = .ok (.istore 4, 2) := by decide +kernel
theorem dMo_bound_33 : decode cMo_bound 33 = .ok (.iload 4, 2) := by decide +kernel
theorem dMo_bound_35 : decode cMo_bound 35 = .ok (.aload_n 0, 1) := by decide +kernel
theorem dMo_bound_36 : decode cMo_bound 36 = .ok (.getfield 16, 3) := by decide +kernel
theorem dMo_bound_39 : decode cMo_bound 39 = .ok (.if_icmp .ge 52, 3) := by decide +kernel
theorem dMo_bound_42 : decode cMo_bound 42 = .ok (.aload_n 0, 1) := by decide +kernel
theorem dMo_bound_43 : decode cMo_bound 43 = .ok (.iload_n 2, 1) := by decide +kernel
theorem dMo_bound_44 : decode cMo_bound 44 = .ok (.iload 4, 2) := by decide +kernel
theorem dMo_bound_46 : decode cMo_bound 46 = .ok (.aload_n 0, 1) := by decide +kernel
theorem dMo_bound_47 : decode cMo_bound 47 = .ok (.iload 4, 2) := by decide +kernel
theorem dMo_bound_49 : decode cMo_bound 49 = .ok (.invokevirtual 107, 3) := by decide +kernel
theorem dMo_bound_52 : decode cMo_bound 52 = .ok (.invokevirtual 110, 3) := by decide +kernel
theorem dMo_bound_55 : decode cMo_bound 55 = .ok (.istore 5, 2) := by decide +kernel
theorem dMo_bound_57 : decode cMo_bound 57 = .ok (.iload 5, 2) := by decide +kernel
theorem dMo_bound_59 : decode cMo_bound 59 = .ok (.ifCond .lt 26, 3) := by decide +kernel
theorem dMo_bound_62 : decode cMo_bound 62 = .ok (.iload 5, 2) := by decide +kernel
theorem dMo_bound_64 : decode cMo_bound 64 = .ok (.aload_n 0, 1) := by decide +kernel
theorem dMo_bound_65 : decode cMo_bound 65 = .ok (.getfield 45, 3) := by decide +kernel
theorem dMo_bound_68 : decode cMo_bound 68 = .ok (.iload_n 2, 1) := by decide +kernel
theorem dMo_bound_69 : decode cMo_bound 69 = .ok (.iaload, 1) := by decide +kernel
theorem dMo_bound_70 : decode cMo_bound 70 = .ok (.isub, 1) := by decide +kernel
theorem dMo_bound_71 : decode cMo_bound 71 = .ok (.iload_n 3, 1) := by decide +kernel
theorem dMo_bound_72 : decode cMo_bound 72 = .ok (.if_icmp .ge 13, 3) := by decide +kernel
theorem dMo_bound_75 : decode cMo_bound 75 = .ok (.iload 5, 2) := by decide +kernel
theorem dMo_bound_77 : decode cMo_bound 77 = .ok (.aload_n 0, 1) := by decide +kernel
theorem dMo_bound_78 : decode cMo_bound 78 = .ok (.getfield 45, 3) := by decide +kernel
theorem dMo_bound_81 : decode cMo_bound 81 = .ok (.iload_n 2, 1) := by decide +kernel
theorem dMo_bound_82 : decode cMo_bound 82 = .ok (.iaload, 1) := by decide +kernel
theorem dMo_bound_83 : decode cMo_bound 83 = .ok (.isub, 1) := by decide +kernel
theorem dMo_bound_84 : decode cMo_bound 84 = .ok (.istore_n 3, 1) := by decide +kernel
theorem dMo_bound_85 : decode cMo_bound 85 = .ok (.iinc 4 1, 3) := by decide +kernel
theorem dMo_bound_88 : decode cMo_bound 88 = .ok (.goto (-55), 3) := by decide +kernel
theorem dMo_bound_91 : decode cMo_bound 91 = .ok (.iload_n 1, 1) := by decide +kernel
theorem dMo_bound_92 : decode cMo_bound 92 = .ok (.iload_n 3, 1) := by decide +kernel
theorem dMo_bound_93 : decode cMo_bound 93 = .ok (.iadd, 1) := by decide +kernel
theorem dMo_bound_94 : decode cMo_bound 94 = .ok (.istore_n 1, 1) := by decide +kernel
theorem dMo_bound_95 : decode cMo_bound 95 = .ok (.iinc 2 1, 3) := by decide +kernel
theorem dMo_bound_98 : decode cMo_bound 98 = .ok (.goto (-89), 3) := by decide +kernel
theorem dMo_bound_101 : decode cMo_bound 101 = .ok (.iload_n 1, 1) := by decide +kernel
theorem dMo_bound_102 : decode cMo_bound 102 = .ok (.ireturn, 1) := by decide +kernel
abbrev cMo_call : ByteArray := prog_7_method_25_code
abbrev mMo_call : MD := (⟨"DockBookModel", "call", "(I)V"⟩, cMo_call, 3, none, [])
theorem dMo_call_0 : decode cMo_call 0 = .ok (.aload_n 0, 1) := by decide +kernel
theorem dMo_call_1 : decode cMo_call 1 = .ok (.aload_n 0, 1) := by decide +kernel
theorem dMo_call_2 : decode cMo_call 2 = .ok (.iload_n 1, 1) := by decide +kernel
theorem dMo_call_3 : decode cMo_call 3 = .ok (.invokevirtual 152, 3) := by decide +kernel
theorem dMo_call_6 : decode cMo_call 6 = .ok (.ifCond .eq 7, 3) := by decide +kernel
theorem dMo_call_9 : decode cMo_call 9 = .ok (.iconst 1, 1) := by decide +kernel
theorem dMo_call_10 : decode cMo_call 10 = .ok (.goto 26, 3) := by decide +kernel
theorem dMo_call_13 : decode cMo_call 13 = .ok (.aload_n 0, 1) := by decide +kernel
theorem dMo_call_14 : decode cMo_call 14 = .ok (.getfield 39, 3) := by decide +kernel
theorem dMo_call_17 : decode cMo_call 17 = .ok (.iload_n 1, 1) := by decide +kernel
theorem dMo_call_18 : decode cMo_call 18 = .ok (.iaload, 1) := by decide +kernel
theorem dMo_call_19 : decode cMo_call 19 = .ok (.ifCond .ne 12, 3) := by decide +kernel
theorem dMo_call_22 : decode cMo_call 22 = .ok (.aload_n 0, 1) := by decide +kernel
theorem dMo_call_23 : decode cMo_call 23 = .ok (.getfield 54, 3) := by decide +kernel
theorem dMo_call_26 : decode cMo_call 26 = .ok (.iload_n 1, 1) := by decide +kernel
theorem dMo_call_27 : decode cMo_call 27 = .ok (.iaload, 1) := by decide +kernel
theorem dMo_call_28 : decode cMo_call 28 = .ok (.ifCond .ge 7, 3) := by decide +kernel
theorem dMo_call_31 : decode cMo_call 31 = .ok (.iconst 2, 1) := by decide +kernel
theorem dMo_call_32 : decode cMo_call 32 = .ok (.goto 4, 3) := by decide +kernel
theorem dMo_call_35 : decode cMo_call 35 = .ok (.iconst 0, 1) := by decide +kernel
theorem dMo_call_36 : decode cMo_call 36 = .ok (.putfield 7, 3) := by decide +kernel
theorem dMo_call_39 : decode cMo_call 39 = .ok (.aload_n 0, 1) := by decide +kernel
theorem dMo_call_40 : decode cMo_call 40 = .ok (.getfield 7, 3) := by decide +kernel
theorem dMo_call_43 : decode cMo_call 43 = .ok (.ifCond .eq 4, 3) := by decide +kernel
theorem dMo_call_46 : decode cMo_call 46 = .ok (.return_, 1) := by decide +kernel
theorem dMo_call_47 : decode cMo_call 47 = .ok (.aload_n 0, 1) := by decide +kernel
theorem dMo_call_48 : decode cMo_call 48 = .ok (.getfield 54, 3) := by decide +kernel
theorem dMo_call_51 : decode cMo_call 51 = .ok (.iload_n 1, 1) := by decide +kernel
theorem dMo_call_52 : decode cMo_call 52 = .ok (.iaload, 1) := by decide +kernel
theorem dMo_call_53 : decode cMo_call 53 = .ok (.istore_n 2, 1) := by decide +kernel
theorem dMo_call_54 : decode cMo_call 54 = .ok (.aload_n 0, 1) := by decide +kernel
theorem dMo_call_55 : decode cMo_call 55 = .ok (.getfield 57, 3) := by decide +kernel
theorem dMo_call_58 : decode cMo_call 58 = .ok (.iload_n 1, 1) := by decide +kernel
theorem dMo_call_59 : decode cMo_call 59 = .ok (.iaload, 1) := by decide +kernel
theorem dMo_call_60 : decode cMo_call 60 = .ok (.aload_n 0, 1) := by decide +kernel
theorem dMo_call_61 : decode cMo_call 61 = .ok (.getfield 13, 3) := by decide +kernel
theorem dMo_call_64 : decode cMo_call 64 = .ok (.if_icmp .gt 40, 3) := by decide +kernel
theorem dMo_call_67 : decode cMo_call 67 = .ok (.aload_n 0, 1) := by decide +kernel
theorem dMo_call_68 : decode cMo_call 68 = .ok (.getfield 29, 3) := by decide +kernel
theorem dMo_call_71 : decode cMo_call 71 = .ok (.iload_n 2, 1) := by decide +kernel
theorem dMo_call_72 : decode cMo_call 72 = .ok (.baload, 1) := by decide +kernel
theorem dMo_call_73 : decode cMo_call 73 = .ok (.ifCond .ne 31, 3) := by decide +kernel
theorem dMo_call_76 : decode cMo_call 76 = .ok (.aload_n 0, 1) := by decide +kernel
theorem dMo_call_77 : decode cMo_call 77 = .ok (.iload_n 2, 1) := by decide +kernel
theorem dMo_call_78 : decode cMo_call 78 = .ok (.invokevirtual 103, 3) := by decide +kernel
theorem dMo_call_81 : decode cMo_call 81 = .ok (.ifCond .ge 23, 3) := by decide +kernel
theorem dMo_call_84 : decode cMo_call 84 = .ok (.aload_n 0, 1) := by decide +kernel
theorem dMo_call_85 : decode cMo_call 85 = .ok (.getfield 13, 3) := by decide +kernel
theorem dMo_call_88 : decode cMo_call 88 = .ok (.aload_n 0, 1) := by decide +kernel
theorem dMo_call_89 : decode cMo_call 89 = .ok (.getfield 48, 3) := by decide +kernel
theorem dMo_call_92 : decode cMo_call 92 = .ok (.iload_n 1, 1) := by decide +kernel
theorem dMo_call_93 : decode cMo_call 93 = .ok (.iaload, 1) := by decide +kernel
theorem dMo_call_94 : decode cMo_call 94 = .ok (.iadd, 1) := by decide +kernel
theorem dMo_call_95 : decode cMo_call 95 = .ok (.aload_n 0, 1) := by decide +kernel
theorem dMo_call_96 : decode cMo_call 96 = .ok (.getfield 26, 3) := by decide +kernel
theorem dMo_call_99 : decode cMo_call 99 = .ok (.iload_n 2, 1) := by decide +kernel
theorem dMo_call_100 : decode cMo_call 100 = .ok (.iaload, 1) := by decide +kernel
theorem dMo_call_101 : decode cMo_call 101 = .ok (.if_icmp .le 9, 3) := by decide +kernel
theorem dMo_call_104 : decode cMo_call 104 = .ok (.aload_n 0, 1) := by decide +kernel
theorem dMo_call_105 : decode cMo_call 105 = .ok (.iconst 2, 1) := by decide +kernel
theorem dMo_call_106 : decode cMo_call 106 = .ok (.putfield 7, 3) := by decide +kernel
theorem dMo_call_109 : decode cMo_call 109 = .ok (.return_, 1) := by decide +kernel
theorem dMo_call_110 : decode cMo_call 110 = .ok (.aload_n 0, 1) := by decide +kernel
theorem dMo_call_111 : decode cMo_call 111 = .ok (.getfield 39, 3) := by decide +kernel
theorem dMo_call_114 : decode cMo_call 114 = .ok (.iload_n 1, 1) := by decide +kernel
theorem dMo_call_115 : decode cMo_call 115 = .ok (.iconst 1, 1) := by decide +kernel
theorem dMo_call_116 : decode cMo_call 116 = .ok (.iastore, 1) := by decide +kernel
theorem dMo_call_117 : decode cMo_call 117 = .ok (.aload_n 0, 1) := by decide +kernel
theorem dMo_call_118 : decode cMo_call 118 = .ok (.getfield 57, 3) := by decide +kernel
theorem dMo_call_121 : decode cMo_call 121 = .ok (.iload_n 1, 1) := by decide +kernel
theorem dMo_call_122 : decode cMo_call 122 = .ok (.aload_n 0, 1) := by decide +kernel
theorem dMo_call_123 : decode cMo_call 123 = .ok (.getfield 13, 3) := by decide +kernel
theorem dMo_call_126 : decode cMo_call 126 = .ok (.iastore, 1) := by decide +kernel
theorem dMo_call_127 : decode cMo_call 127 = .ok (.return_, 1) := by decide +kernel
abbrev cMo_seal : ByteArray := prog_7_method_26_code
abbrev mMo_seal : MD := (⟨"DockBookModel", "seal", "(II)I"⟩, cMo_seal, 3, some (.int), [])
theorem dMo_seal_0 : decode cMo_seal 0 = .ok (.aload_n 0, 1) := by decide +kernel
theorem dMo_seal_1 : decode cMo_seal 1 = .ok (.aload_n 0, 1) := by decide +kernel
theorem dMo_seal_2 : decode cMo_seal 2 = .ok (.iload_n 1, 1) := by decide +kernel
theorem dMo_seal_3 : decode cMo_seal 3 = .ok (.invokevirtual 152, 3) := by decide +kernel
theorem dMo_seal_6 : decode cMo_seal 6 = .ok (.ifCond .eq 7, 3) := by decide +kernel
theorem dMo_seal_9 : decode cMo_seal 9 = .ok (.iconst 1, 1) := by decide +kernel
theorem dMo_seal_10 : decode cMo_seal 10 = .ok (.goto 33, 3) := by decide +kernel
theorem dMo_seal_13 : decode cMo_seal 13 = .ok (.iload_n 2, 1) := by decide +kernel
theorem dMo_seal_14 : decode cMo_seal 14 = .ok (.iconst 0, 1) := by decide +kernel
theorem dMo_seal_15 : decode cMo_seal 15 = .ok (.sipush 9999, 3) := by decide +kernel
theorem dMo_seal_18 : decode cMo_seal 18 = .ok (.invokestatic 131, 3) := by decide +kernel
theorem dMo_seal_21 : decode cMo_seal 21 = .ok (.ifCond .eq 7, 3) := by decide +kernel
theorem dMo_seal_24 : decode cMo_seal 24 = .ok (.iconst 2, 1) := by decide +kernel
theorem dMo_seal_25 : decode cMo_seal 25 = .ok (.goto 18, 3) := by decide +kernel
theorem dMo_seal_28 : decode cMo_seal 28 = .ok (.aload_n 0, 1) := by decide +kernel
theorem dMo_seal_29 : decode cMo_seal 29 = .ok (.getfield 39, 3) := by decide +kernel
theorem dMo_seal_32 : decode cMo_seal 32 = .ok (.iload_n 1, 1) := by decide +kernel
theorem dMo_seal_33 : decode cMo_seal 33 = .ok (.iaload, 1) := by decide +kernel
theorem dMo_seal_34 : decode cMo_seal 34 = .ok (.iconst 1, 1) := by decide +kernel
theorem dMo_seal_35 : decode cMo_seal 35 = .ok (.if_icmp .le 7, 3) := by decide +kernel
theorem dMo_seal_38 : decode cMo_seal 38 = .ok (.iconst 3, 1) := by decide +kernel
theorem dMo_seal_39 : decode cMo_seal 39 = .ok (.goto 4, 3) := by decide +kernel
theorem dMo_seal_42 : decode cMo_seal 42 = .ok (.iconst 0, 1) := by decide +kernel
theorem dMo_seal_43 : decode cMo_seal 43 = .ok (.putfield 7, 3) := by decide +kernel
theorem dMo_seal_46 : decode cMo_seal 46 = .ok (.aload_n 0, 1) := by decide +kernel
theorem dMo_seal_47 : decode cMo_seal 47 = .ok (.getfield 7, 3) := by decide +kernel
theorem dMo_seal_50 : decode cMo_seal 50 = .ok (.ifCond .eq 5, 3) := by decide +kernel
theorem dMo_seal_53 : decode cMo_seal 53 = .ok (.iconst 0, 1) := by decide +kernel
theorem dMo_seal_54 : decode cMo_seal 54 = .ok (.ireturn, 1) := by decide +kernel
theorem dMo_seal_55 : decode cMo_seal 55 = .ok (.aload_n 0, 1) := by decide +kernel
theorem dMo_seal_56 : decode cMo_seal 56 = .ok (.getfield 63, 3) := by decide +kernel
theorem dMo_seal_59 : decode cMo_seal 59 = .ok (.iload_n 1, 1) := by decide +kernel
theorem dMo_seal_60 : decode cMo_seal 60 = .ok (.iaload, 1) := by decide +kernel
theorem dMo_seal_61 : decode cMo_seal 61 = .ok (.ifCond .ge 12, 3) := by decide +kernel
theorem dMo_seal_64 : decode cMo_seal 64 = .ok (.aload_n 0, 1) := by decide +kernel
theorem dMo_seal_65 : decode cMo_seal 65 = .ok (.getfield 63, 3) := by decide +kernel
theorem dMo_seal_68 : decode cMo_seal 68 = .ok (.iload_n 1, 1) := by decide +kernel
theorem dMo_seal_69 : decode cMo_seal 69 = .ok (.iload_n 2, 1) := by decide +kernel
theorem dMo_seal_70 : decode cMo_seal 70 = .ok (.iastore, 1) := by decide +kernel
theorem dMo_seal_71 : decode cMo_seal 71 = .ok (.iconst 0, 1) := by decide +kernel
theorem dMo_seal_72 : decode cMo_seal 72 = .ok (.ireturn, 1) := by decide +kernel
theorem dMo_seal_73 : decode cMo_seal 73 = .ok (.aload_n 0, 1) := by decide +kernel
theorem dMo_seal_74 : decode cMo_seal 74 = .ok (.getfield 66, 3) := by decide +kernel
theorem dMo_seal_77 : decode cMo_seal 77 = .ok (.iload_n 1, 1) := by decide +kernel
theorem dMo_seal_78 : decode cMo_seal 78 = .ok (.aload_n 0, 1) := by decide +kernel
theorem dMo_seal_79 : decode cMo_seal 79 = .ok (.getfield 63, 3) := by decide +kernel
theorem dMo_seal_82 : decode cMo_seal 82 = .ok (.iload_n 1, 1) := by decide +kernel
theorem dMo_seal_83 : decode cMo_seal 83 = .ok (.iaload, 1) := by decide +kernel
theorem dMo_seal_84 : decode cMo_seal 84 = .ok (.iload_n 2, 1) := by decide +kernel
theorem dMo_seal_85 : decode cMo_seal 85 = .ok (.if_icmp .ne 7, 3) := by decide +kernel
theorem dMo_seal_88 : decode cMo_seal 88 = .ok (.iconst 1, 1) := by decide +kernel
theorem dMo_seal_89 : decode cMo_seal 89 = .ok (.goto 4, 3) := by decide +kernel
theorem dMo_seal_92 : decode cMo_seal 92 = .ok (.iconst 0, 1) := by decide +kernel
theorem dMo_seal_93 : decode cMo_seal 93 = .ok (.bastore, 1) := by decide +kernel
theorem dMo_seal_94 : decode cMo_seal 94 = .ok (.aload_n 0, 1) := by decide +kernel
theorem dMo_seal_95 : decode cMo_seal 95 = .ok (.getfield 66, 3) := by decide +kernel
theorem dMo_seal_98 : decode cMo_seal 98 = .ok (.iload_n 1, 1) := by decide +kernel
theorem dMo_seal_99 : decode cMo_seal 99 = .ok (.baload, 1) := by decide +kernel
theorem dMo_seal_100 : decode cMo_seal 100 = .ok (.ifCond .ne 10, 3) := by decide +kernel
theorem dMo_seal_103 : decode cMo_seal 103 = .ok (.aload_n 0, 1) := by decide +kernel
theorem dMo_seal_104 : decode cMo_seal 104 = .ok (.getfield 63, 3) := by decide +kernel
theorem dMo_seal_107 : decode cMo_seal 107 = .ok (.iload_n 1, 1) := by decide +kernel
theorem dMo_seal_108 : decode cMo_seal 108 = .ok (.iconst (-1), 1) := by decide +kernel
theorem dMo_seal_109 : decode cMo_seal 109 = .ok (.iastore, 1) := by decide +kernel
theorem dMo_seal_110 : decode cMo_seal 110 = .ok (.aload_n 0, 1) := by decide +kernel
theorem dMo_seal_111 : decode cMo_seal 111 = .ok (.getfield 66, 3) := by decide +kernel
theorem dMo_seal_114 : decode cMo_seal 114 = .ok (.iload_n 1, 1) := by decide +kernel
theorem dMo_seal_115 : decode cMo_seal 115 = .ok (.baload, 1) := by decide +kernel
theorem dMo_seal_116 : decode cMo_seal 116 = .ok (.ifCond .eq 7, 3) := by decide +kernel
theorem dMo_seal_119 : decode cMo_seal 119 = .ok (.iconst 1, 1) := by decide +kernel
theorem dMo_seal_120 : decode cMo_seal 120 = .ok (.goto 4, 3) := by decide +kernel
theorem dMo_seal_123 : decode cMo_seal 123 = .ok (.iconst 2, 1) := by decide +kernel
theorem dMo_seal_124 : decode cMo_seal 124 = .ok (.ireturn, 1) := by decide +kernel
abbrev cMo_load : ByteArray := prog_7_method_27_code
abbrev mMo_load : MD := (⟨"DockBookModel", "load", "(III)Z"⟩, cMo_load, 4, some (.boolean), [])
theorem dMo_load_0 : decode cMo_load 0 = .ok (.aload_n 0, 1) := by decide +kernel
theorem dMo_load_1 : decode cMo_load 1 = .ok (.aload_n 0, 1) := by decide +kernel
theorem dMo_load_2 : decode cMo_load 2 = .ok (.iload_n 1, 1) := by decide +kernel
theorem dMo_load_3 : decode cMo_load 3 = .ok (.invokevirtual 152, 3) := by decide +kernel
theorem dMo_load_6 : decode cMo_load 6 = .ok (.ifCond .eq 7, 3) := by decide +kernel
theorem dMo_load_9 : decode cMo_load 9 = .ok (.iconst 1, 1) := by decide +kernel
theorem dMo_load_10 : decode cMo_load 10 = .ok (.goto 44, 3) := by decide +kernel
theorem dMo_load_13 : decode cMo_load 13 = .ok (.iload_n 2, 1) := by decide +kernel
theorem dMo_load_14 : decode cMo_load 14 = .ok (.iconst 0, 1) := by decide +kernel
theorem dMo_load_15 : decode cMo_load 15 = .ok (.sipush 10000, 3) := by decide +kernel
theorem dMo_load_18 : decode cMo_load 18 = .ok (.invokestatic 131, 3) := by decide +kernel
theorem dMo_load_21 : decode cMo_load 21 = .ok (.ifCond .ne 14, 3) := by decide +kernel
theorem dMo_load_24 : decode cMo_load 24 = .ok (.iload_n 3, 1) := by decide +kernel
theorem dMo_load_25 : decode cMo_load 25 = .ok (.iconst 0, 1) := by decide +kernel
theorem dMo_load_26 : decode cMo_load 26 = .ok (.sipush 10000, 3) := by decide +kernel
theorem dMo_load_29 : decode cMo_load 29 = .ok (.invokestatic 131, 3) := by decide +kernel
theorem dMo_load_32 : decode cMo_load 32 = .ok (.ifCond .eq 7, 3) := by decide +kernel
theorem dMo_load_35 : decode cMo_load 35 = .ok (.iconst 2, 1) := by decide +kernel
theorem dMo_load_36 : decode cMo_load 36 = .ok (.goto 18, 3) := by decide +kernel
theorem dMo_load_39 : decode cMo_load 39 = .ok (.aload_n 0, 1) := by decide +kernel
theorem dMo_load_40 : decode cMo_load 40 = .ok (.getfield 39, 3) := by decide +kernel
theorem dMo_load_43 : decode cMo_load 43 = .ok (.iload_n 1, 1) := by decide +kernel
theorem dMo_load_44 : decode cMo_load 44 = .ok (.iaload, 1) := by decide +kernel
theorem dMo_load_45 : decode cMo_load 45 = .ok (.iconst 1, 1) := by decide +kernel
theorem dMo_load_46 : decode cMo_load 46 = .ok (.if_icmp .eq 7, 3) := by decide +kernel
theorem dMo_load_49 : decode cMo_load 49 = .ok (.iconst 3, 1) := by decide +kernel
theorem dMo_load_50 : decode cMo_load 50 = .ok (.goto 4, 3) := by decide +kernel
theorem dMo_load_53 : decode cMo_load 53 = .ok (.iconst 0, 1) := by decide +kernel
theorem dMo_load_54 : decode cMo_load 54 = .ok (.putfield 7, 3) := by decide +kernel
theorem dMo_load_57 : decode cMo_load 57 = .ok (.aload_n 0, 1) := by decide +kernel
theorem dMo_load_58 : decode cMo_load 58 = .ok (.getfield 7, 3) := by decide +kernel
theorem dMo_load_61 : decode cMo_load 61 = .ok (.ifCond .eq 5, 3) := by decide +kernel
theorem dMo_load_64 : decode cMo_load 64 = .ok (.iconst 0, 1) := by decide +kernel
theorem dMo_load_65 : decode cMo_load 65 = .ok (.ireturn, 1) := by decide +kernel
theorem dMo_load_66 : decode cMo_load 66 = .ok (.aload_n 0, 1) := by decide +kernel
theorem dMo_load_67 : decode cMo_load 67 = .ok (.getfield 69, 3) := by decide +kernel
theorem dMo_load_70 : decode cMo_load 70 = .ok (.iload_n 1, 1) := by decide +kernel
theorem dMo_load_71 : decode cMo_load 71 = .ok (.iload_n 2, 1) := by decide +kernel
theorem dMo_load_72 : decode cMo_load 72 = .ok (.iload_n 3, 1) := by decide +kernel
theorem dMo_load_73 : decode cMo_load 73 = .ok (.if_icmp .ne 7, 3) := by decide +kernel
theorem dMo_load_76 : decode cMo_load 76 = .ok (.iconst 1, 1) := by decide +kernel
theorem dMo_load_77 : decode cMo_load 77 = .ok (.goto 4, 3) := by decide +kernel
theorem dMo_load_80 : decode cMo_load 80 = .ok (.iconst 0, 1) := by decide +kernel
theorem dMo_load_81 : decode cMo_load 81 = .ok (.bastore, 1) := by decide +kernel
theorem dMo_load_82 : decode cMo_load 82 = .ok (.aload_n 0, 1) := by decide +kernel
theorem dMo_load_83 : decode cMo_load 83 = .ok (.getfield 69, 3) := by decide +kernel
theorem dMo_load_86 : decode cMo_load 86 = .ok (.iload_n 1, 1) := by decide +kernel
theorem dMo_load_87 : decode cMo_load 87 = .ok (.baload, 1) := by decide +kernel
theorem dMo_load_88 : decode cMo_load 88 = .ok (.ireturn, 1) := by decide +kernel
abbrev cMo_depart : ByteArray := prog_7_method_28_code
abbrev mMo_depart : MD := (⟨"DockBookModel", "depart", "(I)I"⟩, cMo_depart, 2, some (.int), [])
theorem dMo_depart_0 : decode cMo_depart 0 = .ok (.aload_n 0, 1) := by decide +kernel
theorem dMo_depart_1 : decode cMo_depart 1 = .ok (.aload_n 0, 1) := by decide +kernel
theorem dMo_depart_2 : decode cMo_depart 2 = .ok (.iload_n 1, 1) := by decide +kernel
theorem dMo_depart_3 : decode cMo_depart 3 = .ok (.invokevirtual 152, 3) := by decide +kernel
theorem dMo_depart_6 : decode cMo_depart 6 = .ok (.ifCond .eq 7, 3) := by decide +kernel
theorem dMo_depart_9 : decode cMo_depart 9 = .ok (.iconst 1, 1) := by decide +kernel
theorem dMo_depart_10 : decode cMo_depart 10 = .ok (.goto 18, 3) := by decide +kernel
theorem dMo_depart_13 : decode cMo_depart 13 = .ok (.aload_n 0, 1) := by decide +kernel
theorem dMo_depart_14 : decode cMo_depart 14 = .ok (.getfield 39, 3) := by decide +kernel
theorem dMo_depart_17 : decode cMo_depart 17 = .ok (.iload_n 1, 1) := by decide +kernel
theorem dMo_depart_18 : decode cMo_depart 18 = .ok (.iaload, 1) := by decide +kernel
theorem dMo_depart_19 : decode cMo_depart 19 = .ok (.iconst 1, 1) := by decide +kernel
theorem dMo_depart_20 : decode cMo_depart 20 = .ok (.if_icmp .eq 7, 3) := by decide +kernel
theorem dMo_depart_23 : decode cMo_depart 23 = .ok (.iconst 2, 1) := by decide +kernel
theorem dMo_depart_24 : decode cMo_depart 24 = .ok (.goto 4, 3) := by decide +kernel
theorem dMo_depart_27 : decode cMo_depart 27 = .ok (.iconst 0, 1) := by decide +kernel
theorem dMo_depart_28 : decode cMo_depart 28 = .ok (.putfield 7, 3) := by decide +kernel
theorem dMo_depart_31 : decode cMo_depart 31 = .ok (.aload_n 0, 1) := by decide +kernel
theorem dMo_depart_32 : decode cMo_depart 32 = .ok (.getfield 7, 3) := by decide +kernel
theorem dMo_depart_35 : decode cMo_depart 35 = .ok (.ifCond .eq 5, 3) := by decide +kernel
theorem dMo_depart_38 : decode cMo_depart 38 = .ok (.iconst 0, 1) := by decide +kernel
theorem dMo_depart_39 : decode cMo_depart 39 = .ok (.ireturn, 1) := by decide +kernel
theorem dMo_depart_40 : decode cMo_depart 40 = .ok (.aload_n 0, 1) := by decide +kernel
theorem dMo_depart_41 : decode cMo_depart 41 = .ok (.getfield 66, 3) := by decide +kernel
theorem dMo_depart_44 : decode cMo_depart 44 = .ok (.iload_n 1, 1) := by decide +kernel
theorem dMo_depart_45 : decode cMo_depart 45 = .ok (.baload, 1) := by decide +kernel
theorem dMo_depart_46 : decode cMo_depart 46 = .ok (.ifCond .ne 5, 3) := by decide +kernel
theorem dMo_depart_49 : decode cMo_depart 49 = .ok (.iconst 2, 1) := by decide +kernel
theorem dMo_depart_50 : decode cMo_depart 50 = .ok (.ireturn, 1) := by decide +kernel
theorem dMo_depart_51 : decode cMo_depart 51 = .ok (.aload_n 0, 1) := by decide +kernel
theorem dMo_depart_52 : decode cMo_depart 52 = .ok (.getfield 69, 3) := by decide +kernel
theorem dMo_depart_55 : decode cMo_depart 55 = .ok (.iload_n 1, 1) := by decide +kernel
theorem dMo_depart_56 : decode cMo_depart 56 = .ok (.baload, 1) := by decide +kernel
theorem dMo_depart_57 : decode cMo_depart 57 = .ok (.ifCond .ne 5, 3) := by decide +kernel
theorem dMo_depart_60 : decode cMo_depart 60 = .ok (.iconst 3, 1) := by decide +kernel
theorem dMo_depart_61 : decode cMo_depart 61 = .ok (.ireturn, 1) := by decide +kernel
theorem dMo_depart_62 : decode cMo_depart 62 = .ok (.aload_n 0, 1) := by decide +kernel
theorem dMo_depart_63 : decode cMo_depart 63 = .ok (.getfield 57, 3) := by decide +kernel
theorem dMo_depart_66 : decode cMo_depart 66 = .ok (.iload_n 1, 1) := by decide +kernel
theorem dMo_depart_67 : decode cMo_depart 67 = .ok (.iaload, 1) := by decide +kernel
theorem dMo_depart_68 : decode cMo_depart 68 = .ok (.aload_n 0, 1) := by decide +kernel
theorem dMo_depart_69 : decode cMo_depart 69 = .ok (.getfield 48, 3) := by decide +kernel
theorem dMo_depart_72 : decode cMo_depart 72 = .ok (.iload_n 1, 1) := by decide +kernel
theorem dMo_depart_73 : decode cMo_depart 73 = .ok (.iaload, 1) := by decide +kernel
theorem dMo_depart_74 : decode cMo_depart 74 = .ok (.iadd, 1) := by decide +kernel
theorem dMo_depart_75 : decode cMo_depart 75 = .ok (.aload_n 0, 1) := by decide +kernel
theorem dMo_depart_76 : decode cMo_depart 76 = .ok (.getfield 13, 3) := by decide +kernel
theorem dMo_depart_79 : decode cMo_depart 79 = .ok (.if_icmp .le 5, 3) := by decide +kernel
theorem dMo_depart_82 : decode cMo_depart 82 = .ok (.iconst 4, 1) := by decide +kernel
theorem dMo_depart_83 : decode cMo_depart 83 = .ok (.ireturn, 1) := by decide +kernel
theorem dMo_depart_84 : decode cMo_depart 84 = .ok (.aload_n 0, 1) := by decide +kernel
theorem dMo_depart_85 : decode cMo_depart 85 = .ok (.getfield 39, 3) := by decide +kernel
theorem dMo_depart_88 : decode cMo_depart 88 = .ok (.iload_n 1, 1) := by decide +kernel
theorem dMo_depart_89 : decode cMo_depart 89 = .ok (.iconst 2, 1) := by decide +kernel
theorem dMo_depart_90 : decode cMo_depart 90 = .ok (.iastore, 1) := by decide +kernel
theorem dMo_depart_91 : decode cMo_depart 91 = .ok (.aload_n 0, 1) := by decide +kernel
theorem dMo_depart_92 : decode cMo_depart 92 = .ok (.getfield 60, 3) := by decide +kernel
theorem dMo_depart_95 : decode cMo_depart 95 = .ok (.iload_n 1, 1) := by decide +kernel
theorem dMo_depart_96 : decode cMo_depart 96 = .ok (.aload_n 0, 1) := by decide +kernel
theorem dMo_depart_97 : decode cMo_depart 97 = .ok (.getfield 13, 3) := by decide +kernel
theorem dMo_depart_100 : decode cMo_depart 100 = .ok (.aload_n 0, 1) := by decide +kernel
theorem dMo_depart_101 : decode cMo_depart 101 = .ok (.getfield 45, 3) := by decide +kernel
theorem dMo_depart_104 : decode cMo_depart 104 = .ok (.iload_n 1, 1) := by decide +kernel
theorem dMo_depart_105 : decode cMo_depart 105 = .ok (.iaload, 1) := by decide +kernel
theorem dMo_depart_106 : decode cMo_depart 106 = .ok (.isub, 1) := by decide +kernel
theorem dMo_depart_107 : decode cMo_depart 107 = .ok (.iastore, 1) := by decide +kernel
theorem dMo_depart_108 : decode cMo_depart 108 = .ok (.aload_n 0, 1) := by decide +kernel
theorem dMo_depart_109 : decode cMo_depart 109 = .ok (.getfield 33, 3) := by decide +kernel
theorem dMo_depart_112 : decode cMo_depart 112 = .ok (.aload_n 0, 1) := by decide +kernel
theorem dMo_depart_113 : decode cMo_depart 113 = .ok (.getfield 54, 3) := by decide +kernel
theorem dMo_depart_116 : decode cMo_depart 116 = .ok (.iload_n 1, 1) := by decide +kernel
theorem dMo_depart_117 : decode cMo_depart 117 = .ok (.iaload, 1) := by decide +kernel
theorem dMo_depart_118 : decode cMo_depart 118 = .ok (.aload_n 0, 1) := by decide +kernel
theorem dMo_depart_119 : decode cMo_depart 119 = .ok (.getfield 33, 3) := by decide +kernel
theorem dMo_depart_122 : decode cMo_depart 122 = .ok (.aload_n 0, 1) := by decide +kernel
theorem dMo_depart_123 : decode cMo_depart 123 = .ok (.getfield 54, 3) := by decide +kernel
theorem dMo_depart_126 : decode cMo_depart 126 = .ok (.iload_n 1, 1) := by decide +kernel
theorem dMo_depart_127 : decode cMo_depart 127 = .ok (.iaload, 1) := by decide +kernel
theorem dMo_depart_128 : decode cMo_depart 128 = .ok (.iaload, 1) := by decide +kernel
theorem dMo_depart_129 : decode cMo_depart 129 = .ok (.iconst 1, 1) := by decide +kernel
theorem dMo_depart_130 : decode cMo_depart 130 = .ok (.iadd, 1) := by decide +kernel
theorem dMo_depart_131 : decode cMo_depart 131 = .ok (.iastore, 1) := by decide +kernel
theorem dMo_depart_132 : decode cMo_depart 132 = .ok (.iconst 1, 1) := by decide +kernel
theorem dMo_depart_133 : decode cMo_depart 133 = .ok (.ireturn, 1) := by decide +kernel
abbrev cMo_late : ByteArray := prog_7_method_29_code
abbrev mMo_late : MD := (⟨"DockBookModel", "late", "(II)Z"⟩, cMo_late, 4, some (.boolean), [])
theorem dMo_late_0 : decode cMo_late 0 = .ok (.aload_n 0, 1) := by decide +kernel
theorem dMo_late_1 : decode cMo_late 1 = .ok (.aload_n 0, 1) := by decide +kernel
theorem dMo_late_2 : decode cMo_late 2 = .ok (.iload_n 1, 1) := by decide +kernel
theorem dMo_late_3 : decode cMo_late 3 = .ok (.invokevirtual 152, 3) := by decide +kernel
theorem dMo_late_6 : decode cMo_late 6 = .ok (.ifCond .eq 7, 3) := by decide +kernel
theorem dMo_late_9 : decode cMo_late 9 = .ok (.iconst 1, 1) := by decide +kernel
theorem dMo_late_10 : decode cMo_late 10 = .ok (.goto 32, 3) := by decide +kernel
theorem dMo_late_13 : decode cMo_late 13 = .ok (.iload_n 2, 1) := by decide +kernel
theorem dMo_late_14 : decode cMo_late 14 = .ok (.iconst 0, 1) := by decide +kernel
theorem dMo_late_15 : decode cMo_late 15 = .ok (.sipush 2000, 3) := by decide +kernel
theorem dMo_late_18 : decode cMo_late 18 = .ok (.invokestatic 131, 3) := by decide +kernel
theorem dMo_late_21 : decode cMo_late 21 = .ok (.ifCond .eq 7, 3) := by decide +kernel
theorem dMo_late_24 : decode cMo_late 24 = .ok (.iconst 2, 1) := by decide +kernel
theorem dMo_late_25 : decode cMo_late 25 = .ok (.goto 17, 3) := by decide +kernel
theorem dMo_late_28 : decode cMo_late 28 = .ok (.aload_n 0, 1) := by decide +kernel
theorem dMo_late_29 : decode cMo_late 29 = .ok (.getfield 39, 3) := by decide +kernel
theorem dMo_late_32 : decode cMo_late 32 = .ok (.iload_n 1, 1) := by decide +kernel
theorem dMo_late_33 : decode cMo_late 33 = .ok (.iaload, 1) := by decide +kernel
theorem dMo_late_34 : decode cMo_late 34 = .ok (.ifCond .eq 7, 3) := by decide +kernel
theorem dMo_late_37 : decode cMo_late 37 = .ok (.iconst 3, 1) := by decide +kernel
theorem dMo_late_38 : decode cMo_late 38 = .ok (.goto 4, 3) := by decide +kernel
theorem dMo_late_41 : decode cMo_late 41 = .ok (.iconst 0, 1) := by decide +kernel
theorem dMo_late_42 : decode cMo_late 42 = .ok (.putfield 7, 3) := by decide +kernel
theorem dMo_late_45 : decode cMo_late 45 = .ok (.aload_n 0, 1) := by decide +kernel
theorem dMo_late_46 : decode cMo_late 46 = .ok (.getfield 7, 3) := by decide +kernel
theorem dMo_late_49 : decode cMo_late 49 = .ok (.ifCond .eq 5, 3) := by decide +kernel
theorem dMo_late_52 : decode cMo_late 52 = .ok (.iconst 0, 1) := by decide +kernel
theorem dMo_late_53 : decode cMo_late 53 = .ok (.ireturn, 1) := by decide +kernel
theorem dMo_late_54 : decode cMo_late 54 = .ok (.aload_n 0, 1) := by decide +kernel
theorem dMo_late_55 : decode cMo_late 55 = .ok (.getfield 54, 3) := by decide +kernel
theorem dMo_late_58 : decode cMo_late 58 = .ok (.iload_n 1, 1) := by decide +kernel
theorem dMo_late_59 : decode cMo_late 59 = .ok (.iaload, 1) := by decide +kernel
theorem dMo_late_60 : decode cMo_late 60 = .ok (.ifCond .lt 7, 3) := by decide +kernel
theorem dMo_late_63 : decode cMo_late 63 = .ok (.iconst 1, 1) := by decide +kernel
theorem dMo_late_64 : decode cMo_late 64 = .ok (.goto 4, 3) := by decide +kernel
theorem dMo_late_67 : decode cMo_late 67 = .ok (.iconst 0, 1) := by decide +kernel
theorem dMo_late_68 : decode cMo_late 68 = .ok (.istore_n 3, 1) := by decide +kernel
theorem dMo_late_69 : decode cMo_late 69 = .ok (.aload_n 0, 1) := by decide +kernel
theorem dMo_late_70 : decode cMo_late 70 = .ok (.getfield 45, 3) := by decide +kernel
theorem dMo_late_73 : decode cMo_late 73 = .ok (.iload_n 1, 1) := by decide +kernel
theorem dMo_late_74 : decode cMo_late 74 = .ok (.iload_n 2, 1) := by decide +kernel
theorem dMo_late_75 : decode cMo_late 75 = .ok (.iastore, 1) := by decide +kernel
theorem dMo_late_76 : decode cMo_late 76 = .ok (.aload_n 0, 1) := by decide +kernel
theorem dMo_late_77 : decode cMo_late 77 = .ok (.getfield 57, 3) := by decide +kernel
theorem dMo_late_80 : decode cMo_late 80 = .ok (.iload_n 1, 1) := by decide +kernel
theorem dMo_late_81 : decode cMo_late 81 = .ok (.iaload, 1) := by decide +kernel
theorem dMo_late_82 : decode cMo_late 82 = .ok (.iload_n 2, 1) := by decide +kernel
theorem dMo_late_83 : decode cMo_late 83 = .ok (.if_icmp .ge 8, 3) := by decide +kernel
theorem dMo_late_86 : decode cMo_late 86 = .ok (.aload_n 0, 1) := by decide +kernel
theorem dMo_late_87 : decode cMo_late 87 = .ok (.iload_n 1, 1) := by decide +kernel
theorem dMo_late_88 : decode cMo_late 88 = .ok (.invokevirtual 135, 3) := by decide +kernel
theorem dMo_late_91 : decode cMo_late 91 = .ok (.iload_n 3, 1) := by decide +kernel
theorem dMo_late_92 : decode cMo_late 92 = .ok (.ireturn, 1) := by decide +kernel
abbrev cMo_cancel : ByteArray := prog_7_method_30_code
abbrev mMo_cancel : MD := (⟨"DockBookModel", "cancel", "(I)V"⟩, cMo_cancel, 2, none, [])
theorem dMo_cancel_0 : decode cMo_cancel 0 = .ok (.aload_n 0, 1) := by decide +kernel
theorem dMo_cancel_1 : decode cMo_cancel 1 = .ok (.aload_n 0, 1) := by decide +kernel
theorem dMo_cancel_2 : decode cMo_cancel 2 = .ok (.iload_n 1, 1) := by decide +kernel
theorem dMo_cancel_3 : decode cMo_cancel 3 = .ok (.invokevirtual 152, 3) := by decide +kernel
theorem dMo_cancel_6 : decode cMo_cancel 6 = .ok (.ifCond .eq 7, 3) := by decide +kernel
theorem dMo_cancel_9 : decode cMo_cancel 9 = .ok (.iconst 1, 1) := by decide +kernel
theorem dMo_cancel_10 : decode cMo_cancel 10 = .ok (.goto 17, 3) := by decide +kernel
theorem dMo_cancel_13 : decode cMo_cancel 13 = .ok (.aload_n 0, 1) := by decide +kernel
theorem dMo_cancel_14 : decode cMo_cancel 14 = .ok (.getfield 39, 3) := by decide +kernel
theorem dMo_cancel_17 : decode cMo_cancel 17 = .ok (.iload_n 1, 1) := by decide +kernel
theorem dMo_cancel_18 : decode cMo_cancel 18 = .ok (.iaload, 1) := by decide +kernel
theorem dMo_cancel_19 : decode cMo_cancel 19 = .ok (.ifCond .eq 7, 3) := by decide +kernel
theorem dMo_cancel_22 : decode cMo_cancel 22 = .ok (.iconst 2, 1) := by decide +kernel
theorem dMo_cancel_23 : decode cMo_cancel 23 = .ok (.goto 4, 3) := by decide +kernel
theorem dMo_cancel_26 : decode cMo_cancel 26 = .ok (.iconst 0, 1) := by decide +kernel
theorem dMo_cancel_27 : decode cMo_cancel 27 = .ok (.putfield 7, 3) := by decide +kernel
theorem dMo_cancel_30 : decode cMo_cancel 30 = .ok (.aload_n 0, 1) := by decide +kernel
theorem dMo_cancel_31 : decode cMo_cancel 31 = .ok (.getfield 7, 3) := by decide +kernel
theorem dMo_cancel_34 : decode cMo_cancel 34 = .ok (.ifCond .eq 4, 3) := by decide +kernel
theorem dMo_cancel_37 : decode cMo_cancel 37 = .ok (.return_, 1) := by decide +kernel
theorem dMo_cancel_38 : decode cMo_cancel 38 = .ok (.aload_n 0, 1) := by decide +kernel
theorem dMo_cancel_39 : decode cMo_cancel 39 = .ok (.getfield 39, 3) := by decide +kernel
theorem dMo_cancel_42 : decode cMo_cancel 42 = .ok (.iload_n 1, 1) := by decide +kernel
theorem dMo_cancel_43 : decode cMo_cancel 43 = .ok (.iconst 3, 1) := by decide +kernel
theorem dMo_cancel_44 : decode cMo_cancel 44 = .ok (.iastore, 1) := by decide +kernel
theorem dMo_cancel_45 : decode cMo_cancel 45 = .ok (.aload_n 0, 1) := by decide +kernel
theorem dMo_cancel_46 : decode cMo_cancel 46 = .ok (.iload_n 1, 1) := by decide +kernel
theorem dMo_cancel_47 : decode cMo_cancel 47 = .ok (.invokevirtual 135, 3) := by decide +kernel
theorem dMo_cancel_50 : decode cMo_cancel 50 = .ok (.return_, 1) := by decide +kernel
abbrev cMo_out : ByteArray := prog_7_method_31_code
abbrev mMo_out : MD := (⟨"DockBookModel", "out", "(IZ)I"⟩, cMo_out, 5, some (.int), [])
theorem dMo_out_0 : decode cMo_out 0 = .ok (.aload_n 0, 1) := by decide +kernel
theorem dMo_out_1 : decode cMo_out 1 = .ok (.aload_n 0, 1) := by decide +kernel
theorem dMo_out_2 : decode cMo_out 2 = .ok (.iload_n 1, 1) := by decide +kernel
theorem dMo_out_3 : decode cMo_out 3 = .ok (.invokevirtual 156, 3) := by decide +kernel
theorem dMo_out_6 : decode cMo_out 6 = .ok (.ifCond .eq 7, 3) := by decide +kernel
theorem dMo_out_9 : decode cMo_out 9 = .ok (.iconst 1, 1) := by decide +kernel
theorem dMo_out_10 : decode cMo_out 10 = .ok (.goto 18, 3) := by decide +kernel
theorem dMo_out_13 : decode cMo_out 13 = .ok (.aload_n 0, 1) := by decide +kernel
theorem dMo_out_14 : decode cMo_out 14 = .ok (.getfield 29, 3) := by decide +kernel
theorem dMo_out_17 : decode cMo_out 17 = .ok (.iload_n 1, 1) := by decide +kernel
theorem dMo_out_18 : decode cMo_out 18 = .ok (.baload, 1) := by decide +kernel
theorem dMo_out_19 : decode cMo_out 19 = .ok (.iload_n 2, 1) := by decide +kernel
theorem dMo_out_20 : decode cMo_out 20 = .ok (.if_icmp .ne 7, 3) := by decide +kernel
theorem dMo_out_23 : decode cMo_out 23 = .ok (.iconst 2, 1) := by decide +kernel
theorem dMo_out_24 : decode cMo_out 24 = .ok (.goto 4, 3) := by decide +kernel
theorem dMo_out_27 : decode cMo_out 27 = .ok (.iconst 0, 1) := by decide +kernel
theorem dMo_out_28 : decode cMo_out 28 = .ok (.putfield 7, 3) := by decide +kernel
theorem dMo_out_31 : decode cMo_out 31 = .ok (.aload_n 0, 1) := by decide +kernel
theorem dMo_out_32 : decode cMo_out 32 = .ok (.getfield 7, 3) := by decide +kernel
theorem dMo_out_35 : decode cMo_out 35 = .ok (.ifCond .eq 5, 3) := by decide +kernel
theorem dMo_out_38 : decode cMo_out 38 = .ok (.iconst 0, 1) := by decide +kernel
theorem dMo_out_39 : decode cMo_out 39 = .ok (.ireturn, 1) := by decide +kernel
theorem dMo_out_40 : decode cMo_out 40 = .ok (.aload_n 0, 1) := by decide +kernel
theorem dMo_out_41 : decode cMo_out 41 = .ok (.getfield 29, 3) := by decide +kernel
theorem dMo_out_44 : decode cMo_out 44 = .ok (.iload_n 1, 1) := by decide +kernel
theorem dMo_out_45 : decode cMo_out 45 = .ok (.iload_n 2, 1) := by decide +kernel
theorem dMo_out_46 : decode cMo_out 46 = .ok (.bastore, 1) := by decide +kernel
theorem dMo_out_47 : decode cMo_out 47 = .ok (.iconst 0, 1) := by decide +kernel
theorem dMo_out_48 : decode cMo_out 48 = .ok (.istore_n 3, 1) := by decide +kernel
theorem dMo_out_49 : decode cMo_out 49 = .ok (.iconst 0, 1) := by decide +kernel
theorem dMo_out_50 : decode cMo_out 50 = .ok (.istore 4, 2) := by decide +kernel
theorem dMo_out_52 : decode cMo_out 52 = .ok (.iload 4, 2) := by decide +kernel
theorem dMo_out_54 : decode cMo_out 54 = .ok (.aload_n 0, 1) := by decide +kernel
theorem dMo_out_55 : decode cMo_out 55 = .ok (.getfield 36, 3) := by decide +kernel
theorem dMo_out_58 : decode cMo_out 58 = .ok (.if_icmp .ge 43, 3) := by decide +kernel
theorem dMo_out_61 : decode cMo_out 61 = .ok (.iload_n 2, 1) := by decide +kernel
theorem dMo_out_62 : decode cMo_out 62 = .ok (.ifCond .eq 33, 3) := by decide +kernel
theorem dMo_out_65 : decode cMo_out 65 = .ok (.aload_n 0, 1) := by decide +kernel
theorem dMo_out_66 : decode cMo_out 66 = .ok (.getfield 39, 3) := by decide +kernel
theorem dMo_out_69 : decode cMo_out 69 = .ok (.iload 4, 2) := by decide +kernel
theorem dMo_out_71 : decode cMo_out 71 = .ok (.iaload, 1) := by decide +kernel
theorem dMo_out_72 : decode cMo_out 72 = .ok (.ifCond .ne 23, 3) := by decide +kernel
theorem dMo_out_75 : decode cMo_out 75 = .ok (.aload_n 0, 1) := by decide +kernel
theorem dMo_out_76 : decode cMo_out 76 = .ok (.getfield 54, 3) := by decide +kernel
theorem dMo_out_79 : decode cMo_out 79 = .ok (.iload 4, 2) := by decide +kernel
theorem dMo_out_81 : decode cMo_out 81 = .ok (.iaload, 1) := by decide +kernel
theorem dMo_out_82 : decode cMo_out 82 = .ok (.iload_n 1, 1) := by decide +kernel
theorem dMo_out_83 : decode cMo_out 83 = .ok (.if_icmp .ne 12, 3) := by decide +kernel
theorem dMo_out_86 : decode cMo_out 86 = .ok (.aload_n 0, 1) := by decide +kernel
theorem dMo_out_87 : decode cMo_out 87 = .ok (.iload 4, 2) := by decide +kernel
theorem dMo_out_89 : decode cMo_out 89 = .ok (.invokevirtual 135, 3) := by decide +kernel
theorem dMo_out_92 : decode cMo_out 92 = .ok (.iinc 3 1, 3) := by decide +kernel
theorem dMo_out_95 : decode cMo_out 95 = .ok (.iinc 4 1, 3) := by decide +kernel
theorem dMo_out_98 : decode cMo_out 98 = .ok (.goto (-46), 3) := by decide +kernel
theorem dMo_out_101 : decode cMo_out 101 = .ok (.iload_n 3, 1) := by decide +kernel
theorem dMo_out_102 : decode cMo_out 102 = .ok (.ireturn, 1) := by decide +kernel
abbrev cMo_pass : ByteArray := prog_7_method_32_code
abbrev mMo_pass : MD := (⟨"DockBookModel", "pass", "(I)V"⟩, cMo_pass, 2, none, [])
theorem dMo_pass_0 : decode cMo_pass 0 = .ok (.aload_n 0, 1) := by decide +kernel
theorem dMo_pass_1 : decode cMo_pass 1 = .ok (.iload_n 1, 1) := by decide +kernel
theorem dMo_pass_2 : decode cMo_pass 2 = .ok (.aload_n 0, 1) := by decide +kernel
theorem dMo_pass_3 : decode cMo_pass 3 = .ok (.getfield 13, 3) := by decide +kernel
theorem dMo_pass_6 : decode cMo_pass 6 = .ok (.if_icmp .lt 10, 3) := by decide +kernel
theorem dMo_pass_9 : decode cMo_pass 9 = .ok (.iload_n 1, 1) := by decide +kernel
theorem dMo_pass_10 : decode cMo_pass 10 = .ok (.sipush 2000, 3) := by decide +kernel
theorem dMo_pass_13 : decode cMo_pass 13 = .ok (.if_icmp .le 7, 3) := by decide +kernel
theorem dMo_pass_16 : decode cMo_pass 16 = .ok (.iconst 1, 1) := by decide +kernel
theorem dMo_pass_17 : decode cMo_pass 17 = .ok (.goto 4, 3) := by decide +kernel
theorem dMo_pass_20 : decode cMo_pass 20 = .ok (.iconst 0, 1) := by decide +kernel
theorem dMo_pass_21 : decode cMo_pass 21 = .ok (.putfield 7, 3) := by decide +kernel
theorem dMo_pass_24 : decode cMo_pass 24 = .ok (.aload_n 0, 1) := by decide +kernel
theorem dMo_pass_25 : decode cMo_pass 25 = .ok (.getfield 7, 3) := by decide +kernel
theorem dMo_pass_28 : decode cMo_pass 28 = .ok (.ifCond .ne 8, 3) := by decide +kernel
theorem dMo_pass_31 : decode cMo_pass 31 = .ok (.aload_n 0, 1) := by decide +kernel
theorem dMo_pass_32 : decode cMo_pass 32 = .ok (.iload_n 1, 1) := by decide +kernel
theorem dMo_pass_33 : decode cMo_pass 33 = .ok (.putfield 13, 3) := by decide +kernel
theorem dMo_pass_36 : decode cMo_pass 36 = .ok (.return_, 1) := by decide +kernel
abbrev cMo_order : ByteArray := prog_7_method_33_code
abbrev mMo_order : MD := (⟨"DockBookModel", "order", "(II)I"⟩, cMo_order, 6, some (.int), [])
theorem dMo_order_0 : decode cMo_order 0 = .ok (.aload_n 0, 1) := by decide +kernel
theorem dMo_order_1 : decode cMo_order 1 = .ok (.aload_n 0, 1) := by decide +kernel
theorem dMo_order_2 : decode cMo_order 2 = .ok (.iload_n 1, 1) := by decide +kernel
theorem dMo_order_3 : decode cMo_order 3 = .ok (.invokevirtual 156, 3) := by decide +kernel
theorem dMo_order_6 : decode cMo_order 6 = .ok (.ifCond .ne 7, 3) := by decide +kernel
theorem dMo_order_9 : decode cMo_order 9 = .ok (.iload_n 2, 1) := by decide +kernel
theorem dMo_order_10 : decode cMo_order 10 = .ok (.ifCond .ge 7, 3) := by decide +kernel
theorem dMo_order_13 : decode cMo_order 13 = .ok (.iconst 1, 1) := by decide +kernel
theorem dMo_order_14 : decode cMo_order 14 = .ok (.goto 4, 3) := by decide +kernel
theorem dMo_order_17 : decode cMo_order 17 = .ok (.iconst 0, 1) := by decide +kernel
theorem dMo_order_18 : decode cMo_order 18 = .ok (.putfield 7, 3) := by decide +kernel
theorem dMo_order_21 : decode cMo_order 21 = .ok (.aload_n 0, 1) := by decide +kernel
theorem dMo_order_22 : decode cMo_order 22 = .ok (.getfield 7, 3) := by decide +kernel
theorem dMo_order_25 : decode cMo_order 25 = .ok (.ifCond .eq 5, 3) := by decide +kernel
theorem dMo_order_28 : decode cMo_order 28 = .ok (.iconst 0, 1) := by decide +kernel
theorem dMo_order_29 : decode cMo_order 29 = .ok (.ireturn, 1) := by decide +kernel
theorem dMo_order_30 : decode cMo_order 30 = .ok (.iconst 0, 1) := by decide +kernel
theorem dMo_order_31 : decode cMo_order 31 = .ok (.istore_n 3, 1) := by decide +kernel
theorem dMo_order_32 : decode cMo_order 32 = .ok (.iload_n 3, 1) := by decide +kernel
theorem dMo_order_33 : decode cMo_order 33 = .ok (.aload_n 0, 1) := by decide +kernel
theorem dMo_order_34 : decode cMo_order 34 = .ok (.getfield 36, 3) := by decide +kernel
theorem dMo_order_37 : decode cMo_order 37 = .ok (.if_icmp .ge 126, 3) := by decide +kernel
theorem dMo_order_40 : decode cMo_order 40 = .ok (.aload_n 0, 1) := by decide +kernel
theorem dMo_order_41 : decode cMo_order 41 = .ok (.getfield 39, 3) := by decide +kernel
theorem dMo_order_44 : decode cMo_order 44 = .ok (.iload_n 3, 1) := by decide +kernel
theorem dMo_order_45 : decode cMo_order 45 = .ok (.iaload, 1) := by decide +kernel
theorem dMo_order_46 : decode cMo_order 46 = .ok (.ifCond .ne 111, 3) := by decide +kernel
theorem dMo_order_49 : decode cMo_order 49 = .ok (.aload_n 0, 1) := by decide +kernel
theorem dMo_order_50 : decode cMo_order 50 = .ok (.getfield 54, 3) := by decide +kernel
theorem dMo_order_53 : decode cMo_order 53 = .ok (.iload_n 3, 1) := by decide +kernel
theorem dMo_order_54 : decode cMo_order 54 = .ok (.iaload, 1) := by decide +kernel
theorem dMo_order_55 : decode cMo_order 55 = .ok (.iload_n 1, 1) := by decide +kernel
theorem dMo_order_56 : decode cMo_order 56 = .ok (.if_icmp .ne 101, 3) := by decide +kernel
theorem dMo_order_59 : decode cMo_order 59 = .ok (.iconst 0, 1) := by decide +kernel
theorem dMo_order_60 : decode cMo_order 60 = .ok (.istore 4, 2) := by decide +kernel
theorem dMo_order_62 : decode cMo_order 62 = .ok (.iconst 0, 1) := by decide +kernel
theorem dMo_order_63 : decode cMo_order 63 = .ok (.istore 5, 2) := by decide +kernel
theorem dMo_order_65 : decode cMo_order 65 = .ok (.iload 5, 2) := by decide +kernel
theorem dMo_order_67 : decode cMo_order 67 = .ok (.aload_n 0, 1) := by decide +kernel
theorem dMo_order_68 : decode cMo_order 68 = .ok (.getfield 36, 3) := by decide +kernel
theorem dMo_order_71 : decode cMo_order 71 = .ok (.if_icmp .ge 78, 3) := by decide +kernel
theorem dMo_order_74 : decode cMo_order 74 = .ok (.iload 4, 2) := by decide +kernel
theorem dMo_order_76 : decode cMo_order 76 = .ok (.aload_n 0, 1) := by decide +kernel
theorem dMo_order_77 : decode cMo_order 77 = .ok (.getfield 39, 3) := by decide +kernel
theorem dMo_order_80 : decode cMo_order 80 = .ok (.iload 5, 2) := by decide +kernel
theorem dMo_order_82 : decode cMo_order 82 = .ok (.iaload, 1) := by decide +kernel
theorem dMo_order_83 : decode cMo_order 83 = .ok (.ifCond .ne 56, 3) := by decide +kernel
theorem dMo_order_86 : decode cMo_order 86 = .ok (.aload_n 0, 1) := by decide +kernel
theorem dMo_order_87 : decode cMo_order 87 = .ok (.getfield 54, 3) := by decide +kernel
theorem dMo_order_90 : decode cMo_order 90 = .ok (.iload 5, 2) := by decide +kernel
theorem dMo_order_92 : decode cMo_order 92 = .ok (.iaload, 1) := by decide +kernel
theorem dMo_order_93 : decode cMo_order 93 = .ok (.iload_n 1, 1) := by decide +kernel
theorem dMo_order_94 : decode cMo_order 94 = .ok (.if_icmp .ne 45, 3) := by decide +kernel
theorem dMo_order_97 : decode cMo_order 97 = .ok (.aload_n 0, 1) := by decide +kernel
theorem dMo_order_98 : decode cMo_order 98 = .ok (.getfield 57, 3) := by decide +kernel
theorem dMo_order_101 : decode cMo_order 101 = .ok (.iload 5, 2) := by decide +kernel
theorem dMo_order_103 : decode cMo_order 103 = .ok (.iaload, 1) := by decide +kernel
theorem dMo_order_104 : decode cMo_order 104 = .ok (.aload_n 0, 1) := by decide +kernel
theorem dMo_order_105 : decode cMo_order 105 = .ok (.getfield 57, 3) := by decide +kernel
theorem dMo_order_108 : decode cMo_order 108 = .ok (.iload_n 3, 1) := by decide +kernel
theorem dMo_order_109 : decode cMo_order 109 = .ok (.iaload, 1) := by decide +kernel
theorem dMo_order_110 : decode cMo_order 110 = .ok (.if_icmp .lt 25, 3) := by decide +kernel
theorem dMo_order_113 : decode cMo_order 113 = .ok (.aload_n 0, 1) := by decide +kernel
theorem dMo_order_114 : decode cMo_order 114 = .ok (.getfield 57, 3) := by decide +kernel
theorem dMo_order_117 : decode cMo_order 117 = .ok (.iload 5, 2) := by decide +kernel
theorem dMo_order_119 : decode cMo_order 119 = .ok (.iaload, 1) := by decide +kernel
theorem dMo_order_120 : decode cMo_order 120 = .ok (.aload_n 0, 1) := by decide +kernel
theorem dMo_order_121 : decode cMo_order 121 = .ok (.getfield 57, 3) := by decide +kernel
theorem dMo_order_124 : decode cMo_order 124 = .ok (.iload_n 3, 1) := by decide +kernel
theorem dMo_order_125 : decode cMo_order 125 = .ok (.iaload, 1) := by decide +kernel
theorem dMo_order_126 : decode cMo_order 126 = .ok (.if_icmp .ne 13, 3) := by decide +kernel
theorem dMo_order_129 : decode cMo_order 129 = .ok (.iload 5, 2) := by decide +kernel
theorem dMo_order_131 : decode cMo_order 131 = .ok (.iload_n 3, 1) := by decide +kernel
theorem dMo_order_132 : decode cMo_order 132 = .ok (.if_icmp .ge 7, 3) := by decide +kernel
theorem dMo_order_135 : decode cMo_order 135 = .ok (.iconst 1, 1) := by decide +kernel
theorem dMo_order_136 : decode cMo_order 136 = .ok (.goto 4, 3) := by decide +kernel
theorem dMo_order_139 : decode cMo_order 139 = .ok (.iconst 0, 1) := by decide +kernel
theorem dMo_order_140 : decode cMo_order 140 = .ok (.iadd, 1) := by decide +kernel
theorem dMo_order_141 : decode cMo_order 141 = .ok (.istore 4, 2) := by decide +kernel
theorem dMo_order_143 : decode cMo_order 143 = .ok (.iinc 5 1, 3) := by decide +kernel
theorem dMo_order_146 : decode cMo_order 146 = .ok (.goto (-81), 3) := by decide +kernel
theorem dMo_order_149 : decode cMo_order 149 = .ok (.iload 4, 2) := by decide +kernel
theorem dMo_order_151 : decode cMo_order 151 = .ok (.iload_n 2, 1) := by decide +kernel
theorem dMo_order_152 : decode cMo_order 152 = .ok (.if_icmp .ne 5, 3) := by decide +kernel
theorem dMo_order_155 : decode cMo_order 155 = .ok (.iload_n 3, 1) := by decide +kernel
theorem dMo_order_156 : decode cMo_order 156 = .ok (.ireturn, 1) := by decide +kernel
theorem dMo_order_157 : decode cMo_order 157 = .ok (.iinc 3 1, 3) := by decide +kernel
theorem dMo_order_160 : decode cMo_order 160 = .ok (.goto (-128), 3) := by decide +kernel
theorem dMo_order_163 : decode cMo_order 163 = .ok (.aload_n 0, 1) := by decide +kernel
theorem dMo_order_164 : decode cMo_order 164 = .ok (.iconst 1, 1) := by decide +kernel
theorem dMo_order_165 : decode cMo_order 165 = .ok (.putfield 7, 3) := by decide +kernel
theorem dMo_order_168 : decode cMo_order 168 = .ok (.iconst 0, 1) := by decide +kernel
theorem dMo_order_169 : decode cMo_order 169 = .ok (.ireturn, 1) := by decide +kernel
abbrev cMo_told : ByteArray := prog_7_method_34_code
abbrev mMo_told : MD := (⟨"DockBookModel", "told", "(II)I"⟩, cMo_told, 3, some (.int), [])
theorem dMo_told_0 : decode cMo_told 0 = .ok (.aload_n 0, 1) := by decide +kernel
theorem dMo_told_1 : decode cMo_told 1 = .ok (.aload_n 0, 1) := by decide +kernel
theorem dMo_told_2 : decode cMo_told 2 = .ok (.iload_n 1, 1) := by decide +kernel
theorem dMo_told_3 : decode cMo_told 3 = .ok (.invokevirtual 152, 3) := by decide +kernel
theorem dMo_told_6 : decode cMo_told 6 = .ok (.ifCond .eq 7, 3) := by decide +kernel
theorem dMo_told_9 : decode cMo_told 9 = .ok (.iconst 1, 1) := by decide +kernel
theorem dMo_told_10 : decode cMo_told 10 = .ok (.goto 18, 3) := by decide +kernel
theorem dMo_told_13 : decode cMo_told 13 = .ok (.iload_n 2, 1) := by decide +kernel
theorem dMo_told_14 : decode cMo_told 14 = .ok (.iconst 0, 1) := by decide +kernel
theorem dMo_told_15 : decode cMo_told 15 = .ok (.bipush 7, 2) := by decide +kernel
theorem dMo_told_17 : decode cMo_told 17 = .ok (.invokestatic 131, 3) := by decide +kernel
theorem dMo_told_20 : decode cMo_told 20 = .ok (.ifCond .eq 7, 3) := by decide +kernel
theorem dMo_told_23 : decode cMo_told 23 = .ok (.iconst 2, 1) := by decide +kernel
theorem dMo_told_24 : decode cMo_told 24 = .ok (.goto 4, 3) := by decide +kernel
theorem dMo_told_27 : decode cMo_told 27 = .ok (.iconst 0, 1) := by decide +kernel
theorem dMo_told_28 : decode cMo_told 28 = .ok (.putfield 7, 3) := by decide +kernel
theorem dMo_told_31 : decode cMo_told 31 = .ok (.aload_n 0, 1) := by decide +kernel
theorem dMo_told_32 : decode cMo_told 32 = .ok (.getfield 7, 3) := by decide +kernel
theorem dMo_told_35 : decode cMo_told 35 = .ok (.ifCond .eq 5, 3) := by decide +kernel
theorem dMo_told_38 : decode cMo_told 38 = .ok (.iconst 0, 1) := by decide +kernel
theorem dMo_told_39 : decode cMo_told 39 = .ok (.ireturn, 1) := by decide +kernel
theorem dMo_told_40 : decode cMo_told 40 = .ok (.iload_n 2, 1) := by decide +kernel
theorem dMo_told_41 : decode cMo_told 41 = .ok (.tableswitch 92 0 6 #[43, 50, 57, 64, 71, 78, 85], 43) := by decide +kernel
theorem dMo_told_84 : decode cMo_told 84 = .ok (.aload_n 0, 1) := by decide +kernel
theorem dMo_told_85 : decode cMo_told 85 = .ok (.getfield 39, 3) := by decide +kernel
theorem dMo_told_88 : decode cMo_told 88 = .ok (.iload_n 1, 1) := by decide +kernel
theorem dMo_told_89 : decode cMo_told 89 = .ok (.iaload, 1) := by decide +kernel
theorem dMo_told_90 : decode cMo_told 90 = .ok (.ireturn, 1) := by decide +kernel
theorem dMo_told_91 : decode cMo_told 91 = .ok (.aload_n 0, 1) := by decide +kernel
theorem dMo_told_92 : decode cMo_told 92 = .ok (.getfield 54, 3) := by decide +kernel
theorem dMo_told_95 : decode cMo_told 95 = .ok (.iload_n 1, 1) := by decide +kernel
theorem dMo_told_96 : decode cMo_told 96 = .ok (.iaload, 1) := by decide +kernel
theorem dMo_told_97 : decode cMo_told 97 = .ok (.ireturn, 1) := by decide +kernel
theorem dMo_told_98 : decode cMo_told 98 = .ok (.aload_n 0, 1) := by decide +kernel
theorem dMo_told_99 : decode cMo_told 99 = .ok (.getfield 57, 3) := by decide +kernel
theorem dMo_told_102 : decode cMo_told 102 = .ok (.iload_n 1, 1) := by decide +kernel
theorem dMo_told_103 : decode cMo_told 103 = .ok (.iaload, 1) := by decide +kernel
theorem dMo_told_104 : decode cMo_told 104 = .ok (.ireturn, 1) := by decide +kernel
theorem dMo_told_105 : decode cMo_told 105 = .ok (.aload_n 0, 1) := by decide +kernel
theorem dMo_told_106 : decode cMo_told 106 = .ok (.getfield 45, 3) := by decide +kernel
theorem dMo_told_109 : decode cMo_told 109 = .ok (.iload_n 1, 1) := by decide +kernel
theorem dMo_told_110 : decode cMo_told 110 = .ok (.iaload, 1) := by decide +kernel
theorem dMo_told_111 : decode cMo_told 111 = .ok (.ireturn, 1) := by decide +kernel
theorem dMo_told_112 : decode cMo_told 112 = .ok (.aload_n 0, 1) := by decide +kernel
theorem dMo_told_113 : decode cMo_told 113 = .ok (.getfield 48, 3) := by decide +kernel
theorem dMo_told_116 : decode cMo_told 116 = .ok (.iload_n 1, 1) := by decide +kernel
theorem dMo_told_117 : decode cMo_told 117 = .ok (.iaload, 1) := by decide +kernel
theorem dMo_told_118 : decode cMo_told 118 = .ok (.ireturn, 1) := by decide +kernel
theorem dMo_told_119 : decode cMo_told 119 = .ok (.aload_n 0, 1) := by decide +kernel
theorem dMo_told_120 : decode cMo_told 120 = .ok (.getfield 51, 3) := by decide +kernel
theorem dMo_told_123 : decode cMo_told 123 = .ok (.iload_n 1, 1) := by decide +kernel
theorem dMo_told_124 : decode cMo_told 124 = .ok (.iaload, 1) := by decide +kernel
theorem dMo_told_125 : decode cMo_told 125 = .ok (.ireturn, 1) := by decide +kernel
theorem dMo_told_126 : decode cMo_told 126 = .ok (.aload_n 0, 1) := by decide +kernel
theorem dMo_told_127 : decode cMo_told 127 = .ok (.getfield 42, 3) := by decide +kernel
theorem dMo_told_130 : decode cMo_told 130 = .ok (.iload_n 1, 1) := by decide +kernel
theorem dMo_told_131 : decode cMo_told 131 = .ok (.iaload, 1) := by decide +kernel
theorem dMo_told_132 : decode cMo_told 132 = .ok (.ireturn, 1) := by decide +kernel
theorem dMo_told_133 : decode cMo_told 133 = .ok (.aload_n 0, 1) := by decide +kernel
theorem dMo_told_134 : decode cMo_told 134 = .ok (.getfield 60, 3) := by decide +kernel
theorem dMo_told_137 : decode cMo_told 137 = .ok (.iload_n 1, 1) := by decide +kernel
theorem dMo_told_138 : decode cMo_told 138 = .ok (.iaload, 1) := by decide +kernel
theorem dMo_told_139 : decode cMo_told 139 = .ok (.ireturn, 1) := by decide +kernel
abbrev cMo_known : ByteArray := prog_7_method_35_code
abbrev mMo_known : MD := (⟨"DockBookModel", "known", "(II)I"⟩, cMo_known, 5, some (.int), [])
theorem dMo_known_0 : decode cMo_known 0 = .ok (.aload_n 0, 1) := by decide +kernel
theorem dMo_known_1 : decode cMo_known 1 = .ok (.aload_n 0, 1) := by decide +kernel
theorem dMo_known_2 : decode cMo_known 2 = .ok (.iload_n 1, 1) := by decide +kernel
theorem dMo_known_3 : decode cMo_known 3 = .ok (.invokevirtual 156, 3) := by decide +kernel
theorem dMo_known_6 : decode cMo_known 6 = .ok (.ifCond .eq 7, 3) := by decide +kernel
theorem dMo_known_9 : decode cMo_known 9 = .ok (.iconst 1, 1) := by decide +kernel
theorem dMo_known_10 : decode cMo_known 10 = .ok (.goto 17, 3) := by decide +kernel
theorem dMo_known_13 : decode cMo_known 13 = .ok (.iload_n 2, 1) := by decide +kernel
theorem dMo_known_14 : decode cMo_known 14 = .ok (.iconst 0, 1) := by decide +kernel
theorem dMo_known_15 : decode cMo_known 15 = .ok (.iconst 4, 1) := by decide +kernel
theorem dMo_known_16 : decode cMo_known 16 = .ok (.invokestatic 131, 3) := by decide +kernel
theorem dMo_known_19 : decode cMo_known 19 = .ok (.ifCond .eq 7, 3) := by decide +kernel
theorem dMo_known_22 : decode cMo_known 22 = .ok (.iconst 2, 1) := by decide +kernel
theorem dMo_known_23 : decode cMo_known 23 = .ok (.goto 4, 3) := by decide +kernel
theorem dMo_known_26 : decode cMo_known 26 = .ok (.iconst 0, 1) := by decide +kernel
theorem dMo_known_27 : decode cMo_known 27 = .ok (.putfield 7, 3) := by decide +kernel
theorem dMo_known_30 : decode cMo_known 30 = .ok (.aload_n 0, 1) := by decide +kernel
theorem dMo_known_31 : decode cMo_known 31 = .ok (.getfield 7, 3) := by decide +kernel
theorem dMo_known_34 : decode cMo_known 34 = .ok (.ifCond .eq 5, 3) := by decide +kernel
theorem dMo_known_37 : decode cMo_known 37 = .ok (.iconst 0, 1) := by decide +kernel
theorem dMo_known_38 : decode cMo_known 38 = .ok (.ireturn, 1) := by decide +kernel
theorem dMo_known_39 : decode cMo_known 39 = .ok (.iconst 0, 1) := by decide +kernel
theorem dMo_known_40 : decode cMo_known 40 = .ok (.istore_n 3, 1) := by decide +kernel
theorem dMo_known_41 : decode cMo_known 41 = .ok (.iconst 0, 1) := by decide +kernel
theorem dMo_known_42 : decode cMo_known 42 = .ok (.istore 4, 2) := by decide +kernel
theorem dMo_known_44 : decode cMo_known 44 = .ok (.iload 4, 2) := by decide +kernel
theorem dMo_known_46 : decode cMo_known 46 = .ok (.aload_n 0, 1) := by decide +kernel
theorem dMo_known_47 : decode cMo_known 47 = .ok (.getfield 36, 3) := by decide +kernel
theorem dMo_known_50 : decode cMo_known 50 = .ok (.if_icmp .ge 38, 3) := by decide +kernel
theorem dMo_known_53 : decode cMo_known 53 = .ok (.iload_n 3, 1) := by decide +kernel
theorem dMo_known_54 : decode cMo_known 54 = .ok (.aload_n 0, 1) := by decide +kernel
theorem dMo_known_55 : decode cMo_known 55 = .ok (.getfield 39, 3) := by decide +kernel
theorem dMo_known_58 : decode cMo_known 58 = .ok (.iload 4, 2) := by decide +kernel
theorem dMo_known_60 : decode cMo_known 60 = .ok (.iaload, 1) := by decide +kernel
theorem dMo_known_61 : decode cMo_known 61 = .ok (.ifCond .ne 18, 3) := by decide +kernel
theorem dMo_known_64 : decode cMo_known 64 = .ok (.aload_n 0, 1) := by decide +kernel
theorem dMo_known_65 : decode cMo_known 65 = .ok (.getfield 54, 3) := by decide +kernel
theorem dMo_known_68 : decode cMo_known 68 = .ok (.iload 4, 2) := by decide +kernel
theorem dMo_known_70 : decode cMo_known 70 = .ok (.iaload, 1) := by decide +kernel
theorem dMo_known_71 : decode cMo_known 71 = .ok (.iload_n 1, 1) := by decide +kernel
theorem dMo_known_72 : decode cMo_known 72 = .ok (.if_icmp .ne 7, 3) := by decide +kernel
theorem dMo_known_75 : decode cMo_known 75 = .ok (.iconst 1, 1) := by decide +kernel
theorem dMo_known_76 : decode cMo_known 76 = .ok (.goto 4, 3) := by decide +kernel
theorem dMo_known_79 : decode cMo_known 79 = .ok (.iconst 0, 1) := by decide +kernel
theorem dMo_known_80 : decode cMo_known 80 = .ok (.iadd, 1) := by decide +kernel
theorem dMo_known_81 : decode cMo_known 81 = .ok (.istore_n 3, 1) := by decide +kernel
theorem dMo_known_82 : decode cMo_known 82 = .ok (.iinc 4 1, 3) := by decide +kernel
theorem dMo_known_85 : decode cMo_known 85 = .ok (.goto (-41), 3) := by decide +kernel
theorem dMo_known_88 : decode cMo_known 88 = .ok (.iload_n 2, 1) := by decide +kernel
theorem dMo_known_89 : decode cMo_known 89 = .ok (.ifCond .ne 11, 3) := by decide +kernel
theorem dMo_known_92 : decode cMo_known 92 = .ok (.aload_n 0, 1) := by decide +kernel
theorem dMo_known_93 : decode cMo_known 93 = .ok (.iload_n 1, 1) := by decide +kernel
theorem dMo_known_94 : decode cMo_known 94 = .ok (.invokevirtual 103, 3) := by decide +kernel
theorem dMo_known_97 : decode cMo_known 97 = .ok (.goto 54, 3) := by decide +kernel
theorem dMo_known_100 : decode cMo_known 100 = .ok (.iload_n 2, 1) := by decide +kernel
theorem dMo_known_101 : decode cMo_known 101 = .ok (.iconst 1, 1) := by decide +kernel
theorem dMo_known_102 : decode cMo_known 102 = .ok (.if_icmp .ne 20, 3) := by decide +kernel
theorem dMo_known_105 : decode cMo_known 105 = .ok (.aload_n 0, 1) := by decide +kernel
theorem dMo_known_106 : decode cMo_known 106 = .ok (.getfield 29, 3) := by decide +kernel
theorem dMo_known_109 : decode cMo_known 109 = .ok (.iload_n 1, 1) := by decide +kernel
theorem dMo_known_110 : decode cMo_known 110 = .ok (.baload, 1) := by decide +kernel
theorem dMo_known_111 : decode cMo_known 111 = .ok (.ifCond .eq 7, 3) := by decide +kernel
theorem dMo_known_114 : decode cMo_known 114 = .ok (.iconst 1, 1) := by decide +kernel
theorem dMo_known_115 : decode cMo_known 115 = .ok (.goto 36, 3) := by decide +kernel
theorem dMo_known_118 : decode cMo_known 118 = .ok (.iconst 0, 1) := by decide +kernel
theorem dMo_known_119 : decode cMo_known 119 = .ok (.goto 32, 3) := by decide +kernel
theorem dMo_known_122 : decode cMo_known 122 = .ok (.iload_n 2, 1) := by decide +kernel
theorem dMo_known_123 : decode cMo_known 123 = .ok (.iconst 2, 1) := by decide +kernel
theorem dMo_known_124 : decode cMo_known 124 = .ok (.if_icmp .ne 7, 3) := by decide +kernel
theorem dMo_known_127 : decode cMo_known 127 = .ok (.iload_n 3, 1) := by decide +kernel
theorem dMo_known_128 : decode cMo_known 128 = .ok (.goto 23, 3) := by decide +kernel
theorem dMo_known_131 : decode cMo_known 131 = .ok (.iload_n 2, 1) := by decide +kernel
theorem dMo_known_132 : decode cMo_known 132 = .ok (.iconst 3, 1) := by decide +kernel
theorem dMo_known_133 : decode cMo_known 133 = .ok (.if_icmp .ne 12, 3) := by decide +kernel
theorem dMo_known_136 : decode cMo_known 136 = .ok (.aload_n 0, 1) := by decide +kernel
theorem dMo_known_137 : decode cMo_known 137 = .ok (.getfield 19, 3) := by decide +kernel
theorem dMo_known_140 : decode cMo_known 140 = .ok (.iload_n 1, 1) := by decide +kernel
theorem dMo_known_141 : decode cMo_known 141 = .ok (.iaload, 1) := by decide +kernel
theorem dMo_known_142 : decode cMo_known 142 = .ok (.goto 9, 3) := by decide +kernel
theorem dMo_known_145 : decode cMo_known 145 = .ok (.aload_n 0, 1) := by decide +kernel
theorem dMo_known_146 : decode cMo_known 146 = .ok (.getfield 33, 3) := by decide +kernel
theorem dMo_known_149 : decode cMo_known 149 = .ok (.iload_n 1, 1) := by decide +kernel
theorem dMo_known_150 : decode cMo_known 150 = .ok (.iaload, 1) := by decide +kernel
theorem dMo_known_151 : decode cMo_known 151 = .ok (.ireturn, 1) := by decide +kernel
abbrev cMo_count : ByteArray := prog_7_method_36_code
abbrev mMo_count : MD := (⟨"DockBookModel", "count", "(I)I"⟩, cMo_count, 4, some (.int), [])
theorem dMo_count_0 : decode cMo_count 0 = .ok (.aload_n 0, 1) := by decide +kernel
theorem dMo_count_1 : decode cMo_count 1 = .ok (.iconst 0, 1) := by decide +kernel
theorem dMo_count_2 : decode cMo_count 2 = .ok (.putfield 7, 3) := by decide +kernel
theorem dMo_count_5 : decode cMo_count 5 = .ok (.aload_n 0, 1) := by decide +kernel
theorem dMo_count_6 : decode cMo_count 6 = .ok (.getfield 100, 3) := by decide +kernel
theorem dMo_count_9 : decode cMo_count 9 = .ok (.astore_n 2, 1) := by decide +kernel
theorem dMo_count_10 : decode cMo_count 10 = .ok (.iconst 0, 1) := by decide +kernel
theorem dMo_count_11 : decode cMo_count 11 = .ok (.istore_n 3, 1) := by decide +kernel
theorem dMo_count_12 : decode cMo_count 12 = .ok (.iload_n 3, 1) := by decide +kernel
theorem dMo_count_13 : decode cMo_count 13 = .ok (.iconst 4, 1) := by decide +kernel
theorem dMo_count_14 : decode cMo_count 14 = .ok (.if_icmp .ge 13, 3) := by decide +kernel
theorem dMo_count_17 : decode cMo_count 17 = .ok (.aload_n 2, 1) := by decide +kernel
theorem dMo_count_18 : decode cMo_count 18 = .ok (.iload_n 3, 1) := by decide +kernel
theorem dMo_count_19 : decode cMo_count 19 = .ok (.iconst 0, 1) := by decide +kernel
theorem dMo_count_20 : decode cMo_count 20 = .ok (.iastore, 1) := by decide +kernel
theorem dMo_count_21 : decode cMo_count 21 = .ok (.iinc 3 1, 3) := by decide +kernel
theorem dMo_count_24 : decode cMo_count 24 = .ok (.goto (-12), 3) := by decide +kernel
theorem dMo_count_27 : decode cMo_count 27 = .ok (.iconst 0, 1) := by decide +kernel
theorem dMo_count_28 : decode cMo_count 28 = .ok (.istore_n 3, 1) := by decide +kernel
theorem dMo_count_29 : decode cMo_count 29 = .ok (.iload_n 3, 1) := by decide +kernel
theorem dMo_count_30 : decode cMo_count 30 = .ok (.aload_n 0, 1) := by decide +kernel
theorem dMo_count_31 : decode cMo_count 31 = .ok (.getfield 36, 3) := by decide +kernel
theorem dMo_count_34 : decode cMo_count 34 = .ok (.if_icmp .ge 27, 3) := by decide +kernel
theorem dMo_count_37 : decode cMo_count 37 = .ok (.aload_n 2, 1) := by decide +kernel
theorem dMo_count_38 : decode cMo_count 38 = .ok (.aload_n 0, 1) := by decide +kernel
theorem dMo_count_39 : decode cMo_count 39 = .ok (.getfield 39, 3) := by decide +kernel
theorem dMo_count_42 : decode cMo_count 42 = .ok (.iload_n 3, 1) := by decide +kernel
theorem dMo_count_43 : decode cMo_count 43 = .ok (.iaload, 1) := by decide +kernel
theorem dMo_count_44 : decode cMo_count 44 = .ok (.aload_n 2, 1) := by decide +kernel
theorem dMo_count_45 : decode cMo_count 45 = .ok (.aload_n 0, 1) := by decide +kernel
theorem dMo_count_46 : decode cMo_count 46 = .ok (.getfield 39, 3) := by decide +kernel
theorem dMo_count_49 : decode cMo_count 49 = .ok (.iload_n 3, 1) := by decide +kernel
theorem dMo_count_50 : decode cMo_count 50 = .ok (.iaload, 1) := by decide +kernel
theorem dMo_count_51 : decode cMo_count 51 = .ok (.iaload, 1) := by decide +kernel
theorem dMo_count_52 : decode cMo_count 52 = .ok (.iconst 1, 1) := by decide +kernel
theorem dMo_count_53 : decode cMo_count 53 = .ok (.iadd, 1) := by decide +kernel
theorem dMo_count_54 : decode cMo_count 54 = .ok (.iastore, 1) := by decide +kernel
theorem dMo_count_55 : decode cMo_count 55 = .ok (.iinc 3 1, 3) := by decide +kernel
theorem dMo_count_58 : decode cMo_count 58 = .ok (.goto (-29), 3) := by decide +kernel
theorem dMo_count_61 : decode cMo_count 61 = .ok (.iload_n 1, 1) := by decide +kernel
theorem dMo_count_62 : decode cMo_count 62 = .ok (.ifCond .lt 9, 3) := by decide +kernel
theorem dMo_count_65 : decode cMo_count 65 = .ok (.iload_n 1, 1) := by decide +kernel
theorem dMo_count_66 : decode cMo_count 66 = .ok (.bipush 7, 2) := by decide +kernel
theorem dMo_count_68 : decode cMo_count 68 = .ok (.if_icmp .le 5, 3) := by decide +kernel
theorem dMo_count_71 : decode cMo_count 71 = .ok (.iconst (-1), 1) := by decide +kernel
theorem dMo_count_72 : decode cMo_count 72 = .ok (.ireturn, 1) := by decide +kernel
theorem dMo_count_73 : decode cMo_count 73 = .ok (.iload_n 1, 1) := by decide +kernel
theorem dMo_count_74 : decode cMo_count 74 = .ok (.iconst 2, 1) := by decide +kernel
theorem dMo_count_75 : decode cMo_count 75 = .ok (.if_icmp .ge 19, 3) := by decide +kernel
theorem dMo_count_78 : decode cMo_count 78 = .ok (.iload_n 1, 1) := by decide +kernel
theorem dMo_count_79 : decode cMo_count 79 = .ok (.ifCond .ne 10, 3) := by decide +kernel
theorem dMo_count_82 : decode cMo_count 82 = .ok (.aload_n 0, 1) := by decide +kernel
theorem dMo_count_83 : decode cMo_count 83 = .ok (.getfield 16, 3) := by decide +kernel
theorem dMo_count_86 : decode cMo_count 86 = .ok (.goto 7, 3) := by decide +kernel
theorem dMo_count_89 : decode cMo_count 89 = .ok (.aload_n 0, 1) := by decide +kernel
theorem dMo_count_90 : decode cMo_count 90 = .ok (.getfield 36, 3) := by decide +kernel
theorem dMo_count_93 : decode cMo_count 93 = .ok (.ireturn, 1) := by decide +kernel
theorem dMo_count_94 : decode cMo_count 94 = .ok (.iload_n 1, 1) := by decide +kernel
theorem dMo_count_95 : decode cMo_count 95 = .ok (.bipush 6, 2) := by decide +kernel
theorem dMo_count_97 : decode cMo_count 97 = .ok (.if_icmp .ne 10, 3) := by decide +kernel
theorem dMo_count_100 : decode cMo_count 100 = .ok (.aload_n 0, 1) := by decide +kernel
theorem dMo_count_101 : decode cMo_count 101 = .ok (.getfield 13, 3) := by decide +kernel
theorem dMo_count_104 : decode cMo_count 104 = .ok (.goto 21, 3) := by decide +kernel
theorem dMo_count_107 : decode cMo_count 107 = .ok (.iload_n 1, 1) := by decide +kernel
theorem dMo_count_108 : decode cMo_count 108 = .ok (.bipush 7, 2) := by decide +kernel
theorem dMo_count_110 : decode cMo_count 110 = .ok (.if_icmp .ne 10, 3) := by decide +kernel
theorem dMo_count_113 : decode cMo_count 113 = .ok (.aload_n 0, 1) := by decide +kernel
theorem dMo_count_114 : decode cMo_count 114 = .ok (.invokevirtual 148, 3) := by decide +kernel
theorem dMo_count_117 : decode cMo_count 117 = .ok (.goto 8, 3) := by decide +kernel
theorem dMo_count_120 : decode cMo_count 120 = .ok (.aload_n 2, 1) := by decide +kernel
theorem dMo_count_121 : decode cMo_count 121 = .ok (.iload_n 1, 1) := by decide +kernel
theorem dMo_count_122 : decode cMo_count 122 = .ok (.iconst 2, 1) := by decide +kernel
theorem dMo_count_123 : decode cMo_count 123 = .ok (.isub, 1) := by decide +kernel
theorem dMo_count_124 : decode cMo_count 124 = .ok (.iaload, 1) := by decide +kernel
theorem dMo_count_125 : decode cMo_count 125 = .ok (.ireturn, 1) := by decide +kernel
abbrev cJa_fill : ByteArray := prog_17_method_103_code
abbrev mJa_fill : MD := (⟨"java/util/Arrays", "fill", "([II)V"⟩, cJa_fill, 4, none, [])
theorem dJa_fill_0 : decode cJa_fill 0 = .ok (.iconst 0, 1) := by decide +kernel
theorem dJa_fill_1 : decode cJa_fill 1 = .ok (.istore_n 2, 1) := by decide +kernel
theorem dJa_fill_2 : decode cJa_fill 2 = .ok (.aload_n 0, 1) := by decide +kernel
theorem dJa_fill_3 : decode cJa_fill 3 = .ok (.arraylength, 1) := by decide +kernel
theorem dJa_fill_4 : decode cJa_fill 4 = .ok (.istore_n 3, 1) := by decide +kernel
theorem dJa_fill_5 : decode cJa_fill 5 = .ok (.iload_n 2, 1) := by decide +kernel
theorem dJa_fill_6 : decode cJa_fill 6 = .ok (.iload_n 3, 1) := by decide +kernel
theorem dJa_fill_7 : decode cJa_fill 7 = .ok (.if_icmp .ge 13, 3) := by decide +kernel
theorem dJa_fill_10 : decode cJa_fill 10 = .ok (.aload_n 0, 1) := by decide +kernel
theorem dJa_fill_11 : decode cJa_fill 11 = .ok (.iload_n 2, 1) := by decide +kernel
theorem dJa_fill_12 : decode cJa_fill 12 = .ok (.iload_n 1, 1) := by decide +kernel
theorem dJa_fill_13 : decode cJa_fill 13 = .ok (.iastore, 1) := by decide +kernel
theorem dJa_fill_14 : decode cJa_fill 14 = .ok (.iinc 2 1, 3) := by decide +kernel
theorem dJa_fill_17 : decode cJa_fill 17 = .ok (.goto (-12), 3) := by decide +kernel
theorem dJa_fill_20 : decode cJa_fill 20 = .ok (.return_, 1) := by decide +kernel
