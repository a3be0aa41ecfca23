/-! the constructors -/
theorem c39_0 : cd 39 0 = some (.aload_n 0, 1) := by decide +kernel
theorem c39_1 : cd 39 1 = some (.invokespecial 3, 3) := by decide +kernel
theorem c39_4 : cd 39 4 = some (.return_, 1) := by decide +kernel
theorem c52_0 : cd 52 0 = some (.aload_n 0, 1) := by decide +kernel
theorem c52_1 : cd 52 1 = some (.invokespecial 3, 3) := by decide +kernel
theorem c52_4 : cd 52 4 = some (.aload_n 0, 1) := by decide +kernel
theorem c52_5 : cd 52 5 = some (.bipush 6, 2) := by decide +kernel
theorem c52_7 : cd 52 7 = some (.newarray .int, 2) := by decide +kernel
theorem c52_9 : cd 52 9 = some (.putfield 9, 3) := by decide +kernel
theorem c52_12 : cd 52 12 = some (.aload_n 0, 1) := by decide +kernel
theorem c52_13 : cd 52 13 = some (.iconst 4, 1) := by decide +kernel
theorem c52_14 : cd 52 14 = some (.newarray .int, 2) := by decide +kernel
theorem c52_16 : cd 52 16 = some (.putfield 15, 3) := by decide +kernel
theorem c52_19 : cd 52 19 = some (.return_, 1) := by decide +kernel
theorem c0_0 : cd 0 0 = some (.aload_n 0, 1) := by decide +kernel
theorem c0_1 : cd 0 1 = some (.invokespecial 3, 3) := by decide +kernel
theorem c0_4 : cd 0 4 = some (.aload_n 0, 1) := by decide +kernel
theorem c0_5 : cd 0 5 = some (.iconst 4, 1) := by decide +kernel
theorem c0_6 : cd 0 6 = some (.newarray .int, 2) := by decide +kernel
theorem c0_8 : cd 0 8 = some (.putfield 9, 3) := by decide +kernel
theorem c0_11 : cd 0 11 = some (.aload_n 0, 1) := by decide +kernel
theorem c0_12 : cd 0 12 = some (.iconst 4, 1) := by decide +kernel
theorem c0_13 : cd 0 13 = some (.newarray .int, 2) := by decide +kernel
theorem c0_15 : cd 0 15 = some (.putfield 15, 3) := by decide +kernel
theorem c0_18 : cd 0 18 = some (.aload_n 0, 1) := by decide +kernel
theorem c0_19 : cd 0 19 = some (.bipush 6, 2) := by decide +kernel
theorem c0_21 : cd 0 21 = some (.newarray .int, 2) := by decide +kernel
theorem c0_23 : cd 0 23 = some (.putfield 18, 3) := by decide +kernel
theorem c0_26 : cd 0 26 = some (.aload_n 0, 1) := by decide +kernel
theorem c0_27 : cd 0 27 = some (.bipush 6, 2) := by decide +kernel
theorem c0_29 : cd 0 29 = some (.newarray .int, 2) := by decide +kernel
theorem c0_31 : cd 0 31 = some (.putfield 21, 3) := by decide +kernel
theorem c0_34 : cd 0 34 = some (.aload_n 0, 1) := by decide +kernel
theorem c0_35 : cd 0 35 = some (.bipush 6, 2) := by decide +kernel
theorem c0_37 : cd 0 37 = some (.newarray .int, 2) := by decide +kernel
theorem c0_39 : cd 0 39 = some (.putfield 24, 3) := by decide +kernel
theorem c0_42 : cd 0 42 = some (.aload_n 0, 1) := by decide +kernel
theorem c0_43 : cd 0 43 = some (.bipush 6, 2) := by decide +kernel
theorem c0_45 : cd 0 45 = some (.newarray .int, 2) := by decide +kernel
theorem c0_47 : cd 0 47 = some (.putfield 27, 3) := by decide +kernel
theorem c0_50 : cd 0 50 = some (.aload_n 0, 1) := by decide +kernel
theorem c0_51 : cd 0 51 = some (.bipush 6, 2) := by decide +kernel
theorem c0_53 : cd 0 53 = some (.newarray .int, 2) := by decide +kernel
theorem c0_55 : cd 0 55 = some (.putfield 30, 3) := by decide +kernel
theorem c0_58 : cd 0 58 = some (.aload_n 0, 1) := by decide +kernel
theorem c0_59 : cd 0 59 = some (.iconst 1, 1) := by decide +kernel
theorem c0_60 : cd 0 60 = some (.putfield 33, 3) := by decide +kernel
theorem c0_63 : cd 0 63 = some (.return_, 1) := by decide +kernel
theorem c106_0 : cd 106 0 = some (.aload_n 0, 1) := by decide +kernel
theorem c106_1 : cd 106 1 = some (.invokespecial 1, 3) := by decide +kernel
theorem c106_4 : cd 106 4 = some (.aload_n 0, 1) := by decide +kernel
theorem c106_5 : cd 106 5 = some (.iconst 4, 1) := by decide +kernel
theorem c106_6 : cd 106 6 = some (.newarray .int, 2) := by decide +kernel
theorem c106_8 : cd 106 8 = some (.putfield 7, 3) := by decide +kernel
theorem c106_11 : cd 106 11 = some (.aload_n 0, 1) := by decide +kernel
theorem c106_12 : cd 106 12 = some (.iconst 4, 1) := by decide +kernel
theorem c106_13 : cd 106 13 = some (.newarray .int, 2) := by decide +kernel
theorem c106_15 : cd 106 15 = some (.putfield 13, 3) := by decide +kernel
theorem c106_18 : cd 106 18 = some (.aload_n 0, 1) := by decide +kernel
theorem c106_19 : cd 106 19 = some (.bipush 6, 2) := by decide +kernel
theorem c106_21 : cd 106 21 = some (.newarray .int, 2) := by decide +kernel
theorem c106_23 : cd 106 23 = some (.putfield 16, 3) := by decide +kernel
theorem c106_26 : cd 106 26 = some (.aload_n 0, 1) := by decide +kernel
theorem c106_27 : cd 106 27 = some (.bipush 6, 2) := by decide +kernel
theorem c106_29 : cd 106 29 = some (.newarray .int, 2) := by decide +kernel
theorem c106_31 : cd 106 31 = some (.putfield 19, 3) := by decide +kernel
theorem c106_34 : cd 106 34 = some (.aload_n 0, 1) := by decide +kernel
theorem c106_35 : cd 106 35 = some (.bipush 6, 2) := by decide +kernel
theorem c106_37 : cd 106 37 = some (.newarray .int, 2) := by decide +kernel
theorem c106_39 : cd 106 39 = some (.putfield 22, 3) := by decide +kernel
theorem c106_42 : cd 106 42 = some (.aload_n 0, 1) := by decide +kernel
theorem c106_43 : cd 106 43 = some (.bipush 6, 2) := by decide +kernel
theorem c106_45 : cd 106 45 = some (.newarray .int, 2) := by decide +kernel
theorem c106_47 : cd 106 47 = some (.putfield 25, 3) := by decide +kernel
theorem c106_50 : cd 106 50 = some (.aload_n 0, 1) := by decide +kernel
theorem c106_51 : cd 106 51 = some (.bipush 26, 2) := by decide +kernel
theorem c106_53 : cd 106 53 = some (.newarray .int, 2) := by decide +kernel
theorem c106_55 : cd 106 55 = some (.putfield 28, 3) := by decide +kernel
theorem c106_58 : cd 106 58 = some (.aload_n 0, 1) := by decide +kernel
theorem c106_59 : cd 106 59 = some (.iconst 4, 1) := by decide +kernel
theorem c106_60 : cd 106 60 = some (.newarray .int, 2) := by decide +kernel
theorem c106_62 : cd 106 62 = some (.putfield 31, 3) := by decide +kernel
theorem c106_65 : cd 106 65 = some (.aload_n 0, 1) := by decide +kernel
theorem c106_66 : cd 106 66 = some (.iconst 4, 1) := by decide +kernel
theorem c106_67 : cd 106 67 = some (.newarray .int, 2) := by decide +kernel
theorem c106_69 : cd 106 69 = some (.putfield 34, 3) := by decide +kernel
theorem c106_72 : cd 106 72 = some (.aload_n 0, 1) := by decide +kernel
theorem c106_73 : cd 106 73 = some (.bipush 6, 2) := by decide +kernel
theorem c106_75 : cd 106 75 = some (.newarray .int, 2) := by decide +kernel
theorem c106_77 : cd 106 77 = some (.putfield 37, 3) := by decide +kernel
theorem c106_80 : cd 106 80 = some (.aload_n 0, 1) := by decide +kernel
theorem c106_81 : cd 106 81 = some (.bipush 6, 2) := by decide +kernel
theorem c106_83 : cd 106 83 = some (.newarray .int, 2) := by decide +kernel
theorem c106_85 : cd 106 85 = some (.putfield 40, 3) := by decide +kernel
theorem c106_88 : cd 106 88 = some (.aload_n 0, 1) := by decide +kernel
theorem c106_89 : cd 106 89 = some (.bipush 6, 2) := by decide +kernel
theorem c106_91 : cd 106 91 = some (.newarray .int, 2) := by decide +kernel
theorem c106_93 : cd 106 93 = some (.putfield 43, 3) := by decide +kernel
theorem c106_96 : cd 106 96 = some (.aload_n 0, 1) := by decide +kernel
theorem c106_97 : cd 106 97 = some (.bipush 6, 2) := by decide +kernel
theorem c106_99 : cd 106 99 = some (.newarray .int, 2) := by decide +kernel
theorem c106_101 : cd 106 101 = some (.putfield 46, 3) := by decide +kernel
theorem c106_104 : cd 106 104 = some (.aload_n 0, 1) := by decide +kernel
theorem c106_105 : cd 106 105 = some (.bipush 6, 2) := by decide +kernel
theorem c106_107 : cd 106 107 = some (.newarray .int, 2) := by decide +kernel
theorem c106_109 : cd 106 109 = some (.putfield 49, 3) := by decide +kernel
theorem c106_112 : cd 106 112 = some (.aload_n 0, 1) := by decide +kernel
theorem c106_113 : cd 106 113 = some (.bipush 56, 2) := by decide +kernel
theorem c106_115 : cd 106 115 = some (.newarray .int, 2) := by decide +kernel
theorem c106_117 : cd 106 117 = some (.putfield 52, 3) := by decide +kernel
theorem c106_120 : cd 106 120 = some (.aload_n 0, 1) := by decide +kernel
theorem c106_121 : cd 106 121 = some (.sipush 208, 3) := by decide +kernel
theorem c106_124 : cd 106 124 = some (.newarray .int, 2) := by decide +kernel
theorem c106_126 : cd 106 126 = some (.putfield 55, 3) := by decide +kernel
theorem c106_129 : cd 106 129 = some (.aload_n 0, 1) := by decide +kernel
theorem c106_130 : cd 106 130 = some (.sipush 4375, 3) := by decide +kernel
theorem c106_133 : cd 106 133 = some (.newarray .int, 2) := by decide +kernel
theorem c106_135 : cd 106 135 = some (.putfield 58, 3) := by decide +kernel
theorem c106_138 : cd 106 138 = some (.aload_n 0, 1) := by decide +kernel
theorem c106_139 : cd 106 139 = some (.bipush 16, 2) := by decide +kernel
theorem c106_141 : cd 106 141 = some (.newarray .int, 2) := by decide +kernel
theorem c106_143 : cd 106 143 = some (.putfield 61, 3) := by decide +kernel
theorem c106_146 : cd 106 146 = some (.aload_n 0, 1) := by decide +kernel
theorem c106_147 : cd 106 147 = some (.bipush 6, 2) := by decide +kernel
theorem c106_149 : cd 106 149 = some (.newarray .int, 2) := by decide +kernel
theorem c106_151 : cd 106 151 = some (.putfield 64, 3) := by decide +kernel
theorem c106_154 : cd 106 154 = some (.aload_n 0, 1) := by decide +kernel
theorem c106_155 : cd 106 155 = some (.bipush 6, 2) := by decide +kernel
theorem c106_157 : cd 106 157 = some (.newarray .boolean, 2) := by decide +kernel
theorem c106_159 : cd 106 159 = some (.putfield 67, 3) := by decide +kernel
theorem c106_162 : cd 106 162 = some (.aload_n 0, 1) := by decide +kernel
theorem c106_163 : cd 106 163 = some (.bipush 6, 2) := by decide +kernel
theorem c106_165 : cd 106 165 = some (.newarray .int, 2) := by decide +kernel
theorem c106_167 : cd 106 167 = some (.putfield 71, 3) := by decide +kernel
theorem c106_170 : cd 106 170 = some (.aload_n 0, 1) := by decide +kernel
theorem c106_171 : cd 106 171 = some (.bipush 6, 2) := by decide +kernel
theorem c106_173 : cd 106 173 = some (.newarray .boolean, 2) := by decide +kernel
theorem c106_175 : cd 106 175 = some (.putfield 74, 3) := by decide +kernel
theorem c106_178 : cd 106 178 = some (.aload_n 0, 1) := by decide +kernel
theorem c106_179 : cd 106 179 = some (.iconst 2, 1) := by decide +kernel
theorem c106_180 : cd 106 180 = some (.newarray .boolean, 2) := by decide +kernel
theorem c106_182 : cd 106 182 = some (.putfield 77, 3) := by decide +kernel
theorem c106_185 : cd 106 185 = some (.aload_n 0, 1) := by decide +kernel
theorem c106_186 : cd 106 186 = some (.bipush 26, 2) := by decide +kernel
theorem c106_188 : cd 106 188 = some (.newarray .int, 2) := by decide +kernel
theorem c106_190 : cd 106 190 = some (.putfield 80, 3) := by decide +kernel
theorem c106_193 : cd 106 193 = some (.aload_n 0, 1) := by decide +kernel
theorem c106_194 : cd 106 194 = some (.iconst 1, 1) := by decide +kernel
theorem c106_195 : cd 106 195 = some (.putfield 83, 3) := by decide +kernel
theorem c106_198 : cd 106 198 = some (.return_, 1) := by decide +kernel
theorem c57_0 : cd 57 0 = some (.aload_n 0, 1) := by decide +kernel
theorem c57_1 : cd 57 1 = some (.invokespecial 1, 3) := by decide +kernel
theorem c57_4 : cd 57 4 = some (.aload_n 0, 1) := by decide +kernel
theorem c57_5 : cd 57 5 = some (.bipush 56, 2) := by decide +kernel
theorem c57_7 : cd 57 7 = some (.newarray .int, 2) := by decide +kernel
theorem c57_9 : cd 57 9 = some (.putfield 9, 3) := by decide +kernel
theorem c57_12 : cd 57 12 = some (.aload_n 0, 1) := by decide +kernel
theorem c57_13 : cd 57 13 = some (.new 13, 3) := by decide +kernel
theorem c57_16 : cd 57 16 = some (.dup, 1) := by decide +kernel
theorem c57_17 : cd 57 17 = some (.invokespecial 15, 3) := by decide +kernel
theorem c57_20 : cd 57 20 = some (.putfield 16, 3) := by decide +kernel
theorem c57_23 : cd 57 23 = some (.aload_n 0, 1) := by decide +kernel
theorem c57_24 : cd 57 24 = some (.new 20, 3) := by decide +kernel
theorem c57_27 : cd 57 27 = some (.dup, 1) := by decide +kernel
theorem c57_28 : cd 57 28 = some (.invokespecial 22, 3) := by decide +kernel
theorem c57_31 : cd 57 31 = some (.putfield 23, 3) := by decide +kernel
theorem c57_34 : cd 57 34 = some (.aload_n 0, 1) := by decide +kernel
theorem c57_35 : cd 57 35 = some (.new 20, 3) := by decide +kernel
theorem c57_38 : cd 57 38 = some (.dup, 1) := by decide +kernel
theorem c57_39 : cd 57 39 = some (.invokespecial 22, 3) := by decide +kernel
theorem c57_42 : cd 57 42 = some (.putfield 27, 3) := by decide +kernel
theorem c57_45 : cd 57 45 = some (.aload_n 0, 1) := by decide +kernel
theorem c57_46 : cd 57 46 = some (.new 30, 3) := by decide +kernel
theorem c57_49 : cd 57 49 = some (.dup, 1) := by decide +kernel
theorem c57_50 : cd 57 50 = some (.invokespecial 32, 3) := by decide +kernel
theorem c57_53 : cd 57 53 = some (.putfield 33, 3) := by decide +kernel
theorem c57_56 : cd 57 56 = some (.aload_n 0, 1) := by decide +kernel
theorem c57_57 : cd 57 57 = some (.new 30, 3) := by decide +kernel
theorem c57_60 : cd 57 60 = some (.dup, 1) := by decide +kernel
theorem c57_61 : cd 57 61 = some (.invokespecial 32, 3) := by decide +kernel
theorem c57_64 : cd 57 64 = some (.putfield 37, 3) := by decide +kernel
theorem c57_67 : cd 57 67 = some (.aload_n 0, 1) := by decide +kernel
theorem c57_68 : cd 57 68 = some (.bipush 16, 2) := by decide +kernel
theorem c57_70 : cd 57 70 = some (.anewarray 30, 3) := by decide +kernel
theorem c57_73 : cd 57 73 = some (.putfield 40, 3) := by decide +kernel
theorem c57_76 : cd 57 76 = some (.aload_n 0, 1) := by decide +kernel
theorem c57_77 : cd 57 77 = some (.iconst 2, 1) := by decide +kernel
theorem c57_78 : cd 57 78 = some (.anewarray 30, 3) := by decide +kernel
theorem c57_81 : cd 57 81 = some (.putfield 44, 3) := by decide +kernel
theorem c57_84 : cd 57 84 = some (.aload_n 0, 1) := by decide +kernel
theorem c57_85 : cd 57 85 = some (.new 47, 3) := by decide +kernel
theorem c57_88 : cd 57 88 = some (.dup, 1) := by decide +kernel
theorem c57_89 : cd 57 89 = some (.invokespecial 49, 3) := by decide +kernel
theorem c57_92 : cd 57 92 = some (.putfield 50, 3) := by decide +kernel
theorem c57_95 : cd 57 95 = some (.aload_n 0, 1) := by decide +kernel
theorem c57_96 : cd 57 96 = some (.bipush 6, 2) := by decide +kernel
theorem c57_98 : cd 57 98 = some (.newarray .int, 2) := by decide +kernel
theorem c57_100 : cd 57 100 = some (.putfield 54, 3) := by decide +kernel
theorem c57_103 : cd 57 103 = some (.aload_n 0, 1) := by decide +kernel
theorem c57_104 : cd 57 104 = some (.bipush 6, 2) := by decide +kernel
theorem c57_106 : cd 57 106 = some (.newarray .int, 2) := by decide +kernel
theorem c57_108 : cd 57 108 = some (.putfield 57, 3) := by decide +kernel
theorem c57_111 : cd 57 111 = some (.iconst 0, 1) := by decide +kernel
theorem c57_112 : cd 57 112 = some (.istore_n 1, 1) := by decide +kernel
theorem c57_113 : cd 57 113 = some (.iload_n 1, 1) := by decide +kernel
theorem c57_114 : cd 57 114 = some (.bipush 16, 2) := by decide +kernel
theorem c57_116 : cd 57 116 = some (.if_icmp .ge 22, 3) := by decide +kernel
theorem c57_119 : cd 57 119 = some (.aload_n 0, 1) := by decide +kernel
theorem c57_120 : cd 57 120 = some (.getfield 40, 3) := by decide +kernel
theorem c57_123 : cd 57 123 = some (.iload_n 1, 1) := by decide +kernel
theorem c57_124 : cd 57 124 = some (.new 30, 3) := by decide +kernel
theorem c57_127 : cd 57 127 = some (.dup, 1) := by decide +kernel
theorem c57_128 : cd 57 128 = some (.invokespecial 32, 3) := by decide +kernel
theorem c57_131 : cd 57 131 = some (.aastore, 1) := by decide +kernel
theorem c57_132 : cd 57 132 = some (.iinc 1 1, 3) := by decide +kernel
theorem c57_135 : cd 57 135 = some (.goto (-22), 3) := by decide +kernel
theorem c57_138 : cd 57 138 = some (.iconst 0, 1) := by decide +kernel
theorem c57_139 : cd 57 139 = some (.istore_n 1, 1) := by decide +kernel
theorem c57_140 : cd 57 140 = some (.iload_n 1, 1) := by decide +kernel
theorem c57_141 : cd 57 141 = some (.iconst 2, 1) := by decide +kernel
theorem c57_142 : cd 57 142 = some (.if_icmp .ge 22, 3) := by decide +kernel
theorem c57_145 : cd 57 145 = some (.aload_n 0, 1) := by decide +kernel
theorem c57_146 : cd 57 146 = some (.getfield 44, 3) := by decide +kernel
theorem c57_149 : cd 57 149 = some (.iload_n 1, 1) := by decide +kernel
theorem c57_150 : cd 57 150 = some (.new 30, 3) := by decide +kernel
theorem c57_153 : cd 57 153 = some (.dup, 1) := by decide +kernel
theorem c57_154 : cd 57 154 = some (.invokespecial 32, 3) := by decide +kernel
theorem c57_157 : cd 57 157 = some (.aastore, 1) := by decide +kernel
theorem c57_158 : cd 57 158 = some (.iinc 1 1, 3) := by decide +kernel
theorem c57_161 : cd 57 161 = some (.goto (-21), 3) := by decide +kernel
theorem c57_164 : cd 57 164 = some (.return_, 1) := by decide +kernel
theorem k39 {Z n o : Nat} {I : ab_I} {R : ab_R} {L : ab_L} : Rn Z 39 0 [some (.ref o)] [] 0 0 n I R L (fun v n' I' R' L' => v = none ∧ n' = n ∧ I' = I ∧ R' = R ∧ L' = L) := by
  refine Rn.aload (pc' := 1) (v := o) c39_0 rfl rfl ?_
  refine Rn.obj (pc' := 4) (T := 0) c39_1 (by decide +kernel) (by decide +kernel) rfl ?_
  exact Rn.ret c39_4 (by decide +kernel) (by decide +kernel) (by decide +kernel) ⟨rfl, rfl, rfl, rfl, rfl⟩
theorem k52 {Z n o : Nat} {I : ab_I} {R : ab_R} {L : ab_L} {n2 : Nat} (ho : o < n) (hn : n + 1 < 1000) (h0 : (SH Z o).1 = 3) (h1 : SH Z n = (10, 6)) (h2 : SH Z (n + 1) = (10, 4)) (hn2 : n + 2 = n2) : Rn Z 52 0 [some (.ref o)] [] 0 0 n I R L (fun v n' I' R' L' => v = none ∧ n' = n2 ∧ I' = I ∧ R' = wR (wR R o 0 (n + 1)) o 1 (n + 2) ∧ L' = L) := by
  subst hn2
  refine Rn.aload (pc' := 1) (v := o) c52_0 rfl rfl ?_
  refine Rn.obj (pc' := 4) (T := 0) c52_1 (by decide +kernel) (by decide +kernel) rfl ?_
  refine Rn.aload (pc' := 5) (v := o) c52_4 rfl rfl ?_
  refine Rn.bipush (pc' := 7) (v := nI 6) c52_5 (by decide +kernel) rfl ?_
  refine Rn.newi (pc' := 9) (n1 := n + 1) (len := 6) (s' := 6) c52_7 (by decide) (by decide) h1 (by omega) (by decide +kernel) (by decide +kernel) rfl rfl rfl ?_
  refine Rn.putr (pc' := 12) (C := 3) (f := 0) (a1 := n + 1) c52_9 (by decide +kernel) (by omega) h0 (by decide +kernel) (by decide +kernel) rfl rfl ?_
  refine Rn.aload (pc' := 13) (v := o) c52_12 rfl rfl ?_
  refine Rn.iconst (pc' := 14) (v := nI 4) c52_13 (by decide +kernel) rfl ?_
  refine Rn.newi (pc' := 16) (n1 := n + 2) (len := 4) (s' := 10) c52_14 (by decide) (by decide) h2 (by omega) (by decide +kernel) (by decide +kernel) rfl rfl rfl ?_
  refine Rn.putr (pc' := 19) (C := 3) (f := 1) (a1 := n + 2) c52_16 (by decide +kernel) (by omega) h0 (by decide +kernel) (by decide +kernel) rfl rfl ?_
  exact Rn.ret c52_19 (by decide +kernel) (by decide +kernel) (by decide +kernel) ⟨rfl, rfl, rfl, rfl, rfl⟩
theorem k0_3 {Z : Nat} {I : ab_I} {R : ab_R} {L : ab_L} : Rn Z 0 0 [some (.ref 3)] [] 0 0 4 I R L (fun v n' I' R' L' => v = none ∧ n' = 11 ∧ I' = wI I 3 10 (nI 1) ∧ R' = wR (wR (wR (wR (wR (wR (wR R 3 0 5) 3 1 6) 3 2 7) 3 3 8) 3 4 9) 3 5 10) 3 6 11 ∧ L' = L) := by
  refine Rn.aload (pc' := 1) (v := 3) c0_0 rfl rfl ?_
  refine Rn.obj (pc' := 4) (T := 0) c0_1 (by decide +kernel) (by decide +kernel) rfl ?_
  refine Rn.aload (pc' := 5) (v := 3) c0_4 rfl rfl ?_
  refine Rn.iconst (pc' := 6) (v := nI 4) c0_5 (by decide +kernel) rfl ?_
  refine Rn.newi (pc' := 8) (n1 := 5) (len := 4) (s' := 4) c0_6 (by decide) (by decide) (sh_at (by decide) (by decide +kernel)) (by decide) (by decide +kernel) (by decide +kernel) rfl rfl rfl ?_
  refine Rn.putr (pc' := 11) (C := 0) (f := 0) (a1 := 5) c0_8 (by decide +kernel) (by decide) (congrArg Prod.fst (sh_at (x := (0, 0)) (by decide) (by decide +kernel))) (by decide +kernel) (by decide +kernel) rfl rfl ?_
  refine Rn.aload (pc' := 12) (v := 3) c0_11 rfl rfl ?_
  refine Rn.iconst (pc' := 13) (v := nI 4) c0_12 (by decide +kernel) rfl ?_
  refine Rn.newi (pc' := 15) (n1 := 6) (len := 4) (s' := 8) c0_13 (by decide) (by decide) (sh_at (by decide) (by decide +kernel)) (by decide) (by decide +kernel) (by decide +kernel) rfl rfl rfl ?_
  refine Rn.putr (pc' := 18) (C := 0) (f := 1) (a1 := 6) c0_15 (by decide +kernel) (by decide) (congrArg Prod.fst (sh_at (x := (0, 0)) (by decide) (by decide +kernel))) (by decide +kernel) (by decide +kernel) rfl rfl ?_
  refine Rn.aload (pc' := 19) (v := 3) c0_18 rfl rfl ?_
  refine Rn.bipush (pc' := 21) (v := nI 6) c0_19 (by decide +kernel) rfl ?_
  refine Rn.newi (pc' := 23) (n1 := 7) (len := 6) (s' := 14) c0_21 (by decide) (by decide) (sh_at (by decide) (by decide +kernel)) (by decide) (by decide +kernel) (by decide +kernel) rfl rfl rfl ?_
  refine Rn.putr (pc' := 26) (C := 0) (f := 2) (a1 := 7) c0_23 (by decide +kernel) (by decide) (congrArg Prod.fst (sh_at (x := (0, 0)) (by decide) (by decide +kernel))) (by decide +kernel) (by decide +kernel) rfl rfl ?_
  refine Rn.aload (pc' := 27) (v := 3) c0_26 rfl rfl ?_
  refine Rn.bipush (pc' := 29) (v := nI 6) c0_27 (by decide +kernel) rfl ?_
  refine Rn.newi (pc' := 31) (n1 := 8) (len := 6) (s' := 20) c0_29 (by decide) (by decide) (sh_at (by decide) (by decide +kernel)) (by decide) (by decide +kernel) (by decide +kernel) rfl rfl rfl ?_
  refine Rn.putr (pc' := 34) (C := 0) (f := 3) (a1 := 8) c0_31 (by decide +kernel) (by decide) (congrArg Prod.fst (sh_at (x := (0, 0)) (by decide) (by decide +kernel))) (by decide +kernel) (by decide +kernel) rfl rfl ?_
  refine Rn.aload (pc' := 35) (v := 3) c0_34 rfl rfl ?_
  refine Rn.bipush (pc' := 37) (v := nI 6) c0_35 (by decide +kernel) rfl ?_
  refine Rn.newi (pc' := 39) (n1 := 9) (len := 6) (s' := 26) c0_37 (by decide) (by decide) (sh_at (by decide) (by decide +kernel)) (by decide) (by decide +kernel) (by decide +kernel) rfl rfl rfl ?_
  refine Rn.putr (pc' := 42) (C := 0) (f := 4) (a1 := 9) c0_39 (by decide +kernel) (by decide) (congrArg Prod.fst (sh_at (x := (0, 0)) (by decide) (by decide +kernel))) (by decide +kernel) (by decide +kernel) rfl rfl ?_
  refine Rn.aload (pc' := 43) (v := 3) c0_42 rfl rfl ?_
  refine Rn.bipush (pc' := 45) (v := nI 6) c0_43 (by decide +kernel) rfl ?_
  refine Rn.newi (pc' := 47) (n1 := 10) (len := 6) (s' := 32) c0_45 (by decide) (by decide) (sh_at (by decide) (by decide +kernel)) (by decide) (by decide +kernel) (by decide +kernel) rfl rfl rfl ?_
  refine Rn.putr (pc' := 50) (C := 0) (f := 5) (a1 := 10) c0_47 (by decide +kernel) (by decide) (congrArg Prod.fst (sh_at (x := (0, 0)) (by decide) (by decide +kernel))) (by decide +kernel) (by decide +kernel) rfl rfl ?_
  refine Rn.aload (pc' := 51) (v := 3) c0_50 rfl rfl ?_
  refine Rn.bipush (pc' := 53) (v := nI 6) c0_51 (by decide +kernel) rfl ?_
  refine Rn.newi (pc' := 55) (n1 := 11) (len := 6) (s' := 38) c0_53 (by decide) (by decide) (sh_at (by decide) (by decide +kernel)) (by decide) (by decide +kernel) (by decide +kernel) rfl rfl rfl ?_
  refine Rn.putr (pc' := 58) (C := 0) (f := 6) (a1 := 11) c0_55 (by decide +kernel) (by decide) (congrArg Prod.fst (sh_at (x := (0, 0)) (by decide) (by decide +kernel))) (by decide +kernel) (by decide +kernel) rfl rfl ?_
  refine Rn.aload (pc' := 59) (v := 3) c0_58 rfl rfl ?_
  refine Rn.iconst (pc' := 60) (v := nI 1) c0_59 (by decide +kernel) rfl ?_
  refine Rn.puti (pc' := 63) (C := 0) (f := 10) c0_60 (by decide +kernel) (by decide) (congrArg Prod.fst (sh_at (x := (0, 0)) (by decide) (by decide +kernel))) (by decide +kernel) (by decide +kernel) rfl ?_
  exact Rn.ret c0_63 (by decide +kernel) (by decide +kernel) (by decide +kernel) ⟨rfl, rfl, rfl, rfl, rfl⟩
theorem k0_11 {Z : Nat} {I : ab_I} {R : ab_R} {L : ab_L} : Rn Z 0 0 [some (.ref 11)] [] 0 0 12 I R L (fun v n' I' R' L' => v = none ∧ n' = 19 ∧ I' = wI I 11 10 (nI 1) ∧ R' = wR (wR (wR (wR (wR (wR (wR R 11 0 13) 11 1 14) 11 2 15) 11 3 16) 11 4 17) 11 5 18) 11 6 19 ∧ L' = L) := by
  refine Rn.aload (pc' := 1) (v := 11) c0_0 rfl rfl ?_
  refine Rn.obj (pc' := 4) (T := 0) c0_1 (by decide +kernel) (by decide +kernel) rfl ?_
  refine Rn.aload (pc' := 5) (v := 11) c0_4 rfl rfl ?_
  refine Rn.iconst (pc' := 6) (v := nI 4) c0_5 (by decide +kernel) rfl ?_
  refine Rn.newi (pc' := 8) (n1 := 13) (len := 4) (s' := 4) c0_6 (by decide) (by decide) (sh_at (by decide) (by decide +kernel)) (by decide) (by decide +kernel) (by decide +kernel) rfl rfl rfl ?_
  refine Rn.putr (pc' := 11) (C := 0) (f := 0) (a1 := 13) c0_8 (by decide +kernel) (by decide) (congrArg Prod.fst (sh_at (x := (0, 0)) (by decide) (by decide +kernel))) (by decide +kernel) (by decide +kernel) rfl rfl ?_
  refine Rn.aload (pc' := 12) (v := 11) c0_11 rfl rfl ?_
  refine Rn.iconst (pc' := 13) (v := nI 4) c0_12 (by decide +kernel) rfl ?_
  refine Rn.newi (pc' := 15) (n1 := 14) (len := 4) (s' := 8) c0_13 (by decide) (by decide) (sh_at (by decide) (by decide +kernel)) (by decide) (by decide +kernel) (by decide +kernel) rfl rfl rfl ?_
  refine Rn.putr (pc' := 18) (C := 0) (f := 1) (a1 := 14) c0_15 (by decide +kernel) (by decide) (congrArg Prod.fst (sh_at (x := (0, 0)) (by decide) (by decide +kernel))) (by decide +kernel) (by decide +kernel) rfl rfl ?_
  refine Rn.aload (pc' := 19) (v := 11) c0_18 rfl rfl ?_
  refine Rn.bipush (pc' := 21) (v := nI 6) c0_19 (by decide +kernel) rfl ?_
  refine Rn.newi (pc' := 23) (n1 := 15) (len := 6) (s' := 14) c0_21 (by decide) (by decide) (sh_at (by decide) (by decide +kernel)) (by decide) (by decide +kernel) (by decide +kernel) rfl rfl rfl ?_
  refine Rn.putr (pc' := 26) (C := 0) (f := 2) (a1 := 15) c0_23 (by decide +kernel) (by decide) (congrArg Prod.fst (sh_at (x := (0, 0)) (by decide) (by decide +kernel))) (by decide +kernel) (by decide +kernel) rfl rfl ?_
  refine Rn.aload (pc' := 27) (v := 11) c0_26 rfl rfl ?_
  refine Rn.bipush (pc' := 29) (v := nI 6) c0_27 (by decide +kernel) rfl ?_
  refine Rn.newi (pc' := 31) (n1 := 16) (len := 6) (s' := 20) c0_29 (by decide) (by decide) (sh_at (by decide) (by decide +kernel)) (by decide) (by decide +kernel) (by decide +kernel) rfl rfl rfl ?_
  refine Rn.putr (pc' := 34) (C := 0) (f := 3) (a1 := 16) c0_31 (by decide +kernel) (by decide) (congrArg Prod.fst (sh_at (x := (0, 0)) (by decide) (by decide +kernel))) (by decide +kernel) (by decide +kernel) rfl rfl ?_
  refine Rn.aload (pc' := 35) (v := 11) c0_34 rfl rfl ?_
  refine Rn.bipush (pc' := 37) (v := nI 6) c0_35 (by decide +kernel) rfl ?_
  refine Rn.newi (pc' := 39) (n1 := 17) (len := 6) (s' := 26) c0_37 (by decide) (by decide) (sh_at (by decide) (by decide +kernel)) (by decide) (by decide +kernel) (by decide +kernel) rfl rfl rfl ?_
  refine Rn.putr (pc' := 42) (C := 0) (f := 4) (a1 := 17) c0_39 (by decide +kernel) (by decide) (congrArg Prod.fst (sh_at (x := (0, 0)) (by decide) (by decide +kernel))) (by decide +kernel) (by decide +kernel) rfl rfl ?_
  refine Rn.aload (pc' := 43) (v := 11) c0_42 rfl rfl ?_
  refine Rn.bipush (pc' := 45) (v := nI 6) c0_43 (by decide +kernel) rfl ?_
  refine Rn.newi (pc' := 47) (n1 := 18) (len := 6) (s' := 32) c0_45 (by decide) (by decide) (sh_at (by decide) (by decide +kernel)) (by decide) (by decide +kernel) (by decide +kernel) rfl rfl rfl ?_
  refine Rn.putr (pc' := 50) (C := 0) (f := 5) (a1 := 18) c0_47 (by decide +kernel) (by decide) (congrArg Prod.fst (sh_at (x := (0, 0)) (by decide) (by decide +kernel))) (by decide +kernel) (by decide +kernel) rfl rfl ?_
  refine Rn.aload (pc' := 51) (v := 11) c0_50 rfl rfl ?_
  refine Rn.bipush (pc' := 53) (v := nI 6) c0_51 (by decide +kernel) rfl ?_
  refine Rn.newi (pc' := 55) (n1 := 19) (len := 6) (s' := 38) c0_53 (by decide) (by decide) (sh_at (by decide) (by decide +kernel)) (by decide) (by decide +kernel) (by decide +kernel) rfl rfl rfl ?_
  refine Rn.putr (pc' := 58) (C := 0) (f := 6) (a1 := 19) c0_55 (by decide +kernel) (by decide) (congrArg Prod.fst (sh_at (x := (0, 0)) (by decide) (by decide +kernel))) (by decide +kernel) (by decide +kernel) rfl rfl ?_
  refine Rn.aload (pc' := 59) (v := 11) c0_58 rfl rfl ?_
  refine Rn.iconst (pc' := 60) (v := nI 1) c0_59 (by decide +kernel) rfl ?_
  refine Rn.puti (pc' := 63) (C := 0) (f := 10) c0_60 (by decide +kernel) (by decide) (congrArg Prod.fst (sh_at (x := (0, 0)) (by decide) (by decide +kernel))) (by decide +kernel) (by decide +kernel) rfl ?_
  exact Rn.ret c0_63 (by decide +kernel) (by decide +kernel) (by decide +kernel) ⟨rfl, rfl, rfl, rfl, rfl⟩
def RM (R : ab_R) : ab_R := wR (wR (wR (wR (wR (wR (wR (wR (wR (wR (wR (wR (wR (wR (wR (wR (wR (wR (wR (wR (wR (wR (wR (wR R 87 4 89) 87 5 90) 87 6 91) 87 7 92) 87 8 93) 87 9 94) 87 10 95) 87 16 96) 87 17 97) 87 18 98) 87 19 99) 87 20 100) 87 21 101) 87 22 102) 87 23 103) 87 29 104) 87 30 105) 87 35 106) 87 37 107) 87 38 108) 87 40 109) 87 41 110) 87 43 111) 87 44 112
theorem k106 {Z : Nat} {I : ab_I} {R : ab_R} {L : ab_L} : Rn Z 106 0 [some (.ref 87)] [] 0 0 88 I R L (fun v n' I' R' L' => v = none ∧ n' = 112 ∧ I' = wI I 87 1 (nI 1) ∧ R' = RM R ∧ L' = L) := by
  refine Rn.aload (pc' := 1) (v := 87) c106_0 rfl rfl ?_
  refine Rn.obj (pc' := 4) (T := 0) c106_1 (by decide +kernel) (by decide +kernel) rfl ?_
  refine Rn.aload (pc' := 5) (v := 87) c106_4 rfl rfl ?_
  refine Rn.iconst (pc' := 6) (v := nI 4) c106_5 (by decide +kernel) rfl ?_
  refine Rn.newi (pc' := 8) (n1 := 89) (len := 4) (s' := 4) c106_6 (by decide) (by decide) (sh_at (by decide) (by decide +kernel)) (by decide) (by decide +kernel) (by decide +kernel) rfl rfl rfl ?_
  refine Rn.putr (pc' := 11) (C := 5) (f := 4) (a1 := 89) c106_8 (by decide +kernel) (by decide) (congrArg Prod.fst (sh_at (x := (5, 0)) (by decide) (by decide +kernel))) (by decide +kernel) (by decide +kernel) rfl rfl ?_
  refine Rn.aload (pc' := 12) (v := 87) c106_11 rfl rfl ?_
  refine Rn.iconst (pc' := 13) (v := nI 4) c106_12 (by decide +kernel) rfl ?_
  refine Rn.newi (pc' := 15) (n1 := 90) (len := 4) (s' := 8) c106_13 (by decide) (by decide) (sh_at (by decide) (by decide +kernel)) (by decide) (by decide +kernel) (by decide +kernel) rfl rfl rfl ?_
  refine Rn.putr (pc' := 18) (C := 5) (f := 5) (a1 := 90) c106_15 (by decide +kernel) (by decide) (congrArg Prod.fst (sh_at (x := (5, 0)) (by decide) (by decide +kernel))) (by decide +kernel) (by decide +kernel) rfl rfl ?_
  refine Rn.aload (pc' := 19) (v := 87) c106_18 rfl rfl ?_
  refine Rn.bipush (pc' := 21) (v := nI 6) c106_19 (by decide +kernel) rfl ?_
  refine Rn.newi (pc' := 23) (n1 := 91) (len := 6) (s' := 14) c106_21 (by decide) (by decide) (sh_at (by decide) (by decide +kernel)) (by decide) (by decide +kernel) (by decide +kernel) rfl rfl rfl ?_
  refine Rn.putr (pc' := 26) (C := 5) (f := 6) (a1 := 91) c106_23 (by decide +kernel) (by decide) (congrArg Prod.fst (sh_at (x := (5, 0)) (by decide) (by decide +kernel))) (by decide +kernel) (by decide +kernel) rfl rfl ?_
  refine Rn.aload (pc' := 27) (v := 87) c106_26 rfl rfl ?_
  refine Rn.bipush (pc' := 29) (v := nI 6) c106_27 (by decide +kernel) rfl ?_
  refine Rn.newi (pc' := 31) (n1 := 92) (len := 6) (s' := 20) c106_29 (by decide) (by decide) (sh_at (by decide) (by decide +kernel)) (by decide) (by decide +kernel) (by decide +kernel) rfl rfl rfl ?_
  refine Rn.putr (pc' := 34) (C := 5) (f := 7) (a1 := 92) c106_31 (by decide +kernel) (by decide) (congrArg Prod.fst (sh_at (x := (5, 0)) (by decide) (by decide +kernel))) (by decide +kernel) (by decide +kernel) rfl rfl ?_
  refine Rn.aload (pc' := 35) (v := 87) c106_34 rfl rfl ?_
  refine Rn.bipush (pc' := 37) (v := nI 6) c106_35 (by decide +kernel) rfl ?_
  refine Rn.newi (pc' := 39) (n1 := 93) (len := 6) (s' := 26) c106_37 (by decide) (by decide) (sh_at (by decide) (by decide +kernel)) (by decide) (by decide +kernel) (by decide +kernel) rfl rfl rfl ?_
  refine Rn.putr (pc' := 42) (C := 5) (f := 8) (a1 := 93) c106_39 (by decide +kernel) (by decide) (congrArg Prod.fst (sh_at (x := (5, 0)) (by decide) (by decide +kernel))) (by decide +kernel) (by decide +kernel) rfl rfl ?_
  refine Rn.aload (pc' := 43) (v := 87) c106_42 rfl rfl ?_
  refine Rn.bipush (pc' := 45) (v := nI 6) c106_43 (by decide +kernel) rfl ?_
  refine Rn.newi (pc' := 47) (n1 := 94) (len := 6) (s' := 32) c106_45 (by decide) (by decide) (sh_at (by decide) (by decide +kernel)) (by decide) (by decide +kernel) (by decide +kernel) rfl rfl rfl ?_
  refine Rn.putr (pc' := 50) (C := 5) (f := 9) (a1 := 94) c106_47 (by decide +kernel) (by decide) (congrArg Prod.fst (sh_at (x := (5, 0)) (by decide) (by decide +kernel))) (by decide +kernel) (by decide +kernel) rfl rfl ?_
  refine Rn.aload (pc' := 51) (v := 87) c106_50 rfl rfl ?_
  refine Rn.bipush (pc' := 53) (v := nI 26) c106_51 (by decide +kernel) rfl ?_
  refine Rn.newi (pc' := 55) (n1 := 95) (len := 26) (s' := 58) c106_53 (by decide) (by decide) (sh_at (by decide) (by decide +kernel)) (by decide) (by decide +kernel) (by decide +kernel) rfl rfl rfl ?_
  refine Rn.putr (pc' := 58) (C := 5) (f := 10) (a1 := 95) c106_55 (by decide +kernel) (by decide) (congrArg Prod.fst (sh_at (x := (5, 0)) (by decide) (by decide +kernel))) (by decide +kernel) (by decide +kernel) rfl rfl ?_
  refine Rn.aload (pc' := 59) (v := 87) c106_58 rfl rfl ?_
  refine Rn.iconst (pc' := 60) (v := nI 4) c106_59 (by decide +kernel) rfl ?_
  refine Rn.newi (pc' := 62) (n1 := 96) (len := 4) (s' := 62) c106_60 (by decide) (by decide) (sh_at (by decide) (by decide +kernel)) (by decide) (by decide +kernel) (by decide +kernel) rfl rfl rfl ?_
  refine Rn.putr (pc' := 65) (C := 5) (f := 16) (a1 := 96) c106_62 (by decide +kernel) (by decide) (congrArg Prod.fst (sh_at (x := (5, 0)) (by decide) (by decide +kernel))) (by decide +kernel) (by decide +kernel) rfl rfl ?_
  refine Rn.aload (pc' := 66) (v := 87) c106_65 rfl rfl ?_
  refine Rn.iconst (pc' := 67) (v := nI 4) c106_66 (by decide +kernel) rfl ?_
  refine Rn.newi (pc' := 69) (n1 := 97) (len := 4) (s' := 66) c106_67 (by decide) (by decide) (sh_at (by decide) (by decide +kernel)) (by decide) (by decide +kernel) (by decide +kernel) rfl rfl rfl ?_
  refine Rn.putr (pc' := 72) (C := 5) (f := 17) (a1 := 97) c106_69 (by decide +kernel) (by decide) (congrArg Prod.fst (sh_at (x := (5, 0)) (by decide) (by decide +kernel))) (by decide +kernel) (by decide +kernel) rfl rfl ?_
  refine Rn.aload (pc' := 73) (v := 87) c106_72 rfl rfl ?_
  refine Rn.bipush (pc' := 75) (v := nI 6) c106_73 (by decide +kernel) rfl ?_
  refine Rn.newi (pc' := 77) (n1 := 98) (len := 6) (s' := 72) c106_75 (by decide) (by decide) (sh_at (by decide) (by decide +kernel)) (by decide) (by decide +kernel) (by decide +kernel) rfl rfl rfl ?_
  refine Rn.putr (pc' := 80) (C := 5) (f := 18) (a1 := 98) c106_77 (by decide +kernel) (by decide) (congrArg Prod.fst (sh_at (x := (5, 0)) (by decide) (by decide +kernel))) (by decide +kernel) (by decide +kernel) rfl rfl ?_
  refine Rn.aload (pc' := 81) (v := 87) c106_80 rfl rfl ?_
  refine Rn.bipush (pc' := 83) (v := nI 6) c106_81 (by decide +kernel) rfl ?_
  refine Rn.newi (pc' := 85) (n1 := 99) (len := 6) (s' := 78) c106_83 (by decide) (by decide) (sh_at (by decide) (by decide +kernel)) (by decide) (by decide +kernel) (by decide +kernel) rfl rfl rfl ?_
  refine Rn.putr (pc' := 88) (C := 5) (f := 19) (a1 := 99) c106_85 (by decide +kernel) (by decide) (congrArg Prod.fst (sh_at (x := (5, 0)) (by decide) (by decide +kernel))) (by decide +kernel) (by decide +kernel) rfl rfl ?_
  refine Rn.aload (pc' := 89) (v := 87) c106_88 rfl rfl ?_
  refine Rn.bipush (pc' := 91) (v := nI 6) c106_89 (by decide +kernel) rfl ?_
  refine Rn.newi (pc' := 93) (n1 := 100) (len := 6) (s' := 84) c106_91 (by decide) (by decide) (sh_at (by decide) (by decide +kernel)) (by decide) (by decide +kernel) (by decide +kernel) rfl rfl rfl ?_
  refine Rn.putr (pc' := 96) (C := 5) (f := 20) (a1 := 100) c106_93 (by decide +kernel) (by decide) (congrArg Prod.fst (sh_at (x := (5, 0)) (by decide) (by decide +kernel))) (by decide +kernel) (by decide +kernel) rfl rfl ?_
  refine Rn.aload (pc' := 97) (v := 87) c106_96 rfl rfl ?_
  refine Rn.bipush (pc' := 99) (v := nI 6) c106_97 (by decide +kernel) rfl ?_
  refine Rn.newi (pc' := 101) (n1 := 101) (len := 6) (s' := 90) c106_99 (by decide) (by decide) (sh_at (by decide) (by decide +kernel)) (by decide) (by decide +kernel) (by decide +kernel) rfl rfl rfl ?_
  refine Rn.putr (pc' := 104) (C := 5) (f := 21) (a1 := 101) c106_101 (by decide +kernel) (by decide) (congrArg Prod.fst (sh_at (x := (5, 0)) (by decide) (by decide +kernel))) (by decide +kernel) (by decide +kernel) rfl rfl ?_
  refine Rn.aload (pc' := 105) (v := 87) c106_104 rfl rfl ?_
  refine Rn.bipush (pc' := 107) (v := nI 6) c106_105 (by decide +kernel) rfl ?_
  refine Rn.newi (pc' := 109) (n1 := 102) (len := 6) (s' := 96) c106_107 (by decide) (by decide) (sh_at (by decide) (by decide +kernel)) (by decide) (by decide +kernel) (by decide +kernel) rfl rfl rfl ?_
  refine Rn.putr (pc' := 112) (C := 5) (f := 22) (a1 := 102) c106_109 (by decide +kernel) (by decide) (congrArg Prod.fst (sh_at (x := (5, 0)) (by decide) (by decide +kernel))) (by decide +kernel) (by decide +kernel) rfl rfl ?_
  refine Rn.aload (pc' := 113) (v := 87) c106_112 rfl rfl ?_
  refine Rn.bipush (pc' := 115) (v := nI 56) c106_113 (by decide +kernel) rfl ?_
  refine Rn.newi (pc' := 117) (n1 := 103) (len := 56) (s' := 152) c106_115 (by decide) (by decide) (sh_at (by decide) (by decide +kernel)) (by decide) (by decide +kernel) (by decide +kernel) rfl rfl rfl ?_
  refine Rn.putr (pc' := 120) (C := 5) (f := 23) (a1 := 103) c106_117 (by decide +kernel) (by decide) (congrArg Prod.fst (sh_at (x := (5, 0)) (by decide) (by decide +kernel))) (by decide +kernel) (by decide +kernel) rfl rfl ?_
  refine Rn.aload (pc' := 121) (v := 87) c106_120 rfl rfl ?_
  refine Rn.sipush (pc' := 124) (v := nI 208) c106_121 (by decide +kernel) rfl ?_
  refine Rn.newi (pc' := 126) (n1 := 104) (len := 208) (s' := 360) c106_124 (by decide) (by decide) (sh_at (by decide) (by decide +kernel)) (by decide) (by decide +kernel) (by decide +kernel) rfl rfl rfl ?_
  refine Rn.putr (pc' := 129) (C := 5) (f := 29) (a1 := 104) c106_126 (by decide +kernel) (by decide) (congrArg Prod.fst (sh_at (x := (5, 0)) (by decide) (by decide +kernel))) (by decide +kernel) (by decide +kernel) rfl rfl ?_
  refine Rn.aload (pc' := 130) (v := 87) c106_129 rfl rfl ?_
  refine Rn.sipush (pc' := 133) (v := nI 4375) c106_130 (by decide +kernel) rfl ?_
  refine Rn.newi (pc' := 135) (n1 := 105) (len := 4375) (s' := 4735) c106_133 (by decide) (by decide) (sh_at (by decide) (by decide +kernel)) (by decide) (by decide +kernel) (by decide +kernel) rfl rfl rfl ?_
  refine Rn.putr (pc' := 138) (C := 5) (f := 30) (a1 := 105) c106_135 (by decide +kernel) (by decide) (congrArg Prod.fst (sh_at (x := (5, 0)) (by decide) (by decide +kernel))) (by decide +kernel) (by decide +kernel) rfl rfl ?_
  refine Rn.aload (pc' := 139) (v := 87) c106_138 rfl rfl ?_
  refine Rn.bipush (pc' := 141) (v := nI 16) c106_139 (by decide +kernel) rfl ?_
  refine Rn.newi (pc' := 143) (n1 := 106) (len := 16) (s' := 4751) c106_141 (by decide) (by decide) (sh_at (by decide) (by decide +kernel)) (by decide) (by decide +kernel) (by decide +kernel) rfl rfl rfl ?_
  refine Rn.putr (pc' := 146) (C := 5) (f := 35) (a1 := 106) c106_143 (by decide +kernel) (by decide) (congrArg Prod.fst (sh_at (x := (5, 0)) (by decide) (by decide +kernel))) (by decide +kernel) (by decide +kernel) rfl rfl ?_
  refine Rn.aload (pc' := 147) (v := 87) c106_146 rfl rfl ?_
  refine Rn.bipush (pc' := 149) (v := nI 6) c106_147 (by decide +kernel) rfl ?_
  refine Rn.newi (pc' := 151) (n1 := 107) (len := 6) (s' := 4757) c106_149 (by decide) (by decide) (sh_at (by decide) (by decide +kernel)) (by decide) (by decide +kernel) (by decide +kernel) rfl rfl rfl ?_
  refine Rn.putr (pc' := 154) (C := 5) (f := 37) (a1 := 107) c106_151 (by decide +kernel) (by decide) (congrArg Prod.fst (sh_at (x := (5, 0)) (by decide) (by decide +kernel))) (by decide +kernel) (by decide +kernel) rfl rfl ?_
  refine Rn.aload (pc' := 155) (v := 87) c106_154 rfl rfl ?_
  refine Rn.bipush (pc' := 157) (v := nI 6) c106_155 (by decide +kernel) rfl ?_
  refine Rn.newz (pc' := 159) (n1 := 108) (len := 6) (s' := 4763) c106_157 (by decide) (by decide) (sh_at (by decide) (by decide +kernel)) (by decide) (by decide +kernel) (by decide +kernel) rfl rfl rfl ?_
  refine Rn.putr (pc' := 162) (C := 5) (f := 38) (a1 := 108) c106_159 (by decide +kernel) (by decide) (congrArg Prod.fst (sh_at (x := (5, 0)) (by decide) (by decide +kernel))) (by decide +kernel) (by decide +kernel) rfl rfl ?_
  refine Rn.aload (pc' := 163) (v := 87) c106_162 rfl rfl ?_
  refine Rn.bipush (pc' := 165) (v := nI 6) c106_163 (by decide +kernel) rfl ?_
  refine Rn.newi (pc' := 167) (n1 := 109) (len := 6) (s' := 4769) c106_165 (by decide) (by decide) (sh_at (by decide) (by decide +kernel)) (by decide) (by decide +kernel) (by decide +kernel) rfl rfl rfl ?_
  refine Rn.putr (pc' := 170) (C := 5) (f := 40) (a1 := 109) c106_167 (by decide +kernel) (by decide) (congrArg Prod.fst (sh_at (x := (5, 0)) (by decide) (by decide +kernel))) (by decide +kernel) (by decide +kernel) rfl rfl ?_
  refine Rn.aload (pc' := 171) (v := 87) c106_170 rfl rfl ?_
  refine Rn.bipush (pc' := 173) (v := nI 6) c106_171 (by decide +kernel) rfl ?_
  refine Rn.newz (pc' := 175) (n1 := 110) (len := 6) (s' := 4775) c106_173 (by decide) (by decide) (sh_at (by decide) (by decide +kernel)) (by decide) (by decide +kernel) (by decide +kernel) rfl rfl rfl ?_
  refine Rn.putr (pc' := 178) (C := 5) (f := 41) (a1 := 110) c106_175 (by decide +kernel) (by decide) (congrArg Prod.fst (sh_at (x := (5, 0)) (by decide) (by decide +kernel))) (by decide +kernel) (by decide +kernel) rfl rfl ?_
  refine Rn.aload (pc' := 179) (v := 87) c106_178 rfl rfl ?_
  refine Rn.iconst (pc' := 180) (v := nI 2) c106_179 (by decide +kernel) rfl ?_
  refine Rn.newz (pc' := 182) (n1 := 111) (len := 2) (s' := 4777) c106_180 (by decide) (by decide) (sh_at (by decide) (by decide +kernel)) (by decide) (by decide +kernel) (by decide +kernel) rfl rfl rfl ?_
  refine Rn.putr (pc' := 185) (C := 5) (f := 43) (a1 := 111) c106_182 (by decide +kernel) (by decide) (congrArg Prod.fst (sh_at (x := (5, 0)) (by decide) (by decide +kernel))) (by decide +kernel) (by decide +kernel) rfl rfl ?_
  refine Rn.aload (pc' := 186) (v := 87) c106_185 rfl rfl ?_
  refine Rn.bipush (pc' := 188) (v := nI 26) c106_186 (by decide +kernel) rfl ?_
  refine Rn.newi (pc' := 190) (n1 := 112) (len := 26) (s' := 4803) c106_188 (by decide) (by decide) (sh_at (by decide) (by decide +kernel)) (by decide) (by decide +kernel) (by decide +kernel) rfl rfl rfl ?_
  refine Rn.putr (pc' := 193) (C := 5) (f := 44) (a1 := 112) c106_190 (by decide +kernel) (by decide) (congrArg Prod.fst (sh_at (x := (5, 0)) (by decide) (by decide +kernel))) (by decide +kernel) (by decide +kernel) rfl rfl ?_
  refine Rn.aload (pc' := 194) (v := 87) c106_193 rfl rfl ?_
  refine Rn.iconst (pc' := 195) (v := nI 1) c106_194 (by decide +kernel) rfl ?_
  refine Rn.puti (pc' := 198) (C := 5) (f := 1) c106_195 (by decide +kernel) (by decide) (congrArg Prod.fst (sh_at (x := (5, 0)) (by decide) (by decide +kernel))) (by decide +kernel) (by decide +kernel) rfl ?_
  exact Rn.ret c106_198 (by decide +kernel) (by decide +kernel) (by decide +kernel) ⟨rfl, rfl, rfl, rfl, rfl⟩
