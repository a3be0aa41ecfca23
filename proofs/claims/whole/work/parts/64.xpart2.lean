/-! the class reads a thing -/
theorem fgF {m : Nat} (hm : m ≤ 9) (t : Nat) : (nI m ≤ fgv t) = (48 + m ≤ t ∧ t ≤ 57) := by
  by_cases h : 48 ≤ t ∧ t ≤ 57
  · rw [fgv_t h, nI_leI (by omega) (by omega)]
    exact propext ⟨fun w => by omega, fun w => by omega⟩
  · rw [fgv_f h]
    have k : ∀ m, m ≤ 9 → ¬ nI m ≤ iI (-1) := by decide +kernel
    exact propext ⟨fun w => absurd w (k m hm), fun w => by omega⟩
theorem ne45 {t : Nat} (ht : t ≤ 255) (h : t ≠ 45) : (nI t = nI 45) = False := eq_false (by rw [nI_eq (by omega) (by decide)]; exact h)
section XPART2
variable {Z D n p : Nat} {co : Co} {tx : Nat → Nat} {I : ab_I} {R : ab_R} {L : ab_L}
theorem x_Tm (hc : IsC D) {s : Nat} (hs : s < 3) (h1 : I 2 1 = nI 84) (h2 : I 2 2 = nI s) : cl Z 41 [.ref 2, .int (nI 45)] I R L = some (some (.int (nI false.toNat)), wI I 2 2 (nI (s + 1)), R, L) := by
  have hs4 : (nI (s + 1) = nI 4) = False := eq_false (by rw [nI_eq (by omega) (by decide)]; omega)
  rw [x_takes0 (by decide)]
  simp only [e41_0, e41_1, e41_3, e41_6, e41_7, e41_9, e41_12, e41_13, e41_15, e41_16, e41_19, e41_20, e41_21, e41_22, e41_23, e41_26, e41_27, e41_28, e41_31, e41_32, e41_35, e41_92, e41_93, e41_94, e41_95, e41_97, e41_100, e41_101, e41_104, e41_105, e41_108, e41_109, e41_110, e41_111, e41_112, e41_113, e41_116, e41_119, e41_120, e41_121, e41_122, e41_125, e41_126, e41_127, e41_128, e41_131, e41_132, e41_133, e41_135, e41_138, e41_139, e41_142, e41_145, e41_146, e41_147, e41_150, e41_151, e41_152, e41_153, e41_156, e41_157, e41_158, e41_159, e41_162, e47_0, e47_1, e47_4, e47_5, e47_8, e47_9, e47_11, e47_14, e47_17, e47_18, e47_21, e47_22, n47, bI_s, bL_s, bV_s, rv_s1, nl_i, nl_a, nl_n, w8_0, w8_i, w8_a, w8_l, ct_i, ct_a, b01_0, b01_1, b01_b, kd_2, h2, nI_add, wI_app, Nat.reduceEqDiff, if_true, if_false, h1, pn_0_1, pn_0_72, pn_0_73, pn_0_84, pn_0_87, pn_1_0, pn_1_72, pn_1_73, pn_1_84, pn_1_87, pn_68_0, pn_68_1, pn_68_72, pn_68_73, pn_68_84, pn_68_87, pn_72_0, pn_72_1, pn_72_73, pn_72_84, pn_72_87, pn_73_0, pn_73_1, pn_73_72, pn_73_84, pn_73_87, pn_84_0, pn_84_1, pn_84_72, pn_84_73, pn_84_87, pn_87_0, pn_87_1, pn_87_72, pn_87_73, pn_87_84, pn_2_1, pn_3_1, pn_3_2, pn_4_1, pn_4_2, pn_4_3, pn_2_4, pn_3_4, pn_1_4, hs4]
  rfl

theorem x_T1 (hF : Fx R) (hc : IsC D) (h20 : R 2 0 = D + 1) (h8 : I D 8 = nI (co 0 3)) (h10 : I D 10 = nI (co 0 1)) (h5 : co 0 1 ≤ 5) (h1 : I 2 1 = nI 84) (h2 : I 2 2 = nI 0) (h6 : co 0 3 < 6) {t : Nat} (ht : t ≤ 255) (h45 : t ≠ 45) : cl Z 41 [.ref 2, .int (nI t)] I R L = some (some (.int (nI (decide (48 + 0 ≤ t ∧ t < 48 + (co 0 1 + 1))).toNat)), wI (wI I 2 2 (nI 1)) (D + 3) (co 0 3) (fgv t), R, L) := by
  have hd : (D = 2) = False := eq_false (by unfold IsC at hc; omega)
  have hd1 : (2 = D + 3) = False := eq_false (by unfold IsC at hc; omega)
  have hd2 : (D = D + 3) = False := eq_false (by omega)
  rw [x_takes0 ht]
  simp only [e41_0, e41_1, e41_3, e41_6, e41_7, e41_9, e41_12, e41_13, e41_15, e41_16, e41_19, e41_20, e41_21, e41_22, e41_23, e41_26, e41_27, e41_28, e41_31, e41_32, e41_35, e41_92, e41_93, e41_94, e41_95, e41_97, e41_100, e41_101, e41_104, e41_105, e41_108, e41_109, e41_110, e41_111, e41_112, e41_113, e41_116, e41_119, e41_120, e41_121, e41_122, e41_125, e41_126, e41_127, e41_128, e41_131, e41_132, e41_133, e41_135, e41_138, e41_139, e41_142, e41_145, e41_146, e41_147, e41_150, e41_151, e41_152, e41_153, e41_156, e41_157, e41_158, e41_159, e41_162, e49_0, e49_1, e49_4, e49_7, e49_8, e49_9, e49_12, e49_40, e49_41, e49_44, e49_47, e49_48, e49_49, e49_50, e49_51, e49_54, e49_55, e49_56, e49_59, e49_62, e49_65, e49_66, e49_69, e49_70, e49_71, e49_72, e49_75, e49_78, e49_79, e49_80, e49_81, e49_82, e49_83, e49_86, e49_87, e49_88, e49_91, e49_92, e49_95, e49_96, e49_97, e49_98, e49_101, e49_104, e49_105, e49_106, e49_107, e49_108, e49_111, e49_112, e49_115, e49_116, e49_117, e49_118, e49_121, e49_122, e49_125, e49_128, e49_129, e49_130, e49_133, e49_136, e49_137, e49_140, e49_141, n49, bI_s, bL_s, bV_s, rv_s1, nl_i, nl_a, nl_n, w8_0, w8_i, w8_a, w8_l, ct_i, ct_a, b01_0, b01_1, b01_b, kdC hc, hF.c0 hc, hF.c1 hc, hF.c2 hc, hF.c3 hc, hF.c4 hc, hF.c5 hc, hF.c6 hc, alC1 hc, ltC1 hc, alC2 hc, ltC2 hc, alC3 hc, ltC3 hc, alC4 hc, ltC4 hc, alC5 hc, ltC5 hc, alC6 hc, ltC6 hc, alC7 hc, ltC7 hc, kd_2, h20, h2, nI_add, Nat.reduceAdd, wI_app, hd, hd1, hd2, Nat.reduceEqDiff, if_true, if_false, h1, pn_0_1, pn_0_72, pn_0_73, pn_0_84, pn_0_87, pn_1_0, pn_1_72, pn_1_73, pn_1_84, pn_1_87, pn_68_0, pn_68_1, pn_68_72, pn_68_73, pn_68_84, pn_68_87, pn_72_0, pn_72_1, pn_72_73, pn_72_84, pn_72_87, pn_73_0, pn_73_1, pn_73_72, pn_73_84, pn_73_87, pn_84_0, pn_84_1, pn_84_72, pn_84_73, pn_84_87, pn_87_0, pn_87_1, pn_87_72, pn_87_73, pn_87_84, pn_2_1, pn_3_1, pn_3_2, pn_4_1, pn_4_2, pn_4_3, pn_2_4, pn_3_4, pn_1_4, ne45 ht h45, h8, ab_ixN (show co 0 3 < 6 by omega) (show 6 < 2 ^ 31 by decide), nI_clamp (show co 0 3 < 2 ^ 31 by omega), fgA, fgC, h10, fgB (show co 0 1 ≤ 9 by omega)]
  by_cases q1 : 48 ≤ t ∧ t ≤ 57
  · by_cases q2 : 48 + co 0 1 < t
    · rw [if_neg (fun w => w q1), if_pos ⟨q2, q1.2⟩, decide_eq_false (by omega)]
      simp only [bI_s, bL_s, bV_s, rv_s1, nl_i, nl_a, nl_n, w8_0, w8_i, w8_a, w8_l, ct_i, ct_a, b01_0, b01_1, b01_b, e41_0, e41_1, e41_3, e41_6, e41_7, e41_9, e41_12, e41_13, e41_15, e41_16, e41_19, e41_20, e41_21, e41_22, e41_23, e41_26, e41_27, e41_28, e41_31, e41_32, e41_35, e41_92, e41_93, e41_94, e41_95, e41_97, e41_100, e41_101, e41_104, e41_105, e41_108, e41_109, e41_110, e41_111, e41_112, e41_113, e41_116, e41_119, e41_120, e41_121, e41_122, e41_125, e41_126, e41_127, e41_128, e41_131, e41_132, e41_133, e41_135, e41_138, e41_139, e41_142, e41_145, e41_146, e41_147, e41_150, e41_151, e41_152, e41_153, e41_156, e41_157, e41_158, e41_159, e41_162, Bool.toNat_true, Bool.toNat_false]
    · rw [if_neg (fun w => w q1), if_neg (fun w => q2 w.1), decide_eq_true (by omega)]
      simp only [bI_s, bL_s, bV_s, rv_s1, nl_i, nl_a, nl_n, w8_0, w8_i, w8_a, w8_l, ct_i, ct_a, b01_0, b01_1, b01_b, e41_0, e41_1, e41_3, e41_6, e41_7, e41_9, e41_12, e41_13, e41_15, e41_16, e41_19, e41_20, e41_21, e41_22, e41_23, e41_26, e41_27, e41_28, e41_31, e41_32, e41_35, e41_92, e41_93, e41_94, e41_95, e41_97, e41_100, e41_101, e41_104, e41_105, e41_108, e41_109, e41_110, e41_111, e41_112, e41_113, e41_116, e41_119, e41_120, e41_121, e41_122, e41_125, e41_126, e41_127, e41_128, e41_131, e41_132, e41_133, e41_135, e41_138, e41_139, e41_142, e41_145, e41_146, e41_147, e41_150, e41_151, e41_152, e41_153, e41_156, e41_157, e41_158, e41_159, e41_162, Bool.toNat_true, Bool.toNat_false]
  · rw [if_pos q1, decide_eq_false (by omega)]
    simp only [bI_s, bL_s, bV_s, rv_s1, nl_i, nl_a, nl_n, w8_0, w8_i, w8_a, w8_l, ct_i, ct_a, b01_0, b01_1, b01_b, e41_0, e41_1, e41_3, e41_6, e41_7, e41_9, e41_12, e41_13, e41_15, e41_16, e41_19, e41_20, e41_21, e41_22, e41_23, e41_26, e41_27, e41_28, e41_31, e41_32, e41_35, e41_92, e41_93, e41_94, e41_95, e41_97, e41_100, e41_101, e41_104, e41_105, e41_108, e41_109, e41_110, e41_111, e41_112, e41_113, e41_116, e41_119, e41_120, e41_121, e41_122, e41_125, e41_126, e41_127, e41_128, e41_131, e41_132, e41_133, e41_135, e41_138, e41_139, e41_142, e41_145, e41_146, e41_147, e41_150, e41_151, e41_152, e41_153, e41_156, e41_157, e41_158, e41_159, e41_162, Bool.toNat_true, Bool.toNat_false]
theorem x_T2 (hF : Fx R) (hc : IsC D) (h20 : R 2 0 = D + 1) (h8 : I D 8 = nI (co 0 3)) (h1 : I 2 1 = nI 84) (h2 : I 2 2 = nI 1) (h6 : co 0 3 < 6) {t : Nat} (ht : t ≤ 255) (h45 : t ≠ 45) : cl Z 41 [.ref 2, .int (nI t)] I R L = some (some (.int (nI (decide (48 + 1 ≤ t ∧ t < 48 + 4)).toNat)), wI (wI I 2 2 (nI 2)) (D + 4) (co 0 3) (fgv t), R, L) := by
  have hd : (D = 2) = False := eq_false (by unfold IsC at hc; omega)
  have hd1 : (2 = D + 4) = False := eq_false (by unfold IsC at hc; omega)
  have hd2 : (D = D + 4) = False := eq_false (by omega)
  rw [x_takes0 ht]
  simp only [e41_0, e41_1, e41_3, e41_6, e41_7, e41_9, e41_12, e41_13, e41_15, e41_16, e41_19, e41_20, e41_21, e41_22, e41_23, e41_26, e41_27, e41_28, e41_31, e41_32, e41_35, e41_92, e41_93, e41_94, e41_95, e41_97, e41_100, e41_101, e41_104, e41_105, e41_108, e41_109, e41_110, e41_111, e41_112, e41_113, e41_116, e41_119, e41_120, e41_121, e41_122, e41_125, e41_126, e41_127, e41_128, e41_131, e41_132, e41_133, e41_135, e41_138, e41_139, e41_142, e41_145, e41_146, e41_147, e41_150, e41_151, e41_152, e41_153, e41_156, e41_157, e41_158, e41_159, e41_162, e49_0, e49_1, e49_4, e49_7, e49_8, e49_9, e49_12, e49_40, e49_41, e49_44, e49_47, e49_48, e49_49, e49_50, e49_51, e49_54, e49_55, e49_56, e49_59, e49_62, e49_65, e49_66, e49_69, e49_70, e49_71, e49_72, e49_75, e49_78, e49_79, e49_80, e49_81, e49_82, e49_83, e49_86, e49_87, e49_88, e49_91, e49_92, e49_95, e49_96, e49_97, e49_98, e49_101, e49_104, e49_105, e49_106, e49_107, e49_108, e49_111, e49_112, e49_115, e49_116, e49_117, e49_118, e49_121, e49_122, e49_125, e49_128, e49_129, e49_130, e49_133, e49_136, e49_137, e49_140, e49_141, n49, bI_s, bL_s, bV_s, rv_s1, nl_i, nl_a, nl_n, w8_0, w8_i, w8_a, w8_l, ct_i, ct_a, b01_0, b01_1, b01_b, kdC hc, hF.c0 hc, hF.c1 hc, hF.c2 hc, hF.c3 hc, hF.c4 hc, hF.c5 hc, hF.c6 hc, alC1 hc, ltC1 hc, alC2 hc, ltC2 hc, alC3 hc, ltC3 hc, alC4 hc, ltC4 hc, alC5 hc, ltC5 hc, alC6 hc, ltC6 hc, alC7 hc, ltC7 hc, kd_2, h20, h2, nI_add, Nat.reduceAdd, wI_app, hd, hd1, hd2, Nat.reduceEqDiff, if_true, if_false, h1, pn_0_1, pn_0_72, pn_0_73, pn_0_84, pn_0_87, pn_1_0, pn_1_72, pn_1_73, pn_1_84, pn_1_87, pn_68_0, pn_68_1, pn_68_72, pn_68_73, pn_68_84, pn_68_87, pn_72_0, pn_72_1, pn_72_73, pn_72_84, pn_72_87, pn_73_0, pn_73_1, pn_73_72, pn_73_84, pn_73_87, pn_84_0, pn_84_1, pn_84_72, pn_84_73, pn_84_87, pn_87_0, pn_87_1, pn_87_72, pn_87_73, pn_87_84, pn_2_1, pn_3_1, pn_3_2, pn_4_1, pn_4_2, pn_4_3, pn_2_4, pn_3_4, pn_1_4, ne45 ht h45, h8, ab_ixN (show co 0 3 < 6 by omega) (show 6 < 2 ^ 31 by decide), nI_clamp (show co 0 3 < 2 ^ 31 by omega), fgA, fgC, fgB (show 3 ≤ 9 by decide)]
  by_cases q1 : 49 ≤ t ∧ t ≤ 57
  · by_cases q2 : 48 + 3 < t
    · rw [if_neg (fun w => w q1), if_pos ⟨q2, q1.2⟩, decide_eq_false (by omega)]
      simp only [bI_s, bL_s, bV_s, rv_s1, nl_i, nl_a, nl_n, w8_0, w8_i, w8_a, w8_l, ct_i, ct_a, b01_0, b01_1, b01_b, e41_0, e41_1, e41_3, e41_6, e41_7, e41_9, e41_12, e41_13, e41_15, e41_16, e41_19, e41_20, e41_21, e41_22, e41_23, e41_26, e41_27, e41_28, e41_31, e41_32, e41_35, e41_92, e41_93, e41_94, e41_95, e41_97, e41_100, e41_101, e41_104, e41_105, e41_108, e41_109, e41_110, e41_111, e41_112, e41_113, e41_116, e41_119, e41_120, e41_121, e41_122, e41_125, e41_126, e41_127, e41_128, e41_131, e41_132, e41_133, e41_135, e41_138, e41_139, e41_142, e41_145, e41_146, e41_147, e41_150, e41_151, e41_152, e41_153, e41_156, e41_157, e41_158, e41_159, e41_162, Bool.toNat_true, Bool.toNat_false]
    · rw [if_neg (fun w => w q1), if_neg (fun w => q2 w.1), decide_eq_true (by omega)]
      simp only [bI_s, bL_s, bV_s, rv_s1, nl_i, nl_a, nl_n, w8_0, w8_i, w8_a, w8_l, ct_i, ct_a, b01_0, b01_1, b01_b, e41_0, e41_1, e41_3, e41_6, e41_7, e41_9, e41_12, e41_13, e41_15, e41_16, e41_19, e41_20, e41_21, e41_22, e41_23, e41_26, e41_27, e41_28, e41_31, e41_32, e41_35, e41_92, e41_93, e41_94, e41_95, e41_97, e41_100, e41_101, e41_104, e41_105, e41_108, e41_109, e41_110, e41_111, e41_112, e41_113, e41_116, e41_119, e41_120, e41_121, e41_122, e41_125, e41_126, e41_127, e41_128, e41_131, e41_132, e41_133, e41_135, e41_138, e41_139, e41_142, e41_145, e41_146, e41_147, e41_150, e41_151, e41_152, e41_153, e41_156, e41_157, e41_158, e41_159, e41_162, Bool.toNat_true, Bool.toNat_false]
  · rw [if_pos q1, decide_eq_false (by omega)]
    simp only [bI_s, bL_s, bV_s, rv_s1, nl_i, nl_a, nl_n, w8_0, w8_i, w8_a, w8_l, ct_i, ct_a, b01_0, b01_1, b01_b, e41_0, e41_1, e41_3, e41_6, e41_7, e41_9, e41_12, e41_13, e41_15, e41_16, e41_19, e41_20, e41_21, e41_22, e41_23, e41_26, e41_27, e41_28, e41_31, e41_32, e41_35, e41_92, e41_93, e41_94, e41_95, e41_97, e41_100, e41_101, e41_104, e41_105, e41_108, e41_109, e41_110, e41_111, e41_112, e41_113, e41_116, e41_119, e41_120, e41_121, e41_122, e41_125, e41_126, e41_127, e41_128, e41_131, e41_132, e41_133, e41_135, e41_138, e41_139, e41_142, e41_145, e41_146, e41_147, e41_150, e41_151, e41_152, e41_153, e41_156, e41_157, e41_158, e41_159, e41_162, Bool.toNat_true, Bool.toNat_false]
theorem x_T3 (hF : Fx R) (hc : IsC D) (h20 : R 2 0 = D + 1) (h8 : I D 8 = nI (co 0 3)) (h1 : I 2 1 = nI 84) (h2 : I 2 2 = nI 2) (h6 : co 0 3 < 6) {t : Nat} (ht : t ≤ 255) (h45 : t ≠ 45) : cl Z 41 [.ref 2, .int (nI t)] I R L = some (some (.int (nI (decide (48 + 0 ≤ t ∧ t < 48 + 10)).toNat)), wI (wI I 2 2 (nI 3)) (D + 5) (co 0 3) (fgv t), R, L) := by
  have hd : (D = 2) = False := eq_false (by unfold IsC at hc; omega)
  have hd1 : (2 = D + 5) = False := eq_false (by unfold IsC at hc; omega)
  have hd2 : (D = D + 5) = False := eq_false (by omega)
  rw [x_takes0 ht]
  simp only [e41_0, e41_1, e41_3, e41_6, e41_7, e41_9, e41_12, e41_13, e41_15, e41_16, e41_19, e41_20, e41_21, e41_22, e41_23, e41_26, e41_27, e41_28, e41_31, e41_32, e41_35, e41_92, e41_93, e41_94, e41_95, e41_97, e41_100, e41_101, e41_104, e41_105, e41_108, e41_109, e41_110, e41_111, e41_112, e41_113, e41_116, e41_119, e41_120, e41_121, e41_122, e41_125, e41_126, e41_127, e41_128, e41_131, e41_132, e41_133, e41_135, e41_138, e41_139, e41_142, e41_145, e41_146, e41_147, e41_150, e41_151, e41_152, e41_153, e41_156, e41_157, e41_158, e41_159, e41_162, e49_0, e49_1, e49_4, e49_7, e49_8, e49_9, e49_12, e49_40, e49_41, e49_44, e49_47, e49_48, e49_49, e49_50, e49_51, e49_54, e49_55, e49_56, e49_59, e49_62, e49_65, e49_66, e49_69, e49_70, e49_71, e49_72, e49_75, e49_78, e49_79, e49_80, e49_81, e49_82, e49_83, e49_86, e49_87, e49_88, e49_91, e49_92, e49_95, e49_96, e49_97, e49_98, e49_101, e49_104, e49_105, e49_106, e49_107, e49_108, e49_111, e49_112, e49_115, e49_116, e49_117, e49_118, e49_121, e49_122, e49_125, e49_128, e49_129, e49_130, e49_133, e49_136, e49_137, e49_140, e49_141, n49, bI_s, bL_s, bV_s, rv_s1, nl_i, nl_a, nl_n, w8_0, w8_i, w8_a, w8_l, ct_i, ct_a, b01_0, b01_1, b01_b, kdC hc, hF.c0 hc, hF.c1 hc, hF.c2 hc, hF.c3 hc, hF.c4 hc, hF.c5 hc, hF.c6 hc, alC1 hc, ltC1 hc, alC2 hc, ltC2 hc, alC3 hc, ltC3 hc, alC4 hc, ltC4 hc, alC5 hc, ltC5 hc, alC6 hc, ltC6 hc, alC7 hc, ltC7 hc, kd_2, h20, h2, nI_add, Nat.reduceAdd, wI_app, hd, hd1, hd2, Nat.reduceEqDiff, if_true, if_false, h1, pn_0_1, pn_0_72, pn_0_73, pn_0_84, pn_0_87, pn_1_0, pn_1_72, pn_1_73, pn_1_84, pn_1_87, pn_68_0, pn_68_1, pn_68_72, pn_68_73, pn_68_84, pn_68_87, pn_72_0, pn_72_1, pn_72_73, pn_72_84, pn_72_87, pn_73_0, pn_73_1, pn_73_72, pn_73_84, pn_73_87, pn_84_0, pn_84_1, pn_84_72, pn_84_73, pn_84_87, pn_87_0, pn_87_1, pn_87_72, pn_87_73, pn_87_84, pn_2_1, pn_3_1, pn_3_2, pn_4_1, pn_4_2, pn_4_3, pn_2_4, pn_3_4, pn_1_4, ne45 ht h45, h8, ab_ixN (show co 0 3 < 6 by omega) (show 6 < 2 ^ 31 by decide), nI_clamp (show co 0 3 < 2 ^ 31 by omega), fgA, fgC]
  by_cases q1 : 48 ≤ t ∧ t ≤ 57
  · rw [if_neg (fun w => w q1), decide_eq_true (by omega)]
    simp only [bI_s, bL_s, bV_s, rv_s1, nl_i, nl_a, nl_n, w8_0, w8_i, w8_a, w8_l, ct_i, ct_a, b01_0, b01_1, b01_b, e41_0, e41_1, e41_3, e41_6, e41_7, e41_9, e41_12, e41_13, e41_15, e41_16, e41_19, e41_20, e41_21, e41_22, e41_23, e41_26, e41_27, e41_28, e41_31, e41_32, e41_35, e41_92, e41_93, e41_94, e41_95, e41_97, e41_100, e41_101, e41_104, e41_105, e41_108, e41_109, e41_110, e41_111, e41_112, e41_113, e41_116, e41_119, e41_120, e41_121, e41_122, e41_125, e41_126, e41_127, e41_128, e41_131, e41_132, e41_133, e41_135, e41_138, e41_139, e41_142, e41_145, e41_146, e41_147, e41_150, e41_151, e41_152, e41_153, e41_156, e41_157, e41_158, e41_159, e41_162, Bool.toNat_true, Bool.toNat_false]
  · rw [if_pos q1, decide_eq_false (by omega)]
    simp only [bI_s, bL_s, bV_s, rv_s1, nl_i, nl_a, nl_n, w8_0, w8_i, w8_a, w8_l, ct_i, ct_a, b01_0, b01_1, b01_b, e41_0, e41_1, e41_3, e41_6, e41_7, e41_9, e41_12, e41_13, e41_15, e41_16, e41_19, e41_20, e41_21, e41_22, e41_23, e41_26, e41_27, e41_28, e41_31, e41_32, e41_35, e41_92, e41_93, e41_94, e41_95, e41_97, e41_100, e41_101, e41_104, e41_105, e41_108, e41_109, e41_110, e41_111, e41_112, e41_113, e41_116, e41_119, e41_120, e41_121, e41_122, e41_125, e41_126, e41_127, e41_128, e41_131, e41_132, e41_133, e41_135, e41_138, e41_139, e41_142, e41_145, e41_146, e41_147, e41_150, e41_151, e41_152, e41_153, e41_156, e41_157, e41_158, e41_159, e41_162, Bool.toNat_true, Bool.toNat_false]
theorem x_own (hF : Fx R) (hc : IsC D) (h20 : R 2 0 = D + 1) (h8 : I D 8 = nI (co 0 3)) (h6 : co 0 3 < 6) (x : Int32) : cl Z 48 [.ref 2, .int x] I R L = some (some (.int (nI 1)), wI (wI (wI (wI I (D + 6) (co 0 3) x) (D + 7) (co 0 3) (iI (-9))) D 8 (nI (co 0 3 + 1))) 2 1 (nI 1), R, L) := by
  have hd1 : (D = D + 6) = False := eq_false (by omega)
  have hd2 : (D = D + 7) = False := eq_false (by omega)
  rw [n48]
  simp only [e48_0, e48_1, e48_4, e48_7, e48_8, e48_11, e48_14, e48_15, e48_16, e48_17, e48_20, e48_23, e48_24, e48_27, e48_30, e48_32, e48_33, e48_34, e48_37, e48_38, e48_41, e48_42, e48_43, e48_46, e48_47, e48_50, e45_0, e45_1, e45_2, e45_5, e45_6, n45, bI_s, bL_s, bV_s, rv_s1, nl_i, nl_a, nl_n, w8_0, w8_i, w8_a, w8_l, ct_i, ct_a, b01_0, b01_1, b01_b, kdC hc, hF.c0 hc, hF.c1 hc, hF.c2 hc, hF.c3 hc, hF.c4 hc, hF.c5 hc, hF.c6 hc, alC1 hc, ltC1 hc, alC2 hc, ltC2 hc, alC3 hc, ltC3 hc, alC4 hc, ltC4 hc, alC5 hc, ltC5 hc, alC6 hc, ltC6 hc, alC7 hc, ltC7 hc, kd_2, h20, nI_add, wI_app, hd1, hd2, Nat.reduceEqDiff, if_true, if_false, h8, ab_ixN (show co 0 3 < 6 by omega) (show 6 < 2 ^ 31 by decide), nI_clamp (show co 0 3 < 2 ^ 31 by omega)]
theorem x_T4m (hF : Fx R) (hc : IsC D) (h20 : R 2 0 = D + 1) (h8 : I D 8 = nI (co 0 3)) (h1 : I 2 1 = nI 84) (h2 : I 2 2 = nI 3) (h6 : co 0 3 < 6) : cl Z 41 [.ref 2, .int (nI 45)] I R L = some (some (.int (nI true.toNat)), wI (wI (wI (wI (wI I 2 2 (nI 4)) (D + 6) (co 0 3) (iI (-9))) (D + 7) (co 0 3) (iI (-9))) D 8 (nI (co 0 3 + 1))) 2 1 (nI 1), R, L) := by
  have w := x_own (Z := Z) (I := wI I 2 2 (nI 4)) (L := L) hF hc h20 (by rw [wI_o (by unfold IsC at hc; omega), h8]) h6 (iI (-9))
  rw [x_takes0 (by decide)]
  simp only [e41_0, e41_1, e41_3, e41_6, e41_7, e41_9, e41_12, e41_13, e41_15, e41_16, e41_19, e41_20, e41_21, e41_22, e41_23, e41_26, e41_27, e41_28, e41_31, e41_32, e41_35, e41_92, e41_93, e41_94, e41_95, e41_97, e41_100, e41_101, e41_104, e41_105, e41_108, e41_109, e41_110, e41_111, e41_112, e41_113, e41_116, e41_119, e41_120, e41_121, e41_122, e41_125, e41_126, e41_127, e41_128, e41_131, e41_132, e41_133, e41_135, e41_138, e41_139, e41_142, e41_145, e41_146, e41_147, e41_150, e41_151, e41_152, e41_153, e41_156, e41_157, e41_158, e41_159, e41_162, e47_0, e47_1, e47_4, e47_5, e47_8, e47_9, e47_11, e47_14, e47_17, e47_18, e47_21, e47_22, n47, bI_s, bL_s, bV_s, rv_s1, nl_i, nl_a, nl_n, w8_0, w8_i, w8_a, w8_l, ct_i, ct_a, b01_0, b01_1, b01_b, kd_2, h2, nI_add, Nat.reduceAdd, wI_app, Nat.reduceEqDiff, if_true, if_false, h1, pn_0_1, pn_0_72, pn_0_73, pn_0_84, pn_0_87, pn_1_0, pn_1_72, pn_1_73, pn_1_84, pn_1_87, pn_68_0, pn_68_1, pn_68_72, pn_68_73, pn_68_84, pn_68_87, pn_72_0, pn_72_1, pn_72_73, pn_72_84, pn_72_87, pn_73_0, pn_73_1, pn_73_72, pn_73_84, pn_73_87, pn_84_0, pn_84_1, pn_84_72, pn_84_73, pn_84_87, pn_87_0, pn_87_1, pn_87_72, pn_87_73, pn_87_84, pn_2_1, pn_3_1, pn_3_2, pn_4_1, pn_4_2, pn_4_3, pn_2_4, pn_3_4, pn_1_4, w, nI10]
  rfl
theorem x_T4 (hF : Fx R) (hc : IsC D) (h20 : R 2 0 = D + 1) (h8 : I D 8 = nI (co 0 3)) (h7 : I D 7 = nI (co 0 2)) (h4 : co 0 2 ≤ 4) (h1 : I 2 1 = nI 84) (h2 : I 2 2 = nI 3) (h6 : co 0 3 < 6) {t : Nat} (ht : t ≤ 255) (h45 : t ≠ 45) : cl Z 41 [.ref 2, .int (nI t)] I R L = some (some (.int (nI (decide (48 + 0 ≤ t ∧ t < 48 + co 0 2)).toNat)), if 48 + 0 ≤ t ∧ t < 48 + co 0 2 then wI (wI (wI (wI (wI I 2 2 (nI 4)) (D + 6) (co 0 3) (fgv t)) (D + 7) (co 0 3) (iI (-9))) D 8 (nI (co 0 3 + 1))) 2 1 (nI 1) else wI I 2 2 (nI 4), R, L) := by
  have hd : (D = 2) = False := eq_false (by unfold IsC at hc; omega)
  have w := x_own (Z := Z) (I := wI I 2 2 (nI 4)) (L := L) hF hc h20 (by rw [wI_o (by unfold IsC at hc; omega), h8]) h6 (fgv t)
  rw [x_takes0 ht]
  simp only [e41_0, e41_1, e41_3, e41_6, e41_7, e41_9, e41_12, e41_13, e41_15, e41_16, e41_19, e41_20, e41_21, e41_22, e41_23, e41_26, e41_27, e41_28, e41_31, e41_32, e41_35, e41_92, e41_93, e41_94, e41_95, e41_97, e41_100, e41_101, e41_104, e41_105, e41_108, e41_109, e41_110, e41_111, e41_112, e41_113, e41_116, e41_119, e41_120, e41_121, e41_122, e41_125, e41_126, e41_127, e41_128, e41_131, e41_132, e41_133, e41_135, e41_138, e41_139, e41_142, e41_145, e41_146, e41_147, e41_150, e41_151, e41_152, e41_153, e41_156, e41_157, e41_158, e41_159, e41_162, e49_0, e49_1, e49_4, e49_7, e49_8, e49_9, e49_12, e49_40, e49_41, e49_44, e49_47, e49_48, e49_49, e49_50, e49_51, e49_54, e49_55, e49_56, e49_59, e49_62, e49_65, e49_66, e49_69, e49_70, e49_71, e49_72, e49_75, e49_78, e49_79, e49_80, e49_81, e49_82, e49_83, e49_86, e49_87, e49_88, e49_91, e49_92, e49_95, e49_96, e49_97, e49_98, e49_101, e49_104, e49_105, e49_106, e49_107, e49_108, e49_111, e49_112, e49_115, e49_116, e49_117, e49_118, e49_121, e49_122, e49_125, e49_128, e49_129, e49_130, e49_133, e49_136, e49_137, e49_140, e49_141, n49, e6_0, e6_1, e6_4, e6_5, e6_6, e6_9, e6_12, e6_13, e6_16, e6_17, n6, bI_s, bL_s, bV_s, rv_s1, nl_i, nl_a, nl_n, w8_0, w8_i, w8_a, w8_l, ct_i, ct_a, b01_0, b01_1, b01_b, kdC hc, hF.c0 hc, hF.c1 hc, hF.c2 hc, hF.c3 hc, hF.c4 hc, hF.c5 hc, hF.c6 hc, alC1 hc, ltC1 hc, alC2 hc, ltC2 hc, alC3 hc, ltC3 hc, alC4 hc, ltC4 hc, alC5 hc, ltC5 hc, alC6 hc, ltC6 hc, alC7 hc, ltC7 hc, kd_2, h20, h2, nI_add, Nat.reduceAdd, wI_app, hd, Nat.reduceEqDiff, if_true, if_false, h1, pn_0_1, pn_0_72, pn_0_73, pn_0_84, pn_0_87, pn_1_0, pn_1_72, pn_1_73, pn_1_84, pn_1_87, pn_68_0, pn_68_1, pn_68_72, pn_68_73, pn_68_84, pn_68_87, pn_72_0, pn_72_1, pn_72_73, pn_72_84, pn_72_87, pn_73_0, pn_73_1, pn_73_72, pn_73_84, pn_73_87, pn_84_0, pn_84_1, pn_84_72, pn_84_73, pn_84_87, pn_87_0, pn_87_1, pn_87_72, pn_87_73, pn_87_84, pn_2_1, pn_3_1, pn_3_2, pn_4_1, pn_4_2, pn_4_3, pn_2_4, pn_3_4, pn_1_4, ne45 ht h45, h8, h7, fgA, fgF (show co 0 2 ≤ 9 by omega)]
  by_cases q1 : 48 ≤ t ∧ t ≤ 57
  · by_cases q2 : 48 + co 0 2 ≤ t
    · rw [if_neg (fun w => w q1), if_pos ⟨q2, q1.2⟩, decide_eq_false (by omega), if_neg (by omega)]
      simp only [bI_s, bL_s, bV_s, rv_s1, nl_i, nl_a, nl_n, w8_0, w8_i, w8_a, w8_l, ct_i, ct_a, b01_0, b01_1, b01_b, e41_0, e41_1, e41_3, e41_6, e41_7, e41_9, e41_12, e41_13, e41_15, e41_16, e41_19, e41_20, e41_21, e41_22, e41_23, e41_26, e41_27, e41_28, e41_31, e41_32, e41_35, e41_92, e41_93, e41_94, e41_95, e41_97, e41_100, e41_101, e41_104, e41_105, e41_108, e41_109, e41_110, e41_111, e41_112, e41_113, e41_116, e41_119, e41_120, e41_121, e41_122, e41_125, e41_126, e41_127, e41_128, e41_131, e41_132, e41_133, e41_135, e41_138, e41_139, e41_142, e41_145, e41_146, e41_147, e41_150, e41_151, e41_152, e41_153, e41_156, e41_157, e41_158, e41_159, e41_162, e49_0, e49_1, e49_4, e49_7, e49_8, e49_9, e49_12, e49_40, e49_41, e49_44, e49_47, e49_48, e49_49, e49_50, e49_51, e49_54, e49_55, e49_56, e49_59, e49_62, e49_65, e49_66, e49_69, e49_70, e49_71, e49_72, e49_75, e49_78, e49_79, e49_80, e49_81, e49_82, e49_83, e49_86, e49_87, e49_88, e49_91, e49_92, e49_95, e49_96, e49_97, e49_98, e49_101, e49_104, e49_105, e49_106, e49_107, e49_108, e49_111, e49_112, e49_115, e49_116, e49_117, e49_118, e49_121, e49_122, e49_125, e49_128, e49_129, e49_130, e49_133, e49_136, e49_137, e49_140, e49_141, Bool.toNat_true, Bool.toNat_false, if_true]
    · rw [if_neg (fun w => w q1), if_neg (fun w => q2 w.1), decide_eq_true (by omega), if_pos (by omega)]
      simp only [bI_s, bL_s, bV_s, rv_s1, nl_i, nl_a, nl_n, w8_0, w8_i, w8_a, w8_l, ct_i, ct_a, b01_0, b01_1, b01_b, e41_0, e41_1, e41_3, e41_6, e41_7, e41_9, e41_12, e41_13, e41_15, e41_16, e41_19, e41_20, e41_21, e41_22, e41_23, e41_26, e41_27, e41_28, e41_31, e41_32, e41_35, e41_92, e41_93, e41_94, e41_95, e41_97, e41_100, e41_101, e41_104, e41_105, e41_108, e41_109, e41_110, e41_111, e41_112, e41_113, e41_116, e41_119, e41_120, e41_121, e41_122, e41_125, e41_126, e41_127, e41_128, e41_131, e41_132, e41_133, e41_135, e41_138, e41_139, e41_142, e41_145, e41_146, e41_147, e41_150, e41_151, e41_152, e41_153, e41_156, e41_157, e41_158, e41_159, e41_162, e49_0, e49_1, e49_4, e49_7, e49_8, e49_9, e49_12, e49_40, e49_41, e49_44, e49_47, e49_48, e49_49, e49_50, e49_51, e49_54, e49_55, e49_56, e49_59, e49_62, e49_65, e49_66, e49_69, e49_70, e49_71, e49_72, e49_75, e49_78, e49_79, e49_80, e49_81, e49_82, e49_83, e49_86, e49_87, e49_88, e49_91, e49_92, e49_95, e49_96, e49_97, e49_98, e49_101, e49_104, e49_105, e49_106, e49_107, e49_108, e49_111, e49_112, e49_115, e49_116, e49_117, e49_118, e49_121, e49_122, e49_125, e49_128, e49_129, e49_130, e49_133, e49_136, e49_137, e49_140, e49_141, Bool.toNat_true, Bool.toNat_false, nI10, if_false, kd_2, w]
  · rw [if_pos q1, decide_eq_false (by omega), if_neg (by omega)]
    simp only [bI_s, bL_s, bV_s, rv_s1, nl_i, nl_a, nl_n, w8_0, w8_i, w8_a, w8_l, ct_i, ct_a, b01_0, b01_1, b01_b, e41_0, e41_1, e41_3, e41_6, e41_7, e41_9, e41_12, e41_13, e41_15, e41_16, e41_19, e41_20, e41_21, e41_22, e41_23, e41_26, e41_27, e41_28, e41_31, e41_32, e41_35, e41_92, e41_93, e41_94, e41_95, e41_97, e41_100, e41_101, e41_104, e41_105, e41_108, e41_109, e41_110, e41_111, e41_112, e41_113, e41_116, e41_119, e41_120, e41_121, e41_122, e41_125, e41_126, e41_127, e41_128, e41_131, e41_132, e41_133, e41_135, e41_138, e41_139, e41_142, e41_145, e41_146, e41_147, e41_150, e41_151, e41_152, e41_153, e41_156, e41_157, e41_158, e41_159, e41_162, e49_0, e49_1, e49_4, e49_7, e49_8, e49_9, e49_12, e49_40, e49_41, e49_44, e49_47, e49_48, e49_49, e49_50, e49_51, e49_54, e49_55, e49_56, e49_59, e49_62, e49_65, e49_66, e49_69, e49_70, e49_71, e49_72, e49_75, e49_78, e49_79, e49_80, e49_81, e49_82, e49_83, e49_86, e49_87, e49_88, e49_91, e49_92, e49_95, e49_96, e49_97, e49_98, e49_101, e49_104, e49_105, e49_106, e49_107, e49_108, e49_111, e49_112, e49_115, e49_116, e49_117, e49_118, e49_121, e49_122, e49_125, e49_128, e49_129, e49_130, e49_133, e49_136, e49_137, e49_140, e49_141, Bool.toNat_true, Bool.toNat_false, if_true]
/-- one letter of a thing, ahead of its owner -/
theorem x_Tk {q : Nat} {b : Bool} {J : ab_I} {s : Nat} (hc : IsC D) (hT : TXx I tx n) (hq : q ≤ n) (hs : s < 3) (h1 : I 2 1 = nI 84) (h2 : I 2 2 = nI s) (f : Nat → Nat → Bool) (hf45 : q < n → tx q = 45 → b = false) (hfo : ¬ q < n → b = false) (e : q < n → tx q ≠ 45 → cl Z 41 [.ref 2, .int (nI (tx q))] I R L = some (some (.int (nI b.toNat)), J, R, L)) (oJ : OffD I J D) : (b = true ∧ q < n ∧ kx Z n D q I R L = kx Z n D (q + 1) J R L) ∨ (b = false ∧ ∃ K, OffD I K D ∧ kx Z n D q I R L = some (some (.int (nI q)), K, R, L)) := by
  by_cases hn : q < n
  · by_cases h45 : tx q = 45
    · have e0 := x_Tm (Z := Z) (R := R) (L := L) hc hs h1 h2
      rw [← h45] at e0
      have e1 := kx_s (D := D) hT hn e0
      rw [if_neg (by decide)] at e1
      exact Or.inr ⟨hf45 hn h45, _, OffD.w (Or.inl rfl), e1⟩
    · have e1 := kx_s (D := D) hT hn (e hn h45)
      cases b with
      | true =>
        rw [if_pos rfl] at e1
        exact Or.inl ⟨rfl, hn, e1⟩
      | false =>
        rw [if_neg (by decide)] at e1
        exact Or.inr ⟨rfl, J, oJ, e1⟩
  · refine Or.inr ⟨hfo hn, I, OffD.rf, ?_⟩
    have en : q = n := by omega
    rw [en]
    exact kx_e (by rw [h1]; decide)
theorem fin_45 {q lo hi : Nat} (hn : q < n) (h : tx q = 45) : fin tx n q lo hi = false := by
  rw [fin_n hn, h]
  exact decide_eq_false (by omega)
theorem x_rpT (hF : Fx R) (hc : IsC D) (h20 : R 2 0 = D + 1) (hC : XC I D co) (hW : WP co) (hT : TXx I tx n) (h1 : I 2 1 = nI 84) (h2 : I 2 2 = nI 0) (h6 : co 0 3 < 6) (hp : p < n) : xrS Z n D I R L (p + 1) (if fin tx n (p + 1) 0 (co 0 1 + 1) = true then (if fin tx n (p + 2) 1 4 = true then (if fin tx n (p + 3) 0 10 = true then
      (if p + 4 < n ∧ tx (p + 4) = 45 then (true, p + 5, addT co (tx (p + 1) - 48) (tx (p + 2) - 48) (tx (p + 3) - 48) 0) else
       if fin tx n (p + 4) 0 (co 0 2) = true then (true, p + 5, addT co (tx (p + 1) - 48) (tx (p + 2) - 48) (tx (p + 3) - 48) (tx (p + 4) - 48 + 1)) else (false, p + 4, co))
      else (false, p + 3, co)) else (false, p + 2, co)) else (false, p + 1, co)) := by
  have hcc := hc
  unfold IsC at hcc
  have h5 := hW.2.2.2.1
  have h4 := hW.1
  have o1 : OffD I (wI (wI I 2 2 (nI 1)) (D + 3) (co 0 3) (fgv (tx (p + 1)))) D := (OffD.w (Or.inl rfl)).tr (OffD.w (Or.inr (by omega)))
  rcases x_Tk (Z := Z) (L := L) (R := R) (D := D) (b := fin tx n (p + 1) 0 (co 0 1 + 1)) (J := wI (wI I 2 2 (nI 1)) (D + 3) (co 0 3) (fgv (tx (p + 1)))) hc hT (show p + 1 ≤ n by omega) (show 0 < 3 by decide) h1 h2 (fun _ _ => true) (fun a b => fin_45 a b) (fun a => fin_o a) (fun a b => by
      rw [fin_n a]
      exact x_T1 hF hc h20 hC.th hC.la h5.2 h1 h2 h6 (hT.1.2 _ a) b) o1 with ⟨hf, hn1, e1⟩ | ⟨hf, K, oK, eK⟩
  · rw [if_pos hf]
    have q1 := of_decide_eq_true hf
    generalize hJ1 : wI (wI I 2 2 (nI 1)) (D + 3) (co 0 3) (fgv (tx (p + 1))) = J1 at e1 o1
    have j1 : J1 2 1 = nI 84 := by rw [← hJ1, wI_o (by omega), wI_k (by decide), h1]
    have j2 : J1 2 2 = nI 1 := by rw [← hJ1, wI_o (by omega), wI_self]
    have jD : ∀ k, J1 D k = I D k := fun k => by rw [← hJ1, wI_o (by omega), wI_o (by omega)]
    have o2 : OffD J1 (wI (wI J1 2 2 (nI 2)) (D + 4) (co 0 3) (fgv (tx (p + 2)))) D := (OffD.w (Or.inl rfl)).tr (OffD.w (Or.inr (by omega)))
    rcases x_Tk (Z := Z) (L := L) (R := R) (D := D) (b := fin tx n (p + 2) 1 4) (J := wI (wI J1 2 2 (nI 2)) (D + 4) (co 0 3) (fgv (tx (p + 2)))) hc (hT.off hc o1) (show p + 2 ≤ n by omega) (show 1 < 3 by decide) j1 j2 (fun _ _ => true) (fun a b => fin_45 a b) (fun a => fin_o a) (fun a b => by
        rw [fin_n a]
        exact x_T2 hF hc h20 (by rw [jD, hC.th]) j1 j2 h6 (hT.1.2 _ a) b) o2 with ⟨hf2, hn2, e2⟩ | ⟨hf2, K, oK, eK⟩
    · rw [if_pos hf2]
      have q2 := of_decide_eq_true hf2
      generalize hJ2 : wI (wI J1 2 2 (nI 2)) (D + 4) (co 0 3) (fgv (tx (p + 2))) = J2 at e2 o2
      have k1 : J2 2 1 = nI 84 := by rw [← hJ2, wI_o (by omega), wI_k (by decide), j1]
      have k2 : J2 2 2 = nI 2 := by rw [← hJ2, wI_o (by omega), wI_self]
      have kD : ∀ k, J2 D k = I D k := fun k => by rw [← hJ2, wI_o (by omega), wI_o (by omega), jD]
      have o3 : OffD J2 (wI (wI J2 2 2 (nI 3)) (D + 5) (co 0 3) (fgv (tx (p + 3)))) D := (OffD.w (Or.inl rfl)).tr (OffD.w (Or.inr (by omega)))
      have oo2 := o1.tr o2
      rcases x_Tk (Z := Z) (L := L) (R := R) (D := D) (b := fin tx n (p + 3) 0 10) (J := wI (wI J2 2 2 (nI 3)) (D + 5) (co 0 3) (fgv (tx (p + 3)))) hc (hT.off hc oo2) (show p + 3 ≤ n by omega) (show 2 < 3 by decide) k1 k2 (fun _ _ => true) (fun a b => fin_45 a b) (fun a => fin_o a) (fun a b => by
          rw [fin_n a]
          exact x_T3 hF hc h20 (by rw [kD, hC.th]) k1 k2 h6 (hT.1.2 _ a) b) o3 with ⟨hf3, hn3, e3⟩ | ⟨hf3, K, oK, eK⟩
      · rw [if_pos hf3]
        have q3 := of_decide_eq_true hf3
        generalize hJ3 : wI (wI J2 2 2 (nI 3)) (D + 5) (co 0 3) (fgv (tx (p + 3))) = J3 at e3 o3
        have l1 : J3 2 1 = nI 84 := by rw [← hJ3, wI_o (by omega), wI_k (by decide), k1]
        have l2 : J3 2 2 = nI 3 := by rw [← hJ3, wI_o (by omega), wI_self]
        have lD : ∀ k, J3 D k = I D k := fun k => by rw [← hJ3, wI_o (by omega), wI_o (by omega), kD]
        have oo3 := oo2.tr o3
        have hT3 := hT.off hc oo3
        have fin8 : ∀ w o, w = nN o → XC (wI (wI (wI (wI (wI J3 2 2 (nI 4)) (D + 6) (co 0 3) w) (D + 7) (co 0 3) (iI (-9))) D 8 (nI (co 0 3 + 1))) 2 1 (nI 1)) D (addT co (tx (p + 1) - 48) (tx (p + 2) - 48) (tx (p + 3) - 48) o) := by
          intro w o hw
          have g1 : J1 (D + 3) (co 0 3) = nI (tx (p + 1) - 48) := by rw [← hJ1, wI_self, fgv_t (by omega)]
          have g2 : J2 (D + 4) (co 0 3) = nI (tx (p + 2) - 48) := by rw [← hJ2, wI_self, fgv_t (by omega)]
          have g3 : J3 (D + 5) (co 0 3) = nI (tx (p + 3) - 48) := by rw [← hJ3, wI_self, fgv_t (by omega)]
          have a1 : ∀ x t, 3 ≤ x → x ≤ 7 → t < co 0 3 → J1 (D + x) t = I (D + x) t := fun x t hx hx2 ht => by
            rw [← hJ1, wI_app]
            split
            · rw [if_neg (by omega), wI_o (by omega)]
            · rw [wI_o (by omega)]
          have a2 : ∀ x t, 3 ≤ x → x ≤ 7 → t < co 0 3 → J2 (D + x) t = I (D + x) t := fun x t hx hx2 ht => by
            rw [← hJ2, wI_app, ← a1 x t hx hx2 ht]
            split
            · rw [if_neg (by omega), wI_o (by omega)]
            · rw [wI_o (by omega)]
          have a3 : ∀ x t, 3 ≤ x → x ≤ 7 → t < co 0 3 → J3 (D + x) t = I (D + x) t := fun x t hx hx2 ht => by
            rw [← hJ3, wI_app, ← a2 x t hx hx2 ht]
            split
            · rw [if_neg (by omega), wI_o (by omega)]
            · rw [wI_o (by omega)]
          have b : ∀ x, x = 1 ∨ x = 2 → J3 (D + x) = I (D + x) := fun x hx => by
            funext j
            rw [← hJ3, wI_o (by omega), wI_o (by omega), ← hJ2, wI_o (by omega), wI_o (by omega), ← hJ1, wI_o (by omega), wI_o (by omega)]
          refine XC_addT hC (fun k hk hk2 => ?_) ?_ (fun x t hx hx2 ht => ?_) ?_ ?_ ?_ ?_ ?_ ⟨?_, ?_⟩
          · rw [wI_o (by omega), wI_k hk, wI_o (by omega), wI_o (by omega), wI_o (by omega), lD]
          · rw [wI_o (by omega), wI_self]
          · rw [wI_o (by omega), wI_o (by omega), wI_app]
            split
            · rw [if_neg (by omega), wI_o (by omega), wI_o (by omega), a3 x t hx hx2 ht]
            · rw [wI_app]
              split
              · rw [if_neg (by omega), wI_o (by omega), a3 x t hx hx2 ht]
              · rw [wI_o (by omega), a3 x t hx hx2 ht]
          · rw [wI_o (by omega), wI_o (by omega), wI_o (by omega), wI_o (by omega), wI_o (by omega), ← hJ3, wI_o (by omega), wI_o (by omega), ← hJ2, wI_o (by omega), wI_o (by omega), g1]
          · rw [wI_o (by omega), wI_o (by omega), wI_o (by omega), wI_o (by omega), wI_o (by omega), ← hJ3, wI_o (by omega), wI_o (by omega), g2]
          · rw [wI_o (by omega), wI_o (by omega), wI_o (by omega), wI_o (by omega), wI_o (by omega), g3]
          · rw [wI_o (by omega), wI_o (by omega), wI_o (by omega), wI_self, hw]
          · rw [wI_o (by omega), wI_o (by omega), wI_self]
          · rw [← b 1 (by omega)]
            funext j
            rw [wI_o (by omega), wI_o (by omega), wI_o (by omega), wI_o (by omega), wI_o (by omega)]
          · rw [← b 2 (by omega)]
            funext j
            rw [wI_o (by omega), wI_o (by omega), wI_o (by omega), wI_o (by omega), wI_o (by omega)]
        have o4 : ∀ w, OffD I (wI (wI (wI (wI (wI J3 2 2 (nI 4)) (D + 6) (co 0 3) w) (D + 7) (co 0 3) (iI (-9))) D 8 (nI (co 0 3 + 1))) 2 1 (nI 1)) D := fun w => oo3.tr ((OffD.w (Or.inl rfl)).tr ((OffD.w (Or.inr (by omega))).tr ((OffD.w (Or.inr (by omega))).tr ((OffD.w (Or.inr (by omega))).tr (OffD.w (Or.inl rfl))))))
        have ee := e1.trans (e2.trans e3)
        by_cases hn4 : p + 4 < n
        · by_cases h45 : tx (p + 4) = 45
          · rw [if_pos ⟨hn4, h45⟩]
            have e0 := x_T4m (Z := Z) (L := L) hF hc h20 (by rw [lD, hC.th]) l1 l2 h6
            rw [← h45] at e0
            have e4 := kx_s (D := D) hT3 hn4 e0
            rw [if_pos rfl] at e4
            exact xrS_t (o4 _) (ee.trans e4) (wI_self _ _ _ _) (fin8 _ 0 rfl)
          · rw [if_neg (fun w => h45 w.2)]
            have e4 := kx_s (D := D) hT3 hn4 (x_T4 (Z := Z) (L := L) hF hc h20 (by rw [lD, hC.th]) (by rw [lD, hC.hs]) h4 l1 l2 h6 (hT.1.2 _ hn4) h45)
            rw [fin_n hn4]
            by_cases q4 : 48 + 0 ≤ tx (p + 4) ∧ tx (p + 4) < 48 + co 0 2
            · rw [decide_eq_true q4, if_pos rfl, if_pos q4] at e4
              rw [decide_eq_true q4, if_pos rfl]
              exact xrS_t (o4 _) (ee.trans e4) (wI_self _ _ _ _) (fin8 _ (tx (p + 4) - 48 + 1) (fgv_t (by omega)))
            · rw [decide_eq_false q4, if_neg (by decide), if_neg q4] at e4
              rw [decide_eq_false q4, if_neg (by decide)]
              exact xrS_f (oo3.tr (OffD.w (Or.inl rfl))) (ee.trans e4)
        · rw [if_neg (fun w => hn4 w.1), if_neg (show ¬ fin tx n (p + 4) 0 (co 0 2) = true by rw [fin_o hn4]; decide)]
          have en : p + 4 = n := by omega
          refine xrS_f oo3 (ee.trans ?_)
          rw [show p + 3 + 1 = n from en]
          exact kx_e (by rw [l1]; decide)
      · rw [if_neg (show ¬ fin tx n (p + 3) 0 10 = true by rw [hf3]; decide)]
        exact xrS_f (oo2.tr oK) (e1.trans (e2.trans eK))
    · rw [if_neg (show ¬ fin tx n (p + 2) 1 4 = true by rw [hf2]; decide)]
      exact xrS_f (o1.tr oK) (e1.trans eK)
  · rw [if_neg (show ¬ fin tx n (p + 1) 0 (co 0 1 + 1) = true by rw [hf]; decide)]
    exact xrS_f oK eK
end XPART2
