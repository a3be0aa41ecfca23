/-! the class reads what lies in what, debts, the text -/
theorem XC_addD {J K : ab_I} {D : Nat} {co : Co} {i : Nat} (h : XC J D co) (k0 : ∀ k, 7 ≤ k ∧ k ≤ 10 → K D k = J D k) (k1 : K D 11 = nI (co 0 4 ||| 2 ^ i)) (r : ∀ o, 1 ≤ o → o ≤ 7 → K (D + o) = J (D + o)) : XC K D (addD co i) := by
  have e0 : ∀ k, k ≠ 4 → addD co i 0 k = co 0 k := fun k hk => by simp [addD, hk]
  have e3 : ∀ a k, 1 ≤ a → addD co i a k = co a k := fun a k ha => by simp [addD, show a ≠ 0 by omega]
  unfold XC
  rw [e0 0 (by decide), e0 1 (by decide), e0 2 (by decide), e0 3 (by decide), r 1 (by decide) (by decide), r 2 (by decide) (by decide), r 3 (by decide) (by decide), r 4 (by decide) (by decide), r 5 (by decide) (by decide), r 6 (by decide) (by decide), r 7 (by decide) (by decide)]
  refine ⟨(k0 7 (by decide)).trans h.hs, (k0 8 (by decide)).trans h.th, (k0 9 (by decide)).trans h.lw, (k0 10 (by decide)).trans h.la, k1, ?_⟩
  simp only [e3 1 _ (by decide), e3 2 _ (by decide), e3 3 _ (by decide), e3 4 _ (by decide), e3 5 _ (by decide), e3 6 _ (by decide), e3 7 _ (by decide)]
  exact h.2.2.2.2.2
theorem XC_setI {J K : ab_I} {D : Nat} {co : Co} {i j : Nat} (h : XC J D co) (k0 : ∀ k, 7 ≤ k ∧ k ≤ 11 → K D k = J D k) (r : ∀ o, 1 ≤ o → o ≤ 6 → K (D + o) = J (D + o)) (a : ∀ t, t ≠ i → K (D + 7) t = J (D + 7) t) (b : K (D + 7) i = nI j) : XC K D (setI co i j) := by
  have e0 : ∀ a k, a ≠ 7 → setI co i j a k = co a k := fun a k ha => by simp [setI, ha]
  unfold XC
  rw [e0 0 0 (by decide), e0 0 1 (by decide), e0 0 2 (by decide), e0 0 3 (by decide), e0 0 4 (by decide), r 1 (by decide) (by decide), r 2 (by decide) (by decide), r 3 (by decide) (by decide), r 4 (by decide) (by decide), r 5 (by decide) (by decide), r 6 (by decide) (by decide)]
  simp only [e0 1 _ (by decide), e0 2 _ (by decide), e0 3 _ (by decide), e0 4 _ (by decide), e0 5 _ (by decide), e0 6 _ (by decide)]
  refine ⟨(k0 7 (by decide)).trans h.hs, (k0 8 (by decide)).trans h.th, (k0 9 (by decide)).trans h.lw, (k0 10 (by decide)).trans h.la, (k0 11 (by decide)).trans h.db, h.2.2.2.2.2.1, h.2.2.2.2.2.2.1, h.2.2.2.2.2.2.2.1, h.2.2.2.2.2.2.2.2.1, h.2.2.2.2.2.2.2.2.2.1, h.2.2.2.2.2.2.2.2.2.2.1, fun t ht => ?_⟩
  by_cases e : t = i
  · subst e
    rw [b]
    simp [setI, nN]
  · rw [a t e, h.a7 ht]
    simp [setI, e]
section XTEXT
variable {Z D n p : Nat} {co : Co} {tx : Nat → Nat} {I : ab_I} {R : ab_R} {L : ab_L}
theorem x_I1 (hF : Fx R) (hc : IsC D) (h20 : R 2 0 = D + 1) (hC : XC I D co) (hW : WP co) (h1 : I 2 1 = nI 73) (h2 : I 2 2 = nI 0) {t : Nat} (ht : t ≤ 255) : cl Z 41 [.ref 2, .int (nI t)] I R L = some (some (.int (nI (decide (48 + 0 ≤ t ∧ t < 48 + 10) && (mlb co).testBit (t - 48)).toNat)), wI (wI I 2 2 (nI 1)) 2 3 (fgv t), R, L) := by
  have h6 := hW.2.1
  have hC2 : XC (wI (wI I 2 2 (nI 1)) 2 3 (fgv t)) D co := (hC.w2 hc).w2 hc
  have hb : (mlb co).testBit (t - 48) = (decide (t - 48 < co 0 3) && decide (mls co (t - 48) ≠ 0)) := by
    unfold mlb
    rw [mk_bit]
  have hm : cl Z 7 [.ref D, .int (fgv t)] (wI (wI I 2 2 (nI 1)) 2 3 (fgv t)) R L = some (some (.int (nI (decide (48 + 0 ≤ t ∧ t < 48 + 10) && (mlb co).testBit (t - 48)).toNat)), wI (wI I 2 2 (nI 1)) 2 3 (fgv t), R, L) := by
    rw [hb]
    by_cases q : 48 ≤ t ∧ t ≤ 57 ∧ t - 48 < co 0 3
    · have e := s_mayLie (Z := Z) (L := L) hF hc hC2 hW q.2.2
      have ef : fgv t = nI (t - 48) := fgv_t (by omega)
      rw [← ef] at e
      rw [e, decide_eq_true (show 48 + 0 ≤ t ∧ t < 48 + 10 by omega), decide_eq_true q.2.2, Bool.true_and, Bool.true_and]
    · have e := s_mayLie0 (Z := Z) (L := L) hF hc hC2 hW (x := fgv t) (by rw [fgE]; exact decide_eq_false q)
      rw [e]
      by_cases q2 : 48 + 0 ≤ t ∧ t < 48 + 10
      · rw [decide_eq_false (show ¬ t - 48 < co 0 3 by omega), Bool.false_and, Bool.and_false]
        rfl
      · rw [decide_eq_false q2, Bool.false_and]
        rfl
  rw [x_takes0 ht]
  simp only [e41_0, e41_1, e41_3, e41_6, e41_7, e41_9, e41_12, e41_13, e41_15, e41_16, e41_19, e41_20, e41_21, e41_22, e41_23, e41_26, e41_27, e41_28, e41_31, e41_32, e41_35, e41_92, e41_93, e41_94, e41_95, e41_97, e41_100, e41_101, e41_104, e41_105, e41_108, e41_109, e41_110, e41_111, e41_112, e41_113, e41_116, e41_119, e41_120, e41_121, e41_122, e41_125, e41_126, e41_127, e41_128, e41_131, e41_132, e41_133, e41_135, e41_138, e41_139, e41_142, e41_145, e41_146, e41_147, e41_150, e41_151, e41_152, e41_153, e41_156, e41_157, e41_158, e41_159, e41_162, e50_0, e50_1, e50_4, e50_5, e50_8, e50_9, e50_10, e50_13, e50_14, e50_17, e50_18, e50_21, e50_22, e50_23, e50_26, e50_27, e50_30, e50_31, e50_34, e50_37, e50_38, e50_39, e50_40, e50_43, e50_46, e50_47, e50_50, e50_51, e50_52, e50_53, e50_56, n50, bI_s, bL_s, bV_s, rv_s1, nl_i, nl_a, nl_n, w8_0, w8_i, w8_a, w8_l, ct_i, ct_a, b01_0, b01_1, b01_b, kd_2, kdC hc, h20, h2, nI_add, Nat.reduceAdd, wI_app, Nat.reduceEqDiff, if_true, if_false, h1, pn_0_1, pn_0_72, pn_0_73, pn_0_84, pn_0_87, pn_1_0, pn_1_72, pn_1_73, pn_1_84, pn_1_87, pn_68_0, pn_68_1, pn_68_72, pn_68_73, pn_68_84, pn_68_87, pn_72_0, pn_72_1, pn_72_73, pn_72_84, pn_72_87, pn_73_0, pn_73_1, pn_73_72, pn_73_84, pn_73_87, pn_84_0, pn_84_1, pn_84_72, pn_84_73, pn_84_87, pn_87_0, pn_87_1, pn_87_72, pn_87_73, pn_87_84, pn_2_1, pn_3_1, pn_3_2, pn_4_1, pn_4_2, pn_4_3, pn_2_4, pn_3_4, pn_1_4, hm]
theorem x_I2 (hF : Fx R) (hc : IsC D) (h20 : R 2 0 = D + 1) (hC : XC I D co) (hW : WP co) (h1 : I 2 1 = nI 73) (h2 : I 2 2 = nI 1) {i : Nat} (h3 : I 2 3 = nI i) (hi : i < co 0 3) {t : Nat} (ht : t ≤ 255) : cl Z 41 [.ref 2, .int (nI t)] I R L = some (some (.int (nI (decide (48 + 0 ≤ t ∧ t < 48 + 10) && (mls co i).testBit (t - 48)).toNat)), if (decide (48 + 0 ≤ t ∧ t < 48 + 10) && (mls co i).testBit (t - 48)) = true then wI (wI (wI I 2 2 (nI 2)) (D + 7) i (fgv t)) 2 1 (nI 1) else wI I 2 2 (nI 2), R, L) := by
  have h6 := hW.2.1
  have hC2 : XC (wI I 2 2 (nI 2)) D co := hC.w2 hc
  have hm : cl Z 3 [.ref D, .int (nI i), .int (fgv t)] (wI I 2 2 (nI 2)) R L = some (some (.int (nI (decide (48 + 0 ≤ t ∧ t < 48 + 10) && (mls co i).testBit (t - 48)).toNat)), wI I 2 2 (nI 2), R, L) := by
    rw [mls_bit]
    by_cases q : 48 ≤ t ∧ t ≤ 57 ∧ t - 48 < co 0 3
    · have e := s_mayLieIn (Z := Z) (L := L) hF hc hC2 hW hi q.2.2
      have ef : fgv t = nI (t - 48) := fgv_t (by omega)
      rw [← ef] at e
      rw [e, decide_eq_true (show 48 + 0 ≤ t ∧ t < 48 + 10 by omega), Bool.true_and]
    · have e := s_mayLieIn0 (Z := Z) (R := R) (L := L) hc hC2 hW.wf (nI i) (fgv t) (Or.inr (by rw [fgE]; exact decide_eq_false q))
      rw [e]
      by_cases q2 : 48 + 0 ≤ t ∧ t < 48 + 10
      · have ez : mlf co i (t - 48) = false := by
          unfold mlf
          rw [decide_eq_false (fun w => q ⟨by omega, by omega, w.2.1⟩), Bool.false_and]
        rw [ez, Bool.and_false]
        rfl
      · rw [decide_eq_false q2, Bool.false_and]
        rfl
  rw [x_takes0 ht]
  simp only [e41_0, e41_1, e41_3, e41_6, e41_7, e41_9, e41_12, e41_13, e41_15, e41_16, e41_19, e41_20, e41_21, e41_22, e41_23, e41_26, e41_27, e41_28, e41_31, e41_32, e41_35, e41_92, e41_93, e41_94, e41_95, e41_97, e41_100, e41_101, e41_104, e41_105, e41_108, e41_109, e41_110, e41_111, e41_112, e41_113, e41_116, e41_119, e41_120, e41_121, e41_122, e41_125, e41_126, e41_127, e41_128, e41_131, e41_132, e41_133, e41_135, e41_138, e41_139, e41_142, e41_145, e41_146, e41_147, e41_150, e41_151, e41_152, e41_153, e41_156, e41_157, e41_158, e41_159, e41_162, e50_0, e50_1, e50_4, e50_5, e50_8, e50_9, e50_10, e50_13, e50_14, e50_17, e50_18, e50_21, e50_22, e50_23, e50_26, e50_27, e50_30, e50_31, e50_34, e50_37, e50_38, e50_39, e50_40, e50_43, e50_46, e50_47, e50_50, e50_51, e50_52, e50_53, e50_56, n50, e45_0, e45_1, e45_2, e45_5, e45_6, n45, bI_s, bL_s, bV_s, rv_s1, nl_i, nl_a, nl_n, w8_0, w8_i, w8_a, w8_l, ct_i, ct_a, b01_0, b01_1, b01_b, kdC hc, hF.c0 hc, hF.c1 hc, hF.c2 hc, hF.c3 hc, hF.c4 hc, hF.c5 hc, hF.c6 hc, alC1 hc, ltC1 hc, alC2 hc, ltC2 hc, alC3 hc, ltC3 hc, alC4 hc, ltC4 hc, alC5 hc, ltC5 hc, alC6 hc, ltC6 hc, alC7 hc, ltC7 hc, kd_2, h20, h2, h3, nI_add, Nat.reduceAdd, wI_app, Nat.reduceEqDiff, if_true, if_false, h1, pn_0_1, pn_0_72, pn_0_73, pn_0_84, pn_0_87, pn_1_0, pn_1_72, pn_1_73, pn_1_84, pn_1_87, pn_68_0, pn_68_1, pn_68_72, pn_68_73, pn_68_84, pn_68_87, pn_72_0, pn_72_1, pn_72_73, pn_72_84, pn_72_87, pn_73_0, pn_73_1, pn_73_72, pn_73_84, pn_73_87, pn_84_0, pn_84_1, pn_84_72, pn_84_73, pn_84_87, pn_87_0, pn_87_1, pn_87_72, pn_87_73, pn_87_84, pn_2_1, pn_3_1, pn_3_2, pn_4_1, pn_4_2, pn_4_3, pn_2_4, pn_3_4, pn_1_4, hm, nI_b, ab_ixN (show i < 6 by omega) (show 6 < 2 ^ 31 by decide), nI_clamp (show i < 2 ^ 31 by omega)]
  cases hb : (decide (48 + 0 ≤ t ∧ t < 48 + 10) && (mls co i).testBit (t - 48)) with
  | true =>
    rw [if_neg (by decide), if_pos rfl]
    simp only [bI_s, bL_s, bV_s, rv_s1, nl_i, nl_a, nl_n, w8_0, w8_i, w8_a, w8_l, ct_i, ct_a, b01_0, b01_1, b01_b, e41_0, e41_1, e41_3, e41_6, e41_7, e41_9, e41_12, e41_13, e41_15, e41_16, e41_19, e41_20, e41_21, e41_22, e41_23, e41_26, e41_27, e41_28, e41_31, e41_32, e41_35, e41_92, e41_93, e41_94, e41_95, e41_97, e41_100, e41_101, e41_104, e41_105, e41_108, e41_109, e41_110, e41_111, e41_112, e41_113, e41_116, e41_119, e41_120, e41_121, e41_122, e41_125, e41_126, e41_127, e41_128, e41_131, e41_132, e41_133, e41_135, e41_138, e41_139, e41_142, e41_145, e41_146, e41_147, e41_150, e41_151, e41_152, e41_153, e41_156, e41_157, e41_158, e41_159, e41_162, Bool.toNat_true, Bool.toNat_false]
  | false =>
    rw [if_pos rfl, if_neg (by decide)]
    simp only [bI_s, bL_s, bV_s, rv_s1, nl_i, nl_a, nl_n, w8_0, w8_i, w8_a, w8_l, ct_i, ct_a, b01_0, b01_1, b01_b, e41_0, e41_1, e41_3, e41_6, e41_7, e41_9, e41_12, e41_13, e41_15, e41_16, e41_19, e41_20, e41_21, e41_22, e41_23, e41_26, e41_27, e41_28, e41_31, e41_32, e41_35, e41_92, e41_93, e41_94, e41_95, e41_97, e41_100, e41_101, e41_104, e41_105, e41_108, e41_109, e41_110, e41_111, e41_112, e41_113, e41_116, e41_119, e41_120, e41_121, e41_122, e41_125, e41_126, e41_127, e41_128, e41_131, e41_132, e41_133, e41_135, e41_138, e41_139, e41_142, e41_145, e41_146, e41_147, e41_150, e41_151, e41_152, e41_153, e41_156, e41_157, e41_158, e41_159, e41_162, Bool.toNat_true, Bool.toNat_false]
theorem x_D1 (hF : Fx R) (hc : IsC D) (h20 : R 2 0 = D + 1) (hC : XC I D co) (hW : WP co) (h1 : I 2 1 = nI 68) (h2 : I 2 2 = nI 0) {t : Nat} (ht : t ≤ 255) : cl Z 41 [.ref 2, .int (nI t)] I R L = some (some (.int (nI (decide (48 + 0 ≤ t ∧ t < 48 + 10) && (decide (t - 48 < co 0 2) && !(co 0 4).testBit (t - 48))).toNat)), if (decide (48 + 0 ≤ t ∧ t < 48 + 10) && (decide (t - 48 < co 0 2) && !(co 0 4).testBit (t - 48))) = true then wI (wI (wI I 2 2 (nI 1)) D 11 (nI (co 0 4 ||| 2 ^ (t - 48)))) 2 1 (nI 1) else wI I 2 2 (nI 1), R, L) := by
  have h4 := hW.1
  have hdb := hW.2.2.2.2.1
  have hH : 2 ^ co 0 2 ≤ 2 ^ 4 := Nat.pow_le_pow_right (by decide) h4
  have hd : (D = 2) = False := eq_false (by unfold IsC at hc; omega)
  have h7 := hC.hs
  have h11 := hC.db
  rw [x_takes0 ht]
  simp only [e41_0, e41_1, e41_3, e41_6, e41_7, e41_9, e41_12, e41_13, e41_15, e41_16, e41_19, e41_20, e41_21, e41_22, e41_23, e41_26, e41_27, e41_28, e41_31, e41_32, e41_35, e41_92, e41_93, e41_94, e41_95, e41_97, e41_100, e41_101, e41_104, e41_105, e41_108, e41_109, e41_110, e41_111, e41_112, e41_113, e41_116, e41_119, e41_120, e41_121, e41_122, e41_125, e41_126, e41_127, e41_128, e41_131, e41_132, e41_133, e41_135, e41_138, e41_139, e41_142, e41_145, e41_146, e41_147, e41_150, e41_151, e41_152, e41_153, e41_156, e41_157, e41_158, e41_159, e41_162, e51_0, e51_1, e51_4, e51_5, e51_8, e51_11, e51_12, e51_15, e51_18, e51_19, e51_22, e51_23, e51_26, e51_27, e51_28, e51_29, e51_32, e51_33, e51_36, e51_37, e51_38, e51_39, e51_40, e51_43, e51_44, e51_47, n51, e6_0, e6_1, e6_4, e6_5, e6_6, e6_9, e6_12, e6_13, e6_16, e6_17, n6, e45_0, e45_1, e45_2, e45_5, e45_6, n45, bI_s, bL_s, bV_s, rv_s1, nl_i, nl_a, nl_n, w8_0, w8_i, w8_a, w8_l, ct_i, ct_a, b01_0, b01_1, b01_b, kdC hc, hF.c0 hc, hF.c1 hc, hF.c2 hc, hF.c3 hc, hF.c4 hc, hF.c5 hc, hF.c6 hc, alC1 hc, ltC1 hc, alC2 hc, ltC2 hc, alC3 hc, ltC3 hc, alC4 hc, ltC4 hc, alC5 hc, ltC5 hc, alC6 hc, ltC6 hc, alC7 hc, ltC7 hc, kd_2, h20, h2, nI_add, Nat.reduceAdd, wI_app, hd, Nat.reduceEqDiff, if_true, if_false, h1, pn_0_1, pn_0_72, pn_0_73, pn_0_84, pn_0_87, pn_1_0, pn_1_72, pn_1_73, pn_1_84, pn_1_87, pn_68_0, pn_68_1, pn_68_72, pn_68_73, pn_68_84, pn_68_87, pn_72_0, pn_72_1, pn_72_73, pn_72_84, pn_72_87, pn_73_0, pn_73_1, pn_73_72, pn_73_84, pn_73_87, pn_84_0, pn_84_1, pn_84_72, pn_84_73, pn_84_87, pn_87_0, pn_87_1, pn_87_72, pn_87_73, pn_87_84, pn_2_1, pn_3_1, pn_3_2, pn_4_1, pn_4_2, pn_4_3, pn_2_4, pn_3_4, pn_1_4, h7, fgA, fgF (show co 0 2 ≤ 9 by omega)]
  by_cases q1 : 48 ≤ t ∧ t ≤ 57
  · by_cases q2 : 48 + co 0 2 ≤ t
    · rw [if_neg (fun w => w q1), if_pos ⟨q2, q1.2⟩, decide_eq_false (show ¬ t - 48 < co 0 2 by omega), Bool.false_and, Bool.and_false, if_neg (by decide)]
      simp only [bI_s, bL_s, bV_s, rv_s1, nl_i, nl_a, nl_n, w8_0, w8_i, w8_a, w8_l, ct_i, ct_a, b01_0, b01_1, b01_b, e41_0, e41_1, e41_3, e41_6, e41_7, e41_9, e41_12, e41_13, e41_15, e41_16, e41_19, e41_20, e41_21, e41_22, e41_23, e41_26, e41_27, e41_28, e41_31, e41_32, e41_35, e41_92, e41_93, e41_94, e41_95, e41_97, e41_100, e41_101, e41_104, e41_105, e41_108, e41_109, e41_110, e41_111, e41_112, e41_113, e41_116, e41_119, e41_120, e41_121, e41_122, e41_125, e41_126, e41_127, e41_128, e41_131, e41_132, e41_133, e41_135, e41_138, e41_139, e41_142, e41_145, e41_146, e41_147, e41_150, e41_151, e41_152, e41_153, e41_156, e41_157, e41_158, e41_159, e41_162, e51_0, e51_1, e51_4, e51_5, e51_8, e51_11, e51_12, e51_15, e51_18, e51_19, e51_22, e51_23, e51_26, e51_27, e51_28, e51_29, e51_32, e51_33, e51_36, e51_37, e51_38, e51_39, e51_40, e51_43, e51_44, e51_47, Bool.toNat_true, Bool.toNat_false, if_true]
    · rw [if_neg (fun w => w q1), if_neg (fun w => q2 w.1), decide_eq_true (show t - 48 < co 0 2 by omega), decide_eq_true (show 48 + 0 ≤ t ∧ t < 48 + 10 by omega), Bool.true_and, Bool.true_and, fgv_t q1]
      simp only [bI_s, bL_s, bV_s, rv_s1, nl_i, nl_a, nl_n, w8_0, w8_i, w8_a, w8_l, ct_i, ct_a, b01_0, b01_1, b01_b, e41_0, e41_1, e41_3, e41_6, e41_7, e41_9, e41_12, e41_13, e41_15, e41_16, e41_19, e41_20, e41_21, e41_22, e41_23, e41_26, e41_27, e41_28, e41_31, e41_32, e41_35, e41_92, e41_93, e41_94, e41_95, e41_97, e41_100, e41_101, e41_104, e41_105, e41_108, e41_109, e41_110, e41_111, e41_112, e41_113, e41_116, e41_119, e41_120, e41_121, e41_122, e41_125, e41_126, e41_127, e41_128, e41_131, e41_132, e41_133, e41_135, e41_138, e41_139, e41_142, e41_145, e41_146, e41_147, e41_150, e41_151, e41_152, e41_153, e41_156, e41_157, e41_158, e41_159, e41_162, e51_0, e51_1, e51_4, e51_5, e51_8, e51_11, e51_12, e51_15, e51_18, e51_19, e51_22, e51_23, e51_26, e51_27, e51_28, e51_29, e51_32, e51_33, e51_36, e51_37, e51_38, e51_39, e51_40, e51_43, e51_44, e51_47, e45_0, e45_1, e45_2, e45_5, e45_6, n45, kdC hc, hF.c0 hc, hF.c1 hc, hF.c2 hc, hF.c3 hc, hF.c4 hc, hF.c5 hc, hF.c6 hc, alC1 hc, ltC1 hc, alC2 hc, ltC2 hc, alC3 hc, ltC3 hc, alC4 hc, ltC4 hc, alC5 hc, ltC5 hc, alC6 hc, ltC6 hc, alC7 hc, ltC7 hc, kd_2, h20, nI10, if_false, wI_app, hd, h11, s_bit (show co 0 4 < 2 ^ 31 by omega) (show t - 48 < 31 by omega), nI_bt, nI_1shl (show t - 48 < 31 by omega), nx_or']
      cases (co 0 4).testBit (t - 48) <;> simp [e41_162, bI_s, b01_0, b01_1]
  · rw [if_pos q1, decide_eq_false (show ¬ (48 + 0 ≤ t ∧ t < 48 + 10) by omega), Bool.false_and, if_neg (by decide)]
    simp only [bI_s, bL_s, bV_s, rv_s1, nl_i, nl_a, nl_n, w8_0, w8_i, w8_a, w8_l, ct_i, ct_a, b01_0, b01_1, b01_b, e41_0, e41_1, e41_3, e41_6, e41_7, e41_9, e41_12, e41_13, e41_15, e41_16, e41_19, e41_20, e41_21, e41_22, e41_23, e41_26, e41_27, e41_28, e41_31, e41_32, e41_35, e41_92, e41_93, e41_94, e41_95, e41_97, e41_100, e41_101, e41_104, e41_105, e41_108, e41_109, e41_110, e41_111, e41_112, e41_113, e41_116, e41_119, e41_120, e41_121, e41_122, e41_125, e41_126, e41_127, e41_128, e41_131, e41_132, e41_133, e41_135, e41_138, e41_139, e41_142, e41_145, e41_146, e41_147, e41_150, e41_151, e41_152, e41_153, e41_156, e41_157, e41_158, e41_159, e41_162, e51_0, e51_1, e51_4, e51_5, e51_8, e51_11, e51_12, e51_15, e51_18, e51_19, e51_22, e51_23, e51_26, e51_27, e51_28, e51_29, e51_32, e51_33, e51_36, e51_37, e51_38, e51_39, e51_40, e51_43, e51_44, e51_47, Bool.toNat_true, Bool.toNat_false, if_true]
theorem x_rpI (hF : Fx R) (hc : IsC D) (h20 : R 2 0 = D + 1) (hC : XC I D co) (hW : WP co) (hT : TXx I tx n) (h1 : I 2 1 = nI 73) (h2 : I 2 2 = nI 0) (hp : p < n) : xrS Z n D I R L (p + 1) (if fin tx n (p + 1) 0 10 = true ∧ (mlb co).testBit (tx (p + 1) - 48) = true then
      (if fin tx n (p + 2) 0 10 = true ∧ (mls co (tx (p + 1) - 48)).testBit (tx (p + 2) - 48) = true then (true, p + 3, setI co (tx (p + 1) - 48) (tx (p + 2) - 48)) else (false, p + 2, co))
      else (false, p + 1, co)) := by
  have hcc := hc
  unfold IsC at hcc
  by_cases hn1 : p + 1 < n
  · have e1 := kx_s (D := D) hT hn1 (x_I1 (Z := Z) (L := L) hF hc h20 hC hW h1 h2 (hT.1.2 _ hn1))
    rw [← fin_n hn1] at e1
    have o1 : OffD I (wI (wI I 2 2 (nI 1)) 2 3 (fgv (tx (p + 1)))) D := (OffD.w (Or.inl rfl)).tr (OffD.w (Or.inl rfl))
    by_cases hf : fin tx n (p + 1) 0 10 = true ∧ (mlb co).testBit (tx (p + 1) - 48) = true
    · rw [if_pos ((Bool.and_eq_true _ _).mpr hf)] at e1
      rw [if_pos hf]
      have q1 := of_decide_eq_true hf.1
      have hi : tx (p + 1) - 48 < co 0 3 := by
        have := hf.2
        unfold mlb at this
        rw [mk_bit, Bool.and_eq_true] at this
        exact of_decide_eq_true this.1
      generalize hJ1 : wI (wI I 2 2 (nI 1)) 2 3 (fgv (tx (p + 1))) = J1 at e1 o1
      have hC1 : XC J1 D co := by
        rw [← hJ1]
        exact (hC.w2 hc).w2 hc
      have j1 : J1 2 1 = nI 73 := by rw [← hJ1, wI_k (by decide), wI_k (by decide), h1]
      have j2 : J1 2 2 = nI 1 := by rw [← hJ1, wI_k (by decide), wI_self]
      have j3 : J1 2 3 = nI (tx (p + 1) - 48) := by rw [← hJ1, wI_self, fgv_t (by omega)]
      have hT1 := hT.off hc o1
      by_cases hn2 : p + 2 < n
      · have e2 := kx_s (D := D) hT1 hn2 (x_I2 (Z := Z) (L := L) hF hc h20 hC1 hW j1 j2 j3 hi (hT.1.2 _ hn2))
        rw [← fin_n hn2] at e2
        by_cases hf2 : fin tx n (p + 2) 0 10 = true ∧ (mls co (tx (p + 1) - 48)).testBit (tx (p + 2) - 48) = true
        · have q2 := of_decide_eq_true hf2.1
          rw [if_pos ((Bool.and_eq_true _ _).mpr hf2), if_pos ((Bool.and_eq_true _ _).mpr hf2)] at e2
          rw [if_pos hf2]
          refine xrS_t (o1.tr ((OffD.w (Or.inl rfl)).tr ((OffD.w (Or.inr (by omega))).tr (OffD.w (Or.inl rfl))))) (e1.trans e2) (wI_self _ _ _ _) (XC_setI hC1 (fun k hk => ?_) (fun x a b => ?_) (fun t ht => ?_) ?_)
          · rw [wI_o (by omega), wI_o (by omega), wI_o (by omega)]
          · funext j
            rw [wI_o (by omega), wI_o (by omega), wI_o (by omega)]
          · rw [wI_o (by omega), wI_k ht, wI_o (by omega)]
          · rw [wI_o (by omega), wI_self, fgv_t (by omega)]
        · have hf3 : ¬ (fin tx n (p + 2) 0 10 && (mls co (tx (p + 1) - 48)).testBit (tx (p + 2) - 48)) = true := fun w => hf2 ((Bool.and_eq_true _ _).mp w)
          rw [if_neg hf3, if_neg hf3] at e2
          rw [if_neg hf2]
          exact xrS_f (o1.tr (OffD.w (Or.inl rfl))) (e1.trans e2)
      · rw [if_neg (fun w => by rw [fin_o hn2] at w; exact Bool.false_ne_true w.1)]
        have en : p + 2 = n := by omega
        refine xrS_f o1 (e1.trans ?_)
        rw [show p + 1 + 1 = n from en]
        exact kx_e (by rw [j1]; decide)
    · rw [if_neg (fun w => hf ((Bool.and_eq_true _ _).mp w))] at e1
      rw [if_neg hf]
      exact xrS_f o1 e1
  · rw [if_neg (fun w => by rw [fin_o hn1] at w; exact Bool.false_ne_true w.1)]
    have en : p + 1 = n := by omega
    refine xrS_f OffD.rf ?_
    rw [en]
    exact kx_e (by rw [h1]; decide)
theorem x_rpD (hF : Fx R) (hc : IsC D) (h20 : R 2 0 = D + 1) (hC : XC I D co) (hW : WP co) (hT : TXx I tx n) (h1 : I 2 1 = nI 68) (h2 : I 2 2 = nI 0) (hp : p < n) : xrS Z n D I R L (p + 1) (if fin tx n (p + 1) 0 10 = true ∧ (tx (p + 1) - 48 < co 0 2 ∧ (co 0 4).testBit (tx (p + 1) - 48) = false) then (true, p + 2, addD co (tx (p + 1) - 48)) else (false, p + 1, co)) := by
  have hcc := hc
  unfold IsC at hcc
  by_cases hn1 : p + 1 < n
  · have e1 := kx_s (D := D) hT hn1 (x_D1 (Z := Z) (L := L) hF hc h20 hC hW h1 h2 (hT.1.2 _ hn1))
    have hi : ((decide (48 + 0 ≤ tx (p + 1) ∧ tx (p + 1) < 48 + 10) && (decide (tx (p + 1) - 48 < co 0 2) && !(co 0 4).testBit (tx (p + 1) - 48))) = true) ↔ (fin tx n (p + 1) 0 10 = true ∧ (tx (p + 1) - 48 < co 0 2 ∧ (co 0 4).testBit (tx (p + 1) - 48) = false)) := by
      rw [← fin_n hn1, Bool.and_eq_true, Bool.and_eq_true, decide_eq_true_iff, Bool.not_eq_true']
    by_cases hf : fin tx n (p + 1) 0 10 = true ∧ (tx (p + 1) - 48 < co 0 2 ∧ (co 0 4).testBit (tx (p + 1) - 48) = false)
    · rw [if_pos (hi.mpr hf), if_pos (hi.mpr hf)] at e1
      rw [if_pos hf]
      refine xrS_t ((OffD.w (Or.inl rfl)).tr ((OffD.w (Or.inr (by omega))).tr (OffD.w (Or.inl rfl)))) e1 (wI_self _ _ _ _) (XC_addD hC (fun k hk => ?_) ?_ (fun x a b => ?_))
      · rw [wI_o (by omega), wI_k (by omega), wI_o (by omega)]
      · rw [wI_o (by omega), wI_self]
      · funext j
        rw [wI_o (by omega), wI_o (by omega), wI_o (by omega)]
    · rw [if_neg (fun w => hf (hi.mp w)), if_neg (fun w => hf (hi.mp w))] at e1
      rw [if_neg hf]
      exact xrS_f (OffD.w (Or.inl rfl)) e1
  · rw [if_neg (fun w => by rw [fin_o hn1] at w; exact Bool.false_ne_true w.1)]
    have en : p + 1 = n := by omega
    refine xrS_f OffD.rf ?_
    rw [en]
    exact kx_e (by rw [h1]; decide)
def mop (co : Co) (t : Nat) : Bool := if t = 72 then decide (co 0 2 < 4) else if t = 84 then decide (co 0 3 < 6) else if t = 73 then decide (mlb co ≠ 0) else if t = 68 then decide (co 0 4 ≠ 2 ^ co 0 2 - 1) else false
theorem x_mayOpen (hF : Fx R) (hc : IsC D) (h20 : R 2 0 = D + 1) (hC : XC I D co) (hW : WP co) {t : Nat} (ht : t ≤ 255) : cl Z 43 [.ref 2, .int (nI t)] I R L = some (some (.int (nI (mop co t).toNat)), I, R, L) := by
  have h4 := hW.1
  have h6 := hW.2.1
  have hdb := hW.2.2.2.2.1
  have hH : 2 ^ co 0 2 ≤ 2 ^ 4 := Nat.pow_le_pow_right (by decide) h4
  have hH1 := Nat.two_pow_pos (co 0 2)
  have a1 : (nI t = nI 72) = (t = 72) := propext (nI_eq (by omega) (by decide))
  have a3 : (nI t = nI 84) = (t = 84) := propext (nI_eq (by omega) (by decide))
  have a5 : (nI t = nI 73) = (t = 73) := propext (nI_eq (by omega) (by decide))
  have a7 : (nI t = nI 68) = (t = 68) := propext (nI_eq (by omega) (by decide))
  rw [n43]
  simp only [e43_0, e43_1, e43_44, e43_45, e43_48, e43_51, e43_52, e43_55, e43_56, e43_59, e43_60, e43_61, e43_62, e43_65, e43_68, e43_70, e43_73, e43_74, e43_77, e43_78, e43_79, e43_80, e43_83, e43_86, e43_87, e43_88, e43_91, e43_94, e43_95, e43_98, e43_101, e43_104, e43_105, e43_108, e43_109, e43_110, e43_111, bI_s, bL_s, bV_s, rv_s1, nl_i, nl_a, nl_n, w8_0, w8_i, w8_a, w8_l, ct_i, ct_a, b01_0, b01_1, b01_b, kd_2, kdC hc, h20, a1, a3, a5, a7, hC.hs, hC.th, hC.db, s_allHouses hc hC hW.wf, s_anyMayLie hF hc hC hW, nI_leI (show 4 < 2 ^ 31 by decide) (show co 0 2 < 2 ^ 31 by omega), nI_leI (show 6 < 2 ^ 31 by decide) (show co 0 3 < 2 ^ 31 by omega), nI_eq (show co 0 4 < 2 ^ 31 by omega) (show 2 ^ co 0 2 - 1 < 2 ^ 31 by omega)]
  unfold mop
  by_cases c1 : t = 72
  · subst c1
    by_cases q : 4 ≤ co 0 2
    · simp [q, show ¬ co 0 2 < 4 by omega]
    · simp [q, show co 0 2 < 4 by omega]
  · by_cases c2 : t = 84
    · subst c2
      by_cases q : 6 ≤ co 0 3
      · simp [q, show ¬ co 0 3 < 6 by omega]
      · simp [q, show co 0 3 < 6 by omega]
    · by_cases c3 : t = 73
      · subst c3
        simp
      · by_cases c4 : t = 68
        · subst c4
          by_cases q : co 0 4 = 2 ^ co 0 2 - 1
          · simp [q]
          · simp [q]
        · simp [c1, c2, c3, c4]
theorem x_open (hF : Fx R) (hc : IsC D) (h20 : R 2 0 = D + 1) (hC : XC I D co) (hW : WP co) (h1 : I 2 1 = nI 1) {t : Nat} (ht : t ≤ 255) : cl Z 41 [.ref 2, .int (nI t)] I R L = some (some (.int (nI (mop co t).toNat)), wI (wI (wI I 2 2 (I 2 2 + nI 1)) 2 1 (nI t)) 2 2 (nI 0), R, L) := by
  have m := x_mayOpen (Z := Z) (L := L) hF hc h20 (hC.w2 (k := 2) (v := I 2 2 + nI 1) hc) hW ht
  rw [x_takes0 ht]
  simp only [e41_0, e41_1, e41_3, e41_6, e41_7, e41_9, e41_12, e41_13, e41_15, e41_16, e41_19, e41_20, e41_21, e41_22, e41_23, e41_26, e41_27, e41_28, e41_31, e41_32, e41_35, e41_92, e41_93, e41_94, e41_95, e41_97, e41_100, e41_101, e41_104, e41_105, e41_108, e41_109, e41_110, e41_111, e41_112, e41_113, e41_116, e41_119, e41_120, e41_121, e41_122, e41_125, e41_126, e41_127, e41_128, e41_131, e41_132, e41_133, e41_135, e41_138, e41_139, e41_142, e41_145, e41_146, e41_147, e41_150, e41_151, e41_152, e41_153, e41_156, e41_157, e41_158, e41_159, e41_162, e42_0, e42_1, e42_2, e42_5, e42_6, e42_7, e42_10, e42_11, n42, bI_s, bL_s, bV_s, rv_s1, nl_i, nl_a, nl_n, w8_0, w8_i, w8_a, w8_l, ct_i, ct_a, b01_0, b01_1, b01_b, kd_2, wI_app, Nat.reduceEqDiff, if_true, if_false, h1, pn_0_1, pn_0_72, pn_0_73, pn_0_84, pn_0_87, pn_1_0, pn_1_72, pn_1_73, pn_1_84, pn_1_87, pn_68_0, pn_68_1, pn_68_72, pn_68_73, pn_68_84, pn_68_87, pn_72_0, pn_72_1, pn_72_73, pn_72_84, pn_72_87, pn_73_0, pn_73_1, pn_73_72, pn_73_84, pn_73_87, pn_84_0, pn_84_1, pn_84_72, pn_84_73, pn_84_87, pn_87_0, pn_87_1, pn_87_72, pn_87_73, pn_87_84, pn_2_1, pn_3_1, pn_3_2, pn_4_1, pn_4_2, pn_4_3, pn_2_4, pn_3_4, pn_1_4, m]
theorem xrS_pre {I1 : ab_I} {q : Nat} {r : Bool × Nat × Co} (h : kx Z n D p I R L = kx Z n D q I1 R L) (o : OffD I I1 D) (s : xrS Z n D I1 R L q r) : xrS Z n D I R L p r := by
  obtain ⟨J, oJ, s⟩ := s
  refine ⟨J, o.tr oJ, ?_⟩
  rw [h]
  exact s
theorem x_part (hF : Fx R) (hc : IsC D) (h20 : R 2 0 = D + 1) (hC : XC I D co) (hW : WP co) (hT : TXx I tx n) (h1 : I 2 1 = nI 1) (hp : p < n) : xrS Z n D I R L p (prt tx n p co) := by
  have ht := hT.1.2 p hp
  have e := kx_s (D := D) hT hp (x_open (Z := Z) (L := L) hF hc h20 hC hW h1 ht)
  have o1 : OffD I (wI (wI (wI I 2 2 (I 2 2 + nI 1)) 2 1 (nI (tx p))) 2 2 (nI 0)) D := (OffD.w (Or.inl rfl)).tr ((OffD.w (Or.inl rfl)).tr (OffD.w (Or.inl rfl)))
  have hC1 : XC (wI (wI (wI I 2 2 (I 2 2 + nI 1)) 2 1 (nI (tx p))) 2 2 (nI 0)) D co := ((hC.w2 hc).w2 hc).w2 hc
  have hT1 := hT.off hc o1
  have j1 : wI (wI (wI I 2 2 (I 2 2 + nI 1)) 2 1 (nI (tx p))) 2 2 (nI 0) 2 1 = nI (tx p) := by rw [wI_k (by decide), wI_self]
  have j2 : wI (wI (wI I 2 2 (I 2 2 + nI 1)) 2 1 (nI (tx p))) 2 2 (nI 0) 2 2 = nI 0 := wI_self _ _ _ _
  unfold prt
  unfold mop at e
  by_cases c1 : tx p = 72
  · rw [if_pos c1] at e
    by_cases q : co 0 2 < 4
    · rw [decide_eq_true q, if_pos rfl] at e
      rw [if_pos ⟨c1, q⟩]
      exact xrS_pre e o1 (x_rpH hF hc h20 hC1 hW hT1 (by rw [j1, c1]) j2 q hp)
    · rw [decide_eq_false q, if_neg (by decide)] at e
      rw [if_neg (fun w => q w.2), if_neg (fun w => by omega), if_neg (fun w => by omega), if_neg (fun w => by omega)]
      exact xrS_f o1 e
  · rw [if_neg c1] at e
    rw [if_neg (fun w => c1 w.1)]
    by_cases c2 : tx p = 84
    · rw [if_pos c2] at e
      by_cases q : co 0 3 < 6
      · rw [decide_eq_true q, if_pos rfl] at e
        rw [if_pos ⟨c2, q⟩]
        exact xrS_pre e o1 (x_rpT hF hc h20 hC1 hW hT1 (by rw [j1, c2]) j2 q hp)
      · rw [decide_eq_false q, if_neg (by decide)] at e
        rw [if_neg (fun w => q w.2), if_neg (fun w => by omega), if_neg (fun w => by omega)]
        exact xrS_f o1 e
    · rw [if_neg c2] at e
      rw [if_neg (fun w => c2 w.1)]
      by_cases c3 : tx p = 73
      · rw [if_pos c3] at e
        by_cases q : mlb co ≠ 0
        · rw [decide_eq_true q, if_pos rfl] at e
          rw [if_pos ⟨c3, q⟩]
          exact xrS_pre e o1 (x_rpI hF hc h20 hC1 hW hT1 (by rw [j1, c3]) j2 hp)
        · rw [decide_eq_false q, if_neg (by decide)] at e
          rw [if_neg (fun w => q w.2), if_neg (fun w => by omega)]
          exact xrS_f o1 e
      · rw [if_neg c3] at e
        rw [if_neg (fun w => c3 w.1)]
        by_cases c4 : tx p = 68
        · rw [if_pos c4] at e
          by_cases q : co 0 4 ≠ 2 ^ co 0 2 - 1
          · rw [decide_eq_true q, if_pos rfl] at e
            rw [if_pos ⟨c4, q⟩]
            exact xrS_pre e o1 (x_rpD hF hc h20 hC1 hW hT1 (by rw [j1, c4]) j2 hp)
          · rw [decide_eq_false q, if_neg (by decide)] at e
            rw [if_neg (fun w => q w.2)]
            exact xrS_f o1 e
        · rw [if_neg c4, if_neg (by decide)] at e
          rw [if_neg (fun w => c4 w.1)]
          exact xrS_f o1 e
end XTEXT
